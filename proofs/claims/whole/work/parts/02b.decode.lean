theorem dX7_lay_7 : decode cX7_lay 7 = .ok (.iconst (-1), 1) := by decide +kernel
theorem dX7_lay_8 : decode cX7_lay 8 = .ok (.ireturn, 1) := by decide +kernel
theorem dX7_lay_9 : decode cX7_lay 9 = .ok (.aload_n 0, 1) := by decide +kernel
theorem dX7_lay_10 : decode cX7_lay 10 = .ok (.getfield 11, 3) := by decide +kernel
theorem dX7_lay_13 : decode cX7_lay 13 = .ok (.iload_n 1, 1) := by decide +kernel
theorem dX7_lay_14 : decode cX7_lay 14 = .ok (.aaload, 1) := by decide +kernel
theorem dX7_lay_15 : decode cX7_lay 15 = .ok (.astore 4, 2) := by decide +kernel
theorem dX7_lay_17 : decode cX7_lay 17 = .ok (.aload 4, 2) := by decide +kernel
theorem dX7_lay_19 : decode cX7_lay 19 = .ok (.invokevirtual 87, 3) := by decide +kernel
theorem dX7_lay_22 : decode cX7_lay 22 = .ok (.ifCond .eq 9, 3) := by decide +kernel
theorem dX7_lay_25 : decode cX7_lay 25 = .ok (.aload_n 0, 1) := by decide +kernel
theorem dX7_lay_26 : decode cX7_lay 26 = .ok (.iconst 1, 1) := by decide +kernel
theorem dX7_lay_27 : decode cX7_lay 27 = .ok (.invokevirtual 79, 3) := by decide +kernel
theorem dX7_lay_30 : decode cX7_lay 30 = .ok (.ireturn, 1) := by decide +kernel
theorem dX7_lay_31 : decode cX7_lay 31 = .ok (.iload_n 2, 1) := by decide +kernel
theorem dX7_lay_32 : decode cX7_lay 32 = .ok (.ifCond .lt 12, 3) := by decide +kernel
theorem dX7_lay_35 : decode cX7_lay 35 = .ok (.iload_n 2, 1) := by decide +kernel
theorem dX7_lay_36 : decode cX7_lay 36 = .ok (.aload 4, 2) := by decide +kernel
theorem dX7_lay_38 : decode cX7_lay 38 = .ok (.getfield 91, 3) := by decide +kernel
theorem dX7_lay_41 : decode cX7_lay 41 = .ok (.if_icmp .lt 9, 3) := by decide +kernel
theorem dX7_lay_44 : decode cX7_lay 44 = .ok (.aload_n 0, 1) := by decide +kernel
theorem dX7_lay_45 : decode cX7_lay 45 = .ok (.iconst 2, 1) := by decide +kernel
theorem dX7_lay_46 : decode cX7_lay 46 = .ok (.invokevirtual 79, 3) := by decide +kernel
theorem dX7_lay_49 : decode cX7_lay 49 = .ok (.ireturn, 1) := by decide +kernel
theorem dX7_lay_50 : decode cX7_lay 50 = .ok (.aload_n 0, 1) := by decide +kernel
theorem dX7_lay_51 : decode cX7_lay 51 = .ok (.aload 4, 2) := by decide +kernel
theorem dX7_lay_53 : decode cX7_lay 53 = .ok (.getfield 95, 3) := by decide +kernel
theorem dX7_lay_56 : decode cX7_lay 56 = .ok (.iload_n 2, 1) := by decide +kernel
theorem dX7_lay_57 : decode cX7_lay 57 = .ok (.iaload, 1) := by decide +kernel
theorem dX7_lay_58 : decode cX7_lay 58 = .ok (.putfield 98, 3) := by decide +kernel
theorem dX7_lay_61 : decode cX7_lay 61 = .ok (.aload 4, 2) := by decide +kernel
theorem dX7_lay_63 : decode cX7_lay 63 = .ok (.getfield 95, 3) := by decide +kernel
theorem dX7_lay_66 : decode cX7_lay 66 = .ok (.iload_n 2, 1) := by decide +kernel
theorem dX7_lay_67 : decode cX7_lay 67 = .ok (.iload_n 3, 1) := by decide +kernel
theorem dX7_lay_68 : decode cX7_lay 68 = .ok (.iastore, 1) := by decide +kernel
theorem dX7_lay_69 : decode cX7_lay 69 = .ok (.iconst 1, 1) := by decide +kernel
theorem dX7_lay_70 : decode cX7_lay 70 = .ok (.ireturn, 1) := by decide +kernel
theorem dX7_tear_0 : decode cX7_tear 0 = .ok (.iload_n 1, 1) := by decide +kernel
theorem dX7_tear_1 : decode cX7_tear 1 = .ok (.invokestatic 75, 3) := by decide +kernel
theorem dX7_tear_4 : decode cX7_tear 4 = .ok (.ifCond .eq 5, 3) := by decide +kernel
theorem dX7_tear_7 : decode cX7_tear 7 = .ok (.iconst (-1), 1) := by decide +kernel
theorem dX7_tear_8 : decode cX7_tear 8 = .ok (.ireturn, 1) := by decide +kernel
theorem dX7_tear_9 : decode cX7_tear 9 = .ok (.aload_n 0, 1) := by decide +kernel
theorem dX7_tear_10 : decode cX7_tear 10 = .ok (.getfield 11, 3) := by decide +kernel
theorem dX7_tear_13 : decode cX7_tear 13 = .ok (.iload_n 1, 1) := by decide +kernel
theorem dX7_tear_14 : decode cX7_tear 14 = .ok (.aaload, 1) := by decide +kernel
theorem dX7_tear_15 : decode cX7_tear 15 = .ok (.invokevirtual 87, 3) := by decide +kernel
theorem dX7_tear_18 : decode cX7_tear 18 = .ok (.ifCond .eq 9, 3) := by decide +kernel
theorem dX7_tear_21 : decode cX7_tear 21 = .ok (.aload_n 0, 1) := by decide +kernel
theorem dX7_tear_22 : decode cX7_tear 22 = .ok (.iconst 1, 1) := by decide +kernel
theorem dX7_tear_23 : decode cX7_tear 23 = .ok (.invokevirtual 79, 3) := by decide +kernel
theorem dX7_tear_26 : decode cX7_tear 26 = .ok (.ireturn, 1) := by decide +kernel
theorem dX7_tear_27 : decode cX7_tear 27 = .ok (.aload_n 0, 1) := by decide +kernel
theorem dX7_tear_28 : decode cX7_tear 28 = .ok (.getfield 11, 3) := by decide +kernel
theorem dX7_tear_31 : decode cX7_tear 31 = .ok (.iload_n 1, 1) := by decide +kernel
theorem dX7_tear_32 : decode cX7_tear 32 = .ok (.aaload, 1) := by decide +kernel
theorem dX7_tear_33 : decode cX7_tear 33 = .ok (.invokevirtual 101, 3) := by decide +kernel
theorem dX7_tear_36 : decode cX7_tear 36 = .ok (.iconst 1, 1) := by decide +kernel
theorem dX7_tear_37 : decode cX7_tear 37 = .ok (.ireturn, 1) := by decide +kernel
theorem dX7_copy_0 : decode cX7_copy 0 = .ok (.iload_n 1, 1) := by decide +kernel
theorem dX7_copy_1 : decode cX7_copy 1 = .ok (.invokestatic 75, 3) := by decide +kernel
theorem dX7_copy_4 : decode cX7_copy 4 = .ok (.ifCond .ne 10, 3) := by decide +kernel
theorem dX7_copy_7 : decode cX7_copy 7 = .ok (.iload_n 3, 1) := by decide +kernel
theorem dX7_copy_8 : decode cX7_copy 8 = .ok (.invokestatic 75, 3) := by decide +kernel
theorem dX7_copy_11 : decode cX7_copy 11 = .ok (.ifCond .eq 5, 3) := by decide +kernel
theorem dX7_copy_14 : decode cX7_copy 14 = .ok (.iconst (-1), 1) := by decide +kernel
theorem dX7_copy_15 : decode cX7_copy 15 = .ok (.ireturn, 1) := by decide +kernel
theorem dX7_copy_16 : decode cX7_copy 16 = .ok (.iload 5, 2) := by decide +kernel
theorem dX7_copy_18 : decode cX7_copy 18 = .ok (.ifCond .ge 9, 3) := by decide +kernel
theorem dX7_copy_21 : decode cX7_copy 21 = .ok (.aload_n 0, 1) := by decide +kernel
theorem dX7_copy_22 : decode cX7_copy 22 = .ok (.iconst 5, 1) := by decide +kernel
theorem dX7_copy_23 : decode cX7_copy 23 = .ok (.invokevirtual 79, 3) := by decide +kernel
theorem dX7_copy_26 : decode cX7_copy 26 = .ok (.ireturn, 1) := by decide +kernel
theorem dX7_copy_27 : decode cX7_copy 27 = .ok (.aload_n 0, 1) := by decide +kernel
theorem dX7_copy_28 : decode cX7_copy 28 = .ok (.getfield 11, 3) := by decide +kernel
theorem dX7_copy_31 : decode cX7_copy 31 = .ok (.iload_n 1, 1) := by decide +kernel
theorem dX7_copy_32 : decode cX7_copy 32 = .ok (.aaload, 1) := by decide +kernel
theorem dX7_copy_33 : decode cX7_copy 33 = .ok (.astore 6, 2) := by decide +kernel
theorem dX7_copy_35 : decode cX7_copy 35 = .ok (.aload_n 0, 1) := by decide +kernel
theorem dX7_copy_36 : decode cX7_copy 36 = .ok (.getfield 11, 3) := by decide +kernel
theorem dX7_copy_39 : decode cX7_copy 39 = .ok (.iload_n 3, 1) := by decide +kernel
theorem dX7_copy_40 : decode cX7_copy 40 = .ok (.aaload, 1) := by decide +kernel
theorem dX7_copy_41 : decode cX7_copy 41 = .ok (.astore 7, 2) := by decide +kernel
theorem dX7_copy_43 : decode cX7_copy 43 = .ok (.aload 6, 2) := by decide +kernel
theorem dX7_copy_45 : decode cX7_copy 45 = .ok (.invokevirtual 87, 3) := by decide +kernel
theorem dX7_copy_48 : decode cX7_copy 48 = .ok (.ifCond .ne 11, 3) := by decide +kernel
theorem dX7_copy_51 : decode cX7_copy 51 = .ok (.aload 7, 2) := by decide +kernel
theorem dX7_copy_53 : decode cX7_copy 53 = .ok (.invokevirtual 87, 3) := by decide +kernel
theorem dX7_copy_56 : decode cX7_copy 56 = .ok (.ifCond .eq 9, 3) := by decide +kernel
theorem dX7_copy_59 : decode cX7_copy 59 = .ok (.aload_n 0, 1) := by decide +kernel
theorem dX7_copy_60 : decode cX7_copy 60 = .ok (.iconst 1, 1) := by decide +kernel
theorem dX7_copy_61 : decode cX7_copy 61 = .ok (.invokevirtual 79, 3) := by decide +kernel
theorem dX7_copy_64 : decode cX7_copy 64 = .ok (.ireturn, 1) := by decide +kernel
theorem dX7_copy_65 : decode cX7_copy 65 = .ok (.aload 6, 2) := by decide +kernel
theorem dX7_copy_67 : decode cX7_copy 67 = .ok (.iload_n 2, 1) := by decide +kernel
theorem dX7_copy_68 : decode cX7_copy 68 = .ok (.iload 5, 2) := by decide +kernel
theorem dX7_copy_70 : decode cX7_copy 70 = .ok (.invokevirtual 104, 3) := by decide +kernel
theorem dX7_copy_73 : decode cX7_copy 73 = .ok (.ifCond .eq 15, 3) := by decide +kernel
theorem dX7_copy_76 : decode cX7_copy 76 = .ok (.aload 7, 2) := by decide +kernel
theorem dX7_copy_78 : decode cX7_copy 78 = .ok (.iload 4, 2) := by decide +kernel
theorem dX7_copy_80 : decode cX7_copy 80 = .ok (.iload 5, 2) := by decide +kernel
theorem dX7_copy_82 : decode cX7_copy 82 = .ok (.invokevirtual 104, 3) := by decide +kernel
theorem dX7_copy_85 : decode cX7_copy 85 = .ok (.ifCond .ne 9, 3) := by decide +kernel
theorem dX7_copy_88 : decode cX7_copy 88 = .ok (.aload_n 0, 1) := by decide +kernel
theorem dX7_copy_89 : decode cX7_copy 89 = .ok (.iconst 2, 1) := by decide +kernel
theorem dX7_copy_90 : decode cX7_copy 90 = .ok (.invokevirtual 79, 3) := by decide +kernel
theorem dX7_copy_93 : decode cX7_copy 93 = .ok (.ireturn, 1) := by decide +kernel
theorem dX7_copy_94 : decode cX7_copy 94 = .ok (.aload 6, 2) := by decide +kernel
theorem dX7_copy_96 : decode cX7_copy 96 = .ok (.getfield 95, 3) := by decide +kernel
theorem dX7_copy_99 : decode cX7_copy 99 = .ok (.iload_n 2, 1) := by decide +kernel
theorem dX7_copy_100 : decode cX7_copy 100 = .ok (.aload 7, 2) := by decide +kernel
theorem dX7_copy_102 : decode cX7_copy 102 = .ok (.getfield 95, 3) := by decide +kernel
theorem dX7_copy_105 : decode cX7_copy 105 = .ok (.iload 4, 2) := by decide +kernel
theorem dX7_copy_107 : decode cX7_copy 107 = .ok (.iload 5, 2) := by decide +kernel
theorem dX7_copy_109 : decode cX7_copy 109 = .ok (.invokestatic 108, 3) := by decide +kernel
theorem dX7_copy_112 : decode cX7_copy 112 = .ok (.iconst 1, 1) := by decide +kernel
theorem dX7_copy_113 : decode cX7_copy 113 = .ok (.ireturn, 1) := by decide +kernel
theorem dX7_ground_0 : decode cX7_ground 0 = .ok (.iload_n 1, 1) := by decide +kernel
theorem dX7_ground_1 : decode cX7_ground 1 = .ok (.invokestatic 114, 3) := by decide +kernel
theorem dX7_ground_4 : decode cX7_ground 4 = .ok (.ifCond .ne 10, 3) := by decide +kernel
theorem dX7_ground_7 : decode cX7_ground 7 = .ok (.iload_n 2, 1) := by decide +kernel
theorem dX7_ground_8 : decode cX7_ground 8 = .ok (.invokestatic 75, 3) := by decide +kernel
theorem dX7_ground_11 : decode cX7_ground 11 = .ok (.ifCond .eq 5, 3) := by decide +kernel
theorem dX7_ground_14 : decode cX7_ground 14 = .ok (.iconst (-1), 1) := by decide +kernel
theorem dX7_ground_15 : decode cX7_ground 15 = .ok (.ireturn, 1) := by decide +kernel
theorem dX7_ground_16 : decode cX7_ground 16 = .ok (.aload_n 0, 1) := by decide +kernel
theorem dX7_ground_17 : decode cX7_ground 17 = .ok (.getfield 11, 3) := by decide +kernel
theorem dX7_ground_20 : decode cX7_ground 20 = .ok (.iload_n 2, 1) := by decide +kernel
theorem dX7_ground_21 : decode cX7_ground 21 = .ok (.aaload, 1) := by decide +kernel
theorem dX7_ground_22 : decode cX7_ground 22 = .ok (.astore_n 3, 1) := by decide +kernel
theorem dX7_ground_23 : decode cX7_ground 23 = .ok (.aload_n 3, 1) := by decide +kernel
theorem dX7_ground_24 : decode cX7_ground 24 = .ok (.invokevirtual 87, 3) := by decide +kernel
theorem dX7_ground_27 : decode cX7_ground 27 = .ok (.ifCond .eq 9, 3) := by decide +kernel
theorem dX7_ground_30 : decode cX7_ground 30 = .ok (.aload_n 0, 1) := by decide +kernel
theorem dX7_ground_31 : decode cX7_ground 31 = .ok (.iconst 1, 1) := by decide +kernel
theorem dX7_ground_32 : decode cX7_ground 32 = .ok (.invokevirtual 79, 3) := by decide +kernel
theorem dX7_ground_35 : decode cX7_ground 35 = .ok (.ireturn, 1) := by decide +kernel
theorem dX7_ground_36 : decode cX7_ground 36 = .ok (.aload_n 3, 1) := by decide +kernel
theorem dX7_ground_37 : decode cX7_ground 37 = .ok (.bipush 10, 2) := by decide +kernel
theorem dX7_ground_39 : decode cX7_ground 39 = .ok (.iconst 4, 1) := by decide +kernel
theorem dX7_ground_40 : decode cX7_ground 40 = .ok (.invokevirtual 117, 3) := by decide +kernel
theorem dX7_ground_43 : decode cX7_ground 43 = .ok (.ifCond .eq 9, 3) := by decide +kernel
theorem dX7_ground_46 : decode cX7_ground 46 = .ok (.aload_n 0, 1) := by decide +kernel
theorem dX7_ground_47 : decode cX7_ground 47 = .ok (.iconst 2, 1) := by decide +kernel
theorem dX7_ground_48 : decode cX7_ground 48 = .ok (.invokevirtual 79, 3) := by decide +kernel
theorem dX7_ground_51 : decode cX7_ground 51 = .ok (.ireturn, 1) := by decide +kernel
theorem dX7_ground_52 : decode cX7_ground 52 = .ok (.aload_n 3, 1) := by decide +kernel
theorem dX7_ground_53 : decode cX7_ground 53 = .ok (.bipush 10, 2) := by decide +kernel
theorem dX7_ground_55 : decode cX7_ground 55 = .ok (.invokevirtual 120, 3) := by decide +kernel
theorem dX7_ground_58 : decode cX7_ground 58 = .ok (.ifCond .eq 9, 3) := by decide +kernel
theorem dX7_ground_61 : decode cX7_ground 61 = .ok (.aload_n 0, 1) := by decide +kernel
theorem dX7_ground_62 : decode cX7_ground 62 = .ok (.iconst 4, 1) := by decide +kernel
theorem dX7_ground_63 : decode cX7_ground 63 = .ok (.invokevirtual 79, 3) := by decide +kernel
theorem dX7_ground_66 : decode cX7_ground 66 = .ok (.ireturn, 1) := by decide +kernel
theorem dX7_ground_67 : decode cX7_ground 67 = .ok (.aload_n 0, 1) := by decide +kernel
theorem dX7_ground_68 : decode cX7_ground 68 = .ok (.getfield 24, 3) := by decide +kernel
theorem dX7_ground_71 : decode cX7_ground 71 = .ok (.aload_n 3, 1) := by decide +kernel
theorem dX7_ground_72 : decode cX7_ground 72 = .ok (.getfield 95, 3) := by decide +kernel
theorem dX7_ground_75 : decode cX7_ground 75 = .ok (.invokevirtual 123, 3) := by decide +kernel
theorem dX7_ground_78 : decode cX7_ground 78 = .ok (.aload_n 0, 1) := by decide +kernel
theorem dX7_ground_79 : decode cX7_ground 79 = .ok (.getfield 17, 3) := by decide +kernel
theorem dX7_ground_82 : decode cX7_ground 82 = .ok (.iload_n 1, 1) := by decide +kernel
theorem dX7_ground_83 : decode cX7_ground 83 = .ok (.aaload, 1) := by decide +kernel
theorem dX7_ground_84 : decode cX7_ground 84 = .ok (.aload_n 0, 1) := by decide +kernel
theorem dX7_ground_85 : decode cX7_ground 85 = .ok (.getfield 24, 3) := by decide +kernel
theorem dX7_ground_88 : decode cX7_ground 88 = .ok (.aload_n 0, 1) := by decide +kernel
theorem dX7_ground_89 : decode cX7_ground 89 = .ok (.getfield 28, 3) := by decide +kernel
theorem dX7_ground_92 : decode cX7_ground 92 = .ok (.invokevirtual 127, 3) := by decide +kernel
theorem dX7_ground_95 : decode cX7_ground 95 = .ok (.ireturn, 1) := by decide +kernel
theorem dX7_drop_0 : decode cX7_drop 0 = .ok (.aload_n 0, 1) := by decide +kernel
theorem dX7_drop_1 : decode cX7_drop 1 = .ok (.iload_n 1, 1) := by decide +kernel
theorem dX7_drop_2 : decode cX7_drop 2 = .ok (.invokevirtual 131, 3) := by decide +kernel
theorem dX7_drop_5 : decode cX7_drop 5 = .ok (.istore_n 2, 1) := by decide +kernel
theorem dX7_drop_6 : decode cX7_drop 6 = .ok (.iload_n 2, 1) := by decide +kernel
theorem dX7_drop_7 : decode cX7_drop 7 = .ok (.ifCond .eq 5, 3) := by decide +kernel
theorem dX7_drop_10 : decode cX7_drop 10 = .ok (.iload_n 2, 1) := by decide +kernel
theorem dX7_drop_11 : decode cX7_drop 11 = .ok (.ireturn, 1) := by decide +kernel
theorem dX7_drop_12 : decode cX7_drop 12 = .ok (.aload_n 0, 1) := by decide +kernel
theorem dX7_drop_13 : decode cX7_drop 13 = .ok (.getfield 17, 3) := by decide +kernel
theorem dX7_drop_16 : decode cX7_drop 16 = .ok (.iload_n 1, 1) := by decide +kernel
theorem dX7_drop_17 : decode cX7_drop 17 = .ok (.aaload, 1) := by decide +kernel
theorem dX7_drop_18 : decode cX7_drop 18 = .ok (.iconst 0, 1) := by decide +kernel
theorem dX7_drop_19 : decode cX7_drop 19 = .ok (.putfield 134, 3) := by decide +kernel
theorem dX7_drop_22 : decode cX7_drop 22 = .ok (.iconst 1, 1) := by decide +kernel
theorem dX7_drop_23 : decode cX7_drop 23 = .ok (.ireturn, 1) := by decide +kernel
theorem dX7_table_0 : decode cX7_table 0 = .ok (.iload_n 2, 1) := by decide +kernel
theorem dX7_table_1 : decode cX7_table 1 = .ok (.invokestatic 138, 3) := by decide +kernel
theorem dX7_table_4 : decode cX7_table 4 = .ok (.ifCond .ne 10, 3) := by decide +kernel
theorem dX7_table_7 : decode cX7_table 7 = .ok (.iload_n 3, 1) := by decide +kernel
theorem dX7_table_8 : decode cX7_table 8 = .ok (.invokestatic 138, 3) := by decide +kernel
theorem dX7_table_11 : decode cX7_table 11 = .ok (.ifCond .eq 5, 3) := by decide +kernel
theorem dX7_table_14 : decode cX7_table 14 = .ok (.iconst (-1), 1) := by decide +kernel
theorem dX7_table_15 : decode cX7_table 15 = .ok (.ireturn, 1) := by decide +kernel
theorem dX7_table_16 : decode cX7_table 16 = .ok (.aload_n 0, 1) := by decide +kernel
theorem dX7_table_17 : decode cX7_table 17 = .ok (.iload_n 1, 1) := by decide +kernel
theorem dX7_table_18 : decode cX7_table 18 = .ok (.invokevirtual 131, 3) := by decide +kernel
theorem dX7_table_21 : decode cX7_table 21 = .ok (.istore 4, 2) := by decide +kernel
theorem dX7_table_23 : decode cX7_table 23 = .ok (.iload 4, 2) := by decide +kernel
theorem dX7_table_25 : decode cX7_table 25 = .ok (.ifCond .eq 6, 3) := by decide +kernel
theorem dX7_table_28 : decode cX7_table 28 = .ok (.iload 4, 2) := by decide +kernel
theorem dX7_table_30 : decode cX7_table 30 = .ok (.ireturn, 1) := by decide +kernel
theorem dX7_table_31 : decode cX7_table 31 = .ok (.aload_n 0, 1) := by decide +kernel
theorem dX7_table_32 : decode cX7_table 32 = .ok (.aload_n 0, 1) := by decide +kernel
theorem dX7_table_33 : decode cX7_table 33 = .ok (.getfield 17, 3) := by decide +kernel
theorem dX7_table_36 : decode cX7_table 36 = .ok (.iload_n 1, 1) := by decide +kernel
theorem dX7_table_37 : decode cX7_table 37 = .ok (.aaload, 1) := by decide +kernel
theorem dX7_table_38 : decode cX7_table 38 = .ok (.getfield 141, 3) := by decide +kernel
theorem dX7_table_41 : decode cX7_table 41 = .ok (.getfield 144, 3) := by decide +kernel
theorem dX7_table_44 : decode cX7_table 44 = .ok (.iconst 4, 1) := by decide +kernel
theorem dX7_table_45 : decode cX7_table 45 = .ok (.iload_n 2, 1) := by decide +kernel
theorem dX7_table_46 : decode cX7_table 46 = .ok (.imul, 1) := by decide +kernel
theorem dX7_table_47 : decode cX7_table 47 = .ok (.iload_n 3, 1) := by decide +kernel
theorem dX7_table_48 : decode cX7_table 48 = .ok (.iadd, 1) := by decide +kernel
theorem dX7_table_49 : decode cX7_table 49 = .ok (.laload, 1) := by decide +kernel
theorem dX7_table_50 : decode cX7_table 50 = .ok (.l2i, 1) := by decide +kernel
theorem dX7_table_51 : decode cX7_table 51 = .ok (.putfield 98, 3) := by decide +kernel
theorem dX7_table_54 : decode cX7_table 54 = .ok (.iconst 1, 1) := by decide +kernel
theorem dX7_table_55 : decode cX7_table 55 = .ok (.ireturn, 1) := by decide +kernel
theorem dX7_told_0 : decode cX7_told 0 = .ok (.iload_n 2, 1) := by decide +kernel
theorem dX7_told_1 : decode cX7_told 1 = .ok (.ifCond .lt 9, 3) := by decide +kernel
theorem dX7_told_4 : decode cX7_told 4 = .ok (.iload_n 2, 1) := by decide +kernel
theorem dX7_told_5 : decode cX7_told 5 = .ok (.bipush 10, 2) := by decide +kernel
theorem dX7_told_7 : decode cX7_told 7 = .ok (.if_icmp .lt 5, 3) := by decide +kernel
theorem dX7_told_10 : decode cX7_told 10 = .ok (.iconst (-1), 1) := by decide +kernel
theorem dX7_told_11 : decode cX7_told 11 = .ok (.ireturn, 1) := by decide +kernel
theorem dX7_told_12 : decode cX7_told 12 = .ok (.aload_n 0, 1) := by decide +kernel
theorem dX7_told_13 : decode cX7_told 13 = .ok (.iload_n 1, 1) := by decide +kernel
theorem dX7_told_14 : decode cX7_told 14 = .ok (.invokevirtual 131, 3) := by decide +kernel
theorem dX7_told_17 : decode cX7_told 17 = .ok (.istore_n 3, 1) := by decide +kernel
theorem dX7_told_18 : decode cX7_told 18 = .ok (.iload_n 3, 1) := by decide +kernel
theorem dX7_told_19 : decode cX7_told 19 = .ok (.ifCond .eq 5, 3) := by decide +kernel
theorem dX7_told_22 : decode cX7_told 22 = .ok (.iload_n 3, 1) := by decide +kernel
theorem dX7_told_23 : decode cX7_told 23 = .ok (.ireturn, 1) := by decide +kernel
theorem dX7_told_24 : decode cX7_told 24 = .ok (.aload_n 0, 1) := by decide +kernel
theorem dX7_told_25 : decode cX7_told 25 = .ok (.aload_n 0, 1) := by decide +kernel
theorem dX7_told_26 : decode cX7_told 26 = .ok (.getfield 17, 3) := by decide +kernel
theorem dX7_told_29 : decode cX7_told 29 = .ok (.iload_n 1, 1) := by decide +kernel
theorem dX7_told_30 : decode cX7_told 30 = .ok (.aaload, 1) := by decide +kernel
theorem dX7_told_31 : decode cX7_told 31 = .ok (.getfield 147, 3) := by decide +kernel
theorem dX7_told_34 : decode cX7_told 34 = .ok (.iload_n 2, 1) := by decide +kernel
theorem dX7_told_35 : decode cX7_told 35 = .ok (.iaload, 1) := by decide +kernel
theorem dX7_told_36 : decode cX7_told 36 = .ok (.putfield 98, 3) := by decide +kernel
theorem dX7_told_39 : decode cX7_told 39 = .ok (.iconst 1, 1) := by decide +kernel
theorem dX7_told_40 : decode cX7_told 40 = .ok (.ireturn, 1) := by decide +kernel
theorem dX7_mark_0 : decode cX7_mark 0 = .ok (.iload_n 2, 1) := by decide +kernel
theorem dX7_mark_1 : decode cX7_mark 1 = .ok (.iconst 1, 1) := by decide +kernel
theorem dX7_mark_2 : decode cX7_mark 2 = .ok (.if_icmp .lt 8, 3) := by decide +kernel
theorem dX7_mark_5 : decode cX7_mark 5 = .ok (.iload_n 2, 1) := by decide +kernel
theorem dX7_mark_6 : decode cX7_mark 6 = .ok (.iconst 4, 1) := by decide +kernel
theorem dX7_mark_7 : decode cX7_mark 7 = .ok (.if_icmp .le 5, 3) := by decide +kernel
theorem dX7_mark_10 : decode cX7_mark 10 = .ok (.iconst (-1), 1) := by decide +kernel
theorem dX7_mark_11 : decode cX7_mark 11 = .ok (.ireturn, 1) := by decide +kernel
theorem dX7_mark_12 : decode cX7_mark 12 = .ok (.aload_n 0, 1) := by decide +kernel
theorem dX7_mark_13 : decode cX7_mark 13 = .ok (.iload_n 1, 1) := by decide +kernel
theorem dX7_mark_14 : decode cX7_mark 14 = .ok (.invokevirtual 131, 3) := by decide +kernel
theorem dX7_mark_17 : decode cX7_mark 17 = .ok (.istore_n 3, 1) := by decide +kernel
theorem dX7_mark_18 : decode cX7_mark 18 = .ok (.iload_n 3, 1) := by decide +kernel
theorem dX7_mark_19 : decode cX7_mark 19 = .ok (.ifCond .eq 5, 3) := by decide +kernel
theorem dX7_mark_22 : decode cX7_mark 22 = .ok (.iload_n 3, 1) := by decide +kernel
theorem dX7_mark_23 : decode cX7_mark 23 = .ok (.ireturn, 1) := by decide +kernel
theorem dX7_mark_24 : decode cX7_mark 24 = .ok (.aload_n 0, 1) := by decide +kernel
theorem dX7_mark_25 : decode cX7_mark 25 = .ok (.getfield 17, 3) := by decide +kernel
theorem dX7_mark_28 : decode cX7_mark 28 = .ok (.iload_n 1, 1) := by decide +kernel
theorem dX7_mark_29 : decode cX7_mark 29 = .ok (.aaload, 1) := by decide +kernel
theorem dX7_mark_30 : decode cX7_mark 30 = .ok (.astore 4, 2) := by decide +kernel
theorem dX7_mark_32 : decode cX7_mark 32 = .ok (.aload 4, 2) := by decide +kernel
theorem dX7_mark_34 : decode cX7_mark 34 = .ok (.iload_n 2, 1) := by decide +kernel
theorem dX7_mark_35 : decode cX7_mark 35 = .ok (.invokevirtual 150, 3) := by decide +kernel
theorem dX7_mark_38 : decode cX7_mark 38 = .ok (.ifCond .ne 9, 3) := by decide +kernel
theorem dX7_mark_41 : decode cX7_mark 41 = .ok (.aload_n 0, 1) := by decide +kernel
theorem dX7_mark_42 : decode cX7_mark 42 = .ok (.iconst 3, 1) := by decide +kernel
theorem dX7_mark_43 : decode cX7_mark 43 = .ok (.invokevirtual 79, 3) := by decide +kernel
theorem dX7_mark_46 : decode cX7_mark 46 = .ok (.ireturn, 1) := by decide +kernel
theorem dX7_mark_47 : decode cX7_mark 47 = .ok (.iload_n 2, 1) := by decide +kernel
theorem dX7_mark_48 : decode cX7_mark 48 = .ok (.iconst 1, 1) := by decide +kernel
theorem dX7_mark_49 : decode cX7_mark 49 = .ok (.if_icmp .ne 9, 3) := by decide +kernel
theorem dX7_mark_52 : decode cX7_mark 52 = .ok (.aload 4, 2) := by decide +kernel
theorem dX7_mark_54 : decode cX7_mark 54 = .ok (.invokevirtual 153, 3) := by decide +kernel
theorem dX7_mark_57 : decode cX7_mark 57 = .ok (.ireturn, 1) := by decide +kernel
theorem dX7_mark_58 : decode cX7_mark 58 = .ok (.iload_n 2, 1) := by decide +kernel
theorem dX7_mark_59 : decode cX7_mark 59 = .ok (.iconst 2, 1) := by decide +kernel
theorem dX7_mark_60 : decode cX7_mark 60 = .ok (.if_icmp .ne 12, 3) := by decide +kernel
theorem dX7_mark_63 : decode cX7_mark 63 = .ok (.aload 4, 2) := by decide +kernel
theorem dX7_mark_65 : decode cX7_mark 65 = .ok (.invokevirtual 157, 3) := by decide +kernel
theorem dX7_mark_68 : decode cX7_mark 68 = .ok (.invokestatic 160, 3) := by decide +kernel
theorem dX7_mark_71 : decode cX7_mark 71 = .ok (.ireturn, 1) := by decide +kernel
theorem dX7_mark_72 : decode cX7_mark 72 = .ok (.iload_n 2, 1) := by decide +kernel
theorem dX7_mark_73 : decode cX7_mark 73 = .ok (.iconst 3, 1) := by decide +kernel
theorem dX7_mark_74 : decode cX7_mark 74 = .ok (.if_icmp .ne 25, 3) := by decide +kernel
theorem dX7_mark_77 : decode cX7_mark 77 = .ok (.aload 4, 2) := by decide +kernel
theorem dX7_mark_79 : decode cX7_mark 79 = .ok (.invokevirtual 164, 3) := by decide +kernel
theorem dX7_mark_82 : decode cX7_mark 82 = .ok (.aload 4, 2) := by decide +kernel
theorem dX7_mark_84 : decode cX7_mark 84 = .ok (.invokevirtual 167, 3) := by decide +kernel
theorem dX7_mark_87 : decode cX7_mark 87 = .ok (.if_icmp .le 7, 3) := by decide +kernel
theorem dX7_mark_90 : decode cX7_mark 90 = .ok (.iconst 1, 1) := by decide +kernel
theorem dX7_mark_91 : decode cX7_mark 91 = .ok (.goto 4, 3) := by decide +kernel
theorem dX7_mark_94 : decode cX7_mark 94 = .ok (.iconst 0, 1) := by decide +kernel
theorem dX7_mark_95 : decode cX7_mark 95 = .ok (.invokestatic 160, 3) := by decide +kernel
theorem dX7_mark_98 : decode cX7_mark 98 = .ok (.ireturn, 1) := by decide +kernel
theorem dX7_mark_99 : decode cX7_mark 99 = .ok (.aload 4, 2) := by decide +kernel
theorem dX7_mark_101 : decode cX7_mark 101 = .ok (.invokevirtual 170, 3) := by decide +kernel
theorem dX7_mark_104 : decode cX7_mark 104 = .ok (.invokestatic 173, 3) := by decide +kernel
theorem dX7_mark_107 : decode cX7_mark 107 = .ok (.invokestatic 160, 3) := by decide +kernel
theorem dX7_mark_110 : decode cX7_mark 110 = .ok (.ireturn, 1) := by decide +kernel
theorem dX7_turn_0 : decode cX7_turn 0 = .ok (.aload_n 0, 1) := by decide +kernel
theorem dX7_turn_1 : decode cX7_turn 1 = .ok (.iload_n 1, 1) := by decide +kernel
theorem dX7_turn_2 : decode cX7_turn 2 = .ok (.invokevirtual 131, 3) := by decide +kernel
theorem dX7_turn_5 : decode cX7_turn 5 = .ok (.istore_n 2, 1) := by decide +kernel
theorem dX7_turn_6 : decode cX7_turn 6 = .ok (.iload_n 2, 1) := by decide +kernel
theorem dX7_turn_7 : decode cX7_turn 7 = .ok (.ifCond .eq 5, 3) := by decide +kernel
theorem dX7_turn_10 : decode cX7_turn 10 = .ok (.iload_n 2, 1) := by decide +kernel
theorem dX7_turn_11 : decode cX7_turn 11 = .ok (.ireturn, 1) := by decide +kernel
theorem dX7_turn_12 : decode cX7_turn 12 = .ok (.aload_n 0, 1) := by decide +kernel
theorem dX7_turn_13 : decode cX7_turn 13 = .ok (.getfield 17, 3) := by decide +kernel
theorem dX7_turn_16 : decode cX7_turn 16 = .ok (.iload_n 1, 1) := by decide +kernel
theorem dX7_turn_17 : decode cX7_turn 17 = .ok (.aaload, 1) := by decide +kernel
theorem dX7_turn_18 : decode cX7_turn 18 = .ok (.getfield 141, 3) := by decide +kernel
theorem dX7_turn_21 : decode cX7_turn 21 = .ok (.astore_n 3, 1) := by decide +kernel
theorem dX7_turn_22 : decode cX7_turn 22 = .ok (.aload_n 0, 1) := by decide +kernel
theorem dX7_turn_23 : decode cX7_turn 23 = .ok (.getfield 24, 3) := by decide +kernel
theorem dX7_turn_26 : decode cX7_turn 26 = .ok (.aload_n 3, 1) := by decide +kernel
theorem dX7_turn_27 : decode cX7_turn 27 = .ok (.ldc2_w 176, 3) := by decide +kernel
theorem dX7_turn_30 : decode cX7_turn 30 = .ok (.aload_n 3, 1) := by decide +kernel
theorem dX7_turn_31 : decode cX7_turn 31 = .ok (.lconst 0, 1) := by decide +kernel
theorem dX7_turn_32 : decode cX7_turn 32 = .ok (.invokevirtual 178, 3) := by decide +kernel
theorem dX7_turn_35 : decode cX7_turn 35 = .ok (.aload_n 0, 1) := by decide +kernel
theorem dX7_turn_36 : decode cX7_turn 36 = .ok (.getfield 17, 3) := by decide +kernel
theorem dX7_turn_39 : decode cX7_turn 39 = .ok (.iload_n 1, 1) := by decide +kernel
theorem dX7_turn_40 : decode cX7_turn 40 = .ok (.aaload, 1) := by decide +kernel
theorem dX7_turn_41 : decode cX7_turn 41 = .ok (.aload_n 0, 1) := by decide +kernel
theorem dX7_turn_42 : decode cX7_turn 42 = .ok (.getfield 24, 3) := by decide +kernel
theorem dX7_turn_45 : decode cX7_turn 45 = .ok (.aload_n 0, 1) := by decide +kernel
theorem dX7_turn_46 : decode cX7_turn 46 = .ok (.getfield 28, 3) := by decide +kernel
theorem dX7_turn_49 : decode cX7_turn 49 = .ok (.invokevirtual 127, 3) := by decide +kernel
theorem dX7_turn_52 : decode cX7_turn 52 = .ok (.ireturn, 1) := by decide +kernel
theorem dX7_shear_0 : decode cX7_shear 0 = .ok (.iload_n 2, 1) := by decide +kernel
theorem dX7_shear_1 : decode cX7_shear 1 = .ok (.invokestatic 138, 3) := by decide +kernel
theorem dX7_shear_4 : decode cX7_shear 4 = .ok (.ifCond .ne 28, 3) := by decide +kernel
theorem dX7_shear_7 : decode cX7_shear 7 = .ok (.iload_n 3, 1) := by decide +kernel
theorem dX7_shear_8 : decode cX7_shear 8 = .ok (.invokestatic 138, 3) := by decide +kernel
theorem dX7_shear_11 : decode cX7_shear 11 = .ok (.ifCond .ne 21, 3) := by decide +kernel
theorem dX7_shear_14 : decode cX7_shear 14 = .ok (.iload_n 2, 1) := by decide +kernel
theorem dX7_shear_15 : decode cX7_shear 15 = .ok (.iload_n 3, 1) := by decide +kernel
theorem dX7_shear_16 : decode cX7_shear 16 = .ok (.if_icmp .eq 16, 3) := by decide +kernel
theorem dX7_shear_19 : decode cX7_shear 19 = .ok (.iload 4, 2) := by decide +kernel
theorem dX7_shear_21 : decode cX7_shear 21 = .ok (.bipush (-2), 2) := by decide +kernel
theorem dX7_shear_23 : decode cX7_shear 23 = .ok (.if_icmp .lt 9, 3) := by decide +kernel
theorem dX7_shear_26 : decode cX7_shear 26 = .ok (.iload 4, 2) := by decide +kernel
theorem dX7_shear_28 : decode cX7_shear 28 = .ok (.iconst 2, 1) := by decide +kernel
theorem dX7_shear_29 : decode cX7_shear 29 = .ok (.if_icmp .le 5, 3) := by decide +kernel
theorem dX7_shear_32 : decode cX7_shear 32 = .ok (.iconst (-1), 1) := by decide +kernel
theorem dX7_shear_33 : decode cX7_shear 33 = .ok (.ireturn, 1) := by decide +kernel
theorem dX7_shear_34 : decode cX7_shear 34 = .ok (.aload_n 0, 1) := by decide +kernel
theorem dX7_shear_35 : decode cX7_shear 35 = .ok (.iload_n 1, 1) := by decide +kernel
theorem dX7_shear_36 : decode cX7_shear 36 = .ok (.invokevirtual 131, 3) := by decide +kernel
theorem dX7_shear_39 : decode cX7_shear 39 = .ok (.istore 5, 2) := by decide +kernel
theorem dX7_shear_41 : decode cX7_shear 41 = .ok (.iload 5, 2) := by decide +kernel
theorem dX7_shear_43 : decode cX7_shear 43 = .ok (.ifCond .eq 6, 3) := by decide +kernel
theorem dX7_shear_46 : decode cX7_shear 46 = .ok (.iload 5, 2) := by decide +kernel
theorem dX7_shear_48 : decode cX7_shear 48 = .ok (.ireturn, 1) := by decide +kernel
theorem dX7_shear_49 : decode cX7_shear 49 = .ok (.aload_n 0, 1) := by decide +kernel
theorem dX7_shear_50 : decode cX7_shear 50 = .ok (.getfield 24, 3) := by decide +kernel
theorem dX7_shear_53 : decode cX7_shear 53 = .ok (.aload_n 0, 1) := by decide +kernel
theorem dX7_shear_54 : decode cX7_shear 54 = .ok (.getfield 17, 3) := by decide +kernel
theorem dX7_shear_57 : decode cX7_shear 57 = .ok (.iload_n 1, 1) := by decide +kernel
theorem dX7_shear_58 : decode cX7_shear 58 = .ok (.aaload, 1) := by decide +kernel
theorem dX7_shear_59 : decode cX7_shear 59 = .ok (.getfield 141, 3) := by decide +kernel
theorem dX7_shear_62 : decode cX7_shear 62 = .ok (.invokevirtual 182, 3) := by decide +kernel
theorem dX7_shear_65 : decode cX7_shear 65 = .ok (.aload_n 0, 1) := by decide +kernel
theorem dX7_shear_66 : decode cX7_shear 66 = .ok (.getfield 24, 3) := by decide +kernel
theorem dX7_shear_69 : decode cX7_shear 69 = .ok (.iload_n 2, 1) := by decide +kernel
theorem dX7_shear_70 : decode cX7_shear 70 = .ok (.iload_n 3, 1) := by decide +kernel
theorem dX7_shear_71 : decode cX7_shear 71 = .ok (.iload 4, 2) := by decide +kernel
theorem dX7_shear_73 : decode cX7_shear 73 = .ok (.invokevirtual 186, 3) := by decide +kernel
theorem dX7_shear_76 : decode cX7_shear 76 = .ok (.aload_n 0, 1) := by decide +kernel
theorem dX7_shear_77 : decode cX7_shear 77 = .ok (.getfield 24, 3) := by decide +kernel
theorem dX7_shear_80 : decode cX7_shear 80 = .ok (.iconst 4, 1) := by decide +kernel
theorem dX7_shear_81 : decode cX7_shear 81 = .ok (.invokevirtual 190, 3) := by decide +kernel
theorem dX7_shear_84 : decode cX7_shear 84 = .ok (.ifCond .eq 9, 3) := by decide +kernel
theorem dX7_shear_87 : decode cX7_shear 87 = .ok (.aload_n 0, 1) := by decide +kernel
theorem dX7_shear_88 : decode cX7_shear 88 = .ok (.iconst 2, 1) := by decide +kernel
theorem dX7_shear_89 : decode cX7_shear 89 = .ok (.invokevirtual 79, 3) := by decide +kernel
theorem dX7_shear_92 : decode cX7_shear 92 = .ok (.ireturn, 1) := by decide +kernel
theorem dX7_shear_93 : decode cX7_shear 93 = .ok (.aload_n 0, 1) := by decide +kernel
theorem dX7_shear_94 : decode cX7_shear 94 = .ok (.getfield 17, 3) := by decide +kernel
theorem dX7_shear_97 : decode cX7_shear 97 = .ok (.iload_n 1, 1) := by decide +kernel
theorem dX7_shear_98 : decode cX7_shear 98 = .ok (.aaload, 1) := by decide +kernel
theorem dX7_shear_99 : decode cX7_shear 99 = .ok (.aload_n 0, 1) := by decide +kernel
theorem dX7_shear_100 : decode cX7_shear 100 = .ok (.getfield 24, 3) := by decide +kernel
theorem dX7_shear_103 : decode cX7_shear 103 = .ok (.aload_n 0, 1) := by decide +kernel
theorem dX7_shear_104 : decode cX7_shear 104 = .ok (.getfield 28, 3) := by decide +kernel
theorem dX7_shear_107 : decode cX7_shear 107 = .ok (.invokevirtual 127, 3) := by decide +kernel
theorem dX7_shear_110 : decode cX7_shear 110 = .ok (.ireturn, 1) := by decide +kernel
theorem dX7_swap_0 : decode cX7_swap 0 = .ok (.iload_n 2, 1) := by decide +kernel
theorem dX7_swap_1 : decode cX7_swap 1 = .ok (.invokestatic 138, 3) := by decide +kernel
theorem dX7_swap_4 : decode cX7_swap 4 = .ok (.ifCond .ne 10, 3) := by decide +kernel
theorem dX7_swap_7 : decode cX7_swap 7 = .ok (.iload_n 3, 1) := by decide +kernel
theorem dX7_swap_8 : decode cX7_swap 8 = .ok (.invokestatic 138, 3) := by decide +kernel
theorem dX7_swap_11 : decode cX7_swap 11 = .ok (.ifCond .eq 5, 3) := by decide +kernel
theorem dX7_swap_14 : decode cX7_swap 14 = .ok (.iconst (-1), 1) := by decide +kernel
theorem dX7_swap_15 : decode cX7_swap 15 = .ok (.ireturn, 1) := by decide +kernel
theorem dX7_swap_16 : decode cX7_swap 16 = .ok (.aload_n 0, 1) := by decide +kernel
theorem dX7_swap_17 : decode cX7_swap 17 = .ok (.iload_n 1, 1) := by decide +kernel
theorem dX7_swap_18 : decode cX7_swap 18 = .ok (.invokevirtual 131, 3) := by decide +kernel
theorem dX7_swap_21 : decode cX7_swap 21 = .ok (.istore 4, 2) := by decide +kernel
theorem dX7_swap_23 : decode cX7_swap 23 = .ok (.iload 4, 2) := by decide +kernel
theorem dX7_swap_25 : decode cX7_swap 25 = .ok (.ifCond .eq 6, 3) := by decide +kernel
theorem dX7_swap_28 : decode cX7_swap 28 = .ok (.iload 4, 2) := by decide +kernel
theorem dX7_swap_30 : decode cX7_swap 30 = .ok (.ireturn, 1) := by decide +kernel
theorem dX7_swap_31 : decode cX7_swap 31 = .ok (.aload_n 0, 1) := by decide +kernel
theorem dX7_swap_32 : decode cX7_swap 32 = .ok (.getfield 24, 3) := by decide +kernel
theorem dX7_swap_35 : decode cX7_swap 35 = .ok (.aload_n 0, 1) := by decide +kernel
theorem dX7_swap_36 : decode cX7_swap 36 = .ok (.getfield 17, 3) := by decide +kernel
theorem dX7_swap_39 : decode cX7_swap 39 = .ok (.iload_n 1, 1) := by decide +kernel
theorem dX7_swap_40 : decode cX7_swap 40 = .ok (.aaload, 1) := by decide +kernel
theorem dX7_swap_41 : decode cX7_swap 41 = .ok (.getfield 141, 3) := by decide +kernel
theorem dX7_swap_44 : decode cX7_swap 44 = .ok (.invokevirtual 182, 3) := by decide +kernel
theorem dX7_swap_47 : decode cX7_swap 47 = .ok (.aload_n 0, 1) := by decide +kernel
theorem dX7_swap_48 : decode cX7_swap 48 = .ok (.getfield 24, 3) := by decide +kernel
theorem dX7_swap_51 : decode cX7_swap 51 = .ok (.iload_n 2, 1) := by decide +kernel
theorem dX7_swap_52 : decode cX7_swap 52 = .ok (.iload_n 3, 1) := by decide +kernel
theorem dX7_swap_53 : decode cX7_swap 53 = .ok (.invokevirtual 192, 3) := by decide +kernel
theorem dX7_swap_56 : decode cX7_swap 56 = .ok (.aload_n 0, 1) := by decide +kernel
theorem dX7_swap_57 : decode cX7_swap 57 = .ok (.getfield 17, 3) := by decide +kernel
theorem dX7_swap_60 : decode cX7_swap 60 = .ok (.iload_n 1, 1) := by decide +kernel
theorem dX7_swap_61 : decode cX7_swap 61 = .ok (.aaload, 1) := by decide +kernel
theorem dX7_swap_62 : decode cX7_swap 62 = .ok (.aload_n 0, 1) := by decide +kernel
theorem dX7_swap_63 : decode cX7_swap 63 = .ok (.getfield 24, 3) := by decide +kernel
theorem dX7_swap_66 : decode cX7_swap 66 = .ok (.aload_n 0, 1) := by decide +kernel
theorem dX7_swap_67 : decode cX7_swap 67 = .ok (.getfield 28, 3) := by decide +kernel
theorem dX7_swap_70 : decode cX7_swap 70 = .ok (.invokevirtual 127, 3) := by decide +kernel
theorem dX7_swap_73 : decode cX7_swap 73 = .ok (.ireturn, 1) := by decide +kernel
theorem dX7_same_0 : decode cX7_same 0 = .ok (.aload_n 0, 1) := by decide +kernel
theorem dX7_same_1 : decode cX7_same 1 = .ok (.iload_n 1, 1) := by decide +kernel
theorem dX7_same_2 : decode cX7_same 2 = .ok (.iload_n 2, 1) := by decide +kernel
theorem dX7_same_3 : decode cX7_same 3 = .ok (.invokevirtual 196, 3) := by decide +kernel
theorem dX7_same_6 : decode cX7_same 6 = .ok (.istore_n 3, 1) := by decide +kernel
theorem dX7_same_7 : decode cX7_same 7 = .ok (.iload_n 3, 1) := by decide +kernel
theorem dX7_same_8 : decode cX7_same 8 = .ok (.ifCond .eq 5, 3) := by decide +kernel
theorem dX7_same_11 : decode cX7_same 11 = .ok (.iload_n 3, 1) := by decide +kernel
theorem dX7_same_12 : decode cX7_same 12 = .ok (.ireturn, 1) := by decide +kernel
theorem dX7_same_13 : decode cX7_same 13 = .ok (.aload_n 0, 1) := by decide +kernel
theorem dX7_same_14 : decode cX7_same 14 = .ok (.getfield 17, 3) := by decide +kernel
theorem dX7_same_17 : decode cX7_same 17 = .ok (.iload_n 1, 1) := by decide +kernel
theorem dX7_same_18 : decode cX7_same 18 = .ok (.aaload, 1) := by decide +kernel
theorem dX7_same_19 : decode cX7_same 19 = .ok (.astore 4, 2) := by decide +kernel
theorem dX7_same_21 : decode cX7_same 21 = .ok (.aload_n 0, 1) := by decide +kernel
theorem dX7_same_22 : decode cX7_same 22 = .ok (.getfield 17, 3) := by decide +kernel
theorem dX7_same_25 : decode cX7_same 25 = .ok (.iload_n 2, 1) := by decide +kernel
theorem dX7_same_26 : decode cX7_same 26 = .ok (.aaload, 1) := by decide +kernel
theorem dX7_same_27 : decode cX7_same 27 = .ok (.astore 5, 2) := by decide +kernel
theorem dX7_same_29 : decode cX7_same 29 = .ok (.aload 4, 2) := by decide +kernel
theorem dX7_same_31 : decode cX7_same 31 = .ok (.invokevirtual 164, 3) := by decide +kernel
theorem dX7_same_34 : decode cX7_same 34 = .ok (.aload 5, 2) := by decide +kernel
theorem dX7_same_36 : decode cX7_same 36 = .ok (.invokevirtual 164, 3) := by decide +kernel
theorem dX7_same_39 : decode cX7_same 39 = .ok (.if_icmp .ne 20, 3) := by decide +kernel
theorem dX7_same_42 : decode cX7_same 42 = .ok (.aload 4, 2) := by decide +kernel
theorem dX7_same_44 : decode cX7_same 44 = .ok (.invokevirtual 167, 3) := by decide +kernel
theorem dX7_same_47 : decode cX7_same 47 = .ok (.aload 5, 2) := by decide +kernel
theorem dX7_same_49 : decode cX7_same 49 = .ok (.invokevirtual 167, 3) := by decide +kernel
theorem dX7_same_52 : decode cX7_same 52 = .ok (.if_icmp .ne 7, 3) := by decide +kernel
theorem dX7_same_55 : decode cX7_same 55 = .ok (.iconst 1, 1) := by decide +kernel
theorem dX7_same_56 : decode cX7_same 56 = .ok (.goto 4, 3) := by decide +kernel
theorem dX7_same_59 : decode cX7_same 59 = .ok (.iconst 0, 1) := by decide +kernel
theorem dX7_same_60 : decode cX7_same 60 = .ok (.istore 6, 2) := by decide +kernel
theorem dX7_same_62 : decode cX7_same 62 = .ok (.aload 4, 2) := by decide +kernel
theorem dX7_same_64 : decode cX7_same 64 = .ok (.invokevirtual 164, 3) := by decide +kernel
theorem dX7_same_67 : decode cX7_same 67 = .ok (.aload 5, 2) := by decide +kernel
theorem dX7_same_69 : decode cX7_same 69 = .ok (.invokevirtual 167, 3) := by decide +kernel
theorem dX7_same_72 : decode cX7_same 72 = .ok (.if_icmp .ne 20, 3) := by decide +kernel
theorem dX7_same_75 : decode cX7_same 75 = .ok (.aload 4, 2) := by decide +kernel
theorem dX7_same_77 : decode cX7_same 77 = .ok (.invokevirtual 167, 3) := by decide +kernel
theorem dX7_same_80 : decode cX7_same 80 = .ok (.aload 5, 2) := by decide +kernel
theorem dX7_same_82 : decode cX7_same 82 = .ok (.invokevirtual 164, 3) := by decide +kernel
theorem dX7_same_85 : decode cX7_same 85 = .ok (.if_icmp .ne 7, 3) := by decide +kernel
theorem dX7_same_88 : decode cX7_same 88 = .ok (.iconst 1, 1) := by decide +kernel
theorem dX7_same_89 : decode cX7_same 89 = .ok (.goto 4, 3) := by decide +kernel
theorem dX7_same_92 : decode cX7_same 92 = .ok (.iconst 0, 1) := by decide +kernel
theorem dX7_same_93 : decode cX7_same 93 = .ok (.istore 7, 2) := by decide +kernel
theorem dX7_same_95 : decode cX7_same 95 = .ok (.iload 6, 2) := by decide +kernel
theorem dX7_same_97 : decode cX7_same 97 = .ok (.ifCond .ne 8, 3) := by decide +kernel
theorem dX7_same_100 : decode cX7_same 100 = .ok (.iload 7, 2) := by decide +kernel
theorem dX7_same_102 : decode cX7_same 102 = .ok (.ifCond .eq 7, 3) := by decide +kernel
theorem dX7_same_105 : decode cX7_same 105 = .ok (.iconst 1, 1) := by decide +kernel
theorem dX7_same_106 : decode cX7_same 106 = .ok (.goto 4, 3) := by decide +kernel
theorem dX7_same_109 : decode cX7_same 109 = .ok (.iconst 0, 1) := by decide +kernel
theorem dX7_same_110 : decode cX7_same 110 = .ok (.invokestatic 160, 3) := by decide +kernel
theorem dX7_same_113 : decode cX7_same 113 = .ok (.ireturn, 1) := by decide +kernel
theorem dX7_alike_0 : decode cX7_alike 0 = .ok (.aload_n 0, 1) := by decide +kernel
theorem dX7_alike_1 : decode cX7_alike 1 = .ok (.iload_n 1, 1) := by decide +kernel
theorem dX7_alike_2 : decode cX7_alike 2 = .ok (.iload_n 2, 1) := by decide +kernel
theorem dX7_alike_3 : decode cX7_alike 3 = .ok (.invokevirtual 196, 3) := by decide +kernel
theorem dX7_alike_6 : decode cX7_alike 6 = .ok (.istore_n 3, 1) := by decide +kernel
theorem dX7_alike_7 : decode cX7_alike 7 = .ok (.iload_n 3, 1) := by decide +kernel
theorem dX7_alike_8 : decode cX7_alike 8 = .ok (.ifCond .eq 5, 3) := by decide +kernel
theorem dX7_alike_11 : decode cX7_alike 11 = .ok (.iload_n 3, 1) := by decide +kernel
theorem dX7_alike_12 : decode cX7_alike 12 = .ok (.ireturn, 1) := by decide +kernel
theorem dX7_alike_13 : decode cX7_alike 13 = .ok (.aload_n 0, 1) := by decide +kernel
theorem dX7_alike_14 : decode cX7_alike 14 = .ok (.getfield 17, 3) := by decide +kernel
theorem dX7_alike_17 : decode cX7_alike 17 = .ok (.iload_n 1, 1) := by decide +kernel
theorem dX7_alike_18 : decode cX7_alike 18 = .ok (.aaload, 1) := by decide +kernel
theorem dX7_alike_19 : decode cX7_alike 19 = .ok (.invokevirtual 200, 3) := by decide +kernel
theorem dX7_alike_22 : decode cX7_alike 22 = .ok (.aload_n 0, 1) := by decide +kernel
theorem dX7_alike_23 : decode cX7_alike 23 = .ok (.getfield 17, 3) := by decide +kernel
theorem dX7_alike_26 : decode cX7_alike 26 = .ok (.iload_n 2, 1) := by decide +kernel
theorem dX7_alike_27 : decode cX7_alike 27 = .ok (.aaload, 1) := by decide +kernel
theorem dX7_alike_28 : decode cX7_alike 28 = .ok (.invokevirtual 200, 3) := by decide +kernel
theorem dX7_alike_31 : decode cX7_alike 31 = .ok (.if_icmp .ne 7, 3) := by decide +kernel
theorem dX7_alike_34 : decode cX7_alike 34 = .ok (.iconst 1, 1) := by decide +kernel
theorem dX7_alike_35 : decode cX7_alike 35 = .ok (.goto 4, 3) := by decide +kernel
theorem dX7_alike_38 : decode cX7_alike 38 = .ok (.iconst 0, 1) := by decide +kernel
theorem dX7_alike_39 : decode cX7_alike 39 = .ok (.invokestatic 160, 3) := by decide +kernel
theorem dX7_alike_42 : decode cX7_alike 42 = .ok (.ireturn, 1) := by decide +kernel
theorem dX7_value_0 : decode cX7_value 0 = .ok (.aload_n 0, 1) := by decide +kernel
theorem dX7_value_1 : decode cX7_value 1 = .ok (.iload_n 1, 1) := by decide +kernel
theorem dX7_value_2 : decode cX7_value 2 = .ok (.iload_n 2, 1) := by decide +kernel
theorem dX7_value_3 : decode cX7_value 3 = .ok (.invokevirtual 203, 3) := by decide +kernel
theorem dX7_value_6 : decode cX7_value 6 = .ok (.istore_n 3, 1) := by decide +kernel
theorem dX7_value_7 : decode cX7_value 7 = .ok (.iload_n 3, 1) := by decide +kernel
theorem dX7_value_8 : decode cX7_value 8 = .ok (.ifCond .eq 5, 3) := by decide +kernel
theorem dX7_value_11 : decode cX7_value 11 = .ok (.iload_n 3, 1) := by decide +kernel
theorem dX7_value_12 : decode cX7_value 12 = .ok (.ireturn, 1) := by decide +kernel
theorem dX7_value_13 : decode cX7_value 13 = .ok (.aload_n 0, 1) := by decide +kernel
theorem dX7_value_14 : decode cX7_value 14 = .ok (.aload_n 0, 1) := by decide +kernel
theorem dX7_value_15 : decode cX7_value 15 = .ok (.getfield 17, 3) := by decide +kernel
theorem dX7_value_18 : decode cX7_value 18 = .ok (.iload_n 1, 1) := by decide +kernel
theorem dX7_value_19 : decode cX7_value 19 = .ok (.aaload, 1) := by decide +kernel
theorem dX7_value_20 : decode cX7_value 20 = .ok (.getfield 141, 3) := by decide +kernel
theorem dX7_value_23 : decode cX7_value 23 = .ok (.aload_n 0, 1) := by decide +kernel
theorem dX7_value_24 : decode cX7_value 24 = .ok (.getfield 52, 3) := by decide +kernel
theorem dX7_value_27 : decode cX7_value 27 = .ok (.aload_n 0, 1) := by decide +kernel
theorem dX7_value_28 : decode cX7_value 28 = .ok (.getfield 52, 3) := by decide +kernel
theorem dX7_value_31 : decode cX7_value 31 = .ok (.invokevirtual 206, 3) := by decide +kernel
theorem dX7_value_34 : decode cX7_value 34 = .ok (.l2i, 1) := by decide +kernel
theorem dX7_value_35 : decode cX7_value 35 = .ok (.putfield 98, 3) := by decide +kernel
theorem dX7_value_38 : decode cX7_value 38 = .ok (.iconst 1, 1) := by decide +kernel
theorem dX7_value_39 : decode cX7_value 39 = .ok (.ireturn, 1) := by decide +kernel
theorem dX7_tangent_0 : decode cX7_tangent 0 = .ok (.iload_n 3, 1) := by decide +kernel
theorem dX7_tangent_1 : decode cX7_tangent 1 = .ok (.invokestatic 75, 3) := by decide +kernel
theorem dX7_tangent_4 : decode cX7_tangent 4 = .ok (.ifCond .eq 5, 3) := by decide +kernel
theorem dX7_tangent_7 : decode cX7_tangent 7 = .ok (.iconst (-1), 1) := by decide +kernel
theorem dX7_tangent_8 : decode cX7_tangent 8 = .ok (.ireturn, 1) := by decide +kernel
theorem dX7_tangent_9 : decode cX7_tangent 9 = .ok (.aload_n 0, 1) := by decide +kernel
theorem dX7_tangent_10 : decode cX7_tangent 10 = .ok (.iload_n 1, 1) := by decide +kernel
theorem dX7_tangent_11 : decode cX7_tangent 11 = .ok (.iload_n 2, 1) := by decide +kernel
theorem dX7_tangent_12 : decode cX7_tangent 12 = .ok (.invokevirtual 203, 3) := by decide +kernel
theorem dX7_tangent_15 : decode cX7_tangent 15 = .ok (.istore 4, 2) := by decide +kernel
theorem dX7_tangent_17 : decode cX7_tangent 17 = .ok (.iload 4, 2) := by decide +kernel
theorem dX7_tangent_19 : decode cX7_tangent 19 = .ok (.ifCond .eq 6, 3) := by decide +kernel
theorem dX7_tangent_22 : decode cX7_tangent 22 = .ok (.iload 4, 2) := by decide +kernel
theorem dX7_tangent_24 : decode cX7_tangent 24 = .ok (.ireturn, 1) := by decide +kernel
theorem dX7_tangent_25 : decode cX7_tangent 25 = .ok (.aload_n 0, 1) := by decide +kernel
theorem dX7_tangent_26 : decode cX7_tangent 26 = .ok (.getfield 11, 3) := by decide +kernel
theorem dX7_tangent_29 : decode cX7_tangent 29 = .ok (.iload_n 3, 1) := by decide +kernel
theorem dX7_tangent_30 : decode cX7_tangent 30 = .ok (.aaload, 1) := by decide +kernel
theorem dX7_tangent_31 : decode cX7_tangent 31 = .ok (.astore 5, 2) := by decide +kernel
theorem dX7_tangent_33 : decode cX7_tangent 33 = .ok (.aload 5, 2) := by decide +kernel
theorem dX7_tangent_35 : decode cX7_tangent 35 = .ok (.iconst 4, 1) := by decide +kernel
theorem dX7_tangent_36 : decode cX7_tangent 36 = .ok (.invokevirtual 83, 3) := by decide +kernel
theorem dX7_tangent_39 : decode cX7_tangent 39 = .ok (.iconst 0, 1) := by decide +kernel
theorem dX7_tangent_40 : decode cX7_tangent 40 = .ok (.istore 6, 2) := by decide +kernel
theorem dX7_tangent_42 : decode cX7_tangent 42 = .ok (.iload 6, 2) := by decide +kernel
theorem dX7_tangent_44 : decode cX7_tangent 44 = .ok (.iconst 4, 1) := by decide +kernel
theorem dX7_tangent_45 : decode cX7_tangent 45 = .ok (.if_icmp .ge 36, 3) := by decide +kernel
theorem dX7_tangent_48 : decode cX7_tangent 48 = .ok (.aload 5, 2) := by decide +kernel
theorem dX7_tangent_50 : decode cX7_tangent 50 = .ok (.getfield 95, 3) := by decide +kernel
theorem dX7_tangent_53 : decode cX7_tangent 53 = .ok (.iload 6, 2) := by decide +kernel
theorem dX7_tangent_55 : decode cX7_tangent 55 = .ok (.aload_n 0, 1) := by decide +kernel
theorem dX7_tangent_56 : decode cX7_tangent 56 = .ok (.getfield 17, 3) := by decide +kernel
theorem dX7_tangent_59 : decode cX7_tangent 59 = .ok (.iload_n 1, 1) := by decide +kernel
theorem dX7_tangent_60 : decode cX7_tangent 60 = .ok (.aaload, 1) := by decide +kernel
theorem dX7_tangent_61 : decode cX7_tangent 61 = .ok (.getfield 141, 3) := by decide +kernel
theorem dX7_tangent_64 : decode cX7_tangent 64 = .ok (.iload 6, 2) := by decide +kernel
theorem dX7_tangent_66 : decode cX7_tangent 66 = .ok (.aload_n 0, 1) := by decide +kernel
theorem dX7_tangent_67 : decode cX7_tangent 67 = .ok (.getfield 52, 3) := by decide +kernel
theorem dX7_tangent_70 : decode cX7_tangent 70 = .ok (.invokevirtual 210, 3) := by decide +kernel
theorem dX7_tangent_73 : decode cX7_tangent 73 = .ok (.l2i, 1) := by decide +kernel
theorem dX7_tangent_74 : decode cX7_tangent 74 = .ok (.iastore, 1) := by decide +kernel
theorem dX7_tangent_75 : decode cX7_tangent 75 = .ok (.iinc 6 1, 3) := by decide +kernel
theorem dX7_tangent_78 : decode cX7_tangent 78 = .ok (.goto (-36), 3) := by decide +kernel
theorem dX7_tangent_81 : decode cX7_tangent 81 = .ok (.iconst 1, 1) := by decide +kernel
theorem dX7_tangent_82 : decode cX7_tangent 82 = .ok (.ireturn, 1) := by decide +kernel
theorem dX7_line_0 : decode cX7_line 0 = .ok (.iload_n 1, 1) := by decide +kernel
theorem dX7_line_1 : decode cX7_line 1 = .ok (.invokestatic 114, 3) := by decide +kernel
theorem dX7_line_4 : decode cX7_line 4 = .ok (.ifCond .ne 17, 3) := by decide +kernel
theorem dX7_line_7 : decode cX7_line 7 = .ok (.iload_n 2, 1) := by decide +kernel
theorem dX7_line_8 : decode cX7_line 8 = .ok (.invokestatic 75, 3) := by decide +kernel
theorem dX7_line_11 : decode cX7_line 11 = .ok (.ifCond .ne 10, 3) := by decide +kernel
theorem dX7_line_14 : decode cX7_line 14 = .ok (.iload_n 3, 1) := by decide +kernel
theorem dX7_line_15 : decode cX7_line 15 = .ok (.invokestatic 75, 3) := by decide +kernel
theorem dX7_line_18 : decode cX7_line 18 = .ok (.ifCond .eq 5, 3) := by decide +kernel
theorem dX7_line_21 : decode cX7_line 21 = .ok (.iconst (-1), 1) := by decide +kernel
theorem dX7_line_22 : decode cX7_line 22 = .ok (.ireturn, 1) := by decide +kernel
theorem dX7_line_23 : decode cX7_line 23 = .ok (.aload_n 0, 1) := by decide +kernel
theorem dX7_line_24 : decode cX7_line 24 = .ok (.getfield 17, 3) := by decide +kernel
theorem dX7_line_27 : decode cX7_line 27 = .ok (.iload_n 1, 1) := by decide +kernel
theorem dX7_line_28 : decode cX7_line 28 = .ok (.aaload, 1) := by decide +kernel
theorem dX7_line_29 : decode cX7_line 29 = .ok (.getfield 134, 3) := by decide +kernel
theorem dX7_line_32 : decode cX7_line 32 = .ok (.ifCond .eq 27, 3) := by decide +kernel
theorem dX7_line_35 : decode cX7_line 35 = .ok (.aload_n 0, 1) := by decide +kernel
theorem dX7_line_36 : decode cX7_line 36 = .ok (.getfield 11, 3) := by decide +kernel
theorem dX7_line_39 : decode cX7_line 39 = .ok (.iload_n 2, 1) := by decide +kernel
theorem dX7_line_40 : decode cX7_line 40 = .ok (.aaload, 1) := by decide +kernel
theorem dX7_line_41 : decode cX7_line 41 = .ok (.invokevirtual 87, 3) := by decide +kernel
theorem dX7_line_44 : decode cX7_line 44 = .ok (.ifCond .ne 15, 3) := by decide +kernel
theorem dX7_line_47 : decode cX7_line 47 = .ok (.aload_n 0, 1) := by decide +kernel
theorem dX7_line_48 : decode cX7_line 48 = .ok (.getfield 11, 3) := by decide +kernel
theorem dX7_line_51 : decode cX7_line 51 = .ok (.iload_n 3, 1) := by decide +kernel
theorem dX7_line_52 : decode cX7_line 52 = .ok (.aaload, 1) := by decide +kernel
theorem dX7_line_53 : decode cX7_line 53 = .ok (.invokevirtual 87, 3) := by decide +kernel
theorem dX7_line_56 : decode cX7_line 56 = .ok (.ifCond .eq 9, 3) := by decide +kernel
theorem dX7_line_59 : decode cX7_line 59 = .ok (.aload_n 0, 1) := by decide +kernel
theorem dX7_line_60 : decode cX7_line 60 = .ok (.iconst 1, 1) := by decide +kernel
theorem dX7_line_61 : decode cX7_line 61 = .ok (.invokevirtual 79, 3) := by decide +kernel
theorem dX7_line_64 : decode cX7_line 64 = .ok (.ireturn, 1) := by decide +kernel
theorem dX7_line_65 : decode cX7_line 65 = .ok (.aload_n 0, 1) := by decide +kernel
theorem dX7_line_66 : decode cX7_line 66 = .ok (.aload_n 0, 1) := by decide +kernel
theorem dX7_line_67 : decode cX7_line 67 = .ok (.getfield 11, 3) := by decide +kernel
theorem dX7_line_70 : decode cX7_line 70 = .ok (.iload_n 2, 1) := by decide +kernel
theorem dX7_line_71 : decode cX7_line 71 = .ok (.aaload, 1) := by decide +kernel
theorem dX7_line_72 : decode cX7_line 72 = .ok (.aload_n 0, 1) := by decide +kernel
theorem dX7_line_73 : decode cX7_line 73 = .ok (.getfield 11, 3) := by decide +kernel
theorem dX7_line_76 : decode cX7_line 76 = .ok (.iload_n 3, 1) := by decide +kernel
theorem dX7_line_77 : decode cX7_line 77 = .ok (.aaload, 1) := by decide +kernel
theorem dX7_line_78 : decode cX7_line 78 = .ok (.invokevirtual 214, 3) := by decide +kernel
theorem dX7_line_81 : decode cX7_line 81 = .ok (.istore 4, 2) := by decide +kernel
theorem dX7_line_83 : decode cX7_line 83 = .ok (.iload 4, 2) := by decide +kernel
theorem dX7_line_85 : decode cX7_line 85 = .ok (.ifCond .ne 20, 3) := by decide +kernel
theorem dX7_line_88 : decode cX7_line 88 = .ok (.aload_n 0, 1) := by decide +kernel
theorem dX7_line_89 : decode cX7_line 89 = .ok (.getfield 52, 3) := by decide +kernel
theorem dX7_line_92 : decode cX7_line 92 = .ok (.aload_n 0, 1) := by decide +kernel
theorem dX7_line_93 : decode cX7_line 93 = .ok (.getfield 56, 3) := by decide +kernel
theorem dX7_line_96 : decode cX7_line 96 = .ok (.invokestatic 218, 3) := by decide +kernel
theorem dX7_line_99 : decode cX7_line 99 = .ok (.ifCond .eq 6, 3) := by decide +kernel
theorem dX7_line_102 : decode cX7_line 102 = .ok (.iconst 4, 1) := by decide +kernel
theorem dX7_line_103 : decode cX7_line 103 = .ok (.istore 4, 2) := by decide +kernel
theorem dX7_line_105 : decode cX7_line 105 = .ok (.iload 4, 2) := by decide +kernel
theorem dX7_line_107 : decode cX7_line 107 = .ok (.ifCond .eq 10, 3) := by decide +kernel
theorem dX7_line_110 : decode cX7_line 110 = .ok (.aload_n 0, 1) := by decide +kernel
theorem dX7_line_111 : decode cX7_line 111 = .ok (.iload 4, 2) := by decide +kernel
theorem dX7_line_113 : decode cX7_line 113 = .ok (.invokevirtual 79, 3) := by decide +kernel
theorem dX7_line_116 : decode cX7_line 116 = .ok (.ireturn, 1) := by decide +kernel
theorem dX7_line_117 : decode cX7_line 117 = .ok (.aload_n 0, 1) := by decide +kernel
theorem dX7_line_118 : decode cX7_line 118 = .ok (.getfield 17, 3) := by decide +kernel
theorem dX7_line_121 : decode cX7_line 121 = .ok (.iload_n 1, 1) := by decide +kernel
theorem dX7_line_122 : decode cX7_line 122 = .ok (.aaload, 1) := by decide +kernel
theorem dX7_line_123 : decode cX7_line 123 = .ok (.getfield 141, 3) := by decide +kernel
theorem dX7_line_126 : decode cX7_line 126 = .ok (.astore 5, 2) := by decide +kernel
theorem dX7_line_128 : decode cX7_line 128 = .ok (.aload 5, 2) := by decide +kernel
theorem dX7_line_130 : decode cX7_line 130 = .ok (.aload_n 0, 1) := by decide +kernel
theorem dX7_line_131 : decode cX7_line 131 = .ok (.getfield 52, 3) := by decide +kernel
theorem dX7_line_134 : decode cX7_line 134 = .ok (.aload_n 0, 1) := by decide +kernel
theorem dX7_line_135 : decode cX7_line 135 = .ok (.getfield 52, 3) := by decide +kernel
theorem dX7_line_138 : decode cX7_line 138 = .ok (.invokevirtual 206, 3) := by decide +kernel
theorem dX7_line_141 : decode cX7_line 141 = .ok (.lstore 6, 2) := by decide +kernel
theorem dX7_line_143 : decode cX7_line 143 = .ok (.aload 5, 2) := by decide +kernel
theorem dX7_line_145 : decode cX7_line 145 = .ok (.aload_n 0, 1) := by decide +kernel
theorem dX7_line_146 : decode cX7_line 146 = .ok (.getfield 52, 3) := by decide +kernel
theorem dX7_line_149 : decode cX7_line 149 = .ok (.aload_n 0, 1) := by decide +kernel
theorem dX7_line_150 : decode cX7_line 150 = .ok (.getfield 56, 3) := by decide +kernel
theorem dX7_line_153 : decode cX7_line 153 = .ok (.invokevirtual 206, 3) := by decide +kernel
theorem dX7_line_156 : decode cX7_line 156 = .ok (.lstore 8, 2) := by decide +kernel
theorem dX7_line_158 : decode cX7_line 158 = .ok (.aload 5, 2) := by decide +kernel
theorem dX7_line_160 : decode cX7_line 160 = .ok (.aload_n 0, 1) := by decide +kernel
theorem dX7_line_161 : decode cX7_line 161 = .ok (.getfield 56, 3) := by decide +kernel
theorem dX7_line_164 : decode cX7_line 164 = .ok (.aload_n 0, 1) := by decide +kernel
theorem dX7_line_165 : decode cX7_line 165 = .ok (.getfield 56, 3) := by decide +kernel
theorem dX7_line_168 : decode cX7_line 168 = .ok (.invokevirtual 206, 3) := by decide +kernel
theorem dX7_line_171 : decode cX7_line 171 = .ok (.lstore 10, 2) := by decide +kernel
theorem dX7_line_173 : decode cX7_line 173 = .ok (.aload_n 0, 1) := by decide +kernel
theorem dX7_line_174 : decode cX7_line 174 = .ok (.getfield 59, 3) := by decide +kernel
theorem dX7_line_177 : decode cX7_line 177 = .ok (.iconst 0, 1) := by decide +kernel
theorem dX7_line_178 : decode cX7_line 178 = .ok (.lload 6, 2) := by decide +kernel
theorem dX7_line_180 : decode cX7_line 180 = .ok (.l2i, 1) := by decide +kernel
theorem dX7_line_181 : decode cX7_line 181 = .ok (.iastore, 1) := by decide +kernel
theorem dX7_line_182 : decode cX7_line 182 = .ok (.aload_n 0, 1) := by decide +kernel
theorem dX7_line_183 : decode cX7_line 183 = .ok (.getfield 59, 3) := by decide +kernel
theorem dX7_line_186 : decode cX7_line 186 = .ok (.iconst 1, 1) := by decide +kernel
theorem dX7_line_187 : decode cX7_line 187 = .ok (.lload 8, 2) := by decide +kernel
theorem dX7_line_189 : decode cX7_line 189 = .ok (.l2i, 1) := by decide +kernel
theorem dX7_line_190 : decode cX7_line 190 = .ok (.iastore, 1) := by decide +kernel
theorem dX7_line_191 : decode cX7_line 191 = .ok (.aload_n 0, 1) := by decide +kernel
theorem dX7_line_192 : decode cX7_line 192 = .ok (.getfield 59, 3) := by decide +kernel
theorem dX7_line_195 : decode cX7_line 195 = .ok (.iconst 2, 1) := by decide +kernel
theorem dX7_line_196 : decode cX7_line 196 = .ok (.lload 10, 2) := by decide +kernel
theorem dX7_line_198 : decode cX7_line 198 = .ok (.l2i, 1) := by decide +kernel
theorem dX7_line_199 : decode cX7_line 199 = .ok (.iastore, 1) := by decide +kernel
theorem dX7_line_200 : decode cX7_line 200 = .ok (.aload_n 0, 1) := by decide +kernel
theorem dX7_line_201 : decode cX7_line 201 = .ok (.iconst 1, 1) := by decide +kernel
theorem dX7_line_202 : decode cX7_line 202 = .ok (.putfield 222, 3) := by decide +kernel
theorem dX7_line_205 : decode cX7_line 205 = .ok (.lload 6, 2) := by decide +kernel
theorem dX7_line_207 : decode cX7_line 207 = .ok (.lconst 0, 1) := by decide +kernel
theorem dX7_line_208 : decode cX7_line 208 = .ok (.lcmp, 1) := by decide +kernel
theorem dX7_line_209 : decode cX7_line 209 = .ok (.ifCond .ne 20, 3) := by decide +kernel
theorem dX7_line_212 : decode cX7_line 212 = .ok (.lload 8, 2) := by decide +kernel
theorem dX7_line_214 : decode cX7_line 214 = .ok (.lconst 0, 1) := by decide +kernel
theorem dX7_line_215 : decode cX7_line 215 = .ok (.lcmp, 1) := by decide +kernel
theorem dX7_line_216 : decode cX7_line 216 = .ok (.ifCond .ne 13, 3) := by decide +kernel
theorem dX7_line_219 : decode cX7_line 219 = .ok (.lload 10, 2) := by decide +kernel
theorem dX7_line_221 : decode cX7_line 221 = .ok (.lconst 0, 1) := by decide +kernel
theorem dX7_line_222 : decode cX7_line 222 = .ok (.lcmp, 1) := by decide +kernel
theorem dX7_line_223 : decode cX7_line 223 = .ok (.ifCond .ne 6, 3) := by decide +kernel
theorem dX7_line_226 : decode cX7_line 226 = .ok (.bipush 9, 2) := by decide +kernel
theorem dX7_line_228 : decode cX7_line 228 = .ok (.ireturn, 1) := by decide +kernel
theorem dX7_line_229 : decode cX7_line 229 = .ok (.iconst 1, 1) := by decide +kernel
theorem dX7_line_230 : decode cX7_line 230 = .ok (.lload 8, 2) := by decide +kernel
theorem dX7_line_232 : decode cX7_line 232 = .ok (.lload 8, 2) := by decide +kernel
theorem dX7_line_234 : decode cX7_line 234 = .ok (.lmul, 1) := by decide +kernel
theorem dX7_line_235 : decode cX7_line 235 = .ok (.lload 6, 2) := by decide +kernel
theorem dX7_line_237 : decode cX7_line 237 = .ok (.lload 10, 2) := by decide +kernel
theorem dX7_line_239 : decode cX7_line 239 = .ok (.lmul, 1) := by decide +kernel
theorem dX7_line_240 : decode cX7_line 240 = .ok (.lsub, 1) := by decide +kernel
theorem dX7_line_241 : decode cX7_line 241 = .ok (.invokestatic 225, 3) := by decide +kernel
theorem dX7_line_244 : decode cX7_line 244 = .ok (.iadd, 1) := by decide +kernel
theorem dX7_line_245 : decode cX7_line 245 = .ok (.ireturn, 1) := by decide +kernel
theorem dX7_lineTold_0 : decode cX7_lineTold 0 = .ok (.iload_n 1, 1) := by decide +kernel
theorem dX7_lineTold_1 : decode cX7_lineTold 1 = .ok (.ifCond .lt 8, 3) := by decide +kernel
theorem dX7_lineTold_4 : decode cX7_lineTold 4 = .ok (.iload_n 1, 1) := by decide +kernel
theorem dX7_lineTold_5 : decode cX7_lineTold 5 = .ok (.iconst 2, 1) := by decide +kernel
theorem dX7_lineTold_6 : decode cX7_lineTold 6 = .ok (.if_icmp .le 5, 3) := by decide +kernel
theorem dX7_lineTold_9 : decode cX7_lineTold 9 = .ok (.iconst (-1), 1) := by decide +kernel
theorem dX7_lineTold_10 : decode cX7_lineTold 10 = .ok (.ireturn, 1) := by decide +kernel
theorem dX7_lineTold_11 : decode cX7_lineTold 11 = .ok (.aload_n 0, 1) := by decide +kernel
theorem dX7_lineTold_12 : decode cX7_lineTold 12 = .ok (.getfield 222, 3) := by decide +kernel
theorem dX7_lineTold_15 : decode cX7_lineTold 15 = .ok (.ifCond .ne 6, 3) := by decide +kernel
theorem dX7_lineTold_18 : decode cX7_lineTold 18 = .ok (.bipush (-4), 2) := by decide +kernel
theorem dX7_lineTold_20 : decode cX7_lineTold 20 = .ok (.ireturn, 1) := by decide +kernel
theorem dX7_lineTold_21 : decode cX7_lineTold 21 = .ok (.aload_n 0, 1) := by decide +kernel
theorem dX7_lineTold_22 : decode cX7_lineTold 22 = .ok (.aload_n 0, 1) := by decide +kernel
theorem dX7_lineTold_23 : decode cX7_lineTold 23 = .ok (.getfield 59, 3) := by decide +kernel
theorem dX7_lineTold_26 : decode cX7_lineTold 26 = .ok (.iload_n 1, 1) := by decide +kernel
theorem dX7_lineTold_27 : decode cX7_lineTold 27 = .ok (.iaload, 1) := by decide +kernel
theorem dX7_lineTold_28 : decode cX7_lineTold 28 = .ok (.putfield 98, 3) := by decide +kernel
theorem dX7_lineTold_31 : decode cX7_lineTold 31 = .ok (.iconst 1, 1) := by decide +kernel
theorem dX7_lineTold_32 : decode cX7_lineTold 32 = .ok (.ireturn, 1) := by decide +kernel
theorem dX7_cut_0 : decode cX7_cut 0 = .ok (.aload_n 0, 1) := by decide +kernel
theorem dX7_cut_1 : decode cX7_cut 1 = .ok (.iload_n 1, 1) := by decide +kernel
theorem dX7_cut_2 : decode cX7_cut 2 = .ok (.iload_n 2, 1) := by decide +kernel
theorem dX7_cut_3 : decode cX7_cut 3 = .ok (.invokevirtual 203, 3) := by decide +kernel
theorem dX7_cut_6 : decode cX7_cut 6 = .ok (.istore_n 3, 1) := by decide +kernel
theorem dX7_cut_7 : decode cX7_cut 7 = .ok (.iload_n 3, 1) := by decide +kernel
theorem dX7_cut_8 : decode cX7_cut 8 = .ok (.ifCond .eq 5, 3) := by decide +kernel
theorem dX7_cut_11 : decode cX7_cut 11 = .ok (.iload_n 3, 1) := by decide +kernel
theorem dX7_cut_12 : decode cX7_cut 12 = .ok (.ireturn, 1) := by decide +kernel
theorem dX7_cut_13 : decode cX7_cut 13 = .ok (.aload_n 0, 1) := by decide +kernel
theorem dX7_cut_14 : decode cX7_cut 14 = .ok (.getfield 24, 3) := by decide +kernel
theorem dX7_cut_17 : decode cX7_cut 17 = .ok (.aload_n 0, 1) := by decide +kernel
theorem dX7_cut_18 : decode cX7_cut 18 = .ok (.getfield 17, 3) := by decide +kernel
theorem dX7_cut_21 : decode cX7_cut 21 = .ok (.iload_n 1, 1) := by decide +kernel
theorem dX7_cut_22 : decode cX7_cut 22 = .ok (.aaload, 1) := by decide +kernel
theorem dX7_cut_23 : decode cX7_cut 23 = .ok (.getfield 141, 3) := by decide +kernel
theorem dX7_cut_26 : decode cX7_cut 26 = .ok (.aload_n 0, 1) := by decide +kernel
theorem dX7_cut_27 : decode cX7_cut 27 = .ok (.getfield 52, 3) := by decide +kernel
theorem dX7_cut_30 : decode cX7_cut 30 = .ok (.invokevirtual 229, 3) := by decide +kernel
theorem dX7_cut_33 : decode cX7_cut 33 = .ok (.aload_n 0, 1) := by decide +kernel
theorem dX7_cut_34 : decode cX7_cut 34 = .ok (.getfield 24, 3) := by decide +kernel
theorem dX7_cut_37 : decode cX7_cut 37 = .ok (.invokevirtual 233, 3) := by decide +kernel
theorem dX7_cut_40 : decode cX7_cut 40 = .ok (.bipush 10, 2) := by decide +kernel
theorem dX7_cut_42 : decode cX7_cut 42 = .ok (.aload_n 0, 1) := by decide +kernel
theorem dX7_cut_43 : decode cX7_cut 43 = .ok (.getfield 24, 3) := by decide +kernel
theorem dX7_cut_46 : decode cX7_cut 46 = .ok (.getfield 236, 3) := by decide +kernel
theorem dX7_cut_49 : decode cX7_cut 49 = .ok (.imul, 1) := by decide +kernel
theorem dX7_cut_50 : decode cX7_cut 50 = .ok (.aload_n 0, 1) := by decide +kernel
theorem dX7_cut_51 : decode cX7_cut 51 = .ok (.getfield 24, 3) := by decide +kernel
theorem dX7_cut_54 : decode cX7_cut 54 = .ok (.getfield 238, 3) := by decide +kernel
theorem dX7_cut_57 : decode cX7_cut 57 = .ok (.iadd, 1) := by decide +kernel
theorem dX7_cut_58 : decode cX7_cut 58 = .ok (.bipush 10, 2) := by decide +kernel
theorem dX7_cut_60 : decode cX7_cut 60 = .ok (.aload_n 0, 1) := by decide +kernel
theorem dX7_cut_61 : decode cX7_cut 61 = .ok (.getfield 24, 3) := by decide +kernel
theorem dX7_cut_64 : decode cX7_cut 64 = .ok (.getfield 238, 3) := by decide +kernel
theorem dX7_cut_67 : decode cX7_cut 67 = .ok (.imul, 1) := by decide +kernel
theorem dX7_cut_68 : decode cX7_cut 68 = .ok (.aload_n 0, 1) := by decide +kernel
theorem dX7_cut_69 : decode cX7_cut 69 = .ok (.getfield 24, 3) := by decide +kernel
theorem dX7_cut_72 : decode cX7_cut 72 = .ok (.getfield 236, 3) := by decide +kernel
theorem dX7_cut_75 : decode cX7_cut 75 = .ok (.iadd, 1) := by decide +kernel
theorem dX7_cut_76 : decode cX7_cut 76 = .ok (.invokestatic 240, 3) := by decide +kernel
theorem dX7_cut_79 : decode cX7_cut 79 = .ok (.ireturn, 1) := by decide +kernel
theorem dX7_touches_0 : decode cX7_touches 0 = .ok (.aload_n 0, 1) := by decide +kernel
theorem dX7_touches_1 : decode cX7_touches 1 = .ok (.iload_n 1, 1) := by decide +kernel
theorem dX7_touches_2 : decode cX7_touches 2 = .ok (.iload_n 2, 1) := by decide +kernel
theorem dX7_touches_3 : decode cX7_touches 3 = .ok (.invokevirtual 203, 3) := by decide +kernel
theorem dX7_touches_6 : decode cX7_touches 6 = .ok (.istore_n 3, 1) := by decide +kernel
theorem dX7_touches_7 : decode cX7_touches 7 = .ok (.iload_n 3, 1) := by decide +kernel
theorem dX7_touches_8 : decode cX7_touches 8 = .ok (.ifCond .eq 5, 3) := by decide +kernel
theorem dX7_touches_11 : decode cX7_touches 11 = .ok (.iload_n 3, 1) := by decide +kernel
theorem dX7_touches_12 : decode cX7_touches 12 = .ok (.ireturn, 1) := by decide +kernel
theorem dX7_touches_13 : decode cX7_touches 13 = .ok (.aload_n 0, 1) := by decide +kernel
theorem dX7_touches_14 : decode cX7_touches 14 = .ok (.getfield 24, 3) := by decide +kernel
theorem dX7_touches_17 : decode cX7_touches 17 = .ok (.aload_n 0, 1) := by decide +kernel
theorem dX7_touches_18 : decode cX7_touches 18 = .ok (.getfield 17, 3) := by decide +kernel
theorem dX7_touches_21 : decode cX7_touches 21 = .ok (.iload_n 1, 1) := by decide +kernel
theorem dX7_touches_22 : decode cX7_touches 22 = .ok (.aaload, 1) := by decide +kernel
theorem dX7_touches_23 : decode cX7_touches 23 = .ok (.getfield 141, 3) := by decide +kernel
theorem dX7_touches_26 : decode cX7_touches 26 = .ok (.aload_n 0, 1) := by decide +kernel
theorem dX7_touches_27 : decode cX7_touches 27 = .ok (.getfield 52, 3) := by decide +kernel
theorem dX7_touches_30 : decode cX7_touches 30 = .ok (.invokevirtual 229, 3) := by decide +kernel
theorem dX7_touches_33 : decode cX7_touches 33 = .ok (.aload_n 0, 1) := by decide +kernel
theorem dX7_touches_34 : decode cX7_touches 34 = .ok (.getfield 24, 3) := by decide +kernel
theorem dX7_touches_37 : decode cX7_touches 37 = .ok (.invokevirtual 233, 3) := by decide +kernel
theorem dX7_touches_40 : decode cX7_touches 40 = .ok (.aload_n 0, 1) := by decide +kernel
theorem dX7_touches_41 : decode cX7_touches 41 = .ok (.getfield 24, 3) := by decide +kernel
theorem dX7_touches_44 : decode cX7_touches 44 = .ok (.getfield 236, 3) := by decide +kernel
theorem dX7_touches_47 : decode cX7_touches 47 = .ok (.aload_n 0, 1) := by decide +kernel
theorem dX7_touches_48 : decode cX7_touches 48 = .ok (.getfield 24, 3) := by decide +kernel
theorem dX7_touches_51 : decode cX7_touches 51 = .ok (.getfield 238, 3) := by decide +kernel
theorem dX7_touches_54 : decode cX7_touches 54 = .ok (.iadd, 1) := by decide +kernel
theorem dX7_touches_55 : decode cX7_touches 55 = .ok (.iconst 2, 1) := by decide +kernel
theorem dX7_touches_56 : decode cX7_touches 56 = .ok (.if_icmp .gt 7, 3) := by decide +kernel
theorem dX7_touches_59 : decode cX7_touches 59 = .ok (.iconst 1, 1) := by decide +kernel
theorem dX7_touches_60 : decode cX7_touches 60 = .ok (.goto 4, 3) := by decide +kernel
theorem dX7_touches_63 : decode cX7_touches 63 = .ok (.iconst 0, 1) := by decide +kernel
theorem dX7_touches_64 : decode cX7_touches 64 = .ok (.invokestatic 160, 3) := by decide +kernel
theorem dX7_touches_67 : decode cX7_touches 67 = .ok (.ireturn, 1) := by decide +kernel
theorem dX7_lines_0 : decode cX7_lines 0 = .ok (.aload_n 0, 1) := by decide +kernel
theorem dX7_lines_1 : decode cX7_lines 1 = .ok (.iload_n 1, 1) := by decide +kernel
theorem dX7_lines_2 : decode cX7_lines 2 = .ok (.iload_n 2, 1) := by decide +kernel
theorem dX7_lines_3 : decode cX7_lines 3 = .ok (.invokevirtual 203, 3) := by decide +kernel
theorem dX7_lines_6 : decode cX7_lines 6 = .ok (.istore_n 3, 1) := by decide +kernel
theorem dX7_lines_7 : decode cX7_lines 7 = .ok (.iload_n 3, 1) := by decide +kernel
theorem dX7_lines_8 : decode cX7_lines 8 = .ok (.ifCond .eq 5, 3) := by decide +kernel
theorem dX7_lines_11 : decode cX7_lines 11 = .ok (.iload_n 3, 1) := by decide +kernel
theorem dX7_lines_12 : decode cX7_lines 12 = .ok (.ireturn, 1) := by decide +kernel
theorem dX7_lines_13 : decode cX7_lines 13 = .ok (.aload_n 0, 1) := by decide +kernel
theorem dX7_lines_14 : decode cX7_lines 14 = .ok (.getfield 17, 3) := by decide +kernel
theorem dX7_lines_17 : decode cX7_lines 17 = .ok (.iload_n 1, 1) := by decide +kernel
theorem dX7_lines_18 : decode cX7_lines 18 = .ok (.aaload, 1) := by decide +kernel
theorem dX7_lines_19 : decode cX7_lines 19 = .ok (.astore 4, 2) := by decide +kernel
theorem dX7_lines_21 : decode cX7_lines 21 = .ok (.aload 4, 2) := by decide +kernel
theorem dX7_lines_23 : decode cX7_lines 23 = .ok (.getfield 141, 3) := by decide +kernel
theorem dX7_lines_26 : decode cX7_lines 26 = .ok (.aload_n 0, 1) := by decide +kernel
theorem dX7_lines_27 : decode cX7_lines 27 = .ok (.getfield 52, 3) := by decide +kernel
theorem dX7_lines_30 : decode cX7_lines 30 = .ok (.aload_n 0, 1) := by decide +kernel
theorem dX7_lines_31 : decode cX7_lines 31 = .ok (.getfield 52, 3) := by decide +kernel
theorem dX7_lines_34 : decode cX7_lines 34 = .ok (.invokevirtual 206, 3) := by decide +kernel
theorem dX7_lines_37 : decode cX7_lines 37 = .ok (.lconst 0, 1) := by decide +kernel
theorem dX7_lines_38 : decode cX7_lines 38 = .ok (.lcmp, 1) := by decide +kernel
theorem dX7_lines_39 : decode cX7_lines 39 = .ok (.ifCond .eq 5, 3) := by decide +kernel
theorem dX7_lines_42 : decode cX7_lines 42 = .ok (.iconst 0, 1) := by decide +kernel
theorem dX7_lines_43 : decode cX7_lines 43 = .ok (.ireturn, 1) := by decide +kernel
theorem dX7_lines_44 : decode cX7_lines 44 = .ok (.aload 4, 2) := by decide +kernel
theorem dX7_lines_46 : decode cX7_lines 46 = .ok (.invokevirtual 245, 3) := by decide +kernel
theorem dX7_lines_49 : decode cX7_lines 49 = .ok (.tableswitch 90 1 4 #[33, 65, 90, 31], 31) := by decide +kernel
theorem dX7_lines_80 : decode cX7_lines 80 = .ok (.iconst 2, 1) := by decide +kernel
theorem dX7_lines_81 : decode cX7_lines 81 = .ok (.ireturn, 1) := by decide +kernel
theorem dX7_lines_82 : decode cX7_lines 82 = .ok (.aload 4, 2) := by decide +kernel
theorem dX7_lines_84 : decode cX7_lines 84 = .ok (.invokevirtual 157, 3) := by decide +kernel
theorem dX7_lines_87 : decode cX7_lines 87 = .ok (.ifCond .ne 5, 3) := by decide +kernel
theorem dX7_lines_90 : decode cX7_lines 90 = .ok (.iconst 0, 1) := by decide +kernel
theorem dX7_lines_91 : decode cX7_lines 91 = .ok (.ireturn, 1) := by decide +kernel
theorem dX7_lines_92 : decode cX7_lines 92 = .ok (.aload 4, 2) := by decide +kernel
theorem dX7_lines_94 : decode cX7_lines 94 = .ok (.getfield 141, 3) := by decide +kernel
theorem dX7_lines_97 : decode cX7_lines 97 = .ok (.aload_n 0, 1) := by decide +kernel
theorem dX7_lines_98 : decode cX7_lines 98 = .ok (.getfield 52, 3) := by decide +kernel
theorem dX7_lines_101 : decode cX7_lines 101 = .ok (.invokevirtual 248, 3) := by decide +kernel
theorem dX7_lines_104 : decode cX7_lines 104 = .ok (.ifCond .eq 8, 3) := by decide +kernel
theorem dX7_lines_107 : decode cX7_lines 107 = .ok (.bipush 9, 2) := by decide +kernel
theorem dX7_lines_109 : decode cX7_lines 109 = .ok (.goto 4, 3) := by decide +kernel
theorem dX7_lines_112 : decode cX7_lines 112 = .ok (.iconst 1, 1) := by decide +kernel
theorem dX7_lines_113 : decode cX7_lines 113 = .ok (.ireturn, 1) := by decide +kernel
theorem dX7_lines_114 : decode cX7_lines 114 = .ok (.aload 4, 2) := by decide +kernel
theorem dX7_lines_116 : decode cX7_lines 116 = .ok (.invokevirtual 164, 3) := by decide +kernel
theorem dX7_lines_119 : decode cX7_lines 119 = .ok (.iconst 2, 1) := by decide +kernel
theorem dX7_lines_120 : decode cX7_lines 120 = .ok (.if_icmp .eq 12, 3) := by decide +kernel
theorem dX7_lines_123 : decode cX7_lines 123 = .ok (.aload 4, 2) := by decide +kernel
theorem dX7_lines_125 : decode cX7_lines 125 = .ok (.invokevirtual 167, 3) := by decide +kernel
theorem dX7_lines_128 : decode cX7_lines 128 = .ok (.iconst 2, 1) := by decide +kernel
theorem dX7_lines_129 : decode cX7_lines 129 = .ok (.if_icmp .ne 7, 3) := by decide +kernel
theorem dX7_lines_132 : decode cX7_lines 132 = .ok (.iconst 1, 1) := by decide +kernel
theorem dX7_lines_133 : decode cX7_lines 133 = .ok (.goto 5, 3) := by decide +kernel
theorem dX7_lines_136 : decode cX7_lines 136 = .ok (.bipush 9, 2) := by decide +kernel
theorem dX7_lines_138 : decode cX7_lines 138 = .ok (.ireturn, 1) := by decide +kernel
theorem dX7_lines_139 : decode cX7_lines 139 = .ok (.iconst 0, 1) := by decide +kernel
theorem dX7_lines_140 : decode cX7_lines 140 = .ok (.ireturn, 1) := by decide +kernel
theorem dX7_middle_0 : decode cX7_middle 0 = .ok (.iload_n 2, 1) := by decide +kernel
theorem dX7_middle_1 : decode cX7_middle 1 = .ok (.ifCond .lt 8, 3) := by decide +kernel
theorem dX7_middle_4 : decode cX7_middle 4 = .ok (.iload_n 2, 1) := by decide +kernel
theorem dX7_middle_5 : decode cX7_middle 5 = .ok (.iconst 2, 1) := by decide +kernel
theorem dX7_middle_6 : decode cX7_middle 6 = .ok (.if_icmp .le 5, 3) := by decide +kernel
theorem dX7_middle_9 : decode cX7_middle 9 = .ok (.iconst (-1), 1) := by decide +kernel
theorem dX7_middle_10 : decode cX7_middle 10 = .ok (.ireturn, 1) := by decide +kernel
theorem dX7_middle_11 : decode cX7_middle 11 = .ok (.aload_n 0, 1) := by decide +kernel
theorem dX7_middle_12 : decode cX7_middle 12 = .ok (.iload_n 1, 1) := by decide +kernel
theorem dX7_middle_13 : decode cX7_middle 13 = .ok (.invokevirtual 131, 3) := by decide +kernel
theorem dX7_middle_16 : decode cX7_middle 16 = .ok (.istore_n 3, 1) := by decide +kernel
theorem dX7_middle_17 : decode cX7_middle 17 = .ok (.iload_n 3, 1) := by decide +kernel
theorem dX7_middle_18 : decode cX7_middle 18 = .ok (.ifCond .eq 5, 3) := by decide +kernel
theorem dX7_middle_21 : decode cX7_middle 21 = .ok (.iload_n 3, 1) := by decide +kernel
theorem dX7_middle_22 : decode cX7_middle 22 = .ok (.ireturn, 1) := by decide +kernel
theorem dX7_middle_23 : decode cX7_middle 23 = .ok (.aload_n 0, 1) := by decide +kernel
theorem dX7_middle_24 : decode cX7_middle 24 = .ok (.getfield 17, 3) := by decide +kernel
theorem dX7_middle_27 : decode cX7_middle 27 = .ok (.iload_n 1, 1) := by decide +kernel
theorem dX7_middle_28 : decode cX7_middle 28 = .ok (.aaload, 1) := by decide +kernel
theorem dX7_middle_29 : decode cX7_middle 29 = .ok (.invokevirtual 252, 3) := by decide +kernel
theorem dX7_middle_32 : decode cX7_middle 32 = .ok (.i2l, 1) := by decide +kernel
theorem dX7_middle_33 : decode cX7_middle 33 = .ok (.lstore 4, 2) := by decide +kernel
theorem dX7_middle_35 : decode cX7_middle 35 = .ok (.lload 4, 2) := by decide +kernel
theorem dX7_middle_37 : decode cX7_middle 37 = .ok (.lconst 0, 1) := by decide +kernel
theorem dX7_middle_38 : decode cX7_middle 38 = .ok (.lcmp, 1) := by decide +kernel
theorem dX7_middle_39 : decode cX7_middle 39 = .ok (.ifCond .ne 9, 3) := by decide +kernel
theorem dX7_middle_42 : decode cX7_middle 42 = .ok (.aload_n 0, 1) := by decide +kernel
theorem dX7_middle_43 : decode cX7_middle 43 = .ok (.iconst 4, 1) := by decide +kernel
theorem dX7_middle_44 : decode cX7_middle 44 = .ok (.invokevirtual 79, 3) := by decide +kernel
theorem dX7_middle_47 : decode cX7_middle 47 = .ok (.ireturn, 1) := by decide +kernel
theorem dX7_middle_48 : decode cX7_middle 48 = .ok (.aload_n 0, 1) := by decide +kernel
theorem dX7_middle_49 : decode cX7_middle 49 = .ok (.getfield 24, 3) := by decide +kernel
theorem dX7_middle_52 : decode cX7_middle 52 = .ok (.aload_n 0, 1) := by decide +kernel
theorem dX7_middle_53 : decode cX7_middle 53 = .ok (.getfield 17, 3) := by decide +kernel
theorem dX7_middle_56 : decode cX7_middle 56 = .ok (.iload_n 1, 1) := by decide +kernel
theorem dX7_middle_57 : decode cX7_middle 57 = .ok (.aaload, 1) := by decide +kernel
theorem dX7_middle_58 : decode cX7_middle 58 = .ok (.getfield 141, 3) := by decide +kernel
theorem dX7_middle_61 : decode cX7_middle 61 = .ok (.invokevirtual 182, 3) := by decide +kernel
theorem dX7_middle_64 : decode cX7_middle 64 = .ok (.aload_n 0, 1) := by decide +kernel
theorem dX7_middle_65 : decode cX7_middle 65 = .ok (.getfield 24, 3) := by decide +kernel
theorem dX7_middle_68 : decode cX7_middle 68 = .ok (.iload_n 2, 1) := by decide +kernel
theorem dX7_middle_69 : decode cX7_middle 69 = .ok (.invokevirtual 255, 3) := by decide +kernel
theorem dX7_middle_72 : decode cX7_middle 72 = .ok (.aload_n 0, 1) := by decide +kernel
theorem dX7_middle_73 : decode cX7_middle 73 = .ok (.aload_n 0, 1) := by decide +kernel
theorem dX7_middle_74 : decode cX7_middle 74 = .ok (.getfield 24, 3) := by decide +kernel
theorem dX7_middle_77 : decode cX7_middle 77 = .ok (.iconst 0, 1) := by decide +kernel
theorem dX7_middle_78 : decode cX7_middle 78 = .ok (.iconst 1, 1) := by decide +kernel
theorem dX7_middle_79 : decode cX7_middle 79 = .ok (.iconst 2, 1) := by decide +kernel
theorem dX7_middle_80 : decode cX7_middle 80 = .ok (.invokevirtual 258, 3) := by decide +kernel
theorem dX7_middle_83 : decode cX7_middle 83 = .ok (.lload 4, 2) := by decide +kernel
theorem dX7_middle_85 : decode cX7_middle 85 = .ok (.invokevirtual 262, 3) := by decide +kernel
theorem dX7_middle_88 : decode cX7_middle 88 = .ok (.iconst 1, 1) := by decide +kernel
theorem dX7_middle_89 : decode cX7_middle 89 = .ok (.ireturn, 1) := by decide +kernel
theorem dX7_form_0 : decode cX7_form 0 = .ok (.aload_n 0, 1) := by decide +kernel
theorem dX7_form_1 : decode cX7_form 1 = .ok (.iload_n 1, 1) := by decide +kernel
theorem dX7_form_2 : decode cX7_form 2 = .ok (.iload_n 2, 1) := by decide +kernel
theorem dX7_form_3 : decode cX7_form 3 = .ok (.invokevirtual 266, 3) := by decide +kernel
theorem dX7_form_6 : decode cX7_form 6 = .ok (.istore_n 3, 1) := by decide +kernel
theorem dX7_form_7 : decode cX7_form 7 = .ok (.iload_n 3, 1) := by decide +kernel
theorem dX7_form_8 : decode cX7_form 8 = .ok (.ifCond .eq 5, 3) := by decide +kernel
theorem dX7_form_11 : decode cX7_form 11 = .ok (.iload_n 3, 1) := by decide +kernel
theorem dX7_form_12 : decode cX7_form 12 = .ok (.ireturn, 1) := by decide +kernel
theorem dX7_form_13 : decode cX7_form 13 = .ok (.iconst 0, 1) := by decide +kernel
theorem dX7_form_14 : decode cX7_form 14 = .ok (.istore 4, 2) := by decide +kernel
theorem dX7_form_16 : decode cX7_form 16 = .ok (.iconst 0, 1) := by decide +kernel
theorem dX7_form_17 : decode cX7_form 17 = .ok (.istore 5, 2) := by decide +kernel
theorem dX7_form_19 : decode cX7_form 19 = .ok (.iload 5, 2) := by decide +kernel
theorem dX7_form_21 : decode cX7_form 21 = .ok (.iconst 5, 1) := by decide +kernel
theorem dX7_form_22 : decode cX7_form 22 = .ok (.if_icmp .ge 40, 3) := by decide +kernel
theorem dX7_form_25 : decode cX7_form 25 = .ok (.aload_n 0, 1) := by decide +kernel
theorem dX7_form_26 : decode cX7_form 26 = .ok (.getfield 63, 3) := by decide +kernel
theorem dX7_form_29 : decode cX7_form 29 = .ok (.iload 5, 2) := by decide +kernel
theorem dX7_form_31 : decode cX7_form 31 = .ok (.aload_n 0, 1) := by decide +kernel
theorem dX7_form_32 : decode cX7_form 32 = .ok (.getfield 34, 3) := by decide +kernel
theorem dX7_form_35 : decode cX7_form 35 = .ok (.getfield 269, 3) := by decide +kernel
theorem dX7_form_38 : decode cX7_form 38 = .ok (.iload 5, 2) := by decide +kernel
theorem dX7_form_40 : decode cX7_form 40 = .ok (.laload, 1) := by decide +kernel
theorem dX7_form_41 : decode cX7_form 41 = .ok (.l2i, 1) := by decide +kernel
theorem dX7_form_42 : decode cX7_form 42 = .ok (.iastore, 1) := by decide +kernel
theorem dX7_form_43 : decode cX7_form 43 = .ok (.aload_n 0, 1) := by decide +kernel
theorem dX7_form_44 : decode cX7_form 44 = .ok (.getfield 63, 3) := by decide +kernel
theorem dX7_form_47 : decode cX7_form 47 = .ok (.iload 5, 2) := by decide +kernel
theorem dX7_form_49 : decode cX7_form 49 = .ok (.iaload, 1) := by decide +kernel
theorem dX7_form_50 : decode cX7_form 50 = .ok (.ifCond .eq 6, 3) := by decide +kernel
theorem dX7_form_53 : decode cX7_form 53 = .ok (.iinc 4 1, 3) := by decide +kernel
theorem dX7_form_56 : decode cX7_form 56 = .ok (.iinc 5 1, 3) := by decide +kernel
theorem dX7_form_59 : decode cX7_form 59 = .ok (.goto (-40), 3) := by decide +kernel
theorem dX7_form_62 : decode cX7_form 62 = .ok (.aload_n 0, 1) := by decide +kernel
theorem dX7_form_63 : decode cX7_form 63 = .ok (.iconst 1, 1) := by decide +kernel
theorem dX7_form_64 : decode cX7_form 64 = .ok (.putfield 270, 3) := by decide +kernel
theorem dX7_form_67 : decode cX7_form 67 = .ok (.iload 4, 2) := by decide +kernel
theorem dX7_form_69 : decode cX7_form 69 = .ok (.ireturn, 1) := by decide +kernel
theorem dX7_formTold_0 : decode cX7_formTold 0 = .ok (.iload_n 1, 1) := by decide +kernel
theorem dX7_formTold_1 : decode cX7_formTold 1 = .ok (.ifCond .lt 8, 3) := by decide +kernel
theorem dX7_formTold_4 : decode cX7_formTold 4 = .ok (.iload_n 1, 1) := by decide +kernel
theorem dX7_formTold_5 : decode cX7_formTold 5 = .ok (.iconst 4, 1) := by decide +kernel
theorem dX7_formTold_6 : decode cX7_formTold 6 = .ok (.if_icmp .le 5, 3) := by decide +kernel
theorem dX7_formTold_9 : decode cX7_formTold 9 = .ok (.iconst (-1), 1) := by decide +kernel
theorem dX7_formTold_10 : decode cX7_formTold 10 = .ok (.ireturn, 1) := by decide +kernel
theorem dX7_formTold_11 : decode cX7_formTold 11 = .ok (.aload_n 0, 1) := by decide +kernel
theorem dX7_formTold_12 : decode cX7_formTold 12 = .ok (.getfield 270, 3) := by decide +kernel
theorem dX7_formTold_15 : decode cX7_formTold 15 = .ok (.ifCond .ne 6, 3) := by decide +kernel
theorem dX7_formTold_18 : decode cX7_formTold 18 = .ok (.bipush (-4), 2) := by decide +kernel
theorem dX7_formTold_20 : decode cX7_formTold 20 = .ok (.ireturn, 1) := by decide +kernel
theorem dX7_formTold_21 : decode cX7_formTold 21 = .ok (.aload_n 0, 1) := by decide +kernel
theorem dX7_formTold_22 : decode cX7_formTold 22 = .ok (.aload_n 0, 1) := by decide +kernel
theorem dX7_formTold_23 : decode cX7_formTold 23 = .ok (.getfield 63, 3) := by decide +kernel
theorem dX7_formTold_26 : decode cX7_formTold 26 = .ok (.iload_n 1, 1) := by decide +kernel
theorem dX7_formTold_27 : decode cX7_formTold 27 = .ok (.iaload, 1) := by decide +kernel
theorem dX7_formTold_28 : decode cX7_formTold 28 = .ok (.putfield 98, 3) := by decide +kernel
theorem dX7_formTold_31 : decode cX7_formTold 31 = .ok (.iconst 1, 1) := by decide +kernel
theorem dX7_formTold_32 : decode cX7_formTold 32 = .ok (.ireturn, 1) := by decide +kernel
theorem dX7_roots_0 : decode cX7_roots 0 = .ok (.aload_n 0, 1) := by decide +kernel
theorem dX7_roots_1 : decode cX7_roots 1 = .ok (.iload_n 1, 1) := by decide +kernel
theorem dX7_roots_2 : decode cX7_roots 2 = .ok (.iload_n 2, 1) := by decide +kernel
theorem dX7_roots_3 : decode cX7_roots 3 = .ok (.invokevirtual 266, 3) := by decide +kernel
theorem dX7_roots_6 : decode cX7_roots 6 = .ok (.istore_n 3, 1) := by decide +kernel
theorem dX7_roots_7 : decode cX7_roots 7 = .ok (.iload_n 3, 1) := by decide +kernel
theorem dX7_roots_8 : decode cX7_roots 8 = .ok (.ifCond .eq 5, 3) := by decide +kernel
theorem dX7_roots_11 : decode cX7_roots 11 = .ok (.iload_n 3, 1) := by decide +kernel
theorem dX7_roots_12 : decode cX7_roots 12 = .ok (.ireturn, 1) := by decide +kernel
theorem dX7_roots_13 : decode cX7_roots 13 = .ok (.aload_n 0, 1) := by decide +kernel
theorem dX7_roots_14 : decode cX7_roots 14 = .ok (.getfield 34, 3) := by decide +kernel
theorem dX7_roots_17 : decode cX7_roots 17 = .ok (.invokevirtual 273, 3) := by decide +kernel
theorem dX7_roots_20 : decode cX7_roots 20 = .ok (.ifCond .eq 8, 3) := by decide +kernel
theorem dX7_roots_23 : decode cX7_roots 23 = .ok (.bipush 9, 2) := by decide +kernel
theorem dX7_roots_25 : decode cX7_roots 25 = .ok (.goto 10, 3) := by decide +kernel
theorem dX7_roots_28 : decode cX7_roots 28 = .ok (.aload_n 0, 1) := by decide +kernel
theorem dX7_roots_29 : decode cX7_roots 29 = .ok (.getfield 34, 3) := by decide +kernel
theorem dX7_roots_32 : decode cX7_roots 32 = .ok (.invokevirtual 276, 3) := by decide +kernel
theorem dX7_roots_35 : decode cX7_roots 35 = .ok (.ireturn, 1) := by decide +kernel
theorem dX7_pattern_0 : decode cX7_pattern 0 = .ok (.aload_n 0, 1) := by decide +kernel
theorem dX7_pattern_1 : decode cX7_pattern 1 = .ok (.iload_n 1, 1) := by decide +kernel
theorem dX7_pattern_2 : decode cX7_pattern 2 = .ok (.iload_n 2, 1) := by decide +kernel
theorem dX7_pattern_3 : decode cX7_pattern 3 = .ok (.invokevirtual 266, 3) := by decide +kernel
theorem dX7_pattern_6 : decode cX7_pattern 6 = .ok (.istore_n 3, 1) := by decide +kernel
theorem dX7_pattern_7 : decode cX7_pattern 7 = .ok (.iload_n 3, 1) := by decide +kernel
theorem dX7_pattern_8 : decode cX7_pattern 8 = .ok (.ifCond .eq 5, 3) := by decide +kernel
theorem dX7_pattern_11 : decode cX7_pattern 11 = .ok (.iload_n 3, 1) := by decide +kernel
theorem dX7_pattern_12 : decode cX7_pattern 12 = .ok (.ireturn, 1) := by decide +kernel
theorem dX7_pattern_13 : decode cX7_pattern 13 = .ok (.aload_n 0, 1) := by decide +kernel
theorem dX7_pattern_14 : decode cX7_pattern 14 = .ok (.getfield 34, 3) := by decide +kernel
theorem dX7_pattern_17 : decode cX7_pattern 17 = .ok (.invokevirtual 279, 3) := by decide +kernel
theorem dX7_pattern_20 : decode cX7_pattern 20 = .ok (.ireturn, 1) := by decide +kernel
theorem dX7_rational_0 : decode cX7_rational 0 = .ok (.aload_n 0, 1) := by decide +kernel
theorem dX7_rational_1 : decode cX7_rational 1 = .ok (.iload_n 1, 1) := by decide +kernel
theorem dX7_rational_2 : decode cX7_rational 2 = .ok (.iload_n 2, 1) := by decide +kernel
theorem dX7_rational_3 : decode cX7_rational 3 = .ok (.invokevirtual 266, 3) := by decide +kernel
theorem dX7_rational_6 : decode cX7_rational 6 = .ok (.istore 4, 2) := by decide +kernel
theorem dX7_rational_8 : decode cX7_rational 8 = .ok (.iload 4, 2) := by decide +kernel
theorem dX7_rational_10 : decode cX7_rational 10 = .ok (.ifCond .eq 6, 3) := by decide +kernel
theorem dX7_rational_13 : decode cX7_rational 13 = .ok (.iload 4, 2) := by decide +kernel
theorem dX7_rational_15 : decode cX7_rational 15 = .ok (.ireturn, 1) := by decide +kernel
theorem dX7_rational_16 : decode cX7_rational 16 = .ok (.aload_n 0, 1) := by decide +kernel
theorem dX7_rational_17 : decode cX7_rational 17 = .ok (.getfield 34, 3) := by decide +kernel
theorem dX7_rational_20 : decode cX7_rational 20 = .ok (.invokevirtual 273, 3) := by decide +kernel
theorem dX7_rational_23 : decode cX7_rational 23 = .ok (.ifCond .eq 6, 3) := by decide +kernel
theorem dX7_rational_26 : decode cX7_rational 26 = .ok (.bipush (-4), 2) := by decide +kernel
theorem dX7_rational_28 : decode cX7_rational 28 = .ok (.ireturn, 1) := by decide +kernel
theorem dX7_rational_29 : decode cX7_rational 29 = .ok (.aload_n 0, 1) := by decide +kernel
theorem dX7_rational_30 : decode cX7_rational 30 = .ok (.getfield 34, 3) := by decide +kernel
theorem dX7_rational_33 : decode cX7_rational 33 = .ok (.invokevirtual 282, 3) := by decide +kernel
theorem dX7_rational_36 : decode cX7_rational 36 = .ok (.iload_n 3, 1) := by decide +kernel
theorem dX7_rational_37 : decode cX7_rational 37 = .ok (.ifCond .lt 14, 3) := by decide +kernel
theorem dX7_rational_40 : decode cX7_rational 40 = .ok (.iload_n 3, 1) := by decide +kernel
theorem dX7_rational_41 : decode cX7_rational 41 = .ok (.aload_n 0, 1) := by decide +kernel
theorem dX7_rational_42 : decode cX7_rational 42 = .ok (.getfield 34, 3) := by decide +kernel
theorem dX7_rational_45 : decode cX7_rational 45 = .ok (.getfield 285, 3) := by decide +kernel
theorem dX7_rational_48 : decode cX7_rational 48 = .ok (.if_icmp .lt 6, 3) := by decide +kernel
theorem dX7_rational_51 : decode cX7_rational 51 = .ok (.bipush (-9), 2) := by decide +kernel
theorem dX7_rational_53 : decode cX7_rational 53 = .ok (.ireturn, 1) := by decide +kernel
theorem dX7_rational_54 : decode cX7_rational 54 = .ok (.aload_n 0, 1) := by decide +kernel
theorem dX7_rational_55 : decode cX7_rational 55 = .ok (.getfield 34, 3) := by decide +kernel
theorem dX7_rational_58 : decode cX7_rational 58 = .ok (.getfield 288, 3) := by decide +kernel
theorem dX7_rational_61 : decode cX7_rational 61 = .ok (.iload_n 3, 1) := by decide +kernel
theorem dX7_rational_62 : decode cX7_rational 62 = .ok (.iaload, 1) := by decide +kernel
theorem dX7_rational_63 : decode cX7_rational 63 = .ok (.i2l, 1) := by decide +kernel
theorem dX7_rational_64 : decode cX7_rational 64 = .ok (.lstore 5, 2) := by decide +kernel
theorem dX7_rational_66 : decode cX7_rational 66 = .ok (.aload_n 0, 1) := by decide +kernel
theorem dX7_rational_67 : decode cX7_rational 67 = .ok (.getfield 34, 3) := by decide +kernel
theorem dX7_rational_70 : decode cX7_rational 70 = .ok (.getfield 291, 3) := by decide +kernel
theorem dX7_rational_73 : decode cX7_rational 73 = .ok (.iload_n 3, 1) := by decide +kernel
theorem dX7_rational_74 : decode cX7_rational 74 = .ok (.iaload, 1) := by decide +kernel
theorem dX7_rational_75 : decode cX7_rational 75 = .ok (.i2l, 1) := by decide +kernel
theorem dX7_rational_76 : decode cX7_rational 76 = .ok (.lstore 7, 2) := by decide +kernel
theorem dX7_rational_78 : decode cX7_rational 78 = .ok (.aload_n 0, 1) := by decide +kernel
theorem dX7_rational_79 : decode cX7_rational 79 = .ok (.lload 5, 2) := by decide +kernel
theorem dX7_rational_81 : decode cX7_rational 81 = .ok (.lload 7, 2) := by decide +kernel
theorem dX7_rational_83 : decode cX7_rational 83 = .ok (.invokevirtual 262, 3) := by decide +kernel
theorem dX7_rational_86 : decode cX7_rational 86 = .ok (.aload_n 0, 1) := by decide +kernel
theorem dX7_rational_87 : decode cX7_rational 87 = .ok (.getfield 34, 3) := by decide +kernel
theorem dX7_rational_90 : decode cX7_rational 90 = .ok (.lload 5, 2) := by decide +kernel
theorem dX7_rational_92 : decode cX7_rational 92 = .ok (.lload 7, 2) := by decide +kernel
theorem dX7_rational_94 : decode cX7_rational 94 = .ok (.invokevirtual 294, 3) := by decide +kernel
theorem dX7_rational_97 : decode cX7_rational 97 = .ok (.ireturn, 1) := by decide +kernel
theorem dX7_between_0 : decode cX7_between 0 = .ok (.iload_n 3, 1) := by decide +kernel
theorem dX7_between_1 : decode cX7_between 1 = .ok (.iconst 1, 1) := by decide +kernel
theorem dX7_between_2 : decode cX7_between 2 = .ok (.if_icmp .lt 9, 3) := by decide +kernel
theorem dX7_between_5 : decode cX7_between 5 = .ok (.iload_n 3, 1) := by decide +kernel
theorem dX7_between_6 : decode cX7_between 6 = .ok (.bipush 8, 2) := by decide +kernel
theorem dX7_between_8 : decode cX7_between 8 = .ok (.if_icmp .le 5, 3) := by decide +kernel
theorem dX7_between_11 : decode cX7_between 11 = .ok (.iconst (-1), 1) := by decide +kernel
theorem dX7_between_12 : decode cX7_between 12 = .ok (.ireturn, 1) := by decide +kernel
theorem dX7_between_13 : decode cX7_between 13 = .ok (.aload_n 0, 1) := by decide +kernel
theorem dX7_between_14 : decode cX7_between 14 = .ok (.iload_n 1, 1) := by decide +kernel
theorem dX7_between_15 : decode cX7_between 15 = .ok (.iload_n 2, 1) := by decide +kernel
theorem dX7_between_16 : decode cX7_between 16 = .ok (.invokevirtual 266, 3) := by decide +kernel
theorem dX7_between_19 : decode cX7_between 19 = .ok (.istore 4, 2) := by decide +kernel
theorem dX7_between_21 : decode cX7_between 21 = .ok (.iload 4, 2) := by decide +kernel
theorem dX7_between_23 : decode cX7_between 23 = .ok (.ifCond .eq 6, 3) := by decide +kernel
theorem dX7_between_26 : decode cX7_between 26 = .ok (.iload 4, 2) := by decide +kernel
theorem dX7_between_28 : decode cX7_between 28 = .ok (.ireturn, 1) := by decide +kernel
theorem dX7_between_29 : decode cX7_between 29 = .ok (.aload_n 0, 1) := by decide +kernel
theorem dX7_between_30 : decode cX7_between 30 = .ok (.getfield 41, 3) := by decide +kernel
theorem dX7_between_33 : decode cX7_between 33 = .ok (.aload_n 0, 1) := by decide +kernel
theorem dX7_between_34 : decode cX7_between 34 = .ok (.getfield 34, 3) := by decide +kernel
theorem dX7_between_37 : decode cX7_between 37 = .ok (.aload_n 0, 1) := by decide +kernel
theorem dX7_between_38 : decode cX7_between 38 = .ok (.getfield 17, 3) := by decide +kernel
theorem dX7_between_41 : decode cX7_between 41 = .ok (.iload_n 1, 1) := by decide +kernel
theorem dX7_between_42 : decode cX7_between 42 = .ok (.aaload, 1) := by decide +kernel
theorem dX7_between_43 : decode cX7_between 43 = .ok (.getfield 141, 3) := by decide +kernel
theorem dX7_between_46 : decode cX7_between 46 = .ok (.aload_n 0, 1) := by decide +kernel
theorem dX7_between_47 : decode cX7_between 47 = .ok (.getfield 17, 3) := by decide +kernel
theorem dX7_between_50 : decode cX7_between 50 = .ok (.iload_n 2, 1) := by decide +kernel
theorem dX7_between_51 : decode cX7_between 51 = .ok (.aaload, 1) := by decide +kernel
theorem dX7_between_52 : decode cX7_between 52 = .ok (.getfield 141, 3) := by decide +kernel
theorem dX7_between_55 : decode cX7_between 55 = .ok (.iload_n 3, 1) := by decide +kernel
theorem dX7_between_56 : decode cX7_between 56 = .ok (.invokevirtual 298, 3) := by decide +kernel
theorem dX7_between_59 : decode cX7_between 59 = .ok (.aload_n 0, 1) := by decide +kernel
theorem dX7_between_60 : decode cX7_between 60 = .ok (.aload_n 0, 1) := by decide +kernel
theorem dX7_between_61 : decode cX7_between 61 = .ok (.getfield 41, 3) := by decide +kernel
theorem dX7_between_64 : decode cX7_between 64 = .ok (.getfield 302, 3) := by decide +kernel
theorem dX7_between_67 : decode cX7_between 67 = .ok (.putfield 98, 3) := by decide +kernel
theorem dX7_between_70 : decode cX7_between 70 = .ok (.aload_n 0, 1) := by decide +kernel
theorem dX7_between_71 : decode cX7_between 71 = .ok (.getfield 34, 3) := by decide +kernel
theorem dX7_between_74 : decode cX7_between 74 = .ok (.invokevirtual 273, 3) := by decide +kernel
theorem dX7_between_77 : decode cX7_between 77 = .ok (.ifCond .ne 24, 3) := by decide +kernel
theorem dX7_between_80 : decode cX7_between 80 = .ok (.aload_n 0, 1) := by decide +kernel
theorem dX7_between_81 : decode cX7_between 81 = .ok (.getfield 41, 3) := by decide +kernel
theorem dX7_between_84 : decode cX7_between 84 = .ok (.getfield 304, 3) := by decide +kernel
theorem dX7_between_87 : decode cX7_between 87 = .ok (.aload_n 0, 1) := by decide +kernel
theorem dX7_between_88 : decode cX7_between 88 = .ok (.getfield 34, 3) := by decide +kernel
theorem dX7_between_91 : decode cX7_between 91 = .ok (.invokevirtual 307, 3) := by decide +kernel
theorem dX7_between_94 : decode cX7_between 94 = .ok (.if_icmp .ne 7, 3) := by decide +kernel
theorem dX7_between_97 : decode cX7_between 97 = .ok (.iconst 1, 1) := by decide +kernel
theorem dX7_between_98 : decode cX7_between 98 = .ok (.goto 4, 3) := by decide +kernel
theorem dX7_between_101 : decode cX7_between 101 = .ok (.iconst 0, 1) := by decide +kernel
theorem dX7_between_102 : decode cX7_between 102 = .ok (.istore 5, 2) := by decide +kernel
theorem dX7_between_104 : decode cX7_between 104 = .ok (.iload 5, 2) := by decide +kernel
theorem dX7_between_106 : decode cX7_between 106 = .ok (.ifCond .eq 13, 3) := by decide +kernel
theorem dX7_between_109 : decode cX7_between 109 = .ok (.aload_n 0, 1) := by decide +kernel
theorem dX7_between_110 : decode cX7_between 110 = .ok (.getfield 41, 3) := by decide +kernel
theorem dX7_between_113 : decode cX7_between 113 = .ok (.getfield 302, 3) := by decide +kernel
theorem dX7_between_116 : decode cX7_between 116 = .ok (.goto 5, 3) := by decide +kernel
theorem dX7_between_119 : decode cX7_between 119 = .ok (.bipush (-6), 2) := by decide +kernel
theorem dX7_between_121 : decode cX7_between 121 = .ok (.ireturn, 1) := by decide +kernel
theorem dX7_apart_0 : decode cX7_apart 0 = .ok (.iload_n 1, 1) := by decide +kernel
theorem dX7_apart_1 : decode cX7_apart 1 = .ok (.iload_n 2, 1) := by decide +kernel
theorem dX7_apart_2 : decode cX7_apart 2 = .ok (.if_icmp .ne 5, 3) := by decide +kernel
theorem dX7_apart_5 : decode cX7_apart 5 = .ok (.iconst (-1), 1) := by decide +kernel
theorem dX7_apart_6 : decode cX7_apart 6 = .ok (.ireturn, 1) := by decide +kernel
theorem dX7_apart_7 : decode cX7_apart 7 = .ok (.aload_n 0, 1) := by decide +kernel
theorem dX7_apart_8 : decode cX7_apart 8 = .ok (.iload_n 1, 1) := by decide +kernel
theorem dX7_apart_9 : decode cX7_apart 9 = .ok (.iload_n 2, 1) := by decide +kernel
theorem dX7_apart_10 : decode cX7_apart 10 = .ok (.invokevirtual 196, 3) := by decide +kernel
theorem dX7_apart_13 : decode cX7_apart 13 = .ok (.istore_n 3, 1) := by decide +kernel
theorem dX7_apart_14 : decode cX7_apart 14 = .ok (.iload_n 3, 1) := by decide +kernel
theorem dX7_apart_15 : decode cX7_apart 15 = .ok (.ifCond .eq 5, 3) := by decide +kernel
theorem dX7_apart_18 : decode cX7_apart 18 = .ok (.iload_n 3, 1) := by decide +kernel
theorem dX7_apart_19 : decode cX7_apart 19 = .ok (.ireturn, 1) := by decide +kernel
theorem dX7_apart_20 : decode cX7_apart 20 = .ok (.aload_n 0, 1) := by decide +kernel
theorem dX7_apart_21 : decode cX7_apart 21 = .ok (.getfield 17, 3) := by decide +kernel
theorem dX7_apart_24 : decode cX7_apart 24 = .ok (.iload_n 1, 1) := by decide +kernel
theorem dX7_apart_25 : decode cX7_apart 25 = .ok (.aaload, 1) := by decide +kernel
theorem dX7_apart_26 : decode cX7_apart 26 = .ok (.iconst 3, 1) := by decide +kernel
theorem dX7_apart_27 : decode cX7_apart 27 = .ok (.invokevirtual 150, 3) := by decide +kernel
theorem dX7_apart_30 : decode cX7_apart 30 = .ok (.ifCond .eq 16, 3) := by decide +kernel
theorem dX7_apart_33 : decode cX7_apart 33 = .ok (.aload_n 0, 1) := by decide +kernel
theorem dX7_apart_34 : decode cX7_apart 34 = .ok (.getfield 17, 3) := by decide +kernel
theorem dX7_apart_37 : decode cX7_apart 37 = .ok (.iload_n 2, 1) := by decide +kernel
theorem dX7_apart_38 : decode cX7_apart 38 = .ok (.aaload, 1) := by decide +kernel
theorem dX7_apart_39 : decode cX7_apart 39 = .ok (.iconst 3, 1) := by decide +kernel
theorem dX7_apart_40 : decode cX7_apart 40 = .ok (.invokevirtual 150, 3) := by decide +kernel
theorem dX7_apart_43 : decode cX7_apart 43 = .ok (.ifCond .ne 9, 3) := by decide +kernel
theorem dX7_apart_46 : decode cX7_apart 46 = .ok (.aload_n 0, 1) := by decide +kernel
theorem dX7_apart_47 : decode cX7_apart 47 = .ok (.iconst 3, 1) := by decide +kernel
theorem dX7_apart_48 : decode cX7_apart 48 = .ok (.invokevirtual 79, 3) := by decide +kernel
theorem dX7_apart_51 : decode cX7_apart 51 = .ok (.ireturn, 1) := by decide +kernel
theorem dX7_apart_52 : decode cX7_apart 52 = .ok (.aload_n 0, 1) := by decide +kernel
theorem dX7_apart_53 : decode cX7_apart 53 = .ok (.aload_n 0, 1) := by decide +kernel
theorem dX7_apart_54 : decode cX7_apart 54 = .ok (.getfield 17, 3) := by decide +kernel
theorem dX7_apart_57 : decode cX7_apart 57 = .ok (.iload_n 1, 1) := by decide +kernel
theorem dX7_apart_58 : decode cX7_apart 58 = .ok (.aaload, 1) := by decide +kernel
theorem dX7_apart_59 : decode cX7_apart 59 = .ok (.aload_n 0, 1) := by decide +kernel
theorem dX7_apart_60 : decode cX7_apart 60 = .ok (.getfield 17, 3) := by decide +kernel
theorem dX7_apart_63 : decode cX7_apart 63 = .ok (.iload_n 2, 1) := by decide +kernel
theorem dX7_apart_64 : decode cX7_apart 64 = .ok (.aaload, 1) := by decide +kernel
theorem dX7_apart_65 : decode cX7_apart 65 = .ok (.aload_n 0, 1) := by decide +kernel
theorem dX7_apart_66 : decode cX7_apart 66 = .ok (.getfield 17, 3) := by decide +kernel
theorem dX7_apart_69 : decode cX7_apart 69 = .ok (.iload_n 2, 1) := by decide +kernel
theorem dX7_apart_70 : decode cX7_apart 70 = .ok (.aaload, 1) := by decide +kernel
theorem dX7_apart_71 : decode cX7_apart 71 = .ok (.getfield 141, 3) := by decide +kernel
theorem dX7_apart_74 : decode cX7_apart 74 = .ok (.invokevirtual 310, 3) := by decide +kernel
theorem dX7_apart_77 : decode cX7_apart 77 = .ok (.ireturn, 1) := by decide +kernel
theorem dX7_first_0 : decode cX7_first 0 = .ok (.iload_n 1, 1) := by decide +kernel
theorem dX7_first_1 : decode cX7_first 1 = .ok (.invokestatic 114, 3) := by decide +kernel
theorem dX7_first_4 : decode cX7_first 4 = .ok (.ifCond .ne 34, 3) := by decide +kernel
theorem dX7_first_7 : decode cX7_first 7 = .ok (.iload_n 2, 1) := by decide +kernel
theorem dX7_first_8 : decode cX7_first 8 = .ok (.invokestatic 114, 3) := by decide +kernel
theorem dX7_first_11 : decode cX7_first 11 = .ok (.ifCond .ne 27, 3) := by decide +kernel
theorem dX7_first_14 : decode cX7_first 14 = .ok (.iload_n 1, 1) := by decide +kernel
theorem dX7_first_15 : decode cX7_first 15 = .ok (.iload_n 2, 1) := by decide +kernel
theorem dX7_first_16 : decode cX7_first 16 = .ok (.if_icmp .eq 22, 3) := by decide +kernel
theorem dX7_first_19 : decode cX7_first 19 = .ok (.iload_n 3, 1) := by decide +kernel
theorem dX7_first_20 : decode cX7_first 20 = .ok (.invokestatic 75, 3) := by decide +kernel
theorem dX7_first_23 : decode cX7_first 23 = .ok (.ifCond .ne 15, 3) := by decide +kernel
theorem dX7_first_26 : decode cX7_first 26 = .ok (.iload 4, 2) := by decide +kernel
theorem dX7_first_28 : decode cX7_first 28 = .ok (.ifCond .lt 10, 3) := by decide +kernel
theorem dX7_first_31 : decode cX7_first 31 = .ok (.iload 4, 2) := by decide +kernel
theorem dX7_first_33 : decode cX7_first 33 = .ok (.bipush 20, 2) := by decide +kernel
theorem dX7_first_35 : decode cX7_first 35 = .ok (.if_icmp .le 5, 3) := by decide +kernel
theorem dX7_first_38 : decode cX7_first 38 = .ok (.iconst (-1), 1) := by decide +kernel
theorem dX7_first_39 : decode cX7_first 39 = .ok (.ireturn, 1) := by decide +kernel
theorem dX7_first_40 : decode cX7_first 40 = .ok (.aload_n 0, 1) := by decide +kernel
theorem dX7_first_41 : decode cX7_first 41 = .ok (.getfield 17, 3) := by decide +kernel
theorem dX7_first_44 : decode cX7_first 44 = .ok (.iload_n 1, 1) := by decide +kernel
theorem dX7_first_45 : decode cX7_first 45 = .ok (.aaload, 1) := by decide +kernel
theorem dX7_first_46 : decode cX7_first 46 = .ok (.getfield 134, 3) := by decide +kernel
theorem dX7_first_49 : decode cX7_first 49 = .ok (.ifCond .eq 27, 3) := by decide +kernel
theorem dX7_first_52 : decode cX7_first 52 = .ok (.aload_n 0, 1) := by decide +kernel
theorem dX7_first_53 : decode cX7_first 53 = .ok (.getfield 17, 3) := by decide +kernel
theorem dX7_first_56 : decode cX7_first 56 = .ok (.iload_n 2, 1) := by decide +kernel
theorem dX7_first_57 : decode cX7_first 57 = .ok (.aaload, 1) := by decide +kernel
theorem dX7_first_58 : decode cX7_first 58 = .ok (.getfield 134, 3) := by decide +kernel
theorem dX7_first_61 : decode cX7_first 61 = .ok (.ifCond .eq 15, 3) := by decide +kernel
theorem dX7_first_64 : decode cX7_first 64 = .ok (.aload_n 0, 1) := by decide +kernel
theorem dX7_first_65 : decode cX7_first 65 = .ok (.getfield 11, 3) := by decide +kernel
theorem dX7_first_68 : decode cX7_first 68 = .ok (.iload_n 3, 1) := by decide +kernel
theorem dX7_first_69 : decode cX7_first 69 = .ok (.aaload, 1) := by decide +kernel
theorem dX7_first_70 : decode cX7_first 70 = .ok (.invokevirtual 87, 3) := by decide +kernel
theorem dX7_first_73 : decode cX7_first 73 = .ok (.ifCond .eq 9, 3) := by decide +kernel
theorem dX7_first_76 : decode cX7_first 76 = .ok (.aload_n 0, 1) := by decide +kernel
theorem dX7_first_77 : decode cX7_first 77 = .ok (.iconst 1, 1) := by decide +kernel
theorem dX7_first_78 : decode cX7_first 78 = .ok (.invokevirtual 79, 3) := by decide +kernel
theorem dX7_first_81 : decode cX7_first 81 = .ok (.ireturn, 1) := by decide +kernel
theorem dX7_first_82 : decode cX7_first 82 = .ok (.aload_n 0, 1) := by decide +kernel
theorem dX7_first_83 : decode cX7_first 83 = .ok (.getfield 17, 3) := by decide +kernel
theorem dX7_first_86 : decode cX7_first 86 = .ok (.iload_n 1, 1) := by decide +kernel
theorem dX7_first_87 : decode cX7_first 87 = .ok (.aaload, 1) := by decide +kernel
theorem dX7_first_88 : decode cX7_first 88 = .ok (.iconst 3, 1) := by decide +kernel
theorem dX7_first_89 : decode cX7_first 89 = .ok (.invokevirtual 150, 3) := by decide +kernel
theorem dX7_first_92 : decode cX7_first 92 = .ok (.ifCond .eq 16, 3) := by decide +kernel
theorem dX7_first_95 : decode cX7_first 95 = .ok (.aload_n 0, 1) := by decide +kernel
theorem dX7_first_96 : decode cX7_first 96 = .ok (.getfield 17, 3) := by decide +kernel
theorem dX7_first_99 : decode cX7_first 99 = .ok (.iload_n 2, 1) := by decide +kernel
theorem dX7_first_100 : decode cX7_first 100 = .ok (.aaload, 1) := by decide +kernel
theorem dX7_first_101 : decode cX7_first 101 = .ok (.iconst 3, 1) := by decide +kernel
theorem dX7_first_102 : decode cX7_first 102 = .ok (.invokevirtual 150, 3) := by decide +kernel
theorem dX7_first_105 : decode cX7_first 105 = .ok (.ifCond .ne 9, 3) := by decide +kernel
theorem dX7_first_108 : decode cX7_first 108 = .ok (.aload_n 0, 1) := by decide +kernel
theorem dX7_first_109 : decode cX7_first 109 = .ok (.iconst 3, 1) := by decide +kernel
theorem dX7_first_110 : decode cX7_first 110 = .ok (.invokevirtual 79, 3) := by decide +kernel
theorem dX7_first_113 : decode cX7_first 113 = .ok (.ireturn, 1) := by decide +kernel
theorem dX7_first_114 : decode cX7_first 114 = .ok (.aload_n 0, 1) := by decide +kernel
theorem dX7_first_115 : decode cX7_first 115 = .ok (.getfield 11, 3) := by decide +kernel
theorem dX7_first_118 : decode cX7_first 118 = .ok (.iload_n 3, 1) := by decide +kernel
theorem dX7_first_119 : decode cX7_first 119 = .ok (.aaload, 1) := by decide +kernel
theorem dX7_first_120 : decode cX7_first 120 = .ok (.getfield 91, 3) := by decide +kernel
theorem dX7_first_123 : decode cX7_first 123 = .ok (.iconst 3, 1) := by decide +kernel
theorem dX7_first_124 : decode cX7_first 124 = .ok (.if_icmp .ge 9, 3) := by decide +kernel
theorem dX7_first_127 : decode cX7_first 127 = .ok (.aload_n 0, 1) := by decide +kernel
theorem dX7_first_128 : decode cX7_first 128 = .ok (.iconst 5, 1) := by decide +kernel
theorem dX7_first_129 : decode cX7_first 129 = .ok (.invokevirtual 79, 3) := by decide +kernel
theorem dX7_first_132 : decode cX7_first 132 = .ok (.ireturn, 1) := by decide +kernel
theorem dX7_first_133 : decode cX7_first 133 = .ok (.aload_n 0, 1) := by decide +kernel
theorem dX7_first_134 : decode cX7_first 134 = .ok (.getfield 11, 3) := by decide +kernel
theorem dX7_first_137 : decode cX7_first 137 = .ok (.iload_n 3, 1) := by decide +kernel
theorem dX7_first_138 : decode cX7_first 138 = .ok (.aaload, 1) := by decide +kernel
theorem dX7_first_139 : decode cX7_first 139 = .ok (.iconst 3, 1) := by decide +kernel
theorem dX7_first_140 : decode cX7_first 140 = .ok (.iconst 4, 1) := by decide +kernel
theorem dX7_first_141 : decode cX7_first 141 = .ok (.invokevirtual 117, 3) := by decide +kernel
theorem dX7_first_144 : decode cX7_first 144 = .ok (.ifCond .eq 9, 3) := by decide +kernel
theorem dX7_first_147 : decode cX7_first 147 = .ok (.aload_n 0, 1) := by decide +kernel
theorem dX7_first_148 : decode cX7_first 148 = .ok (.iconst 2, 1) := by decide +kernel
theorem dX7_first_149 : decode cX7_first 149 = .ok (.invokevirtual 79, 3) := by decide +kernel
theorem dX7_first_152 : decode cX7_first 152 = .ok (.ireturn, 1) := by decide +kernel
theorem dX7_first_153 : decode cX7_first 153 = .ok (.bipush (-9), 2) := by decide +kernel
theorem dX7_first_155 : decode cX7_first 155 = .ok (.istore 5, 2) := by decide +kernel
theorem dX7_first_157 : decode cX7_first 157 = .ok (.iconst 0, 1) := by decide +kernel
theorem dX7_first_158 : decode cX7_first 158 = .ok (.istore 6, 2) := by decide +kernel
theorem dX7_first_160 : decode cX7_first 160 = .ok (.iload 6, 2) := by decide +kernel
theorem dX7_first_162 : decode cX7_first 162 = .ok (.iload 4, 2) := by decide +kernel
theorem dX7_first_164 : decode cX7_first 164 = .ok (.if_icmp .gt 93, 3) := by decide +kernel
theorem dX7_first_167 : decode cX7_first 167 = .ok (.aload_n 0, 1) := by decide +kernel
theorem dX7_first_168 : decode cX7_first 168 = .ok (.getfield 24, 3) := by decide +kernel
theorem dX7_first_171 : decode cX7_first 171 = .ok (.aload_n 0, 1) := by decide +kernel
theorem dX7_first_172 : decode cX7_first 172 = .ok (.getfield 17, 3) := by decide +kernel
theorem dX7_first_175 : decode cX7_first 175 = .ok (.iload_n 2, 1) := by decide +kernel
theorem dX7_first_176 : decode cX7_first 176 = .ok (.aaload, 1) := by decide +kernel
theorem dX7_first_177 : decode cX7_first 177 = .ok (.getfield 141, 3) := by decide +kernel
theorem dX7_first_180 : decode cX7_first 180 = .ok (.invokevirtual 182, 3) := by decide +kernel
theorem dX7_first_183 : decode cX7_first 183 = .ok (.aload_n 0, 1) := by decide +kernel
theorem dX7_first_184 : decode cX7_first 184 = .ok (.getfield 24, 3) := by decide +kernel
theorem dX7_first_187 : decode cX7_first 187 = .ok (.aload_n 0, 1) := by decide +kernel
theorem dX7_first_188 : decode cX7_first 188 = .ok (.getfield 11, 3) := by decide +kernel
theorem dX7_first_191 : decode cX7_first 191 = .ok (.iload_n 3, 1) := by decide +kernel
theorem dX7_first_192 : decode cX7_first 192 = .ok (.aaload, 1) := by decide +kernel
theorem dX7_first_193 : decode cX7_first 193 = .ok (.getfield 95, 3) := by decide +kernel
theorem dX7_first_196 : decode cX7_first 196 = .ok (.iload 6, 2) := by decide +kernel
theorem dX7_first_198 : decode cX7_first 198 = .ok (.invokevirtual 314, 3) := by decide +kernel
theorem dX7_first_201 : decode cX7_first 201 = .ok (.aload_n 0, 1) := by decide +kernel
theorem dX7_first_202 : decode cX7_first 202 = .ok (.getfield 24, 3) := by decide +kernel
theorem dX7_first_205 : decode cX7_first 205 = .ok (.bipush 30, 2) := by decide +kernel
theorem dX7_first_207 : decode cX7_first 207 = .ok (.invokevirtual 190, 3) := by decide +kernel
theorem dX7_first_210 : decode cX7_first 210 = .ok (.ifCond .eq 6, 3) := by decide +kernel
theorem dX7_first_213 : decode cX7_first 213 = .ok (.bipush (-6), 2) := by decide +kernel
theorem dX7_first_215 : decode cX7_first 215 = .ok (.ireturn, 1) := by decide +kernel
theorem dX7_first_216 : decode cX7_first 216 = .ok (.iload 5, 2) := by decide +kernel
theorem dX7_first_218 : decode cX7_first 218 = .ok (.bipush (-9), 2) := by decide +kernel
theorem dX7_first_220 : decode cX7_first 220 = .ok (.if_icmp .ne 31, 3) := by decide +kernel
theorem dX7_first_223 : decode cX7_first 223 = .ok (.aload_n 0, 1) := by decide +kernel
theorem dX7_first_224 : decode cX7_first 224 = .ok (.aload_n 0, 1) := by decide +kernel
theorem dX7_first_225 : decode cX7_first 225 = .ok (.getfield 17, 3) := by decide +kernel
theorem dX7_first_228 : decode cX7_first 228 = .ok (.iload_n 1, 1) := by decide +kernel
theorem dX7_first_229 : decode cX7_first 229 = .ok (.aaload, 1) := by decide +kernel
theorem dX7_first_230 : decode cX7_first 230 = .ok (.aload_n 0, 1) := by decide +kernel
theorem dX7_first_231 : decode cX7_first 231 = .ok (.getfield 17, 3) := by decide +kernel
theorem dX7_first_234 : decode cX7_first 234 = .ok (.iload_n 2, 1) := by decide +kernel
theorem dX7_first_235 : decode cX7_first 235 = .ok (.aaload, 1) := by decide +kernel
theorem dX7_first_236 : decode cX7_first 236 = .ok (.aload_n 0, 1) := by decide +kernel
theorem dX7_first_237 : decode cX7_first 237 = .ok (.getfield 24, 3) := by decide +kernel
theorem dX7_first_240 : decode cX7_first 240 = .ok (.invokevirtual 310, 3) := by decide +kernel
theorem dX7_first_243 : decode cX7_first 243 = .ok (.iconst 2, 1) := by decide +kernel
theorem dX7_first_244 : decode cX7_first 244 = .ok (.if_icmp .eq 7, 3) := by decide +kernel
theorem dX7_first_247 : decode cX7_first 247 = .ok (.iload 6, 2) := by decide +kernel
theorem dX7_first_249 : decode cX7_first 249 = .ok (.istore 5, 2) := by decide +kernel
theorem dX7_first_251 : decode cX7_first 251 = .ok (.iinc 6 1, 3) := by decide +kernel
theorem dX7_first_254 : decode cX7_first 254 = .ok (.goto (-94), 3) := by decide +kernel
theorem dX7_first_257 : decode cX7_first 257 = .ok (.iload 5, 2) := by decide +kernel
theorem dX7_first_259 : decode cX7_first 259 = .ok (.ireturn, 1) := by decide +kernel
theorem dX7_shared_0 : decode cX7_shared 0 = .ok (.iload_n 3, 1) := by decide +kernel
theorem dX7_shared_1 : decode cX7_shared 1 = .ok (.ifCond .lt 9, 3) := by decide +kernel
theorem dX7_shared_4 : decode cX7_shared 4 = .ok (.iload_n 3, 1) := by decide +kernel
theorem dX7_shared_5 : decode cX7_shared 5 = .ok (.bipush 10, 2) := by decide +kernel
theorem dX7_shared_7 : decode cX7_shared 7 = .ok (.if_icmp .le 5, 3) := by decide +kernel
theorem dX7_shared_10 : decode cX7_shared 10 = .ok (.iconst (-1), 1) := by decide +kernel
theorem dX7_shared_11 : decode cX7_shared 11 = .ok (.ireturn, 1) := by decide +kernel
theorem dX7_shared_12 : decode cX7_shared 12 = .ok (.aload_n 0, 1) := by decide +kernel
theorem dX7_shared_13 : decode cX7_shared 13 = .ok (.iload_n 1, 1) := by decide +kernel
theorem dX7_shared_14 : decode cX7_shared 14 = .ok (.iload_n 2, 1) := by decide +kernel
theorem dX7_shared_15 : decode cX7_shared 15 = .ok (.invokevirtual 196, 3) := by decide +kernel
theorem dX7_shared_18 : decode cX7_shared 18 = .ok (.istore 4, 2) := by decide +kernel
theorem dX7_shared_20 : decode cX7_shared 20 = .ok (.iload 4, 2) := by decide +kernel
theorem dX7_shared_22 : decode cX7_shared 22 = .ok (.ifCond .eq 6, 3) := by decide +kernel
theorem dX7_shared_25 : decode cX7_shared 25 = .ok (.iload 4, 2) := by decide +kernel
theorem dX7_shared_27 : decode cX7_shared 27 = .ok (.ireturn, 1) := by decide +kernel
theorem dX7_shared_28 : decode cX7_shared 28 = .ok (.aload_n 0, 1) := by decide +kernel
theorem dX7_shared_29 : decode cX7_shared 29 = .ok (.getfield 48, 3) := by decide +kernel
theorem dX7_shared_32 : decode cX7_shared 32 = .ok (.aload_n 0, 1) := by decide +kernel
theorem dX7_shared_33 : decode cX7_shared 33 = .ok (.getfield 17, 3) := by decide +kernel
theorem dX7_shared_36 : decode cX7_shared 36 = .ok (.iload_n 1, 1) := by decide +kernel
theorem dX7_shared_37 : decode cX7_shared 37 = .ok (.aaload, 1) := by decide +kernel
theorem dX7_shared_38 : decode cX7_shared 38 = .ok (.getfield 141, 3) := by decide +kernel
theorem dX7_shared_41 : decode cX7_shared 41 = .ok (.aload_n 0, 1) := by decide +kernel
theorem dX7_shared_42 : decode cX7_shared 42 = .ok (.getfield 17, 3) := by decide +kernel
theorem dX7_shared_45 : decode cX7_shared 45 = .ok (.iload_n 2, 1) := by decide +kernel
theorem dX7_shared_46 : decode cX7_shared 46 = .ok (.aaload, 1) := by decide +kernel
theorem dX7_shared_47 : decode cX7_shared 47 = .ok (.getfield 141, 3) := by decide +kernel
theorem dX7_shared_50 : decode cX7_shared 50 = .ok (.aload_n 0, 1) := by decide +kernel
theorem dX7_shared_51 : decode cX7_shared 51 = .ok (.getfield 17, 3) := by decide +kernel
theorem dX7_shared_54 : decode cX7_shared 54 = .ok (.iload_n 2, 1) := by decide +kernel
theorem dX7_shared_55 : decode cX7_shared 55 = .ok (.aaload, 1) := by decide +kernel
theorem dX7_shared_56 : decode cX7_shared 56 = .ok (.getfield 141, 3) := by decide +kernel
theorem dX7_shared_59 : decode cX7_shared 59 = .ok (.iload_n 3, 1) := by decide +kernel
theorem dX7_shared_60 : decode cX7_shared 60 = .ok (.invokevirtual 318, 3) := by decide +kernel
theorem dX7_shared_63 : decode cX7_shared 63 = .ok (.ireturn, 1) := by decide +kernel
theorem dX7_place_0 : decode cX7_place 0 = .ok (.iload_n 2, 1) := by decide +kernel
theorem dX7_place_1 : decode cX7_place 1 = .ok (.ifCond .lt 8, 3) := by decide +kernel
theorem dX7_place_4 : decode cX7_place 4 = .ok (.iload_n 2, 1) := by decide +kernel
theorem dX7_place_5 : decode cX7_place 5 = .ok (.iconst 2, 1) := by decide +kernel
theorem dX7_place_6 : decode cX7_place 6 = .ok (.if_icmp .le 5, 3) := by decide +kernel
theorem dX7_place_9 : decode cX7_place 9 = .ok (.iconst (-1), 1) := by decide +kernel
theorem dX7_place_10 : decode cX7_place 10 = .ok (.ireturn, 1) := by decide +kernel
theorem dX7_place_11 : decode cX7_place 11 = .ok (.iload_n 1, 1) := by decide +kernel
theorem dX7_place_12 : decode cX7_place 12 = .ok (.ifCond .lt 20, 3) := by decide +kernel
theorem dX7_place_15 : decode cX7_place 15 = .ok (.iload_n 1, 1) := by decide +kernel
theorem dX7_place_16 : decode cX7_place 16 = .ok (.bipush 100, 2) := by decide +kernel
theorem dX7_place_18 : decode cX7_place 18 = .ok (.if_icmp .ge 14, 3) := by decide +kernel
theorem dX7_place_21 : decode cX7_place 21 = .ok (.iload_n 1, 1) := by decide +kernel
theorem dX7_place_22 : decode cX7_place 22 = .ok (.aload_n 0, 1) := by decide +kernel
theorem dX7_place_23 : decode cX7_place 23 = .ok (.getfield 48, 3) := by decide +kernel
theorem dX7_place_26 : decode cX7_place 26 = .ok (.getfield 322, 3) := by decide +kernel
theorem dX7_place_29 : decode cX7_place 29 = .ok (.if_icmp .lt 6, 3) := by decide +kernel
theorem dX7_place_32 : decode cX7_place 32 = .ok (.bipush (-9), 2) := by decide +kernel
theorem dX7_place_34 : decode cX7_place 34 = .ok (.ireturn, 1) := by decide +kernel
theorem dX7_place_35 : decode cX7_place 35 = .ok (.aload_n 0, 1) := by decide +kernel
theorem dX7_place_36 : decode cX7_place 36 = .ok (.aload_n 0, 1) := by decide +kernel
theorem dX7_place_37 : decode cX7_place 37 = .ok (.getfield 48, 3) := by decide +kernel
theorem dX7_place_40 : decode cX7_place 40 = .ok (.getfield 325, 3) := by decide +kernel
theorem dX7_place_43 : decode cX7_place 43 = .ok (.iconst 3, 1) := by decide +kernel
theorem dX7_place_44 : decode cX7_place 44 = .ok (.iload_n 1, 1) := by decide +kernel
theorem dX7_place_45 : decode cX7_place 45 = .ok (.imul, 1) := by decide +kernel
theorem dX7_place_46 : decode cX7_place 46 = .ok (.iload_n 2, 1) := by decide +kernel
theorem dX7_place_47 : decode cX7_place 47 = .ok (.iadd, 1) := by decide +kernel
theorem dX7_place_48 : decode cX7_place 48 = .ok (.iaload, 1) := by decide +kernel
theorem dX7_place_49 : decode cX7_place 49 = .ok (.putfield 98, 3) := by decide +kernel
theorem dX7_place_52 : decode cX7_place 52 = .ok (.iconst 1, 1) := by decide +kernel
theorem dX7_place_53 : decode cX7_place 53 = .ok (.ireturn, 1) := by decide +kernel
theorem dX7_shared3_0 : decode cX7_shared3 0 = .ok (.iload_n 1, 1) := by decide +kernel
theorem dX7_shared3_1 : decode cX7_shared3 1 = .ok (.invokestatic 114, 3) := by decide +kernel
theorem dX7_shared3_4 : decode cX7_shared3 4 = .ok (.ifCond .ne 29, 3) := by decide +kernel
theorem dX7_shared3_7 : decode cX7_shared3 7 = .ok (.iload_n 2, 1) := by decide +kernel
theorem dX7_shared3_8 : decode cX7_shared3 8 = .ok (.invokestatic 114, 3) := by decide +kernel
theorem dX7_shared3_11 : decode cX7_shared3 11 = .ok (.ifCond .ne 22, 3) := by decide +kernel
theorem dX7_shared3_14 : decode cX7_shared3 14 = .ok (.iload_n 3, 1) := by decide +kernel
theorem dX7_shared3_15 : decode cX7_shared3 15 = .ok (.invokestatic 114, 3) := by decide +kernel
theorem dX7_shared3_18 : decode cX7_shared3 18 = .ok (.ifCond .ne 15, 3) := by decide +kernel
theorem dX7_shared3_21 : decode cX7_shared3 21 = .ok (.iload 4, 2) := by decide +kernel
theorem dX7_shared3_23 : decode cX7_shared3 23 = .ok (.ifCond .lt 10, 3) := by decide +kernel
theorem dX7_shared3_26 : decode cX7_shared3 26 = .ok (.iload 4, 2) := by decide +kernel
theorem dX7_shared3_28 : decode cX7_shared3 28 = .ok (.bipush 10, 2) := by decide +kernel
theorem dX7_shared3_30 : decode cX7_shared3 30 = .ok (.if_icmp .le 5, 3) := by decide +kernel
theorem dX7_shared3_33 : decode cX7_shared3 33 = .ok (.iconst (-1), 1) := by decide +kernel
theorem dX7_shared3_34 : decode cX7_shared3 34 = .ok (.ireturn, 1) := by decide +kernel
theorem dX7_shared3_35 : decode cX7_shared3 35 = .ok (.aload_n 0, 1) := by decide +kernel
theorem dX7_shared3_36 : decode cX7_shared3 36 = .ok (.getfield 17, 3) := by decide +kernel
theorem dX7_shared3_39 : decode cX7_shared3 39 = .ok (.iload_n 1, 1) := by decide +kernel
theorem dX7_shared3_40 : decode cX7_shared3 40 = .ok (.aaload, 1) := by decide +kernel
theorem dX7_shared3_41 : decode cX7_shared3 41 = .ok (.getfield 134, 3) := by decide +kernel
theorem dX7_shared3_44 : decode cX7_shared3 44 = .ok (.ifCond .eq 27, 3) := by decide +kernel
theorem dX7_shared3_47 : decode cX7_shared3 47 = .ok (.aload_n 0, 1) := by decide +kernel
theorem dX7_shared3_48 : decode cX7_shared3 48 = .ok (.getfield 17, 3) := by decide +kernel
theorem dX7_shared3_51 : decode cX7_shared3 51 = .ok (.iload_n 2, 1) := by decide +kernel
theorem dX7_shared3_52 : decode cX7_shared3 52 = .ok (.aaload, 1) := by decide +kernel
theorem dX7_shared3_53 : decode cX7_shared3 53 = .ok (.getfield 134, 3) := by decide +kernel
theorem dX7_shared3_56 : decode cX7_shared3 56 = .ok (.ifCond .eq 15, 3) := by decide +kernel
theorem dX7_shared3_59 : decode cX7_shared3 59 = .ok (.aload_n 0, 1) := by decide +kernel
theorem dX7_shared3_60 : decode cX7_shared3 60 = .ok (.getfield 17, 3) := by decide +kernel
theorem dX7_shared3_63 : decode cX7_shared3 63 = .ok (.iload_n 3, 1) := by decide +kernel
theorem dX7_shared3_64 : decode cX7_shared3 64 = .ok (.aaload, 1) := by decide +kernel
theorem dX7_shared3_65 : decode cX7_shared3 65 = .ok (.getfield 134, 3) := by decide +kernel
theorem dX7_shared3_68 : decode cX7_shared3 68 = .ok (.ifCond .ne 9, 3) := by decide +kernel
theorem dX7_shared3_71 : decode cX7_shared3 71 = .ok (.aload_n 0, 1) := by decide +kernel
theorem dX7_shared3_72 : decode cX7_shared3 72 = .ok (.iconst 1, 1) := by decide +kernel
theorem dX7_shared3_73 : decode cX7_shared3 73 = .ok (.invokevirtual 79, 3) := by decide +kernel
theorem dX7_shared3_76 : decode cX7_shared3 76 = .ok (.ireturn, 1) := by decide +kernel
theorem dX7_shared3_77 : decode cX7_shared3 77 = .ok (.aload_n 0, 1) := by decide +kernel
theorem dX7_shared3_78 : decode cX7_shared3 78 = .ok (.getfield 48, 3) := by decide +kernel
theorem dX7_shared3_81 : decode cX7_shared3 81 = .ok (.aload_n 0, 1) := by decide +kernel
theorem dX7_shared3_82 : decode cX7_shared3 82 = .ok (.getfield 17, 3) := by decide +kernel
theorem dX7_shared3_85 : decode cX7_shared3 85 = .ok (.iload_n 1, 1) := by decide +kernel
theorem dX7_shared3_86 : decode cX7_shared3 86 = .ok (.aaload, 1) := by decide +kernel
theorem dX7_shared3_87 : decode cX7_shared3 87 = .ok (.getfield 141, 3) := by decide +kernel
theorem dX7_shared3_90 : decode cX7_shared3 90 = .ok (.aload_n 0, 1) := by decide +kernel
theorem dX7_shared3_91 : decode cX7_shared3 91 = .ok (.getfield 17, 3) := by decide +kernel
theorem dX7_shared3_94 : decode cX7_shared3 94 = .ok (.iload_n 2, 1) := by decide +kernel
theorem dX7_shared3_95 : decode cX7_shared3 95 = .ok (.aaload, 1) := by decide +kernel
theorem dX7_shared3_96 : decode cX7_shared3 96 = .ok (.getfield 141, 3) := by decide +kernel
theorem dX7_shared3_99 : decode cX7_shared3 99 = .ok (.aload_n 0, 1) := by decide +kernel
theorem dX7_shared3_100 : decode cX7_shared3 100 = .ok (.getfield 17, 3) := by decide +kernel
theorem dX7_shared3_103 : decode cX7_shared3 103 = .ok (.iload_n 3, 1) := by decide +kernel
theorem dX7_shared3_104 : decode cX7_shared3 104 = .ok (.aaload, 1) := by decide +kernel
theorem dX7_shared3_105 : decode cX7_shared3 105 = .ok (.getfield 141, 3) := by decide +kernel
theorem dX7_shared3_108 : decode cX7_shared3 108 = .ok (.iload 4, 2) := by decide +kernel
theorem dX7_shared3_110 : decode cX7_shared3 110 = .ok (.invokevirtual 318, 3) := by decide +kernel
theorem dX7_shared3_113 : decode cX7_shared3 113 = .ok (.ireturn, 1) := by decide +kernel
theorem dX7_asked_0 : decode cX7_asked 0 = .ok (.aload_n 0, 1) := by decide +kernel
theorem dX7_asked_1 : decode cX7_asked 1 = .ok (.getfield 98, 3) := by decide +kernel
theorem dX7_asked_4 : decode cX7_asked 4 = .ok (.ireturn, 1) := by decide +kernel
theorem dX7_upper_0 : decode cX7_upper 0 = .ok (.aload_n 0, 1) := by decide +kernel
theorem dX7_upper_1 : decode cX7_upper 1 = .ok (.getfield 328, 3) := by decide +kernel
theorem dX7_upper_4 : decode cX7_upper 4 = .ok (.lreturn, 1) := by decide +kernel
theorem dX7_lower_0 : decode cX7_lower 0 = .ok (.aload_n 0, 1) := by decide +kernel
theorem dX7_lower_1 : decode cX7_lower 1 = .ok (.getfield 66, 3) := by decide +kernel
theorem dX7_lower_4 : decode cX7_lower 4 = .ok (.lreturn, 1) := by decide +kernel
theorem dX7_count_0 : decode cX7_count 0 = .ok (.iload_n 1, 1) := by decide +kernel
theorem dX7_count_1 : decode cX7_count 1 = .ok (.tableswitch 64 0 4 #[35, 40, 46, 52, 58], 35) := by decide +kernel
theorem dX7_count_36 : decode cX7_count 36 = .ok (.aload_n 0, 1) := by decide +kernel
theorem dX7_count_37 : decode cX7_count 37 = .ok (.invokevirtual 331, 3) := by decide +kernel
theorem dX7_count_40 : decode cX7_count 40 = .ok (.ireturn, 1) := by decide +kernel
theorem dX7_count_41 : decode cX7_count 41 = .ok (.aload_n 0, 1) := by decide +kernel
theorem dX7_count_42 : decode cX7_count 42 = .ok (.iconst 0, 1) := by decide +kernel
theorem dX7_count_43 : decode cX7_count 43 = .ok (.invokevirtual 334, 3) := by decide +kernel
theorem dX7_count_46 : decode cX7_count 46 = .ok (.ireturn, 1) := by decide +kernel
theorem dX7_count_47 : decode cX7_count 47 = .ok (.aload_n 0, 1) := by decide +kernel
theorem dX7_count_48 : decode cX7_count 48 = .ok (.iconst 3, 1) := by decide +kernel
theorem dX7_count_49 : decode cX7_count 49 = .ok (.invokevirtual 334, 3) := by decide +kernel
theorem dX7_count_52 : decode cX7_count 52 = .ok (.ireturn, 1) := by decide +kernel
theorem dX7_count_53 : decode cX7_count 53 = .ok (.aload_n 0, 1) := by decide +kernel
theorem dX7_count_54 : decode cX7_count 54 = .ok (.iconst 4, 1) := by decide +kernel
theorem dX7_count_55 : decode cX7_count 55 = .ok (.invokevirtual 334, 3) := by decide +kernel
theorem dX7_count_58 : decode cX7_count 58 = .ok (.ireturn, 1) := by decide +kernel
theorem dX7_count_59 : decode cX7_count 59 = .ok (.aload_n 0, 1) := by decide +kernel
theorem dX7_count_60 : decode cX7_count 60 = .ok (.iconst 1, 1) := by decide +kernel
theorem dX7_count_61 : decode cX7_count 61 = .ok (.invokevirtual 334, 3) := by decide +kernel
theorem dX7_count_64 : decode cX7_count 64 = .ok (.ireturn, 1) := by decide +kernel
theorem dX7_count_65 : decode cX7_count 65 = .ok (.iconst (-1), 1) := by decide +kernel
theorem dX7_count_66 : decode cX7_count 66 = .ok (.ireturn, 1) := by decide +kernel
theorem dX7_finding_0 : decode cX7_finding 0 = .ok (.aload_n 0, 1) := by decide +kernel
theorem dX7_finding_1 : decode cX7_finding 1 = .ok (.getfield 337, 3) := by decide +kernel
theorem dX7_finding_4 : decode cX7_finding 4 = .ok (.ireturn, 1) := by decide +kernel
theorem dX7_findings_0 : decode cX7_findings 0 = .ok (.iload_n 1, 1) := by decide +kernel
theorem dX7_findings_1 : decode cX7_findings 1 = .ok (.iconst 1, 1) := by decide +kernel
theorem dX7_findings_2 : decode cX7_findings 2 = .ok (.if_icmp .lt 8, 3) := by decide +kernel
theorem dX7_findings_5 : decode cX7_findings 5 = .ok (.iload_n 1, 1) := by decide +kernel
theorem dX7_findings_6 : decode cX7_findings 6 = .ok (.iconst 5, 1) := by decide +kernel
theorem dX7_findings_7 : decode cX7_findings 7 = .ok (.if_icmp .le 5, 3) := by decide +kernel
theorem dX7_findings_10 : decode cX7_findings 10 = .ok (.iconst (-1), 1) := by decide +kernel
theorem dX7_findings_11 : decode cX7_findings 11 = .ok (.ireturn, 1) := by decide +kernel
theorem dX7_findings_12 : decode cX7_findings 12 = .ok (.aload_n 0, 1) := by decide +kernel
theorem dX7_findings_13 : decode cX7_findings 13 = .ok (.getfield 70, 3) := by decide +kernel
theorem dX7_findings_16 : decode cX7_findings 16 = .ok (.iload_n 1, 1) := by decide +kernel
theorem dX7_findings_17 : decode cX7_findings 17 = .ok (.iaload, 1) := by decide +kernel
theorem dX7_findings_18 : decode cX7_findings 18 = .ok (.ireturn, 1) := by decide +kernel
theorem dX7_digest_0 : decode cX7_digest 0 = .ok (.ldc2_w 340, 3) := by decide +kernel
theorem dX7_digest_3 : decode cX7_digest 3 = .ok (.lstore_n 1, 1) := by decide +kernel
theorem dX7_digest_4 : decode cX7_digest 4 = .ok (.iconst 0, 1) := by decide +kernel
theorem dX7_digest_5 : decode cX7_digest 5 = .ok (.istore_n 3, 1) := by decide +kernel
theorem dX7_digest_6 : decode cX7_digest 6 = .ok (.iload_n 3, 1) := by decide +kernel
theorem dX7_digest_7 : decode cX7_digest 7 = .ok (.bipush 12, 2) := by decide +kernel
theorem dX7_digest_9 : decode cX7_digest 9 = .ok (.if_icmp .ge 20, 3) := by decide +kernel
theorem dX7_digest_12 : decode cX7_digest 12 = .ok (.aload_n 0, 1) := by decide +kernel
theorem dX7_digest_13 : decode cX7_digest 13 = .ok (.getfield 17, 3) := by decide +kernel
theorem dX7_digest_16 : decode cX7_digest 16 = .ok (.iload_n 3, 1) := by decide +kernel
theorem dX7_digest_17 : decode cX7_digest 17 = .ok (.aaload, 1) := by decide +kernel
theorem dX7_digest_18 : decode cX7_digest 18 = .ok (.lload_n 1, 1) := by decide +kernel
theorem dX7_digest_19 : decode cX7_digest 19 = .ok (.invokevirtual 342, 3) := by decide +kernel
theorem dX7_digest_22 : decode cX7_digest 22 = .ok (.lstore_n 1, 1) := by decide +kernel
theorem dX7_digest_23 : decode cX7_digest 23 = .ok (.iinc 3 1, 3) := by decide +kernel
theorem dX7_digest_26 : decode cX7_digest 26 = .ok (.goto (-20), 3) := by decide +kernel
theorem dX7_digest_29 : decode cX7_digest 29 = .ok (.iconst 0, 1) := by decide +kernel
theorem dX7_digest_30 : decode cX7_digest 30 = .ok (.istore_n 3, 1) := by decide +kernel
theorem dX7_digest_31 : decode cX7_digest 31 = .ok (.iload_n 3, 1) := by decide +kernel
theorem dX7_digest_32 : decode cX7_digest 32 = .ok (.bipush 8, 2) := by decide +kernel
theorem dX7_digest_34 : decode cX7_digest 34 = .ok (.if_icmp .ge 20, 3) := by decide +kernel
theorem dX7_digest_37 : decode cX7_digest 37 = .ok (.aload_n 0, 1) := by decide +kernel
theorem dX7_digest_38 : decode cX7_digest 38 = .ok (.getfield 11, 3) := by decide +kernel
theorem dX7_digest_41 : decode cX7_digest 41 = .ok (.iload_n 3, 1) := by decide +kernel
theorem dX7_digest_42 : decode cX7_digest 42 = .ok (.aaload, 1) := by decide +kernel
theorem dX7_digest_43 : decode cX7_digest 43 = .ok (.lload_n 1, 1) := by decide +kernel
theorem dX7_digest_44 : decode cX7_digest 44 = .ok (.invokevirtual 346, 3) := by decide +kernel
theorem dX7_digest_47 : decode cX7_digest 47 = .ok (.lstore_n 1, 1) := by decide +kernel
theorem dX7_digest_48 : decode cX7_digest 48 = .ok (.iinc 3 1, 3) := by decide +kernel
theorem dX7_digest_51 : decode cX7_digest 51 = .ok (.goto (-20), 3) := by decide +kernel
theorem dX7_digest_54 : decode cX7_digest 54 = .ok (.lload_n 1, 1) := by decide +kernel
theorem dX7_digest_55 : decode cX7_digest 55 = .ok (.lreturn, 1) := by decide +kernel
theorem dX7_noSheet_0 : decode cX7_noSheet 0 = .ok (.iload_n 0, 1) := by decide +kernel
theorem dX7_noSheet_1 : decode cX7_noSheet 1 = .ok (.ifCond .lt 9, 3) := by decide +kernel
theorem dX7_noSheet_4 : decode cX7_noSheet 4 = .ok (.iload_n 0, 1) := by decide +kernel
theorem dX7_noSheet_5 : decode cX7_noSheet 5 = .ok (.bipush 8, 2) := by decide +kernel
theorem dX7_noSheet_7 : decode cX7_noSheet 7 = .ok (.if_icmp .lt 7, 3) := by decide +kernel
theorem dX7_noSheet_10 : decode cX7_noSheet 10 = .ok (.iconst 1, 1) := by decide +kernel
theorem dX7_noSheet_11 : decode cX7_noSheet 11 = .ok (.goto 4, 3) := by decide +kernel
theorem dX7_noSheet_14 : decode cX7_noSheet 14 = .ok (.iconst 0, 1) := by decide +kernel
theorem dX7_noSheet_15 : decode cX7_noSheet 15 = .ok (.ireturn, 1) := by decide +kernel
theorem dX7_noGround_0 : decode cX7_noGround 0 = .ok (.iload_n 0, 1) := by decide +kernel
theorem dX7_noGround_1 : decode cX7_noGround 1 = .ok (.ifCond .lt 9, 3) := by decide +kernel
theorem dX7_noGround_4 : decode cX7_noGround 4 = .ok (.iload_n 0, 1) := by decide +kernel
theorem dX7_noGround_5 : decode cX7_noGround 5 = .ok (.bipush 12, 2) := by decide +kernel
theorem dX7_noGround_7 : decode cX7_noGround 7 = .ok (.if_icmp .lt 7, 3) := by decide +kernel
theorem dX7_noGround_10 : decode cX7_noGround 10 = .ok (.iconst 1, 1) := by decide +kernel
theorem dX7_noGround_11 : decode cX7_noGround 11 = .ok (.goto 4, 3) := by decide +kernel
theorem dX7_noGround_14 : decode cX7_noGround 14 = .ok (.iconst 0, 1) := by decide +kernel
theorem dX7_noGround_15 : decode cX7_noGround 15 = .ok (.ireturn, 1) := by decide +kernel
theorem dX7_noLetter_0 : decode cX7_noLetter 0 = .ok (.iload_n 0, 1) := by decide +kernel
theorem dX7_noLetter_1 : decode cX7_noLetter 1 = .ok (.ifCond .lt 8, 3) := by decide +kernel
theorem dX7_noLetter_4 : decode cX7_noLetter 4 = .ok (.iload_n 0, 1) := by decide +kernel
theorem dX7_noLetter_5 : decode cX7_noLetter 5 = .ok (.iconst 4, 1) := by decide +kernel
theorem dX7_noLetter_6 : decode cX7_noLetter 6 = .ok (.if_icmp .lt 7, 3) := by decide +kernel
theorem dX7_noLetter_9 : decode cX7_noLetter 9 = .ok (.iconst 1, 1) := by decide +kernel
theorem dX7_noLetter_10 : decode cX7_noLetter 10 = .ok (.goto 4, 3) := by decide +kernel
theorem dX7_noLetter_13 : decode cX7_noLetter 13 = .ok (.iconst 0, 1) := by decide +kernel
theorem dX7_noLetter_14 : decode cX7_noLetter 14 = .ok (.ireturn, 1) := by decide +kernel
theorem dX7_refuse_0 : decode cX7_refuse 0 = .ok (.iload_n 1, 1) := by decide +kernel
theorem dX7_refuse_1 : decode cX7_refuse 1 = .ok (.iconst 1, 1) := by decide +kernel
theorem dX7_refuse_2 : decode cX7_refuse 2 = .ok (.if_icmp .lt 23, 3) := by decide +kernel
theorem dX7_refuse_5 : decode cX7_refuse 5 = .ok (.iload_n 1, 1) := by decide +kernel
theorem dX7_refuse_6 : decode cX7_refuse 6 = .ok (.iconst 5, 1) := by decide +kernel
theorem dX7_refuse_7 : decode cX7_refuse 7 = .ok (.if_icmp .gt 18, 3) := by decide +kernel
theorem dX7_refuse_10 : decode cX7_refuse 10 = .ok (.aload_n 0, 1) := by decide +kernel
theorem dX7_refuse_11 : decode cX7_refuse 11 = .ok (.iload_n 1, 1) := by decide +kernel
theorem dX7_refuse_12 : decode cX7_refuse 12 = .ok (.putfield 337, 3) := by decide +kernel
theorem dX7_refuse_15 : decode cX7_refuse 15 = .ok (.aload_n 0, 1) := by decide +kernel
theorem dX7_refuse_16 : decode cX7_refuse 16 = .ok (.getfield 70, 3) := by decide +kernel
theorem dX7_refuse_19 : decode cX7_refuse 19 = .ok (.iload_n 1, 1) := by decide +kernel
theorem dX7_refuse_20 : decode cX7_refuse 20 = .ok (.dup2, 1) := by decide +kernel
theorem dX7_refuse_21 : decode cX7_refuse 21 = .ok (.iaload, 1) := by decide +kernel
theorem dX7_refuse_22 : decode cX7_refuse 22 = .ok (.iconst 1, 1) := by decide +kernel
theorem dX7_refuse_23 : decode cX7_refuse 23 = .ok (.iadd, 1) := by decide +kernel
theorem dX7_refuse_24 : decode cX7_refuse 24 = .ok (.iastore, 1) := by decide +kernel
theorem dX7_refuse_25 : decode cX7_refuse 25 = .ok (.bipush (-3), 2) := by decide +kernel
theorem dX7_refuse_27 : decode cX7_refuse 27 = .ok (.ireturn, 1) := by decide +kernel
theorem dX7_refusedGround_0 : decode cX7_refusedGround 0 = .ok (.aload_n 0, 1) := by decide +kernel
theorem dX7_refusedGround_1 : decode cX7_refusedGround 1 = .ok (.iload_n 1, 1) := by decide +kernel
theorem dX7_refusedGround_2 : decode cX7_refusedGround 2 = .ok (.iload_n 1, 1) := by decide +kernel
theorem dX7_refusedGround_3 : decode cX7_refusedGround 3 = .ok (.invokevirtual 196, 3) := by decide +kernel
theorem dX7_refusedGround_6 : decode cX7_refusedGround 6 = .ok (.ireturn, 1) := by decide +kernel
theorem dX7_refusedPair_0 : decode cX7_refusedPair 0 = .ok (.iload_n 1, 1) := by decide +kernel
theorem dX7_refusedPair_1 : decode cX7_refusedPair 1 = .ok (.invokestatic 114, 3) := by decide +kernel
theorem dX7_refusedPair_4 : decode cX7_refusedPair 4 = .ok (.ifCond .ne 10, 3) := by decide +kernel
theorem dX7_refusedPair_7 : decode cX7_refusedPair 7 = .ok (.iload_n 2, 1) := by decide +kernel
theorem dX7_refusedPair_8 : decode cX7_refusedPair 8 = .ok (.invokestatic 114, 3) := by decide +kernel
theorem dX7_refusedPair_11 : decode cX7_refusedPair 11 = .ok (.ifCond .eq 5, 3) := by decide +kernel
theorem dX7_refusedPair_14 : decode cX7_refusedPair 14 = .ok (.iconst (-1), 1) := by decide +kernel
theorem dX7_refusedPair_15 : decode cX7_refusedPair 15 = .ok (.ireturn, 1) := by decide +kernel
theorem dX7_refusedPair_16 : decode cX7_refusedPair 16 = .ok (.aload_n 0, 1) := by decide +kernel
theorem dX7_refusedPair_17 : decode cX7_refusedPair 17 = .ok (.getfield 17, 3) := by decide +kernel
theorem dX7_refusedPair_20 : decode cX7_refusedPair 20 = .ok (.iload_n 1, 1) := by decide +kernel
theorem dX7_refusedPair_21 : decode cX7_refusedPair 21 = .ok (.aaload, 1) := by decide +kernel
theorem dX7_refusedPair_22 : decode cX7_refusedPair 22 = .ok (.getfield 134, 3) := by decide +kernel
theorem dX7_refusedPair_25 : decode cX7_refusedPair 25 = .ok (.ifCond .eq 15, 3) := by decide +kernel
theorem dX7_refusedPair_28 : decode cX7_refusedPair 28 = .ok (.aload_n 0, 1) := by decide +kernel
theorem dX7_refusedPair_29 : decode cX7_refusedPair 29 = .ok (.getfield 17, 3) := by decide +kernel
theorem dX7_refusedPair_32 : decode cX7_refusedPair 32 = .ok (.iload_n 2, 1) := by decide +kernel
theorem dX7_refusedPair_33 : decode cX7_refusedPair 33 = .ok (.aaload, 1) := by decide +kernel
theorem dX7_refusedPair_34 : decode cX7_refusedPair 34 = .ok (.getfield 134, 3) := by decide +kernel
theorem dX7_refusedPair_37 : decode cX7_refusedPair 37 = .ok (.ifCond .ne 9, 3) := by decide +kernel
theorem dX7_refusedPair_40 : decode cX7_refusedPair 40 = .ok (.aload_n 0, 1) := by decide +kernel
theorem dX7_refusedPair_41 : decode cX7_refusedPair 41 = .ok (.iconst 1, 1) := by decide +kernel
theorem dX7_refusedPair_42 : decode cX7_refusedPair 42 = .ok (.invokevirtual 79, 3) := by decide +kernel
theorem dX7_refusedPair_45 : decode cX7_refusedPair 45 = .ok (.ireturn, 1) := by decide +kernel
theorem dX7_refusedPair_46 : decode cX7_refusedPair 46 = .ok (.iconst 0, 1) := by decide +kernel
theorem dX7_refusedPair_47 : decode cX7_refusedPair 47 = .ok (.ireturn, 1) := by decide +kernel
theorem dX7_refusedPencil_0 : decode cX7_refusedPencil 0 = .ok (.aload_n 0, 1) := by decide +kernel
theorem dX7_refusedPencil_1 : decode cX7_refusedPencil 1 = .ok (.iload_n 1, 1) := by decide +kernel
theorem dX7_refusedPencil_2 : decode cX7_refusedPencil 2 = .ok (.iload_n 2, 1) := by decide +kernel
theorem dX7_refusedPencil_3 : decode cX7_refusedPencil 3 = .ok (.invokevirtual 196, 3) := by decide +kernel
theorem dX7_refusedPencil_6 : decode cX7_refusedPencil 6 = .ok (.istore_n 3, 1) := by decide +kernel
theorem dX7_refusedPencil_7 : decode cX7_refusedPencil 7 = .ok (.iload_n 3, 1) := by decide +kernel
theorem dX7_refusedPencil_8 : decode cX7_refusedPencil 8 = .ok (.ifCond .ne 30, 3) := by decide +kernel
theorem dX7_refusedPencil_11 : decode cX7_refusedPencil 11 = .ok (.aload_n 0, 1) := by decide +kernel
theorem dX7_refusedPencil_12 : decode cX7_refusedPencil 12 = .ok (.getfield 34, 3) := by decide +kernel
theorem dX7_refusedPencil_15 : decode cX7_refusedPencil 15 = .ok (.aload_n 0, 1) := by decide +kernel
theorem dX7_refusedPencil_16 : decode cX7_refusedPencil 16 = .ok (.getfield 17, 3) := by decide +kernel
theorem dX7_refusedPencil_19 : decode cX7_refusedPencil 19 = .ok (.iload_n 1, 1) := by decide +kernel
theorem dX7_refusedPencil_20 : decode cX7_refusedPencil 20 = .ok (.aaload, 1) := by decide +kernel
theorem dX7_refusedPencil_21 : decode cX7_refusedPencil 21 = .ok (.getfield 141, 3) := by decide +kernel
theorem dX7_refusedPencil_24 : decode cX7_refusedPencil 24 = .ok (.iconst 1, 1) := by decide +kernel
theorem dX7_refusedPencil_25 : decode cX7_refusedPencil 25 = .ok (.aload_n 0, 1) := by decide +kernel
theorem dX7_refusedPencil_26 : decode cX7_refusedPencil 26 = .ok (.getfield 17, 3) := by decide +kernel
theorem dX7_refusedPencil_29 : decode cX7_refusedPencil 29 = .ok (.iload_n 2, 1) := by decide +kernel
theorem dX7_refusedPencil_30 : decode cX7_refusedPencil 30 = .ok (.aaload, 1) := by decide +kernel
theorem dX7_refusedPencil_31 : decode cX7_refusedPencil 31 = .ok (.getfield 141, 3) := by decide +kernel
theorem dX7_refusedPencil_34 : decode cX7_refusedPencil 34 = .ok (.iconst 1, 1) := by decide +kernel
theorem dX7_refusedPencil_35 : decode cX7_refusedPencil 35 = .ok (.invokevirtual 347, 3) := by decide +kernel
theorem dX7_refusedPencil_38 : decode cX7_refusedPencil 38 = .ok (.iload_n 3, 1) := by decide +kernel
theorem dX7_refusedPencil_39 : decode cX7_refusedPencil 39 = .ok (.ireturn, 1) := by decide +kernel
theorem dX7_refusedAt_0 : decode cX7_refusedAt 0 = .ok (.iload_n 1, 1) := by decide +kernel
theorem dX7_refusedAt_1 : decode cX7_refusedAt 1 = .ok (.invokestatic 114, 3) := by decide +kernel
theorem dX7_refusedAt_4 : decode cX7_refusedAt 4 = .ok (.ifCond .ne 10, 3) := by decide +kernel
theorem dX7_refusedAt_7 : decode cX7_refusedAt 7 = .ok (.iload_n 2, 1) := by decide +kernel
theorem dX7_refusedAt_8 : decode cX7_refusedAt 8 = .ok (.invokestatic 75, 3) := by decide +kernel
theorem dX7_refusedAt_11 : decode cX7_refusedAt 11 = .ok (.ifCond .eq 5, 3) := by decide +kernel
theorem dX7_refusedAt_14 : decode cX7_refusedAt 14 = .ok (.iconst (-1), 1) := by decide +kernel
theorem dX7_refusedAt_15 : decode cX7_refusedAt 15 = .ok (.ireturn, 1) := by decide +kernel
theorem dX7_refusedAt_16 : decode cX7_refusedAt 16 = .ok (.aload_n 0, 1) := by decide +kernel
theorem dX7_refusedAt_17 : decode cX7_refusedAt 17 = .ok (.getfield 17, 3) := by decide +kernel
theorem dX7_refusedAt_20 : decode cX7_refusedAt 20 = .ok (.iload_n 1, 1) := by decide +kernel
theorem dX7_refusedAt_21 : decode cX7_refusedAt 21 = .ok (.aaload, 1) := by decide +kernel
theorem dX7_refusedAt_22 : decode cX7_refusedAt 22 = .ok (.getfield 134, 3) := by decide +kernel
theorem dX7_refusedAt_25 : decode cX7_refusedAt 25 = .ok (.ifCond .eq 15, 3) := by decide +kernel
theorem dX7_refusedAt_28 : decode cX7_refusedAt 28 = .ok (.aload_n 0, 1) := by decide +kernel
theorem dX7_refusedAt_29 : decode cX7_refusedAt 29 = .ok (.getfield 11, 3) := by decide +kernel
theorem dX7_refusedAt_32 : decode cX7_refusedAt 32 = .ok (.iload_n 2, 1) := by decide +kernel
theorem dX7_refusedAt_33 : decode cX7_refusedAt 33 = .ok (.aaload, 1) := by decide +kernel
theorem dX7_refusedAt_34 : decode cX7_refusedAt 34 = .ok (.invokevirtual 87, 3) := by decide +kernel
theorem dX7_refusedAt_37 : decode cX7_refusedAt 37 = .ok (.ifCond .eq 9, 3) := by decide +kernel
theorem dX7_refusedAt_40 : decode cX7_refusedAt 40 = .ok (.aload_n 0, 1) := by decide +kernel
theorem dX7_refusedAt_41 : decode cX7_refusedAt 41 = .ok (.iconst 1, 1) := by decide +kernel
theorem dX7_refusedAt_42 : decode cX7_refusedAt 42 = .ok (.invokevirtual 79, 3) := by decide +kernel
theorem dX7_refusedAt_45 : decode cX7_refusedAt 45 = .ok (.ireturn, 1) := by decide +kernel
theorem dX7_refusedAt_46 : decode cX7_refusedAt 46 = .ok (.aload_n 0, 1) := by decide +kernel
theorem dX7_refusedAt_47 : decode cX7_refusedAt 47 = .ok (.aload_n 0, 1) := by decide +kernel
theorem dX7_refusedAt_48 : decode cX7_refusedAt 48 = .ok (.getfield 11, 3) := by decide +kernel
theorem dX7_refusedAt_51 : decode cX7_refusedAt 51 = .ok (.iload_n 2, 1) := by decide +kernel
theorem dX7_refusedAt_52 : decode cX7_refusedAt 52 = .ok (.aaload, 1) := by decide +kernel
theorem dX7_refusedAt_53 : decode cX7_refusedAt 53 = .ok (.aload_n 0, 1) := by decide +kernel
theorem dX7_refusedAt_54 : decode cX7_refusedAt 54 = .ok (.getfield 11, 3) := by decide +kernel
theorem dX7_refusedAt_57 : decode cX7_refusedAt 57 = .ok (.iload_n 2, 1) := by decide +kernel
theorem dX7_refusedAt_58 : decode cX7_refusedAt 58 = .ok (.aaload, 1) := by decide +kernel
theorem dX7_refusedAt_59 : decode cX7_refusedAt 59 = .ok (.invokevirtual 214, 3) := by decide +kernel
theorem dX7_refusedAt_62 : decode cX7_refusedAt 62 = .ok (.istore_n 3, 1) := by decide +kernel
theorem dX7_refusedAt_63 : decode cX7_refusedAt 63 = .ok (.iload_n 3, 1) := by decide +kernel
theorem dX7_refusedAt_64 : decode cX7_refusedAt 64 = .ok (.ifCond .ne 7, 3) := by decide +kernel
theorem dX7_refusedAt_67 : decode cX7_refusedAt 67 = .ok (.iconst 0, 1) := by decide +kernel
theorem dX7_refusedAt_68 : decode cX7_refusedAt 68 = .ok (.goto 8, 3) := by decide +kernel
theorem dX7_refusedAt_71 : decode cX7_refusedAt 71 = .ok (.aload_n 0, 1) := by decide +kernel
theorem dX7_refusedAt_72 : decode cX7_refusedAt 72 = .ok (.iload_n 3, 1) := by decide +kernel
theorem dX7_refusedAt_73 : decode cX7_refusedAt 73 = .ok (.invokevirtual 79, 3) := by decide +kernel
theorem dX7_refusedAt_76 : decode cX7_refusedAt 76 = .ok (.ireturn, 1) := by decide +kernel
theorem dX7_placesFinding_0 : decode cX7_placesFinding 0 = .ok (.aload_n 1, 1) := by decide +kernel
theorem dX7_placesFinding_1 : decode cX7_placesFinding 1 = .ok (.getfield 91, 3) := by decide +kernel
theorem dX7_placesFinding_4 : decode cX7_placesFinding 4 = .ok (.iconst 4, 1) := by decide +kernel
theorem dX7_placesFinding_5 : decode cX7_placesFinding 5 = .ok (.if_icmp .lt 11, 3) := by decide +kernel
theorem dX7_placesFinding_8 : decode cX7_placesFinding 8 = .ok (.aload_n 2, 1) := by decide +kernel
theorem dX7_placesFinding_9 : decode cX7_placesFinding 9 = .ok (.getfield 91, 3) := by decide +kernel
theorem dX7_placesFinding_12 : decode cX7_placesFinding 12 = .ok (.iconst 4, 1) := by decide +kernel
theorem dX7_placesFinding_13 : decode cX7_placesFinding 13 = .ok (.if_icmp .ge 5, 3) := by decide +kernel
theorem dX7_placesFinding_16 : decode cX7_placesFinding 16 = .ok (.iconst 5, 1) := by decide +kernel
theorem dX7_placesFinding_17 : decode cX7_placesFinding 17 = .ok (.ireturn, 1) := by decide +kernel
theorem dX7_placesFinding_18 : decode cX7_placesFinding 18 = .ok (.aload_n 1, 1) := by decide +kernel
theorem dX7_placesFinding_19 : decode cX7_placesFinding 19 = .ok (.iconst 4, 1) := by decide +kernel
theorem dX7_placesFinding_20 : decode cX7_placesFinding 20 = .ok (.bipush 100, 2) := by decide +kernel
theorem dX7_placesFinding_22 : decode cX7_placesFinding 22 = .ok (.invokevirtual 117, 3) := by decide +kernel
theorem dX7_placesFinding_25 : decode cX7_placesFinding 25 = .ok (.ifCond .ne 13, 3) := by decide +kernel
theorem dX7_placesFinding_28 : decode cX7_placesFinding 28 = .ok (.aload_n 2, 1) := by decide +kernel
theorem dX7_placesFinding_29 : decode cX7_placesFinding 29 = .ok (.iconst 4, 1) := by decide +kernel
theorem dX7_placesFinding_30 : decode cX7_placesFinding 30 = .ok (.bipush 100, 2) := by decide +kernel
theorem dX7_placesFinding_32 : decode cX7_placesFinding 32 = .ok (.invokevirtual 117, 3) := by decide +kernel
theorem dX7_placesFinding_35 : decode cX7_placesFinding 35 = .ok (.ifCond .eq 5, 3) := by decide +kernel
theorem dX7_placesFinding_38 : decode cX7_placesFinding 38 = .ok (.iconst 2, 1) := by decide +kernel
theorem dX7_placesFinding_39 : decode cX7_placesFinding 39 = .ok (.ireturn, 1) := by decide +kernel
theorem dX7_placesFinding_40 : decode cX7_placesFinding 40 = .ok (.aload_n 1, 1) := by decide +kernel
theorem dX7_placesFinding_41 : decode cX7_placesFinding 41 = .ok (.iconst 4, 1) := by decide +kernel
theorem dX7_placesFinding_42 : decode cX7_placesFinding 42 = .ok (.invokevirtual 120, 3) := by decide +kernel
theorem dX7_placesFinding_45 : decode cX7_placesFinding 45 = .ok (.ifCond .ne 11, 3) := by decide +kernel
theorem dX7_placesFinding_48 : decode cX7_placesFinding 48 = .ok (.aload_n 2, 1) := by decide +kernel
theorem dX7_placesFinding_49 : decode cX7_placesFinding 49 = .ok (.iconst 4, 1) := by decide +kernel
theorem dX7_placesFinding_50 : decode cX7_placesFinding 50 = .ok (.invokevirtual 120, 3) := by decide +kernel
theorem dX7_placesFinding_53 : decode cX7_placesFinding 53 = .ok (.ifCond .eq 5, 3) := by decide +kernel
theorem dX7_placesFinding_56 : decode cX7_placesFinding 56 = .ok (.iconst 4, 1) := by decide +kernel
theorem dX7_placesFinding_57 : decode cX7_placesFinding 57 = .ok (.ireturn, 1) := by decide +kernel
theorem dX7_placesFinding_58 : decode cX7_placesFinding 58 = .ok (.iconst 0, 1) := by decide +kernel
theorem dX7_placesFinding_59 : decode cX7_placesFinding 59 = .ok (.istore_n 3, 1) := by decide +kernel
theorem dX7_placesFinding_60 : decode cX7_placesFinding 60 = .ok (.iload_n 3, 1) := by decide +kernel
theorem dX7_placesFinding_61 : decode cX7_placesFinding 61 = .ok (.iconst 4, 1) := by decide +kernel
theorem dX7_placesFinding_62 : decode cX7_placesFinding 62 = .ok (.if_icmp .ge 35, 3) := by decide +kernel
theorem dX7_placesFinding_65 : decode cX7_placesFinding 65 = .ok (.aload_n 0, 1) := by decide +kernel
theorem dX7_placesFinding_66 : decode cX7_placesFinding 66 = .ok (.getfield 52, 3) := by decide +kernel
theorem dX7_placesFinding_69 : decode cX7_placesFinding 69 = .ok (.iload_n 3, 1) := by decide +kernel
theorem dX7_placesFinding_70 : decode cX7_placesFinding 70 = .ok (.aload_n 1, 1) := by decide +kernel
theorem dX7_placesFinding_71 : decode cX7_placesFinding 71 = .ok (.getfield 95, 3) := by decide +kernel
theorem dX7_placesFinding_74 : decode cX7_placesFinding 74 = .ok (.iload_n 3, 1) := by decide +kernel
theorem dX7_placesFinding_75 : decode cX7_placesFinding 75 = .ok (.iaload, 1) := by decide +kernel
theorem dX7_placesFinding_76 : decode cX7_placesFinding 76 = .ok (.i2l, 1) := by decide +kernel
theorem dX7_placesFinding_77 : decode cX7_placesFinding 77 = .ok (.lastore, 1) := by decide +kernel
theorem dX7_placesFinding_78 : decode cX7_placesFinding 78 = .ok (.aload_n 0, 1) := by decide +kernel
theorem dX7_placesFinding_79 : decode cX7_placesFinding 79 = .ok (.getfield 56, 3) := by decide +kernel
theorem dX7_placesFinding_82 : decode cX7_placesFinding 82 = .ok (.iload_n 3, 1) := by decide +kernel
theorem dX7_placesFinding_83 : decode cX7_placesFinding 83 = .ok (.aload_n 2, 1) := by decide +kernel
theorem dX7_placesFinding_84 : decode cX7_placesFinding 84 = .ok (.getfield 95, 3) := by decide +kernel
theorem dX7_placesFinding_87 : decode cX7_placesFinding 87 = .ok (.iload_n 3, 1) := by decide +kernel
theorem dX7_placesFinding_88 : decode cX7_placesFinding 88 = .ok (.iaload, 1) := by decide +kernel
theorem dX7_placesFinding_89 : decode cX7_placesFinding 89 = .ok (.i2l, 1) := by decide +kernel
theorem dX7_placesFinding_90 : decode cX7_placesFinding 90 = .ok (.lastore, 1) := by decide +kernel
theorem dX7_placesFinding_91 : decode cX7_placesFinding 91 = .ok (.iinc 3 1, 3) := by decide +kernel
theorem dX7_placesFinding_94 : decode cX7_placesFinding 94 = .ok (.goto (-34), 3) := by decide +kernel
theorem dX7_placesFinding_97 : decode cX7_placesFinding 97 = .ok (.iconst 0, 1) := by decide +kernel
theorem dX7_placesFinding_98 : decode cX7_placesFinding 98 = .ok (.ireturn, 1) := by decide +kernel
theorem dX7_onePlaceAlone_0 : decode cX7_onePlaceAlone 0 = .ok (.iconst 0, 1) := by decide +kernel
theorem dX7_onePlaceAlone_1 : decode cX7_onePlaceAlone 1 = .ok (.istore_n 2, 1) := by decide +kernel
theorem dX7_onePlaceAlone_2 : decode cX7_onePlaceAlone 2 = .ok (.iload_n 2, 1) := by decide +kernel
theorem dX7_onePlaceAlone_3 : decode cX7_onePlaceAlone 3 = .ok (.iconst 4, 1) := by decide +kernel
theorem dX7_onePlaceAlone_4 : decode cX7_onePlaceAlone 4 = .ok (.if_icmp .ge 44, 3) := by decide +kernel
theorem dX7_onePlaceAlone_7 : decode cX7_onePlaceAlone 7 = .ok (.iload_n 2, 1) := by decide +kernel
theorem dX7_onePlaceAlone_8 : decode cX7_onePlaceAlone 8 = .ok (.iconst 1, 1) := by decide +kernel
theorem dX7_onePlaceAlone_9 : decode cX7_onePlaceAlone 9 = .ok (.iadd, 1) := by decide +kernel
theorem dX7_onePlaceAlone_10 : decode cX7_onePlaceAlone 10 = .ok (.istore_n 3, 1) := by decide +kernel
theorem dX7_onePlaceAlone_11 : decode cX7_onePlaceAlone 11 = .ok (.iload_n 3, 1) := by decide +kernel
theorem dX7_onePlaceAlone_12 : decode cX7_onePlaceAlone 12 = .ok (.iconst 4, 1) := by decide +kernel
theorem dX7_onePlaceAlone_13 : decode cX7_onePlaceAlone 13 = .ok (.if_icmp .ge 29, 3) := by decide +kernel
theorem dX7_onePlaceAlone_16 : decode cX7_onePlaceAlone 16 = .ok (.aload_n 0, 1) := by decide +kernel
theorem dX7_onePlaceAlone_17 : decode cX7_onePlaceAlone 17 = .ok (.iload_n 2, 1) := by decide +kernel
theorem dX7_onePlaceAlone_18 : decode cX7_onePlaceAlone 18 = .ok (.laload, 1) := by decide +kernel
theorem dX7_onePlaceAlone_19 : decode cX7_onePlaceAlone 19 = .ok (.aload_n 1, 1) := by decide +kernel
theorem dX7_onePlaceAlone_20 : decode cX7_onePlaceAlone 20 = .ok (.iload_n 3, 1) := by decide +kernel
theorem dX7_onePlaceAlone_21 : decode cX7_onePlaceAlone 21 = .ok (.laload, 1) := by decide +kernel
theorem dX7_onePlaceAlone_22 : decode cX7_onePlaceAlone 22 = .ok (.lmul, 1) := by decide +kernel
theorem dX7_onePlaceAlone_23 : decode cX7_onePlaceAlone 23 = .ok (.aload_n 0, 1) := by decide +kernel
theorem dX7_onePlaceAlone_24 : decode cX7_onePlaceAlone 24 = .ok (.iload_n 3, 1) := by decide +kernel
theorem dX7_onePlaceAlone_25 : decode cX7_onePlaceAlone 25 = .ok (.laload, 1) := by decide +kernel
theorem dX7_onePlaceAlone_26 : decode cX7_onePlaceAlone 26 = .ok (.aload_n 1, 1) := by decide +kernel
theorem dX7_onePlaceAlone_27 : decode cX7_onePlaceAlone 27 = .ok (.iload_n 2, 1) := by decide +kernel
theorem dX7_onePlaceAlone_28 : decode cX7_onePlaceAlone 28 = .ok (.laload, 1) := by decide +kernel
theorem dX7_onePlaceAlone_29 : decode cX7_onePlaceAlone 29 = .ok (.lmul, 1) := by decide +kernel
theorem dX7_onePlaceAlone_30 : decode cX7_onePlaceAlone 30 = .ok (.lcmp, 1) := by decide +kernel
theorem dX7_onePlaceAlone_31 : decode cX7_onePlaceAlone 31 = .ok (.ifCond .eq 5, 3) := by decide +kernel
theorem dX7_onePlaceAlone_34 : decode cX7_onePlaceAlone 34 = .ok (.iconst 0, 1) := by decide +kernel
theorem dX7_onePlaceAlone_35 : decode cX7_onePlaceAlone 35 = .ok (.ireturn, 1) := by decide +kernel
theorem dX7_onePlaceAlone_36 : decode cX7_onePlaceAlone 36 = .ok (.iinc 3 1, 3) := by decide +kernel
theorem dX7_onePlaceAlone_39 : decode cX7_onePlaceAlone 39 = .ok (.goto (-28), 3) := by decide +kernel
theorem dX7_onePlaceAlone_42 : decode cX7_onePlaceAlone 42 = .ok (.iinc 2 1, 3) := by decide +kernel
theorem dX7_onePlaceAlone_45 : decode cX7_onePlaceAlone 45 = .ok (.goto (-43), 3) := by decide +kernel
theorem dX7_onePlaceAlone_48 : decode cX7_onePlaceAlone 48 = .ok (.iconst 1, 1) := by decide +kernel
theorem dX7_onePlaceAlone_49 : decode cX7_onePlaceAlone 49 = .ok (.ireturn, 1) := by decide +kernel
theorem dX7_meeting_0 : decode cX7_meeting 0 = .ok (.aload_n 1, 1) := by decide +kernel
theorem dX7_meeting_1 : decode cX7_meeting 1 = .ok (.invokevirtual 164, 3) := by decide +kernel
theorem dX7_meeting_4 : decode cX7_meeting 4 = .ok (.aload_n 1, 1) := by decide +kernel
theorem dX7_meeting_5 : decode cX7_meeting 5 = .ok (.invokevirtual 167, 3) := by decide +kernel
theorem dX7_meeting_8 : decode cX7_meeting 8 = .ok (.if_icmp .le 7, 3) := by decide +kernel
theorem dX7_meeting_11 : decode cX7_meeting 11 = .ok (.iconst 1, 1) := by decide +kernel
theorem dX7_meeting_12 : decode cX7_meeting 12 = .ok (.goto 4, 3) := by decide +kernel
theorem dX7_meeting_15 : decode cX7_meeting 15 = .ok (.iconst (-1), 1) := by decide +kernel
theorem dX7_meeting_16 : decode cX7_meeting 16 = .ok (.istore 4, 2) := by decide +kernel
theorem dX7_meeting_18 : decode cX7_meeting 18 = .ok (.aload_n 2, 1) := by decide +kernel
theorem dX7_meeting_19 : decode cX7_meeting 19 = .ok (.invokevirtual 164, 3) := by decide +kernel
theorem dX7_meeting_22 : decode cX7_meeting 22 = .ok (.aload_n 2, 1) := by decide +kernel
theorem dX7_meeting_23 : decode cX7_meeting 23 = .ok (.invokevirtual 167, 3) := by decide +kernel
theorem dX7_meeting_26 : decode cX7_meeting 26 = .ok (.if_icmp .le 7, 3) := by decide +kernel
theorem dX7_meeting_29 : decode cX7_meeting 29 = .ok (.iconst 1, 1) := by decide +kernel
theorem dX7_meeting_30 : decode cX7_meeting 30 = .ok (.goto 4, 3) := by decide +kernel
theorem dX7_meeting_33 : decode cX7_meeting 33 = .ok (.iconst (-1), 1) := by decide +kernel
theorem dX7_meeting_34 : decode cX7_meeting 34 = .ok (.istore 5, 2) := by decide +kernel
theorem dX7_meeting_36 : decode cX7_meeting 36 = .ok (.aload_n 0, 1) := by decide +kernel
theorem dX7_meeting_37 : decode cX7_meeting 37 = .ok (.getfield 34, 3) := by decide +kernel
theorem dX7_meeting_40 : decode cX7_meeting 40 = .ok (.aload_n 1, 1) := by decide +kernel
theorem dX7_meeting_41 : decode cX7_meeting 41 = .ok (.getfield 141, 3) := by decide +kernel
theorem dX7_meeting_44 : decode cX7_meeting 44 = .ok (.iload 4, 2) := by decide +kernel
theorem dX7_meeting_46 : decode cX7_meeting 46 = .ok (.aload_n 3, 1) := by decide +kernel
theorem dX7_meeting_47 : decode cX7_meeting 47 = .ok (.iload 5, 2) := by decide +kernel
theorem dX7_meeting_49 : decode cX7_meeting 49 = .ok (.invokevirtual 347, 3) := by decide +kernel
theorem dX7_meeting_52 : decode cX7_meeting 52 = .ok (.aload_n 0, 1) := by decide +kernel
theorem dX7_meeting_53 : decode cX7_meeting 53 = .ok (.getfield 34, 3) := by decide +kernel
theorem dX7_meeting_56 : decode cX7_meeting 56 = .ok (.invokevirtual 351, 3) := by decide +kernel
theorem dX7_meeting_59 : decode cX7_meeting 59 = .ok (.ireturn, 1) := by decide +kernel
theorem dX7_tellFraction_0 : decode cX7_tellFraction 0 = .ok (.lload_n 3, 1) := by decide +kernel
theorem dX7_tellFraction_1 : decode cX7_tellFraction 1 = .ok (.lconst 0, 1) := by decide +kernel
theorem dX7_tellFraction_2 : decode cX7_tellFraction 2 = .ok (.lcmp, 1) := by decide +kernel
theorem dX7_tellFraction_3 : decode cX7_tellFraction 3 = .ok (.ifCond .ne 4, 3) := by decide +kernel
theorem dX7_tellFraction_6 : decode cX7_tellFraction 6 = .ok (.return_, 1) := by decide +kernel
theorem dX7_tellFraction_7 : decode cX7_tellFraction 7 = .ok (.lload_n 1, 1) := by decide +kernel
theorem dX7_tellFraction_8 : decode cX7_tellFraction 8 = .ok (.lload_n 3, 1) := by decide +kernel
theorem dX7_tellFraction_9 : decode cX7_tellFraction 9 = .ok (.invokestatic 354, 3) := by decide +kernel
theorem dX7_tellFraction_12 : decode cX7_tellFraction 12 = .ok (.lstore 5, 2) := by decide +kernel
theorem dX7_tellFraction_14 : decode cX7_tellFraction 14 = .ok (.lload 5, 2) := by decide +kernel
theorem dX7_tellFraction_16 : decode cX7_tellFraction 16 = .ok (.lconst 0, 1) := by decide +kernel
theorem dX7_tellFraction_17 : decode cX7_tellFraction 17 = .ok (.lcmp, 1) := by decide +kernel
theorem dX7_tellFraction_18 : decode cX7_tellFraction 18 = .ok (.ifCond .ne 4, 3) := by decide +kernel
theorem dX7_tellFraction_21 : decode cX7_tellFraction 21 = .ok (.return_, 1) := by decide +kernel
theorem dX7_tellFraction_22 : decode cX7_tellFraction 22 = .ok (.lload_n 3, 1) := by decide +kernel
theorem dX7_tellFraction_23 : decode cX7_tellFraction 23 = .ok (.lconst 0, 1) := by decide +kernel
theorem dX7_tellFraction_24 : decode cX7_tellFraction 24 = .ok (.lcmp, 1) := by decide +kernel
theorem dX7_tellFraction_25 : decode cX7_tellFraction 25 = .ok (.ifCond .ge 8, 3) := by decide +kernel
theorem dX7_tellFraction_28 : decode cX7_tellFraction 28 = .ok (.lload 5, 2) := by decide +kernel
theorem dX7_tellFraction_30 : decode cX7_tellFraction 30 = .ok (.lneg, 1) := by decide +kernel
theorem dX7_tellFraction_31 : decode cX7_tellFraction 31 = .ok (.lstore 5, 2) := by decide +kernel
theorem dX7_tellFraction_33 : decode cX7_tellFraction 33 = .ok (.aload_n 0, 1) := by decide +kernel
theorem dX7_tellFraction_34 : decode cX7_tellFraction 34 = .ok (.lload_n 1, 1) := by decide +kernel
theorem dX7_tellFraction_35 : decode cX7_tellFraction 35 = .ok (.lload 5, 2) := by decide +kernel
theorem dX7_tellFraction_37 : decode cX7_tellFraction 37 = .ok (.ldiv, 1) := by decide +kernel
theorem dX7_tellFraction_38 : decode cX7_tellFraction 38 = .ok (.putfield 328, 3) := by decide +kernel
theorem dX7_tellFraction_41 : decode cX7_tellFraction 41 = .ok (.aload_n 0, 1) := by decide +kernel
theorem dX7_tellFraction_42 : decode cX7_tellFraction 42 = .ok (.lload_n 3, 1) := by decide +kernel
theorem dX7_tellFraction_43 : decode cX7_tellFraction 43 = .ok (.lload 5, 2) := by decide +kernel
theorem dX7_tellFraction_45 : decode cX7_tellFraction 45 = .ok (.ldiv, 1) := by decide +kernel
theorem dX7_tellFraction_46 : decode cX7_tellFraction 46 = .ok (.putfield 66, 3) := by decide +kernel
theorem dX7_tellFraction_49 : decode cX7_tellFraction 49 = .ok (.return_, 1) := by decide +kernel
theorem dX7_sheetsThere_0 : decode cX7_sheetsThere 0 = .ok (.iconst 0, 1) := by decide +kernel
theorem dX7_sheetsThere_1 : decode cX7_sheetsThere 1 = .ok (.istore_n 1, 1) := by decide +kernel
theorem dX7_sheetsThere_2 : decode cX7_sheetsThere 2 = .ok (.iconst 0, 1) := by decide +kernel
theorem dX7_sheetsThere_3 : decode cX7_sheetsThere 3 = .ok (.istore_n 2, 1) := by decide +kernel
theorem dX7_sheetsThere_4 : decode cX7_sheetsThere 4 = .ok (.iload_n 2, 1) := by decide +kernel
theorem dX7_sheetsThere_5 : decode cX7_sheetsThere 5 = .ok (.bipush 8, 2) := by decide +kernel
theorem dX7_sheetsThere_7 : decode cX7_sheetsThere 7 = .ok (.if_icmp .ge 24, 3) := by decide +kernel
theorem dX7_sheetsThere_10 : decode cX7_sheetsThere 10 = .ok (.aload_n 0, 1) := by decide +kernel
theorem dX7_sheetsThere_11 : decode cX7_sheetsThere 11 = .ok (.getfield 11, 3) := by decide +kernel
theorem dX7_sheetsThere_14 : decode cX7_sheetsThere 14 = .ok (.iload_n 2, 1) := by decide +kernel
theorem dX7_sheetsThere_15 : decode cX7_sheetsThere 15 = .ok (.aaload, 1) := by decide +kernel
theorem dX7_sheetsThere_16 : decode cX7_sheetsThere 16 = .ok (.invokevirtual 87, 3) := by decide +kernel
theorem dX7_sheetsThere_19 : decode cX7_sheetsThere 19 = .ok (.ifCond .ne 6, 3) := by decide +kernel
theorem dX7_sheetsThere_22 : decode cX7_sheetsThere 22 = .ok (.iinc 1 1, 3) := by decide +kernel
theorem dX7_sheetsThere_25 : decode cX7_sheetsThere 25 = .ok (.iinc 2 1, 3) := by decide +kernel
theorem dX7_sheetsThere_28 : decode cX7_sheetsThere 28 = .ok (.goto (-24), 3) := by decide +kernel
theorem dX7_sheetsThere_31 : decode cX7_sheetsThere 31 = .ok (.iload_n 1, 1) := by decide +kernel
theorem dX7_sheetsThere_32 : decode cX7_sheetsThere 32 = .ok (.ireturn, 1) := by decide +kernel
theorem dX7_groundsThere_0 : decode cX7_groundsThere 0 = .ok (.iconst 0, 1) := by decide +kernel
theorem dX7_groundsThere_1 : decode cX7_groundsThere 1 = .ok (.istore_n 2, 1) := by decide +kernel
theorem dX7_groundsThere_2 : decode cX7_groundsThere 2 = .ok (.iconst 0, 1) := by decide +kernel
theorem dX7_groundsThere_3 : decode cX7_groundsThere 3 = .ok (.istore_n 3, 1) := by decide +kernel
theorem dX7_groundsThere_4 : decode cX7_groundsThere 4 = .ok (.iload_n 3, 1) := by decide +kernel
theorem dX7_groundsThere_5 : decode cX7_groundsThere 5 = .ok (.bipush 12, 2) := by decide +kernel
theorem dX7_groundsThere_7 : decode cX7_groundsThere 7 = .ok (.if_icmp .ge 37, 3) := by decide +kernel
theorem dX7_groundsThere_10 : decode cX7_groundsThere 10 = .ok (.aload_n 0, 1) := by decide +kernel
theorem dX7_groundsThere_11 : decode cX7_groundsThere 11 = .ok (.getfield 17, 3) := by decide +kernel
theorem dX7_groundsThere_14 : decode cX7_groundsThere 14 = .ok (.iload_n 3, 1) := by decide +kernel
theorem dX7_groundsThere_15 : decode cX7_groundsThere 15 = .ok (.aaload, 1) := by decide +kernel
theorem dX7_groundsThere_16 : decode cX7_groundsThere 16 = .ok (.getfield 134, 3) := by decide +kernel
theorem dX7_groundsThere_19 : decode cX7_groundsThere 19 = .ok (.ifCond .eq 19, 3) := by decide +kernel
theorem dX7_groundsThere_22 : decode cX7_groundsThere 22 = .ok (.aload_n 0, 1) := by decide +kernel
theorem dX7_groundsThere_23 : decode cX7_groundsThere 23 = .ok (.getfield 17, 3) := by decide +kernel
theorem dX7_groundsThere_26 : decode cX7_groundsThere 26 = .ok (.iload_n 3, 1) := by decide +kernel
theorem dX7_groundsThere_27 : decode cX7_groundsThere 27 = .ok (.aaload, 1) := by decide +kernel
theorem dX7_groundsThere_28 : decode cX7_groundsThere 28 = .ok (.iload_n 1, 1) := by decide +kernel
theorem dX7_groundsThere_29 : decode cX7_groundsThere 29 = .ok (.invokevirtual 150, 3) := by decide +kernel
theorem dX7_groundsThere_32 : decode cX7_groundsThere 32 = .ok (.ifCond .eq 6, 3) := by decide +kernel
theorem dX7_groundsThere_35 : decode cX7_groundsThere 35 = .ok (.iinc 2 1, 3) := by decide +kernel
theorem dX7_groundsThere_38 : decode cX7_groundsThere 38 = .ok (.iinc 3 1, 3) := by decide +kernel
theorem dX7_groundsThere_41 : decode cX7_groundsThere 41 = .ok (.goto (-37), 3) := by decide +kernel
theorem dX7_groundsThere_44 : decode cX7_groundsThere 44 = .ok (.iload_n 2, 1) := by decide +kernel
theorem dX7_groundsThere_45 : decode cX7_groundsThere 45 = .ok (.ireturn, 1) := by decide +kernel
theorem dX7_oneIf_0 : decode cX7_oneIf 0 = .ok (.iload_n 0, 1) := by decide +kernel
theorem dX7_oneIf_1 : decode cX7_oneIf 1 = .ok (.ifCond .eq 7, 3) := by decide +kernel
theorem dX7_oneIf_4 : decode cX7_oneIf 4 = .ok (.iconst 1, 1) := by decide +kernel
theorem dX7_oneIf_5 : decode cX7_oneIf 5 = .ok (.goto 4, 3) := by decide +kernel
theorem dX7_oneIf_8 : decode cX7_oneIf 8 = .ok (.iconst 0, 1) := by decide +kernel
theorem dX7_oneIf_9 : decode cX7_oneIf 9 = .ok (.ireturn, 1) := by decide +kernel
theorem dX7_signOf_0 : decode cX7_signOf 0 = .ok (.lload_n 0, 1) := by decide +kernel
theorem dX7_signOf_1 : decode cX7_signOf 1 = .ok (.lconst 0, 1) := by decide +kernel
theorem dX7_signOf_2 : decode cX7_signOf 2 = .ok (.lcmp, 1) := by decide +kernel
theorem dX7_signOf_3 : decode cX7_signOf 3 = .ok (.ifCond .le 7, 3) := by decide +kernel
theorem dX7_signOf_6 : decode cX7_signOf 6 = .ok (.iconst 1, 1) := by decide +kernel
theorem dX7_signOf_7 : decode cX7_signOf 7 = .ok (.goto 14, 3) := by decide +kernel
theorem dX7_signOf_10 : decode cX7_signOf 10 = .ok (.lload_n 0, 1) := by decide +kernel
theorem dX7_signOf_11 : decode cX7_signOf 11 = .ok (.lconst 0, 1) := by decide +kernel
theorem dX7_signOf_12 : decode cX7_signOf 12 = .ok (.lcmp, 1) := by decide +kernel
theorem dX7_signOf_13 : decode cX7_signOf 13 = .ok (.ifCond .ge 7, 3) := by decide +kernel
theorem dX7_signOf_16 : decode cX7_signOf 16 = .ok (.iconst (-1), 1) := by decide +kernel
theorem dX7_signOf_17 : decode cX7_signOf 17 = .ok (.goto 4, 3) := by decide +kernel
theorem dX7_signOf_20 : decode cX7_signOf 20 = .ok (.iconst 0, 1) := by decide +kernel
theorem dX7_signOf_21 : decode cX7_signOf 21 = .ok (.ireturn, 1) := by decide +kernel
theorem dX7_isSquare_0 : decode cX7_isSquare 0 = .ok (.iconst 0, 1) := by decide +kernel
theorem dX7_isSquare_1 : decode cX7_isSquare 1 = .ok (.istore_n 1, 1) := by decide +kernel
theorem dX7_isSquare_2 : decode cX7_isSquare 2 = .ok (.iload_n 1, 1) := by decide +kernel
theorem dX7_isSquare_3 : decode cX7_isSquare 3 = .ok (.bipush 64, 2) := by decide +kernel
theorem dX7_isSquare_5 : decode cX7_isSquare 5 = .ok (.if_icmp .gt 25, 3) := by decide +kernel
theorem dX7_isSquare_8 : decode cX7_isSquare 8 = .ok (.iload_n 1, 1) := by decide +kernel
theorem dX7_isSquare_9 : decode cX7_isSquare 9 = .ok (.iload_n 1, 1) := by decide +kernel
theorem dX7_isSquare_10 : decode cX7_isSquare 10 = .ok (.imul, 1) := by decide +kernel
theorem dX7_isSquare_11 : decode cX7_isSquare 11 = .ok (.iload_n 0, 1) := by decide +kernel
theorem dX7_isSquare_12 : decode cX7_isSquare 12 = .ok (.if_icmp .gt 18, 3) := by decide +kernel
theorem dX7_isSquare_15 : decode cX7_isSquare 15 = .ok (.iload_n 1, 1) := by decide +kernel
theorem dX7_isSquare_16 : decode cX7_isSquare 16 = .ok (.iload_n 1, 1) := by decide +kernel
theorem dX7_isSquare_17 : decode cX7_isSquare 17 = .ok (.imul, 1) := by decide +kernel
theorem dX7_isSquare_18 : decode cX7_isSquare 18 = .ok (.iload_n 0, 1) := by decide +kernel
theorem dX7_isSquare_19 : decode cX7_isSquare 19 = .ok (.if_icmp .ne 5, 3) := by decide +kernel
theorem dX7_isSquare_22 : decode cX7_isSquare 22 = .ok (.iconst 1, 1) := by decide +kernel
theorem dX7_isSquare_23 : decode cX7_isSquare 23 = .ok (.ireturn, 1) := by decide +kernel
theorem dX7_isSquare_24 : decode cX7_isSquare 24 = .ok (.iinc 1 1, 3) := by decide +kernel
theorem dX7_isSquare_27 : decode cX7_isSquare 27 = .ok (.goto (-25), 3) := by decide +kernel
theorem dX7_isSquare_30 : decode cX7_isSquare 30 = .ok (.iconst 0, 1) := by decide +kernel
theorem dX7_isSquare_31 : decode cX7_isSquare 31 = .ok (.ireturn, 1) := by decide +kernel
theorem dX7_commonPart_0 : decode cX7_commonPart 0 = .ok (.lload_n 0, 1) := by decide +kernel
theorem dX7_commonPart_1 : decode cX7_commonPart 1 = .ok (.invokestatic 358, 3) := by decide +kernel
theorem dX7_commonPart_4 : decode cX7_commonPart 4 = .ok (.lstore 4, 2) := by decide +kernel
theorem dX7_commonPart_6 : decode cX7_commonPart 6 = .ok (.lload_n 2, 1) := by decide +kernel
theorem dX7_commonPart_7 : decode cX7_commonPart 7 = .ok (.invokestatic 358, 3) := by decide +kernel
theorem dX7_commonPart_10 : decode cX7_commonPart 10 = .ok (.lstore 6, 2) := by decide +kernel
theorem dX7_commonPart_12 : decode cX7_commonPart 12 = .ok (.iconst 0, 1) := by decide +kernel
theorem dX7_commonPart_13 : decode cX7_commonPart 13 = .ok (.istore 8, 2) := by decide +kernel
theorem dX7_commonPart_15 : decode cX7_commonPart 15 = .ok (.iload 8, 2) := by decide +kernel
theorem dX7_commonPart_17 : decode cX7_commonPart 17 = .ok (.bipush 100, 2) := by decide +kernel
theorem dX7_commonPart_19 : decode cX7_commonPart 19 = .ok (.if_icmp .ge 31, 3) := by decide +kernel
theorem dX7_commonPart_22 : decode cX7_commonPart 22 = .ok (.lload 6, 2) := by decide +kernel
theorem dX7_commonPart_24 : decode cX7_commonPart 24 = .ok (.lconst 0, 1) := by decide +kernel
theorem dX7_commonPart_25 : decode cX7_commonPart 25 = .ok (.lcmp, 1) := by decide +kernel
theorem dX7_commonPart_26 : decode cX7_commonPart 26 = .ok (.ifCond .eq 24, 3) := by decide +kernel
theorem dX7_commonPart_29 : decode cX7_commonPart 29 = .ok (.lload 4, 2) := by decide +kernel
theorem dX7_commonPart_31 : decode cX7_commonPart 31 = .ok (.lload 6, 2) := by decide +kernel
theorem dX7_commonPart_33 : decode cX7_commonPart 33 = .ok (.lrem, 1) := by decide +kernel
theorem dX7_commonPart_34 : decode cX7_commonPart 34 = .ok (.lstore 9, 2) := by decide +kernel
theorem dX7_commonPart_36 : decode cX7_commonPart 36 = .ok (.lload 6, 2) := by decide +kernel
theorem dX7_commonPart_38 : decode cX7_commonPart 38 = .ok (.lstore 4, 2) := by decide +kernel
theorem dX7_commonPart_40 : decode cX7_commonPart 40 = .ok (.lload 9, 2) := by decide +kernel
theorem dX7_commonPart_42 : decode cX7_commonPart 42 = .ok (.lstore 6, 2) := by decide +kernel
theorem dX7_commonPart_44 : decode cX7_commonPart 44 = .ok (.iinc 8 1, 3) := by decide +kernel
theorem dX7_commonPart_47 : decode cX7_commonPart 47 = .ok (.goto (-32), 3) := by decide +kernel
theorem dX7_commonPart_50 : decode cX7_commonPart 50 = .ok (.lload 4, 2) := by decide +kernel
theorem dX7_commonPart_52 : decode cX7_commonPart 52 = .ok (.lreturn, 1) := by decide +kernel
theorem dX7_signChanges_0 : decode cX7_signChanges 0 = .ok (.iconst 0, 1) := by decide +kernel
theorem dX7_signChanges_1 : decode cX7_signChanges 1 = .ok (.istore_n 1, 1) := by decide +kernel
theorem dX7_signChanges_2 : decode cX7_signChanges 2 = .ok (.iconst 0, 1) := by decide +kernel
theorem dX7_signChanges_3 : decode cX7_signChanges 3 = .ok (.istore_n 2, 1) := by decide +kernel
theorem dX7_signChanges_4 : decode cX7_signChanges 4 = .ok (.iconst 0, 1) := by decide +kernel
theorem dX7_signChanges_5 : decode cX7_signChanges 5 = .ok (.istore_n 3, 1) := by decide +kernel
theorem dX7_signChanges_6 : decode cX7_signChanges 6 = .ok (.iload_n 3, 1) := by decide +kernel
theorem dX7_signChanges_7 : decode cX7_signChanges 7 = .ok (.aload_n 0, 1) := by decide +kernel
theorem dX7_signChanges_8 : decode cX7_signChanges 8 = .ok (.arraylength, 1) := by decide +kernel
theorem dX7_signChanges_9 : decode cX7_signChanges 9 = .ok (.if_icmp .ge 38, 3) := by decide +kernel
theorem dX7_signChanges_12 : decode cX7_signChanges 12 = .ok (.aload_n 0, 1) := by decide +kernel
theorem dX7_signChanges_13 : decode cX7_signChanges 13 = .ok (.iload_n 3, 1) := by decide +kernel
theorem dX7_signChanges_14 : decode cX7_signChanges 14 = .ok (.laload, 1) := by decide +kernel
theorem dX7_signChanges_15 : decode cX7_signChanges 15 = .ok (.invokestatic 225, 3) := by decide +kernel
theorem dX7_signChanges_18 : decode cX7_signChanges 18 = .ok (.istore 4, 2) := by decide +kernel
theorem dX7_signChanges_20 : decode cX7_signChanges 20 = .ok (.iload 4, 2) := by decide +kernel
theorem dX7_signChanges_22 : decode cX7_signChanges 22 = .ok (.ifCond .eq 19, 3) := by decide +kernel
theorem dX7_signChanges_25 : decode cX7_signChanges 25 = .ok (.iload_n 2, 1) := by decide +kernel
theorem dX7_signChanges_26 : decode cX7_signChanges 26 = .ok (.ifCond .eq 12, 3) := by decide +kernel
theorem dX7_signChanges_29 : decode cX7_signChanges 29 = .ok (.iload 4, 2) := by decide +kernel
theorem dX7_signChanges_31 : decode cX7_signChanges 31 = .ok (.iload_n 2, 1) := by decide +kernel
theorem dX7_signChanges_32 : decode cX7_signChanges 32 = .ok (.if_icmp .eq 6, 3) := by decide +kernel
theorem dX7_signChanges_35 : decode cX7_signChanges 35 = .ok (.iinc 1 1, 3) := by decide +kernel
theorem dX7_signChanges_38 : decode cX7_signChanges 38 = .ok (.iload 4, 2) := by decide +kernel
theorem dX7_signChanges_40 : decode cX7_signChanges 40 = .ok (.istore_n 2, 1) := by decide +kernel
theorem dX7_signChanges_41 : decode cX7_signChanges 41 = .ok (.iinc 3 1, 3) := by decide +kernel
theorem dX7_signChanges_44 : decode cX7_signChanges 44 = .ok (.goto (-38), 3) := by decide +kernel
theorem dX7_signChanges_47 : decode cX7_signChanges 47 = .ok (.iload_n 1, 1) := by decide +kernel
theorem dX7_signChanges_48 : decode cX7_signChanges 48 = .ok (.ireturn, 1) := by decide +kernel
theorem dX8_init_0 : decode cX8_init 0 = .ok (.aload_n 0, 1) := by decide +kernel
theorem dX8_init_1 : decode cX8_init 1 = .ok (.invokespecial 1, 3) := by decide +kernel
theorem dX8_init_4 : decode cX8_init 4 = .ok (.aload_n 0, 1) := by decide +kernel
theorem dX8_init_5 : decode cX8_init 5 = .ok (.bipush 6, 2) := by decide +kernel
theorem dX8_init_7 : decode cX8_init 7 = .ok (.newarray .int, 2) := by decide +kernel
theorem dX8_init_9 : decode cX8_init 9 = .ok (.putfield 7, 3) := by decide +kernel
theorem dX8_init_12 : decode cX8_init 12 = .ok (.aload_n 0, 1) := by decide +kernel
theorem dX8_init_13 : decode cX8_init 13 = .ok (.lconst 1, 1) := by decide +kernel
theorem dX8_init_14 : decode cX8_init 14 = .ok (.putfield 13, 3) := by decide +kernel
theorem dX8_init_17 : decode cX8_init 17 = .ok (.aload_n 0, 1) := by decide +kernel
theorem dX8_init_18 : decode cX8_init 18 = .ok (.bipush 8, 2) := by decide +kernel
theorem dX8_init_20 : decode cX8_init 20 = .ok (.newarray .int, 2) := by decide +kernel
theorem dX8_init_22 : decode cX8_init 22 = .ok (.putfield 17, 3) := by decide +kernel
theorem dX8_init_25 : decode cX8_init 25 = .ok (.aload_n 0, 1) := by decide +kernel
theorem dX8_init_26 : decode cX8_init 26 = .ok (.sipush 128, 3) := by decide +kernel
theorem dX8_init_29 : decode cX8_init 29 = .ok (.newarray .int, 2) := by decide +kernel
theorem dX8_init_31 : decode cX8_init 31 = .ok (.putfield 20, 3) := by decide +kernel
theorem dX8_init_34 : decode cX8_init 34 = .ok (.aload_n 0, 1) := by decide +kernel
theorem dX8_init_35 : decode cX8_init 35 = .ok (.bipush 16, 2) := by decide +kernel
theorem dX8_init_37 : decode cX8_init 37 = .ok (.newarray .int, 2) := by decide +kernel
theorem dX8_init_39 : decode cX8_init 39 = .ok (.putfield 23, 3) := by decide +kernel
theorem dX8_init_42 : decode cX8_init 42 = .ok (.aload_n 0, 1) := by decide +kernel
theorem dX8_init_43 : decode cX8_init 43 = .ok (.bipush 16, 2) := by decide +kernel
theorem dX8_init_45 : decode cX8_init 45 = .ok (.newarray .long, 2) := by decide +kernel
theorem dX8_init_47 : decode cX8_init 47 = .ok (.putfield 26, 3) := by decide +kernel
theorem dX8_init_50 : decode cX8_init 50 = .ok (.aload_n 0, 1) := by decide +kernel
theorem dX8_init_51 : decode cX8_init 51 = .ok (.iconst 5, 1) := by decide +kernel
theorem dX8_init_52 : decode cX8_init 52 = .ok (.newarray .int, 2) := by decide +kernel
theorem dX8_init_54 : decode cX8_init 54 = .ok (.putfield 30, 3) := by decide +kernel
theorem dX8_init_57 : decode cX8_init 57 = .ok (.aload_n 0, 1) := by decide +kernel
theorem dX8_init_58 : decode cX8_init 58 = .ok (.bipush 12, 2) := by decide +kernel
theorem dX8_init_60 : decode cX8_init 60 = .ok (.newarray .boolean, 2) := by decide +kernel
theorem dX8_init_62 : decode cX8_init 62 = .ok (.putfield 33, 3) := by decide +kernel
theorem dX8_init_65 : decode cX8_init 65 = .ok (.aload_n 0, 1) := by decide +kernel
theorem dX8_init_66 : decode cX8_init 66 = .ok (.sipush 192, 3) := by decide +kernel
theorem dX8_init_69 : decode cX8_init 69 = .ok (.newarray .int, 2) := by decide +kernel
theorem dX8_init_71 : decode cX8_init 71 = .ok (.putfield 37, 3) := by decide +kernel
theorem dX8_init_74 : decode cX8_init 74 = .ok (.aload_n 0, 1) := by decide +kernel
theorem dX8_init_75 : decode cX8_init 75 = .ok (.bipush 120, 2) := by decide +kernel
theorem dX8_init_77 : decode cX8_init 77 = .ok (.newarray .int, 2) := by decide +kernel
theorem dX8_init_79 : decode cX8_init 79 = .ok (.putfield 40, 3) := by decide +kernel
theorem dX8_init_82 : decode cX8_init 82 = .ok (.aload_n 0, 1) := by decide +kernel
theorem dX8_init_83 : decode cX8_init 83 = .ok (.bipush 16, 2) := by decide +kernel
theorem dX8_init_85 : decode cX8_init 85 = .ok (.newarray .int, 2) := by decide +kernel
theorem dX8_init_87 : decode cX8_init 87 = .ok (.putfield 43, 3) := by decide +kernel
theorem dX8_init_90 : decode cX8_init 90 = .ok (.aload_n 0, 1) := by decide +kernel
theorem dX8_init_91 : decode cX8_init 91 = .ok (.iconst 4, 1) := by decide +kernel
theorem dX8_init_92 : decode cX8_init 92 = .ok (.newarray .int, 2) := by decide +kernel
theorem dX8_init_94 : decode cX8_init 94 = .ok (.putfield 46, 3) := by decide +kernel
theorem dX8_init_97 : decode cX8_init 97 = .ok (.aload_n 0, 1) := by decide +kernel
theorem dX8_init_98 : decode cX8_init 98 = .ok (.iconst 4, 1) := by decide +kernel
theorem dX8_init_99 : decode cX8_init 99 = .ok (.newarray .int, 2) := by decide +kernel
theorem dX8_init_101 : decode cX8_init 101 = .ok (.putfield 49, 3) := by decide +kernel
theorem dX8_init_104 : decode cX8_init 104 = .ok (.aload_n 0, 1) := by decide +kernel
theorem dX8_init_105 : decode cX8_init 105 = .ok (.iconst 3, 1) := by decide +kernel
theorem dX8_init_106 : decode cX8_init 106 = .ok (.newarray .int, 2) := by decide +kernel
theorem dX8_init_108 : decode cX8_init 108 = .ok (.putfield 52, 3) := by decide +kernel
theorem dX8_init_111 : decode cX8_init 111 = .ok (.aload_n 0, 1) := by decide +kernel
theorem dX8_init_112 : decode cX8_init 112 = .ok (.bipush 12, 2) := by decide +kernel
theorem dX8_init_114 : decode cX8_init 114 = .ok (.newarray .int, 2) := by decide +kernel
theorem dX8_init_116 : decode cX8_init 116 = .ok (.putfield 55, 3) := by decide +kernel
theorem dX8_init_119 : decode cX8_init 119 = .ok (.aload_n 0, 1) := by decide +kernel
theorem dX8_init_120 : decode cX8_init 120 = .ok (.iconst 4, 1) := by decide +kernel
theorem dX8_init_121 : decode cX8_init 121 = .ok (.newarray .int, 2) := by decide +kernel
theorem dX8_init_123 : decode cX8_init 123 = .ok (.putfield 58, 3) := by decide +kernel
theorem dX8_init_126 : decode cX8_init 126 = .ok (.aload_n 0, 1) := by decide +kernel
theorem dX8_init_127 : decode cX8_init 127 = .ok (.iconst 4, 1) := by decide +kernel
theorem dX8_init_128 : decode cX8_init 128 = .ok (.newarray .int, 2) := by decide +kernel
theorem dX8_init_130 : decode cX8_init 130 = .ok (.putfield 61, 3) := by decide +kernel
theorem dX8_init_133 : decode cX8_init 133 = .ok (.aload_n 0, 1) := by decide +kernel
theorem dX8_init_134 : decode cX8_init 134 = .ok (.iconst 5, 1) := by decide +kernel
theorem dX8_init_135 : decode cX8_init 135 = .ok (.newarray .long, 2) := by decide +kernel
theorem dX8_init_137 : decode cX8_init 137 = .ok (.putfield 64, 3) := by decide +kernel
theorem dX8_init_140 : decode cX8_init 140 = .ok (.aload_n 0, 1) := by decide +kernel
theorem dX8_init_141 : decode cX8_init 141 = .ok (.bipush 16, 2) := by decide +kernel
theorem dX8_init_143 : decode cX8_init 143 = .ok (.newarray .int, 2) := by decide +kernel
theorem dX8_init_145 : decode cX8_init 145 = .ok (.putfield 67, 3) := by decide +kernel
theorem dX8_init_148 : decode cX8_init 148 = .ok (.aload_n 0, 1) := by decide +kernel
theorem dX8_init_149 : decode cX8_init 149 = .ok (.bipush 16, 2) := by decide +kernel
theorem dX8_init_151 : decode cX8_init 151 = .ok (.newarray .int, 2) := by decide +kernel
theorem dX8_init_153 : decode cX8_init 153 = .ok (.putfield 70, 3) := by decide +kernel
theorem dX8_init_156 : decode cX8_init 156 = .ok (.aload_n 0, 1) := by decide +kernel
theorem dX8_init_157 : decode cX8_init 157 = .ok (.iconst 5, 1) := by decide +kernel
theorem dX8_init_158 : decode cX8_init 158 = .ok (.newarray .long, 2) := by decide +kernel
theorem dX8_init_160 : decode cX8_init 160 = .ok (.putfield 73, 3) := by decide +kernel
theorem dX8_init_163 : decode cX8_init 163 = .ok (.aload_n 0, 1) := by decide +kernel
theorem dX8_init_164 : decode cX8_init 164 = .ok (.bipush 8, 2) := by decide +kernel
theorem dX8_init_166 : decode cX8_init 166 = .ok (.newarray .long, 2) := by decide +kernel
theorem dX8_init_168 : decode cX8_init 168 = .ok (.putfield 76, 3) := by decide +kernel
theorem dX8_init_171 : decode cX8_init 171 = .ok (.aload_n 0, 1) := by decide +kernel
theorem dX8_init_172 : decode cX8_init 172 = .ok (.bipush 8, 2) := by decide +kernel
theorem dX8_init_174 : decode cX8_init 174 = .ok (.newarray .long, 2) := by decide +kernel
theorem dX8_init_176 : decode cX8_init 176 = .ok (.putfield 79, 3) := by decide +kernel
theorem dX8_init_179 : decode cX8_init 179 = .ok (.aload_n 0, 1) := by decide +kernel
theorem dX8_init_180 : decode cX8_init 180 = .ok (.bipush 8, 2) := by decide +kernel
theorem dX8_init_182 : decode cX8_init 182 = .ok (.newarray .long, 2) := by decide +kernel
theorem dX8_init_184 : decode cX8_init 184 = .ok (.putfield 82, 3) := by decide +kernel
theorem dX8_init_187 : decode cX8_init 187 = .ok (.aload_n 0, 1) := by decide +kernel
theorem dX8_init_188 : decode cX8_init 188 = .ok (.iconst 4, 1) := by decide +kernel
theorem dX8_init_189 : decode cX8_init 189 = .ok (.newarray .long, 2) := by decide +kernel
theorem dX8_init_191 : decode cX8_init 191 = .ok (.putfield 85, 3) := by decide +kernel
theorem dX8_init_194 : decode cX8_init 194 = .ok (.aload_n 0, 1) := by decide +kernel
theorem dX8_init_195 : decode cX8_init 195 = .ok (.iconst 4, 1) := by decide +kernel
theorem dX8_init_196 : decode cX8_init 196 = .ok (.newarray .long, 2) := by decide +kernel
theorem dX8_init_198 : decode cX8_init 198 = .ok (.putfield 88, 3) := by decide +kernel
theorem dX8_init_201 : decode cX8_init 201 = .ok (.aload_n 0, 1) := by decide +kernel
theorem dX8_init_202 : decode cX8_init 202 = .ok (.iconst 4, 1) := by decide +kernel
theorem dX8_init_203 : decode cX8_init 203 = .ok (.newarray .int, 2) := by decide +kernel
theorem dX8_init_205 : decode cX8_init 205 = .ok (.putfield 91, 3) := by decide +kernel
theorem dX8_init_208 : decode cX8_init 208 = .ok (.aload_n 0, 1) := by decide +kernel
theorem dX8_init_209 : decode cX8_init 209 = .ok (.iconst 5, 1) := by decide +kernel
theorem dX8_init_210 : decode cX8_init 210 = .ok (.newarray .long, 2) := by decide +kernel
theorem dX8_init_212 : decode cX8_init 212 = .ok (.putfield 94, 3) := by decide +kernel
theorem dX8_init_215 : decode cX8_init 215 = .ok (.aload_n 0, 1) := by decide +kernel
theorem dX8_init_216 : decode cX8_init 216 = .ok (.iconst 4, 1) := by decide +kernel
theorem dX8_init_217 : decode cX8_init 217 = .ok (.newarray .int, 2) := by decide +kernel
theorem dX8_init_219 : decode cX8_init 219 = .ok (.putfield 97, 3) := by decide +kernel
theorem dX8_init_222 : decode cX8_init 222 = .ok (.aload_n 0, 1) := by decide +kernel
theorem dX8_init_223 : decode cX8_init 223 = .ok (.iconst 4, 1) := by decide +kernel
theorem dX8_init_224 : decode cX8_init 224 = .ok (.newarray .int, 2) := by decide +kernel
theorem dX8_init_226 : decode cX8_init 226 = .ok (.putfield 100, 3) := by decide +kernel
theorem dX8_init_229 : decode cX8_init 229 = .ok (.aload_n 0, 1) := by decide +kernel
theorem dX8_init_230 : decode cX8_init 230 = .ok (.iconst 4, 1) := by decide +kernel
theorem dX8_init_231 : decode cX8_init 231 = .ok (.newarray .int, 2) := by decide +kernel
theorem dX8_init_233 : decode cX8_init 233 = .ok (.putfield 103, 3) := by decide +kernel
theorem dX8_init_236 : decode cX8_init 236 = .ok (.aload_n 0, 1) := by decide +kernel
theorem dX8_init_237 : decode cX8_init 237 = .ok (.sipush 257, 3) := by decide +kernel
theorem dX8_init_240 : decode cX8_init 240 = .ok (.newarray .int, 2) := by decide +kernel
theorem dX8_init_242 : decode cX8_init 242 = .ok (.putfield 106, 3) := by decide +kernel
theorem dX8_init_245 : decode cX8_init 245 = .ok (.aload_n 0, 1) := by decide +kernel
theorem dX8_init_246 : decode cX8_init 246 = .ok (.sipush 257, 3) := by decide +kernel
theorem dX8_init_249 : decode cX8_init 249 = .ok (.newarray .int, 2) := by decide +kernel
theorem dX8_init_251 : decode cX8_init 251 = .ok (.putfield 109, 3) := by decide +kernel
theorem dX8_init_254 : decode cX8_init 254 = .ok (.aload_n 0, 1) := by decide +kernel
theorem dX8_init_255 : decode cX8_init 255 = .ok (.sipush 300, 3) := by decide +kernel
theorem dX8_init_258 : decode cX8_init 258 = .ok (.newarray .int, 2) := by decide +kernel
theorem dX8_init_260 : decode cX8_init 260 = .ok (.putfield 112, 3) := by decide +kernel
theorem dX8_init_263 : decode cX8_init 263 = .ok (.iconst 0, 1) := by decide +kernel
theorem dX8_init_264 : decode cX8_init 264 = .ok (.istore_n 1, 1) := by decide +kernel
theorem dX8_init_265 : decode cX8_init 265 = .ok (.iload_n 1, 1) := by decide +kernel
theorem dX8_init_266 : decode cX8_init 266 = .ok (.bipush 8, 2) := by decide +kernel
theorem dX8_init_268 : decode cX8_init 268 = .ok (.if_icmp .ge 17, 3) := by decide +kernel
theorem dX8_init_271 : decode cX8_init 271 = .ok (.aload_n 0, 1) := by decide +kernel
theorem dX8_init_272 : decode cX8_init 272 = .ok (.getfield 17, 3) := by decide +kernel
theorem dX8_init_275 : decode cX8_init 275 = .ok (.iload_n 1, 1) := by decide +kernel
theorem dX8_init_276 : decode cX8_init 276 = .ok (.bipush (-9), 2) := by decide +kernel
theorem dX8_init_278 : decode cX8_init 278 = .ok (.iastore, 1) := by decide +kernel
theorem dX8_init_279 : decode cX8_init 279 = .ok (.iinc 1 1, 3) := by decide +kernel
theorem dX8_init_282 : decode cX8_init 282 = .ok (.goto (-17), 3) := by decide +kernel
theorem dX8_init_285 : decode cX8_init 285 = .ok (.return_, 1) := by decide +kernel
theorem dX8_in_0 : decode cX8_in 0 = .ok (.iload_n 0, 1) := by decide +kernel
theorem dX8_in_1 : decode cX8_in 1 = .ok (.iload_n 1, 1) := by decide +kernel
theorem dX8_in_2 : decode cX8_in 2 = .ok (.if_icmp .lt 12, 3) := by decide +kernel
theorem dX8_in_5 : decode cX8_in 5 = .ok (.iload_n 0, 1) := by decide +kernel
theorem dX8_in_6 : decode cX8_in 6 = .ok (.iload_n 2, 1) := by decide +kernel
theorem dX8_in_7 : decode cX8_in 7 = .ok (.if_icmp .gt 7, 3) := by decide +kernel
theorem dX8_in_10 : decode cX8_in 10 = .ok (.iconst 1, 1) := by decide +kernel
theorem dX8_in_11 : decode cX8_in 11 = .ok (.goto 4, 3) := by decide +kernel
theorem dX8_in_14 : decode cX8_in 14 = .ok (.iconst 0, 1) := by decide +kernel
theorem dX8_in_15 : decode cX8_in 15 = .ok (.ireturn, 1) := by decide +kernel
theorem dX8_meets_0 : decode cX8_meets 0 = .ok (.aload_n 0, 1) := by decide +kernel
theorem dX8_meets_1 : decode cX8_meets 1 = .ok (.iload_n 1, 1) := by decide +kernel
theorem dX8_meets_2 : decode cX8_meets 2 = .ok (.putfield 115, 3) := by decide +kernel
theorem dX8_meets_5 : decode cX8_meets 5 = .ok (.aload_n 0, 1) := by decide +kernel
theorem dX8_meets_6 : decode cX8_meets 6 = .ok (.getfield 7, 3) := by decide +kernel
theorem dX8_meets_9 : decode cX8_meets 9 = .ok (.iload_n 1, 1) := by decide +kernel
theorem dX8_meets_10 : decode cX8_meets 10 = .ok (.dup2, 1) := by decide +kernel
theorem dX8_meets_11 : decode cX8_meets 11 = .ok (.iaload, 1) := by decide +kernel
theorem dX8_meets_12 : decode cX8_meets 12 = .ok (.iconst 1, 1) := by decide +kernel
theorem dX8_meets_13 : decode cX8_meets 13 = .ok (.iadd, 1) := by decide +kernel
theorem dX8_meets_14 : decode cX8_meets 14 = .ok (.iastore, 1) := by decide +kernel
theorem dX8_meets_15 : decode cX8_meets 15 = .ok (.bipush (-3), 2) := by decide +kernel
theorem dX8_meets_17 : decode cX8_meets 17 = .ok (.ireturn, 1) := by decide +kernel
theorem dX8_ask_0 : decode cX8_ask 0 = .ok (.aload_n 0, 1) := by decide +kernel
theorem dX8_ask_1 : decode cX8_ask 1 = .ok (.iload_n 1, 1) := by decide +kernel
theorem dX8_ask_2 : decode cX8_ask 2 = .ok (.putfield 119, 3) := by decide +kernel
theorem dX8_ask_5 : decode cX8_ask 5 = .ok (.iload_n 2, 1) := by decide +kernel
theorem dX8_ask_6 : decode cX8_ask 6 = .ok (.ireturn, 1) := by decide +kernel
theorem dX8_size_0 : decode cX8_size 0 = .ok (.lload_n 0, 1) := by decide +kernel
theorem dX8_size_1 : decode cX8_size 1 = .ok (.lconst 0, 1) := by decide +kernel
theorem dX8_size_2 : decode cX8_size 2 = .ok (.lcmp, 1) := by decide +kernel
theorem dX8_size_3 : decode cX8_size 3 = .ok (.ifCond .ge 8, 3) := by decide +kernel
theorem dX8_size_6 : decode cX8_size 6 = .ok (.lload_n 0, 1) := by decide +kernel
theorem dX8_size_7 : decode cX8_size 7 = .ok (.lneg, 1) := by decide +kernel
theorem dX8_size_8 : decode cX8_size 8 = .ok (.goto 4, 3) := by decide +kernel
theorem dX8_size_11 : decode cX8_size 11 = .ok (.lload_n 0, 1) := by decide +kernel
theorem dX8_size_12 : decode cX8_size 12 = .ok (.lreturn, 1) := by decide +kernel
theorem dX8_sign_0 : decode cX8_sign 0 = .ok (.lload_n 0, 1) := by decide +kernel
theorem dX8_sign_1 : decode cX8_sign 1 = .ok (.lconst 0, 1) := by decide +kernel
theorem dX8_sign_2 : decode cX8_sign 2 = .ok (.lcmp, 1) := by decide +kernel
theorem dX8_sign_3 : decode cX8_sign 3 = .ok (.ifCond .le 7, 3) := by decide +kernel
theorem dX8_sign_6 : decode cX8_sign 6 = .ok (.iconst 1, 1) := by decide +kernel
theorem dX8_sign_7 : decode cX8_sign 7 = .ok (.goto 14, 3) := by decide +kernel
theorem dX8_sign_10 : decode cX8_sign 10 = .ok (.lload_n 0, 1) := by decide +kernel
theorem dX8_sign_11 : decode cX8_sign 11 = .ok (.lconst 0, 1) := by decide +kernel
theorem dX8_sign_12 : decode cX8_sign 12 = .ok (.lcmp, 1) := by decide +kernel
theorem dX8_sign_13 : decode cX8_sign 13 = .ok (.ifCond .ge 7, 3) := by decide +kernel
theorem dX8_sign_16 : decode cX8_sign 16 = .ok (.iconst (-1), 1) := by decide +kernel
theorem dX8_sign_17 : decode cX8_sign 17 = .ok (.goto 4, 3) := by decide +kernel
theorem dX8_sign_20 : decode cX8_sign 20 = .ok (.iconst 0, 1) := by decide +kernel
theorem dX8_sign_21 : decode cX8_sign 21 = .ok (.ireturn, 1) := by decide +kernel
theorem dX8_divisor_0 : decode cX8_divisor 0 = .ok (.lload_n 0, 1) := by decide +kernel
theorem dX8_divisor_1 : decode cX8_divisor 1 = .ok (.invokestatic 122, 3) := by decide +kernel
theorem dX8_divisor_4 : decode cX8_divisor 4 = .ok (.lstore 4, 2) := by decide +kernel
theorem dX8_divisor_6 : decode cX8_divisor 6 = .ok (.lload_n 2, 1) := by decide +kernel
theorem dX8_divisor_7 : decode cX8_divisor 7 = .ok (.invokestatic 122, 3) := by decide +kernel
theorem dX8_divisor_10 : decode cX8_divisor 10 = .ok (.lstore 6, 2) := by decide +kernel
theorem dX8_divisor_12 : decode cX8_divisor 12 = .ok (.lload 6, 2) := by decide +kernel
theorem dX8_divisor_14 : decode cX8_divisor 14 = .ok (.lconst 0, 1) := by decide +kernel
theorem dX8_divisor_15 : decode cX8_divisor 15 = .ok (.lcmp, 1) := by decide +kernel
theorem dX8_divisor_16 : decode cX8_divisor 16 = .ok (.ifCond .eq 21, 3) := by decide +kernel
theorem dX8_divisor_19 : decode cX8_divisor 19 = .ok (.lload 4, 2) := by decide +kernel
theorem dX8_divisor_21 : decode cX8_divisor 21 = .ok (.lload 6, 2) := by decide +kernel
theorem dX8_divisor_23 : decode cX8_divisor 23 = .ok (.lrem, 1) := by decide +kernel
theorem dX8_divisor_24 : decode cX8_divisor 24 = .ok (.lstore 8, 2) := by decide +kernel
theorem dX8_divisor_26 : decode cX8_divisor 26 = .ok (.lload 6, 2) := by decide +kernel
theorem dX8_divisor_28 : decode cX8_divisor 28 = .ok (.lstore 4, 2) := by decide +kernel
theorem dX8_divisor_30 : decode cX8_divisor 30 = .ok (.lload 8, 2) := by decide +kernel
theorem dX8_divisor_32 : decode cX8_divisor 32 = .ok (.lstore 6, 2) := by decide +kernel
theorem dX8_divisor_34 : decode cX8_divisor 34 = .ok (.goto (-22), 3) := by decide +kernel
theorem dX8_divisor_37 : decode cX8_divisor 37 = .ok (.lload 4, 2) := by decide +kernel
theorem dX8_divisor_39 : decode cX8_divisor 39 = .ok (.lreturn, 1) := by decide +kernel
theorem dX8_share_0 : decode cX8_share 0 = .ok (.lload_n 3, 1) := by decide +kernel
theorem dX8_share_1 : decode cX8_share 1 = .ok (.lconst 0, 1) := by decide +kernel
theorem dX8_share_2 : decode cX8_share 2 = .ok (.lcmp, 1) := by decide +kernel
theorem dX8_share_3 : decode cX8_share 3 = .ok (.ifCond .ge 12, 3) := by decide +kernel
theorem dX8_share_6 : decode cX8_share 6 = .ok (.lload_n 1, 1) := by decide +kernel
theorem dX8_share_7 : decode cX8_share 7 = .ok (.lload_n 3, 1) := by decide +kernel
theorem dX8_share_8 : decode cX8_share 8 = .ok (.invokestatic 126, 3) := by decide +kernel
theorem dX8_share_11 : decode cX8_share 11 = .ok (.lneg, 1) := by decide +kernel
theorem dX8_share_12 : decode cX8_share 12 = .ok (.goto 8, 3) := by decide +kernel
theorem dX8_share_15 : decode cX8_share 15 = .ok (.lload_n 1, 1) := by decide +kernel
theorem dX8_share_16 : decode cX8_share 16 = .ok (.lload_n 3, 1) := by decide +kernel
theorem dX8_share_17 : decode cX8_share 17 = .ok (.invokestatic 126, 3) := by decide +kernel
theorem dX8_share_20 : decode cX8_share 20 = .ok (.lstore 6, 2) := by decide +kernel
theorem dX8_share_22 : decode cX8_share 22 = .ok (.aload_n 0, 1) := by decide +kernel
theorem dX8_share_23 : decode cX8_share 23 = .ok (.lload_n 1, 1) := by decide +kernel
theorem dX8_share_24 : decode cX8_share 24 = .ok (.lload 6, 2) := by decide +kernel
theorem dX8_share_26 : decode cX8_share 26 = .ok (.ldiv, 1) := by decide +kernel
theorem dX8_share_27 : decode cX8_share 27 = .ok (.putfield 130, 3) := by decide +kernel
theorem dX8_share_30 : decode cX8_share 30 = .ok (.aload_n 0, 1) := by decide +kernel
theorem dX8_share_31 : decode cX8_share 31 = .ok (.lload_n 3, 1) := by decide +kernel
theorem dX8_share_32 : decode cX8_share 32 = .ok (.lload 6, 2) := by decide +kernel
theorem dX8_share_34 : decode cX8_share 34 = .ok (.ldiv, 1) := by decide +kernel
theorem dX8_share_35 : decode cX8_share 35 = .ok (.putfield 13, 3) := by decide +kernel
theorem dX8_share_38 : decode cX8_share 38 = .ok (.iload 5, 2) := by decide +kernel
theorem dX8_share_40 : decode cX8_share 40 = .ok (.ireturn, 1) := by decide +kernel
theorem dX8_isSheet_0 : decode cX8_isSheet 0 = .ok (.iload_n 0, 1) := by decide +kernel
theorem dX8_isSheet_1 : decode cX8_isSheet 1 = .ok (.iconst 0, 1) := by decide +kernel
theorem dX8_isSheet_2 : decode cX8_isSheet 2 = .ok (.bipush 7, 2) := by decide +kernel
theorem dX8_isSheet_4 : decode cX8_isSheet 4 = .ok (.invokestatic 133, 3) := by decide +kernel
theorem dX8_isSheet_7 : decode cX8_isSheet 7 = .ok (.ireturn, 1) := by decide +kernel
theorem dX8_looked_0 : decode cX8_looked 0 = .ok (.iload_n 1, 1) := by decide +kernel
theorem dX8_looked_1 : decode cX8_looked 1 = .ok (.invokestatic 137, 3) := by decide +kernel
theorem dX8_looked_4 : decode cX8_looked 4 = .ok (.ifCond .ne 7, 3) := by decide +kernel
theorem dX8_looked_7 : decode cX8_looked 7 = .ok (.iconst (-1), 1) := by decide +kernel
theorem dX8_looked_8 : decode cX8_looked 8 = .ok (.goto 21, 3) := by decide +kernel
theorem dX8_looked_11 : decode cX8_looked 11 = .ok (.aload_n 0, 1) := by decide +kernel
theorem dX8_looked_12 : decode cX8_looked 12 = .ok (.getfield 17, 3) := by decide +kernel
theorem dX8_looked_15 : decode cX8_looked 15 = .ok (.iload_n 1, 1) := by decide +kernel
theorem dX8_looked_16 : decode cX8_looked 16 = .ok (.iaload, 1) := by decide +kernel
theorem dX8_looked_17 : decode cX8_looked 17 = .ok (.ifCond .ge 11, 3) := by decide +kernel
theorem dX8_looked_20 : decode cX8_looked 20 = .ok (.aload_n 0, 1) := by decide +kernel
theorem dX8_looked_21 : decode cX8_looked 21 = .ok (.iconst 1, 1) := by decide +kernel
theorem dX8_looked_22 : decode cX8_looked 22 = .ok (.invokevirtual 141, 3) := by decide +kernel
theorem dX8_looked_25 : decode cX8_looked 25 = .ok (.goto 4, 3) := by decide +kernel
theorem dX8_looked_28 : decode cX8_looked 28 = .ok (.iconst 0, 1) := by decide +kernel
theorem dX8_looked_29 : decode cX8_looked 29 = .ok (.ireturn, 1) := by decide +kernel
theorem dX8_clear_0 : decode cX8_clear 0 = .ok (.aload_n 0, 1) := by decide +kernel
theorem dX8_clear_1 : decode cX8_clear 1 = .ok (.getfield 17, 3) := by decide +kernel
theorem dX8_clear_4 : decode cX8_clear 4 = .ok (.iload_n 1, 1) := by decide +kernel
theorem dX8_clear_5 : decode cX8_clear 5 = .ok (.iload_n 2, 1) := by decide +kernel
theorem dX8_clear_6 : decode cX8_clear 6 = .ok (.iastore, 1) := by decide +kernel
theorem dX8_clear_7 : decode cX8_clear 7 = .ok (.iconst 0, 1) := by decide +kernel
theorem dX8_clear_8 : decode cX8_clear 8 = .ok (.istore_n 3, 1) := by decide +kernel
theorem dX8_clear_9 : decode cX8_clear 9 = .ok (.iload_n 3, 1) := by decide +kernel
theorem dX8_clear_10 : decode cX8_clear 10 = .ok (.bipush 16, 2) := by decide +kernel
theorem dX8_clear_12 : decode cX8_clear 12 = .ok (.if_icmp .ge 21, 3) := by decide +kernel
theorem dX8_clear_15 : decode cX8_clear 15 = .ok (.aload_n 0, 1) := by decide +kernel
theorem dX8_clear_16 : decode cX8_clear 16 = .ok (.getfield 20, 3) := by decide +kernel
theorem dX8_clear_19 : decode cX8_clear 19 = .ok (.bipush 16, 2) := by decide +kernel
theorem dX8_clear_21 : decode cX8_clear 21 = .ok (.iload_n 1, 1) := by decide +kernel
theorem dX8_clear_22 : decode cX8_clear 22 = .ok (.imul, 1) := by decide +kernel
theorem dX8_clear_23 : decode cX8_clear 23 = .ok (.iload_n 3, 1) := by decide +kernel
theorem dX8_clear_24 : decode cX8_clear 24 = .ok (.iadd, 1) := by decide +kernel
theorem dX8_clear_25 : decode cX8_clear 25 = .ok (.iconst 0, 1) := by decide +kernel
theorem dX8_clear_26 : decode cX8_clear 26 = .ok (.iastore, 1) := by decide +kernel
theorem dX8_clear_27 : decode cX8_clear 27 = .ok (.iinc 3 1, 3) := by decide +kernel
theorem dX8_clear_30 : decode cX8_clear 30 = .ok (.goto (-21), 3) := by decide +kernel
theorem dX8_clear_33 : decode cX8_clear 33 = .ok (.return_, 1) := by decide +kernel
theorem dX8_sheet_0 : decode cX8_sheet 0 = .ok (.iload_n 1, 1) := by decide +kernel
theorem dX8_sheet_1 : decode cX8_sheet 1 = .ok (.invokestatic 137, 3) := by decide +kernel
theorem dX8_sheet_4 : decode cX8_sheet 4 = .ok (.ifCond .eq 9, 3) := by decide +kernel
theorem dX8_sheet_7 : decode cX8_sheet 7 = .ok (.iload_n 2, 1) := by decide +kernel
theorem dX8_sheet_8 : decode cX8_sheet 8 = .ok (.bipush 16, 2) := by decide +kernel
theorem dX8_sheet_10 : decode cX8_sheet 10 = .ok (.if_icmp .le 5, 3) := by decide +kernel
theorem dX8_sheet_13 : decode cX8_sheet 13 = .ok (.iconst (-1), 1) := by decide +kernel
theorem dX8_sheet_14 : decode cX8_sheet 14 = .ok (.ireturn, 1) := by decide +kernel
theorem dX8_sheet_15 : decode cX8_sheet 15 = .ok (.iload_n 2, 1) := by decide +kernel
theorem dX8_sheet_16 : decode cX8_sheet 16 = .ok (.ifCond .ge 9, 3) := by decide +kernel
theorem dX8_sheet_19 : decode cX8_sheet 19 = .ok (.aload_n 0, 1) := by decide +kernel
theorem dX8_sheet_20 : decode cX8_sheet 20 = .ok (.iconst 5, 1) := by decide +kernel
theorem dX8_sheet_21 : decode cX8_sheet 21 = .ok (.invokevirtual 141, 3) := by decide +kernel
theorem dX8_sheet_24 : decode cX8_sheet 24 = .ok (.ireturn, 1) := by decide +kernel
theorem dX8_sheet_25 : decode cX8_sheet 25 = .ok (.aload_n 0, 1) := by decide +kernel
theorem dX8_sheet_26 : decode cX8_sheet 26 = .ok (.iload_n 1, 1) := by decide +kernel
theorem dX8_sheet_27 : decode cX8_sheet 27 = .ok (.iload_n 2, 1) := by decide +kernel
theorem dX8_sheet_28 : decode cX8_sheet 28 = .ok (.invokevirtual 145, 3) := by decide +kernel
theorem dX8_sheet_31 : decode cX8_sheet 31 = .ok (.iload_n 2, 1) := by decide +kernel
theorem dX8_sheet_32 : decode cX8_sheet 32 = .ok (.ireturn, 1) := by decide +kernel
theorem dX8_lay_0 : decode cX8_lay 0 = .ok (.aload_n 0, 1) := by decide +kernel
theorem dX8_lay_1 : decode cX8_lay 1 = .ok (.iload_n 1, 1) := by decide +kernel
theorem dX8_lay_2 : decode cX8_lay 2 = .ok (.invokevirtual 149, 3) := by decide +kernel
theorem dX8_lay_5 : decode cX8_lay 5 = .ok (.istore 4, 2) := by decide +kernel
theorem dX8_lay_7 : decode cX8_lay 7 = .ok (.iload 4, 2) := by decide +kernel
theorem dX8_lay_9 : decode cX8_lay 9 = .ok (.ifCond .ge 6, 3) := by decide +kernel
theorem dX8_lay_12 : decode cX8_lay 12 = .ok (.iload 4, 2) := by decide +kernel
theorem dX8_lay_14 : decode cX8_lay 14 = .ok (.ireturn, 1) := by decide +kernel
theorem dX8_lay_15 : decode cX8_lay 15 = .ok (.iload_n 2, 1) := by decide +kernel
theorem dX8_lay_16 : decode cX8_lay 16 = .ok (.iconst 0, 1) := by decide +kernel
theorem dX8_lay_17 : decode cX8_lay 17 = .ok (.aload_n 0, 1) := by decide +kernel
theorem dX8_lay_18 : decode cX8_lay 18 = .ok (.getfield 17, 3) := by decide +kernel
theorem dX8_lay_21 : decode cX8_lay 21 = .ok (.iload_n 1, 1) := by decide +kernel
theorem dX8_lay_22 : decode cX8_lay 22 = .ok (.iaload, 1) := by decide +kernel
theorem dX8_lay_23 : decode cX8_lay 23 = .ok (.iconst 1, 1) := by decide +kernel
theorem dX8_lay_24 : decode cX8_lay 24 = .ok (.isub, 1) := by decide +kernel
theorem dX8_lay_25 : decode cX8_lay 25 = .ok (.invokestatic 133, 3) := by decide +kernel
theorem dX8_lay_28 : decode cX8_lay 28 = .ok (.ifCond .ne 9, 3) := by decide +kernel
theorem dX8_lay_31 : decode cX8_lay 31 = .ok (.aload_n 0, 1) := by decide +kernel
theorem dX8_lay_32 : decode cX8_lay 32 = .ok (.iconst 2, 1) := by decide +kernel
theorem dX8_lay_33 : decode cX8_lay 33 = .ok (.invokevirtual 141, 3) := by decide +kernel
theorem dX8_lay_36 : decode cX8_lay 36 = .ok (.ireturn, 1) := by decide +kernel
theorem dX8_lay_37 : decode cX8_lay 37 = .ok (.aload_n 0, 1) := by decide +kernel
theorem dX8_lay_38 : decode cX8_lay 38 = .ok (.aload_n 0, 1) := by decide +kernel
theorem dX8_lay_39 : decode cX8_lay 39 = .ok (.getfield 20, 3) := by decide +kernel
theorem dX8_lay_42 : decode cX8_lay 42 = .ok (.bipush 16, 2) := by decide +kernel
theorem dX8_lay_44 : decode cX8_lay 44 = .ok (.iload_n 1, 1) := by decide +kernel
theorem dX8_lay_45 : decode cX8_lay 45 = .ok (.imul, 1) := by decide +kernel
theorem dX8_lay_46 : decode cX8_lay 46 = .ok (.iload_n 2, 1) := by decide +kernel
theorem dX8_lay_47 : decode cX8_lay 47 = .ok (.iadd, 1) := by decide +kernel
theorem dX8_lay_48 : decode cX8_lay 48 = .ok (.iaload, 1) := by decide +kernel
theorem dX8_lay_49 : decode cX8_lay 49 = .ok (.putfield 119, 3) := by decide +kernel
theorem dX8_lay_52 : decode cX8_lay 52 = .ok (.aload_n 0, 1) := by decide +kernel
theorem dX8_lay_53 : decode cX8_lay 53 = .ok (.getfield 20, 3) := by decide +kernel
theorem dX8_lay_56 : decode cX8_lay 56 = .ok (.bipush 16, 2) := by decide +kernel
theorem dX8_lay_58 : decode cX8_lay 58 = .ok (.iload_n 1, 1) := by decide +kernel
theorem dX8_lay_59 : decode cX8_lay 59 = .ok (.imul, 1) := by decide +kernel
theorem dX8_lay_60 : decode cX8_lay 60 = .ok (.iload_n 2, 1) := by decide +kernel
theorem dX8_lay_61 : decode cX8_lay 61 = .ok (.iadd, 1) := by decide +kernel
theorem dX8_lay_62 : decode cX8_lay 62 = .ok (.iload_n 3, 1) := by decide +kernel
theorem dX8_lay_63 : decode cX8_lay 63 = .ok (.iastore, 1) := by decide +kernel
theorem dX8_lay_64 : decode cX8_lay 64 = .ok (.iconst 1, 1) := by decide +kernel
theorem dX8_lay_65 : decode cX8_lay 65 = .ok (.ireturn, 1) := by decide +kernel
theorem dX8_tear_0 : decode cX8_tear 0 = .ok (.aload_n 0, 1) := by decide +kernel
theorem dX8_tear_1 : decode cX8_tear 1 = .ok (.iload_n 1, 1) := by decide +kernel
theorem dX8_tear_2 : decode cX8_tear 2 = .ok (.invokevirtual 149, 3) := by decide +kernel
theorem dX8_tear_5 : decode cX8_tear 5 = .ok (.istore_n 2, 1) := by decide +kernel
theorem dX8_tear_6 : decode cX8_tear 6 = .ok (.iload_n 2, 1) := by decide +kernel
theorem dX8_tear_7 : decode cX8_tear 7 = .ok (.ifCond .ge 5, 3) := by decide +kernel
theorem dX8_tear_10 : decode cX8_tear 10 = .ok (.iload_n 2, 1) := by decide +kernel
theorem dX8_tear_11 : decode cX8_tear 11 = .ok (.ireturn, 1) := by decide +kernel
theorem dX8_tear_12 : decode cX8_tear 12 = .ok (.aload_n 0, 1) := by decide +kernel
theorem dX8_tear_13 : decode cX8_tear 13 = .ok (.getfield 17, 3) := by decide +kernel
theorem dX8_tear_16 : decode cX8_tear 16 = .ok (.iload_n 1, 1) := by decide +kernel
theorem dX8_tear_17 : decode cX8_tear 17 = .ok (.bipush (-9), 2) := by decide +kernel
theorem dX8_tear_19 : decode cX8_tear 19 = .ok (.iastore, 1) := by decide +kernel
theorem dX8_tear_20 : decode cX8_tear 20 = .ok (.iconst 1, 1) := by decide +kernel
theorem dX8_tear_21 : decode cX8_tear 21 = .ok (.ireturn, 1) := by decide +kernel
theorem dX8_copy_0 : decode cX8_copy 0 = .ok (.iload_n 1, 1) := by decide +kernel
theorem dX8_copy_1 : decode cX8_copy 1 = .ok (.invokestatic 137, 3) := by decide +kernel
theorem dX8_copy_4 : decode cX8_copy 4 = .ok (.ifCond .eq 10, 3) := by decide +kernel
theorem dX8_copy_7 : decode cX8_copy 7 = .ok (.iload_n 3, 1) := by decide +kernel
theorem dX8_copy_8 : decode cX8_copy 8 = .ok (.invokestatic 137, 3) := by decide +kernel
theorem dX8_copy_11 : decode cX8_copy 11 = .ok (.ifCond .ne 5, 3) := by decide +kernel
theorem dX8_copy_14 : decode cX8_copy 14 = .ok (.iconst (-1), 1) := by decide +kernel
theorem dX8_copy_15 : decode cX8_copy 15 = .ok (.ireturn, 1) := by decide +kernel
theorem dX8_copy_16 : decode cX8_copy 16 = .ok (.iload 5, 2) := by decide +kernel
theorem dX8_copy_18 : decode cX8_copy 18 = .ok (.ifCond .ge 9, 3) := by decide +kernel
theorem dX8_copy_21 : decode cX8_copy 21 = .ok (.aload_n 0, 1) := by decide +kernel
theorem dX8_copy_22 : decode cX8_copy 22 = .ok (.iconst 5, 1) := by decide +kernel
theorem dX8_copy_23 : decode cX8_copy 23 = .ok (.invokevirtual 141, 3) := by decide +kernel
theorem dX8_copy_26 : decode cX8_copy 26 = .ok (.ireturn, 1) := by decide +kernel
theorem dX8_copy_27 : decode cX8_copy 27 = .ok (.aload_n 0, 1) := by decide +kernel
theorem dX8_copy_28 : decode cX8_copy 28 = .ok (.getfield 17, 3) := by decide +kernel
theorem dX8_copy_31 : decode cX8_copy 31 = .ok (.iload_n 1, 1) := by decide +kernel
theorem dX8_copy_32 : decode cX8_copy 32 = .ok (.iaload, 1) := by decide +kernel
theorem dX8_copy_33 : decode cX8_copy 33 = .ok (.ifCond .lt 12, 3) := by decide +kernel
theorem dX8_copy_36 : decode cX8_copy 36 = .ok (.aload_n 0, 1) := by decide +kernel
theorem dX8_copy_37 : decode cX8_copy 37 = .ok (.getfield 17, 3) := by decide +kernel
theorem dX8_copy_40 : decode cX8_copy 40 = .ok (.iload_n 3, 1) := by decide +kernel
theorem dX8_copy_41 : decode cX8_copy 41 = .ok (.iaload, 1) := by decide +kernel
theorem dX8_copy_42 : decode cX8_copy 42 = .ok (.ifCond .ge 9, 3) := by decide +kernel
theorem dX8_copy_45 : decode cX8_copy 45 = .ok (.aload_n 0, 1) := by decide +kernel
theorem dX8_copy_46 : decode cX8_copy 46 = .ok (.iconst 1, 1) := by decide +kernel
theorem dX8_copy_47 : decode cX8_copy 47 = .ok (.invokevirtual 141, 3) := by decide +kernel
theorem dX8_copy_50 : decode cX8_copy 50 = .ok (.ireturn, 1) := by decide +kernel
theorem dX8_copy_51 : decode cX8_copy 51 = .ok (.iload_n 2, 1) := by decide +kernel
theorem dX8_copy_52 : decode cX8_copy 52 = .ok (.ifCond .lt 43, 3) := by decide +kernel
theorem dX8_copy_55 : decode cX8_copy 55 = .ok (.iload 4, 2) := by decide +kernel
theorem dX8_copy_57 : decode cX8_copy 57 = .ok (.ifCond .lt 38, 3) := by decide +kernel
theorem dX8_copy_60 : decode cX8_copy 60 = .ok (.iload_n 2, 1) := by decide +kernel
theorem dX8_copy_61 : decode cX8_copy 61 = .ok (.i2l, 1) := by decide +kernel
theorem dX8_copy_62 : decode cX8_copy 62 = .ok (.iload 5, 2) := by decide +kernel
theorem dX8_copy_64 : decode cX8_copy 64 = .ok (.i2l, 1) := by decide +kernel
theorem dX8_copy_65 : decode cX8_copy 65 = .ok (.ladd, 1) := by decide +kernel
theorem dX8_copy_66 : decode cX8_copy 66 = .ok (.aload_n 0, 1) := by decide +kernel
theorem dX8_copy_67 : decode cX8_copy 67 = .ok (.getfield 17, 3) := by decide +kernel
theorem dX8_copy_70 : decode cX8_copy 70 = .ok (.iload_n 1, 1) := by decide +kernel
theorem dX8_copy_71 : decode cX8_copy 71 = .ok (.iaload, 1) := by decide +kernel
theorem dX8_copy_72 : decode cX8_copy 72 = .ok (.i2l, 1) := by decide +kernel
theorem dX8_copy_73 : decode cX8_copy 73 = .ok (.lcmp, 1) := by decide +kernel
theorem dX8_copy_74 : decode cX8_copy 74 = .ok (.ifCond .gt 21, 3) := by decide +kernel
theorem dX8_copy_77 : decode cX8_copy 77 = .ok (.iload 4, 2) := by decide +kernel
theorem dX8_copy_79 : decode cX8_copy 79 = .ok (.i2l, 1) := by decide +kernel
theorem dX8_copy_80 : decode cX8_copy 80 = .ok (.iload 5, 2) := by decide +kernel
theorem dX8_copy_82 : decode cX8_copy 82 = .ok (.i2l, 1) := by decide +kernel
theorem dX8_copy_83 : decode cX8_copy 83 = .ok (.ladd, 1) := by decide +kernel
theorem dX8_copy_84 : decode cX8_copy 84 = .ok (.aload_n 0, 1) := by decide +kernel
theorem dX8_copy_85 : decode cX8_copy 85 = .ok (.getfield 17, 3) := by decide +kernel
theorem dX8_copy_88 : decode cX8_copy 88 = .ok (.iload_n 3, 1) := by decide +kernel
theorem dX8_copy_89 : decode cX8_copy 89 = .ok (.iaload, 1) := by decide +kernel
theorem dX8_copy_90 : decode cX8_copy 90 = .ok (.i2l, 1) := by decide +kernel
theorem dX8_copy_91 : decode cX8_copy 91 = .ok (.lcmp, 1) := by decide +kernel
theorem dX8_copy_92 : decode cX8_copy 92 = .ok (.ifCond .le 9, 3) := by decide +kernel
theorem dX8_copy_95 : decode cX8_copy 95 = .ok (.aload_n 0, 1) := by decide +kernel
theorem dX8_copy_96 : decode cX8_copy 96 = .ok (.iconst 2, 1) := by decide +kernel
theorem dX8_copy_97 : decode cX8_copy 97 = .ok (.invokevirtual 141, 3) := by decide +kernel
theorem dX8_copy_100 : decode cX8_copy 100 = .ok (.ireturn, 1) := by decide +kernel
theorem dX8_copy_101 : decode cX8_copy 101 = .ok (.iconst 0, 1) := by decide +kernel
theorem dX8_copy_102 : decode cX8_copy 102 = .ok (.istore 6, 2) := by decide +kernel
theorem dX8_copy_104 : decode cX8_copy 104 = .ok (.iload 6, 2) := by decide +kernel
theorem dX8_copy_106 : decode cX8_copy 106 = .ok (.iload 5, 2) := by decide +kernel
theorem dX8_copy_108 : decode cX8_copy 108 = .ok (.if_icmp .ge 30, 3) := by decide +kernel
theorem dX8_copy_111 : decode cX8_copy 111 = .ok (.aload_n 0, 1) := by decide +kernel
theorem dX8_copy_112 : decode cX8_copy 112 = .ok (.getfield 23, 3) := by decide +kernel
theorem dX8_copy_115 : decode cX8_copy 115 = .ok (.iload 6, 2) := by decide +kernel
theorem dX8_copy_117 : decode cX8_copy 117 = .ok (.aload_n 0, 1) := by decide +kernel
theorem dX8_copy_118 : decode cX8_copy 118 = .ok (.getfield 20, 3) := by decide +kernel
theorem dX8_copy_121 : decode cX8_copy 121 = .ok (.bipush 16, 2) := by decide +kernel
theorem dX8_copy_123 : decode cX8_copy 123 = .ok (.iload_n 1, 1) := by decide +kernel
theorem dX8_copy_124 : decode cX8_copy 124 = .ok (.imul, 1) := by decide +kernel
theorem dX8_copy_125 : decode cX8_copy 125 = .ok (.iload_n 2, 1) := by decide +kernel
theorem dX8_copy_126 : decode cX8_copy 126 = .ok (.iadd, 1) := by decide +kernel
theorem dX8_copy_127 : decode cX8_copy 127 = .ok (.iload 6, 2) := by decide +kernel
theorem dX8_copy_129 : decode cX8_copy 129 = .ok (.iadd, 1) := by decide +kernel
theorem dX8_copy_130 : decode cX8_copy 130 = .ok (.iaload, 1) := by decide +kernel
theorem dX8_copy_131 : decode cX8_copy 131 = .ok (.iastore, 1) := by decide +kernel
theorem dX8_copy_132 : decode cX8_copy 132 = .ok (.iinc 6 1, 3) := by decide +kernel
theorem dX8_copy_135 : decode cX8_copy 135 = .ok (.goto (-31), 3) := by decide +kernel
theorem dX8_copy_138 : decode cX8_copy 138 = .ok (.iconst 0, 1) := by decide +kernel
theorem dX8_copy_139 : decode cX8_copy 139 = .ok (.istore 6, 2) := by decide +kernel
theorem dX8_copy_141 : decode cX8_copy 141 = .ok (.iload 6, 2) := by decide +kernel
theorem dX8_copy_143 : decode cX8_copy 143 = .ok (.iload 5, 2) := by decide +kernel
theorem dX8_copy_145 : decode cX8_copy 145 = .ok (.if_icmp .ge 31, 3) := by decide +kernel
theorem dX8_copy_148 : decode cX8_copy 148 = .ok (.aload_n 0, 1) := by decide +kernel
theorem dX8_copy_149 : decode cX8_copy 149 = .ok (.getfield 20, 3) := by decide +kernel
theorem dX8_copy_152 : decode cX8_copy 152 = .ok (.bipush 16, 2) := by decide +kernel
theorem dX8_copy_154 : decode cX8_copy 154 = .ok (.iload_n 3, 1) := by decide +kernel
theorem dX8_copy_155 : decode cX8_copy 155 = .ok (.imul, 1) := by decide +kernel
theorem dX8_copy_156 : decode cX8_copy 156 = .ok (.iload 4, 2) := by decide +kernel
theorem dX8_copy_158 : decode cX8_copy 158 = .ok (.iadd, 1) := by decide +kernel
theorem dX8_copy_159 : decode cX8_copy 159 = .ok (.iload 6, 2) := by decide +kernel
theorem dX8_copy_161 : decode cX8_copy 161 = .ok (.iadd, 1) := by decide +kernel
theorem dX8_copy_162 : decode cX8_copy 162 = .ok (.aload_n 0, 1) := by decide +kernel
theorem dX8_copy_163 : decode cX8_copy 163 = .ok (.getfield 23, 3) := by decide +kernel
theorem dX8_copy_166 : decode cX8_copy 166 = .ok (.iload 6, 2) := by decide +kernel
theorem dX8_copy_168 : decode cX8_copy 168 = .ok (.iaload, 1) := by decide +kernel
theorem dX8_copy_169 : decode cX8_copy 169 = .ok (.iastore, 1) := by decide +kernel
theorem dX8_copy_170 : decode cX8_copy 170 = .ok (.iinc 6 1, 3) := by decide +kernel
theorem dX8_copy_173 : decode cX8_copy 173 = .ok (.goto (-32), 3) := by decide +kernel
theorem dX8_copy_176 : decode cX8_copy 176 = .ok (.iconst 1, 1) := by decide +kernel
theorem dX8_copy_177 : decode cX8_copy 177 = .ok (.ireturn, 1) := by decide +kernel
theorem dX8_two_0 : decode cX8_two 0 = .ok (.aload_n 0, 1) := by decide +kernel
theorem dX8_two_1 : decode cX8_two 1 = .ok (.getfield 26, 3) := by decide +kernel
theorem dX8_two_4 : decode cX8_two 4 = .ok (.iconst 5, 1) := by decide +kernel
theorem dX8_two_5 : decode cX8_two 5 = .ok (.iload_n 1, 1) := by decide +kernel
theorem dX8_two_6 : decode cX8_two 6 = .ok (.imul, 1) := by decide +kernel
theorem dX8_two_7 : decode cX8_two 7 = .ok (.laload, 1) := by decide +kernel
theorem dX8_two_8 : decode cX8_two 8 = .ok (.aload_n 0, 1) := by decide +kernel
theorem dX8_two_9 : decode cX8_two 9 = .ok (.getfield 26, 3) := by decide +kernel
theorem dX8_two_12 : decode cX8_two 12 = .ok (.iconst 5, 1) := by decide +kernel
theorem dX8_two_13 : decode cX8_two 13 = .ok (.iload_n 2, 1) := by decide +kernel
theorem dX8_two_14 : decode cX8_two 14 = .ok (.imul, 1) := by decide +kernel
theorem dX8_two_15 : decode cX8_two 15 = .ok (.laload, 1) := by decide +kernel
theorem dX8_two_16 : decode cX8_two 16 = .ok (.lmul, 1) := by decide +kernel
theorem dX8_two_17 : decode cX8_two 17 = .ok (.aload_n 0, 1) := by decide +kernel
theorem dX8_two_18 : decode cX8_two 18 = .ok (.getfield 26, 3) := by decide +kernel
theorem dX8_two_21 : decode cX8_two 21 = .ok (.iconst 4, 1) := by decide +kernel
theorem dX8_two_22 : decode cX8_two 22 = .ok (.iload_n 1, 1) := by decide +kernel
theorem dX8_two_23 : decode cX8_two 23 = .ok (.imul, 1) := by decide +kernel
theorem dX8_two_24 : decode cX8_two 24 = .ok (.iload_n 2, 1) := by decide +kernel
theorem dX8_two_25 : decode cX8_two 25 = .ok (.iadd, 1) := by decide +kernel
theorem dX8_two_26 : decode cX8_two 26 = .ok (.laload, 1) := by decide +kernel
theorem dX8_two_27 : decode cX8_two 27 = .ok (.aload_n 0, 1) := by decide +kernel
theorem dX8_two_28 : decode cX8_two 28 = .ok (.getfield 26, 3) := by decide +kernel
theorem dX8_two_31 : decode cX8_two 31 = .ok (.iconst 4, 1) := by decide +kernel
theorem dX8_two_32 : decode cX8_two 32 = .ok (.iload_n 1, 1) := by decide +kernel
theorem dX8_two_33 : decode cX8_two 33 = .ok (.imul, 1) := by decide +kernel
theorem dX8_two_34 : decode cX8_two 34 = .ok (.iload_n 2, 1) := by decide +kernel
theorem dX8_two_35 : decode cX8_two 35 = .ok (.iadd, 1) := by decide +kernel
theorem dX8_two_36 : decode cX8_two 36 = .ok (.laload, 1) := by decide +kernel
theorem dX8_two_37 : decode cX8_two 37 = .ok (.lmul, 1) := by decide +kernel
theorem dX8_two_38 : decode cX8_two 38 = .ok (.lsub, 1) := by decide +kernel
theorem dX8_two_39 : decode cX8_two 39 = .ok (.lreturn, 1) := by decide +kernel
theorem dX8_three_0 : decode cX8_three 0 = .ok (.aload_n 0, 1) := by decide +kernel
theorem dX8_three_1 : decode cX8_three 1 = .ok (.getfield 26, 3) := by decide +kernel
theorem dX8_three_4 : decode cX8_three 4 = .ok (.iconst 5, 1) := by decide +kernel
theorem dX8_three_5 : decode cX8_three 5 = .ok (.iload_n 1, 1) := by decide +kernel
theorem dX8_three_6 : decode cX8_three 6 = .ok (.imul, 1) := by decide +kernel
theorem dX8_three_7 : decode cX8_three 7 = .ok (.laload, 1) := by decide +kernel
theorem dX8_three_8 : decode cX8_three 8 = .ok (.aload_n 0, 1) := by decide +kernel
theorem dX8_three_9 : decode cX8_three 9 = .ok (.getfield 26, 3) := by decide +kernel
theorem dX8_three_12 : decode cX8_three 12 = .ok (.iconst 4, 1) := by decide +kernel
theorem dX8_three_13 : decode cX8_three 13 = .ok (.iload_n 1, 1) := by decide +kernel
theorem dX8_three_14 : decode cX8_three 14 = .ok (.imul, 1) := by decide +kernel
theorem dX8_three_15 : decode cX8_three 15 = .ok (.iload_n 2, 1) := by decide +kernel
theorem dX8_three_16 : decode cX8_three 16 = .ok (.iadd, 1) := by decide +kernel
theorem dX8_three_17 : decode cX8_three 17 = .ok (.laload, 1) := by decide +kernel
theorem dX8_three_18 : decode cX8_three 18 = .ok (.aload_n 0, 1) := by decide +kernel
theorem dX8_three_19 : decode cX8_three 19 = .ok (.getfield 26, 3) := by decide +kernel
theorem dX8_three_22 : decode cX8_three 22 = .ok (.iconst 4, 1) := by decide +kernel
theorem dX8_three_23 : decode cX8_three 23 = .ok (.iload_n 1, 1) := by decide +kernel
theorem dX8_three_24 : decode cX8_three 24 = .ok (.imul, 1) := by decide +kernel
theorem dX8_three_25 : decode cX8_three 25 = .ok (.iload_n 3, 1) := by decide +kernel
theorem dX8_three_26 : decode cX8_three 26 = .ok (.iadd, 1) := by decide +kernel
theorem dX8_three_27 : decode cX8_three 27 = .ok (.laload, 1) := by decide +kernel
theorem dX8_three_28 : decode cX8_three 28 = .ok (.aload_n 0, 1) := by decide +kernel
theorem dX8_three_29 : decode cX8_three 29 = .ok (.getfield 26, 3) := by decide +kernel
theorem dX8_three_32 : decode cX8_three 32 = .ok (.iconst 5, 1) := by decide +kernel
theorem dX8_three_33 : decode cX8_three 33 = .ok (.iload_n 2, 1) := by decide +kernel
theorem dX8_three_34 : decode cX8_three 34 = .ok (.imul, 1) := by decide +kernel
theorem dX8_three_35 : decode cX8_three 35 = .ok (.laload, 1) := by decide +kernel
theorem dX8_three_36 : decode cX8_three 36 = .ok (.aload_n 0, 1) := by decide +kernel
theorem dX8_three_37 : decode cX8_three 37 = .ok (.getfield 26, 3) := by decide +kernel
theorem dX8_three_40 : decode cX8_three 40 = .ok (.iconst 4, 1) := by decide +kernel
theorem dX8_three_41 : decode cX8_three 41 = .ok (.iload_n 2, 1) := by decide +kernel
theorem dX8_three_42 : decode cX8_three 42 = .ok (.imul, 1) := by decide +kernel
theorem dX8_three_43 : decode cX8_three 43 = .ok (.iload_n 3, 1) := by decide +kernel
theorem dX8_three_44 : decode cX8_three 44 = .ok (.iadd, 1) := by decide +kernel
theorem dX8_three_45 : decode cX8_three 45 = .ok (.laload, 1) := by decide +kernel
theorem dX8_three_46 : decode cX8_three 46 = .ok (.aload_n 0, 1) := by decide +kernel
theorem dX8_three_47 : decode cX8_three 47 = .ok (.getfield 26, 3) := by decide +kernel
theorem dX8_three_50 : decode cX8_three 50 = .ok (.iconst 5, 1) := by decide +kernel
theorem dX8_three_51 : decode cX8_three 51 = .ok (.iload_n 3, 1) := by decide +kernel
theorem dX8_three_52 : decode cX8_three 52 = .ok (.imul, 1) := by decide +kernel
theorem dX8_three_53 : decode cX8_three 53 = .ok (.laload, 1) := by decide +kernel
theorem dX8_three_54 : decode cX8_three 54 = .ok (.invokestatic 152, 3) := by decide +kernel
theorem dX8_three_57 : decode cX8_three 57 = .ok (.lreturn, 1) := by decide +kernel
theorem dX8_threeOf_0 : decode cX8_threeOf 0 = .ok (.lload_n 0, 1) := by decide +kernel
theorem dX8_threeOf_1 : decode cX8_threeOf 1 = .ok (.lload 6, 2) := by decide +kernel
theorem dX8_threeOf_3 : decode cX8_threeOf 3 = .ok (.lload 10, 2) := by decide +kernel
theorem dX8_threeOf_5 : decode cX8_threeOf 5 = .ok (.lmul, 1) := by decide +kernel
theorem dX8_threeOf_6 : decode cX8_threeOf 6 = .ok (.lload 8, 2) := by decide +kernel
theorem dX8_threeOf_8 : decode cX8_threeOf 8 = .ok (.lload 8, 2) := by decide +kernel
theorem dX8_threeOf_10 : decode cX8_threeOf 10 = .ok (.lmul, 1) := by decide +kernel
theorem dX8_threeOf_11 : decode cX8_threeOf 11 = .ok (.lsub, 1) := by decide +kernel
theorem dX8_threeOf_12 : decode cX8_threeOf 12 = .ok (.lmul, 1) := by decide +kernel
theorem dX8_threeOf_13 : decode cX8_threeOf 13 = .ok (.lload_n 2, 1) := by decide +kernel
theorem dX8_threeOf_14 : decode cX8_threeOf 14 = .ok (.lload_n 2, 1) := by decide +kernel
theorem dX8_threeOf_15 : decode cX8_threeOf 15 = .ok (.lload 10, 2) := by decide +kernel
theorem dX8_threeOf_17 : decode cX8_threeOf 17 = .ok (.lmul, 1) := by decide +kernel
theorem dX8_threeOf_18 : decode cX8_threeOf 18 = .ok (.lload 8, 2) := by decide +kernel
theorem dX8_threeOf_20 : decode cX8_threeOf 20 = .ok (.lload 4, 2) := by decide +kernel
theorem dX8_threeOf_22 : decode cX8_threeOf 22 = .ok (.lmul, 1) := by decide +kernel
theorem dX8_threeOf_23 : decode cX8_threeOf 23 = .ok (.lsub, 1) := by decide +kernel
theorem dX8_threeOf_24 : decode cX8_threeOf 24 = .ok (.lmul, 1) := by decide +kernel
theorem dX8_threeOf_25 : decode cX8_threeOf 25 = .ok (.lsub, 1) := by decide +kernel
theorem dX8_threeOf_26 : decode cX8_threeOf 26 = .ok (.lload 4, 2) := by decide +kernel
theorem dX8_threeOf_28 : decode cX8_threeOf 28 = .ok (.lload_n 2, 1) := by decide +kernel
theorem dX8_threeOf_29 : decode cX8_threeOf 29 = .ok (.lload 8, 2) := by decide +kernel
theorem dX8_threeOf_31 : decode cX8_threeOf 31 = .ok (.lmul, 1) := by decide +kernel
theorem dX8_threeOf_32 : decode cX8_threeOf 32 = .ok (.lload 6, 2) := by decide +kernel
theorem dX8_threeOf_34 : decode cX8_threeOf 34 = .ok (.lload 4, 2) := by decide +kernel
theorem dX8_threeOf_36 : decode cX8_threeOf 36 = .ok (.lmul, 1) := by decide +kernel
theorem dX8_threeOf_37 : decode cX8_threeOf 37 = .ok (.lsub, 1) := by decide +kernel
theorem dX8_threeOf_38 : decode cX8_threeOf 38 = .ok (.lmul, 1) := by decide +kernel
theorem dX8_threeOf_39 : decode cX8_threeOf 39 = .ok (.ladd, 1) := by decide +kernel
theorem dX8_threeOf_40 : decode cX8_threeOf 40 = .ok (.lreturn, 1) := by decide +kernel
theorem dX8_worthOf_0 : decode cX8_worthOf 0 = .ok (.lconst 0, 1) := by decide +kernel
theorem dX8_worthOf_1 : decode cX8_worthOf 1 = .ok (.lstore_n 1, 1) := by decide +kernel
theorem dX8_worthOf_2 : decode cX8_worthOf 2 = .ok (.iconst 0, 1) := by decide +kernel
theorem dX8_worthOf_3 : decode cX8_worthOf 3 = .ok (.istore_n 3, 1) := by decide +kernel
theorem dX8_worthOf_4 : decode cX8_worthOf 4 = .ok (.iload_n 3, 1) := by decide +kernel
theorem dX8_worthOf_5 : decode cX8_worthOf 5 = .ok (.iconst 4, 1) := by decide +kernel
theorem dX8_worthOf_6 : decode cX8_worthOf 6 = .ok (.if_icmp .ge 187, 3) := by decide +kernel
theorem dX8_worthOf_9 : decode cX8_worthOf 9 = .ok (.iload_n 3, 1) := by decide +kernel
theorem dX8_worthOf_10 : decode cX8_worthOf 10 = .ok (.ifCond .ne 7, 3) := by decide +kernel
theorem dX8_worthOf_13 : decode cX8_worthOf 13 = .ok (.iconst 1, 1) := by decide +kernel
theorem dX8_worthOf_14 : decode cX8_worthOf 14 = .ok (.goto 4, 3) := by decide +kernel
theorem dX8_worthOf_17 : decode cX8_worthOf 17 = .ok (.iconst 0, 1) := by decide +kernel
theorem dX8_worthOf_18 : decode cX8_worthOf 18 = .ok (.istore 4, 2) := by decide +kernel
theorem dX8_worthOf_20 : decode cX8_worthOf 20 = .ok (.iload_n 3, 1) := by decide +kernel
theorem dX8_worthOf_21 : decode cX8_worthOf 21 = .ok (.iconst 2, 1) := by decide +kernel
theorem dX8_worthOf_22 : decode cX8_worthOf 22 = .ok (.if_icmp .ge 7, 3) := by decide +kernel
theorem dX8_worthOf_25 : decode cX8_worthOf 25 = .ok (.iconst 2, 1) := by decide +kernel
theorem dX8_worthOf_26 : decode cX8_worthOf 26 = .ok (.goto 4, 3) := by decide +kernel
theorem dX8_worthOf_29 : decode cX8_worthOf 29 = .ok (.iconst 1, 1) := by decide +kernel
theorem dX8_worthOf_30 : decode cX8_worthOf 30 = .ok (.istore 5, 2) := by decide +kernel
theorem dX8_worthOf_32 : decode cX8_worthOf 32 = .ok (.iload_n 3, 1) := by decide +kernel
theorem dX8_worthOf_33 : decode cX8_worthOf 33 = .ok (.iconst 3, 1) := by decide +kernel
theorem dX8_worthOf_34 : decode cX8_worthOf 34 = .ok (.if_icmp .ge 7, 3) := by decide +kernel
theorem dX8_worthOf_37 : decode cX8_worthOf 37 = .ok (.iconst 3, 1) := by decide +kernel
theorem dX8_worthOf_38 : decode cX8_worthOf 38 = .ok (.goto 4, 3) := by decide +kernel
theorem dX8_worthOf_41 : decode cX8_worthOf 41 = .ok (.iconst 2, 1) := by decide +kernel
theorem dX8_worthOf_42 : decode cX8_worthOf 42 = .ok (.istore 6, 2) := by decide +kernel
theorem dX8_worthOf_44 : decode cX8_worthOf 44 = .ok (.aload_n 0, 1) := by decide +kernel
theorem dX8_worthOf_45 : decode cX8_worthOf 45 = .ok (.iconst 4, 1) := by decide +kernel
theorem dX8_worthOf_46 : decode cX8_worthOf 46 = .ok (.iload 4, 2) := by decide +kernel
theorem dX8_worthOf_48 : decode cX8_worthOf 48 = .ok (.iadd, 1) := by decide +kernel
theorem dX8_worthOf_49 : decode cX8_worthOf 49 = .ok (.laload, 1) := by decide +kernel
theorem dX8_worthOf_50 : decode cX8_worthOf 50 = .ok (.aload_n 0, 1) := by decide +kernel
theorem dX8_worthOf_51 : decode cX8_worthOf 51 = .ok (.bipush 8, 2) := by decide +kernel
theorem dX8_worthOf_53 : decode cX8_worthOf 53 = .ok (.iload 5, 2) := by decide +kernel
theorem dX8_worthOf_55 : decode cX8_worthOf 55 = .ok (.iadd, 1) := by decide +kernel
theorem dX8_worthOf_56 : decode cX8_worthOf 56 = .ok (.laload, 1) := by decide +kernel
theorem dX8_worthOf_57 : decode cX8_worthOf 57 = .ok (.aload_n 0, 1) := by decide +kernel
theorem dX8_worthOf_58 : decode cX8_worthOf 58 = .ok (.bipush 12, 2) := by decide +kernel
theorem dX8_worthOf_60 : decode cX8_worthOf 60 = .ok (.iload 6, 2) := by decide +kernel
theorem dX8_worthOf_62 : decode cX8_worthOf 62 = .ok (.iadd, 1) := by decide +kernel
theorem dX8_worthOf_63 : decode cX8_worthOf 63 = .ok (.laload, 1) := by decide +kernel
theorem dX8_worthOf_64 : decode cX8_worthOf 64 = .ok (.lmul, 1) := by decide +kernel
theorem dX8_worthOf_65 : decode cX8_worthOf 65 = .ok (.aload_n 0, 1) := by decide +kernel
theorem dX8_worthOf_66 : decode cX8_worthOf 66 = .ok (.bipush 8, 2) := by decide +kernel
theorem dX8_worthOf_68 : decode cX8_worthOf 68 = .ok (.iload 6, 2) := by decide +kernel
theorem dX8_worthOf_70 : decode cX8_worthOf 70 = .ok (.iadd, 1) := by decide +kernel
theorem dX8_worthOf_71 : decode cX8_worthOf 71 = .ok (.laload, 1) := by decide +kernel
theorem dX8_worthOf_72 : decode cX8_worthOf 72 = .ok (.aload_n 0, 1) := by decide +kernel
theorem dX8_worthOf_73 : decode cX8_worthOf 73 = .ok (.bipush 12, 2) := by decide +kernel
theorem dX8_worthOf_75 : decode cX8_worthOf 75 = .ok (.iload 5, 2) := by decide +kernel
theorem dX8_worthOf_77 : decode cX8_worthOf 77 = .ok (.iadd, 1) := by decide +kernel
theorem dX8_worthOf_78 : decode cX8_worthOf 78 = .ok (.laload, 1) := by decide +kernel
theorem dX8_worthOf_79 : decode cX8_worthOf 79 = .ok (.lmul, 1) := by decide +kernel
theorem dX8_worthOf_80 : decode cX8_worthOf 80 = .ok (.lsub, 1) := by decide +kernel
theorem dX8_worthOf_81 : decode cX8_worthOf 81 = .ok (.lmul, 1) := by decide +kernel
theorem dX8_worthOf_82 : decode cX8_worthOf 82 = .ok (.aload_n 0, 1) := by decide +kernel
theorem dX8_worthOf_83 : decode cX8_worthOf 83 = .ok (.iconst 4, 1) := by decide +kernel
theorem dX8_worthOf_84 : decode cX8_worthOf 84 = .ok (.iload 5, 2) := by decide +kernel
theorem dX8_worthOf_86 : decode cX8_worthOf 86 = .ok (.iadd, 1) := by decide +kernel
theorem dX8_worthOf_87 : decode cX8_worthOf 87 = .ok (.laload, 1) := by decide +kernel
theorem dX8_worthOf_88 : decode cX8_worthOf 88 = .ok (.aload_n 0, 1) := by decide +kernel
theorem dX8_worthOf_89 : decode cX8_worthOf 89 = .ok (.bipush 8, 2) := by decide +kernel
theorem dX8_worthOf_91 : decode cX8_worthOf 91 = .ok (.iload 4, 2) := by decide +kernel
theorem dX8_worthOf_93 : decode cX8_worthOf 93 = .ok (.iadd, 1) := by decide +kernel
theorem dX8_worthOf_94 : decode cX8_worthOf 94 = .ok (.laload, 1) := by decide +kernel
theorem dX8_worthOf_95 : decode cX8_worthOf 95 = .ok (.aload_n 0, 1) := by decide +kernel
theorem dX8_worthOf_96 : decode cX8_worthOf 96 = .ok (.bipush 12, 2) := by decide +kernel
theorem dX8_worthOf_98 : decode cX8_worthOf 98 = .ok (.iload 6, 2) := by decide +kernel
theorem dX8_worthOf_100 : decode cX8_worthOf 100 = .ok (.iadd, 1) := by decide +kernel
theorem dX8_worthOf_101 : decode cX8_worthOf 101 = .ok (.laload, 1) := by decide +kernel
theorem dX8_worthOf_102 : decode cX8_worthOf 102 = .ok (.lmul, 1) := by decide +kernel
theorem dX8_worthOf_103 : decode cX8_worthOf 103 = .ok (.aload_n 0, 1) := by decide +kernel
theorem dX8_worthOf_104 : decode cX8_worthOf 104 = .ok (.bipush 8, 2) := by decide +kernel
theorem dX8_worthOf_106 : decode cX8_worthOf 106 = .ok (.iload 6, 2) := by decide +kernel
theorem dX8_worthOf_108 : decode cX8_worthOf 108 = .ok (.iadd, 1) := by decide +kernel
theorem dX8_worthOf_109 : decode cX8_worthOf 109 = .ok (.laload, 1) := by decide +kernel
theorem dX8_worthOf_110 : decode cX8_worthOf 110 = .ok (.aload_n 0, 1) := by decide +kernel
theorem dX8_worthOf_111 : decode cX8_worthOf 111 = .ok (.bipush 12, 2) := by decide +kernel
theorem dX8_worthOf_113 : decode cX8_worthOf 113 = .ok (.iload 4, 2) := by decide +kernel
theorem dX8_worthOf_115 : decode cX8_worthOf 115 = .ok (.iadd, 1) := by decide +kernel
theorem dX8_worthOf_116 : decode cX8_worthOf 116 = .ok (.laload, 1) := by decide +kernel
theorem dX8_worthOf_117 : decode cX8_worthOf 117 = .ok (.lmul, 1) := by decide +kernel
theorem dX8_worthOf_118 : decode cX8_worthOf 118 = .ok (.lsub, 1) := by decide +kernel
theorem dX8_worthOf_119 : decode cX8_worthOf 119 = .ok (.lmul, 1) := by decide +kernel
theorem dX8_worthOf_120 : decode cX8_worthOf 120 = .ok (.lsub, 1) := by decide +kernel
theorem dX8_worthOf_121 : decode cX8_worthOf 121 = .ok (.aload_n 0, 1) := by decide +kernel
theorem dX8_worthOf_122 : decode cX8_worthOf 122 = .ok (.iconst 4, 1) := by decide +kernel
theorem dX8_worthOf_123 : decode cX8_worthOf 123 = .ok (.iload 6, 2) := by decide +kernel
theorem dX8_worthOf_125 : decode cX8_worthOf 125 = .ok (.iadd, 1) := by decide +kernel
theorem dX8_worthOf_126 : decode cX8_worthOf 126 = .ok (.laload, 1) := by decide +kernel
theorem dX8_worthOf_127 : decode cX8_worthOf 127 = .ok (.aload_n 0, 1) := by decide +kernel
theorem dX8_worthOf_128 : decode cX8_worthOf 128 = .ok (.bipush 8, 2) := by decide +kernel
theorem dX8_worthOf_130 : decode cX8_worthOf 130 = .ok (.iload 4, 2) := by decide +kernel
theorem dX8_worthOf_132 : decode cX8_worthOf 132 = .ok (.iadd, 1) := by decide +kernel
theorem dX8_worthOf_133 : decode cX8_worthOf 133 = .ok (.laload, 1) := by decide +kernel
theorem dX8_worthOf_134 : decode cX8_worthOf 134 = .ok (.aload_n 0, 1) := by decide +kernel
theorem dX8_worthOf_135 : decode cX8_worthOf 135 = .ok (.bipush 12, 2) := by decide +kernel
theorem dX8_worthOf_137 : decode cX8_worthOf 137 = .ok (.iload 5, 2) := by decide +kernel
theorem dX8_worthOf_139 : decode cX8_worthOf 139 = .ok (.iadd, 1) := by decide +kernel
theorem dX8_worthOf_140 : decode cX8_worthOf 140 = .ok (.laload, 1) := by decide +kernel
theorem dX8_worthOf_141 : decode cX8_worthOf 141 = .ok (.lmul, 1) := by decide +kernel
theorem dX8_worthOf_142 : decode cX8_worthOf 142 = .ok (.aload_n 0, 1) := by decide +kernel
theorem dX8_worthOf_143 : decode cX8_worthOf 143 = .ok (.bipush 8, 2) := by decide +kernel
theorem dX8_worthOf_145 : decode cX8_worthOf 145 = .ok (.iload 5, 2) := by decide +kernel
theorem dX8_worthOf_147 : decode cX8_worthOf 147 = .ok (.iadd, 1) := by decide +kernel
theorem dX8_worthOf_148 : decode cX8_worthOf 148 = .ok (.laload, 1) := by decide +kernel
theorem dX8_worthOf_149 : decode cX8_worthOf 149 = .ok (.aload_n 0, 1) := by decide +kernel
theorem dX8_worthOf_150 : decode cX8_worthOf 150 = .ok (.bipush 12, 2) := by decide +kernel
theorem dX8_worthOf_152 : decode cX8_worthOf 152 = .ok (.iload 4, 2) := by decide +kernel
theorem dX8_worthOf_154 : decode cX8_worthOf 154 = .ok (.iadd, 1) := by decide +kernel
theorem dX8_worthOf_155 : decode cX8_worthOf 155 = .ok (.laload, 1) := by decide +kernel
theorem dX8_worthOf_156 : decode cX8_worthOf 156 = .ok (.lmul, 1) := by decide +kernel
theorem dX8_worthOf_157 : decode cX8_worthOf 157 = .ok (.lsub, 1) := by decide +kernel
theorem dX8_worthOf_158 : decode cX8_worthOf 158 = .ok (.lmul, 1) := by decide +kernel
theorem dX8_worthOf_159 : decode cX8_worthOf 159 = .ok (.ladd, 1) := by decide +kernel
theorem dX8_worthOf_160 : decode cX8_worthOf 160 = .ok (.lstore 7, 2) := by decide +kernel
theorem dX8_worthOf_162 : decode cX8_worthOf 162 = .ok (.lload_n 1, 1) := by decide +kernel
theorem dX8_worthOf_163 : decode cX8_worthOf 163 = .ok (.iload_n 3, 1) := by decide +kernel
theorem dX8_worthOf_164 : decode cX8_worthOf 164 = .ok (.iconst 2, 1) := by decide +kernel
theorem dX8_worthOf_165 : decode cX8_worthOf 165 = .ok (.irem, 1) := by decide +kernel
theorem dX8_worthOf_166 : decode cX8_worthOf 166 = .ok (.ifCond .ne 12, 3) := by decide +kernel
theorem dX8_worthOf_169 : decode cX8_worthOf 169 = .ok (.aload_n 0, 1) := by decide +kernel
theorem dX8_worthOf_170 : decode cX8_worthOf 170 = .ok (.iload_n 3, 1) := by decide +kernel
theorem dX8_worthOf_171 : decode cX8_worthOf 171 = .ok (.laload, 1) := by decide +kernel
theorem dX8_worthOf_172 : decode cX8_worthOf 172 = .ok (.lload 7, 2) := by decide +kernel
theorem dX8_worthOf_174 : decode cX8_worthOf 174 = .ok (.lmul, 1) := by decide +kernel
theorem dX8_worthOf_175 : decode cX8_worthOf 175 = .ok (.goto 10, 3) := by decide +kernel
theorem dX8_worthOf_178 : decode cX8_worthOf 178 = .ok (.aload_n 0, 1) := by decide +kernel
theorem dX8_worthOf_179 : decode cX8_worthOf 179 = .ok (.iload_n 3, 1) := by decide +kernel
theorem dX8_worthOf_180 : decode cX8_worthOf 180 = .ok (.laload, 1) := by decide +kernel
theorem dX8_worthOf_181 : decode cX8_worthOf 181 = .ok (.lneg, 1) := by decide +kernel
theorem dX8_worthOf_182 : decode cX8_worthOf 182 = .ok (.lload 7, 2) := by decide +kernel
theorem dX8_worthOf_184 : decode cX8_worthOf 184 = .ok (.lmul, 1) := by decide +kernel
theorem dX8_worthOf_185 : decode cX8_worthOf 185 = .ok (.ladd, 1) := by decide +kernel
theorem dX8_worthOf_186 : decode cX8_worthOf 186 = .ok (.lstore_n 1, 1) := by decide +kernel
theorem dX8_worthOf_187 : decode cX8_worthOf 187 = .ok (.iinc 3 1, 3) := by decide +kernel
theorem dX8_worthOf_190 : decode cX8_worthOf 190 = .ok (.goto (-186), 3) := by decide +kernel
theorem dX8_worthOf_193 : decode cX8_worthOf 193 = .ok (.lload_n 1, 1) := by decide +kernel
theorem dX8_worthOf_194 : decode cX8_worthOf 194 = .ok (.lreturn, 1) := by decide +kernel
theorem dX8_laySigns_0 : decode cX8_laySigns 0 = .ok (.aload_n 0, 1) := by decide +kernel
theorem dX8_laySigns_1 : decode cX8_laySigns 1 = .ok (.getfield 30, 3) := by decide +kernel
theorem dX8_laySigns_4 : decode cX8_laySigns 4 = .ok (.astore 10, 2) := by decide +kernel
theorem dX8_laySigns_6 : decode cX8_laySigns 6 = .ok (.aload 10, 2) := by decide +kernel
theorem dX8_laySigns_8 : decode cX8_laySigns 8 = .ok (.iconst 0, 1) := by decide +kernel
theorem dX8_laySigns_9 : decode cX8_laySigns 9 = .ok (.iconst 1, 1) := by decide +kernel
theorem dX8_laySigns_10 : decode cX8_laySigns 10 = .ok (.iastore, 1) := by decide +kernel
theorem dX8_laySigns_11 : decode cX8_laySigns 11 = .ok (.aload 10, 2) := by decide +kernel
theorem dX8_laySigns_13 : decode cX8_laySigns 13 = .ok (.iconst 1, 1) := by decide +kernel
theorem dX8_laySigns_14 : decode cX8_laySigns 14 = .ok (.lload_n 2, 1) := by decide +kernel
theorem dX8_laySigns_15 : decode cX8_laySigns 15 = .ok (.invokestatic 156, 3) := by decide +kernel
theorem dX8_laySigns_18 : decode cX8_laySigns 18 = .ok (.ineg, 1) := by decide +kernel
theorem dX8_laySigns_19 : decode cX8_laySigns 19 = .ok (.iastore, 1) := by decide +kernel
theorem dX8_laySigns_20 : decode cX8_laySigns 20 = .ok (.aload 10, 2) := by decide +kernel
theorem dX8_laySigns_22 : decode cX8_laySigns 22 = .ok (.iconst 2, 1) := by decide +kernel
theorem dX8_laySigns_23 : decode cX8_laySigns 23 = .ok (.lload 4, 2) := by decide +kernel
theorem dX8_laySigns_25 : decode cX8_laySigns 25 = .ok (.invokestatic 156, 3) := by decide +kernel
theorem dX8_laySigns_28 : decode cX8_laySigns 28 = .ok (.iastore, 1) := by decide +kernel
theorem dX8_laySigns_29 : decode cX8_laySigns 29 = .ok (.aload 10, 2) := by decide +kernel
theorem dX8_laySigns_31 : decode cX8_laySigns 31 = .ok (.iconst 3, 1) := by decide +kernel
theorem dX8_laySigns_32 : decode cX8_laySigns 32 = .ok (.lload 6, 2) := by decide +kernel
theorem dX8_laySigns_34 : decode cX8_laySigns 34 = .ok (.invokestatic 156, 3) := by decide +kernel
theorem dX8_laySigns_37 : decode cX8_laySigns 37 = .ok (.ineg, 1) := by decide +kernel
theorem dX8_laySigns_38 : decode cX8_laySigns 38 = .ok (.iastore, 1) := by decide +kernel
theorem dX8_laySigns_39 : decode cX8_laySigns 39 = .ok (.aload 10, 2) := by decide +kernel
theorem dX8_laySigns_41 : decode cX8_laySigns 41 = .ok (.iconst 4, 1) := by decide +kernel
theorem dX8_laySigns_42 : decode cX8_laySigns 42 = .ok (.lload 8, 2) := by decide +kernel
theorem dX8_laySigns_44 : decode cX8_laySigns 44 = .ok (.invokestatic 156, 3) := by decide +kernel
theorem dX8_laySigns_47 : decode cX8_laySigns 47 = .ok (.iastore, 1) := by decide +kernel
theorem dX8_laySigns_48 : decode cX8_laySigns 48 = .ok (.aload_n 0, 1) := by decide +kernel
theorem dX8_laySigns_49 : decode cX8_laySigns 49 = .ok (.iconst 0, 1) := by decide +kernel
theorem dX8_laySigns_50 : decode cX8_laySigns 50 = .ok (.putfield 160, 3) := by decide +kernel
theorem dX8_laySigns_53 : decode cX8_laySigns 53 = .ok (.aload_n 0, 1) := by decide +kernel
theorem dX8_laySigns_54 : decode cX8_laySigns 54 = .ok (.iconst 0, 1) := by decide +kernel
theorem dX8_laySigns_55 : decode cX8_laySigns 55 = .ok (.putfield 163, 3) := by decide +kernel
theorem dX8_laySigns_58 : decode cX8_laySigns 58 = .ok (.iconst 1, 1) := by decide +kernel
theorem dX8_laySigns_59 : decode cX8_laySigns 59 = .ok (.istore 11, 2) := by decide +kernel
theorem dX8_laySigns_61 : decode cX8_laySigns 61 = .ok (.iconst 1, 1) := by decide +kernel
theorem dX8_laySigns_62 : decode cX8_laySigns 62 = .ok (.istore 12, 2) := by decide +kernel
theorem dX8_laySigns_64 : decode cX8_laySigns 64 = .ok (.iconst 1, 1) := by decide +kernel
theorem dX8_laySigns_65 : decode cX8_laySigns 65 = .ok (.istore 13, 2) := by decide +kernel
theorem dX8_laySigns_67 : decode cX8_laySigns 67 = .ok (.iload 13, 2) := by decide +kernel
theorem dX8_laySigns_69 : decode cX8_laySigns 69 = .ok (.iload_n 1, 1) := by decide +kernel
theorem dX8_laySigns_70 : decode cX8_laySigns 70 = .ok (.if_icmp .gt 124, 3) := by decide +kernel
theorem dX8_laySigns_73 : decode cX8_laySigns 73 = .ok (.iload 13, 2) := by decide +kernel
theorem dX8_laySigns_75 : decode cX8_laySigns 75 = .ok (.iconst 2, 1) := by decide +kernel
theorem dX8_laySigns_76 : decode cX8_laySigns 76 = .ok (.irem, 1) := by decide +kernel
theorem dX8_laySigns_77 : decode cX8_laySigns 77 = .ok (.ifCond .ne 11, 3) := by decide +kernel
theorem dX8_laySigns_80 : decode cX8_laySigns 80 = .ok (.aload 10, 2) := by decide +kernel
theorem dX8_laySigns_82 : decode cX8_laySigns 82 = .ok (.iload 13, 2) := by decide +kernel
theorem dX8_laySigns_84 : decode cX8_laySigns 84 = .ok (.iaload, 1) := by decide +kernel
theorem dX8_laySigns_85 : decode cX8_laySigns 85 = .ok (.goto 9, 3) := by decide +kernel
theorem dX8_laySigns_88 : decode cX8_laySigns 88 = .ok (.aload 10, 2) := by decide +kernel
theorem dX8_laySigns_90 : decode cX8_laySigns 90 = .ok (.iload 13, 2) := by decide +kernel
theorem dX8_laySigns_92 : decode cX8_laySigns 92 = .ok (.iaload, 1) := by decide +kernel
theorem dX8_laySigns_93 : decode cX8_laySigns 93 = .ok (.ineg, 1) := by decide +kernel
theorem dX8_laySigns_94 : decode cX8_laySigns 94 = .ok (.istore 14, 2) := by decide +kernel
theorem dX8_laySigns_96 : decode cX8_laySigns 96 = .ok (.aload_n 0, 1) := by decide +kernel
theorem dX8_laySigns_97 : decode cX8_laySigns 97 = .ok (.dup, 1) := by decide +kernel
theorem dX8_laySigns_98 : decode cX8_laySigns 98 = .ok (.getfield 160, 3) := by decide +kernel
theorem dX8_laySigns_101 : decode cX8_laySigns 101 = .ok (.aload 10, 2) := by decide +kernel
theorem dX8_laySigns_103 : decode cX8_laySigns 103 = .ok (.iload 13, 2) := by decide +kernel
theorem dX8_laySigns_105 : decode cX8_laySigns 105 = .ok (.iaload, 1) := by decide +kernel
theorem dX8_laySigns_106 : decode cX8_laySigns 106 = .ok (.ifCond .eq 17, 3) := by decide +kernel
theorem dX8_laySigns_109 : decode cX8_laySigns 109 = .ok (.aload 10, 2) := by decide +kernel
theorem dX8_laySigns_111 : decode cX8_laySigns 111 = .ok (.iload 13, 2) := by decide +kernel
theorem dX8_laySigns_113 : decode cX8_laySigns 113 = .ok (.iaload, 1) := by decide +kernel
theorem dX8_laySigns_114 : decode cX8_laySigns 114 = .ok (.iload 11, 2) := by decide +kernel
theorem dX8_laySigns_116 : decode cX8_laySigns 116 = .ok (.if_icmp .eq 7, 3) := by decide +kernel
theorem dX8_laySigns_119 : decode cX8_laySigns 119 = .ok (.iconst 1, 1) := by decide +kernel
theorem dX8_laySigns_120 : decode cX8_laySigns 120 = .ok (.goto 4, 3) := by decide +kernel
theorem dX8_laySigns_123 : decode cX8_laySigns 123 = .ok (.iconst 0, 1) := by decide +kernel
theorem dX8_laySigns_124 : decode cX8_laySigns 124 = .ok (.iadd, 1) := by decide +kernel
theorem dX8_laySigns_125 : decode cX8_laySigns 125 = .ok (.putfield 160, 3) := by decide +kernel
theorem dX8_laySigns_128 : decode cX8_laySigns 128 = .ok (.aload 10, 2) := by decide +kernel
theorem dX8_laySigns_130 : decode cX8_laySigns 130 = .ok (.iload 13, 2) := by decide +kernel
theorem dX8_laySigns_132 : decode cX8_laySigns 132 = .ok (.iaload, 1) := by decide +kernel
theorem dX8_laySigns_133 : decode cX8_laySigns 133 = .ok (.ifCond .eq 11, 3) := by decide +kernel
theorem dX8_laySigns_136 : decode cX8_laySigns 136 = .ok (.aload 10, 2) := by decide +kernel
theorem dX8_laySigns_138 : decode cX8_laySigns 138 = .ok (.iload 13, 2) := by decide +kernel
theorem dX8_laySigns_140 : decode cX8_laySigns 140 = .ok (.iaload, 1) := by decide +kernel
theorem dX8_laySigns_141 : decode cX8_laySigns 141 = .ok (.goto 5, 3) := by decide +kernel
theorem dX8_laySigns_144 : decode cX8_laySigns 144 = .ok (.iload 11, 2) := by decide +kernel
theorem dX8_laySigns_146 : decode cX8_laySigns 146 = .ok (.istore 11, 2) := by decide +kernel
theorem dX8_laySigns_148 : decode cX8_laySigns 148 = .ok (.aload_n 0, 1) := by decide +kernel
theorem dX8_laySigns_149 : decode cX8_laySigns 149 = .ok (.dup, 1) := by decide +kernel
theorem dX8_laySigns_150 : decode cX8_laySigns 150 = .ok (.getfield 163, 3) := by decide +kernel
theorem dX8_laySigns_153 : decode cX8_laySigns 153 = .ok (.iload 14, 2) := by decide +kernel
theorem dX8_laySigns_155 : decode cX8_laySigns 155 = .ok (.ifCond .eq 14, 3) := by decide +kernel
theorem dX8_laySigns_158 : decode cX8_laySigns 158 = .ok (.iload 14, 2) := by decide +kernel
theorem dX8_laySigns_160 : decode cX8_laySigns 160 = .ok (.iload 12, 2) := by decide +kernel
theorem dX8_laySigns_162 : decode cX8_laySigns 162 = .ok (.if_icmp .eq 7, 3) := by decide +kernel
theorem dX8_laySigns_165 : decode cX8_laySigns 165 = .ok (.iconst 1, 1) := by decide +kernel
theorem dX8_laySigns_166 : decode cX8_laySigns 166 = .ok (.goto 4, 3) := by decide +kernel
theorem dX8_laySigns_169 : decode cX8_laySigns 169 = .ok (.iconst 0, 1) := by decide +kernel
theorem dX8_laySigns_170 : decode cX8_laySigns 170 = .ok (.iadd, 1) := by decide +kernel
theorem dX8_laySigns_171 : decode cX8_laySigns 171 = .ok (.putfield 163, 3) := by decide +kernel
theorem dX8_laySigns_174 : decode cX8_laySigns 174 = .ok (.iload 14, 2) := by decide +kernel
theorem dX8_laySigns_176 : decode cX8_laySigns 176 = .ok (.ifCond .eq 8, 3) := by decide +kernel
theorem dX8_laySigns_179 : decode cX8_laySigns 179 = .ok (.iload 14, 2) := by decide +kernel
theorem dX8_laySigns_181 : decode cX8_laySigns 181 = .ok (.goto 5, 3) := by decide +kernel
theorem dX8_laySigns_184 : decode cX8_laySigns 184 = .ok (.iload 12, 2) := by decide +kernel
theorem dX8_laySigns_186 : decode cX8_laySigns 186 = .ok (.istore 12, 2) := by decide +kernel
theorem dX8_laySigns_188 : decode cX8_laySigns 188 = .ok (.iinc 13 1, 3) := by decide +kernel
theorem dX8_laySigns_191 : decode cX8_laySigns 191 = .ok (.goto (-124), 3) := by decide +kernel
theorem dX8_laySigns_194 : decode cX8_laySigns 194 = .ok (.return_, 1) := by decide +kernel
theorem dX8_layFour_0 : decode cX8_layFour 0 = .ok (.aload_n 0, 1) := by decide +kernel
theorem dX8_layFour_1 : decode cX8_layFour 1 = .ok (.getfield 26, 3) := by decide +kernel
theorem dX8_layFour_4 : decode cX8_layFour 4 = .ok (.iconst 0, 1) := by decide +kernel
theorem dX8_layFour_5 : decode cX8_layFour 5 = .ok (.laload, 1) := by decide +kernel
theorem dX8_layFour_6 : decode cX8_layFour 6 = .ok (.aload_n 0, 1) := by decide +kernel
theorem dX8_layFour_7 : decode cX8_layFour 7 = .ok (.getfield 26, 3) := by decide +kernel
theorem dX8_layFour_10 : decode cX8_layFour 10 = .ok (.iconst 5, 1) := by decide +kernel
theorem dX8_layFour_11 : decode cX8_layFour 11 = .ok (.laload, 1) := by decide +kernel
theorem dX8_layFour_12 : decode cX8_layFour 12 = .ok (.ladd, 1) := by decide +kernel
theorem dX8_layFour_13 : decode cX8_layFour 13 = .ok (.aload_n 0, 1) := by decide +kernel
theorem dX8_layFour_14 : decode cX8_layFour 14 = .ok (.getfield 26, 3) := by decide +kernel
theorem dX8_layFour_17 : decode cX8_layFour 17 = .ok (.bipush 10, 2) := by decide +kernel
theorem dX8_layFour_19 : decode cX8_layFour 19 = .ok (.laload, 1) := by decide +kernel
theorem dX8_layFour_20 : decode cX8_layFour 20 = .ok (.ladd, 1) := by decide +kernel
theorem dX8_layFour_21 : decode cX8_layFour 21 = .ok (.aload_n 0, 1) := by decide +kernel
theorem dX8_layFour_22 : decode cX8_layFour 22 = .ok (.getfield 26, 3) := by decide +kernel
theorem dX8_layFour_25 : decode cX8_layFour 25 = .ok (.bipush 15, 2) := by decide +kernel
theorem dX8_layFour_27 : decode cX8_layFour 27 = .ok (.laload, 1) := by decide +kernel
theorem dX8_layFour_28 : decode cX8_layFour 28 = .ok (.ladd, 1) := by decide +kernel
theorem dX8_layFour_29 : decode cX8_layFour 29 = .ok (.lstore_n 1, 1) := by decide +kernel
theorem dX8_layFour_30 : decode cX8_layFour 30 = .ok (.aload_n 0, 1) := by decide +kernel
theorem dX8_layFour_31 : decode cX8_layFour 31 = .ok (.iconst 0, 1) := by decide +kernel
theorem dX8_layFour_32 : decode cX8_layFour 32 = .ok (.iconst 1, 1) := by decide +kernel
theorem dX8_layFour_33 : decode cX8_layFour 33 = .ok (.invokevirtual 166, 3) := by decide +kernel
theorem dX8_layFour_36 : decode cX8_layFour 36 = .ok (.aload_n 0, 1) := by decide +kernel
theorem dX8_layFour_37 : decode cX8_layFour 37 = .ok (.iconst 0, 1) := by decide +kernel
theorem dX8_layFour_38 : decode cX8_layFour 38 = .ok (.iconst 2, 1) := by decide +kernel
theorem dX8_layFour_39 : decode cX8_layFour 39 = .ok (.invokevirtual 166, 3) := by decide +kernel
theorem dX8_layFour_42 : decode cX8_layFour 42 = .ok (.ladd, 1) := by decide +kernel
theorem dX8_layFour_43 : decode cX8_layFour 43 = .ok (.aload_n 0, 1) := by decide +kernel
theorem dX8_layFour_44 : decode cX8_layFour 44 = .ok (.iconst 0, 1) := by decide +kernel
theorem dX8_layFour_45 : decode cX8_layFour 45 = .ok (.iconst 3, 1) := by decide +kernel
theorem dX8_layFour_46 : decode cX8_layFour 46 = .ok (.invokevirtual 166, 3) := by decide +kernel
theorem dX8_layFour_49 : decode cX8_layFour 49 = .ok (.ladd, 1) := by decide +kernel
theorem dX8_layFour_50 : decode cX8_layFour 50 = .ok (.aload_n 0, 1) := by decide +kernel
theorem dX8_layFour_51 : decode cX8_layFour 51 = .ok (.iconst 1, 1) := by decide +kernel
theorem dX8_layFour_52 : decode cX8_layFour 52 = .ok (.iconst 2, 1) := by decide +kernel
theorem dX8_layFour_53 : decode cX8_layFour 53 = .ok (.invokevirtual 166, 3) := by decide +kernel
theorem dX8_layFour_56 : decode cX8_layFour 56 = .ok (.ladd, 1) := by decide +kernel
theorem dX8_layFour_57 : decode cX8_layFour 57 = .ok (.aload_n 0, 1) := by decide +kernel
theorem dX8_layFour_58 : decode cX8_layFour 58 = .ok (.iconst 1, 1) := by decide +kernel
theorem dX8_layFour_59 : decode cX8_layFour 59 = .ok (.iconst 3, 1) := by decide +kernel
theorem dX8_layFour_60 : decode cX8_layFour 60 = .ok (.invokevirtual 166, 3) := by decide +kernel
theorem dX8_layFour_63 : decode cX8_layFour 63 = .ok (.ladd, 1) := by decide +kernel
theorem dX8_layFour_64 : decode cX8_layFour 64 = .ok (.aload_n 0, 1) := by decide +kernel
theorem dX8_layFour_65 : decode cX8_layFour 65 = .ok (.iconst 2, 1) := by decide +kernel
theorem dX8_layFour_66 : decode cX8_layFour 66 = .ok (.iconst 3, 1) := by decide +kernel
theorem dX8_layFour_67 : decode cX8_layFour 67 = .ok (.invokevirtual 166, 3) := by decide +kernel
theorem dX8_layFour_70 : decode cX8_layFour 70 = .ok (.ladd, 1) := by decide +kernel
theorem dX8_layFour_71 : decode cX8_layFour 71 = .ok (.lstore_n 3, 1) := by decide +kernel
theorem dX8_layFour_72 : decode cX8_layFour 72 = .ok (.aload_n 0, 1) := by decide +kernel
theorem dX8_layFour_73 : decode cX8_layFour 73 = .ok (.iconst 0, 1) := by decide +kernel
theorem dX8_layFour_74 : decode cX8_layFour 74 = .ok (.iconst 1, 1) := by decide +kernel
theorem dX8_layFour_75 : decode cX8_layFour 75 = .ok (.iconst 2, 1) := by decide +kernel
theorem dX8_layFour_76 : decode cX8_layFour 76 = .ok (.invokevirtual 169, 3) := by decide +kernel
theorem dX8_layFour_79 : decode cX8_layFour 79 = .ok (.aload_n 0, 1) := by decide +kernel
theorem dX8_layFour_80 : decode cX8_layFour 80 = .ok (.iconst 0, 1) := by decide +kernel
theorem dX8_layFour_81 : decode cX8_layFour 81 = .ok (.iconst 1, 1) := by decide +kernel
theorem dX8_layFour_82 : decode cX8_layFour 82 = .ok (.iconst 3, 1) := by decide +kernel
theorem dX8_layFour_83 : decode cX8_layFour 83 = .ok (.invokevirtual 169, 3) := by decide +kernel
theorem dX8_layFour_86 : decode cX8_layFour 86 = .ok (.ladd, 1) := by decide +kernel
theorem dX8_layFour_87 : decode cX8_layFour 87 = .ok (.aload_n 0, 1) := by decide +kernel
theorem dX8_layFour_88 : decode cX8_layFour 88 = .ok (.iconst 0, 1) := by decide +kernel
theorem dX8_layFour_89 : decode cX8_layFour 89 = .ok (.iconst 2, 1) := by decide +kernel
theorem dX8_layFour_90 : decode cX8_layFour 90 = .ok (.iconst 3, 1) := by decide +kernel
theorem dX8_layFour_91 : decode cX8_layFour 91 = .ok (.invokevirtual 169, 3) := by decide +kernel
theorem dX8_layFour_94 : decode cX8_layFour 94 = .ok (.ladd, 1) := by decide +kernel
theorem dX8_layFour_95 : decode cX8_layFour 95 = .ok (.aload_n 0, 1) := by decide +kernel
theorem dX8_layFour_96 : decode cX8_layFour 96 = .ok (.iconst 1, 1) := by decide +kernel
theorem dX8_layFour_97 : decode cX8_layFour 97 = .ok (.iconst 2, 1) := by decide +kernel
theorem dX8_layFour_98 : decode cX8_layFour 98 = .ok (.iconst 3, 1) := by decide +kernel
theorem dX8_layFour_99 : decode cX8_layFour 99 = .ok (.invokevirtual 169, 3) := by decide +kernel
theorem dX8_layFour_102 : decode cX8_layFour 102 = .ok (.ladd, 1) := by decide +kernel
theorem dX8_layFour_103 : decode cX8_layFour 103 = .ok (.lstore 5, 2) := by decide +kernel
theorem dX8_layFour_105 : decode cX8_layFour 105 = .ok (.aload_n 0, 1) := by decide +kernel
theorem dX8_layFour_106 : decode cX8_layFour 106 = .ok (.iconst 4, 1) := by decide +kernel
theorem dX8_layFour_107 : decode cX8_layFour 107 = .ok (.lload_n 1, 1) := by decide +kernel
theorem dX8_layFour_108 : decode cX8_layFour 108 = .ok (.lload_n 3, 1) := by decide +kernel
theorem dX8_layFour_109 : decode cX8_layFour 109 = .ok (.lload 5, 2) := by decide +kernel
theorem dX8_layFour_111 : decode cX8_layFour 111 = .ok (.aload_n 0, 1) := by decide +kernel
theorem dX8_layFour_112 : decode cX8_layFour 112 = .ok (.getfield 26, 3) := by decide +kernel
theorem dX8_layFour_115 : decode cX8_layFour 115 = .ok (.invokestatic 173, 3) := by decide +kernel
theorem dX8_layFour_118 : decode cX8_layFour 118 = .ok (.invokevirtual 177, 3) := by decide +kernel
theorem dX8_layFour_121 : decode cX8_layFour 121 = .ok (.return_, 1) := by decide +kernel
theorem dX8_layThree_0 : decode cX8_layThree 0 = .ok (.aload_n 0, 1) := by decide +kernel
theorem dX8_layThree_1 : decode cX8_layThree 1 = .ok (.iconst 3, 1) := by decide +kernel
theorem dX8_layThree_2 : decode cX8_layThree 2 = .ok (.aload_n 0, 1) := by decide +kernel
theorem dX8_layThree_3 : decode cX8_layThree 3 = .ok (.getfield 26, 3) := by decide +kernel
theorem dX8_layThree_6 : decode cX8_layThree 6 = .ok (.iconst 0, 1) := by decide +kernel
theorem dX8_layThree_7 : decode cX8_layThree 7 = .ok (.laload, 1) := by decide +kernel
theorem dX8_layThree_8 : decode cX8_layThree 8 = .ok (.aload_n 0, 1) := by decide +kernel
theorem dX8_layThree_9 : decode cX8_layThree 9 = .ok (.getfield 26, 3) := by decide +kernel
theorem dX8_layThree_12 : decode cX8_layThree 12 = .ok (.iconst 5, 1) := by decide +kernel
theorem dX8_layThree_13 : decode cX8_layThree 13 = .ok (.laload, 1) := by decide +kernel
theorem dX8_layThree_14 : decode cX8_layThree 14 = .ok (.ladd, 1) := by decide +kernel
theorem dX8_layThree_15 : decode cX8_layThree 15 = .ok (.aload_n 0, 1) := by decide +kernel
theorem dX8_layThree_16 : decode cX8_layThree 16 = .ok (.getfield 26, 3) := by decide +kernel
theorem dX8_layThree_19 : decode cX8_layThree 19 = .ok (.bipush 10, 2) := by decide +kernel
theorem dX8_layThree_21 : decode cX8_layThree 21 = .ok (.laload, 1) := by decide +kernel
theorem dX8_layThree_22 : decode cX8_layThree 22 = .ok (.ladd, 1) := by decide +kernel
theorem dX8_layThree_23 : decode cX8_layThree 23 = .ok (.aload_n 0, 1) := by decide +kernel
theorem dX8_layThree_24 : decode cX8_layThree 24 = .ok (.iconst 0, 1) := by decide +kernel
theorem dX8_layThree_25 : decode cX8_layThree 25 = .ok (.iconst 1, 1) := by decide +kernel
theorem dX8_layThree_26 : decode cX8_layThree 26 = .ok (.invokevirtual 166, 3) := by decide +kernel
theorem dX8_layThree_29 : decode cX8_layThree 29 = .ok (.aload_n 0, 1) := by decide +kernel
theorem dX8_layThree_30 : decode cX8_layThree 30 = .ok (.iconst 0, 1) := by decide +kernel
theorem dX8_layThree_31 : decode cX8_layThree 31 = .ok (.iconst 2, 1) := by decide +kernel
theorem dX8_layThree_32 : decode cX8_layThree 32 = .ok (.invokevirtual 166, 3) := by decide +kernel
theorem dX8_layThree_35 : decode cX8_layThree 35 = .ok (.ladd, 1) := by decide +kernel
theorem dX8_layThree_36 : decode cX8_layThree 36 = .ok (.aload_n 0, 1) := by decide +kernel
theorem dX8_layThree_37 : decode cX8_layThree 37 = .ok (.iconst 1, 1) := by decide +kernel
theorem dX8_layThree_38 : decode cX8_layThree 38 = .ok (.iconst 2, 1) := by decide +kernel
theorem dX8_layThree_39 : decode cX8_layThree 39 = .ok (.invokevirtual 166, 3) := by decide +kernel
theorem dX8_layThree_42 : decode cX8_layThree 42 = .ok (.ladd, 1) := by decide +kernel
theorem dX8_layThree_43 : decode cX8_layThree 43 = .ok (.aload_n 0, 1) := by decide +kernel
theorem dX8_layThree_44 : decode cX8_layThree 44 = .ok (.iconst 0, 1) := by decide +kernel
theorem dX8_layThree_45 : decode cX8_layThree 45 = .ok (.iconst 1, 1) := by decide +kernel
theorem dX8_layThree_46 : decode cX8_layThree 46 = .ok (.iconst 2, 1) := by decide +kernel
theorem dX8_layThree_47 : decode cX8_layThree 47 = .ok (.invokevirtual 169, 3) := by decide +kernel
theorem dX8_layThree_50 : decode cX8_layThree 50 = .ok (.lconst 0, 1) := by decide +kernel
theorem dX8_layThree_51 : decode cX8_layThree 51 = .ok (.invokevirtual 177, 3) := by decide +kernel
theorem dX8_layThree_54 : decode cX8_layThree 54 = .ok (.return_, 1) := by decide +kernel
theorem dX8_isGround_0 : decode cX8_isGround 0 = .ok (.iload_n 0, 1) := by decide +kernel
theorem dX8_isGround_1 : decode cX8_isGround 1 = .ok (.iconst 0, 1) := by decide +kernel
theorem dX8_isGround_2 : decode cX8_isGround 2 = .ok (.bipush 11, 2) := by decide +kernel
theorem dX8_isGround_4 : decode cX8_isGround 4 = .ok (.invokestatic 133, 3) := by decide +kernel
theorem dX8_isGround_7 : decode cX8_isGround 7 = .ok (.ireturn, 1) := by decide +kernel
theorem dX8_askedFor_0 : decode cX8_askedFor 0 = .ok (.iload_n 1, 1) := by decide +kernel
theorem dX8_askedFor_1 : decode cX8_askedFor 1 = .ok (.invokestatic 181, 3) := by decide +kernel
theorem dX8_askedFor_4 : decode cX8_askedFor 4 = .ok (.ifCond .ne 7, 3) := by decide +kernel
theorem dX8_askedFor_7 : decode cX8_askedFor 7 = .ok (.iconst (-1), 1) := by decide +kernel
theorem dX8_askedFor_8 : decode cX8_askedFor 8 = .ok (.goto 21, 3) := by decide +kernel
theorem dX8_askedFor_11 : decode cX8_askedFor 11 = .ok (.aload_n 0, 1) := by decide +kernel
theorem dX8_askedFor_12 : decode cX8_askedFor 12 = .ok (.getfield 33, 3) := by decide +kernel
theorem dX8_askedFor_15 : decode cX8_askedFor 15 = .ok (.iload_n 1, 1) := by decide +kernel
theorem dX8_askedFor_16 : decode cX8_askedFor 16 = .ok (.baload, 1) := by decide +kernel
theorem dX8_askedFor_17 : decode cX8_askedFor 17 = .ok (.ifCond .eq 7, 3) := by decide +kernel
theorem dX8_askedFor_20 : decode cX8_askedFor 20 = .ok (.iconst 0, 1) := by decide +kernel
theorem dX8_askedFor_21 : decode cX8_askedFor 21 = .ok (.goto 8, 3) := by decide +kernel
theorem dX8_askedFor_24 : decode cX8_askedFor 24 = .ok (.aload_n 0, 1) := by decide +kernel
theorem dX8_askedFor_25 : decode cX8_askedFor 25 = .ok (.iconst 1, 1) := by decide +kernel
theorem dX8_askedFor_26 : decode cX8_askedFor 26 = .ok (.invokevirtual 141, 3) := by decide +kernel
theorem dX8_askedFor_29 : decode cX8_askedFor 29 = .ok (.ireturn, 1) := by decide +kernel
theorem dX8_layTable_0 : decode cX8_layTable 0 = .ok (.iconst 0, 1) := by decide +kernel
theorem dX8_layTable_1 : decode cX8_layTable 1 = .ok (.istore_n 2, 1) := by decide +kernel
theorem dX8_layTable_2 : decode cX8_layTable 2 = .ok (.iload_n 2, 1) := by decide +kernel
theorem dX8_layTable_3 : decode cX8_layTable 3 = .ok (.bipush 16, 2) := by decide +kernel
theorem dX8_layTable_5 : decode cX8_layTable 5 = .ok (.if_icmp .ge 27, 3) := by decide +kernel
theorem dX8_layTable_8 : decode cX8_layTable 8 = .ok (.aload_n 0, 1) := by decide +kernel
theorem dX8_layTable_9 : decode cX8_layTable 9 = .ok (.getfield 26, 3) := by decide +kernel
theorem dX8_layTable_12 : decode cX8_layTable 12 = .ok (.iload_n 2, 1) := by decide +kernel
theorem dX8_layTable_13 : decode cX8_layTable 13 = .ok (.aload_n 0, 1) := by decide +kernel
theorem dX8_layTable_14 : decode cX8_layTable 14 = .ok (.getfield 37, 3) := by decide +kernel
theorem dX8_layTable_17 : decode cX8_layTable 17 = .ok (.bipush 16, 2) := by decide +kernel
theorem dX8_layTable_19 : decode cX8_layTable 19 = .ok (.iload_n 1, 1) := by decide +kernel
theorem dX8_layTable_20 : decode cX8_layTable 20 = .ok (.imul, 1) := by decide +kernel
theorem dX8_layTable_21 : decode cX8_layTable 21 = .ok (.iload_n 2, 1) := by decide +kernel
theorem dX8_layTable_22 : decode cX8_layTable 22 = .ok (.iadd, 1) := by decide +kernel
theorem dX8_layTable_23 : decode cX8_layTable 23 = .ok (.iaload, 1) := by decide +kernel
theorem dX8_layTable_24 : decode cX8_layTable 24 = .ok (.i2l, 1) := by decide +kernel
theorem dX8_layTable_25 : decode cX8_layTable 25 = .ok (.lastore, 1) := by decide +kernel
theorem dX8_layTable_26 : decode cX8_layTable 26 = .ok (.iinc 2 1, 3) := by decide +kernel
theorem dX8_layTable_29 : decode cX8_layTable 29 = .ok (.goto (-27), 3) := by decide +kernel
theorem dX8_layTable_32 : decode cX8_layTable 32 = .ok (.return_, 1) := by decide +kernel
theorem dX8_nameOf_0 : decode cX8_nameOf 0 = .ok (.sipush 1000, 3) := by decide +kernel
theorem dX8_nameOf_3 : decode cX8_nameOf 3 = .ok (.iload_n 0, 1) := by decide +kernel
theorem dX8_nameOf_4 : decode cX8_nameOf 4 = .ok (.imul, 1) := by decide +kernel
theorem dX8_nameOf_5 : decode cX8_nameOf 5 = .ok (.bipush 100, 2) := by decide +kernel
theorem dX8_nameOf_7 : decode cX8_nameOf 7 = .ok (.iload_n 1, 1) := by decide +kernel
theorem dX8_nameOf_8 : decode cX8_nameOf 8 = .ok (.imul, 1) := by decide +kernel
theorem dX8_nameOf_9 : decode cX8_nameOf 9 = .ok (.iadd, 1) := by decide +kernel
theorem dX8_nameOf_10 : decode cX8_nameOf 10 = .ok (.bipush 10, 2) := by decide +kernel
theorem dX8_nameOf_12 : decode cX8_nameOf 12 = .ok (.iload_n 2, 1) := by decide +kernel
theorem dX8_nameOf_13 : decode cX8_nameOf 13 = .ok (.imul, 1) := by decide +kernel
theorem dX8_nameOf_14 : decode cX8_nameOf 14 = .ok (.iadd, 1) := by decide +kernel
theorem dX8_nameOf_15 : decode cX8_nameOf 15 = .ok (.iload_n 3, 1) := by decide +kernel
theorem dX8_nameOf_16 : decode cX8_nameOf 16 = .ok (.iadd, 1) := by decide +kernel
theorem dX8_nameOf_17 : decode cX8_nameOf 17 = .ok (.istore 4, 2) := by decide +kernel
theorem dX8_nameOf_19 : decode cX8_nameOf 19 = .ok (.sipush 1000, 3) := by decide +kernel
theorem dX8_nameOf_22 : decode cX8_nameOf 22 = .ok (.iload_n 1, 1) := by decide +kernel
theorem dX8_nameOf_23 : decode cX8_nameOf 23 = .ok (.imul, 1) := by decide +kernel
theorem dX8_nameOf_24 : decode cX8_nameOf 24 = .ok (.bipush 100, 2) := by decide +kernel
theorem dX8_nameOf_26 : decode cX8_nameOf 26 = .ok (.iload_n 0, 1) := by decide +kernel
theorem dX8_nameOf_27 : decode cX8_nameOf 27 = .ok (.imul, 1) := by decide +kernel
theorem dX8_nameOf_28 : decode cX8_nameOf 28 = .ok (.iadd, 1) := by decide +kernel
theorem dX8_nameOf_29 : decode cX8_nameOf 29 = .ok (.bipush 10, 2) := by decide +kernel
theorem dX8_nameOf_31 : decode cX8_nameOf 31 = .ok (.iload_n 3, 1) := by decide +kernel
theorem dX8_nameOf_32 : decode cX8_nameOf 32 = .ok (.imul, 1) := by decide +kernel
theorem dX8_nameOf_33 : decode cX8_nameOf 33 = .ok (.iadd, 1) := by decide +kernel
theorem dX8_nameOf_34 : decode cX8_nameOf 34 = .ok (.iload_n 2, 1) := by decide +kernel
theorem dX8_nameOf_35 : decode cX8_nameOf 35 = .ok (.iadd, 1) := by decide +kernel
theorem dX8_nameOf_36 : decode cX8_nameOf 36 = .ok (.istore 5, 2) := by decide +kernel
theorem dX8_nameOf_38 : decode cX8_nameOf 38 = .ok (.iload 4, 2) := by decide +kernel
theorem dX8_nameOf_40 : decode cX8_nameOf 40 = .ok (.iload 5, 2) := by decide +kernel
theorem dX8_nameOf_42 : decode cX8_nameOf 42 = .ok (.if_icmp .le 8, 3) := by decide +kernel
theorem dX8_nameOf_45 : decode cX8_nameOf 45 = .ok (.iload 4, 2) := by decide +kernel
theorem dX8_nameOf_47 : decode cX8_nameOf 47 = .ok (.goto 5, 3) := by decide +kernel
theorem dX8_nameOf_50 : decode cX8_nameOf 50 = .ok (.iload 5, 2) := by decide +kernel
theorem dX8_nameOf_52 : decode cX8_nameOf 52 = .ok (.ireturn, 1) := by decide +kernel
theorem dX8_setFacts_0 : decode cX8_setFacts 0 = .ok (.aload_n 0, 1) := by decide +kernel
theorem dX8_setFacts_1 : decode cX8_setFacts 1 = .ok (.iload_n 1, 1) := by decide +kernel
theorem dX8_setFacts_2 : decode cX8_setFacts 2 = .ok (.invokevirtual 184, 3) := by decide +kernel
theorem dX8_setFacts_5 : decode cX8_setFacts 5 = .ok (.bipush 10, 2) := by decide +kernel
theorem dX8_setFacts_7 : decode cX8_setFacts 7 = .ok (.iload_n 1, 1) := by decide +kernel
theorem dX8_setFacts_8 : decode cX8_setFacts 8 = .ok (.imul, 1) := by decide +kernel
theorem dX8_setFacts_9 : decode cX8_setFacts 9 = .ok (.istore_n 2, 1) := by decide +kernel
theorem dX8_setFacts_10 : decode cX8_setFacts 10 = .ok (.aload_n 0, 1) := by decide +kernel
theorem dX8_setFacts_11 : decode cX8_setFacts 11 = .ok (.invokevirtual 188, 3) := by decide +kernel
theorem dX8_setFacts_14 : decode cX8_setFacts 14 = .ok (.aload_n 0, 1) := by decide +kernel
theorem dX8_setFacts_15 : decode cX8_setFacts 15 = .ok (.getfield 160, 3) := by decide +kernel
theorem dX8_setFacts_18 : decode cX8_setFacts 18 = .ok (.istore_n 3, 1) := by decide +kernel
theorem dX8_setFacts_19 : decode cX8_setFacts 19 = .ok (.aload_n 0, 1) := by decide +kernel
theorem dX8_setFacts_20 : decode cX8_setFacts 20 = .ok (.getfield 163, 3) := by decide +kernel
theorem dX8_setFacts_23 : decode cX8_setFacts 23 = .ok (.istore 4, 2) := by decide +kernel
theorem dX8_setFacts_25 : decode cX8_setFacts 25 = .ok (.aload_n 0, 1) := by decide +kernel
theorem dX8_setFacts_26 : decode cX8_setFacts 26 = .ok (.invokevirtual 191, 3) := by decide +kernel
