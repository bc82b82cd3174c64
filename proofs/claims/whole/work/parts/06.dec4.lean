theorem d_Mod_laysTable_33 : decode i_Mod_laysTable.2.1 33 = .ok (.iload_n 1, 1) := by decide +kernel
theorem d_Mod_laysTable_34 : decode i_Mod_laysTable.2.1 34 = .ok (.iaload, 1) := by decide +kernel
theorem d_Mod_laysTable_35 : decode i_Mod_laysTable.2.1 35 = .ok (.if_icmp .ge 28, 3) := by decide +kernel
theorem d_Mod_laysTable_38 : decode i_Mod_laysTable.2.1 38 = .ok (.aload_n 0, 1) := by decide +kernel
theorem d_Mod_laysTable_39 : decode i_Mod_laysTable.2.1 39 = .ok (.getfield 53, 3) := by decide +kernel
theorem d_Mod_laysTable_42 : decode i_Mod_laysTable.2.1 42 = .ok (.sipush 144, 3) := by decide +kernel
theorem d_Mod_laysTable_45 : decode i_Mod_laysTable.2.1 45 = .ok (.iload_n 2, 1) := by decide +kernel
theorem d_Mod_laysTable_46 : decode i_Mod_laysTable.2.1 46 = .ok (.imul, 1) := by decide +kernel
theorem d_Mod_laysTable_47 : decode i_Mod_laysTable.2.1 47 = .ok (.iload_n 3, 1) := by decide +kernel
theorem d_Mod_laysTable_48 : decode i_Mod_laysTable.2.1 48 = .ok (.iadd, 1) := by decide +kernel
theorem d_Mod_laysTable_49 : decode i_Mod_laysTable.2.1 49 = .ok (.aload_n 0, 1) := by decide +kernel
theorem d_Mod_laysTable_50 : decode i_Mod_laysTable.2.1 50 = .ok (.iload_n 1, 1) := by decide +kernel
theorem d_Mod_laysTable_51 : decode i_Mod_laysTable.2.1 51 = .ok (.iload_n 2, 1) := by decide +kernel
theorem d_Mod_laysTable_52 : decode i_Mod_laysTable.2.1 52 = .ok (.iload_n 3, 1) := by decide +kernel
theorem d_Mod_laysTable_53 : decode i_Mod_laysTable.2.1 53 = .ok (.invokevirtual 186, 3) := by decide +kernel
theorem d_Mod_laysTable_56 : decode i_Mod_laysTable.2.1 56 = .ok (.iastore, 1) := by decide +kernel
theorem d_Mod_laysTable_57 : decode i_Mod_laysTable.2.1 57 = .ok (.iinc 3 1, 3) := by decide +kernel
theorem d_Mod_laysTable_60 : decode i_Mod_laysTable.2.1 60 = .ok (.goto (-32), 3) := by decide +kernel
theorem d_Mod_laysTable_63 : decode i_Mod_laysTable.2.1 63 = .ok (.iinc 2 1, 3) := by decide +kernel
theorem d_Mod_laysTable_66 : decode i_Mod_laysTable.2.1 66 = .ok (.goto (-50), 3) := by decide +kernel
theorem d_Mod_laysTable_69 : decode i_Mod_laysTable.2.1 69 = .ok (.aload_n 0, 1) := by decide +kernel
theorem d_Mod_laysTable_70 : decode i_Mod_laysTable.2.1 70 = .ok (.iload_n 1, 1) := by decide +kernel
theorem d_Mod_laysTable_71 : decode i_Mod_laysTable.2.1 71 = .ok (.invokevirtual 189, 3) := by decide +kernel
theorem d_Mod_laysTable_74 : decode i_Mod_laysTable.2.1 74 = .ok (.return_, 1) := by decide +kernel
theorem d_Mod_isStretch_0 : decode i_Mod_isStretch.2.1 0 = .ok (.aload_n 0, 1) := by decide +kernel
theorem d_Mod_isStretch_1 : decode i_Mod_isStretch.2.1 1 = .ok (.iload_n 1, 1) := by decide +kernel
theorem d_Mod_isStretch_2 : decode i_Mod_isStretch.2.1 2 = .ok (.invokevirtual 169, 3) := by decide +kernel
theorem d_Mod_isStretch_5 : decode i_Mod_isStretch.2.1 5 = .ok (.ifCond .eq 39, 3) := by decide +kernel
theorem d_Mod_isStretch_8 : decode i_Mod_isStretch.2.1 8 = .ok (.iload_n 2, 1) := by decide +kernel
theorem d_Mod_isStretch_9 : decode i_Mod_isStretch.2.1 9 = .ok (.iconst 0, 1) := by decide +kernel
theorem d_Mod_isStretch_10 : decode i_Mod_isStretch.2.1 10 = .ok (.aload_n 0, 1) := by decide +kernel
theorem d_Mod_isStretch_11 : decode i_Mod_isStretch.2.1 11 = .ok (.getfield 31, 3) := by decide +kernel
theorem d_Mod_isStretch_14 : decode i_Mod_isStretch.2.1 14 = .ok (.iload_n 1, 1) := by decide +kernel
theorem d_Mod_isStretch_15 : decode i_Mod_isStretch.2.1 15 = .ok (.iaload, 1) := by decide +kernel
theorem d_Mod_isStretch_16 : decode i_Mod_isStretch.2.1 16 = .ok (.iconst 1, 1) := by decide +kernel
theorem d_Mod_isStretch_17 : decode i_Mod_isStretch.2.1 17 = .ok (.isub, 1) := by decide +kernel
theorem d_Mod_isStretch_18 : decode i_Mod_isStretch.2.1 18 = .ok (.invokestatic 71, 3) := by decide +kernel
theorem d_Mod_isStretch_21 : decode i_Mod_isStretch.2.1 21 = .ok (.ifCond .eq 23, 3) := by decide +kernel
theorem d_Mod_isStretch_24 : decode i_Mod_isStretch.2.1 24 = .ok (.iload_n 3, 1) := by decide +kernel
theorem d_Mod_isStretch_25 : decode i_Mod_isStretch.2.1 25 = .ok (.iconst 1, 1) := by decide +kernel
theorem d_Mod_isStretch_26 : decode i_Mod_isStretch.2.1 26 = .ok (.aload_n 0, 1) := by decide +kernel
theorem d_Mod_isStretch_27 : decode i_Mod_isStretch.2.1 27 = .ok (.getfield 31, 3) := by decide +kernel
theorem d_Mod_isStretch_30 : decode i_Mod_isStretch.2.1 30 = .ok (.iload_n 1, 1) := by decide +kernel
theorem d_Mod_isStretch_31 : decode i_Mod_isStretch.2.1 31 = .ok (.iaload, 1) := by decide +kernel
theorem d_Mod_isStretch_32 : decode i_Mod_isStretch.2.1 32 = .ok (.iconst 1, 1) := by decide +kernel
theorem d_Mod_isStretch_33 : decode i_Mod_isStretch.2.1 33 = .ok (.isub, 1) := by decide +kernel
theorem d_Mod_isStretch_34 : decode i_Mod_isStretch.2.1 34 = .ok (.invokestatic 71, 3) := by decide +kernel
theorem d_Mod_isStretch_37 : decode i_Mod_isStretch.2.1 37 = .ok (.ifCond .eq 7, 3) := by decide +kernel
theorem d_Mod_isStretch_40 : decode i_Mod_isStretch.2.1 40 = .ok (.iconst 1, 1) := by decide +kernel
theorem d_Mod_isStretch_41 : decode i_Mod_isStretch.2.1 41 = .ok (.goto 4, 3) := by decide +kernel
theorem d_Mod_isStretch_44 : decode i_Mod_isStretch.2.1 44 = .ok (.iconst 0, 1) := by decide +kernel
theorem d_Mod_isStretch_45 : decode i_Mod_isStretch.2.1 45 = .ok (.ireturn, 1) := by decide +kernel
theorem d_Mod_straight_0 : decode i_Mod_straight.2.1 0 = .ok (.aload_n 0, 1) := by decide +kernel
theorem d_Mod_straight_1 : decode i_Mod_straight.2.1 1 = .ok (.iload_n 1, 1) := by decide +kernel
theorem d_Mod_straight_2 : decode i_Mod_straight.2.1 2 = .ok (.iload_n 2, 1) := by decide +kernel
theorem d_Mod_straight_3 : decode i_Mod_straight.2.1 3 = .ok (.iload_n 3, 1) := by decide +kernel
theorem d_Mod_straight_4 : decode i_Mod_straight.2.1 4 = .ok (.invokevirtual 193, 3) := by decide +kernel
theorem d_Mod_straight_7 : decode i_Mod_straight.2.1 7 = .ok (.ifCond .eq 23, 3) := by decide +kernel
theorem d_Mod_straight_10 : decode i_Mod_straight.2.1 10 = .ok (.aload_n 0, 1) := by decide +kernel
theorem d_Mod_straight_11 : decode i_Mod_straight.2.1 11 = .ok (.iload_n 1, 1) := by decide +kernel
theorem d_Mod_straight_12 : decode i_Mod_straight.2.1 12 = .ok (.iload_n 2, 1) := by decide +kernel
theorem d_Mod_straight_13 : decode i_Mod_straight.2.1 13 = .ok (.iload_n 3, 1) := by decide +kernel
theorem d_Mod_straight_14 : decode i_Mod_straight.2.1 14 = .ok (.invokevirtual 186, 3) := by decide +kernel
theorem d_Mod_straight_17 : decode i_Mod_straight.2.1 17 = .ok (.ldc 185, 2) := by decide +kernel
theorem d_Mod_straight_19 : decode i_Mod_straight.2.1 19 = .ok (.if_icmp .ne 7, 3) := by decide +kernel
theorem d_Mod_straight_22 : decode i_Mod_straight.2.1 22 = .ok (.iconst 0, 1) := by decide +kernel
theorem d_Mod_straight_23 : decode i_Mod_straight.2.1 23 = .ok (.goto 9, 3) := by decide +kernel
theorem d_Mod_straight_26 : decode i_Mod_straight.2.1 26 = .ok (.iconst 1, 1) := by decide +kernel
theorem d_Mod_straight_27 : decode i_Mod_straight.2.1 27 = .ok (.goto 5, 3) := by decide +kernel
theorem d_Mod_straight_30 : decode i_Mod_straight.2.1 30 = .ok (.ldc 75, 2) := by decide +kernel
theorem d_Mod_straight_32 : decode i_Mod_straight.2.1 32 = .ok (.ireturn, 1) := by decide +kernel
theorem d_Mod_off_0 : decode i_Mod_off.2.1 0 = .ok (.aload_n 0, 1) := by decide +kernel
theorem d_Mod_off_1 : decode i_Mod_off.2.1 1 = .ok (.iload_n 1, 1) := by decide +kernel
theorem d_Mod_off_2 : decode i_Mod_off.2.1 2 = .ok (.iload_n 2, 1) := by decide +kernel
theorem d_Mod_off_3 : decode i_Mod_off.2.1 3 = .ok (.iload_n 3, 1) := by decide +kernel
theorem d_Mod_off_4 : decode i_Mod_off.2.1 4 = .ok (.invokevirtual 193, 3) := by decide +kernel
theorem d_Mod_off_7 : decode i_Mod_off.2.1 7 = .ok (.ifCond .eq 13, 3) := by decide +kernel
theorem d_Mod_off_10 : decode i_Mod_off.2.1 10 = .ok (.aload_n 0, 1) := by decide +kernel
theorem d_Mod_off_11 : decode i_Mod_off.2.1 11 = .ok (.iload_n 1, 1) := by decide +kernel
theorem d_Mod_off_12 : decode i_Mod_off.2.1 12 = .ok (.iload_n 2, 1) := by decide +kernel
theorem d_Mod_off_13 : decode i_Mod_off.2.1 13 = .ok (.iload_n 3, 1) := by decide +kernel
theorem d_Mod_off_14 : decode i_Mod_off.2.1 14 = .ok (.invokevirtual 186, 3) := by decide +kernel
theorem d_Mod_off_17 : decode i_Mod_off.2.1 17 = .ok (.goto 5, 3) := by decide +kernel
theorem d_Mod_off_20 : decode i_Mod_off.2.1 20 = .ok (.ldc 75, 2) := by decide +kernel
theorem d_Mod_off_22 : decode i_Mod_off.2.1 22 = .ok (.ireturn, 1) := by decide +kernel
theorem d_Mod_longest_0 : decode i_Mod_longest.2.1 0 = .ok (.aload_n 0, 1) := by decide +kernel
theorem d_Mod_longest_1 : decode i_Mod_longest.2.1 1 = .ok (.iload_n 1, 1) := by decide +kernel
theorem d_Mod_longest_2 : decode i_Mod_longest.2.1 2 = .ok (.iload_n 2, 1) := by decide +kernel
theorem d_Mod_longest_3 : decode i_Mod_longest.2.1 3 = .ok (.iconst 1, 1) := by decide +kernel
theorem d_Mod_longest_4 : decode i_Mod_longest.2.1 4 = .ok (.invokevirtual 193, 3) := by decide +kernel
theorem d_Mod_longest_7 : decode i_Mod_longest.2.1 7 = .ok (.ifCond .ne 6, 3) := by decide +kernel
theorem d_Mod_longest_10 : decode i_Mod_longest.2.1 10 = .ok (.ldc 75, 2) := by decide +kernel
theorem d_Mod_longest_12 : decode i_Mod_longest.2.1 12 = .ok (.ireturn, 1) := by decide +kernel
theorem d_Mod_longest_13 : decode i_Mod_longest.2.1 13 = .ok (.aload_n 0, 1) := by decide +kernel
theorem d_Mod_longest_14 : decode i_Mod_longest.2.1 14 = .ok (.getfield 31, 3) := by decide +kernel
theorem d_Mod_longest_17 : decode i_Mod_longest.2.1 17 = .ok (.iload_n 1, 1) := by decide +kernel
theorem d_Mod_longest_18 : decode i_Mod_longest.2.1 18 = .ok (.iaload, 1) := by decide +kernel
theorem d_Mod_longest_19 : decode i_Mod_longest.2.1 19 = .ok (.iconst 1, 1) := by decide +kernel
theorem d_Mod_longest_20 : decode i_Mod_longest.2.1 20 = .ok (.isub, 1) := by decide +kernel
theorem d_Mod_longest_21 : decode i_Mod_longest.2.1 21 = .ok (.istore_n 3, 1) := by decide +kernel
theorem d_Mod_longest_22 : decode i_Mod_longest.2.1 22 = .ok (.aload_n 0, 1) := by decide +kernel
theorem d_Mod_longest_23 : decode i_Mod_longest.2.1 23 = .ok (.iload_n 1, 1) := by decide +kernel
theorem d_Mod_longest_24 : decode i_Mod_longest.2.1 24 = .ok (.iload_n 2, 1) := by decide +kernel
theorem d_Mod_longest_25 : decode i_Mod_longest.2.1 25 = .ok (.iload_n 3, 1) := by decide +kernel
theorem d_Mod_longest_26 : decode i_Mod_longest.2.1 26 = .ok (.invokevirtual 186, 3) := by decide +kernel
theorem d_Mod_longest_29 : decode i_Mod_longest.2.1 29 = .ok (.ldc 185, 2) := by decide +kernel
theorem d_Mod_longest_31 : decode i_Mod_longest.2.1 31 = .ok (.if_icmp .ne 9, 3) := by decide +kernel
theorem d_Mod_longest_34 : decode i_Mod_longest.2.1 34 = .ok (.iinc 3 (-1), 3) := by decide +kernel
theorem d_Mod_longest_37 : decode i_Mod_longest.2.1 37 = .ok (.goto (-15), 3) := by decide +kernel
theorem d_Mod_longest_40 : decode i_Mod_longest.2.1 40 = .ok (.iload_n 3, 1) := by decide +kernel
theorem d_Mod_longest_41 : decode i_Mod_longest.2.1 41 = .ok (.ireturn, 1) := by decide +kernel
theorem d_Mod_stretch_0 : decode i_Mod_stretch.2.1 0 = .ok (.aload_n 0, 1) := by decide +kernel
theorem d_Mod_stretch_1 : decode i_Mod_stretch.2.1 1 = .ok (.getfield 53, 3) := by decide +kernel
theorem d_Mod_stretch_4 : decode i_Mod_stretch.2.1 4 = .ok (.sipush 144, 3) := by decide +kernel
theorem d_Mod_stretch_7 : decode i_Mod_stretch.2.1 7 = .ok (.iload_n 1, 1) := by decide +kernel
theorem d_Mod_stretch_8 : decode i_Mod_stretch.2.1 8 = .ok (.imul, 1) := by decide +kernel
theorem d_Mod_stretch_9 : decode i_Mod_stretch.2.1 9 = .ok (.iload_n 2, 1) := by decide +kernel
theorem d_Mod_stretch_10 : decode i_Mod_stretch.2.1 10 = .ok (.iadd, 1) := by decide +kernel
theorem d_Mod_stretch_11 : decode i_Mod_stretch.2.1 11 = .ok (.iaload, 1) := by decide +kernel
theorem d_Mod_stretch_12 : decode i_Mod_stretch.2.1 12 = .ok (.ldc 185, 2) := by decide +kernel
theorem d_Mod_stretch_14 : decode i_Mod_stretch.2.1 14 = .ok (.if_icmp .eq 9, 3) := by decide +kernel
theorem d_Mod_stretch_17 : decode i_Mod_stretch.2.1 17 = .ok (.iload_n 3, 1) := by decide +kernel
theorem d_Mod_stretch_18 : decode i_Mod_stretch.2.1 18 = .ok (.ldc 196, 2) := by decide +kernel
theorem d_Mod_stretch_20 : decode i_Mod_stretch.2.1 20 = .ok (.if_icmp .lt 8, 3) := by decide +kernel
theorem d_Mod_stretch_23 : decode i_Mod_stretch.2.1 23 = .ok (.ldc 196, 2) := by decide +kernel
theorem d_Mod_stretch_25 : decode i_Mod_stretch.2.1 25 = .ok (.goto 20, 3) := by decide +kernel
theorem d_Mod_stretch_28 : decode i_Mod_stretch.2.1 28 = .ok (.ldc 197, 2) := by decide +kernel
theorem d_Mod_stretch_30 : decode i_Mod_stretch.2.1 30 = .ok (.aload_n 0, 1) := by decide +kernel
theorem d_Mod_stretch_31 : decode i_Mod_stretch.2.1 31 = .ok (.getfield 53, 3) := by decide +kernel
theorem d_Mod_stretch_34 : decode i_Mod_stretch.2.1 34 = .ok (.sipush 144, 3) := by decide +kernel
theorem d_Mod_stretch_37 : decode i_Mod_stretch.2.1 37 = .ok (.iload_n 1, 1) := by decide +kernel
theorem d_Mod_stretch_38 : decode i_Mod_stretch.2.1 38 = .ok (.imul, 1) := by decide +kernel
theorem d_Mod_stretch_39 : decode i_Mod_stretch.2.1 39 = .ok (.iload_n 2, 1) := by decide +kernel
theorem d_Mod_stretch_40 : decode i_Mod_stretch.2.1 40 = .ok (.iadd, 1) := by decide +kernel
theorem d_Mod_stretch_41 : decode i_Mod_stretch.2.1 41 = .ok (.iaload, 1) := by decide +kernel
theorem d_Mod_stretch_42 : decode i_Mod_stretch.2.1 42 = .ok (.iadd, 1) := by decide +kernel
theorem d_Mod_stretch_43 : decode i_Mod_stretch.2.1 43 = .ok (.iload_n 3, 1) := by decide +kernel
theorem d_Mod_stretch_44 : decode i_Mod_stretch.2.1 44 = .ok (.iadd, 1) := by decide +kernel
theorem d_Mod_stretch_45 : decode i_Mod_stretch.2.1 45 = .ok (.ireturn, 1) := by decide +kernel
theorem d_Mod_laysLeast_0 : decode i_Mod_laysLeast.2.1 0 = .ok (.iload_n 1, 1) := by decide +kernel
theorem d_Mod_laysLeast_1 : decode i_Mod_laysLeast.2.1 1 = .ok (.iconst 1, 1) := by decide +kernel
theorem d_Mod_laysLeast_2 : decode i_Mod_laysLeast.2.1 2 = .ok (.isub, 1) := by decide +kernel
theorem d_Mod_laysLeast_3 : decode i_Mod_laysLeast.2.1 3 = .ok (.istore_n 3, 1) := by decide +kernel
theorem d_Mod_laysLeast_4 : decode i_Mod_laysLeast.2.1 4 = .ok (.iload_n 3, 1) := by decide +kernel
theorem d_Mod_laysLeast_5 : decode i_Mod_laysLeast.2.1 5 = .ok (.iload_n 2, 1) := by decide +kernel
theorem d_Mod_laysLeast_6 : decode i_Mod_laysLeast.2.1 6 = .ok (.if_icmp .lt 104, 3) := by decide +kernel
theorem d_Mod_laysLeast_9 : decode i_Mod_laysLeast.2.1 9 = .ok (.iload_n 2, 1) := by decide +kernel
theorem d_Mod_laysLeast_10 : decode i_Mod_laysLeast.2.1 10 = .ok (.iload_n 1, 1) := by decide +kernel
theorem d_Mod_laysLeast_11 : decode i_Mod_laysLeast.2.1 11 = .ok (.iadd, 1) := by decide +kernel
theorem d_Mod_laysLeast_12 : decode i_Mod_laysLeast.2.1 12 = .ok (.iload_n 3, 1) := by decide +kernel
theorem d_Mod_laysLeast_13 : decode i_Mod_laysLeast.2.1 13 = .ok (.isub, 1) := by decide +kernel
theorem d_Mod_laysLeast_14 : decode i_Mod_laysLeast.2.1 14 = .ok (.istore 4, 2) := by decide +kernel
theorem d_Mod_laysLeast_16 : decode i_Mod_laysLeast.2.1 16 = .ok (.aload_n 0, 1) := by decide +kernel
theorem d_Mod_laysLeast_17 : decode i_Mod_laysLeast.2.1 17 = .ok (.getfield 56, 3) := by decide +kernel
theorem d_Mod_laysLeast_20 : decode i_Mod_laysLeast.2.1 20 = .ok (.iload_n 3, 1) := by decide +kernel
theorem d_Mod_laysLeast_21 : decode i_Mod_laysLeast.2.1 21 = .ok (.iload 4, 2) := by decide +kernel
theorem d_Mod_laysLeast_23 : decode i_Mod_laysLeast.2.1 23 = .ok (.iload_n 1, 1) := by decide +kernel
theorem d_Mod_laysLeast_24 : decode i_Mod_laysLeast.2.1 24 = .ok (.if_icmp .ge 14, 3) := by decide +kernel
theorem d_Mod_laysLeast_27 : decode i_Mod_laysLeast.2.1 27 = .ok (.aload_n 0, 1) := by decide +kernel
theorem d_Mod_laysLeast_28 : decode i_Mod_laysLeast.2.1 28 = .ok (.iload_n 3, 1) := by decide +kernel
theorem d_Mod_laysLeast_29 : decode i_Mod_laysLeast.2.1 29 = .ok (.iload 4, 2) := by decide +kernel
theorem d_Mod_laysLeast_31 : decode i_Mod_laysLeast.2.1 31 = .ok (.iconst 0, 1) := by decide +kernel
theorem d_Mod_laysLeast_32 : decode i_Mod_laysLeast.2.1 32 = .ok (.invokevirtual 198, 3) := by decide +kernel
theorem d_Mod_laysLeast_35 : decode i_Mod_laysLeast.2.1 35 = .ok (.goto 5, 3) := by decide +kernel
theorem d_Mod_laysLeast_38 : decode i_Mod_laysLeast.2.1 38 = .ok (.ldc 196, 2) := by decide +kernel
theorem d_Mod_laysLeast_40 : decode i_Mod_laysLeast.2.1 40 = .ok (.iastore, 1) := by decide +kernel
theorem d_Mod_laysLeast_41 : decode i_Mod_laysLeast.2.1 41 = .ok (.iload_n 3, 1) := by decide +kernel
theorem d_Mod_laysLeast_42 : decode i_Mod_laysLeast.2.1 42 = .ok (.iconst 1, 1) := by decide +kernel
theorem d_Mod_laysLeast_43 : decode i_Mod_laysLeast.2.1 43 = .ok (.iadd, 1) := by decide +kernel
theorem d_Mod_laysLeast_44 : decode i_Mod_laysLeast.2.1 44 = .ok (.istore 5, 2) := by decide +kernel
theorem d_Mod_laysLeast_46 : decode i_Mod_laysLeast.2.1 46 = .ok (.iload 5, 2) := by decide +kernel
theorem d_Mod_laysLeast_48 : decode i_Mod_laysLeast.2.1 48 = .ok (.iload_n 1, 1) := by decide +kernel
theorem d_Mod_laysLeast_49 : decode i_Mod_laysLeast.2.1 49 = .ok (.if_icmp .ge 55, 3) := by decide +kernel
theorem d_Mod_laysLeast_52 : decode i_Mod_laysLeast.2.1 52 = .ok (.aload_n 0, 1) := by decide +kernel
theorem d_Mod_laysLeast_53 : decode i_Mod_laysLeast.2.1 53 = .ok (.iload_n 3, 1) := by decide +kernel
theorem d_Mod_laysLeast_54 : decode i_Mod_laysLeast.2.1 54 = .ok (.iload 5, 2) := by decide +kernel
theorem d_Mod_laysLeast_56 : decode i_Mod_laysLeast.2.1 56 = .ok (.iload_n 3, 1) := by decide +kernel
theorem d_Mod_laysLeast_57 : decode i_Mod_laysLeast.2.1 57 = .ok (.isub, 1) := by decide +kernel
theorem d_Mod_laysLeast_58 : decode i_Mod_laysLeast.2.1 58 = .ok (.aload_n 0, 1) := by decide +kernel
theorem d_Mod_laysLeast_59 : decode i_Mod_laysLeast.2.1 59 = .ok (.getfield 56, 3) := by decide +kernel
theorem d_Mod_laysLeast_62 : decode i_Mod_laysLeast.2.1 62 = .ok (.iload 5, 2) := by decide +kernel
theorem d_Mod_laysLeast_64 : decode i_Mod_laysLeast.2.1 64 = .ok (.iaload, 1) := by decide +kernel
theorem d_Mod_laysLeast_65 : decode i_Mod_laysLeast.2.1 65 = .ok (.invokevirtual 198, 3) := by decide +kernel
theorem d_Mod_laysLeast_68 : decode i_Mod_laysLeast.2.1 68 = .ok (.istore 6, 2) := by decide +kernel
theorem d_Mod_laysLeast_70 : decode i_Mod_laysLeast.2.1 70 = .ok (.aload_n 0, 1) := by decide +kernel
theorem d_Mod_laysLeast_71 : decode i_Mod_laysLeast.2.1 71 = .ok (.getfield 56, 3) := by decide +kernel
theorem d_Mod_laysLeast_74 : decode i_Mod_laysLeast.2.1 74 = .ok (.iload_n 3, 1) := by decide +kernel
theorem d_Mod_laysLeast_75 : decode i_Mod_laysLeast.2.1 75 = .ok (.iload 6, 2) := by decide +kernel
theorem d_Mod_laysLeast_77 : decode i_Mod_laysLeast.2.1 77 = .ok (.aload_n 0, 1) := by decide +kernel
theorem d_Mod_laysLeast_78 : decode i_Mod_laysLeast.2.1 78 = .ok (.getfield 56, 3) := by decide +kernel
theorem d_Mod_laysLeast_81 : decode i_Mod_laysLeast.2.1 81 = .ok (.iload_n 3, 1) := by decide +kernel
theorem d_Mod_laysLeast_82 : decode i_Mod_laysLeast.2.1 82 = .ok (.iaload, 1) := by decide +kernel
theorem d_Mod_laysLeast_83 : decode i_Mod_laysLeast.2.1 83 = .ok (.if_icmp .ge 8, 3) := by decide +kernel
theorem d_Mod_laysLeast_86 : decode i_Mod_laysLeast.2.1 86 = .ok (.iload 6, 2) := by decide +kernel
theorem d_Mod_laysLeast_88 : decode i_Mod_laysLeast.2.1 88 = .ok (.goto 9, 3) := by decide +kernel
theorem d_Mod_laysLeast_91 : decode i_Mod_laysLeast.2.1 91 = .ok (.aload_n 0, 1) := by decide +kernel
theorem d_Mod_laysLeast_92 : decode i_Mod_laysLeast.2.1 92 = .ok (.getfield 56, 3) := by decide +kernel
theorem d_Mod_laysLeast_95 : decode i_Mod_laysLeast.2.1 95 = .ok (.iload_n 3, 1) := by decide +kernel
theorem d_Mod_laysLeast_96 : decode i_Mod_laysLeast.2.1 96 = .ok (.iaload, 1) := by decide +kernel
theorem d_Mod_laysLeast_97 : decode i_Mod_laysLeast.2.1 97 = .ok (.iastore, 1) := by decide +kernel
theorem d_Mod_laysLeast_98 : decode i_Mod_laysLeast.2.1 98 = .ok (.iinc 5 1, 3) := by decide +kernel
theorem d_Mod_laysLeast_101 : decode i_Mod_laysLeast.2.1 101 = .ok (.goto (-55), 3) := by decide +kernel
theorem d_Mod_laysLeast_104 : decode i_Mod_laysLeast.2.1 104 = .ok (.iinc 3 (-1), 3) := by decide +kernel
theorem d_Mod_laysLeast_107 : decode i_Mod_laysLeast.2.1 107 = .ok (.goto (-103), 3) := by decide +kernel
theorem d_Mod_laysLeast_110 : decode i_Mod_laysLeast.2.1 110 = .ok (.aload_n 0, 1) := by decide +kernel
theorem d_Mod_laysLeast_111 : decode i_Mod_laysLeast.2.1 111 = .ok (.getfield 56, 3) := by decide +kernel
theorem d_Mod_laysLeast_114 : decode i_Mod_laysLeast.2.1 114 = .ok (.iload_n 2, 1) := by decide +kernel
theorem d_Mod_laysLeast_115 : decode i_Mod_laysLeast.2.1 115 = .ok (.iaload, 1) := by decide +kernel
theorem d_Mod_laysLeast_116 : decode i_Mod_laysLeast.2.1 116 = .ok (.ireturn, 1) := by decide +kernel
theorem d_Mod_laysBest_0 : decode i_Mod_laysBest.2.1 0 = .ok (.aload_n 0, 1) := by decide +kernel
theorem d_Mod_laysBest_1 : decode i_Mod_laysBest.2.1 1 = .ok (.getfield 31, 3) := by decide +kernel
theorem d_Mod_laysBest_4 : decode i_Mod_laysBest.2.1 4 = .ok (.iload_n 1, 1) := by decide +kernel
theorem d_Mod_laysBest_5 : decode i_Mod_laysBest.2.1 5 = .ok (.iaload, 1) := by decide +kernel
theorem d_Mod_laysBest_6 : decode i_Mod_laysBest.2.1 6 = .ok (.istore_n 2, 1) := by decide +kernel
theorem d_Mod_laysBest_7 : decode i_Mod_laysBest.2.1 7 = .ok (.ldc 196, 2) := by decide +kernel
theorem d_Mod_laysBest_9 : decode i_Mod_laysBest.2.1 9 = .ok (.istore_n 3, 1) := by decide +kernel
theorem d_Mod_laysBest_10 : decode i_Mod_laysBest.2.1 10 = .ok (.iconst 0, 1) := by decide +kernel
theorem d_Mod_laysBest_11 : decode i_Mod_laysBest.2.1 11 = .ok (.istore 4, 2) := by decide +kernel
theorem d_Mod_laysBest_13 : decode i_Mod_laysBest.2.1 13 = .ok (.iconst 0, 1) := by decide +kernel
theorem d_Mod_laysBest_14 : decode i_Mod_laysBest.2.1 14 = .ok (.istore 5, 2) := by decide +kernel
theorem d_Mod_laysBest_16 : decode i_Mod_laysBest.2.1 16 = .ok (.iload 5, 2) := by decide +kernel
theorem d_Mod_laysBest_18 : decode i_Mod_laysBest.2.1 18 = .ok (.iload_n 2, 1) := by decide +kernel
theorem d_Mod_laysBest_19 : decode i_Mod_laysBest.2.1 19 = .ok (.if_icmp .ge 46, 3) := by decide +kernel
theorem d_Mod_laysBest_22 : decode i_Mod_laysBest.2.1 22 = .ok (.aload_n 0, 1) := by decide +kernel
theorem d_Mod_laysBest_23 : decode i_Mod_laysBest.2.1 23 = .ok (.iload_n 2, 1) := by decide +kernel
theorem d_Mod_laysBest_24 : decode i_Mod_laysBest.2.1 24 = .ok (.iload 5, 2) := by decide +kernel
theorem d_Mod_laysBest_26 : decode i_Mod_laysBest.2.1 26 = .ok (.invokevirtual 201, 3) := by decide +kernel
theorem d_Mod_laysBest_29 : decode i_Mod_laysBest.2.1 29 = .ok (.istore 6, 2) := by decide +kernel
theorem d_Mod_laysBest_31 : decode i_Mod_laysBest.2.1 31 = .ok (.iload 6, 2) := by decide +kernel
theorem d_Mod_laysBest_33 : decode i_Mod_laysBest.2.1 33 = .ok (.iload_n 3, 1) := by decide +kernel
theorem d_Mod_laysBest_34 : decode i_Mod_laysBest.2.1 34 = .ok (.if_icmp .ge 8, 3) := by decide +kernel
theorem d_Mod_laysBest_37 : decode i_Mod_laysBest.2.1 37 = .ok (.iload 5, 2) := by decide +kernel
theorem d_Mod_laysBest_39 : decode i_Mod_laysBest.2.1 39 = .ok (.goto 5, 3) := by decide +kernel
theorem d_Mod_laysBest_42 : decode i_Mod_laysBest.2.1 42 = .ok (.iload 4, 2) := by decide +kernel
theorem d_Mod_laysBest_44 : decode i_Mod_laysBest.2.1 44 = .ok (.istore 4, 2) := by decide +kernel
theorem d_Mod_laysBest_46 : decode i_Mod_laysBest.2.1 46 = .ok (.iload 6, 2) := by decide +kernel
theorem d_Mod_laysBest_48 : decode i_Mod_laysBest.2.1 48 = .ok (.iload_n 3, 1) := by decide +kernel
theorem d_Mod_laysBest_49 : decode i_Mod_laysBest.2.1 49 = .ok (.if_icmp .ge 8, 3) := by decide +kernel
theorem d_Mod_laysBest_52 : decode i_Mod_laysBest.2.1 52 = .ok (.iload 6, 2) := by decide +kernel
theorem d_Mod_laysBest_54 : decode i_Mod_laysBest.2.1 54 = .ok (.goto 4, 3) := by decide +kernel
theorem d_Mod_laysBest_57 : decode i_Mod_laysBest.2.1 57 = .ok (.iload_n 3, 1) := by decide +kernel
theorem d_Mod_laysBest_58 : decode i_Mod_laysBest.2.1 58 = .ok (.istore_n 3, 1) := by decide +kernel
theorem d_Mod_laysBest_59 : decode i_Mod_laysBest.2.1 59 = .ok (.iinc 5 1, 3) := by decide +kernel
theorem d_Mod_laysBest_62 : decode i_Mod_laysBest.2.1 62 = .ok (.goto (-46), 3) := by decide +kernel
theorem d_Mod_laysBest_65 : decode i_Mod_laysBest.2.1 65 = .ok (.aload_n 0, 1) := by decide +kernel
theorem d_Mod_laysBest_66 : decode i_Mod_laysBest.2.1 66 = .ok (.iload_n 2, 1) := by decide +kernel
theorem d_Mod_laysBest_67 : decode i_Mod_laysBest.2.1 67 = .ok (.iload 4, 2) := by decide +kernel
theorem d_Mod_laysBest_69 : decode i_Mod_laysBest.2.1 69 = .ok (.invokevirtual 201, 3) := by decide +kernel
theorem d_Mod_laysBest_72 : decode i_Mod_laysBest.2.1 72 = .ok (.pop, 1) := by decide +kernel
theorem d_Mod_laysBest_73 : decode i_Mod_laysBest.2.1 73 = .ok (.aload_n 0, 1) := by decide +kernel
theorem d_Mod_laysBest_74 : decode i_Mod_laysBest.2.1 74 = .ok (.iconst 0, 1) := by decide +kernel
theorem d_Mod_laysBest_75 : decode i_Mod_laysBest.2.1 75 = .ok (.putfield 205, 3) := by decide +kernel
theorem d_Mod_laysBest_78 : decode i_Mod_laysBest.2.1 78 = .ok (.aload_n 0, 1) := by decide +kernel
theorem d_Mod_laysBest_79 : decode i_Mod_laysBest.2.1 79 = .ok (.iload_n 3, 1) := by decide +kernel
theorem d_Mod_laysBest_80 : decode i_Mod_laysBest.2.1 80 = .ok (.ldc 197, 2) := by decide +kernel
theorem d_Mod_laysBest_82 : decode i_Mod_laysBest.2.1 82 = .ok (.irem, 1) := by decide +kernel
theorem d_Mod_laysBest_83 : decode i_Mod_laysBest.2.1 83 = .ok (.putfield 208, 3) := by decide +kernel
theorem d_Mod_laysBest_86 : decode i_Mod_laysBest.2.1 86 = .ok (.iload 4, 2) := by decide +kernel
theorem d_Mod_laysBest_88 : decode i_Mod_laysBest.2.1 88 = .ok (.istore 5, 2) := by decide +kernel
theorem d_Mod_laysBest_90 : decode i_Mod_laysBest.2.1 90 = .ok (.aload_n 0, 1) := by decide +kernel
theorem d_Mod_laysBest_91 : decode i_Mod_laysBest.2.1 91 = .ok (.getfield 205, 3) := by decide +kernel
theorem d_Mod_laysBest_94 : decode i_Mod_laysBest.2.1 94 = .ok (.iload_n 3, 1) := by decide +kernel
theorem d_Mod_laysBest_95 : decode i_Mod_laysBest.2.1 95 = .ok (.ldc 197, 2) := by decide +kernel
theorem d_Mod_laysBest_97 : decode i_Mod_laysBest.2.1 97 = .ok (.idiv, 1) := by decide +kernel
theorem d_Mod_laysBest_98 : decode i_Mod_laysBest.2.1 98 = .ok (.if_icmp .ge 82, 3) := by decide +kernel
theorem d_Mod_laysBest_101 : decode i_Mod_laysBest.2.1 101 = .ok (.aload_n 0, 1) := by decide +kernel
theorem d_Mod_laysBest_102 : decode i_Mod_laysBest.2.1 102 = .ok (.getfield 59, 3) := by decide +kernel
theorem d_Mod_laysBest_105 : decode i_Mod_laysBest.2.1 105 = .ok (.aload_n 0, 1) := by decide +kernel
theorem d_Mod_laysBest_106 : decode i_Mod_laysBest.2.1 106 = .ok (.getfield 205, 3) := by decide +kernel
theorem d_Mod_laysBest_109 : decode i_Mod_laysBest.2.1 109 = .ok (.iload 5, 2) := by decide +kernel
theorem d_Mod_laysBest_111 : decode i_Mod_laysBest.2.1 111 = .ok (.iastore, 1) := by decide +kernel
theorem d_Mod_laysBest_112 : decode i_Mod_laysBest.2.1 112 = .ok (.aload_n 0, 1) := by decide +kernel
theorem d_Mod_laysBest_113 : decode i_Mod_laysBest.2.1 113 = .ok (.dup, 1) := by decide +kernel
theorem d_Mod_laysBest_114 : decode i_Mod_laysBest.2.1 114 = .ok (.getfield 205, 3) := by decide +kernel
theorem d_Mod_laysBest_117 : decode i_Mod_laysBest.2.1 117 = .ok (.iconst 1, 1) := by decide +kernel
theorem d_Mod_laysBest_118 : decode i_Mod_laysBest.2.1 118 = .ok (.iadd, 1) := by decide +kernel
theorem d_Mod_laysBest_119 : decode i_Mod_laysBest.2.1 119 = .ok (.putfield 205, 3) := by decide +kernel
theorem d_Mod_laysBest_122 : decode i_Mod_laysBest.2.1 122 = .ok (.aload_n 0, 1) := by decide +kernel
theorem d_Mod_laysBest_123 : decode i_Mod_laysBest.2.1 123 = .ok (.getfield 205, 3) := by decide +kernel
theorem d_Mod_laysBest_126 : decode i_Mod_laysBest.2.1 126 = .ok (.iload_n 3, 1) := by decide +kernel
theorem d_Mod_laysBest_127 : decode i_Mod_laysBest.2.1 127 = .ok (.ldc 197, 2) := by decide +kernel
theorem d_Mod_laysBest_129 : decode i_Mod_laysBest.2.1 129 = .ok (.idiv, 1) := by decide +kernel
theorem d_Mod_laysBest_130 : decode i_Mod_laysBest.2.1 130 = .ok (.if_icmp .ge (-40), 3) := by decide +kernel
theorem d_Mod_laysBest_133 : decode i_Mod_laysBest.2.1 133 = .ok (.iload 5, 2) := by decide +kernel
theorem d_Mod_laysBest_135 : decode i_Mod_laysBest.2.1 135 = .ok (.iconst 1, 1) := by decide +kernel
theorem d_Mod_laysBest_136 : decode i_Mod_laysBest.2.1 136 = .ok (.iadd, 1) := by decide +kernel
theorem d_Mod_laysBest_137 : decode i_Mod_laysBest.2.1 137 = .ok (.istore 6, 2) := by decide +kernel
theorem d_Mod_laysBest_139 : decode i_Mod_laysBest.2.1 139 = .ok (.aload_n 0, 1) := by decide +kernel
theorem d_Mod_laysBest_140 : decode i_Mod_laysBest.2.1 140 = .ok (.iload 5, 2) := by decide +kernel
theorem d_Mod_laysBest_142 : decode i_Mod_laysBest.2.1 142 = .ok (.iload 6, 2) := by decide +kernel
theorem d_Mod_laysBest_144 : decode i_Mod_laysBest.2.1 144 = .ok (.iload 5, 2) := by decide +kernel
theorem d_Mod_laysBest_146 : decode i_Mod_laysBest.2.1 146 = .ok (.isub, 1) := by decide +kernel
theorem d_Mod_laysBest_147 : decode i_Mod_laysBest.2.1 147 = .ok (.aload_n 0, 1) := by decide +kernel
theorem d_Mod_laysBest_148 : decode i_Mod_laysBest.2.1 148 = .ok (.getfield 56, 3) := by decide +kernel
theorem d_Mod_laysBest_151 : decode i_Mod_laysBest.2.1 151 = .ok (.iload 6, 2) := by decide +kernel
theorem d_Mod_laysBest_153 : decode i_Mod_laysBest.2.1 153 = .ok (.iaload, 1) := by decide +kernel
theorem d_Mod_laysBest_154 : decode i_Mod_laysBest.2.1 154 = .ok (.invokevirtual 198, 3) := by decide +kernel
theorem d_Mod_laysBest_157 : decode i_Mod_laysBest.2.1 157 = .ok (.aload_n 0, 1) := by decide +kernel
theorem d_Mod_laysBest_158 : decode i_Mod_laysBest.2.1 158 = .ok (.getfield 56, 3) := by decide +kernel
theorem d_Mod_laysBest_161 : decode i_Mod_laysBest.2.1 161 = .ok (.iload 5, 2) := by decide +kernel
theorem d_Mod_laysBest_163 : decode i_Mod_laysBest.2.1 163 = .ok (.iaload, 1) := by decide +kernel
theorem d_Mod_laysBest_164 : decode i_Mod_laysBest.2.1 164 = .ok (.if_icmp .eq 9, 3) := by decide +kernel
theorem d_Mod_laysBest_167 : decode i_Mod_laysBest.2.1 167 = .ok (.iinc 6 1, 3) := by decide +kernel
theorem d_Mod_laysBest_170 : decode i_Mod_laysBest.2.1 170 = .ok (.goto (-31), 3) := by decide +kernel
theorem d_Mod_laysBest_173 : decode i_Mod_laysBest.2.1 173 = .ok (.iload 6, 2) := by decide +kernel
theorem d_Mod_laysBest_175 : decode i_Mod_laysBest.2.1 175 = .ok (.istore 5, 2) := by decide +kernel
theorem d_Mod_laysBest_177 : decode i_Mod_laysBest.2.1 177 = .ok (.goto (-87), 3) := by decide +kernel
theorem d_Mod_laysBest_180 : decode i_Mod_laysBest.2.1 180 = .ok (.return_, 1) := by decide +kernel
theorem d_Mod_fewest_0 : decode i_Mod_fewest.2.1 0 = .ok (.aload_n 0, 1) := by decide +kernel
theorem d_Mod_fewest_1 : decode i_Mod_fewest.2.1 1 = .ok (.getfield 31, 3) := by decide +kernel
theorem d_Mod_fewest_4 : decode i_Mod_fewest.2.1 4 = .ok (.iload_n 1, 1) := by decide +kernel
theorem d_Mod_fewest_5 : decode i_Mod_fewest.2.1 5 = .ok (.iaload, 1) := by decide +kernel
theorem d_Mod_fewest_6 : decode i_Mod_fewest.2.1 6 = .ok (.istore_n 3, 1) := by decide +kernel
theorem d_Mod_fewest_7 : decode i_Mod_fewest.2.1 7 = .ok (.iload_n 3, 1) := by decide +kernel
theorem d_Mod_fewest_8 : decode i_Mod_fewest.2.1 8 = .ok (.iconst 1, 1) := by decide +kernel
theorem d_Mod_fewest_9 : decode i_Mod_fewest.2.1 9 = .ok (.isub, 1) := by decide +kernel
theorem d_Mod_fewest_10 : decode i_Mod_fewest.2.1 10 = .ok (.istore 4, 2) := by decide +kernel
theorem d_Mod_fewest_12 : decode i_Mod_fewest.2.1 12 = .ok (.iload 4, 2) := by decide +kernel
theorem d_Mod_fewest_14 : decode i_Mod_fewest.2.1 14 = .ok (.ifCond .lt 143, 3) := by decide +kernel
theorem d_Mod_fewest_17 : decode i_Mod_fewest.2.1 17 = .ok (.iload_n 2, 1) := by decide +kernel
theorem d_Mod_fewest_18 : decode i_Mod_fewest.2.1 18 = .ok (.iload 4, 2) := by decide +kernel
theorem d_Mod_fewest_20 : decode i_Mod_fewest.2.1 20 = .ok (.iadd, 1) := by decide +kernel
theorem d_Mod_fewest_21 : decode i_Mod_fewest.2.1 21 = .ok (.iload_n 3, 1) := by decide +kernel
theorem d_Mod_fewest_22 : decode i_Mod_fewest.2.1 22 = .ok (.irem, 1) := by decide +kernel
theorem d_Mod_fewest_23 : decode i_Mod_fewest.2.1 23 = .ok (.istore 5, 2) := by decide +kernel
theorem d_Mod_fewest_25 : decode i_Mod_fewest.2.1 25 = .ok (.aload_n 0, 1) := by decide +kernel
theorem d_Mod_fewest_26 : decode i_Mod_fewest.2.1 26 = .ok (.getfield 62, 3) := by decide +kernel
theorem d_Mod_fewest_29 : decode i_Mod_fewest.2.1 29 = .ok (.iload 4, 2) := by decide +kernel
theorem d_Mod_fewest_31 : decode i_Mod_fewest.2.1 31 = .ok (.iload 4, 2) := by decide +kernel
theorem d_Mod_fewest_33 : decode i_Mod_fewest.2.1 33 = .ok (.ifCond .le 28, 3) := by decide +kernel
theorem d_Mod_fewest_36 : decode i_Mod_fewest.2.1 36 = .ok (.aload_n 0, 1) := by decide +kernel
theorem d_Mod_fewest_37 : decode i_Mod_fewest.2.1 37 = .ok (.getfield 53, 3) := by decide +kernel
theorem d_Mod_fewest_40 : decode i_Mod_fewest.2.1 40 = .ok (.sipush 144, 3) := by decide +kernel
theorem d_Mod_fewest_43 : decode i_Mod_fewest.2.1 43 = .ok (.iload 5, 2) := by decide +kernel
theorem d_Mod_fewest_45 : decode i_Mod_fewest.2.1 45 = .ok (.imul, 1) := by decide +kernel
theorem d_Mod_fewest_46 : decode i_Mod_fewest.2.1 46 = .ok (.iload_n 3, 1) := by decide +kernel
theorem d_Mod_fewest_47 : decode i_Mod_fewest.2.1 47 = .ok (.iadd, 1) := by decide +kernel
theorem d_Mod_fewest_48 : decode i_Mod_fewest.2.1 48 = .ok (.iload 4, 2) := by decide +kernel
theorem d_Mod_fewest_50 : decode i_Mod_fewest.2.1 50 = .ok (.isub, 1) := by decide +kernel
theorem d_Mod_fewest_51 : decode i_Mod_fewest.2.1 51 = .ok (.iaload, 1) := by decide +kernel
theorem d_Mod_fewest_52 : decode i_Mod_fewest.2.1 52 = .ok (.ldc 185, 2) := by decide +kernel
theorem d_Mod_fewest_54 : decode i_Mod_fewest.2.1 54 = .ok (.if_icmp .eq 7, 3) := by decide +kernel
theorem d_Mod_fewest_57 : decode i_Mod_fewest.2.1 57 = .ok (.iconst 1, 1) := by decide +kernel
theorem d_Mod_fewest_58 : decode i_Mod_fewest.2.1 58 = .ok (.goto 5, 3) := by decide +kernel
theorem d_Mod_fewest_61 : decode i_Mod_fewest.2.1 61 = .ok (.ldc 196, 2) := by decide +kernel
theorem d_Mod_fewest_63 : decode i_Mod_fewest.2.1 63 = .ok (.iastore, 1) := by decide +kernel
theorem d_Mod_fewest_64 : decode i_Mod_fewest.2.1 64 = .ok (.iload 4, 2) := by decide +kernel
theorem d_Mod_fewest_66 : decode i_Mod_fewest.2.1 66 = .ok (.iconst 1, 1) := by decide +kernel
theorem d_Mod_fewest_67 : decode i_Mod_fewest.2.1 67 = .ok (.iadd, 1) := by decide +kernel
theorem d_Mod_fewest_68 : decode i_Mod_fewest.2.1 68 = .ok (.istore 6, 2) := by decide +kernel
theorem d_Mod_fewest_70 : decode i_Mod_fewest.2.1 70 = .ok (.iload 6, 2) := by decide +kernel
theorem d_Mod_fewest_72 : decode i_Mod_fewest.2.1 72 = .ok (.iload_n 3, 1) := by decide +kernel
theorem d_Mod_fewest_73 : decode i_Mod_fewest.2.1 73 = .ok (.if_icmp .ge 78, 3) := by decide +kernel
theorem d_Mod_fewest_76 : decode i_Mod_fewest.2.1 76 = .ok (.aload_n 0, 1) := by decide +kernel
theorem d_Mod_fewest_77 : decode i_Mod_fewest.2.1 77 = .ok (.getfield 53, 3) := by decide +kernel
theorem d_Mod_fewest_80 : decode i_Mod_fewest.2.1 80 = .ok (.sipush 144, 3) := by decide +kernel
theorem d_Mod_fewest_83 : decode i_Mod_fewest.2.1 83 = .ok (.iload 5, 2) := by decide +kernel
theorem d_Mod_fewest_85 : decode i_Mod_fewest.2.1 85 = .ok (.imul, 1) := by decide +kernel
theorem d_Mod_fewest_86 : decode i_Mod_fewest.2.1 86 = .ok (.iload 6, 2) := by decide +kernel
theorem d_Mod_fewest_88 : decode i_Mod_fewest.2.1 88 = .ok (.iadd, 1) := by decide +kernel
theorem d_Mod_fewest_89 : decode i_Mod_fewest.2.1 89 = .ok (.iload 4, 2) := by decide +kernel
theorem d_Mod_fewest_91 : decode i_Mod_fewest.2.1 91 = .ok (.isub, 1) := by decide +kernel
theorem d_Mod_fewest_92 : decode i_Mod_fewest.2.1 92 = .ok (.iaload, 1) := by decide +kernel
theorem d_Mod_fewest_93 : decode i_Mod_fewest.2.1 93 = .ok (.ldc 185, 2) := by decide +kernel
theorem d_Mod_fewest_95 : decode i_Mod_fewest.2.1 95 = .ok (.if_icmp .ne 8, 3) := by decide +kernel
theorem d_Mod_fewest_98 : decode i_Mod_fewest.2.1 98 = .ok (.ldc 196, 2) := by decide +kernel
theorem d_Mod_fewest_100 : decode i_Mod_fewest.2.1 100 = .ok (.goto 12, 3) := by decide +kernel
theorem d_Mod_fewest_103 : decode i_Mod_fewest.2.1 103 = .ok (.aload_n 0, 1) := by decide +kernel
theorem d_Mod_fewest_104 : decode i_Mod_fewest.2.1 104 = .ok (.getfield 62, 3) := by decide +kernel
theorem d_Mod_fewest_107 : decode i_Mod_fewest.2.1 107 = .ok (.iload 6, 2) := by decide +kernel
theorem d_Mod_fewest_109 : decode i_Mod_fewest.2.1 109 = .ok (.iaload, 1) := by decide +kernel
theorem d_Mod_fewest_110 : decode i_Mod_fewest.2.1 110 = .ok (.iconst 1, 1) := by decide +kernel
theorem d_Mod_fewest_111 : decode i_Mod_fewest.2.1 111 = .ok (.iadd, 1) := by decide +kernel
theorem d_Mod_fewest_112 : decode i_Mod_fewest.2.1 112 = .ok (.istore 7, 2) := by decide +kernel
theorem d_Mod_fewest_114 : decode i_Mod_fewest.2.1 114 = .ok (.aload_n 0, 1) := by decide +kernel
theorem d_Mod_fewest_115 : decode i_Mod_fewest.2.1 115 = .ok (.getfield 62, 3) := by decide +kernel
theorem d_Mod_fewest_118 : decode i_Mod_fewest.2.1 118 = .ok (.iload 4, 2) := by decide +kernel
theorem d_Mod_fewest_120 : decode i_Mod_fewest.2.1 120 = .ok (.iload 7, 2) := by decide +kernel
theorem d_Mod_fewest_122 : decode i_Mod_fewest.2.1 122 = .ok (.aload_n 0, 1) := by decide +kernel
theorem d_Mod_fewest_123 : decode i_Mod_fewest.2.1 123 = .ok (.getfield 62, 3) := by decide +kernel
theorem d_Mod_fewest_126 : decode i_Mod_fewest.2.1 126 = .ok (.iload 4, 2) := by decide +kernel
theorem d_Mod_fewest_128 : decode i_Mod_fewest.2.1 128 = .ok (.iaload, 1) := by decide +kernel
theorem d_Mod_fewest_129 : decode i_Mod_fewest.2.1 129 = .ok (.if_icmp .ge 8, 3) := by decide +kernel
theorem d_Mod_fewest_132 : decode i_Mod_fewest.2.1 132 = .ok (.iload 7, 2) := by decide +kernel
theorem d_Mod_fewest_134 : decode i_Mod_fewest.2.1 134 = .ok (.goto 10, 3) := by decide +kernel
theorem d_Mod_fewest_137 : decode i_Mod_fewest.2.1 137 = .ok (.aload_n 0, 1) := by decide +kernel
theorem d_Mod_fewest_138 : decode i_Mod_fewest.2.1 138 = .ok (.getfield 62, 3) := by decide +kernel
theorem d_Mod_fewest_141 : decode i_Mod_fewest.2.1 141 = .ok (.iload 4, 2) := by decide +kernel
theorem d_Mod_fewest_143 : decode i_Mod_fewest.2.1 143 = .ok (.iaload, 1) := by decide +kernel
theorem d_Mod_fewest_144 : decode i_Mod_fewest.2.1 144 = .ok (.iastore, 1) := by decide +kernel
theorem d_Mod_fewest_145 : decode i_Mod_fewest.2.1 145 = .ok (.iinc 6 1, 3) := by decide +kernel
theorem d_Mod_fewest_148 : decode i_Mod_fewest.2.1 148 = .ok (.goto (-78), 3) := by decide +kernel
theorem d_Mod_fewest_151 : decode i_Mod_fewest.2.1 151 = .ok (.iinc 4 (-1), 3) := by decide +kernel
theorem d_Mod_fewest_154 : decode i_Mod_fewest.2.1 154 = .ok (.goto (-142), 3) := by decide +kernel
theorem d_Mod_fewest_157 : decode i_Mod_fewest.2.1 157 = .ok (.aload_n 0, 1) := by decide +kernel
theorem d_Mod_fewest_158 : decode i_Mod_fewest.2.1 158 = .ok (.getfield 62, 3) := by decide +kernel
theorem d_Mod_fewest_161 : decode i_Mod_fewest.2.1 161 = .ok (.iconst 0, 1) := by decide +kernel
theorem d_Mod_fewest_162 : decode i_Mod_fewest.2.1 162 = .ok (.iaload, 1) := by decide +kernel
theorem d_Mod_fewest_163 : decode i_Mod_fewest.2.1 163 = .ok (.ireturn, 1) := by decide +kernel
theorem d_Mod_vx_0 : decode i_Mod_vx.2.1 0 = .ok (.aload_n 0, 1) := by decide +kernel
theorem d_Mod_vx_1 : decode i_Mod_vx.2.1 1 = .ok (.getfield 44, 3) := by decide +kernel
theorem d_Mod_vx_4 : decode i_Mod_vx.2.1 4 = .ok (.aload_n 0, 1) := by decide +kernel
theorem d_Mod_vx_5 : decode i_Mod_vx.2.1 5 = .ok (.getfield 28, 3) := by decide +kernel
theorem d_Mod_vx_8 : decode i_Mod_vx.2.1 8 = .ok (.iload_n 1, 1) := by decide +kernel
theorem d_Mod_vx_9 : decode i_Mod_vx.2.1 9 = .ok (.iaload, 1) := by decide +kernel
theorem d_Mod_vx_10 : decode i_Mod_vx.2.1 10 = .ok (.aload_n 0, 1) := by decide +kernel
theorem d_Mod_vx_11 : decode i_Mod_vx.2.1 11 = .ok (.getfield 59, 3) := by decide +kernel
theorem d_Mod_vx_14 : decode i_Mod_vx.2.1 14 = .ok (.iload_n 2, 1) := by decide +kernel
theorem d_Mod_vx_15 : decode i_Mod_vx.2.1 15 = .ok (.aload_n 0, 1) := by decide +kernel
theorem d_Mod_vx_16 : decode i_Mod_vx.2.1 16 = .ok (.getfield 205, 3) := by decide +kernel
theorem d_Mod_vx_19 : decode i_Mod_vx.2.1 19 = .ok (.iadd, 1) := by decide +kernel
theorem d_Mod_vx_20 : decode i_Mod_vx.2.1 20 = .ok (.aload_n 0, 1) := by decide +kernel
theorem d_Mod_vx_21 : decode i_Mod_vx.2.1 21 = .ok (.getfield 205, 3) := by decide +kernel
theorem d_Mod_vx_24 : decode i_Mod_vx.2.1 24 = .ok (.irem, 1) := by decide +kernel
theorem d_Mod_vx_25 : decode i_Mod_vx.2.1 25 = .ok (.iaload, 1) := by decide +kernel
theorem d_Mod_vx_26 : decode i_Mod_vx.2.1 26 = .ok (.iadd, 1) := by decide +kernel
theorem d_Mod_vx_27 : decode i_Mod_vx.2.1 27 = .ok (.iaload, 1) := by decide +kernel
theorem d_Mod_vx_28 : decode i_Mod_vx.2.1 28 = .ok (.ireturn, 1) := by decide +kernel
theorem d_Mod_vy_0 : decode i_Mod_vy.2.1 0 = .ok (.aload_n 0, 1) := by decide +kernel
theorem d_Mod_vy_1 : decode i_Mod_vy.2.1 1 = .ok (.getfield 47, 3) := by decide +kernel
theorem d_Mod_vy_4 : decode i_Mod_vy.2.1 4 = .ok (.aload_n 0, 1) := by decide +kernel
theorem d_Mod_vy_5 : decode i_Mod_vy.2.1 5 = .ok (.getfield 28, 3) := by decide +kernel
theorem d_Mod_vy_8 : decode i_Mod_vy.2.1 8 = .ok (.iload_n 1, 1) := by decide +kernel
theorem d_Mod_vy_9 : decode i_Mod_vy.2.1 9 = .ok (.iaload, 1) := by decide +kernel
theorem d_Mod_vy_10 : decode i_Mod_vy.2.1 10 = .ok (.aload_n 0, 1) := by decide +kernel
theorem d_Mod_vy_11 : decode i_Mod_vy.2.1 11 = .ok (.getfield 59, 3) := by decide +kernel
theorem d_Mod_vy_14 : decode i_Mod_vy.2.1 14 = .ok (.iload_n 2, 1) := by decide +kernel
theorem d_Mod_vy_15 : decode i_Mod_vy.2.1 15 = .ok (.aload_n 0, 1) := by decide +kernel
theorem d_Mod_vy_16 : decode i_Mod_vy.2.1 16 = .ok (.getfield 205, 3) := by decide +kernel
theorem d_Mod_vy_19 : decode i_Mod_vy.2.1 19 = .ok (.iadd, 1) := by decide +kernel
theorem d_Mod_vy_20 : decode i_Mod_vy.2.1 20 = .ok (.aload_n 0, 1) := by decide +kernel
theorem d_Mod_vy_21 : decode i_Mod_vy.2.1 21 = .ok (.getfield 205, 3) := by decide +kernel
theorem d_Mod_vy_24 : decode i_Mod_vy.2.1 24 = .ok (.irem, 1) := by decide +kernel
theorem d_Mod_vy_25 : decode i_Mod_vy.2.1 25 = .ok (.iaload, 1) := by decide +kernel
theorem d_Mod_vy_26 : decode i_Mod_vy.2.1 26 = .ok (.iadd, 1) := by decide +kernel
theorem d_Mod_vy_27 : decode i_Mod_vy.2.1 27 = .ok (.iaload, 1) := by decide +kernel
theorem d_Mod_vy_28 : decode i_Mod_vy.2.1 28 = .ok (.ireturn, 1) := by decide +kernel
theorem d_Mod_greater_0 : decode i_Mod_greater.2.1 0 = .ok (.iload_n 0, 1) := by decide +kernel
theorem d_Mod_greater_1 : decode i_Mod_greater.2.1 1 = .ok (.invokestatic 183, 3) := by decide +kernel
theorem d_Mod_greater_4 : decode i_Mod_greater.2.1 4 = .ok (.iload_n 1, 1) := by decide +kernel
theorem d_Mod_greater_5 : decode i_Mod_greater.2.1 5 = .ok (.invokestatic 183, 3) := by decide +kernel
theorem d_Mod_greater_8 : decode i_Mod_greater.2.1 8 = .ok (.if_icmp .le 10, 3) := by decide +kernel
theorem d_Mod_greater_11 : decode i_Mod_greater.2.1 11 = .ok (.iload_n 0, 1) := by decide +kernel
theorem d_Mod_greater_12 : decode i_Mod_greater.2.1 12 = .ok (.invokestatic 183, 3) := by decide +kernel
theorem d_Mod_greater_15 : decode i_Mod_greater.2.1 15 = .ok (.goto 7, 3) := by decide +kernel
theorem d_Mod_greater_18 : decode i_Mod_greater.2.1 18 = .ok (.iload_n 1, 1) := by decide +kernel
theorem d_Mod_greater_19 : decode i_Mod_greater.2.1 19 = .ok (.invokestatic 183, 3) := by decide +kernel
theorem d_Mod_greater_22 : decode i_Mod_greater.2.1 22 = .ok (.ireturn, 1) := by decide +kernel
theorem d_Mod_turnOf_0 : decode i_Mod_turnOf.2.1 0 = .ok (.aload_n 0, 1) := by decide +kernel
theorem d_Mod_turnOf_1 : decode i_Mod_turnOf.2.1 1 = .ok (.iload_n 1, 1) := by decide +kernel
theorem d_Mod_turnOf_2 : decode i_Mod_turnOf.2.1 2 = .ok (.iload_n 2, 1) := by decide +kernel
theorem d_Mod_turnOf_3 : decode i_Mod_turnOf.2.1 3 = .ok (.invokevirtual 211, 3) := by decide +kernel
theorem d_Mod_turnOf_6 : decode i_Mod_turnOf.2.1 6 = .ok (.aload_n 0, 1) := by decide +kernel
theorem d_Mod_turnOf_7 : decode i_Mod_turnOf.2.1 7 = .ok (.iload_n 1, 1) := by decide +kernel
theorem d_Mod_turnOf_8 : decode i_Mod_turnOf.2.1 8 = .ok (.iload_n 2, 1) := by decide +kernel
theorem d_Mod_turnOf_9 : decode i_Mod_turnOf.2.1 9 = .ok (.iconst 1, 1) := by decide +kernel
theorem d_Mod_turnOf_10 : decode i_Mod_turnOf.2.1 10 = .ok (.isub, 1) := by decide +kernel
theorem d_Mod_turnOf_11 : decode i_Mod_turnOf.2.1 11 = .ok (.invokevirtual 211, 3) := by decide +kernel
theorem d_Mod_turnOf_14 : decode i_Mod_turnOf.2.1 14 = .ok (.isub, 1) := by decide +kernel
theorem d_Mod_turnOf_15 : decode i_Mod_turnOf.2.1 15 = .ok (.istore_n 3, 1) := by decide +kernel
theorem d_Mod_turnOf_16 : decode i_Mod_turnOf.2.1 16 = .ok (.aload_n 0, 1) := by decide +kernel
theorem d_Mod_turnOf_17 : decode i_Mod_turnOf.2.1 17 = .ok (.iload_n 1, 1) := by decide +kernel
theorem d_Mod_turnOf_18 : decode i_Mod_turnOf.2.1 18 = .ok (.iload_n 2, 1) := by decide +kernel
theorem d_Mod_turnOf_19 : decode i_Mod_turnOf.2.1 19 = .ok (.invokevirtual 214, 3) := by decide +kernel
theorem d_Mod_turnOf_22 : decode i_Mod_turnOf.2.1 22 = .ok (.aload_n 0, 1) := by decide +kernel
theorem d_Mod_turnOf_23 : decode i_Mod_turnOf.2.1 23 = .ok (.iload_n 1, 1) := by decide +kernel
theorem d_Mod_turnOf_24 : decode i_Mod_turnOf.2.1 24 = .ok (.iload_n 2, 1) := by decide +kernel
theorem d_Mod_turnOf_25 : decode i_Mod_turnOf.2.1 25 = .ok (.iconst 1, 1) := by decide +kernel
theorem d_Mod_turnOf_26 : decode i_Mod_turnOf.2.1 26 = .ok (.isub, 1) := by decide +kernel
theorem d_Mod_turnOf_27 : decode i_Mod_turnOf.2.1 27 = .ok (.invokevirtual 214, 3) := by decide +kernel
theorem d_Mod_turnOf_30 : decode i_Mod_turnOf.2.1 30 = .ok (.isub, 1) := by decide +kernel
theorem d_Mod_turnOf_31 : decode i_Mod_turnOf.2.1 31 = .ok (.istore 4, 2) := by decide +kernel
theorem d_Mod_turnOf_33 : decode i_Mod_turnOf.2.1 33 = .ok (.aload_n 0, 1) := by decide +kernel
theorem d_Mod_turnOf_34 : decode i_Mod_turnOf.2.1 34 = .ok (.iload_n 1, 1) := by decide +kernel
theorem d_Mod_turnOf_35 : decode i_Mod_turnOf.2.1 35 = .ok (.iload_n 2, 1) := by decide +kernel
theorem d_Mod_turnOf_36 : decode i_Mod_turnOf.2.1 36 = .ok (.iconst 1, 1) := by decide +kernel
theorem d_Mod_turnOf_37 : decode i_Mod_turnOf.2.1 37 = .ok (.iadd, 1) := by decide +kernel
theorem d_Mod_turnOf_38 : decode i_Mod_turnOf.2.1 38 = .ok (.invokevirtual 211, 3) := by decide +kernel
theorem d_Mod_turnOf_41 : decode i_Mod_turnOf.2.1 41 = .ok (.aload_n 0, 1) := by decide +kernel
theorem d_Mod_turnOf_42 : decode i_Mod_turnOf.2.1 42 = .ok (.iload_n 1, 1) := by decide +kernel
theorem d_Mod_turnOf_43 : decode i_Mod_turnOf.2.1 43 = .ok (.iload_n 2, 1) := by decide +kernel
theorem d_Mod_turnOf_44 : decode i_Mod_turnOf.2.1 44 = .ok (.invokevirtual 211, 3) := by decide +kernel
theorem d_Mod_turnOf_47 : decode i_Mod_turnOf.2.1 47 = .ok (.isub, 1) := by decide +kernel
theorem d_Mod_turnOf_48 : decode i_Mod_turnOf.2.1 48 = .ok (.istore 5, 2) := by decide +kernel
theorem d_Mod_turnOf_50 : decode i_Mod_turnOf.2.1 50 = .ok (.aload_n 0, 1) := by decide +kernel
theorem d_Mod_turnOf_51 : decode i_Mod_turnOf.2.1 51 = .ok (.iload_n 1, 1) := by decide +kernel
theorem d_Mod_turnOf_52 : decode i_Mod_turnOf.2.1 52 = .ok (.iload_n 2, 1) := by decide +kernel
theorem d_Mod_turnOf_53 : decode i_Mod_turnOf.2.1 53 = .ok (.iconst 1, 1) := by decide +kernel
theorem d_Mod_turnOf_54 : decode i_Mod_turnOf.2.1 54 = .ok (.iadd, 1) := by decide +kernel
theorem d_Mod_turnOf_55 : decode i_Mod_turnOf.2.1 55 = .ok (.invokevirtual 214, 3) := by decide +kernel
theorem d_Mod_turnOf_58 : decode i_Mod_turnOf.2.1 58 = .ok (.aload_n 0, 1) := by decide +kernel
theorem d_Mod_turnOf_59 : decode i_Mod_turnOf.2.1 59 = .ok (.iload_n 1, 1) := by decide +kernel
theorem d_Mod_turnOf_60 : decode i_Mod_turnOf.2.1 60 = .ok (.iload_n 2, 1) := by decide +kernel
theorem d_Mod_turnOf_61 : decode i_Mod_turnOf.2.1 61 = .ok (.invokevirtual 214, 3) := by decide +kernel
theorem d_Mod_turnOf_64 : decode i_Mod_turnOf.2.1 64 = .ok (.isub, 1) := by decide +kernel
theorem d_Mod_turnOf_65 : decode i_Mod_turnOf.2.1 65 = .ok (.istore 6, 2) := by decide +kernel
theorem d_Mod_turnOf_67 : decode i_Mod_turnOf.2.1 67 = .ok (.bipush 8, 2) := by decide +kernel
theorem d_Mod_turnOf_69 : decode i_Mod_turnOf.2.1 69 = .ok (.iload_n 3, 1) := by decide +kernel
theorem d_Mod_turnOf_70 : decode i_Mod_turnOf.2.1 70 = .ok (.iload 6, 2) := by decide +kernel
theorem d_Mod_turnOf_72 : decode i_Mod_turnOf.2.1 72 = .ok (.imul, 1) := by decide +kernel
theorem d_Mod_turnOf_73 : decode i_Mod_turnOf.2.1 73 = .ok (.iload 4, 2) := by decide +kernel
theorem d_Mod_turnOf_75 : decode i_Mod_turnOf.2.1 75 = .ok (.iload 5, 2) := by decide +kernel
theorem d_Mod_turnOf_77 : decode i_Mod_turnOf.2.1 77 = .ok (.imul, 1) := by decide +kernel
theorem d_Mod_turnOf_78 : decode i_Mod_turnOf.2.1 78 = .ok (.isub, 1) := by decide +kernel
theorem d_Mod_turnOf_79 : decode i_Mod_turnOf.2.1 79 = .ok (.invokestatic 183, 3) := by decide +kernel
theorem d_Mod_turnOf_82 : decode i_Mod_turnOf.2.1 82 = .ok (.imul, 1) := by decide +kernel
theorem d_Mod_turnOf_83 : decode i_Mod_turnOf.2.1 83 = .ok (.iload_n 3, 1) := by decide +kernel
theorem d_Mod_turnOf_84 : decode i_Mod_turnOf.2.1 84 = .ok (.iload 4, 2) := by decide +kernel
theorem d_Mod_turnOf_86 : decode i_Mod_turnOf.2.1 86 = .ok (.invokestatic 217, 3) := by decide +kernel
theorem d_Mod_turnOf_89 : decode i_Mod_turnOf.2.1 89 = .ok (.iload 5, 2) := by decide +kernel
theorem d_Mod_turnOf_91 : decode i_Mod_turnOf.2.1 91 = .ok (.iload 6, 2) := by decide +kernel
theorem d_Mod_turnOf_93 : decode i_Mod_turnOf.2.1 93 = .ok (.invokestatic 217, 3) := by decide +kernel
theorem d_Mod_turnOf_96 : decode i_Mod_turnOf.2.1 96 = .ok (.iadd, 1) := by decide +kernel
theorem d_Mod_turnOf_97 : decode i_Mod_turnOf.2.1 97 = .ok (.idiv, 1) := by decide +kernel
theorem d_Mod_turnOf_98 : decode i_Mod_turnOf.2.1 98 = .ok (.ireturn, 1) := by decide +kernel
theorem d_Mod_isSharp_0 : decode i_Mod_isSharp.2.1 0 = .ok (.aload_n 0, 1) := by decide +kernel
theorem d_Mod_isSharp_1 : decode i_Mod_isSharp.2.1 1 = .ok (.iload_n 1, 1) := by decide +kernel
theorem d_Mod_isSharp_2 : decode i_Mod_isSharp.2.1 2 = .ok (.iload_n 2, 1) := by decide +kernel
theorem d_Mod_isSharp_3 : decode i_Mod_isSharp.2.1 3 = .ok (.invokevirtual 211, 3) := by decide +kernel
theorem d_Mod_isSharp_6 : decode i_Mod_isSharp.2.1 6 = .ok (.aload_n 0, 1) := by decide +kernel
theorem d_Mod_isSharp_7 : decode i_Mod_isSharp.2.1 7 = .ok (.iload_n 1, 1) := by decide +kernel
theorem d_Mod_isSharp_8 : decode i_Mod_isSharp.2.1 8 = .ok (.iload_n 2, 1) := by decide +kernel
theorem d_Mod_isSharp_9 : decode i_Mod_isSharp.2.1 9 = .ok (.iconst 1, 1) := by decide +kernel
theorem d_Mod_isSharp_10 : decode i_Mod_isSharp.2.1 10 = .ok (.isub, 1) := by decide +kernel
theorem d_Mod_isSharp_11 : decode i_Mod_isSharp.2.1 11 = .ok (.invokevirtual 211, 3) := by decide +kernel
theorem d_Mod_isSharp_14 : decode i_Mod_isSharp.2.1 14 = .ok (.isub, 1) := by decide +kernel
theorem d_Mod_isSharp_15 : decode i_Mod_isSharp.2.1 15 = .ok (.aload_n 0, 1) := by decide +kernel
theorem d_Mod_isSharp_16 : decode i_Mod_isSharp.2.1 16 = .ok (.iload_n 1, 1) := by decide +kernel
theorem d_Mod_isSharp_17 : decode i_Mod_isSharp.2.1 17 = .ok (.iload_n 2, 1) := by decide +kernel
theorem d_Mod_isSharp_18 : decode i_Mod_isSharp.2.1 18 = .ok (.iconst 1, 1) := by decide +kernel
theorem d_Mod_isSharp_19 : decode i_Mod_isSharp.2.1 19 = .ok (.iadd, 1) := by decide +kernel
theorem d_Mod_isSharp_20 : decode i_Mod_isSharp.2.1 20 = .ok (.invokevirtual 211, 3) := by decide +kernel
theorem d_Mod_isSharp_23 : decode i_Mod_isSharp.2.1 23 = .ok (.aload_n 0, 1) := by decide +kernel
theorem d_Mod_isSharp_24 : decode i_Mod_isSharp.2.1 24 = .ok (.iload_n 1, 1) := by decide +kernel
theorem d_Mod_isSharp_25 : decode i_Mod_isSharp.2.1 25 = .ok (.iload_n 2, 1) := by decide +kernel
theorem d_Mod_isSharp_26 : decode i_Mod_isSharp.2.1 26 = .ok (.invokevirtual 211, 3) := by decide +kernel
theorem d_Mod_isSharp_29 : decode i_Mod_isSharp.2.1 29 = .ok (.isub, 1) := by decide +kernel
theorem d_Mod_isSharp_30 : decode i_Mod_isSharp.2.1 30 = .ok (.imul, 1) := by decide +kernel
theorem d_Mod_isSharp_31 : decode i_Mod_isSharp.2.1 31 = .ok (.istore_n 3, 1) := by decide +kernel
theorem d_Mod_isSharp_32 : decode i_Mod_isSharp.2.1 32 = .ok (.iload_n 3, 1) := by decide +kernel
theorem d_Mod_isSharp_33 : decode i_Mod_isSharp.2.1 33 = .ok (.aload_n 0, 1) := by decide +kernel
theorem d_Mod_isSharp_34 : decode i_Mod_isSharp.2.1 34 = .ok (.iload_n 1, 1) := by decide +kernel
theorem d_Mod_isSharp_35 : decode i_Mod_isSharp.2.1 35 = .ok (.iload_n 2, 1) := by decide +kernel
theorem d_Mod_isSharp_36 : decode i_Mod_isSharp.2.1 36 = .ok (.invokevirtual 214, 3) := by decide +kernel
theorem d_Mod_isSharp_39 : decode i_Mod_isSharp.2.1 39 = .ok (.aload_n 0, 1) := by decide +kernel
theorem d_Mod_isSharp_40 : decode i_Mod_isSharp.2.1 40 = .ok (.iload_n 1, 1) := by decide +kernel
theorem d_Mod_isSharp_41 : decode i_Mod_isSharp.2.1 41 = .ok (.iload_n 2, 1) := by decide +kernel
theorem d_Mod_isSharp_42 : decode i_Mod_isSharp.2.1 42 = .ok (.iconst 1, 1) := by decide +kernel
theorem d_Mod_isSharp_43 : decode i_Mod_isSharp.2.1 43 = .ok (.isub, 1) := by decide +kernel
theorem d_Mod_isSharp_44 : decode i_Mod_isSharp.2.1 44 = .ok (.invokevirtual 214, 3) := by decide +kernel
theorem d_Mod_isSharp_47 : decode i_Mod_isSharp.2.1 47 = .ok (.isub, 1) := by decide +kernel
theorem d_Mod_isSharp_48 : decode i_Mod_isSharp.2.1 48 = .ok (.aload_n 0, 1) := by decide +kernel
theorem d_Mod_isSharp_49 : decode i_Mod_isSharp.2.1 49 = .ok (.iload_n 1, 1) := by decide +kernel
theorem d_Mod_isSharp_50 : decode i_Mod_isSharp.2.1 50 = .ok (.iload_n 2, 1) := by decide +kernel
theorem d_Mod_isSharp_51 : decode i_Mod_isSharp.2.1 51 = .ok (.iconst 1, 1) := by decide +kernel
theorem d_Mod_isSharp_52 : decode i_Mod_isSharp.2.1 52 = .ok (.iadd, 1) := by decide +kernel
theorem d_Mod_isSharp_53 : decode i_Mod_isSharp.2.1 53 = .ok (.invokevirtual 214, 3) := by decide +kernel
theorem d_Mod_isSharp_56 : decode i_Mod_isSharp.2.1 56 = .ok (.aload_n 0, 1) := by decide +kernel
theorem d_Mod_isSharp_57 : decode i_Mod_isSharp.2.1 57 = .ok (.iload_n 1, 1) := by decide +kernel
theorem d_Mod_isSharp_58 : decode i_Mod_isSharp.2.1 58 = .ok (.iload_n 2, 1) := by decide +kernel
theorem d_Mod_isSharp_59 : decode i_Mod_isSharp.2.1 59 = .ok (.invokevirtual 214, 3) := by decide +kernel
theorem d_Mod_isSharp_62 : decode i_Mod_isSharp.2.1 62 = .ok (.isub, 1) := by decide +kernel
theorem d_Mod_isSharp_63 : decode i_Mod_isSharp.2.1 63 = .ok (.imul, 1) := by decide +kernel
theorem d_Mod_isSharp_64 : decode i_Mod_isSharp.2.1 64 = .ok (.iadd, 1) := by decide +kernel
theorem d_Mod_isSharp_65 : decode i_Mod_isSharp.2.1 65 = .ok (.istore_n 3, 1) := by decide +kernel
theorem d_Mod_isSharp_66 : decode i_Mod_isSharp.2.1 66 = .ok (.aload_n 0, 1) := by decide +kernel
theorem d_Mod_isSharp_67 : decode i_Mod_isSharp.2.1 67 = .ok (.iload_n 1, 1) := by decide +kernel
theorem d_Mod_isSharp_68 : decode i_Mod_isSharp.2.1 68 = .ok (.iload_n 2, 1) := by decide +kernel
theorem d_Mod_isSharp_69 : decode i_Mod_isSharp.2.1 69 = .ok (.invokevirtual 220, 3) := by decide +kernel
theorem d_Mod_isSharp_72 : decode i_Mod_isSharp.2.1 72 = .ok (.aload_n 0, 1) := by decide +kernel
theorem d_Mod_isSharp_73 : decode i_Mod_isSharp.2.1 73 = .ok (.getfield 7, 3) := by decide +kernel
theorem d_Mod_isSharp_76 : decode i_Mod_isSharp.2.1 76 = .ok (.iconst 3, 1) := by decide +kernel
theorem d_Mod_isSharp_77 : decode i_Mod_isSharp.2.1 77 = .ok (.iaload, 1) := by decide +kernel
theorem d_Mod_isSharp_78 : decode i_Mod_isSharp.2.1 78 = .ok (.if_icmp .ge 7, 3) := by decide +kernel
theorem d_Mod_isSharp_81 : decode i_Mod_isSharp.2.1 81 = .ok (.iload_n 3, 1) := by decide +kernel
theorem d_Mod_isSharp_82 : decode i_Mod_isSharp.2.1 82 = .ok (.ifCond .gt 7, 3) := by decide +kernel
theorem d_Mod_isSharp_85 : decode i_Mod_isSharp.2.1 85 = .ok (.iconst 1, 1) := by decide +kernel
theorem d_Mod_isSharp_86 : decode i_Mod_isSharp.2.1 86 = .ok (.goto 4, 3) := by decide +kernel
theorem d_Mod_isSharp_89 : decode i_Mod_isSharp.2.1 89 = .ok (.iconst 0, 1) := by decide +kernel
theorem d_Mod_isSharp_90 : decode i_Mod_isSharp.2.1 90 = .ok (.ireturn, 1) := by decide +kernel
theorem d_Mod_sharpMany_0 : decode i_Mod_sharpMany.2.1 0 = .ok (.iconst 0, 1) := by decide +kernel
theorem d_Mod_sharpMany_1 : decode i_Mod_sharpMany.2.1 1 = .ok (.istore_n 2, 1) := by decide +kernel
theorem d_Mod_sharpMany_2 : decode i_Mod_sharpMany.2.1 2 = .ok (.iconst 0, 1) := by decide +kernel
theorem d_Mod_sharpMany_3 : decode i_Mod_sharpMany.2.1 3 = .ok (.istore_n 3, 1) := by decide +kernel
theorem d_Mod_sharpMany_4 : decode i_Mod_sharpMany.2.1 4 = .ok (.iload_n 3, 1) := by decide +kernel
theorem d_Mod_sharpMany_5 : decode i_Mod_sharpMany.2.1 5 = .ok (.aload_n 0, 1) := by decide +kernel
theorem d_Mod_sharpMany_6 : decode i_Mod_sharpMany.2.1 6 = .ok (.getfield 205, 3) := by decide +kernel
theorem d_Mod_sharpMany_9 : decode i_Mod_sharpMany.2.1 9 = .ok (.if_icmp .ge 26, 3) := by decide +kernel
theorem d_Mod_sharpMany_12 : decode i_Mod_sharpMany.2.1 12 = .ok (.iload_n 2, 1) := by decide +kernel
theorem d_Mod_sharpMany_13 : decode i_Mod_sharpMany.2.1 13 = .ok (.aload_n 0, 1) := by decide +kernel
theorem d_Mod_sharpMany_14 : decode i_Mod_sharpMany.2.1 14 = .ok (.iload_n 1, 1) := by decide +kernel
theorem d_Mod_sharpMany_15 : decode i_Mod_sharpMany.2.1 15 = .ok (.iload_n 3, 1) := by decide +kernel
theorem d_Mod_sharpMany_16 : decode i_Mod_sharpMany.2.1 16 = .ok (.invokevirtual 223, 3) := by decide +kernel
theorem d_Mod_sharpMany_19 : decode i_Mod_sharpMany.2.1 19 = .ok (.ifCond .eq 7, 3) := by decide +kernel
theorem d_Mod_sharpMany_22 : decode i_Mod_sharpMany.2.1 22 = .ok (.iconst 1, 1) := by decide +kernel
theorem d_Mod_sharpMany_23 : decode i_Mod_sharpMany.2.1 23 = .ok (.goto 4, 3) := by decide +kernel
theorem d_Mod_sharpMany_26 : decode i_Mod_sharpMany.2.1 26 = .ok (.iconst 0, 1) := by decide +kernel
theorem d_Mod_sharpMany_27 : decode i_Mod_sharpMany.2.1 27 = .ok (.iadd, 1) := by decide +kernel
theorem d_Mod_sharpMany_28 : decode i_Mod_sharpMany.2.1 28 = .ok (.istore_n 2, 1) := by decide +kernel
theorem d_Mod_sharpMany_29 : decode i_Mod_sharpMany.2.1 29 = .ok (.iinc 3 1, 3) := by decide +kernel
theorem d_Mod_sharpMany_32 : decode i_Mod_sharpMany.2.1 32 = .ok (.goto (-28), 3) := by decide +kernel
theorem d_Mod_sharpMany_35 : decode i_Mod_sharpMany.2.1 35 = .ok (.iload_n 2, 1) := by decide +kernel
theorem d_Mod_sharpMany_36 : decode i_Mod_sharpMany.2.1 36 = .ok (.ireturn, 1) := by decide +kernel
theorem d_Mod_twice_0 : decode i_Mod_twice.2.1 0 = .ok (.iconst 0, 1) := by decide +kernel
theorem d_Mod_twice_1 : decode i_Mod_twice.2.1 1 = .ok (.istore_n 2, 1) := by decide +kernel
theorem d_Mod_twice_2 : decode i_Mod_twice.2.1 2 = .ok (.iconst 0, 1) := by decide +kernel
theorem d_Mod_twice_3 : decode i_Mod_twice.2.1 3 = .ok (.istore_n 3, 1) := by decide +kernel
theorem d_Mod_twice_4 : decode i_Mod_twice.2.1 4 = .ok (.iload_n 3, 1) := by decide +kernel
theorem d_Mod_twice_5 : decode i_Mod_twice.2.1 5 = .ok (.aload_n 0, 1) := by decide +kernel
theorem d_Mod_twice_6 : decode i_Mod_twice.2.1 6 = .ok (.getfield 205, 3) := by decide +kernel
theorem d_Mod_twice_9 : decode i_Mod_twice.2.1 9 = .ok (.if_icmp .ge 43, 3) := by decide +kernel
theorem d_Mod_twice_12 : decode i_Mod_twice.2.1 12 = .ok (.iload_n 2, 1) := by decide +kernel
theorem d_Mod_twice_13 : decode i_Mod_twice.2.1 13 = .ok (.aload_n 0, 1) := by decide +kernel
theorem d_Mod_twice_14 : decode i_Mod_twice.2.1 14 = .ok (.iload_n 1, 1) := by decide +kernel
theorem d_Mod_twice_15 : decode i_Mod_twice.2.1 15 = .ok (.iload_n 3, 1) := by decide +kernel
theorem d_Mod_twice_16 : decode i_Mod_twice.2.1 16 = .ok (.invokevirtual 211, 3) := by decide +kernel
theorem d_Mod_twice_19 : decode i_Mod_twice.2.1 19 = .ok (.aload_n 0, 1) := by decide +kernel
theorem d_Mod_twice_20 : decode i_Mod_twice.2.1 20 = .ok (.iload_n 1, 1) := by decide +kernel
theorem d_Mod_twice_21 : decode i_Mod_twice.2.1 21 = .ok (.iload_n 3, 1) := by decide +kernel
theorem d_Mod_twice_22 : decode i_Mod_twice.2.1 22 = .ok (.iconst 1, 1) := by decide +kernel
theorem d_Mod_twice_23 : decode i_Mod_twice.2.1 23 = .ok (.iadd, 1) := by decide +kernel
theorem d_Mod_twice_24 : decode i_Mod_twice.2.1 24 = .ok (.invokevirtual 214, 3) := by decide +kernel
theorem d_Mod_twice_27 : decode i_Mod_twice.2.1 27 = .ok (.imul, 1) := by decide +kernel
theorem d_Mod_twice_28 : decode i_Mod_twice.2.1 28 = .ok (.aload_n 0, 1) := by decide +kernel
theorem d_Mod_twice_29 : decode i_Mod_twice.2.1 29 = .ok (.iload_n 1, 1) := by decide +kernel
theorem d_Mod_twice_30 : decode i_Mod_twice.2.1 30 = .ok (.iload_n 3, 1) := by decide +kernel
theorem d_Mod_twice_31 : decode i_Mod_twice.2.1 31 = .ok (.invokevirtual 214, 3) := by decide +kernel
theorem d_Mod_twice_34 : decode i_Mod_twice.2.1 34 = .ok (.aload_n 0, 1) := by decide +kernel
theorem d_Mod_twice_35 : decode i_Mod_twice.2.1 35 = .ok (.iload_n 1, 1) := by decide +kernel
theorem d_Mod_twice_36 : decode i_Mod_twice.2.1 36 = .ok (.iload_n 3, 1) := by decide +kernel
theorem d_Mod_twice_37 : decode i_Mod_twice.2.1 37 = .ok (.iconst 1, 1) := by decide +kernel
theorem d_Mod_twice_38 : decode i_Mod_twice.2.1 38 = .ok (.iadd, 1) := by decide +kernel
theorem d_Mod_twice_39 : decode i_Mod_twice.2.1 39 = .ok (.invokevirtual 211, 3) := by decide +kernel
theorem d_Mod_twice_42 : decode i_Mod_twice.2.1 42 = .ok (.imul, 1) := by decide +kernel
theorem d_Mod_twice_43 : decode i_Mod_twice.2.1 43 = .ok (.isub, 1) := by decide +kernel
theorem d_Mod_twice_44 : decode i_Mod_twice.2.1 44 = .ok (.iadd, 1) := by decide +kernel
theorem d_Mod_twice_45 : decode i_Mod_twice.2.1 45 = .ok (.istore_n 2, 1) := by decide +kernel
theorem d_Mod_twice_46 : decode i_Mod_twice.2.1 46 = .ok (.iinc 3 1, 3) := by decide +kernel
theorem d_Mod_twice_49 : decode i_Mod_twice.2.1 49 = .ok (.goto (-45), 3) := by decide +kernel
theorem d_Mod_twice_52 : decode i_Mod_twice.2.1 52 = .ok (.iload_n 2, 1) := by decide +kernel
theorem d_Mod_twice_53 : decode i_Mod_twice.2.1 53 = .ok (.invokestatic 183, 3) := by decide +kernel
theorem d_Mod_twice_56 : decode i_Mod_twice.2.1 56 = .ok (.ireturn, 1) := by decide +kernel
theorem d_Mod_best_0 : decode i_Mod_best.2.1 0 = .ok (.aload_n 0, 1) := by decide +kernel
theorem d_Mod_best_1 : decode i_Mod_best.2.1 1 = .ok (.iload_n 1, 1) := by decide +kernel
theorem d_Mod_best_2 : decode i_Mod_best.2.1 2 = .ok (.invokevirtual 169, 3) := by decide +kernel
theorem d_Mod_best_5 : decode i_Mod_best.2.1 5 = .ok (.ifCond .eq 12, 3) := by decide +kernel
theorem d_Mod_best_8 : decode i_Mod_best.2.1 8 = .ok (.iload_n 2, 1) := by decide +kernel
theorem d_Mod_best_9 : decode i_Mod_best.2.1 9 = .ok (.iconst 0, 1) := by decide +kernel
theorem d_Mod_best_10 : decode i_Mod_best.2.1 10 = .ok (.iconst 3, 1) := by decide +kernel
theorem d_Mod_best_11 : decode i_Mod_best.2.1 11 = .ok (.invokestatic 71, 3) := by decide +kernel
theorem d_Mod_best_14 : decode i_Mod_best.2.1 14 = .ok (.ifCond .ne 6, 3) := by decide +kernel
theorem d_Mod_best_17 : decode i_Mod_best.2.1 17 = .ok (.ldc 75, 2) := by decide +kernel
theorem d_Mod_best_19 : decode i_Mod_best.2.1 19 = .ok (.ireturn, 1) := by decide +kernel
theorem d_Mod_best_20 : decode i_Mod_best.2.1 20 = .ok (.aload_n 0, 1) := by decide +kernel
theorem d_Mod_best_21 : decode i_Mod_best.2.1 21 = .ok (.iload_n 1, 1) := by decide +kernel
theorem d_Mod_best_22 : decode i_Mod_best.2.1 22 = .ok (.invokevirtual 226, 3) := by decide +kernel
theorem d_Mod_best_25 : decode i_Mod_best.2.1 25 = .ok (.iload_n 2, 1) := by decide +kernel
theorem d_Mod_best_26 : decode i_Mod_best.2.1 26 = .ok (.ifCond .ne 10, 3) := by decide +kernel
theorem d_Mod_best_29 : decode i_Mod_best.2.1 29 = .ok (.aload_n 0, 1) := by decide +kernel
theorem d_Mod_best_30 : decode i_Mod_best.2.1 30 = .ok (.getfield 205, 3) := by decide +kernel
theorem d_Mod_best_33 : decode i_Mod_best.2.1 33 = .ok (.goto 33, 3) := by decide +kernel
theorem d_Mod_best_36 : decode i_Mod_best.2.1 36 = .ok (.iload_n 2, 1) := by decide +kernel
theorem d_Mod_best_37 : decode i_Mod_best.2.1 37 = .ok (.iconst 1, 1) := by decide +kernel
theorem d_Mod_best_38 : decode i_Mod_best.2.1 38 = .ok (.if_icmp .ne 10, 3) := by decide +kernel
theorem d_Mod_best_41 : decode i_Mod_best.2.1 41 = .ok (.aload_n 0, 1) := by decide +kernel
theorem d_Mod_best_42 : decode i_Mod_best.2.1 42 = .ok (.getfield 208, 3) := by decide +kernel
theorem d_Mod_best_45 : decode i_Mod_best.2.1 45 = .ok (.goto 21, 3) := by decide +kernel
theorem d_Mod_best_48 : decode i_Mod_best.2.1 48 = .ok (.iload_n 2, 1) := by decide +kernel
theorem d_Mod_best_49 : decode i_Mod_best.2.1 49 = .ok (.iconst 2, 1) := by decide +kernel
theorem d_Mod_best_50 : decode i_Mod_best.2.1 50 = .ok (.if_icmp .ne 11, 3) := by decide +kernel
theorem d_Mod_best_53 : decode i_Mod_best.2.1 53 = .ok (.aload_n 0, 1) := by decide +kernel
theorem d_Mod_best_54 : decode i_Mod_best.2.1 54 = .ok (.iload_n 1, 1) := by decide +kernel
theorem d_Mod_best_55 : decode i_Mod_best.2.1 55 = .ok (.invokevirtual 229, 3) := by decide +kernel
theorem d_Mod_best_58 : decode i_Mod_best.2.1 58 = .ok (.goto 8, 3) := by decide +kernel
theorem d_Mod_best_61 : decode i_Mod_best.2.1 61 = .ok (.aload_n 0, 1) := by decide +kernel
theorem d_Mod_best_62 : decode i_Mod_best.2.1 62 = .ok (.iload_n 1, 1) := by decide +kernel
theorem d_Mod_best_63 : decode i_Mod_best.2.1 63 = .ok (.invokevirtual 232, 3) := by decide +kernel
theorem d_Mod_best_66 : decode i_Mod_best.2.1 66 = .ok (.ireturn, 1) := by decide +kernel
theorem d_Mod_vertex_0 : decode i_Mod_vertex.2.1 0 = .ok (.aload_n 0, 1) := by decide +kernel
theorem d_Mod_vertex_1 : decode i_Mod_vertex.2.1 1 = .ok (.iload_n 1, 1) := by decide +kernel
theorem d_Mod_vertex_2 : decode i_Mod_vertex.2.1 2 = .ok (.invokevirtual 169, 3) := by decide +kernel
theorem d_Mod_vertex_5 : decode i_Mod_vertex.2.1 5 = .ok (.ifCond .eq 12, 3) := by decide +kernel
theorem d_Mod_vertex_8 : decode i_Mod_vertex.2.1 8 = .ok (.iload_n 3, 1) := by decide +kernel
theorem d_Mod_vertex_9 : decode i_Mod_vertex.2.1 9 = .ok (.iconst 0, 1) := by decide +kernel
theorem d_Mod_vertex_10 : decode i_Mod_vertex.2.1 10 = .ok (.iconst 2, 1) := by decide +kernel
theorem d_Mod_vertex_11 : decode i_Mod_vertex.2.1 11 = .ok (.invokestatic 71, 3) := by decide +kernel
theorem d_Mod_vertex_14 : decode i_Mod_vertex.2.1 14 = .ok (.ifCond .ne 6, 3) := by decide +kernel
theorem d_Mod_vertex_17 : decode i_Mod_vertex.2.1 17 = .ok (.ldc 75, 2) := by decide +kernel
theorem d_Mod_vertex_19 : decode i_Mod_vertex.2.1 19 = .ok (.ireturn, 1) := by decide +kernel
theorem d_Mod_vertex_20 : decode i_Mod_vertex.2.1 20 = .ok (.aload_n 0, 1) := by decide +kernel
theorem d_Mod_vertex_21 : decode i_Mod_vertex.2.1 21 = .ok (.iload_n 1, 1) := by decide +kernel
theorem d_Mod_vertex_22 : decode i_Mod_vertex.2.1 22 = .ok (.invokevirtual 226, 3) := by decide +kernel
theorem d_Mod_vertex_25 : decode i_Mod_vertex.2.1 25 = .ok (.iload_n 2, 1) := by decide +kernel
theorem d_Mod_vertex_26 : decode i_Mod_vertex.2.1 26 = .ok (.iconst 0, 1) := by decide +kernel
theorem d_Mod_vertex_27 : decode i_Mod_vertex.2.1 27 = .ok (.aload_n 0, 1) := by decide +kernel
theorem d_Mod_vertex_28 : decode i_Mod_vertex.2.1 28 = .ok (.getfield 205, 3) := by decide +kernel
theorem d_Mod_vertex_31 : decode i_Mod_vertex.2.1 31 = .ok (.iconst 1, 1) := by decide +kernel
theorem d_Mod_vertex_32 : decode i_Mod_vertex.2.1 32 = .ok (.isub, 1) := by decide +kernel
theorem d_Mod_vertex_33 : decode i_Mod_vertex.2.1 33 = .ok (.invokestatic 71, 3) := by decide +kernel
theorem d_Mod_vertex_36 : decode i_Mod_vertex.2.1 36 = .ok (.ifCond .ne 6, 3) := by decide +kernel
theorem d_Mod_vertex_39 : decode i_Mod_vertex.2.1 39 = .ok (.ldc 75, 2) := by decide +kernel
theorem d_Mod_vertex_41 : decode i_Mod_vertex.2.1 41 = .ok (.ireturn, 1) := by decide +kernel
theorem d_Mod_vertex_42 : decode i_Mod_vertex.2.1 42 = .ok (.iload_n 3, 1) := by decide +kernel
theorem d_Mod_vertex_43 : decode i_Mod_vertex.2.1 43 = .ok (.ifCond .ne 12, 3) := by decide +kernel
theorem d_Mod_vertex_46 : decode i_Mod_vertex.2.1 46 = .ok (.aload_n 0, 1) := by decide +kernel
theorem d_Mod_vertex_47 : decode i_Mod_vertex.2.1 47 = .ok (.getfield 59, 3) := by decide +kernel
theorem d_Mod_vertex_50 : decode i_Mod_vertex.2.1 50 = .ok (.iload_n 2, 1) := by decide +kernel
theorem d_Mod_vertex_51 : decode i_Mod_vertex.2.1 51 = .ok (.iaload, 1) := by decide +kernel
theorem d_Mod_vertex_52 : decode i_Mod_vertex.2.1 52 = .ok (.goto 31, 3) := by decide +kernel
theorem d_Mod_vertex_55 : decode i_Mod_vertex.2.1 55 = .ok (.iload_n 3, 1) := by decide +kernel
theorem d_Mod_vertex_56 : decode i_Mod_vertex.2.1 56 = .ok (.iconst 1, 1) := by decide +kernel
theorem d_Mod_vertex_57 : decode i_Mod_vertex.2.1 57 = .ok (.if_icmp .ne 12, 3) := by decide +kernel
theorem d_Mod_vertex_60 : decode i_Mod_vertex.2.1 60 = .ok (.aload_n 0, 1) := by decide +kernel
theorem d_Mod_vertex_61 : decode i_Mod_vertex.2.1 61 = .ok (.iload_n 1, 1) := by decide +kernel
theorem d_Mod_vertex_62 : decode i_Mod_vertex.2.1 62 = .ok (.iload_n 2, 1) := by decide +kernel
theorem d_Mod_vertex_63 : decode i_Mod_vertex.2.1 63 = .ok (.invokevirtual 220, 3) := by decide +kernel
theorem d_Mod_vertex_66 : decode i_Mod_vertex.2.1 66 = .ok (.goto 17, 3) := by decide +kernel
theorem d_Mod_vertex_69 : decode i_Mod_vertex.2.1 69 = .ok (.aload_n 0, 1) := by decide +kernel
theorem d_Mod_vertex_70 : decode i_Mod_vertex.2.1 70 = .ok (.iload_n 1, 1) := by decide +kernel
theorem d_Mod_vertex_71 : decode i_Mod_vertex.2.1 71 = .ok (.iload_n 2, 1) := by decide +kernel
theorem d_Mod_vertex_72 : decode i_Mod_vertex.2.1 72 = .ok (.invokevirtual 223, 3) := by decide +kernel
theorem d_Mod_vertex_75 : decode i_Mod_vertex.2.1 75 = .ok (.ifCond .eq 7, 3) := by decide +kernel
theorem d_Mod_vertex_78 : decode i_Mod_vertex.2.1 78 = .ok (.iconst 1, 1) := by decide +kernel
theorem d_Mod_vertex_79 : decode i_Mod_vertex.2.1 79 = .ok (.goto 4, 3) := by decide +kernel
theorem d_Mod_vertex_82 : decode i_Mod_vertex.2.1 82 = .ok (.iconst 0, 1) := by decide +kernel
theorem d_Mod_vertex_83 : decode i_Mod_vertex.2.1 83 = .ok (.ireturn, 1) := by decide +kernel
theorem d_Mod_past_0 : decode i_Mod_past.2.1 0 = .ok (.aload_n 0, 1) := by decide +kernel
theorem d_Mod_past_1 : decode i_Mod_past.2.1 1 = .ok (.iload_n 1, 1) := by decide +kernel
theorem d_Mod_past_2 : decode i_Mod_past.2.1 2 = .ok (.invokevirtual 169, 3) := by decide +kernel
theorem d_Mod_past_5 : decode i_Mod_past.2.1 5 = .ok (.ifCond .eq 19, 3) := by decide +kernel
theorem d_Mod_past_8 : decode i_Mod_past.2.1 8 = .ok (.iload_n 2, 1) := by decide +kernel
theorem d_Mod_past_9 : decode i_Mod_past.2.1 9 = .ok (.iconst 0, 1) := by decide +kernel
theorem d_Mod_past_10 : decode i_Mod_past.2.1 10 = .ok (.aload_n 0, 1) := by decide +kernel
theorem d_Mod_past_11 : decode i_Mod_past.2.1 11 = .ok (.getfield 31, 3) := by decide +kernel
theorem d_Mod_past_14 : decode i_Mod_past.2.1 14 = .ok (.iload_n 1, 1) := by decide +kernel
theorem d_Mod_past_15 : decode i_Mod_past.2.1 15 = .ok (.iaload, 1) := by decide +kernel
theorem d_Mod_past_16 : decode i_Mod_past.2.1 16 = .ok (.iconst 1, 1) := by decide +kernel
theorem d_Mod_past_17 : decode i_Mod_past.2.1 17 = .ok (.isub, 1) := by decide +kernel
theorem d_Mod_past_18 : decode i_Mod_past.2.1 18 = .ok (.invokestatic 71, 3) := by decide +kernel
theorem d_Mod_past_21 : decode i_Mod_past.2.1 21 = .ok (.ifCond .ne 6, 3) := by decide +kernel
theorem d_Mod_past_24 : decode i_Mod_past.2.1 24 = .ok (.ldc 75, 2) := by decide +kernel
theorem d_Mod_past_26 : decode i_Mod_past.2.1 26 = .ok (.ireturn, 1) := by decide +kernel
theorem d_Mod_past_27 : decode i_Mod_past.2.1 27 = .ok (.aload_n 0, 1) := by decide +kernel
theorem d_Mod_past_28 : decode i_Mod_past.2.1 28 = .ok (.iload_n 1, 1) := by decide +kernel
theorem d_Mod_past_29 : decode i_Mod_past.2.1 29 = .ok (.invokevirtual 226, 3) := by decide +kernel
theorem d_Mod_past_32 : decode i_Mod_past.2.1 32 = .ok (.aload_n 0, 1) := by decide +kernel
theorem d_Mod_past_33 : decode i_Mod_past.2.1 33 = .ok (.iload_n 1, 1) := by decide +kernel
theorem d_Mod_past_34 : decode i_Mod_past.2.1 34 = .ok (.iload_n 2, 1) := by decide +kernel
theorem d_Mod_past_35 : decode i_Mod_past.2.1 35 = .ok (.invokevirtual 235, 3) := by decide +kernel
theorem d_Mod_past_38 : decode i_Mod_past.2.1 38 = .ok (.ireturn, 1) := by decide +kernel
theorem d_Mod_pointOf_0 : decode i_Mod_pointOf.2.1 0 = .ok (.iload 4, 2) := by decide +kernel
theorem d_Mod_pointOf_2 : decode i_Mod_pointOf.2.1 2 = .ok (.ifCond .ne 14, 3) := by decide +kernel
theorem d_Mod_pointOf_5 : decode i_Mod_pointOf.2.1 5 = .ok (.aload_n 0, 1) := by decide +kernel
theorem d_Mod_pointOf_6 : decode i_Mod_pointOf.2.1 6 = .ok (.iload_n 1, 1) := by decide +kernel
theorem d_Mod_pointOf_7 : decode i_Mod_pointOf.2.1 7 = .ok (.iload_n 2, 1) := by decide +kernel
theorem d_Mod_pointOf_8 : decode i_Mod_pointOf.2.1 8 = .ok (.iconst 1, 1) := by decide +kernel
theorem d_Mod_pointOf_9 : decode i_Mod_pointOf.2.1 9 = .ok (.isub, 1) := by decide +kernel
theorem d_Mod_pointOf_10 : decode i_Mod_pointOf.2.1 10 = .ok (.invokevirtual 211, 3) := by decide +kernel
theorem d_Mod_pointOf_13 : decode i_Mod_pointOf.2.1 13 = .ok (.goto 11, 3) := by decide +kernel
theorem d_Mod_pointOf_16 : decode i_Mod_pointOf.2.1 16 = .ok (.aload_n 0, 1) := by decide +kernel
theorem d_Mod_pointOf_17 : decode i_Mod_pointOf.2.1 17 = .ok (.iload_n 1, 1) := by decide +kernel
theorem d_Mod_pointOf_18 : decode i_Mod_pointOf.2.1 18 = .ok (.iload_n 2, 1) := by decide +kernel
theorem d_Mod_pointOf_19 : decode i_Mod_pointOf.2.1 19 = .ok (.iconst 1, 1) := by decide +kernel
theorem d_Mod_pointOf_20 : decode i_Mod_pointOf.2.1 20 = .ok (.isub, 1) := by decide +kernel
theorem d_Mod_pointOf_21 : decode i_Mod_pointOf.2.1 21 = .ok (.invokevirtual 214, 3) := by decide +kernel
theorem d_Mod_pointOf_24 : decode i_Mod_pointOf.2.1 24 = .ok (.istore 5, 2) := by decide +kernel
theorem d_Mod_pointOf_26 : decode i_Mod_pointOf.2.1 26 = .ok (.iload 4, 2) := by decide +kernel
theorem d_Mod_pointOf_28 : decode i_Mod_pointOf.2.1 28 = .ok (.ifCond .ne 12, 3) := by decide +kernel
theorem d_Mod_pointOf_31 : decode i_Mod_pointOf.2.1 31 = .ok (.aload_n 0, 1) := by decide +kernel
theorem d_Mod_pointOf_32 : decode i_Mod_pointOf.2.1 32 = .ok (.iload_n 1, 1) := by decide +kernel
theorem d_Mod_pointOf_33 : decode i_Mod_pointOf.2.1 33 = .ok (.iload_n 2, 1) := by decide +kernel
theorem d_Mod_pointOf_34 : decode i_Mod_pointOf.2.1 34 = .ok (.invokevirtual 211, 3) := by decide +kernel
theorem d_Mod_pointOf_37 : decode i_Mod_pointOf.2.1 37 = .ok (.goto 9, 3) := by decide +kernel
theorem d_Mod_pointOf_40 : decode i_Mod_pointOf.2.1 40 = .ok (.aload_n 0, 1) := by decide +kernel
theorem d_Mod_pointOf_41 : decode i_Mod_pointOf.2.1 41 = .ok (.iload_n 1, 1) := by decide +kernel
theorem d_Mod_pointOf_42 : decode i_Mod_pointOf.2.1 42 = .ok (.iload_n 2, 1) := by decide +kernel
theorem d_Mod_pointOf_43 : decode i_Mod_pointOf.2.1 43 = .ok (.invokevirtual 214, 3) := by decide +kernel
theorem d_Mod_pointOf_46 : decode i_Mod_pointOf.2.1 46 = .ok (.istore 6, 2) := by decide +kernel
theorem d_Mod_pointOf_48 : decode i_Mod_pointOf.2.1 48 = .ok (.iload 4, 2) := by decide +kernel
theorem d_Mod_pointOf_50 : decode i_Mod_pointOf.2.1 50 = .ok (.ifCond .ne 14, 3) := by decide +kernel
theorem d_Mod_pointOf_53 : decode i_Mod_pointOf.2.1 53 = .ok (.aload_n 0, 1) := by decide +kernel
theorem d_Mod_pointOf_54 : decode i_Mod_pointOf.2.1 54 = .ok (.iload_n 1, 1) := by decide +kernel
theorem d_Mod_pointOf_55 : decode i_Mod_pointOf.2.1 55 = .ok (.iload_n 2, 1) := by decide +kernel
theorem d_Mod_pointOf_56 : decode i_Mod_pointOf.2.1 56 = .ok (.iconst 1, 1) := by decide +kernel
theorem d_Mod_pointOf_57 : decode i_Mod_pointOf.2.1 57 = .ok (.iadd, 1) := by decide +kernel
theorem d_Mod_pointOf_58 : decode i_Mod_pointOf.2.1 58 = .ok (.invokevirtual 211, 3) := by decide +kernel
theorem d_Mod_pointOf_61 : decode i_Mod_pointOf.2.1 61 = .ok (.goto 11, 3) := by decide +kernel
theorem d_Mod_pointOf_64 : decode i_Mod_pointOf.2.1 64 = .ok (.aload_n 0, 1) := by decide +kernel
theorem d_Mod_pointOf_65 : decode i_Mod_pointOf.2.1 65 = .ok (.iload_n 1, 1) := by decide +kernel
theorem d_Mod_pointOf_66 : decode i_Mod_pointOf.2.1 66 = .ok (.iload_n 2, 1) := by decide +kernel
theorem d_Mod_pointOf_67 : decode i_Mod_pointOf.2.1 67 = .ok (.iconst 1, 1) := by decide +kernel
theorem d_Mod_pointOf_68 : decode i_Mod_pointOf.2.1 68 = .ok (.iadd, 1) := by decide +kernel
theorem d_Mod_pointOf_69 : decode i_Mod_pointOf.2.1 69 = .ok (.invokevirtual 214, 3) := by decide +kernel
theorem d_Mod_pointOf_72 : decode i_Mod_pointOf.2.1 72 = .ok (.istore 7, 2) := by decide +kernel
theorem d_Mod_pointOf_74 : decode i_Mod_pointOf.2.1 74 = .ok (.iload_n 3, 1) := by decide +kernel
theorem d_Mod_pointOf_75 : decode i_Mod_pointOf.2.1 75 = .ok (.iconst 1, 1) := by decide +kernel
theorem d_Mod_pointOf_76 : decode i_Mod_pointOf.2.1 76 = .ok (.if_icmp .ne 20, 3) := by decide +kernel
theorem d_Mod_pointOf_79 : decode i_Mod_pointOf.2.1 79 = .ok (.bipush 9, 2) := by decide +kernel
theorem d_Mod_pointOf_81 : decode i_Mod_pointOf.2.1 81 = .ok (.iload 5, 2) := by decide +kernel
theorem d_Mod_pointOf_83 : decode i_Mod_pointOf.2.1 83 = .ok (.imul, 1) := by decide +kernel
theorem d_Mod_pointOf_84 : decode i_Mod_pointOf.2.1 84 = .ok (.bipush 22, 2) := by decide +kernel
theorem d_Mod_pointOf_86 : decode i_Mod_pointOf.2.1 86 = .ok (.iload 6, 2) := by decide +kernel
theorem d_Mod_pointOf_88 : decode i_Mod_pointOf.2.1 88 = .ok (.imul, 1) := by decide +kernel
theorem d_Mod_pointOf_89 : decode i_Mod_pointOf.2.1 89 = .ok (.iadd, 1) := by decide +kernel
theorem d_Mod_pointOf_90 : decode i_Mod_pointOf.2.1 90 = .ok (.iload 7, 2) := by decide +kernel
theorem d_Mod_pointOf_92 : decode i_Mod_pointOf.2.1 92 = .ok (.iadd, 1) := by decide +kernel
theorem d_Mod_pointOf_93 : decode i_Mod_pointOf.2.1 93 = .ok (.goto 40, 3) := by decide +kernel
theorem d_Mod_pointOf_96 : decode i_Mod_pointOf.2.1 96 = .ok (.iload_n 3, 1) := by decide +kernel
theorem d_Mod_pointOf_97 : decode i_Mod_pointOf.2.1 97 = .ok (.iconst 2, 1) := by decide +kernel
theorem d_Mod_pointOf_98 : decode i_Mod_pointOf.2.1 98 = .ok (.if_icmp .ne 21, 3) := by decide +kernel
theorem d_Mod_pointOf_101 : decode i_Mod_pointOf.2.1 101 = .ok (.iconst 4, 1) := by decide +kernel
theorem d_Mod_pointOf_102 : decode i_Mod_pointOf.2.1 102 = .ok (.iload 5, 2) := by decide +kernel
theorem d_Mod_pointOf_104 : decode i_Mod_pointOf.2.1 104 = .ok (.imul, 1) := by decide +kernel
theorem d_Mod_pointOf_105 : decode i_Mod_pointOf.2.1 105 = .ok (.bipush 24, 2) := by decide +kernel
theorem d_Mod_pointOf_107 : decode i_Mod_pointOf.2.1 107 = .ok (.iload 6, 2) := by decide +kernel
theorem d_Mod_pointOf_109 : decode i_Mod_pointOf.2.1 109 = .ok (.imul, 1) := by decide +kernel
theorem d_Mod_pointOf_110 : decode i_Mod_pointOf.2.1 110 = .ok (.iadd, 1) := by decide +kernel
theorem d_Mod_pointOf_111 : decode i_Mod_pointOf.2.1 111 = .ok (.iconst 4, 1) := by decide +kernel
theorem d_Mod_pointOf_112 : decode i_Mod_pointOf.2.1 112 = .ok (.iload 7, 2) := by decide +kernel
theorem d_Mod_pointOf_114 : decode i_Mod_pointOf.2.1 114 = .ok (.imul, 1) := by decide +kernel
theorem d_Mod_pointOf_115 : decode i_Mod_pointOf.2.1 115 = .ok (.iadd, 1) := by decide +kernel
theorem d_Mod_pointOf_116 : decode i_Mod_pointOf.2.1 116 = .ok (.goto 17, 3) := by decide +kernel
theorem d_Mod_pointOf_119 : decode i_Mod_pointOf.2.1 119 = .ok (.iload 5, 2) := by decide +kernel
theorem d_Mod_pointOf_121 : decode i_Mod_pointOf.2.1 121 = .ok (.bipush 22, 2) := by decide +kernel
theorem d_Mod_pointOf_123 : decode i_Mod_pointOf.2.1 123 = .ok (.iload 6, 2) := by decide +kernel
theorem d_Mod_pointOf_125 : decode i_Mod_pointOf.2.1 125 = .ok (.imul, 1) := by decide +kernel
theorem d_Mod_pointOf_126 : decode i_Mod_pointOf.2.1 126 = .ok (.iadd, 1) := by decide +kernel
theorem d_Mod_pointOf_127 : decode i_Mod_pointOf.2.1 127 = .ok (.bipush 9, 2) := by decide +kernel
theorem d_Mod_pointOf_129 : decode i_Mod_pointOf.2.1 129 = .ok (.iload 7, 2) := by decide +kernel
theorem d_Mod_pointOf_131 : decode i_Mod_pointOf.2.1 131 = .ok (.imul, 1) := by decide +kernel
theorem d_Mod_pointOf_132 : decode i_Mod_pointOf.2.1 132 = .ok (.iadd, 1) := by decide +kernel
theorem d_Mod_pointOf_133 : decode i_Mod_pointOf.2.1 133 = .ok (.ireturn, 1) := by decide +kernel
theorem d_Mod_point_0 : decode i_Mod_point.2.1 0 = .ok (.aload_n 0, 1) := by decide +kernel
theorem d_Mod_point_1 : decode i_Mod_point.2.1 1 = .ok (.iload_n 1, 1) := by decide +kernel
theorem d_Mod_point_2 : decode i_Mod_point.2.1 2 = .ok (.invokevirtual 169, 3) := by decide +kernel
theorem d_Mod_point_5 : decode i_Mod_point.2.1 5 = .ok (.ifCond .eq 22, 3) := by decide +kernel
theorem d_Mod_point_8 : decode i_Mod_point.2.1 8 = .ok (.iload_n 3, 1) := by decide +kernel
theorem d_Mod_point_9 : decode i_Mod_point.2.1 9 = .ok (.iconst 1, 1) := by decide +kernel
theorem d_Mod_point_10 : decode i_Mod_point.2.1 10 = .ok (.iconst 3, 1) := by decide +kernel
theorem d_Mod_point_11 : decode i_Mod_point.2.1 11 = .ok (.invokestatic 71, 3) := by decide +kernel
theorem d_Mod_point_14 : decode i_Mod_point.2.1 14 = .ok (.ifCond .eq 13, 3) := by decide +kernel
theorem d_Mod_point_17 : decode i_Mod_point.2.1 17 = .ok (.iload 4, 2) := by decide +kernel
theorem d_Mod_point_19 : decode i_Mod_point.2.1 19 = .ok (.iconst 0, 1) := by decide +kernel
theorem d_Mod_point_20 : decode i_Mod_point.2.1 20 = .ok (.iconst 1, 1) := by decide +kernel
theorem d_Mod_point_21 : decode i_Mod_point.2.1 21 = .ok (.invokestatic 71, 3) := by decide +kernel
theorem d_Mod_point_24 : decode i_Mod_point.2.1 24 = .ok (.ifCond .ne 6, 3) := by decide +kernel
theorem d_Mod_point_27 : decode i_Mod_point.2.1 27 = .ok (.ldc 75, 2) := by decide +kernel
theorem d_Mod_point_29 : decode i_Mod_point.2.1 29 = .ok (.ireturn, 1) := by decide +kernel
theorem d_Mod_point_30 : decode i_Mod_point.2.1 30 = .ok (.aload_n 0, 1) := by decide +kernel
theorem d_Mod_point_31 : decode i_Mod_point.2.1 31 = .ok (.iload_n 1, 1) := by decide +kernel
theorem d_Mod_point_32 : decode i_Mod_point.2.1 32 = .ok (.invokevirtual 226, 3) := by decide +kernel
theorem d_Mod_point_35 : decode i_Mod_point.2.1 35 = .ok (.iload_n 2, 1) := by decide +kernel
theorem d_Mod_point_36 : decode i_Mod_point.2.1 36 = .ok (.iconst 0, 1) := by decide +kernel
theorem d_Mod_point_37 : decode i_Mod_point.2.1 37 = .ok (.aload_n 0, 1) := by decide +kernel
theorem d_Mod_point_38 : decode i_Mod_point.2.1 38 = .ok (.getfield 205, 3) := by decide +kernel
theorem d_Mod_point_41 : decode i_Mod_point.2.1 41 = .ok (.iconst 1, 1) := by decide +kernel
theorem d_Mod_point_42 : decode i_Mod_point.2.1 42 = .ok (.isub, 1) := by decide +kernel
theorem d_Mod_point_43 : decode i_Mod_point.2.1 43 = .ok (.invokestatic 71, 3) := by decide +kernel
theorem d_Mod_point_46 : decode i_Mod_point.2.1 46 = .ok (.ifCond .ne 6, 3) := by decide +kernel
theorem d_Mod_point_49 : decode i_Mod_point.2.1 49 = .ok (.ldc 75, 2) := by decide +kernel
theorem d_Mod_point_51 : decode i_Mod_point.2.1 51 = .ok (.ireturn, 1) := by decide +kernel
theorem d_Mod_point_52 : decode i_Mod_point.2.1 52 = .ok (.aload_n 0, 1) := by decide +kernel
theorem d_Mod_point_53 : decode i_Mod_point.2.1 53 = .ok (.iload_n 1, 1) := by decide +kernel
theorem d_Mod_point_54 : decode i_Mod_point.2.1 54 = .ok (.iload_n 2, 1) := by decide +kernel
theorem d_Mod_point_55 : decode i_Mod_point.2.1 55 = .ok (.invokevirtual 223, 3) := by decide +kernel
theorem d_Mod_point_58 : decode i_Mod_point.2.1 58 = .ok (.ifCond .eq 8, 3) := by decide +kernel
theorem d_Mod_point_61 : decode i_Mod_point.2.1 61 = .ok (.ldc 185, 2) := by decide +kernel
theorem d_Mod_point_63 : decode i_Mod_point.2.1 63 = .ok (.goto 12, 3) := by decide +kernel
theorem d_Mod_point_66 : decode i_Mod_point.2.1 66 = .ok (.aload_n 0, 1) := by decide +kernel
theorem d_Mod_point_67 : decode i_Mod_point.2.1 67 = .ok (.iload_n 1, 1) := by decide +kernel
theorem d_Mod_point_68 : decode i_Mod_point.2.1 68 = .ok (.iload_n 2, 1) := by decide +kernel
theorem d_Mod_point_69 : decode i_Mod_point.2.1 69 = .ok (.iload_n 3, 1) := by decide +kernel
theorem d_Mod_point_70 : decode i_Mod_point.2.1 70 = .ok (.iload 4, 2) := by decide +kernel
theorem d_Mod_point_72 : decode i_Mod_point.2.1 72 = .ok (.invokevirtual 238, 3) := by decide +kernel
theorem d_Mod_point_75 : decode i_Mod_point.2.1 75 = .ok (.ireturn, 1) := by decide +kernel
theorem d_Mod_adds_0 : decode i_Mod_adds.2.1 0 = .ok (.aload_n 0, 1) := by decide +kernel
theorem d_Mod_adds_1 : decode i_Mod_adds.2.1 1 = .ok (.getfield 65, 3) := by decide +kernel
theorem d_Mod_adds_4 : decode i_Mod_adds.2.1 4 = .ok (.aload_n 0, 1) := by decide +kernel
theorem d_Mod_adds_5 : decode i_Mod_adds.2.1 5 = .ok (.getfield 241, 3) := by decide +kernel
theorem d_Mod_adds_8 : decode i_Mod_adds.2.1 8 = .ok (.iload_n 1, 1) := by decide +kernel
theorem d_Mod_adds_9 : decode i_Mod_adds.2.1 9 = .ok (.iastore, 1) := by decide +kernel
theorem d_Mod_adds_10 : decode i_Mod_adds.2.1 10 = .ok (.aload_n 0, 1) := by decide +kernel
theorem d_Mod_adds_11 : decode i_Mod_adds.2.1 11 = .ok (.getfield 68, 3) := by decide +kernel
theorem d_Mod_adds_14 : decode i_Mod_adds.2.1 14 = .ok (.aload_n 0, 1) := by decide +kernel
theorem d_Mod_adds_15 : decode i_Mod_adds.2.1 15 = .ok (.getfield 241, 3) := by decide +kernel
theorem d_Mod_adds_18 : decode i_Mod_adds.2.1 18 = .ok (.iload_n 2, 1) := by decide +kernel
theorem d_Mod_adds_19 : decode i_Mod_adds.2.1 19 = .ok (.iastore, 1) := by decide +kernel
theorem d_Mod_adds_20 : decode i_Mod_adds.2.1 20 = .ok (.aload_n 0, 1) := by decide +kernel
theorem d_Mod_adds_21 : decode i_Mod_adds.2.1 21 = .ok (.dup, 1) := by decide +kernel
theorem d_Mod_adds_22 : decode i_Mod_adds.2.1 22 = .ok (.getfield 241, 3) := by decide +kernel
theorem d_Mod_adds_25 : decode i_Mod_adds.2.1 25 = .ok (.iconst 1, 1) := by decide +kernel
theorem d_Mod_adds_26 : decode i_Mod_adds.2.1 26 = .ok (.iadd, 1) := by decide +kernel
theorem d_Mod_adds_27 : decode i_Mod_adds.2.1 27 = .ok (.putfield 241, 3) := by decide +kernel
theorem d_Mod_adds_30 : decode i_Mod_adds.2.1 30 = .ok (.return_, 1) := by decide +kernel
theorem d_Mod_laysLine_0 : decode i_Mod_laysLine.2.1 0 = .ok (.aload_n 0, 1) := by decide +kernel
theorem d_Mod_laysLine_1 : decode i_Mod_laysLine.2.1 1 = .ok (.iload_n 1, 1) := by decide +kernel
theorem d_Mod_laysLine_2 : decode i_Mod_laysLine.2.1 2 = .ok (.invokevirtual 226, 3) := by decide +kernel
theorem d_Mod_laysLine_5 : decode i_Mod_laysLine.2.1 5 = .ok (.aload_n 0, 1) := by decide +kernel
theorem d_Mod_laysLine_6 : decode i_Mod_laysLine.2.1 6 = .ok (.iconst 0, 1) := by decide +kernel
theorem d_Mod_laysLine_7 : decode i_Mod_laysLine.2.1 7 = .ok (.putfield 241, 3) := by decide +kernel
theorem d_Mod_laysLine_10 : decode i_Mod_laysLine.2.1 10 = .ok (.iconst 0, 1) := by decide +kernel
theorem d_Mod_laysLine_11 : decode i_Mod_laysLine.2.1 11 = .ok (.istore_n 3, 1) := by decide +kernel
theorem d_Mod_laysLine_12 : decode i_Mod_laysLine.2.1 12 = .ok (.iload_n 3, 1) := by decide +kernel
theorem d_Mod_laysLine_13 : decode i_Mod_laysLine.2.1 13 = .ok (.aload_n 0, 1) := by decide +kernel
theorem d_Mod_laysLine_14 : decode i_Mod_laysLine.2.1 14 = .ok (.getfield 205, 3) := by decide +kernel
theorem d_Mod_laysLine_17 : decode i_Mod_laysLine.2.1 17 = .ok (.if_icmp .ge 129, 3) := by decide +kernel
theorem d_Mod_laysLine_20 : decode i_Mod_laysLine.2.1 20 = .ok (.iload_n 2, 1) := by decide +kernel
theorem d_Mod_laysLine_21 : decode i_Mod_laysLine.2.1 21 = .ok (.iconst 1, 1) := by decide +kernel
theorem d_Mod_laysLine_22 : decode i_Mod_laysLine.2.1 22 = .ok (.if_icmp .ne 43, 3) := by decide +kernel
theorem d_Mod_laysLine_25 : decode i_Mod_laysLine.2.1 25 = .ok (.aload_n 0, 1) := by decide +kernel
theorem d_Mod_laysLine_26 : decode i_Mod_laysLine.2.1 26 = .ok (.bipush 16, 2) := by decide +kernel
theorem d_Mod_laysLine_28 : decode i_Mod_laysLine.2.1 28 = .ok (.aload_n 0, 1) := by decide +kernel
theorem d_Mod_laysLine_29 : decode i_Mod_laysLine.2.1 29 = .ok (.iload_n 1, 1) := by decide +kernel
theorem d_Mod_laysLine_30 : decode i_Mod_laysLine.2.1 30 = .ok (.iload_n 3, 1) := by decide +kernel
theorem d_Mod_laysLine_31 : decode i_Mod_laysLine.2.1 31 = .ok (.iconst 1, 1) := by decide +kernel
theorem d_Mod_laysLine_32 : decode i_Mod_laysLine.2.1 32 = .ok (.isub, 1) := by decide +kernel
theorem d_Mod_laysLine_33 : decode i_Mod_laysLine.2.1 33 = .ok (.invokevirtual 211, 3) := by decide +kernel
theorem d_Mod_laysLine_36 : decode i_Mod_laysLine.2.1 36 = .ok (.aload_n 0, 1) := by decide +kernel
theorem d_Mod_laysLine_37 : decode i_Mod_laysLine.2.1 37 = .ok (.iload_n 1, 1) := by decide +kernel
theorem d_Mod_laysLine_38 : decode i_Mod_laysLine.2.1 38 = .ok (.iload_n 3, 1) := by decide +kernel
theorem d_Mod_laysLine_39 : decode i_Mod_laysLine.2.1 39 = .ok (.invokevirtual 211, 3) := by decide +kernel
theorem d_Mod_laysLine_42 : decode i_Mod_laysLine.2.1 42 = .ok (.iadd, 1) := by decide +kernel
theorem d_Mod_laysLine_43 : decode i_Mod_laysLine.2.1 43 = .ok (.imul, 1) := by decide +kernel
theorem d_Mod_laysLine_44 : decode i_Mod_laysLine.2.1 44 = .ok (.bipush 16, 2) := by decide +kernel
theorem d_Mod_laysLine_46 : decode i_Mod_laysLine.2.1 46 = .ok (.aload_n 0, 1) := by decide +kernel
theorem d_Mod_laysLine_47 : decode i_Mod_laysLine.2.1 47 = .ok (.iload_n 1, 1) := by decide +kernel
theorem d_Mod_laysLine_48 : decode i_Mod_laysLine.2.1 48 = .ok (.iload_n 3, 1) := by decide +kernel
theorem d_Mod_laysLine_49 : decode i_Mod_laysLine.2.1 49 = .ok (.iconst 1, 1) := by decide +kernel
theorem d_Mod_laysLine_50 : decode i_Mod_laysLine.2.1 50 = .ok (.isub, 1) := by decide +kernel
theorem d_Mod_laysLine_51 : decode i_Mod_laysLine.2.1 51 = .ok (.invokevirtual 214, 3) := by decide +kernel
theorem d_Mod_laysLine_54 : decode i_Mod_laysLine.2.1 54 = .ok (.aload_n 0, 1) := by decide +kernel
theorem d_Mod_laysLine_55 : decode i_Mod_laysLine.2.1 55 = .ok (.iload_n 1, 1) := by decide +kernel
theorem d_Mod_laysLine_56 : decode i_Mod_laysLine.2.1 56 = .ok (.iload_n 3, 1) := by decide +kernel
theorem d_Mod_laysLine_57 : decode i_Mod_laysLine.2.1 57 = .ok (.invokevirtual 214, 3) := by decide +kernel
theorem d_Mod_laysLine_60 : decode i_Mod_laysLine.2.1 60 = .ok (.iadd, 1) := by decide +kernel
theorem d_Mod_laysLine_61 : decode i_Mod_laysLine.2.1 61 = .ok (.imul, 1) := by decide +kernel
theorem d_Mod_laysLine_62 : decode i_Mod_laysLine.2.1 62 = .ok (.invokevirtual 244, 3) := by decide +kernel
theorem d_Mod_laysLine_65 : decode i_Mod_laysLine.2.1 65 = .ok (.iload_n 2, 1) := by decide +kernel
theorem d_Mod_laysLine_66 : decode i_Mod_laysLine.2.1 66 = .ok (.ifCond .eq 12, 3) := by decide +kernel
theorem d_Mod_laysLine_69 : decode i_Mod_laysLine.2.1 69 = .ok (.aload_n 0, 1) := by decide +kernel
theorem d_Mod_laysLine_70 : decode i_Mod_laysLine.2.1 70 = .ok (.iload_n 1, 1) := by decide +kernel
theorem d_Mod_laysLine_71 : decode i_Mod_laysLine.2.1 71 = .ok (.iload_n 3, 1) := by decide +kernel
theorem d_Mod_laysLine_72 : decode i_Mod_laysLine.2.1 72 = .ok (.invokevirtual 223, 3) := by decide +kernel
theorem d_Mod_laysLine_75 : decode i_Mod_laysLine.2.1 75 = .ok (.ifCond .eq 28, 3) := by decide +kernel
theorem d_Mod_laysLine_78 : decode i_Mod_laysLine.2.1 78 = .ok (.aload_n 0, 1) := by decide +kernel
theorem d_Mod_laysLine_79 : decode i_Mod_laysLine.2.1 79 = .ok (.bipush 32, 2) := by decide +kernel
theorem d_Mod_laysLine_81 : decode i_Mod_laysLine.2.1 81 = .ok (.aload_n 0, 1) := by decide +kernel
theorem d_Mod_laysLine_82 : decode i_Mod_laysLine.2.1 82 = .ok (.iload_n 1, 1) := by decide +kernel
theorem d_Mod_laysLine_83 : decode i_Mod_laysLine.2.1 83 = .ok (.iload_n 3, 1) := by decide +kernel
theorem d_Mod_laysLine_84 : decode i_Mod_laysLine.2.1 84 = .ok (.invokevirtual 211, 3) := by decide +kernel
theorem d_Mod_laysLine_87 : decode i_Mod_laysLine.2.1 87 = .ok (.imul, 1) := by decide +kernel
theorem d_Mod_laysLine_88 : decode i_Mod_laysLine.2.1 88 = .ok (.bipush 32, 2) := by decide +kernel
theorem d_Mod_laysLine_90 : decode i_Mod_laysLine.2.1 90 = .ok (.aload_n 0, 1) := by decide +kernel
theorem d_Mod_laysLine_91 : decode i_Mod_laysLine.2.1 91 = .ok (.iload_n 1, 1) := by decide +kernel
theorem d_Mod_laysLine_92 : decode i_Mod_laysLine.2.1 92 = .ok (.iload_n 3, 1) := by decide +kernel
theorem d_Mod_laysLine_93 : decode i_Mod_laysLine.2.1 93 = .ok (.invokevirtual 214, 3) := by decide +kernel
theorem d_Mod_laysLine_96 : decode i_Mod_laysLine.2.1 96 = .ok (.imul, 1) := by decide +kernel
theorem d_Mod_laysLine_97 : decode i_Mod_laysLine.2.1 97 = .ok (.invokevirtual 244, 3) := by decide +kernel
theorem d_Mod_laysLine_100 : decode i_Mod_laysLine.2.1 100 = .ok (.goto 40, 3) := by decide +kernel
theorem d_Mod_laysLine_103 : decode i_Mod_laysLine.2.1 103 = .ok (.iconst 1, 1) := by decide +kernel
theorem d_Mod_laysLine_104 : decode i_Mod_laysLine.2.1 104 = .ok (.istore 4, 2) := by decide +kernel
theorem d_Mod_laysLine_106 : decode i_Mod_laysLine.2.1 106 = .ok (.iload 4, 2) := by decide +kernel
theorem d_Mod_laysLine_108 : decode i_Mod_laysLine.2.1 108 = .ok (.iconst 4, 1) := by decide +kernel
theorem d_Mod_laysLine_109 : decode i_Mod_laysLine.2.1 109 = .ok (.if_icmp .ge 31, 3) := by decide +kernel
theorem d_Mod_laysLine_112 : decode i_Mod_laysLine.2.1 112 = .ok (.aload_n 0, 1) := by decide +kernel
theorem d_Mod_laysLine_113 : decode i_Mod_laysLine.2.1 113 = .ok (.aload_n 0, 1) := by decide +kernel
theorem d_Mod_laysLine_114 : decode i_Mod_laysLine.2.1 114 = .ok (.iload_n 1, 1) := by decide +kernel
theorem d_Mod_laysLine_115 : decode i_Mod_laysLine.2.1 115 = .ok (.iload_n 3, 1) := by decide +kernel
theorem d_Mod_laysLine_116 : decode i_Mod_laysLine.2.1 116 = .ok (.iload 4, 2) := by decide +kernel
theorem d_Mod_laysLine_118 : decode i_Mod_laysLine.2.1 118 = .ok (.iconst 0, 1) := by decide +kernel
theorem d_Mod_laysLine_119 : decode i_Mod_laysLine.2.1 119 = .ok (.invokevirtual 238, 3) := by decide +kernel
theorem d_Mod_laysLine_122 : decode i_Mod_laysLine.2.1 122 = .ok (.aload_n 0, 1) := by decide +kernel
theorem d_Mod_laysLine_123 : decode i_Mod_laysLine.2.1 123 = .ok (.iload_n 1, 1) := by decide +kernel
theorem d_Mod_laysLine_124 : decode i_Mod_laysLine.2.1 124 = .ok (.iload_n 3, 1) := by decide +kernel
theorem d_Mod_laysLine_125 : decode i_Mod_laysLine.2.1 125 = .ok (.iload 4, 2) := by decide +kernel
theorem d_Mod_laysLine_127 : decode i_Mod_laysLine.2.1 127 = .ok (.iconst 1, 1) := by decide +kernel
theorem d_Mod_laysLine_128 : decode i_Mod_laysLine.2.1 128 = .ok (.invokevirtual 238, 3) := by decide +kernel
theorem d_Mod_laysLine_131 : decode i_Mod_laysLine.2.1 131 = .ok (.invokevirtual 244, 3) := by decide +kernel
theorem d_Mod_laysLine_134 : decode i_Mod_laysLine.2.1 134 = .ok (.iinc 4 1, 3) := by decide +kernel
theorem d_Mod_laysLine_137 : decode i_Mod_laysLine.2.1 137 = .ok (.goto (-31), 3) := by decide +kernel
theorem d_Mod_laysLine_140 : decode i_Mod_laysLine.2.1 140 = .ok (.iinc 3 1, 3) := by decide +kernel
theorem d_Mod_laysLine_143 : decode i_Mod_laysLine.2.1 143 = .ok (.goto (-131), 3) := by decide +kernel
theorem d_Mod_laysLine_146 : decode i_Mod_laysLine.2.1 146 = .ok (.return_, 1) := by decide +kernel
theorem d_Mod_isFilled_0 : decode i_Mod_isFilled.2.1 0 = .ok (.bipush 32, 2) := by decide +kernel
theorem d_Mod_isFilled_2 : decode i_Mod_isFilled.2.1 2 = .ok (.iload_n 1, 1) := by decide +kernel
theorem d_Mod_isFilled_3 : decode i_Mod_isFilled.2.1 3 = .ok (.imul, 1) := by decide +kernel
theorem d_Mod_isFilled_4 : decode i_Mod_isFilled.2.1 4 = .ok (.bipush 16, 2) := by decide +kernel
theorem d_Mod_isFilled_6 : decode i_Mod_isFilled.2.1 6 = .ok (.iadd, 1) := by decide +kernel
theorem d_Mod_isFilled_7 : decode i_Mod_isFilled.2.1 7 = .ok (.istore_n 3, 1) := by decide +kernel
theorem d_Mod_isFilled_8 : decode i_Mod_isFilled.2.1 8 = .ok (.bipush 32, 2) := by decide +kernel
theorem d_Mod_isFilled_10 : decode i_Mod_isFilled.2.1 10 = .ok (.iload_n 2, 1) := by decide +kernel
theorem d_Mod_isFilled_11 : decode i_Mod_isFilled.2.1 11 = .ok (.imul, 1) := by decide +kernel
theorem d_Mod_isFilled_12 : decode i_Mod_isFilled.2.1 12 = .ok (.bipush 16, 2) := by decide +kernel
theorem d_Mod_isFilled_14 : decode i_Mod_isFilled.2.1 14 = .ok (.iadd, 1) := by decide +kernel
theorem d_Mod_isFilled_15 : decode i_Mod_isFilled.2.1 15 = .ok (.istore 4, 2) := by decide +kernel
theorem d_Mod_isFilled_17 : decode i_Mod_isFilled.2.1 17 = .ok (.iconst 0, 1) := by decide +kernel
theorem d_Mod_isFilled_18 : decode i_Mod_isFilled.2.1 18 = .ok (.istore 5, 2) := by decide +kernel
theorem d_Mod_isFilled_20 : decode i_Mod_isFilled.2.1 20 = .ok (.iconst 0, 1) := by decide +kernel
theorem d_Mod_isFilled_21 : decode i_Mod_isFilled.2.1 21 = .ok (.istore 6, 2) := by decide +kernel
theorem d_Mod_isFilled_23 : decode i_Mod_isFilled.2.1 23 = .ok (.iload 6, 2) := by decide +kernel
theorem d_Mod_isFilled_25 : decode i_Mod_isFilled.2.1 25 = .ok (.aload_n 0, 1) := by decide +kernel
theorem d_Mod_isFilled_26 : decode i_Mod_isFilled.2.1 26 = .ok (.getfield 241, 3) := by decide +kernel
theorem d_Mod_isFilled_29 : decode i_Mod_isFilled.2.1 29 = .ok (.if_icmp .ge 152, 3) := by decide +kernel
theorem d_Mod_isFilled_32 : decode i_Mod_isFilled.2.1 32 = .ok (.iload 6, 2) := by decide +kernel
theorem d_Mod_isFilled_34 : decode i_Mod_isFilled.2.1 34 = .ok (.iconst 1, 1) := by decide +kernel
theorem d_Mod_isFilled_35 : decode i_Mod_isFilled.2.1 35 = .ok (.iadd, 1) := by decide +kernel
theorem d_Mod_isFilled_36 : decode i_Mod_isFilled.2.1 36 = .ok (.aload_n 0, 1) := by decide +kernel
theorem d_Mod_isFilled_37 : decode i_Mod_isFilled.2.1 37 = .ok (.getfield 241, 3) := by decide +kernel
theorem d_Mod_isFilled_40 : decode i_Mod_isFilled.2.1 40 = .ok (.irem, 1) := by decide +kernel
theorem d_Mod_isFilled_41 : decode i_Mod_isFilled.2.1 41 = .ok (.istore 7, 2) := by decide +kernel
theorem d_Mod_isFilled_43 : decode i_Mod_isFilled.2.1 43 = .ok (.aload_n 0, 1) := by decide +kernel
theorem d_Mod_isFilled_44 : decode i_Mod_isFilled.2.1 44 = .ok (.getfield 68, 3) := by decide +kernel
theorem d_Mod_isFilled_47 : decode i_Mod_isFilled.2.1 47 = .ok (.iload 6, 2) := by decide +kernel
theorem d_Mod_isFilled_49 : decode i_Mod_isFilled.2.1 49 = .ok (.iaload, 1) := by decide +kernel
theorem d_Mod_isFilled_50 : decode i_Mod_isFilled.2.1 50 = .ok (.iload 4, 2) := by decide +kernel
theorem d_Mod_isFilled_52 : decode i_Mod_isFilled.2.1 52 = .ok (.if_icmp .ge 7, 3) := by decide +kernel
theorem d_Mod_isFilled_55 : decode i_Mod_isFilled.2.1 55 = .ok (.iconst 1, 1) := by decide +kernel
theorem d_Mod_isFilled_56 : decode i_Mod_isFilled.2.1 56 = .ok (.goto 4, 3) := by decide +kernel
theorem d_Mod_isFilled_59 : decode i_Mod_isFilled.2.1 59 = .ok (.iconst 0, 1) := by decide +kernel
theorem d_Mod_isFilled_60 : decode i_Mod_isFilled.2.1 60 = .ok (.istore 8, 2) := by decide +kernel
theorem d_Mod_isFilled_62 : decode i_Mod_isFilled.2.1 62 = .ok (.iload 8, 2) := by decide +kernel
theorem d_Mod_isFilled_64 : decode i_Mod_isFilled.2.1 64 = .ok (.aload_n 0, 1) := by decide +kernel
theorem d_Mod_isFilled_65 : decode i_Mod_isFilled.2.1 65 = .ok (.getfield 68, 3) := by decide +kernel
theorem d_Mod_isFilled_68 : decode i_Mod_isFilled.2.1 68 = .ok (.iload 7, 2) := by decide +kernel
theorem d_Mod_isFilled_70 : decode i_Mod_isFilled.2.1 70 = .ok (.iaload, 1) := by decide +kernel
theorem d_Mod_isFilled_71 : decode i_Mod_isFilled.2.1 71 = .ok (.iload 4, 2) := by decide +kernel
theorem d_Mod_isFilled_73 : decode i_Mod_isFilled.2.1 73 = .ok (.if_icmp .ge 7, 3) := by decide +kernel
theorem d_Mod_isFilled_76 : decode i_Mod_isFilled.2.1 76 = .ok (.iconst 1, 1) := by decide +kernel
theorem d_Mod_isFilled_77 : decode i_Mod_isFilled.2.1 77 = .ok (.goto 4, 3) := by decide +kernel
theorem d_Mod_isFilled_80 : decode i_Mod_isFilled.2.1 80 = .ok (.iconst 0, 1) := by decide +kernel
theorem d_Mod_isFilled_81 : decode i_Mod_isFilled.2.1 81 = .ok (.if_icmp .eq 94, 3) := by decide +kernel
theorem d_Mod_isFilled_84 : decode i_Mod_isFilled.2.1 84 = .ok (.aload_n 0, 1) := by decide +kernel
theorem d_Mod_isFilled_85 : decode i_Mod_isFilled.2.1 85 = .ok (.getfield 68, 3) := by decide +kernel
theorem d_Mod_isFilled_88 : decode i_Mod_isFilled.2.1 88 = .ok (.iload 7, 2) := by decide +kernel
theorem d_Mod_isFilled_90 : decode i_Mod_isFilled.2.1 90 = .ok (.iaload, 1) := by decide +kernel
theorem d_Mod_isFilled_91 : decode i_Mod_isFilled.2.1 91 = .ok (.aload_n 0, 1) := by decide +kernel
theorem d_Mod_isFilled_92 : decode i_Mod_isFilled.2.1 92 = .ok (.getfield 68, 3) := by decide +kernel
theorem d_Mod_isFilled_95 : decode i_Mod_isFilled.2.1 95 = .ok (.iload 6, 2) := by decide +kernel
theorem d_Mod_isFilled_97 : decode i_Mod_isFilled.2.1 97 = .ok (.iaload, 1) := by decide +kernel
theorem d_Mod_isFilled_98 : decode i_Mod_isFilled.2.1 98 = .ok (.isub, 1) := by decide +kernel
theorem d_Mod_isFilled_99 : decode i_Mod_isFilled.2.1 99 = .ok (.istore 9, 2) := by decide +kernel
theorem d_Mod_isFilled_101 : decode i_Mod_isFilled.2.1 101 = .ok (.aload_n 0, 1) := by decide +kernel
theorem d_Mod_isFilled_102 : decode i_Mod_isFilled.2.1 102 = .ok (.getfield 65, 3) := by decide +kernel
theorem d_Mod_isFilled_105 : decode i_Mod_isFilled.2.1 105 = .ok (.iload 6, 2) := by decide +kernel
theorem d_Mod_isFilled_107 : decode i_Mod_isFilled.2.1 107 = .ok (.iaload, 1) := by decide +kernel
theorem d_Mod_isFilled_108 : decode i_Mod_isFilled.2.1 108 = .ok (.iload_n 3, 1) := by decide +kernel
theorem d_Mod_isFilled_109 : decode i_Mod_isFilled.2.1 109 = .ok (.isub, 1) := by decide +kernel
theorem d_Mod_isFilled_110 : decode i_Mod_isFilled.2.1 110 = .ok (.iload 9, 2) := by decide +kernel
theorem d_Mod_isFilled_112 : decode i_Mod_isFilled.2.1 112 = .ok (.imul, 1) := by decide +kernel
theorem d_Mod_isFilled_113 : decode i_Mod_isFilled.2.1 113 = .ok (.iload 4, 2) := by decide +kernel
theorem d_Mod_isFilled_115 : decode i_Mod_isFilled.2.1 115 = .ok (.aload_n 0, 1) := by decide +kernel
theorem d_Mod_isFilled_116 : decode i_Mod_isFilled.2.1 116 = .ok (.getfield 68, 3) := by decide +kernel
theorem d_Mod_isFilled_119 : decode i_Mod_isFilled.2.1 119 = .ok (.iload 6, 2) := by decide +kernel
theorem d_Mod_isFilled_121 : decode i_Mod_isFilled.2.1 121 = .ok (.iaload, 1) := by decide +kernel
theorem d_Mod_isFilled_122 : decode i_Mod_isFilled.2.1 122 = .ok (.isub, 1) := by decide +kernel
theorem d_Mod_isFilled_123 : decode i_Mod_isFilled.2.1 123 = .ok (.aload_n 0, 1) := by decide +kernel
theorem d_Mod_isFilled_124 : decode i_Mod_isFilled.2.1 124 = .ok (.getfield 65, 3) := by decide +kernel
theorem d_Mod_isFilled_127 : decode i_Mod_isFilled.2.1 127 = .ok (.iload 7, 2) := by decide +kernel
theorem d_Mod_isFilled_129 : decode i_Mod_isFilled.2.1 129 = .ok (.iaload, 1) := by decide +kernel
theorem d_Mod_isFilled_130 : decode i_Mod_isFilled.2.1 130 = .ok (.aload_n 0, 1) := by decide +kernel
theorem d_Mod_isFilled_131 : decode i_Mod_isFilled.2.1 131 = .ok (.getfield 65, 3) := by decide +kernel
theorem d_Mod_isFilled_134 : decode i_Mod_isFilled.2.1 134 = .ok (.iload 6, 2) := by decide +kernel
theorem d_Mod_isFilled_136 : decode i_Mod_isFilled.2.1 136 = .ok (.iaload, 1) := by decide +kernel
theorem d_Mod_isFilled_137 : decode i_Mod_isFilled.2.1 137 = .ok (.isub, 1) := by decide +kernel
theorem d_Mod_isFilled_138 : decode i_Mod_isFilled.2.1 138 = .ok (.imul, 1) := by decide +kernel
theorem d_Mod_isFilled_139 : decode i_Mod_isFilled.2.1 139 = .ok (.iadd, 1) := by decide +kernel
theorem d_Mod_isFilled_140 : decode i_Mod_isFilled.2.1 140 = .ok (.istore 10, 2) := by decide +kernel
theorem d_Mod_isFilled_142 : decode i_Mod_isFilled.2.1 142 = .ok (.iload 5, 2) := by decide +kernel
theorem d_Mod_isFilled_144 : decode i_Mod_isFilled.2.1 144 = .ok (.iload 9, 2) := by decide +kernel
theorem d_Mod_isFilled_146 : decode i_Mod_isFilled.2.1 146 = .ok (.ifCond .le 16, 3) := by decide +kernel
theorem d_Mod_isFilled_149 : decode i_Mod_isFilled.2.1 149 = .ok (.iload 10, 2) := by decide +kernel
theorem d_Mod_isFilled_151 : decode i_Mod_isFilled.2.1 151 = .ok (.ifCond .ge 7, 3) := by decide +kernel
theorem d_Mod_isFilled_154 : decode i_Mod_isFilled.2.1 154 = .ok (.iconst 1, 1) := by decide +kernel
theorem d_Mod_isFilled_155 : decode i_Mod_isFilled.2.1 155 = .ok (.goto 17, 3) := by decide +kernel
theorem d_Mod_isFilled_158 : decode i_Mod_isFilled.2.1 158 = .ok (.iconst 0, 1) := by decide +kernel
theorem d_Mod_isFilled_159 : decode i_Mod_isFilled.2.1 159 = .ok (.goto 13, 3) := by decide +kernel
theorem d_Mod_isFilled_162 : decode i_Mod_isFilled.2.1 162 = .ok (.iload 10, 2) := by decide +kernel
theorem d_Mod_isFilled_164 : decode i_Mod_isFilled.2.1 164 = .ok (.ifCond .le 7, 3) := by decide +kernel
theorem d_Mod_isFilled_167 : decode i_Mod_isFilled.2.1 167 = .ok (.iconst 1, 1) := by decide +kernel
theorem d_Mod_isFilled_168 : decode i_Mod_isFilled.2.1 168 = .ok (.goto 4, 3) := by decide +kernel
theorem d_Mod_isFilled_171 : decode i_Mod_isFilled.2.1 171 = .ok (.iconst 0, 1) := by decide +kernel
theorem d_Mod_isFilled_172 : decode i_Mod_isFilled.2.1 172 = .ok (.iadd, 1) := by decide +kernel
theorem d_Mod_isFilled_173 : decode i_Mod_isFilled.2.1 173 = .ok (.istore 5, 2) := by decide +kernel
theorem d_Mod_isFilled_175 : decode i_Mod_isFilled.2.1 175 = .ok (.iinc 6 1, 3) := by decide +kernel
theorem d_Mod_isFilled_178 : decode i_Mod_isFilled.2.1 178 = .ok (.goto (-155), 3) := by decide +kernel
theorem d_Mod_isFilled_181 : decode i_Mod_isFilled.2.1 181 = .ok (.iload 5, 2) := by decide +kernel
theorem d_Mod_isFilled_183 : decode i_Mod_isFilled.2.1 183 = .ok (.iconst 2, 1) := by decide +kernel
theorem d_Mod_isFilled_184 : decode i_Mod_isFilled.2.1 184 = .ok (.irem, 1) := by decide +kernel
theorem d_Mod_isFilled_185 : decode i_Mod_isFilled.2.1 185 = .ok (.iconst 1, 1) := by decide +kernel
theorem d_Mod_isFilled_186 : decode i_Mod_isFilled.2.1 186 = .ok (.if_icmp .ne 7, 3) := by decide +kernel
theorem d_Mod_isFilled_189 : decode i_Mod_isFilled.2.1 189 = .ok (.iconst 1, 1) := by decide +kernel
theorem d_Mod_isFilled_190 : decode i_Mod_isFilled.2.1 190 = .ok (.goto 4, 3) := by decide +kernel
theorem d_Mod_isFilled_193 : decode i_Mod_isFilled.2.1 193 = .ok (.iconst 0, 1) := by decide +kernel
theorem d_Mod_isFilled_194 : decode i_Mod_isFilled.2.1 194 = .ok (.ireturn, 1) := by decide +kernel
theorem d_Mod_filled_0 : decode i_Mod_filled.2.1 0 = .ok (.aload_n 0, 1) := by decide +kernel
theorem d_Mod_filled_1 : decode i_Mod_filled.2.1 1 = .ok (.iload_n 1, 1) := by decide +kernel
theorem d_Mod_filled_2 : decode i_Mod_filled.2.1 2 = .ok (.invokevirtual 169, 3) := by decide +kernel
theorem d_Mod_filled_5 : decode i_Mod_filled.2.1 5 = .ok (.ifCond .eq 22, 3) := by decide +kernel
theorem d_Mod_filled_8 : decode i_Mod_filled.2.1 8 = .ok (.iload_n 2, 1) := by decide +kernel
theorem d_Mod_filled_9 : decode i_Mod_filled.2.1 9 = .ok (.iconst 0, 1) := by decide +kernel
theorem d_Mod_filled_10 : decode i_Mod_filled.2.1 10 = .ok (.iconst 1, 1) := by decide +kernel
theorem d_Mod_filled_11 : decode i_Mod_filled.2.1 11 = .ok (.invokestatic 71, 3) := by decide +kernel
theorem d_Mod_filled_14 : decode i_Mod_filled.2.1 14 = .ok (.ifCond .eq 13, 3) := by decide +kernel
theorem d_Mod_filled_17 : decode i_Mod_filled.2.1 17 = .ok (.aload_n 0, 1) := by decide +kernel
theorem d_Mod_filled_18 : decode i_Mod_filled.2.1 18 = .ok (.iload_n 3, 1) := by decide +kernel
theorem d_Mod_filled_19 : decode i_Mod_filled.2.1 19 = .ok (.iload 4, 2) := by decide +kernel
theorem d_Mod_filled_21 : decode i_Mod_filled.2.1 21 = .ok (.invokevirtual 118, 3) := by decide +kernel
theorem d_Mod_filled_24 : decode i_Mod_filled.2.1 24 = .ok (.ifCond .ne 6, 3) := by decide +kernel
theorem d_Mod_filled_27 : decode i_Mod_filled.2.1 27 = .ok (.ldc 75, 2) := by decide +kernel
theorem d_Mod_filled_29 : decode i_Mod_filled.2.1 29 = .ok (.ireturn, 1) := by decide +kernel
theorem d_Mod_filled_30 : decode i_Mod_filled.2.1 30 = .ok (.aload_n 0, 1) := by decide +kernel
theorem d_Mod_filled_31 : decode i_Mod_filled.2.1 31 = .ok (.iload_n 1, 1) := by decide +kernel
theorem d_Mod_filled_32 : decode i_Mod_filled.2.1 32 = .ok (.iload_n 2, 1) := by decide +kernel
theorem d_Mod_filled_33 : decode i_Mod_filled.2.1 33 = .ok (.invokevirtual 247, 3) := by decide +kernel
theorem d_Mod_filled_36 : decode i_Mod_filled.2.1 36 = .ok (.aload_n 0, 1) := by decide +kernel
theorem d_Mod_filled_37 : decode i_Mod_filled.2.1 37 = .ok (.iload_n 3, 1) := by decide +kernel
theorem d_Mod_filled_38 : decode i_Mod_filled.2.1 38 = .ok (.iload 4, 2) := by decide +kernel
theorem d_Mod_filled_40 : decode i_Mod_filled.2.1 40 = .ok (.invokevirtual 250, 3) := by decide +kernel
theorem d_Mod_filled_43 : decode i_Mod_filled.2.1 43 = .ok (.ifCond .eq 7, 3) := by decide +kernel
theorem d_Mod_filled_46 : decode i_Mod_filled.2.1 46 = .ok (.iconst 1, 1) := by decide +kernel
