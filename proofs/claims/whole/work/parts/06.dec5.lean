theorem d_Mod_filled_47 : decode i_Mod_filled.2.1 47 = .ok (.goto 4, 3) := by decide +kernel
theorem d_Mod_filled_50 : decode i_Mod_filled.2.1 50 = .ok (.iconst 0, 1) := by decide +kernel
theorem d_Mod_filled_51 : decode i_Mod_filled.2.1 51 = .ok (.ireturn, 1) := by decide +kernel
theorem d_Mod_differ_0 : decode i_Mod_differ.2.1 0 = .ok (.aload_n 0, 1) := by decide +kernel
theorem d_Mod_differ_1 : decode i_Mod_differ.2.1 1 = .ok (.iload_n 1, 1) := by decide +kernel
theorem d_Mod_differ_2 : decode i_Mod_differ.2.1 2 = .ok (.invokevirtual 169, 3) := by decide +kernel
theorem d_Mod_differ_5 : decode i_Mod_differ.2.1 5 = .ok (.ifCond .eq 12, 3) := by decide +kernel
theorem d_Mod_differ_8 : decode i_Mod_differ.2.1 8 = .ok (.iload_n 2, 1) := by decide +kernel
theorem d_Mod_differ_9 : decode i_Mod_differ.2.1 9 = .ok (.iconst 0, 1) := by decide +kernel
theorem d_Mod_differ_10 : decode i_Mod_differ.2.1 10 = .ok (.iconst 1, 1) := by decide +kernel
theorem d_Mod_differ_11 : decode i_Mod_differ.2.1 11 = .ok (.invokestatic 71, 3) := by decide +kernel
theorem d_Mod_differ_14 : decode i_Mod_differ.2.1 14 = .ok (.ifCond .ne 6, 3) := by decide +kernel
theorem d_Mod_differ_17 : decode i_Mod_differ.2.1 17 = .ok (.ldc 75, 2) := by decide +kernel
theorem d_Mod_differ_19 : decode i_Mod_differ.2.1 19 = .ok (.ireturn, 1) := by decide +kernel
theorem d_Mod_differ_20 : decode i_Mod_differ.2.1 20 = .ok (.aload_n 0, 1) := by decide +kernel
theorem d_Mod_differ_21 : decode i_Mod_differ.2.1 21 = .ok (.iload_n 1, 1) := by decide +kernel
theorem d_Mod_differ_22 : decode i_Mod_differ.2.1 22 = .ok (.iload_n 2, 1) := by decide +kernel
theorem d_Mod_differ_23 : decode i_Mod_differ.2.1 23 = .ok (.invokevirtual 247, 3) := by decide +kernel
theorem d_Mod_differ_26 : decode i_Mod_differ.2.1 26 = .ok (.iconst 0, 1) := by decide +kernel
theorem d_Mod_differ_27 : decode i_Mod_differ.2.1 27 = .ok (.istore_n 3, 1) := by decide +kernel
theorem d_Mod_differ_28 : decode i_Mod_differ.2.1 28 = .ok (.iconst 0, 1) := by decide +kernel
theorem d_Mod_differ_29 : decode i_Mod_differ.2.1 29 = .ok (.istore 4, 2) := by decide +kernel
theorem d_Mod_differ_31 : decode i_Mod_differ.2.1 31 = .ok (.iload 4, 2) := by decide +kernel
theorem d_Mod_differ_33 : decode i_Mod_differ.2.1 33 = .ok (.bipush 64, 2) := by decide +kernel
theorem d_Mod_differ_35 : decode i_Mod_differ.2.1 35 = .ok (.if_icmp .ge 66, 3) := by decide +kernel
theorem d_Mod_differ_38 : decode i_Mod_differ.2.1 38 = .ok (.iload_n 3, 1) := by decide +kernel
theorem d_Mod_differ_39 : decode i_Mod_differ.2.1 39 = .ok (.aload_n 0, 1) := by decide +kernel
theorem d_Mod_differ_40 : decode i_Mod_differ.2.1 40 = .ok (.iload 4, 2) := by decide +kernel
theorem d_Mod_differ_42 : decode i_Mod_differ.2.1 42 = .ok (.bipush 8, 2) := by decide +kernel
theorem d_Mod_differ_44 : decode i_Mod_differ.2.1 44 = .ok (.irem, 1) := by decide +kernel
theorem d_Mod_differ_45 : decode i_Mod_differ.2.1 45 = .ok (.iload 4, 2) := by decide +kernel
theorem d_Mod_differ_47 : decode i_Mod_differ.2.1 47 = .ok (.bipush 8, 2) := by decide +kernel
theorem d_Mod_differ_49 : decode i_Mod_differ.2.1 49 = .ok (.idiv, 1) := by decide +kernel
theorem d_Mod_differ_50 : decode i_Mod_differ.2.1 50 = .ok (.invokevirtual 118, 3) := by decide +kernel
theorem d_Mod_differ_53 : decode i_Mod_differ.2.1 53 = .ok (.ifCond .eq 39, 3) := by decide +kernel
theorem d_Mod_differ_56 : decode i_Mod_differ.2.1 56 = .ok (.aload_n 0, 1) := by decide +kernel
theorem d_Mod_differ_57 : decode i_Mod_differ.2.1 57 = .ok (.iload 4, 2) := by decide +kernel
theorem d_Mod_differ_59 : decode i_Mod_differ.2.1 59 = .ok (.bipush 8, 2) := by decide +kernel
theorem d_Mod_differ_61 : decode i_Mod_differ.2.1 61 = .ok (.irem, 1) := by decide +kernel
theorem d_Mod_differ_62 : decode i_Mod_differ.2.1 62 = .ok (.iload 4, 2) := by decide +kernel
theorem d_Mod_differ_64 : decode i_Mod_differ.2.1 64 = .ok (.bipush 8, 2) := by decide +kernel
theorem d_Mod_differ_66 : decode i_Mod_differ.2.1 66 = .ok (.idiv, 1) := by decide +kernel
theorem d_Mod_differ_67 : decode i_Mod_differ.2.1 67 = .ok (.invokevirtual 250, 3) := by decide +kernel
theorem d_Mod_differ_70 : decode i_Mod_differ.2.1 70 = .ok (.aload_n 0, 1) := by decide +kernel
theorem d_Mod_differ_71 : decode i_Mod_differ.2.1 71 = .ok (.iload_n 1, 1) := by decide +kernel
theorem d_Mod_differ_72 : decode i_Mod_differ.2.1 72 = .ok (.iload 4, 2) := by decide +kernel
theorem d_Mod_differ_74 : decode i_Mod_differ.2.1 74 = .ok (.bipush 8, 2) := by decide +kernel
theorem d_Mod_differ_76 : decode i_Mod_differ.2.1 76 = .ok (.irem, 1) := by decide +kernel
theorem d_Mod_differ_77 : decode i_Mod_differ.2.1 77 = .ok (.iload 4, 2) := by decide +kernel
theorem d_Mod_differ_79 : decode i_Mod_differ.2.1 79 = .ok (.bipush 8, 2) := by decide +kernel
theorem d_Mod_differ_81 : decode i_Mod_differ.2.1 81 = .ok (.idiv, 1) := by decide +kernel
theorem d_Mod_differ_82 : decode i_Mod_differ.2.1 82 = .ok (.invokevirtual 180, 3) := by decide +kernel
theorem d_Mod_differ_85 : decode i_Mod_differ.2.1 85 = .ok (.if_icmp .eq 7, 3) := by decide +kernel
theorem d_Mod_differ_88 : decode i_Mod_differ.2.1 88 = .ok (.iconst 1, 1) := by decide +kernel
theorem d_Mod_differ_89 : decode i_Mod_differ.2.1 89 = .ok (.goto 4, 3) := by decide +kernel
theorem d_Mod_differ_92 : decode i_Mod_differ.2.1 92 = .ok (.iconst 0, 1) := by decide +kernel
theorem d_Mod_differ_93 : decode i_Mod_differ.2.1 93 = .ok (.iadd, 1) := by decide +kernel
theorem d_Mod_differ_94 : decode i_Mod_differ.2.1 94 = .ok (.istore_n 3, 1) := by decide +kernel
theorem d_Mod_differ_95 : decode i_Mod_differ.2.1 95 = .ok (.iinc 4 1, 3) := by decide +kernel
theorem d_Mod_differ_98 : decode i_Mod_differ.2.1 98 = .ok (.goto (-67), 3) := by decide +kernel
theorem d_Mod_differ_101 : decode i_Mod_differ.2.1 101 = .ok (.iload_n 3, 1) := by decide +kernel
theorem d_Mod_differ_102 : decode i_Mod_differ.2.1 102 = .ok (.ireturn, 1) := by decide +kernel
theorem d_Mod_wrong_0 : decode i_Mod_wrong.2.1 0 = .ok (.aload_n 0, 1) := by decide +kernel
theorem d_Mod_wrong_1 : decode i_Mod_wrong.2.1 1 = .ok (.invokevirtual 125, 3) := by decide +kernel
theorem d_Mod_wrong_4 : decode i_Mod_wrong.2.1 4 = .ok (.ifCond .ne 6, 3) := by decide +kernel
theorem d_Mod_wrong_7 : decode i_Mod_wrong.2.1 7 = .ok (.ldc 117, 2) := by decide +kernel
theorem d_Mod_wrong_9 : decode i_Mod_wrong.2.1 9 = .ok (.ireturn, 1) := by decide +kernel
theorem d_Mod_wrong_10 : decode i_Mod_wrong.2.1 10 = .ok (.iload_n 1, 1) := by decide +kernel
theorem d_Mod_wrong_11 : decode i_Mod_wrong.2.1 11 = .ok (.iconst 0, 1) := by decide +kernel
theorem d_Mod_wrong_12 : decode i_Mod_wrong.2.1 12 = .ok (.iconst 1, 1) := by decide +kernel
theorem d_Mod_wrong_13 : decode i_Mod_wrong.2.1 13 = .ok (.invokestatic 71, 3) := by decide +kernel
theorem d_Mod_wrong_16 : decode i_Mod_wrong.2.1 16 = .ok (.ifCond .ne 6, 3) := by decide +kernel
theorem d_Mod_wrong_19 : decode i_Mod_wrong.2.1 19 = .ok (.ldc 75, 2) := by decide +kernel
theorem d_Mod_wrong_21 : decode i_Mod_wrong.2.1 21 = .ok (.ireturn, 1) := by decide +kernel
theorem d_Mod_wrong_22 : decode i_Mod_wrong.2.1 22 = .ok (.aload_n 0, 1) := by decide +kernel
theorem d_Mod_wrong_23 : decode i_Mod_wrong.2.1 23 = .ok (.invokevirtual 166, 3) := by decide +kernel
theorem d_Mod_wrong_26 : decode i_Mod_wrong.2.1 26 = .ok (.lconst 0, 1) := by decide +kernel
theorem d_Mod_wrong_27 : decode i_Mod_wrong.2.1 27 = .ok (.lstore_n 2, 1) := by decide +kernel
theorem d_Mod_wrong_28 : decode i_Mod_wrong.2.1 28 = .ok (.iconst 0, 1) := by decide +kernel
theorem d_Mod_wrong_29 : decode i_Mod_wrong.2.1 29 = .ok (.istore 4, 2) := by decide +kernel
theorem d_Mod_wrong_31 : decode i_Mod_wrong.2.1 31 = .ok (.iload 4, 2) := by decide +kernel
theorem d_Mod_wrong_33 : decode i_Mod_wrong.2.1 33 = .ok (.aload_n 0, 1) := by decide +kernel
theorem d_Mod_wrong_34 : decode i_Mod_wrong.2.1 34 = .ok (.getfield 156, 3) := by decide +kernel
theorem d_Mod_wrong_37 : decode i_Mod_wrong.2.1 37 = .ok (.if_icmp .ge 77, 3) := by decide +kernel
theorem d_Mod_wrong_40 : decode i_Mod_wrong.2.1 40 = .ok (.aload_n 0, 1) := by decide +kernel
theorem d_Mod_wrong_41 : decode i_Mod_wrong.2.1 41 = .ok (.iload 4, 2) := by decide +kernel
theorem d_Mod_wrong_43 : decode i_Mod_wrong.2.1 43 = .ok (.iload_n 1, 1) := by decide +kernel
theorem d_Mod_wrong_44 : decode i_Mod_wrong.2.1 44 = .ok (.invokevirtual 247, 3) := by decide +kernel
theorem d_Mod_wrong_47 : decode i_Mod_wrong.2.1 47 = .ok (.iconst 0, 1) := by decide +kernel
theorem d_Mod_wrong_48 : decode i_Mod_wrong.2.1 48 = .ok (.istore 5, 2) := by decide +kernel
theorem d_Mod_wrong_50 : decode i_Mod_wrong.2.1 50 = .ok (.iload 5, 2) := by decide +kernel
theorem d_Mod_wrong_52 : decode i_Mod_wrong.2.1 52 = .ok (.bipush 64, 2) := by decide +kernel
theorem d_Mod_wrong_54 : decode i_Mod_wrong.2.1 54 = .ok (.if_icmp .ge 54, 3) := by decide +kernel
theorem d_Mod_wrong_57 : decode i_Mod_wrong.2.1 57 = .ok (.lload_n 2, 1) := by decide +kernel
theorem d_Mod_wrong_58 : decode i_Mod_wrong.2.1 58 = .ok (.aload_n 0, 1) := by decide +kernel
theorem d_Mod_wrong_59 : decode i_Mod_wrong.2.1 59 = .ok (.iload 5, 2) := by decide +kernel
theorem d_Mod_wrong_61 : decode i_Mod_wrong.2.1 61 = .ok (.bipush 8, 2) := by decide +kernel
theorem d_Mod_wrong_63 : decode i_Mod_wrong.2.1 63 = .ok (.irem, 1) := by decide +kernel
theorem d_Mod_wrong_64 : decode i_Mod_wrong.2.1 64 = .ok (.iload 5, 2) := by decide +kernel
theorem d_Mod_wrong_66 : decode i_Mod_wrong.2.1 66 = .ok (.bipush 8, 2) := by decide +kernel
theorem d_Mod_wrong_68 : decode i_Mod_wrong.2.1 68 = .ok (.idiv, 1) := by decide +kernel
theorem d_Mod_wrong_69 : decode i_Mod_wrong.2.1 69 = .ok (.invokevirtual 118, 3) := by decide +kernel
theorem d_Mod_wrong_72 : decode i_Mod_wrong.2.1 72 = .ok (.ifCond .eq 27, 3) := by decide +kernel
theorem d_Mod_wrong_75 : decode i_Mod_wrong.2.1 75 = .ok (.aload_n 0, 1) := by decide +kernel
theorem d_Mod_wrong_76 : decode i_Mod_wrong.2.1 76 = .ok (.iload 5, 2) := by decide +kernel
theorem d_Mod_wrong_78 : decode i_Mod_wrong.2.1 78 = .ok (.bipush 8, 2) := by decide +kernel
theorem d_Mod_wrong_80 : decode i_Mod_wrong.2.1 80 = .ok (.irem, 1) := by decide +kernel
theorem d_Mod_wrong_81 : decode i_Mod_wrong.2.1 81 = .ok (.iload 5, 2) := by decide +kernel
theorem d_Mod_wrong_83 : decode i_Mod_wrong.2.1 83 = .ok (.bipush 8, 2) := by decide +kernel
theorem d_Mod_wrong_85 : decode i_Mod_wrong.2.1 85 = .ok (.idiv, 1) := by decide +kernel
theorem d_Mod_wrong_86 : decode i_Mod_wrong.2.1 86 = .ok (.invokevirtual 250, 3) := by decide +kernel
theorem d_Mod_wrong_89 : decode i_Mod_wrong.2.1 89 = .ok (.ifCond .eq 10, 3) := by decide +kernel
theorem d_Mod_wrong_92 : decode i_Mod_wrong.2.1 92 = .ok (.lconst 1, 1) := by decide +kernel
theorem d_Mod_wrong_93 : decode i_Mod_wrong.2.1 93 = .ok (.iload 5, 2) := by decide +kernel
theorem d_Mod_wrong_95 : decode i_Mod_wrong.2.1 95 = .ok (.lshl, 1) := by decide +kernel
theorem d_Mod_wrong_96 : decode i_Mod_wrong.2.1 96 = .ok (.goto 4, 3) := by decide +kernel
theorem d_Mod_wrong_99 : decode i_Mod_wrong.2.1 99 = .ok (.lconst 0, 1) := by decide +kernel
theorem d_Mod_wrong_100 : decode i_Mod_wrong.2.1 100 = .ok (.lxor, 1) := by decide +kernel
theorem d_Mod_wrong_101 : decode i_Mod_wrong.2.1 101 = .ok (.lstore_n 2, 1) := by decide +kernel
theorem d_Mod_wrong_102 : decode i_Mod_wrong.2.1 102 = .ok (.iinc 5 1, 3) := by decide +kernel
theorem d_Mod_wrong_105 : decode i_Mod_wrong.2.1 105 = .ok (.goto (-55), 3) := by decide +kernel
theorem d_Mod_wrong_108 : decode i_Mod_wrong.2.1 108 = .ok (.iinc 4 1, 3) := by decide +kernel
theorem d_Mod_wrong_111 : decode i_Mod_wrong.2.1 111 = .ok (.goto (-80), 3) := by decide +kernel
theorem d_Mod_wrong_114 : decode i_Mod_wrong.2.1 114 = .ok (.iconst 0, 1) := by decide +kernel
theorem d_Mod_wrong_115 : decode i_Mod_wrong.2.1 115 = .ok (.istore 4, 2) := by decide +kernel
theorem d_Mod_wrong_117 : decode i_Mod_wrong.2.1 117 = .ok (.iload 4, 2) := by decide +kernel
theorem d_Mod_wrong_119 : decode i_Mod_wrong.2.1 119 = .ok (.bipush 64, 2) := by decide +kernel
theorem d_Mod_wrong_121 : decode i_Mod_wrong.2.1 121 = .ok (.if_icmp .ge 25, 3) := by decide +kernel
theorem d_Mod_wrong_124 : decode i_Mod_wrong.2.1 124 = .ok (.lload_n 2, 1) := by decide +kernel
theorem d_Mod_wrong_125 : decode i_Mod_wrong.2.1 125 = .ok (.aload_n 0, 1) := by decide +kernel
theorem d_Mod_wrong_126 : decode i_Mod_wrong.2.1 126 = .ok (.getfield 7, 3) := by decide +kernel
theorem d_Mod_wrong_129 : decode i_Mod_wrong.2.1 129 = .ok (.iconst 4, 1) := by decide +kernel
theorem d_Mod_wrong_130 : decode i_Mod_wrong.2.1 130 = .ok (.iload 4, 2) := by decide +kernel
theorem d_Mod_wrong_132 : decode i_Mod_wrong.2.1 132 = .ok (.iadd, 1) := by decide +kernel
theorem d_Mod_wrong_133 : decode i_Mod_wrong.2.1 133 = .ok (.iaload, 1) := by decide +kernel
theorem d_Mod_wrong_134 : decode i_Mod_wrong.2.1 134 = .ok (.i2l, 1) := by decide +kernel
theorem d_Mod_wrong_135 : decode i_Mod_wrong.2.1 135 = .ok (.iload 4, 2) := by decide +kernel
theorem d_Mod_wrong_137 : decode i_Mod_wrong.2.1 137 = .ok (.lshl, 1) := by decide +kernel
theorem d_Mod_wrong_138 : decode i_Mod_wrong.2.1 138 = .ok (.lxor, 1) := by decide +kernel
theorem d_Mod_wrong_139 : decode i_Mod_wrong.2.1 139 = .ok (.lstore_n 2, 1) := by decide +kernel
theorem d_Mod_wrong_140 : decode i_Mod_wrong.2.1 140 = .ok (.iinc 4 1, 3) := by decide +kernel
theorem d_Mod_wrong_143 : decode i_Mod_wrong.2.1 143 = .ok (.goto (-26), 3) := by decide +kernel
theorem d_Mod_wrong_146 : decode i_Mod_wrong.2.1 146 = .ok (.lload_n 2, 1) := by decide +kernel
theorem d_Mod_wrong_147 : decode i_Mod_wrong.2.1 147 = .ok (.invokestatic 173, 3) := by decide +kernel
theorem d_Mod_wrong_150 : decode i_Mod_wrong.2.1 150 = .ok (.ireturn, 1) := by decide +kernel
theorem d_Mod_all_0 : decode i_Mod_all.2.1 0 = .ok (.aload_n 0, 1) := by decide +kernel
theorem d_Mod_all_1 : decode i_Mod_all.2.1 1 = .ok (.invokevirtual 125, 3) := by decide +kernel
theorem d_Mod_all_4 : decode i_Mod_all.2.1 4 = .ok (.ifCond .ne 6, 3) := by decide +kernel
theorem d_Mod_all_7 : decode i_Mod_all.2.1 7 = .ok (.ldc 117, 2) := by decide +kernel
theorem d_Mod_all_9 : decode i_Mod_all.2.1 9 = .ok (.ireturn, 1) := by decide +kernel
theorem d_Mod_all_10 : decode i_Mod_all.2.1 10 = .ok (.iload_n 1, 1) := by decide +kernel
theorem d_Mod_all_11 : decode i_Mod_all.2.1 11 = .ok (.iconst 0, 1) := by decide +kernel
theorem d_Mod_all_12 : decode i_Mod_all.2.1 12 = .ok (.iconst 2, 1) := by decide +kernel
theorem d_Mod_all_13 : decode i_Mod_all.2.1 13 = .ok (.invokestatic 71, 3) := by decide +kernel
theorem d_Mod_all_16 : decode i_Mod_all.2.1 16 = .ok (.ifCond .ne 6, 3) := by decide +kernel
theorem d_Mod_all_19 : decode i_Mod_all.2.1 19 = .ok (.ldc 75, 2) := by decide +kernel
theorem d_Mod_all_21 : decode i_Mod_all.2.1 21 = .ok (.ireturn, 1) := by decide +kernel
theorem d_Mod_all_22 : decode i_Mod_all.2.1 22 = .ok (.aload_n 0, 1) := by decide +kernel
theorem d_Mod_all_23 : decode i_Mod_all.2.1 23 = .ok (.invokevirtual 166, 3) := by decide +kernel
theorem d_Mod_all_26 : decode i_Mod_all.2.1 26 = .ok (.iconst 0, 1) := by decide +kernel
theorem d_Mod_all_27 : decode i_Mod_all.2.1 27 = .ok (.istore_n 2, 1) := by decide +kernel
theorem d_Mod_all_28 : decode i_Mod_all.2.1 28 = .ok (.iconst 0, 1) := by decide +kernel
theorem d_Mod_all_29 : decode i_Mod_all.2.1 29 = .ok (.istore_n 3, 1) := by decide +kernel
theorem d_Mod_all_30 : decode i_Mod_all.2.1 30 = .ok (.iload_n 3, 1) := by decide +kernel
theorem d_Mod_all_31 : decode i_Mod_all.2.1 31 = .ok (.aload_n 0, 1) := by decide +kernel
theorem d_Mod_all_32 : decode i_Mod_all.2.1 32 = .ok (.getfield 156, 3) := by decide +kernel
theorem d_Mod_all_35 : decode i_Mod_all.2.1 35 = .ok (.if_icmp .ge 50, 3) := by decide +kernel
theorem d_Mod_all_38 : decode i_Mod_all.2.1 38 = .ok (.iload_n 1, 1) := by decide +kernel
theorem d_Mod_all_39 : decode i_Mod_all.2.1 39 = .ok (.ifCond .ne 15, 3) := by decide +kernel
theorem d_Mod_all_42 : decode i_Mod_all.2.1 42 = .ok (.iload_n 2, 1) := by decide +kernel
theorem d_Mod_all_43 : decode i_Mod_all.2.1 43 = .ok (.aload_n 0, 1) := by decide +kernel
theorem d_Mod_all_44 : decode i_Mod_all.2.1 44 = .ok (.getfield 31, 3) := by decide +kernel
theorem d_Mod_all_47 : decode i_Mod_all.2.1 47 = .ok (.iload_n 3, 1) := by decide +kernel
theorem d_Mod_all_48 : decode i_Mod_all.2.1 48 = .ok (.iaload, 1) := by decide +kernel
theorem d_Mod_all_49 : decode i_Mod_all.2.1 49 = .ok (.iadd, 1) := by decide +kernel
theorem d_Mod_all_50 : decode i_Mod_all.2.1 50 = .ok (.istore_n 2, 1) := by decide +kernel
theorem d_Mod_all_51 : decode i_Mod_all.2.1 51 = .ok (.goto 28, 3) := by decide +kernel
theorem d_Mod_all_54 : decode i_Mod_all.2.1 54 = .ok (.aload_n 0, 1) := by decide +kernel
theorem d_Mod_all_55 : decode i_Mod_all.2.1 55 = .ok (.iload_n 3, 1) := by decide +kernel
theorem d_Mod_all_56 : decode i_Mod_all.2.1 56 = .ok (.invokevirtual 226, 3) := by decide +kernel
theorem d_Mod_all_59 : decode i_Mod_all.2.1 59 = .ok (.iload_n 2, 1) := by decide +kernel
theorem d_Mod_all_60 : decode i_Mod_all.2.1 60 = .ok (.iload_n 1, 1) := by decide +kernel
theorem d_Mod_all_61 : decode i_Mod_all.2.1 61 = .ok (.iconst 1, 1) := by decide +kernel
theorem d_Mod_all_62 : decode i_Mod_all.2.1 62 = .ok (.if_icmp .ne 10, 3) := by decide +kernel
theorem d_Mod_all_65 : decode i_Mod_all.2.1 65 = .ok (.aload_n 0, 1) := by decide +kernel
theorem d_Mod_all_66 : decode i_Mod_all.2.1 66 = .ok (.getfield 205, 3) := by decide +kernel
theorem d_Mod_all_69 : decode i_Mod_all.2.1 69 = .ok (.goto 8, 3) := by decide +kernel
theorem d_Mod_all_72 : decode i_Mod_all.2.1 72 = .ok (.aload_n 0, 1) := by decide +kernel
theorem d_Mod_all_73 : decode i_Mod_all.2.1 73 = .ok (.iload_n 3, 1) := by decide +kernel
theorem d_Mod_all_74 : decode i_Mod_all.2.1 74 = .ok (.invokevirtual 229, 3) := by decide +kernel
theorem d_Mod_all_77 : decode i_Mod_all.2.1 77 = .ok (.iadd, 1) := by decide +kernel
theorem d_Mod_all_78 : decode i_Mod_all.2.1 78 = .ok (.istore_n 2, 1) := by decide +kernel
theorem d_Mod_all_79 : decode i_Mod_all.2.1 79 = .ok (.iinc 3 1, 3) := by decide +kernel
theorem d_Mod_all_82 : decode i_Mod_all.2.1 82 = .ok (.goto (-52), 3) := by decide +kernel
theorem d_Mod_all_85 : decode i_Mod_all.2.1 85 = .ok (.iload_n 2, 1) := by decide +kernel
theorem d_Mod_all_86 : decode i_Mod_all.2.1 86 = .ok (.ireturn, 1) := by decide +kernel
theorem d_Mod_image_0 : decode i_Mod_image.2.1 0 = .ok (.iload_n 1, 1) := by decide +kernel
theorem d_Mod_image_1 : decode i_Mod_image.2.1 1 = .ok (.iconst 0, 1) := by decide +kernel
theorem d_Mod_image_2 : decode i_Mod_image.2.1 2 = .ok (.iconst 1, 1) := by decide +kernel
theorem d_Mod_image_3 : decode i_Mod_image.2.1 3 = .ok (.invokestatic 71, 3) := by decide +kernel
theorem d_Mod_image_6 : decode i_Mod_image.2.1 6 = .ok (.ifCond .ne 6, 3) := by decide +kernel
theorem d_Mod_image_9 : decode i_Mod_image.2.1 9 = .ok (.ldc 75, 2) := by decide +kernel
theorem d_Mod_image_11 : decode i_Mod_image.2.1 11 = .ok (.ireturn, 1) := by decide +kernel
theorem d_Mod_image_12 : decode i_Mod_image.2.1 12 = .ok (.aload_n 0, 1) := by decide +kernel
theorem d_Mod_image_13 : decode i_Mod_image.2.1 13 = .ok (.invokevirtual 125, 3) := by decide +kernel
theorem d_Mod_image_16 : decode i_Mod_image.2.1 16 = .ok (.ifCond .ne 6, 3) := by decide +kernel
theorem d_Mod_image_19 : decode i_Mod_image.2.1 19 = .ok (.ldc 117, 2) := by decide +kernel
theorem d_Mod_image_21 : decode i_Mod_image.2.1 21 = .ok (.ireturn, 1) := by decide +kernel
theorem d_Mod_image_22 : decode i_Mod_image.2.1 22 = .ok (.aload_n 0, 1) := by decide +kernel
theorem d_Mod_image_23 : decode i_Mod_image.2.1 23 = .ok (.getfield 7, 3) := by decide +kernel
theorem d_Mod_image_26 : decode i_Mod_image.2.1 26 = .ok (.iconst 0, 1) := by decide +kernel
theorem d_Mod_image_27 : decode i_Mod_image.2.1 27 = .ok (.aload_n 0, 1) := by decide +kernel
theorem d_Mod_image_28 : decode i_Mod_image.2.1 28 = .ok (.getfield 16, 3) := by decide +kernel
theorem d_Mod_image_31 : decode i_Mod_image.2.1 31 = .ok (.bipush 68, 2) := by decide +kernel
theorem d_Mod_image_33 : decode i_Mod_image.2.1 33 = .ok (.iload_n 1, 1) := by decide +kernel
theorem d_Mod_image_34 : decode i_Mod_image.2.1 34 = .ok (.imul, 1) := by decide +kernel
theorem d_Mod_image_35 : decode i_Mod_image.2.1 35 = .ok (.bipush 68, 2) := by decide +kernel
theorem d_Mod_image_37 : decode i_Mod_image.2.1 37 = .ok (.invokestatic 103, 3) := by decide +kernel
theorem d_Mod_image_40 : decode i_Mod_image.2.1 40 = .ok (.aload_n 0, 1) := by decide +kernel
theorem d_Mod_image_41 : decode i_Mod_image.2.1 41 = .ok (.getfield 19, 3) := by decide +kernel
theorem d_Mod_image_44 : decode i_Mod_image.2.1 44 = .ok (.iload_n 1, 1) := by decide +kernel
theorem d_Mod_image_45 : decode i_Mod_image.2.1 45 = .ok (.iconst 1, 1) := by decide +kernel
theorem d_Mod_image_46 : decode i_Mod_image.2.1 46 = .ok (.iastore, 1) := by decide +kernel
theorem d_Mod_image_47 : decode i_Mod_image.2.1 47 = .ok (.iconst 1, 1) := by decide +kernel
theorem d_Mod_image_48 : decode i_Mod_image.2.1 48 = .ok (.ireturn, 1) := by decide +kernel
theorem d_Mod_restore_0 : decode i_Mod_restore.2.1 0 = .ok (.iload_n 1, 1) := by decide +kernel
theorem d_Mod_restore_1 : decode i_Mod_restore.2.1 1 = .ok (.iconst 0, 1) := by decide +kernel
theorem d_Mod_restore_2 : decode i_Mod_restore.2.1 2 = .ok (.iconst 1, 1) := by decide +kernel
theorem d_Mod_restore_3 : decode i_Mod_restore.2.1 3 = .ok (.invokestatic 71, 3) := by decide +kernel
theorem d_Mod_restore_6 : decode i_Mod_restore.2.1 6 = .ok (.ifCond .ne 6, 3) := by decide +kernel
theorem d_Mod_restore_9 : decode i_Mod_restore.2.1 9 = .ok (.ldc 75, 2) := by decide +kernel
theorem d_Mod_restore_11 : decode i_Mod_restore.2.1 11 = .ok (.ireturn, 1) := by decide +kernel
theorem d_Mod_restore_12 : decode i_Mod_restore.2.1 12 = .ok (.aload_n 0, 1) := by decide +kernel
theorem d_Mod_restore_13 : decode i_Mod_restore.2.1 13 = .ok (.getfield 19, 3) := by decide +kernel
theorem d_Mod_restore_16 : decode i_Mod_restore.2.1 16 = .ok (.iload_n 1, 1) := by decide +kernel
theorem d_Mod_restore_17 : decode i_Mod_restore.2.1 17 = .ok (.iaload, 1) := by decide +kernel
theorem d_Mod_restore_18 : decode i_Mod_restore.2.1 18 = .ok (.ifCond .ne 6, 3) := by decide +kernel
theorem d_Mod_restore_21 : decode i_Mod_restore.2.1 21 = .ok (.ldc 117, 2) := by decide +kernel
theorem d_Mod_restore_23 : decode i_Mod_restore.2.1 23 = .ok (.ireturn, 1) := by decide +kernel
theorem d_Mod_restore_24 : decode i_Mod_restore.2.1 24 = .ok (.aload_n 0, 1) := by decide +kernel
theorem d_Mod_restore_25 : decode i_Mod_restore.2.1 25 = .ok (.getfield 16, 3) := by decide +kernel
theorem d_Mod_restore_28 : decode i_Mod_restore.2.1 28 = .ok (.bipush 68, 2) := by decide +kernel
theorem d_Mod_restore_30 : decode i_Mod_restore.2.1 30 = .ok (.iload_n 1, 1) := by decide +kernel
theorem d_Mod_restore_31 : decode i_Mod_restore.2.1 31 = .ok (.imul, 1) := by decide +kernel
theorem d_Mod_restore_32 : decode i_Mod_restore.2.1 32 = .ok (.aload_n 0, 1) := by decide +kernel
theorem d_Mod_restore_33 : decode i_Mod_restore.2.1 33 = .ok (.getfield 7, 3) := by decide +kernel
theorem d_Mod_restore_36 : decode i_Mod_restore.2.1 36 = .ok (.iconst 0, 1) := by decide +kernel
theorem d_Mod_restore_37 : decode i_Mod_restore.2.1 37 = .ok (.bipush 68, 2) := by decide +kernel
theorem d_Mod_restore_39 : decode i_Mod_restore.2.1 39 = .ok (.invokestatic 103, 3) := by decide +kernel
theorem d_Mod_restore_42 : decode i_Mod_restore.2.1 42 = .ok (.aload_n 0, 1) := by decide +kernel
theorem d_Mod_restore_43 : decode i_Mod_restore.2.1 43 = .ok (.iconst 0, 1) := by decide +kernel
theorem d_Mod_restore_44 : decode i_Mod_restore.2.1 44 = .ok (.putfield 107, 3) := by decide +kernel
theorem d_Mod_restore_47 : decode i_Mod_restore.2.1 47 = .ok (.aload_n 0, 1) := by decide +kernel
theorem d_Mod_restore_48 : decode i_Mod_restore.2.1 48 = .ok (.iconst 0, 1) := by decide +kernel
theorem d_Mod_restore_49 : decode i_Mod_restore.2.1 49 = .ok (.putfield 110, 3) := by decide +kernel
theorem d_Mod_restore_52 : decode i_Mod_restore.2.1 52 = .ok (.iconst 1, 1) := by decide +kernel
theorem d_Mod_restore_53 : decode i_Mod_restore.2.1 53 = .ok (.ireturn, 1) := by decide +kernel
theorem d_Mod_count_0 : decode i_Mod_count.2.1 0 = .ok (.iload_n 1, 1) := by decide +kernel
theorem d_Mod_count_1 : decode i_Mod_count.2.1 1 = .ok (.tableswitch 75 0 5 #[39, 53, 58, 58, 65, 70], 39) := by decide +kernel
theorem d_Mod_count_40 : decode i_Mod_count.2.1 40 = .ok (.aload_n 0, 1) := by decide +kernel
theorem d_Mod_count_41 : decode i_Mod_count.2.1 41 = .ok (.getfield 7, 3) := by decide +kernel
theorem d_Mod_count_44 : decode i_Mod_count.2.1 44 = .ok (.iconst 0, 1) := by decide +kernel
theorem d_Mod_count_45 : decode i_Mod_count.2.1 45 = .ok (.iaload, 1) := by decide +kernel
theorem d_Mod_count_46 : decode i_Mod_count.2.1 46 = .ok (.aload_n 0, 1) := by decide +kernel
theorem d_Mod_count_47 : decode i_Mod_count.2.1 47 = .ok (.getfield 7, 3) := by decide +kernel
theorem d_Mod_count_50 : decode i_Mod_count.2.1 50 = .ok (.iconst 1, 1) := by decide +kernel
theorem d_Mod_count_51 : decode i_Mod_count.2.1 51 = .ok (.iaload, 1) := by decide +kernel
theorem d_Mod_count_52 : decode i_Mod_count.2.1 52 = .ok (.imul, 1) := by decide +kernel
theorem d_Mod_count_53 : decode i_Mod_count.2.1 53 = .ok (.ireturn, 1) := by decide +kernel
theorem d_Mod_count_54 : decode i_Mod_count.2.1 54 = .ok (.aload_n 0, 1) := by decide +kernel
theorem d_Mod_count_55 : decode i_Mod_count.2.1 55 = .ok (.invokevirtual 114, 3) := by decide +kernel
theorem d_Mod_count_58 : decode i_Mod_count.2.1 58 = .ok (.ireturn, 1) := by decide +kernel
theorem d_Mod_count_59 : decode i_Mod_count.2.1 59 = .ok (.aload_n 0, 1) := by decide +kernel
theorem d_Mod_count_60 : decode i_Mod_count.2.1 60 = .ok (.getfield 7, 3) := by decide +kernel
theorem d_Mod_count_63 : decode i_Mod_count.2.1 63 = .ok (.iload_n 1, 1) := by decide +kernel
theorem d_Mod_count_64 : decode i_Mod_count.2.1 64 = .ok (.iaload, 1) := by decide +kernel
theorem d_Mod_count_65 : decode i_Mod_count.2.1 65 = .ok (.ireturn, 1) := by decide +kernel
theorem d_Mod_count_66 : decode i_Mod_count.2.1 66 = .ok (.aload_n 0, 1) := by decide +kernel
theorem d_Mod_count_67 : decode i_Mod_count.2.1 67 = .ok (.getfield 107, 3) := by decide +kernel
theorem d_Mod_count_70 : decode i_Mod_count.2.1 70 = .ok (.ireturn, 1) := by decide +kernel
theorem d_Mod_count_71 : decode i_Mod_count.2.1 71 = .ok (.aload_n 0, 1) := by decide +kernel
theorem d_Mod_count_72 : decode i_Mod_count.2.1 72 = .ok (.getfield 76, 3) := by decide +kernel
theorem d_Mod_count_75 : decode i_Mod_count.2.1 75 = .ok (.ireturn, 1) := by decide +kernel
theorem d_Mod_count_76 : decode i_Mod_count.2.1 76 = .ok (.ldc 75, 2) := by decide +kernel
theorem d_Mod_count_78 : decode i_Mod_count.2.1 78 = .ok (.ireturn, 1) := by decide +kernel
theorem d_Lng_bitCount_0 : decode i_Lng_bitCount.2.1 0 = .ok (.lload_n 0, 1) := by decide +kernel
theorem d_Lng_bitCount_1 : decode i_Lng_bitCount.2.1 1 = .ok (.lload_n 0, 1) := by decide +kernel
theorem d_Lng_bitCount_2 : decode i_Lng_bitCount.2.1 2 = .ok (.iconst 1, 1) := by decide +kernel
theorem d_Lng_bitCount_3 : decode i_Lng_bitCount.2.1 3 = .ok (.lushr, 1) := by decide +kernel
theorem d_Lng_bitCount_4 : decode i_Lng_bitCount.2.1 4 = .ok (.ldc2_w 314, 3) := by decide +kernel
theorem d_Lng_bitCount_7 : decode i_Lng_bitCount.2.1 7 = .ok (.land, 1) := by decide +kernel
theorem d_Lng_bitCount_8 : decode i_Lng_bitCount.2.1 8 = .ok (.lsub, 1) := by decide +kernel
theorem d_Lng_bitCount_9 : decode i_Lng_bitCount.2.1 9 = .ok (.lstore_n 0, 1) := by decide +kernel
theorem d_Lng_bitCount_10 : decode i_Lng_bitCount.2.1 10 = .ok (.lload_n 0, 1) := by decide +kernel
theorem d_Lng_bitCount_11 : decode i_Lng_bitCount.2.1 11 = .ok (.ldc2_w 316, 3) := by decide +kernel
theorem d_Lng_bitCount_14 : decode i_Lng_bitCount.2.1 14 = .ok (.land, 1) := by decide +kernel
theorem d_Lng_bitCount_15 : decode i_Lng_bitCount.2.1 15 = .ok (.lload_n 0, 1) := by decide +kernel
theorem d_Lng_bitCount_16 : decode i_Lng_bitCount.2.1 16 = .ok (.iconst 2, 1) := by decide +kernel
theorem d_Lng_bitCount_17 : decode i_Lng_bitCount.2.1 17 = .ok (.lushr, 1) := by decide +kernel
theorem d_Lng_bitCount_18 : decode i_Lng_bitCount.2.1 18 = .ok (.ldc2_w 316, 3) := by decide +kernel
theorem d_Lng_bitCount_21 : decode i_Lng_bitCount.2.1 21 = .ok (.land, 1) := by decide +kernel
theorem d_Lng_bitCount_22 : decode i_Lng_bitCount.2.1 22 = .ok (.ladd, 1) := by decide +kernel
theorem d_Lng_bitCount_23 : decode i_Lng_bitCount.2.1 23 = .ok (.lstore_n 0, 1) := by decide +kernel
theorem d_Lng_bitCount_24 : decode i_Lng_bitCount.2.1 24 = .ok (.lload_n 0, 1) := by decide +kernel
theorem d_Lng_bitCount_25 : decode i_Lng_bitCount.2.1 25 = .ok (.lload_n 0, 1) := by decide +kernel
theorem d_Lng_bitCount_26 : decode i_Lng_bitCount.2.1 26 = .ok (.iconst 4, 1) := by decide +kernel
theorem d_Lng_bitCount_27 : decode i_Lng_bitCount.2.1 27 = .ok (.lushr, 1) := by decide +kernel
theorem d_Lng_bitCount_28 : decode i_Lng_bitCount.2.1 28 = .ok (.ladd, 1) := by decide +kernel
theorem d_Lng_bitCount_29 : decode i_Lng_bitCount.2.1 29 = .ok (.ldc2_w 318, 3) := by decide +kernel
theorem d_Lng_bitCount_32 : decode i_Lng_bitCount.2.1 32 = .ok (.land, 1) := by decide +kernel
theorem d_Lng_bitCount_33 : decode i_Lng_bitCount.2.1 33 = .ok (.lstore_n 0, 1) := by decide +kernel
theorem d_Lng_bitCount_34 : decode i_Lng_bitCount.2.1 34 = .ok (.lload_n 0, 1) := by decide +kernel
theorem d_Lng_bitCount_35 : decode i_Lng_bitCount.2.1 35 = .ok (.lload_n 0, 1) := by decide +kernel
theorem d_Lng_bitCount_36 : decode i_Lng_bitCount.2.1 36 = .ok (.bipush 8, 2) := by decide +kernel
theorem d_Lng_bitCount_38 : decode i_Lng_bitCount.2.1 38 = .ok (.lushr, 1) := by decide +kernel
theorem d_Lng_bitCount_39 : decode i_Lng_bitCount.2.1 39 = .ok (.ladd, 1) := by decide +kernel
theorem d_Lng_bitCount_40 : decode i_Lng_bitCount.2.1 40 = .ok (.lstore_n 0, 1) := by decide +kernel
theorem d_Lng_bitCount_41 : decode i_Lng_bitCount.2.1 41 = .ok (.lload_n 0, 1) := by decide +kernel
theorem d_Lng_bitCount_42 : decode i_Lng_bitCount.2.1 42 = .ok (.lload_n 0, 1) := by decide +kernel
theorem d_Lng_bitCount_43 : decode i_Lng_bitCount.2.1 43 = .ok (.bipush 16, 2) := by decide +kernel
theorem d_Lng_bitCount_45 : decode i_Lng_bitCount.2.1 45 = .ok (.lushr, 1) := by decide +kernel
theorem d_Lng_bitCount_46 : decode i_Lng_bitCount.2.1 46 = .ok (.ladd, 1) := by decide +kernel
theorem d_Lng_bitCount_47 : decode i_Lng_bitCount.2.1 47 = .ok (.lstore_n 0, 1) := by decide +kernel
theorem d_Lng_bitCount_48 : decode i_Lng_bitCount.2.1 48 = .ok (.lload_n 0, 1) := by decide +kernel
theorem d_Lng_bitCount_49 : decode i_Lng_bitCount.2.1 49 = .ok (.lload_n 0, 1) := by decide +kernel
theorem d_Lng_bitCount_50 : decode i_Lng_bitCount.2.1 50 = .ok (.bipush 32, 2) := by decide +kernel
theorem d_Lng_bitCount_52 : decode i_Lng_bitCount.2.1 52 = .ok (.lushr, 1) := by decide +kernel
theorem d_Lng_bitCount_53 : decode i_Lng_bitCount.2.1 53 = .ok (.ladd, 1) := by decide +kernel
theorem d_Lng_bitCount_54 : decode i_Lng_bitCount.2.1 54 = .ok (.lstore_n 0, 1) := by decide +kernel
theorem d_Lng_bitCount_55 : decode i_Lng_bitCount.2.1 55 = .ok (.lload_n 0, 1) := by decide +kernel
theorem d_Lng_bitCount_56 : decode i_Lng_bitCount.2.1 56 = .ok (.l2i, 1) := by decide +kernel
theorem d_Lng_bitCount_57 : decode i_Lng_bitCount.2.1 57 = .ok (.bipush 127, 2) := by decide +kernel
theorem d_Lng_bitCount_59 : decode i_Lng_bitCount.2.1 59 = .ok (.iand, 1) := by decide +kernel
theorem d_Lng_bitCount_60 : decode i_Lng_bitCount.2.1 60 = .ok (.ireturn, 1) := by decide +kernel
theorem d_Mth_abs_0 : decode i_Mth_abs.2.1 0 = .ok (.iload_n 0, 1) := by decide +kernel
theorem d_Mth_abs_1 : decode i_Mth_abs.2.1 1 = .ok (.ifCond .ge 8, 3) := by decide +kernel
theorem d_Mth_abs_4 : decode i_Mth_abs.2.1 4 = .ok (.iload_n 0, 1) := by decide +kernel
theorem d_Mth_abs_5 : decode i_Mth_abs.2.1 5 = .ok (.ineg, 1) := by decide +kernel
theorem d_Mth_abs_6 : decode i_Mth_abs.2.1 6 = .ok (.goto 4, 3) := by decide +kernel
theorem d_Mth_abs_9 : decode i_Mth_abs.2.1 9 = .ok (.iload_n 0, 1) := by decide +kernel
theorem d_Mth_abs_10 : decode i_Mth_abs.2.1 10 = .ok (.ireturn, 1) := by decide +kernel
theorem d_Mth_max_0 : decode i_Mth_max.2.1 0 = .ok (.iload_n 0, 1) := by decide +kernel
theorem d_Mth_max_1 : decode i_Mth_max.2.1 1 = .ok (.iload_n 1, 1) := by decide +kernel
theorem d_Mth_max_2 : decode i_Mth_max.2.1 2 = .ok (.if_icmp .lt 7, 3) := by decide +kernel
theorem d_Mth_max_5 : decode i_Mth_max.2.1 5 = .ok (.iload_n 0, 1) := by decide +kernel
theorem d_Mth_max_6 : decode i_Mth_max.2.1 6 = .ok (.goto 4, 3) := by decide +kernel
theorem d_Mth_max_9 : decode i_Mth_max.2.1 9 = .ok (.iload_n 1, 1) := by decide +kernel
theorem d_Mth_max_10 : decode i_Mth_max.2.1 10 = .ok (.ireturn, 1) := by decide +kernel
theorem d_Mth_min_0 : decode i_Mth_min.2.1 0 = .ok (.iload_n 0, 1) := by decide +kernel
theorem d_Mth_min_1 : decode i_Mth_min.2.1 1 = .ok (.iload_n 1, 1) := by decide +kernel
theorem d_Mth_min_2 : decode i_Mth_min.2.1 2 = .ok (.if_icmp .gt 7, 3) := by decide +kernel
theorem d_Mth_min_5 : decode i_Mth_min.2.1 5 = .ok (.iload_n 0, 1) := by decide +kernel
theorem d_Mth_min_6 : decode i_Mth_min.2.1 6 = .ok (.goto 4, 3) := by decide +kernel
theorem d_Mth_min_9 : decode i_Mth_min.2.1 9 = .ok (.iload_n 1, 1) := by decide +kernel
theorem d_Mth_min_10 : decode i_Mth_min.2.1 10 = .ok (.ireturn, 1) := by decide +kernel
theorem d_Law_law_0 : decode i_Law_law.2.1 0 = .ok (.new 7, 3) := by decide +kernel
theorem d_Law_law_3 : decode i_Law_law.2.1 3 = .ok (.dup, 1) := by decide +kernel
theorem d_Law_law_4 : decode i_Law_law.2.1 4 = .ok (.invokespecial 9, 3) := by decide +kernel
theorem d_Law_law_7 : decode i_Law_law.2.1 7 = .ok (.astore_n 1, 1) := by decide +kernel
theorem d_Law_law_8 : decode i_Law_law.2.1 8 = .ok (.new 10, 3) := by decide +kernel
theorem d_Law_law_11 : decode i_Law_law.2.1 11 = .ok (.dup, 1) := by decide +kernel
theorem d_Law_law_12 : decode i_Law_law.2.1 12 = .ok (.invokespecial 12, 3) := by decide +kernel
theorem d_Law_law_15 : decode i_Law_law.2.1 15 = .ok (.astore_n 2, 1) := by decide +kernel
theorem d_Law_law_16 : decode i_Law_law.2.1 16 = .ok (.iconst 0, 1) := by decide +kernel
theorem d_Law_law_17 : decode i_Law_law.2.1 17 = .ok (.istore_n 3, 1) := by decide +kernel
theorem d_Law_law_18 : decode i_Law_law.2.1 18 = .ok (.iload_n 3, 1) := by decide +kernel
theorem d_Law_law_19 : decode i_Law_law.2.1 19 = .ok (.aload_n 0, 1) := by decide +kernel
theorem d_Law_law_20 : decode i_Law_law.2.1 20 = .ok (.arraylength, 1) := by decide +kernel
theorem d_Law_law_21 : decode i_Law_law.2.1 21 = .ok (.bipush 6, 2) := by decide +kernel
theorem d_Law_law_23 : decode i_Law_law.2.1 23 = .ok (.isub, 1) := by decide +kernel
theorem d_Law_law_24 : decode i_Law_law.2.1 24 = .ok (.if_icmp .gt 989, 3) := by decide +kernel
theorem d_Law_law_27 : decode i_Law_law.2.1 27 = .ok (.aload_n 0, 1) := by decide +kernel
theorem d_Law_law_28 : decode i_Law_law.2.1 28 = .ok (.iload_n 3, 1) := by decide +kernel
theorem d_Law_law_29 : decode i_Law_law.2.1 29 = .ok (.iaload, 1) := by decide +kernel
theorem d_Law_law_30 : decode i_Law_law.2.1 30 = .ok (.bipush 31, 2) := by decide +kernel
theorem d_Law_law_32 : decode i_Law_law.2.1 32 = .ok (.iand, 1) := by decide +kernel
theorem d_Law_law_33 : decode i_Law_law.2.1 33 = .ok (.tableswitch 974 0 26 #[123, 146, 159, 172, 185, 218, 281, 304, 327, 360, 373, 406, 449, 492, 535, 578, 611, 644, 687, 720, 773, 826, 859, 882, 905, 928, 951], 123) := by decide +kernel
theorem d_Law_law_156 : decode i_Law_law.2.1 156 = .ok (.aload_n 1, 1) := by decide +kernel
theorem d_Law_law_157 : decode i_Law_law.2.1 157 = .ok (.aload_n 0, 1) := by decide +kernel
theorem d_Law_law_158 : decode i_Law_law.2.1 158 = .ok (.iload_n 3, 1) := by decide +kernel
theorem d_Law_law_159 : decode i_Law_law.2.1 159 = .ok (.iconst 1, 1) := by decide +kernel
theorem d_Law_law_160 : decode i_Law_law.2.1 160 = .ok (.iadd, 1) := by decide +kernel
theorem d_Law_law_161 : decode i_Law_law.2.1 161 = .ok (.iaload, 1) := by decide +kernel
theorem d_Law_law_162 : decode i_Law_law.2.1 162 = .ok (.invokevirtual 13, 3) := by decide +kernel
theorem d_Law_law_165 : decode i_Law_law.2.1 165 = .ok (.aload_n 2, 1) := by decide +kernel
theorem d_Law_law_166 : decode i_Law_law.2.1 166 = .ok (.aload_n 0, 1) := by decide +kernel
theorem d_Law_law_167 : decode i_Law_law.2.1 167 = .ok (.iload_n 3, 1) := by decide +kernel
theorem d_Law_law_168 : decode i_Law_law.2.1 168 = .ok (.iconst 1, 1) := by decide +kernel
theorem d_Law_law_169 : decode i_Law_law.2.1 169 = .ok (.iadd, 1) := by decide +kernel
theorem d_Law_law_170 : decode i_Law_law.2.1 170 = .ok (.iaload, 1) := by decide +kernel
theorem d_Law_law_171 : decode i_Law_law.2.1 171 = .ok (.invokevirtual 17, 3) := by decide +kernel
theorem d_Law_law_174 : decode i_Law_law.2.1 174 = .ok (.if_icmp .eq 833, 3) := by decide +kernel
theorem d_Law_law_177 : decode i_Law_law.2.1 177 = .ok (.iconst 0, 1) := by decide +kernel
theorem d_Law_law_178 : decode i_Law_law.2.1 178 = .ok (.ireturn, 1) := by decide +kernel
theorem d_Law_law_179 : decode i_Law_law.2.1 179 = .ok (.aload_n 1, 1) := by decide +kernel
theorem d_Law_law_180 : decode i_Law_law.2.1 180 = .ok (.invokevirtual 18, 3) := by decide +kernel
theorem d_Law_law_183 : decode i_Law_law.2.1 183 = .ok (.aload_n 2, 1) := by decide +kernel
theorem d_Law_law_184 : decode i_Law_law.2.1 184 = .ok (.invokevirtual 22, 3) := by decide +kernel
theorem d_Law_law_187 : decode i_Law_law.2.1 187 = .ok (.if_icmp .eq 820, 3) := by decide +kernel
theorem d_Law_law_190 : decode i_Law_law.2.1 190 = .ok (.iconst 0, 1) := by decide +kernel
theorem d_Law_law_191 : decode i_Law_law.2.1 191 = .ok (.ireturn, 1) := by decide +kernel
theorem d_Law_law_192 : decode i_Law_law.2.1 192 = .ok (.aload_n 1, 1) := by decide +kernel
theorem d_Law_law_193 : decode i_Law_law.2.1 193 = .ok (.invokevirtual 23, 3) := by decide +kernel
theorem d_Law_law_196 : decode i_Law_law.2.1 196 = .ok (.aload_n 2, 1) := by decide +kernel
theorem d_Law_law_197 : decode i_Law_law.2.1 197 = .ok (.invokevirtual 26, 3) := by decide +kernel
theorem d_Law_law_200 : decode i_Law_law.2.1 200 = .ok (.if_icmp .eq 807, 3) := by decide +kernel
theorem d_Law_law_203 : decode i_Law_law.2.1 203 = .ok (.iconst 0, 1) := by decide +kernel
theorem d_Law_law_204 : decode i_Law_law.2.1 204 = .ok (.ireturn, 1) := by decide +kernel
theorem d_Law_law_205 : decode i_Law_law.2.1 205 = .ok (.aload_n 1, 1) := by decide +kernel
theorem d_Law_law_206 : decode i_Law_law.2.1 206 = .ok (.invokevirtual 27, 3) := by decide +kernel
theorem d_Law_law_209 : decode i_Law_law.2.1 209 = .ok (.aload_n 2, 1) := by decide +kernel
theorem d_Law_law_210 : decode i_Law_law.2.1 210 = .ok (.invokevirtual 30, 3) := by decide +kernel
theorem d_Law_law_213 : decode i_Law_law.2.1 213 = .ok (.if_icmp .eq 794, 3) := by decide +kernel
theorem d_Law_law_216 : decode i_Law_law.2.1 216 = .ok (.iconst 0, 1) := by decide +kernel
theorem d_Law_law_217 : decode i_Law_law.2.1 217 = .ok (.ireturn, 1) := by decide +kernel
theorem d_Law_law_218 : decode i_Law_law.2.1 218 = .ok (.aload_n 1, 1) := by decide +kernel
theorem d_Law_law_219 : decode i_Law_law.2.1 219 = .ok (.aload_n 0, 1) := by decide +kernel
theorem d_Law_law_220 : decode i_Law_law.2.1 220 = .ok (.iload_n 3, 1) := by decide +kernel
theorem d_Law_law_221 : decode i_Law_law.2.1 221 = .ok (.iconst 1, 1) := by decide +kernel
theorem d_Law_law_222 : decode i_Law_law.2.1 222 = .ok (.iadd, 1) := by decide +kernel
theorem d_Law_law_223 : decode i_Law_law.2.1 223 = .ok (.iaload, 1) := by decide +kernel
theorem d_Law_law_224 : decode i_Law_law.2.1 224 = .ok (.aload_n 0, 1) := by decide +kernel
theorem d_Law_law_225 : decode i_Law_law.2.1 225 = .ok (.iload_n 3, 1) := by decide +kernel
theorem d_Law_law_226 : decode i_Law_law.2.1 226 = .ok (.iconst 2, 1) := by decide +kernel
theorem d_Law_law_227 : decode i_Law_law.2.1 227 = .ok (.iadd, 1) := by decide +kernel
theorem d_Law_law_228 : decode i_Law_law.2.1 228 = .ok (.iaload, 1) := by decide +kernel
theorem d_Law_law_229 : decode i_Law_law.2.1 229 = .ok (.invokevirtual 31, 3) := by decide +kernel
theorem d_Law_law_232 : decode i_Law_law.2.1 232 = .ok (.aload_n 2, 1) := by decide +kernel
theorem d_Law_law_233 : decode i_Law_law.2.1 233 = .ok (.aload_n 0, 1) := by decide +kernel
theorem d_Law_law_234 : decode i_Law_law.2.1 234 = .ok (.iload_n 3, 1) := by decide +kernel
theorem d_Law_law_235 : decode i_Law_law.2.1 235 = .ok (.iconst 1, 1) := by decide +kernel
theorem d_Law_law_236 : decode i_Law_law.2.1 236 = .ok (.iadd, 1) := by decide +kernel
theorem d_Law_law_237 : decode i_Law_law.2.1 237 = .ok (.iaload, 1) := by decide +kernel
theorem d_Law_law_238 : decode i_Law_law.2.1 238 = .ok (.aload_n 0, 1) := by decide +kernel
theorem d_Law_law_239 : decode i_Law_law.2.1 239 = .ok (.iload_n 3, 1) := by decide +kernel
theorem d_Law_law_240 : decode i_Law_law.2.1 240 = .ok (.iconst 2, 1) := by decide +kernel
theorem d_Law_law_241 : decode i_Law_law.2.1 241 = .ok (.iadd, 1) := by decide +kernel
theorem d_Law_law_242 : decode i_Law_law.2.1 242 = .ok (.iaload, 1) := by decide +kernel
theorem d_Law_law_243 : decode i_Law_law.2.1 243 = .ok (.invokevirtual 35, 3) := by decide +kernel
theorem d_Law_law_246 : decode i_Law_law.2.1 246 = .ok (.if_icmp .eq 761, 3) := by decide +kernel
theorem d_Law_law_249 : decode i_Law_law.2.1 249 = .ok (.iconst 0, 1) := by decide +kernel
theorem d_Law_law_250 : decode i_Law_law.2.1 250 = .ok (.ireturn, 1) := by decide +kernel
theorem d_Law_law_251 : decode i_Law_law.2.1 251 = .ok (.aload_n 1, 1) := by decide +kernel
theorem d_Law_law_252 : decode i_Law_law.2.1 252 = .ok (.aload_n 0, 1) := by decide +kernel
theorem d_Law_law_253 : decode i_Law_law.2.1 253 = .ok (.iload_n 3, 1) := by decide +kernel
theorem d_Law_law_254 : decode i_Law_law.2.1 254 = .ok (.iconst 1, 1) := by decide +kernel
theorem d_Law_law_255 : decode i_Law_law.2.1 255 = .ok (.iadd, 1) := by decide +kernel
theorem d_Law_law_256 : decode i_Law_law.2.1 256 = .ok (.iaload, 1) := by decide +kernel
theorem d_Law_law_257 : decode i_Law_law.2.1 257 = .ok (.aload_n 0, 1) := by decide +kernel
theorem d_Law_law_258 : decode i_Law_law.2.1 258 = .ok (.iload_n 3, 1) := by decide +kernel
theorem d_Law_law_259 : decode i_Law_law.2.1 259 = .ok (.iconst 2, 1) := by decide +kernel
theorem d_Law_law_260 : decode i_Law_law.2.1 260 = .ok (.iadd, 1) := by decide +kernel
theorem d_Law_law_261 : decode i_Law_law.2.1 261 = .ok (.iaload, 1) := by decide +kernel
theorem d_Law_law_262 : decode i_Law_law.2.1 262 = .ok (.aload_n 0, 1) := by decide +kernel
theorem d_Law_law_263 : decode i_Law_law.2.1 263 = .ok (.iload_n 3, 1) := by decide +kernel
theorem d_Law_law_264 : decode i_Law_law.2.1 264 = .ok (.iconst 3, 1) := by decide +kernel
theorem d_Law_law_265 : decode i_Law_law.2.1 265 = .ok (.iadd, 1) := by decide +kernel
theorem d_Law_law_266 : decode i_Law_law.2.1 266 = .ok (.iaload, 1) := by decide +kernel
theorem d_Law_law_267 : decode i_Law_law.2.1 267 = .ok (.aload_n 0, 1) := by decide +kernel
theorem d_Law_law_268 : decode i_Law_law.2.1 268 = .ok (.iload_n 3, 1) := by decide +kernel
theorem d_Law_law_269 : decode i_Law_law.2.1 269 = .ok (.iconst 4, 1) := by decide +kernel
theorem d_Law_law_270 : decode i_Law_law.2.1 270 = .ok (.iadd, 1) := by decide +kernel
theorem d_Law_law_271 : decode i_Law_law.2.1 271 = .ok (.iaload, 1) := by decide +kernel
theorem d_Law_law_272 : decode i_Law_law.2.1 272 = .ok (.aload_n 0, 1) := by decide +kernel
theorem d_Law_law_273 : decode i_Law_law.2.1 273 = .ok (.iload_n 3, 1) := by decide +kernel
theorem d_Law_law_274 : decode i_Law_law.2.1 274 = .ok (.iconst 5, 1) := by decide +kernel
theorem d_Law_law_275 : decode i_Law_law.2.1 275 = .ok (.iadd, 1) := by decide +kernel
theorem d_Law_law_276 : decode i_Law_law.2.1 276 = .ok (.iaload, 1) := by decide +kernel
theorem d_Law_law_277 : decode i_Law_law.2.1 277 = .ok (.invokevirtual 36, 3) := by decide +kernel
theorem d_Law_law_280 : decode i_Law_law.2.1 280 = .ok (.aload_n 2, 1) := by decide +kernel
theorem d_Law_law_281 : decode i_Law_law.2.1 281 = .ok (.aload_n 0, 1) := by decide +kernel
theorem d_Law_law_282 : decode i_Law_law.2.1 282 = .ok (.iload_n 3, 1) := by decide +kernel
theorem d_Law_law_283 : decode i_Law_law.2.1 283 = .ok (.iconst 1, 1) := by decide +kernel
theorem d_Law_law_284 : decode i_Law_law.2.1 284 = .ok (.iadd, 1) := by decide +kernel
theorem d_Law_law_285 : decode i_Law_law.2.1 285 = .ok (.iaload, 1) := by decide +kernel
theorem d_Law_law_286 : decode i_Law_law.2.1 286 = .ok (.aload_n 0, 1) := by decide +kernel
theorem d_Law_law_287 : decode i_Law_law.2.1 287 = .ok (.iload_n 3, 1) := by decide +kernel
theorem d_Law_law_288 : decode i_Law_law.2.1 288 = .ok (.iconst 2, 1) := by decide +kernel
theorem d_Law_law_289 : decode i_Law_law.2.1 289 = .ok (.iadd, 1) := by decide +kernel
theorem d_Law_law_290 : decode i_Law_law.2.1 290 = .ok (.iaload, 1) := by decide +kernel
theorem d_Law_law_291 : decode i_Law_law.2.1 291 = .ok (.aload_n 0, 1) := by decide +kernel
theorem d_Law_law_292 : decode i_Law_law.2.1 292 = .ok (.iload_n 3, 1) := by decide +kernel
theorem d_Law_law_293 : decode i_Law_law.2.1 293 = .ok (.iconst 3, 1) := by decide +kernel
theorem d_Law_law_294 : decode i_Law_law.2.1 294 = .ok (.iadd, 1) := by decide +kernel
theorem d_Law_law_295 : decode i_Law_law.2.1 295 = .ok (.iaload, 1) := by decide +kernel
theorem d_Law_law_296 : decode i_Law_law.2.1 296 = .ok (.aload_n 0, 1) := by decide +kernel
theorem d_Law_law_297 : decode i_Law_law.2.1 297 = .ok (.iload_n 3, 1) := by decide +kernel
theorem d_Law_law_298 : decode i_Law_law.2.1 298 = .ok (.iconst 4, 1) := by decide +kernel
theorem d_Law_law_299 : decode i_Law_law.2.1 299 = .ok (.iadd, 1) := by decide +kernel
theorem d_Law_law_300 : decode i_Law_law.2.1 300 = .ok (.iaload, 1) := by decide +kernel
theorem d_Law_law_301 : decode i_Law_law.2.1 301 = .ok (.aload_n 0, 1) := by decide +kernel
theorem d_Law_law_302 : decode i_Law_law.2.1 302 = .ok (.iload_n 3, 1) := by decide +kernel
theorem d_Law_law_303 : decode i_Law_law.2.1 303 = .ok (.iconst 5, 1) := by decide +kernel
theorem d_Law_law_304 : decode i_Law_law.2.1 304 = .ok (.iadd, 1) := by decide +kernel
theorem d_Law_law_305 : decode i_Law_law.2.1 305 = .ok (.iaload, 1) := by decide +kernel
theorem d_Law_law_306 : decode i_Law_law.2.1 306 = .ok (.invokevirtual 40, 3) := by decide +kernel
theorem d_Law_law_309 : decode i_Law_law.2.1 309 = .ok (.if_icmp .eq 698, 3) := by decide +kernel
theorem d_Law_law_312 : decode i_Law_law.2.1 312 = .ok (.iconst 0, 1) := by decide +kernel
theorem d_Law_law_313 : decode i_Law_law.2.1 313 = .ok (.ireturn, 1) := by decide +kernel
theorem d_Law_law_314 : decode i_Law_law.2.1 314 = .ok (.aload_n 1, 1) := by decide +kernel
theorem d_Law_law_315 : decode i_Law_law.2.1 315 = .ok (.aload_n 0, 1) := by decide +kernel
theorem d_Law_law_316 : decode i_Law_law.2.1 316 = .ok (.iload_n 3, 1) := by decide +kernel
theorem d_Law_law_317 : decode i_Law_law.2.1 317 = .ok (.iconst 1, 1) := by decide +kernel
theorem d_Law_law_318 : decode i_Law_law.2.1 318 = .ok (.iadd, 1) := by decide +kernel
theorem d_Law_law_319 : decode i_Law_law.2.1 319 = .ok (.iaload, 1) := by decide +kernel
theorem d_Law_law_320 : decode i_Law_law.2.1 320 = .ok (.invokevirtual 41, 3) := by decide +kernel
theorem d_Law_law_323 : decode i_Law_law.2.1 323 = .ok (.aload_n 2, 1) := by decide +kernel
theorem d_Law_law_324 : decode i_Law_law.2.1 324 = .ok (.aload_n 0, 1) := by decide +kernel
theorem d_Law_law_325 : decode i_Law_law.2.1 325 = .ok (.iload_n 3, 1) := by decide +kernel
theorem d_Law_law_326 : decode i_Law_law.2.1 326 = .ok (.iconst 1, 1) := by decide +kernel
theorem d_Law_law_327 : decode i_Law_law.2.1 327 = .ok (.iadd, 1) := by decide +kernel
theorem d_Law_law_328 : decode i_Law_law.2.1 328 = .ok (.iaload, 1) := by decide +kernel
theorem d_Law_law_329 : decode i_Law_law.2.1 329 = .ok (.invokevirtual 44, 3) := by decide +kernel
theorem d_Law_law_332 : decode i_Law_law.2.1 332 = .ok (.if_icmp .eq 675, 3) := by decide +kernel
theorem d_Law_law_335 : decode i_Law_law.2.1 335 = .ok (.iconst 0, 1) := by decide +kernel
theorem d_Law_law_336 : decode i_Law_law.2.1 336 = .ok (.ireturn, 1) := by decide +kernel
theorem d_Law_law_337 : decode i_Law_law.2.1 337 = .ok (.aload_n 1, 1) := by decide +kernel
theorem d_Law_law_338 : decode i_Law_law.2.1 338 = .ok (.aload_n 0, 1) := by decide +kernel
theorem d_Law_law_339 : decode i_Law_law.2.1 339 = .ok (.iload_n 3, 1) := by decide +kernel
theorem d_Law_law_340 : decode i_Law_law.2.1 340 = .ok (.iconst 1, 1) := by decide +kernel
theorem d_Law_law_341 : decode i_Law_law.2.1 341 = .ok (.iadd, 1) := by decide +kernel
theorem d_Law_law_342 : decode i_Law_law.2.1 342 = .ok (.iaload, 1) := by decide +kernel
theorem d_Law_law_343 : decode i_Law_law.2.1 343 = .ok (.invokevirtual 45, 3) := by decide +kernel
theorem d_Law_law_346 : decode i_Law_law.2.1 346 = .ok (.aload_n 2, 1) := by decide +kernel
theorem d_Law_law_347 : decode i_Law_law.2.1 347 = .ok (.aload_n 0, 1) := by decide +kernel
theorem d_Law_law_348 : decode i_Law_law.2.1 348 = .ok (.iload_n 3, 1) := by decide +kernel
theorem d_Law_law_349 : decode i_Law_law.2.1 349 = .ok (.iconst 1, 1) := by decide +kernel
theorem d_Law_law_350 : decode i_Law_law.2.1 350 = .ok (.iadd, 1) := by decide +kernel
theorem d_Law_law_351 : decode i_Law_law.2.1 351 = .ok (.iaload, 1) := by decide +kernel
theorem d_Law_law_352 : decode i_Law_law.2.1 352 = .ok (.invokevirtual 48, 3) := by decide +kernel
theorem d_Law_law_355 : decode i_Law_law.2.1 355 = .ok (.if_icmp .eq 652, 3) := by decide +kernel
theorem d_Law_law_358 : decode i_Law_law.2.1 358 = .ok (.iconst 0, 1) := by decide +kernel
theorem d_Law_law_359 : decode i_Law_law.2.1 359 = .ok (.ireturn, 1) := by decide +kernel
theorem d_Law_law_360 : decode i_Law_law.2.1 360 = .ok (.aload_n 1, 1) := by decide +kernel
theorem d_Law_law_361 : decode i_Law_law.2.1 361 = .ok (.aload_n 0, 1) := by decide +kernel
theorem d_Law_law_362 : decode i_Law_law.2.1 362 = .ok (.iload_n 3, 1) := by decide +kernel
theorem d_Law_law_363 : decode i_Law_law.2.1 363 = .ok (.iconst 1, 1) := by decide +kernel
theorem d_Law_law_364 : decode i_Law_law.2.1 364 = .ok (.iadd, 1) := by decide +kernel
theorem d_Law_law_365 : decode i_Law_law.2.1 365 = .ok (.iaload, 1) := by decide +kernel
theorem d_Law_law_366 : decode i_Law_law.2.1 366 = .ok (.aload_n 0, 1) := by decide +kernel
theorem d_Law_law_367 : decode i_Law_law.2.1 367 = .ok (.iload_n 3, 1) := by decide +kernel
theorem d_Law_law_368 : decode i_Law_law.2.1 368 = .ok (.iconst 2, 1) := by decide +kernel
theorem d_Law_law_369 : decode i_Law_law.2.1 369 = .ok (.iadd, 1) := by decide +kernel
theorem d_Law_law_370 : decode i_Law_law.2.1 370 = .ok (.iaload, 1) := by decide +kernel
theorem d_Law_law_371 : decode i_Law_law.2.1 371 = .ok (.invokevirtual 49, 3) := by decide +kernel
theorem d_Law_law_374 : decode i_Law_law.2.1 374 = .ok (.aload_n 2, 1) := by decide +kernel
theorem d_Law_law_375 : decode i_Law_law.2.1 375 = .ok (.aload_n 0, 1) := by decide +kernel
theorem d_Law_law_376 : decode i_Law_law.2.1 376 = .ok (.iload_n 3, 1) := by decide +kernel
theorem d_Law_law_377 : decode i_Law_law.2.1 377 = .ok (.iconst 1, 1) := by decide +kernel
theorem d_Law_law_378 : decode i_Law_law.2.1 378 = .ok (.iadd, 1) := by decide +kernel
theorem d_Law_law_379 : decode i_Law_law.2.1 379 = .ok (.iaload, 1) := by decide +kernel
theorem d_Law_law_380 : decode i_Law_law.2.1 380 = .ok (.aload_n 0, 1) := by decide +kernel
theorem d_Law_law_381 : decode i_Law_law.2.1 381 = .ok (.iload_n 3, 1) := by decide +kernel
theorem d_Law_law_382 : decode i_Law_law.2.1 382 = .ok (.iconst 2, 1) := by decide +kernel
theorem d_Law_law_383 : decode i_Law_law.2.1 383 = .ok (.iadd, 1) := by decide +kernel
theorem d_Law_law_384 : decode i_Law_law.2.1 384 = .ok (.iaload, 1) := by decide +kernel
theorem d_Law_law_385 : decode i_Law_law.2.1 385 = .ok (.invokevirtual 52, 3) := by decide +kernel
theorem d_Law_law_388 : decode i_Law_law.2.1 388 = .ok (.if_icmp .eq 619, 3) := by decide +kernel
theorem d_Law_law_391 : decode i_Law_law.2.1 391 = .ok (.iconst 0, 1) := by decide +kernel
theorem d_Law_law_392 : decode i_Law_law.2.1 392 = .ok (.ireturn, 1) := by decide +kernel
theorem d_Law_law_393 : decode i_Law_law.2.1 393 = .ok (.aload_n 1, 1) := by decide +kernel
theorem d_Law_law_394 : decode i_Law_law.2.1 394 = .ok (.invokevirtual 53, 3) := by decide +kernel
theorem d_Law_law_397 : decode i_Law_law.2.1 397 = .ok (.aload_n 2, 1) := by decide +kernel
theorem d_Law_law_398 : decode i_Law_law.2.1 398 = .ok (.invokevirtual 56, 3) := by decide +kernel
theorem d_Law_law_401 : decode i_Law_law.2.1 401 = .ok (.if_icmp .eq 606, 3) := by decide +kernel
theorem d_Law_law_404 : decode i_Law_law.2.1 404 = .ok (.iconst 0, 1) := by decide +kernel
theorem d_Law_law_405 : decode i_Law_law.2.1 405 = .ok (.ireturn, 1) := by decide +kernel
theorem d_Law_law_406 : decode i_Law_law.2.1 406 = .ok (.aload_n 1, 1) := by decide +kernel
theorem d_Law_law_407 : decode i_Law_law.2.1 407 = .ok (.aload_n 0, 1) := by decide +kernel
theorem d_Law_law_408 : decode i_Law_law.2.1 408 = .ok (.iload_n 3, 1) := by decide +kernel
theorem d_Law_law_409 : decode i_Law_law.2.1 409 = .ok (.iconst 1, 1) := by decide +kernel
theorem d_Law_law_410 : decode i_Law_law.2.1 410 = .ok (.iadd, 1) := by decide +kernel
theorem d_Law_law_411 : decode i_Law_law.2.1 411 = .ok (.iaload, 1) := by decide +kernel
theorem d_Law_law_412 : decode i_Law_law.2.1 412 = .ok (.aload_n 0, 1) := by decide +kernel
theorem d_Law_law_413 : decode i_Law_law.2.1 413 = .ok (.iload_n 3, 1) := by decide +kernel
theorem d_Law_law_414 : decode i_Law_law.2.1 414 = .ok (.iconst 2, 1) := by decide +kernel
theorem d_Law_law_415 : decode i_Law_law.2.1 415 = .ok (.iadd, 1) := by decide +kernel
theorem d_Law_law_416 : decode i_Law_law.2.1 416 = .ok (.iaload, 1) := by decide +kernel
theorem d_Law_law_417 : decode i_Law_law.2.1 417 = .ok (.invokevirtual 57, 3) := by decide +kernel
theorem d_Law_law_420 : decode i_Law_law.2.1 420 = .ok (.aload_n 2, 1) := by decide +kernel
theorem d_Law_law_421 : decode i_Law_law.2.1 421 = .ok (.aload_n 0, 1) := by decide +kernel
theorem d_Law_law_422 : decode i_Law_law.2.1 422 = .ok (.iload_n 3, 1) := by decide +kernel
theorem d_Law_law_423 : decode i_Law_law.2.1 423 = .ok (.iconst 1, 1) := by decide +kernel
theorem d_Law_law_424 : decode i_Law_law.2.1 424 = .ok (.iadd, 1) := by decide +kernel
theorem d_Law_law_425 : decode i_Law_law.2.1 425 = .ok (.iaload, 1) := by decide +kernel
theorem d_Law_law_426 : decode i_Law_law.2.1 426 = .ok (.aload_n 0, 1) := by decide +kernel
theorem d_Law_law_427 : decode i_Law_law.2.1 427 = .ok (.iload_n 3, 1) := by decide +kernel
theorem d_Law_law_428 : decode i_Law_law.2.1 428 = .ok (.iconst 2, 1) := by decide +kernel
theorem d_Law_law_429 : decode i_Law_law.2.1 429 = .ok (.iadd, 1) := by decide +kernel
theorem d_Law_law_430 : decode i_Law_law.2.1 430 = .ok (.iaload, 1) := by decide +kernel
theorem d_Law_law_431 : decode i_Law_law.2.1 431 = .ok (.invokevirtual 60, 3) := by decide +kernel
theorem d_Law_law_434 : decode i_Law_law.2.1 434 = .ok (.if_icmp .eq 573, 3) := by decide +kernel
theorem d_Law_law_437 : decode i_Law_law.2.1 437 = .ok (.iconst 0, 1) := by decide +kernel
theorem d_Law_law_438 : decode i_Law_law.2.1 438 = .ok (.ireturn, 1) := by decide +kernel
theorem d_Law_law_439 : decode i_Law_law.2.1 439 = .ok (.aload_n 1, 1) := by decide +kernel
theorem d_Law_law_440 : decode i_Law_law.2.1 440 = .ok (.aload_n 0, 1) := by decide +kernel
theorem d_Law_law_441 : decode i_Law_law.2.1 441 = .ok (.iload_n 3, 1) := by decide +kernel
theorem d_Law_law_442 : decode i_Law_law.2.1 442 = .ok (.iconst 1, 1) := by decide +kernel
theorem d_Law_law_443 : decode i_Law_law.2.1 443 = .ok (.iadd, 1) := by decide +kernel
theorem d_Law_law_444 : decode i_Law_law.2.1 444 = .ok (.iaload, 1) := by decide +kernel
theorem d_Law_law_445 : decode i_Law_law.2.1 445 = .ok (.aload_n 0, 1) := by decide +kernel
theorem d_Law_law_446 : decode i_Law_law.2.1 446 = .ok (.iload_n 3, 1) := by decide +kernel
theorem d_Law_law_447 : decode i_Law_law.2.1 447 = .ok (.iconst 2, 1) := by decide +kernel
theorem d_Law_law_448 : decode i_Law_law.2.1 448 = .ok (.iadd, 1) := by decide +kernel
theorem d_Law_law_449 : decode i_Law_law.2.1 449 = .ok (.iaload, 1) := by decide +kernel
theorem d_Law_law_450 : decode i_Law_law.2.1 450 = .ok (.aload_n 0, 1) := by decide +kernel
theorem d_Law_law_451 : decode i_Law_law.2.1 451 = .ok (.iload_n 3, 1) := by decide +kernel
theorem d_Law_law_452 : decode i_Law_law.2.1 452 = .ok (.iconst 3, 1) := by decide +kernel
theorem d_Law_law_453 : decode i_Law_law.2.1 453 = .ok (.iadd, 1) := by decide +kernel
theorem d_Law_law_454 : decode i_Law_law.2.1 454 = .ok (.iaload, 1) := by decide +kernel
theorem d_Law_law_455 : decode i_Law_law.2.1 455 = .ok (.invokevirtual 61, 3) := by decide +kernel
theorem d_Law_law_458 : decode i_Law_law.2.1 458 = .ok (.aload_n 2, 1) := by decide +kernel
theorem d_Law_law_459 : decode i_Law_law.2.1 459 = .ok (.aload_n 0, 1) := by decide +kernel
theorem d_Law_law_460 : decode i_Law_law.2.1 460 = .ok (.iload_n 3, 1) := by decide +kernel
theorem d_Law_law_461 : decode i_Law_law.2.1 461 = .ok (.iconst 1, 1) := by decide +kernel
theorem d_Law_law_462 : decode i_Law_law.2.1 462 = .ok (.iadd, 1) := by decide +kernel
theorem d_Law_law_463 : decode i_Law_law.2.1 463 = .ok (.iaload, 1) := by decide +kernel
theorem d_Law_law_464 : decode i_Law_law.2.1 464 = .ok (.aload_n 0, 1) := by decide +kernel
theorem d_Law_law_465 : decode i_Law_law.2.1 465 = .ok (.iload_n 3, 1) := by decide +kernel
theorem d_Law_law_466 : decode i_Law_law.2.1 466 = .ok (.iconst 2, 1) := by decide +kernel
theorem d_Law_law_467 : decode i_Law_law.2.1 467 = .ok (.iadd, 1) := by decide +kernel
theorem d_Law_law_468 : decode i_Law_law.2.1 468 = .ok (.iaload, 1) := by decide +kernel
theorem d_Law_law_469 : decode i_Law_law.2.1 469 = .ok (.aload_n 0, 1) := by decide +kernel
theorem d_Law_law_470 : decode i_Law_law.2.1 470 = .ok (.iload_n 3, 1) := by decide +kernel
theorem d_Law_law_471 : decode i_Law_law.2.1 471 = .ok (.iconst 3, 1) := by decide +kernel
theorem d_Law_law_472 : decode i_Law_law.2.1 472 = .ok (.iadd, 1) := by decide +kernel
theorem d_Law_law_473 : decode i_Law_law.2.1 473 = .ok (.iaload, 1) := by decide +kernel
theorem d_Law_law_474 : decode i_Law_law.2.1 474 = .ok (.invokevirtual 65, 3) := by decide +kernel
theorem d_Law_law_477 : decode i_Law_law.2.1 477 = .ok (.if_icmp .eq 530, 3) := by decide +kernel
theorem d_Law_law_480 : decode i_Law_law.2.1 480 = .ok (.iconst 0, 1) := by decide +kernel
theorem d_Law_law_481 : decode i_Law_law.2.1 481 = .ok (.ireturn, 1) := by decide +kernel
theorem d_Law_law_482 : decode i_Law_law.2.1 482 = .ok (.aload_n 1, 1) := by decide +kernel
theorem d_Law_law_483 : decode i_Law_law.2.1 483 = .ok (.aload_n 0, 1) := by decide +kernel
theorem d_Law_law_484 : decode i_Law_law.2.1 484 = .ok (.iload_n 3, 1) := by decide +kernel
theorem d_Law_law_485 : decode i_Law_law.2.1 485 = .ok (.iconst 1, 1) := by decide +kernel
theorem d_Law_law_486 : decode i_Law_law.2.1 486 = .ok (.iadd, 1) := by decide +kernel
theorem d_Law_law_487 : decode i_Law_law.2.1 487 = .ok (.iaload, 1) := by decide +kernel
theorem d_Law_law_488 : decode i_Law_law.2.1 488 = .ok (.aload_n 0, 1) := by decide +kernel
theorem d_Law_law_489 : decode i_Law_law.2.1 489 = .ok (.iload_n 3, 1) := by decide +kernel
theorem d_Law_law_490 : decode i_Law_law.2.1 490 = .ok (.iconst 2, 1) := by decide +kernel
theorem d_Law_law_491 : decode i_Law_law.2.1 491 = .ok (.iadd, 1) := by decide +kernel
theorem d_Law_law_492 : decode i_Law_law.2.1 492 = .ok (.iaload, 1) := by decide +kernel
theorem d_Law_law_493 : decode i_Law_law.2.1 493 = .ok (.aload_n 0, 1) := by decide +kernel
theorem d_Law_law_494 : decode i_Law_law.2.1 494 = .ok (.iload_n 3, 1) := by decide +kernel
theorem d_Law_law_495 : decode i_Law_law.2.1 495 = .ok (.iconst 3, 1) := by decide +kernel
theorem d_Law_law_496 : decode i_Law_law.2.1 496 = .ok (.iadd, 1) := by decide +kernel
theorem d_Law_law_497 : decode i_Law_law.2.1 497 = .ok (.iaload, 1) := by decide +kernel
theorem d_Law_law_498 : decode i_Law_law.2.1 498 = .ok (.invokevirtual 66, 3) := by decide +kernel
theorem d_Law_law_501 : decode i_Law_law.2.1 501 = .ok (.aload_n 2, 1) := by decide +kernel
theorem d_Law_law_502 : decode i_Law_law.2.1 502 = .ok (.aload_n 0, 1) := by decide +kernel
theorem d_Law_law_503 : decode i_Law_law.2.1 503 = .ok (.iload_n 3, 1) := by decide +kernel
theorem d_Law_law_504 : decode i_Law_law.2.1 504 = .ok (.iconst 1, 1) := by decide +kernel
theorem d_Law_law_505 : decode i_Law_law.2.1 505 = .ok (.iadd, 1) := by decide +kernel
theorem d_Law_law_506 : decode i_Law_law.2.1 506 = .ok (.iaload, 1) := by decide +kernel
theorem d_Law_law_507 : decode i_Law_law.2.1 507 = .ok (.aload_n 0, 1) := by decide +kernel
theorem d_Law_law_508 : decode i_Law_law.2.1 508 = .ok (.iload_n 3, 1) := by decide +kernel
theorem d_Law_law_509 : decode i_Law_law.2.1 509 = .ok (.iconst 2, 1) := by decide +kernel
theorem d_Law_law_510 : decode i_Law_law.2.1 510 = .ok (.iadd, 1) := by decide +kernel
theorem d_Law_law_511 : decode i_Law_law.2.1 511 = .ok (.iaload, 1) := by decide +kernel
theorem d_Law_law_512 : decode i_Law_law.2.1 512 = .ok (.aload_n 0, 1) := by decide +kernel
theorem d_Law_law_513 : decode i_Law_law.2.1 513 = .ok (.iload_n 3, 1) := by decide +kernel
theorem d_Law_law_514 : decode i_Law_law.2.1 514 = .ok (.iconst 3, 1) := by decide +kernel
theorem d_Law_law_515 : decode i_Law_law.2.1 515 = .ok (.iadd, 1) := by decide +kernel
theorem d_Law_law_516 : decode i_Law_law.2.1 516 = .ok (.iaload, 1) := by decide +kernel
theorem d_Law_law_517 : decode i_Law_law.2.1 517 = .ok (.invokevirtual 69, 3) := by decide +kernel
theorem d_Law_law_520 : decode i_Law_law.2.1 520 = .ok (.if_icmp .eq 487, 3) := by decide +kernel
theorem d_Law_law_523 : decode i_Law_law.2.1 523 = .ok (.iconst 0, 1) := by decide +kernel
theorem d_Law_law_524 : decode i_Law_law.2.1 524 = .ok (.ireturn, 1) := by decide +kernel
theorem d_Law_law_525 : decode i_Law_law.2.1 525 = .ok (.aload_n 1, 1) := by decide +kernel
theorem d_Law_law_526 : decode i_Law_law.2.1 526 = .ok (.aload_n 0, 1) := by decide +kernel
theorem d_Law_law_527 : decode i_Law_law.2.1 527 = .ok (.iload_n 3, 1) := by decide +kernel
theorem d_Law_law_528 : decode i_Law_law.2.1 528 = .ok (.iconst 1, 1) := by decide +kernel
theorem d_Law_law_529 : decode i_Law_law.2.1 529 = .ok (.iadd, 1) := by decide +kernel
theorem d_Law_law_530 : decode i_Law_law.2.1 530 = .ok (.iaload, 1) := by decide +kernel
theorem d_Law_law_531 : decode i_Law_law.2.1 531 = .ok (.aload_n 0, 1) := by decide +kernel
theorem d_Law_law_532 : decode i_Law_law.2.1 532 = .ok (.iload_n 3, 1) := by decide +kernel
theorem d_Law_law_533 : decode i_Law_law.2.1 533 = .ok (.iconst 2, 1) := by decide +kernel
theorem d_Law_law_534 : decode i_Law_law.2.1 534 = .ok (.iadd, 1) := by decide +kernel
theorem d_Law_law_535 : decode i_Law_law.2.1 535 = .ok (.iaload, 1) := by decide +kernel
theorem d_Law_law_536 : decode i_Law_law.2.1 536 = .ok (.aload_n 0, 1) := by decide +kernel
theorem d_Law_law_537 : decode i_Law_law.2.1 537 = .ok (.iload_n 3, 1) := by decide +kernel
theorem d_Law_law_538 : decode i_Law_law.2.1 538 = .ok (.iconst 3, 1) := by decide +kernel
theorem d_Law_law_539 : decode i_Law_law.2.1 539 = .ok (.iadd, 1) := by decide +kernel
theorem d_Law_law_540 : decode i_Law_law.2.1 540 = .ok (.iaload, 1) := by decide +kernel
theorem d_Law_law_541 : decode i_Law_law.2.1 541 = .ok (.invokevirtual 70, 3) := by decide +kernel
theorem d_Law_law_544 : decode i_Law_law.2.1 544 = .ok (.aload_n 2, 1) := by decide +kernel
theorem d_Law_law_545 : decode i_Law_law.2.1 545 = .ok (.aload_n 0, 1) := by decide +kernel
theorem d_Law_law_546 : decode i_Law_law.2.1 546 = .ok (.iload_n 3, 1) := by decide +kernel
theorem d_Law_law_547 : decode i_Law_law.2.1 547 = .ok (.iconst 1, 1) := by decide +kernel
theorem d_Law_law_548 : decode i_Law_law.2.1 548 = .ok (.iadd, 1) := by decide +kernel
theorem d_Law_law_549 : decode i_Law_law.2.1 549 = .ok (.iaload, 1) := by decide +kernel
theorem d_Law_law_550 : decode i_Law_law.2.1 550 = .ok (.aload_n 0, 1) := by decide +kernel
theorem d_Law_law_551 : decode i_Law_law.2.1 551 = .ok (.iload_n 3, 1) := by decide +kernel
theorem d_Law_law_552 : decode i_Law_law.2.1 552 = .ok (.iconst 2, 1) := by decide +kernel
theorem d_Law_law_553 : decode i_Law_law.2.1 553 = .ok (.iadd, 1) := by decide +kernel
theorem d_Law_law_554 : decode i_Law_law.2.1 554 = .ok (.iaload, 1) := by decide +kernel
theorem d_Law_law_555 : decode i_Law_law.2.1 555 = .ok (.aload_n 0, 1) := by decide +kernel
theorem d_Law_law_556 : decode i_Law_law.2.1 556 = .ok (.iload_n 3, 1) := by decide +kernel
theorem d_Law_law_557 : decode i_Law_law.2.1 557 = .ok (.iconst 3, 1) := by decide +kernel
theorem d_Law_law_558 : decode i_Law_law.2.1 558 = .ok (.iadd, 1) := by decide +kernel
theorem d_Law_law_559 : decode i_Law_law.2.1 559 = .ok (.iaload, 1) := by decide +kernel
theorem d_Law_law_560 : decode i_Law_law.2.1 560 = .ok (.invokevirtual 73, 3) := by decide +kernel
theorem d_Law_law_563 : decode i_Law_law.2.1 563 = .ok (.if_icmp .eq 444, 3) := by decide +kernel
theorem d_Law_law_566 : decode i_Law_law.2.1 566 = .ok (.iconst 0, 1) := by decide +kernel
theorem d_Law_law_567 : decode i_Law_law.2.1 567 = .ok (.ireturn, 1) := by decide +kernel
theorem d_Law_law_568 : decode i_Law_law.2.1 568 = .ok (.aload_n 1, 1) := by decide +kernel
theorem d_Law_law_569 : decode i_Law_law.2.1 569 = .ok (.aload_n 0, 1) := by decide +kernel
theorem d_Law_law_570 : decode i_Law_law.2.1 570 = .ok (.iload_n 3, 1) := by decide +kernel
theorem d_Law_law_571 : decode i_Law_law.2.1 571 = .ok (.iconst 1, 1) := by decide +kernel
theorem d_Law_law_572 : decode i_Law_law.2.1 572 = .ok (.iadd, 1) := by decide +kernel
theorem d_Law_law_573 : decode i_Law_law.2.1 573 = .ok (.iaload, 1) := by decide +kernel
theorem d_Law_law_574 : decode i_Law_law.2.1 574 = .ok (.aload_n 0, 1) := by decide +kernel
theorem d_Law_law_575 : decode i_Law_law.2.1 575 = .ok (.iload_n 3, 1) := by decide +kernel
theorem d_Law_law_576 : decode i_Law_law.2.1 576 = .ok (.iconst 2, 1) := by decide +kernel
theorem d_Law_law_577 : decode i_Law_law.2.1 577 = .ok (.iadd, 1) := by decide +kernel
theorem d_Law_law_578 : decode i_Law_law.2.1 578 = .ok (.iaload, 1) := by decide +kernel
theorem d_Law_law_579 : decode i_Law_law.2.1 579 = .ok (.aload_n 0, 1) := by decide +kernel
theorem d_Law_law_580 : decode i_Law_law.2.1 580 = .ok (.iload_n 3, 1) := by decide +kernel
theorem d_Law_law_581 : decode i_Law_law.2.1 581 = .ok (.iconst 3, 1) := by decide +kernel
theorem d_Law_law_582 : decode i_Law_law.2.1 582 = .ok (.iadd, 1) := by decide +kernel
theorem d_Law_law_583 : decode i_Law_law.2.1 583 = .ok (.iaload, 1) := by decide +kernel
theorem d_Law_law_584 : decode i_Law_law.2.1 584 = .ok (.invokevirtual 74, 3) := by decide +kernel
theorem d_Law_law_587 : decode i_Law_law.2.1 587 = .ok (.aload_n 2, 1) := by decide +kernel
theorem d_Law_law_588 : decode i_Law_law.2.1 588 = .ok (.aload_n 0, 1) := by decide +kernel
theorem d_Law_law_589 : decode i_Law_law.2.1 589 = .ok (.iload_n 3, 1) := by decide +kernel
theorem d_Law_law_590 : decode i_Law_law.2.1 590 = .ok (.iconst 1, 1) := by decide +kernel
theorem d_Law_law_591 : decode i_Law_law.2.1 591 = .ok (.iadd, 1) := by decide +kernel
theorem d_Law_law_592 : decode i_Law_law.2.1 592 = .ok (.iaload, 1) := by decide +kernel
theorem d_Law_law_593 : decode i_Law_law.2.1 593 = .ok (.aload_n 0, 1) := by decide +kernel
theorem d_Law_law_594 : decode i_Law_law.2.1 594 = .ok (.iload_n 3, 1) := by decide +kernel
theorem d_Law_law_595 : decode i_Law_law.2.1 595 = .ok (.iconst 2, 1) := by decide +kernel
theorem d_Law_law_596 : decode i_Law_law.2.1 596 = .ok (.iadd, 1) := by decide +kernel
theorem d_Law_law_597 : decode i_Law_law.2.1 597 = .ok (.iaload, 1) := by decide +kernel
theorem d_Law_law_598 : decode i_Law_law.2.1 598 = .ok (.aload_n 0, 1) := by decide +kernel
theorem d_Law_law_599 : decode i_Law_law.2.1 599 = .ok (.iload_n 3, 1) := by decide +kernel
theorem d_Law_law_600 : decode i_Law_law.2.1 600 = .ok (.iconst 3, 1) := by decide +kernel
theorem d_Law_law_601 : decode i_Law_law.2.1 601 = .ok (.iadd, 1) := by decide +kernel
theorem d_Law_law_602 : decode i_Law_law.2.1 602 = .ok (.iaload, 1) := by decide +kernel
theorem d_Law_law_603 : decode i_Law_law.2.1 603 = .ok (.invokevirtual 77, 3) := by decide +kernel
theorem d_Law_law_606 : decode i_Law_law.2.1 606 = .ok (.if_icmp .eq 401, 3) := by decide +kernel
theorem d_Law_law_609 : decode i_Law_law.2.1 609 = .ok (.iconst 0, 1) := by decide +kernel
theorem d_Law_law_610 : decode i_Law_law.2.1 610 = .ok (.ireturn, 1) := by decide +kernel
theorem d_Law_law_611 : decode i_Law_law.2.1 611 = .ok (.aload_n 1, 1) := by decide +kernel
theorem d_Law_law_612 : decode i_Law_law.2.1 612 = .ok (.aload_n 0, 1) := by decide +kernel
theorem d_Law_law_613 : decode i_Law_law.2.1 613 = .ok (.iload_n 3, 1) := by decide +kernel
theorem d_Law_law_614 : decode i_Law_law.2.1 614 = .ok (.iconst 1, 1) := by decide +kernel
theorem d_Law_law_615 : decode i_Law_law.2.1 615 = .ok (.iadd, 1) := by decide +kernel
theorem d_Law_law_616 : decode i_Law_law.2.1 616 = .ok (.iaload, 1) := by decide +kernel
theorem d_Law_law_617 : decode i_Law_law.2.1 617 = .ok (.aload_n 0, 1) := by decide +kernel
theorem d_Law_law_618 : decode i_Law_law.2.1 618 = .ok (.iload_n 3, 1) := by decide +kernel
theorem d_Law_law_619 : decode i_Law_law.2.1 619 = .ok (.iconst 2, 1) := by decide +kernel
theorem d_Law_law_620 : decode i_Law_law.2.1 620 = .ok (.iadd, 1) := by decide +kernel
theorem d_Law_law_621 : decode i_Law_law.2.1 621 = .ok (.iaload, 1) := by decide +kernel
theorem d_Law_law_622 : decode i_Law_law.2.1 622 = .ok (.invokevirtual 78, 3) := by decide +kernel
theorem d_Law_law_625 : decode i_Law_law.2.1 625 = .ok (.aload_n 2, 1) := by decide +kernel
theorem d_Law_law_626 : decode i_Law_law.2.1 626 = .ok (.aload_n 0, 1) := by decide +kernel
theorem d_Law_law_627 : decode i_Law_law.2.1 627 = .ok (.iload_n 3, 1) := by decide +kernel
theorem d_Law_law_628 : decode i_Law_law.2.1 628 = .ok (.iconst 1, 1) := by decide +kernel
theorem d_Law_law_629 : decode i_Law_law.2.1 629 = .ok (.iadd, 1) := by decide +kernel
theorem d_Law_law_630 : decode i_Law_law.2.1 630 = .ok (.iaload, 1) := by decide +kernel
theorem d_Law_law_631 : decode i_Law_law.2.1 631 = .ok (.aload_n 0, 1) := by decide +kernel
theorem d_Law_law_632 : decode i_Law_law.2.1 632 = .ok (.iload_n 3, 1) := by decide +kernel
theorem d_Law_law_633 : decode i_Law_law.2.1 633 = .ok (.iconst 2, 1) := by decide +kernel
theorem d_Law_law_634 : decode i_Law_law.2.1 634 = .ok (.iadd, 1) := by decide +kernel
theorem d_Law_law_635 : decode i_Law_law.2.1 635 = .ok (.iaload, 1) := by decide +kernel
theorem d_Law_law_636 : decode i_Law_law.2.1 636 = .ok (.invokevirtual 81, 3) := by decide +kernel
theorem d_Law_law_639 : decode i_Law_law.2.1 639 = .ok (.if_icmp .eq 368, 3) := by decide +kernel
theorem d_Law_law_642 : decode i_Law_law.2.1 642 = .ok (.iconst 0, 1) := by decide +kernel
theorem d_Law_law_643 : decode i_Law_law.2.1 643 = .ok (.ireturn, 1) := by decide +kernel
theorem d_Law_law_644 : decode i_Law_law.2.1 644 = .ok (.aload_n 1, 1) := by decide +kernel
theorem d_Law_law_645 : decode i_Law_law.2.1 645 = .ok (.aload_n 0, 1) := by decide +kernel
theorem d_Law_law_646 : decode i_Law_law.2.1 646 = .ok (.iload_n 3, 1) := by decide +kernel
theorem d_Law_law_647 : decode i_Law_law.2.1 647 = .ok (.iconst 1, 1) := by decide +kernel
theorem d_Law_law_648 : decode i_Law_law.2.1 648 = .ok (.iadd, 1) := by decide +kernel
theorem d_Law_law_649 : decode i_Law_law.2.1 649 = .ok (.iaload, 1) := by decide +kernel
theorem d_Law_law_650 : decode i_Law_law.2.1 650 = .ok (.aload_n 0, 1) := by decide +kernel
theorem d_Law_law_651 : decode i_Law_law.2.1 651 = .ok (.iload_n 3, 1) := by decide +kernel
theorem d_Law_law_652 : decode i_Law_law.2.1 652 = .ok (.iconst 2, 1) := by decide +kernel
theorem d_Law_law_653 : decode i_Law_law.2.1 653 = .ok (.iadd, 1) := by decide +kernel
theorem d_Law_law_654 : decode i_Law_law.2.1 654 = .ok (.iaload, 1) := by decide +kernel
theorem d_Law_law_655 : decode i_Law_law.2.1 655 = .ok (.invokevirtual 82, 3) := by decide +kernel
theorem d_Law_law_658 : decode i_Law_law.2.1 658 = .ok (.aload_n 2, 1) := by decide +kernel
theorem d_Law_law_659 : decode i_Law_law.2.1 659 = .ok (.aload_n 0, 1) := by decide +kernel
theorem d_Law_law_660 : decode i_Law_law.2.1 660 = .ok (.iload_n 3, 1) := by decide +kernel
theorem d_Law_law_661 : decode i_Law_law.2.1 661 = .ok (.iconst 1, 1) := by decide +kernel
theorem d_Law_law_662 : decode i_Law_law.2.1 662 = .ok (.iadd, 1) := by decide +kernel
theorem d_Law_law_663 : decode i_Law_law.2.1 663 = .ok (.iaload, 1) := by decide +kernel
theorem d_Law_law_664 : decode i_Law_law.2.1 664 = .ok (.aload_n 0, 1) := by decide +kernel
theorem d_Law_law_665 : decode i_Law_law.2.1 665 = .ok (.iload_n 3, 1) := by decide +kernel
theorem d_Law_law_666 : decode i_Law_law.2.1 666 = .ok (.iconst 2, 1) := by decide +kernel
theorem d_Law_law_667 : decode i_Law_law.2.1 667 = .ok (.iadd, 1) := by decide +kernel
theorem d_Law_law_668 : decode i_Law_law.2.1 668 = .ok (.iaload, 1) := by decide +kernel
theorem d_Law_law_669 : decode i_Law_law.2.1 669 = .ok (.invokevirtual 85, 3) := by decide +kernel
theorem d_Law_law_672 : decode i_Law_law.2.1 672 = .ok (.if_icmp .eq 335, 3) := by decide +kernel
theorem d_Law_law_675 : decode i_Law_law.2.1 675 = .ok (.iconst 0, 1) := by decide +kernel
theorem d_Law_law_676 : decode i_Law_law.2.1 676 = .ok (.ireturn, 1) := by decide +kernel
theorem d_Law_law_677 : decode i_Law_law.2.1 677 = .ok (.aload_n 1, 1) := by decide +kernel
theorem d_Law_law_678 : decode i_Law_law.2.1 678 = .ok (.aload_n 0, 1) := by decide +kernel
theorem d_Law_law_679 : decode i_Law_law.2.1 679 = .ok (.iload_n 3, 1) := by decide +kernel
theorem d_Law_law_680 : decode i_Law_law.2.1 680 = .ok (.iconst 1, 1) := by decide +kernel
theorem d_Law_law_681 : decode i_Law_law.2.1 681 = .ok (.iadd, 1) := by decide +kernel
theorem d_Law_law_682 : decode i_Law_law.2.1 682 = .ok (.iaload, 1) := by decide +kernel
theorem d_Law_law_683 : decode i_Law_law.2.1 683 = .ok (.aload_n 0, 1) := by decide +kernel
theorem d_Law_law_684 : decode i_Law_law.2.1 684 = .ok (.iload_n 3, 1) := by decide +kernel
theorem d_Law_law_685 : decode i_Law_law.2.1 685 = .ok (.iconst 2, 1) := by decide +kernel
theorem d_Law_law_686 : decode i_Law_law.2.1 686 = .ok (.iadd, 1) := by decide +kernel
theorem d_Law_law_687 : decode i_Law_law.2.1 687 = .ok (.iaload, 1) := by decide +kernel
theorem d_Law_law_688 : decode i_Law_law.2.1 688 = .ok (.aload_n 0, 1) := by decide +kernel
theorem d_Law_law_689 : decode i_Law_law.2.1 689 = .ok (.iload_n 3, 1) := by decide +kernel
theorem d_Law_law_690 : decode i_Law_law.2.1 690 = .ok (.iconst 3, 1) := by decide +kernel
theorem d_Law_law_691 : decode i_Law_law.2.1 691 = .ok (.iadd, 1) := by decide +kernel
theorem d_Law_law_692 : decode i_Law_law.2.1 692 = .ok (.iaload, 1) := by decide +kernel
theorem d_Law_law_693 : decode i_Law_law.2.1 693 = .ok (.invokevirtual 86, 3) := by decide +kernel
theorem d_Law_law_696 : decode i_Law_law.2.1 696 = .ok (.aload_n 2, 1) := by decide +kernel
theorem d_Law_law_697 : decode i_Law_law.2.1 697 = .ok (.aload_n 0, 1) := by decide +kernel
theorem d_Law_law_698 : decode i_Law_law.2.1 698 = .ok (.iload_n 3, 1) := by decide +kernel
theorem d_Law_law_699 : decode i_Law_law.2.1 699 = .ok (.iconst 1, 1) := by decide +kernel
theorem d_Law_law_700 : decode i_Law_law.2.1 700 = .ok (.iadd, 1) := by decide +kernel
theorem d_Law_law_701 : decode i_Law_law.2.1 701 = .ok (.iaload, 1) := by decide +kernel
theorem d_Law_law_702 : decode i_Law_law.2.1 702 = .ok (.aload_n 0, 1) := by decide +kernel
theorem d_Law_law_703 : decode i_Law_law.2.1 703 = .ok (.iload_n 3, 1) := by decide +kernel
theorem d_Law_law_704 : decode i_Law_law.2.1 704 = .ok (.iconst 2, 1) := by decide +kernel
theorem d_Law_law_705 : decode i_Law_law.2.1 705 = .ok (.iadd, 1) := by decide +kernel
theorem d_Law_law_706 : decode i_Law_law.2.1 706 = .ok (.iaload, 1) := by decide +kernel
theorem d_Law_law_707 : decode i_Law_law.2.1 707 = .ok (.aload_n 0, 1) := by decide +kernel
theorem d_Law_law_708 : decode i_Law_law.2.1 708 = .ok (.iload_n 3, 1) := by decide +kernel
theorem d_Law_law_709 : decode i_Law_law.2.1 709 = .ok (.iconst 3, 1) := by decide +kernel
theorem d_Law_law_710 : decode i_Law_law.2.1 710 = .ok (.iadd, 1) := by decide +kernel
theorem d_Law_law_711 : decode i_Law_law.2.1 711 = .ok (.iaload, 1) := by decide +kernel
theorem d_Law_law_712 : decode i_Law_law.2.1 712 = .ok (.invokevirtual 89, 3) := by decide +kernel
theorem d_Law_law_715 : decode i_Law_law.2.1 715 = .ok (.if_icmp .eq 292, 3) := by decide +kernel
theorem d_Law_law_718 : decode i_Law_law.2.1 718 = .ok (.iconst 0, 1) := by decide +kernel
theorem d_Law_law_719 : decode i_Law_law.2.1 719 = .ok (.ireturn, 1) := by decide +kernel
theorem d_Law_law_720 : decode i_Law_law.2.1 720 = .ok (.aload_n 1, 1) := by decide +kernel
theorem d_Law_law_721 : decode i_Law_law.2.1 721 = .ok (.aload_n 0, 1) := by decide +kernel
theorem d_Law_law_722 : decode i_Law_law.2.1 722 = .ok (.iload_n 3, 1) := by decide +kernel
theorem d_Law_law_723 : decode i_Law_law.2.1 723 = .ok (.iconst 1, 1) := by decide +kernel
theorem d_Law_law_724 : decode i_Law_law.2.1 724 = .ok (.iadd, 1) := by decide +kernel
theorem d_Law_law_725 : decode i_Law_law.2.1 725 = .ok (.iaload, 1) := by decide +kernel
theorem d_Law_law_726 : decode i_Law_law.2.1 726 = .ok (.aload_n 0, 1) := by decide +kernel
theorem d_Law_law_727 : decode i_Law_law.2.1 727 = .ok (.iload_n 3, 1) := by decide +kernel
theorem d_Law_law_728 : decode i_Law_law.2.1 728 = .ok (.iconst 2, 1) := by decide +kernel
theorem d_Law_law_729 : decode i_Law_law.2.1 729 = .ok (.iadd, 1) := by decide +kernel
theorem d_Law_law_730 : decode i_Law_law.2.1 730 = .ok (.iaload, 1) := by decide +kernel
theorem d_Law_law_731 : decode i_Law_law.2.1 731 = .ok (.invokevirtual 90, 3) := by decide +kernel
theorem d_Law_law_734 : decode i_Law_law.2.1 734 = .ok (.aload_n 2, 1) := by decide +kernel
theorem d_Law_law_735 : decode i_Law_law.2.1 735 = .ok (.aload_n 0, 1) := by decide +kernel
theorem d_Law_law_736 : decode i_Law_law.2.1 736 = .ok (.iload_n 3, 1) := by decide +kernel
theorem d_Law_law_737 : decode i_Law_law.2.1 737 = .ok (.iconst 1, 1) := by decide +kernel
theorem d_Law_law_738 : decode i_Law_law.2.1 738 = .ok (.iadd, 1) := by decide +kernel
theorem d_Law_law_739 : decode i_Law_law.2.1 739 = .ok (.iaload, 1) := by decide +kernel
theorem d_Law_law_740 : decode i_Law_law.2.1 740 = .ok (.aload_n 0, 1) := by decide +kernel
theorem d_Law_law_741 : decode i_Law_law.2.1 741 = .ok (.iload_n 3, 1) := by decide +kernel
theorem d_Law_law_742 : decode i_Law_law.2.1 742 = .ok (.iconst 2, 1) := by decide +kernel
theorem d_Law_law_743 : decode i_Law_law.2.1 743 = .ok (.iadd, 1) := by decide +kernel
theorem d_Law_law_744 : decode i_Law_law.2.1 744 = .ok (.iaload, 1) := by decide +kernel
theorem d_Law_law_745 : decode i_Law_law.2.1 745 = .ok (.invokevirtual 93, 3) := by decide +kernel
theorem d_Law_law_748 : decode i_Law_law.2.1 748 = .ok (.if_icmp .eq 259, 3) := by decide +kernel
theorem d_Law_law_751 : decode i_Law_law.2.1 751 = .ok (.iconst 0, 1) := by decide +kernel
theorem d_Law_law_752 : decode i_Law_law.2.1 752 = .ok (.ireturn, 1) := by decide +kernel
theorem d_Law_law_753 : decode i_Law_law.2.1 753 = .ok (.aload_n 1, 1) := by decide +kernel
theorem d_Law_law_754 : decode i_Law_law.2.1 754 = .ok (.aload_n 0, 1) := by decide +kernel
theorem d_Law_law_755 : decode i_Law_law.2.1 755 = .ok (.iload_n 3, 1) := by decide +kernel
theorem d_Law_law_756 : decode i_Law_law.2.1 756 = .ok (.iconst 1, 1) := by decide +kernel
theorem d_Law_law_757 : decode i_Law_law.2.1 757 = .ok (.iadd, 1) := by decide +kernel
theorem d_Law_law_758 : decode i_Law_law.2.1 758 = .ok (.iaload, 1) := by decide +kernel
theorem d_Law_law_759 : decode i_Law_law.2.1 759 = .ok (.aload_n 0, 1) := by decide +kernel
theorem d_Law_law_760 : decode i_Law_law.2.1 760 = .ok (.iload_n 3, 1) := by decide +kernel
theorem d_Law_law_761 : decode i_Law_law.2.1 761 = .ok (.iconst 2, 1) := by decide +kernel
theorem d_Law_law_762 : decode i_Law_law.2.1 762 = .ok (.iadd, 1) := by decide +kernel
theorem d_Law_law_763 : decode i_Law_law.2.1 763 = .ok (.iaload, 1) := by decide +kernel
theorem d_Law_law_764 : decode i_Law_law.2.1 764 = .ok (.aload_n 0, 1) := by decide +kernel
theorem d_Law_law_765 : decode i_Law_law.2.1 765 = .ok (.iload_n 3, 1) := by decide +kernel
theorem d_Law_law_766 : decode i_Law_law.2.1 766 = .ok (.iconst 3, 1) := by decide +kernel
theorem d_Law_law_767 : decode i_Law_law.2.1 767 = .ok (.iadd, 1) := by decide +kernel
theorem d_Law_law_768 : decode i_Law_law.2.1 768 = .ok (.iaload, 1) := by decide +kernel
theorem d_Law_law_769 : decode i_Law_law.2.1 769 = .ok (.aload_n 0, 1) := by decide +kernel
theorem d_Law_law_770 : decode i_Law_law.2.1 770 = .ok (.iload_n 3, 1) := by decide +kernel
theorem d_Law_law_771 : decode i_Law_law.2.1 771 = .ok (.iconst 4, 1) := by decide +kernel
theorem d_Law_law_772 : decode i_Law_law.2.1 772 = .ok (.iadd, 1) := by decide +kernel
theorem d_Law_law_773 : decode i_Law_law.2.1 773 = .ok (.iaload, 1) := by decide +kernel
theorem d_Law_law_774 : decode i_Law_law.2.1 774 = .ok (.invokevirtual 94, 3) := by decide +kernel
theorem d_Law_law_777 : decode i_Law_law.2.1 777 = .ok (.aload_n 2, 1) := by decide +kernel
theorem d_Law_law_778 : decode i_Law_law.2.1 778 = .ok (.aload_n 0, 1) := by decide +kernel
theorem d_Law_law_779 : decode i_Law_law.2.1 779 = .ok (.iload_n 3, 1) := by decide +kernel
theorem d_Law_law_780 : decode i_Law_law.2.1 780 = .ok (.iconst 1, 1) := by decide +kernel
theorem d_Law_law_781 : decode i_Law_law.2.1 781 = .ok (.iadd, 1) := by decide +kernel
theorem d_Law_law_782 : decode i_Law_law.2.1 782 = .ok (.iaload, 1) := by decide +kernel
theorem d_Law_law_783 : decode i_Law_law.2.1 783 = .ok (.aload_n 0, 1) := by decide +kernel
theorem d_Law_law_784 : decode i_Law_law.2.1 784 = .ok (.iload_n 3, 1) := by decide +kernel
theorem d_Law_law_785 : decode i_Law_law.2.1 785 = .ok (.iconst 2, 1) := by decide +kernel
theorem d_Law_law_786 : decode i_Law_law.2.1 786 = .ok (.iadd, 1) := by decide +kernel
theorem d_Law_law_787 : decode i_Law_law.2.1 787 = .ok (.iaload, 1) := by decide +kernel
theorem d_Law_law_788 : decode i_Law_law.2.1 788 = .ok (.aload_n 0, 1) := by decide +kernel
theorem d_Law_law_789 : decode i_Law_law.2.1 789 = .ok (.iload_n 3, 1) := by decide +kernel
theorem d_Law_law_790 : decode i_Law_law.2.1 790 = .ok (.iconst 3, 1) := by decide +kernel
theorem d_Law_law_791 : decode i_Law_law.2.1 791 = .ok (.iadd, 1) := by decide +kernel
theorem d_Law_law_792 : decode i_Law_law.2.1 792 = .ok (.iaload, 1) := by decide +kernel
theorem d_Law_law_793 : decode i_Law_law.2.1 793 = .ok (.aload_n 0, 1) := by decide +kernel
theorem d_Law_law_794 : decode i_Law_law.2.1 794 = .ok (.iload_n 3, 1) := by decide +kernel
theorem d_Law_law_795 : decode i_Law_law.2.1 795 = .ok (.iconst 4, 1) := by decide +kernel
theorem d_Law_law_796 : decode i_Law_law.2.1 796 = .ok (.iadd, 1) := by decide +kernel
theorem d_Law_law_797 : decode i_Law_law.2.1 797 = .ok (.iaload, 1) := by decide +kernel
theorem d_Law_law_798 : decode i_Law_law.2.1 798 = .ok (.invokevirtual 98, 3) := by decide +kernel
theorem d_Law_law_801 : decode i_Law_law.2.1 801 = .ok (.if_icmp .eq 206, 3) := by decide +kernel
theorem d_Law_law_804 : decode i_Law_law.2.1 804 = .ok (.iconst 0, 1) := by decide +kernel
theorem d_Law_law_805 : decode i_Law_law.2.1 805 = .ok (.ireturn, 1) := by decide +kernel
theorem d_Law_law_806 : decode i_Law_law.2.1 806 = .ok (.aload_n 1, 1) := by decide +kernel
theorem d_Law_law_807 : decode i_Law_law.2.1 807 = .ok (.aload_n 0, 1) := by decide +kernel
theorem d_Law_law_808 : decode i_Law_law.2.1 808 = .ok (.iload_n 3, 1) := by decide +kernel
theorem d_Law_law_809 : decode i_Law_law.2.1 809 = .ok (.iconst 1, 1) := by decide +kernel
theorem d_Law_law_810 : decode i_Law_law.2.1 810 = .ok (.iadd, 1) := by decide +kernel
theorem d_Law_law_811 : decode i_Law_law.2.1 811 = .ok (.iaload, 1) := by decide +kernel
theorem d_Law_law_812 : decode i_Law_law.2.1 812 = .ok (.aload_n 0, 1) := by decide +kernel
theorem d_Law_law_813 : decode i_Law_law.2.1 813 = .ok (.iload_n 3, 1) := by decide +kernel
theorem d_Law_law_814 : decode i_Law_law.2.1 814 = .ok (.iconst 2, 1) := by decide +kernel
theorem d_Law_law_815 : decode i_Law_law.2.1 815 = .ok (.iadd, 1) := by decide +kernel
theorem d_Law_law_816 : decode i_Law_law.2.1 816 = .ok (.iaload, 1) := by decide +kernel
theorem d_Law_law_817 : decode i_Law_law.2.1 817 = .ok (.aload_n 0, 1) := by decide +kernel
theorem d_Law_law_818 : decode i_Law_law.2.1 818 = .ok (.iload_n 3, 1) := by decide +kernel
theorem d_Law_law_819 : decode i_Law_law.2.1 819 = .ok (.iconst 3, 1) := by decide +kernel
theorem d_Law_law_820 : decode i_Law_law.2.1 820 = .ok (.iadd, 1) := by decide +kernel
theorem d_Law_law_821 : decode i_Law_law.2.1 821 = .ok (.iaload, 1) := by decide +kernel
theorem d_Law_law_822 : decode i_Law_law.2.1 822 = .ok (.aload_n 0, 1) := by decide +kernel
theorem d_Law_law_823 : decode i_Law_law.2.1 823 = .ok (.iload_n 3, 1) := by decide +kernel
theorem d_Law_law_824 : decode i_Law_law.2.1 824 = .ok (.iconst 4, 1) := by decide +kernel
theorem d_Law_law_825 : decode i_Law_law.2.1 825 = .ok (.iadd, 1) := by decide +kernel
theorem d_Law_law_826 : decode i_Law_law.2.1 826 = .ok (.iaload, 1) := by decide +kernel
theorem d_Law_law_827 : decode i_Law_law.2.1 827 = .ok (.invokevirtual 99, 3) := by decide +kernel
theorem d_Law_law_830 : decode i_Law_law.2.1 830 = .ok (.aload_n 2, 1) := by decide +kernel
theorem d_Law_law_831 : decode i_Law_law.2.1 831 = .ok (.aload_n 0, 1) := by decide +kernel
theorem d_Law_law_832 : decode i_Law_law.2.1 832 = .ok (.iload_n 3, 1) := by decide +kernel
theorem d_Law_law_833 : decode i_Law_law.2.1 833 = .ok (.iconst 1, 1) := by decide +kernel
theorem d_Law_law_834 : decode i_Law_law.2.1 834 = .ok (.iadd, 1) := by decide +kernel
theorem d_Law_law_835 : decode i_Law_law.2.1 835 = .ok (.iaload, 1) := by decide +kernel
theorem d_Law_law_836 : decode i_Law_law.2.1 836 = .ok (.aload_n 0, 1) := by decide +kernel
theorem d_Law_law_837 : decode i_Law_law.2.1 837 = .ok (.iload_n 3, 1) := by decide +kernel
theorem d_Law_law_838 : decode i_Law_law.2.1 838 = .ok (.iconst 2, 1) := by decide +kernel
theorem d_Law_law_839 : decode i_Law_law.2.1 839 = .ok (.iadd, 1) := by decide +kernel
theorem d_Law_law_840 : decode i_Law_law.2.1 840 = .ok (.iaload, 1) := by decide +kernel
theorem d_Law_law_841 : decode i_Law_law.2.1 841 = .ok (.aload_n 0, 1) := by decide +kernel
theorem d_Law_law_842 : decode i_Law_law.2.1 842 = .ok (.iload_n 3, 1) := by decide +kernel
theorem d_Law_law_843 : decode i_Law_law.2.1 843 = .ok (.iconst 3, 1) := by decide +kernel
theorem d_Law_law_844 : decode i_Law_law.2.1 844 = .ok (.iadd, 1) := by decide +kernel
theorem d_Law_law_845 : decode i_Law_law.2.1 845 = .ok (.iaload, 1) := by decide +kernel
theorem d_Law_law_846 : decode i_Law_law.2.1 846 = .ok (.aload_n 0, 1) := by decide +kernel
theorem d_Law_law_847 : decode i_Law_law.2.1 847 = .ok (.iload_n 3, 1) := by decide +kernel
theorem d_Law_law_848 : decode i_Law_law.2.1 848 = .ok (.iconst 4, 1) := by decide +kernel
theorem d_Law_law_849 : decode i_Law_law.2.1 849 = .ok (.iadd, 1) := by decide +kernel
theorem d_Law_law_850 : decode i_Law_law.2.1 850 = .ok (.iaload, 1) := by decide +kernel
theorem d_Law_law_851 : decode i_Law_law.2.1 851 = .ok (.invokevirtual 102, 3) := by decide +kernel
theorem d_Law_law_854 : decode i_Law_law.2.1 854 = .ok (.if_icmp .eq 153, 3) := by decide +kernel
theorem d_Law_law_857 : decode i_Law_law.2.1 857 = .ok (.iconst 0, 1) := by decide +kernel
theorem d_Law_law_858 : decode i_Law_law.2.1 858 = .ok (.ireturn, 1) := by decide +kernel
theorem d_Law_law_859 : decode i_Law_law.2.1 859 = .ok (.aload_n 1, 1) := by decide +kernel
theorem d_Law_law_860 : decode i_Law_law.2.1 860 = .ok (.aload_n 0, 1) := by decide +kernel
theorem d_Law_law_861 : decode i_Law_law.2.1 861 = .ok (.iload_n 3, 1) := by decide +kernel
theorem d_Law_law_862 : decode i_Law_law.2.1 862 = .ok (.iconst 1, 1) := by decide +kernel
theorem d_Law_law_863 : decode i_Law_law.2.1 863 = .ok (.iadd, 1) := by decide +kernel
theorem d_Law_law_864 : decode i_Law_law.2.1 864 = .ok (.iaload, 1) := by decide +kernel
theorem d_Law_law_865 : decode i_Law_law.2.1 865 = .ok (.aload_n 0, 1) := by decide +kernel
theorem d_Law_law_866 : decode i_Law_law.2.1 866 = .ok (.iload_n 3, 1) := by decide +kernel
theorem d_Law_law_867 : decode i_Law_law.2.1 867 = .ok (.iconst 2, 1) := by decide +kernel
theorem d_Law_law_868 : decode i_Law_law.2.1 868 = .ok (.iadd, 1) := by decide +kernel
theorem d_Law_law_869 : decode i_Law_law.2.1 869 = .ok (.iaload, 1) := by decide +kernel
theorem d_Law_law_870 : decode i_Law_law.2.1 870 = .ok (.invokevirtual 103, 3) := by decide +kernel
theorem d_Law_law_873 : decode i_Law_law.2.1 873 = .ok (.aload_n 2, 1) := by decide +kernel
theorem d_Law_law_874 : decode i_Law_law.2.1 874 = .ok (.aload_n 0, 1) := by decide +kernel
theorem d_Law_law_875 : decode i_Law_law.2.1 875 = .ok (.iload_n 3, 1) := by decide +kernel
theorem d_Law_law_876 : decode i_Law_law.2.1 876 = .ok (.iconst 1, 1) := by decide +kernel
theorem d_Law_law_877 : decode i_Law_law.2.1 877 = .ok (.iadd, 1) := by decide +kernel
theorem d_Law_law_878 : decode i_Law_law.2.1 878 = .ok (.iaload, 1) := by decide +kernel
theorem d_Law_law_879 : decode i_Law_law.2.1 879 = .ok (.aload_n 0, 1) := by decide +kernel
theorem d_Law_law_880 : decode i_Law_law.2.1 880 = .ok (.iload_n 3, 1) := by decide +kernel
theorem d_Law_law_881 : decode i_Law_law.2.1 881 = .ok (.iconst 2, 1) := by decide +kernel
theorem d_Law_law_882 : decode i_Law_law.2.1 882 = .ok (.iadd, 1) := by decide +kernel
theorem d_Law_law_883 : decode i_Law_law.2.1 883 = .ok (.iaload, 1) := by decide +kernel
theorem d_Law_law_884 : decode i_Law_law.2.1 884 = .ok (.invokevirtual 106, 3) := by decide +kernel
theorem d_Law_law_887 : decode i_Law_law.2.1 887 = .ok (.if_icmp .eq 120, 3) := by decide +kernel
theorem d_Law_law_890 : decode i_Law_law.2.1 890 = .ok (.iconst 0, 1) := by decide +kernel
theorem d_Law_law_891 : decode i_Law_law.2.1 891 = .ok (.ireturn, 1) := by decide +kernel
theorem d_Law_law_892 : decode i_Law_law.2.1 892 = .ok (.aload_n 1, 1) := by decide +kernel
theorem d_Law_law_893 : decode i_Law_law.2.1 893 = .ok (.aload_n 0, 1) := by decide +kernel
theorem d_Law_law_894 : decode i_Law_law.2.1 894 = .ok (.iload_n 3, 1) := by decide +kernel
theorem d_Law_law_895 : decode i_Law_law.2.1 895 = .ok (.iconst 1, 1) := by decide +kernel
theorem d_Law_law_896 : decode i_Law_law.2.1 896 = .ok (.iadd, 1) := by decide +kernel
theorem d_Law_law_897 : decode i_Law_law.2.1 897 = .ok (.iaload, 1) := by decide +kernel
theorem d_Law_law_898 : decode i_Law_law.2.1 898 = .ok (.invokevirtual 107, 3) := by decide +kernel
theorem d_Law_law_901 : decode i_Law_law.2.1 901 = .ok (.aload_n 2, 1) := by decide +kernel
theorem d_Law_law_902 : decode i_Law_law.2.1 902 = .ok (.aload_n 0, 1) := by decide +kernel
theorem d_Law_law_903 : decode i_Law_law.2.1 903 = .ok (.iload_n 3, 1) := by decide +kernel
theorem d_Law_law_904 : decode i_Law_law.2.1 904 = .ok (.iconst 1, 1) := by decide +kernel
theorem d_Law_law_905 : decode i_Law_law.2.1 905 = .ok (.iadd, 1) := by decide +kernel
theorem d_Law_law_906 : decode i_Law_law.2.1 906 = .ok (.iaload, 1) := by decide +kernel
theorem d_Law_law_907 : decode i_Law_law.2.1 907 = .ok (.invokevirtual 110, 3) := by decide +kernel
theorem d_Law_law_910 : decode i_Law_law.2.1 910 = .ok (.if_icmp .eq 97, 3) := by decide +kernel
theorem d_Law_law_913 : decode i_Law_law.2.1 913 = .ok (.iconst 0, 1) := by decide +kernel
theorem d_Law_law_914 : decode i_Law_law.2.1 914 = .ok (.ireturn, 1) := by decide +kernel
theorem d_Law_law_915 : decode i_Law_law.2.1 915 = .ok (.aload_n 1, 1) := by decide +kernel
theorem d_Law_law_916 : decode i_Law_law.2.1 916 = .ok (.aload_n 0, 1) := by decide +kernel
theorem d_Law_law_917 : decode i_Law_law.2.1 917 = .ok (.iload_n 3, 1) := by decide +kernel
theorem d_Law_law_918 : decode i_Law_law.2.1 918 = .ok (.iconst 1, 1) := by decide +kernel
theorem d_Law_law_919 : decode i_Law_law.2.1 919 = .ok (.iadd, 1) := by decide +kernel
theorem d_Law_law_920 : decode i_Law_law.2.1 920 = .ok (.iaload, 1) := by decide +kernel
theorem d_Law_law_921 : decode i_Law_law.2.1 921 = .ok (.invokevirtual 111, 3) := by decide +kernel
theorem d_Law_law_924 : decode i_Law_law.2.1 924 = .ok (.aload_n 2, 1) := by decide +kernel
theorem d_Law_law_925 : decode i_Law_law.2.1 925 = .ok (.aload_n 0, 1) := by decide +kernel
theorem d_Law_law_926 : decode i_Law_law.2.1 926 = .ok (.iload_n 3, 1) := by decide +kernel
theorem d_Law_law_927 : decode i_Law_law.2.1 927 = .ok (.iconst 1, 1) := by decide +kernel
theorem d_Law_law_928 : decode i_Law_law.2.1 928 = .ok (.iadd, 1) := by decide +kernel
theorem d_Law_law_929 : decode i_Law_law.2.1 929 = .ok (.iaload, 1) := by decide +kernel
theorem d_Law_law_930 : decode i_Law_law.2.1 930 = .ok (.invokevirtual 114, 3) := by decide +kernel
theorem d_Law_law_933 : decode i_Law_law.2.1 933 = .ok (.if_icmp .eq 74, 3) := by decide +kernel
theorem d_Law_law_936 : decode i_Law_law.2.1 936 = .ok (.iconst 0, 1) := by decide +kernel
theorem d_Law_law_937 : decode i_Law_law.2.1 937 = .ok (.ireturn, 1) := by decide +kernel
theorem d_Law_law_938 : decode i_Law_law.2.1 938 = .ok (.aload_n 1, 1) := by decide +kernel
theorem d_Law_law_939 : decode i_Law_law.2.1 939 = .ok (.aload_n 0, 1) := by decide +kernel
theorem d_Law_law_940 : decode i_Law_law.2.1 940 = .ok (.iload_n 3, 1) := by decide +kernel
theorem d_Law_law_941 : decode i_Law_law.2.1 941 = .ok (.iconst 1, 1) := by decide +kernel
theorem d_Law_law_942 : decode i_Law_law.2.1 942 = .ok (.iadd, 1) := by decide +kernel
theorem d_Law_law_943 : decode i_Law_law.2.1 943 = .ok (.iaload, 1) := by decide +kernel
theorem d_Law_law_944 : decode i_Law_law.2.1 944 = .ok (.invokevirtual 115, 3) := by decide +kernel
theorem d_Law_law_947 : decode i_Law_law.2.1 947 = .ok (.aload_n 2, 1) := by decide +kernel
theorem d_Law_law_948 : decode i_Law_law.2.1 948 = .ok (.aload_n 0, 1) := by decide +kernel
theorem d_Law_law_949 : decode i_Law_law.2.1 949 = .ok (.iload_n 3, 1) := by decide +kernel
theorem d_Law_law_950 : decode i_Law_law.2.1 950 = .ok (.iconst 1, 1) := by decide +kernel
theorem d_Law_law_951 : decode i_Law_law.2.1 951 = .ok (.iadd, 1) := by decide +kernel
theorem d_Law_law_952 : decode i_Law_law.2.1 952 = .ok (.iaload, 1) := by decide +kernel
theorem d_Law_law_953 : decode i_Law_law.2.1 953 = .ok (.invokevirtual 118, 3) := by decide +kernel
theorem d_Law_law_956 : decode i_Law_law.2.1 956 = .ok (.if_icmp .eq 51, 3) := by decide +kernel
theorem d_Law_law_959 : decode i_Law_law.2.1 959 = .ok (.iconst 0, 1) := by decide +kernel
theorem d_Law_law_960 : decode i_Law_law.2.1 960 = .ok (.ireturn, 1) := by decide +kernel
theorem d_Law_law_961 : decode i_Law_law.2.1 961 = .ok (.aload_n 1, 1) := by decide +kernel
theorem d_Law_law_962 : decode i_Law_law.2.1 962 = .ok (.aload_n 0, 1) := by decide +kernel
theorem d_Law_law_963 : decode i_Law_law.2.1 963 = .ok (.iload_n 3, 1) := by decide +kernel
theorem d_Law_law_964 : decode i_Law_law.2.1 964 = .ok (.iconst 1, 1) := by decide +kernel
theorem d_Law_law_965 : decode i_Law_law.2.1 965 = .ok (.iadd, 1) := by decide +kernel
theorem d_Law_law_966 : decode i_Law_law.2.1 966 = .ok (.iaload, 1) := by decide +kernel
theorem d_Law_law_967 : decode i_Law_law.2.1 967 = .ok (.invokevirtual 119, 3) := by decide +kernel
theorem d_Law_law_970 : decode i_Law_law.2.1 970 = .ok (.aload_n 2, 1) := by decide +kernel
theorem d_Law_law_971 : decode i_Law_law.2.1 971 = .ok (.aload_n 0, 1) := by decide +kernel
theorem d_Law_law_972 : decode i_Law_law.2.1 972 = .ok (.iload_n 3, 1) := by decide +kernel
theorem d_Law_law_973 : decode i_Law_law.2.1 973 = .ok (.iconst 1, 1) := by decide +kernel
theorem d_Law_law_974 : decode i_Law_law.2.1 974 = .ok (.iadd, 1) := by decide +kernel
theorem d_Law_law_975 : decode i_Law_law.2.1 975 = .ok (.iaload, 1) := by decide +kernel
theorem d_Law_law_976 : decode i_Law_law.2.1 976 = .ok (.invokevirtual 122, 3) := by decide +kernel
theorem d_Law_law_979 : decode i_Law_law.2.1 979 = .ok (.if_icmp .eq 28, 3) := by decide +kernel
theorem d_Law_law_982 : decode i_Law_law.2.1 982 = .ok (.iconst 0, 1) := by decide +kernel
theorem d_Law_law_983 : decode i_Law_law.2.1 983 = .ok (.ireturn, 1) := by decide +kernel
theorem d_Law_law_984 : decode i_Law_law.2.1 984 = .ok (.aload_n 1, 1) := by decide +kernel
theorem d_Law_law_985 : decode i_Law_law.2.1 985 = .ok (.aload_n 0, 1) := by decide +kernel
theorem d_Law_law_986 : decode i_Law_law.2.1 986 = .ok (.iload_n 3, 1) := by decide +kernel
theorem d_Law_law_987 : decode i_Law_law.2.1 987 = .ok (.iconst 1, 1) := by decide +kernel
theorem d_Law_law_988 : decode i_Law_law.2.1 988 = .ok (.iadd, 1) := by decide +kernel
theorem d_Law_law_989 : decode i_Law_law.2.1 989 = .ok (.iaload, 1) := by decide +kernel
theorem d_Law_law_990 : decode i_Law_law.2.1 990 = .ok (.invokevirtual 123, 3) := by decide +kernel
theorem d_Law_law_993 : decode i_Law_law.2.1 993 = .ok (.aload_n 2, 1) := by decide +kernel
theorem d_Law_law_994 : decode i_Law_law.2.1 994 = .ok (.aload_n 0, 1) := by decide +kernel
theorem d_Law_law_995 : decode i_Law_law.2.1 995 = .ok (.iload_n 3, 1) := by decide +kernel
theorem d_Law_law_996 : decode i_Law_law.2.1 996 = .ok (.iconst 1, 1) := by decide +kernel
theorem d_Law_law_997 : decode i_Law_law.2.1 997 = .ok (.iadd, 1) := by decide +kernel
theorem d_Law_law_998 : decode i_Law_law.2.1 998 = .ok (.iaload, 1) := by decide +kernel
theorem d_Law_law_999 : decode i_Law_law.2.1 999 = .ok (.invokevirtual 126, 3) := by decide +kernel
theorem d_Law_law_1002 : decode i_Law_law.2.1 1002 = .ok (.if_icmp .eq 5, 3) := by decide +kernel
theorem d_Law_law_1005 : decode i_Law_law.2.1 1005 = .ok (.iconst 0, 1) := by decide +kernel
theorem d_Law_law_1006 : decode i_Law_law.2.1 1006 = .ok (.ireturn, 1) := by decide +kernel
theorem d_Law_law_1007 : decode i_Law_law.2.1 1007 = .ok (.iinc 3 6, 3) := by decide +kernel
theorem d_Law_law_1010 : decode i_Law_law.2.1 1010 = .ok (.goto (-992), 3) := by decide +kernel
theorem d_Law_law_1013 : decode i_Law_law.2.1 1013 = .ok (.iconst 1, 1) := by decide +kernel
theorem d_Law_law_1014 : decode i_Law_law.2.1 1014 = .ok (.ireturn, 1) := by decide +kernel
