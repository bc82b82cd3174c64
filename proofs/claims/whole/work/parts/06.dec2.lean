theorem d_Dot_flip_60 : decode i_Dot_flip.2.1 60 = .ok (.ireturn, 1) := by decide +kernel
theorem d_Dot_frame_0 : decode i_Dot_frame.2.1 0 = .ok (.aload_n 0, 1) := by decide +kernel
theorem d_Dot_frame_1 : decode i_Dot_frame.2.1 1 = .ok (.getfield 26, 3) := by decide +kernel
theorem d_Dot_frame_4 : decode i_Dot_frame.2.1 4 = .ok (.iload_n 1, 1) := by decide +kernel
theorem d_Dot_frame_5 : decode i_Dot_frame.2.1 5 = .ok (.iload_n 2, 1) := by decide +kernel
theorem d_Dot_frame_6 : decode i_Dot_frame.2.1 6 = .ok (.invokevirtual 129, 3) := by decide +kernel
theorem d_Dot_frame_9 : decode i_Dot_frame.2.1 9 = .ok (.ifCond .eq 38, 3) := by decide +kernel
theorem d_Dot_frame_12 : decode i_Dot_frame.2.1 12 = .ok (.aload_n 0, 1) := by decide +kernel
theorem d_Dot_frame_13 : decode i_Dot_frame.2.1 13 = .ok (.getfield 26, 3) := by decide +kernel
theorem d_Dot_frame_16 : decode i_Dot_frame.2.1 16 = .ok (.iload_n 3, 1) := by decide +kernel
theorem d_Dot_frame_17 : decode i_Dot_frame.2.1 17 = .ok (.iload 4, 2) := by decide +kernel
theorem d_Dot_frame_19 : decode i_Dot_frame.2.1 19 = .ok (.invokevirtual 129, 3) := by decide +kernel
theorem d_Dot_frame_22 : decode i_Dot_frame.2.1 22 = .ok (.ifCond .eq 25, 3) := by decide +kernel
theorem d_Dot_frame_25 : decode i_Dot_frame.2.1 25 = .ok (.iload_n 3, 1) := by decide +kernel
theorem d_Dot_frame_26 : decode i_Dot_frame.2.1 26 = .ok (.iload_n 1, 1) := by decide +kernel
theorem d_Dot_frame_27 : decode i_Dot_frame.2.1 27 = .ok (.if_icmp .lt 20, 3) := by decide +kernel
theorem d_Dot_frame_30 : decode i_Dot_frame.2.1 30 = .ok (.iload 4, 2) := by decide +kernel
theorem d_Dot_frame_32 : decode i_Dot_frame.2.1 32 = .ok (.iload_n 2, 1) := by decide +kernel
theorem d_Dot_frame_33 : decode i_Dot_frame.2.1 33 = .ok (.if_icmp .lt 14, 3) := by decide +kernel
theorem d_Dot_frame_36 : decode i_Dot_frame.2.1 36 = .ok (.iload 5, 2) := by decide +kernel
theorem d_Dot_frame_38 : decode i_Dot_frame.2.1 38 = .ok (.ifCond .lt 9, 3) := by decide +kernel
theorem d_Dot_frame_41 : decode i_Dot_frame.2.1 41 = .ok (.iload 5, 2) := by decide +kernel
theorem d_Dot_frame_43 : decode i_Dot_frame.2.1 43 = .ok (.iconst 2, 1) := by decide +kernel
theorem d_Dot_frame_44 : decode i_Dot_frame.2.1 44 = .ok (.if_icmp .le 6, 3) := by decide +kernel
theorem d_Dot_frame_47 : decode i_Dot_frame.2.1 47 = .ok (.ldc 77, 2) := by decide +kernel
theorem d_Dot_frame_49 : decode i_Dot_frame.2.1 49 = .ok (.ireturn, 1) := by decide +kernel
theorem d_Dot_frame_50 : decode i_Dot_frame.2.1 50 = .ok (.aload_n 0, 1) := by decide +kernel
theorem d_Dot_frame_51 : decode i_Dot_frame.2.1 51 = .ok (.getfield 39, 3) := by decide +kernel
theorem d_Dot_frame_54 : decode i_Dot_frame.2.1 54 = .ok (.aload_n 0, 1) := by decide +kernel
theorem d_Dot_frame_55 : decode i_Dot_frame.2.1 55 = .ok (.getfield 26, 3) := by decide +kernel
theorem d_Dot_frame_58 : decode i_Dot_frame.2.1 58 = .ok (.invokevirtual 133, 3) := by decide +kernel
theorem d_Dot_frame_61 : decode i_Dot_frame.2.1 61 = .ok (.aload_n 0, 1) := by decide +kernel
theorem d_Dot_frame_62 : decode i_Dot_frame.2.1 62 = .ok (.getfield 26, 3) := by decide +kernel
theorem d_Dot_frame_65 : decode i_Dot_frame.2.1 65 = .ok (.iload_n 1, 1) := by decide +kernel
theorem d_Dot_frame_66 : decode i_Dot_frame.2.1 66 = .ok (.iload_n 2, 1) := by decide +kernel
theorem d_Dot_frame_67 : decode i_Dot_frame.2.1 67 = .ok (.iload_n 3, 1) := by decide +kernel
theorem d_Dot_frame_68 : decode i_Dot_frame.2.1 68 = .ok (.iload 4, 2) := by decide +kernel
theorem d_Dot_frame_70 : decode i_Dot_frame.2.1 70 = .ok (.invokestatic 146, 3) := by decide +kernel
theorem d_Dot_frame_73 : decode i_Dot_frame.2.1 73 = .ok (.iload 5, 2) := by decide +kernel
theorem d_Dot_frame_75 : decode i_Dot_frame.2.1 75 = .ok (.invokevirtual 150, 3) := by decide +kernel
theorem d_Dot_frame_78 : decode i_Dot_frame.2.1 78 = .ok (.aload_n 0, 1) := by decide +kernel
theorem d_Dot_frame_79 : decode i_Dot_frame.2.1 79 = .ok (.getfield 26, 3) := by decide +kernel
theorem d_Dot_frame_82 : decode i_Dot_frame.2.1 82 = .ok (.invokevirtual 120, 3) := by decide +kernel
theorem d_Dot_frame_85 : decode i_Dot_frame.2.1 85 = .ok (.ireturn, 1) := by decide +kernel
theorem d_Dot_joined_0 : decode i_Dot_joined.2.1 0 = .ok (.aload_n 0, 1) := by decide +kernel
theorem d_Dot_joined_1 : decode i_Dot_joined.2.1 1 = .ok (.getfield 26, 3) := by decide +kernel
theorem d_Dot_joined_4 : decode i_Dot_joined.2.1 4 = .ok (.invokevirtual 154, 3) := by decide +kernel
theorem d_Dot_joined_7 : decode i_Dot_joined.2.1 7 = .ok (.ifCond .ne 6, 3) := by decide +kernel
theorem d_Dot_joined_10 : decode i_Dot_joined.2.1 10 = .ok (.ldc 128, 2) := by decide +kernel
theorem d_Dot_joined_12 : decode i_Dot_joined.2.1 12 = .ok (.ireturn, 1) := by decide +kernel
theorem d_Dot_joined_13 : decode i_Dot_joined.2.1 13 = .ok (.iload_n 1, 1) := by decide +kernel
theorem d_Dot_joined_14 : decode i_Dot_joined.2.1 14 = .ok (.ifCond .lt 8, 3) := by decide +kernel
theorem d_Dot_joined_17 : decode i_Dot_joined.2.1 17 = .ok (.iload_n 1, 1) := by decide +kernel
theorem d_Dot_joined_18 : decode i_Dot_joined.2.1 18 = .ok (.iconst 1, 1) := by decide +kernel
theorem d_Dot_joined_19 : decode i_Dot_joined.2.1 19 = .ok (.if_icmp .le 6, 3) := by decide +kernel
theorem d_Dot_joined_22 : decode i_Dot_joined.2.1 22 = .ok (.ldc 77, 2) := by decide +kernel
theorem d_Dot_joined_24 : decode i_Dot_joined.2.1 24 = .ok (.ireturn, 1) := by decide +kernel
theorem d_Dot_joined_25 : decode i_Dot_joined.2.1 25 = .ok (.aload_n 0, 1) := by decide +kernel
theorem d_Dot_joined_26 : decode i_Dot_joined.2.1 26 = .ok (.getfield 39, 3) := by decide +kernel
theorem d_Dot_joined_29 : decode i_Dot_joined.2.1 29 = .ok (.aload_n 0, 1) := by decide +kernel
theorem d_Dot_joined_30 : decode i_Dot_joined.2.1 30 = .ok (.getfield 26, 3) := by decide +kernel
theorem d_Dot_joined_33 : decode i_Dot_joined.2.1 33 = .ok (.invokevirtual 133, 3) := by decide +kernel
theorem d_Dot_joined_36 : decode i_Dot_joined.2.1 36 = .ok (.aload_n 0, 1) := by decide +kernel
theorem d_Dot_joined_37 : decode i_Dot_joined.2.1 37 = .ok (.getfield 26, 3) := by decide +kernel
theorem d_Dot_joined_40 : decode i_Dot_joined.2.1 40 = .ok (.getfield 111, 3) := by decide +kernel
theorem d_Dot_joined_43 : decode i_Dot_joined.2.1 43 = .ok (.istore_n 2, 1) := by decide +kernel
theorem d_Dot_joined_44 : decode i_Dot_joined.2.1 44 = .ok (.aload_n 0, 1) := by decide +kernel
theorem d_Dot_joined_45 : decode i_Dot_joined.2.1 45 = .ok (.getfield 26, 3) := by decide +kernel
theorem d_Dot_joined_48 : decode i_Dot_joined.2.1 48 = .ok (.iload_n 1, 1) := by decide +kernel
theorem d_Dot_joined_49 : decode i_Dot_joined.2.1 49 = .ok (.putfield 111, 3) := by decide +kernel
theorem d_Dot_joined_52 : decode i_Dot_joined.2.1 52 = .ok (.iload_n 2, 1) := by decide +kernel
theorem d_Dot_joined_53 : decode i_Dot_joined.2.1 53 = .ok (.ireturn, 1) := by decide +kernel
theorem d_Dot_sharp_0 : decode i_Dot_sharp.2.1 0 = .ok (.aload_n 0, 1) := by decide +kernel
theorem d_Dot_sharp_1 : decode i_Dot_sharp.2.1 1 = .ok (.getfield 26, 3) := by decide +kernel
theorem d_Dot_sharp_4 : decode i_Dot_sharp.2.1 4 = .ok (.invokevirtual 154, 3) := by decide +kernel
theorem d_Dot_sharp_7 : decode i_Dot_sharp.2.1 7 = .ok (.ifCond .ne 6, 3) := by decide +kernel
theorem d_Dot_sharp_10 : decode i_Dot_sharp.2.1 10 = .ok (.ldc 128, 2) := by decide +kernel
theorem d_Dot_sharp_12 : decode i_Dot_sharp.2.1 12 = .ok (.ireturn, 1) := by decide +kernel
theorem d_Dot_sharp_13 : decode i_Dot_sharp.2.1 13 = .ok (.iload_n 1, 1) := by decide +kernel
theorem d_Dot_sharp_14 : decode i_Dot_sharp.2.1 14 = .ok (.iconst 1, 1) := by decide +kernel
theorem d_Dot_sharp_15 : decode i_Dot_sharp.2.1 15 = .ok (.if_icmp .lt 9, 3) := by decide +kernel
theorem d_Dot_sharp_18 : decode i_Dot_sharp.2.1 18 = .ok (.iload_n 1, 1) := by decide +kernel
theorem d_Dot_sharp_19 : decode i_Dot_sharp.2.1 19 = .ok (.bipush 32, 2) := by decide +kernel
theorem d_Dot_sharp_21 : decode i_Dot_sharp.2.1 21 = .ok (.if_icmp .le 6, 3) := by decide +kernel
theorem d_Dot_sharp_24 : decode i_Dot_sharp.2.1 24 = .ok (.ldc 77, 2) := by decide +kernel
theorem d_Dot_sharp_26 : decode i_Dot_sharp.2.1 26 = .ok (.ireturn, 1) := by decide +kernel
theorem d_Dot_sharp_27 : decode i_Dot_sharp.2.1 27 = .ok (.aload_n 0, 1) := by decide +kernel
theorem d_Dot_sharp_28 : decode i_Dot_sharp.2.1 28 = .ok (.getfield 39, 3) := by decide +kernel
theorem d_Dot_sharp_31 : decode i_Dot_sharp.2.1 31 = .ok (.aload_n 0, 1) := by decide +kernel
theorem d_Dot_sharp_32 : decode i_Dot_sharp.2.1 32 = .ok (.getfield 26, 3) := by decide +kernel
theorem d_Dot_sharp_35 : decode i_Dot_sharp.2.1 35 = .ok (.invokevirtual 133, 3) := by decide +kernel
theorem d_Dot_sharp_38 : decode i_Dot_sharp.2.1 38 = .ok (.aload_n 0, 1) := by decide +kernel
theorem d_Dot_sharp_39 : decode i_Dot_sharp.2.1 39 = .ok (.getfield 26, 3) := by decide +kernel
theorem d_Dot_sharp_42 : decode i_Dot_sharp.2.1 42 = .ok (.getfield 114, 3) := by decide +kernel
theorem d_Dot_sharp_45 : decode i_Dot_sharp.2.1 45 = .ok (.istore_n 2, 1) := by decide +kernel
theorem d_Dot_sharp_46 : decode i_Dot_sharp.2.1 46 = .ok (.aload_n 0, 1) := by decide +kernel
theorem d_Dot_sharp_47 : decode i_Dot_sharp.2.1 47 = .ok (.getfield 26, 3) := by decide +kernel
theorem d_Dot_sharp_50 : decode i_Dot_sharp.2.1 50 = .ok (.iload_n 1, 1) := by decide +kernel
theorem d_Dot_sharp_51 : decode i_Dot_sharp.2.1 51 = .ok (.putfield 114, 3) := by decide +kernel
theorem d_Dot_sharp_54 : decode i_Dot_sharp.2.1 54 = .ok (.iload_n 2, 1) := by decide +kernel
theorem d_Dot_sharp_55 : decode i_Dot_sharp.2.1 55 = .ok (.ireturn, 1) := by decide +kernel
theorem d_Dot_dot_0 : decode i_Dot_dot.2.1 0 = .ok (.aload_n 0, 1) := by decide +kernel
theorem d_Dot_dot_1 : decode i_Dot_dot.2.1 1 = .ok (.getfield 26, 3) := by decide +kernel
theorem d_Dot_dot_4 : decode i_Dot_dot.2.1 4 = .ok (.iload_n 1, 1) := by decide +kernel
theorem d_Dot_dot_5 : decode i_Dot_dot.2.1 5 = .ok (.iload_n 2, 1) := by decide +kernel
theorem d_Dot_dot_6 : decode i_Dot_dot.2.1 6 = .ok (.invokevirtual 129, 3) := by decide +kernel
theorem d_Dot_dot_9 : decode i_Dot_dot.2.1 9 = .ok (.ifCond .ne 6, 3) := by decide +kernel
theorem d_Dot_dot_12 : decode i_Dot_dot.2.1 12 = .ok (.ldc 77, 2) := by decide +kernel
theorem d_Dot_dot_14 : decode i_Dot_dot.2.1 14 = .ok (.ireturn, 1) := by decide +kernel
theorem d_Dot_dot_15 : decode i_Dot_dot.2.1 15 = .ok (.aload_n 0, 1) := by decide +kernel
theorem d_Dot_dot_16 : decode i_Dot_dot.2.1 16 = .ok (.getfield 26, 3) := by decide +kernel
theorem d_Dot_dot_19 : decode i_Dot_dot.2.1 19 = .ok (.iload_n 1, 1) := by decide +kernel
theorem d_Dot_dot_20 : decode i_Dot_dot.2.1 20 = .ok (.iload_n 2, 1) := by decide +kernel
theorem d_Dot_dot_21 : decode i_Dot_dot.2.1 21 = .ok (.invokevirtual 143, 3) := by decide +kernel
theorem d_Dot_dot_24 : decode i_Dot_dot.2.1 24 = .ok (.ifCond .eq 7, 3) := by decide +kernel
theorem d_Dot_dot_27 : decode i_Dot_dot.2.1 27 = .ok (.iconst 1, 1) := by decide +kernel
theorem d_Dot_dot_28 : decode i_Dot_dot.2.1 28 = .ok (.goto 4, 3) := by decide +kernel
theorem d_Dot_dot_31 : decode i_Dot_dot.2.1 31 = .ok (.iconst 0, 1) := by decide +kernel
theorem d_Dot_dot_32 : decode i_Dot_dot.2.1 32 = .ok (.ireturn, 1) := by decide +kernel
theorem d_Dot_borders_0 : decode i_Dot_borders.2.1 0 = .ok (.aload_n 0, 1) := by decide +kernel
theorem d_Dot_borders_1 : decode i_Dot_borders.2.1 1 = .ok (.getfield 26, 3) := by decide +kernel
theorem d_Dot_borders_4 : decode i_Dot_borders.2.1 4 = .ok (.invokevirtual 154, 3) := by decide +kernel
theorem d_Dot_borders_7 : decode i_Dot_borders.2.1 7 = .ok (.ifCond .eq 10, 3) := by decide +kernel
theorem d_Dot_borders_10 : decode i_Dot_borders.2.1 10 = .ok (.aload_n 0, 1) := by decide +kernel
theorem d_Dot_borders_11 : decode i_Dot_borders.2.1 11 = .ok (.invokevirtual 158, 3) := by decide +kernel
theorem d_Dot_borders_14 : decode i_Dot_borders.2.1 14 = .ok (.goto 5, 3) := by decide +kernel
theorem d_Dot_borders_17 : decode i_Dot_borders.2.1 17 = .ok (.ldc 128, 2) := by decide +kernel
theorem d_Dot_borders_19 : decode i_Dot_borders.2.1 19 = .ok (.ireturn, 1) := by decide +kernel
theorem d_Dot_border_0 : decode i_Dot_border.2.1 0 = .ok (.aload_n 0, 1) := by decide +kernel
theorem d_Dot_border_1 : decode i_Dot_border.2.1 1 = .ok (.iload_n 1, 1) := by decide +kernel
theorem d_Dot_border_2 : decode i_Dot_border.2.1 2 = .ok (.invokevirtual 161, 3) := by decide +kernel
theorem d_Dot_border_5 : decode i_Dot_border.2.1 5 = .ok (.astore_n 3, 1) := by decide +kernel
theorem d_Dot_border_6 : decode i_Dot_border.2.1 6 = .ok (.aload_n 3, 1) := by decide +kernel
theorem d_Dot_border_7 : decode i_Dot_border.2.1 7 = .ok (.ifnonnull 6, 3) := by decide +kernel
theorem d_Dot_border_10 : decode i_Dot_border.2.1 10 = .ok (.ldc 77, 2) := by decide +kernel
theorem d_Dot_border_12 : decode i_Dot_border.2.1 12 = .ok (.ireturn, 1) := by decide +kernel
theorem d_Dot_border_13 : decode i_Dot_border.2.1 13 = .ok (.iload_n 2, 1) := by decide +kernel
theorem d_Dot_border_14 : decode i_Dot_border.2.1 14 = .ok (.tableswitch 101 0 5 #[38, 43, 68, 76, 84, 92], 38) := by decide +kernel
theorem d_Dot_border_52 : decode i_Dot_border.2.1 52 = .ok (.aload_n 3, 1) := by decide +kernel
theorem d_Dot_border_53 : decode i_Dot_border.2.1 53 = .ok (.getfield 165, 3) := by decide +kernel
theorem d_Dot_border_56 : decode i_Dot_border.2.1 56 = .ok (.ireturn, 1) := by decide +kernel
theorem d_Dot_border_57 : decode i_Dot_border.2.1 57 = .ok (.aload_n 0, 1) := by decide +kernel
theorem d_Dot_border_58 : decode i_Dot_border.2.1 58 = .ok (.getfield 26, 3) := by decide +kernel
theorem d_Dot_border_61 : decode i_Dot_border.2.1 61 = .ok (.getfield 110, 3) := by decide +kernel
theorem d_Dot_border_64 : decode i_Dot_border.2.1 64 = .ok (.aload_n 3, 1) := by decide +kernel
theorem d_Dot_border_65 : decode i_Dot_border.2.1 65 = .ok (.getfield 168, 3) := by decide +kernel
theorem d_Dot_border_68 : decode i_Dot_border.2.1 68 = .ok (.lushr, 1) := by decide +kernel
theorem d_Dot_border_69 : decode i_Dot_border.2.1 69 = .ok (.lconst 1, 1) := by decide +kernel
theorem d_Dot_border_70 : decode i_Dot_border.2.1 70 = .ok (.land, 1) := by decide +kernel
theorem d_Dot_border_71 : decode i_Dot_border.2.1 71 = .ok (.lconst 1, 1) := by decide +kernel
theorem d_Dot_border_72 : decode i_Dot_border.2.1 72 = .ok (.lcmp, 1) := by decide +kernel
theorem d_Dot_border_73 : decode i_Dot_border.2.1 73 = .ok (.ifCond .ne 7, 3) := by decide +kernel
theorem d_Dot_border_76 : decode i_Dot_border.2.1 76 = .ok (.iconst 1, 1) := by decide +kernel
theorem d_Dot_border_77 : decode i_Dot_border.2.1 77 = .ok (.goto 4, 3) := by decide +kernel
theorem d_Dot_border_80 : decode i_Dot_border.2.1 80 = .ok (.iconst 0, 1) := by decide +kernel
theorem d_Dot_border_81 : decode i_Dot_border.2.1 81 = .ok (.ireturn, 1) := by decide +kernel
theorem d_Dot_border_82 : decode i_Dot_border.2.1 82 = .ok (.aload_n 3, 1) := by decide +kernel
theorem d_Dot_border_83 : decode i_Dot_border.2.1 83 = .ok (.getfield 171, 3) := by decide +kernel
theorem d_Dot_border_86 : decode i_Dot_border.2.1 86 = .ok (.invokestatic 174, 3) := by decide +kernel
theorem d_Dot_border_89 : decode i_Dot_border.2.1 89 = .ok (.ireturn, 1) := by decide +kernel
theorem d_Dot_border_90 : decode i_Dot_border.2.1 90 = .ok (.aload_n 3, 1) := by decide +kernel
theorem d_Dot_border_91 : decode i_Dot_border.2.1 91 = .ok (.getfield 168, 3) := by decide +kernel
theorem d_Dot_border_94 : decode i_Dot_border.2.1 94 = .ok (.invokestatic 180, 3) := by decide +kernel
theorem d_Dot_border_97 : decode i_Dot_border.2.1 97 = .ok (.ireturn, 1) := by decide +kernel
theorem d_Dot_border_98 : decode i_Dot_border.2.1 98 = .ok (.aload_n 3, 1) := by decide +kernel
theorem d_Dot_border_99 : decode i_Dot_border.2.1 99 = .ok (.getfield 168, 3) := by decide +kernel
theorem d_Dot_border_102 : decode i_Dot_border.2.1 102 = .ok (.invokestatic 184, 3) := by decide +kernel
theorem d_Dot_border_105 : decode i_Dot_border.2.1 105 = .ok (.ireturn, 1) := by decide +kernel
theorem d_Dot_border_106 : decode i_Dot_border.2.1 106 = .ok (.aload_n 0, 1) := by decide +kernel
theorem d_Dot_border_107 : decode i_Dot_border.2.1 107 = .ok (.getfield 56, 3) := by decide +kernel
theorem d_Dot_border_110 : decode i_Dot_border.2.1 110 = .ok (.aload_n 3, 1) := by decide +kernel
theorem d_Dot_border_111 : decode i_Dot_border.2.1 111 = .ok (.invokevirtual 187, 3) := by decide +kernel
theorem d_Dot_border_114 : decode i_Dot_border.2.1 114 = .ok (.ireturn, 1) := by decide +kernel
theorem d_Dot_border_115 : decode i_Dot_border.2.1 115 = .ok (.ldc 77, 2) := by decide +kernel
theorem d_Dot_border_117 : decode i_Dot_border.2.1 117 = .ok (.ireturn, 1) := by decide +kernel
theorem d_Dot_corner_0 : decode i_Dot_corner.2.1 0 = .ok (.aload_n 0, 1) := by decide +kernel
theorem d_Dot_corner_1 : decode i_Dot_corner.2.1 1 = .ok (.iload_n 1, 1) := by decide +kernel
theorem d_Dot_corner_2 : decode i_Dot_corner.2.1 2 = .ok (.invokevirtual 161, 3) := by decide +kernel
theorem d_Dot_corner_5 : decode i_Dot_corner.2.1 5 = .ok (.astore 4, 2) := by decide +kernel
theorem d_Dot_corner_7 : decode i_Dot_corner.2.1 7 = .ok (.aload 4, 2) := by decide +kernel
theorem d_Dot_corner_9 : decode i_Dot_corner.2.1 9 = .ok (.ifnull 7, 3) := by decide +kernel
theorem d_Dot_corner_12 : decode i_Dot_corner.2.1 12 = .ok (.iload_n 2, 1) := by decide +kernel
theorem d_Dot_corner_13 : decode i_Dot_corner.2.1 13 = .ok (.ifCond .ge 6, 3) := by decide +kernel
theorem d_Dot_corner_16 : decode i_Dot_corner.2.1 16 = .ok (.ldc 77, 2) := by decide +kernel
theorem d_Dot_corner_18 : decode i_Dot_corner.2.1 18 = .ok (.ireturn, 1) := by decide +kernel
theorem d_Dot_corner_19 : decode i_Dot_corner.2.1 19 = .ok (.iload_n 3, 1) := by decide +kernel
theorem d_Dot_corner_20 : decode i_Dot_corner.2.1 20 = .ok (.tableswitch 61 0 2 #[28, 39, 50], 28) := by decide +kernel
theorem d_Dot_corner_48 : decode i_Dot_corner.2.1 48 = .ok (.aload_n 0, 1) := by decide +kernel
theorem d_Dot_corner_49 : decode i_Dot_corner.2.1 49 = .ok (.getfield 56, 3) := by decide +kernel
theorem d_Dot_corner_52 : decode i_Dot_corner.2.1 52 = .ok (.aload 4, 2) := by decide +kernel
theorem d_Dot_corner_54 : decode i_Dot_corner.2.1 54 = .ok (.iload_n 2, 1) := by decide +kernel
theorem d_Dot_corner_55 : decode i_Dot_corner.2.1 55 = .ok (.invokevirtual 191, 3) := by decide +kernel
theorem d_Dot_corner_58 : decode i_Dot_corner.2.1 58 = .ok (.ireturn, 1) := by decide +kernel
theorem d_Dot_corner_59 : decode i_Dot_corner.2.1 59 = .ok (.aload_n 0, 1) := by decide +kernel
theorem d_Dot_corner_60 : decode i_Dot_corner.2.1 60 = .ok (.getfield 56, 3) := by decide +kernel
theorem d_Dot_corner_63 : decode i_Dot_corner.2.1 63 = .ok (.aload 4, 2) := by decide +kernel
theorem d_Dot_corner_65 : decode i_Dot_corner.2.1 65 = .ok (.iload_n 2, 1) := by decide +kernel
theorem d_Dot_corner_66 : decode i_Dot_corner.2.1 66 = .ok (.invokevirtual 195, 3) := by decide +kernel
theorem d_Dot_corner_69 : decode i_Dot_corner.2.1 69 = .ok (.ireturn, 1) := by decide +kernel
theorem d_Dot_corner_70 : decode i_Dot_corner.2.1 70 = .ok (.aload_n 0, 1) := by decide +kernel
theorem d_Dot_corner_71 : decode i_Dot_corner.2.1 71 = .ok (.getfield 56, 3) := by decide +kernel
theorem d_Dot_corner_74 : decode i_Dot_corner.2.1 74 = .ok (.aload 4, 2) := by decide +kernel
theorem d_Dot_corner_76 : decode i_Dot_corner.2.1 76 = .ok (.iload_n 2, 1) := by decide +kernel
theorem d_Dot_corner_77 : decode i_Dot_corner.2.1 77 = .ok (.invokevirtual 198, 3) := by decide +kernel
theorem d_Dot_corner_80 : decode i_Dot_corner.2.1 80 = .ok (.ireturn, 1) := by decide +kernel
theorem d_Dot_corner_81 : decode i_Dot_corner.2.1 81 = .ok (.ldc 77, 2) := by decide +kernel
theorem d_Dot_corner_83 : decode i_Dot_corner.2.1 83 = .ok (.ireturn, 1) := by decide +kernel
theorem d_Dot_inside_0 : decode i_Dot_inside.2.1 0 = .ok (.aload_n 0, 1) := by decide +kernel
theorem d_Dot_inside_1 : decode i_Dot_inside.2.1 1 = .ok (.iload_n 1, 1) := by decide +kernel
theorem d_Dot_inside_2 : decode i_Dot_inside.2.1 2 = .ok (.invokevirtual 161, 3) := by decide +kernel
theorem d_Dot_inside_5 : decode i_Dot_inside.2.1 5 = .ok (.astore 4, 2) := by decide +kernel
theorem d_Dot_inside_7 : decode i_Dot_inside.2.1 7 = .ok (.aload 4, 2) := by decide +kernel
theorem d_Dot_inside_9 : decode i_Dot_inside.2.1 9 = .ok (.ifnull 15, 3) := by decide +kernel
theorem d_Dot_inside_12 : decode i_Dot_inside.2.1 12 = .ok (.aload_n 0, 1) := by decide +kernel
theorem d_Dot_inside_13 : decode i_Dot_inside.2.1 13 = .ok (.getfield 26, 3) := by decide +kernel
theorem d_Dot_inside_16 : decode i_Dot_inside.2.1 16 = .ok (.iload_n 2, 1) := by decide +kernel
theorem d_Dot_inside_17 : decode i_Dot_inside.2.1 17 = .ok (.iload_n 3, 1) := by decide +kernel
theorem d_Dot_inside_18 : decode i_Dot_inside.2.1 18 = .ok (.invokevirtual 129, 3) := by decide +kernel
theorem d_Dot_inside_21 : decode i_Dot_inside.2.1 21 = .ok (.ifCond .ne 6, 3) := by decide +kernel
theorem d_Dot_inside_24 : decode i_Dot_inside.2.1 24 = .ok (.ldc 77, 2) := by decide +kernel
theorem d_Dot_inside_26 : decode i_Dot_inside.2.1 26 = .ok (.ireturn, 1) := by decide +kernel
theorem d_Dot_inside_27 : decode i_Dot_inside.2.1 27 = .ok (.aload 4, 2) := by decide +kernel
theorem d_Dot_inside_29 : decode i_Dot_inside.2.1 29 = .ok (.getfield 171, 3) := by decide +kernel
theorem d_Dot_inside_32 : decode i_Dot_inside.2.1 32 = .ok (.iload_n 2, 1) := by decide +kernel
theorem d_Dot_inside_33 : decode i_Dot_inside.2.1 33 = .ok (.iload_n 3, 1) := by decide +kernel
theorem d_Dot_inside_34 : decode i_Dot_inside.2.1 34 = .ok (.invokestatic 137, 3) := by decide +kernel
theorem d_Dot_inside_37 : decode i_Dot_inside.2.1 37 = .ok (.land, 1) := by decide +kernel
theorem d_Dot_inside_38 : decode i_Dot_inside.2.1 38 = .ok (.lconst 0, 1) := by decide +kernel
theorem d_Dot_inside_39 : decode i_Dot_inside.2.1 39 = .ok (.lcmp, 1) := by decide +kernel
theorem d_Dot_inside_40 : decode i_Dot_inside.2.1 40 = .ok (.ifCond .eq 7, 3) := by decide +kernel
theorem d_Dot_inside_43 : decode i_Dot_inside.2.1 43 = .ok (.iconst 1, 1) := by decide +kernel
theorem d_Dot_inside_44 : decode i_Dot_inside.2.1 44 = .ok (.goto 4, 3) := by decide +kernel
theorem d_Dot_inside_47 : decode i_Dot_inside.2.1 47 = .ok (.iconst 0, 1) := by decide +kernel
theorem d_Dot_inside_48 : decode i_Dot_inside.2.1 48 = .ok (.ireturn, 1) := by decide +kernel
theorem d_Dot_straight_0 : decode i_Dot_straight.2.1 0 = .ok (.aload_n 0, 1) := by decide +kernel
theorem d_Dot_straight_1 : decode i_Dot_straight.2.1 1 = .ok (.iload_n 1, 1) := by decide +kernel
theorem d_Dot_straight_2 : decode i_Dot_straight.2.1 2 = .ok (.invokevirtual 161, 3) := by decide +kernel
theorem d_Dot_straight_5 : decode i_Dot_straight.2.1 5 = .ok (.astore 4, 2) := by decide +kernel
theorem d_Dot_straight_7 : decode i_Dot_straight.2.1 7 = .ok (.aload 4, 2) := by decide +kernel
theorem d_Dot_straight_9 : decode i_Dot_straight.2.1 9 = .ok (.ifnull 13, 3) := by decide +kernel
theorem d_Dot_straight_12 : decode i_Dot_straight.2.1 12 = .ok (.aload 4, 2) := by decide +kernel
theorem d_Dot_straight_14 : decode i_Dot_straight.2.1 14 = .ok (.iload_n 2, 1) := by decide +kernel
theorem d_Dot_straight_15 : decode i_Dot_straight.2.1 15 = .ok (.iload_n 3, 1) := by decide +kernel
theorem d_Dot_straight_16 : decode i_Dot_straight.2.1 16 = .ok (.invokevirtual 201, 3) := by decide +kernel
theorem d_Dot_straight_19 : decode i_Dot_straight.2.1 19 = .ok (.ifCond .ne 6, 3) := by decide +kernel
theorem d_Dot_straight_22 : decode i_Dot_straight.2.1 22 = .ok (.ldc 77, 2) := by decide +kernel
theorem d_Dot_straight_24 : decode i_Dot_straight.2.1 24 = .ok (.ireturn, 1) := by decide +kernel
theorem d_Dot_straight_25 : decode i_Dot_straight.2.1 25 = .ok (.aload_n 0, 1) := by decide +kernel
theorem d_Dot_straight_26 : decode i_Dot_straight.2.1 26 = .ok (.getfield 60, 3) := by decide +kernel
theorem d_Dot_straight_29 : decode i_Dot_straight.2.1 29 = .ok (.aload 4, 2) := by decide +kernel
theorem d_Dot_straight_31 : decode i_Dot_straight.2.1 31 = .ok (.iload_n 2, 1) := by decide +kernel
theorem d_Dot_straight_32 : decode i_Dot_straight.2.1 32 = .ok (.iload_n 3, 1) := by decide +kernel
theorem d_Dot_straight_33 : decode i_Dot_straight.2.1 33 = .ok (.invokevirtual 204, 3) := by decide +kernel
theorem d_Dot_straight_36 : decode i_Dot_straight.2.1 36 = .ok (.iconst (-1), 1) := by decide +kernel
theorem d_Dot_straight_37 : decode i_Dot_straight.2.1 37 = .ok (.if_icmp .ne 7, 3) := by decide +kernel
theorem d_Dot_straight_40 : decode i_Dot_straight.2.1 40 = .ok (.iconst 0, 1) := by decide +kernel
theorem d_Dot_straight_41 : decode i_Dot_straight.2.1 41 = .ok (.goto 4, 3) := by decide +kernel
theorem d_Dot_straight_44 : decode i_Dot_straight.2.1 44 = .ok (.iconst 1, 1) := by decide +kernel
theorem d_Dot_straight_45 : decode i_Dot_straight.2.1 45 = .ok (.ireturn, 1) := by decide +kernel
theorem d_Dot_off_0 : decode i_Dot_off.2.1 0 = .ok (.aload_n 0, 1) := by decide +kernel
theorem d_Dot_off_1 : decode i_Dot_off.2.1 1 = .ok (.iload_n 1, 1) := by decide +kernel
theorem d_Dot_off_2 : decode i_Dot_off.2.1 2 = .ok (.invokevirtual 161, 3) := by decide +kernel
theorem d_Dot_off_5 : decode i_Dot_off.2.1 5 = .ok (.astore 4, 2) := by decide +kernel
theorem d_Dot_off_7 : decode i_Dot_off.2.1 7 = .ok (.aload 4, 2) := by decide +kernel
theorem d_Dot_off_9 : decode i_Dot_off.2.1 9 = .ok (.ifnull 13, 3) := by decide +kernel
theorem d_Dot_off_12 : decode i_Dot_off.2.1 12 = .ok (.aload 4, 2) := by decide +kernel
theorem d_Dot_off_14 : decode i_Dot_off.2.1 14 = .ok (.iload_n 2, 1) := by decide +kernel
theorem d_Dot_off_15 : decode i_Dot_off.2.1 15 = .ok (.iload_n 3, 1) := by decide +kernel
theorem d_Dot_off_16 : decode i_Dot_off.2.1 16 = .ok (.invokevirtual 201, 3) := by decide +kernel
theorem d_Dot_off_19 : decode i_Dot_off.2.1 19 = .ok (.ifCond .ne 6, 3) := by decide +kernel
theorem d_Dot_off_22 : decode i_Dot_off.2.1 22 = .ok (.ldc 77, 2) := by decide +kernel
theorem d_Dot_off_24 : decode i_Dot_off.2.1 24 = .ok (.ireturn, 1) := by decide +kernel
theorem d_Dot_off_25 : decode i_Dot_off.2.1 25 = .ok (.aload_n 0, 1) := by decide +kernel
theorem d_Dot_off_26 : decode i_Dot_off.2.1 26 = .ok (.getfield 60, 3) := by decide +kernel
theorem d_Dot_off_29 : decode i_Dot_off.2.1 29 = .ok (.aload 4, 2) := by decide +kernel
theorem d_Dot_off_31 : decode i_Dot_off.2.1 31 = .ok (.iload_n 2, 1) := by decide +kernel
theorem d_Dot_off_32 : decode i_Dot_off.2.1 32 = .ok (.iload_n 3, 1) := by decide +kernel
theorem d_Dot_off_33 : decode i_Dot_off.2.1 33 = .ok (.invokevirtual 204, 3) := by decide +kernel
theorem d_Dot_off_36 : decode i_Dot_off.2.1 36 = .ok (.istore 5, 2) := by decide +kernel
theorem d_Dot_off_38 : decode i_Dot_off.2.1 38 = .ok (.iload 5, 2) := by decide +kernel
theorem d_Dot_off_40 : decode i_Dot_off.2.1 40 = .ok (.iconst (-1), 1) := by decide +kernel
theorem d_Dot_off_41 : decode i_Dot_off.2.1 41 = .ok (.if_icmp .ne 8, 3) := by decide +kernel
theorem d_Dot_off_44 : decode i_Dot_off.2.1 44 = .ok (.ldc 208, 2) := by decide +kernel
theorem d_Dot_off_46 : decode i_Dot_off.2.1 46 = .ok (.goto 5, 3) := by decide +kernel
theorem d_Dot_off_49 : decode i_Dot_off.2.1 49 = .ok (.iload 5, 2) := by decide +kernel
theorem d_Dot_off_51 : decode i_Dot_off.2.1 51 = .ok (.ireturn, 1) := by decide +kernel
theorem d_Dot_longest_0 : decode i_Dot_longest.2.1 0 = .ok (.aload_n 0, 1) := by decide +kernel
theorem d_Dot_longest_1 : decode i_Dot_longest.2.1 1 = .ok (.iload_n 1, 1) := by decide +kernel
theorem d_Dot_longest_2 : decode i_Dot_longest.2.1 2 = .ok (.invokevirtual 161, 3) := by decide +kernel
theorem d_Dot_longest_5 : decode i_Dot_longest.2.1 5 = .ok (.astore_n 3, 1) := by decide +kernel
theorem d_Dot_longest_6 : decode i_Dot_longest.2.1 6 = .ok (.aload_n 3, 1) := by decide +kernel
theorem d_Dot_longest_7 : decode i_Dot_longest.2.1 7 = .ok (.ifnull 11, 3) := by decide +kernel
theorem d_Dot_longest_10 : decode i_Dot_longest.2.1 10 = .ok (.aload_n 3, 1) := by decide +kernel
theorem d_Dot_longest_11 : decode i_Dot_longest.2.1 11 = .ok (.iload_n 2, 1) := by decide +kernel
theorem d_Dot_longest_12 : decode i_Dot_longest.2.1 12 = .ok (.invokevirtual 209, 3) := by decide +kernel
theorem d_Dot_longest_15 : decode i_Dot_longest.2.1 15 = .ok (.ifCond .ne 6, 3) := by decide +kernel
theorem d_Dot_longest_18 : decode i_Dot_longest.2.1 18 = .ok (.ldc 77, 2) := by decide +kernel
theorem d_Dot_longest_20 : decode i_Dot_longest.2.1 20 = .ok (.ireturn, 1) := by decide +kernel
theorem d_Dot_longest_21 : decode i_Dot_longest.2.1 21 = .ok (.aload_n 0, 1) := by decide +kernel
theorem d_Dot_longest_22 : decode i_Dot_longest.2.1 22 = .ok (.getfield 60, 3) := by decide +kernel
theorem d_Dot_longest_25 : decode i_Dot_longest.2.1 25 = .ok (.aload_n 3, 1) := by decide +kernel
theorem d_Dot_longest_26 : decode i_Dot_longest.2.1 26 = .ok (.iload_n 2, 1) := by decide +kernel
theorem d_Dot_longest_27 : decode i_Dot_longest.2.1 27 = .ok (.invokevirtual 212, 3) := by decide +kernel
theorem d_Dot_longest_30 : decode i_Dot_longest.2.1 30 = .ok (.ireturn, 1) := by decide +kernel
theorem d_Dot_best_0 : decode i_Dot_best.2.1 0 = .ok (.aload_n 0, 1) := by decide +kernel
theorem d_Dot_best_1 : decode i_Dot_best.2.1 1 = .ok (.iload_n 1, 1) := by decide +kernel
theorem d_Dot_best_2 : decode i_Dot_best.2.1 2 = .ok (.invokevirtual 215, 3) := by decide +kernel
theorem d_Dot_best_5 : decode i_Dot_best.2.1 5 = .ok (.astore_n 3, 1) := by decide +kernel
theorem d_Dot_best_6 : decode i_Dot_best.2.1 6 = .ok (.aload_n 3, 1) := by decide +kernel
theorem d_Dot_best_7 : decode i_Dot_best.2.1 7 = .ok (.ifnonnull 6, 3) := by decide +kernel
theorem d_Dot_best_10 : decode i_Dot_best.2.1 10 = .ok (.ldc 77, 2) := by decide +kernel
theorem d_Dot_best_12 : decode i_Dot_best.2.1 12 = .ok (.ireturn, 1) := by decide +kernel
theorem d_Dot_best_13 : decode i_Dot_best.2.1 13 = .ok (.iload_n 2, 1) := by decide +kernel
theorem d_Dot_best_14 : decode i_Dot_best.2.1 14 = .ok (.tableswitch 65 0 3 #[30, 35, 40, 56], 30) := by decide +kernel
theorem d_Dot_best_44 : decode i_Dot_best.2.1 44 = .ok (.aload_n 3, 1) := by decide +kernel
theorem d_Dot_best_45 : decode i_Dot_best.2.1 45 = .ok (.getfield 218, 3) := by decide +kernel
theorem d_Dot_best_48 : decode i_Dot_best.2.1 48 = .ok (.ireturn, 1) := by decide +kernel
theorem d_Dot_best_49 : decode i_Dot_best.2.1 49 = .ok (.aload_n 3, 1) := by decide +kernel
theorem d_Dot_best_50 : decode i_Dot_best.2.1 50 = .ok (.getfield 221, 3) := by decide +kernel
theorem d_Dot_best_53 : decode i_Dot_best.2.1 53 = .ok (.ireturn, 1) := by decide +kernel
theorem d_Dot_best_54 : decode i_Dot_best.2.1 54 = .ok (.aload_n 0, 1) := by decide +kernel
theorem d_Dot_best_55 : decode i_Dot_best.2.1 55 = .ok (.getfield 64, 3) := by decide +kernel
theorem d_Dot_best_58 : decode i_Dot_best.2.1 58 = .ok (.aload_n 3, 1) := by decide +kernel
theorem d_Dot_best_59 : decode i_Dot_best.2.1 59 = .ok (.aload_n 0, 1) := by decide +kernel
theorem d_Dot_best_60 : decode i_Dot_best.2.1 60 = .ok (.getfield 26, 3) := by decide +kernel
theorem d_Dot_best_63 : decode i_Dot_best.2.1 63 = .ok (.getfield 114, 3) := by decide +kernel
theorem d_Dot_best_66 : decode i_Dot_best.2.1 66 = .ok (.invokevirtual 224, 3) := by decide +kernel
theorem d_Dot_best_69 : decode i_Dot_best.2.1 69 = .ok (.ireturn, 1) := by decide +kernel
theorem d_Dot_best_70 : decode i_Dot_best.2.1 70 = .ok (.aload_n 0, 1) := by decide +kernel
theorem d_Dot_best_71 : decode i_Dot_best.2.1 71 = .ok (.getfield 64, 3) := by decide +kernel
theorem d_Dot_best_74 : decode i_Dot_best.2.1 74 = .ok (.aload_n 3, 1) := by decide +kernel
theorem d_Dot_best_75 : decode i_Dot_best.2.1 75 = .ok (.invokevirtual 227, 3) := by decide +kernel
theorem d_Dot_best_78 : decode i_Dot_best.2.1 78 = .ok (.ireturn, 1) := by decide +kernel
theorem d_Dot_best_79 : decode i_Dot_best.2.1 79 = .ok (.ldc 77, 2) := by decide +kernel
theorem d_Dot_best_81 : decode i_Dot_best.2.1 81 = .ok (.ireturn, 1) := by decide +kernel
theorem d_Dot_vertex_0 : decode i_Dot_vertex.2.1 0 = .ok (.aload_n 0, 1) := by decide +kernel
theorem d_Dot_vertex_1 : decode i_Dot_vertex.2.1 1 = .ok (.iload_n 1, 1) := by decide +kernel
theorem d_Dot_vertex_2 : decode i_Dot_vertex.2.1 2 = .ok (.invokevirtual 215, 3) := by decide +kernel
theorem d_Dot_vertex_5 : decode i_Dot_vertex.2.1 5 = .ok (.astore 4, 2) := by decide +kernel
theorem d_Dot_vertex_7 : decode i_Dot_vertex.2.1 7 = .ok (.aload 4, 2) := by decide +kernel
theorem d_Dot_vertex_9 : decode i_Dot_vertex.2.1 9 = .ok (.ifnull 12, 3) := by decide +kernel
theorem d_Dot_vertex_12 : decode i_Dot_vertex.2.1 12 = .ok (.aload 4, 2) := by decide +kernel
theorem d_Dot_vertex_14 : decode i_Dot_vertex.2.1 14 = .ok (.iload_n 2, 1) := by decide +kernel
theorem d_Dot_vertex_15 : decode i_Dot_vertex.2.1 15 = .ok (.invokevirtual 230, 3) := by decide +kernel
theorem d_Dot_vertex_18 : decode i_Dot_vertex.2.1 18 = .ok (.ifCond .ne 6, 3) := by decide +kernel
theorem d_Dot_vertex_21 : decode i_Dot_vertex.2.1 21 = .ok (.ldc 77, 2) := by decide +kernel
theorem d_Dot_vertex_23 : decode i_Dot_vertex.2.1 23 = .ok (.ireturn, 1) := by decide +kernel
theorem d_Dot_vertex_24 : decode i_Dot_vertex.2.1 24 = .ok (.iload_n 3, 1) := by decide +kernel
theorem d_Dot_vertex_25 : decode i_Dot_vertex.2.1 25 = .ok (.tableswitch 81 0 2 #[27, 38, 52], 27) := by decide +kernel
theorem d_Dot_vertex_52 : decode i_Dot_vertex.2.1 52 = .ok (.aload_n 0, 1) := by decide +kernel
theorem d_Dot_vertex_53 : decode i_Dot_vertex.2.1 53 = .ok (.getfield 64, 3) := by decide +kernel
theorem d_Dot_vertex_56 : decode i_Dot_vertex.2.1 56 = .ok (.aload 4, 2) := by decide +kernel
theorem d_Dot_vertex_58 : decode i_Dot_vertex.2.1 58 = .ok (.iload_n 2, 1) := by decide +kernel
theorem d_Dot_vertex_59 : decode i_Dot_vertex.2.1 59 = .ok (.invokevirtual 233, 3) := by decide +kernel
theorem d_Dot_vertex_62 : decode i_Dot_vertex.2.1 62 = .ok (.ireturn, 1) := by decide +kernel
theorem d_Dot_vertex_63 : decode i_Dot_vertex.2.1 63 = .ok (.aload_n 0, 1) := by decide +kernel
theorem d_Dot_vertex_64 : decode i_Dot_vertex.2.1 64 = .ok (.getfield 64, 3) := by decide +kernel
theorem d_Dot_vertex_67 : decode i_Dot_vertex.2.1 67 = .ok (.aload 4, 2) := by decide +kernel
theorem d_Dot_vertex_69 : decode i_Dot_vertex.2.1 69 = .ok (.iload_n 2, 1) := by decide +kernel
theorem d_Dot_vertex_70 : decode i_Dot_vertex.2.1 70 = .ok (.invokevirtual 236, 3) := by decide +kernel
theorem d_Dot_vertex_73 : decode i_Dot_vertex.2.1 73 = .ok (.invokevirtual 240, 3) := by decide +kernel
theorem d_Dot_vertex_76 : decode i_Dot_vertex.2.1 76 = .ok (.ireturn, 1) := by decide +kernel
theorem d_Dot_vertex_77 : decode i_Dot_vertex.2.1 77 = .ok (.aload_n 0, 1) := by decide +kernel
theorem d_Dot_vertex_78 : decode i_Dot_vertex.2.1 78 = .ok (.getfield 64, 3) := by decide +kernel
theorem d_Dot_vertex_81 : decode i_Dot_vertex.2.1 81 = .ok (.aload 4, 2) := by decide +kernel
theorem d_Dot_vertex_83 : decode i_Dot_vertex.2.1 83 = .ok (.iload_n 2, 1) := by decide +kernel
theorem d_Dot_vertex_84 : decode i_Dot_vertex.2.1 84 = .ok (.invokevirtual 236, 3) := by decide +kernel
theorem d_Dot_vertex_87 : decode i_Dot_vertex.2.1 87 = .ok (.aload_n 0, 1) := by decide +kernel
theorem d_Dot_vertex_88 : decode i_Dot_vertex.2.1 88 = .ok (.getfield 26, 3) := by decide +kernel
theorem d_Dot_vertex_91 : decode i_Dot_vertex.2.1 91 = .ok (.getfield 114, 3) := by decide +kernel
theorem d_Dot_vertex_94 : decode i_Dot_vertex.2.1 94 = .ok (.invokevirtual 245, 3) := by decide +kernel
theorem d_Dot_vertex_97 : decode i_Dot_vertex.2.1 97 = .ok (.ifCond .eq 7, 3) := by decide +kernel
theorem d_Dot_vertex_100 : decode i_Dot_vertex.2.1 100 = .ok (.iconst 1, 1) := by decide +kernel
theorem d_Dot_vertex_101 : decode i_Dot_vertex.2.1 101 = .ok (.goto 4, 3) := by decide +kernel
theorem d_Dot_vertex_104 : decode i_Dot_vertex.2.1 104 = .ok (.iconst 0, 1) := by decide +kernel
theorem d_Dot_vertex_105 : decode i_Dot_vertex.2.1 105 = .ok (.ireturn, 1) := by decide +kernel
theorem d_Dot_vertex_106 : decode i_Dot_vertex.2.1 106 = .ok (.ldc 77, 2) := by decide +kernel
theorem d_Dot_vertex_108 : decode i_Dot_vertex.2.1 108 = .ok (.ireturn, 1) := by decide +kernel
theorem d_Dot_past_0 : decode i_Dot_past.2.1 0 = .ok (.aload_n 0, 1) := by decide +kernel
theorem d_Dot_past_1 : decode i_Dot_past.2.1 1 = .ok (.iload_n 1, 1) := by decide +kernel
theorem d_Dot_past_2 : decode i_Dot_past.2.1 2 = .ok (.invokevirtual 161, 3) := by decide +kernel
theorem d_Dot_past_5 : decode i_Dot_past.2.1 5 = .ok (.astore_n 3, 1) := by decide +kernel
theorem d_Dot_past_6 : decode i_Dot_past.2.1 6 = .ok (.aload_n 3, 1) := by decide +kernel
theorem d_Dot_past_7 : decode i_Dot_past.2.1 7 = .ok (.ifnull 11, 3) := by decide +kernel
theorem d_Dot_past_10 : decode i_Dot_past.2.1 10 = .ok (.aload_n 3, 1) := by decide +kernel
theorem d_Dot_past_11 : decode i_Dot_past.2.1 11 = .ok (.iload_n 2, 1) := by decide +kernel
theorem d_Dot_past_12 : decode i_Dot_past.2.1 12 = .ok (.invokevirtual 209, 3) := by decide +kernel
theorem d_Dot_past_15 : decode i_Dot_past.2.1 15 = .ok (.ifCond .ne 6, 3) := by decide +kernel
theorem d_Dot_past_18 : decode i_Dot_past.2.1 18 = .ok (.ldc 77, 2) := by decide +kernel
theorem d_Dot_past_20 : decode i_Dot_past.2.1 20 = .ok (.ireturn, 1) := by decide +kernel
theorem d_Dot_past_21 : decode i_Dot_past.2.1 21 = .ok (.aload_n 0, 1) := by decide +kernel
theorem d_Dot_past_22 : decode i_Dot_past.2.1 22 = .ok (.getfield 64, 3) := by decide +kernel
theorem d_Dot_past_25 : decode i_Dot_past.2.1 25 = .ok (.aload_n 3, 1) := by decide +kernel
theorem d_Dot_past_26 : decode i_Dot_past.2.1 26 = .ok (.iload_n 2, 1) := by decide +kernel
theorem d_Dot_past_27 : decode i_Dot_past.2.1 27 = .ok (.invokevirtual 248, 3) := by decide +kernel
theorem d_Dot_past_30 : decode i_Dot_past.2.1 30 = .ok (.ireturn, 1) := by decide +kernel
theorem d_Dot_point_0 : decode i_Dot_point.2.1 0 = .ok (.aload_n 0, 1) := by decide +kernel
theorem d_Dot_point_1 : decode i_Dot_point.2.1 1 = .ok (.iload_n 1, 1) := by decide +kernel
theorem d_Dot_point_2 : decode i_Dot_point.2.1 2 = .ok (.invokevirtual 215, 3) := by decide +kernel
theorem d_Dot_point_5 : decode i_Dot_point.2.1 5 = .ok (.astore 5, 2) := by decide +kernel
theorem d_Dot_point_7 : decode i_Dot_point.2.1 7 = .ok (.aload 5, 2) := by decide +kernel
theorem d_Dot_point_9 : decode i_Dot_point.2.1 9 = .ok (.ifnull 33, 3) := by decide +kernel
theorem d_Dot_point_12 : decode i_Dot_point.2.1 12 = .ok (.aload 5, 2) := by decide +kernel
theorem d_Dot_point_14 : decode i_Dot_point.2.1 14 = .ok (.iload_n 2, 1) := by decide +kernel
theorem d_Dot_point_15 : decode i_Dot_point.2.1 15 = .ok (.invokevirtual 230, 3) := by decide +kernel
theorem d_Dot_point_18 : decode i_Dot_point.2.1 18 = .ok (.ifCond .eq 24, 3) := by decide +kernel
theorem d_Dot_point_21 : decode i_Dot_point.2.1 21 = .ok (.iload_n 3, 1) := by decide +kernel
theorem d_Dot_point_22 : decode i_Dot_point.2.1 22 = .ok (.iconst 1, 1) := by decide +kernel
theorem d_Dot_point_23 : decode i_Dot_point.2.1 23 = .ok (.if_icmp .lt 19, 3) := by decide +kernel
theorem d_Dot_point_26 : decode i_Dot_point.2.1 26 = .ok (.iload_n 3, 1) := by decide +kernel
theorem d_Dot_point_27 : decode i_Dot_point.2.1 27 = .ok (.iconst 3, 1) := by decide +kernel
theorem d_Dot_point_28 : decode i_Dot_point.2.1 28 = .ok (.if_icmp .gt 14, 3) := by decide +kernel
theorem d_Dot_point_31 : decode i_Dot_point.2.1 31 = .ok (.iload 4, 2) := by decide +kernel
theorem d_Dot_point_33 : decode i_Dot_point.2.1 33 = .ok (.ifCond .lt 9, 3) := by decide +kernel
theorem d_Dot_point_36 : decode i_Dot_point.2.1 36 = .ok (.iload 4, 2) := by decide +kernel
theorem d_Dot_point_38 : decode i_Dot_point.2.1 38 = .ok (.iconst 1, 1) := by decide +kernel
theorem d_Dot_point_39 : decode i_Dot_point.2.1 39 = .ok (.if_icmp .le 6, 3) := by decide +kernel
theorem d_Dot_point_42 : decode i_Dot_point.2.1 42 = .ok (.ldc 77, 2) := by decide +kernel
theorem d_Dot_point_44 : decode i_Dot_point.2.1 44 = .ok (.ireturn, 1) := by decide +kernel
theorem d_Dot_point_45 : decode i_Dot_point.2.1 45 = .ok (.aload_n 0, 1) := by decide +kernel
theorem d_Dot_point_46 : decode i_Dot_point.2.1 46 = .ok (.getfield 64, 3) := by decide +kernel
theorem d_Dot_point_49 : decode i_Dot_point.2.1 49 = .ok (.aload 5, 2) := by decide +kernel
theorem d_Dot_point_51 : decode i_Dot_point.2.1 51 = .ok (.iload_n 2, 1) := by decide +kernel
theorem d_Dot_point_52 : decode i_Dot_point.2.1 52 = .ok (.invokevirtual 236, 3) := by decide +kernel
theorem d_Dot_point_55 : decode i_Dot_point.2.1 55 = .ok (.astore 6, 2) := by decide +kernel
theorem d_Dot_point_57 : decode i_Dot_point.2.1 57 = .ok (.aload 6, 2) := by decide +kernel
theorem d_Dot_point_59 : decode i_Dot_point.2.1 59 = .ok (.aload_n 0, 1) := by decide +kernel
theorem d_Dot_point_60 : decode i_Dot_point.2.1 60 = .ok (.getfield 26, 3) := by decide +kernel
theorem d_Dot_point_63 : decode i_Dot_point.2.1 63 = .ok (.getfield 114, 3) := by decide +kernel
theorem d_Dot_point_66 : decode i_Dot_point.2.1 66 = .ok (.invokevirtual 245, 3) := by decide +kernel
theorem d_Dot_point_69 : decode i_Dot_point.2.1 69 = .ok (.ifCond .eq 6, 3) := by decide +kernel
theorem d_Dot_point_72 : decode i_Dot_point.2.1 72 = .ok (.ldc 208, 2) := by decide +kernel
theorem d_Dot_point_74 : decode i_Dot_point.2.1 74 = .ok (.ireturn, 1) := by decide +kernel
theorem d_Dot_point_75 : decode i_Dot_point.2.1 75 = .ok (.iload 4, 2) := by decide +kernel
theorem d_Dot_point_77 : decode i_Dot_point.2.1 77 = .ok (.ifCond .ne 12, 3) := by decide +kernel
theorem d_Dot_point_80 : decode i_Dot_point.2.1 80 = .ok (.aload 6, 2) := by decide +kernel
theorem d_Dot_point_82 : decode i_Dot_point.2.1 82 = .ok (.iload_n 3, 1) := by decide +kernel
theorem d_Dot_point_83 : decode i_Dot_point.2.1 83 = .ok (.invokevirtual 251, 3) := by decide +kernel
theorem d_Dot_point_86 : decode i_Dot_point.2.1 86 = .ok (.goto 9, 3) := by decide +kernel
theorem d_Dot_point_89 : decode i_Dot_point.2.1 89 = .ok (.aload 6, 2) := by decide +kernel
theorem d_Dot_point_91 : decode i_Dot_point.2.1 91 = .ok (.iload_n 3, 1) := by decide +kernel
theorem d_Dot_point_92 : decode i_Dot_point.2.1 92 = .ok (.invokevirtual 254, 3) := by decide +kernel
theorem d_Dot_point_95 : decode i_Dot_point.2.1 95 = .ok (.ireturn, 1) := by decide +kernel
theorem d_Dot_filled_0 : decode i_Dot_filled.2.1 0 = .ok (.aload_n 0, 1) := by decide +kernel
theorem d_Dot_filled_1 : decode i_Dot_filled.2.1 1 = .ok (.iload_n 1, 1) := by decide +kernel
theorem d_Dot_filled_2 : decode i_Dot_filled.2.1 2 = .ok (.invokevirtual 215, 3) := by decide +kernel
theorem d_Dot_filled_5 : decode i_Dot_filled.2.1 5 = .ok (.astore 5, 2) := by decide +kernel
theorem d_Dot_filled_7 : decode i_Dot_filled.2.1 7 = .ok (.aload 5, 2) := by decide +kernel
theorem d_Dot_filled_9 : decode i_Dot_filled.2.1 9 = .ok (.ifnull 25, 3) := by decide +kernel
theorem d_Dot_filled_12 : decode i_Dot_filled.2.1 12 = .ok (.iload_n 2, 1) := by decide +kernel
theorem d_Dot_filled_13 : decode i_Dot_filled.2.1 13 = .ok (.ifCond .lt 21, 3) := by decide +kernel
theorem d_Dot_filled_16 : decode i_Dot_filled.2.1 16 = .ok (.iload_n 2, 1) := by decide +kernel
theorem d_Dot_filled_17 : decode i_Dot_filled.2.1 17 = .ok (.iconst 1, 1) := by decide +kernel
theorem d_Dot_filled_18 : decode i_Dot_filled.2.1 18 = .ok (.if_icmp .gt 16, 3) := by decide +kernel
theorem d_Dot_filled_21 : decode i_Dot_filled.2.1 21 = .ok (.aload_n 0, 1) := by decide +kernel
theorem d_Dot_filled_22 : decode i_Dot_filled.2.1 22 = .ok (.getfield 26, 3) := by decide +kernel
theorem d_Dot_filled_25 : decode i_Dot_filled.2.1 25 = .ok (.iload_n 3, 1) := by decide +kernel
theorem d_Dot_filled_26 : decode i_Dot_filled.2.1 26 = .ok (.iload 4, 2) := by decide +kernel
theorem d_Dot_filled_28 : decode i_Dot_filled.2.1 28 = .ok (.invokevirtual 129, 3) := by decide +kernel
theorem d_Dot_filled_31 : decode i_Dot_filled.2.1 31 = .ok (.ifCond .ne 6, 3) := by decide +kernel
theorem d_Dot_filled_34 : decode i_Dot_filled.2.1 34 = .ok (.ldc 77, 2) := by decide +kernel
theorem d_Dot_filled_36 : decode i_Dot_filled.2.1 36 = .ok (.ireturn, 1) := by decide +kernel
theorem d_Dot_filled_37 : decode i_Dot_filled.2.1 37 = .ok (.aload_n 0, 1) := by decide +kernel
theorem d_Dot_filled_38 : decode i_Dot_filled.2.1 38 = .ok (.getfield 73, 3) := by decide +kernel
theorem d_Dot_filled_41 : decode i_Dot_filled.2.1 41 = .ok (.aload 5, 2) := by decide +kernel
theorem d_Dot_filled_43 : decode i_Dot_filled.2.1 43 = .ok (.iload_n 2, 1) := by decide +kernel
theorem d_Dot_filled_44 : decode i_Dot_filled.2.1 44 = .ok (.aload_n 0, 1) := by decide +kernel
theorem d_Dot_filled_45 : decode i_Dot_filled.2.1 45 = .ok (.getfield 26, 3) := by decide +kernel
theorem d_Dot_filled_48 : decode i_Dot_filled.2.1 48 = .ok (.getfield 114, 3) := by decide +kernel
theorem d_Dot_filled_51 : decode i_Dot_filled.2.1 51 = .ok (.invokevirtual 257, 3) := by decide +kernel
theorem d_Dot_filled_54 : decode i_Dot_filled.2.1 54 = .ok (.iload_n 3, 1) := by decide +kernel
theorem d_Dot_filled_55 : decode i_Dot_filled.2.1 55 = .ok (.iload 4, 2) := by decide +kernel
theorem d_Dot_filled_57 : decode i_Dot_filled.2.1 57 = .ok (.invokestatic 137, 3) := by decide +kernel
theorem d_Dot_filled_60 : decode i_Dot_filled.2.1 60 = .ok (.land, 1) := by decide +kernel
theorem d_Dot_filled_61 : decode i_Dot_filled.2.1 61 = .ok (.lconst 0, 1) := by decide +kernel
theorem d_Dot_filled_62 : decode i_Dot_filled.2.1 62 = .ok (.lcmp, 1) := by decide +kernel
theorem d_Dot_filled_63 : decode i_Dot_filled.2.1 63 = .ok (.ifCond .eq 7, 3) := by decide +kernel
theorem d_Dot_filled_66 : decode i_Dot_filled.2.1 66 = .ok (.iconst 1, 1) := by decide +kernel
theorem d_Dot_filled_67 : decode i_Dot_filled.2.1 67 = .ok (.goto 4, 3) := by decide +kernel
theorem d_Dot_filled_70 : decode i_Dot_filled.2.1 70 = .ok (.iconst 0, 1) := by decide +kernel
theorem d_Dot_filled_71 : decode i_Dot_filled.2.1 71 = .ok (.ireturn, 1) := by decide +kernel
theorem d_Dot_differ_0 : decode i_Dot_differ.2.1 0 = .ok (.aload_n 0, 1) := by decide +kernel
theorem d_Dot_differ_1 : decode i_Dot_differ.2.1 1 = .ok (.iload_n 1, 1) := by decide +kernel
theorem d_Dot_differ_2 : decode i_Dot_differ.2.1 2 = .ok (.invokevirtual 215, 3) := by decide +kernel
theorem d_Dot_differ_5 : decode i_Dot_differ.2.1 5 = .ok (.astore_n 3, 1) := by decide +kernel
theorem d_Dot_differ_6 : decode i_Dot_differ.2.1 6 = .ok (.aload_n 3, 1) := by decide +kernel
theorem d_Dot_differ_7 : decode i_Dot_differ.2.1 7 = .ok (.ifnull 12, 3) := by decide +kernel
theorem d_Dot_differ_10 : decode i_Dot_differ.2.1 10 = .ok (.iload_n 2, 1) := by decide +kernel
theorem d_Dot_differ_11 : decode i_Dot_differ.2.1 11 = .ok (.ifCond .lt 8, 3) := by decide +kernel
theorem d_Dot_differ_14 : decode i_Dot_differ.2.1 14 = .ok (.iload_n 2, 1) := by decide +kernel
theorem d_Dot_differ_15 : decode i_Dot_differ.2.1 15 = .ok (.iconst 1, 1) := by decide +kernel
theorem d_Dot_differ_16 : decode i_Dot_differ.2.1 16 = .ok (.if_icmp .le 6, 3) := by decide +kernel
theorem d_Dot_differ_19 : decode i_Dot_differ.2.1 19 = .ok (.ldc 77, 2) := by decide +kernel
theorem d_Dot_differ_21 : decode i_Dot_differ.2.1 21 = .ok (.ireturn, 1) := by decide +kernel
theorem d_Dot_differ_22 : decode i_Dot_differ.2.1 22 = .ok (.aload_n 0, 1) := by decide +kernel
theorem d_Dot_differ_23 : decode i_Dot_differ.2.1 23 = .ok (.getfield 73, 3) := by decide +kernel
theorem d_Dot_differ_26 : decode i_Dot_differ.2.1 26 = .ok (.aload_n 3, 1) := by decide +kernel
theorem d_Dot_differ_27 : decode i_Dot_differ.2.1 27 = .ok (.iload_n 2, 1) := by decide +kernel
theorem d_Dot_differ_28 : decode i_Dot_differ.2.1 28 = .ok (.aload_n 0, 1) := by decide +kernel
theorem d_Dot_differ_29 : decode i_Dot_differ.2.1 29 = .ok (.getfield 26, 3) := by decide +kernel
theorem d_Dot_differ_32 : decode i_Dot_differ.2.1 32 = .ok (.getfield 114, 3) := by decide +kernel
theorem d_Dot_differ_35 : decode i_Dot_differ.2.1 35 = .ok (.invokevirtual 257, 3) := by decide +kernel
theorem d_Dot_differ_38 : decode i_Dot_differ.2.1 38 = .ok (.aload_n 3, 1) := by decide +kernel
theorem d_Dot_differ_39 : decode i_Dot_differ.2.1 39 = .ok (.getfield 171, 3) := by decide +kernel
theorem d_Dot_differ_42 : decode i_Dot_differ.2.1 42 = .ok (.lxor, 1) := by decide +kernel
theorem d_Dot_differ_43 : decode i_Dot_differ.2.1 43 = .ok (.invokestatic 174, 3) := by decide +kernel
theorem d_Dot_differ_46 : decode i_Dot_differ.2.1 46 = .ok (.ireturn, 1) := by decide +kernel
theorem d_Dot_wrong_0 : decode i_Dot_wrong.2.1 0 = .ok (.aload_n 0, 1) := by decide +kernel
theorem d_Dot_wrong_1 : decode i_Dot_wrong.2.1 1 = .ok (.getfield 26, 3) := by decide +kernel
theorem d_Dot_wrong_4 : decode i_Dot_wrong.2.1 4 = .ok (.invokevirtual 154, 3) := by decide +kernel
theorem d_Dot_wrong_7 : decode i_Dot_wrong.2.1 7 = .ok (.ifCond .ne 6, 3) := by decide +kernel
theorem d_Dot_wrong_10 : decode i_Dot_wrong.2.1 10 = .ok (.ldc 128, 2) := by decide +kernel
theorem d_Dot_wrong_12 : decode i_Dot_wrong.2.1 12 = .ok (.ireturn, 1) := by decide +kernel
theorem d_Dot_wrong_13 : decode i_Dot_wrong.2.1 13 = .ok (.iload_n 1, 1) := by decide +kernel
theorem d_Dot_wrong_14 : decode i_Dot_wrong.2.1 14 = .ok (.ifCond .lt 8, 3) := by decide +kernel
theorem d_Dot_wrong_17 : decode i_Dot_wrong.2.1 17 = .ok (.iload_n 1, 1) := by decide +kernel
theorem d_Dot_wrong_18 : decode i_Dot_wrong.2.1 18 = .ok (.iconst 1, 1) := by decide +kernel
theorem d_Dot_wrong_19 : decode i_Dot_wrong.2.1 19 = .ok (.if_icmp .le 6, 3) := by decide +kernel
theorem d_Dot_wrong_22 : decode i_Dot_wrong.2.1 22 = .ok (.ldc 77, 2) := by decide +kernel
theorem d_Dot_wrong_24 : decode i_Dot_wrong.2.1 24 = .ok (.ireturn, 1) := by decide +kernel
theorem d_Dot_wrong_25 : decode i_Dot_wrong.2.1 25 = .ok (.aload_n 0, 1) := by decide +kernel
theorem d_Dot_wrong_26 : decode i_Dot_wrong.2.1 26 = .ok (.getfield 26, 3) := by decide +kernel
theorem d_Dot_wrong_29 : decode i_Dot_wrong.2.1 29 = .ok (.getfield 110, 3) := by decide +kernel
theorem d_Dot_wrong_32 : decode i_Dot_wrong.2.1 32 = .ok (.lstore_n 2, 1) := by decide +kernel
theorem d_Dot_wrong_33 : decode i_Dot_wrong.2.1 33 = .ok (.aload_n 0, 1) := by decide +kernel
theorem d_Dot_wrong_34 : decode i_Dot_wrong.2.1 34 = .ok (.invokevirtual 158, 3) := by decide +kernel
theorem d_Dot_wrong_37 : decode i_Dot_wrong.2.1 37 = .ok (.istore 4, 2) := by decide +kernel
theorem d_Dot_wrong_39 : decode i_Dot_wrong.2.1 39 = .ok (.iconst 0, 1) := by decide +kernel
theorem d_Dot_wrong_40 : decode i_Dot_wrong.2.1 40 = .ok (.istore 5, 2) := by decide +kernel
theorem d_Dot_wrong_42 : decode i_Dot_wrong.2.1 42 = .ok (.iload 5, 2) := by decide +kernel
theorem d_Dot_wrong_44 : decode i_Dot_wrong.2.1 44 = .ok (.iload 4, 2) := by decide +kernel
theorem d_Dot_wrong_46 : decode i_Dot_wrong.2.1 46 = .ok (.if_icmp .ge 42, 3) := by decide +kernel
theorem d_Dot_wrong_49 : decode i_Dot_wrong.2.1 49 = .ok (.aload_n 0, 1) := by decide +kernel
theorem d_Dot_wrong_50 : decode i_Dot_wrong.2.1 50 = .ok (.iload 5, 2) := by decide +kernel
theorem d_Dot_wrong_52 : decode i_Dot_wrong.2.1 52 = .ok (.invokevirtual 215, 3) := by decide +kernel
theorem d_Dot_wrong_55 : decode i_Dot_wrong.2.1 55 = .ok (.astore 6, 2) := by decide +kernel
theorem d_Dot_wrong_57 : decode i_Dot_wrong.2.1 57 = .ok (.aload 6, 2) := by decide +kernel
theorem d_Dot_wrong_59 : decode i_Dot_wrong.2.1 59 = .ok (.ifnull 23, 3) := by decide +kernel
theorem d_Dot_wrong_62 : decode i_Dot_wrong.2.1 62 = .ok (.lload_n 2, 1) := by decide +kernel
theorem d_Dot_wrong_63 : decode i_Dot_wrong.2.1 63 = .ok (.aload_n 0, 1) := by decide +kernel
theorem d_Dot_wrong_64 : decode i_Dot_wrong.2.1 64 = .ok (.getfield 73, 3) := by decide +kernel
theorem d_Dot_wrong_67 : decode i_Dot_wrong.2.1 67 = .ok (.aload 6, 2) := by decide +kernel
theorem d_Dot_wrong_69 : decode i_Dot_wrong.2.1 69 = .ok (.iload_n 1, 1) := by decide +kernel
theorem d_Dot_wrong_70 : decode i_Dot_wrong.2.1 70 = .ok (.aload_n 0, 1) := by decide +kernel
theorem d_Dot_wrong_71 : decode i_Dot_wrong.2.1 71 = .ok (.getfield 26, 3) := by decide +kernel
theorem d_Dot_wrong_74 : decode i_Dot_wrong.2.1 74 = .ok (.getfield 114, 3) := by decide +kernel
theorem d_Dot_wrong_77 : decode i_Dot_wrong.2.1 77 = .ok (.invokevirtual 257, 3) := by decide +kernel
theorem d_Dot_wrong_80 : decode i_Dot_wrong.2.1 80 = .ok (.lxor, 1) := by decide +kernel
theorem d_Dot_wrong_81 : decode i_Dot_wrong.2.1 81 = .ok (.lstore_n 2, 1) := by decide +kernel
theorem d_Dot_wrong_82 : decode i_Dot_wrong.2.1 82 = .ok (.iinc 5 1, 3) := by decide +kernel
theorem d_Dot_wrong_85 : decode i_Dot_wrong.2.1 85 = .ok (.goto (-43), 3) := by decide +kernel
theorem d_Dot_wrong_88 : decode i_Dot_wrong.2.1 88 = .ok (.lload_n 2, 1) := by decide +kernel
theorem d_Dot_wrong_89 : decode i_Dot_wrong.2.1 89 = .ok (.invokestatic 174, 3) := by decide +kernel
theorem d_Dot_wrong_92 : decode i_Dot_wrong.2.1 92 = .ok (.ireturn, 1) := by decide +kernel
theorem d_Dot_all_0 : decode i_Dot_all.2.1 0 = .ok (.aload_n 0, 1) := by decide +kernel
theorem d_Dot_all_1 : decode i_Dot_all.2.1 1 = .ok (.getfield 26, 3) := by decide +kernel
theorem d_Dot_all_4 : decode i_Dot_all.2.1 4 = .ok (.invokevirtual 154, 3) := by decide +kernel
theorem d_Dot_all_7 : decode i_Dot_all.2.1 7 = .ok (.ifCond .ne 6, 3) := by decide +kernel
theorem d_Dot_all_10 : decode i_Dot_all.2.1 10 = .ok (.ldc 128, 2) := by decide +kernel
theorem d_Dot_all_12 : decode i_Dot_all.2.1 12 = .ok (.ireturn, 1) := by decide +kernel
theorem d_Dot_all_13 : decode i_Dot_all.2.1 13 = .ok (.iload_n 1, 1) := by decide +kernel
theorem d_Dot_all_14 : decode i_Dot_all.2.1 14 = .ok (.ifCond .lt 8, 3) := by decide +kernel
theorem d_Dot_all_17 : decode i_Dot_all.2.1 17 = .ok (.iload_n 1, 1) := by decide +kernel
theorem d_Dot_all_18 : decode i_Dot_all.2.1 18 = .ok (.iconst 2, 1) := by decide +kernel
theorem d_Dot_all_19 : decode i_Dot_all.2.1 19 = .ok (.if_icmp .le 6, 3) := by decide +kernel
theorem d_Dot_all_22 : decode i_Dot_all.2.1 22 = .ok (.ldc 77, 2) := by decide +kernel
theorem d_Dot_all_24 : decode i_Dot_all.2.1 24 = .ok (.ireturn, 1) := by decide +kernel
theorem d_Dot_all_25 : decode i_Dot_all.2.1 25 = .ok (.iconst 0, 1) := by decide +kernel
theorem d_Dot_all_26 : decode i_Dot_all.2.1 26 = .ok (.istore_n 2, 1) := by decide +kernel
theorem d_Dot_all_27 : decode i_Dot_all.2.1 27 = .ok (.aload_n 0, 1) := by decide +kernel
theorem d_Dot_all_28 : decode i_Dot_all.2.1 28 = .ok (.invokevirtual 158, 3) := by decide +kernel
theorem d_Dot_all_31 : decode i_Dot_all.2.1 31 = .ok (.istore_n 3, 1) := by decide +kernel
theorem d_Dot_all_32 : decode i_Dot_all.2.1 32 = .ok (.iconst 0, 1) := by decide +kernel
theorem d_Dot_all_33 : decode i_Dot_all.2.1 33 = .ok (.istore 4, 2) := by decide +kernel
theorem d_Dot_all_35 : decode i_Dot_all.2.1 35 = .ok (.iload 4, 2) := by decide +kernel
theorem d_Dot_all_37 : decode i_Dot_all.2.1 37 = .ok (.iload_n 3, 1) := by decide +kernel
theorem d_Dot_all_38 : decode i_Dot_all.2.1 38 = .ok (.if_icmp .ge 32, 3) := by decide +kernel
theorem d_Dot_all_41 : decode i_Dot_all.2.1 41 = .ok (.aload_n 0, 1) := by decide +kernel
theorem d_Dot_all_42 : decode i_Dot_all.2.1 42 = .ok (.iload 4, 2) := by decide +kernel
theorem d_Dot_all_44 : decode i_Dot_all.2.1 44 = .ok (.invokevirtual 215, 3) := by decide +kernel
theorem d_Dot_all_47 : decode i_Dot_all.2.1 47 = .ok (.astore 5, 2) := by decide +kernel
theorem d_Dot_all_49 : decode i_Dot_all.2.1 49 = .ok (.aload 5, 2) := by decide +kernel
theorem d_Dot_all_51 : decode i_Dot_all.2.1 51 = .ok (.ifnull 13, 3) := by decide +kernel
theorem d_Dot_all_54 : decode i_Dot_all.2.1 54 = .ok (.iload_n 2, 1) := by decide +kernel
theorem d_Dot_all_55 : decode i_Dot_all.2.1 55 = .ok (.aload_n 0, 1) := by decide +kernel
theorem d_Dot_all_56 : decode i_Dot_all.2.1 56 = .ok (.aload 5, 2) := by decide +kernel
theorem d_Dot_all_58 : decode i_Dot_all.2.1 58 = .ok (.iload_n 1, 1) := by decide +kernel
theorem d_Dot_all_59 : decode i_Dot_all.2.1 59 = .ok (.invokevirtual 261, 3) := by decide +kernel
theorem d_Dot_all_62 : decode i_Dot_all.2.1 62 = .ok (.iadd, 1) := by decide +kernel
theorem d_Dot_all_63 : decode i_Dot_all.2.1 63 = .ok (.istore_n 2, 1) := by decide +kernel
theorem d_Dot_all_64 : decode i_Dot_all.2.1 64 = .ok (.iinc 4 1, 3) := by decide +kernel
theorem d_Dot_all_67 : decode i_Dot_all.2.1 67 = .ok (.goto (-32), 3) := by decide +kernel
theorem d_Dot_all_70 : decode i_Dot_all.2.1 70 = .ok (.iload_n 2, 1) := by decide +kernel
theorem d_Dot_all_71 : decode i_Dot_all.2.1 71 = .ok (.ireturn, 1) := by decide +kernel
theorem d_Dot_image_0 : decode i_Dot_image.2.1 0 = .ok (.aload_n 0, 1) := by decide +kernel
theorem d_Dot_image_1 : decode i_Dot_image.2.1 1 = .ok (.iload_n 1, 1) := by decide +kernel
theorem d_Dot_image_2 : decode i_Dot_image.2.1 2 = .ok (.invokevirtual 264, 3) := by decide +kernel
theorem d_Dot_image_5 : decode i_Dot_image.2.1 5 = .ok (.astore_n 2, 1) := by decide +kernel
theorem d_Dot_image_6 : decode i_Dot_image.2.1 6 = .ok (.aload_n 2, 1) := by decide +kernel
theorem d_Dot_image_7 : decode i_Dot_image.2.1 7 = .ok (.ifnonnull 6, 3) := by decide +kernel
theorem d_Dot_image_10 : decode i_Dot_image.2.1 10 = .ok (.ldc 77, 2) := by decide +kernel
theorem d_Dot_image_12 : decode i_Dot_image.2.1 12 = .ok (.ireturn, 1) := by decide +kernel
theorem d_Dot_image_13 : decode i_Dot_image.2.1 13 = .ok (.aload_n 0, 1) := by decide +kernel
theorem d_Dot_image_14 : decode i_Dot_image.2.1 14 = .ok (.getfield 26, 3) := by decide +kernel
theorem d_Dot_image_17 : decode i_Dot_image.2.1 17 = .ok (.invokevirtual 154, 3) := by decide +kernel
theorem d_Dot_image_20 : decode i_Dot_image.2.1 20 = .ok (.ifCond .ne 6, 3) := by decide +kernel
theorem d_Dot_image_23 : decode i_Dot_image.2.1 23 = .ok (.ldc 128, 2) := by decide +kernel
theorem d_Dot_image_25 : decode i_Dot_image.2.1 25 = .ok (.ireturn, 1) := by decide +kernel
theorem d_Dot_image_26 : decode i_Dot_image.2.1 26 = .ok (.aload_n 2, 1) := by decide +kernel
theorem d_Dot_image_27 : decode i_Dot_image.2.1 27 = .ok (.aload_n 0, 1) := by decide +kernel
theorem d_Dot_image_28 : decode i_Dot_image.2.1 28 = .ok (.getfield 26, 3) := by decide +kernel
theorem d_Dot_image_31 : decode i_Dot_image.2.1 31 = .ok (.invokevirtual 268, 3) := by decide +kernel
theorem d_Dot_image_34 : decode i_Dot_image.2.1 34 = .ok (.iconst 1, 1) := by decide +kernel
theorem d_Dot_image_35 : decode i_Dot_image.2.1 35 = .ok (.ireturn, 1) := by decide +kernel
theorem d_Dot_restore_0 : decode i_Dot_restore.2.1 0 = .ok (.aload_n 0, 1) := by decide +kernel
theorem d_Dot_restore_1 : decode i_Dot_restore.2.1 1 = .ok (.iload_n 1, 1) := by decide +kernel
theorem d_Dot_restore_2 : decode i_Dot_restore.2.1 2 = .ok (.invokevirtual 264, 3) := by decide +kernel
theorem d_Dot_restore_5 : decode i_Dot_restore.2.1 5 = .ok (.astore_n 2, 1) := by decide +kernel
theorem d_Dot_restore_6 : decode i_Dot_restore.2.1 6 = .ok (.aload_n 2, 1) := by decide +kernel
theorem d_Dot_restore_7 : decode i_Dot_restore.2.1 7 = .ok (.ifnonnull 6, 3) := by decide +kernel
theorem d_Dot_restore_10 : decode i_Dot_restore.2.1 10 = .ok (.ldc 77, 2) := by decide +kernel
theorem d_Dot_restore_12 : decode i_Dot_restore.2.1 12 = .ok (.ireturn, 1) := by decide +kernel
theorem d_Dot_restore_13 : decode i_Dot_restore.2.1 13 = .ok (.aload_n 2, 1) := by decide +kernel
theorem d_Dot_restore_14 : decode i_Dot_restore.2.1 14 = .ok (.invokevirtual 154, 3) := by decide +kernel
theorem d_Dot_restore_17 : decode i_Dot_restore.2.1 17 = .ok (.ifCond .ne 6, 3) := by decide +kernel
theorem d_Dot_restore_20 : decode i_Dot_restore.2.1 20 = .ok (.ldc 128, 2) := by decide +kernel
theorem d_Dot_restore_22 : decode i_Dot_restore.2.1 22 = .ok (.ireturn, 1) := by decide +kernel
theorem d_Dot_restore_23 : decode i_Dot_restore.2.1 23 = .ok (.aload_n 0, 1) := by decide +kernel
theorem d_Dot_restore_24 : decode i_Dot_restore.2.1 24 = .ok (.getfield 26, 3) := by decide +kernel
theorem d_Dot_restore_27 : decode i_Dot_restore.2.1 27 = .ok (.aload_n 2, 1) := by decide +kernel
theorem d_Dot_restore_28 : decode i_Dot_restore.2.1 28 = .ok (.invokevirtual 268, 3) := by decide +kernel
theorem d_Dot_restore_31 : decode i_Dot_restore.2.1 31 = .ok (.aload_n 0, 1) := by decide +kernel
theorem d_Dot_restore_32 : decode i_Dot_restore.2.1 32 = .ok (.getfield 39, 3) := by decide +kernel
theorem d_Dot_restore_35 : decode i_Dot_restore.2.1 35 = .ok (.iconst 0, 1) := by decide +kernel
theorem d_Dot_restore_36 : decode i_Dot_restore.2.1 36 = .ok (.putfield 117, 3) := by decide +kernel
theorem d_Dot_restore_39 : decode i_Dot_restore.2.1 39 = .ok (.iconst 1, 1) := by decide +kernel
theorem d_Dot_restore_40 : decode i_Dot_restore.2.1 40 = .ok (.ireturn, 1) := by decide +kernel
theorem d_Dot_count_0 : decode i_Dot_count.2.1 0 = .ok (.iload_n 1, 1) := by decide +kernel
theorem d_Dot_count_1 : decode i_Dot_count.2.1 1 = .ok (.tableswitch 95 0 5 #[39, 55, 63, 71, 79, 87], 39) := by decide +kernel
theorem d_Dot_count_40 : decode i_Dot_count.2.1 40 = .ok (.aload_n 0, 1) := by decide +kernel
theorem d_Dot_count_41 : decode i_Dot_count.2.1 41 = .ok (.getfield 26, 3) := by decide +kernel
theorem d_Dot_count_44 : decode i_Dot_count.2.1 44 = .ok (.getfield 101, 3) := by decide +kernel
theorem d_Dot_count_47 : decode i_Dot_count.2.1 47 = .ok (.aload_n 0, 1) := by decide +kernel
theorem d_Dot_count_48 : decode i_Dot_count.2.1 48 = .ok (.getfield 26, 3) := by decide +kernel
theorem d_Dot_count_51 : decode i_Dot_count.2.1 51 = .ok (.getfield 105, 3) := by decide +kernel
theorem d_Dot_count_54 : decode i_Dot_count.2.1 54 = .ok (.imul, 1) := by decide +kernel
theorem d_Dot_count_55 : decode i_Dot_count.2.1 55 = .ok (.ireturn, 1) := by decide +kernel
theorem d_Dot_count_56 : decode i_Dot_count.2.1 56 = .ok (.aload_n 0, 1) := by decide +kernel
theorem d_Dot_count_57 : decode i_Dot_count.2.1 57 = .ok (.getfield 26, 3) := by decide +kernel
theorem d_Dot_count_60 : decode i_Dot_count.2.1 60 = .ok (.invokevirtual 120, 3) := by decide +kernel
theorem d_Dot_count_63 : decode i_Dot_count.2.1 63 = .ok (.ireturn, 1) := by decide +kernel
theorem d_Dot_count_64 : decode i_Dot_count.2.1 64 = .ok (.aload_n 0, 1) := by decide +kernel
theorem d_Dot_count_65 : decode i_Dot_count.2.1 65 = .ok (.getfield 26, 3) := by decide +kernel
theorem d_Dot_count_68 : decode i_Dot_count.2.1 68 = .ok (.getfield 111, 3) := by decide +kernel
theorem d_Dot_count_71 : decode i_Dot_count.2.1 71 = .ok (.ireturn, 1) := by decide +kernel
theorem d_Dot_count_72 : decode i_Dot_count.2.1 72 = .ok (.aload_n 0, 1) := by decide +kernel
theorem d_Dot_count_73 : decode i_Dot_count.2.1 73 = .ok (.getfield 26, 3) := by decide +kernel
theorem d_Dot_count_76 : decode i_Dot_count.2.1 76 = .ok (.getfield 114, 3) := by decide +kernel
theorem d_Dot_count_79 : decode i_Dot_count.2.1 79 = .ok (.ireturn, 1) := by decide +kernel
theorem d_Dot_count_80 : decode i_Dot_count.2.1 80 = .ok (.aload_n 0, 1) := by decide +kernel
theorem d_Dot_count_81 : decode i_Dot_count.2.1 81 = .ok (.getfield 39, 3) := by decide +kernel
theorem d_Dot_count_84 : decode i_Dot_count.2.1 84 = .ok (.getfield 117, 3) := by decide +kernel
theorem d_Dot_count_87 : decode i_Dot_count.2.1 87 = .ok (.ireturn, 1) := by decide +kernel
theorem d_Dot_count_88 : decode i_Dot_count.2.1 88 = .ok (.aload_n 0, 1) := by decide +kernel
theorem d_Dot_count_89 : decode i_Dot_count.2.1 89 = .ok (.getfield 10, 3) := by decide +kernel
theorem d_Dot_count_92 : decode i_Dot_count.2.1 92 = .ok (.getfield 82, 3) := by decide +kernel
theorem d_Dot_count_95 : decode i_Dot_count.2.1 95 = .ok (.ireturn, 1) := by decide +kernel
theorem d_Dot_count_96 : decode i_Dot_count.2.1 96 = .ok (.ldc 77, 2) := by decide +kernel
theorem d_Dot_count_98 : decode i_Dot_count.2.1 98 = .ok (.ireturn, 1) := by decide +kernel
theorem d_Dot_walkedBorders_0 : decode i_Dot_walkedBorders.2.1 0 = .ok (.aload_n 0, 1) := by decide +kernel
theorem d_Dot_walkedBorders_1 : decode i_Dot_walkedBorders.2.1 1 = .ok (.getfield 56, 3) := by decide +kernel
theorem d_Dot_walkedBorders_4 : decode i_Dot_walkedBorders.2.1 4 = .ok (.aload_n 0, 1) := by decide +kernel
theorem d_Dot_walkedBorders_5 : decode i_Dot_walkedBorders.2.1 5 = .ok (.getfield 26, 3) := by decide +kernel
theorem d_Dot_walkedBorders_8 : decode i_Dot_walkedBorders.2.1 8 = .ok (.getfield 110, 3) := by decide +kernel
theorem d_Dot_walkedBorders_11 : decode i_Dot_walkedBorders.2.1 11 = .ok (.aload_n 0, 1) := by decide +kernel
theorem d_Dot_walkedBorders_12 : decode i_Dot_walkedBorders.2.1 12 = .ok (.getfield 26, 3) := by decide +kernel
theorem d_Dot_walkedBorders_15 : decode i_Dot_walkedBorders.2.1 15 = .ok (.getfield 111, 3) := by decide +kernel
theorem d_Dot_walkedBorders_18 : decode i_Dot_walkedBorders.2.1 18 = .ok (.invokevirtual 271, 3) := by decide +kernel
theorem d_Dot_walkedBorders_21 : decode i_Dot_walkedBorders.2.1 21 = .ok (.aload_n 0, 1) := by decide +kernel
theorem d_Dot_walkedBorders_22 : decode i_Dot_walkedBorders.2.1 22 = .ok (.getfield 56, 3) := by decide +kernel
theorem d_Dot_walkedBorders_25 : decode i_Dot_walkedBorders.2.1 25 = .ok (.getfield 274, 3) := by decide +kernel
theorem d_Dot_walkedBorders_28 : decode i_Dot_walkedBorders.2.1 28 = .ok (.ireturn, 1) := by decide +kernel
theorem d_Dot_borderNumber_0 : decode i_Dot_borderNumber.2.1 0 = .ok (.aload_n 0, 1) := by decide +kernel
theorem d_Dot_borderNumber_1 : decode i_Dot_borderNumber.2.1 1 = .ok (.getfield 26, 3) := by decide +kernel
theorem d_Dot_borderNumber_4 : decode i_Dot_borderNumber.2.1 4 = .ok (.invokevirtual 154, 3) := by decide +kernel
theorem d_Dot_borderNumber_7 : decode i_Dot_borderNumber.2.1 7 = .ok (.ifCond .ne 5, 3) := by decide +kernel
theorem d_Dot_borderNumber_10 : decode i_Dot_borderNumber.2.1 10 = .ok (.aconst_null, 1) := by decide +kernel
theorem d_Dot_borderNumber_11 : decode i_Dot_borderNumber.2.1 11 = .ok (.areturn, 1) := by decide +kernel
theorem d_Dot_borderNumber_12 : decode i_Dot_borderNumber.2.1 12 = .ok (.aload_n 0, 1) := by decide +kernel
theorem d_Dot_borderNumber_13 : decode i_Dot_borderNumber.2.1 13 = .ok (.getfield 56, 3) := by decide +kernel
theorem d_Dot_borderNumber_16 : decode i_Dot_borderNumber.2.1 16 = .ok (.aload_n 0, 1) := by decide +kernel
theorem d_Dot_borderNumber_17 : decode i_Dot_borderNumber.2.1 17 = .ok (.getfield 26, 3) := by decide +kernel
theorem d_Dot_borderNumber_20 : decode i_Dot_borderNumber.2.1 20 = .ok (.getfield 110, 3) := by decide +kernel
theorem d_Dot_borderNumber_23 : decode i_Dot_borderNumber.2.1 23 = .ok (.aload_n 0, 1) := by decide +kernel
theorem d_Dot_borderNumber_24 : decode i_Dot_borderNumber.2.1 24 = .ok (.getfield 26, 3) := by decide +kernel
theorem d_Dot_borderNumber_27 : decode i_Dot_borderNumber.2.1 27 = .ok (.getfield 111, 3) := by decide +kernel
theorem d_Dot_borderNumber_30 : decode i_Dot_borderNumber.2.1 30 = .ok (.invokevirtual 271, 3) := by decide +kernel
theorem d_Dot_borderNumber_33 : decode i_Dot_borderNumber.2.1 33 = .ok (.aload_n 0, 1) := by decide +kernel
theorem d_Dot_borderNumber_34 : decode i_Dot_borderNumber.2.1 34 = .ok (.getfield 56, 3) := by decide +kernel
theorem d_Dot_borderNumber_37 : decode i_Dot_borderNumber.2.1 37 = .ok (.iload_n 1, 1) := by decide +kernel
theorem d_Dot_borderNumber_38 : decode i_Dot_borderNumber.2.1 38 = .ok (.invokevirtual 275, 3) := by decide +kernel
theorem d_Dot_borderNumber_41 : decode i_Dot_borderNumber.2.1 41 = .ok (.areturn, 1) := by decide +kernel
theorem d_Dot_shapedBorder_0 : decode i_Dot_shapedBorder.2.1 0 = .ok (.aload_n 0, 1) := by decide +kernel
theorem d_Dot_shapedBorder_1 : decode i_Dot_shapedBorder.2.1 1 = .ok (.iload_n 1, 1) := by decide +kernel
theorem d_Dot_shapedBorder_2 : decode i_Dot_shapedBorder.2.1 2 = .ok (.invokevirtual 161, 3) := by decide +kernel
theorem d_Dot_shapedBorder_5 : decode i_Dot_shapedBorder.2.1 5 = .ok (.astore_n 2, 1) := by decide +kernel
theorem d_Dot_shapedBorder_6 : decode i_Dot_shapedBorder.2.1 6 = .ok (.aload_n 2, 1) := by decide +kernel
theorem d_Dot_shapedBorder_7 : decode i_Dot_shapedBorder.2.1 7 = .ok (.ifnull 11, 3) := by decide +kernel
theorem d_Dot_shapedBorder_10 : decode i_Dot_shapedBorder.2.1 10 = .ok (.aload_n 0, 1) := by decide +kernel
theorem d_Dot_shapedBorder_11 : decode i_Dot_shapedBorder.2.1 11 = .ok (.getfield 64, 3) := by decide +kernel
theorem d_Dot_shapedBorder_14 : decode i_Dot_shapedBorder.2.1 14 = .ok (.aload_n 2, 1) := by decide +kernel
theorem d_Dot_shapedBorder_15 : decode i_Dot_shapedBorder.2.1 15 = .ok (.invokevirtual 278, 3) := by decide +kernel
theorem d_Dot_shapedBorder_18 : decode i_Dot_shapedBorder.2.1 18 = .ok (.aload_n 2, 1) := by decide +kernel
theorem d_Dot_shapedBorder_19 : decode i_Dot_shapedBorder.2.1 19 = .ok (.areturn, 1) := by decide +kernel
theorem d_Dot_imageNumber_0 : decode i_Dot_imageNumber.2.1 0 = .ok (.iload_n 1, 1) := by decide +kernel
theorem d_Dot_imageNumber_1 : decode i_Dot_imageNumber.2.1 1 = .ok (.ifCond .lt 8, 3) := by decide +kernel
theorem d_Dot_imageNumber_4 : decode i_Dot_imageNumber.2.1 4 = .ok (.iload_n 1, 1) := by decide +kernel
theorem d_Dot_imageNumber_5 : decode i_Dot_imageNumber.2.1 5 = .ok (.iconst 2, 1) := by decide +kernel
theorem d_Dot_imageNumber_6 : decode i_Dot_imageNumber.2.1 6 = .ok (.if_icmp .lt 5, 3) := by decide +kernel
theorem d_Dot_imageNumber_9 : decode i_Dot_imageNumber.2.1 9 = .ok (.aconst_null, 1) := by decide +kernel
theorem d_Dot_imageNumber_10 : decode i_Dot_imageNumber.2.1 10 = .ok (.areturn, 1) := by decide +kernel
theorem d_Dot_imageNumber_11 : decode i_Dot_imageNumber.2.1 11 = .ok (.iload_n 1, 1) := by decide +kernel
theorem d_Dot_imageNumber_12 : decode i_Dot_imageNumber.2.1 12 = .ok (.ifCond .ne 10, 3) := by decide +kernel
theorem d_Dot_imageNumber_15 : decode i_Dot_imageNumber.2.1 15 = .ok (.aload_n 0, 1) := by decide +kernel
theorem d_Dot_imageNumber_16 : decode i_Dot_imageNumber.2.1 16 = .ok (.getfield 30, 3) := by decide +kernel
theorem d_Dot_imageNumber_19 : decode i_Dot_imageNumber.2.1 19 = .ok (.goto 7, 3) := by decide +kernel
theorem d_Dot_imageNumber_22 : decode i_Dot_imageNumber.2.1 22 = .ok (.aload_n 0, 1) := by decide +kernel
theorem d_Dot_imageNumber_23 : decode i_Dot_imageNumber.2.1 23 = .ok (.getfield 33, 3) := by decide +kernel
theorem d_Dot_imageNumber_26 : decode i_Dot_imageNumber.2.1 26 = .ok (.areturn, 1) := by decide +kernel
theorem d_Dot_sizeOf_0 : decode i_Dot_sizeOf.2.1 0 = .ok (.iload_n 2, 1) := by decide +kernel
theorem d_Dot_sizeOf_1 : decode i_Dot_sizeOf.2.1 1 = .ok (.ifCond .ne 8, 3) := by decide +kernel
theorem d_Dot_sizeOf_4 : decode i_Dot_sizeOf.2.1 4 = .ok (.aload_n 1, 1) := by decide +kernel
theorem d_Dot_sizeOf_5 : decode i_Dot_sizeOf.2.1 5 = .ok (.getfield 165, 3) := by decide +kernel
theorem d_Dot_sizeOf_8 : decode i_Dot_sizeOf.2.1 8 = .ok (.ireturn, 1) := by decide +kernel
theorem d_Dot_sizeOf_9 : decode i_Dot_sizeOf.2.1 9 = .ok (.iload_n 2, 1) := by decide +kernel
theorem d_Dot_sizeOf_10 : decode i_Dot_sizeOf.2.1 10 = .ok (.iconst 1, 1) := by decide +kernel
theorem d_Dot_sizeOf_11 : decode i_Dot_sizeOf.2.1 11 = .ok (.if_icmp .ne 10, 3) := by decide +kernel
theorem d_Dot_sizeOf_14 : decode i_Dot_sizeOf.2.1 14 = .ok (.aload_n 1, 1) := by decide +kernel
theorem d_Dot_sizeOf_15 : decode i_Dot_sizeOf.2.1 15 = .ok (.getfield 218, 3) := by decide +kernel
theorem d_Dot_sizeOf_18 : decode i_Dot_sizeOf.2.1 18 = .ok (.goto 18, 3) := by decide +kernel
theorem d_Dot_sizeOf_21 : decode i_Dot_sizeOf.2.1 21 = .ok (.aload_n 0, 1) := by decide +kernel
theorem d_Dot_sizeOf_22 : decode i_Dot_sizeOf.2.1 22 = .ok (.getfield 64, 3) := by decide +kernel
theorem d_Dot_sizeOf_25 : decode i_Dot_sizeOf.2.1 25 = .ok (.aload_n 1, 1) := by decide +kernel
theorem d_Dot_sizeOf_26 : decode i_Dot_sizeOf.2.1 26 = .ok (.aload_n 0, 1) := by decide +kernel
theorem d_Dot_sizeOf_27 : decode i_Dot_sizeOf.2.1 27 = .ok (.getfield 26, 3) := by decide +kernel
theorem d_Dot_sizeOf_30 : decode i_Dot_sizeOf.2.1 30 = .ok (.getfield 114, 3) := by decide +kernel
theorem d_Dot_sizeOf_33 : decode i_Dot_sizeOf.2.1 33 = .ok (.invokevirtual 224, 3) := by decide +kernel
theorem d_Dot_sizeOf_36 : decode i_Dot_sizeOf.2.1 36 = .ok (.ireturn, 1) := by decide +kernel
theorem d_Mod_init_0 : decode i_Mod_init.2.1 0 = .ok (.aload_n 0, 1) := by decide +kernel
theorem d_Mod_init_1 : decode i_Mod_init.2.1 1 = .ok (.invokespecial 1, 3) := by decide +kernel
theorem d_Mod_init_4 : decode i_Mod_init.2.1 4 = .ok (.aload_n 0, 1) := by decide +kernel
theorem d_Mod_init_5 : decode i_Mod_init.2.1 5 = .ok (.bipush 68, 2) := by decide +kernel
theorem d_Mod_init_7 : decode i_Mod_init.2.1 7 = .ok (.newarray .int, 2) := by decide +kernel
theorem d_Mod_init_9 : decode i_Mod_init.2.1 9 = .ok (.putfield 7, 3) := by decide +kernel
theorem d_Mod_init_12 : decode i_Mod_init.2.1 12 = .ok (.aload_n 0, 1) := by decide +kernel
theorem d_Mod_init_13 : decode i_Mod_init.2.1 13 = .ok (.sipush 544, 3) := by decide +kernel
theorem d_Mod_init_16 : decode i_Mod_init.2.1 16 = .ok (.newarray .int, 2) := by decide +kernel
theorem d_Mod_init_18 : decode i_Mod_init.2.1 18 = .ok (.putfield 13, 3) := by decide +kernel
theorem d_Mod_init_21 : decode i_Mod_init.2.1 21 = .ok (.aload_n 0, 1) := by decide +kernel
theorem d_Mod_init_22 : decode i_Mod_init.2.1 22 = .ok (.sipush 136, 3) := by decide +kernel
theorem d_Mod_init_25 : decode i_Mod_init.2.1 25 = .ok (.newarray .int, 2) := by decide +kernel
theorem d_Mod_init_27 : decode i_Mod_init.2.1 27 = .ok (.putfield 16, 3) := by decide +kernel
theorem d_Mod_init_30 : decode i_Mod_init.2.1 30 = .ok (.aload_n 0, 1) := by decide +kernel
theorem d_Mod_init_31 : decode i_Mod_init.2.1 31 = .ok (.iconst 2, 1) := by decide +kernel
theorem d_Mod_init_32 : decode i_Mod_init.2.1 32 = .ok (.newarray .int, 2) := by decide +kernel
theorem d_Mod_init_34 : decode i_Mod_init.2.1 34 = .ok (.putfield 19, 3) := by decide +kernel
theorem d_Mod_init_37 : decode i_Mod_init.2.1 37 = .ok (.aload_n 0, 1) := by decide +kernel
theorem d_Mod_init_38 : decode i_Mod_init.2.1 38 = .ok (.bipush 90, 2) := by decide +kernel
theorem d_Mod_init_40 : decode i_Mod_init.2.1 40 = .ok (.newarray .int, 2) := by decide +kernel
theorem d_Mod_init_42 : decode i_Mod_init.2.1 42 = .ok (.putfield 22, 3) := by decide +kernel
theorem d_Mod_init_45 : decode i_Mod_init.2.1 45 = .ok (.aload_n 0, 1) := by decide +kernel
theorem d_Mod_init_46 : decode i_Mod_init.2.1 46 = .ok (.bipush 68, 2) := by decide +kernel
theorem d_Mod_init_48 : decode i_Mod_init.2.1 48 = .ok (.newarray .int, 2) := by decide +kernel
theorem d_Mod_init_50 : decode i_Mod_init.2.1 50 = .ok (.putfield 25, 3) := by decide +kernel
theorem d_Mod_init_53 : decode i_Mod_init.2.1 53 = .ok (.aload_n 0, 1) := by decide +kernel
theorem d_Mod_init_54 : decode i_Mod_init.2.1 54 = .ok (.bipush 40, 2) := by decide +kernel
theorem d_Mod_init_56 : decode i_Mod_init.2.1 56 = .ok (.newarray .int, 2) := by decide +kernel
theorem d_Mod_init_58 : decode i_Mod_init.2.1 58 = .ok (.putfield 28, 3) := by decide +kernel
theorem d_Mod_init_61 : decode i_Mod_init.2.1 61 = .ok (.aload_n 0, 1) := by decide +kernel
theorem d_Mod_init_62 : decode i_Mod_init.2.1 62 = .ok (.bipush 40, 2) := by decide +kernel
theorem d_Mod_init_64 : decode i_Mod_init.2.1 64 = .ok (.newarray .int, 2) := by decide +kernel
theorem d_Mod_init_66 : decode i_Mod_init.2.1 66 = .ok (.putfield 31, 3) := by decide +kernel
theorem d_Mod_init_69 : decode i_Mod_init.2.1 69 = .ok (.aload_n 0, 1) := by decide +kernel
theorem d_Mod_init_70 : decode i_Mod_init.2.1 70 = .ok (.bipush 40, 2) := by decide +kernel
theorem d_Mod_init_72 : decode i_Mod_init.2.1 72 = .ok (.newarray .int, 2) := by decide +kernel
theorem d_Mod_init_74 : decode i_Mod_init.2.1 74 = .ok (.putfield 34, 3) := by decide +kernel
theorem d_Mod_init_77 : decode i_Mod_init.2.1 77 = .ok (.aload_n 0, 1) := by decide +kernel
theorem d_Mod_init_78 : decode i_Mod_init.2.1 78 = .ok (.bipush 40, 2) := by decide +kernel
theorem d_Mod_init_80 : decode i_Mod_init.2.1 80 = .ok (.newarray .int, 2) := by decide +kernel
theorem d_Mod_init_82 : decode i_Mod_init.2.1 82 = .ok (.putfield 37, 3) := by decide +kernel
theorem d_Mod_init_85 : decode i_Mod_init.2.1 85 = .ok (.aload_n 0, 1) := by decide +kernel
theorem d_Mod_init_86 : decode i_Mod_init.2.1 86 = .ok (.bipush 40, 2) := by decide +kernel
theorem d_Mod_init_88 : decode i_Mod_init.2.1 88 = .ok (.newarray .long, 2) := by decide +kernel
theorem d_Mod_init_90 : decode i_Mod_init.2.1 90 = .ok (.putfield 40, 3) := by decide +kernel
theorem d_Mod_init_93 : decode i_Mod_init.2.1 93 = .ok (.aload_n 0, 1) := by decide +kernel
theorem d_Mod_init_94 : decode i_Mod_init.2.1 94 = .ok (.sipush 160, 3) := by decide +kernel
theorem d_Mod_init_97 : decode i_Mod_init.2.1 97 = .ok (.newarray .int, 2) := by decide +kernel
theorem d_Mod_init_99 : decode i_Mod_init.2.1 99 = .ok (.putfield 44, 3) := by decide +kernel
theorem d_Mod_init_102 : decode i_Mod_init.2.1 102 = .ok (.aload_n 0, 1) := by decide +kernel
theorem d_Mod_init_103 : decode i_Mod_init.2.1 103 = .ok (.sipush 160, 3) := by decide +kernel
theorem d_Mod_init_106 : decode i_Mod_init.2.1 106 = .ok (.newarray .int, 2) := by decide +kernel
theorem d_Mod_init_108 : decode i_Mod_init.2.1 108 = .ok (.putfield 47, 3) := by decide +kernel
theorem d_Mod_init_111 : decode i_Mod_init.2.1 111 = .ok (.aload_n 0, 1) := by decide +kernel
theorem d_Mod_init_112 : decode i_Mod_init.2.1 112 = .ok (.sipush 160, 3) := by decide +kernel
theorem d_Mod_init_115 : decode i_Mod_init.2.1 115 = .ok (.newarray .int, 2) := by decide +kernel
theorem d_Mod_init_117 : decode i_Mod_init.2.1 117 = .ok (.putfield 50, 3) := by decide +kernel
theorem d_Mod_init_120 : decode i_Mod_init.2.1 120 = .ok (.aload_n 0, 1) := by decide +kernel
theorem d_Mod_init_121 : decode i_Mod_init.2.1 121 = .ok (.sipush 20736, 3) := by decide +kernel
theorem d_Mod_init_124 : decode i_Mod_init.2.1 124 = .ok (.newarray .int, 2) := by decide +kernel
theorem d_Mod_init_126 : decode i_Mod_init.2.1 126 = .ok (.putfield 53, 3) := by decide +kernel
theorem d_Mod_init_129 : decode i_Mod_init.2.1 129 = .ok (.aload_n 0, 1) := by decide +kernel
theorem d_Mod_init_130 : decode i_Mod_init.2.1 130 = .ok (.sipush 160, 3) := by decide +kernel
theorem d_Mod_init_133 : decode i_Mod_init.2.1 133 = .ok (.newarray .int, 2) := by decide +kernel
theorem d_Mod_init_135 : decode i_Mod_init.2.1 135 = .ok (.putfield 56, 3) := by decide +kernel
theorem d_Mod_init_138 : decode i_Mod_init.2.1 138 = .ok (.aload_n 0, 1) := by decide +kernel
theorem d_Mod_init_139 : decode i_Mod_init.2.1 139 = .ok (.sipush 144, 3) := by decide +kernel
theorem d_Mod_init_142 : decode i_Mod_init.2.1 142 = .ok (.newarray .int, 2) := by decide +kernel
theorem d_Mod_init_144 : decode i_Mod_init.2.1 144 = .ok (.putfield 59, 3) := by decide +kernel
theorem d_Mod_init_147 : decode i_Mod_init.2.1 147 = .ok (.aload_n 0, 1) := by decide +kernel
theorem d_Mod_init_148 : decode i_Mod_init.2.1 148 = .ok (.sipush 160, 3) := by decide +kernel
theorem d_Mod_init_151 : decode i_Mod_init.2.1 151 = .ok (.newarray .int, 2) := by decide +kernel
theorem d_Mod_init_153 : decode i_Mod_init.2.1 153 = .ok (.putfield 62, 3) := by decide +kernel
theorem d_Mod_init_156 : decode i_Mod_init.2.1 156 = .ok (.aload_n 0, 1) := by decide +kernel
theorem d_Mod_init_157 : decode i_Mod_init.2.1 157 = .ok (.sipush 600, 3) := by decide +kernel
theorem d_Mod_init_160 : decode i_Mod_init.2.1 160 = .ok (.newarray .int, 2) := by decide +kernel
theorem d_Mod_init_162 : decode i_Mod_init.2.1 162 = .ok (.putfield 65, 3) := by decide +kernel
theorem d_Mod_init_165 : decode i_Mod_init.2.1 165 = .ok (.aload_n 0, 1) := by decide +kernel
theorem d_Mod_init_166 : decode i_Mod_init.2.1 166 = .ok (.sipush 600, 3) := by decide +kernel
theorem d_Mod_init_169 : decode i_Mod_init.2.1 169 = .ok (.newarray .int, 2) := by decide +kernel
theorem d_Mod_init_171 : decode i_Mod_init.2.1 171 = .ok (.putfield 68, 3) := by decide +kernel
theorem d_Mod_init_174 : decode i_Mod_init.2.1 174 = .ok (.return_, 1) := by decide +kernel
theorem d_Mod_in_0 : decode i_Mod_in.2.1 0 = .ok (.iload_n 0, 1) := by decide +kernel
theorem d_Mod_in_1 : decode i_Mod_in.2.1 1 = .ok (.iload_n 1, 1) := by decide +kernel
theorem d_Mod_in_2 : decode i_Mod_in.2.1 2 = .ok (.if_icmp .lt 12, 3) := by decide +kernel
theorem d_Mod_in_5 : decode i_Mod_in.2.1 5 = .ok (.iload_n 0, 1) := by decide +kernel
theorem d_Mod_in_6 : decode i_Mod_in.2.1 6 = .ok (.iload_n 2, 1) := by decide +kernel
theorem d_Mod_in_7 : decode i_Mod_in.2.1 7 = .ok (.if_icmp .gt 7, 3) := by decide +kernel
theorem d_Mod_in_10 : decode i_Mod_in.2.1 10 = .ok (.iconst 1, 1) := by decide +kernel
theorem d_Mod_in_11 : decode i_Mod_in.2.1 11 = .ok (.goto 4, 3) := by decide +kernel
theorem d_Mod_in_14 : decode i_Mod_in.2.1 14 = .ok (.iconst 0, 1) := by decide +kernel
theorem d_Mod_in_15 : decode i_Mod_in.2.1 15 = .ok (.ireturn, 1) := by decide +kernel
theorem d_Mod_bring_0 : decode i_Mod_bring.2.1 0 = .ok (.iconst 0, 1) := by decide +kernel
theorem d_Mod_bring_1 : decode i_Mod_bring.2.1 1 = .ok (.istore 5, 2) := by decide +kernel
theorem d_Mod_bring_3 : decode i_Mod_bring.2.1 3 = .ok (.iload 5, 2) := by decide +kernel
theorem d_Mod_bring_5 : decode i_Mod_bring.2.1 5 = .ok (.iload 4, 2) := by decide +kernel
theorem d_Mod_bring_7 : decode i_Mod_bring.2.1 7 = .ok (.if_icmp .ge 21, 3) := by decide +kernel
theorem d_Mod_bring_10 : decode i_Mod_bring.2.1 10 = .ok (.aload_n 2, 1) := by decide +kernel
theorem d_Mod_bring_11 : decode i_Mod_bring.2.1 11 = .ok (.iload_n 3, 1) := by decide +kernel
theorem d_Mod_bring_12 : decode i_Mod_bring.2.1 12 = .ok (.iload 5, 2) := by decide +kernel
theorem d_Mod_bring_14 : decode i_Mod_bring.2.1 14 = .ok (.iadd, 1) := by decide +kernel
theorem d_Mod_bring_15 : decode i_Mod_bring.2.1 15 = .ok (.aload_n 0, 1) := by decide +kernel
theorem d_Mod_bring_16 : decode i_Mod_bring.2.1 16 = .ok (.iload_n 1, 1) := by decide +kernel
theorem d_Mod_bring_17 : decode i_Mod_bring.2.1 17 = .ok (.iload 5, 2) := by decide +kernel
theorem d_Mod_bring_19 : decode i_Mod_bring.2.1 19 = .ok (.iadd, 1) := by decide +kernel
theorem d_Mod_bring_20 : decode i_Mod_bring.2.1 20 = .ok (.iaload, 1) := by decide +kernel
theorem d_Mod_bring_21 : decode i_Mod_bring.2.1 21 = .ok (.iastore, 1) := by decide +kernel
theorem d_Mod_bring_22 : decode i_Mod_bring.2.1 22 = .ok (.iinc 5 1, 3) := by decide +kernel
theorem d_Mod_bring_25 : decode i_Mod_bring.2.1 25 = .ok (.goto (-22), 3) := by decide +kernel
theorem d_Mod_bring_28 : decode i_Mod_bring.2.1 28 = .ok (.return_, 1) := by decide +kernel
theorem d_Mod_isPicture_0 : decode i_Mod_isPicture.2.1 0 = .ok (.aload_n 0, 1) := by decide +kernel
theorem d_Mod_isPicture_1 : decode i_Mod_isPicture.2.1 1 = .ok (.getfield 7, 3) := by decide +kernel
theorem d_Mod_isPicture_4 : decode i_Mod_isPicture.2.1 4 = .ok (.iconst 0, 1) := by decide +kernel
theorem d_Mod_isPicture_5 : decode i_Mod_isPicture.2.1 5 = .ok (.iaload, 1) := by decide +kernel
theorem d_Mod_isPicture_6 : decode i_Mod_isPicture.2.1 6 = .ok (.ifCond .le 7, 3) := by decide +kernel
theorem d_Mod_isPicture_9 : decode i_Mod_isPicture.2.1 9 = .ok (.iconst 1, 1) := by decide +kernel
theorem d_Mod_isPicture_10 : decode i_Mod_isPicture.2.1 10 = .ok (.goto 4, 3) := by decide +kernel
theorem d_Mod_isPicture_13 : decode i_Mod_isPicture.2.1 13 = .ok (.iconst 0, 1) := by decide +kernel
theorem d_Mod_isPicture_14 : decode i_Mod_isPicture.2.1 14 = .ok (.ireturn, 1) := by decide +kernel
theorem d_Mod_isDot_0 : decode i_Mod_isDot.2.1 0 = .ok (.iload_n 1, 1) := by decide +kernel
theorem d_Mod_isDot_1 : decode i_Mod_isDot.2.1 1 = .ok (.iconst 0, 1) := by decide +kernel
theorem d_Mod_isDot_2 : decode i_Mod_isDot.2.1 2 = .ok (.aload_n 0, 1) := by decide +kernel
theorem d_Mod_isDot_3 : decode i_Mod_isDot.2.1 3 = .ok (.getfield 7, 3) := by decide +kernel
theorem d_Mod_isDot_6 : decode i_Mod_isDot.2.1 6 = .ok (.iconst 0, 1) := by decide +kernel
theorem d_Mod_isDot_7 : decode i_Mod_isDot.2.1 7 = .ok (.iaload, 1) := by decide +kernel
theorem d_Mod_isDot_8 : decode i_Mod_isDot.2.1 8 = .ok (.iconst 1, 1) := by decide +kernel
theorem d_Mod_isDot_9 : decode i_Mod_isDot.2.1 9 = .ok (.isub, 1) := by decide +kernel
theorem d_Mod_isDot_10 : decode i_Mod_isDot.2.1 10 = .ok (.invokestatic 71, 3) := by decide +kernel
theorem d_Mod_isDot_13 : decode i_Mod_isDot.2.1 13 = .ok (.ifCond .eq 23, 3) := by decide +kernel
theorem d_Mod_isDot_16 : decode i_Mod_isDot.2.1 16 = .ok (.iload_n 2, 1) := by decide +kernel
theorem d_Mod_isDot_17 : decode i_Mod_isDot.2.1 17 = .ok (.iconst 0, 1) := by decide +kernel
theorem d_Mod_isDot_18 : decode i_Mod_isDot.2.1 18 = .ok (.aload_n 0, 1) := by decide +kernel
theorem d_Mod_isDot_19 : decode i_Mod_isDot.2.1 19 = .ok (.getfield 7, 3) := by decide +kernel
theorem d_Mod_isDot_22 : decode i_Mod_isDot.2.1 22 = .ok (.iconst 1, 1) := by decide +kernel
theorem d_Mod_isDot_23 : decode i_Mod_isDot.2.1 23 = .ok (.iaload, 1) := by decide +kernel
theorem d_Mod_isDot_24 : decode i_Mod_isDot.2.1 24 = .ok (.iconst 1, 1) := by decide +kernel
theorem d_Mod_isDot_25 : decode i_Mod_isDot.2.1 25 = .ok (.isub, 1) := by decide +kernel
theorem d_Mod_isDot_26 : decode i_Mod_isDot.2.1 26 = .ok (.invokestatic 71, 3) := by decide +kernel
theorem d_Mod_isDot_29 : decode i_Mod_isDot.2.1 29 = .ok (.ifCond .eq 7, 3) := by decide +kernel
theorem d_Mod_isDot_32 : decode i_Mod_isDot.2.1 32 = .ok (.iconst 1, 1) := by decide +kernel
theorem d_Mod_isDot_33 : decode i_Mod_isDot.2.1 33 = .ok (.goto 4, 3) := by decide +kernel
theorem d_Mod_isDot_36 : decode i_Mod_isDot.2.1 36 = .ok (.iconst 0, 1) := by decide +kernel
theorem d_Mod_isDot_37 : decode i_Mod_isDot.2.1 37 = .ok (.ireturn, 1) := by decide +kernel
theorem d_Mod_feed_0 : decode i_Mod_feed.2.1 0 = .ok (.iload_n 1, 1) := by decide +kernel
theorem d_Mod_feed_1 : decode i_Mod_feed.2.1 1 = .ok (.iconst 0, 1) := by decide +kernel
theorem d_Mod_feed_2 : decode i_Mod_feed.2.1 2 = .ok (.sipush 255, 3) := by decide +kernel
theorem d_Mod_feed_5 : decode i_Mod_feed.2.1 5 = .ok (.invokestatic 71, 3) := by decide +kernel
theorem d_Mod_feed_8 : decode i_Mod_feed.2.1 8 = .ok (.ifCond .ne 6, 3) := by decide +kernel
theorem d_Mod_feed_11 : decode i_Mod_feed.2.1 11 = .ok (.ldc 75, 2) := by decide +kernel
theorem d_Mod_feed_13 : decode i_Mod_feed.2.1 13 = .ok (.ireturn, 1) := by decide +kernel
theorem d_Mod_feed_14 : decode i_Mod_feed.2.1 14 = .ok (.aload_n 0, 1) := by decide +kernel
theorem d_Mod_feed_15 : decode i_Mod_feed.2.1 15 = .ok (.getfield 76, 3) := by decide +kernel
theorem d_Mod_feed_18 : decode i_Mod_feed.2.1 18 = .ok (.bipush 90, 2) := by decide +kernel
theorem d_Mod_feed_20 : decode i_Mod_feed.2.1 20 = .ok (.if_icmp .ne 6, 3) := by decide +kernel
theorem d_Mod_feed_23 : decode i_Mod_feed.2.1 23 = .ok (.ldc 80, 2) := by decide +kernel
theorem d_Mod_feed_25 : decode i_Mod_feed.2.1 25 = .ok (.ireturn, 1) := by decide +kernel
theorem d_Mod_feed_26 : decode i_Mod_feed.2.1 26 = .ok (.aload_n 0, 1) := by decide +kernel
theorem d_Mod_feed_27 : decode i_Mod_feed.2.1 27 = .ok (.getfield 22, 3) := by decide +kernel
theorem d_Mod_feed_30 : decode i_Mod_feed.2.1 30 = .ok (.aload_n 0, 1) := by decide +kernel
theorem d_Mod_feed_31 : decode i_Mod_feed.2.1 31 = .ok (.getfield 76, 3) := by decide +kernel
theorem d_Mod_feed_34 : decode i_Mod_feed.2.1 34 = .ok (.iload_n 1, 1) := by decide +kernel
theorem d_Mod_feed_35 : decode i_Mod_feed.2.1 35 = .ok (.iastore, 1) := by decide +kernel
theorem d_Mod_feed_36 : decode i_Mod_feed.2.1 36 = .ok (.aload_n 0, 1) := by decide +kernel
theorem d_Mod_feed_37 : decode i_Mod_feed.2.1 37 = .ok (.dup, 1) := by decide +kernel
theorem d_Mod_feed_38 : decode i_Mod_feed.2.1 38 = .ok (.getfield 76, 3) := by decide +kernel
theorem d_Mod_feed_41 : decode i_Mod_feed.2.1 41 = .ok (.iconst 1, 1) := by decide +kernel
theorem d_Mod_feed_42 : decode i_Mod_feed.2.1 42 = .ok (.iadd, 1) := by decide +kernel
theorem d_Mod_feed_43 : decode i_Mod_feed.2.1 43 = .ok (.putfield 76, 3) := by decide +kernel
theorem d_Mod_feed_46 : decode i_Mod_feed.2.1 46 = .ok (.aload_n 0, 1) := by decide +kernel
theorem d_Mod_feed_47 : decode i_Mod_feed.2.1 47 = .ok (.getfield 76, 3) := by decide +kernel
theorem d_Mod_feed_50 : decode i_Mod_feed.2.1 50 = .ok (.ireturn, 1) := by decide +kernel
theorem d_Mod_due_0 : decode i_Mod_due.2.1 0 = .ok (.aload_n 0, 1) := by decide +kernel
theorem d_Mod_due_1 : decode i_Mod_due.2.1 1 = .ok (.getfield 81, 3) := by decide +kernel
theorem d_Mod_due_4 : decode i_Mod_due.2.1 4 = .ok (.aload_n 0, 1) := by decide +kernel
theorem d_Mod_due_5 : decode i_Mod_due.2.1 5 = .ok (.getfield 76, 3) := by decide +kernel
theorem d_Mod_due_8 : decode i_Mod_due.2.1 8 = .ok (.if_icmp .ge 20, 3) := by decide +kernel
theorem d_Mod_due_11 : decode i_Mod_due.2.1 11 = .ok (.aload_n 0, 1) := by decide +kernel
theorem d_Mod_due_12 : decode i_Mod_due.2.1 12 = .ok (.getfield 22, 3) := by decide +kernel
theorem d_Mod_due_15 : decode i_Mod_due.2.1 15 = .ok (.aload_n 0, 1) := by decide +kernel
theorem d_Mod_due_16 : decode i_Mod_due.2.1 16 = .ok (.getfield 81, 3) := by decide +kernel
theorem d_Mod_due_19 : decode i_Mod_due.2.1 19 = .ok (.iaload, 1) := by decide +kernel
theorem d_Mod_due_20 : decode i_Mod_due.2.1 20 = .ok (.iload_n 1, 1) := by decide +kernel
theorem d_Mod_due_21 : decode i_Mod_due.2.1 21 = .ok (.iload_n 2, 1) := by decide +kernel
theorem d_Mod_due_22 : decode i_Mod_due.2.1 22 = .ok (.invokestatic 71, 3) := by decide +kernel
theorem d_Mod_due_25 : decode i_Mod_due.2.1 25 = .ok (.ifCond .ne 5, 3) := by decide +kernel
theorem d_Mod_due_28 : decode i_Mod_due.2.1 28 = .ok (.iconst 1, 1) := by decide +kernel
theorem d_Mod_due_29 : decode i_Mod_due.2.1 29 = .ok (.ireturn, 1) := by decide +kernel
theorem d_Mod_due_30 : decode i_Mod_due.2.1 30 = .ok (.aload_n 0, 1) := by decide +kernel
theorem d_Mod_due_31 : decode i_Mod_due.2.1 31 = .ok (.getfield 22, 3) := by decide +kernel
theorem d_Mod_due_34 : decode i_Mod_due.2.1 34 = .ok (.aload_n 0, 1) := by decide +kernel
theorem d_Mod_due_35 : decode i_Mod_due.2.1 35 = .ok (.getfield 81, 3) := by decide +kernel
theorem d_Mod_due_38 : decode i_Mod_due.2.1 38 = .ok (.iaload, 1) := by decide +kernel
theorem d_Mod_due_39 : decode i_Mod_due.2.1 39 = .ok (.iload_n 3, 1) := by decide +kernel
theorem d_Mod_due_40 : decode i_Mod_due.2.1 40 = .ok (.iload 4, 2) := by decide +kernel
theorem d_Mod_due_42 : decode i_Mod_due.2.1 42 = .ok (.invokestatic 71, 3) := by decide +kernel
theorem d_Mod_due_45 : decode i_Mod_due.2.1 45 = .ok (.ifCond .ne 5, 3) := by decide +kernel
theorem d_Mod_due_48 : decode i_Mod_due.2.1 48 = .ok (.iconst 2, 1) := by decide +kernel
theorem d_Mod_due_49 : decode i_Mod_due.2.1 49 = .ok (.ireturn, 1) := by decide +kernel
theorem d_Mod_due_50 : decode i_Mod_due.2.1 50 = .ok (.aload_n 0, 1) := by decide +kernel
theorem d_Mod_due_51 : decode i_Mod_due.2.1 51 = .ok (.dup, 1) := by decide +kernel
theorem d_Mod_due_52 : decode i_Mod_due.2.1 52 = .ok (.getfield 81, 3) := by decide +kernel
theorem d_Mod_due_55 : decode i_Mod_due.2.1 55 = .ok (.iconst 1, 1) := by decide +kernel
theorem d_Mod_due_56 : decode i_Mod_due.2.1 56 = .ok (.iadd, 1) := by decide +kernel
theorem d_Mod_due_57 : decode i_Mod_due.2.1 57 = .ok (.putfield 81, 3) := by decide +kernel
theorem d_Mod_due_60 : decode i_Mod_due.2.1 60 = .ok (.iconst 0, 1) := by decide +kernel
theorem d_Mod_due_61 : decode i_Mod_due.2.1 61 = .ok (.ireturn, 1) := by decide +kernel
theorem d_Mod_sign_0 : decode i_Mod_sign.2.1 0 = .ok (.aload_n 0, 1) := by decide +kernel
theorem d_Mod_sign_1 : decode i_Mod_sign.2.1 1 = .ok (.iload_n 1, 1) := by decide +kernel
theorem d_Mod_sign_2 : decode i_Mod_sign.2.1 2 = .ok (.iload_n 1, 1) := by decide +kernel
theorem d_Mod_sign_3 : decode i_Mod_sign.2.1 3 = .ok (.iload_n 1, 1) := by decide +kernel
theorem d_Mod_sign_4 : decode i_Mod_sign.2.1 4 = .ok (.iload_n 1, 1) := by decide +kernel
theorem d_Mod_sign_5 : decode i_Mod_sign.2.1 5 = .ok (.invokevirtual 84, 3) := by decide +kernel
theorem d_Mod_sign_8 : decode i_Mod_sign.2.1 8 = .ok (.ireturn, 1) := by decide +kernel
theorem d_Mod_readsRow_0 : decode i_Mod_readsRow.2.1 0 = .ok (.iconst 0, 1) := by decide +kernel
theorem d_Mod_readsRow_1 : decode i_Mod_readsRow.2.1 1 = .ok (.istore_n 2, 1) := by decide +kernel
theorem d_Mod_readsRow_2 : decode i_Mod_readsRow.2.1 2 = .ok (.iconst 0, 1) := by decide +kernel
theorem d_Mod_readsRow_3 : decode i_Mod_readsRow.2.1 3 = .ok (.istore_n 3, 1) := by decide +kernel
theorem d_Mod_readsRow_4 : decode i_Mod_readsRow.2.1 4 = .ok (.iload_n 3, 1) := by decide +kernel
theorem d_Mod_readsRow_5 : decode i_Mod_readsRow.2.1 5 = .ok (.aload_n 0, 1) := by decide +kernel
theorem d_Mod_readsRow_6 : decode i_Mod_readsRow.2.1 6 = .ok (.getfield 25, 3) := by decide +kernel
theorem d_Mod_readsRow_9 : decode i_Mod_readsRow.2.1 9 = .ok (.iconst 0, 1) := by decide +kernel
theorem d_Mod_readsRow_10 : decode i_Mod_readsRow.2.1 10 = .ok (.iaload, 1) := by decide +kernel
theorem d_Mod_readsRow_11 : decode i_Mod_readsRow.2.1 11 = .ok (.if_icmp .ge 101, 3) := by decide +kernel
theorem d_Mod_readsRow_14 : decode i_Mod_readsRow.2.1 14 = .ok (.iload_n 2, 1) := by decide +kernel
theorem d_Mod_readsRow_15 : decode i_Mod_readsRow.2.1 15 = .ok (.ifCond .ne 97, 3) := by decide +kernel
theorem d_Mod_readsRow_18 : decode i_Mod_readsRow.2.1 18 = .ok (.aload_n 0, 1) := by decide +kernel
theorem d_Mod_readsRow_19 : decode i_Mod_readsRow.2.1 19 = .ok (.getfield 81, 3) := by decide +kernel
theorem d_Mod_readsRow_22 : decode i_Mod_readsRow.2.1 22 = .ok (.aload_n 0, 1) := by decide +kernel
theorem d_Mod_readsRow_23 : decode i_Mod_readsRow.2.1 23 = .ok (.getfield 76, 3) := by decide +kernel
theorem d_Mod_readsRow_26 : decode i_Mod_readsRow.2.1 26 = .ok (.if_icmp .ge 21, 3) := by decide +kernel
theorem d_Mod_readsRow_29 : decode i_Mod_readsRow.2.1 29 = .ok (.aload_n 0, 1) := by decide +kernel
theorem d_Mod_readsRow_30 : decode i_Mod_readsRow.2.1 30 = .ok (.getfield 22, 3) := by decide +kernel
theorem d_Mod_readsRow_33 : decode i_Mod_readsRow.2.1 33 = .ok (.aload_n 0, 1) := by decide +kernel
theorem d_Mod_readsRow_34 : decode i_Mod_readsRow.2.1 34 = .ok (.getfield 81, 3) := by decide +kernel
theorem d_Mod_readsRow_37 : decode i_Mod_readsRow.2.1 37 = .ok (.iaload, 1) := by decide +kernel
theorem d_Mod_readsRow_38 : decode i_Mod_readsRow.2.1 38 = .ok (.bipush 120, 2) := by decide +kernel
theorem d_Mod_readsRow_40 : decode i_Mod_readsRow.2.1 40 = .ok (.if_icmp .ne 7, 3) := by decide +kernel
theorem d_Mod_readsRow_43 : decode i_Mod_readsRow.2.1 43 = .ok (.iconst 1, 1) := by decide +kernel
theorem d_Mod_readsRow_44 : decode i_Mod_readsRow.2.1 44 = .ok (.goto 4, 3) := by decide +kernel
theorem d_Mod_readsRow_47 : decode i_Mod_readsRow.2.1 47 = .ok (.iconst 0, 1) := by decide +kernel
theorem d_Mod_readsRow_48 : decode i_Mod_readsRow.2.1 48 = .ok (.istore 4, 2) := by decide +kernel
theorem d_Mod_readsRow_50 : decode i_Mod_readsRow.2.1 50 = .ok (.aload_n 0, 1) := by decide +kernel
theorem d_Mod_readsRow_51 : decode i_Mod_readsRow.2.1 51 = .ok (.bipush 97, 2) := by decide +kernel
theorem d_Mod_readsRow_53 : decode i_Mod_readsRow.2.1 53 = .ok (.bipush 122, 2) := by decide +kernel
theorem d_Mod_readsRow_55 : decode i_Mod_readsRow.2.1 55 = .ok (.iload 4, 2) := by decide +kernel
theorem d_Mod_readsRow_57 : decode i_Mod_readsRow.2.1 57 = .ok (.ifCond .eq 8, 3) := by decide +kernel
theorem d_Mod_readsRow_60 : decode i_Mod_readsRow.2.1 60 = .ok (.bipush 120, 2) := by decide +kernel
theorem d_Mod_readsRow_62 : decode i_Mod_readsRow.2.1 62 = .ok (.goto 5, 3) := by decide +kernel
theorem d_Mod_readsRow_65 : decode i_Mod_readsRow.2.1 65 = .ok (.bipush 111, 2) := by decide +kernel
theorem d_Mod_readsRow_67 : decode i_Mod_readsRow.2.1 67 = .ok (.iload 4, 2) := by decide +kernel
theorem d_Mod_readsRow_69 : decode i_Mod_readsRow.2.1 69 = .ok (.ifCond .eq 8, 3) := by decide +kernel
theorem d_Mod_readsRow_72 : decode i_Mod_readsRow.2.1 72 = .ok (.bipush 120, 2) := by decide +kernel
theorem d_Mod_readsRow_74 : decode i_Mod_readsRow.2.1 74 = .ok (.goto 5, 3) := by decide +kernel
theorem d_Mod_readsRow_77 : decode i_Mod_readsRow.2.1 77 = .ok (.bipush 111, 2) := by decide +kernel
theorem d_Mod_readsRow_79 : decode i_Mod_readsRow.2.1 79 = .ok (.invokevirtual 84, 3) := by decide +kernel
theorem d_Mod_readsRow_82 : decode i_Mod_readsRow.2.1 82 = .ok (.istore_n 2, 1) := by decide +kernel
theorem d_Mod_readsRow_83 : decode i_Mod_readsRow.2.1 83 = .ok (.aload_n 0, 1) := by decide +kernel
theorem d_Mod_readsRow_84 : decode i_Mod_readsRow.2.1 84 = .ok (.getfield 25, 3) := by decide +kernel
theorem d_Mod_readsRow_87 : decode i_Mod_readsRow.2.1 87 = .ok (.iconst 4, 1) := by decide +kernel
theorem d_Mod_readsRow_88 : decode i_Mod_readsRow.2.1 88 = .ok (.bipush 8, 2) := by decide +kernel
theorem d_Mod_readsRow_90 : decode i_Mod_readsRow.2.1 90 = .ok (.iload_n 1, 1) := by decide +kernel
theorem d_Mod_readsRow_91 : decode i_Mod_readsRow.2.1 91 = .ok (.imul, 1) := by decide +kernel
theorem d_Mod_readsRow_92 : decode i_Mod_readsRow.2.1 92 = .ok (.iadd, 1) := by decide +kernel
theorem d_Mod_readsRow_93 : decode i_Mod_readsRow.2.1 93 = .ok (.iload_n 3, 1) := by decide +kernel
theorem d_Mod_readsRow_94 : decode i_Mod_readsRow.2.1 94 = .ok (.iadd, 1) := by decide +kernel
theorem d_Mod_readsRow_95 : decode i_Mod_readsRow.2.1 95 = .ok (.iload 4, 2) := by decide +kernel
theorem d_Mod_readsRow_97 : decode i_Mod_readsRow.2.1 97 = .ok (.ifCond .eq 7, 3) := by decide +kernel
theorem d_Mod_readsRow_100 : decode i_Mod_readsRow.2.1 100 = .ok (.iconst 1, 1) := by decide +kernel
theorem d_Mod_readsRow_101 : decode i_Mod_readsRow.2.1 101 = .ok (.goto 4, 3) := by decide +kernel
theorem d_Mod_readsRow_104 : decode i_Mod_readsRow.2.1 104 = .ok (.iconst 0, 1) := by decide +kernel
theorem d_Mod_readsRow_105 : decode i_Mod_readsRow.2.1 105 = .ok (.iastore, 1) := by decide +kernel
theorem d_Mod_readsRow_106 : decode i_Mod_readsRow.2.1 106 = .ok (.iinc 3 1, 3) := by decide +kernel
theorem d_Mod_readsRow_109 : decode i_Mod_readsRow.2.1 109 = .ok (.goto (-105), 3) := by decide +kernel
theorem d_Mod_readsRow_112 : decode i_Mod_readsRow.2.1 112 = .ok (.iload_n 2, 1) := by decide +kernel
theorem d_Mod_readsRow_113 : decode i_Mod_readsRow.2.1 113 = .ok (.ifCond .eq 7, 3) := by decide +kernel
theorem d_Mod_readsRow_116 : decode i_Mod_readsRow.2.1 116 = .ok (.iload_n 2, 1) := by decide +kernel
theorem d_Mod_readsRow_117 : decode i_Mod_readsRow.2.1 117 = .ok (.goto 9, 3) := by decide +kernel
theorem d_Mod_readsRow_120 : decode i_Mod_readsRow.2.1 120 = .ok (.aload_n 0, 1) := by decide +kernel
theorem d_Mod_readsRow_121 : decode i_Mod_readsRow.2.1 121 = .ok (.bipush 59, 2) := by decide +kernel
theorem d_Mod_readsRow_123 : decode i_Mod_readsRow.2.1 123 = .ok (.invokevirtual 88, 3) := by decide +kernel
theorem d_Mod_readsRow_126 : decode i_Mod_readsRow.2.1 126 = .ok (.ireturn, 1) := by decide +kernel
theorem d_Mod_reads_0 : decode i_Mod_reads.2.1 0 = .ok (.aload_n 0, 1) := by decide +kernel
theorem d_Mod_reads_1 : decode i_Mod_reads.2.1 1 = .ok (.iconst 0, 1) := by decide +kernel
theorem d_Mod_reads_2 : decode i_Mod_reads.2.1 2 = .ok (.putfield 81, 3) := by decide +kernel
theorem d_Mod_reads_5 : decode i_Mod_reads.2.1 5 = .ok (.iconst 0, 1) := by decide +kernel
theorem d_Mod_reads_6 : decode i_Mod_reads.2.1 6 = .ok (.istore_n 1, 1) := by decide +kernel
theorem d_Mod_reads_7 : decode i_Mod_reads.2.1 7 = .ok (.iload_n 1, 1) := by decide +kernel
theorem d_Mod_reads_8 : decode i_Mod_reads.2.1 8 = .ok (.bipush 68, 2) := by decide +kernel
theorem d_Mod_reads_10 : decode i_Mod_reads.2.1 10 = .ok (.if_icmp .ge 16, 3) := by decide +kernel
theorem d_Mod_reads_13 : decode i_Mod_reads.2.1 13 = .ok (.aload_n 0, 1) := by decide +kernel
theorem d_Mod_reads_14 : decode i_Mod_reads.2.1 14 = .ok (.getfield 25, 3) := by decide +kernel
theorem d_Mod_reads_17 : decode i_Mod_reads.2.1 17 = .ok (.iload_n 1, 1) := by decide +kernel
theorem d_Mod_reads_18 : decode i_Mod_reads.2.1 18 = .ok (.iconst 0, 1) := by decide +kernel
theorem d_Mod_reads_19 : decode i_Mod_reads.2.1 19 = .ok (.iastore, 1) := by decide +kernel
theorem d_Mod_reads_20 : decode i_Mod_reads.2.1 20 = .ok (.iinc 1 1, 3) := by decide +kernel
theorem d_Mod_reads_23 : decode i_Mod_reads.2.1 23 = .ok (.goto (-16), 3) := by decide +kernel
theorem d_Mod_reads_26 : decode i_Mod_reads.2.1 26 = .ok (.aload_n 0, 1) := by decide +kernel
theorem d_Mod_reads_27 : decode i_Mod_reads.2.1 27 = .ok (.bipush 100, 2) := by decide +kernel
theorem d_Mod_reads_29 : decode i_Mod_reads.2.1 29 = .ok (.invokevirtual 88, 3) := by decide +kernel
theorem d_Mod_reads_32 : decode i_Mod_reads.2.1 32 = .ok (.istore_n 1, 1) := by decide +kernel
theorem d_Mod_reads_33 : decode i_Mod_reads.2.1 33 = .ok (.iconst 0, 1) := by decide +kernel
theorem d_Mod_reads_34 : decode i_Mod_reads.2.1 34 = .ok (.istore_n 2, 1) := by decide +kernel
theorem d_Mod_reads_35 : decode i_Mod_reads.2.1 35 = .ok (.iload_n 2, 1) := by decide +kernel
theorem d_Mod_reads_36 : decode i_Mod_reads.2.1 36 = .ok (.iconst 2, 1) := by decide +kernel
theorem d_Mod_reads_37 : decode i_Mod_reads.2.1 37 = .ok (.if_icmp .ge 59, 3) := by decide +kernel
theorem d_Mod_reads_40 : decode i_Mod_reads.2.1 40 = .ok (.iload_n 1, 1) := by decide +kernel
theorem d_Mod_reads_41 : decode i_Mod_reads.2.1 41 = .ok (.ifCond .ne 55, 3) := by decide +kernel
theorem d_Mod_reads_44 : decode i_Mod_reads.2.1 44 = .ok (.aload_n 0, 1) := by decide +kernel
theorem d_Mod_reads_45 : decode i_Mod_reads.2.1 45 = .ok (.getfield 25, 3) := by decide +kernel
theorem d_Mod_reads_48 : decode i_Mod_reads.2.1 48 = .ok (.iload_n 2, 1) := by decide +kernel
theorem d_Mod_reads_49 : decode i_Mod_reads.2.1 49 = .ok (.aload_n 0, 1) := by decide +kernel
theorem d_Mod_reads_50 : decode i_Mod_reads.2.1 50 = .ok (.getfield 81, 3) := by decide +kernel
theorem d_Mod_reads_53 : decode i_Mod_reads.2.1 53 = .ok (.aload_n 0, 1) := by decide +kernel
theorem d_Mod_reads_54 : decode i_Mod_reads.2.1 54 = .ok (.getfield 76, 3) := by decide +kernel
theorem d_Mod_reads_57 : decode i_Mod_reads.2.1 57 = .ok (.if_icmp .ge 18, 3) := by decide +kernel
theorem d_Mod_reads_60 : decode i_Mod_reads.2.1 60 = .ok (.aload_n 0, 1) := by decide +kernel
theorem d_Mod_reads_61 : decode i_Mod_reads.2.1 61 = .ok (.getfield 22, 3) := by decide +kernel
theorem d_Mod_reads_64 : decode i_Mod_reads.2.1 64 = .ok (.aload_n 0, 1) := by decide +kernel
theorem d_Mod_reads_65 : decode i_Mod_reads.2.1 65 = .ok (.getfield 81, 3) := by decide +kernel
theorem d_Mod_reads_68 : decode i_Mod_reads.2.1 68 = .ok (.iaload, 1) := by decide +kernel
theorem d_Mod_reads_69 : decode i_Mod_reads.2.1 69 = .ok (.bipush 48, 2) := by decide +kernel
theorem d_Mod_reads_71 : decode i_Mod_reads.2.1 71 = .ok (.isub, 1) := by decide +kernel
theorem d_Mod_reads_72 : decode i_Mod_reads.2.1 72 = .ok (.goto 4, 3) := by decide +kernel
theorem d_Mod_reads_75 : decode i_Mod_reads.2.1 75 = .ok (.iconst 0, 1) := by decide +kernel
theorem d_Mod_reads_76 : decode i_Mod_reads.2.1 76 = .ok (.iastore, 1) := by decide +kernel
theorem d_Mod_reads_77 : decode i_Mod_reads.2.1 77 = .ok (.aload_n 0, 1) := by decide +kernel
theorem d_Mod_reads_78 : decode i_Mod_reads.2.1 78 = .ok (.bipush 48, 2) := by decide +kernel
theorem d_Mod_reads_80 : decode i_Mod_reads.2.1 80 = .ok (.bipush 57, 2) := by decide +kernel
theorem d_Mod_reads_82 : decode i_Mod_reads.2.1 82 = .ok (.bipush 49, 2) := by decide +kernel
theorem d_Mod_reads_84 : decode i_Mod_reads.2.1 84 = .ok (.bipush 56, 2) := by decide +kernel
theorem d_Mod_reads_86 : decode i_Mod_reads.2.1 86 = .ok (.invokevirtual 84, 3) := by decide +kernel
theorem d_Mod_reads_89 : decode i_Mod_reads.2.1 89 = .ok (.istore_n 1, 1) := by decide +kernel
theorem d_Mod_reads_90 : decode i_Mod_reads.2.1 90 = .ok (.iinc 2 1, 3) := by decide +kernel
theorem d_Mod_reads_93 : decode i_Mod_reads.2.1 93 = .ok (.goto (-58), 3) := by decide +kernel
theorem d_Mod_reads_96 : decode i_Mod_reads.2.1 96 = .ok (.iload_n 1, 1) := by decide +kernel
theorem d_Mod_reads_97 : decode i_Mod_reads.2.1 97 = .ok (.ifCond .eq 7, 3) := by decide +kernel
theorem d_Mod_reads_100 : decode i_Mod_reads.2.1 100 = .ok (.iload_n 1, 1) := by decide +kernel
theorem d_Mod_reads_101 : decode i_Mod_reads.2.1 101 = .ok (.goto 9, 3) := by decide +kernel
theorem d_Mod_reads_104 : decode i_Mod_reads.2.1 104 = .ok (.aload_n 0, 1) := by decide +kernel
theorem d_Mod_reads_105 : decode i_Mod_reads.2.1 105 = .ok (.bipush 59, 2) := by decide +kernel
theorem d_Mod_reads_107 : decode i_Mod_reads.2.1 107 = .ok (.invokevirtual 88, 3) := by decide +kernel
theorem d_Mod_reads_110 : decode i_Mod_reads.2.1 110 = .ok (.istore_n 1, 1) := by decide +kernel
theorem d_Mod_reads_111 : decode i_Mod_reads.2.1 111 = .ok (.iconst 0, 1) := by decide +kernel
theorem d_Mod_reads_112 : decode i_Mod_reads.2.1 112 = .ok (.istore_n 2, 1) := by decide +kernel
theorem d_Mod_reads_113 : decode i_Mod_reads.2.1 113 = .ok (.iload_n 1, 1) := by decide +kernel
theorem d_Mod_reads_114 : decode i_Mod_reads.2.1 114 = .ok (.ifCond .ne 25, 3) := by decide +kernel
theorem d_Mod_reads_117 : decode i_Mod_reads.2.1 117 = .ok (.iload_n 2, 1) := by decide +kernel
theorem d_Mod_reads_118 : decode i_Mod_reads.2.1 118 = .ok (.aload_n 0, 1) := by decide +kernel
theorem d_Mod_reads_119 : decode i_Mod_reads.2.1 119 = .ok (.getfield 25, 3) := by decide +kernel
theorem d_Mod_reads_122 : decode i_Mod_reads.2.1 122 = .ok (.iconst 1, 1) := by decide +kernel
theorem d_Mod_reads_123 : decode i_Mod_reads.2.1 123 = .ok (.iaload, 1) := by decide +kernel
theorem d_Mod_reads_124 : decode i_Mod_reads.2.1 124 = .ok (.if_icmp .ge 15, 3) := by decide +kernel
theorem d_Mod_reads_127 : decode i_Mod_reads.2.1 127 = .ok (.aload_n 0, 1) := by decide +kernel
theorem d_Mod_reads_128 : decode i_Mod_reads.2.1 128 = .ok (.iload_n 2, 1) := by decide +kernel
theorem d_Mod_reads_129 : decode i_Mod_reads.2.1 129 = .ok (.invokevirtual 92, 3) := by decide +kernel
theorem d_Mod_reads_132 : decode i_Mod_reads.2.1 132 = .ok (.istore_n 1, 1) := by decide +kernel
theorem d_Mod_reads_133 : decode i_Mod_reads.2.1 133 = .ok (.iinc 2 1, 3) := by decide +kernel
theorem d_Mod_reads_136 : decode i_Mod_reads.2.1 136 = .ok (.goto (-23), 3) := by decide +kernel
theorem d_Mod_reads_139 : decode i_Mod_reads.2.1 139 = .ok (.iload_n 1, 1) := by decide +kernel
theorem d_Mod_reads_140 : decode i_Mod_reads.2.1 140 = .ok (.ifCond .eq 7, 3) := by decide +kernel
theorem d_Mod_reads_143 : decode i_Mod_reads.2.1 143 = .ok (.iload_n 1, 1) := by decide +kernel
theorem d_Mod_reads_144 : decode i_Mod_reads.2.1 144 = .ok (.goto 19, 3) := by decide +kernel
theorem d_Mod_reads_147 : decode i_Mod_reads.2.1 147 = .ok (.aload_n 0, 1) := by decide +kernel
theorem d_Mod_reads_148 : decode i_Mod_reads.2.1 148 = .ok (.getfield 81, 3) := by decide +kernel
theorem d_Mod_reads_151 : decode i_Mod_reads.2.1 151 = .ok (.aload_n 0, 1) := by decide +kernel
theorem d_Mod_reads_152 : decode i_Mod_reads.2.1 152 = .ok (.getfield 76, 3) := by decide +kernel
theorem d_Mod_reads_155 : decode i_Mod_reads.2.1 155 = .ok (.if_icmp .ge 7, 3) := by decide +kernel
theorem d_Mod_reads_158 : decode i_Mod_reads.2.1 158 = .ok (.iconst 1, 1) := by decide +kernel
theorem d_Mod_reads_159 : decode i_Mod_reads.2.1 159 = .ok (.goto 4, 3) := by decide +kernel
theorem d_Mod_reads_162 : decode i_Mod_reads.2.1 162 = .ok (.iconst 0, 1) := by decide +kernel
theorem d_Mod_reads_163 : decode i_Mod_reads.2.1 163 = .ok (.ireturn, 1) := by decide +kernel
