theorem d_Pic_lay_1 : decode i_Pic_lay.2.1 1 = .ok (.ifCond .ne 20, 3) := by decide +kernel
theorem d_Pic_lay_4 : decode i_Pic_lay.2.1 4 = .ok (.aload_n 0, 1) := by decide +kernel
theorem d_Pic_lay_5 : decode i_Pic_lay.2.1 5 = .ok (.dup, 1) := by decide +kernel
theorem d_Pic_lay_6 : decode i_Pic_lay.2.1 6 = .ok (.getfield 16, 3) := by decide +kernel
theorem d_Pic_lay_9 : decode i_Pic_lay.2.1 9 = .ok (.lload_n 1, 1) := by decide +kernel
theorem d_Pic_lay_10 : decode i_Pic_lay.2.1 10 = .ok (.ldc2_w 32, 3) := by decide +kernel
theorem d_Pic_lay_13 : decode i_Pic_lay.2.1 13 = .ok (.lxor, 1) := by decide +kernel
theorem d_Pic_lay_14 : decode i_Pic_lay.2.1 14 = .ok (.land, 1) := by decide +kernel
theorem d_Pic_lay_15 : decode i_Pic_lay.2.1 15 = .ok (.putfield 16, 3) := by decide +kernel
theorem d_Pic_lay_18 : decode i_Pic_lay.2.1 18 = .ok (.goto 31, 3) := by decide +kernel
theorem d_Pic_lay_21 : decode i_Pic_lay.2.1 21 = .ok (.iload_n 3, 1) := by decide +kernel
theorem d_Pic_lay_22 : decode i_Pic_lay.2.1 22 = .ok (.iconst 1, 1) := by decide +kernel
theorem d_Pic_lay_23 : decode i_Pic_lay.2.1 23 = .ok (.if_icmp .ne 16, 3) := by decide +kernel
theorem d_Pic_lay_26 : decode i_Pic_lay.2.1 26 = .ok (.aload_n 0, 1) := by decide +kernel
theorem d_Pic_lay_27 : decode i_Pic_lay.2.1 27 = .ok (.dup, 1) := by decide +kernel
theorem d_Pic_lay_28 : decode i_Pic_lay.2.1 28 = .ok (.getfield 16, 3) := by decide +kernel
theorem d_Pic_lay_31 : decode i_Pic_lay.2.1 31 = .ok (.lload_n 1, 1) := by decide +kernel
theorem d_Pic_lay_32 : decode i_Pic_lay.2.1 32 = .ok (.lor, 1) := by decide +kernel
theorem d_Pic_lay_33 : decode i_Pic_lay.2.1 33 = .ok (.putfield 16, 3) := by decide +kernel
theorem d_Pic_lay_36 : decode i_Pic_lay.2.1 36 = .ok (.goto 13, 3) := by decide +kernel
theorem d_Pic_lay_39 : decode i_Pic_lay.2.1 39 = .ok (.aload_n 0, 1) := by decide +kernel
theorem d_Pic_lay_40 : decode i_Pic_lay.2.1 40 = .ok (.dup, 1) := by decide +kernel
theorem d_Pic_lay_41 : decode i_Pic_lay.2.1 41 = .ok (.getfield 16, 3) := by decide +kernel
theorem d_Pic_lay_44 : decode i_Pic_lay.2.1 44 = .ok (.lload_n 1, 1) := by decide +kernel
theorem d_Pic_lay_45 : decode i_Pic_lay.2.1 45 = .ok (.lxor, 1) := by decide +kernel
theorem d_Pic_lay_46 : decode i_Pic_lay.2.1 46 = .ok (.putfield 16, 3) := by decide +kernel
theorem d_Pic_lay_49 : decode i_Pic_lay.2.1 49 = .ok (.return_, 1) := by decide +kernel
theorem d_Pic_becomeLike_0 : decode i_Pic_becomeLike.2.1 0 = .ok (.aload_n 0, 1) := by decide +kernel
theorem d_Pic_becomeLike_1 : decode i_Pic_becomeLike.2.1 1 = .ok (.aload_n 1, 1) := by decide +kernel
theorem d_Pic_becomeLike_2 : decode i_Pic_becomeLike.2.1 2 = .ok (.getfield 7, 3) := by decide +kernel
theorem d_Pic_becomeLike_5 : decode i_Pic_becomeLike.2.1 5 = .ok (.putfield 7, 3) := by decide +kernel
theorem d_Pic_becomeLike_8 : decode i_Pic_becomeLike.2.1 8 = .ok (.aload_n 0, 1) := by decide +kernel
theorem d_Pic_becomeLike_9 : decode i_Pic_becomeLike.2.1 9 = .ok (.aload_n 1, 1) := by decide +kernel
theorem d_Pic_becomeLike_10 : decode i_Pic_becomeLike.2.1 10 = .ok (.getfield 13, 3) := by decide +kernel
theorem d_Pic_becomeLike_13 : decode i_Pic_becomeLike.2.1 13 = .ok (.putfield 13, 3) := by decide +kernel
theorem d_Pic_becomeLike_16 : decode i_Pic_becomeLike.2.1 16 = .ok (.aload_n 0, 1) := by decide +kernel
theorem d_Pic_becomeLike_17 : decode i_Pic_becomeLike.2.1 17 = .ok (.aload_n 1, 1) := by decide +kernel
theorem d_Pic_becomeLike_18 : decode i_Pic_becomeLike.2.1 18 = .ok (.getfield 16, 3) := by decide +kernel
theorem d_Pic_becomeLike_21 : decode i_Pic_becomeLike.2.1 21 = .ok (.putfield 16, 3) := by decide +kernel
theorem d_Pic_becomeLike_24 : decode i_Pic_becomeLike.2.1 24 = .ok (.aload_n 0, 1) := by decide +kernel
theorem d_Pic_becomeLike_25 : decode i_Pic_becomeLike.2.1 25 = .ok (.aload_n 1, 1) := by decide +kernel
theorem d_Pic_becomeLike_26 : decode i_Pic_becomeLike.2.1 26 = .ok (.getfield 34, 3) := by decide +kernel
theorem d_Pic_becomeLike_29 : decode i_Pic_becomeLike.2.1 29 = .ok (.putfield 34, 3) := by decide +kernel
theorem d_Pic_becomeLike_32 : decode i_Pic_becomeLike.2.1 32 = .ok (.aload_n 0, 1) := by decide +kernel
theorem d_Pic_becomeLike_33 : decode i_Pic_becomeLike.2.1 33 = .ok (.aload_n 1, 1) := by decide +kernel
theorem d_Pic_becomeLike_34 : decode i_Pic_becomeLike.2.1 34 = .ok (.getfield 37, 3) := by decide +kernel
theorem d_Pic_becomeLike_37 : decode i_Pic_becomeLike.2.1 37 = .ok (.putfield 37, 3) := by decide +kernel
theorem d_Pic_becomeLike_40 : decode i_Pic_becomeLike.2.1 40 = .ok (.return_, 1) := by decide +kernel
theorem d_Pol_init_0 : decode i_Pol_init.2.1 0 = .ok (.aload_n 0, 1) := by decide +kernel
theorem d_Pol_init_1 : decode i_Pol_init.2.1 1 = .ok (.invokespecial 1, 3) := by decide +kernel
theorem d_Pol_init_4 : decode i_Pol_init.2.1 4 = .ok (.aload_n 0, 1) := by decide +kernel
theorem d_Pol_init_5 : decode i_Pol_init.2.1 5 = .ok (.new 7, 3) := by decide +kernel
theorem d_Pol_init_8 : decode i_Pol_init.2.1 8 = .ok (.dup, 1) := by decide +kernel
theorem d_Pol_init_9 : decode i_Pol_init.2.1 9 = .ok (.invokespecial 9, 3) := by decide +kernel
theorem d_Pol_init_12 : decode i_Pol_init.2.1 12 = .ok (.putfield 10, 3) := by decide +kernel
theorem d_Pol_init_15 : decode i_Pol_init.2.1 15 = .ok (.aload_n 0, 1) := by decide +kernel
theorem d_Pol_init_16 : decode i_Pol_init.2.1 16 = .ok (.sipush 144, 3) := by decide +kernel
theorem d_Pol_init_19 : decode i_Pol_init.2.1 19 = .ok (.newarray .int, 2) := by decide +kernel
theorem d_Pol_init_21 : decode i_Pol_init.2.1 21 = .ok (.putfield 18, 3) := by decide +kernel
theorem d_Pol_init_24 : decode i_Pol_init.2.1 24 = .ok (.aload_n 0, 1) := by decide +kernel
theorem d_Pol_init_25 : decode i_Pol_init.2.1 25 = .ok (.sipush 145, 3) := by decide +kernel
theorem d_Pol_init_28 : decode i_Pol_init.2.1 28 = .ok (.newarray .int, 2) := by decide +kernel
theorem d_Pol_init_30 : decode i_Pol_init.2.1 30 = .ok (.putfield 22, 3) := by decide +kernel
theorem d_Pol_init_33 : decode i_Pol_init.2.1 33 = .ok (.aload_n 0, 1) := by decide +kernel
theorem d_Pol_init_34 : decode i_Pol_init.2.1 34 = .ok (.aload_n 1, 1) := by decide +kernel
theorem d_Pol_init_35 : decode i_Pol_init.2.1 35 = .ok (.putfield 25, 3) := by decide +kernel
theorem d_Pol_init_38 : decode i_Pol_init.2.1 38 = .ok (.aload_n 0, 1) := by decide +kernel
theorem d_Pol_init_39 : decode i_Pol_init.2.1 39 = .ok (.aload_n 2, 1) := by decide +kernel
theorem d_Pol_init_40 : decode i_Pol_init.2.1 40 = .ok (.putfield 29, 3) := by decide +kernel
theorem d_Pol_init_43 : decode i_Pol_init.2.1 43 = .ok (.return_, 1) := by decide +kernel
theorem d_Pol_fewestThrough_0 : decode i_Pol_fewestThrough.2.1 0 = .ok (.aload_n 0, 1) := by decide +kernel
theorem d_Pol_fewestThrough_1 : decode i_Pol_fewestThrough.2.1 1 = .ok (.getfield 29, 3) := by decide +kernel
theorem d_Pol_fewestThrough_4 : decode i_Pol_fewestThrough.2.1 4 = .ok (.aload_n 1, 1) := by decide +kernel
theorem d_Pol_fewestThrough_5 : decode i_Pol_fewestThrough.2.1 5 = .ok (.invokevirtual 33, 3) := by decide +kernel
theorem d_Pol_fewestThrough_8 : decode i_Pol_fewestThrough.2.1 8 = .ok (.aload_n 0, 1) := by decide +kernel
theorem d_Pol_fewestThrough_9 : decode i_Pol_fewestThrough.2.1 9 = .ok (.aload_n 1, 1) := by decide +kernel
theorem d_Pol_fewestThrough_10 : decode i_Pol_fewestThrough.2.1 10 = .ok (.iload_n 2, 1) := by decide +kernel
theorem d_Pol_fewestThrough_11 : decode i_Pol_fewestThrough.2.1 11 = .ok (.invokevirtual 39, 3) := by decide +kernel
theorem d_Pol_fewestThrough_14 : decode i_Pol_fewestThrough.2.1 14 = .ok (.ldc 43, 2) := by decide +kernel
theorem d_Pol_fewestThrough_16 : decode i_Pol_fewestThrough.2.1 16 = .ok (.idiv, 1) := by decide +kernel
theorem d_Pol_fewestThrough_17 : decode i_Pol_fewestThrough.2.1 17 = .ok (.ireturn, 1) := by decide +kernel
theorem d_Pol_cornerOfVertex_0 : decode i_Pol_cornerOfVertex.2.1 0 = .ok (.iload_n 2, 1) := by decide +kernel
theorem d_Pol_cornerOfVertex_1 : decode i_Pol_cornerOfVertex.2.1 1 = .ok (.ifCond .lt 10, 3) := by decide +kernel
theorem d_Pol_cornerOfVertex_4 : decode i_Pol_cornerOfVertex.2.1 4 = .ok (.aload_n 1, 1) := by decide +kernel
theorem d_Pol_cornerOfVertex_5 : decode i_Pol_cornerOfVertex.2.1 5 = .ok (.getfield 44, 3) := by decide +kernel
theorem d_Pol_cornerOfVertex_8 : decode i_Pol_cornerOfVertex.2.1 8 = .ok (.ifCond .gt 5, 3) := by decide +kernel
theorem d_Pol_cornerOfVertex_11 : decode i_Pol_cornerOfVertex.2.1 11 = .ok (.iconst 0, 1) := by decide +kernel
theorem d_Pol_cornerOfVertex_12 : decode i_Pol_cornerOfVertex.2.1 12 = .ok (.ireturn, 1) := by decide +kernel
theorem d_Pol_cornerOfVertex_13 : decode i_Pol_cornerOfVertex.2.1 13 = .ok (.aload_n 1, 1) := by decide +kernel
theorem d_Pol_cornerOfVertex_14 : decode i_Pol_cornerOfVertex.2.1 14 = .ok (.getfield 50, 3) := by decide +kernel
theorem d_Pol_cornerOfVertex_17 : decode i_Pol_cornerOfVertex.2.1 17 = .ok (.iload_n 2, 1) := by decide +kernel
theorem d_Pol_cornerOfVertex_18 : decode i_Pol_cornerOfVertex.2.1 18 = .ok (.aload_n 1, 1) := by decide +kernel
theorem d_Pol_cornerOfVertex_19 : decode i_Pol_cornerOfVertex.2.1 19 = .ok (.getfield 44, 3) := by decide +kernel
theorem d_Pol_cornerOfVertex_22 : decode i_Pol_cornerOfVertex.2.1 22 = .ok (.irem, 1) := by decide +kernel
theorem d_Pol_cornerOfVertex_23 : decode i_Pol_cornerOfVertex.2.1 23 = .ok (.iadd, 1) := by decide +kernel
theorem d_Pol_cornerOfVertex_24 : decode i_Pol_cornerOfVertex.2.1 24 = .ok (.istore_n 3, 1) := by decide +kernel
theorem d_Pol_cornerOfVertex_25 : decode i_Pol_cornerOfVertex.2.1 25 = .ok (.iload_n 3, 1) := by decide +kernel
theorem d_Pol_cornerOfVertex_26 : decode i_Pol_cornerOfVertex.2.1 26 = .ok (.ifCond .lt 19, 3) := by decide +kernel
theorem d_Pol_cornerOfVertex_29 : decode i_Pol_cornerOfVertex.2.1 29 = .ok (.iload_n 3, 1) := by decide +kernel
theorem d_Pol_cornerOfVertex_30 : decode i_Pol_cornerOfVertex.2.1 30 = .ok (.sipush 144, 3) := by decide +kernel
theorem d_Pol_cornerOfVertex_33 : decode i_Pol_cornerOfVertex.2.1 33 = .ok (.if_icmp .ge 12, 3) := by decide +kernel
theorem d_Pol_cornerOfVertex_36 : decode i_Pol_cornerOfVertex.2.1 36 = .ok (.aload_n 0, 1) := by decide +kernel
theorem d_Pol_cornerOfVertex_37 : decode i_Pol_cornerOfVertex.2.1 37 = .ok (.getfield 18, 3) := by decide +kernel
theorem d_Pol_cornerOfVertex_40 : decode i_Pol_cornerOfVertex.2.1 40 = .ok (.iload_n 3, 1) := by decide +kernel
theorem d_Pol_cornerOfVertex_41 : decode i_Pol_cornerOfVertex.2.1 41 = .ok (.iaload, 1) := by decide +kernel
theorem d_Pol_cornerOfVertex_42 : decode i_Pol_cornerOfVertex.2.1 42 = .ok (.goto 4, 3) := by decide +kernel
theorem d_Pol_cornerOfVertex_45 : decode i_Pol_cornerOfVertex.2.1 45 = .ok (.iconst 0, 1) := by decide +kernel
theorem d_Pol_cornerOfVertex_46 : decode i_Pol_cornerOfVertex.2.1 46 = .ok (.ireturn, 1) := by decide +kernel
theorem d_Pol_bendAt_0 : decode i_Pol_bendAt.2.1 0 = .ok (.aload_n 0, 1) := by decide +kernel
theorem d_Pol_bendAt_1 : decode i_Pol_bendAt.2.1 1 = .ok (.aload_n 1, 1) := by decide +kernel
theorem d_Pol_bendAt_2 : decode i_Pol_bendAt.2.1 2 = .ok (.iload_n 2, 1) := by decide +kernel
theorem d_Pol_bendAt_3 : decode i_Pol_bendAt.2.1 3 = .ok (.aload_n 1, 1) := by decide +kernel
theorem d_Pol_bendAt_4 : decode i_Pol_bendAt.2.1 4 = .ok (.getfield 44, 3) := by decide +kernel
theorem d_Pol_bendAt_7 : decode i_Pol_bendAt.2.1 7 = .ok (.iconst 1, 1) := by decide +kernel
theorem d_Pol_bendAt_8 : decode i_Pol_bendAt.2.1 8 = .ok (.invokestatic 53, 3) := by decide +kernel
theorem d_Pol_bendAt_11 : decode i_Pol_bendAt.2.1 11 = .ok (.iadd, 1) := by decide +kernel
theorem d_Pol_bendAt_12 : decode i_Pol_bendAt.2.1 12 = .ok (.iconst 1, 1) := by decide +kernel
theorem d_Pol_bendAt_13 : decode i_Pol_bendAt.2.1 13 = .ok (.isub, 1) := by decide +kernel
theorem d_Pol_bendAt_14 : decode i_Pol_bendAt.2.1 14 = .ok (.invokevirtual 59, 3) := by decide +kernel
theorem d_Pol_bendAt_17 : decode i_Pol_bendAt.2.1 17 = .ok (.istore_n 3, 1) := by decide +kernel
theorem d_Pol_bendAt_18 : decode i_Pol_bendAt.2.1 18 = .ok (.aload_n 0, 1) := by decide +kernel
theorem d_Pol_bendAt_19 : decode i_Pol_bendAt.2.1 19 = .ok (.aload_n 1, 1) := by decide +kernel
theorem d_Pol_bendAt_20 : decode i_Pol_bendAt.2.1 20 = .ok (.iload_n 2, 1) := by decide +kernel
theorem d_Pol_bendAt_21 : decode i_Pol_bendAt.2.1 21 = .ok (.invokevirtual 59, 3) := by decide +kernel
theorem d_Pol_bendAt_24 : decode i_Pol_bendAt.2.1 24 = .ok (.istore 4, 2) := by decide +kernel
theorem d_Pol_bendAt_26 : decode i_Pol_bendAt.2.1 26 = .ok (.aload_n 0, 1) := by decide +kernel
theorem d_Pol_bendAt_27 : decode i_Pol_bendAt.2.1 27 = .ok (.aload_n 1, 1) := by decide +kernel
theorem d_Pol_bendAt_28 : decode i_Pol_bendAt.2.1 28 = .ok (.iload_n 2, 1) := by decide +kernel
theorem d_Pol_bendAt_29 : decode i_Pol_bendAt.2.1 29 = .ok (.iconst 1, 1) := by decide +kernel
theorem d_Pol_bendAt_30 : decode i_Pol_bendAt.2.1 30 = .ok (.iadd, 1) := by decide +kernel
theorem d_Pol_bendAt_31 : decode i_Pol_bendAt.2.1 31 = .ok (.invokevirtual 59, 3) := by decide +kernel
theorem d_Pol_bendAt_34 : decode i_Pol_bendAt.2.1 34 = .ok (.istore 5, 2) := by decide +kernel
theorem d_Pol_bendAt_36 : decode i_Pol_bendAt.2.1 36 = .ok (.aload_n 0, 1) := by decide +kernel
theorem d_Pol_bendAt_37 : decode i_Pol_bendAt.2.1 37 = .ok (.getfield 10, 3) := by decide +kernel
theorem d_Pol_bendAt_40 : decode i_Pol_bendAt.2.1 40 = .ok (.aload_n 0, 1) := by decide +kernel
theorem d_Pol_bendAt_41 : decode i_Pol_bendAt.2.1 41 = .ok (.getfield 25, 3) := by decide +kernel
theorem d_Pol_bendAt_44 : decode i_Pol_bendAt.2.1 44 = .ok (.aload_n 1, 1) := by decide +kernel
theorem d_Pol_bendAt_45 : decode i_Pol_bendAt.2.1 45 = .ok (.iload_n 3, 1) := by decide +kernel
theorem d_Pol_bendAt_46 : decode i_Pol_bendAt.2.1 46 = .ok (.invokevirtual 62, 3) := by decide +kernel
theorem d_Pol_bendAt_49 : decode i_Pol_bendAt.2.1 49 = .ok (.aload_n 0, 1) := by decide +kernel
theorem d_Pol_bendAt_50 : decode i_Pol_bendAt.2.1 50 = .ok (.getfield 25, 3) := by decide +kernel
theorem d_Pol_bendAt_53 : decode i_Pol_bendAt.2.1 53 = .ok (.aload_n 1, 1) := by decide +kernel
theorem d_Pol_bendAt_54 : decode i_Pol_bendAt.2.1 54 = .ok (.iload_n 3, 1) := by decide +kernel
theorem d_Pol_bendAt_55 : decode i_Pol_bendAt.2.1 55 = .ok (.invokevirtual 65, 3) := by decide +kernel
theorem d_Pol_bendAt_58 : decode i_Pol_bendAt.2.1 58 = .ok (.invokevirtual 68, 3) := by decide +kernel
theorem d_Pol_bendAt_61 : decode i_Pol_bendAt.2.1 61 = .ok (.aload_n 0, 1) := by decide +kernel
theorem d_Pol_bendAt_62 : decode i_Pol_bendAt.2.1 62 = .ok (.getfield 10, 3) := by decide +kernel
theorem d_Pol_bendAt_65 : decode i_Pol_bendAt.2.1 65 = .ok (.aload_n 0, 1) := by decide +kernel
theorem d_Pol_bendAt_66 : decode i_Pol_bendAt.2.1 66 = .ok (.getfield 25, 3) := by decide +kernel
theorem d_Pol_bendAt_69 : decode i_Pol_bendAt.2.1 69 = .ok (.aload_n 1, 1) := by decide +kernel
theorem d_Pol_bendAt_70 : decode i_Pol_bendAt.2.1 70 = .ok (.iload 4, 2) := by decide +kernel
theorem d_Pol_bendAt_72 : decode i_Pol_bendAt.2.1 72 = .ok (.invokevirtual 62, 3) := by decide +kernel
theorem d_Pol_bendAt_75 : decode i_Pol_bendAt.2.1 75 = .ok (.aload_n 0, 1) := by decide +kernel
theorem d_Pol_bendAt_76 : decode i_Pol_bendAt.2.1 76 = .ok (.getfield 25, 3) := by decide +kernel
theorem d_Pol_bendAt_79 : decode i_Pol_bendAt.2.1 79 = .ok (.aload_n 1, 1) := by decide +kernel
theorem d_Pol_bendAt_80 : decode i_Pol_bendAt.2.1 80 = .ok (.iload 4, 2) := by decide +kernel
theorem d_Pol_bendAt_82 : decode i_Pol_bendAt.2.1 82 = .ok (.invokevirtual 65, 3) := by decide +kernel
theorem d_Pol_bendAt_85 : decode i_Pol_bendAt.2.1 85 = .ok (.invokevirtual 72, 3) := by decide +kernel
theorem d_Pol_bendAt_88 : decode i_Pol_bendAt.2.1 88 = .ok (.aload_n 0, 1) := by decide +kernel
theorem d_Pol_bendAt_89 : decode i_Pol_bendAt.2.1 89 = .ok (.getfield 10, 3) := by decide +kernel
theorem d_Pol_bendAt_92 : decode i_Pol_bendAt.2.1 92 = .ok (.aload_n 0, 1) := by decide +kernel
theorem d_Pol_bendAt_93 : decode i_Pol_bendAt.2.1 93 = .ok (.getfield 25, 3) := by decide +kernel
theorem d_Pol_bendAt_96 : decode i_Pol_bendAt.2.1 96 = .ok (.aload_n 1, 1) := by decide +kernel
theorem d_Pol_bendAt_97 : decode i_Pol_bendAt.2.1 97 = .ok (.iload 5, 2) := by decide +kernel
theorem d_Pol_bendAt_99 : decode i_Pol_bendAt.2.1 99 = .ok (.invokevirtual 62, 3) := by decide +kernel
theorem d_Pol_bendAt_102 : decode i_Pol_bendAt.2.1 102 = .ok (.aload_n 0, 1) := by decide +kernel
theorem d_Pol_bendAt_103 : decode i_Pol_bendAt.2.1 103 = .ok (.getfield 25, 3) := by decide +kernel
theorem d_Pol_bendAt_106 : decode i_Pol_bendAt.2.1 106 = .ok (.aload_n 1, 1) := by decide +kernel
theorem d_Pol_bendAt_107 : decode i_Pol_bendAt.2.1 107 = .ok (.iload 5, 2) := by decide +kernel
theorem d_Pol_bendAt_109 : decode i_Pol_bendAt.2.1 109 = .ok (.invokevirtual 65, 3) := by decide +kernel
theorem d_Pol_bendAt_112 : decode i_Pol_bendAt.2.1 112 = .ok (.invokevirtual 75, 3) := by decide +kernel
theorem d_Pol_bendAt_115 : decode i_Pol_bendAt.2.1 115 = .ok (.aload_n 0, 1) := by decide +kernel
theorem d_Pol_bendAt_116 : decode i_Pol_bendAt.2.1 116 = .ok (.getfield 10, 3) := by decide +kernel
theorem d_Pol_bendAt_119 : decode i_Pol_bendAt.2.1 119 = .ok (.areturn, 1) := by decide +kernel
theorem d_Pol_sharpVertices_0 : decode i_Pol_sharpVertices.2.1 0 = .ok (.iconst 0, 1) := by decide +kernel
theorem d_Pol_sharpVertices_1 : decode i_Pol_sharpVertices.2.1 1 = .ok (.istore_n 3, 1) := by decide +kernel
theorem d_Pol_sharpVertices_2 : decode i_Pol_sharpVertices.2.1 2 = .ok (.iconst 0, 1) := by decide +kernel
theorem d_Pol_sharpVertices_3 : decode i_Pol_sharpVertices.2.1 3 = .ok (.istore 4, 2) := by decide +kernel
theorem d_Pol_sharpVertices_5 : decode i_Pol_sharpVertices.2.1 5 = .ok (.iload 4, 2) := by decide +kernel
theorem d_Pol_sharpVertices_7 : decode i_Pol_sharpVertices.2.1 7 = .ok (.aload_n 1, 1) := by decide +kernel
theorem d_Pol_sharpVertices_8 : decode i_Pol_sharpVertices.2.1 8 = .ok (.getfield 44, 3) := by decide +kernel
theorem d_Pol_sharpVertices_11 : decode i_Pol_sharpVertices.2.1 11 = .ok (.if_icmp .ge 26, 3) := by decide +kernel
theorem d_Pol_sharpVertices_14 : decode i_Pol_sharpVertices.2.1 14 = .ok (.aload_n 0, 1) := by decide +kernel
theorem d_Pol_sharpVertices_15 : decode i_Pol_sharpVertices.2.1 15 = .ok (.aload_n 1, 1) := by decide +kernel
theorem d_Pol_sharpVertices_16 : decode i_Pol_sharpVertices.2.1 16 = .ok (.iload 4, 2) := by decide +kernel
theorem d_Pol_sharpVertices_18 : decode i_Pol_sharpVertices.2.1 18 = .ok (.invokevirtual 78, 3) := by decide +kernel
theorem d_Pol_sharpVertices_21 : decode i_Pol_sharpVertices.2.1 21 = .ok (.iload_n 2, 1) := by decide +kernel
theorem d_Pol_sharpVertices_22 : decode i_Pol_sharpVertices.2.1 22 = .ok (.invokevirtual 82, 3) := by decide +kernel
theorem d_Pol_sharpVertices_25 : decode i_Pol_sharpVertices.2.1 25 = .ok (.ifCond .eq 6, 3) := by decide +kernel
theorem d_Pol_sharpVertices_28 : decode i_Pol_sharpVertices.2.1 28 = .ok (.iinc 3 1, 3) := by decide +kernel
theorem d_Pol_sharpVertices_31 : decode i_Pol_sharpVertices.2.1 31 = .ok (.iinc 4 1, 3) := by decide +kernel
theorem d_Pol_sharpVertices_34 : decode i_Pol_sharpVertices.2.1 34 = .ok (.goto (-29), 3) := by decide +kernel
theorem d_Pol_sharpVertices_37 : decode i_Pol_sharpVertices.2.1 37 = .ok (.iload_n 3, 1) := by decide +kernel
theorem d_Pol_sharpVertices_38 : decode i_Pol_sharpVertices.2.1 38 = .ok (.ireturn, 1) := by decide +kernel
theorem d_Pol_twiceTheArea_0 : decode i_Pol_twiceTheArea.2.1 0 = .ok (.iconst 0, 1) := by decide +kernel
theorem d_Pol_twiceTheArea_1 : decode i_Pol_twiceTheArea.2.1 1 = .ok (.istore_n 2, 1) := by decide +kernel
theorem d_Pol_twiceTheArea_2 : decode i_Pol_twiceTheArea.2.1 2 = .ok (.iconst 0, 1) := by decide +kernel
theorem d_Pol_twiceTheArea_3 : decode i_Pol_twiceTheArea.2.1 3 = .ok (.istore_n 3, 1) := by decide +kernel
theorem d_Pol_twiceTheArea_4 : decode i_Pol_twiceTheArea.2.1 4 = .ok (.iload_n 3, 1) := by decide +kernel
theorem d_Pol_twiceTheArea_5 : decode i_Pol_twiceTheArea.2.1 5 = .ok (.aload_n 1, 1) := by decide +kernel
theorem d_Pol_twiceTheArea_6 : decode i_Pol_twiceTheArea.2.1 6 = .ok (.getfield 44, 3) := by decide +kernel
theorem d_Pol_twiceTheArea_9 : decode i_Pol_twiceTheArea.2.1 9 = .ok (.if_icmp .ge 73, 3) := by decide +kernel
theorem d_Pol_twiceTheArea_12 : decode i_Pol_twiceTheArea.2.1 12 = .ok (.aload_n 0, 1) := by decide +kernel
theorem d_Pol_twiceTheArea_13 : decode i_Pol_twiceTheArea.2.1 13 = .ok (.aload_n 1, 1) := by decide +kernel
theorem d_Pol_twiceTheArea_14 : decode i_Pol_twiceTheArea.2.1 14 = .ok (.iload_n 3, 1) := by decide +kernel
theorem d_Pol_twiceTheArea_15 : decode i_Pol_twiceTheArea.2.1 15 = .ok (.invokevirtual 59, 3) := by decide +kernel
theorem d_Pol_twiceTheArea_18 : decode i_Pol_twiceTheArea.2.1 18 = .ok (.istore 4, 2) := by decide +kernel
theorem d_Pol_twiceTheArea_20 : decode i_Pol_twiceTheArea.2.1 20 = .ok (.aload_n 0, 1) := by decide +kernel
theorem d_Pol_twiceTheArea_21 : decode i_Pol_twiceTheArea.2.1 21 = .ok (.aload_n 1, 1) := by decide +kernel
theorem d_Pol_twiceTheArea_22 : decode i_Pol_twiceTheArea.2.1 22 = .ok (.iload_n 3, 1) := by decide +kernel
theorem d_Pol_twiceTheArea_23 : decode i_Pol_twiceTheArea.2.1 23 = .ok (.iconst 1, 1) := by decide +kernel
theorem d_Pol_twiceTheArea_24 : decode i_Pol_twiceTheArea.2.1 24 = .ok (.iadd, 1) := by decide +kernel
theorem d_Pol_twiceTheArea_25 : decode i_Pol_twiceTheArea.2.1 25 = .ok (.invokevirtual 59, 3) := by decide +kernel
theorem d_Pol_twiceTheArea_28 : decode i_Pol_twiceTheArea.2.1 28 = .ok (.istore 5, 2) := by decide +kernel
theorem d_Pol_twiceTheArea_30 : decode i_Pol_twiceTheArea.2.1 30 = .ok (.iload_n 2, 1) := by decide +kernel
theorem d_Pol_twiceTheArea_31 : decode i_Pol_twiceTheArea.2.1 31 = .ok (.aload_n 0, 1) := by decide +kernel
theorem d_Pol_twiceTheArea_32 : decode i_Pol_twiceTheArea.2.1 32 = .ok (.getfield 25, 3) := by decide +kernel
theorem d_Pol_twiceTheArea_35 : decode i_Pol_twiceTheArea.2.1 35 = .ok (.aload_n 1, 1) := by decide +kernel
theorem d_Pol_twiceTheArea_36 : decode i_Pol_twiceTheArea.2.1 36 = .ok (.iload 4, 2) := by decide +kernel
theorem d_Pol_twiceTheArea_38 : decode i_Pol_twiceTheArea.2.1 38 = .ok (.invokevirtual 62, 3) := by decide +kernel
theorem d_Pol_twiceTheArea_41 : decode i_Pol_twiceTheArea.2.1 41 = .ok (.aload_n 0, 1) := by decide +kernel
theorem d_Pol_twiceTheArea_42 : decode i_Pol_twiceTheArea.2.1 42 = .ok (.getfield 25, 3) := by decide +kernel
theorem d_Pol_twiceTheArea_45 : decode i_Pol_twiceTheArea.2.1 45 = .ok (.aload_n 1, 1) := by decide +kernel
theorem d_Pol_twiceTheArea_46 : decode i_Pol_twiceTheArea.2.1 46 = .ok (.iload 5, 2) := by decide +kernel
theorem d_Pol_twiceTheArea_48 : decode i_Pol_twiceTheArea.2.1 48 = .ok (.invokevirtual 65, 3) := by decide +kernel
theorem d_Pol_twiceTheArea_51 : decode i_Pol_twiceTheArea.2.1 51 = .ok (.imul, 1) := by decide +kernel
theorem d_Pol_twiceTheArea_52 : decode i_Pol_twiceTheArea.2.1 52 = .ok (.aload_n 0, 1) := by decide +kernel
theorem d_Pol_twiceTheArea_53 : decode i_Pol_twiceTheArea.2.1 53 = .ok (.getfield 25, 3) := by decide +kernel
theorem d_Pol_twiceTheArea_56 : decode i_Pol_twiceTheArea.2.1 56 = .ok (.aload_n 1, 1) := by decide +kernel
theorem d_Pol_twiceTheArea_57 : decode i_Pol_twiceTheArea.2.1 57 = .ok (.iload 4, 2) := by decide +kernel
theorem d_Pol_twiceTheArea_59 : decode i_Pol_twiceTheArea.2.1 59 = .ok (.invokevirtual 65, 3) := by decide +kernel
theorem d_Pol_twiceTheArea_62 : decode i_Pol_twiceTheArea.2.1 62 = .ok (.aload_n 0, 1) := by decide +kernel
theorem d_Pol_twiceTheArea_63 : decode i_Pol_twiceTheArea.2.1 63 = .ok (.getfield 25, 3) := by decide +kernel
theorem d_Pol_twiceTheArea_66 : decode i_Pol_twiceTheArea.2.1 66 = .ok (.aload_n 1, 1) := by decide +kernel
theorem d_Pol_twiceTheArea_67 : decode i_Pol_twiceTheArea.2.1 67 = .ok (.iload 5, 2) := by decide +kernel
theorem d_Pol_twiceTheArea_69 : decode i_Pol_twiceTheArea.2.1 69 = .ok (.invokevirtual 62, 3) := by decide +kernel
theorem d_Pol_twiceTheArea_72 : decode i_Pol_twiceTheArea.2.1 72 = .ok (.imul, 1) := by decide +kernel
theorem d_Pol_twiceTheArea_73 : decode i_Pol_twiceTheArea.2.1 73 = .ok (.isub, 1) := by decide +kernel
theorem d_Pol_twiceTheArea_74 : decode i_Pol_twiceTheArea.2.1 74 = .ok (.iadd, 1) := by decide +kernel
theorem d_Pol_twiceTheArea_75 : decode i_Pol_twiceTheArea.2.1 75 = .ok (.istore_n 2, 1) := by decide +kernel
theorem d_Pol_twiceTheArea_76 : decode i_Pol_twiceTheArea.2.1 76 = .ok (.iinc 3 1, 3) := by decide +kernel
theorem d_Pol_twiceTheArea_79 : decode i_Pol_twiceTheArea.2.1 79 = .ok (.goto (-75), 3) := by decide +kernel
theorem d_Pol_twiceTheArea_82 : decode i_Pol_twiceTheArea.2.1 82 = .ok (.iload_n 2, 1) := by decide +kernel
theorem d_Pol_twiceTheArea_83 : decode i_Pol_twiceTheArea.2.1 83 = .ok (.invokestatic 86, 3) := by decide +kernel
theorem d_Pol_twiceTheArea_86 : decode i_Pol_twiceTheArea.2.1 86 = .ok (.ireturn, 1) := by decide +kernel
theorem d_Pol_seek_0 : decode i_Pol_seek.2.1 0 = .ok (.aload_n 1, 1) := by decide +kernel
theorem d_Pol_seek_1 : decode i_Pol_seek.2.1 1 = .ok (.getfield 44, 3) := by decide +kernel
theorem d_Pol_seek_4 : decode i_Pol_seek.2.1 4 = .ok (.ifCond .le 4, 3) := by decide +kernel
theorem d_Pol_seek_7 : decode i_Pol_seek.2.1 7 = .ok (.return_, 1) := by decide +kernel
theorem d_Pol_seek_8 : decode i_Pol_seek.2.1 8 = .ok (.aload_n 0, 1) := by decide +kernel
theorem d_Pol_seek_9 : decode i_Pol_seek.2.1 9 = .ok (.getfield 29, 3) := by decide +kernel
theorem d_Pol_seek_12 : decode i_Pol_seek.2.1 12 = .ok (.aload_n 1, 1) := by decide +kernel
theorem d_Pol_seek_13 : decode i_Pol_seek.2.1 13 = .ok (.invokevirtual 33, 3) := by decide +kernel
theorem d_Pol_seek_16 : decode i_Pol_seek.2.1 16 = .ok (.iconst 0, 1) := by decide +kernel
theorem d_Pol_seek_17 : decode i_Pol_seek.2.1 17 = .ok (.istore_n 2, 1) := by decide +kernel
theorem d_Pol_seek_18 : decode i_Pol_seek.2.1 18 = .ok (.ldc 90, 2) := by decide +kernel
theorem d_Pol_seek_20 : decode i_Pol_seek.2.1 20 = .ok (.istore_n 3, 1) := by decide +kernel
theorem d_Pol_seek_21 : decode i_Pol_seek.2.1 21 = .ok (.iconst 0, 1) := by decide +kernel
theorem d_Pol_seek_22 : decode i_Pol_seek.2.1 22 = .ok (.istore 4, 2) := by decide +kernel
theorem d_Pol_seek_24 : decode i_Pol_seek.2.1 24 = .ok (.iload 4, 2) := by decide +kernel
theorem d_Pol_seek_26 : decode i_Pol_seek.2.1 26 = .ok (.aload_n 1, 1) := by decide +kernel
theorem d_Pol_seek_27 : decode i_Pol_seek.2.1 27 = .ok (.getfield 91, 3) := by decide +kernel
theorem d_Pol_seek_30 : decode i_Pol_seek.2.1 30 = .ok (.if_icmp .ge 37, 3) := by decide +kernel
theorem d_Pol_seek_33 : decode i_Pol_seek.2.1 33 = .ok (.iload 4, 2) := by decide +kernel
theorem d_Pol_seek_35 : decode i_Pol_seek.2.1 35 = .ok (.bipush 12, 2) := by decide +kernel
theorem d_Pol_seek_37 : decode i_Pol_seek.2.1 37 = .ok (.if_icmp .ge 30, 3) := by decide +kernel
theorem d_Pol_seek_40 : decode i_Pol_seek.2.1 40 = .ok (.aload_n 0, 1) := by decide +kernel
theorem d_Pol_seek_41 : decode i_Pol_seek.2.1 41 = .ok (.aload_n 1, 1) := by decide +kernel
theorem d_Pol_seek_42 : decode i_Pol_seek.2.1 42 = .ok (.iload 4, 2) := by decide +kernel
theorem d_Pol_seek_44 : decode i_Pol_seek.2.1 44 = .ok (.invokevirtual 39, 3) := by decide +kernel
theorem d_Pol_seek_47 : decode i_Pol_seek.2.1 47 = .ok (.istore 5, 2) := by decide +kernel
theorem d_Pol_seek_49 : decode i_Pol_seek.2.1 49 = .ok (.iload 5, 2) := by decide +kernel
theorem d_Pol_seek_51 : decode i_Pol_seek.2.1 51 = .ok (.iload_n 3, 1) := by decide +kernel
theorem d_Pol_seek_52 : decode i_Pol_seek.2.1 52 = .ok (.if_icmp .ge 9, 3) := by decide +kernel
theorem d_Pol_seek_55 : decode i_Pol_seek.2.1 55 = .ok (.iload 5, 2) := by decide +kernel
theorem d_Pol_seek_57 : decode i_Pol_seek.2.1 57 = .ok (.istore_n 3, 1) := by decide +kernel
theorem d_Pol_seek_58 : decode i_Pol_seek.2.1 58 = .ok (.iload 4, 2) := by decide +kernel
theorem d_Pol_seek_60 : decode i_Pol_seek.2.1 60 = .ok (.istore_n 2, 1) := by decide +kernel
theorem d_Pol_seek_61 : decode i_Pol_seek.2.1 61 = .ok (.iinc 4 1, 3) := by decide +kernel
theorem d_Pol_seek_64 : decode i_Pol_seek.2.1 64 = .ok (.goto (-40), 3) := by decide +kernel
theorem d_Pol_seek_67 : decode i_Pol_seek.2.1 67 = .ok (.aload_n 1, 1) := by decide +kernel
theorem d_Pol_seek_68 : decode i_Pol_seek.2.1 68 = .ok (.aload_n 0, 1) := by decide +kernel
theorem d_Pol_seek_69 : decode i_Pol_seek.2.1 69 = .ok (.aload_n 1, 1) := by decide +kernel
theorem d_Pol_seek_70 : decode i_Pol_seek.2.1 70 = .ok (.iload_n 2, 1) := by decide +kernel
theorem d_Pol_seek_71 : decode i_Pol_seek.2.1 71 = .ok (.invokevirtual 39, 3) := by decide +kernel
theorem d_Pol_seek_74 : decode i_Pol_seek.2.1 74 = .ok (.ldc 43, 2) := by decide +kernel
theorem d_Pol_seek_76 : decode i_Pol_seek.2.1 76 = .ok (.irem, 1) := by decide +kernel
theorem d_Pol_seek_77 : decode i_Pol_seek.2.1 77 = .ok (.putfield 94, 3) := by decide +kernel
theorem d_Pol_seek_80 : decode i_Pol_seek.2.1 80 = .ok (.aload_n 0, 1) := by decide +kernel
theorem d_Pol_seek_81 : decode i_Pol_seek.2.1 81 = .ok (.aload_n 1, 1) := by decide +kernel
theorem d_Pol_seek_82 : decode i_Pol_seek.2.1 82 = .ok (.iload_n 2, 1) := by decide +kernel
theorem d_Pol_seek_83 : decode i_Pol_seek.2.1 83 = .ok (.invokevirtual 97, 3) := by decide +kernel
theorem d_Pol_seek_86 : decode i_Pol_seek.2.1 86 = .ok (.return_, 1) := by decide +kernel
theorem d_Pol_costOfRound_0 : decode i_Pol_costOfRound.2.1 0 = .ok (.aload_n 1, 1) := by decide +kernel
theorem d_Pol_costOfRound_1 : decode i_Pol_costOfRound.2.1 1 = .ok (.getfield 91, 3) := by decide +kernel
theorem d_Pol_costOfRound_4 : decode i_Pol_costOfRound.2.1 4 = .ok (.sipush 144, 3) := by decide +kernel
theorem d_Pol_costOfRound_7 : decode i_Pol_costOfRound.2.1 7 = .ok (.invokestatic 101, 3) := by decide +kernel
theorem d_Pol_costOfRound_10 : decode i_Pol_costOfRound.2.1 10 = .ok (.istore_n 3, 1) := by decide +kernel
theorem d_Pol_costOfRound_11 : decode i_Pol_costOfRound.2.1 11 = .ok (.iload_n 3, 1) := by decide +kernel
theorem d_Pol_costOfRound_12 : decode i_Pol_costOfRound.2.1 12 = .ok (.ifCond .gt 5, 3) := by decide +kernel
theorem d_Pol_costOfRound_15 : decode i_Pol_costOfRound.2.1 15 = .ok (.iconst 0, 1) := by decide +kernel
theorem d_Pol_costOfRound_16 : decode i_Pol_costOfRound.2.1 16 = .ok (.ireturn, 1) := by decide +kernel
theorem d_Pol_costOfRound_17 : decode i_Pol_costOfRound.2.1 17 = .ok (.aload_n 0, 1) := by decide +kernel
theorem d_Pol_costOfRound_18 : decode i_Pol_costOfRound.2.1 18 = .ok (.getfield 22, 3) := by decide +kernel
theorem d_Pol_costOfRound_21 : decode i_Pol_costOfRound.2.1 21 = .ok (.iload_n 3, 1) := by decide +kernel
theorem d_Pol_costOfRound_22 : decode i_Pol_costOfRound.2.1 22 = .ok (.iconst 0, 1) := by decide +kernel
theorem d_Pol_costOfRound_23 : decode i_Pol_costOfRound.2.1 23 = .ok (.iastore, 1) := by decide +kernel
theorem d_Pol_costOfRound_24 : decode i_Pol_costOfRound.2.1 24 = .ok (.iload_n 3, 1) := by decide +kernel
theorem d_Pol_costOfRound_25 : decode i_Pol_costOfRound.2.1 25 = .ok (.iconst 1, 1) := by decide +kernel
theorem d_Pol_costOfRound_26 : decode i_Pol_costOfRound.2.1 26 = .ok (.isub, 1) := by decide +kernel
theorem d_Pol_costOfRound_27 : decode i_Pol_costOfRound.2.1 27 = .ok (.istore 4, 2) := by decide +kernel
theorem d_Pol_costOfRound_29 : decode i_Pol_costOfRound.2.1 29 = .ok (.iload 4, 2) := by decide +kernel
theorem d_Pol_costOfRound_31 : decode i_Pol_costOfRound.2.1 31 = .ok (.ifCond .lt 108, 3) := by decide +kernel
theorem d_Pol_costOfRound_34 : decode i_Pol_costOfRound.2.1 34 = .ok (.aload_n 1, 1) := by decide +kernel
theorem d_Pol_costOfRound_35 : decode i_Pol_costOfRound.2.1 35 = .ok (.iload_n 2, 1) := by decide +kernel
theorem d_Pol_costOfRound_36 : decode i_Pol_costOfRound.2.1 36 = .ok (.iload 4, 2) := by decide +kernel
theorem d_Pol_costOfRound_38 : decode i_Pol_costOfRound.2.1 38 = .ok (.iadd, 1) := by decide +kernel
theorem d_Pol_costOfRound_39 : decode i_Pol_costOfRound.2.1 39 = .ok (.invokevirtual 104, 3) := by decide +kernel
theorem d_Pol_costOfRound_42 : decode i_Pol_costOfRound.2.1 42 = .ok (.istore 5, 2) := by decide +kernel
theorem d_Pol_costOfRound_44 : decode i_Pol_costOfRound.2.1 44 = .ok (.aload_n 0, 1) := by decide +kernel
theorem d_Pol_costOfRound_45 : decode i_Pol_costOfRound.2.1 45 = .ok (.getfield 29, 3) := by decide +kernel
theorem d_Pol_costOfRound_48 : decode i_Pol_costOfRound.2.1 48 = .ok (.iload 5, 2) := by decide +kernel
theorem d_Pol_costOfRound_50 : decode i_Pol_costOfRound.2.1 50 = .ok (.invokevirtual 107, 3) := by decide +kernel
theorem d_Pol_costOfRound_53 : decode i_Pol_costOfRound.2.1 53 = .ok (.iload_n 3, 1) := by decide +kernel
theorem d_Pol_costOfRound_54 : decode i_Pol_costOfRound.2.1 54 = .ok (.iload 4, 2) := by decide +kernel
theorem d_Pol_costOfRound_56 : decode i_Pol_costOfRound.2.1 56 = .ok (.isub, 1) := by decide +kernel
theorem d_Pol_costOfRound_57 : decode i_Pol_costOfRound.2.1 57 = .ok (.invokestatic 101, 3) := by decide +kernel
theorem d_Pol_costOfRound_60 : decode i_Pol_costOfRound.2.1 60 = .ok (.istore 6, 2) := by decide +kernel
theorem d_Pol_costOfRound_62 : decode i_Pol_costOfRound.2.1 62 = .ok (.ldc 90, 2) := by decide +kernel
theorem d_Pol_costOfRound_64 : decode i_Pol_costOfRound.2.1 64 = .ok (.istore 7, 2) := by decide +kernel
theorem d_Pol_costOfRound_66 : decode i_Pol_costOfRound.2.1 66 = .ok (.iconst 1, 1) := by decide +kernel
theorem d_Pol_costOfRound_67 : decode i_Pol_costOfRound.2.1 67 = .ok (.istore 8, 2) := by decide +kernel
theorem d_Pol_costOfRound_69 : decode i_Pol_costOfRound.2.1 69 = .ok (.iload 8, 2) := by decide +kernel
theorem d_Pol_costOfRound_71 : decode i_Pol_costOfRound.2.1 71 = .ok (.iload 6, 2) := by decide +kernel
theorem d_Pol_costOfRound_73 : decode i_Pol_costOfRound.2.1 73 = .ok (.if_icmp .gt 51, 3) := by decide +kernel
theorem d_Pol_costOfRound_76 : decode i_Pol_costOfRound.2.1 76 = .ok (.aload_n 0, 1) := by decide +kernel
theorem d_Pol_costOfRound_77 : decode i_Pol_costOfRound.2.1 77 = .ok (.getfield 29, 3) := by decide +kernel
theorem d_Pol_costOfRound_80 : decode i_Pol_costOfRound.2.1 80 = .ok (.iload 5, 2) := by decide +kernel
theorem d_Pol_costOfRound_82 : decode i_Pol_costOfRound.2.1 82 = .ok (.iload 8, 2) := by decide +kernel
theorem d_Pol_costOfRound_84 : decode i_Pol_costOfRound.2.1 84 = .ok (.invokevirtual 110, 3) := by decide +kernel
theorem d_Pol_costOfRound_87 : decode i_Pol_costOfRound.2.1 87 = .ok (.istore 9, 2) := by decide +kernel
theorem d_Pol_costOfRound_89 : decode i_Pol_costOfRound.2.1 89 = .ok (.iload 9, 2) := by decide +kernel
theorem d_Pol_costOfRound_91 : decode i_Pol_costOfRound.2.1 91 = .ok (.iconst (-1), 1) := by decide +kernel
theorem d_Pol_costOfRound_92 : decode i_Pol_costOfRound.2.1 92 = .ok (.if_icmp .eq 26, 3) := by decide +kernel
theorem d_Pol_costOfRound_95 : decode i_Pol_costOfRound.2.1 95 = .ok (.iload 7, 2) := by decide +kernel
theorem d_Pol_costOfRound_97 : decode i_Pol_costOfRound.2.1 97 = .ok (.ldc 43, 2) := by decide +kernel
theorem d_Pol_costOfRound_99 : decode i_Pol_costOfRound.2.1 99 = .ok (.iload 9, 2) := by decide +kernel
theorem d_Pol_costOfRound_101 : decode i_Pol_costOfRound.2.1 101 = .ok (.iadd, 1) := by decide +kernel
theorem d_Pol_costOfRound_102 : decode i_Pol_costOfRound.2.1 102 = .ok (.aload_n 0, 1) := by decide +kernel
theorem d_Pol_costOfRound_103 : decode i_Pol_costOfRound.2.1 103 = .ok (.getfield 22, 3) := by decide +kernel
theorem d_Pol_costOfRound_106 : decode i_Pol_costOfRound.2.1 106 = .ok (.iload 4, 2) := by decide +kernel
theorem d_Pol_costOfRound_108 : decode i_Pol_costOfRound.2.1 108 = .ok (.iload 8, 2) := by decide +kernel
theorem d_Pol_costOfRound_110 : decode i_Pol_costOfRound.2.1 110 = .ok (.iadd, 1) := by decide +kernel
theorem d_Pol_costOfRound_111 : decode i_Pol_costOfRound.2.1 111 = .ok (.iaload, 1) := by decide +kernel
theorem d_Pol_costOfRound_112 : decode i_Pol_costOfRound.2.1 112 = .ok (.iadd, 1) := by decide +kernel
theorem d_Pol_costOfRound_113 : decode i_Pol_costOfRound.2.1 113 = .ok (.invokestatic 101, 3) := by decide +kernel
theorem d_Pol_costOfRound_116 : decode i_Pol_costOfRound.2.1 116 = .ok (.istore 7, 2) := by decide +kernel
theorem d_Pol_costOfRound_118 : decode i_Pol_costOfRound.2.1 118 = .ok (.iinc 8 1, 3) := by decide +kernel
theorem d_Pol_costOfRound_121 : decode i_Pol_costOfRound.2.1 121 = .ok (.goto (-52), 3) := by decide +kernel
theorem d_Pol_costOfRound_124 : decode i_Pol_costOfRound.2.1 124 = .ok (.aload_n 0, 1) := by decide +kernel
theorem d_Pol_costOfRound_125 : decode i_Pol_costOfRound.2.1 125 = .ok (.getfield 22, 3) := by decide +kernel
theorem d_Pol_costOfRound_128 : decode i_Pol_costOfRound.2.1 128 = .ok (.iload 4, 2) := by decide +kernel
theorem d_Pol_costOfRound_130 : decode i_Pol_costOfRound.2.1 130 = .ok (.iload 7, 2) := by decide +kernel
theorem d_Pol_costOfRound_132 : decode i_Pol_costOfRound.2.1 132 = .ok (.iastore, 1) := by decide +kernel
theorem d_Pol_costOfRound_133 : decode i_Pol_costOfRound.2.1 133 = .ok (.iinc 4 (-1), 3) := by decide +kernel
theorem d_Pol_costOfRound_136 : decode i_Pol_costOfRound.2.1 136 = .ok (.goto (-107), 3) := by decide +kernel
theorem d_Pol_costOfRound_139 : decode i_Pol_costOfRound.2.1 139 = .ok (.aload_n 0, 1) := by decide +kernel
theorem d_Pol_costOfRound_140 : decode i_Pol_costOfRound.2.1 140 = .ok (.getfield 22, 3) := by decide +kernel
theorem d_Pol_costOfRound_143 : decode i_Pol_costOfRound.2.1 143 = .ok (.iconst 0, 1) := by decide +kernel
theorem d_Pol_costOfRound_144 : decode i_Pol_costOfRound.2.1 144 = .ok (.iaload, 1) := by decide +kernel
theorem d_Pol_costOfRound_145 : decode i_Pol_costOfRound.2.1 145 = .ok (.ireturn, 1) := by decide +kernel
theorem d_Pol_writeVertices_0 : decode i_Pol_writeVertices.2.1 0 = .ok (.aload_n 1, 1) := by decide +kernel
theorem d_Pol_writeVertices_1 : decode i_Pol_writeVertices.2.1 1 = .ok (.getfield 91, 3) := by decide +kernel
theorem d_Pol_writeVertices_4 : decode i_Pol_writeVertices.2.1 4 = .ok (.sipush 144, 3) := by decide +kernel
theorem d_Pol_writeVertices_7 : decode i_Pol_writeVertices.2.1 7 = .ok (.invokestatic 101, 3) := by decide +kernel
theorem d_Pol_writeVertices_10 : decode i_Pol_writeVertices.2.1 10 = .ok (.istore_n 3, 1) := by decide +kernel
theorem d_Pol_writeVertices_11 : decode i_Pol_writeVertices.2.1 11 = .ok (.iconst 0, 1) := by decide +kernel
theorem d_Pol_writeVertices_12 : decode i_Pol_writeVertices.2.1 12 = .ok (.istore 4, 2) := by decide +kernel
theorem d_Pol_writeVertices_14 : decode i_Pol_writeVertices.2.1 14 = .ok (.iconst 0, 1) := by decide +kernel
theorem d_Pol_writeVertices_15 : decode i_Pol_writeVertices.2.1 15 = .ok (.istore 5, 2) := by decide +kernel
theorem d_Pol_writeVertices_17 : decode i_Pol_writeVertices.2.1 17 = .ok (.iload 5, 2) := by decide +kernel
theorem d_Pol_writeVertices_19 : decode i_Pol_writeVertices.2.1 19 = .ok (.iload_n 3, 1) := by decide +kernel
theorem d_Pol_writeVertices_20 : decode i_Pol_writeVertices.2.1 20 = .ok (.if_icmp .ge 71, 3) := by decide +kernel
theorem d_Pol_writeVertices_23 : decode i_Pol_writeVertices.2.1 23 = .ok (.iload 4, 2) := by decide +kernel
theorem d_Pol_writeVertices_25 : decode i_Pol_writeVertices.2.1 25 = .ok (.iload_n 3, 1) := by decide +kernel
theorem d_Pol_writeVertices_26 : decode i_Pol_writeVertices.2.1 26 = .ok (.if_icmp .ge 65, 3) := by decide +kernel
theorem d_Pol_writeVertices_29 : decode i_Pol_writeVertices.2.1 29 = .ok (.aload_n 1, 1) := by decide +kernel
theorem d_Pol_writeVertices_30 : decode i_Pol_writeVertices.2.1 30 = .ok (.getfield 50, 3) := by decide +kernel
theorem d_Pol_writeVertices_33 : decode i_Pol_writeVertices.2.1 33 = .ok (.iload 5, 2) := by decide +kernel
theorem d_Pol_writeVertices_35 : decode i_Pol_writeVertices.2.1 35 = .ok (.iadd, 1) := by decide +kernel
theorem d_Pol_writeVertices_36 : decode i_Pol_writeVertices.2.1 36 = .ok (.istore 6, 2) := by decide +kernel
theorem d_Pol_writeVertices_38 : decode i_Pol_writeVertices.2.1 38 = .ok (.iload 6, 2) := by decide +kernel
theorem d_Pol_writeVertices_40 : decode i_Pol_writeVertices.2.1 40 = .ok (.ifCond .lt 11, 3) := by decide +kernel
theorem d_Pol_writeVertices_43 : decode i_Pol_writeVertices.2.1 43 = .ok (.iload 6, 2) := by decide +kernel
theorem d_Pol_writeVertices_45 : decode i_Pol_writeVertices.2.1 45 = .ok (.sipush 144, 3) := by decide +kernel
theorem d_Pol_writeVertices_48 : decode i_Pol_writeVertices.2.1 48 = .ok (.if_icmp .lt 4, 3) := by decide +kernel
theorem d_Pol_writeVertices_51 : decode i_Pol_writeVertices.2.1 51 = .ok (.return_, 1) := by decide +kernel
theorem d_Pol_writeVertices_52 : decode i_Pol_writeVertices.2.1 52 = .ok (.aload_n 0, 1) := by decide +kernel
theorem d_Pol_writeVertices_53 : decode i_Pol_writeVertices.2.1 53 = .ok (.getfield 18, 3) := by decide +kernel
theorem d_Pol_writeVertices_56 : decode i_Pol_writeVertices.2.1 56 = .ok (.iload 6, 2) := by decide +kernel
theorem d_Pol_writeVertices_58 : decode i_Pol_writeVertices.2.1 58 = .ok (.iload_n 2, 1) := by decide +kernel
theorem d_Pol_writeVertices_59 : decode i_Pol_writeVertices.2.1 59 = .ok (.iload 4, 2) := by decide +kernel
theorem d_Pol_writeVertices_61 : decode i_Pol_writeVertices.2.1 61 = .ok (.iadd, 1) := by decide +kernel
theorem d_Pol_writeVertices_62 : decode i_Pol_writeVertices.2.1 62 = .ok (.iastore, 1) := by decide +kernel
theorem d_Pol_writeVertices_63 : decode i_Pol_writeVertices.2.1 63 = .ok (.aload_n 1, 1) := by decide +kernel
theorem d_Pol_writeVertices_64 : decode i_Pol_writeVertices.2.1 64 = .ok (.iload 5, 2) := by decide +kernel
theorem d_Pol_writeVertices_66 : decode i_Pol_writeVertices.2.1 66 = .ok (.iconst 1, 1) := by decide +kernel
theorem d_Pol_writeVertices_67 : decode i_Pol_writeVertices.2.1 67 = .ok (.iadd, 1) := by decide +kernel
theorem d_Pol_writeVertices_68 : decode i_Pol_writeVertices.2.1 68 = .ok (.putfield 44, 3) := by decide +kernel
theorem d_Pol_writeVertices_71 : decode i_Pol_writeVertices.2.1 71 = .ok (.iload 4, 2) := by decide +kernel
theorem d_Pol_writeVertices_73 : decode i_Pol_writeVertices.2.1 73 = .ok (.aload_n 0, 1) := by decide +kernel
theorem d_Pol_writeVertices_74 : decode i_Pol_writeVertices.2.1 74 = .ok (.aload_n 1, 1) := by decide +kernel
theorem d_Pol_writeVertices_75 : decode i_Pol_writeVertices.2.1 75 = .ok (.iload_n 2, 1) := by decide +kernel
theorem d_Pol_writeVertices_76 : decode i_Pol_writeVertices.2.1 76 = .ok (.iload 4, 2) := by decide +kernel
theorem d_Pol_writeVertices_78 : decode i_Pol_writeVertices.2.1 78 = .ok (.iload_n 3, 1) := by decide +kernel
theorem d_Pol_writeVertices_79 : decode i_Pol_writeVertices.2.1 79 = .ok (.invokevirtual 113, 3) := by decide +kernel
theorem d_Pol_writeVertices_82 : decode i_Pol_writeVertices.2.1 82 = .ok (.iadd, 1) := by decide +kernel
theorem d_Pol_writeVertices_83 : decode i_Pol_writeVertices.2.1 83 = .ok (.istore 4, 2) := by decide +kernel
theorem d_Pol_writeVertices_85 : decode i_Pol_writeVertices.2.1 85 = .ok (.iinc 5 1, 3) := by decide +kernel
theorem d_Pol_writeVertices_88 : decode i_Pol_writeVertices.2.1 88 = .ok (.goto (-71), 3) := by decide +kernel
theorem d_Pol_writeVertices_91 : decode i_Pol_writeVertices.2.1 91 = .ok (.return_, 1) := by decide +kernel
theorem d_Pol_nearestStep_0 : decode i_Pol_nearestStep.2.1 0 = .ok (.aload_n 1, 1) := by decide +kernel
theorem d_Pol_nearestStep_1 : decode i_Pol_nearestStep.2.1 1 = .ok (.iload_n 2, 1) := by decide +kernel
theorem d_Pol_nearestStep_2 : decode i_Pol_nearestStep.2.1 2 = .ok (.iload_n 3, 1) := by decide +kernel
theorem d_Pol_nearestStep_3 : decode i_Pol_nearestStep.2.1 3 = .ok (.iadd, 1) := by decide +kernel
theorem d_Pol_nearestStep_4 : decode i_Pol_nearestStep.2.1 4 = .ok (.invokevirtual 104, 3) := by decide +kernel
theorem d_Pol_nearestStep_7 : decode i_Pol_nearestStep.2.1 7 = .ok (.istore 5, 2) := by decide +kernel
theorem d_Pol_nearestStep_9 : decode i_Pol_nearestStep.2.1 9 = .ok (.aload_n 0, 1) := by decide +kernel
theorem d_Pol_nearestStep_10 : decode i_Pol_nearestStep.2.1 10 = .ok (.getfield 29, 3) := by decide +kernel
theorem d_Pol_nearestStep_13 : decode i_Pol_nearestStep.2.1 13 = .ok (.iload 5, 2) := by decide +kernel
theorem d_Pol_nearestStep_15 : decode i_Pol_nearestStep.2.1 15 = .ok (.invokevirtual 107, 3) := by decide +kernel
theorem d_Pol_nearestStep_18 : decode i_Pol_nearestStep.2.1 18 = .ok (.iload 4, 2) := by decide +kernel
theorem d_Pol_nearestStep_20 : decode i_Pol_nearestStep.2.1 20 = .ok (.iload_n 3, 1) := by decide +kernel
theorem d_Pol_nearestStep_21 : decode i_Pol_nearestStep.2.1 21 = .ok (.isub, 1) := by decide +kernel
theorem d_Pol_nearestStep_22 : decode i_Pol_nearestStep.2.1 22 = .ok (.invokestatic 101, 3) := by decide +kernel
theorem d_Pol_nearestStep_25 : decode i_Pol_nearestStep.2.1 25 = .ok (.istore 6, 2) := by decide +kernel
theorem d_Pol_nearestStep_27 : decode i_Pol_nearestStep.2.1 27 = .ok (.iconst 1, 1) := by decide +kernel
theorem d_Pol_nearestStep_28 : decode i_Pol_nearestStep.2.1 28 = .ok (.istore 7, 2) := by decide +kernel
theorem d_Pol_nearestStep_30 : decode i_Pol_nearestStep.2.1 30 = .ok (.iload 7, 2) := by decide +kernel
theorem d_Pol_nearestStep_32 : decode i_Pol_nearestStep.2.1 32 = .ok (.iload 6, 2) := by decide +kernel
theorem d_Pol_nearestStep_34 : decode i_Pol_nearestStep.2.1 34 = .ok (.if_icmp .ge 55, 3) := by decide +kernel
theorem d_Pol_nearestStep_37 : decode i_Pol_nearestStep.2.1 37 = .ok (.aload_n 0, 1) := by decide +kernel
theorem d_Pol_nearestStep_38 : decode i_Pol_nearestStep.2.1 38 = .ok (.getfield 29, 3) := by decide +kernel
theorem d_Pol_nearestStep_41 : decode i_Pol_nearestStep.2.1 41 = .ok (.iload 5, 2) := by decide +kernel
theorem d_Pol_nearestStep_43 : decode i_Pol_nearestStep.2.1 43 = .ok (.iload 7, 2) := by decide +kernel
theorem d_Pol_nearestStep_45 : decode i_Pol_nearestStep.2.1 45 = .ok (.invokevirtual 110, 3) := by decide +kernel
theorem d_Pol_nearestStep_48 : decode i_Pol_nearestStep.2.1 48 = .ok (.istore 8, 2) := by decide +kernel
theorem d_Pol_nearestStep_50 : decode i_Pol_nearestStep.2.1 50 = .ok (.iload 8, 2) := by decide +kernel
theorem d_Pol_nearestStep_52 : decode i_Pol_nearestStep.2.1 52 = .ok (.iconst (-1), 1) := by decide +kernel
theorem d_Pol_nearestStep_53 : decode i_Pol_nearestStep.2.1 53 = .ok (.if_icmp .eq 30, 3) := by decide +kernel
theorem d_Pol_nearestStep_56 : decode i_Pol_nearestStep.2.1 56 = .ok (.ldc 43, 2) := by decide +kernel
theorem d_Pol_nearestStep_58 : decode i_Pol_nearestStep.2.1 58 = .ok (.iload 8, 2) := by decide +kernel
theorem d_Pol_nearestStep_60 : decode i_Pol_nearestStep.2.1 60 = .ok (.iadd, 1) := by decide +kernel
theorem d_Pol_nearestStep_61 : decode i_Pol_nearestStep.2.1 61 = .ok (.aload_n 0, 1) := by decide +kernel
theorem d_Pol_nearestStep_62 : decode i_Pol_nearestStep.2.1 62 = .ok (.getfield 22, 3) := by decide +kernel
theorem d_Pol_nearestStep_65 : decode i_Pol_nearestStep.2.1 65 = .ok (.iload_n 3, 1) := by decide +kernel
theorem d_Pol_nearestStep_66 : decode i_Pol_nearestStep.2.1 66 = .ok (.iload 7, 2) := by decide +kernel
theorem d_Pol_nearestStep_68 : decode i_Pol_nearestStep.2.1 68 = .ok (.iadd, 1) := by decide +kernel
theorem d_Pol_nearestStep_69 : decode i_Pol_nearestStep.2.1 69 = .ok (.iaload, 1) := by decide +kernel
theorem d_Pol_nearestStep_70 : decode i_Pol_nearestStep.2.1 70 = .ok (.iadd, 1) := by decide +kernel
theorem d_Pol_nearestStep_71 : decode i_Pol_nearestStep.2.1 71 = .ok (.aload_n 0, 1) := by decide +kernel
theorem d_Pol_nearestStep_72 : decode i_Pol_nearestStep.2.1 72 = .ok (.getfield 22, 3) := by decide +kernel
theorem d_Pol_nearestStep_75 : decode i_Pol_nearestStep.2.1 75 = .ok (.iload_n 3, 1) := by decide +kernel
theorem d_Pol_nearestStep_76 : decode i_Pol_nearestStep.2.1 76 = .ok (.iaload, 1) := by decide +kernel
theorem d_Pol_nearestStep_77 : decode i_Pol_nearestStep.2.1 77 = .ok (.if_icmp .ne 6, 3) := by decide +kernel
theorem d_Pol_nearestStep_80 : decode i_Pol_nearestStep.2.1 80 = .ok (.iload 7, 2) := by decide +kernel
theorem d_Pol_nearestStep_82 : decode i_Pol_nearestStep.2.1 82 = .ok (.ireturn, 1) := by decide +kernel
theorem d_Pol_nearestStep_83 : decode i_Pol_nearestStep.2.1 83 = .ok (.iinc 7 1, 3) := by decide +kernel
theorem d_Pol_nearestStep_86 : decode i_Pol_nearestStep.2.1 86 = .ok (.goto (-56), 3) := by decide +kernel
theorem d_Pol_nearestStep_89 : decode i_Pol_nearestStep.2.1 89 = .ok (.iload 6, 2) := by decide +kernel
theorem d_Pol_nearestStep_91 : decode i_Pol_nearestStep.2.1 91 = .ok (.iconst 1, 1) := by decide +kernel
theorem d_Pol_nearestStep_92 : decode i_Pol_nearestStep.2.1 92 = .ok (.invokestatic 53, 3) := by decide +kernel
theorem d_Pol_nearestStep_95 : decode i_Pol_nearestStep.2.1 95 = .ok (.ireturn, 1) := by decide +kernel
theorem d_Rdg_init_0 : decode i_Rdg_init.2.1 0 = .ok (.aload_n 0, 1) := by decide +kernel
theorem d_Rdg_init_1 : decode i_Rdg_init.2.1 1 = .ok (.invokespecial 1, 3) := by decide +kernel
theorem d_Rdg_init_4 : decode i_Rdg_init.2.1 4 = .ok (.return_, 1) := by decide +kernel
theorem d_Rdg_read_0 : decode i_Rdg_read.2.1 0 = .ok (.aload_n 0, 1) := by decide +kernel
theorem d_Rdg_read_1 : decode i_Rdg_read.2.1 1 = .ok (.iconst 0, 1) := by decide +kernel
theorem d_Rdg_read_2 : decode i_Rdg_read.2.1 2 = .ok (.putfield 7, 3) := by decide +kernel
theorem d_Rdg_read_5 : decode i_Rdg_read.2.1 5 = .ok (.aload_n 0, 1) := by decide +kernel
theorem d_Rdg_read_6 : decode i_Rdg_read.2.1 6 = .ok (.iconst 0, 1) := by decide +kernel
theorem d_Rdg_read_7 : decode i_Rdg_read.2.1 7 = .ok (.putfield 13, 3) := by decide +kernel
theorem d_Rdg_read_10 : decode i_Rdg_read.2.1 10 = .ok (.aload_n 0, 1) := by decide +kernel
theorem d_Rdg_read_11 : decode i_Rdg_read.2.1 11 = .ok (.lconst 0, 1) := by decide +kernel
theorem d_Rdg_read_12 : decode i_Rdg_read.2.1 12 = .ok (.putfield 16, 3) := by decide +kernel
theorem d_Rdg_read_15 : decode i_Rdg_read.2.1 15 = .ok (.aload_n 1, 1) := by decide +kernel
theorem d_Rdg_read_16 : decode i_Rdg_read.2.1 16 = .ok (.getfield 20, 3) := by decide +kernel
theorem d_Rdg_read_19 : decode i_Rdg_read.2.1 19 = .ok (.istore_n 2, 1) := by decide +kernel
theorem d_Rdg_read_20 : decode i_Rdg_read.2.1 20 = .ok (.iconst 0, 1) := by decide +kernel
theorem d_Rdg_read_21 : decode i_Rdg_read.2.1 21 = .ok (.istore_n 3, 1) := by decide +kernel
theorem d_Rdg_read_22 : decode i_Rdg_read.2.1 22 = .ok (.iload_n 3, 1) := by decide +kernel
theorem d_Rdg_read_23 : decode i_Rdg_read.2.1 23 = .ok (.iload_n 2, 1) := by decide +kernel
theorem d_Rdg_read_24 : decode i_Rdg_read.2.1 24 = .ok (.if_icmp .ge 55, 3) := by decide +kernel
theorem d_Rdg_read_27 : decode i_Rdg_read.2.1 27 = .ok (.aload_n 1, 1) := by decide +kernel
theorem d_Rdg_read_28 : decode i_Rdg_read.2.1 28 = .ok (.iload_n 3, 1) := by decide +kernel
theorem d_Rdg_read_29 : decode i_Rdg_read.2.1 29 = .ok (.invokevirtual 25, 3) := by decide +kernel
theorem d_Rdg_read_32 : decode i_Rdg_read.2.1 32 = .ok (.istore 4, 2) := by decide +kernel
theorem d_Rdg_read_34 : decode i_Rdg_read.2.1 34 = .ok (.iload_n 3, 1) := by decide +kernel
theorem d_Rdg_read_35 : decode i_Rdg_read.2.1 35 = .ok (.iconst 4, 1) := by decide +kernel
theorem d_Rdg_read_36 : decode i_Rdg_read.2.1 36 = .ok (.if_icmp .ge 13, 3) := by decide +kernel
theorem d_Rdg_read_39 : decode i_Rdg_read.2.1 39 = .ok (.aload_n 0, 1) := by decide +kernel
theorem d_Rdg_read_40 : decode i_Rdg_read.2.1 40 = .ok (.iload_n 3, 1) := by decide +kernel
theorem d_Rdg_read_41 : decode i_Rdg_read.2.1 41 = .ok (.iload 4, 2) := by decide +kernel
theorem d_Rdg_read_43 : decode i_Rdg_read.2.1 43 = .ok (.invokevirtual 29, 3) := by decide +kernel
theorem d_Rdg_read_46 : decode i_Rdg_read.2.1 46 = .ok (.goto 12, 3) := by decide +kernel
theorem d_Rdg_read_49 : decode i_Rdg_read.2.1 49 = .ok (.aload_n 0, 1) := by decide +kernel
theorem d_Rdg_read_50 : decode i_Rdg_read.2.1 50 = .ok (.iload_n 3, 1) := by decide +kernel
theorem d_Rdg_read_51 : decode i_Rdg_read.2.1 51 = .ok (.iconst 4, 1) := by decide +kernel
theorem d_Rdg_read_52 : decode i_Rdg_read.2.1 52 = .ok (.isub, 1) := by decide +kernel
theorem d_Rdg_read_53 : decode i_Rdg_read.2.1 53 = .ok (.iload 4, 2) := by decide +kernel
theorem d_Rdg_read_55 : decode i_Rdg_read.2.1 55 = .ok (.invokevirtual 33, 3) := by decide +kernel
theorem d_Rdg_read_58 : decode i_Rdg_read.2.1 58 = .ok (.istore 5, 2) := by decide +kernel
theorem d_Rdg_read_60 : decode i_Rdg_read.2.1 60 = .ok (.iload 5, 2) := by decide +kernel
theorem d_Rdg_read_62 : decode i_Rdg_read.2.1 62 = .ok (.ifCond .eq 11, 3) := by decide +kernel
theorem d_Rdg_read_65 : decode i_Rdg_read.2.1 65 = .ok (.aload_n 0, 1) := by decide +kernel
theorem d_Rdg_read_66 : decode i_Rdg_read.2.1 66 = .ok (.iload_n 3, 1) := by decide +kernel
theorem d_Rdg_read_67 : decode i_Rdg_read.2.1 67 = .ok (.putfield 36, 3) := by decide +kernel
theorem d_Rdg_read_70 : decode i_Rdg_read.2.1 70 = .ok (.iload 5, 2) := by decide +kernel
theorem d_Rdg_read_72 : decode i_Rdg_read.2.1 72 = .ok (.ireturn, 1) := by decide +kernel
theorem d_Rdg_read_73 : decode i_Rdg_read.2.1 73 = .ok (.iinc 3 1, 3) := by decide +kernel
theorem d_Rdg_read_76 : decode i_Rdg_read.2.1 76 = .ok (.goto (-54), 3) := by decide +kernel
theorem d_Rdg_read_79 : decode i_Rdg_read.2.1 79 = .ok (.aload_n 0, 1) := by decide +kernel
theorem d_Rdg_read_80 : decode i_Rdg_read.2.1 80 = .ok (.iload_n 2, 1) := by decide +kernel
theorem d_Rdg_read_81 : decode i_Rdg_read.2.1 81 = .ok (.putfield 36, 3) := by decide +kernel
theorem d_Rdg_read_84 : decode i_Rdg_read.2.1 84 = .ok (.iload_n 2, 1) := by decide +kernel
theorem d_Rdg_read_85 : decode i_Rdg_read.2.1 85 = .ok (.iconst 4, 1) := by decide +kernel
theorem d_Rdg_read_86 : decode i_Rdg_read.2.1 86 = .ok (.if_icmp .lt 24, 3) := by decide +kernel
theorem d_Rdg_read_89 : decode i_Rdg_read.2.1 89 = .ok (.iload_n 2, 1) := by decide +kernel
theorem d_Rdg_read_90 : decode i_Rdg_read.2.1 90 = .ok (.iconst 4, 1) := by decide +kernel
theorem d_Rdg_read_91 : decode i_Rdg_read.2.1 91 = .ok (.aload_n 0, 1) := by decide +kernel
theorem d_Rdg_read_92 : decode i_Rdg_read.2.1 92 = .ok (.getfield 13, 3) := by decide +kernel
theorem d_Rdg_read_95 : decode i_Rdg_read.2.1 95 = .ok (.aload_n 0, 1) := by decide +kernel
theorem d_Rdg_read_96 : decode i_Rdg_read.2.1 96 = .ok (.getfield 7, 3) := by decide +kernel
theorem d_Rdg_read_99 : decode i_Rdg_read.2.1 99 = .ok (.iconst 1, 1) := by decide +kernel
theorem d_Rdg_read_100 : decode i_Rdg_read.2.1 100 = .ok (.iadd, 1) := by decide +kernel
theorem d_Rdg_read_101 : decode i_Rdg_read.2.1 101 = .ok (.imul, 1) := by decide +kernel
theorem d_Rdg_read_102 : decode i_Rdg_read.2.1 102 = .ok (.iadd, 1) := by decide +kernel
theorem d_Rdg_read_103 : decode i_Rdg_read.2.1 103 = .ok (.if_icmp .ne 7, 3) := by decide +kernel
theorem d_Rdg_read_106 : decode i_Rdg_read.2.1 106 = .ok (.iconst 0, 1) := by decide +kernel
theorem d_Rdg_read_107 : decode i_Rdg_read.2.1 107 = .ok (.goto 4, 3) := by decide +kernel
theorem d_Rdg_read_110 : decode i_Rdg_read.2.1 110 = .ok (.iconst 1, 1) := by decide +kernel
theorem d_Rdg_read_111 : decode i_Rdg_read.2.1 111 = .ok (.ireturn, 1) := by decide +kernel
theorem d_Rdg_faultInHead_0 : decode i_Rdg_faultInHead.2.1 0 = .ok (.iload_n 1, 1) := by decide +kernel
theorem d_Rdg_faultInHead_1 : decode i_Rdg_faultInHead.2.1 1 = .ok (.ifCond .ne 15, 3) := by decide +kernel
theorem d_Rdg_faultInHead_4 : decode i_Rdg_faultInHead.2.1 4 = .ok (.iload_n 2, 1) := by decide +kernel
theorem d_Rdg_faultInHead_5 : decode i_Rdg_faultInHead.2.1 5 = .ok (.bipush 100, 2) := by decide +kernel
theorem d_Rdg_faultInHead_7 : decode i_Rdg_faultInHead.2.1 7 = .ok (.if_icmp .ne 7, 3) := by decide +kernel
theorem d_Rdg_faultInHead_10 : decode i_Rdg_faultInHead.2.1 10 = .ok (.iconst 0, 1) := by decide +kernel
theorem d_Rdg_faultInHead_11 : decode i_Rdg_faultInHead.2.1 11 = .ok (.goto 4, 3) := by decide +kernel
theorem d_Rdg_faultInHead_14 : decode i_Rdg_faultInHead.2.1 14 = .ok (.iconst 1, 1) := by decide +kernel
theorem d_Rdg_faultInHead_15 : decode i_Rdg_faultInHead.2.1 15 = .ok (.ireturn, 1) := by decide +kernel
theorem d_Rdg_faultInHead_16 : decode i_Rdg_faultInHead.2.1 16 = .ok (.iload_n 1, 1) := by decide +kernel
theorem d_Rdg_faultInHead_17 : decode i_Rdg_faultInHead.2.1 17 = .ok (.iconst 3, 1) := by decide +kernel
theorem d_Rdg_faultInHead_18 : decode i_Rdg_faultInHead.2.1 18 = .ok (.if_icmp .ne 15, 3) := by decide +kernel
theorem d_Rdg_faultInHead_21 : decode i_Rdg_faultInHead.2.1 21 = .ok (.iload_n 2, 1) := by decide +kernel
theorem d_Rdg_faultInHead_22 : decode i_Rdg_faultInHead.2.1 22 = .ok (.bipush 59, 2) := by decide +kernel
theorem d_Rdg_faultInHead_24 : decode i_Rdg_faultInHead.2.1 24 = .ok (.if_icmp .ne 7, 3) := by decide +kernel
theorem d_Rdg_faultInHead_27 : decode i_Rdg_faultInHead.2.1 27 = .ok (.iconst 0, 1) := by decide +kernel
theorem d_Rdg_faultInHead_28 : decode i_Rdg_faultInHead.2.1 28 = .ok (.goto 4, 3) := by decide +kernel
theorem d_Rdg_faultInHead_31 : decode i_Rdg_faultInHead.2.1 31 = .ok (.iconst 1, 1) := by decide +kernel
theorem d_Rdg_faultInHead_32 : decode i_Rdg_faultInHead.2.1 32 = .ok (.ireturn, 1) := by decide +kernel
theorem d_Rdg_faultInHead_33 : decode i_Rdg_faultInHead.2.1 33 = .ok (.iload_n 2, 1) := by decide +kernel
theorem d_Rdg_faultInHead_34 : decode i_Rdg_faultInHead.2.1 34 = .ok (.bipush 48, 2) := by decide +kernel
theorem d_Rdg_faultInHead_36 : decode i_Rdg_faultInHead.2.1 36 = .ok (.if_icmp .lt 9, 3) := by decide +kernel
theorem d_Rdg_faultInHead_39 : decode i_Rdg_faultInHead.2.1 39 = .ok (.iload_n 2, 1) := by decide +kernel
theorem d_Rdg_faultInHead_40 : decode i_Rdg_faultInHead.2.1 40 = .ok (.bipush 57, 2) := by decide +kernel
theorem d_Rdg_faultInHead_42 : decode i_Rdg_faultInHead.2.1 42 = .ok (.if_icmp .le 5, 3) := by decide +kernel
theorem d_Rdg_faultInHead_45 : decode i_Rdg_faultInHead.2.1 45 = .ok (.iconst 1, 1) := by decide +kernel
theorem d_Rdg_faultInHead_46 : decode i_Rdg_faultInHead.2.1 46 = .ok (.ireturn, 1) := by decide +kernel
theorem d_Rdg_faultInHead_47 : decode i_Rdg_faultInHead.2.1 47 = .ok (.iload_n 2, 1) := by decide +kernel
theorem d_Rdg_faultInHead_48 : decode i_Rdg_faultInHead.2.1 48 = .ok (.bipush 48, 2) := by decide +kernel
theorem d_Rdg_faultInHead_50 : decode i_Rdg_faultInHead.2.1 50 = .ok (.isub, 1) := by decide +kernel
theorem d_Rdg_faultInHead_51 : decode i_Rdg_faultInHead.2.1 51 = .ok (.istore_n 3, 1) := by decide +kernel
theorem d_Rdg_faultInHead_52 : decode i_Rdg_faultInHead.2.1 52 = .ok (.iload_n 3, 1) := by decide +kernel
theorem d_Rdg_faultInHead_53 : decode i_Rdg_faultInHead.2.1 53 = .ok (.iconst 1, 1) := by decide +kernel
theorem d_Rdg_faultInHead_54 : decode i_Rdg_faultInHead.2.1 54 = .ok (.if_icmp .lt 9, 3) := by decide +kernel
theorem d_Rdg_faultInHead_57 : decode i_Rdg_faultInHead.2.1 57 = .ok (.iload_n 3, 1) := by decide +kernel
theorem d_Rdg_faultInHead_58 : decode i_Rdg_faultInHead.2.1 58 = .ok (.bipush 8, 2) := by decide +kernel
theorem d_Rdg_faultInHead_60 : decode i_Rdg_faultInHead.2.1 60 = .ok (.if_icmp .le 5, 3) := by decide +kernel
theorem d_Rdg_faultInHead_63 : decode i_Rdg_faultInHead.2.1 63 = .ok (.iconst 2, 1) := by decide +kernel
theorem d_Rdg_faultInHead_64 : decode i_Rdg_faultInHead.2.1 64 = .ok (.ireturn, 1) := by decide +kernel
theorem d_Rdg_faultInHead_65 : decode i_Rdg_faultInHead.2.1 65 = .ok (.iload_n 1, 1) := by decide +kernel
theorem d_Rdg_faultInHead_66 : decode i_Rdg_faultInHead.2.1 66 = .ok (.iconst 1, 1) := by decide +kernel
theorem d_Rdg_faultInHead_67 : decode i_Rdg_faultInHead.2.1 67 = .ok (.if_icmp .ne 11, 3) := by decide +kernel
theorem d_Rdg_faultInHead_70 : decode i_Rdg_faultInHead.2.1 70 = .ok (.aload_n 0, 1) := by decide +kernel
theorem d_Rdg_faultInHead_71 : decode i_Rdg_faultInHead.2.1 71 = .ok (.iload_n 3, 1) := by decide +kernel
theorem d_Rdg_faultInHead_72 : decode i_Rdg_faultInHead.2.1 72 = .ok (.putfield 7, 3) := by decide +kernel
theorem d_Rdg_faultInHead_75 : decode i_Rdg_faultInHead.2.1 75 = .ok (.goto 8, 3) := by decide +kernel
theorem d_Rdg_faultInHead_78 : decode i_Rdg_faultInHead.2.1 78 = .ok (.aload_n 0, 1) := by decide +kernel
theorem d_Rdg_faultInHead_79 : decode i_Rdg_faultInHead.2.1 79 = .ok (.iload_n 3, 1) := by decide +kernel
theorem d_Rdg_faultInHead_80 : decode i_Rdg_faultInHead.2.1 80 = .ok (.putfield 13, 3) := by decide +kernel
theorem d_Rdg_faultInHead_83 : decode i_Rdg_faultInHead.2.1 83 = .ok (.iconst 0, 1) := by decide +kernel
theorem d_Rdg_faultInHead_84 : decode i_Rdg_faultInHead.2.1 84 = .ok (.ireturn, 1) := by decide +kernel
theorem d_Rdg_faultInRows_0 : decode i_Rdg_faultInRows.2.1 0 = .ok (.aload_n 0, 1) := by decide +kernel
theorem d_Rdg_faultInRows_1 : decode i_Rdg_faultInRows.2.1 1 = .ok (.getfield 7, 3) := by decide +kernel
theorem d_Rdg_faultInRows_4 : decode i_Rdg_faultInRows.2.1 4 = .ok (.iconst 1, 1) := by decide +kernel
theorem d_Rdg_faultInRows_5 : decode i_Rdg_faultInRows.2.1 5 = .ok (.iadd, 1) := by decide +kernel
theorem d_Rdg_faultInRows_6 : decode i_Rdg_faultInRows.2.1 6 = .ok (.istore_n 3, 1) := by decide +kernel
theorem d_Rdg_faultInRows_7 : decode i_Rdg_faultInRows.2.1 7 = .ok (.iload_n 3, 1) := by decide +kernel
theorem d_Rdg_faultInRows_8 : decode i_Rdg_faultInRows.2.1 8 = .ok (.iconst 1, 1) := by decide +kernel
theorem d_Rdg_faultInRows_9 : decode i_Rdg_faultInRows.2.1 9 = .ok (.if_icmp .gt 5, 3) := by decide +kernel
theorem d_Rdg_faultInRows_12 : decode i_Rdg_faultInRows.2.1 12 = .ok (.iconst 1, 1) := by decide +kernel
theorem d_Rdg_faultInRows_13 : decode i_Rdg_faultInRows.2.1 13 = .ok (.ireturn, 1) := by decide +kernel
theorem d_Rdg_faultInRows_14 : decode i_Rdg_faultInRows.2.1 14 = .ok (.iload_n 1, 1) := by decide +kernel
theorem d_Rdg_faultInRows_15 : decode i_Rdg_faultInRows.2.1 15 = .ok (.iload_n 3, 1) := by decide +kernel
theorem d_Rdg_faultInRows_16 : decode i_Rdg_faultInRows.2.1 16 = .ok (.irem, 1) := by decide +kernel
theorem d_Rdg_faultInRows_17 : decode i_Rdg_faultInRows.2.1 17 = .ok (.istore 4, 2) := by decide +kernel
theorem d_Rdg_faultInRows_19 : decode i_Rdg_faultInRows.2.1 19 = .ok (.iload_n 1, 1) := by decide +kernel
theorem d_Rdg_faultInRows_20 : decode i_Rdg_faultInRows.2.1 20 = .ok (.iload_n 3, 1) := by decide +kernel
theorem d_Rdg_faultInRows_21 : decode i_Rdg_faultInRows.2.1 21 = .ok (.idiv, 1) := by decide +kernel
theorem d_Rdg_faultInRows_22 : decode i_Rdg_faultInRows.2.1 22 = .ok (.istore 5, 2) := by decide +kernel
theorem d_Rdg_faultInRows_24 : decode i_Rdg_faultInRows.2.1 24 = .ok (.iload 5, 2) := by decide +kernel
theorem d_Rdg_faultInRows_26 : decode i_Rdg_faultInRows.2.1 26 = .ok (.aload_n 0, 1) := by decide +kernel
theorem d_Rdg_faultInRows_27 : decode i_Rdg_faultInRows.2.1 27 = .ok (.getfield 13, 3) := by decide +kernel
theorem d_Rdg_faultInRows_30 : decode i_Rdg_faultInRows.2.1 30 = .ok (.if_icmp .lt 5, 3) := by decide +kernel
theorem d_Rdg_faultInRows_33 : decode i_Rdg_faultInRows.2.1 33 = .ok (.iconst 1, 1) := by decide +kernel
theorem d_Rdg_faultInRows_34 : decode i_Rdg_faultInRows.2.1 34 = .ok (.ireturn, 1) := by decide +kernel
theorem d_Rdg_faultInRows_35 : decode i_Rdg_faultInRows.2.1 35 = .ok (.iload 4, 2) := by decide +kernel
theorem d_Rdg_faultInRows_37 : decode i_Rdg_faultInRows.2.1 37 = .ok (.aload_n 0, 1) := by decide +kernel
theorem d_Rdg_faultInRows_38 : decode i_Rdg_faultInRows.2.1 38 = .ok (.getfield 7, 3) := by decide +kernel
theorem d_Rdg_faultInRows_41 : decode i_Rdg_faultInRows.2.1 41 = .ok (.if_icmp .ne 15, 3) := by decide +kernel
theorem d_Rdg_faultInRows_44 : decode i_Rdg_faultInRows.2.1 44 = .ok (.iload_n 2, 1) := by decide +kernel
theorem d_Rdg_faultInRows_45 : decode i_Rdg_faultInRows.2.1 45 = .ok (.bipush 59, 2) := by decide +kernel
theorem d_Rdg_faultInRows_47 : decode i_Rdg_faultInRows.2.1 47 = .ok (.if_icmp .ne 7, 3) := by decide +kernel
theorem d_Rdg_faultInRows_50 : decode i_Rdg_faultInRows.2.1 50 = .ok (.iconst 0, 1) := by decide +kernel
theorem d_Rdg_faultInRows_51 : decode i_Rdg_faultInRows.2.1 51 = .ok (.goto 4, 3) := by decide +kernel
theorem d_Rdg_faultInRows_54 : decode i_Rdg_faultInRows.2.1 54 = .ok (.iconst 1, 1) := by decide +kernel
theorem d_Rdg_faultInRows_55 : decode i_Rdg_faultInRows.2.1 55 = .ok (.ireturn, 1) := by decide +kernel
theorem d_Rdg_faultInRows_56 : decode i_Rdg_faultInRows.2.1 56 = .ok (.iload_n 2, 1) := by decide +kernel
theorem d_Rdg_faultInRows_57 : decode i_Rdg_faultInRows.2.1 57 = .ok (.bipush 97, 2) := by decide +kernel
theorem d_Rdg_faultInRows_59 : decode i_Rdg_faultInRows.2.1 59 = .ok (.if_icmp .lt 9, 3) := by decide +kernel
theorem d_Rdg_faultInRows_62 : decode i_Rdg_faultInRows.2.1 62 = .ok (.iload_n 2, 1) := by decide +kernel
theorem d_Rdg_faultInRows_63 : decode i_Rdg_faultInRows.2.1 63 = .ok (.bipush 122, 2) := by decide +kernel
theorem d_Rdg_faultInRows_65 : decode i_Rdg_faultInRows.2.1 65 = .ok (.if_icmp .le 5, 3) := by decide +kernel
theorem d_Rdg_faultInRows_68 : decode i_Rdg_faultInRows.2.1 68 = .ok (.iconst 1, 1) := by decide +kernel
theorem d_Rdg_faultInRows_69 : decode i_Rdg_faultInRows.2.1 69 = .ok (.ireturn, 1) := by decide +kernel
theorem d_Rdg_faultInRows_70 : decode i_Rdg_faultInRows.2.1 70 = .ok (.iload_n 2, 1) := by decide +kernel
theorem d_Rdg_faultInRows_71 : decode i_Rdg_faultInRows.2.1 71 = .ok (.bipush 120, 2) := by decide +kernel
theorem d_Rdg_faultInRows_73 : decode i_Rdg_faultInRows.2.1 73 = .ok (.if_icmp .eq 11, 3) := by decide +kernel
theorem d_Rdg_faultInRows_76 : decode i_Rdg_faultInRows.2.1 76 = .ok (.iload_n 2, 1) := by decide +kernel
theorem d_Rdg_faultInRows_77 : decode i_Rdg_faultInRows.2.1 77 = .ok (.bipush 111, 2) := by decide +kernel
theorem d_Rdg_faultInRows_79 : decode i_Rdg_faultInRows.2.1 79 = .ok (.if_icmp .eq 5, 3) := by decide +kernel
theorem d_Rdg_faultInRows_82 : decode i_Rdg_faultInRows.2.1 82 = .ok (.iconst 2, 1) := by decide +kernel
theorem d_Rdg_faultInRows_83 : decode i_Rdg_faultInRows.2.1 83 = .ok (.ireturn, 1) := by decide +kernel
theorem d_Rdg_faultInRows_84 : decode i_Rdg_faultInRows.2.1 84 = .ok (.iload_n 2, 1) := by decide +kernel
theorem d_Rdg_faultInRows_85 : decode i_Rdg_faultInRows.2.1 85 = .ok (.bipush 120, 2) := by decide +kernel
theorem d_Rdg_faultInRows_87 : decode i_Rdg_faultInRows.2.1 87 = .ok (.if_icmp .ne 19, 3) := by decide +kernel
theorem d_Rdg_faultInRows_90 : decode i_Rdg_faultInRows.2.1 90 = .ok (.aload_n 0, 1) := by decide +kernel
theorem d_Rdg_faultInRows_91 : decode i_Rdg_faultInRows.2.1 91 = .ok (.dup, 1) := by decide +kernel
theorem d_Rdg_faultInRows_92 : decode i_Rdg_faultInRows.2.1 92 = .ok (.getfield 16, 3) := by decide +kernel
theorem d_Rdg_faultInRows_95 : decode i_Rdg_faultInRows.2.1 95 = .ok (.iload 4, 2) := by decide +kernel
theorem d_Rdg_faultInRows_97 : decode i_Rdg_faultInRows.2.1 97 = .ok (.iload 5, 2) := by decide +kernel
theorem d_Rdg_faultInRows_99 : decode i_Rdg_faultInRows.2.1 99 = .ok (.invokestatic 41, 3) := by decide +kernel
theorem d_Rdg_faultInRows_102 : decode i_Rdg_faultInRows.2.1 102 = .ok (.lor, 1) := by decide +kernel
theorem d_Rdg_faultInRows_103 : decode i_Rdg_faultInRows.2.1 103 = .ok (.putfield 16, 3) := by decide +kernel
theorem d_Rdg_faultInRows_106 : decode i_Rdg_faultInRows.2.1 106 = .ok (.iconst 0, 1) := by decide +kernel
theorem d_Rdg_faultInRows_107 : decode i_Rdg_faultInRows.2.1 107 = .ok (.ireturn, 1) := by decide +kernel
theorem d_Str_init_0 : decode i_Str_init.2.1 0 = .ok (.aload_n 0, 1) := by decide +kernel
theorem d_Str_init_1 : decode i_Str_init.2.1 1 = .ok (.invokespecial 3, 3) := by decide +kernel
theorem d_Str_init_4 : decode i_Str_init.2.1 4 = .ok (.aload_n 0, 1) := by decide +kernel
theorem d_Str_init_5 : decode i_Str_init.2.1 5 = .ok (.sipush 1872, 3) := by decide +kernel
theorem d_Str_init_8 : decode i_Str_init.2.1 8 = .ok (.newarray .int, 2) := by decide +kernel
theorem d_Str_init_10 : decode i_Str_init.2.1 10 = .ok (.putfield 11, 3) := by decide +kernel
theorem d_Str_init_13 : decode i_Str_init.2.1 13 = .ok (.aload_n 0, 1) := by decide +kernel
theorem d_Str_init_14 : decode i_Str_init.2.1 14 = .ok (.sipush 144, 3) := by decide +kernel
theorem d_Str_init_17 : decode i_Str_init.2.1 17 = .ok (.newarray .int, 2) := by decide +kernel
theorem d_Str_init_19 : decode i_Str_init.2.1 19 = .ok (.putfield 15, 3) := by decide +kernel
theorem d_Str_init_22 : decode i_Str_init.2.1 22 = .ok (.aload_n 0, 1) := by decide +kernel
theorem d_Str_init_23 : decode i_Str_init.2.1 23 = .ok (.aload_n 1, 1) := by decide +kernel
theorem d_Str_init_24 : decode i_Str_init.2.1 24 = .ok (.putfield 18, 3) := by decide +kernel
theorem d_Str_init_27 : decode i_Str_init.2.1 27 = .ok (.return_, 1) := by decide +kernel
theorem d_Str_offOf_0 : decode i_Str_offOf.2.1 0 = .ok (.aload_n 0, 1) := by decide +kernel
theorem d_Str_offOf_1 : decode i_Str_offOf.2.1 1 = .ok (.getfield 18, 3) := by decide +kernel
theorem d_Str_offOf_4 : decode i_Str_offOf.2.1 4 = .ok (.aload_n 1, 1) := by decide +kernel
theorem d_Str_offOf_5 : decode i_Str_offOf.2.1 5 = .ok (.iload_n 2, 1) := by decide +kernel
theorem d_Str_offOf_6 : decode i_Str_offOf.2.1 6 = .ok (.invokevirtual 22, 3) := by decide +kernel
theorem d_Str_offOf_9 : decode i_Str_offOf.2.1 9 = .ok (.istore 4, 2) := by decide +kernel
theorem d_Str_offOf_11 : decode i_Str_offOf.2.1 11 = .ok (.aload_n 0, 1) := by decide +kernel
theorem d_Str_offOf_12 : decode i_Str_offOf.2.1 12 = .ok (.getfield 18, 3) := by decide +kernel
theorem d_Str_offOf_15 : decode i_Str_offOf.2.1 15 = .ok (.aload_n 1, 1) := by decide +kernel
theorem d_Str_offOf_16 : decode i_Str_offOf.2.1 16 = .ok (.iload_n 2, 1) := by decide +kernel
theorem d_Str_offOf_17 : decode i_Str_offOf.2.1 17 = .ok (.invokevirtual 26, 3) := by decide +kernel
theorem d_Str_offOf_20 : decode i_Str_offOf.2.1 20 = .ok (.istore 5, 2) := by decide +kernel
theorem d_Str_offOf_22 : decode i_Str_offOf.2.1 22 = .ok (.aload_n 0, 1) := by decide +kernel
theorem d_Str_offOf_23 : decode i_Str_offOf.2.1 23 = .ok (.getfield 18, 3) := by decide +kernel
theorem d_Str_offOf_26 : decode i_Str_offOf.2.1 26 = .ok (.aload_n 1, 1) := by decide +kernel
theorem d_Str_offOf_27 : decode i_Str_offOf.2.1 27 = .ok (.iload_n 2, 1) := by decide +kernel
theorem d_Str_offOf_28 : decode i_Str_offOf.2.1 28 = .ok (.iload_n 3, 1) := by decide +kernel
theorem d_Str_offOf_29 : decode i_Str_offOf.2.1 29 = .ok (.iadd, 1) := by decide +kernel
theorem d_Str_offOf_30 : decode i_Str_offOf.2.1 30 = .ok (.invokevirtual 22, 3) := by decide +kernel
theorem d_Str_offOf_33 : decode i_Str_offOf.2.1 33 = .ok (.iload 4, 2) := by decide +kernel
theorem d_Str_offOf_35 : decode i_Str_offOf.2.1 35 = .ok (.isub, 1) := by decide +kernel
theorem d_Str_offOf_36 : decode i_Str_offOf.2.1 36 = .ok (.istore 6, 2) := by decide +kernel
theorem d_Str_offOf_38 : decode i_Str_offOf.2.1 38 = .ok (.aload_n 0, 1) := by decide +kernel
theorem d_Str_offOf_39 : decode i_Str_offOf.2.1 39 = .ok (.getfield 18, 3) := by decide +kernel
theorem d_Str_offOf_42 : decode i_Str_offOf.2.1 42 = .ok (.aload_n 1, 1) := by decide +kernel
theorem d_Str_offOf_43 : decode i_Str_offOf.2.1 43 = .ok (.iload_n 2, 1) := by decide +kernel
theorem d_Str_offOf_44 : decode i_Str_offOf.2.1 44 = .ok (.iload_n 3, 1) := by decide +kernel
theorem d_Str_offOf_45 : decode i_Str_offOf.2.1 45 = .ok (.iadd, 1) := by decide +kernel
theorem d_Str_offOf_46 : decode i_Str_offOf.2.1 46 = .ok (.invokevirtual 26, 3) := by decide +kernel
theorem d_Str_offOf_49 : decode i_Str_offOf.2.1 49 = .ok (.iload 5, 2) := by decide +kernel
theorem d_Str_offOf_51 : decode i_Str_offOf.2.1 51 = .ok (.isub, 1) := by decide +kernel
theorem d_Str_offOf_52 : decode i_Str_offOf.2.1 52 = .ok (.istore 7, 2) := by decide +kernel
theorem d_Str_offOf_54 : decode i_Str_offOf.2.1 54 = .ok (.iload 6, 2) := by decide +kernel
theorem d_Str_offOf_56 : decode i_Str_offOf.2.1 56 = .ok (.invokestatic 29, 3) := by decide +kernel
theorem d_Str_offOf_59 : decode i_Str_offOf.2.1 59 = .ok (.iload 7, 2) := by decide +kernel
theorem d_Str_offOf_61 : decode i_Str_offOf.2.1 61 = .ok (.invokestatic 29, 3) := by decide +kernel
theorem d_Str_offOf_64 : decode i_Str_offOf.2.1 64 = .ok (.invokestatic 35, 3) := by decide +kernel
theorem d_Str_offOf_67 : decode i_Str_offOf.2.1 67 = .ok (.istore 8, 2) := by decide +kernel
theorem d_Str_offOf_69 : decode i_Str_offOf.2.1 69 = .ok (.iload 8, 2) := by decide +kernel
theorem d_Str_offOf_71 : decode i_Str_offOf.2.1 71 = .ok (.ifCond .ne 5, 3) := by decide +kernel
theorem d_Str_offOf_74 : decode i_Str_offOf.2.1 74 = .ok (.iconst (-1), 1) := by decide +kernel
theorem d_Str_offOf_75 : decode i_Str_offOf.2.1 75 = .ok (.ireturn, 1) := by decide +kernel
theorem d_Str_offOf_76 : decode i_Str_offOf.2.1 76 = .ok (.iconst 0, 1) := by decide +kernel
theorem d_Str_offOf_77 : decode i_Str_offOf.2.1 77 = .ok (.istore 9, 2) := by decide +kernel
theorem d_Str_offOf_79 : decode i_Str_offOf.2.1 79 = .ok (.iconst 1, 1) := by decide +kernel
theorem d_Str_offOf_80 : decode i_Str_offOf.2.1 80 = .ok (.istore 10, 2) := by decide +kernel
theorem d_Str_offOf_82 : decode i_Str_offOf.2.1 82 = .ok (.iload 10, 2) := by decide +kernel
theorem d_Str_offOf_84 : decode i_Str_offOf.2.1 84 = .ok (.iload_n 3, 1) := by decide +kernel
theorem d_Str_offOf_85 : decode i_Str_offOf.2.1 85 = .ok (.if_icmp .ge 72, 3) := by decide +kernel
theorem d_Str_offOf_88 : decode i_Str_offOf.2.1 88 = .ok (.iload 6, 2) := by decide +kernel
theorem d_Str_offOf_90 : decode i_Str_offOf.2.1 90 = .ok (.aload_n 0, 1) := by decide +kernel
theorem d_Str_offOf_91 : decode i_Str_offOf.2.1 91 = .ok (.getfield 18, 3) := by decide +kernel
theorem d_Str_offOf_94 : decode i_Str_offOf.2.1 94 = .ok (.aload_n 1, 1) := by decide +kernel
theorem d_Str_offOf_95 : decode i_Str_offOf.2.1 95 = .ok (.iload_n 2, 1) := by decide +kernel
theorem d_Str_offOf_96 : decode i_Str_offOf.2.1 96 = .ok (.iload 10, 2) := by decide +kernel
theorem d_Str_offOf_98 : decode i_Str_offOf.2.1 98 = .ok (.iadd, 1) := by decide +kernel
theorem d_Str_offOf_99 : decode i_Str_offOf.2.1 99 = .ok (.invokevirtual 26, 3) := by decide +kernel
theorem d_Str_offOf_102 : decode i_Str_offOf.2.1 102 = .ok (.iload 5, 2) := by decide +kernel
theorem d_Str_offOf_104 : decode i_Str_offOf.2.1 104 = .ok (.isub, 1) := by decide +kernel
theorem d_Str_offOf_105 : decode i_Str_offOf.2.1 105 = .ok (.imul, 1) := by decide +kernel
theorem d_Str_offOf_106 : decode i_Str_offOf.2.1 106 = .ok (.iload 7, 2) := by decide +kernel
theorem d_Str_offOf_108 : decode i_Str_offOf.2.1 108 = .ok (.aload_n 0, 1) := by decide +kernel
theorem d_Str_offOf_109 : decode i_Str_offOf.2.1 109 = .ok (.getfield 18, 3) := by decide +kernel
theorem d_Str_offOf_112 : decode i_Str_offOf.2.1 112 = .ok (.aload_n 1, 1) := by decide +kernel
theorem d_Str_offOf_113 : decode i_Str_offOf.2.1 113 = .ok (.iload_n 2, 1) := by decide +kernel
theorem d_Str_offOf_114 : decode i_Str_offOf.2.1 114 = .ok (.iload 10, 2) := by decide +kernel
theorem d_Str_offOf_116 : decode i_Str_offOf.2.1 116 = .ok (.iadd, 1) := by decide +kernel
theorem d_Str_offOf_117 : decode i_Str_offOf.2.1 117 = .ok (.invokevirtual 22, 3) := by decide +kernel
theorem d_Str_offOf_120 : decode i_Str_offOf.2.1 120 = .ok (.iload 4, 2) := by decide +kernel
theorem d_Str_offOf_122 : decode i_Str_offOf.2.1 122 = .ok (.isub, 1) := by decide +kernel
theorem d_Str_offOf_123 : decode i_Str_offOf.2.1 123 = .ok (.imul, 1) := by decide +kernel
theorem d_Str_offOf_124 : decode i_Str_offOf.2.1 124 = .ok (.isub, 1) := by decide +kernel
theorem d_Str_offOf_125 : decode i_Str_offOf.2.1 125 = .ok (.invokestatic 29, 3) := by decide +kernel
theorem d_Str_offOf_128 : decode i_Str_offOf.2.1 128 = .ok (.istore 11, 2) := by decide +kernel
theorem d_Str_offOf_130 : decode i_Str_offOf.2.1 130 = .ok (.iconst 2, 1) := by decide +kernel
theorem d_Str_offOf_131 : decode i_Str_offOf.2.1 131 = .ok (.iload 11, 2) := by decide +kernel
theorem d_Str_offOf_133 : decode i_Str_offOf.2.1 133 = .ok (.imul, 1) := by decide +kernel
theorem d_Str_offOf_134 : decode i_Str_offOf.2.1 134 = .ok (.iload 8, 2) := by decide +kernel
theorem d_Str_offOf_136 : decode i_Str_offOf.2.1 136 = .ok (.if_icmp .le 5, 3) := by decide +kernel
theorem d_Str_offOf_139 : decode i_Str_offOf.2.1 139 = .ok (.iconst (-1), 1) := by decide +kernel
theorem d_Str_offOf_140 : decode i_Str_offOf.2.1 140 = .ok (.ireturn, 1) := by decide +kernel
theorem d_Str_offOf_141 : decode i_Str_offOf.2.1 141 = .ok (.iload 9, 2) := by decide +kernel
theorem d_Str_offOf_143 : decode i_Str_offOf.2.1 143 = .ok (.iload 11, 2) := by decide +kernel
theorem d_Str_offOf_145 : decode i_Str_offOf.2.1 145 = .ok (.iload 11, 2) := by decide +kernel
theorem d_Str_offOf_147 : decode i_Str_offOf.2.1 147 = .ok (.imul, 1) := by decide +kernel
theorem d_Str_offOf_148 : decode i_Str_offOf.2.1 148 = .ok (.iadd, 1) := by decide +kernel
theorem d_Str_offOf_149 : decode i_Str_offOf.2.1 149 = .ok (.istore 9, 2) := by decide +kernel
theorem d_Str_offOf_151 : decode i_Str_offOf.2.1 151 = .ok (.iinc 10 1, 3) := by decide +kernel
theorem d_Str_offOf_154 : decode i_Str_offOf.2.1 154 = .ok (.goto (-72), 3) := by decide +kernel
theorem d_Str_offOf_157 : decode i_Str_offOf.2.1 157 = .ok (.iload 9, 2) := by decide +kernel
theorem d_Str_offOf_159 : decode i_Str_offOf.2.1 159 = .ok (.ireturn, 1) := by decide +kernel
theorem d_Str_longestFrom_0 : decode i_Str_longestFrom.2.1 0 = .ok (.aload_n 1, 1) := by decide +kernel
theorem d_Str_longestFrom_1 : decode i_Str_longestFrom.2.1 1 = .ok (.getfield 39, 3) := by decide +kernel
theorem d_Str_longestFrom_4 : decode i_Str_longestFrom.2.1 4 = .ok (.iconst 1, 1) := by decide +kernel
theorem d_Str_longestFrom_5 : decode i_Str_longestFrom.2.1 5 = .ok (.isub, 1) := by decide +kernel
theorem d_Str_longestFrom_6 : decode i_Str_longestFrom.2.1 6 = .ok (.bipush 12, 2) := by decide +kernel
theorem d_Str_longestFrom_8 : decode i_Str_longestFrom.2.1 8 = .ok (.invokestatic 45, 3) := by decide +kernel
theorem d_Str_longestFrom_11 : decode i_Str_longestFrom.2.1 11 = .ok (.istore_n 3, 1) := by decide +kernel
theorem d_Str_longestFrom_12 : decode i_Str_longestFrom.2.1 12 = .ok (.iload_n 3, 1) := by decide +kernel
theorem d_Str_longestFrom_13 : decode i_Str_longestFrom.2.1 13 = .ok (.iconst 1, 1) := by decide +kernel
theorem d_Str_longestFrom_14 : decode i_Str_longestFrom.2.1 14 = .ok (.if_icmp .le 22, 3) := by decide +kernel
theorem d_Str_longestFrom_17 : decode i_Str_longestFrom.2.1 17 = .ok (.aload_n 0, 1) := by decide +kernel
theorem d_Str_longestFrom_18 : decode i_Str_longestFrom.2.1 18 = .ok (.aload_n 1, 1) := by decide +kernel
theorem d_Str_longestFrom_19 : decode i_Str_longestFrom.2.1 19 = .ok (.iload_n 2, 1) := by decide +kernel
theorem d_Str_longestFrom_20 : decode i_Str_longestFrom.2.1 20 = .ok (.iload_n 3, 1) := by decide +kernel
theorem d_Str_longestFrom_21 : decode i_Str_longestFrom.2.1 21 = .ok (.invokevirtual 48, 3) := by decide +kernel
theorem d_Str_longestFrom_24 : decode i_Str_longestFrom.2.1 24 = .ok (.iconst (-1), 1) := by decide +kernel
theorem d_Str_longestFrom_25 : decode i_Str_longestFrom.2.1 25 = .ok (.if_icmp .eq 5, 3) := by decide +kernel
theorem d_Str_longestFrom_28 : decode i_Str_longestFrom.2.1 28 = .ok (.iload_n 3, 1) := by decide +kernel
theorem d_Str_longestFrom_29 : decode i_Str_longestFrom.2.1 29 = .ok (.ireturn, 1) := by decide +kernel
theorem d_Str_longestFrom_30 : decode i_Str_longestFrom.2.1 30 = .ok (.iinc 3 (-1), 3) := by decide +kernel
theorem d_Str_longestFrom_33 : decode i_Str_longestFrom.2.1 33 = .ok (.goto (-21), 3) := by decide +kernel
theorem d_Str_longestFrom_36 : decode i_Str_longestFrom.2.1 36 = .ok (.iconst 1, 1) := by decide +kernel
theorem d_Str_longestFrom_37 : decode i_Str_longestFrom.2.1 37 = .ok (.ireturn, 1) := by decide +kernel
theorem d_Str_measure_0 : decode i_Str_measure.2.1 0 = .ok (.aload_n 1, 1) := by decide +kernel
theorem d_Str_measure_1 : decode i_Str_measure.2.1 1 = .ok (.getfield 52, 3) := by decide +kernel
theorem d_Str_measure_4 : decode i_Str_measure.2.1 4 = .ok (.ifCond .eq 4, 3) := by decide +kernel
theorem d_Str_measure_7 : decode i_Str_measure.2.1 7 = .ok (.return_, 1) := by decide +kernel
theorem d_Str_measure_8 : decode i_Str_measure.2.1 8 = .ok (.aload_n 1, 1) := by decide +kernel
theorem d_Str_measure_9 : decode i_Str_measure.2.1 9 = .ok (.iconst 1, 1) := by decide +kernel
theorem d_Str_measure_10 : decode i_Str_measure.2.1 10 = .ok (.putfield 52, 3) := by decide +kernel
theorem d_Str_measure_13 : decode i_Str_measure.2.1 13 = .ok (.aload_n 1, 1) := by decide +kernel
theorem d_Str_measure_14 : decode i_Str_measure.2.1 14 = .ok (.getfield 39, 3) := by decide +kernel
theorem d_Str_measure_17 : decode i_Str_measure.2.1 17 = .ok (.iconst 1, 1) := by decide +kernel
theorem d_Str_measure_18 : decode i_Str_measure.2.1 18 = .ok (.isub, 1) := by decide +kernel
theorem d_Str_measure_19 : decode i_Str_measure.2.1 19 = .ok (.bipush 12, 2) := by decide +kernel
theorem d_Str_measure_21 : decode i_Str_measure.2.1 21 = .ok (.invokestatic 45, 3) := by decide +kernel
theorem d_Str_measure_24 : decode i_Str_measure.2.1 24 = .ok (.istore_n 2, 1) := by decide +kernel
theorem d_Str_measure_25 : decode i_Str_measure.2.1 25 = .ok (.iconst 0, 1) := by decide +kernel
theorem d_Str_measure_26 : decode i_Str_measure.2.1 26 = .ok (.istore_n 3, 1) := by decide +kernel
theorem d_Str_measure_27 : decode i_Str_measure.2.1 27 = .ok (.iload_n 3, 1) := by decide +kernel
theorem d_Str_measure_28 : decode i_Str_measure.2.1 28 = .ok (.aload_n 1, 1) := by decide +kernel
theorem d_Str_measure_29 : decode i_Str_measure.2.1 29 = .ok (.getfield 39, 3) := by decide +kernel
theorem d_Str_measure_32 : decode i_Str_measure.2.1 32 = .ok (.if_icmp .ge 103, 3) := by decide +kernel
theorem d_Str_measure_35 : decode i_Str_measure.2.1 35 = .ok (.aload_n 1, 1) := by decide +kernel
theorem d_Str_measure_36 : decode i_Str_measure.2.1 36 = .ok (.iload_n 3, 1) := by decide +kernel
theorem d_Str_measure_37 : decode i_Str_measure.2.1 37 = .ok (.invokevirtual 56, 3) := by decide +kernel
theorem d_Str_measure_40 : decode i_Str_measure.2.1 40 = .ok (.istore 4, 2) := by decide +kernel
theorem d_Str_measure_42 : decode i_Str_measure.2.1 42 = .ok (.iload 4, 2) := by decide +kernel
theorem d_Str_measure_44 : decode i_Str_measure.2.1 44 = .ok (.ifCond .lt 11, 3) := by decide +kernel
theorem d_Str_measure_47 : decode i_Str_measure.2.1 47 = .ok (.iload 4, 2) := by decide +kernel
theorem d_Str_measure_49 : decode i_Str_measure.2.1 49 = .ok (.sipush 144, 3) := by decide +kernel
theorem d_Str_measure_52 : decode i_Str_measure.2.1 52 = .ok (.if_icmp .lt 4, 3) := by decide +kernel
theorem d_Str_measure_55 : decode i_Str_measure.2.1 55 = .ok (.return_, 1) := by decide +kernel
theorem d_Str_measure_56 : decode i_Str_measure.2.1 56 = .ok (.aload_n 0, 1) := by decide +kernel
theorem d_Str_measure_57 : decode i_Str_measure.2.1 57 = .ok (.getfield 15, 3) := by decide +kernel
theorem d_Str_measure_60 : decode i_Str_measure.2.1 60 = .ok (.iload 4, 2) := by decide +kernel
theorem d_Str_measure_62 : decode i_Str_measure.2.1 62 = .ok (.iconst 1, 1) := by decide +kernel
theorem d_Str_measure_63 : decode i_Str_measure.2.1 63 = .ok (.iastore, 1) := by decide +kernel
theorem d_Str_measure_64 : decode i_Str_measure.2.1 64 = .ok (.iconst 1, 1) := by decide +kernel
theorem d_Str_measure_65 : decode i_Str_measure.2.1 65 = .ok (.istore 5, 2) := by decide +kernel
theorem d_Str_measure_67 : decode i_Str_measure.2.1 67 = .ok (.iload 5, 2) := by decide +kernel
theorem d_Str_measure_69 : decode i_Str_measure.2.1 69 = .ok (.iload_n 2, 1) := by decide +kernel
theorem d_Str_measure_70 : decode i_Str_measure.2.1 70 = .ok (.if_icmp .gt 59, 3) := by decide +kernel
theorem d_Str_measure_73 : decode i_Str_measure.2.1 73 = .ok (.aload_n 0, 1) := by decide +kernel
theorem d_Str_measure_74 : decode i_Str_measure.2.1 74 = .ok (.aload_n 1, 1) := by decide +kernel
theorem d_Str_measure_75 : decode i_Str_measure.2.1 75 = .ok (.iload_n 3, 1) := by decide +kernel
theorem d_Str_measure_76 : decode i_Str_measure.2.1 76 = .ok (.iload 5, 2) := by decide +kernel
theorem d_Str_measure_78 : decode i_Str_measure.2.1 78 = .ok (.invokevirtual 48, 3) := by decide +kernel
theorem d_Str_measure_81 : decode i_Str_measure.2.1 81 = .ok (.istore 6, 2) := by decide +kernel
theorem d_Str_measure_83 : decode i_Str_measure.2.1 83 = .ok (.aload_n 0, 1) := by decide +kernel
theorem d_Str_measure_84 : decode i_Str_measure.2.1 84 = .ok (.getfield 11, 3) := by decide +kernel
theorem d_Str_measure_87 : decode i_Str_measure.2.1 87 = .ok (.iload 4, 2) := by decide +kernel
theorem d_Str_measure_89 : decode i_Str_measure.2.1 89 = .ok (.bipush 13, 2) := by decide +kernel
theorem d_Str_measure_91 : decode i_Str_measure.2.1 91 = .ok (.imul, 1) := by decide +kernel
theorem d_Str_measure_92 : decode i_Str_measure.2.1 92 = .ok (.iload 5, 2) := by decide +kernel
theorem d_Str_measure_94 : decode i_Str_measure.2.1 94 = .ok (.iadd, 1) := by decide +kernel
theorem d_Str_measure_95 : decode i_Str_measure.2.1 95 = .ok (.iload 6, 2) := by decide +kernel
theorem d_Str_measure_97 : decode i_Str_measure.2.1 97 = .ok (.iastore, 1) := by decide +kernel
theorem d_Str_measure_98 : decode i_Str_measure.2.1 98 = .ok (.aload_n 0, 1) := by decide +kernel
theorem d_Str_measure_99 : decode i_Str_measure.2.1 99 = .ok (.getfield 15, 3) := by decide +kernel
theorem d_Str_measure_102 : decode i_Str_measure.2.1 102 = .ok (.iload 4, 2) := by decide +kernel
theorem d_Str_measure_104 : decode i_Str_measure.2.1 104 = .ok (.iload 6, 2) := by decide +kernel
theorem d_Str_measure_106 : decode i_Str_measure.2.1 106 = .ok (.iconst (-1), 1) := by decide +kernel
theorem d_Str_measure_107 : decode i_Str_measure.2.1 107 = .ok (.if_icmp .ne 13, 3) := by decide +kernel
theorem d_Str_measure_110 : decode i_Str_measure.2.1 110 = .ok (.aload_n 0, 1) := by decide +kernel
theorem d_Str_measure_111 : decode i_Str_measure.2.1 111 = .ok (.getfield 15, 3) := by decide +kernel
theorem d_Str_measure_114 : decode i_Str_measure.2.1 114 = .ok (.iload 4, 2) := by decide +kernel
theorem d_Str_measure_116 : decode i_Str_measure.2.1 116 = .ok (.iaload, 1) := by decide +kernel
theorem d_Str_measure_117 : decode i_Str_measure.2.1 117 = .ok (.goto 5, 3) := by decide +kernel
theorem d_Str_measure_120 : decode i_Str_measure.2.1 120 = .ok (.iload 5, 2) := by decide +kernel
theorem d_Str_measure_122 : decode i_Str_measure.2.1 122 = .ok (.iastore, 1) := by decide +kernel
theorem d_Str_measure_123 : decode i_Str_measure.2.1 123 = .ok (.iinc 5 1, 3) := by decide +kernel
theorem d_Str_measure_126 : decode i_Str_measure.2.1 126 = .ok (.goto (-59), 3) := by decide +kernel
theorem d_Str_measure_129 : decode i_Str_measure.2.1 129 = .ok (.iinc 3 1, 3) := by decide +kernel
theorem d_Str_measure_132 : decode i_Str_measure.2.1 132 = .ok (.goto (-105), 3) := by decide +kernel
theorem d_Str_measure_135 : decode i_Str_measure.2.1 135 = .ok (.return_, 1) := by decide +kernel
theorem d_Str_reachAt_0 : decode i_Str_reachAt.2.1 0 = .ok (.iload_n 1, 1) := by decide +kernel
theorem d_Str_reachAt_1 : decode i_Str_reachAt.2.1 1 = .ok (.ifCond .lt 19, 3) := by decide +kernel
theorem d_Str_reachAt_4 : decode i_Str_reachAt.2.1 4 = .ok (.iload_n 1, 1) := by decide +kernel
theorem d_Str_reachAt_5 : decode i_Str_reachAt.2.1 5 = .ok (.sipush 144, 3) := by decide +kernel
theorem d_Str_reachAt_8 : decode i_Str_reachAt.2.1 8 = .ok (.if_icmp .ge 12, 3) := by decide +kernel
theorem d_Str_reachAt_11 : decode i_Str_reachAt.2.1 11 = .ok (.aload_n 0, 1) := by decide +kernel
theorem d_Str_reachAt_12 : decode i_Str_reachAt.2.1 12 = .ok (.getfield 15, 3) := by decide +kernel
theorem d_Str_reachAt_15 : decode i_Str_reachAt.2.1 15 = .ok (.iload_n 1, 1) := by decide +kernel
theorem d_Str_reachAt_16 : decode i_Str_reachAt.2.1 16 = .ok (.iaload, 1) := by decide +kernel
theorem d_Str_reachAt_17 : decode i_Str_reachAt.2.1 17 = .ok (.goto 4, 3) := by decide +kernel
theorem d_Str_reachAt_20 : decode i_Str_reachAt.2.1 20 = .ok (.iconst 0, 1) := by decide +kernel
theorem d_Str_reachAt_21 : decode i_Str_reachAt.2.1 21 = .ok (.ireturn, 1) := by decide +kernel
theorem d_Str_offAt_0 : decode i_Str_offAt.2.1 0 = .ok (.iload_n 1, 1) := by decide +kernel
theorem d_Str_offAt_1 : decode i_Str_offAt.2.1 1 = .ok (.ifCond .lt 21, 3) := by decide +kernel
theorem d_Str_offAt_4 : decode i_Str_offAt.2.1 4 = .ok (.iload_n 1, 1) := by decide +kernel
theorem d_Str_offAt_5 : decode i_Str_offAt.2.1 5 = .ok (.sipush 144, 3) := by decide +kernel
theorem d_Str_offAt_8 : decode i_Str_offAt.2.1 8 = .ok (.if_icmp .ge 14, 3) := by decide +kernel
theorem d_Str_offAt_11 : decode i_Str_offAt.2.1 11 = .ok (.iload_n 2, 1) := by decide +kernel
theorem d_Str_offAt_12 : decode i_Str_offAt.2.1 12 = .ok (.iconst 1, 1) := by decide +kernel
theorem d_Str_offAt_13 : decode i_Str_offAt.2.1 13 = .ok (.if_icmp .lt 9, 3) := by decide +kernel
theorem d_Str_offAt_16 : decode i_Str_offAt.2.1 16 = .ok (.iload_n 2, 1) := by decide +kernel
theorem d_Str_offAt_17 : decode i_Str_offAt.2.1 17 = .ok (.bipush 12, 2) := by decide +kernel
theorem d_Str_offAt_19 : decode i_Str_offAt.2.1 19 = .ok (.if_icmp .le 5, 3) := by decide +kernel
theorem d_Str_offAt_22 : decode i_Str_offAt.2.1 22 = .ok (.iconst (-1), 1) := by decide +kernel
theorem d_Str_offAt_23 : decode i_Str_offAt.2.1 23 = .ok (.ireturn, 1) := by decide +kernel
theorem d_Str_offAt_24 : decode i_Str_offAt.2.1 24 = .ok (.aload_n 0, 1) := by decide +kernel
theorem d_Str_offAt_25 : decode i_Str_offAt.2.1 25 = .ok (.getfield 11, 3) := by decide +kernel
theorem d_Str_offAt_28 : decode i_Str_offAt.2.1 28 = .ok (.iload_n 1, 1) := by decide +kernel
theorem d_Str_offAt_29 : decode i_Str_offAt.2.1 29 = .ok (.bipush 13, 2) := by decide +kernel
theorem d_Str_offAt_31 : decode i_Str_offAt.2.1 31 = .ok (.imul, 1) := by decide +kernel
theorem d_Str_offAt_32 : decode i_Str_offAt.2.1 32 = .ok (.iload_n 2, 1) := by decide +kernel
theorem d_Str_offAt_33 : decode i_Str_offAt.2.1 33 = .ok (.iadd, 1) := by decide +kernel
theorem d_Str_offAt_34 : decode i_Str_offAt.2.1 34 = .ok (.iaload, 1) := by decide +kernel
theorem d_Str_offAt_35 : decode i_Str_offAt.2.1 35 = .ok (.ireturn, 1) := by decide +kernel
theorem d_Tap_init_0 : decode i_Tap_init.2.1 0 = .ok (.aload_n 0, 1) := by decide +kernel
theorem d_Tap_init_1 : decode i_Tap_init.2.1 1 = .ok (.invokespecial 1, 3) := by decide +kernel
theorem d_Tap_init_4 : decode i_Tap_init.2.1 4 = .ok (.aload_n 0, 1) := by decide +kernel
theorem d_Tap_init_5 : decode i_Tap_init.2.1 5 = .ok (.bipush 90, 2) := by decide +kernel
theorem d_Tap_init_7 : decode i_Tap_init.2.1 7 = .ok (.newarray .int, 2) := by decide +kernel
theorem d_Tap_init_9 : decode i_Tap_init.2.1 9 = .ok (.putfield 9, 3) := by decide +kernel
theorem d_Tap_init_12 : decode i_Tap_init.2.1 12 = .ok (.return_, 1) := by decide +kernel
theorem d_Tap_add_0 : decode i_Tap_add.2.1 0 = .ok (.aload_n 0, 1) := by decide +kernel
theorem d_Tap_add_1 : decode i_Tap_add.2.1 1 = .ok (.getfield 13, 3) := by decide +kernel
theorem d_Tap_add_4 : decode i_Tap_add.2.1 4 = .ok (.ifCond .lt 12, 3) := by decide +kernel
theorem d_Tap_add_7 : decode i_Tap_add.2.1 7 = .ok (.aload_n 0, 1) := by decide +kernel
theorem d_Tap_add_8 : decode i_Tap_add.2.1 8 = .ok (.getfield 13, 3) := by decide +kernel
theorem d_Tap_add_11 : decode i_Tap_add.2.1 11 = .ok (.bipush 90, 2) := by decide +kernel
theorem d_Tap_add_13 : decode i_Tap_add.2.1 13 = .ok (.if_icmp .lt 5, 3) := by decide +kernel
theorem d_Tap_add_16 : decode i_Tap_add.2.1 16 = .ok (.iconst 0, 1) := by decide +kernel
theorem d_Tap_add_17 : decode i_Tap_add.2.1 17 = .ok (.ireturn, 1) := by decide +kernel
theorem d_Tap_add_18 : decode i_Tap_add.2.1 18 = .ok (.aload_n 0, 1) := by decide +kernel
theorem d_Tap_add_19 : decode i_Tap_add.2.1 19 = .ok (.getfield 9, 3) := by decide +kernel
theorem d_Tap_add_22 : decode i_Tap_add.2.1 22 = .ok (.aload_n 0, 1) := by decide +kernel
theorem d_Tap_add_23 : decode i_Tap_add.2.1 23 = .ok (.getfield 13, 3) := by decide +kernel
theorem d_Tap_add_26 : decode i_Tap_add.2.1 26 = .ok (.iload_n 1, 1) := by decide +kernel
theorem d_Tap_add_27 : decode i_Tap_add.2.1 27 = .ok (.iastore, 1) := by decide +kernel
theorem d_Tap_add_28 : decode i_Tap_add.2.1 28 = .ok (.aload_n 0, 1) := by decide +kernel
theorem d_Tap_add_29 : decode i_Tap_add.2.1 29 = .ok (.dup, 1) := by decide +kernel
theorem d_Tap_add_30 : decode i_Tap_add.2.1 30 = .ok (.getfield 13, 3) := by decide +kernel
theorem d_Tap_add_33 : decode i_Tap_add.2.1 33 = .ok (.iconst 1, 1) := by decide +kernel
theorem d_Tap_add_34 : decode i_Tap_add.2.1 34 = .ok (.iadd, 1) := by decide +kernel
theorem d_Tap_add_35 : decode i_Tap_add.2.1 35 = .ok (.putfield 13, 3) := by decide +kernel
theorem d_Tap_add_38 : decode i_Tap_add.2.1 38 = .ok (.iconst 1, 1) := by decide +kernel
theorem d_Tap_add_39 : decode i_Tap_add.2.1 39 = .ok (.ireturn, 1) := by decide +kernel
theorem d_Tap_letterAt_0 : decode i_Tap_letterAt.2.1 0 = .ok (.iload_n 1, 1) := by decide +kernel
theorem d_Tap_letterAt_1 : decode i_Tap_letterAt.2.1 1 = .ok (.ifCond .lt 26, 3) := by decide +kernel
theorem d_Tap_letterAt_4 : decode i_Tap_letterAt.2.1 4 = .ok (.iload_n 1, 1) := by decide +kernel
theorem d_Tap_letterAt_5 : decode i_Tap_letterAt.2.1 5 = .ok (.aload_n 0, 1) := by decide +kernel
theorem d_Tap_letterAt_6 : decode i_Tap_letterAt.2.1 6 = .ok (.getfield 13, 3) := by decide +kernel
theorem d_Tap_letterAt_9 : decode i_Tap_letterAt.2.1 9 = .ok (.if_icmp .ge 18, 3) := by decide +kernel
theorem d_Tap_letterAt_12 : decode i_Tap_letterAt.2.1 12 = .ok (.iload_n 1, 1) := by decide +kernel
theorem d_Tap_letterAt_13 : decode i_Tap_letterAt.2.1 13 = .ok (.bipush 90, 2) := by decide +kernel
theorem d_Tap_letterAt_15 : decode i_Tap_letterAt.2.1 15 = .ok (.if_icmp .ge 12, 3) := by decide +kernel
theorem d_Tap_letterAt_18 : decode i_Tap_letterAt.2.1 18 = .ok (.aload_n 0, 1) := by decide +kernel
theorem d_Tap_letterAt_19 : decode i_Tap_letterAt.2.1 19 = .ok (.getfield 9, 3) := by decide +kernel
theorem d_Tap_letterAt_22 : decode i_Tap_letterAt.2.1 22 = .ok (.iload_n 1, 1) := by decide +kernel
theorem d_Tap_letterAt_23 : decode i_Tap_letterAt.2.1 23 = .ok (.iaload, 1) := by decide +kernel
theorem d_Tap_letterAt_24 : decode i_Tap_letterAt.2.1 24 = .ok (.goto 4, 3) := by decide +kernel
theorem d_Tap_letterAt_27 : decode i_Tap_letterAt.2.1 27 = .ok (.iconst (-1), 1) := by decide +kernel
theorem d_Tap_letterAt_28 : decode i_Tap_letterAt.2.1 28 = .ok (.ireturn, 1) := by decide +kernel
theorem d_Dot_init_0 : decode i_Dot_init.2.1 0 = .ok (.aload_n 0, 1) := by decide +kernel
theorem d_Dot_init_1 : decode i_Dot_init.2.1 1 = .ok (.invokespecial 1, 3) := by decide +kernel
theorem d_Dot_init_4 : decode i_Dot_init.2.1 4 = .ok (.aload_n 0, 1) := by decide +kernel
theorem d_Dot_init_5 : decode i_Dot_init.2.1 5 = .ok (.new 7, 3) := by decide +kernel
theorem d_Dot_init_8 : decode i_Dot_init.2.1 8 = .ok (.dup, 1) := by decide +kernel
theorem d_Dot_init_9 : decode i_Dot_init.2.1 9 = .ok (.invokespecial 9, 3) := by decide +kernel
theorem d_Dot_init_12 : decode i_Dot_init.2.1 12 = .ok (.putfield 10, 3) := by decide +kernel
theorem d_Dot_init_15 : decode i_Dot_init.2.1 15 = .ok (.aload_n 0, 1) := by decide +kernel
theorem d_Dot_init_16 : decode i_Dot_init.2.1 16 = .ok (.new 16, 3) := by decide +kernel
theorem d_Dot_init_19 : decode i_Dot_init.2.1 19 = .ok (.dup, 1) := by decide +kernel
theorem d_Dot_init_20 : decode i_Dot_init.2.1 20 = .ok (.invokespecial 18, 3) := by decide +kernel
theorem d_Dot_init_23 : decode i_Dot_init.2.1 23 = .ok (.putfield 19, 3) := by decide +kernel
theorem d_Dot_init_26 : decode i_Dot_init.2.1 26 = .ok (.aload_n 0, 1) := by decide +kernel
theorem d_Dot_init_27 : decode i_Dot_init.2.1 27 = .ok (.new 23, 3) := by decide +kernel
theorem d_Dot_init_30 : decode i_Dot_init.2.1 30 = .ok (.dup, 1) := by decide +kernel
theorem d_Dot_init_31 : decode i_Dot_init.2.1 31 = .ok (.invokespecial 25, 3) := by decide +kernel
theorem d_Dot_init_34 : decode i_Dot_init.2.1 34 = .ok (.putfield 26, 3) := by decide +kernel
theorem d_Dot_init_37 : decode i_Dot_init.2.1 37 = .ok (.aload_n 0, 1) := by decide +kernel
theorem d_Dot_init_38 : decode i_Dot_init.2.1 38 = .ok (.new 23, 3) := by decide +kernel
theorem d_Dot_init_41 : decode i_Dot_init.2.1 41 = .ok (.dup, 1) := by decide +kernel
theorem d_Dot_init_42 : decode i_Dot_init.2.1 42 = .ok (.invokespecial 25, 3) := by decide +kernel
theorem d_Dot_init_45 : decode i_Dot_init.2.1 45 = .ok (.putfield 30, 3) := by decide +kernel
theorem d_Dot_init_48 : decode i_Dot_init.2.1 48 = .ok (.aload_n 0, 1) := by decide +kernel
theorem d_Dot_init_49 : decode i_Dot_init.2.1 49 = .ok (.new 23, 3) := by decide +kernel
theorem d_Dot_init_52 : decode i_Dot_init.2.1 52 = .ok (.dup, 1) := by decide +kernel
theorem d_Dot_init_53 : decode i_Dot_init.2.1 53 = .ok (.invokespecial 25, 3) := by decide +kernel
theorem d_Dot_init_56 : decode i_Dot_init.2.1 56 = .ok (.putfield 33, 3) := by decide +kernel
theorem d_Dot_init_59 : decode i_Dot_init.2.1 59 = .ok (.aload_n 0, 1) := by decide +kernel
theorem d_Dot_init_60 : decode i_Dot_init.2.1 60 = .ok (.new 36, 3) := by decide +kernel
theorem d_Dot_init_63 : decode i_Dot_init.2.1 63 = .ok (.dup, 1) := by decide +kernel
theorem d_Dot_init_64 : decode i_Dot_init.2.1 64 = .ok (.invokespecial 38, 3) := by decide +kernel
theorem d_Dot_init_67 : decode i_Dot_init.2.1 67 = .ok (.putfield 39, 3) := by decide +kernel
theorem d_Dot_init_70 : decode i_Dot_init.2.1 70 = .ok (.new 43, 3) := by decide +kernel
theorem d_Dot_init_73 : decode i_Dot_init.2.1 73 = .ok (.dup, 1) := by decide +kernel
theorem d_Dot_init_74 : decode i_Dot_init.2.1 74 = .ok (.invokespecial 45, 3) := by decide +kernel
theorem d_Dot_init_77 : decode i_Dot_init.2.1 77 = .ok (.astore_n 1, 1) := by decide +kernel
theorem d_Dot_init_78 : decode i_Dot_init.2.1 78 = .ok (.new 46, 3) := by decide +kernel
theorem d_Dot_init_81 : decode i_Dot_init.2.1 81 = .ok (.dup, 1) := by decide +kernel
theorem d_Dot_init_82 : decode i_Dot_init.2.1 82 = .ok (.aload_n 1, 1) := by decide +kernel
theorem d_Dot_init_83 : decode i_Dot_init.2.1 83 = .ok (.invokespecial 48, 3) := by decide +kernel
theorem d_Dot_init_86 : decode i_Dot_init.2.1 86 = .ok (.astore_n 2, 1) := by decide +kernel
theorem d_Dot_init_87 : decode i_Dot_init.2.1 87 = .ok (.new 51, 3) := by decide +kernel
theorem d_Dot_init_90 : decode i_Dot_init.2.1 90 = .ok (.dup, 1) := by decide +kernel
theorem d_Dot_init_91 : decode i_Dot_init.2.1 91 = .ok (.aload_n 1, 1) := by decide +kernel
theorem d_Dot_init_92 : decode i_Dot_init.2.1 92 = .ok (.aload_n 2, 1) := by decide +kernel
theorem d_Dot_init_93 : decode i_Dot_init.2.1 93 = .ok (.invokespecial 53, 3) := by decide +kernel
theorem d_Dot_init_96 : decode i_Dot_init.2.1 96 = .ok (.astore_n 3, 1) := by decide +kernel
theorem d_Dot_init_97 : decode i_Dot_init.2.1 97 = .ok (.aload_n 0, 1) := by decide +kernel
theorem d_Dot_init_98 : decode i_Dot_init.2.1 98 = .ok (.aload_n 1, 1) := by decide +kernel
theorem d_Dot_init_99 : decode i_Dot_init.2.1 99 = .ok (.putfield 56, 3) := by decide +kernel
theorem d_Dot_init_102 : decode i_Dot_init.2.1 102 = .ok (.aload_n 0, 1) := by decide +kernel
theorem d_Dot_init_103 : decode i_Dot_init.2.1 103 = .ok (.aload_n 2, 1) := by decide +kernel
theorem d_Dot_init_104 : decode i_Dot_init.2.1 104 = .ok (.putfield 60, 3) := by decide +kernel
theorem d_Dot_init_107 : decode i_Dot_init.2.1 107 = .ok (.aload_n 0, 1) := by decide +kernel
theorem d_Dot_init_108 : decode i_Dot_init.2.1 108 = .ok (.aload_n 3, 1) := by decide +kernel
theorem d_Dot_init_109 : decode i_Dot_init.2.1 109 = .ok (.putfield 64, 3) := by decide +kernel
theorem d_Dot_init_112 : decode i_Dot_init.2.1 112 = .ok (.aload_n 0, 1) := by decide +kernel
theorem d_Dot_init_113 : decode i_Dot_init.2.1 113 = .ok (.new 68, 3) := by decide +kernel
theorem d_Dot_init_116 : decode i_Dot_init.2.1 116 = .ok (.dup, 1) := by decide +kernel
theorem d_Dot_init_117 : decode i_Dot_init.2.1 117 = .ok (.aload_n 3, 1) := by decide +kernel
theorem d_Dot_init_118 : decode i_Dot_init.2.1 118 = .ok (.invokespecial 70, 3) := by decide +kernel
theorem d_Dot_init_121 : decode i_Dot_init.2.1 121 = .ok (.putfield 73, 3) := by decide +kernel
theorem d_Dot_init_124 : decode i_Dot_init.2.1 124 = .ok (.return_, 1) := by decide +kernel
theorem d_Dot_feed_0 : decode i_Dot_feed.2.1 0 = .ok (.iload_n 1, 1) := by decide +kernel
theorem d_Dot_feed_1 : decode i_Dot_feed.2.1 1 = .ok (.ifCond .lt 10, 3) := by decide +kernel
theorem d_Dot_feed_4 : decode i_Dot_feed.2.1 4 = .ok (.iload_n 1, 1) := by decide +kernel
theorem d_Dot_feed_5 : decode i_Dot_feed.2.1 5 = .ok (.sipush 255, 3) := by decide +kernel
theorem d_Dot_feed_8 : decode i_Dot_feed.2.1 8 = .ok (.if_icmp .le 6, 3) := by decide +kernel
theorem d_Dot_feed_11 : decode i_Dot_feed.2.1 11 = .ok (.ldc 77, 2) := by decide +kernel
theorem d_Dot_feed_13 : decode i_Dot_feed.2.1 13 = .ok (.ireturn, 1) := by decide +kernel
theorem d_Dot_feed_14 : decode i_Dot_feed.2.1 14 = .ok (.aload_n 0, 1) := by decide +kernel
theorem d_Dot_feed_15 : decode i_Dot_feed.2.1 15 = .ok (.getfield 10, 3) := by decide +kernel
theorem d_Dot_feed_18 : decode i_Dot_feed.2.1 18 = .ok (.iload_n 1, 1) := by decide +kernel
theorem d_Dot_feed_19 : decode i_Dot_feed.2.1 19 = .ok (.invokevirtual 78, 3) := by decide +kernel
theorem d_Dot_feed_22 : decode i_Dot_feed.2.1 22 = .ok (.ifCond .eq 13, 3) := by decide +kernel
theorem d_Dot_feed_25 : decode i_Dot_feed.2.1 25 = .ok (.aload_n 0, 1) := by decide +kernel
theorem d_Dot_feed_26 : decode i_Dot_feed.2.1 26 = .ok (.getfield 10, 3) := by decide +kernel
theorem d_Dot_feed_29 : decode i_Dot_feed.2.1 29 = .ok (.getfield 82, 3) := by decide +kernel
theorem d_Dot_feed_32 : decode i_Dot_feed.2.1 32 = .ok (.goto 5, 3) := by decide +kernel
theorem d_Dot_feed_35 : decode i_Dot_feed.2.1 35 = .ok (.ldc 86, 2) := by decide +kernel
theorem d_Dot_feed_37 : decode i_Dot_feed.2.1 37 = .ok (.ireturn, 1) := by decide +kernel
theorem d_Dot_picture_0 : decode i_Dot_picture.2.1 0 = .ok (.aload_n 0, 1) := by decide +kernel
theorem d_Dot_picture_1 : decode i_Dot_picture.2.1 1 = .ok (.getfield 19, 3) := by decide +kernel
theorem d_Dot_picture_4 : decode i_Dot_picture.2.1 4 = .ok (.aload_n 0, 1) := by decide +kernel
theorem d_Dot_picture_5 : decode i_Dot_picture.2.1 5 = .ok (.getfield 10, 3) := by decide +kernel
theorem d_Dot_picture_8 : decode i_Dot_picture.2.1 8 = .ok (.invokevirtual 87, 3) := by decide +kernel
theorem d_Dot_picture_11 : decode i_Dot_picture.2.1 11 = .ok (.istore_n 1, 1) := by decide +kernel
theorem d_Dot_picture_12 : decode i_Dot_picture.2.1 12 = .ok (.aload_n 0, 1) := by decide +kernel
theorem d_Dot_picture_13 : decode i_Dot_picture.2.1 13 = .ok (.getfield 10, 3) := by decide +kernel
theorem d_Dot_picture_16 : decode i_Dot_picture.2.1 16 = .ok (.iconst 0, 1) := by decide +kernel
theorem d_Dot_picture_17 : decode i_Dot_picture.2.1 17 = .ok (.putfield 82, 3) := by decide +kernel
theorem d_Dot_picture_20 : decode i_Dot_picture.2.1 20 = .ok (.iload_n 1, 1) := by decide +kernel
theorem d_Dot_picture_21 : decode i_Dot_picture.2.1 21 = .ok (.ifCond .eq 19, 3) := by decide +kernel
theorem d_Dot_picture_24 : decode i_Dot_picture.2.1 24 = .ok (.aload_n 0, 1) := by decide +kernel
theorem d_Dot_picture_25 : decode i_Dot_picture.2.1 25 = .ok (.iload_n 1, 1) := by decide +kernel
theorem d_Dot_picture_26 : decode i_Dot_picture.2.1 26 = .ok (.putfield 91, 3) := by decide +kernel
theorem d_Dot_picture_29 : decode i_Dot_picture.2.1 29 = .ok (.ldc 94, 2) := by decide +kernel
theorem d_Dot_picture_31 : decode i_Dot_picture.2.1 31 = .ok (.aload_n 0, 1) := by decide +kernel
theorem d_Dot_picture_32 : decode i_Dot_picture.2.1 32 = .ok (.getfield 19, 3) := by decide +kernel
theorem d_Dot_picture_35 : decode i_Dot_picture.2.1 35 = .ok (.getfield 95, 3) := by decide +kernel
theorem d_Dot_picture_38 : decode i_Dot_picture.2.1 38 = .ok (.isub, 1) := by decide +kernel
theorem d_Dot_picture_39 : decode i_Dot_picture.2.1 39 = .ok (.ireturn, 1) := by decide +kernel
theorem d_Dot_picture_40 : decode i_Dot_picture.2.1 40 = .ok (.aload_n 0, 1) := by decide +kernel
theorem d_Dot_picture_41 : decode i_Dot_picture.2.1 41 = .ok (.getfield 26, 3) := by decide +kernel
theorem d_Dot_picture_44 : decode i_Dot_picture.2.1 44 = .ok (.aload_n 0, 1) := by decide +kernel
theorem d_Dot_picture_45 : decode i_Dot_picture.2.1 45 = .ok (.getfield 19, 3) := by decide +kernel
theorem d_Dot_picture_48 : decode i_Dot_picture.2.1 48 = .ok (.getfield 98, 3) := by decide +kernel
theorem d_Dot_picture_51 : decode i_Dot_picture.2.1 51 = .ok (.putfield 101, 3) := by decide +kernel
theorem d_Dot_picture_54 : decode i_Dot_picture.2.1 54 = .ok (.aload_n 0, 1) := by decide +kernel
theorem d_Dot_picture_55 : decode i_Dot_picture.2.1 55 = .ok (.getfield 26, 3) := by decide +kernel
theorem d_Dot_picture_58 : decode i_Dot_picture.2.1 58 = .ok (.aload_n 0, 1) := by decide +kernel
theorem d_Dot_picture_59 : decode i_Dot_picture.2.1 59 = .ok (.getfield 19, 3) := by decide +kernel
theorem d_Dot_picture_62 : decode i_Dot_picture.2.1 62 = .ok (.getfield 102, 3) := by decide +kernel
theorem d_Dot_picture_65 : decode i_Dot_picture.2.1 65 = .ok (.putfield 105, 3) := by decide +kernel
theorem d_Dot_picture_68 : decode i_Dot_picture.2.1 68 = .ok (.aload_n 0, 1) := by decide +kernel
theorem d_Dot_picture_69 : decode i_Dot_picture.2.1 69 = .ok (.getfield 26, 3) := by decide +kernel
theorem d_Dot_picture_72 : decode i_Dot_picture.2.1 72 = .ok (.aload_n 0, 1) := by decide +kernel
theorem d_Dot_picture_73 : decode i_Dot_picture.2.1 73 = .ok (.getfield 19, 3) := by decide +kernel
theorem d_Dot_picture_76 : decode i_Dot_picture.2.1 76 = .ok (.getfield 106, 3) := by decide +kernel
theorem d_Dot_picture_79 : decode i_Dot_picture.2.1 79 = .ok (.putfield 110, 3) := by decide +kernel
theorem d_Dot_picture_82 : decode i_Dot_picture.2.1 82 = .ok (.aload_n 0, 1) := by decide +kernel
theorem d_Dot_picture_83 : decode i_Dot_picture.2.1 83 = .ok (.getfield 26, 3) := by decide +kernel
theorem d_Dot_picture_86 : decode i_Dot_picture.2.1 86 = .ok (.iconst 0, 1) := by decide +kernel
theorem d_Dot_picture_87 : decode i_Dot_picture.2.1 87 = .ok (.putfield 111, 3) := by decide +kernel
theorem d_Dot_picture_90 : decode i_Dot_picture.2.1 90 = .ok (.aload_n 0, 1) := by decide +kernel
theorem d_Dot_picture_91 : decode i_Dot_picture.2.1 91 = .ok (.getfield 26, 3) := by decide +kernel
theorem d_Dot_picture_94 : decode i_Dot_picture.2.1 94 = .ok (.bipush 8, 2) := by decide +kernel
theorem d_Dot_picture_96 : decode i_Dot_picture.2.1 96 = .ok (.putfield 114, 3) := by decide +kernel
theorem d_Dot_picture_99 : decode i_Dot_picture.2.1 99 = .ok (.aload_n 0, 1) := by decide +kernel
theorem d_Dot_picture_100 : decode i_Dot_picture.2.1 100 = .ok (.getfield 39, 3) := by decide +kernel
theorem d_Dot_picture_103 : decode i_Dot_picture.2.1 103 = .ok (.iconst 0, 1) := by decide +kernel
theorem d_Dot_picture_104 : decode i_Dot_picture.2.1 104 = .ok (.putfield 117, 3) := by decide +kernel
theorem d_Dot_picture_107 : decode i_Dot_picture.2.1 107 = .ok (.aload_n 0, 1) := by decide +kernel
theorem d_Dot_picture_108 : decode i_Dot_picture.2.1 108 = .ok (.getfield 26, 3) := by decide +kernel
theorem d_Dot_picture_111 : decode i_Dot_picture.2.1 111 = .ok (.invokevirtual 120, 3) := by decide +kernel
theorem d_Dot_picture_114 : decode i_Dot_picture.2.1 114 = .ok (.ireturn, 1) := by decide +kernel
theorem d_Dot_fault_0 : decode i_Dot_fault.2.1 0 = .ok (.aload_n 0, 1) := by decide +kernel
theorem d_Dot_fault_1 : decode i_Dot_fault.2.1 1 = .ok (.getfield 91, 3) := by decide +kernel
theorem d_Dot_fault_4 : decode i_Dot_fault.2.1 4 = .ok (.ireturn, 1) := by decide +kernel
theorem d_Dot_undo_0 : decode i_Dot_undo.2.1 0 = .ok (.aload_n 0, 1) := by decide +kernel
theorem d_Dot_undo_1 : decode i_Dot_undo.2.1 1 = .ok (.getfield 39, 3) := by decide +kernel
theorem d_Dot_undo_4 : decode i_Dot_undo.2.1 4 = .ok (.aload_n 0, 1) := by decide +kernel
theorem d_Dot_undo_5 : decode i_Dot_undo.2.1 5 = .ok (.getfield 26, 3) := by decide +kernel
theorem d_Dot_undo_8 : decode i_Dot_undo.2.1 8 = .ok (.invokevirtual 124, 3) := by decide +kernel
theorem d_Dot_undo_11 : decode i_Dot_undo.2.1 11 = .ok (.ifCond .eq 13, 3) := by decide +kernel
theorem d_Dot_undo_14 : decode i_Dot_undo.2.1 14 = .ok (.aload_n 0, 1) := by decide +kernel
theorem d_Dot_undo_15 : decode i_Dot_undo.2.1 15 = .ok (.getfield 39, 3) := by decide +kernel
theorem d_Dot_undo_18 : decode i_Dot_undo.2.1 18 = .ok (.getfield 117, 3) := by decide +kernel
theorem d_Dot_undo_21 : decode i_Dot_undo.2.1 21 = .ok (.goto 5, 3) := by decide +kernel
theorem d_Dot_undo_24 : decode i_Dot_undo.2.1 24 = .ok (.ldc 128, 2) := by decide +kernel
theorem d_Dot_undo_26 : decode i_Dot_undo.2.1 26 = .ok (.ireturn, 1) := by decide +kernel
theorem d_Dot_flip_0 : decode i_Dot_flip.2.1 0 = .ok (.aload_n 0, 1) := by decide +kernel
theorem d_Dot_flip_1 : decode i_Dot_flip.2.1 1 = .ok (.getfield 26, 3) := by decide +kernel
theorem d_Dot_flip_4 : decode i_Dot_flip.2.1 4 = .ok (.iload_n 1, 1) := by decide +kernel
theorem d_Dot_flip_5 : decode i_Dot_flip.2.1 5 = .ok (.iload_n 2, 1) := by decide +kernel
theorem d_Dot_flip_6 : decode i_Dot_flip.2.1 6 = .ok (.invokevirtual 129, 3) := by decide +kernel
theorem d_Dot_flip_9 : decode i_Dot_flip.2.1 9 = .ok (.ifCond .ne 6, 3) := by decide +kernel
theorem d_Dot_flip_12 : decode i_Dot_flip.2.1 12 = .ok (.ldc 77, 2) := by decide +kernel
theorem d_Dot_flip_14 : decode i_Dot_flip.2.1 14 = .ok (.ireturn, 1) := by decide +kernel
theorem d_Dot_flip_15 : decode i_Dot_flip.2.1 15 = .ok (.aload_n 0, 1) := by decide +kernel
theorem d_Dot_flip_16 : decode i_Dot_flip.2.1 16 = .ok (.getfield 39, 3) := by decide +kernel
theorem d_Dot_flip_19 : decode i_Dot_flip.2.1 19 = .ok (.aload_n 0, 1) := by decide +kernel
theorem d_Dot_flip_20 : decode i_Dot_flip.2.1 20 = .ok (.getfield 26, 3) := by decide +kernel
theorem d_Dot_flip_23 : decode i_Dot_flip.2.1 23 = .ok (.invokevirtual 133, 3) := by decide +kernel
theorem d_Dot_flip_26 : decode i_Dot_flip.2.1 26 = .ok (.aload_n 0, 1) := by decide +kernel
theorem d_Dot_flip_27 : decode i_Dot_flip.2.1 27 = .ok (.getfield 26, 3) := by decide +kernel
theorem d_Dot_flip_30 : decode i_Dot_flip.2.1 30 = .ok (.dup, 1) := by decide +kernel
theorem d_Dot_flip_31 : decode i_Dot_flip.2.1 31 = .ok (.getfield 110, 3) := by decide +kernel
theorem d_Dot_flip_34 : decode i_Dot_flip.2.1 34 = .ok (.iload_n 1, 1) := by decide +kernel
theorem d_Dot_flip_35 : decode i_Dot_flip.2.1 35 = .ok (.iload_n 2, 1) := by decide +kernel
theorem d_Dot_flip_36 : decode i_Dot_flip.2.1 36 = .ok (.invokestatic 137, 3) := by decide +kernel
theorem d_Dot_flip_39 : decode i_Dot_flip.2.1 39 = .ok (.lxor, 1) := by decide +kernel
theorem d_Dot_flip_40 : decode i_Dot_flip.2.1 40 = .ok (.putfield 110, 3) := by decide +kernel
theorem d_Dot_flip_43 : decode i_Dot_flip.2.1 43 = .ok (.aload_n 0, 1) := by decide +kernel
theorem d_Dot_flip_44 : decode i_Dot_flip.2.1 44 = .ok (.getfield 26, 3) := by decide +kernel
theorem d_Dot_flip_47 : decode i_Dot_flip.2.1 47 = .ok (.iload_n 1, 1) := by decide +kernel
theorem d_Dot_flip_48 : decode i_Dot_flip.2.1 48 = .ok (.iload_n 2, 1) := by decide +kernel
theorem d_Dot_flip_49 : decode i_Dot_flip.2.1 49 = .ok (.invokevirtual 143, 3) := by decide +kernel
theorem d_Dot_flip_52 : decode i_Dot_flip.2.1 52 = .ok (.ifCond .eq 7, 3) := by decide +kernel
theorem d_Dot_flip_55 : decode i_Dot_flip.2.1 55 = .ok (.iconst 1, 1) := by decide +kernel
theorem d_Dot_flip_56 : decode i_Dot_flip.2.1 56 = .ok (.goto 4, 3) := by decide +kernel
theorem d_Dot_flip_59 : decode i_Dot_flip.2.1 59 = .ok (.iconst 0, 1) := by decide +kernel
