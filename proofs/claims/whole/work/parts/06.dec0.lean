theorem d_Acts_init_0 : decode i_Acts_init.2.1 0 = .ok (.aload_n 0, 1) := by decide +kernel
theorem d_Acts_init_1 : decode i_Acts_init.2.1 1 = .ok (.invokespecial 1, 3) := by decide +kernel
theorem d_Acts_init_4 : decode i_Acts_init.2.1 4 = .ok (.aload_n 0, 1) := by decide +kernel
theorem d_Acts_init_5 : decode i_Acts_init.2.1 5 = .ok (.bipush 8, 2) := by decide +kernel
theorem d_Acts_init_7 : decode i_Acts_init.2.1 7 = .ok (.newarray .long, 2) := by decide +kernel
theorem d_Acts_init_9 : decode i_Acts_init.2.1 9 = .ok (.putfield 9, 3) := by decide +kernel
theorem d_Acts_init_12 : decode i_Acts_init.2.1 12 = .ok (.aload_n 0, 1) := by decide +kernel
theorem d_Acts_init_13 : decode i_Acts_init.2.1 13 = .ok (.bipush 8, 2) := by decide +kernel
theorem d_Acts_init_15 : decode i_Acts_init.2.1 15 = .ok (.newarray .int, 2) := by decide +kernel
theorem d_Acts_init_17 : decode i_Acts_init.2.1 17 = .ok (.putfield 13, 3) := by decide +kernel
theorem d_Acts_init_20 : decode i_Acts_init.2.1 20 = .ok (.aload_n 0, 1) := by decide +kernel
theorem d_Acts_init_21 : decode i_Acts_init.2.1 21 = .ok (.bipush 8, 2) := by decide +kernel
theorem d_Acts_init_23 : decode i_Acts_init.2.1 23 = .ok (.newarray .int, 2) := by decide +kernel
theorem d_Acts_init_25 : decode i_Acts_init.2.1 25 = .ok (.putfield 17, 3) := by decide +kernel
theorem d_Acts_init_28 : decode i_Acts_init.2.1 28 = .ok (.return_, 1) := by decide +kernel
theorem d_Acts_remember_0 : decode i_Acts_remember.2.1 0 = .ok (.aload_n 0, 1) := by decide +kernel
theorem d_Acts_remember_1 : decode i_Acts_remember.2.1 1 = .ok (.getfield 20, 3) := by decide +kernel
theorem d_Acts_remember_4 : decode i_Acts_remember.2.1 4 = .ok (.bipush 8, 2) := by decide +kernel
theorem d_Acts_remember_6 : decode i_Acts_remember.2.1 6 = .ok (.if_icmp .lt 7, 3) := by decide +kernel
theorem d_Acts_remember_9 : decode i_Acts_remember.2.1 9 = .ok (.aload_n 0, 1) := by decide +kernel
theorem d_Acts_remember_10 : decode i_Acts_remember.2.1 10 = .ok (.invokevirtual 24, 3) := by decide +kernel
theorem d_Acts_remember_13 : decode i_Acts_remember.2.1 13 = .ok (.aload_n 0, 1) := by decide +kernel
theorem d_Acts_remember_14 : decode i_Acts_remember.2.1 14 = .ok (.getfield 20, 3) := by decide +kernel
theorem d_Acts_remember_17 : decode i_Acts_remember.2.1 17 = .ok (.ifCond .lt 12, 3) := by decide +kernel
theorem d_Acts_remember_20 : decode i_Acts_remember.2.1 20 = .ok (.aload_n 0, 1) := by decide +kernel
theorem d_Acts_remember_21 : decode i_Acts_remember.2.1 21 = .ok (.getfield 20, 3) := by decide +kernel
theorem d_Acts_remember_24 : decode i_Acts_remember.2.1 24 = .ok (.bipush 8, 2) := by decide +kernel
theorem d_Acts_remember_26 : decode i_Acts_remember.2.1 26 = .ok (.if_icmp .lt 4, 3) := by decide +kernel
theorem d_Acts_remember_29 : decode i_Acts_remember.2.1 29 = .ok (.return_, 1) := by decide +kernel
theorem d_Acts_remember_30 : decode i_Acts_remember.2.1 30 = .ok (.aload_n 0, 1) := by decide +kernel
theorem d_Acts_remember_31 : decode i_Acts_remember.2.1 31 = .ok (.getfield 9, 3) := by decide +kernel
theorem d_Acts_remember_34 : decode i_Acts_remember.2.1 34 = .ok (.aload_n 0, 1) := by decide +kernel
theorem d_Acts_remember_35 : decode i_Acts_remember.2.1 35 = .ok (.getfield 20, 3) := by decide +kernel
theorem d_Acts_remember_38 : decode i_Acts_remember.2.1 38 = .ok (.aload_n 1, 1) := by decide +kernel
theorem d_Acts_remember_39 : decode i_Acts_remember.2.1 39 = .ok (.getfield 27, 3) := by decide +kernel
theorem d_Acts_remember_42 : decode i_Acts_remember.2.1 42 = .ok (.lastore, 1) := by decide +kernel
theorem d_Acts_remember_43 : decode i_Acts_remember.2.1 43 = .ok (.aload_n 0, 1) := by decide +kernel
theorem d_Acts_remember_44 : decode i_Acts_remember.2.1 44 = .ok (.getfield 13, 3) := by decide +kernel
theorem d_Acts_remember_47 : decode i_Acts_remember.2.1 47 = .ok (.aload_n 0, 1) := by decide +kernel
theorem d_Acts_remember_48 : decode i_Acts_remember.2.1 48 = .ok (.getfield 20, 3) := by decide +kernel
theorem d_Acts_remember_51 : decode i_Acts_remember.2.1 51 = .ok (.aload_n 1, 1) := by decide +kernel
theorem d_Acts_remember_52 : decode i_Acts_remember.2.1 52 = .ok (.getfield 32, 3) := by decide +kernel
theorem d_Acts_remember_55 : decode i_Acts_remember.2.1 55 = .ok (.iastore, 1) := by decide +kernel
theorem d_Acts_remember_56 : decode i_Acts_remember.2.1 56 = .ok (.aload_n 0, 1) := by decide +kernel
theorem d_Acts_remember_57 : decode i_Acts_remember.2.1 57 = .ok (.getfield 17, 3) := by decide +kernel
theorem d_Acts_remember_60 : decode i_Acts_remember.2.1 60 = .ok (.aload_n 0, 1) := by decide +kernel
theorem d_Acts_remember_61 : decode i_Acts_remember.2.1 61 = .ok (.getfield 20, 3) := by decide +kernel
theorem d_Acts_remember_64 : decode i_Acts_remember.2.1 64 = .ok (.aload_n 1, 1) := by decide +kernel
theorem d_Acts_remember_65 : decode i_Acts_remember.2.1 65 = .ok (.getfield 35, 3) := by decide +kernel
theorem d_Acts_remember_68 : decode i_Acts_remember.2.1 68 = .ok (.iastore, 1) := by decide +kernel
theorem d_Acts_remember_69 : decode i_Acts_remember.2.1 69 = .ok (.aload_n 0, 1) := by decide +kernel
theorem d_Acts_remember_70 : decode i_Acts_remember.2.1 70 = .ok (.dup, 1) := by decide +kernel
theorem d_Acts_remember_71 : decode i_Acts_remember.2.1 71 = .ok (.getfield 20, 3) := by decide +kernel
theorem d_Acts_remember_74 : decode i_Acts_remember.2.1 74 = .ok (.iconst 1, 1) := by decide +kernel
theorem d_Acts_remember_75 : decode i_Acts_remember.2.1 75 = .ok (.iadd, 1) := by decide +kernel
theorem d_Acts_remember_76 : decode i_Acts_remember.2.1 76 = .ok (.putfield 20, 3) := by decide +kernel
theorem d_Acts_remember_79 : decode i_Acts_remember.2.1 79 = .ok (.return_, 1) := by decide +kernel
theorem d_Acts_forgetOldest_0 : decode i_Acts_forgetOldest.2.1 0 = .ok (.iconst 1, 1) := by decide +kernel
theorem d_Acts_forgetOldest_1 : decode i_Acts_forgetOldest.2.1 1 = .ok (.istore_n 1, 1) := by decide +kernel
theorem d_Acts_forgetOldest_2 : decode i_Acts_forgetOldest.2.1 2 = .ok (.iload_n 1, 1) := by decide +kernel
theorem d_Acts_forgetOldest_3 : decode i_Acts_forgetOldest.2.1 3 = .ok (.bipush 8, 2) := by decide +kernel
theorem d_Acts_forgetOldest_5 : decode i_Acts_forgetOldest.2.1 5 = .ok (.if_icmp .ge 51, 3) := by decide +kernel
theorem d_Acts_forgetOldest_8 : decode i_Acts_forgetOldest.2.1 8 = .ok (.aload_n 0, 1) := by decide +kernel
theorem d_Acts_forgetOldest_9 : decode i_Acts_forgetOldest.2.1 9 = .ok (.getfield 9, 3) := by decide +kernel
theorem d_Acts_forgetOldest_12 : decode i_Acts_forgetOldest.2.1 12 = .ok (.iload_n 1, 1) := by decide +kernel
theorem d_Acts_forgetOldest_13 : decode i_Acts_forgetOldest.2.1 13 = .ok (.iconst 1, 1) := by decide +kernel
theorem d_Acts_forgetOldest_14 : decode i_Acts_forgetOldest.2.1 14 = .ok (.isub, 1) := by decide +kernel
theorem d_Acts_forgetOldest_15 : decode i_Acts_forgetOldest.2.1 15 = .ok (.aload_n 0, 1) := by decide +kernel
theorem d_Acts_forgetOldest_16 : decode i_Acts_forgetOldest.2.1 16 = .ok (.getfield 9, 3) := by decide +kernel
theorem d_Acts_forgetOldest_19 : decode i_Acts_forgetOldest.2.1 19 = .ok (.iload_n 1, 1) := by decide +kernel
theorem d_Acts_forgetOldest_20 : decode i_Acts_forgetOldest.2.1 20 = .ok (.laload, 1) := by decide +kernel
theorem d_Acts_forgetOldest_21 : decode i_Acts_forgetOldest.2.1 21 = .ok (.lastore, 1) := by decide +kernel
theorem d_Acts_forgetOldest_22 : decode i_Acts_forgetOldest.2.1 22 = .ok (.aload_n 0, 1) := by decide +kernel
theorem d_Acts_forgetOldest_23 : decode i_Acts_forgetOldest.2.1 23 = .ok (.getfield 13, 3) := by decide +kernel
theorem d_Acts_forgetOldest_26 : decode i_Acts_forgetOldest.2.1 26 = .ok (.iload_n 1, 1) := by decide +kernel
theorem d_Acts_forgetOldest_27 : decode i_Acts_forgetOldest.2.1 27 = .ok (.iconst 1, 1) := by decide +kernel
theorem d_Acts_forgetOldest_28 : decode i_Acts_forgetOldest.2.1 28 = .ok (.isub, 1) := by decide +kernel
theorem d_Acts_forgetOldest_29 : decode i_Acts_forgetOldest.2.1 29 = .ok (.aload_n 0, 1) := by decide +kernel
theorem d_Acts_forgetOldest_30 : decode i_Acts_forgetOldest.2.1 30 = .ok (.getfield 13, 3) := by decide +kernel
theorem d_Acts_forgetOldest_33 : decode i_Acts_forgetOldest.2.1 33 = .ok (.iload_n 1, 1) := by decide +kernel
theorem d_Acts_forgetOldest_34 : decode i_Acts_forgetOldest.2.1 34 = .ok (.iaload, 1) := by decide +kernel
theorem d_Acts_forgetOldest_35 : decode i_Acts_forgetOldest.2.1 35 = .ok (.iastore, 1) := by decide +kernel
theorem d_Acts_forgetOldest_36 : decode i_Acts_forgetOldest.2.1 36 = .ok (.aload_n 0, 1) := by decide +kernel
theorem d_Acts_forgetOldest_37 : decode i_Acts_forgetOldest.2.1 37 = .ok (.getfield 17, 3) := by decide +kernel
theorem d_Acts_forgetOldest_40 : decode i_Acts_forgetOldest.2.1 40 = .ok (.iload_n 1, 1) := by decide +kernel
theorem d_Acts_forgetOldest_41 : decode i_Acts_forgetOldest.2.1 41 = .ok (.iconst 1, 1) := by decide +kernel
theorem d_Acts_forgetOldest_42 : decode i_Acts_forgetOldest.2.1 42 = .ok (.isub, 1) := by decide +kernel
theorem d_Acts_forgetOldest_43 : decode i_Acts_forgetOldest.2.1 43 = .ok (.aload_n 0, 1) := by decide +kernel
theorem d_Acts_forgetOldest_44 : decode i_Acts_forgetOldest.2.1 44 = .ok (.getfield 17, 3) := by decide +kernel
theorem d_Acts_forgetOldest_47 : decode i_Acts_forgetOldest.2.1 47 = .ok (.iload_n 1, 1) := by decide +kernel
theorem d_Acts_forgetOldest_48 : decode i_Acts_forgetOldest.2.1 48 = .ok (.iaload, 1) := by decide +kernel
theorem d_Acts_forgetOldest_49 : decode i_Acts_forgetOldest.2.1 49 = .ok (.iastore, 1) := by decide +kernel
theorem d_Acts_forgetOldest_50 : decode i_Acts_forgetOldest.2.1 50 = .ok (.iinc 1 1, 3) := by decide +kernel
theorem d_Acts_forgetOldest_53 : decode i_Acts_forgetOldest.2.1 53 = .ok (.goto (-51), 3) := by decide +kernel
theorem d_Acts_forgetOldest_56 : decode i_Acts_forgetOldest.2.1 56 = .ok (.aload_n 0, 1) := by decide +kernel
theorem d_Acts_forgetOldest_57 : decode i_Acts_forgetOldest.2.1 57 = .ok (.bipush 7, 2) := by decide +kernel
theorem d_Acts_forgetOldest_59 : decode i_Acts_forgetOldest.2.1 59 = .ok (.putfield 20, 3) := by decide +kernel
theorem d_Acts_forgetOldest_62 : decode i_Acts_forgetOldest.2.1 62 = .ok (.return_, 1) := by decide +kernel
theorem d_Acts_takeBack_0 : decode i_Acts_takeBack.2.1 0 = .ok (.aload_n 0, 1) := by decide +kernel
theorem d_Acts_takeBack_1 : decode i_Acts_takeBack.2.1 1 = .ok (.getfield 20, 3) := by decide +kernel
theorem d_Acts_takeBack_4 : decode i_Acts_takeBack.2.1 4 = .ok (.ifCond .le 12, 3) := by decide +kernel
theorem d_Acts_takeBack_7 : decode i_Acts_takeBack.2.1 7 = .ok (.aload_n 0, 1) := by decide +kernel
theorem d_Acts_takeBack_8 : decode i_Acts_takeBack.2.1 8 = .ok (.getfield 20, 3) := by decide +kernel
theorem d_Acts_takeBack_11 : decode i_Acts_takeBack.2.1 11 = .ok (.bipush 8, 2) := by decide +kernel
theorem d_Acts_takeBack_13 : decode i_Acts_takeBack.2.1 13 = .ok (.if_icmp .le 5, 3) := by decide +kernel
theorem d_Acts_takeBack_16 : decode i_Acts_takeBack.2.1 16 = .ok (.iconst 0, 1) := by decide +kernel
theorem d_Acts_takeBack_17 : decode i_Acts_takeBack.2.1 17 = .ok (.ireturn, 1) := by decide +kernel
theorem d_Acts_takeBack_18 : decode i_Acts_takeBack.2.1 18 = .ok (.aload_n 0, 1) := by decide +kernel
theorem d_Acts_takeBack_19 : decode i_Acts_takeBack.2.1 19 = .ok (.dup, 1) := by decide +kernel
theorem d_Acts_takeBack_20 : decode i_Acts_takeBack.2.1 20 = .ok (.getfield 20, 3) := by decide +kernel
theorem d_Acts_takeBack_23 : decode i_Acts_takeBack.2.1 23 = .ok (.iconst 1, 1) := by decide +kernel
theorem d_Acts_takeBack_24 : decode i_Acts_takeBack.2.1 24 = .ok (.isub, 1) := by decide +kernel
theorem d_Acts_takeBack_25 : decode i_Acts_takeBack.2.1 25 = .ok (.putfield 20, 3) := by decide +kernel
theorem d_Acts_takeBack_28 : decode i_Acts_takeBack.2.1 28 = .ok (.aload_n 1, 1) := by decide +kernel
theorem d_Acts_takeBack_29 : decode i_Acts_takeBack.2.1 29 = .ok (.aload_n 0, 1) := by decide +kernel
theorem d_Acts_takeBack_30 : decode i_Acts_takeBack.2.1 30 = .ok (.getfield 9, 3) := by decide +kernel
theorem d_Acts_takeBack_33 : decode i_Acts_takeBack.2.1 33 = .ok (.aload_n 0, 1) := by decide +kernel
theorem d_Acts_takeBack_34 : decode i_Acts_takeBack.2.1 34 = .ok (.getfield 20, 3) := by decide +kernel
theorem d_Acts_takeBack_37 : decode i_Acts_takeBack.2.1 37 = .ok (.laload, 1) := by decide +kernel
theorem d_Acts_takeBack_38 : decode i_Acts_takeBack.2.1 38 = .ok (.putfield 27, 3) := by decide +kernel
theorem d_Acts_takeBack_41 : decode i_Acts_takeBack.2.1 41 = .ok (.aload_n 1, 1) := by decide +kernel
theorem d_Acts_takeBack_42 : decode i_Acts_takeBack.2.1 42 = .ok (.aload_n 0, 1) := by decide +kernel
theorem d_Acts_takeBack_43 : decode i_Acts_takeBack.2.1 43 = .ok (.getfield 13, 3) := by decide +kernel
theorem d_Acts_takeBack_46 : decode i_Acts_takeBack.2.1 46 = .ok (.aload_n 0, 1) := by decide +kernel
theorem d_Acts_takeBack_47 : decode i_Acts_takeBack.2.1 47 = .ok (.getfield 20, 3) := by decide +kernel
theorem d_Acts_takeBack_50 : decode i_Acts_takeBack.2.1 50 = .ok (.iaload, 1) := by decide +kernel
theorem d_Acts_takeBack_51 : decode i_Acts_takeBack.2.1 51 = .ok (.putfield 32, 3) := by decide +kernel
theorem d_Acts_takeBack_54 : decode i_Acts_takeBack.2.1 54 = .ok (.aload_n 1, 1) := by decide +kernel
theorem d_Acts_takeBack_55 : decode i_Acts_takeBack.2.1 55 = .ok (.aload_n 0, 1) := by decide +kernel
theorem d_Acts_takeBack_56 : decode i_Acts_takeBack.2.1 56 = .ok (.getfield 17, 3) := by decide +kernel
theorem d_Acts_takeBack_59 : decode i_Acts_takeBack.2.1 59 = .ok (.aload_n 0, 1) := by decide +kernel
theorem d_Acts_takeBack_60 : decode i_Acts_takeBack.2.1 60 = .ok (.getfield 20, 3) := by decide +kernel
theorem d_Acts_takeBack_63 : decode i_Acts_takeBack.2.1 63 = .ok (.iaload, 1) := by decide +kernel
theorem d_Acts_takeBack_64 : decode i_Acts_takeBack.2.1 64 = .ok (.putfield 35, 3) := by decide +kernel
theorem d_Acts_takeBack_67 : decode i_Acts_takeBack.2.1 67 = .ok (.iconst 1, 1) := by decide +kernel
theorem d_Acts_takeBack_68 : decode i_Acts_takeBack.2.1 68 = .ok (.ireturn, 1) := by decide +kernel
theorem d_Bend_init_0 : decode i_Bend_init.2.1 0 = .ok (.aload_n 0, 1) := by decide +kernel
theorem d_Bend_init_1 : decode i_Bend_init.2.1 1 = .ok (.invokespecial 1, 3) := by decide +kernel
theorem d_Bend_init_4 : decode i_Bend_init.2.1 4 = .ok (.return_, 1) := by decide +kernel
theorem d_Bend_from_0 : decode i_Bend_from.2.1 0 = .ok (.aload_n 0, 1) := by decide +kernel
theorem d_Bend_from_1 : decode i_Bend_from.2.1 1 = .ok (.iload_n 1, 1) := by decide +kernel
theorem d_Bend_from_2 : decode i_Bend_from.2.1 2 = .ok (.putfield 7, 3) := by decide +kernel
theorem d_Bend_from_5 : decode i_Bend_from.2.1 5 = .ok (.aload_n 0, 1) := by decide +kernel
theorem d_Bend_from_6 : decode i_Bend_from.2.1 6 = .ok (.iload_n 2, 1) := by decide +kernel
theorem d_Bend_from_7 : decode i_Bend_from.2.1 7 = .ok (.putfield 13, 3) := by decide +kernel
theorem d_Bend_from_10 : decode i_Bend_from.2.1 10 = .ok (.return_, 1) := by decide +kernel
theorem d_Bend_by_0 : decode i_Bend_by.2.1 0 = .ok (.aload_n 0, 1) := by decide +kernel
theorem d_Bend_by_1 : decode i_Bend_by.2.1 1 = .ok (.iload_n 1, 1) := by decide +kernel
theorem d_Bend_by_2 : decode i_Bend_by.2.1 2 = .ok (.putfield 16, 3) := by decide +kernel
theorem d_Bend_by_5 : decode i_Bend_by.2.1 5 = .ok (.aload_n 0, 1) := by decide +kernel
theorem d_Bend_by_6 : decode i_Bend_by.2.1 6 = .ok (.iload_n 2, 1) := by decide +kernel
theorem d_Bend_by_7 : decode i_Bend_by.2.1 7 = .ok (.putfield 19, 3) := by decide +kernel
theorem d_Bend_by_10 : decode i_Bend_by.2.1 10 = .ok (.return_, 1) := by decide +kernel
theorem d_Bend_to_0 : decode i_Bend_to.2.1 0 = .ok (.aload_n 0, 1) := by decide +kernel
theorem d_Bend_to_1 : decode i_Bend_to.2.1 1 = .ok (.iload_n 1, 1) := by decide +kernel
theorem d_Bend_to_2 : decode i_Bend_to.2.1 2 = .ok (.putfield 22, 3) := by decide +kernel
theorem d_Bend_to_5 : decode i_Bend_to.2.1 5 = .ok (.aload_n 0, 1) := by decide +kernel
theorem d_Bend_to_6 : decode i_Bend_to.2.1 6 = .ok (.iload_n 2, 1) := by decide +kernel
theorem d_Bend_to_7 : decode i_Bend_to.2.1 7 = .ok (.putfield 25, 3) := by decide +kernel
theorem d_Bend_to_10 : decode i_Bend_to.2.1 10 = .ok (.return_, 1) := by decide +kernel
theorem d_Bend_turn_0 : decode i_Bend_turn.2.1 0 = .ok (.aload_n 0, 1) := by decide +kernel
theorem d_Bend_turn_1 : decode i_Bend_turn.2.1 1 = .ok (.getfield 16, 3) := by decide +kernel
theorem d_Bend_turn_4 : decode i_Bend_turn.2.1 4 = .ok (.aload_n 0, 1) := by decide +kernel
theorem d_Bend_turn_5 : decode i_Bend_turn.2.1 5 = .ok (.getfield 7, 3) := by decide +kernel
theorem d_Bend_turn_8 : decode i_Bend_turn.2.1 8 = .ok (.isub, 1) := by decide +kernel
theorem d_Bend_turn_9 : decode i_Bend_turn.2.1 9 = .ok (.aload_n 0, 1) := by decide +kernel
theorem d_Bend_turn_10 : decode i_Bend_turn.2.1 10 = .ok (.getfield 25, 3) := by decide +kernel
theorem d_Bend_turn_13 : decode i_Bend_turn.2.1 13 = .ok (.aload_n 0, 1) := by decide +kernel
theorem d_Bend_turn_14 : decode i_Bend_turn.2.1 14 = .ok (.getfield 19, 3) := by decide +kernel
theorem d_Bend_turn_17 : decode i_Bend_turn.2.1 17 = .ok (.isub, 1) := by decide +kernel
theorem d_Bend_turn_18 : decode i_Bend_turn.2.1 18 = .ok (.imul, 1) := by decide +kernel
theorem d_Bend_turn_19 : decode i_Bend_turn.2.1 19 = .ok (.aload_n 0, 1) := by decide +kernel
theorem d_Bend_turn_20 : decode i_Bend_turn.2.1 20 = .ok (.getfield 19, 3) := by decide +kernel
theorem d_Bend_turn_23 : decode i_Bend_turn.2.1 23 = .ok (.aload_n 0, 1) := by decide +kernel
theorem d_Bend_turn_24 : decode i_Bend_turn.2.1 24 = .ok (.getfield 13, 3) := by decide +kernel
theorem d_Bend_turn_27 : decode i_Bend_turn.2.1 27 = .ok (.isub, 1) := by decide +kernel
theorem d_Bend_turn_28 : decode i_Bend_turn.2.1 28 = .ok (.aload_n 0, 1) := by decide +kernel
theorem d_Bend_turn_29 : decode i_Bend_turn.2.1 29 = .ok (.getfield 22, 3) := by decide +kernel
theorem d_Bend_turn_32 : decode i_Bend_turn.2.1 32 = .ok (.aload_n 0, 1) := by decide +kernel
theorem d_Bend_turn_33 : decode i_Bend_turn.2.1 33 = .ok (.getfield 16, 3) := by decide +kernel
theorem d_Bend_turn_36 : decode i_Bend_turn.2.1 36 = .ok (.isub, 1) := by decide +kernel
theorem d_Bend_turn_37 : decode i_Bend_turn.2.1 37 = .ok (.imul, 1) := by decide +kernel
theorem d_Bend_turn_38 : decode i_Bend_turn.2.1 38 = .ok (.isub, 1) := by decide +kernel
theorem d_Bend_turn_39 : decode i_Bend_turn.2.1 39 = .ok (.istore_n 1, 1) := by decide +kernel
theorem d_Bend_turn_40 : decode i_Bend_turn.2.1 40 = .ok (.aload_n 0, 1) := by decide +kernel
theorem d_Bend_turn_41 : decode i_Bend_turn.2.1 41 = .ok (.getfield 16, 3) := by decide +kernel
theorem d_Bend_turn_44 : decode i_Bend_turn.2.1 44 = .ok (.aload_n 0, 1) := by decide +kernel
theorem d_Bend_turn_45 : decode i_Bend_turn.2.1 45 = .ok (.getfield 7, 3) := by decide +kernel
theorem d_Bend_turn_48 : decode i_Bend_turn.2.1 48 = .ok (.isub, 1) := by decide +kernel
theorem d_Bend_turn_49 : decode i_Bend_turn.2.1 49 = .ok (.aload_n 0, 1) := by decide +kernel
theorem d_Bend_turn_50 : decode i_Bend_turn.2.1 50 = .ok (.getfield 19, 3) := by decide +kernel
theorem d_Bend_turn_53 : decode i_Bend_turn.2.1 53 = .ok (.aload_n 0, 1) := by decide +kernel
theorem d_Bend_turn_54 : decode i_Bend_turn.2.1 54 = .ok (.getfield 13, 3) := by decide +kernel
theorem d_Bend_turn_57 : decode i_Bend_turn.2.1 57 = .ok (.isub, 1) := by decide +kernel
theorem d_Bend_turn_58 : decode i_Bend_turn.2.1 58 = .ok (.invokestatic 28, 3) := by decide +kernel
theorem d_Bend_turn_61 : decode i_Bend_turn.2.1 61 = .ok (.aload_n 0, 1) := by decide +kernel
theorem d_Bend_turn_62 : decode i_Bend_turn.2.1 62 = .ok (.getfield 22, 3) := by decide +kernel
theorem d_Bend_turn_65 : decode i_Bend_turn.2.1 65 = .ok (.aload_n 0, 1) := by decide +kernel
theorem d_Bend_turn_66 : decode i_Bend_turn.2.1 66 = .ok (.getfield 16, 3) := by decide +kernel
theorem d_Bend_turn_69 : decode i_Bend_turn.2.1 69 = .ok (.isub, 1) := by decide +kernel
theorem d_Bend_turn_70 : decode i_Bend_turn.2.1 70 = .ok (.aload_n 0, 1) := by decide +kernel
theorem d_Bend_turn_71 : decode i_Bend_turn.2.1 71 = .ok (.getfield 25, 3) := by decide +kernel
theorem d_Bend_turn_74 : decode i_Bend_turn.2.1 74 = .ok (.aload_n 0, 1) := by decide +kernel
theorem d_Bend_turn_75 : decode i_Bend_turn.2.1 75 = .ok (.getfield 19, 3) := by decide +kernel
theorem d_Bend_turn_78 : decode i_Bend_turn.2.1 78 = .ok (.isub, 1) := by decide +kernel
theorem d_Bend_turn_79 : decode i_Bend_turn.2.1 79 = .ok (.invokestatic 28, 3) := by decide +kernel
theorem d_Bend_turn_82 : decode i_Bend_turn.2.1 82 = .ok (.iadd, 1) := by decide +kernel
theorem d_Bend_turn_83 : decode i_Bend_turn.2.1 83 = .ok (.istore_n 2, 1) := by decide +kernel
theorem d_Bend_turn_84 : decode i_Bend_turn.2.1 84 = .ok (.iload_n 2, 1) := by decide +kernel
theorem d_Bend_turn_85 : decode i_Bend_turn.2.1 85 = .ok (.ifCond .ne 7, 3) := by decide +kernel
theorem d_Bend_turn_88 : decode i_Bend_turn.2.1 88 = .ok (.iconst 0, 1) := by decide +kernel
theorem d_Bend_turn_89 : decode i_Bend_turn.2.1 89 = .ok (.goto 12, 3) := by decide +kernel
theorem d_Bend_turn_92 : decode i_Bend_turn.2.1 92 = .ok (.bipush 8, 2) := by decide +kernel
theorem d_Bend_turn_94 : decode i_Bend_turn.2.1 94 = .ok (.iload_n 1, 1) := by decide +kernel
theorem d_Bend_turn_95 : decode i_Bend_turn.2.1 95 = .ok (.invokestatic 32, 3) := by decide +kernel
theorem d_Bend_turn_98 : decode i_Bend_turn.2.1 98 = .ok (.imul, 1) := by decide +kernel
theorem d_Bend_turn_99 : decode i_Bend_turn.2.1 99 = .ok (.iload_n 2, 1) := by decide +kernel
theorem d_Bend_turn_100 : decode i_Bend_turn.2.1 100 = .ok (.idiv, 1) := by decide +kernel
theorem d_Bend_turn_101 : decode i_Bend_turn.2.1 101 = .ok (.ireturn, 1) := by decide +kernel
theorem d_Bend_isSharp_0 : decode i_Bend_isSharp.2.1 0 = .ok (.aload_n 0, 1) := by decide +kernel
theorem d_Bend_isSharp_1 : decode i_Bend_isSharp.2.1 1 = .ok (.getfield 16, 3) := by decide +kernel
theorem d_Bend_isSharp_4 : decode i_Bend_isSharp.2.1 4 = .ok (.aload_n 0, 1) := by decide +kernel
theorem d_Bend_isSharp_5 : decode i_Bend_isSharp.2.1 5 = .ok (.getfield 7, 3) := by decide +kernel
theorem d_Bend_isSharp_8 : decode i_Bend_isSharp.2.1 8 = .ok (.isub, 1) := by decide +kernel
theorem d_Bend_isSharp_9 : decode i_Bend_isSharp.2.1 9 = .ok (.aload_n 0, 1) := by decide +kernel
theorem d_Bend_isSharp_10 : decode i_Bend_isSharp.2.1 10 = .ok (.getfield 22, 3) := by decide +kernel
theorem d_Bend_isSharp_13 : decode i_Bend_isSharp.2.1 13 = .ok (.aload_n 0, 1) := by decide +kernel
theorem d_Bend_isSharp_14 : decode i_Bend_isSharp.2.1 14 = .ok (.getfield 16, 3) := by decide +kernel
theorem d_Bend_isSharp_17 : decode i_Bend_isSharp.2.1 17 = .ok (.isub, 1) := by decide +kernel
theorem d_Bend_isSharp_18 : decode i_Bend_isSharp.2.1 18 = .ok (.imul, 1) := by decide +kernel
theorem d_Bend_isSharp_19 : decode i_Bend_isSharp.2.1 19 = .ok (.aload_n 0, 1) := by decide +kernel
theorem d_Bend_isSharp_20 : decode i_Bend_isSharp.2.1 20 = .ok (.getfield 19, 3) := by decide +kernel
theorem d_Bend_isSharp_23 : decode i_Bend_isSharp.2.1 23 = .ok (.aload_n 0, 1) := by decide +kernel
theorem d_Bend_isSharp_24 : decode i_Bend_isSharp.2.1 24 = .ok (.getfield 13, 3) := by decide +kernel
theorem d_Bend_isSharp_27 : decode i_Bend_isSharp.2.1 27 = .ok (.isub, 1) := by decide +kernel
theorem d_Bend_isSharp_28 : decode i_Bend_isSharp.2.1 28 = .ok (.aload_n 0, 1) := by decide +kernel
theorem d_Bend_isSharp_29 : decode i_Bend_isSharp.2.1 29 = .ok (.getfield 25, 3) := by decide +kernel
theorem d_Bend_isSharp_32 : decode i_Bend_isSharp.2.1 32 = .ok (.aload_n 0, 1) := by decide +kernel
theorem d_Bend_isSharp_33 : decode i_Bend_isSharp.2.1 33 = .ok (.getfield 19, 3) := by decide +kernel
theorem d_Bend_isSharp_36 : decode i_Bend_isSharp.2.1 36 = .ok (.isub, 1) := by decide +kernel
theorem d_Bend_isSharp_37 : decode i_Bend_isSharp.2.1 37 = .ok (.imul, 1) := by decide +kernel
theorem d_Bend_isSharp_38 : decode i_Bend_isSharp.2.1 38 = .ok (.iadd, 1) := by decide +kernel
theorem d_Bend_isSharp_39 : decode i_Bend_isSharp.2.1 39 = .ok (.istore_n 2, 1) := by decide +kernel
theorem d_Bend_isSharp_40 : decode i_Bend_isSharp.2.1 40 = .ok (.iload_n 2, 1) := by decide +kernel
theorem d_Bend_isSharp_41 : decode i_Bend_isSharp.2.1 41 = .ok (.ifCond .le 11, 3) := by decide +kernel
theorem d_Bend_isSharp_44 : decode i_Bend_isSharp.2.1 44 = .ok (.aload_n 0, 1) := by decide +kernel
theorem d_Bend_isSharp_45 : decode i_Bend_isSharp.2.1 45 = .ok (.invokevirtual 38, 3) := by decide +kernel
theorem d_Bend_isSharp_48 : decode i_Bend_isSharp.2.1 48 = .ok (.iload_n 1, 1) := by decide +kernel
theorem d_Bend_isSharp_49 : decode i_Bend_isSharp.2.1 49 = .ok (.if_icmp .lt 7, 3) := by decide +kernel
theorem d_Bend_isSharp_52 : decode i_Bend_isSharp.2.1 52 = .ok (.iconst 1, 1) := by decide +kernel
theorem d_Bend_isSharp_53 : decode i_Bend_isSharp.2.1 53 = .ok (.goto 4, 3) := by decide +kernel
theorem d_Bend_isSharp_56 : decode i_Bend_isSharp.2.1 56 = .ok (.iconst 0, 1) := by decide +kernel
theorem d_Bend_isSharp_57 : decode i_Bend_isSharp.2.1 57 = .ok (.ireturn, 1) := by decide +kernel
theorem d_Bend_greater_0 : decode i_Bend_greater.2.1 0 = .ok (.iload_n 0, 1) := by decide +kernel
theorem d_Bend_greater_1 : decode i_Bend_greater.2.1 1 = .ok (.invokestatic 32, 3) := by decide +kernel
theorem d_Bend_greater_4 : decode i_Bend_greater.2.1 4 = .ok (.iload_n 1, 1) := by decide +kernel
theorem d_Bend_greater_5 : decode i_Bend_greater.2.1 5 = .ok (.invokestatic 32, 3) := by decide +kernel
theorem d_Bend_greater_8 : decode i_Bend_greater.2.1 8 = .ok (.invokestatic 42, 3) := by decide +kernel
theorem d_Bend_greater_11 : decode i_Bend_greater.2.1 11 = .ok (.ireturn, 1) := by decide +kernel
theorem d_Bend_xOnRound_0 : decode i_Bend_xOnRound.2.1 0 = .ok (.iload_n 1, 1) := by decide +kernel
theorem d_Bend_xOnRound_1 : decode i_Bend_xOnRound.2.1 1 = .ok (.aload_n 0, 1) := by decide +kernel
theorem d_Bend_xOnRound_2 : decode i_Bend_xOnRound.2.1 2 = .ok (.getfield 7, 3) := by decide +kernel
theorem d_Bend_xOnRound_5 : decode i_Bend_xOnRound.2.1 5 = .ok (.aload_n 0, 1) := by decide +kernel
theorem d_Bend_xOnRound_6 : decode i_Bend_xOnRound.2.1 6 = .ok (.getfield 16, 3) := by decide +kernel
theorem d_Bend_xOnRound_9 : decode i_Bend_xOnRound.2.1 9 = .ok (.aload_n 0, 1) := by decide +kernel
theorem d_Bend_xOnRound_10 : decode i_Bend_xOnRound.2.1 10 = .ok (.getfield 22, 3) := by decide +kernel
theorem d_Bend_xOnRound_13 : decode i_Bend_xOnRound.2.1 13 = .ok (.invokestatic 45, 3) := by decide +kernel
theorem d_Bend_xOnRound_16 : decode i_Bend_xOnRound.2.1 16 = .ok (.ireturn, 1) := by decide +kernel
theorem d_Bend_yOnRound_0 : decode i_Bend_yOnRound.2.1 0 = .ok (.iload_n 1, 1) := by decide +kernel
theorem d_Bend_yOnRound_1 : decode i_Bend_yOnRound.2.1 1 = .ok (.aload_n 0, 1) := by decide +kernel
theorem d_Bend_yOnRound_2 : decode i_Bend_yOnRound.2.1 2 = .ok (.getfield 13, 3) := by decide +kernel
theorem d_Bend_yOnRound_5 : decode i_Bend_yOnRound.2.1 5 = .ok (.aload_n 0, 1) := by decide +kernel
theorem d_Bend_yOnRound_6 : decode i_Bend_yOnRound.2.1 6 = .ok (.getfield 19, 3) := by decide +kernel
theorem d_Bend_yOnRound_9 : decode i_Bend_yOnRound.2.1 9 = .ok (.aload_n 0, 1) := by decide +kernel
theorem d_Bend_yOnRound_10 : decode i_Bend_yOnRound.2.1 10 = .ok (.getfield 25, 3) := by decide +kernel
theorem d_Bend_yOnRound_13 : decode i_Bend_yOnRound.2.1 13 = .ok (.invokestatic 45, 3) := by decide +kernel
theorem d_Bend_yOnRound_16 : decode i_Bend_yOnRound.2.1 16 = .ok (.ireturn, 1) := by decide +kernel
theorem d_Bend_xOfVertex_0 : decode i_Bend_xOfVertex.2.1 0 = .ok (.bipush 32, 2) := by decide +kernel
theorem d_Bend_xOfVertex_2 : decode i_Bend_xOfVertex.2.1 2 = .ok (.aload_n 0, 1) := by decide +kernel
theorem d_Bend_xOfVertex_3 : decode i_Bend_xOfVertex.2.1 3 = .ok (.getfield 16, 3) := by decide +kernel
theorem d_Bend_xOfVertex_6 : decode i_Bend_xOfVertex.2.1 6 = .ok (.imul, 1) := by decide +kernel
theorem d_Bend_xOfVertex_7 : decode i_Bend_xOfVertex.2.1 7 = .ok (.ireturn, 1) := by decide +kernel
theorem d_Bend_yOfVertex_0 : decode i_Bend_yOfVertex.2.1 0 = .ok (.bipush 32, 2) := by decide +kernel
theorem d_Bend_yOfVertex_2 : decode i_Bend_yOfVertex.2.1 2 = .ok (.aload_n 0, 1) := by decide +kernel
theorem d_Bend_yOfVertex_3 : decode i_Bend_yOfVertex.2.1 3 = .ok (.getfield 19, 3) := by decide +kernel
theorem d_Bend_yOfVertex_6 : decode i_Bend_yOfVertex.2.1 6 = .ok (.imul, 1) := by decide +kernel
theorem d_Bend_yOfVertex_7 : decode i_Bend_yOfVertex.2.1 7 = .ok (.ireturn, 1) := by decide +kernel
theorem d_Bend_xOfNext_0 : decode i_Bend_xOfNext.2.1 0 = .ok (.bipush 32, 2) := by decide +kernel
theorem d_Bend_xOfNext_2 : decode i_Bend_xOfNext.2.1 2 = .ok (.aload_n 0, 1) := by decide +kernel
theorem d_Bend_xOfNext_3 : decode i_Bend_xOfNext.2.1 3 = .ok (.getfield 22, 3) := by decide +kernel
theorem d_Bend_xOfNext_6 : decode i_Bend_xOfNext.2.1 6 = .ok (.imul, 1) := by decide +kernel
theorem d_Bend_xOfNext_7 : decode i_Bend_xOfNext.2.1 7 = .ok (.ireturn, 1) := by decide +kernel
theorem d_Bend_yOfNext_0 : decode i_Bend_yOfNext.2.1 0 = .ok (.bipush 32, 2) := by decide +kernel
theorem d_Bend_yOfNext_2 : decode i_Bend_yOfNext.2.1 2 = .ok (.aload_n 0, 1) := by decide +kernel
theorem d_Bend_yOfNext_3 : decode i_Bend_yOfNext.2.1 3 = .ok (.getfield 25, 3) := by decide +kernel
theorem d_Bend_yOfNext_6 : decode i_Bend_yOfNext.2.1 6 = .ok (.imul, 1) := by decide +kernel
theorem d_Bend_yOfNext_7 : decode i_Bend_yOfNext.2.1 7 = .ok (.ireturn, 1) := by decide +kernel
theorem d_Bend_onRound_0 : decode i_Bend_onRound.2.1 0 = .ok (.iload_n 0, 1) := by decide +kernel
theorem d_Bend_onRound_1 : decode i_Bend_onRound.2.1 1 = .ok (.ifCond .lt 8, 3) := by decide +kernel
theorem d_Bend_onRound_4 : decode i_Bend_onRound.2.1 4 = .ok (.iload_n 0, 1) := by decide +kernel
theorem d_Bend_onRound_5 : decode i_Bend_onRound.2.1 5 = .ok (.iconst 4, 1) := by decide +kernel
theorem d_Bend_onRound_6 : decode i_Bend_onRound.2.1 6 = .ok (.if_icmp .le 5, 3) := by decide +kernel
theorem d_Bend_onRound_9 : decode i_Bend_onRound.2.1 9 = .ok (.iconst 0, 1) := by decide +kernel
theorem d_Bend_onRound_10 : decode i_Bend_onRound.2.1 10 = .ok (.ireturn, 1) := by decide +kernel
theorem d_Bend_onRound_11 : decode i_Bend_onRound.2.1 11 = .ok (.getstatic 49, 3) := by decide +kernel
theorem d_Bend_onRound_14 : decode i_Bend_onRound.2.1 14 = .ok (.iload_n 0, 1) := by decide +kernel
theorem d_Bend_onRound_15 : decode i_Bend_onRound.2.1 15 = .ok (.iaload, 1) := by decide +kernel
theorem d_Bend_onRound_16 : decode i_Bend_onRound.2.1 16 = .ok (.iload_n 1, 1) := by decide +kernel
theorem d_Bend_onRound_17 : decode i_Bend_onRound.2.1 17 = .ok (.iload_n 2, 1) := by decide +kernel
theorem d_Bend_onRound_18 : decode i_Bend_onRound.2.1 18 = .ok (.iadd, 1) := by decide +kernel
theorem d_Bend_onRound_19 : decode i_Bend_onRound.2.1 19 = .ok (.imul, 1) := by decide +kernel
theorem d_Bend_onRound_20 : decode i_Bend_onRound.2.1 20 = .ok (.iconst 2, 1) := by decide +kernel
theorem d_Bend_onRound_21 : decode i_Bend_onRound.2.1 21 = .ok (.getstatic 53, 3) := by decide +kernel
theorem d_Bend_onRound_24 : decode i_Bend_onRound.2.1 24 = .ok (.iload_n 0, 1) := by decide +kernel
theorem d_Bend_onRound_25 : decode i_Bend_onRound.2.1 25 = .ok (.iaload, 1) := by decide +kernel
theorem d_Bend_onRound_26 : decode i_Bend_onRound.2.1 26 = .ok (.imul, 1) := by decide +kernel
theorem d_Bend_onRound_27 : decode i_Bend_onRound.2.1 27 = .ok (.iload_n 2, 1) := by decide +kernel
theorem d_Bend_onRound_28 : decode i_Bend_onRound.2.1 28 = .ok (.imul, 1) := by decide +kernel
theorem d_Bend_onRound_29 : decode i_Bend_onRound.2.1 29 = .ok (.iadd, 1) := by decide +kernel
theorem d_Bend_onRound_30 : decode i_Bend_onRound.2.1 30 = .ok (.getstatic 56, 3) := by decide +kernel
theorem d_Bend_onRound_33 : decode i_Bend_onRound.2.1 33 = .ok (.iload_n 0, 1) := by decide +kernel
theorem d_Bend_onRound_34 : decode i_Bend_onRound.2.1 34 = .ok (.iaload, 1) := by decide +kernel
theorem d_Bend_onRound_35 : decode i_Bend_onRound.2.1 35 = .ok (.iload_n 2, 1) := by decide +kernel
theorem d_Bend_onRound_36 : decode i_Bend_onRound.2.1 36 = .ok (.iload_n 3, 1) := by decide +kernel
theorem d_Bend_onRound_37 : decode i_Bend_onRound.2.1 37 = .ok (.iadd, 1) := by decide +kernel
theorem d_Bend_onRound_38 : decode i_Bend_onRound.2.1 38 = .ok (.imul, 1) := by decide +kernel
theorem d_Bend_onRound_39 : decode i_Bend_onRound.2.1 39 = .ok (.iadd, 1) := by decide +kernel
theorem d_Bend_onRound_40 : decode i_Bend_onRound.2.1 40 = .ok (.ireturn, 1) := by decide +kernel
theorem d_Brd_init_0 : decode i_Brd_init.2.1 0 = .ok (.aload_n 0, 1) := by decide +kernel
theorem d_Brd_init_1 : decode i_Brd_init.2.1 1 = .ok (.invokespecial 1, 3) := by decide +kernel
theorem d_Brd_init_4 : decode i_Brd_init.2.1 4 = .ok (.return_, 1) := by decide +kernel
theorem d_Brd_begin_0 : decode i_Brd_begin.2.1 0 = .ok (.aload_n 0, 1) := by decide +kernel
theorem d_Brd_begin_1 : decode i_Brd_begin.2.1 1 = .ok (.iload_n 1, 1) := by decide +kernel
theorem d_Brd_begin_2 : decode i_Brd_begin.2.1 2 = .ok (.putfield 7, 3) := by decide +kernel
theorem d_Brd_begin_5 : decode i_Brd_begin.2.1 5 = .ok (.aload_n 0, 1) := by decide +kernel
theorem d_Brd_begin_6 : decode i_Brd_begin.2.1 6 = .ok (.iconst 0, 1) := by decide +kernel
theorem d_Brd_begin_7 : decode i_Brd_begin.2.1 7 = .ok (.putfield 13, 3) := by decide +kernel
theorem d_Brd_begin_10 : decode i_Brd_begin.2.1 10 = .ok (.aload_n 0, 1) := by decide +kernel
theorem d_Brd_begin_11 : decode i_Brd_begin.2.1 11 = .ok (.iload_n 2, 1) := by decide +kernel
theorem d_Brd_begin_12 : decode i_Brd_begin.2.1 12 = .ok (.putfield 16, 3) := by decide +kernel
theorem d_Brd_begin_15 : decode i_Brd_begin.2.1 15 = .ok (.aload_n 0, 1) := by decide +kernel
theorem d_Brd_begin_16 : decode i_Brd_begin.2.1 16 = .ok (.lconst 0, 1) := by decide +kernel
theorem d_Brd_begin_17 : decode i_Brd_begin.2.1 17 = .ok (.putfield 19, 3) := by decide +kernel
theorem d_Brd_begin_20 : decode i_Brd_begin.2.1 20 = .ok (.aload_n 0, 1) := by decide +kernel
theorem d_Brd_begin_21 : decode i_Brd_begin.2.1 21 = .ok (.iconst 0, 1) := by decide +kernel
theorem d_Brd_begin_22 : decode i_Brd_begin.2.1 22 = .ok (.putfield 23, 3) := by decide +kernel
theorem d_Brd_begin_25 : decode i_Brd_begin.2.1 25 = .ok (.aload_n 0, 1) := by decide +kernel
theorem d_Brd_begin_26 : decode i_Brd_begin.2.1 26 = .ok (.iconst 0, 1) := by decide +kernel
theorem d_Brd_begin_27 : decode i_Brd_begin.2.1 27 = .ok (.putfield 27, 3) := by decide +kernel
theorem d_Brd_begin_30 : decode i_Brd_begin.2.1 30 = .ok (.aload_n 0, 1) := by decide +kernel
theorem d_Brd_begin_31 : decode i_Brd_begin.2.1 31 = .ok (.iconst 0, 1) := by decide +kernel
theorem d_Brd_begin_32 : decode i_Brd_begin.2.1 32 = .ok (.putfield 30, 3) := by decide +kernel
theorem d_Brd_begin_35 : decode i_Brd_begin.2.1 35 = .ok (.return_, 1) := by decide +kernel
theorem d_Brd_hasCorner_0 : decode i_Brd_hasCorner.2.1 0 = .ok (.iload_n 1, 1) := by decide +kernel
theorem d_Brd_hasCorner_1 : decode i_Brd_hasCorner.2.1 1 = .ok (.ifCond .lt 15, 3) := by decide +kernel
theorem d_Brd_hasCorner_4 : decode i_Brd_hasCorner.2.1 4 = .ok (.iload_n 1, 1) := by decide +kernel
theorem d_Brd_hasCorner_5 : decode i_Brd_hasCorner.2.1 5 = .ok (.aload_n 0, 1) := by decide +kernel
theorem d_Brd_hasCorner_6 : decode i_Brd_hasCorner.2.1 6 = .ok (.getfield 13, 3) := by decide +kernel
theorem d_Brd_hasCorner_9 : decode i_Brd_hasCorner.2.1 9 = .ok (.if_icmp .ge 7, 3) := by decide +kernel
theorem d_Brd_hasCorner_12 : decode i_Brd_hasCorner.2.1 12 = .ok (.iconst 1, 1) := by decide +kernel
theorem d_Brd_hasCorner_13 : decode i_Brd_hasCorner.2.1 13 = .ok (.goto 4, 3) := by decide +kernel
theorem d_Brd_hasCorner_16 : decode i_Brd_hasCorner.2.1 16 = .ok (.iconst 0, 1) := by decide +kernel
theorem d_Brd_hasCorner_17 : decode i_Brd_hasCorner.2.1 17 = .ok (.ireturn, 1) := by decide +kernel
theorem d_Brd_hasVertex_0 : decode i_Brd_hasVertex.2.1 0 = .ok (.iload_n 1, 1) := by decide +kernel
theorem d_Brd_hasVertex_1 : decode i_Brd_hasVertex.2.1 1 = .ok (.ifCond .lt 15, 3) := by decide +kernel
theorem d_Brd_hasVertex_4 : decode i_Brd_hasVertex.2.1 4 = .ok (.iload_n 1, 1) := by decide +kernel
theorem d_Brd_hasVertex_5 : decode i_Brd_hasVertex.2.1 5 = .ok (.aload_n 0, 1) := by decide +kernel
theorem d_Brd_hasVertex_6 : decode i_Brd_hasVertex.2.1 6 = .ok (.getfield 27, 3) := by decide +kernel
theorem d_Brd_hasVertex_9 : decode i_Brd_hasVertex.2.1 9 = .ok (.if_icmp .ge 7, 3) := by decide +kernel
theorem d_Brd_hasVertex_12 : decode i_Brd_hasVertex.2.1 12 = .ok (.iconst 1, 1) := by decide +kernel
theorem d_Brd_hasVertex_13 : decode i_Brd_hasVertex.2.1 13 = .ok (.goto 4, 3) := by decide +kernel
theorem d_Brd_hasVertex_16 : decode i_Brd_hasVertex.2.1 16 = .ok (.iconst 0, 1) := by decide +kernel
theorem d_Brd_hasVertex_17 : decode i_Brd_hasVertex.2.1 17 = .ok (.ireturn, 1) := by decide +kernel
theorem d_Brd_hasStretch_0 : decode i_Brd_hasStretch.2.1 0 = .ok (.aload_n 0, 1) := by decide +kernel
theorem d_Brd_hasStretch_1 : decode i_Brd_hasStretch.2.1 1 = .ok (.iload_n 1, 1) := by decide +kernel
theorem d_Brd_hasStretch_2 : decode i_Brd_hasStretch.2.1 2 = .ok (.invokevirtual 33, 3) := by decide +kernel
theorem d_Brd_hasStretch_5 : decode i_Brd_hasStretch.2.1 5 = .ok (.ifCond .eq 20, 3) := by decide +kernel
theorem d_Brd_hasStretch_8 : decode i_Brd_hasStretch.2.1 8 = .ok (.iload_n 2, 1) := by decide +kernel
theorem d_Brd_hasStretch_9 : decode i_Brd_hasStretch.2.1 9 = .ok (.iconst 1, 1) := by decide +kernel
theorem d_Brd_hasStretch_10 : decode i_Brd_hasStretch.2.1 10 = .ok (.if_icmp .lt 15, 3) := by decide +kernel
theorem d_Brd_hasStretch_13 : decode i_Brd_hasStretch.2.1 13 = .ok (.iload_n 2, 1) := by decide +kernel
theorem d_Brd_hasStretch_14 : decode i_Brd_hasStretch.2.1 14 = .ok (.aload_n 0, 1) := by decide +kernel
theorem d_Brd_hasStretch_15 : decode i_Brd_hasStretch.2.1 15 = .ok (.getfield 13, 3) := by decide +kernel
theorem d_Brd_hasStretch_18 : decode i_Brd_hasStretch.2.1 18 = .ok (.if_icmp .ge 7, 3) := by decide +kernel
theorem d_Brd_hasStretch_21 : decode i_Brd_hasStretch.2.1 21 = .ok (.iconst 1, 1) := by decide +kernel
theorem d_Brd_hasStretch_22 : decode i_Brd_hasStretch.2.1 22 = .ok (.goto 4, 3) := by decide +kernel
theorem d_Brd_hasStretch_25 : decode i_Brd_hasStretch.2.1 25 = .ok (.iconst 0, 1) := by decide +kernel
theorem d_Brd_hasStretch_26 : decode i_Brd_hasStretch.2.1 26 = .ok (.ireturn, 1) := by decide +kernel
theorem d_Brd_place_0 : decode i_Brd_place.2.1 0 = .ok (.iload_n 1, 1) := by decide +kernel
theorem d_Brd_place_1 : decode i_Brd_place.2.1 1 = .ok (.ifCond .lt 10, 3) := by decide +kernel
theorem d_Brd_place_4 : decode i_Brd_place.2.1 4 = .ok (.aload_n 0, 1) := by decide +kernel
theorem d_Brd_place_5 : decode i_Brd_place.2.1 5 = .ok (.getfield 13, 3) := by decide +kernel
theorem d_Brd_place_8 : decode i_Brd_place.2.1 8 = .ok (.ifCond .gt 8, 3) := by decide +kernel
theorem d_Brd_place_11 : decode i_Brd_place.2.1 11 = .ok (.aload_n 0, 1) := by decide +kernel
theorem d_Brd_place_12 : decode i_Brd_place.2.1 12 = .ok (.getfield 7, 3) := by decide +kernel
theorem d_Brd_place_15 : decode i_Brd_place.2.1 15 = .ok (.ireturn, 1) := by decide +kernel
theorem d_Brd_place_16 : decode i_Brd_place.2.1 16 = .ok (.aload_n 0, 1) := by decide +kernel
theorem d_Brd_place_17 : decode i_Brd_place.2.1 17 = .ok (.getfield 7, 3) := by decide +kernel
theorem d_Brd_place_20 : decode i_Brd_place.2.1 20 = .ok (.iload_n 1, 1) := by decide +kernel
theorem d_Brd_place_21 : decode i_Brd_place.2.1 21 = .ok (.aload_n 0, 1) := by decide +kernel
theorem d_Brd_place_22 : decode i_Brd_place.2.1 22 = .ok (.getfield 13, 3) := by decide +kernel
theorem d_Brd_place_25 : decode i_Brd_place.2.1 25 = .ok (.if_icmp .ge 7, 3) := by decide +kernel
theorem d_Brd_place_28 : decode i_Brd_place.2.1 28 = .ok (.iload_n 1, 1) := by decide +kernel
theorem d_Brd_place_29 : decode i_Brd_place.2.1 29 = .ok (.goto 9, 3) := by decide +kernel
theorem d_Brd_place_32 : decode i_Brd_place.2.1 32 = .ok (.iload_n 1, 1) := by decide +kernel
theorem d_Brd_place_33 : decode i_Brd_place.2.1 33 = .ok (.aload_n 0, 1) := by decide +kernel
theorem d_Brd_place_34 : decode i_Brd_place.2.1 34 = .ok (.getfield 13, 3) := by decide +kernel
theorem d_Brd_place_37 : decode i_Brd_place.2.1 37 = .ok (.irem, 1) := by decide +kernel
theorem d_Brd_place_38 : decode i_Brd_place.2.1 38 = .ok (.iadd, 1) := by decide +kernel
theorem d_Brd_place_39 : decode i_Brd_place.2.1 39 = .ok (.ireturn, 1) := by decide +kernel
theorem d_Brs_init_0 : decode i_Brs_init.2.1 0 = .ok (.aload_n 0, 1) := by decide +kernel
theorem d_Brs_init_1 : decode i_Brs_init.2.1 1 = .ok (.invokespecial 1, 3) := by decide +kernel
theorem d_Brs_init_4 : decode i_Brs_init.2.1 4 = .ok (.aload_n 0, 1) := by decide +kernel
theorem d_Brs_init_5 : decode i_Brs_init.2.1 5 = .ok (.sipush 144, 3) := by decide +kernel
theorem d_Brs_init_8 : decode i_Brs_init.2.1 8 = .ok (.newarray .int, 2) := by decide +kernel
theorem d_Brs_init_10 : decode i_Brs_init.2.1 10 = .ok (.putfield 9, 3) := by decide +kernel
theorem d_Brs_init_13 : decode i_Brs_init.2.1 13 = .ok (.aload_n 0, 1) := by decide +kernel
theorem d_Brs_init_14 : decode i_Brs_init.2.1 14 = .ok (.sipush 144, 3) := by decide +kernel
theorem d_Brs_init_17 : decode i_Brs_init.2.1 17 = .ok (.newarray .int, 2) := by decide +kernel
theorem d_Brs_init_19 : decode i_Brs_init.2.1 19 = .ok (.putfield 13, 3) := by decide +kernel
theorem d_Brs_init_22 : decode i_Brs_init.2.1 22 = .ok (.aload_n 0, 1) := by decide +kernel
theorem d_Brs_init_23 : decode i_Brs_init.2.1 23 = .ok (.sipush 144, 3) := by decide +kernel
theorem d_Brs_init_26 : decode i_Brs_init.2.1 26 = .ok (.newarray .int, 2) := by decide +kernel
theorem d_Brs_init_28 : decode i_Brs_init.2.1 28 = .ok (.putfield 16, 3) := by decide +kernel
theorem d_Brs_init_31 : decode i_Brs_init.2.1 31 = .ok (.aload_n 0, 1) := by decide +kernel
theorem d_Brs_init_32 : decode i_Brs_init.2.1 32 = .ok (.bipush 64, 2) := by decide +kernel
theorem d_Brs_init_34 : decode i_Brs_init.2.1 34 = .ok (.anewarray 21, 3) := by decide +kernel
theorem d_Brs_init_37 : decode i_Brs_init.2.1 37 = .ok (.putfield 23, 3) := by decide +kernel
theorem d_Brs_init_40 : decode i_Brs_init.2.1 40 = .ok (.return_, 1) := by decide +kernel
theorem d_Brs_at_0 : decode i_Brs_at.2.1 0 = .ok (.iload_n 1, 1) := by decide +kernel
theorem d_Brs_at_1 : decode i_Brs_at.2.1 1 = .ok (.ifCond .lt 26, 3) := by decide +kernel
theorem d_Brs_at_4 : decode i_Brs_at.2.1 4 = .ok (.iload_n 1, 1) := by decide +kernel
theorem d_Brs_at_5 : decode i_Brs_at.2.1 5 = .ok (.aload_n 0, 1) := by decide +kernel
theorem d_Brs_at_6 : decode i_Brs_at.2.1 6 = .ok (.getfield 27, 3) := by decide +kernel
theorem d_Brs_at_9 : decode i_Brs_at.2.1 9 = .ok (.if_icmp .ge 18, 3) := by decide +kernel
theorem d_Brs_at_12 : decode i_Brs_at.2.1 12 = .ok (.iload_n 1, 1) := by decide +kernel
theorem d_Brs_at_13 : decode i_Brs_at.2.1 13 = .ok (.bipush 64, 2) := by decide +kernel
theorem d_Brs_at_15 : decode i_Brs_at.2.1 15 = .ok (.if_icmp .ge 12, 3) := by decide +kernel
theorem d_Brs_at_18 : decode i_Brs_at.2.1 18 = .ok (.aload_n 0, 1) := by decide +kernel
theorem d_Brs_at_19 : decode i_Brs_at.2.1 19 = .ok (.getfield 23, 3) := by decide +kernel
theorem d_Brs_at_22 : decode i_Brs_at.2.1 22 = .ok (.iload_n 1, 1) := by decide +kernel
theorem d_Brs_at_23 : decode i_Brs_at.2.1 23 = .ok (.aaload, 1) := by decide +kernel
theorem d_Brs_at_24 : decode i_Brs_at.2.1 24 = .ok (.goto 4, 3) := by decide +kernel
theorem d_Brs_at_27 : decode i_Brs_at.2.1 27 = .ok (.aconst_null, 1) := by decide +kernel
theorem d_Brs_at_28 : decode i_Brs_at.2.1 28 = .ok (.areturn, 1) := by decide +kernel
theorem d_Brs_xAt_0 : decode i_Brs_xAt.2.1 0 = .ok (.aload_n 1, 1) := by decide +kernel
theorem d_Brs_xAt_1 : decode i_Brs_xAt.2.1 1 = .ok (.iload_n 2, 1) := by decide +kernel
theorem d_Brs_xAt_2 : decode i_Brs_xAt.2.1 2 = .ok (.invokevirtual 31, 3) := by decide +kernel
theorem d_Brs_xAt_5 : decode i_Brs_xAt.2.1 5 = .ok (.istore_n 3, 1) := by decide +kernel
theorem d_Brs_xAt_6 : decode i_Brs_xAt.2.1 6 = .ok (.iload_n 3, 1) := by decide +kernel
theorem d_Brs_xAt_7 : decode i_Brs_xAt.2.1 7 = .ok (.ifCond .lt 19, 3) := by decide +kernel
theorem d_Brs_xAt_10 : decode i_Brs_xAt.2.1 10 = .ok (.iload_n 3, 1) := by decide +kernel
theorem d_Brs_xAt_11 : decode i_Brs_xAt.2.1 11 = .ok (.sipush 144, 3) := by decide +kernel
theorem d_Brs_xAt_14 : decode i_Brs_xAt.2.1 14 = .ok (.if_icmp .ge 12, 3) := by decide +kernel
theorem d_Brs_xAt_17 : decode i_Brs_xAt.2.1 17 = .ok (.aload_n 0, 1) := by decide +kernel
theorem d_Brs_xAt_18 : decode i_Brs_xAt.2.1 18 = .ok (.getfield 9, 3) := by decide +kernel
theorem d_Brs_xAt_21 : decode i_Brs_xAt.2.1 21 = .ok (.iload_n 3, 1) := by decide +kernel
theorem d_Brs_xAt_22 : decode i_Brs_xAt.2.1 22 = .ok (.iaload, 1) := by decide +kernel
theorem d_Brs_xAt_23 : decode i_Brs_xAt.2.1 23 = .ok (.goto 4, 3) := by decide +kernel
theorem d_Brs_xAt_26 : decode i_Brs_xAt.2.1 26 = .ok (.iconst 0, 1) := by decide +kernel
theorem d_Brs_xAt_27 : decode i_Brs_xAt.2.1 27 = .ok (.ireturn, 1) := by decide +kernel
theorem d_Brs_yAt_0 : decode i_Brs_yAt.2.1 0 = .ok (.aload_n 1, 1) := by decide +kernel
theorem d_Brs_yAt_1 : decode i_Brs_yAt.2.1 1 = .ok (.iload_n 2, 1) := by decide +kernel
theorem d_Brs_yAt_2 : decode i_Brs_yAt.2.1 2 = .ok (.invokevirtual 31, 3) := by decide +kernel
theorem d_Brs_yAt_5 : decode i_Brs_yAt.2.1 5 = .ok (.istore_n 3, 1) := by decide +kernel
theorem d_Brs_yAt_6 : decode i_Brs_yAt.2.1 6 = .ok (.iload_n 3, 1) := by decide +kernel
theorem d_Brs_yAt_7 : decode i_Brs_yAt.2.1 7 = .ok (.ifCond .lt 19, 3) := by decide +kernel
theorem d_Brs_yAt_10 : decode i_Brs_yAt.2.1 10 = .ok (.iload_n 3, 1) := by decide +kernel
theorem d_Brs_yAt_11 : decode i_Brs_yAt.2.1 11 = .ok (.sipush 144, 3) := by decide +kernel
theorem d_Brs_yAt_14 : decode i_Brs_yAt.2.1 14 = .ok (.if_icmp .ge 12, 3) := by decide +kernel
theorem d_Brs_yAt_17 : decode i_Brs_yAt.2.1 17 = .ok (.aload_n 0, 1) := by decide +kernel
theorem d_Brs_yAt_18 : decode i_Brs_yAt.2.1 18 = .ok (.getfield 13, 3) := by decide +kernel
theorem d_Brs_yAt_21 : decode i_Brs_yAt.2.1 21 = .ok (.iload_n 3, 1) := by decide +kernel
theorem d_Brs_yAt_22 : decode i_Brs_yAt.2.1 22 = .ok (.iaload, 1) := by decide +kernel
theorem d_Brs_yAt_23 : decode i_Brs_yAt.2.1 23 = .ok (.goto 4, 3) := by decide +kernel
theorem d_Brs_yAt_26 : decode i_Brs_yAt.2.1 26 = .ok (.iconst 0, 1) := by decide +kernel
theorem d_Brs_yAt_27 : decode i_Brs_yAt.2.1 27 = .ok (.ireturn, 1) := by decide +kernel
theorem d_Brs_wayAt_0 : decode i_Brs_wayAt.2.1 0 = .ok (.aload_n 1, 1) := by decide +kernel
theorem d_Brs_wayAt_1 : decode i_Brs_wayAt.2.1 1 = .ok (.iload_n 2, 1) := by decide +kernel
theorem d_Brs_wayAt_2 : decode i_Brs_wayAt.2.1 2 = .ok (.invokevirtual 31, 3) := by decide +kernel
theorem d_Brs_wayAt_5 : decode i_Brs_wayAt.2.1 5 = .ok (.istore_n 3, 1) := by decide +kernel
theorem d_Brs_wayAt_6 : decode i_Brs_wayAt.2.1 6 = .ok (.iload_n 3, 1) := by decide +kernel
theorem d_Brs_wayAt_7 : decode i_Brs_wayAt.2.1 7 = .ok (.ifCond .lt 19, 3) := by decide +kernel
theorem d_Brs_wayAt_10 : decode i_Brs_wayAt.2.1 10 = .ok (.iload_n 3, 1) := by decide +kernel
theorem d_Brs_wayAt_11 : decode i_Brs_wayAt.2.1 11 = .ok (.sipush 144, 3) := by decide +kernel
theorem d_Brs_wayAt_14 : decode i_Brs_wayAt.2.1 14 = .ok (.if_icmp .ge 12, 3) := by decide +kernel
theorem d_Brs_wayAt_17 : decode i_Brs_wayAt.2.1 17 = .ok (.aload_n 0, 1) := by decide +kernel
theorem d_Brs_wayAt_18 : decode i_Brs_wayAt.2.1 18 = .ok (.getfield 16, 3) := by decide +kernel
theorem d_Brs_wayAt_21 : decode i_Brs_wayAt.2.1 21 = .ok (.iload_n 3, 1) := by decide +kernel
theorem d_Brs_wayAt_22 : decode i_Brs_wayAt.2.1 22 = .ok (.iaload, 1) := by decide +kernel
theorem d_Brs_wayAt_23 : decode i_Brs_wayAt.2.1 23 = .ok (.goto 4, 3) := by decide +kernel
theorem d_Brs_wayAt_26 : decode i_Brs_wayAt.2.1 26 = .ok (.iconst 0, 1) := by decide +kernel
theorem d_Brs_wayAt_27 : decode i_Brs_wayAt.2.1 27 = .ok (.ireturn, 1) := by decide +kernel
theorem d_Brs_turningSteps_0 : decode i_Brs_turningSteps.2.1 0 = .ok (.iconst 0, 1) := by decide +kernel
theorem d_Brs_turningSteps_1 : decode i_Brs_turningSteps.2.1 1 = .ok (.istore_n 2, 1) := by decide +kernel
theorem d_Brs_turningSteps_2 : decode i_Brs_turningSteps.2.1 2 = .ok (.iconst 0, 1) := by decide +kernel
theorem d_Brs_turningSteps_3 : decode i_Brs_turningSteps.2.1 3 = .ok (.istore_n 3, 1) := by decide +kernel
theorem d_Brs_turningSteps_4 : decode i_Brs_turningSteps.2.1 4 = .ok (.iload_n 3, 1) := by decide +kernel
theorem d_Brs_turningSteps_5 : decode i_Brs_turningSteps.2.1 5 = .ok (.aload_n 1, 1) := by decide +kernel
theorem d_Brs_turningSteps_6 : decode i_Brs_turningSteps.2.1 6 = .ok (.getfield 35, 3) := by decide +kernel
theorem d_Brs_turningSteps_9 : decode i_Brs_turningSteps.2.1 9 = .ok (.if_icmp .ge 29, 3) := by decide +kernel
theorem d_Brs_turningSteps_12 : decode i_Brs_turningSteps.2.1 12 = .ok (.aload_n 0, 1) := by decide +kernel
theorem d_Brs_turningSteps_13 : decode i_Brs_turningSteps.2.1 13 = .ok (.aload_n 1, 1) := by decide +kernel
theorem d_Brs_turningSteps_14 : decode i_Brs_turningSteps.2.1 14 = .ok (.iload_n 3, 1) := by decide +kernel
theorem d_Brs_turningSteps_15 : decode i_Brs_turningSteps.2.1 15 = .ok (.invokevirtual 38, 3) := by decide +kernel
theorem d_Brs_turningSteps_18 : decode i_Brs_turningSteps.2.1 18 = .ok (.aload_n 0, 1) := by decide +kernel
theorem d_Brs_turningSteps_19 : decode i_Brs_turningSteps.2.1 19 = .ok (.aload_n 1, 1) := by decide +kernel
theorem d_Brs_turningSteps_20 : decode i_Brs_turningSteps.2.1 20 = .ok (.iload_n 3, 1) := by decide +kernel
theorem d_Brs_turningSteps_21 : decode i_Brs_turningSteps.2.1 21 = .ok (.iconst 1, 1) := by decide +kernel
theorem d_Brs_turningSteps_22 : decode i_Brs_turningSteps.2.1 22 = .ok (.iadd, 1) := by decide +kernel
theorem d_Brs_turningSteps_23 : decode i_Brs_turningSteps.2.1 23 = .ok (.invokevirtual 38, 3) := by decide +kernel
theorem d_Brs_turningSteps_26 : decode i_Brs_turningSteps.2.1 26 = .ok (.if_icmp .eq 6, 3) := by decide +kernel
theorem d_Brs_turningSteps_29 : decode i_Brs_turningSteps.2.1 29 = .ok (.iinc 2 1, 3) := by decide +kernel
theorem d_Brs_turningSteps_32 : decode i_Brs_turningSteps.2.1 32 = .ok (.iinc 3 1, 3) := by decide +kernel
theorem d_Brs_turningSteps_35 : decode i_Brs_turningSteps.2.1 35 = .ok (.goto (-31), 3) := by decide +kernel
theorem d_Brs_turningSteps_38 : decode i_Brs_turningSteps.2.1 38 = .ok (.iload_n 2, 1) := by decide +kernel
theorem d_Brs_turningSteps_39 : decode i_Brs_turningSteps.2.1 39 = .ok (.ireturn, 1) := by decide +kernel
theorem d_Brs_follow_0 : decode i_Brs_follow.2.1 0 = .ok (.aload_n 0, 1) := by decide +kernel
theorem d_Brs_follow_1 : decode i_Brs_follow.2.1 1 = .ok (.getfield 42, 3) := by decide +kernel
theorem d_Brs_follow_4 : decode i_Brs_follow.2.1 4 = .ok (.ifCond .eq 21, 3) := by decide +kernel
theorem d_Brs_follow_7 : decode i_Brs_follow.2.1 7 = .ok (.aload_n 0, 1) := by decide +kernel
theorem d_Brs_follow_8 : decode i_Brs_follow.2.1 8 = .ok (.getfield 46, 3) := by decide +kernel
theorem d_Brs_follow_11 : decode i_Brs_follow.2.1 11 = .ok (.lload_n 1, 1) := by decide +kernel
theorem d_Brs_follow_12 : decode i_Brs_follow.2.1 12 = .ok (.lcmp, 1) := by decide +kernel
theorem d_Brs_follow_13 : decode i_Brs_follow.2.1 13 = .ok (.ifCond .ne 12, 3) := by decide +kernel
theorem d_Brs_follow_16 : decode i_Brs_follow.2.1 16 = .ok (.aload_n 0, 1) := by decide +kernel
theorem d_Brs_follow_17 : decode i_Brs_follow.2.1 17 = .ok (.getfield 50, 3) := by decide +kernel
theorem d_Brs_follow_20 : decode i_Brs_follow.2.1 20 = .ok (.iload_n 3, 1) := by decide +kernel
theorem d_Brs_follow_21 : decode i_Brs_follow.2.1 21 = .ok (.if_icmp .ne 4, 3) := by decide +kernel
theorem d_Brs_follow_24 : decode i_Brs_follow.2.1 24 = .ok (.return_, 1) := by decide +kernel
theorem d_Brs_follow_25 : decode i_Brs_follow.2.1 25 = .ok (.aload_n 0, 1) := by decide +kernel
theorem d_Brs_follow_26 : decode i_Brs_follow.2.1 26 = .ok (.iconst 1, 1) := by decide +kernel
theorem d_Brs_follow_27 : decode i_Brs_follow.2.1 27 = .ok (.putfield 42, 3) := by decide +kernel
theorem d_Brs_follow_30 : decode i_Brs_follow.2.1 30 = .ok (.aload_n 0, 1) := by decide +kernel
theorem d_Brs_follow_31 : decode i_Brs_follow.2.1 31 = .ok (.lload_n 1, 1) := by decide +kernel
theorem d_Brs_follow_32 : decode i_Brs_follow.2.1 32 = .ok (.putfield 46, 3) := by decide +kernel
theorem d_Brs_follow_35 : decode i_Brs_follow.2.1 35 = .ok (.aload_n 0, 1) := by decide +kernel
theorem d_Brs_follow_36 : decode i_Brs_follow.2.1 36 = .ok (.iload_n 3, 1) := by decide +kernel
theorem d_Brs_follow_37 : decode i_Brs_follow.2.1 37 = .ok (.putfield 50, 3) := by decide +kernel
theorem d_Brs_follow_40 : decode i_Brs_follow.2.1 40 = .ok (.aload_n 0, 1) := by decide +kernel
theorem d_Brs_follow_41 : decode i_Brs_follow.2.1 41 = .ok (.iconst 0, 1) := by decide +kernel
theorem d_Brs_follow_42 : decode i_Brs_follow.2.1 42 = .ok (.putfield 27, 3) := by decide +kernel
theorem d_Brs_follow_45 : decode i_Brs_follow.2.1 45 = .ok (.aload_n 0, 1) := by decide +kernel
theorem d_Brs_follow_46 : decode i_Brs_follow.2.1 46 = .ok (.getfield 46, 3) := by decide +kernel
theorem d_Brs_follow_49 : decode i_Brs_follow.2.1 49 = .ok (.lstore 4, 2) := by decide +kernel
theorem d_Brs_follow_51 : decode i_Brs_follow.2.1 51 = .ok (.iconst 0, 1) := by decide +kernel
theorem d_Brs_follow_52 : decode i_Brs_follow.2.1 52 = .ok (.istore 6, 2) := by decide +kernel
theorem d_Brs_follow_54 : decode i_Brs_follow.2.1 54 = .ok (.iconst 0, 1) := by decide +kernel
theorem d_Brs_follow_55 : decode i_Brs_follow.2.1 55 = .ok (.istore 7, 2) := by decide +kernel
theorem d_Brs_follow_57 : decode i_Brs_follow.2.1 57 = .ok (.iload 7, 2) := by decide +kernel
theorem d_Brs_follow_59 : decode i_Brs_follow.2.1 59 = .ok (.bipush 64, 2) := by decide +kernel
theorem d_Brs_follow_61 : decode i_Brs_follow.2.1 61 = .ok (.if_icmp .ge 70, 3) := by decide +kernel
theorem d_Brs_follow_64 : decode i_Brs_follow.2.1 64 = .ok (.lload 4, 2) := by decide +kernel
theorem d_Brs_follow_66 : decode i_Brs_follow.2.1 66 = .ok (.iload 7, 2) := by decide +kernel
theorem d_Brs_follow_68 : decode i_Brs_follow.2.1 68 = .ok (.lushr, 1) := by decide +kernel
theorem d_Brs_follow_69 : decode i_Brs_follow.2.1 69 = .ok (.lconst 1, 1) := by decide +kernel
theorem d_Brs_follow_70 : decode i_Brs_follow.2.1 70 = .ok (.land, 1) := by decide +kernel
theorem d_Brs_follow_71 : decode i_Brs_follow.2.1 71 = .ok (.lconst 1, 1) := by decide +kernel
theorem d_Brs_follow_72 : decode i_Brs_follow.2.1 72 = .ok (.lcmp, 1) := by decide +kernel
theorem d_Brs_follow_73 : decode i_Brs_follow.2.1 73 = .ok (.ifCond .ne 52, 3) := by decide +kernel
theorem d_Brs_follow_76 : decode i_Brs_follow.2.1 76 = .ok (.aload_n 0, 1) := by decide +kernel
theorem d_Brs_follow_77 : decode i_Brs_follow.2.1 77 = .ok (.invokevirtual 53, 3) := by decide +kernel
theorem d_Brs_follow_80 : decode i_Brs_follow.2.1 80 = .ok (.astore 8, 2) := by decide +kernel
theorem d_Brs_follow_82 : decode i_Brs_follow.2.1 82 = .ok (.aload 8, 2) := by decide +kernel
theorem d_Brs_follow_84 : decode i_Brs_follow.2.1 84 = .ok (.ifnonnull 4, 3) := by decide +kernel
theorem d_Brs_follow_87 : decode i_Brs_follow.2.1 87 = .ok (.return_, 1) := by decide +kernel
theorem d_Brs_follow_88 : decode i_Brs_follow.2.1 88 = .ok (.aload 8, 2) := by decide +kernel
theorem d_Brs_follow_90 : decode i_Brs_follow.2.1 90 = .ok (.iload 6, 2) := by decide +kernel
theorem d_Brs_follow_92 : decode i_Brs_follow.2.1 92 = .ok (.iload 7, 2) := by decide +kernel
theorem d_Brs_follow_94 : decode i_Brs_follow.2.1 94 = .ok (.invokevirtual 57, 3) := by decide +kernel
theorem d_Brs_follow_97 : decode i_Brs_follow.2.1 97 = .ok (.aload_n 0, 1) := by decide +kernel
theorem d_Brs_follow_98 : decode i_Brs_follow.2.1 98 = .ok (.aload 8, 2) := by decide +kernel
theorem d_Brs_follow_100 : decode i_Brs_follow.2.1 100 = .ok (.lload 4, 2) := by decide +kernel
theorem d_Brs_follow_102 : decode i_Brs_follow.2.1 102 = .ok (.invokevirtual 61, 3) := by decide +kernel
theorem d_Brs_follow_105 : decode i_Brs_follow.2.1 105 = .ok (.iload 6, 2) := by decide +kernel
theorem d_Brs_follow_107 : decode i_Brs_follow.2.1 107 = .ok (.aload 8, 2) := by decide +kernel
theorem d_Brs_follow_109 : decode i_Brs_follow.2.1 109 = .ok (.getfield 35, 3) := by decide +kernel
theorem d_Brs_follow_112 : decode i_Brs_follow.2.1 112 = .ok (.iadd, 1) := by decide +kernel
theorem d_Brs_follow_113 : decode i_Brs_follow.2.1 113 = .ok (.istore 6, 2) := by decide +kernel
theorem d_Brs_follow_115 : decode i_Brs_follow.2.1 115 = .ok (.lload 4, 2) := by decide +kernel
theorem d_Brs_follow_117 : decode i_Brs_follow.2.1 117 = .ok (.aload 8, 2) := by decide +kernel
theorem d_Brs_follow_119 : decode i_Brs_follow.2.1 119 = .ok (.getfield 65, 3) := by decide +kernel
theorem d_Brs_follow_122 : decode i_Brs_follow.2.1 122 = .ok (.lxor, 1) := by decide +kernel
theorem d_Brs_follow_123 : decode i_Brs_follow.2.1 123 = .ok (.lstore 4, 2) := by decide +kernel
theorem d_Brs_follow_125 : decode i_Brs_follow.2.1 125 = .ok (.iinc 7 1, 3) := by decide +kernel
theorem d_Brs_follow_128 : decode i_Brs_follow.2.1 128 = .ok (.goto (-71), 3) := by decide +kernel
theorem d_Brs_follow_131 : decode i_Brs_follow.2.1 131 = .ok (.return_, 1) := by decide +kernel
theorem d_Brs_nextBorder_0 : decode i_Brs_nextBorder.2.1 0 = .ok (.aload_n 0, 1) := by decide +kernel
theorem d_Brs_nextBorder_1 : decode i_Brs_nextBorder.2.1 1 = .ok (.getfield 27, 3) := by decide +kernel
theorem d_Brs_nextBorder_4 : decode i_Brs_nextBorder.2.1 4 = .ok (.ifCond .lt 12, 3) := by decide +kernel
theorem d_Brs_nextBorder_7 : decode i_Brs_nextBorder.2.1 7 = .ok (.aload_n 0, 1) := by decide +kernel
theorem d_Brs_nextBorder_8 : decode i_Brs_nextBorder.2.1 8 = .ok (.getfield 27, 3) := by decide +kernel
theorem d_Brs_nextBorder_11 : decode i_Brs_nextBorder.2.1 11 = .ok (.bipush 64, 2) := by decide +kernel
theorem d_Brs_nextBorder_13 : decode i_Brs_nextBorder.2.1 13 = .ok (.if_icmp .lt 5, 3) := by decide +kernel
theorem d_Brs_nextBorder_16 : decode i_Brs_nextBorder.2.1 16 = .ok (.aconst_null, 1) := by decide +kernel
theorem d_Brs_nextBorder_17 : decode i_Brs_nextBorder.2.1 17 = .ok (.areturn, 1) := by decide +kernel
theorem d_Brs_nextBorder_18 : decode i_Brs_nextBorder.2.1 18 = .ok (.aload_n 0, 1) := by decide +kernel
theorem d_Brs_nextBorder_19 : decode i_Brs_nextBorder.2.1 19 = .ok (.getfield 23, 3) := by decide +kernel
theorem d_Brs_nextBorder_22 : decode i_Brs_nextBorder.2.1 22 = .ok (.aload_n 0, 1) := by decide +kernel
theorem d_Brs_nextBorder_23 : decode i_Brs_nextBorder.2.1 23 = .ok (.getfield 27, 3) := by decide +kernel
theorem d_Brs_nextBorder_26 : decode i_Brs_nextBorder.2.1 26 = .ok (.aaload, 1) := by decide +kernel
theorem d_Brs_nextBorder_27 : decode i_Brs_nextBorder.2.1 27 = .ok (.ifnonnull 19, 3) := by decide +kernel
theorem d_Brs_nextBorder_30 : decode i_Brs_nextBorder.2.1 30 = .ok (.aload_n 0, 1) := by decide +kernel
theorem d_Brs_nextBorder_31 : decode i_Brs_nextBorder.2.1 31 = .ok (.getfield 23, 3) := by decide +kernel
theorem d_Brs_nextBorder_34 : decode i_Brs_nextBorder.2.1 34 = .ok (.aload_n 0, 1) := by decide +kernel
theorem d_Brs_nextBorder_35 : decode i_Brs_nextBorder.2.1 35 = .ok (.getfield 27, 3) := by decide +kernel
theorem d_Brs_nextBorder_38 : decode i_Brs_nextBorder.2.1 38 = .ok (.new 21, 3) := by decide +kernel
theorem d_Brs_nextBorder_41 : decode i_Brs_nextBorder.2.1 41 = .ok (.dup, 1) := by decide +kernel
theorem d_Brs_nextBorder_42 : decode i_Brs_nextBorder.2.1 42 = .ok (.invokespecial 68, 3) := by decide +kernel
theorem d_Brs_nextBorder_45 : decode i_Brs_nextBorder.2.1 45 = .ok (.aastore, 1) := by decide +kernel
theorem d_Brs_nextBorder_46 : decode i_Brs_nextBorder.2.1 46 = .ok (.aload_n 0, 1) := by decide +kernel
theorem d_Brs_nextBorder_47 : decode i_Brs_nextBorder.2.1 47 = .ok (.dup, 1) := by decide +kernel
theorem d_Brs_nextBorder_48 : decode i_Brs_nextBorder.2.1 48 = .ok (.getfield 27, 3) := by decide +kernel
theorem d_Brs_nextBorder_51 : decode i_Brs_nextBorder.2.1 51 = .ok (.iconst 1, 1) := by decide +kernel
theorem d_Brs_nextBorder_52 : decode i_Brs_nextBorder.2.1 52 = .ok (.iadd, 1) := by decide +kernel
theorem d_Brs_nextBorder_53 : decode i_Brs_nextBorder.2.1 53 = .ok (.putfield 27, 3) := by decide +kernel
theorem d_Brs_nextBorder_56 : decode i_Brs_nextBorder.2.1 56 = .ok (.aload_n 0, 1) := by decide +kernel
theorem d_Brs_nextBorder_57 : decode i_Brs_nextBorder.2.1 57 = .ok (.getfield 23, 3) := by decide +kernel
theorem d_Brs_nextBorder_60 : decode i_Brs_nextBorder.2.1 60 = .ok (.aload_n 0, 1) := by decide +kernel
theorem d_Brs_nextBorder_61 : decode i_Brs_nextBorder.2.1 61 = .ok (.getfield 27, 3) := by decide +kernel
theorem d_Brs_nextBorder_64 : decode i_Brs_nextBorder.2.1 64 = .ok (.iconst 1, 1) := by decide +kernel
theorem d_Brs_nextBorder_65 : decode i_Brs_nextBorder.2.1 65 = .ok (.isub, 1) := by decide +kernel
theorem d_Brs_nextBorder_66 : decode i_Brs_nextBorder.2.1 66 = .ok (.aaload, 1) := by decide +kernel
theorem d_Brs_nextBorder_67 : decode i_Brs_nextBorder.2.1 67 = .ok (.areturn, 1) := by decide +kernel
theorem d_Brs_walk_0 : decode i_Brs_walk.2.1 0 = .ok (.aload_n 1, 1) := by decide +kernel
theorem d_Brs_walk_1 : decode i_Brs_walk.2.1 1 = .ok (.getfield 69, 3) := by decide +kernel
theorem d_Brs_walk_4 : decode i_Brs_walk.2.1 4 = .ok (.invokestatic 72, 3) := by decide +kernel
theorem d_Brs_walk_7 : decode i_Brs_walk.2.1 7 = .ok (.istore 4, 2) := by decide +kernel
theorem d_Brs_walk_9 : decode i_Brs_walk.2.1 9 = .ok (.aload_n 1, 1) := by decide +kernel
theorem d_Brs_walk_10 : decode i_Brs_walk.2.1 10 = .ok (.getfield 69, 3) := by decide +kernel
theorem d_Brs_walk_13 : decode i_Brs_walk.2.1 13 = .ok (.invokestatic 75, 3) := by decide +kernel
theorem d_Brs_walk_16 : decode i_Brs_walk.2.1 16 = .ok (.istore 5, 2) := by decide +kernel
theorem d_Brs_walk_18 : decode i_Brs_walk.2.1 18 = .ok (.iload 4, 2) := by decide +kernel
theorem d_Brs_walk_20 : decode i_Brs_walk.2.1 20 = .ok (.istore 6, 2) := by decide +kernel
theorem d_Brs_walk_22 : decode i_Brs_walk.2.1 22 = .ok (.iload 5, 2) := by decide +kernel
theorem d_Brs_walk_24 : decode i_Brs_walk.2.1 24 = .ok (.istore 7, 2) := by decide +kernel
theorem d_Brs_walk_26 : decode i_Brs_walk.2.1 26 = .ok (.iconst 0, 1) := by decide +kernel
theorem d_Brs_walk_27 : decode i_Brs_walk.2.1 27 = .ok (.istore 8, 2) := by decide +kernel
theorem d_Brs_walk_29 : decode i_Brs_walk.2.1 29 = .ok (.aload_n 1, 1) := by decide +kernel
theorem d_Brs_walk_30 : decode i_Brs_walk.2.1 30 = .ok (.getfield 78, 3) := by decide +kernel
theorem d_Brs_walk_33 : decode i_Brs_walk.2.1 33 = .ok (.iconst 0, 1) := by decide +kernel
theorem d_Brs_walk_34 : decode i_Brs_walk.2.1 34 = .ok (.invokestatic 81, 3) := by decide +kernel
theorem d_Brs_walk_37 : decode i_Brs_walk.2.1 37 = .ok (.istore 9, 2) := by decide +kernel
theorem d_Brs_walk_39 : decode i_Brs_walk.2.1 39 = .ok (.iload 9, 2) := by decide +kernel
theorem d_Brs_walk_41 : decode i_Brs_walk.2.1 41 = .ok (.sipush 144, 3) := by decide +kernel
theorem d_Brs_walk_44 : decode i_Brs_walk.2.1 44 = .ok (.if_icmp .ge 170, 3) := by decide +kernel
theorem d_Brs_walk_47 : decode i_Brs_walk.2.1 47 = .ok (.aload_n 0, 1) := by decide +kernel
theorem d_Brs_walk_48 : decode i_Brs_walk.2.1 48 = .ok (.getfield 9, 3) := by decide +kernel
theorem d_Brs_walk_51 : decode i_Brs_walk.2.1 51 = .ok (.iload 9, 2) := by decide +kernel
theorem d_Brs_walk_53 : decode i_Brs_walk.2.1 53 = .ok (.iload 6, 2) := by decide +kernel
theorem d_Brs_walk_55 : decode i_Brs_walk.2.1 55 = .ok (.iastore, 1) := by decide +kernel
theorem d_Brs_walk_56 : decode i_Brs_walk.2.1 56 = .ok (.aload_n 0, 1) := by decide +kernel
theorem d_Brs_walk_57 : decode i_Brs_walk.2.1 57 = .ok (.getfield 13, 3) := by decide +kernel
theorem d_Brs_walk_60 : decode i_Brs_walk.2.1 60 = .ok (.iload 9, 2) := by decide +kernel
theorem d_Brs_walk_62 : decode i_Brs_walk.2.1 62 = .ok (.iload 7, 2) := by decide +kernel
theorem d_Brs_walk_64 : decode i_Brs_walk.2.1 64 = .ok (.iastore, 1) := by decide +kernel
theorem d_Brs_walk_65 : decode i_Brs_walk.2.1 65 = .ok (.aload_n 0, 1) := by decide +kernel
theorem d_Brs_walk_66 : decode i_Brs_walk.2.1 66 = .ok (.getfield 16, 3) := by decide +kernel
theorem d_Brs_walk_69 : decode i_Brs_walk.2.1 69 = .ok (.iload 9, 2) := by decide +kernel
theorem d_Brs_walk_71 : decode i_Brs_walk.2.1 71 = .ok (.iload 8, 2) := by decide +kernel
theorem d_Brs_walk_73 : decode i_Brs_walk.2.1 73 = .ok (.iastore, 1) := by decide +kernel
theorem d_Brs_walk_74 : decode i_Brs_walk.2.1 74 = .ok (.aload_n 1, 1) := by decide +kernel
theorem d_Brs_walk_75 : decode i_Brs_walk.2.1 75 = .ok (.dup, 1) := by decide +kernel
theorem d_Brs_walk_76 : decode i_Brs_walk.2.1 76 = .ok (.getfield 35, 3) := by decide +kernel
theorem d_Brs_walk_79 : decode i_Brs_walk.2.1 79 = .ok (.iconst 1, 1) := by decide +kernel
theorem d_Brs_walk_80 : decode i_Brs_walk.2.1 80 = .ok (.iadd, 1) := by decide +kernel
theorem d_Brs_walk_81 : decode i_Brs_walk.2.1 81 = .ok (.putfield 35, 3) := by decide +kernel
theorem d_Brs_walk_84 : decode i_Brs_walk.2.1 84 = .ok (.aload_n 1, 1) := by decide +kernel
theorem d_Brs_walk_85 : decode i_Brs_walk.2.1 85 = .ok (.dup, 1) := by decide +kernel
theorem d_Brs_walk_86 : decode i_Brs_walk.2.1 86 = .ok (.getfield 65, 3) := by decide +kernel
theorem d_Brs_walk_89 : decode i_Brs_walk.2.1 89 = .ok (.iload 6, 2) := by decide +kernel
theorem d_Brs_walk_91 : decode i_Brs_walk.2.1 91 = .ok (.iload 7, 2) := by decide +kernel
theorem d_Brs_walk_93 : decode i_Brs_walk.2.1 93 = .ok (.iload 8, 2) := by decide +kernel
theorem d_Brs_walk_95 : decode i_Brs_walk.2.1 95 = .ok (.invokestatic 87, 3) := by decide +kernel
theorem d_Brs_walk_98 : decode i_Brs_walk.2.1 98 = .ok (.lxor, 1) := by decide +kernel
theorem d_Brs_walk_99 : decode i_Brs_walk.2.1 99 = .ok (.putfield 65, 3) := by decide +kernel
theorem d_Brs_walk_102 : decode i_Brs_walk.2.1 102 = .ok (.iload 6, 2) := by decide +kernel
theorem d_Brs_walk_104 : decode i_Brs_walk.2.1 104 = .ok (.getstatic 91, 3) := by decide +kernel
theorem d_Brs_walk_107 : decode i_Brs_walk.2.1 107 = .ok (.iload 8, 2) := by decide +kernel
theorem d_Brs_walk_109 : decode i_Brs_walk.2.1 109 = .ok (.iconst 3, 1) := by decide +kernel
theorem d_Brs_walk_110 : decode i_Brs_walk.2.1 110 = .ok (.iand, 1) := by decide +kernel
theorem d_Brs_walk_111 : decode i_Brs_walk.2.1 111 = .ok (.iaload, 1) := by decide +kernel
theorem d_Brs_walk_112 : decode i_Brs_walk.2.1 112 = .ok (.iadd, 1) := by decide +kernel
theorem d_Brs_walk_113 : decode i_Brs_walk.2.1 113 = .ok (.istore 6, 2) := by decide +kernel
theorem d_Brs_walk_115 : decode i_Brs_walk.2.1 115 = .ok (.iload 7, 2) := by decide +kernel
theorem d_Brs_walk_117 : decode i_Brs_walk.2.1 117 = .ok (.getstatic 94, 3) := by decide +kernel
theorem d_Brs_walk_120 : decode i_Brs_walk.2.1 120 = .ok (.iload 8, 2) := by decide +kernel
theorem d_Brs_walk_122 : decode i_Brs_walk.2.1 122 = .ok (.iconst 3, 1) := by decide +kernel
theorem d_Brs_walk_123 : decode i_Brs_walk.2.1 123 = .ok (.iand, 1) := by decide +kernel
theorem d_Brs_walk_124 : decode i_Brs_walk.2.1 124 = .ok (.iaload, 1) := by decide +kernel
theorem d_Brs_walk_125 : decode i_Brs_walk.2.1 125 = .ok (.iadd, 1) := by decide +kernel
theorem d_Brs_walk_126 : decode i_Brs_walk.2.1 126 = .ok (.istore 7, 2) := by decide +kernel
theorem d_Brs_walk_128 : decode i_Brs_walk.2.1 128 = .ok (.lload_n 2, 1) := by decide +kernel
theorem d_Brs_walk_129 : decode i_Brs_walk.2.1 129 = .ok (.iload 6, 2) := by decide +kernel
theorem d_Brs_walk_131 : decode i_Brs_walk.2.1 131 = .ok (.iload 7, 2) := by decide +kernel
theorem d_Brs_walk_133 : decode i_Brs_walk.2.1 133 = .ok (.iload 8, 2) := by decide +kernel
theorem d_Brs_walk_135 : decode i_Brs_walk.2.1 135 = .ok (.invokestatic 97, 3) := by decide +kernel
theorem d_Brs_walk_138 : decode i_Brs_walk.2.1 138 = .ok (.land, 1) := by decide +kernel
theorem d_Brs_walk_139 : decode i_Brs_walk.2.1 139 = .ok (.lconst 0, 1) := by decide +kernel
theorem d_Brs_walk_140 : decode i_Brs_walk.2.1 140 = .ok (.lcmp, 1) := by decide +kernel
theorem d_Brs_walk_141 : decode i_Brs_walk.2.1 141 = .ok (.ifCond .eq 7, 3) := by decide +kernel
theorem d_Brs_walk_144 : decode i_Brs_walk.2.1 144 = .ok (.iconst 1, 1) := by decide +kernel
theorem d_Brs_walk_145 : decode i_Brs_walk.2.1 145 = .ok (.goto 4, 3) := by decide +kernel
theorem d_Brs_walk_148 : decode i_Brs_walk.2.1 148 = .ok (.iconst 0, 1) := by decide +kernel
theorem d_Brs_walk_149 : decode i_Brs_walk.2.1 149 = .ok (.istore 10, 2) := by decide +kernel
theorem d_Brs_walk_151 : decode i_Brs_walk.2.1 151 = .ok (.lload_n 2, 1) := by decide +kernel
theorem d_Brs_walk_152 : decode i_Brs_walk.2.1 152 = .ok (.iload 6, 2) := by decide +kernel
theorem d_Brs_walk_154 : decode i_Brs_walk.2.1 154 = .ok (.iload 7, 2) := by decide +kernel
theorem d_Brs_walk_156 : decode i_Brs_walk.2.1 156 = .ok (.iload 8, 2) := by decide +kernel
theorem d_Brs_walk_158 : decode i_Brs_walk.2.1 158 = .ok (.iconst 1, 1) := by decide +kernel
theorem d_Brs_walk_159 : decode i_Brs_walk.2.1 159 = .ok (.iadd, 1) := by decide +kernel
theorem d_Brs_walk_160 : decode i_Brs_walk.2.1 160 = .ok (.invokestatic 97, 3) := by decide +kernel
theorem d_Brs_walk_163 : decode i_Brs_walk.2.1 163 = .ok (.land, 1) := by decide +kernel
theorem d_Brs_walk_164 : decode i_Brs_walk.2.1 164 = .ok (.lconst 0, 1) := by decide +kernel
theorem d_Brs_walk_165 : decode i_Brs_walk.2.1 165 = .ok (.lcmp, 1) := by decide +kernel
theorem d_Brs_walk_166 : decode i_Brs_walk.2.1 166 = .ok (.ifCond .eq 7, 3) := by decide +kernel
theorem d_Brs_walk_169 : decode i_Brs_walk.2.1 169 = .ok (.iconst 1, 1) := by decide +kernel
theorem d_Brs_walk_170 : decode i_Brs_walk.2.1 170 = .ok (.goto 4, 3) := by decide +kernel
theorem d_Brs_walk_173 : decode i_Brs_walk.2.1 173 = .ok (.iconst 0, 1) := by decide +kernel
theorem d_Brs_walk_174 : decode i_Brs_walk.2.1 174 = .ok (.istore 11, 2) := by decide +kernel
theorem d_Brs_walk_176 : decode i_Brs_walk.2.1 176 = .ok (.aload_n 0, 1) := by decide +kernel
theorem d_Brs_walk_177 : decode i_Brs_walk.2.1 177 = .ok (.iload 8, 2) := by decide +kernel
theorem d_Brs_walk_179 : decode i_Brs_walk.2.1 179 = .ok (.iload 10, 2) := by decide +kernel
theorem d_Brs_walk_181 : decode i_Brs_walk.2.1 181 = .ok (.iload 11, 2) := by decide +kernel
theorem d_Brs_walk_183 : decode i_Brs_walk.2.1 183 = .ok (.invokevirtual 100, 3) := by decide +kernel
theorem d_Brs_walk_186 : decode i_Brs_walk.2.1 186 = .ok (.istore 8, 2) := by decide +kernel
theorem d_Brs_walk_188 : decode i_Brs_walk.2.1 188 = .ok (.iload 6, 2) := by decide +kernel
theorem d_Brs_walk_190 : decode i_Brs_walk.2.1 190 = .ok (.iload 4, 2) := by decide +kernel
theorem d_Brs_walk_192 : decode i_Brs_walk.2.1 192 = .ok (.if_icmp .ne 16, 3) := by decide +kernel
theorem d_Brs_walk_195 : decode i_Brs_walk.2.1 195 = .ok (.iload 7, 2) := by decide +kernel
theorem d_Brs_walk_197 : decode i_Brs_walk.2.1 197 = .ok (.iload 5, 2) := by decide +kernel
theorem d_Brs_walk_199 : decode i_Brs_walk.2.1 199 = .ok (.if_icmp .ne 9, 3) := by decide +kernel
theorem d_Brs_walk_202 : decode i_Brs_walk.2.1 202 = .ok (.iload 8, 2) := by decide +kernel
theorem d_Brs_walk_204 : decode i_Brs_walk.2.1 204 = .ok (.ifCond .ne 4, 3) := by decide +kernel
theorem d_Brs_walk_207 : decode i_Brs_walk.2.1 207 = .ok (.return_, 1) := by decide +kernel
theorem d_Brs_walk_208 : decode i_Brs_walk.2.1 208 = .ok (.iinc 9 1, 3) := by decide +kernel
theorem d_Brs_walk_211 : decode i_Brs_walk.2.1 211 = .ok (.goto (-172), 3) := by decide +kernel
theorem d_Brs_walk_214 : decode i_Brs_walk.2.1 214 = .ok (.return_, 1) := by decide +kernel
theorem d_Brs_dotsRightOf_0 : decode i_Brs_dotsRightOf.2.1 0 = .ok (.iload_n 2, 1) := by decide +kernel
theorem d_Brs_dotsRightOf_1 : decode i_Brs_dotsRightOf.2.1 1 = .ok (.iconst 1, 1) := by decide +kernel
theorem d_Brs_dotsRightOf_2 : decode i_Brs_dotsRightOf.2.1 2 = .ok (.if_icmp .ne 9, 3) := by decide +kernel
theorem d_Brs_dotsRightOf_5 : decode i_Brs_dotsRightOf.2.1 5 = .ok (.iload_n 0, 1) := by decide +kernel
theorem d_Brs_dotsRightOf_6 : decode i_Brs_dotsRightOf.2.1 6 = .ok (.iload_n 1, 1) := by decide +kernel
theorem d_Brs_dotsRightOf_7 : decode i_Brs_dotsRightOf.2.1 7 = .ok (.invokestatic 104, 3) := by decide +kernel
theorem d_Brs_dotsRightOf_10 : decode i_Brs_dotsRightOf.2.1 10 = .ok (.lreturn, 1) := by decide +kernel
theorem d_Brs_dotsRightOf_11 : decode i_Brs_dotsRightOf.2.1 11 = .ok (.iload_n 2, 1) := by decide +kernel
theorem d_Brs_dotsRightOf_12 : decode i_Brs_dotsRightOf.2.1 12 = .ok (.iconst 3, 1) := by decide +kernel
theorem d_Brs_dotsRightOf_13 : decode i_Brs_dotsRightOf.2.1 13 = .ok (.if_icmp .ne 13, 3) := by decide +kernel
theorem d_Brs_dotsRightOf_16 : decode i_Brs_dotsRightOf.2.1 16 = .ok (.iload_n 0, 1) := by decide +kernel
theorem d_Brs_dotsRightOf_17 : decode i_Brs_dotsRightOf.2.1 17 = .ok (.iload_n 1, 1) := by decide +kernel
theorem d_Brs_dotsRightOf_18 : decode i_Brs_dotsRightOf.2.1 18 = .ok (.iconst 1, 1) := by decide +kernel
theorem d_Brs_dotsRightOf_19 : decode i_Brs_dotsRightOf.2.1 19 = .ok (.isub, 1) := by decide +kernel
theorem d_Brs_dotsRightOf_20 : decode i_Brs_dotsRightOf.2.1 20 = .ok (.invokestatic 104, 3) := by decide +kernel
theorem d_Brs_dotsRightOf_23 : decode i_Brs_dotsRightOf.2.1 23 = .ok (.goto 4, 3) := by decide +kernel
theorem d_Brs_dotsRightOf_26 : decode i_Brs_dotsRightOf.2.1 26 = .ok (.lconst 0, 1) := by decide +kernel
theorem d_Brs_dotsRightOf_27 : decode i_Brs_dotsRightOf.2.1 27 = .ok (.lreturn, 1) := by decide +kernel
theorem d_Brs_dotAhead_0 : decode i_Brs_dotAhead.2.1 0 = .ok (.iload_n 0, 1) := by decide +kernel
theorem d_Brs_dotAhead_1 : decode i_Brs_dotAhead.2.1 1 = .ok (.getstatic 108, 3) := by decide +kernel
theorem d_Brs_dotAhead_4 : decode i_Brs_dotAhead.2.1 4 = .ok (.iload_n 2, 1) := by decide +kernel
theorem d_Brs_dotAhead_5 : decode i_Brs_dotAhead.2.1 5 = .ok (.iconst 3, 1) := by decide +kernel
theorem d_Brs_dotAhead_6 : decode i_Brs_dotAhead.2.1 6 = .ok (.iand, 1) := by decide +kernel
theorem d_Brs_dotAhead_7 : decode i_Brs_dotAhead.2.1 7 = .ok (.iaload, 1) := by decide +kernel
theorem d_Brs_dotAhead_8 : decode i_Brs_dotAhead.2.1 8 = .ok (.iadd, 1) := by decide +kernel
theorem d_Brs_dotAhead_9 : decode i_Brs_dotAhead.2.1 9 = .ok (.iload_n 1, 1) := by decide +kernel
theorem d_Brs_dotAhead_10 : decode i_Brs_dotAhead.2.1 10 = .ok (.getstatic 111, 3) := by decide +kernel
theorem d_Brs_dotAhead_13 : decode i_Brs_dotAhead.2.1 13 = .ok (.iload_n 2, 1) := by decide +kernel
theorem d_Brs_dotAhead_14 : decode i_Brs_dotAhead.2.1 14 = .ok (.iconst 3, 1) := by decide +kernel
theorem d_Brs_dotAhead_15 : decode i_Brs_dotAhead.2.1 15 = .ok (.iand, 1) := by decide +kernel
theorem d_Brs_dotAhead_16 : decode i_Brs_dotAhead.2.1 16 = .ok (.iaload, 1) := by decide +kernel
theorem d_Brs_dotAhead_17 : decode i_Brs_dotAhead.2.1 17 = .ok (.iadd, 1) := by decide +kernel
theorem d_Brs_dotAhead_18 : decode i_Brs_dotAhead.2.1 18 = .ok (.invokestatic 114, 3) := by decide +kernel
theorem d_Brs_dotAhead_21 : decode i_Brs_dotAhead.2.1 21 = .ok (.lreturn, 1) := by decide +kernel
theorem d_Brs_nextWay_0 : decode i_Brs_nextWay.2.1 0 = .ok (.iload_n 3, 1) := by decide +kernel
theorem d_Brs_nextWay_1 : decode i_Brs_nextWay.2.1 1 = .ok (.ifCond .eq 9, 3) := by decide +kernel
theorem d_Brs_nextWay_4 : decode i_Brs_nextWay.2.1 4 = .ok (.iload_n 2, 1) := by decide +kernel
theorem d_Brs_nextWay_5 : decode i_Brs_nextWay.2.1 5 = .ok (.ifCond .ne 5, 3) := by decide +kernel
theorem d_Brs_nextWay_8 : decode i_Brs_nextWay.2.1 8 = .ok (.iload_n 1, 1) := by decide +kernel
theorem d_Brs_nextWay_9 : decode i_Brs_nextWay.2.1 9 = .ok (.ireturn, 1) := by decide +kernel
theorem d_Brs_nextWay_10 : decode i_Brs_nextWay.2.1 10 = .ok (.iload_n 2, 1) := by decide +kernel
theorem d_Brs_nextWay_11 : decode i_Brs_nextWay.2.1 11 = .ok (.ifCond .eq 19, 3) := by decide +kernel
theorem d_Brs_nextWay_14 : decode i_Brs_nextWay.2.1 14 = .ok (.iload_n 3, 1) := by decide +kernel
theorem d_Brs_nextWay_15 : decode i_Brs_nextWay.2.1 15 = .ok (.ifCond .ne 11, 3) := by decide +kernel
theorem d_Brs_nextWay_18 : decode i_Brs_nextWay.2.1 18 = .ok (.aload_n 0, 1) := by decide +kernel
theorem d_Brs_nextWay_19 : decode i_Brs_nextWay.2.1 19 = .ok (.getfield 50, 3) := by decide +kernel
theorem d_Brs_nextWay_22 : decode i_Brs_nextWay.2.1 22 = .ok (.iconst 1, 1) := by decide +kernel
theorem d_Brs_nextWay_23 : decode i_Brs_nextWay.2.1 23 = .ok (.if_icmp .ne 7, 3) := by decide +kernel
theorem d_Brs_nextWay_26 : decode i_Brs_nextWay.2.1 26 = .ok (.iconst 1, 1) := by decide +kernel
theorem d_Brs_nextWay_27 : decode i_Brs_nextWay.2.1 27 = .ok (.goto 4, 3) := by decide +kernel
theorem d_Brs_nextWay_30 : decode i_Brs_nextWay.2.1 30 = .ok (.iconst 0, 1) := by decide +kernel
theorem d_Brs_nextWay_31 : decode i_Brs_nextWay.2.1 31 = .ok (.istore 4, 2) := by decide +kernel
theorem d_Brs_nextWay_33 : decode i_Brs_nextWay.2.1 33 = .ok (.iload 4, 2) := by decide +kernel
theorem d_Brs_nextWay_35 : decode i_Brs_nextWay.2.1 35 = .ok (.ifCond .eq 9, 3) := by decide +kernel
theorem d_Brs_nextWay_38 : decode i_Brs_nextWay.2.1 38 = .ok (.iload_n 1, 1) := by decide +kernel
theorem d_Brs_nextWay_39 : decode i_Brs_nextWay.2.1 39 = .ok (.iconst 3, 1) := by decide +kernel
theorem d_Brs_nextWay_40 : decode i_Brs_nextWay.2.1 40 = .ok (.iadd, 1) := by decide +kernel
theorem d_Brs_nextWay_41 : decode i_Brs_nextWay.2.1 41 = .ok (.goto 6, 3) := by decide +kernel
theorem d_Brs_nextWay_44 : decode i_Brs_nextWay.2.1 44 = .ok (.iload_n 1, 1) := by decide +kernel
theorem d_Brs_nextWay_45 : decode i_Brs_nextWay.2.1 45 = .ok (.iconst 1, 1) := by decide +kernel
theorem d_Brs_nextWay_46 : decode i_Brs_nextWay.2.1 46 = .ok (.iadd, 1) := by decide +kernel
theorem d_Brs_nextWay_47 : decode i_Brs_nextWay.2.1 47 = .ok (.iconst 3, 1) := by decide +kernel
theorem d_Brs_nextWay_48 : decode i_Brs_nextWay.2.1 48 = .ok (.iand, 1) := by decide +kernel
theorem d_Brs_nextWay_49 : decode i_Brs_nextWay.2.1 49 = .ok (.ireturn, 1) := by decide +kernel
theorem d_Fil_init_0 : decode i_Fil_init.2.1 0 = .ok (.aload_n 0, 1) := by decide +kernel
theorem d_Fil_init_1 : decode i_Fil_init.2.1 1 = .ok (.invokespecial 1, 3) := by decide +kernel
theorem d_Fil_init_4 : decode i_Fil_init.2.1 4 = .ok (.aload_n 0, 1) := by decide +kernel
theorem d_Fil_init_5 : decode i_Fil_init.2.1 5 = .ok (.aload_n 1, 1) := by decide +kernel
theorem d_Fil_init_6 : decode i_Fil_init.2.1 6 = .ok (.putfield 7, 3) := by decide +kernel
theorem d_Fil_init_9 : decode i_Fil_init.2.1 9 = .ok (.return_, 1) := by decide +kernel
theorem d_Fil_by_0 : decode i_Fil_by.2.1 0 = .ok (.lconst 0, 1) := by decide +kernel
theorem d_Fil_by_1 : decode i_Fil_by.2.1 1 = .ok (.lstore 4, 2) := by decide +kernel
theorem d_Fil_by_3 : decode i_Fil_by.2.1 3 = .ok (.iconst 0, 1) := by decide +kernel
theorem d_Fil_by_4 : decode i_Fil_by.2.1 4 = .ok (.istore 6, 2) := by decide +kernel
theorem d_Fil_by_6 : decode i_Fil_by.2.1 6 = .ok (.iload 6, 2) := by decide +kernel
theorem d_Fil_by_8 : decode i_Fil_by.2.1 8 = .ok (.aload_n 1, 1) := by decide +kernel
theorem d_Fil_by_9 : decode i_Fil_by.2.1 9 = .ok (.getfield 13, 3) := by decide +kernel
theorem d_Fil_by_12 : decode i_Fil_by.2.1 12 = .ok (.if_icmp .ge 88, 3) := by decide +kernel
theorem d_Fil_by_15 : decode i_Fil_by.2.1 15 = .ok (.aload_n 0, 1) := by decide +kernel
theorem d_Fil_by_16 : decode i_Fil_by.2.1 16 = .ok (.getfield 7, 3) := by decide +kernel
theorem d_Fil_by_19 : decode i_Fil_by.2.1 19 = .ok (.aload_n 1, 1) := by decide +kernel
theorem d_Fil_by_20 : decode i_Fil_by.2.1 20 = .ok (.iload 6, 2) := by decide +kernel
theorem d_Fil_by_22 : decode i_Fil_by.2.1 22 = .ok (.invokevirtual 19, 3) := by decide +kernel
theorem d_Fil_by_25 : decode i_Fil_by.2.1 25 = .ok (.astore 7, 2) := by decide +kernel
theorem d_Fil_by_27 : decode i_Fil_by.2.1 27 = .ok (.iload_n 2, 1) := by decide +kernel
theorem d_Fil_by_28 : decode i_Fil_by.2.1 28 = .ok (.ifCond .ne 34, 3) := by decide +kernel
theorem d_Fil_by_31 : decode i_Fil_by.2.1 31 = .ok (.lload 4, 2) := by decide +kernel
theorem d_Fil_by_33 : decode i_Fil_by.2.1 33 = .ok (.aload 7, 2) := by decide +kernel
theorem d_Fil_by_35 : decode i_Fil_by.2.1 35 = .ok (.invokevirtual 25, 3) := by decide +kernel
theorem d_Fil_by_38 : decode i_Fil_by.2.1 38 = .ok (.aload 7, 2) := by decide +kernel
theorem d_Fil_by_40 : decode i_Fil_by.2.1 40 = .ok (.invokevirtual 31, 3) := by decide +kernel
theorem d_Fil_by_43 : decode i_Fil_by.2.1 43 = .ok (.aload 7, 2) := by decide +kernel
theorem d_Fil_by_45 : decode i_Fil_by.2.1 45 = .ok (.invokevirtual 34, 3) := by decide +kernel
theorem d_Fil_by_48 : decode i_Fil_by.2.1 48 = .ok (.aload 7, 2) := by decide +kernel
theorem d_Fil_by_50 : decode i_Fil_by.2.1 50 = .ok (.invokevirtual 37, 3) := by decide +kernel
theorem d_Fil_by_53 : decode i_Fil_by.2.1 53 = .ok (.invokestatic 40, 3) := by decide +kernel
theorem d_Fil_by_56 : decode i_Fil_by.2.1 56 = .ok (.lxor, 1) := by decide +kernel
theorem d_Fil_by_57 : decode i_Fil_by.2.1 57 = .ok (.lstore 4, 2) := by decide +kernel
theorem d_Fil_by_59 : decode i_Fil_by.2.1 59 = .ok (.goto 35, 3) := by decide +kernel
theorem d_Fil_by_62 : decode i_Fil_by.2.1 62 = .ok (.aload 7, 2) := by decide +kernel
theorem d_Fil_by_64 : decode i_Fil_by.2.1 64 = .ok (.iload_n 3, 1) := by decide +kernel
theorem d_Fil_by_65 : decode i_Fil_by.2.1 65 = .ok (.invokevirtual 44, 3) := by decide +kernel
theorem d_Fil_by_68 : decode i_Fil_by.2.1 68 = .ok (.ifCond .eq 16, 3) := by decide +kernel
theorem d_Fil_by_71 : decode i_Fil_by.2.1 71 = .ok (.lload 4, 2) := by decide +kernel
theorem d_Fil_by_73 : decode i_Fil_by.2.1 73 = .ok (.aload 7, 2) := by decide +kernel
theorem d_Fil_by_75 : decode i_Fil_by.2.1 75 = .ok (.invokestatic 48, 3) := by decide +kernel
theorem d_Fil_by_78 : decode i_Fil_by.2.1 78 = .ok (.lxor, 1) := by decide +kernel
theorem d_Fil_by_79 : decode i_Fil_by.2.1 79 = .ok (.lstore 4, 2) := by decide +kernel
theorem d_Fil_by_81 : decode i_Fil_by.2.1 81 = .ok (.goto 13, 3) := by decide +kernel
theorem d_Fil_by_84 : decode i_Fil_by.2.1 84 = .ok (.lload 4, 2) := by decide +kernel
theorem d_Fil_by_86 : decode i_Fil_by.2.1 86 = .ok (.aload 7, 2) := by decide +kernel
theorem d_Fil_by_88 : decode i_Fil_by.2.1 88 = .ok (.invokestatic 52, 3) := by decide +kernel
theorem d_Fil_by_91 : decode i_Fil_by.2.1 91 = .ok (.lxor, 1) := by decide +kernel
theorem d_Fil_by_92 : decode i_Fil_by.2.1 92 = .ok (.lstore 4, 2) := by decide +kernel
theorem d_Fil_by_94 : decode i_Fil_by.2.1 94 = .ok (.iinc 6 1, 3) := by decide +kernel
theorem d_Fil_by_97 : decode i_Fil_by.2.1 97 = .ok (.goto (-91), 3) := by decide +kernel
theorem d_Fil_by_100 : decode i_Fil_by.2.1 100 = .ok (.lload 4, 2) := by decide +kernel
theorem d_Fil_by_102 : decode i_Fil_by.2.1 102 = .ok (.lreturn, 1) := by decide +kernel
theorem d_Fil_rightOfSharp_0 : decode i_Fil_rightOfSharp.2.1 0 = .ok (.aload_n 0, 1) := by decide +kernel
theorem d_Fil_rightOfSharp_1 : decode i_Fil_rightOfSharp.2.1 1 = .ok (.invokevirtual 25, 3) := by decide +kernel
theorem d_Fil_rightOfSharp_4 : decode i_Fil_rightOfSharp.2.1 4 = .ok (.istore_n 1, 1) := by decide +kernel
theorem d_Fil_rightOfSharp_5 : decode i_Fil_rightOfSharp.2.1 5 = .ok (.aload_n 0, 1) := by decide +kernel
theorem d_Fil_rightOfSharp_6 : decode i_Fil_rightOfSharp.2.1 6 = .ok (.invokevirtual 31, 3) := by decide +kernel
theorem d_Fil_rightOfSharp_9 : decode i_Fil_rightOfSharp.2.1 9 = .ok (.istore_n 2, 1) := by decide +kernel
theorem d_Fil_rightOfSharp_10 : decode i_Fil_rightOfSharp.2.1 10 = .ok (.aload_n 0, 1) := by decide +kernel
theorem d_Fil_rightOfSharp_11 : decode i_Fil_rightOfSharp.2.1 11 = .ok (.iconst 0, 1) := by decide +kernel
theorem d_Fil_rightOfSharp_12 : decode i_Fil_rightOfSharp.2.1 12 = .ok (.invokevirtual 55, 3) := by decide +kernel
theorem d_Fil_rightOfSharp_15 : decode i_Fil_rightOfSharp.2.1 15 = .ok (.aload_n 0, 1) := by decide +kernel
theorem d_Fil_rightOfSharp_16 : decode i_Fil_rightOfSharp.2.1 16 = .ok (.iconst 0, 1) := by decide +kernel
theorem d_Fil_rightOfSharp_17 : decode i_Fil_rightOfSharp.2.1 17 = .ok (.invokevirtual 59, 3) := by decide +kernel
theorem d_Fil_rightOfSharp_20 : decode i_Fil_rightOfSharp.2.1 20 = .ok (.iload_n 1, 1) := by decide +kernel
theorem d_Fil_rightOfSharp_21 : decode i_Fil_rightOfSharp.2.1 21 = .ok (.iload_n 2, 1) := by decide +kernel
theorem d_Fil_rightOfSharp_22 : decode i_Fil_rightOfSharp.2.1 22 = .ok (.invokestatic 40, 3) := by decide +kernel
theorem d_Fil_rightOfSharp_25 : decode i_Fil_rightOfSharp.2.1 25 = .ok (.iload_n 1, 1) := by decide +kernel
theorem d_Fil_rightOfSharp_26 : decode i_Fil_rightOfSharp.2.1 26 = .ok (.iload_n 2, 1) := by decide +kernel
theorem d_Fil_rightOfSharp_27 : decode i_Fil_rightOfSharp.2.1 27 = .ok (.aload_n 0, 1) := by decide +kernel
theorem d_Fil_rightOfSharp_28 : decode i_Fil_rightOfSharp.2.1 28 = .ok (.iconst 4, 1) := by decide +kernel
theorem d_Fil_rightOfSharp_29 : decode i_Fil_rightOfSharp.2.1 29 = .ok (.invokevirtual 55, 3) := by decide +kernel
theorem d_Fil_rightOfSharp_32 : decode i_Fil_rightOfSharp.2.1 32 = .ok (.aload_n 0, 1) := by decide +kernel
theorem d_Fil_rightOfSharp_33 : decode i_Fil_rightOfSharp.2.1 33 = .ok (.iconst 4, 1) := by decide +kernel
theorem d_Fil_rightOfSharp_34 : decode i_Fil_rightOfSharp.2.1 34 = .ok (.invokevirtual 59, 3) := by decide +kernel
theorem d_Fil_rightOfSharp_37 : decode i_Fil_rightOfSharp.2.1 37 = .ok (.invokestatic 40, 3) := by decide +kernel
theorem d_Fil_rightOfSharp_40 : decode i_Fil_rightOfSharp.2.1 40 = .ok (.lxor, 1) := by decide +kernel
theorem d_Fil_rightOfSharp_41 : decode i_Fil_rightOfSharp.2.1 41 = .ok (.lreturn, 1) := by decide +kernel
theorem d_Fil_rightOfRound_0 : decode i_Fil_rightOfRound.2.1 0 = .ok (.lconst 0, 1) := by decide +kernel
theorem d_Fil_rightOfRound_1 : decode i_Fil_rightOfRound.2.1 1 = .ok (.lstore_n 1, 1) := by decide +kernel
theorem d_Fil_rightOfRound_2 : decode i_Fil_rightOfRound.2.1 2 = .ok (.iconst 0, 1) := by decide +kernel
theorem d_Fil_rightOfRound_3 : decode i_Fil_rightOfRound.2.1 3 = .ok (.istore_n 3, 1) := by decide +kernel
theorem d_Fil_rightOfRound_4 : decode i_Fil_rightOfRound.2.1 4 = .ok (.iload_n 3, 1) := by decide +kernel
theorem d_Fil_rightOfRound_5 : decode i_Fil_rightOfRound.2.1 5 = .ok (.iconst 4, 1) := by decide +kernel
theorem d_Fil_rightOfRound_6 : decode i_Fil_rightOfRound.2.1 6 = .ok (.if_icmp .ge 39, 3) := by decide +kernel
theorem d_Fil_rightOfRound_9 : decode i_Fil_rightOfRound.2.1 9 = .ok (.lload_n 1, 1) := by decide +kernel
theorem d_Fil_rightOfRound_10 : decode i_Fil_rightOfRound.2.1 10 = .ok (.aload_n 0, 1) := by decide +kernel
theorem d_Fil_rightOfRound_11 : decode i_Fil_rightOfRound.2.1 11 = .ok (.iload_n 3, 1) := by decide +kernel
theorem d_Fil_rightOfRound_12 : decode i_Fil_rightOfRound.2.1 12 = .ok (.invokevirtual 55, 3) := by decide +kernel
theorem d_Fil_rightOfRound_15 : decode i_Fil_rightOfRound.2.1 15 = .ok (.aload_n 0, 1) := by decide +kernel
theorem d_Fil_rightOfRound_16 : decode i_Fil_rightOfRound.2.1 16 = .ok (.iload_n 3, 1) := by decide +kernel
theorem d_Fil_rightOfRound_17 : decode i_Fil_rightOfRound.2.1 17 = .ok (.invokevirtual 59, 3) := by decide +kernel
theorem d_Fil_rightOfRound_20 : decode i_Fil_rightOfRound.2.1 20 = .ok (.aload_n 0, 1) := by decide +kernel
theorem d_Fil_rightOfRound_21 : decode i_Fil_rightOfRound.2.1 21 = .ok (.iload_n 3, 1) := by decide +kernel
theorem d_Fil_rightOfRound_22 : decode i_Fil_rightOfRound.2.1 22 = .ok (.iconst 1, 1) := by decide +kernel
theorem d_Fil_rightOfRound_23 : decode i_Fil_rightOfRound.2.1 23 = .ok (.iadd, 1) := by decide +kernel
theorem d_Fil_rightOfRound_24 : decode i_Fil_rightOfRound.2.1 24 = .ok (.invokevirtual 55, 3) := by decide +kernel
theorem d_Fil_rightOfRound_27 : decode i_Fil_rightOfRound.2.1 27 = .ok (.aload_n 0, 1) := by decide +kernel
theorem d_Fil_rightOfRound_28 : decode i_Fil_rightOfRound.2.1 28 = .ok (.iload_n 3, 1) := by decide +kernel
theorem d_Fil_rightOfRound_29 : decode i_Fil_rightOfRound.2.1 29 = .ok (.iconst 1, 1) := by decide +kernel
theorem d_Fil_rightOfRound_30 : decode i_Fil_rightOfRound.2.1 30 = .ok (.iadd, 1) := by decide +kernel
theorem d_Fil_rightOfRound_31 : decode i_Fil_rightOfRound.2.1 31 = .ok (.invokevirtual 59, 3) := by decide +kernel
theorem d_Fil_rightOfRound_34 : decode i_Fil_rightOfRound.2.1 34 = .ok (.invokestatic 40, 3) := by decide +kernel
theorem d_Fil_rightOfRound_37 : decode i_Fil_rightOfRound.2.1 37 = .ok (.lxor, 1) := by decide +kernel
theorem d_Fil_rightOfRound_38 : decode i_Fil_rightOfRound.2.1 38 = .ok (.lstore_n 1, 1) := by decide +kernel
theorem d_Fil_rightOfRound_39 : decode i_Fil_rightOfRound.2.1 39 = .ok (.iinc 3 1, 3) := by decide +kernel
theorem d_Fil_rightOfRound_42 : decode i_Fil_rightOfRound.2.1 42 = .ok (.goto (-38), 3) := by decide +kernel
theorem d_Fil_rightOfRound_45 : decode i_Fil_rightOfRound.2.1 45 = .ok (.lload_n 1, 1) := by decide +kernel
theorem d_Fil_rightOfRound_46 : decode i_Fil_rightOfRound.2.1 46 = .ok (.lreturn, 1) := by decide +kernel
theorem d_Fil_rightOf_0 : decode i_Fil_rightOf.2.1 0 = .ok (.iload_n 1, 1) := by decide +kernel
theorem d_Fil_rightOf_1 : decode i_Fil_rightOf.2.1 1 = .ok (.iload_n 3, 1) := by decide +kernel
theorem d_Fil_rightOf_2 : decode i_Fil_rightOf.2.1 2 = .ok (.if_icmp .le 11, 3) := by decide +kernel
theorem d_Fil_rightOf_5 : decode i_Fil_rightOf.2.1 5 = .ok (.iload_n 2, 1) := by decide +kernel
theorem d_Fil_rightOf_6 : decode i_Fil_rightOf.2.1 6 = .ok (.iload_n 3, 1) := by decide +kernel
theorem d_Fil_rightOf_7 : decode i_Fil_rightOf.2.1 7 = .ok (.iload_n 0, 1) := by decide +kernel
theorem d_Fil_rightOf_8 : decode i_Fil_rightOf.2.1 8 = .ok (.iload_n 1, 1) := by decide +kernel
theorem d_Fil_rightOf_9 : decode i_Fil_rightOf.2.1 9 = .ok (.invokestatic 62, 3) := by decide +kernel
theorem d_Fil_rightOf_12 : decode i_Fil_rightOf.2.1 12 = .ok (.lreturn, 1) := by decide +kernel
theorem d_Fil_rightOf_13 : decode i_Fil_rightOf.2.1 13 = .ok (.iload_n 0, 1) := by decide +kernel
theorem d_Fil_rightOf_14 : decode i_Fil_rightOf.2.1 14 = .ok (.iload_n 1, 1) := by decide +kernel
theorem d_Fil_rightOf_15 : decode i_Fil_rightOf.2.1 15 = .ok (.iload_n 2, 1) := by decide +kernel
theorem d_Fil_rightOf_16 : decode i_Fil_rightOf.2.1 16 = .ok (.iload_n 3, 1) := by decide +kernel
theorem d_Fil_rightOf_17 : decode i_Fil_rightOf.2.1 17 = .ok (.invokestatic 62, 3) := by decide +kernel
theorem d_Fil_rightOf_20 : decode i_Fil_rightOf.2.1 20 = .ok (.lreturn, 1) := by decide +kernel
theorem d_Fil_rightOfFalling_0 : decode i_Fil_rightOfFalling.2.1 0 = .ok (.lconst 0, 1) := by decide +kernel
theorem d_Fil_rightOfFalling_1 : decode i_Fil_rightOfFalling.2.1 1 = .ok (.lstore 4, 2) := by decide +kernel
theorem d_Fil_rightOfFalling_3 : decode i_Fil_rightOfFalling.2.1 3 = .ok (.iconst 0, 1) := by decide +kernel
theorem d_Fil_rightOfFalling_4 : decode i_Fil_rightOfFalling.2.1 4 = .ok (.istore 6, 2) := by decide +kernel
theorem d_Fil_rightOfFalling_6 : decode i_Fil_rightOfFalling.2.1 6 = .ok (.iload 6, 2) := by decide +kernel
theorem d_Fil_rightOfFalling_8 : decode i_Fil_rightOfFalling.2.1 8 = .ok (.bipush 8, 2) := by decide +kernel
theorem d_Fil_rightOfFalling_10 : decode i_Fil_rightOfFalling.2.1 10 = .ok (.if_icmp .ge 50, 3) := by decide +kernel
theorem d_Fil_rightOfFalling_13 : decode i_Fil_rightOfFalling.2.1 13 = .ok (.bipush 32, 2) := by decide +kernel
theorem d_Fil_rightOfFalling_15 : decode i_Fil_rightOfFalling.2.1 15 = .ok (.iload 6, 2) := by decide +kernel
theorem d_Fil_rightOfFalling_17 : decode i_Fil_rightOfFalling.2.1 17 = .ok (.imul, 1) := by decide +kernel
theorem d_Fil_rightOfFalling_18 : decode i_Fil_rightOfFalling.2.1 18 = .ok (.bipush 16, 2) := by decide +kernel
theorem d_Fil_rightOfFalling_20 : decode i_Fil_rightOfFalling.2.1 20 = .ok (.iadd, 1) := by decide +kernel
theorem d_Fil_rightOfFalling_21 : decode i_Fil_rightOfFalling.2.1 21 = .ok (.istore 7, 2) := by decide +kernel
theorem d_Fil_rightOfFalling_23 : decode i_Fil_rightOfFalling.2.1 23 = .ok (.iload_n 1, 1) := by decide +kernel
theorem d_Fil_rightOfFalling_24 : decode i_Fil_rightOfFalling.2.1 24 = .ok (.iload 7, 2) := by decide +kernel
theorem d_Fil_rightOfFalling_26 : decode i_Fil_rightOfFalling.2.1 26 = .ok (.if_icmp .ge 28, 3) := by decide +kernel
theorem d_Fil_rightOfFalling_29 : decode i_Fil_rightOfFalling.2.1 29 = .ok (.iload_n 3, 1) := by decide +kernel
theorem d_Fil_rightOfFalling_30 : decode i_Fil_rightOfFalling.2.1 30 = .ok (.iload 7, 2) := by decide +kernel
theorem d_Fil_rightOfFalling_32 : decode i_Fil_rightOfFalling.2.1 32 = .ok (.if_icmp .lt 22, 3) := by decide +kernel
theorem d_Fil_rightOfFalling_35 : decode i_Fil_rightOfFalling.2.1 35 = .ok (.lload 4, 2) := by decide +kernel
theorem d_Fil_rightOfFalling_37 : decode i_Fil_rightOfFalling.2.1 37 = .ok (.iload_n 0, 1) := by decide +kernel
theorem d_Fil_rightOfFalling_38 : decode i_Fil_rightOfFalling.2.1 38 = .ok (.iload_n 1, 1) := by decide +kernel
theorem d_Fil_rightOfFalling_39 : decode i_Fil_rightOfFalling.2.1 39 = .ok (.iload_n 2, 1) := by decide +kernel
theorem d_Fil_rightOfFalling_40 : decode i_Fil_rightOfFalling.2.1 40 = .ok (.iload_n 3, 1) := by decide +kernel
theorem d_Fil_rightOfFalling_41 : decode i_Fil_rightOfFalling.2.1 41 = .ok (.iload 7, 2) := by decide +kernel
theorem d_Fil_rightOfFalling_43 : decode i_Fil_rightOfFalling.2.1 43 = .ok (.invokestatic 67, 3) := by decide +kernel
theorem d_Fil_rightOfFalling_46 : decode i_Fil_rightOfFalling.2.1 46 = .ok (.iload 6, 2) := by decide +kernel
theorem d_Fil_rightOfFalling_48 : decode i_Fil_rightOfFalling.2.1 48 = .ok (.invokestatic 71, 3) := by decide +kernel
theorem d_Fil_rightOfFalling_51 : decode i_Fil_rightOfFalling.2.1 51 = .ok (.lor, 1) := by decide +kernel
theorem d_Fil_rightOfFalling_52 : decode i_Fil_rightOfFalling.2.1 52 = .ok (.lstore 4, 2) := by decide +kernel
theorem d_Fil_rightOfFalling_54 : decode i_Fil_rightOfFalling.2.1 54 = .ok (.iinc 6 1, 3) := by decide +kernel
theorem d_Fil_rightOfFalling_57 : decode i_Fil_rightOfFalling.2.1 57 = .ok (.goto (-51), 3) := by decide +kernel
theorem d_Fil_rightOfFalling_60 : decode i_Fil_rightOfFalling.2.1 60 = .ok (.lload 4, 2) := by decide +kernel
theorem d_Fil_rightOfFalling_62 : decode i_Fil_rightOfFalling.2.1 62 = .ok (.lreturn, 1) := by decide +kernel
theorem d_Fil_firstColumnRightOf_0 : decode i_Fil_firstColumnRightOf.2.1 0 = .ok (.iconst 0, 1) := by decide +kernel
theorem d_Fil_firstColumnRightOf_1 : decode i_Fil_firstColumnRightOf.2.1 1 = .ok (.istore 5, 2) := by decide +kernel
theorem d_Fil_firstColumnRightOf_3 : decode i_Fil_firstColumnRightOf.2.1 3 = .ok (.iload 5, 2) := by decide +kernel
theorem d_Fil_firstColumnRightOf_5 : decode i_Fil_firstColumnRightOf.2.1 5 = .ok (.bipush 8, 2) := by decide +kernel
theorem d_Fil_firstColumnRightOf_7 : decode i_Fil_firstColumnRightOf.2.1 7 = .ok (.if_icmp .ge 41, 3) := by decide +kernel
theorem d_Fil_firstColumnRightOf_10 : decode i_Fil_firstColumnRightOf.2.1 10 = .ok (.bipush 32, 2) := by decide +kernel
theorem d_Fil_firstColumnRightOf_12 : decode i_Fil_firstColumnRightOf.2.1 12 = .ok (.iload 5, 2) := by decide +kernel
theorem d_Fil_firstColumnRightOf_14 : decode i_Fil_firstColumnRightOf.2.1 14 = .ok (.imul, 1) := by decide +kernel
theorem d_Fil_firstColumnRightOf_15 : decode i_Fil_firstColumnRightOf.2.1 15 = .ok (.bipush 16, 2) := by decide +kernel
theorem d_Fil_firstColumnRightOf_17 : decode i_Fil_firstColumnRightOf.2.1 17 = .ok (.iadd, 1) := by decide +kernel
theorem d_Fil_firstColumnRightOf_18 : decode i_Fil_firstColumnRightOf.2.1 18 = .ok (.istore 6, 2) := by decide +kernel
theorem d_Fil_firstColumnRightOf_20 : decode i_Fil_firstColumnRightOf.2.1 20 = .ok (.iload 4, 2) := by decide +kernel
theorem d_Fil_firstColumnRightOf_22 : decode i_Fil_firstColumnRightOf.2.1 22 = .ok (.iload_n 1, 1) := by decide +kernel
theorem d_Fil_firstColumnRightOf_23 : decode i_Fil_firstColumnRightOf.2.1 23 = .ok (.isub, 1) := by decide +kernel
theorem d_Fil_firstColumnRightOf_24 : decode i_Fil_firstColumnRightOf.2.1 24 = .ok (.iload_n 2, 1) := by decide +kernel
theorem d_Fil_firstColumnRightOf_25 : decode i_Fil_firstColumnRightOf.2.1 25 = .ok (.iload_n 0, 1) := by decide +kernel
theorem d_Fil_firstColumnRightOf_26 : decode i_Fil_firstColumnRightOf.2.1 26 = .ok (.isub, 1) := by decide +kernel
theorem d_Fil_firstColumnRightOf_27 : decode i_Fil_firstColumnRightOf.2.1 27 = .ok (.imul, 1) := by decide +kernel
theorem d_Fil_firstColumnRightOf_28 : decode i_Fil_firstColumnRightOf.2.1 28 = .ok (.iload 6, 2) := by decide +kernel
theorem d_Fil_firstColumnRightOf_30 : decode i_Fil_firstColumnRightOf.2.1 30 = .ok (.iload_n 0, 1) := by decide +kernel
theorem d_Fil_firstColumnRightOf_31 : decode i_Fil_firstColumnRightOf.2.1 31 = .ok (.isub, 1) := by decide +kernel
theorem d_Fil_firstColumnRightOf_32 : decode i_Fil_firstColumnRightOf.2.1 32 = .ok (.iload_n 3, 1) := by decide +kernel
theorem d_Fil_firstColumnRightOf_33 : decode i_Fil_firstColumnRightOf.2.1 33 = .ok (.iload_n 1, 1) := by decide +kernel
theorem d_Fil_firstColumnRightOf_34 : decode i_Fil_firstColumnRightOf.2.1 34 = .ok (.isub, 1) := by decide +kernel
theorem d_Fil_firstColumnRightOf_35 : decode i_Fil_firstColumnRightOf.2.1 35 = .ok (.imul, 1) := by decide +kernel
theorem d_Fil_firstColumnRightOf_36 : decode i_Fil_firstColumnRightOf.2.1 36 = .ok (.if_icmp .ge 6, 3) := by decide +kernel
theorem d_Fil_firstColumnRightOf_39 : decode i_Fil_firstColumnRightOf.2.1 39 = .ok (.iload 5, 2) := by decide +kernel
theorem d_Fil_firstColumnRightOf_41 : decode i_Fil_firstColumnRightOf.2.1 41 = .ok (.ireturn, 1) := by decide +kernel
theorem d_Fil_firstColumnRightOf_42 : decode i_Fil_firstColumnRightOf.2.1 42 = .ok (.iinc 5 1, 3) := by decide +kernel
theorem d_Fil_firstColumnRightOf_45 : decode i_Fil_firstColumnRightOf.2.1 45 = .ok (.goto (-42), 3) := by decide +kernel
theorem d_Fil_firstColumnRightOf_48 : decode i_Fil_firstColumnRightOf.2.1 48 = .ok (.bipush 8, 2) := by decide +kernel
theorem d_Fil_firstColumnRightOf_50 : decode i_Fil_firstColumnRightOf.2.1 50 = .ok (.ireturn, 1) := by decide +kernel
theorem d_Grid_columnOf_0 : decode i_Grid_columnOf.2.1 0 = .ok (.iload_n 0, 1) := by decide +kernel
theorem d_Grid_columnOf_1 : decode i_Grid_columnOf.2.1 1 = .ok (.bipush 7, 2) := by decide +kernel
theorem d_Grid_columnOf_3 : decode i_Grid_columnOf.2.1 3 = .ok (.iand, 1) := by decide +kernel
theorem d_Grid_columnOf_4 : decode i_Grid_columnOf.2.1 4 = .ok (.ireturn, 1) := by decide +kernel
theorem d_Grid_rowOf_0 : decode i_Grid_rowOf.2.1 0 = .ok (.iload_n 0, 1) := by decide +kernel
theorem d_Grid_rowOf_1 : decode i_Grid_rowOf.2.1 1 = .ok (.iconst 3, 1) := by decide +kernel
theorem d_Grid_rowOf_2 : decode i_Grid_rowOf.2.1 2 = .ok (.ishr, 1) := by decide +kernel
theorem d_Grid_rowOf_3 : decode i_Grid_rowOf.2.1 3 = .ok (.bipush 7, 2) := by decide +kernel
theorem d_Grid_rowOf_5 : decode i_Grid_rowOf.2.1 5 = .ok (.iand, 1) := by decide +kernel
theorem d_Grid_rowOf_6 : decode i_Grid_rowOf.2.1 6 = .ok (.ireturn, 1) := by decide +kernel
theorem d_Grid_bit_0 : decode i_Grid_bit.2.1 0 = .ok (.iload_n 0, 1) := by decide +kernel
theorem d_Grid_bit_1 : decode i_Grid_bit.2.1 1 = .ok (.ifCond .lt 19, 3) := by decide +kernel
theorem d_Grid_bit_4 : decode i_Grid_bit.2.1 4 = .ok (.iload_n 0, 1) := by decide +kernel
theorem d_Grid_bit_5 : decode i_Grid_bit.2.1 5 = .ok (.bipush 8, 2) := by decide +kernel
theorem d_Grid_bit_7 : decode i_Grid_bit.2.1 7 = .ok (.if_icmp .ge 13, 3) := by decide +kernel
theorem d_Grid_bit_10 : decode i_Grid_bit.2.1 10 = .ok (.iload_n 1, 1) := by decide +kernel
theorem d_Grid_bit_11 : decode i_Grid_bit.2.1 11 = .ok (.ifCond .lt 9, 3) := by decide +kernel
theorem d_Grid_bit_14 : decode i_Grid_bit.2.1 14 = .ok (.iload_n 1, 1) := by decide +kernel
theorem d_Grid_bit_15 : decode i_Grid_bit.2.1 15 = .ok (.bipush 8, 2) := by decide +kernel
theorem d_Grid_bit_17 : decode i_Grid_bit.2.1 17 = .ok (.if_icmp .lt 5, 3) := by decide +kernel
theorem d_Grid_bit_20 : decode i_Grid_bit.2.1 20 = .ok (.lconst 0, 1) := by decide +kernel
theorem d_Grid_bit_21 : decode i_Grid_bit.2.1 21 = .ok (.lreturn, 1) := by decide +kernel
theorem d_Grid_bit_22 : decode i_Grid_bit.2.1 22 = .ok (.lconst 1, 1) := by decide +kernel
theorem d_Grid_bit_23 : decode i_Grid_bit.2.1 23 = .ok (.bipush 8, 2) := by decide +kernel
theorem d_Grid_bit_25 : decode i_Grid_bit.2.1 25 = .ok (.iload_n 1, 1) := by decide +kernel
theorem d_Grid_bit_26 : decode i_Grid_bit.2.1 26 = .ok (.imul, 1) := by decide +kernel
theorem d_Grid_bit_27 : decode i_Grid_bit.2.1 27 = .ok (.iload_n 0, 1) := by decide +kernel
theorem d_Grid_bit_28 : decode i_Grid_bit.2.1 28 = .ok (.iadd, 1) := by decide +kernel
theorem d_Grid_bit_29 : decode i_Grid_bit.2.1 29 = .ok (.lshl, 1) := by decide +kernel
theorem d_Grid_bit_30 : decode i_Grid_bit.2.1 30 = .ok (.lreturn, 1) := by decide +kernel
theorem d_Grid_rowFrom_0 : decode i_Grid_rowFrom.2.1 0 = .ok (.iload_n 0, 1) := by decide +kernel
theorem d_Grid_rowFrom_1 : decode i_Grid_rowFrom.2.1 1 = .ok (.ifCond .lt 19, 3) := by decide +kernel
theorem d_Grid_rowFrom_4 : decode i_Grid_rowFrom.2.1 4 = .ok (.iload_n 0, 1) := by decide +kernel
theorem d_Grid_rowFrom_5 : decode i_Grid_rowFrom.2.1 5 = .ok (.bipush 8, 2) := by decide +kernel
theorem d_Grid_rowFrom_7 : decode i_Grid_rowFrom.2.1 7 = .ok (.if_icmp .ge 13, 3) := by decide +kernel
theorem d_Grid_rowFrom_10 : decode i_Grid_rowFrom.2.1 10 = .ok (.iload_n 1, 1) := by decide +kernel
theorem d_Grid_rowFrom_11 : decode i_Grid_rowFrom.2.1 11 = .ok (.ifCond .lt 9, 3) := by decide +kernel
theorem d_Grid_rowFrom_14 : decode i_Grid_rowFrom.2.1 14 = .ok (.iload_n 1, 1) := by decide +kernel
theorem d_Grid_rowFrom_15 : decode i_Grid_rowFrom.2.1 15 = .ok (.bipush 8, 2) := by decide +kernel
theorem d_Grid_rowFrom_17 : decode i_Grid_rowFrom.2.1 17 = .ok (.if_icmp .lt 5, 3) := by decide +kernel
theorem d_Grid_rowFrom_20 : decode i_Grid_rowFrom.2.1 20 = .ok (.lconst 0, 1) := by decide +kernel
theorem d_Grid_rowFrom_21 : decode i_Grid_rowFrom.2.1 21 = .ok (.lreturn, 1) := by decide +kernel
theorem d_Grid_rowFrom_22 : decode i_Grid_rowFrom.2.1 22 = .ok (.ldc2_w 9, 3) := by decide +kernel
theorem d_Grid_rowFrom_25 : decode i_Grid_rowFrom.2.1 25 = .ok (.iload_n 0, 1) := by decide +kernel
theorem d_Grid_rowFrom_26 : decode i_Grid_rowFrom.2.1 26 = .ok (.lshl, 1) := by decide +kernel
theorem d_Grid_rowFrom_27 : decode i_Grid_rowFrom.2.1 27 = .ok (.ldc2_w 9, 3) := by decide +kernel
theorem d_Grid_rowFrom_30 : decode i_Grid_rowFrom.2.1 30 = .ok (.land, 1) := by decide +kernel
theorem d_Grid_rowFrom_31 : decode i_Grid_rowFrom.2.1 31 = .ok (.bipush 8, 2) := by decide +kernel
theorem d_Grid_rowFrom_33 : decode i_Grid_rowFrom.2.1 33 = .ok (.iload_n 1, 1) := by decide +kernel
theorem d_Grid_rowFrom_34 : decode i_Grid_rowFrom.2.1 34 = .ok (.imul, 1) := by decide +kernel
theorem d_Grid_rowFrom_35 : decode i_Grid_rowFrom.2.1 35 = .ok (.lshl, 1) := by decide +kernel
theorem d_Grid_rowFrom_36 : decode i_Grid_rowFrom.2.1 36 = .ok (.lreturn, 1) := by decide +kernel
theorem d_Grid_block_0 : decode i_Grid_block.2.1 0 = .ok (.lconst 0, 1) := by decide +kernel
theorem d_Grid_block_1 : decode i_Grid_block.2.1 1 = .ok (.lstore 4, 2) := by decide +kernel
theorem d_Grid_block_3 : decode i_Grid_block.2.1 3 = .ok (.iload_n 1, 1) := by decide +kernel
theorem d_Grid_block_4 : decode i_Grid_block.2.1 4 = .ok (.iconst 0, 1) := by decide +kernel
theorem d_Grid_block_5 : decode i_Grid_block.2.1 5 = .ok (.invokestatic 11, 3) := by decide +kernel
theorem d_Grid_block_8 : decode i_Grid_block.2.1 8 = .ok (.istore 6, 2) := by decide +kernel
theorem d_Grid_block_10 : decode i_Grid_block.2.1 10 = .ok (.iload 6, 2) := by decide +kernel
theorem d_Grid_block_12 : decode i_Grid_block.2.1 12 = .ok (.iload_n 3, 1) := by decide +kernel
theorem d_Grid_block_13 : decode i_Grid_block.2.1 13 = .ok (.if_icmp .gt 40, 3) := by decide +kernel
theorem d_Grid_block_16 : decode i_Grid_block.2.1 16 = .ok (.iload 6, 2) := by decide +kernel
theorem d_Grid_block_18 : decode i_Grid_block.2.1 18 = .ok (.bipush 8, 2) := by decide +kernel
theorem d_Grid_block_20 : decode i_Grid_block.2.1 20 = .ok (.if_icmp .ge 33, 3) := by decide +kernel
theorem d_Grid_block_23 : decode i_Grid_block.2.1 23 = .ok (.lload 4, 2) := by decide +kernel
theorem d_Grid_block_25 : decode i_Grid_block.2.1 25 = .ok (.iload_n 0, 1) := by decide +kernel
theorem d_Grid_block_26 : decode i_Grid_block.2.1 26 = .ok (.iload 6, 2) := by decide +kernel
theorem d_Grid_block_28 : decode i_Grid_block.2.1 28 = .ok (.invokestatic 17, 3) := by decide +kernel
theorem d_Grid_block_31 : decode i_Grid_block.2.1 31 = .ok (.iload_n 2, 1) := by decide +kernel
theorem d_Grid_block_32 : decode i_Grid_block.2.1 32 = .ok (.iconst 1, 1) := by decide +kernel
theorem d_Grid_block_33 : decode i_Grid_block.2.1 33 = .ok (.iadd, 1) := by decide +kernel
theorem d_Grid_block_34 : decode i_Grid_block.2.1 34 = .ok (.iload 6, 2) := by decide +kernel
theorem d_Grid_block_36 : decode i_Grid_block.2.1 36 = .ok (.invokestatic 17, 3) := by decide +kernel
theorem d_Grid_block_39 : decode i_Grid_block.2.1 39 = .ok (.ldc2_w 21, 3) := by decide +kernel
theorem d_Grid_block_42 : decode i_Grid_block.2.1 42 = .ok (.lxor, 1) := by decide +kernel
theorem d_Grid_block_43 : decode i_Grid_block.2.1 43 = .ok (.land, 1) := by decide +kernel
theorem d_Grid_block_44 : decode i_Grid_block.2.1 44 = .ok (.lor, 1) := by decide +kernel
theorem d_Grid_block_45 : decode i_Grid_block.2.1 45 = .ok (.lstore 4, 2) := by decide +kernel
theorem d_Grid_block_47 : decode i_Grid_block.2.1 47 = .ok (.iinc 6 1, 3) := by decide +kernel
theorem d_Grid_block_50 : decode i_Grid_block.2.1 50 = .ok (.goto (-40), 3) := by decide +kernel
theorem d_Grid_block_53 : decode i_Grid_block.2.1 53 = .ok (.lload 4, 2) := by decide +kernel
theorem d_Grid_block_55 : decode i_Grid_block.2.1 55 = .ok (.lreturn, 1) := by decide +kernel
theorem d_Pic_init_0 : decode i_Pic_init.2.1 0 = .ok (.aload_n 0, 1) := by decide +kernel
theorem d_Pic_init_1 : decode i_Pic_init.2.1 1 = .ok (.invokespecial 1, 3) := by decide +kernel
theorem d_Pic_init_4 : decode i_Pic_init.2.1 4 = .ok (.return_, 1) := by decide +kernel
theorem d_Pic_isThere_0 : decode i_Pic_isThere.2.1 0 = .ok (.aload_n 0, 1) := by decide +kernel
theorem d_Pic_isThere_1 : decode i_Pic_isThere.2.1 1 = .ok (.getfield 7, 3) := by decide +kernel
theorem d_Pic_isThere_4 : decode i_Pic_isThere.2.1 4 = .ok (.ifCond .le 7, 3) := by decide +kernel
theorem d_Pic_isThere_7 : decode i_Pic_isThere.2.1 7 = .ok (.iconst 1, 1) := by decide +kernel
theorem d_Pic_isThere_8 : decode i_Pic_isThere.2.1 8 = .ok (.goto 4, 3) := by decide +kernel
theorem d_Pic_isThere_11 : decode i_Pic_isThere.2.1 11 = .ok (.iconst 0, 1) := by decide +kernel
theorem d_Pic_isThere_12 : decode i_Pic_isThere.2.1 12 = .ok (.ireturn, 1) := by decide +kernel
theorem d_Pic_has_0 : decode i_Pic_has.2.1 0 = .ok (.iload_n 1, 1) := by decide +kernel
theorem d_Pic_has_1 : decode i_Pic_has.2.1 1 = .ok (.ifCond .lt 27, 3) := by decide +kernel
theorem d_Pic_has_4 : decode i_Pic_has.2.1 4 = .ok (.iload_n 1, 1) := by decide +kernel
theorem d_Pic_has_5 : decode i_Pic_has.2.1 5 = .ok (.aload_n 0, 1) := by decide +kernel
theorem d_Pic_has_6 : decode i_Pic_has.2.1 6 = .ok (.getfield 7, 3) := by decide +kernel
theorem d_Pic_has_9 : decode i_Pic_has.2.1 9 = .ok (.if_icmp .ge 19, 3) := by decide +kernel
theorem d_Pic_has_12 : decode i_Pic_has.2.1 12 = .ok (.iload_n 2, 1) := by decide +kernel
theorem d_Pic_has_13 : decode i_Pic_has.2.1 13 = .ok (.ifCond .lt 15, 3) := by decide +kernel
theorem d_Pic_has_16 : decode i_Pic_has.2.1 16 = .ok (.iload_n 2, 1) := by decide +kernel
theorem d_Pic_has_17 : decode i_Pic_has.2.1 17 = .ok (.aload_n 0, 1) := by decide +kernel
theorem d_Pic_has_18 : decode i_Pic_has.2.1 18 = .ok (.getfield 13, 3) := by decide +kernel
theorem d_Pic_has_21 : decode i_Pic_has.2.1 21 = .ok (.if_icmp .ge 7, 3) := by decide +kernel
theorem d_Pic_has_24 : decode i_Pic_has.2.1 24 = .ok (.iconst 1, 1) := by decide +kernel
theorem d_Pic_has_25 : decode i_Pic_has.2.1 25 = .ok (.goto 4, 3) := by decide +kernel
theorem d_Pic_has_28 : decode i_Pic_has.2.1 28 = .ok (.iconst 0, 1) := by decide +kernel
theorem d_Pic_has_29 : decode i_Pic_has.2.1 29 = .ok (.ireturn, 1) := by decide +kernel
theorem d_Pic_isDark_0 : decode i_Pic_isDark.2.1 0 = .ok (.aload_n 0, 1) := by decide +kernel
theorem d_Pic_isDark_1 : decode i_Pic_isDark.2.1 1 = .ok (.getfield 16, 3) := by decide +kernel
theorem d_Pic_isDark_4 : decode i_Pic_isDark.2.1 4 = .ok (.iload_n 1, 1) := by decide +kernel
theorem d_Pic_isDark_5 : decode i_Pic_isDark.2.1 5 = .ok (.iload_n 2, 1) := by decide +kernel
theorem d_Pic_isDark_6 : decode i_Pic_isDark.2.1 6 = .ok (.invokestatic 20, 3) := by decide +kernel
theorem d_Pic_isDark_9 : decode i_Pic_isDark.2.1 9 = .ok (.land, 1) := by decide +kernel
theorem d_Pic_isDark_10 : decode i_Pic_isDark.2.1 10 = .ok (.lconst 0, 1) := by decide +kernel
theorem d_Pic_isDark_11 : decode i_Pic_isDark.2.1 11 = .ok (.lcmp, 1) := by decide +kernel
theorem d_Pic_isDark_12 : decode i_Pic_isDark.2.1 12 = .ok (.ifCond .eq 7, 3) := by decide +kernel
theorem d_Pic_isDark_15 : decode i_Pic_isDark.2.1 15 = .ok (.iconst 1, 1) := by decide +kernel
theorem d_Pic_isDark_16 : decode i_Pic_isDark.2.1 16 = .ok (.goto 4, 3) := by decide +kernel
theorem d_Pic_isDark_19 : decode i_Pic_isDark.2.1 19 = .ok (.iconst 0, 1) := by decide +kernel
theorem d_Pic_isDark_20 : decode i_Pic_isDark.2.1 20 = .ok (.ireturn, 1) := by decide +kernel
theorem d_Pic_darkDots_0 : decode i_Pic_darkDots.2.1 0 = .ok (.aload_n 0, 1) := by decide +kernel
theorem d_Pic_darkDots_1 : decode i_Pic_darkDots.2.1 1 = .ok (.getfield 16, 3) := by decide +kernel
theorem d_Pic_darkDots_4 : decode i_Pic_darkDots.2.1 4 = .ok (.invokestatic 26, 3) := by decide +kernel
theorem d_Pic_darkDots_7 : decode i_Pic_darkDots.2.1 7 = .ok (.ireturn, 1) := by decide +kernel
theorem d_Pic_lay_0 : decode i_Pic_lay.2.1 0 = .ok (.iload_n 3, 1) := by decide +kernel
