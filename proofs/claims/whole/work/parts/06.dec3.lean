theorem d_Mod_picture_0 : decode i_Mod_picture.2.1 0 = .ok (.aload_n 0, 1) := by decide +kernel
theorem d_Mod_picture_1 : decode i_Mod_picture.2.1 1 = .ok (.invokevirtual 95, 3) := by decide +kernel
theorem d_Mod_picture_4 : decode i_Mod_picture.2.1 4 = .ok (.istore_n 1, 1) := by decide +kernel
theorem d_Mod_picture_5 : decode i_Mod_picture.2.1 5 = .ok (.aload_n 0, 1) := by decide +kernel
theorem d_Mod_picture_6 : decode i_Mod_picture.2.1 6 = .ok (.iconst 0, 1) := by decide +kernel
theorem d_Mod_picture_7 : decode i_Mod_picture.2.1 7 = .ok (.putfield 76, 3) := by decide +kernel
theorem d_Mod_picture_10 : decode i_Mod_picture.2.1 10 = .ok (.iload_n 1, 1) := by decide +kernel
theorem d_Mod_picture_11 : decode i_Mod_picture.2.1 11 = .ok (.ifCond .eq 16, 3) := by decide +kernel
theorem d_Mod_picture_14 : decode i_Mod_picture.2.1 14 = .ok (.aload_n 0, 1) := by decide +kernel
theorem d_Mod_picture_15 : decode i_Mod_picture.2.1 15 = .ok (.iload_n 1, 1) := by decide +kernel
theorem d_Mod_picture_16 : decode i_Mod_picture.2.1 16 = .ok (.putfield 99, 3) := by decide +kernel
theorem d_Mod_picture_19 : decode i_Mod_picture.2.1 19 = .ok (.ldc 102, 2) := by decide +kernel
theorem d_Mod_picture_21 : decode i_Mod_picture.2.1 21 = .ok (.aload_n 0, 1) := by decide +kernel
theorem d_Mod_picture_22 : decode i_Mod_picture.2.1 22 = .ok (.getfield 81, 3) := by decide +kernel
theorem d_Mod_picture_25 : decode i_Mod_picture.2.1 25 = .ok (.isub, 1) := by decide +kernel
theorem d_Mod_picture_26 : decode i_Mod_picture.2.1 26 = .ok (.ireturn, 1) := by decide +kernel
theorem d_Mod_picture_27 : decode i_Mod_picture.2.1 27 = .ok (.aload_n 0, 1) := by decide +kernel
theorem d_Mod_picture_28 : decode i_Mod_picture.2.1 28 = .ok (.getfield 25, 3) := by decide +kernel
theorem d_Mod_picture_31 : decode i_Mod_picture.2.1 31 = .ok (.iconst 3, 1) := by decide +kernel
theorem d_Mod_picture_32 : decode i_Mod_picture.2.1 32 = .ok (.bipush 8, 2) := by decide +kernel
theorem d_Mod_picture_34 : decode i_Mod_picture.2.1 34 = .ok (.iastore, 1) := by decide +kernel
theorem d_Mod_picture_35 : decode i_Mod_picture.2.1 35 = .ok (.aload_n 0, 1) := by decide +kernel
theorem d_Mod_picture_36 : decode i_Mod_picture.2.1 36 = .ok (.getfield 25, 3) := by decide +kernel
theorem d_Mod_picture_39 : decode i_Mod_picture.2.1 39 = .ok (.iconst 0, 1) := by decide +kernel
theorem d_Mod_picture_40 : decode i_Mod_picture.2.1 40 = .ok (.aload_n 0, 1) := by decide +kernel
theorem d_Mod_picture_41 : decode i_Mod_picture.2.1 41 = .ok (.getfield 7, 3) := by decide +kernel
theorem d_Mod_picture_44 : decode i_Mod_picture.2.1 44 = .ok (.iconst 0, 1) := by decide +kernel
theorem d_Mod_picture_45 : decode i_Mod_picture.2.1 45 = .ok (.bipush 68, 2) := by decide +kernel
theorem d_Mod_picture_47 : decode i_Mod_picture.2.1 47 = .ok (.invokestatic 103, 3) := by decide +kernel
theorem d_Mod_picture_50 : decode i_Mod_picture.2.1 50 = .ok (.aload_n 0, 1) := by decide +kernel
theorem d_Mod_picture_51 : decode i_Mod_picture.2.1 51 = .ok (.iconst 0, 1) := by decide +kernel
theorem d_Mod_picture_52 : decode i_Mod_picture.2.1 52 = .ok (.putfield 107, 3) := by decide +kernel
theorem d_Mod_picture_55 : decode i_Mod_picture.2.1 55 = .ok (.aload_n 0, 1) := by decide +kernel
theorem d_Mod_picture_56 : decode i_Mod_picture.2.1 56 = .ok (.iconst 0, 1) := by decide +kernel
theorem d_Mod_picture_57 : decode i_Mod_picture.2.1 57 = .ok (.putfield 110, 3) := by decide +kernel
theorem d_Mod_picture_60 : decode i_Mod_picture.2.1 60 = .ok (.aload_n 0, 1) := by decide +kernel
theorem d_Mod_picture_61 : decode i_Mod_picture.2.1 61 = .ok (.invokevirtual 114, 3) := by decide +kernel
theorem d_Mod_picture_64 : decode i_Mod_picture.2.1 64 = .ok (.ireturn, 1) := by decide +kernel
theorem d_Mod_fault_0 : decode i_Mod_fault.2.1 0 = .ok (.aload_n 0, 1) := by decide +kernel
theorem d_Mod_fault_1 : decode i_Mod_fault.2.1 1 = .ok (.getfield 99, 3) := by decide +kernel
theorem d_Mod_fault_4 : decode i_Mod_fault.2.1 4 = .ok (.ireturn, 1) := by decide +kernel
theorem d_Mod_dark_0 : decode i_Mod_dark.2.1 0 = .ok (.iconst 0, 1) := by decide +kernel
theorem d_Mod_dark_1 : decode i_Mod_dark.2.1 1 = .ok (.istore_n 1, 1) := by decide +kernel
theorem d_Mod_dark_2 : decode i_Mod_dark.2.1 2 = .ok (.iconst 4, 1) := by decide +kernel
theorem d_Mod_dark_3 : decode i_Mod_dark.2.1 3 = .ok (.istore_n 2, 1) := by decide +kernel
theorem d_Mod_dark_4 : decode i_Mod_dark.2.1 4 = .ok (.iload_n 2, 1) := by decide +kernel
theorem d_Mod_dark_5 : decode i_Mod_dark.2.1 5 = .ok (.bipush 68, 2) := by decide +kernel
theorem d_Mod_dark_7 : decode i_Mod_dark.2.1 7 = .ok (.if_icmp .ge 18, 3) := by decide +kernel
theorem d_Mod_dark_10 : decode i_Mod_dark.2.1 10 = .ok (.iload_n 1, 1) := by decide +kernel
theorem d_Mod_dark_11 : decode i_Mod_dark.2.1 11 = .ok (.aload_n 0, 1) := by decide +kernel
theorem d_Mod_dark_12 : decode i_Mod_dark.2.1 12 = .ok (.getfield 7, 3) := by decide +kernel
theorem d_Mod_dark_15 : decode i_Mod_dark.2.1 15 = .ok (.iload_n 2, 1) := by decide +kernel
theorem d_Mod_dark_16 : decode i_Mod_dark.2.1 16 = .ok (.iaload, 1) := by decide +kernel
theorem d_Mod_dark_17 : decode i_Mod_dark.2.1 17 = .ok (.iadd, 1) := by decide +kernel
theorem d_Mod_dark_18 : decode i_Mod_dark.2.1 18 = .ok (.istore_n 1, 1) := by decide +kernel
theorem d_Mod_dark_19 : decode i_Mod_dark.2.1 19 = .ok (.iinc 2 1, 3) := by decide +kernel
theorem d_Mod_dark_22 : decode i_Mod_dark.2.1 22 = .ok (.goto (-18), 3) := by decide +kernel
theorem d_Mod_dark_25 : decode i_Mod_dark.2.1 25 = .ok (.iload_n 1, 1) := by decide +kernel
theorem d_Mod_dark_26 : decode i_Mod_dark.2.1 26 = .ok (.ireturn, 1) := by decide +kernel
theorem d_Mod_notes_0 : decode i_Mod_notes.2.1 0 = .ok (.aload_n 0, 1) := by decide +kernel
theorem d_Mod_notes_1 : decode i_Mod_notes.2.1 1 = .ok (.getfield 107, 3) := by decide +kernel
theorem d_Mod_notes_4 : decode i_Mod_notes.2.1 4 = .ok (.bipush 8, 2) := by decide +kernel
theorem d_Mod_notes_6 : decode i_Mod_notes.2.1 6 = .ok (.if_icmp .ne 30, 3) := by decide +kernel
theorem d_Mod_notes_9 : decode i_Mod_notes.2.1 9 = .ok (.aload_n 0, 1) := by decide +kernel
theorem d_Mod_notes_10 : decode i_Mod_notes.2.1 10 = .ok (.getfield 13, 3) := by decide +kernel
theorem d_Mod_notes_13 : decode i_Mod_notes.2.1 13 = .ok (.bipush 68, 2) := by decide +kernel
theorem d_Mod_notes_15 : decode i_Mod_notes.2.1 15 = .ok (.aload_n 0, 1) := by decide +kernel
theorem d_Mod_notes_16 : decode i_Mod_notes.2.1 16 = .ok (.getfield 13, 3) := by decide +kernel
theorem d_Mod_notes_19 : decode i_Mod_notes.2.1 19 = .ok (.iconst 0, 1) := by decide +kernel
theorem d_Mod_notes_20 : decode i_Mod_notes.2.1 20 = .ok (.sipush 476, 3) := by decide +kernel
theorem d_Mod_notes_23 : decode i_Mod_notes.2.1 23 = .ok (.invokestatic 103, 3) := by decide +kernel
theorem d_Mod_notes_26 : decode i_Mod_notes.2.1 26 = .ok (.aload_n 0, 1) := by decide +kernel
theorem d_Mod_notes_27 : decode i_Mod_notes.2.1 27 = .ok (.dup, 1) := by decide +kernel
theorem d_Mod_notes_28 : decode i_Mod_notes.2.1 28 = .ok (.getfield 107, 3) := by decide +kernel
theorem d_Mod_notes_31 : decode i_Mod_notes.2.1 31 = .ok (.iconst 1, 1) := by decide +kernel
theorem d_Mod_notes_32 : decode i_Mod_notes.2.1 32 = .ok (.isub, 1) := by decide +kernel
theorem d_Mod_notes_33 : decode i_Mod_notes.2.1 33 = .ok (.putfield 107, 3) := by decide +kernel
theorem d_Mod_notes_36 : decode i_Mod_notes.2.1 36 = .ok (.aload_n 0, 1) := by decide +kernel
theorem d_Mod_notes_37 : decode i_Mod_notes.2.1 37 = .ok (.getfield 7, 3) := by decide +kernel
theorem d_Mod_notes_40 : decode i_Mod_notes.2.1 40 = .ok (.iconst 0, 1) := by decide +kernel
theorem d_Mod_notes_41 : decode i_Mod_notes.2.1 41 = .ok (.aload_n 0, 1) := by decide +kernel
theorem d_Mod_notes_42 : decode i_Mod_notes.2.1 42 = .ok (.getfield 13, 3) := by decide +kernel
theorem d_Mod_notes_45 : decode i_Mod_notes.2.1 45 = .ok (.bipush 68, 2) := by decide +kernel
theorem d_Mod_notes_47 : decode i_Mod_notes.2.1 47 = .ok (.aload_n 0, 1) := by decide +kernel
theorem d_Mod_notes_48 : decode i_Mod_notes.2.1 48 = .ok (.getfield 107, 3) := by decide +kernel
theorem d_Mod_notes_51 : decode i_Mod_notes.2.1 51 = .ok (.imul, 1) := by decide +kernel
theorem d_Mod_notes_52 : decode i_Mod_notes.2.1 52 = .ok (.bipush 68, 2) := by decide +kernel
theorem d_Mod_notes_54 : decode i_Mod_notes.2.1 54 = .ok (.invokestatic 103, 3) := by decide +kernel
theorem d_Mod_notes_57 : decode i_Mod_notes.2.1 57 = .ok (.aload_n 0, 1) := by decide +kernel
theorem d_Mod_notes_58 : decode i_Mod_notes.2.1 58 = .ok (.dup, 1) := by decide +kernel
theorem d_Mod_notes_59 : decode i_Mod_notes.2.1 59 = .ok (.getfield 107, 3) := by decide +kernel
theorem d_Mod_notes_62 : decode i_Mod_notes.2.1 62 = .ok (.iconst 1, 1) := by decide +kernel
theorem d_Mod_notes_63 : decode i_Mod_notes.2.1 63 = .ok (.iadd, 1) := by decide +kernel
theorem d_Mod_notes_64 : decode i_Mod_notes.2.1 64 = .ok (.putfield 107, 3) := by decide +kernel
theorem d_Mod_notes_67 : decode i_Mod_notes.2.1 67 = .ok (.aload_n 0, 1) := by decide +kernel
theorem d_Mod_notes_68 : decode i_Mod_notes.2.1 68 = .ok (.iconst 0, 1) := by decide +kernel
theorem d_Mod_notes_69 : decode i_Mod_notes.2.1 69 = .ok (.putfield 110, 3) := by decide +kernel
theorem d_Mod_notes_72 : decode i_Mod_notes.2.1 72 = .ok (.return_, 1) := by decide +kernel
theorem d_Mod_undo_0 : decode i_Mod_undo.2.1 0 = .ok (.aload_n 0, 1) := by decide +kernel
theorem d_Mod_undo_1 : decode i_Mod_undo.2.1 1 = .ok (.getfield 107, 3) := by decide +kernel
theorem d_Mod_undo_4 : decode i_Mod_undo.2.1 4 = .ok (.ifCond .ne 6, 3) := by decide +kernel
theorem d_Mod_undo_7 : decode i_Mod_undo.2.1 7 = .ok (.ldc 117, 2) := by decide +kernel
theorem d_Mod_undo_9 : decode i_Mod_undo.2.1 9 = .ok (.ireturn, 1) := by decide +kernel
theorem d_Mod_undo_10 : decode i_Mod_undo.2.1 10 = .ok (.aload_n 0, 1) := by decide +kernel
theorem d_Mod_undo_11 : decode i_Mod_undo.2.1 11 = .ok (.dup, 1) := by decide +kernel
theorem d_Mod_undo_12 : decode i_Mod_undo.2.1 12 = .ok (.getfield 107, 3) := by decide +kernel
theorem d_Mod_undo_15 : decode i_Mod_undo.2.1 15 = .ok (.iconst 1, 1) := by decide +kernel
theorem d_Mod_undo_16 : decode i_Mod_undo.2.1 16 = .ok (.isub, 1) := by decide +kernel
theorem d_Mod_undo_17 : decode i_Mod_undo.2.1 17 = .ok (.putfield 107, 3) := by decide +kernel
theorem d_Mod_undo_20 : decode i_Mod_undo.2.1 20 = .ok (.aload_n 0, 1) := by decide +kernel
theorem d_Mod_undo_21 : decode i_Mod_undo.2.1 21 = .ok (.getfield 13, 3) := by decide +kernel
theorem d_Mod_undo_24 : decode i_Mod_undo.2.1 24 = .ok (.bipush 68, 2) := by decide +kernel
theorem d_Mod_undo_26 : decode i_Mod_undo.2.1 26 = .ok (.aload_n 0, 1) := by decide +kernel
theorem d_Mod_undo_27 : decode i_Mod_undo.2.1 27 = .ok (.getfield 107, 3) := by decide +kernel
theorem d_Mod_undo_30 : decode i_Mod_undo.2.1 30 = .ok (.imul, 1) := by decide +kernel
theorem d_Mod_undo_31 : decode i_Mod_undo.2.1 31 = .ok (.aload_n 0, 1) := by decide +kernel
theorem d_Mod_undo_32 : decode i_Mod_undo.2.1 32 = .ok (.getfield 7, 3) := by decide +kernel
theorem d_Mod_undo_35 : decode i_Mod_undo.2.1 35 = .ok (.iconst 0, 1) := by decide +kernel
theorem d_Mod_undo_36 : decode i_Mod_undo.2.1 36 = .ok (.bipush 68, 2) := by decide +kernel
theorem d_Mod_undo_38 : decode i_Mod_undo.2.1 38 = .ok (.invokestatic 103, 3) := by decide +kernel
theorem d_Mod_undo_41 : decode i_Mod_undo.2.1 41 = .ok (.aload_n 0, 1) := by decide +kernel
theorem d_Mod_undo_42 : decode i_Mod_undo.2.1 42 = .ok (.iconst 0, 1) := by decide +kernel
theorem d_Mod_undo_43 : decode i_Mod_undo.2.1 43 = .ok (.putfield 110, 3) := by decide +kernel
theorem d_Mod_undo_46 : decode i_Mod_undo.2.1 46 = .ok (.aload_n 0, 1) := by decide +kernel
theorem d_Mod_undo_47 : decode i_Mod_undo.2.1 47 = .ok (.getfield 107, 3) := by decide +kernel
theorem d_Mod_undo_50 : decode i_Mod_undo.2.1 50 = .ok (.ireturn, 1) := by decide +kernel
theorem d_Mod_flip_0 : decode i_Mod_flip.2.1 0 = .ok (.aload_n 0, 1) := by decide +kernel
theorem d_Mod_flip_1 : decode i_Mod_flip.2.1 1 = .ok (.iload_n 1, 1) := by decide +kernel
theorem d_Mod_flip_2 : decode i_Mod_flip.2.1 2 = .ok (.iload_n 2, 1) := by decide +kernel
theorem d_Mod_flip_3 : decode i_Mod_flip.2.1 3 = .ok (.invokevirtual 118, 3) := by decide +kernel
theorem d_Mod_flip_6 : decode i_Mod_flip.2.1 6 = .ok (.ifCond .ne 6, 3) := by decide +kernel
theorem d_Mod_flip_9 : decode i_Mod_flip.2.1 9 = .ok (.ldc 75, 2) := by decide +kernel
theorem d_Mod_flip_11 : decode i_Mod_flip.2.1 11 = .ok (.ireturn, 1) := by decide +kernel
theorem d_Mod_flip_12 : decode i_Mod_flip.2.1 12 = .ok (.aload_n 0, 1) := by decide +kernel
theorem d_Mod_flip_13 : decode i_Mod_flip.2.1 13 = .ok (.invokevirtual 122, 3) := by decide +kernel
theorem d_Mod_flip_16 : decode i_Mod_flip.2.1 16 = .ok (.aload_n 0, 1) := by decide +kernel
theorem d_Mod_flip_17 : decode i_Mod_flip.2.1 17 = .ok (.getfield 7, 3) := by decide +kernel
theorem d_Mod_flip_20 : decode i_Mod_flip.2.1 20 = .ok (.iconst 4, 1) := by decide +kernel
theorem d_Mod_flip_21 : decode i_Mod_flip.2.1 21 = .ok (.bipush 8, 2) := by decide +kernel
theorem d_Mod_flip_23 : decode i_Mod_flip.2.1 23 = .ok (.iload_n 2, 1) := by decide +kernel
theorem d_Mod_flip_24 : decode i_Mod_flip.2.1 24 = .ok (.imul, 1) := by decide +kernel
theorem d_Mod_flip_25 : decode i_Mod_flip.2.1 25 = .ok (.iadd, 1) := by decide +kernel
theorem d_Mod_flip_26 : decode i_Mod_flip.2.1 26 = .ok (.iload_n 1, 1) := by decide +kernel
theorem d_Mod_flip_27 : decode i_Mod_flip.2.1 27 = .ok (.iadd, 1) := by decide +kernel
theorem d_Mod_flip_28 : decode i_Mod_flip.2.1 28 = .ok (.iconst 1, 1) := by decide +kernel
theorem d_Mod_flip_29 : decode i_Mod_flip.2.1 29 = .ok (.aload_n 0, 1) := by decide +kernel
theorem d_Mod_flip_30 : decode i_Mod_flip.2.1 30 = .ok (.getfield 7, 3) := by decide +kernel
theorem d_Mod_flip_33 : decode i_Mod_flip.2.1 33 = .ok (.iconst 4, 1) := by decide +kernel
theorem d_Mod_flip_34 : decode i_Mod_flip.2.1 34 = .ok (.bipush 8, 2) := by decide +kernel
theorem d_Mod_flip_36 : decode i_Mod_flip.2.1 36 = .ok (.iload_n 2, 1) := by decide +kernel
theorem d_Mod_flip_37 : decode i_Mod_flip.2.1 37 = .ok (.imul, 1) := by decide +kernel
theorem d_Mod_flip_38 : decode i_Mod_flip.2.1 38 = .ok (.iadd, 1) := by decide +kernel
theorem d_Mod_flip_39 : decode i_Mod_flip.2.1 39 = .ok (.iload_n 1, 1) := by decide +kernel
theorem d_Mod_flip_40 : decode i_Mod_flip.2.1 40 = .ok (.iadd, 1) := by decide +kernel
theorem d_Mod_flip_41 : decode i_Mod_flip.2.1 41 = .ok (.iaload, 1) := by decide +kernel
theorem d_Mod_flip_42 : decode i_Mod_flip.2.1 42 = .ok (.isub, 1) := by decide +kernel
theorem d_Mod_flip_43 : decode i_Mod_flip.2.1 43 = .ok (.iastore, 1) := by decide +kernel
theorem d_Mod_flip_44 : decode i_Mod_flip.2.1 44 = .ok (.aload_n 0, 1) := by decide +kernel
theorem d_Mod_flip_45 : decode i_Mod_flip.2.1 45 = .ok (.getfield 7, 3) := by decide +kernel
theorem d_Mod_flip_48 : decode i_Mod_flip.2.1 48 = .ok (.iconst 4, 1) := by decide +kernel
theorem d_Mod_flip_49 : decode i_Mod_flip.2.1 49 = .ok (.bipush 8, 2) := by decide +kernel
theorem d_Mod_flip_51 : decode i_Mod_flip.2.1 51 = .ok (.iload_n 2, 1) := by decide +kernel
theorem d_Mod_flip_52 : decode i_Mod_flip.2.1 52 = .ok (.imul, 1) := by decide +kernel
theorem d_Mod_flip_53 : decode i_Mod_flip.2.1 53 = .ok (.iadd, 1) := by decide +kernel
theorem d_Mod_flip_54 : decode i_Mod_flip.2.1 54 = .ok (.iload_n 1, 1) := by decide +kernel
theorem d_Mod_flip_55 : decode i_Mod_flip.2.1 55 = .ok (.iadd, 1) := by decide +kernel
theorem d_Mod_flip_56 : decode i_Mod_flip.2.1 56 = .ok (.iaload, 1) := by decide +kernel
theorem d_Mod_flip_57 : decode i_Mod_flip.2.1 57 = .ok (.ireturn, 1) := by decide +kernel
theorem d_Mod_frame_0 : decode i_Mod_frame.2.1 0 = .ok (.aload_n 0, 1) := by decide +kernel
theorem d_Mod_frame_1 : decode i_Mod_frame.2.1 1 = .ok (.iload_n 1, 1) := by decide +kernel
theorem d_Mod_frame_2 : decode i_Mod_frame.2.1 2 = .ok (.iload_n 2, 1) := by decide +kernel
theorem d_Mod_frame_3 : decode i_Mod_frame.2.1 3 = .ok (.invokevirtual 118, 3) := by decide +kernel
theorem d_Mod_frame_6 : decode i_Mod_frame.2.1 6 = .ok (.ifCond .eq 34, 3) := by decide +kernel
theorem d_Mod_frame_9 : decode i_Mod_frame.2.1 9 = .ok (.aload_n 0, 1) := by decide +kernel
theorem d_Mod_frame_10 : decode i_Mod_frame.2.1 10 = .ok (.iload_n 3, 1) := by decide +kernel
theorem d_Mod_frame_11 : decode i_Mod_frame.2.1 11 = .ok (.iload 4, 2) := by decide +kernel
theorem d_Mod_frame_13 : decode i_Mod_frame.2.1 13 = .ok (.invokevirtual 118, 3) := by decide +kernel
theorem d_Mod_frame_16 : decode i_Mod_frame.2.1 16 = .ok (.ifCond .eq 24, 3) := by decide +kernel
theorem d_Mod_frame_19 : decode i_Mod_frame.2.1 19 = .ok (.iload_n 3, 1) := by decide +kernel
theorem d_Mod_frame_20 : decode i_Mod_frame.2.1 20 = .ok (.iload_n 1, 1) := by decide +kernel
theorem d_Mod_frame_21 : decode i_Mod_frame.2.1 21 = .ok (.if_icmp .lt 19, 3) := by decide +kernel
theorem d_Mod_frame_24 : decode i_Mod_frame.2.1 24 = .ok (.iload 4, 2) := by decide +kernel
theorem d_Mod_frame_26 : decode i_Mod_frame.2.1 26 = .ok (.iload_n 2, 1) := by decide +kernel
theorem d_Mod_frame_27 : decode i_Mod_frame.2.1 27 = .ok (.if_icmp .lt 13, 3) := by decide +kernel
theorem d_Mod_frame_30 : decode i_Mod_frame.2.1 30 = .ok (.iload 5, 2) := by decide +kernel
theorem d_Mod_frame_32 : decode i_Mod_frame.2.1 32 = .ok (.iconst 0, 1) := by decide +kernel
theorem d_Mod_frame_33 : decode i_Mod_frame.2.1 33 = .ok (.iconst 2, 1) := by decide +kernel
theorem d_Mod_frame_34 : decode i_Mod_frame.2.1 34 = .ok (.invokestatic 71, 3) := by decide +kernel
theorem d_Mod_frame_37 : decode i_Mod_frame.2.1 37 = .ok (.ifCond .ne 6, 3) := by decide +kernel
theorem d_Mod_frame_40 : decode i_Mod_frame.2.1 40 = .ok (.ldc 75, 2) := by decide +kernel
theorem d_Mod_frame_42 : decode i_Mod_frame.2.1 42 = .ok (.ireturn, 1) := by decide +kernel
theorem d_Mod_frame_43 : decode i_Mod_frame.2.1 43 = .ok (.aload_n 0, 1) := by decide +kernel
theorem d_Mod_frame_44 : decode i_Mod_frame.2.1 44 = .ok (.invokevirtual 122, 3) := by decide +kernel
theorem d_Mod_frame_47 : decode i_Mod_frame.2.1 47 = .ok (.iload_n 1, 1) := by decide +kernel
theorem d_Mod_frame_48 : decode i_Mod_frame.2.1 48 = .ok (.istore 6, 2) := by decide +kernel
theorem d_Mod_frame_50 : decode i_Mod_frame.2.1 50 = .ok (.iload 6, 2) := by decide +kernel
theorem d_Mod_frame_52 : decode i_Mod_frame.2.1 52 = .ok (.iload_n 3, 1) := by decide +kernel
theorem d_Mod_frame_53 : decode i_Mod_frame.2.1 53 = .ok (.if_icmp .gt 64, 3) := by decide +kernel
theorem d_Mod_frame_56 : decode i_Mod_frame.2.1 56 = .ok (.iload_n 2, 1) := by decide +kernel
theorem d_Mod_frame_57 : decode i_Mod_frame.2.1 57 = .ok (.istore 7, 2) := by decide +kernel
theorem d_Mod_frame_59 : decode i_Mod_frame.2.1 59 = .ok (.iload 7, 2) := by decide +kernel
theorem d_Mod_frame_61 : decode i_Mod_frame.2.1 61 = .ok (.iload 4, 2) := by decide +kernel
theorem d_Mod_frame_63 : decode i_Mod_frame.2.1 63 = .ok (.if_icmp .gt 48, 3) := by decide +kernel
theorem d_Mod_frame_66 : decode i_Mod_frame.2.1 66 = .ok (.iconst 4, 1) := by decide +kernel
theorem d_Mod_frame_67 : decode i_Mod_frame.2.1 67 = .ok (.bipush 8, 2) := by decide +kernel
theorem d_Mod_frame_69 : decode i_Mod_frame.2.1 69 = .ok (.iload 7, 2) := by decide +kernel
theorem d_Mod_frame_71 : decode i_Mod_frame.2.1 71 = .ok (.imul, 1) := by decide +kernel
theorem d_Mod_frame_72 : decode i_Mod_frame.2.1 72 = .ok (.iadd, 1) := by decide +kernel
theorem d_Mod_frame_73 : decode i_Mod_frame.2.1 73 = .ok (.iload 6, 2) := by decide +kernel
theorem d_Mod_frame_75 : decode i_Mod_frame.2.1 75 = .ok (.iadd, 1) := by decide +kernel
theorem d_Mod_frame_76 : decode i_Mod_frame.2.1 76 = .ok (.istore 8, 2) := by decide +kernel
theorem d_Mod_frame_78 : decode i_Mod_frame.2.1 78 = .ok (.aload_n 0, 1) := by decide +kernel
theorem d_Mod_frame_79 : decode i_Mod_frame.2.1 79 = .ok (.getfield 7, 3) := by decide +kernel
theorem d_Mod_frame_82 : decode i_Mod_frame.2.1 82 = .ok (.iload 8, 2) := by decide +kernel
theorem d_Mod_frame_84 : decode i_Mod_frame.2.1 84 = .ok (.iload 5, 2) := by decide +kernel
theorem d_Mod_frame_86 : decode i_Mod_frame.2.1 86 = .ok (.iconst 2, 1) := by decide +kernel
theorem d_Mod_frame_87 : decode i_Mod_frame.2.1 87 = .ok (.if_icmp .ge 8, 3) := by decide +kernel
theorem d_Mod_frame_90 : decode i_Mod_frame.2.1 90 = .ok (.iload 5, 2) := by decide +kernel
theorem d_Mod_frame_92 : decode i_Mod_frame.2.1 92 = .ok (.goto 12, 3) := by decide +kernel
theorem d_Mod_frame_95 : decode i_Mod_frame.2.1 95 = .ok (.iconst 1, 1) := by decide +kernel
theorem d_Mod_frame_96 : decode i_Mod_frame.2.1 96 = .ok (.aload_n 0, 1) := by decide +kernel
theorem d_Mod_frame_97 : decode i_Mod_frame.2.1 97 = .ok (.getfield 7, 3) := by decide +kernel
theorem d_Mod_frame_100 : decode i_Mod_frame.2.1 100 = .ok (.iload 8, 2) := by decide +kernel
theorem d_Mod_frame_102 : decode i_Mod_frame.2.1 102 = .ok (.iaload, 1) := by decide +kernel
theorem d_Mod_frame_103 : decode i_Mod_frame.2.1 103 = .ok (.isub, 1) := by decide +kernel
theorem d_Mod_frame_104 : decode i_Mod_frame.2.1 104 = .ok (.iastore, 1) := by decide +kernel
theorem d_Mod_frame_105 : decode i_Mod_frame.2.1 105 = .ok (.iinc 7 1, 3) := by decide +kernel
theorem d_Mod_frame_108 : decode i_Mod_frame.2.1 108 = .ok (.goto (-49), 3) := by decide +kernel
theorem d_Mod_frame_111 : decode i_Mod_frame.2.1 111 = .ok (.iinc 6 1, 3) := by decide +kernel
theorem d_Mod_frame_114 : decode i_Mod_frame.2.1 114 = .ok (.goto (-64), 3) := by decide +kernel
theorem d_Mod_frame_117 : decode i_Mod_frame.2.1 117 = .ok (.aload_n 0, 1) := by decide +kernel
theorem d_Mod_frame_118 : decode i_Mod_frame.2.1 118 = .ok (.invokevirtual 114, 3) := by decide +kernel
theorem d_Mod_frame_121 : decode i_Mod_frame.2.1 121 = .ok (.ireturn, 1) := by decide +kernel
theorem d_Mod_tells_0 : decode i_Mod_tells.2.1 0 = .ok (.aload_n 0, 1) := by decide +kernel
theorem d_Mod_tells_1 : decode i_Mod_tells.2.1 1 = .ok (.invokevirtual 125, 3) := by decide +kernel
theorem d_Mod_tells_4 : decode i_Mod_tells.2.1 4 = .ok (.ifCond .ne 6, 3) := by decide +kernel
theorem d_Mod_tells_7 : decode i_Mod_tells.2.1 7 = .ok (.ldc 117, 2) := by decide +kernel
theorem d_Mod_tells_9 : decode i_Mod_tells.2.1 9 = .ok (.ireturn, 1) := by decide +kernel
theorem d_Mod_tells_10 : decode i_Mod_tells.2.1 10 = .ok (.iload_n 2, 1) := by decide +kernel
theorem d_Mod_tells_11 : decode i_Mod_tells.2.1 11 = .ok (.iload_n 3, 1) := by decide +kernel
theorem d_Mod_tells_12 : decode i_Mod_tells.2.1 12 = .ok (.iload 4, 2) := by decide +kernel
theorem d_Mod_tells_14 : decode i_Mod_tells.2.1 14 = .ok (.invokestatic 71, 3) := by decide +kernel
theorem d_Mod_tells_17 : decode i_Mod_tells.2.1 17 = .ok (.ifCond .ne 6, 3) := by decide +kernel
theorem d_Mod_tells_20 : decode i_Mod_tells.2.1 20 = .ok (.ldc 75, 2) := by decide +kernel
theorem d_Mod_tells_22 : decode i_Mod_tells.2.1 22 = .ok (.ireturn, 1) := by decide +kernel
theorem d_Mod_tells_23 : decode i_Mod_tells.2.1 23 = .ok (.aload_n 0, 1) := by decide +kernel
theorem d_Mod_tells_24 : decode i_Mod_tells.2.1 24 = .ok (.invokevirtual 122, 3) := by decide +kernel
theorem d_Mod_tells_27 : decode i_Mod_tells.2.1 27 = .ok (.aload_n 0, 1) := by decide +kernel
theorem d_Mod_tells_28 : decode i_Mod_tells.2.1 28 = .ok (.getfield 7, 3) := by decide +kernel
theorem d_Mod_tells_31 : decode i_Mod_tells.2.1 31 = .ok (.iload_n 1, 1) := by decide +kernel
theorem d_Mod_tells_32 : decode i_Mod_tells.2.1 32 = .ok (.iaload, 1) := by decide +kernel
theorem d_Mod_tells_33 : decode i_Mod_tells.2.1 33 = .ok (.istore 5, 2) := by decide +kernel
theorem d_Mod_tells_35 : decode i_Mod_tells.2.1 35 = .ok (.aload_n 0, 1) := by decide +kernel
theorem d_Mod_tells_36 : decode i_Mod_tells.2.1 36 = .ok (.getfield 7, 3) := by decide +kernel
theorem d_Mod_tells_39 : decode i_Mod_tells.2.1 39 = .ok (.iload_n 1, 1) := by decide +kernel
theorem d_Mod_tells_40 : decode i_Mod_tells.2.1 40 = .ok (.iload_n 2, 1) := by decide +kernel
theorem d_Mod_tells_41 : decode i_Mod_tells.2.1 41 = .ok (.iastore, 1) := by decide +kernel
theorem d_Mod_tells_42 : decode i_Mod_tells.2.1 42 = .ok (.iload 5, 2) := by decide +kernel
theorem d_Mod_tells_44 : decode i_Mod_tells.2.1 44 = .ok (.ireturn, 1) := by decide +kernel
theorem d_Mod_joined_0 : decode i_Mod_joined.2.1 0 = .ok (.aload_n 0, 1) := by decide +kernel
theorem d_Mod_joined_1 : decode i_Mod_joined.2.1 1 = .ok (.iconst 2, 1) := by decide +kernel
theorem d_Mod_joined_2 : decode i_Mod_joined.2.1 2 = .ok (.iload_n 1, 1) := by decide +kernel
theorem d_Mod_joined_3 : decode i_Mod_joined.2.1 3 = .ok (.iconst 0, 1) := by decide +kernel
theorem d_Mod_joined_4 : decode i_Mod_joined.2.1 4 = .ok (.iconst 1, 1) := by decide +kernel
theorem d_Mod_joined_5 : decode i_Mod_joined.2.1 5 = .ok (.invokevirtual 129, 3) := by decide +kernel
theorem d_Mod_joined_8 : decode i_Mod_joined.2.1 8 = .ok (.ireturn, 1) := by decide +kernel
theorem d_Mod_sharp_0 : decode i_Mod_sharp.2.1 0 = .ok (.aload_n 0, 1) := by decide +kernel
theorem d_Mod_sharp_1 : decode i_Mod_sharp.2.1 1 = .ok (.iconst 3, 1) := by decide +kernel
theorem d_Mod_sharp_2 : decode i_Mod_sharp.2.1 2 = .ok (.iload_n 1, 1) := by decide +kernel
theorem d_Mod_sharp_3 : decode i_Mod_sharp.2.1 3 = .ok (.iconst 1, 1) := by decide +kernel
theorem d_Mod_sharp_4 : decode i_Mod_sharp.2.1 4 = .ok (.bipush 32, 2) := by decide +kernel
theorem d_Mod_sharp_6 : decode i_Mod_sharp.2.1 6 = .ok (.invokevirtual 129, 3) := by decide +kernel
theorem d_Mod_sharp_9 : decode i_Mod_sharp.2.1 9 = .ok (.ireturn, 1) := by decide +kernel
theorem d_Mod_isRest_0 : decode i_Mod_isRest.2.1 0 = .ok (.aload_n 0, 1) := by decide +kernel
theorem d_Mod_isRest_1 : decode i_Mod_isRest.2.1 1 = .ok (.iload_n 1, 1) := by decide +kernel
theorem d_Mod_isRest_2 : decode i_Mod_isRest.2.1 2 = .ok (.iload_n 2, 1) := by decide +kernel
theorem d_Mod_isRest_3 : decode i_Mod_isRest.2.1 3 = .ok (.invokevirtual 118, 3) := by decide +kernel
theorem d_Mod_isRest_6 : decode i_Mod_isRest.2.1 6 = .ok (.ifCond .eq 25, 3) := by decide +kernel
theorem d_Mod_isRest_9 : decode i_Mod_isRest.2.1 9 = .ok (.aload_n 0, 1) := by decide +kernel
theorem d_Mod_isRest_10 : decode i_Mod_isRest.2.1 10 = .ok (.getfield 132, 3) := by decide +kernel
theorem d_Mod_isRest_13 : decode i_Mod_isRest.2.1 13 = .ok (.bipush 8, 2) := by decide +kernel
theorem d_Mod_isRest_15 : decode i_Mod_isRest.2.1 15 = .ok (.iload_n 2, 1) := by decide +kernel
theorem d_Mod_isRest_16 : decode i_Mod_isRest.2.1 16 = .ok (.imul, 1) := by decide +kernel
theorem d_Mod_isRest_17 : decode i_Mod_isRest.2.1 17 = .ok (.iload_n 1, 1) := by decide +kernel
theorem d_Mod_isRest_18 : decode i_Mod_isRest.2.1 18 = .ok (.iadd, 1) := by decide +kernel
theorem d_Mod_isRest_19 : decode i_Mod_isRest.2.1 19 = .ok (.lshr, 1) := by decide +kernel
theorem d_Mod_isRest_20 : decode i_Mod_isRest.2.1 20 = .ok (.lconst 1, 1) := by decide +kernel
theorem d_Mod_isRest_21 : decode i_Mod_isRest.2.1 21 = .ok (.land, 1) := by decide +kernel
theorem d_Mod_isRest_22 : decode i_Mod_isRest.2.1 22 = .ok (.lconst 1, 1) := by decide +kernel
theorem d_Mod_isRest_23 : decode i_Mod_isRest.2.1 23 = .ok (.lcmp, 1) := by decide +kernel
theorem d_Mod_isRest_24 : decode i_Mod_isRest.2.1 24 = .ok (.ifCond .ne 7, 3) := by decide +kernel
theorem d_Mod_isRest_27 : decode i_Mod_isRest.2.1 27 = .ok (.iconst 1, 1) := by decide +kernel
theorem d_Mod_isRest_28 : decode i_Mod_isRest.2.1 28 = .ok (.goto 4, 3) := by decide +kernel
theorem d_Mod_isRest_31 : decode i_Mod_isRest.2.1 31 = .ok (.iconst 0, 1) := by decide +kernel
theorem d_Mod_isRest_32 : decode i_Mod_isRest.2.1 32 = .ok (.ireturn, 1) := by decide +kernel
theorem d_Mod_stepX_0 : decode i_Mod_stepX.2.1 0 = .ok (.iload_n 0, 1) := by decide +kernel
theorem d_Mod_stepX_1 : decode i_Mod_stepX.2.1 1 = .ok (.ifCond .ne 7, 3) := by decide +kernel
theorem d_Mod_stepX_4 : decode i_Mod_stepX.2.1 4 = .ok (.iconst 1, 1) := by decide +kernel
theorem d_Mod_stepX_5 : decode i_Mod_stepX.2.1 5 = .ok (.goto 13, 3) := by decide +kernel
theorem d_Mod_stepX_8 : decode i_Mod_stepX.2.1 8 = .ok (.iload_n 0, 1) := by decide +kernel
theorem d_Mod_stepX_9 : decode i_Mod_stepX.2.1 9 = .ok (.iconst 2, 1) := by decide +kernel
theorem d_Mod_stepX_10 : decode i_Mod_stepX.2.1 10 = .ok (.if_icmp .ne 7, 3) := by decide +kernel
theorem d_Mod_stepX_13 : decode i_Mod_stepX.2.1 13 = .ok (.iconst (-1), 1) := by decide +kernel
theorem d_Mod_stepX_14 : decode i_Mod_stepX.2.1 14 = .ok (.goto 4, 3) := by decide +kernel
theorem d_Mod_stepX_17 : decode i_Mod_stepX.2.1 17 = .ok (.iconst 0, 1) := by decide +kernel
theorem d_Mod_stepX_18 : decode i_Mod_stepX.2.1 18 = .ok (.ireturn, 1) := by decide +kernel
theorem d_Mod_stepY_0 : decode i_Mod_stepY.2.1 0 = .ok (.iload_n 0, 1) := by decide +kernel
theorem d_Mod_stepY_1 : decode i_Mod_stepY.2.1 1 = .ok (.iconst 1, 1) := by decide +kernel
theorem d_Mod_stepY_2 : decode i_Mod_stepY.2.1 2 = .ok (.if_icmp .ne 7, 3) := by decide +kernel
theorem d_Mod_stepY_5 : decode i_Mod_stepY.2.1 5 = .ok (.iconst 1, 1) := by decide +kernel
theorem d_Mod_stepY_6 : decode i_Mod_stepY.2.1 6 = .ok (.goto 13, 3) := by decide +kernel
theorem d_Mod_stepY_9 : decode i_Mod_stepY.2.1 9 = .ok (.iload_n 0, 1) := by decide +kernel
theorem d_Mod_stepY_10 : decode i_Mod_stepY.2.1 10 = .ok (.iconst 3, 1) := by decide +kernel
theorem d_Mod_stepY_11 : decode i_Mod_stepY.2.1 11 = .ok (.if_icmp .ne 7, 3) := by decide +kernel
theorem d_Mod_stepY_14 : decode i_Mod_stepY.2.1 14 = .ok (.iconst (-1), 1) := by decide +kernel
theorem d_Mod_stepY_15 : decode i_Mod_stepY.2.1 15 = .ok (.goto 4, 3) := by decide +kernel
theorem d_Mod_stepY_18 : decode i_Mod_stepY.2.1 18 = .ok (.iconst 0, 1) := by decide +kernel
theorem d_Mod_stepY_19 : decode i_Mod_stepY.2.1 19 = .ok (.ireturn, 1) := by decide +kernel
theorem d_Mod_isBeside_0 : decode i_Mod_isBeside.2.1 0 = .ok (.iload_n 3, 1) := by decide +kernel
theorem d_Mod_isBeside_1 : decode i_Mod_isBeside.2.1 1 = .ok (.invokestatic 136, 3) := by decide +kernel
theorem d_Mod_isBeside_4 : decode i_Mod_isBeside.2.1 4 = .ok (.iload 4, 2) := by decide +kernel
theorem d_Mod_isBeside_6 : decode i_Mod_isBeside.2.1 6 = .ok (.iload_n 3, 1) := by decide +kernel
theorem d_Mod_isBeside_7 : decode i_Mod_isBeside.2.1 7 = .ok (.iconst 1, 1) := by decide +kernel
theorem d_Mod_isBeside_8 : decode i_Mod_isBeside.2.1 8 = .ok (.iadd, 1) := by decide +kernel
theorem d_Mod_isBeside_9 : decode i_Mod_isBeside.2.1 9 = .ok (.iconst 4, 1) := by decide +kernel
theorem d_Mod_isBeside_10 : decode i_Mod_isBeside.2.1 10 = .ok (.irem, 1) := by decide +kernel
theorem d_Mod_isBeside_11 : decode i_Mod_isBeside.2.1 11 = .ok (.invokestatic 136, 3) := by decide +kernel
theorem d_Mod_isBeside_14 : decode i_Mod_isBeside.2.1 14 = .ok (.imul, 1) := by decide +kernel
theorem d_Mod_isBeside_15 : decode i_Mod_isBeside.2.1 15 = .ok (.iadd, 1) := by decide +kernel
theorem d_Mod_isBeside_16 : decode i_Mod_isBeside.2.1 16 = .ok (.istore 5, 2) := by decide +kernel
theorem d_Mod_isBeside_18 : decode i_Mod_isBeside.2.1 18 = .ok (.iload_n 3, 1) := by decide +kernel
theorem d_Mod_isBeside_19 : decode i_Mod_isBeside.2.1 19 = .ok (.invokestatic 139, 3) := by decide +kernel
theorem d_Mod_isBeside_22 : decode i_Mod_isBeside.2.1 22 = .ok (.iload 4, 2) := by decide +kernel
theorem d_Mod_isBeside_24 : decode i_Mod_isBeside.2.1 24 = .ok (.iload_n 3, 1) := by decide +kernel
theorem d_Mod_isBeside_25 : decode i_Mod_isBeside.2.1 25 = .ok (.iconst 1, 1) := by decide +kernel
theorem d_Mod_isBeside_26 : decode i_Mod_isBeside.2.1 26 = .ok (.iadd, 1) := by decide +kernel
theorem d_Mod_isBeside_27 : decode i_Mod_isBeside.2.1 27 = .ok (.iconst 4, 1) := by decide +kernel
theorem d_Mod_isBeside_28 : decode i_Mod_isBeside.2.1 28 = .ok (.irem, 1) := by decide +kernel
theorem d_Mod_isBeside_29 : decode i_Mod_isBeside.2.1 29 = .ok (.invokestatic 139, 3) := by decide +kernel
theorem d_Mod_isBeside_32 : decode i_Mod_isBeside.2.1 32 = .ok (.imul, 1) := by decide +kernel
theorem d_Mod_isBeside_33 : decode i_Mod_isBeside.2.1 33 = .ok (.iadd, 1) := by decide +kernel
theorem d_Mod_isBeside_34 : decode i_Mod_isBeside.2.1 34 = .ok (.istore 6, 2) := by decide +kernel
theorem d_Mod_isBeside_36 : decode i_Mod_isBeside.2.1 36 = .ok (.aload_n 0, 1) := by decide +kernel
theorem d_Mod_isBeside_37 : decode i_Mod_isBeside.2.1 37 = .ok (.iload 5, 2) := by decide +kernel
theorem d_Mod_isBeside_39 : decode i_Mod_isBeside.2.1 39 = .ok (.ifCond .le 7, 3) := by decide +kernel
theorem d_Mod_isBeside_42 : decode i_Mod_isBeside.2.1 42 = .ok (.iload_n 1, 1) := by decide +kernel
theorem d_Mod_isBeside_43 : decode i_Mod_isBeside.2.1 43 = .ok (.goto 6, 3) := by decide +kernel
theorem d_Mod_isBeside_46 : decode i_Mod_isBeside.2.1 46 = .ok (.iload_n 1, 1) := by decide +kernel
theorem d_Mod_isBeside_47 : decode i_Mod_isBeside.2.1 47 = .ok (.iconst 1, 1) := by decide +kernel
theorem d_Mod_isBeside_48 : decode i_Mod_isBeside.2.1 48 = .ok (.isub, 1) := by decide +kernel
theorem d_Mod_isBeside_49 : decode i_Mod_isBeside.2.1 49 = .ok (.iload 6, 2) := by decide +kernel
theorem d_Mod_isBeside_51 : decode i_Mod_isBeside.2.1 51 = .ok (.ifCond .le 7, 3) := by decide +kernel
theorem d_Mod_isBeside_54 : decode i_Mod_isBeside.2.1 54 = .ok (.iload_n 2, 1) := by decide +kernel
theorem d_Mod_isBeside_55 : decode i_Mod_isBeside.2.1 55 = .ok (.goto 6, 3) := by decide +kernel
theorem d_Mod_isBeside_58 : decode i_Mod_isBeside.2.1 58 = .ok (.iload_n 2, 1) := by decide +kernel
theorem d_Mod_isBeside_59 : decode i_Mod_isBeside.2.1 59 = .ok (.iconst 1, 1) := by decide +kernel
theorem d_Mod_isBeside_60 : decode i_Mod_isBeside.2.1 60 = .ok (.isub, 1) := by decide +kernel
theorem d_Mod_isBeside_61 : decode i_Mod_isBeside.2.1 61 = .ok (.invokevirtual 142, 3) := by decide +kernel
theorem d_Mod_isBeside_64 : decode i_Mod_isBeside.2.1 64 = .ok (.ireturn, 1) := by decide +kernel
theorem d_Mod_turns_0 : decode i_Mod_turns.2.1 0 = .ok (.aload_n 0, 1) := by decide +kernel
theorem d_Mod_turns_1 : decode i_Mod_turns.2.1 1 = .ok (.iload_n 1, 1) := by decide +kernel
theorem d_Mod_turns_2 : decode i_Mod_turns.2.1 2 = .ok (.iload_n 2, 1) := by decide +kernel
theorem d_Mod_turns_3 : decode i_Mod_turns.2.1 3 = .ok (.iload_n 3, 1) := by decide +kernel
theorem d_Mod_turns_4 : decode i_Mod_turns.2.1 4 = .ok (.iconst (-1), 1) := by decide +kernel
theorem d_Mod_turns_5 : decode i_Mod_turns.2.1 5 = .ok (.invokevirtual 145, 3) := by decide +kernel
theorem d_Mod_turns_8 : decode i_Mod_turns.2.1 8 = .ok (.istore 4, 2) := by decide +kernel
theorem d_Mod_turns_10 : decode i_Mod_turns.2.1 10 = .ok (.aload_n 0, 1) := by decide +kernel
theorem d_Mod_turns_11 : decode i_Mod_turns.2.1 11 = .ok (.iload_n 1, 1) := by decide +kernel
theorem d_Mod_turns_12 : decode i_Mod_turns.2.1 12 = .ok (.iload_n 2, 1) := by decide +kernel
theorem d_Mod_turns_13 : decode i_Mod_turns.2.1 13 = .ok (.iload_n 3, 1) := by decide +kernel
theorem d_Mod_turns_14 : decode i_Mod_turns.2.1 14 = .ok (.iconst 1, 1) := by decide +kernel
theorem d_Mod_turns_15 : decode i_Mod_turns.2.1 15 = .ok (.invokevirtual 145, 3) := by decide +kernel
theorem d_Mod_turns_18 : decode i_Mod_turns.2.1 18 = .ok (.istore 5, 2) := by decide +kernel
theorem d_Mod_turns_20 : decode i_Mod_turns.2.1 20 = .ok (.iload 4, 2) := by decide +kernel
theorem d_Mod_turns_22 : decode i_Mod_turns.2.1 22 = .ok (.iload 5, 2) := by decide +kernel
theorem d_Mod_turns_24 : decode i_Mod_turns.2.1 24 = .ok (.if_icmp .ne 22, 3) := by decide +kernel
theorem d_Mod_turns_27 : decode i_Mod_turns.2.1 27 = .ok (.iload 4, 2) := by decide +kernel
theorem d_Mod_turns_29 : decode i_Mod_turns.2.1 29 = .ok (.ifCond .eq 11, 3) := by decide +kernel
theorem d_Mod_turns_32 : decode i_Mod_turns.2.1 32 = .ok (.iload_n 3, 1) := by decide +kernel
theorem d_Mod_turns_33 : decode i_Mod_turns.2.1 33 = .ok (.iconst 3, 1) := by decide +kernel
theorem d_Mod_turns_34 : decode i_Mod_turns.2.1 34 = .ok (.iadd, 1) := by decide +kernel
theorem d_Mod_turns_35 : decode i_Mod_turns.2.1 35 = .ok (.iconst 4, 1) := by decide +kernel
theorem d_Mod_turns_36 : decode i_Mod_turns.2.1 36 = .ok (.irem, 1) := by decide +kernel
theorem d_Mod_turns_37 : decode i_Mod_turns.2.1 37 = .ok (.goto 8, 3) := by decide +kernel
theorem d_Mod_turns_40 : decode i_Mod_turns.2.1 40 = .ok (.iload_n 3, 1) := by decide +kernel
theorem d_Mod_turns_41 : decode i_Mod_turns.2.1 41 = .ok (.iconst 1, 1) := by decide +kernel
theorem d_Mod_turns_42 : decode i_Mod_turns.2.1 42 = .ok (.iadd, 1) := by decide +kernel
theorem d_Mod_turns_43 : decode i_Mod_turns.2.1 43 = .ok (.iconst 4, 1) := by decide +kernel
theorem d_Mod_turns_44 : decode i_Mod_turns.2.1 44 = .ok (.irem, 1) := by decide +kernel
theorem d_Mod_turns_45 : decode i_Mod_turns.2.1 45 = .ok (.ireturn, 1) := by decide +kernel
theorem d_Mod_turns_46 : decode i_Mod_turns.2.1 46 = .ok (.iload 5, 2) := by decide +kernel
theorem d_Mod_turns_48 : decode i_Mod_turns.2.1 48 = .ok (.ifCond .eq 5, 3) := by decide +kernel
theorem d_Mod_turns_51 : decode i_Mod_turns.2.1 51 = .ok (.iload_n 3, 1) := by decide +kernel
theorem d_Mod_turns_52 : decode i_Mod_turns.2.1 52 = .ok (.ireturn, 1) := by decide +kernel
theorem d_Mod_turns_53 : decode i_Mod_turns.2.1 53 = .ok (.aload_n 0, 1) := by decide +kernel
theorem d_Mod_turns_54 : decode i_Mod_turns.2.1 54 = .ok (.getfield 7, 3) := by decide +kernel
theorem d_Mod_turns_57 : decode i_Mod_turns.2.1 57 = .ok (.iconst 2, 1) := by decide +kernel
theorem d_Mod_turns_58 : decode i_Mod_turns.2.1 58 = .ok (.iaload, 1) := by decide +kernel
theorem d_Mod_turns_59 : decode i_Mod_turns.2.1 59 = .ok (.ifCond .ne 11, 3) := by decide +kernel
theorem d_Mod_turns_62 : decode i_Mod_turns.2.1 62 = .ok (.iload_n 3, 1) := by decide +kernel
theorem d_Mod_turns_63 : decode i_Mod_turns.2.1 63 = .ok (.iconst 1, 1) := by decide +kernel
theorem d_Mod_turns_64 : decode i_Mod_turns.2.1 64 = .ok (.iadd, 1) := by decide +kernel
theorem d_Mod_turns_65 : decode i_Mod_turns.2.1 65 = .ok (.iconst 4, 1) := by decide +kernel
theorem d_Mod_turns_66 : decode i_Mod_turns.2.1 66 = .ok (.irem, 1) := by decide +kernel
theorem d_Mod_turns_67 : decode i_Mod_turns.2.1 67 = .ok (.goto 8, 3) := by decide +kernel
theorem d_Mod_turns_70 : decode i_Mod_turns.2.1 70 = .ok (.iload_n 3, 1) := by decide +kernel
theorem d_Mod_turns_71 : decode i_Mod_turns.2.1 71 = .ok (.iconst 3, 1) := by decide +kernel
theorem d_Mod_turns_72 : decode i_Mod_turns.2.1 72 = .ok (.iadd, 1) := by decide +kernel
theorem d_Mod_turns_73 : decode i_Mod_turns.2.1 73 = .ok (.iconst 4, 1) := by decide +kernel
theorem d_Mod_turns_74 : decode i_Mod_turns.2.1 74 = .ok (.irem, 1) := by decide +kernel
theorem d_Mod_turns_75 : decode i_Mod_turns.2.1 75 = .ok (.ireturn, 1) := by decide +kernel
theorem d_Mod_walks_0 : decode i_Mod_walks.2.1 0 = .ok (.aload_n 0, 1) := by decide +kernel
theorem d_Mod_walks_1 : decode i_Mod_walks.2.1 1 = .ok (.getfield 34, 3) := by decide +kernel
theorem d_Mod_walks_4 : decode i_Mod_walks.2.1 4 = .ok (.iload_n 2, 1) := by decide +kernel
theorem d_Mod_walks_5 : decode i_Mod_walks.2.1 5 = .ok (.iaload, 1) := by decide +kernel
theorem d_Mod_walks_6 : decode i_Mod_walks.2.1 6 = .ok (.istore_n 3, 1) := by decide +kernel
theorem d_Mod_walks_7 : decode i_Mod_walks.2.1 7 = .ok (.aload_n 0, 1) := by decide +kernel
theorem d_Mod_walks_8 : decode i_Mod_walks.2.1 8 = .ok (.getfield 37, 3) := by decide +kernel
theorem d_Mod_walks_11 : decode i_Mod_walks.2.1 11 = .ok (.iload_n 2, 1) := by decide +kernel
theorem d_Mod_walks_12 : decode i_Mod_walks.2.1 12 = .ok (.iaload, 1) := by decide +kernel
theorem d_Mod_walks_13 : decode i_Mod_walks.2.1 13 = .ok (.istore 4, 2) := by decide +kernel
theorem d_Mod_walks_15 : decode i_Mod_walks.2.1 15 = .ok (.iconst 0, 1) := by decide +kernel
theorem d_Mod_walks_16 : decode i_Mod_walks.2.1 16 = .ok (.istore 5, 2) := by decide +kernel
theorem d_Mod_walks_18 : decode i_Mod_walks.2.1 18 = .ok (.iconst 0, 1) := by decide +kernel
theorem d_Mod_walks_19 : decode i_Mod_walks.2.1 19 = .ok (.istore 6, 2) := by decide +kernel
theorem d_Mod_walks_21 : decode i_Mod_walks.2.1 21 = .ok (.iconst 1, 1) := by decide +kernel
theorem d_Mod_walks_22 : decode i_Mod_walks.2.1 22 = .ok (.istore 7, 2) := by decide +kernel
theorem d_Mod_walks_24 : decode i_Mod_walks.2.1 24 = .ok (.iload 7, 2) := by decide +kernel
theorem d_Mod_walks_26 : decode i_Mod_walks.2.1 26 = .ok (.ifCond .eq 103, 3) := by decide +kernel
theorem d_Mod_walks_29 : decode i_Mod_walks.2.1 29 = .ok (.aload_n 0, 1) := by decide +kernel
theorem d_Mod_walks_30 : decode i_Mod_walks.2.1 30 = .ok (.getfield 44, 3) := by decide +kernel
theorem d_Mod_walks_33 : decode i_Mod_walks.2.1 33 = .ok (.iload_n 1, 1) := by decide +kernel
theorem d_Mod_walks_34 : decode i_Mod_walks.2.1 34 = .ok (.iload 6, 2) := by decide +kernel
theorem d_Mod_walks_36 : decode i_Mod_walks.2.1 36 = .ok (.iadd, 1) := by decide +kernel
theorem d_Mod_walks_37 : decode i_Mod_walks.2.1 37 = .ok (.iload_n 3, 1) := by decide +kernel
theorem d_Mod_walks_38 : decode i_Mod_walks.2.1 38 = .ok (.iastore, 1) := by decide +kernel
theorem d_Mod_walks_39 : decode i_Mod_walks.2.1 39 = .ok (.aload_n 0, 1) := by decide +kernel
theorem d_Mod_walks_40 : decode i_Mod_walks.2.1 40 = .ok (.getfield 47, 3) := by decide +kernel
theorem d_Mod_walks_43 : decode i_Mod_walks.2.1 43 = .ok (.iload_n 1, 1) := by decide +kernel
theorem d_Mod_walks_44 : decode i_Mod_walks.2.1 44 = .ok (.iload 6, 2) := by decide +kernel
theorem d_Mod_walks_46 : decode i_Mod_walks.2.1 46 = .ok (.iadd, 1) := by decide +kernel
theorem d_Mod_walks_47 : decode i_Mod_walks.2.1 47 = .ok (.iload 4, 2) := by decide +kernel
theorem d_Mod_walks_49 : decode i_Mod_walks.2.1 49 = .ok (.iastore, 1) := by decide +kernel
theorem d_Mod_walks_50 : decode i_Mod_walks.2.1 50 = .ok (.aload_n 0, 1) := by decide +kernel
theorem d_Mod_walks_51 : decode i_Mod_walks.2.1 51 = .ok (.getfield 50, 3) := by decide +kernel
theorem d_Mod_walks_54 : decode i_Mod_walks.2.1 54 = .ok (.iload_n 1, 1) := by decide +kernel
theorem d_Mod_walks_55 : decode i_Mod_walks.2.1 55 = .ok (.iload 6, 2) := by decide +kernel
theorem d_Mod_walks_57 : decode i_Mod_walks.2.1 57 = .ok (.iadd, 1) := by decide +kernel
theorem d_Mod_walks_58 : decode i_Mod_walks.2.1 58 = .ok (.iload 5, 2) := by decide +kernel
theorem d_Mod_walks_60 : decode i_Mod_walks.2.1 60 = .ok (.iastore, 1) := by decide +kernel
theorem d_Mod_walks_61 : decode i_Mod_walks.2.1 61 = .ok (.iinc 6 1, 3) := by decide +kernel
theorem d_Mod_walks_64 : decode i_Mod_walks.2.1 64 = .ok (.iload_n 3, 1) := by decide +kernel
theorem d_Mod_walks_65 : decode i_Mod_walks.2.1 65 = .ok (.iload 5, 2) := by decide +kernel
theorem d_Mod_walks_67 : decode i_Mod_walks.2.1 67 = .ok (.invokestatic 136, 3) := by decide +kernel
theorem d_Mod_walks_70 : decode i_Mod_walks.2.1 70 = .ok (.iadd, 1) := by decide +kernel
theorem d_Mod_walks_71 : decode i_Mod_walks.2.1 71 = .ok (.istore_n 3, 1) := by decide +kernel
theorem d_Mod_walks_72 : decode i_Mod_walks.2.1 72 = .ok (.iload 4, 2) := by decide +kernel
theorem d_Mod_walks_74 : decode i_Mod_walks.2.1 74 = .ok (.iload 5, 2) := by decide +kernel
theorem d_Mod_walks_76 : decode i_Mod_walks.2.1 76 = .ok (.invokestatic 139, 3) := by decide +kernel
theorem d_Mod_walks_79 : decode i_Mod_walks.2.1 79 = .ok (.iadd, 1) := by decide +kernel
theorem d_Mod_walks_80 : decode i_Mod_walks.2.1 80 = .ok (.istore 4, 2) := by decide +kernel
theorem d_Mod_walks_82 : decode i_Mod_walks.2.1 82 = .ok (.aload_n 0, 1) := by decide +kernel
theorem d_Mod_walks_83 : decode i_Mod_walks.2.1 83 = .ok (.iload_n 3, 1) := by decide +kernel
theorem d_Mod_walks_84 : decode i_Mod_walks.2.1 84 = .ok (.iload 4, 2) := by decide +kernel
theorem d_Mod_walks_86 : decode i_Mod_walks.2.1 86 = .ok (.iload 5, 2) := by decide +kernel
theorem d_Mod_walks_88 : decode i_Mod_walks.2.1 88 = .ok (.invokevirtual 149, 3) := by decide +kernel
theorem d_Mod_walks_91 : decode i_Mod_walks.2.1 91 = .ok (.istore 5, 2) := by decide +kernel
theorem d_Mod_walks_93 : decode i_Mod_walks.2.1 93 = .ok (.iload_n 3, 1) := by decide +kernel
theorem d_Mod_walks_94 : decode i_Mod_walks.2.1 94 = .ok (.aload_n 0, 1) := by decide +kernel
theorem d_Mod_walks_95 : decode i_Mod_walks.2.1 95 = .ok (.getfield 34, 3) := by decide +kernel
theorem d_Mod_walks_98 : decode i_Mod_walks.2.1 98 = .ok (.iload_n 2, 1) := by decide +kernel
theorem d_Mod_walks_99 : decode i_Mod_walks.2.1 99 = .ok (.iaload, 1) := by decide +kernel
theorem d_Mod_walks_100 : decode i_Mod_walks.2.1 100 = .ok (.if_icmp .ne 19, 3) := by decide +kernel
theorem d_Mod_walks_103 : decode i_Mod_walks.2.1 103 = .ok (.iload 4, 2) := by decide +kernel
theorem d_Mod_walks_105 : decode i_Mod_walks.2.1 105 = .ok (.aload_n 0, 1) := by decide +kernel
theorem d_Mod_walks_106 : decode i_Mod_walks.2.1 106 = .ok (.getfield 37, 3) := by decide +kernel
theorem d_Mod_walks_109 : decode i_Mod_walks.2.1 109 = .ok (.iload_n 2, 1) := by decide +kernel
theorem d_Mod_walks_110 : decode i_Mod_walks.2.1 110 = .ok (.iaload, 1) := by decide +kernel
theorem d_Mod_walks_111 : decode i_Mod_walks.2.1 111 = .ok (.if_icmp .ne 8, 3) := by decide +kernel
theorem d_Mod_walks_114 : decode i_Mod_walks.2.1 114 = .ok (.iload 5, 2) := by decide +kernel
theorem d_Mod_walks_116 : decode i_Mod_walks.2.1 116 = .ok (.ifCond .eq 7, 3) := by decide +kernel
theorem d_Mod_walks_119 : decode i_Mod_walks.2.1 119 = .ok (.iconst 1, 1) := by decide +kernel
theorem d_Mod_walks_120 : decode i_Mod_walks.2.1 120 = .ok (.goto 4, 3) := by decide +kernel
theorem d_Mod_walks_123 : decode i_Mod_walks.2.1 123 = .ok (.iconst 0, 1) := by decide +kernel
theorem d_Mod_walks_124 : decode i_Mod_walks.2.1 124 = .ok (.istore 7, 2) := by decide +kernel
theorem d_Mod_walks_126 : decode i_Mod_walks.2.1 126 = .ok (.goto (-102), 3) := by decide +kernel
theorem d_Mod_walks_129 : decode i_Mod_walks.2.1 129 = .ok (.aload_n 0, 1) := by decide +kernel
theorem d_Mod_walks_130 : decode i_Mod_walks.2.1 130 = .ok (.getfield 28, 3) := by decide +kernel
theorem d_Mod_walks_133 : decode i_Mod_walks.2.1 133 = .ok (.iload_n 2, 1) := by decide +kernel
theorem d_Mod_walks_134 : decode i_Mod_walks.2.1 134 = .ok (.iload_n 1, 1) := by decide +kernel
theorem d_Mod_walks_135 : decode i_Mod_walks.2.1 135 = .ok (.iastore, 1) := by decide +kernel
theorem d_Mod_walks_136 : decode i_Mod_walks.2.1 136 = .ok (.aload_n 0, 1) := by decide +kernel
theorem d_Mod_walks_137 : decode i_Mod_walks.2.1 137 = .ok (.getfield 31, 3) := by decide +kernel
theorem d_Mod_walks_140 : decode i_Mod_walks.2.1 140 = .ok (.iload_n 2, 1) := by decide +kernel
theorem d_Mod_walks_141 : decode i_Mod_walks.2.1 141 = .ok (.iload 6, 2) := by decide +kernel
theorem d_Mod_walks_143 : decode i_Mod_walks.2.1 143 = .ok (.iastore, 1) := by decide +kernel
theorem d_Mod_walks_144 : decode i_Mod_walks.2.1 144 = .ok (.return_, 1) := by decide +kernel
theorem d_Mod_isWithin_0 : decode i_Mod_isWithin.2.1 0 = .ok (.iconst 0, 1) := by decide +kernel
theorem d_Mod_isWithin_1 : decode i_Mod_isWithin.2.1 1 = .ok (.istore 4, 2) := by decide +kernel
theorem d_Mod_isWithin_3 : decode i_Mod_isWithin.2.1 3 = .ok (.aload_n 0, 1) := by decide +kernel
theorem d_Mod_isWithin_4 : decode i_Mod_isWithin.2.1 4 = .ok (.getfield 28, 3) := by decide +kernel
theorem d_Mod_isWithin_7 : decode i_Mod_isWithin.2.1 7 = .ok (.iload_n 1, 1) := by decide +kernel
theorem d_Mod_isWithin_8 : decode i_Mod_isWithin.2.1 8 = .ok (.iaload, 1) := by decide +kernel
theorem d_Mod_isWithin_9 : decode i_Mod_isWithin.2.1 9 = .ok (.istore 5, 2) := by decide +kernel
theorem d_Mod_isWithin_11 : decode i_Mod_isWithin.2.1 11 = .ok (.iload 5, 2) := by decide +kernel
theorem d_Mod_isWithin_13 : decode i_Mod_isWithin.2.1 13 = .ok (.aload_n 0, 1) := by decide +kernel
theorem d_Mod_isWithin_14 : decode i_Mod_isWithin.2.1 14 = .ok (.getfield 28, 3) := by decide +kernel
theorem d_Mod_isWithin_17 : decode i_Mod_isWithin.2.1 17 = .ok (.iload_n 1, 1) := by decide +kernel
theorem d_Mod_isWithin_18 : decode i_Mod_isWithin.2.1 18 = .ok (.iaload, 1) := by decide +kernel
theorem d_Mod_isWithin_19 : decode i_Mod_isWithin.2.1 19 = .ok (.aload_n 0, 1) := by decide +kernel
theorem d_Mod_isWithin_20 : decode i_Mod_isWithin.2.1 20 = .ok (.getfield 31, 3) := by decide +kernel
theorem d_Mod_isWithin_23 : decode i_Mod_isWithin.2.1 23 = .ok (.iload_n 1, 1) := by decide +kernel
theorem d_Mod_isWithin_24 : decode i_Mod_isWithin.2.1 24 = .ok (.iaload, 1) := by decide +kernel
theorem d_Mod_isWithin_25 : decode i_Mod_isWithin.2.1 25 = .ok (.iadd, 1) := by decide +kernel
theorem d_Mod_isWithin_26 : decode i_Mod_isWithin.2.1 26 = .ok (.if_icmp .ge 83, 3) := by decide +kernel
theorem d_Mod_isWithin_29 : decode i_Mod_isWithin.2.1 29 = .ok (.aload_n 0, 1) := by decide +kernel
theorem d_Mod_isWithin_30 : decode i_Mod_isWithin.2.1 30 = .ok (.getfield 50, 3) := by decide +kernel
theorem d_Mod_isWithin_33 : decode i_Mod_isWithin.2.1 33 = .ok (.iload 5, 2) := by decide +kernel
theorem d_Mod_isWithin_35 : decode i_Mod_isWithin.2.1 35 = .ok (.iaload, 1) := by decide +kernel
theorem d_Mod_isWithin_36 : decode i_Mod_isWithin.2.1 36 = .ok (.iconst 1, 1) := by decide +kernel
theorem d_Mod_isWithin_37 : decode i_Mod_isWithin.2.1 37 = .ok (.if_icmp .ne 13, 3) := by decide +kernel
theorem d_Mod_isWithin_40 : decode i_Mod_isWithin.2.1 40 = .ok (.aload_n 0, 1) := by decide +kernel
theorem d_Mod_isWithin_41 : decode i_Mod_isWithin.2.1 41 = .ok (.getfield 47, 3) := by decide +kernel
theorem d_Mod_isWithin_44 : decode i_Mod_isWithin.2.1 44 = .ok (.iload 5, 2) := by decide +kernel
theorem d_Mod_isWithin_46 : decode i_Mod_isWithin.2.1 46 = .ok (.iaload, 1) := by decide +kernel
theorem d_Mod_isWithin_47 : decode i_Mod_isWithin.2.1 47 = .ok (.goto 27, 3) := by decide +kernel
theorem d_Mod_isWithin_50 : decode i_Mod_isWithin.2.1 50 = .ok (.aload_n 0, 1) := by decide +kernel
theorem d_Mod_isWithin_51 : decode i_Mod_isWithin.2.1 51 = .ok (.getfield 50, 3) := by decide +kernel
theorem d_Mod_isWithin_54 : decode i_Mod_isWithin.2.1 54 = .ok (.iload 5, 2) := by decide +kernel
theorem d_Mod_isWithin_56 : decode i_Mod_isWithin.2.1 56 = .ok (.iaload, 1) := by decide +kernel
theorem d_Mod_isWithin_57 : decode i_Mod_isWithin.2.1 57 = .ok (.iconst 3, 1) := by decide +kernel
theorem d_Mod_isWithin_58 : decode i_Mod_isWithin.2.1 58 = .ok (.if_icmp .ne 15, 3) := by decide +kernel
theorem d_Mod_isWithin_61 : decode i_Mod_isWithin.2.1 61 = .ok (.aload_n 0, 1) := by decide +kernel
theorem d_Mod_isWithin_62 : decode i_Mod_isWithin.2.1 62 = .ok (.getfield 47, 3) := by decide +kernel
theorem d_Mod_isWithin_65 : decode i_Mod_isWithin.2.1 65 = .ok (.iload 5, 2) := by decide +kernel
theorem d_Mod_isWithin_67 : decode i_Mod_isWithin.2.1 67 = .ok (.iaload, 1) := by decide +kernel
theorem d_Mod_isWithin_68 : decode i_Mod_isWithin.2.1 68 = .ok (.iconst 1, 1) := by decide +kernel
theorem d_Mod_isWithin_69 : decode i_Mod_isWithin.2.1 69 = .ok (.isub, 1) := by decide +kernel
theorem d_Mod_isWithin_70 : decode i_Mod_isWithin.2.1 70 = .ok (.goto 4, 3) := by decide +kernel
theorem d_Mod_isWithin_73 : decode i_Mod_isWithin.2.1 73 = .ok (.iconst (-1), 1) := by decide +kernel
theorem d_Mod_isWithin_74 : decode i_Mod_isWithin.2.1 74 = .ok (.istore 6, 2) := by decide +kernel
theorem d_Mod_isWithin_76 : decode i_Mod_isWithin.2.1 76 = .ok (.iload 4, 2) := by decide +kernel
theorem d_Mod_isWithin_78 : decode i_Mod_isWithin.2.1 78 = .ok (.iload 6, 2) := by decide +kernel
theorem d_Mod_isWithin_80 : decode i_Mod_isWithin.2.1 80 = .ok (.iload_n 3, 1) := by decide +kernel
theorem d_Mod_isWithin_81 : decode i_Mod_isWithin.2.1 81 = .ok (.if_icmp .ne 18, 3) := by decide +kernel
theorem d_Mod_isWithin_84 : decode i_Mod_isWithin.2.1 84 = .ok (.aload_n 0, 1) := by decide +kernel
theorem d_Mod_isWithin_85 : decode i_Mod_isWithin.2.1 85 = .ok (.getfield 44, 3) := by decide +kernel
theorem d_Mod_isWithin_88 : decode i_Mod_isWithin.2.1 88 = .ok (.iload 5, 2) := by decide +kernel
theorem d_Mod_isWithin_90 : decode i_Mod_isWithin.2.1 90 = .ok (.iaload, 1) := by decide +kernel
theorem d_Mod_isWithin_91 : decode i_Mod_isWithin.2.1 91 = .ok (.iload_n 2, 1) := by decide +kernel
theorem d_Mod_isWithin_92 : decode i_Mod_isWithin.2.1 92 = .ok (.if_icmp .gt 7, 3) := by decide +kernel
theorem d_Mod_isWithin_95 : decode i_Mod_isWithin.2.1 95 = .ok (.iconst 1, 1) := by decide +kernel
theorem d_Mod_isWithin_96 : decode i_Mod_isWithin.2.1 96 = .ok (.goto 4, 3) := by decide +kernel
theorem d_Mod_isWithin_99 : decode i_Mod_isWithin.2.1 99 = .ok (.iconst 0, 1) := by decide +kernel
theorem d_Mod_isWithin_100 : decode i_Mod_isWithin.2.1 100 = .ok (.iadd, 1) := by decide +kernel
theorem d_Mod_isWithin_101 : decode i_Mod_isWithin.2.1 101 = .ok (.istore 4, 2) := by decide +kernel
theorem d_Mod_isWithin_103 : decode i_Mod_isWithin.2.1 103 = .ok (.iinc 5 1, 3) := by decide +kernel
theorem d_Mod_isWithin_106 : decode i_Mod_isWithin.2.1 106 = .ok (.goto (-95), 3) := by decide +kernel
theorem d_Mod_isWithin_109 : decode i_Mod_isWithin.2.1 109 = .ok (.iload 4, 2) := by decide +kernel
theorem d_Mod_isWithin_111 : decode i_Mod_isWithin.2.1 111 = .ok (.iconst 2, 1) := by decide +kernel
theorem d_Mod_isWithin_112 : decode i_Mod_isWithin.2.1 112 = .ok (.irem, 1) := by decide +kernel
theorem d_Mod_isWithin_113 : decode i_Mod_isWithin.2.1 113 = .ok (.iconst 1, 1) := by decide +kernel
theorem d_Mod_isWithin_114 : decode i_Mod_isWithin.2.1 114 = .ok (.if_icmp .ne 7, 3) := by decide +kernel
theorem d_Mod_isWithin_117 : decode i_Mod_isWithin.2.1 117 = .ok (.iconst 1, 1) := by decide +kernel
theorem d_Mod_isWithin_118 : decode i_Mod_isWithin.2.1 118 = .ok (.goto 4, 3) := by decide +kernel
theorem d_Mod_isWithin_121 : decode i_Mod_isWithin.2.1 121 = .ok (.iconst 0, 1) := by decide +kernel
theorem d_Mod_isWithin_122 : decode i_Mod_isWithin.2.1 122 = .ok (.ireturn, 1) := by decide +kernel
theorem d_Mod_lays_0 : decode i_Mod_lays.2.1 0 = .ok (.aload_n 0, 1) := by decide +kernel
theorem d_Mod_lays_1 : decode i_Mod_lays.2.1 1 = .ok (.getfield 110, 3) := by decide +kernel
theorem d_Mod_lays_4 : decode i_Mod_lays.2.1 4 = .ok (.ifCond .eq 4, 3) := by decide +kernel
theorem d_Mod_lays_7 : decode i_Mod_lays.2.1 7 = .ok (.return_, 1) := by decide +kernel
theorem d_Mod_lays_8 : decode i_Mod_lays.2.1 8 = .ok (.aload_n 0, 1) := by decide +kernel
theorem d_Mod_lays_9 : decode i_Mod_lays.2.1 9 = .ok (.iconst 1, 1) := by decide +kernel
theorem d_Mod_lays_10 : decode i_Mod_lays.2.1 10 = .ok (.putfield 110, 3) := by decide +kernel
theorem d_Mod_lays_13 : decode i_Mod_lays.2.1 13 = .ok (.aload_n 0, 1) := by decide +kernel
theorem d_Mod_lays_14 : decode i_Mod_lays.2.1 14 = .ok (.iconst (-1), 1) := by decide +kernel
theorem d_Mod_lays_15 : decode i_Mod_lays.2.1 15 = .ok (.putfield 153, 3) := by decide +kernel
theorem d_Mod_lays_18 : decode i_Mod_lays.2.1 18 = .ok (.aload_n 0, 1) := by decide +kernel
theorem d_Mod_lays_19 : decode i_Mod_lays.2.1 19 = .ok (.iconst 0, 1) := by decide +kernel
theorem d_Mod_lays_20 : decode i_Mod_lays.2.1 20 = .ok (.putfield 156, 3) := by decide +kernel
theorem d_Mod_lays_23 : decode i_Mod_lays.2.1 23 = .ok (.aload_n 0, 1) := by decide +kernel
theorem d_Mod_lays_24 : decode i_Mod_lays.2.1 24 = .ok (.lconst 0, 1) := by decide +kernel
theorem d_Mod_lays_25 : decode i_Mod_lays.2.1 25 = .ok (.putfield 132, 3) := by decide +kernel
theorem d_Mod_lays_28 : decode i_Mod_lays.2.1 28 = .ok (.iconst 0, 1) := by decide +kernel
theorem d_Mod_lays_29 : decode i_Mod_lays.2.1 29 = .ok (.istore_n 1, 1) := by decide +kernel
theorem d_Mod_lays_30 : decode i_Mod_lays.2.1 30 = .ok (.iload_n 1, 1) := by decide +kernel
theorem d_Mod_lays_31 : decode i_Mod_lays.2.1 31 = .ok (.bipush 64, 2) := by decide +kernel
theorem d_Mod_lays_33 : decode i_Mod_lays.2.1 33 = .ok (.if_icmp .ge 29, 3) := by decide +kernel
theorem d_Mod_lays_36 : decode i_Mod_lays.2.1 36 = .ok (.aload_n 0, 1) := by decide +kernel
theorem d_Mod_lays_37 : decode i_Mod_lays.2.1 37 = .ok (.dup, 1) := by decide +kernel
theorem d_Mod_lays_38 : decode i_Mod_lays.2.1 38 = .ok (.getfield 132, 3) := by decide +kernel
theorem d_Mod_lays_41 : decode i_Mod_lays.2.1 41 = .ok (.aload_n 0, 1) := by decide +kernel
theorem d_Mod_lays_42 : decode i_Mod_lays.2.1 42 = .ok (.getfield 7, 3) := by decide +kernel
theorem d_Mod_lays_45 : decode i_Mod_lays.2.1 45 = .ok (.iconst 4, 1) := by decide +kernel
theorem d_Mod_lays_46 : decode i_Mod_lays.2.1 46 = .ok (.iload_n 1, 1) := by decide +kernel
theorem d_Mod_lays_47 : decode i_Mod_lays.2.1 47 = .ok (.iadd, 1) := by decide +kernel
theorem d_Mod_lays_48 : decode i_Mod_lays.2.1 48 = .ok (.iaload, 1) := by decide +kernel
theorem d_Mod_lays_49 : decode i_Mod_lays.2.1 49 = .ok (.i2l, 1) := by decide +kernel
theorem d_Mod_lays_50 : decode i_Mod_lays.2.1 50 = .ok (.iload_n 1, 1) := by decide +kernel
theorem d_Mod_lays_51 : decode i_Mod_lays.2.1 51 = .ok (.lshl, 1) := by decide +kernel
theorem d_Mod_lays_52 : decode i_Mod_lays.2.1 52 = .ok (.lor, 1) := by decide +kernel
theorem d_Mod_lays_53 : decode i_Mod_lays.2.1 53 = .ok (.putfield 132, 3) := by decide +kernel
theorem d_Mod_lays_56 : decode i_Mod_lays.2.1 56 = .ok (.iinc 1 1, 3) := by decide +kernel
theorem d_Mod_lays_59 : decode i_Mod_lays.2.1 59 = .ok (.goto (-29), 3) := by decide +kernel
theorem d_Mod_lays_62 : decode i_Mod_lays.2.1 62 = .ok (.iconst 0, 1) := by decide +kernel
theorem d_Mod_lays_63 : decode i_Mod_lays.2.1 63 = .ok (.istore_n 1, 1) := by decide +kernel
theorem d_Mod_lays_64 : decode i_Mod_lays.2.1 64 = .ok (.aload_n 0, 1) := by decide +kernel
theorem d_Mod_lays_65 : decode i_Mod_lays.2.1 65 = .ok (.getfield 132, 3) := by decide +kernel
theorem d_Mod_lays_68 : decode i_Mod_lays.2.1 68 = .ok (.lconst 0, 1) := by decide +kernel
theorem d_Mod_lays_69 : decode i_Mod_lays.2.1 69 = .ok (.lcmp, 1) := by decide +kernel
theorem d_Mod_lays_70 : decode i_Mod_lays.2.1 70 = .ok (.ifCond .eq 179, 3) := by decide +kernel
theorem d_Mod_lays_73 : decode i_Mod_lays.2.1 73 = .ok (.iconst 0, 1) := by decide +kernel
theorem d_Mod_lays_74 : decode i_Mod_lays.2.1 74 = .ok (.istore_n 2, 1) := by decide +kernel
theorem d_Mod_lays_75 : decode i_Mod_lays.2.1 75 = .ok (.aload_n 0, 1) := by decide +kernel
theorem d_Mod_lays_76 : decode i_Mod_lays.2.1 76 = .ok (.getfield 132, 3) := by decide +kernel
theorem d_Mod_lays_79 : decode i_Mod_lays.2.1 79 = .ok (.iload_n 2, 1) := by decide +kernel
theorem d_Mod_lays_80 : decode i_Mod_lays.2.1 80 = .ok (.lshr, 1) := by decide +kernel
theorem d_Mod_lays_81 : decode i_Mod_lays.2.1 81 = .ok (.lconst 1, 1) := by decide +kernel
theorem d_Mod_lays_82 : decode i_Mod_lays.2.1 82 = .ok (.land, 1) := by decide +kernel
theorem d_Mod_lays_83 : decode i_Mod_lays.2.1 83 = .ok (.lconst 0, 1) := by decide +kernel
theorem d_Mod_lays_84 : decode i_Mod_lays.2.1 84 = .ok (.lcmp, 1) := by decide +kernel
theorem d_Mod_lays_85 : decode i_Mod_lays.2.1 85 = .ok (.ifCond .ne 9, 3) := by decide +kernel
theorem d_Mod_lays_88 : decode i_Mod_lays.2.1 88 = .ok (.iinc 2 1, 3) := by decide +kernel
theorem d_Mod_lays_91 : decode i_Mod_lays.2.1 91 = .ok (.goto (-16), 3) := by decide +kernel
theorem d_Mod_lays_94 : decode i_Mod_lays.2.1 94 = .ok (.aload_n 0, 1) := by decide +kernel
theorem d_Mod_lays_95 : decode i_Mod_lays.2.1 95 = .ok (.getfield 34, 3) := by decide +kernel
theorem d_Mod_lays_98 : decode i_Mod_lays.2.1 98 = .ok (.aload_n 0, 1) := by decide +kernel
theorem d_Mod_lays_99 : decode i_Mod_lays.2.1 99 = .ok (.getfield 156, 3) := by decide +kernel
theorem d_Mod_lays_102 : decode i_Mod_lays.2.1 102 = .ok (.iload_n 2, 1) := by decide +kernel
theorem d_Mod_lays_103 : decode i_Mod_lays.2.1 103 = .ok (.bipush 8, 2) := by decide +kernel
theorem d_Mod_lays_105 : decode i_Mod_lays.2.1 105 = .ok (.irem, 1) := by decide +kernel
theorem d_Mod_lays_106 : decode i_Mod_lays.2.1 106 = .ok (.iastore, 1) := by decide +kernel
theorem d_Mod_lays_107 : decode i_Mod_lays.2.1 107 = .ok (.aload_n 0, 1) := by decide +kernel
theorem d_Mod_lays_108 : decode i_Mod_lays.2.1 108 = .ok (.getfield 37, 3) := by decide +kernel
theorem d_Mod_lays_111 : decode i_Mod_lays.2.1 111 = .ok (.aload_n 0, 1) := by decide +kernel
theorem d_Mod_lays_112 : decode i_Mod_lays.2.1 112 = .ok (.getfield 156, 3) := by decide +kernel
theorem d_Mod_lays_115 : decode i_Mod_lays.2.1 115 = .ok (.iload_n 2, 1) := by decide +kernel
theorem d_Mod_lays_116 : decode i_Mod_lays.2.1 116 = .ok (.bipush 8, 2) := by decide +kernel
theorem d_Mod_lays_118 : decode i_Mod_lays.2.1 118 = .ok (.idiv, 1) := by decide +kernel
theorem d_Mod_lays_119 : decode i_Mod_lays.2.1 119 = .ok (.iastore, 1) := by decide +kernel
theorem d_Mod_lays_120 : decode i_Mod_lays.2.1 120 = .ok (.aload_n 0, 1) := by decide +kernel
theorem d_Mod_lays_121 : decode i_Mod_lays.2.1 121 = .ok (.iload_n 1, 1) := by decide +kernel
theorem d_Mod_lays_122 : decode i_Mod_lays.2.1 122 = .ok (.aload_n 0, 1) := by decide +kernel
theorem d_Mod_lays_123 : decode i_Mod_lays.2.1 123 = .ok (.getfield 156, 3) := by decide +kernel
theorem d_Mod_lays_126 : decode i_Mod_lays.2.1 126 = .ok (.invokevirtual 159, 3) := by decide +kernel
theorem d_Mod_lays_129 : decode i_Mod_lays.2.1 129 = .ok (.iload_n 1, 1) := by decide +kernel
theorem d_Mod_lays_130 : decode i_Mod_lays.2.1 130 = .ok (.aload_n 0, 1) := by decide +kernel
theorem d_Mod_lays_131 : decode i_Mod_lays.2.1 131 = .ok (.getfield 31, 3) := by decide +kernel
theorem d_Mod_lays_134 : decode i_Mod_lays.2.1 134 = .ok (.aload_n 0, 1) := by decide +kernel
theorem d_Mod_lays_135 : decode i_Mod_lays.2.1 135 = .ok (.getfield 156, 3) := by decide +kernel
theorem d_Mod_lays_138 : decode i_Mod_lays.2.1 138 = .ok (.iaload, 1) := by decide +kernel
theorem d_Mod_lays_139 : decode i_Mod_lays.2.1 139 = .ok (.iadd, 1) := by decide +kernel
theorem d_Mod_lays_140 : decode i_Mod_lays.2.1 140 = .ok (.istore_n 1, 1) := by decide +kernel
theorem d_Mod_lays_141 : decode i_Mod_lays.2.1 141 = .ok (.aload_n 0, 1) := by decide +kernel
theorem d_Mod_lays_142 : decode i_Mod_lays.2.1 142 = .ok (.getfield 40, 3) := by decide +kernel
theorem d_Mod_lays_145 : decode i_Mod_lays.2.1 145 = .ok (.aload_n 0, 1) := by decide +kernel
theorem d_Mod_lays_146 : decode i_Mod_lays.2.1 146 = .ok (.getfield 156, 3) := by decide +kernel
theorem d_Mod_lays_149 : decode i_Mod_lays.2.1 149 = .ok (.lconst 0, 1) := by decide +kernel
theorem d_Mod_lays_150 : decode i_Mod_lays.2.1 150 = .ok (.lastore, 1) := by decide +kernel
theorem d_Mod_lays_151 : decode i_Mod_lays.2.1 151 = .ok (.iconst 0, 1) := by decide +kernel
theorem d_Mod_lays_152 : decode i_Mod_lays.2.1 152 = .ok (.istore_n 3, 1) := by decide +kernel
theorem d_Mod_lays_153 : decode i_Mod_lays.2.1 153 = .ok (.iload_n 3, 1) := by decide +kernel
theorem d_Mod_lays_154 : decode i_Mod_lays.2.1 154 = .ok (.bipush 64, 2) := by decide +kernel
theorem d_Mod_lays_156 : decode i_Mod_lays.2.1 156 = .ok (.if_icmp .ge 62, 3) := by decide +kernel
theorem d_Mod_lays_159 : decode i_Mod_lays.2.1 159 = .ok (.aload_n 0, 1) := by decide +kernel
theorem d_Mod_lays_160 : decode i_Mod_lays.2.1 160 = .ok (.getfield 40, 3) := by decide +kernel
theorem d_Mod_lays_163 : decode i_Mod_lays.2.1 163 = .ok (.aload_n 0, 1) := by decide +kernel
theorem d_Mod_lays_164 : decode i_Mod_lays.2.1 164 = .ok (.getfield 156, 3) := by decide +kernel
theorem d_Mod_lays_167 : decode i_Mod_lays.2.1 167 = .ok (.dup2, 1) := by decide +kernel
theorem d_Mod_lays_168 : decode i_Mod_lays.2.1 168 = .ok (.laload, 1) := by decide +kernel
theorem d_Mod_lays_169 : decode i_Mod_lays.2.1 169 = .ok (.aload_n 0, 1) := by decide +kernel
theorem d_Mod_lays_170 : decode i_Mod_lays.2.1 170 = .ok (.iload_n 3, 1) := by decide +kernel
theorem d_Mod_lays_171 : decode i_Mod_lays.2.1 171 = .ok (.bipush 8, 2) := by decide +kernel
theorem d_Mod_lays_173 : decode i_Mod_lays.2.1 173 = .ok (.irem, 1) := by decide +kernel
theorem d_Mod_lays_174 : decode i_Mod_lays.2.1 174 = .ok (.iload_n 3, 1) := by decide +kernel
theorem d_Mod_lays_175 : decode i_Mod_lays.2.1 175 = .ok (.bipush 8, 2) := by decide +kernel
theorem d_Mod_lays_177 : decode i_Mod_lays.2.1 177 = .ok (.idiv, 1) := by decide +kernel
theorem d_Mod_lays_178 : decode i_Mod_lays.2.1 178 = .ok (.invokevirtual 118, 3) := by decide +kernel
theorem d_Mod_lays_181 : decode i_Mod_lays.2.1 181 = .ok (.ifCond .eq 28, 3) := by decide +kernel
theorem d_Mod_lays_184 : decode i_Mod_lays.2.1 184 = .ok (.aload_n 0, 1) := by decide +kernel
theorem d_Mod_lays_185 : decode i_Mod_lays.2.1 185 = .ok (.aload_n 0, 1) := by decide +kernel
theorem d_Mod_lays_186 : decode i_Mod_lays.2.1 186 = .ok (.getfield 156, 3) := by decide +kernel
theorem d_Mod_lays_189 : decode i_Mod_lays.2.1 189 = .ok (.iload_n 3, 1) := by decide +kernel
theorem d_Mod_lays_190 : decode i_Mod_lays.2.1 190 = .ok (.bipush 8, 2) := by decide +kernel
theorem d_Mod_lays_192 : decode i_Mod_lays.2.1 192 = .ok (.irem, 1) := by decide +kernel
theorem d_Mod_lays_193 : decode i_Mod_lays.2.1 193 = .ok (.iload_n 3, 1) := by decide +kernel
theorem d_Mod_lays_194 : decode i_Mod_lays.2.1 194 = .ok (.bipush 8, 2) := by decide +kernel
theorem d_Mod_lays_196 : decode i_Mod_lays.2.1 196 = .ok (.idiv, 1) := by decide +kernel
theorem d_Mod_lays_197 : decode i_Mod_lays.2.1 197 = .ok (.invokevirtual 163, 3) := by decide +kernel
theorem d_Mod_lays_200 : decode i_Mod_lays.2.1 200 = .ok (.ifCond .eq 9, 3) := by decide +kernel
theorem d_Mod_lays_203 : decode i_Mod_lays.2.1 203 = .ok (.lconst 1, 1) := by decide +kernel
theorem d_Mod_lays_204 : decode i_Mod_lays.2.1 204 = .ok (.iload_n 3, 1) := by decide +kernel
theorem d_Mod_lays_205 : decode i_Mod_lays.2.1 205 = .ok (.lshl, 1) := by decide +kernel
theorem d_Mod_lays_206 : decode i_Mod_lays.2.1 206 = .ok (.goto 4, 3) := by decide +kernel
theorem d_Mod_lays_209 : decode i_Mod_lays.2.1 209 = .ok (.lconst 0, 1) := by decide +kernel
theorem d_Mod_lays_210 : decode i_Mod_lays.2.1 210 = .ok (.lor, 1) := by decide +kernel
theorem d_Mod_lays_211 : decode i_Mod_lays.2.1 211 = .ok (.lastore, 1) := by decide +kernel
theorem d_Mod_lays_212 : decode i_Mod_lays.2.1 212 = .ok (.iinc 3 1, 3) := by decide +kernel
theorem d_Mod_lays_215 : decode i_Mod_lays.2.1 215 = .ok (.goto (-62), 3) := by decide +kernel
theorem d_Mod_lays_218 : decode i_Mod_lays.2.1 218 = .ok (.aload_n 0, 1) := by decide +kernel
theorem d_Mod_lays_219 : decode i_Mod_lays.2.1 219 = .ok (.dup, 1) := by decide +kernel
theorem d_Mod_lays_220 : decode i_Mod_lays.2.1 220 = .ok (.getfield 132, 3) := by decide +kernel
theorem d_Mod_lays_223 : decode i_Mod_lays.2.1 223 = .ok (.aload_n 0, 1) := by decide +kernel
theorem d_Mod_lays_224 : decode i_Mod_lays.2.1 224 = .ok (.getfield 40, 3) := by decide +kernel
theorem d_Mod_lays_227 : decode i_Mod_lays.2.1 227 = .ok (.aload_n 0, 1) := by decide +kernel
theorem d_Mod_lays_228 : decode i_Mod_lays.2.1 228 = .ok (.getfield 156, 3) := by decide +kernel
theorem d_Mod_lays_231 : decode i_Mod_lays.2.1 231 = .ok (.laload, 1) := by decide +kernel
theorem d_Mod_lays_232 : decode i_Mod_lays.2.1 232 = .ok (.lxor, 1) := by decide +kernel
theorem d_Mod_lays_233 : decode i_Mod_lays.2.1 233 = .ok (.putfield 132, 3) := by decide +kernel
theorem d_Mod_lays_236 : decode i_Mod_lays.2.1 236 = .ok (.aload_n 0, 1) := by decide +kernel
theorem d_Mod_lays_237 : decode i_Mod_lays.2.1 237 = .ok (.dup, 1) := by decide +kernel
theorem d_Mod_lays_238 : decode i_Mod_lays.2.1 238 = .ok (.getfield 156, 3) := by decide +kernel
theorem d_Mod_lays_241 : decode i_Mod_lays.2.1 241 = .ok (.iconst 1, 1) := by decide +kernel
theorem d_Mod_lays_242 : decode i_Mod_lays.2.1 242 = .ok (.iadd, 1) := by decide +kernel
theorem d_Mod_lays_243 : decode i_Mod_lays.2.1 243 = .ok (.putfield 156, 3) := by decide +kernel
theorem d_Mod_lays_246 : decode i_Mod_lays.2.1 246 = .ok (.goto (-182), 3) := by decide +kernel
theorem d_Mod_lays_249 : decode i_Mod_lays.2.1 249 = .ok (.return_, 1) := by decide +kernel
theorem d_Mod_isBorder_0 : decode i_Mod_isBorder.2.1 0 = .ok (.aload_n 0, 1) := by decide +kernel
theorem d_Mod_isBorder_1 : decode i_Mod_isBorder.2.1 1 = .ok (.invokevirtual 166, 3) := by decide +kernel
theorem d_Mod_isBorder_4 : decode i_Mod_isBorder.2.1 4 = .ok (.iload_n 1, 1) := by decide +kernel
theorem d_Mod_isBorder_5 : decode i_Mod_isBorder.2.1 5 = .ok (.iconst 0, 1) := by decide +kernel
theorem d_Mod_isBorder_6 : decode i_Mod_isBorder.2.1 6 = .ok (.aload_n 0, 1) := by decide +kernel
theorem d_Mod_isBorder_7 : decode i_Mod_isBorder.2.1 7 = .ok (.getfield 156, 3) := by decide +kernel
theorem d_Mod_isBorder_10 : decode i_Mod_isBorder.2.1 10 = .ok (.iconst 1, 1) := by decide +kernel
theorem d_Mod_isBorder_11 : decode i_Mod_isBorder.2.1 11 = .ok (.isub, 1) := by decide +kernel
theorem d_Mod_isBorder_12 : decode i_Mod_isBorder.2.1 12 = .ok (.invokestatic 71, 3) := by decide +kernel
theorem d_Mod_isBorder_15 : decode i_Mod_isBorder.2.1 15 = .ok (.ireturn, 1) := by decide +kernel
theorem d_Mod_ones_0 : decode i_Mod_ones.2.1 0 = .ok (.iconst 0, 1) := by decide +kernel
theorem d_Mod_ones_1 : decode i_Mod_ones.2.1 1 = .ok (.istore_n 2, 1) := by decide +kernel
theorem d_Mod_ones_2 : decode i_Mod_ones.2.1 2 = .ok (.iconst 0, 1) := by decide +kernel
theorem d_Mod_ones_3 : decode i_Mod_ones.2.1 3 = .ok (.istore_n 3, 1) := by decide +kernel
theorem d_Mod_ones_4 : decode i_Mod_ones.2.1 4 = .ok (.iload_n 3, 1) := by decide +kernel
theorem d_Mod_ones_5 : decode i_Mod_ones.2.1 5 = .ok (.bipush 64, 2) := by decide +kernel
theorem d_Mod_ones_7 : decode i_Mod_ones.2.1 7 = .ok (.if_icmp .ge 18, 3) := by decide +kernel
theorem d_Mod_ones_10 : decode i_Mod_ones.2.1 10 = .ok (.iload_n 2, 1) := by decide +kernel
theorem d_Mod_ones_11 : decode i_Mod_ones.2.1 11 = .ok (.lload_n 0, 1) := by decide +kernel
theorem d_Mod_ones_12 : decode i_Mod_ones.2.1 12 = .ok (.iload_n 3, 1) := by decide +kernel
theorem d_Mod_ones_13 : decode i_Mod_ones.2.1 13 = .ok (.lshr, 1) := by decide +kernel
theorem d_Mod_ones_14 : decode i_Mod_ones.2.1 14 = .ok (.lconst 1, 1) := by decide +kernel
theorem d_Mod_ones_15 : decode i_Mod_ones.2.1 15 = .ok (.land, 1) := by decide +kernel
theorem d_Mod_ones_16 : decode i_Mod_ones.2.1 16 = .ok (.l2i, 1) := by decide +kernel
theorem d_Mod_ones_17 : decode i_Mod_ones.2.1 17 = .ok (.iadd, 1) := by decide +kernel
theorem d_Mod_ones_18 : decode i_Mod_ones.2.1 18 = .ok (.istore_n 2, 1) := by decide +kernel
theorem d_Mod_ones_19 : decode i_Mod_ones.2.1 19 = .ok (.iinc 3 1, 3) := by decide +kernel
theorem d_Mod_ones_22 : decode i_Mod_ones.2.1 22 = .ok (.goto (-18), 3) := by decide +kernel
theorem d_Mod_ones_25 : decode i_Mod_ones.2.1 25 = .ok (.iload_n 2, 1) := by decide +kernel
theorem d_Mod_ones_26 : decode i_Mod_ones.2.1 26 = .ok (.ireturn, 1) := by decide +kernel
theorem d_Mod_dot_0 : decode i_Mod_dot.2.1 0 = .ok (.aload_n 0, 1) := by decide +kernel
theorem d_Mod_dot_1 : decode i_Mod_dot.2.1 1 = .ok (.iload_n 1, 1) := by decide +kernel
theorem d_Mod_dot_2 : decode i_Mod_dot.2.1 2 = .ok (.iload_n 2, 1) := by decide +kernel
theorem d_Mod_dot_3 : decode i_Mod_dot.2.1 3 = .ok (.invokevirtual 118, 3) := by decide +kernel
theorem d_Mod_dot_6 : decode i_Mod_dot.2.1 6 = .ok (.ifCond .eq 19, 3) := by decide +kernel
theorem d_Mod_dot_9 : decode i_Mod_dot.2.1 9 = .ok (.aload_n 0, 1) := by decide +kernel
theorem d_Mod_dot_10 : decode i_Mod_dot.2.1 10 = .ok (.getfield 7, 3) := by decide +kernel
theorem d_Mod_dot_13 : decode i_Mod_dot.2.1 13 = .ok (.iconst 4, 1) := by decide +kernel
theorem d_Mod_dot_14 : decode i_Mod_dot.2.1 14 = .ok (.bipush 8, 2) := by decide +kernel
theorem d_Mod_dot_16 : decode i_Mod_dot.2.1 16 = .ok (.iload_n 2, 1) := by decide +kernel
theorem d_Mod_dot_17 : decode i_Mod_dot.2.1 17 = .ok (.imul, 1) := by decide +kernel
theorem d_Mod_dot_18 : decode i_Mod_dot.2.1 18 = .ok (.iadd, 1) := by decide +kernel
theorem d_Mod_dot_19 : decode i_Mod_dot.2.1 19 = .ok (.iload_n 1, 1) := by decide +kernel
theorem d_Mod_dot_20 : decode i_Mod_dot.2.1 20 = .ok (.iadd, 1) := by decide +kernel
theorem d_Mod_dot_21 : decode i_Mod_dot.2.1 21 = .ok (.iaload, 1) := by decide +kernel
theorem d_Mod_dot_22 : decode i_Mod_dot.2.1 22 = .ok (.goto 5, 3) := by decide +kernel
theorem d_Mod_dot_25 : decode i_Mod_dot.2.1 25 = .ok (.ldc 75, 2) := by decide +kernel
theorem d_Mod_dot_27 : decode i_Mod_dot.2.1 27 = .ok (.ireturn, 1) := by decide +kernel
theorem d_Mod_borders_0 : decode i_Mod_borders.2.1 0 = .ok (.aload_n 0, 1) := by decide +kernel
theorem d_Mod_borders_1 : decode i_Mod_borders.2.1 1 = .ok (.invokevirtual 125, 3) := by decide +kernel
theorem d_Mod_borders_4 : decode i_Mod_borders.2.1 4 = .ok (.ifCond .ne 6, 3) := by decide +kernel
theorem d_Mod_borders_7 : decode i_Mod_borders.2.1 7 = .ok (.ldc 117, 2) := by decide +kernel
theorem d_Mod_borders_9 : decode i_Mod_borders.2.1 9 = .ok (.ireturn, 1) := by decide +kernel
theorem d_Mod_borders_10 : decode i_Mod_borders.2.1 10 = .ok (.aload_n 0, 1) := by decide +kernel
theorem d_Mod_borders_11 : decode i_Mod_borders.2.1 11 = .ok (.invokevirtual 166, 3) := by decide +kernel
theorem d_Mod_borders_14 : decode i_Mod_borders.2.1 14 = .ok (.aload_n 0, 1) := by decide +kernel
theorem d_Mod_borders_15 : decode i_Mod_borders.2.1 15 = .ok (.getfield 156, 3) := by decide +kernel
theorem d_Mod_borders_18 : decode i_Mod_borders.2.1 18 = .ok (.ireturn, 1) := by decide +kernel
theorem d_Mod_bends_0 : decode i_Mod_bends.2.1 0 = .ok (.iconst 0, 1) := by decide +kernel
theorem d_Mod_bends_1 : decode i_Mod_bends.2.1 1 = .ok (.istore_n 2, 1) := by decide +kernel
theorem d_Mod_bends_2 : decode i_Mod_bends.2.1 2 = .ok (.iconst 0, 1) := by decide +kernel
theorem d_Mod_bends_3 : decode i_Mod_bends.2.1 3 = .ok (.istore_n 3, 1) := by decide +kernel
theorem d_Mod_bends_4 : decode i_Mod_bends.2.1 4 = .ok (.iload_n 3, 1) := by decide +kernel
theorem d_Mod_bends_5 : decode i_Mod_bends.2.1 5 = .ok (.aload_n 0, 1) := by decide +kernel
theorem d_Mod_bends_6 : decode i_Mod_bends.2.1 6 = .ok (.getfield 31, 3) := by decide +kernel
theorem d_Mod_bends_9 : decode i_Mod_bends.2.1 9 = .ok (.iload_n 1, 1) := by decide +kernel
theorem d_Mod_bends_10 : decode i_Mod_bends.2.1 10 = .ok (.iaload, 1) := by decide +kernel
theorem d_Mod_bends_11 : decode i_Mod_bends.2.1 11 = .ok (.if_icmp .ge 62, 3) := by decide +kernel
theorem d_Mod_bends_14 : decode i_Mod_bends.2.1 14 = .ok (.iload_n 2, 1) := by decide +kernel
theorem d_Mod_bends_15 : decode i_Mod_bends.2.1 15 = .ok (.aload_n 0, 1) := by decide +kernel
theorem d_Mod_bends_16 : decode i_Mod_bends.2.1 16 = .ok (.getfield 50, 3) := by decide +kernel
theorem d_Mod_bends_19 : decode i_Mod_bends.2.1 19 = .ok (.aload_n 0, 1) := by decide +kernel
theorem d_Mod_bends_20 : decode i_Mod_bends.2.1 20 = .ok (.getfield 28, 3) := by decide +kernel
theorem d_Mod_bends_23 : decode i_Mod_bends.2.1 23 = .ok (.iload_n 1, 1) := by decide +kernel
theorem d_Mod_bends_24 : decode i_Mod_bends.2.1 24 = .ok (.iaload, 1) := by decide +kernel
theorem d_Mod_bends_25 : decode i_Mod_bends.2.1 25 = .ok (.iload_n 3, 1) := by decide +kernel
theorem d_Mod_bends_26 : decode i_Mod_bends.2.1 26 = .ok (.iadd, 1) := by decide +kernel
theorem d_Mod_bends_27 : decode i_Mod_bends.2.1 27 = .ok (.iaload, 1) := by decide +kernel
theorem d_Mod_bends_28 : decode i_Mod_bends.2.1 28 = .ok (.aload_n 0, 1) := by decide +kernel
theorem d_Mod_bends_29 : decode i_Mod_bends.2.1 29 = .ok (.getfield 50, 3) := by decide +kernel
theorem d_Mod_bends_32 : decode i_Mod_bends.2.1 32 = .ok (.aload_n 0, 1) := by decide +kernel
theorem d_Mod_bends_33 : decode i_Mod_bends.2.1 33 = .ok (.getfield 28, 3) := by decide +kernel
theorem d_Mod_bends_36 : decode i_Mod_bends.2.1 36 = .ok (.iload_n 1, 1) := by decide +kernel
theorem d_Mod_bends_37 : decode i_Mod_bends.2.1 37 = .ok (.iaload, 1) := by decide +kernel
theorem d_Mod_bends_38 : decode i_Mod_bends.2.1 38 = .ok (.iload_n 3, 1) := by decide +kernel
theorem d_Mod_bends_39 : decode i_Mod_bends.2.1 39 = .ok (.aload_n 0, 1) := by decide +kernel
theorem d_Mod_bends_40 : decode i_Mod_bends.2.1 40 = .ok (.getfield 31, 3) := by decide +kernel
theorem d_Mod_bends_43 : decode i_Mod_bends.2.1 43 = .ok (.iload_n 1, 1) := by decide +kernel
theorem d_Mod_bends_44 : decode i_Mod_bends.2.1 44 = .ok (.iaload, 1) := by decide +kernel
theorem d_Mod_bends_45 : decode i_Mod_bends.2.1 45 = .ok (.iadd, 1) := by decide +kernel
theorem d_Mod_bends_46 : decode i_Mod_bends.2.1 46 = .ok (.iconst 1, 1) := by decide +kernel
theorem d_Mod_bends_47 : decode i_Mod_bends.2.1 47 = .ok (.isub, 1) := by decide +kernel
theorem d_Mod_bends_48 : decode i_Mod_bends.2.1 48 = .ok (.aload_n 0, 1) := by decide +kernel
theorem d_Mod_bends_49 : decode i_Mod_bends.2.1 49 = .ok (.getfield 31, 3) := by decide +kernel
theorem d_Mod_bends_52 : decode i_Mod_bends.2.1 52 = .ok (.iload_n 1, 1) := by decide +kernel
theorem d_Mod_bends_53 : decode i_Mod_bends.2.1 53 = .ok (.iaload, 1) := by decide +kernel
theorem d_Mod_bends_54 : decode i_Mod_bends.2.1 54 = .ok (.irem, 1) := by decide +kernel
theorem d_Mod_bends_55 : decode i_Mod_bends.2.1 55 = .ok (.iadd, 1) := by decide +kernel
theorem d_Mod_bends_56 : decode i_Mod_bends.2.1 56 = .ok (.iaload, 1) := by decide +kernel
theorem d_Mod_bends_57 : decode i_Mod_bends.2.1 57 = .ok (.if_icmp .eq 7, 3) := by decide +kernel
theorem d_Mod_bends_60 : decode i_Mod_bends.2.1 60 = .ok (.iconst 1, 1) := by decide +kernel
theorem d_Mod_bends_61 : decode i_Mod_bends.2.1 61 = .ok (.goto 4, 3) := by decide +kernel
theorem d_Mod_bends_64 : decode i_Mod_bends.2.1 64 = .ok (.iconst 0, 1) := by decide +kernel
theorem d_Mod_bends_65 : decode i_Mod_bends.2.1 65 = .ok (.iadd, 1) := by decide +kernel
theorem d_Mod_bends_66 : decode i_Mod_bends.2.1 66 = .ok (.istore_n 2, 1) := by decide +kernel
theorem d_Mod_bends_67 : decode i_Mod_bends.2.1 67 = .ok (.iinc 3 1, 3) := by decide +kernel
theorem d_Mod_bends_70 : decode i_Mod_bends.2.1 70 = .ok (.goto (-66), 3) := by decide +kernel
theorem d_Mod_bends_73 : decode i_Mod_bends.2.1 73 = .ok (.iload_n 2, 1) := by decide +kernel
theorem d_Mod_bends_74 : decode i_Mod_bends.2.1 74 = .ok (.ireturn, 1) := by decide +kernel
theorem d_Mod_border_0 : decode i_Mod_border.2.1 0 = .ok (.aload_n 0, 1) := by decide +kernel
theorem d_Mod_border_1 : decode i_Mod_border.2.1 1 = .ok (.iload_n 1, 1) := by decide +kernel
theorem d_Mod_border_2 : decode i_Mod_border.2.1 2 = .ok (.invokevirtual 169, 3) := by decide +kernel
theorem d_Mod_border_5 : decode i_Mod_border.2.1 5 = .ok (.ifCond .ne 6, 3) := by decide +kernel
theorem d_Mod_border_8 : decode i_Mod_border.2.1 8 = .ok (.ldc 75, 2) := by decide +kernel
theorem d_Mod_border_10 : decode i_Mod_border.2.1 10 = .ok (.ireturn, 1) := by decide +kernel
theorem d_Mod_border_11 : decode i_Mod_border.2.1 11 = .ok (.iload_n 2, 1) := by decide +kernel
theorem d_Mod_border_12 : decode i_Mod_border.2.1 12 = .ok (.tableswitch 101 0 5 #[40, 47, 71, 81, 88, 95], 40) := by decide +kernel
theorem d_Mod_border_52 : decode i_Mod_border.2.1 52 = .ok (.aload_n 0, 1) := by decide +kernel
theorem d_Mod_border_53 : decode i_Mod_border.2.1 53 = .ok (.getfield 31, 3) := by decide +kernel
theorem d_Mod_border_56 : decode i_Mod_border.2.1 56 = .ok (.iload_n 1, 1) := by decide +kernel
theorem d_Mod_border_57 : decode i_Mod_border.2.1 57 = .ok (.iaload, 1) := by decide +kernel
theorem d_Mod_border_58 : decode i_Mod_border.2.1 58 = .ok (.ireturn, 1) := by decide +kernel
theorem d_Mod_border_59 : decode i_Mod_border.2.1 59 = .ok (.aload_n 0, 1) := by decide +kernel
theorem d_Mod_border_60 : decode i_Mod_border.2.1 60 = .ok (.getfield 7, 3) := by decide +kernel
theorem d_Mod_border_63 : decode i_Mod_border.2.1 63 = .ok (.iconst 4, 1) := by decide +kernel
theorem d_Mod_border_64 : decode i_Mod_border.2.1 64 = .ok (.bipush 8, 2) := by decide +kernel
theorem d_Mod_border_66 : decode i_Mod_border.2.1 66 = .ok (.aload_n 0, 1) := by decide +kernel
theorem d_Mod_border_67 : decode i_Mod_border.2.1 67 = .ok (.getfield 37, 3) := by decide +kernel
theorem d_Mod_border_70 : decode i_Mod_border.2.1 70 = .ok (.iload_n 1, 1) := by decide +kernel
theorem d_Mod_border_71 : decode i_Mod_border.2.1 71 = .ok (.iaload, 1) := by decide +kernel
theorem d_Mod_border_72 : decode i_Mod_border.2.1 72 = .ok (.imul, 1) := by decide +kernel
theorem d_Mod_border_73 : decode i_Mod_border.2.1 73 = .ok (.iadd, 1) := by decide +kernel
theorem d_Mod_border_74 : decode i_Mod_border.2.1 74 = .ok (.aload_n 0, 1) := by decide +kernel
theorem d_Mod_border_75 : decode i_Mod_border.2.1 75 = .ok (.getfield 34, 3) := by decide +kernel
theorem d_Mod_border_78 : decode i_Mod_border.2.1 78 = .ok (.iload_n 1, 1) := by decide +kernel
theorem d_Mod_border_79 : decode i_Mod_border.2.1 79 = .ok (.iaload, 1) := by decide +kernel
theorem d_Mod_border_80 : decode i_Mod_border.2.1 80 = .ok (.iadd, 1) := by decide +kernel
theorem d_Mod_border_81 : decode i_Mod_border.2.1 81 = .ok (.iaload, 1) := by decide +kernel
theorem d_Mod_border_82 : decode i_Mod_border.2.1 82 = .ok (.ireturn, 1) := by decide +kernel
theorem d_Mod_border_83 : decode i_Mod_border.2.1 83 = .ok (.aload_n 0, 1) := by decide +kernel
theorem d_Mod_border_84 : decode i_Mod_border.2.1 84 = .ok (.getfield 40, 3) := by decide +kernel
theorem d_Mod_border_87 : decode i_Mod_border.2.1 87 = .ok (.iload_n 1, 1) := by decide +kernel
theorem d_Mod_border_88 : decode i_Mod_border.2.1 88 = .ok (.laload, 1) := by decide +kernel
theorem d_Mod_border_89 : decode i_Mod_border.2.1 89 = .ok (.invokestatic 173, 3) := by decide +kernel
theorem d_Mod_border_92 : decode i_Mod_border.2.1 92 = .ok (.ireturn, 1) := by decide +kernel
theorem d_Mod_border_93 : decode i_Mod_border.2.1 93 = .ok (.aload_n 0, 1) := by decide +kernel
theorem d_Mod_border_94 : decode i_Mod_border.2.1 94 = .ok (.getfield 34, 3) := by decide +kernel
theorem d_Mod_border_97 : decode i_Mod_border.2.1 97 = .ok (.iload_n 1, 1) := by decide +kernel
theorem d_Mod_border_98 : decode i_Mod_border.2.1 98 = .ok (.iaload, 1) := by decide +kernel
theorem d_Mod_border_99 : decode i_Mod_border.2.1 99 = .ok (.ireturn, 1) := by decide +kernel
theorem d_Mod_border_100 : decode i_Mod_border.2.1 100 = .ok (.aload_n 0, 1) := by decide +kernel
theorem d_Mod_border_101 : decode i_Mod_border.2.1 101 = .ok (.getfield 37, 3) := by decide +kernel
theorem d_Mod_border_104 : decode i_Mod_border.2.1 104 = .ok (.iload_n 1, 1) := by decide +kernel
theorem d_Mod_border_105 : decode i_Mod_border.2.1 105 = .ok (.iaload, 1) := by decide +kernel
theorem d_Mod_border_106 : decode i_Mod_border.2.1 106 = .ok (.ireturn, 1) := by decide +kernel
theorem d_Mod_border_107 : decode i_Mod_border.2.1 107 = .ok (.aload_n 0, 1) := by decide +kernel
theorem d_Mod_border_108 : decode i_Mod_border.2.1 108 = .ok (.iload_n 1, 1) := by decide +kernel
theorem d_Mod_border_109 : decode i_Mod_border.2.1 109 = .ok (.invokevirtual 177, 3) := by decide +kernel
theorem d_Mod_border_112 : decode i_Mod_border.2.1 112 = .ok (.ireturn, 1) := by decide +kernel
theorem d_Mod_border_113 : decode i_Mod_border.2.1 113 = .ok (.ldc 75, 2) := by decide +kernel
theorem d_Mod_border_115 : decode i_Mod_border.2.1 115 = .ok (.ireturn, 1) := by decide +kernel
theorem d_Mod_corner_0 : decode i_Mod_corner.2.1 0 = .ok (.aload_n 0, 1) := by decide +kernel
theorem d_Mod_corner_1 : decode i_Mod_corner.2.1 1 = .ok (.iload_n 1, 1) := by decide +kernel
theorem d_Mod_corner_2 : decode i_Mod_corner.2.1 2 = .ok (.invokevirtual 169, 3) := by decide +kernel
theorem d_Mod_corner_5 : decode i_Mod_corner.2.1 5 = .ok (.ifCond .eq 16, 3) := by decide +kernel
theorem d_Mod_corner_8 : decode i_Mod_corner.2.1 8 = .ok (.iload_n 2, 1) := by decide +kernel
theorem d_Mod_corner_9 : decode i_Mod_corner.2.1 9 = .ok (.ifCond .lt 12, 3) := by decide +kernel
theorem d_Mod_corner_12 : decode i_Mod_corner.2.1 12 = .ok (.iload_n 3, 1) := by decide +kernel
theorem d_Mod_corner_13 : decode i_Mod_corner.2.1 13 = .ok (.iconst 0, 1) := by decide +kernel
theorem d_Mod_corner_14 : decode i_Mod_corner.2.1 14 = .ok (.iconst 2, 1) := by decide +kernel
theorem d_Mod_corner_15 : decode i_Mod_corner.2.1 15 = .ok (.invokestatic 71, 3) := by decide +kernel
theorem d_Mod_corner_18 : decode i_Mod_corner.2.1 18 = .ok (.ifCond .ne 6, 3) := by decide +kernel
theorem d_Mod_corner_21 : decode i_Mod_corner.2.1 21 = .ok (.ldc 75, 2) := by decide +kernel
theorem d_Mod_corner_23 : decode i_Mod_corner.2.1 23 = .ok (.ireturn, 1) := by decide +kernel
theorem d_Mod_corner_24 : decode i_Mod_corner.2.1 24 = .ok (.aload_n 0, 1) := by decide +kernel
theorem d_Mod_corner_25 : decode i_Mod_corner.2.1 25 = .ok (.getfield 28, 3) := by decide +kernel
theorem d_Mod_corner_28 : decode i_Mod_corner.2.1 28 = .ok (.iload_n 1, 1) := by decide +kernel
theorem d_Mod_corner_29 : decode i_Mod_corner.2.1 29 = .ok (.iaload, 1) := by decide +kernel
theorem d_Mod_corner_30 : decode i_Mod_corner.2.1 30 = .ok (.iload_n 2, 1) := by decide +kernel
theorem d_Mod_corner_31 : decode i_Mod_corner.2.1 31 = .ok (.aload_n 0, 1) := by decide +kernel
theorem d_Mod_corner_32 : decode i_Mod_corner.2.1 32 = .ok (.getfield 31, 3) := by decide +kernel
theorem d_Mod_corner_35 : decode i_Mod_corner.2.1 35 = .ok (.iload_n 1, 1) := by decide +kernel
theorem d_Mod_corner_36 : decode i_Mod_corner.2.1 36 = .ok (.iaload, 1) := by decide +kernel
theorem d_Mod_corner_37 : decode i_Mod_corner.2.1 37 = .ok (.irem, 1) := by decide +kernel
theorem d_Mod_corner_38 : decode i_Mod_corner.2.1 38 = .ok (.iadd, 1) := by decide +kernel
theorem d_Mod_corner_39 : decode i_Mod_corner.2.1 39 = .ok (.istore 4, 2) := by decide +kernel
theorem d_Mod_corner_41 : decode i_Mod_corner.2.1 41 = .ok (.iload_n 3, 1) := by decide +kernel
theorem d_Mod_corner_42 : decode i_Mod_corner.2.1 42 = .ok (.ifCond .ne 13, 3) := by decide +kernel
theorem d_Mod_corner_45 : decode i_Mod_corner.2.1 45 = .ok (.aload_n 0, 1) := by decide +kernel
theorem d_Mod_corner_46 : decode i_Mod_corner.2.1 46 = .ok (.getfield 44, 3) := by decide +kernel
theorem d_Mod_corner_49 : decode i_Mod_corner.2.1 49 = .ok (.iload 4, 2) := by decide +kernel
theorem d_Mod_corner_51 : decode i_Mod_corner.2.1 51 = .ok (.iaload, 1) := by decide +kernel
theorem d_Mod_corner_52 : decode i_Mod_corner.2.1 52 = .ok (.goto 25, 3) := by decide +kernel
theorem d_Mod_corner_55 : decode i_Mod_corner.2.1 55 = .ok (.iload_n 3, 1) := by decide +kernel
theorem d_Mod_corner_56 : decode i_Mod_corner.2.1 56 = .ok (.iconst 1, 1) := by decide +kernel
theorem d_Mod_corner_57 : decode i_Mod_corner.2.1 57 = .ok (.if_icmp .ne 13, 3) := by decide +kernel
theorem d_Mod_corner_60 : decode i_Mod_corner.2.1 60 = .ok (.aload_n 0, 1) := by decide +kernel
theorem d_Mod_corner_61 : decode i_Mod_corner.2.1 61 = .ok (.getfield 47, 3) := by decide +kernel
theorem d_Mod_corner_64 : decode i_Mod_corner.2.1 64 = .ok (.iload 4, 2) := by decide +kernel
theorem d_Mod_corner_66 : decode i_Mod_corner.2.1 66 = .ok (.iaload, 1) := by decide +kernel
theorem d_Mod_corner_67 : decode i_Mod_corner.2.1 67 = .ok (.goto 10, 3) := by decide +kernel
theorem d_Mod_corner_70 : decode i_Mod_corner.2.1 70 = .ok (.aload_n 0, 1) := by decide +kernel
theorem d_Mod_corner_71 : decode i_Mod_corner.2.1 71 = .ok (.getfield 50, 3) := by decide +kernel
theorem d_Mod_corner_74 : decode i_Mod_corner.2.1 74 = .ok (.iload 4, 2) := by decide +kernel
theorem d_Mod_corner_76 : decode i_Mod_corner.2.1 76 = .ok (.iaload, 1) := by decide +kernel
theorem d_Mod_corner_77 : decode i_Mod_corner.2.1 77 = .ok (.ireturn, 1) := by decide +kernel
theorem d_Mod_isIn_0 : decode i_Mod_isIn.2.1 0 = .ok (.aload_n 0, 1) := by decide +kernel
theorem d_Mod_isIn_1 : decode i_Mod_isIn.2.1 1 = .ok (.getfield 40, 3) := by decide +kernel
theorem d_Mod_isIn_4 : decode i_Mod_isIn.2.1 4 = .ok (.iload_n 1, 1) := by decide +kernel
theorem d_Mod_isIn_5 : decode i_Mod_isIn.2.1 5 = .ok (.laload, 1) := by decide +kernel
theorem d_Mod_isIn_6 : decode i_Mod_isIn.2.1 6 = .ok (.bipush 8, 2) := by decide +kernel
theorem d_Mod_isIn_8 : decode i_Mod_isIn.2.1 8 = .ok (.iload_n 3, 1) := by decide +kernel
theorem d_Mod_isIn_9 : decode i_Mod_isIn.2.1 9 = .ok (.imul, 1) := by decide +kernel
theorem d_Mod_isIn_10 : decode i_Mod_isIn.2.1 10 = .ok (.iload_n 2, 1) := by decide +kernel
theorem d_Mod_isIn_11 : decode i_Mod_isIn.2.1 11 = .ok (.iadd, 1) := by decide +kernel
theorem d_Mod_isIn_12 : decode i_Mod_isIn.2.1 12 = .ok (.lshr, 1) := by decide +kernel
theorem d_Mod_isIn_13 : decode i_Mod_isIn.2.1 13 = .ok (.lconst 1, 1) := by decide +kernel
theorem d_Mod_isIn_14 : decode i_Mod_isIn.2.1 14 = .ok (.land, 1) := by decide +kernel
theorem d_Mod_isIn_15 : decode i_Mod_isIn.2.1 15 = .ok (.lconst 1, 1) := by decide +kernel
theorem d_Mod_isIn_16 : decode i_Mod_isIn.2.1 16 = .ok (.lcmp, 1) := by decide +kernel
theorem d_Mod_isIn_17 : decode i_Mod_isIn.2.1 17 = .ok (.ifCond .ne 7, 3) := by decide +kernel
theorem d_Mod_isIn_20 : decode i_Mod_isIn.2.1 20 = .ok (.iconst 1, 1) := by decide +kernel
theorem d_Mod_isIn_21 : decode i_Mod_isIn.2.1 21 = .ok (.goto 4, 3) := by decide +kernel
theorem d_Mod_isIn_24 : decode i_Mod_isIn.2.1 24 = .ok (.iconst 0, 1) := by decide +kernel
theorem d_Mod_isIn_25 : decode i_Mod_isIn.2.1 25 = .ok (.ireturn, 1) := by decide +kernel
theorem d_Mod_inside_0 : decode i_Mod_inside.2.1 0 = .ok (.aload_n 0, 1) := by decide +kernel
theorem d_Mod_inside_1 : decode i_Mod_inside.2.1 1 = .ok (.iload_n 1, 1) := by decide +kernel
theorem d_Mod_inside_2 : decode i_Mod_inside.2.1 2 = .ok (.invokevirtual 169, 3) := by decide +kernel
theorem d_Mod_inside_5 : decode i_Mod_inside.2.1 5 = .ok (.ifCond .eq 30, 3) := by decide +kernel
theorem d_Mod_inside_8 : decode i_Mod_inside.2.1 8 = .ok (.aload_n 0, 1) := by decide +kernel
theorem d_Mod_inside_9 : decode i_Mod_inside.2.1 9 = .ok (.iload_n 2, 1) := by decide +kernel
theorem d_Mod_inside_10 : decode i_Mod_inside.2.1 10 = .ok (.iload_n 3, 1) := by decide +kernel
theorem d_Mod_inside_11 : decode i_Mod_inside.2.1 11 = .ok (.invokevirtual 118, 3) := by decide +kernel
theorem d_Mod_inside_14 : decode i_Mod_inside.2.1 14 = .ok (.ifCond .eq 21, 3) := by decide +kernel
theorem d_Mod_inside_17 : decode i_Mod_inside.2.1 17 = .ok (.aload_n 0, 1) := by decide +kernel
theorem d_Mod_inside_18 : decode i_Mod_inside.2.1 18 = .ok (.iload_n 1, 1) := by decide +kernel
theorem d_Mod_inside_19 : decode i_Mod_inside.2.1 19 = .ok (.iload_n 2, 1) := by decide +kernel
theorem d_Mod_inside_20 : decode i_Mod_inside.2.1 20 = .ok (.iload_n 3, 1) := by decide +kernel
theorem d_Mod_inside_21 : decode i_Mod_inside.2.1 21 = .ok (.invokevirtual 180, 3) := by decide +kernel
theorem d_Mod_inside_24 : decode i_Mod_inside.2.1 24 = .ok (.ifCond .eq 7, 3) := by decide +kernel
theorem d_Mod_inside_27 : decode i_Mod_inside.2.1 27 = .ok (.iconst 1, 1) := by decide +kernel
theorem d_Mod_inside_28 : decode i_Mod_inside.2.1 28 = .ok (.goto 9, 3) := by decide +kernel
theorem d_Mod_inside_31 : decode i_Mod_inside.2.1 31 = .ok (.iconst 0, 1) := by decide +kernel
theorem d_Mod_inside_32 : decode i_Mod_inside.2.1 32 = .ok (.goto 5, 3) := by decide +kernel
theorem d_Mod_inside_35 : decode i_Mod_inside.2.1 35 = .ok (.ldc 75, 2) := by decide +kernel
theorem d_Mod_inside_37 : decode i_Mod_inside.2.1 37 = .ok (.ireturn, 1) := by decide +kernel
theorem d_Mod_size_0 : decode i_Mod_size.2.1 0 = .ok (.iload_n 0, 1) := by decide +kernel
theorem d_Mod_size_1 : decode i_Mod_size.2.1 1 = .ok (.ifCond .ge 8, 3) := by decide +kernel
theorem d_Mod_size_4 : decode i_Mod_size.2.1 4 = .ok (.iload_n 0, 1) := by decide +kernel
theorem d_Mod_size_5 : decode i_Mod_size.2.1 5 = .ok (.ineg, 1) := by decide +kernel
theorem d_Mod_size_6 : decode i_Mod_size.2.1 6 = .ok (.goto 4, 3) := by decide +kernel
theorem d_Mod_size_9 : decode i_Mod_size.2.1 9 = .ok (.iload_n 0, 1) := by decide +kernel
theorem d_Mod_size_10 : decode i_Mod_size.2.1 10 = .ok (.ireturn, 1) := by decide +kernel
theorem d_Mod_offOf_0 : decode i_Mod_offOf.2.1 0 = .ok (.aload_n 0, 1) := by decide +kernel
theorem d_Mod_offOf_1 : decode i_Mod_offOf.2.1 1 = .ok (.getfield 31, 3) := by decide +kernel
theorem d_Mod_offOf_4 : decode i_Mod_offOf.2.1 4 = .ok (.iload_n 1, 1) := by decide +kernel
theorem d_Mod_offOf_5 : decode i_Mod_offOf.2.1 5 = .ok (.iaload, 1) := by decide +kernel
theorem d_Mod_offOf_6 : decode i_Mod_offOf.2.1 6 = .ok (.istore 4, 2) := by decide +kernel
theorem d_Mod_offOf_8 : decode i_Mod_offOf.2.1 8 = .ok (.aload_n 0, 1) := by decide +kernel
theorem d_Mod_offOf_9 : decode i_Mod_offOf.2.1 9 = .ok (.getfield 44, 3) := by decide +kernel
theorem d_Mod_offOf_12 : decode i_Mod_offOf.2.1 12 = .ok (.aload_n 0, 1) := by decide +kernel
theorem d_Mod_offOf_13 : decode i_Mod_offOf.2.1 13 = .ok (.getfield 28, 3) := by decide +kernel
theorem d_Mod_offOf_16 : decode i_Mod_offOf.2.1 16 = .ok (.iload_n 1, 1) := by decide +kernel
theorem d_Mod_offOf_17 : decode i_Mod_offOf.2.1 17 = .ok (.iaload, 1) := by decide +kernel
theorem d_Mod_offOf_18 : decode i_Mod_offOf.2.1 18 = .ok (.iload_n 2, 1) := by decide +kernel
theorem d_Mod_offOf_19 : decode i_Mod_offOf.2.1 19 = .ok (.iadd, 1) := by decide +kernel
theorem d_Mod_offOf_20 : decode i_Mod_offOf.2.1 20 = .ok (.iaload, 1) := by decide +kernel
theorem d_Mod_offOf_21 : decode i_Mod_offOf.2.1 21 = .ok (.istore 5, 2) := by decide +kernel
theorem d_Mod_offOf_23 : decode i_Mod_offOf.2.1 23 = .ok (.aload_n 0, 1) := by decide +kernel
theorem d_Mod_offOf_24 : decode i_Mod_offOf.2.1 24 = .ok (.getfield 47, 3) := by decide +kernel
theorem d_Mod_offOf_27 : decode i_Mod_offOf.2.1 27 = .ok (.aload_n 0, 1) := by decide +kernel
theorem d_Mod_offOf_28 : decode i_Mod_offOf.2.1 28 = .ok (.getfield 28, 3) := by decide +kernel
theorem d_Mod_offOf_31 : decode i_Mod_offOf.2.1 31 = .ok (.iload_n 1, 1) := by decide +kernel
theorem d_Mod_offOf_32 : decode i_Mod_offOf.2.1 32 = .ok (.iaload, 1) := by decide +kernel
theorem d_Mod_offOf_33 : decode i_Mod_offOf.2.1 33 = .ok (.iload_n 2, 1) := by decide +kernel
theorem d_Mod_offOf_34 : decode i_Mod_offOf.2.1 34 = .ok (.iadd, 1) := by decide +kernel
theorem d_Mod_offOf_35 : decode i_Mod_offOf.2.1 35 = .ok (.iaload, 1) := by decide +kernel
theorem d_Mod_offOf_36 : decode i_Mod_offOf.2.1 36 = .ok (.istore 6, 2) := by decide +kernel
theorem d_Mod_offOf_38 : decode i_Mod_offOf.2.1 38 = .ok (.aload_n 0, 1) := by decide +kernel
theorem d_Mod_offOf_39 : decode i_Mod_offOf.2.1 39 = .ok (.getfield 44, 3) := by decide +kernel
theorem d_Mod_offOf_42 : decode i_Mod_offOf.2.1 42 = .ok (.aload_n 0, 1) := by decide +kernel
theorem d_Mod_offOf_43 : decode i_Mod_offOf.2.1 43 = .ok (.getfield 28, 3) := by decide +kernel
theorem d_Mod_offOf_46 : decode i_Mod_offOf.2.1 46 = .ok (.iload_n 1, 1) := by decide +kernel
theorem d_Mod_offOf_47 : decode i_Mod_offOf.2.1 47 = .ok (.iaload, 1) := by decide +kernel
theorem d_Mod_offOf_48 : decode i_Mod_offOf.2.1 48 = .ok (.iload_n 2, 1) := by decide +kernel
theorem d_Mod_offOf_49 : decode i_Mod_offOf.2.1 49 = .ok (.iload_n 3, 1) := by decide +kernel
theorem d_Mod_offOf_50 : decode i_Mod_offOf.2.1 50 = .ok (.iadd, 1) := by decide +kernel
theorem d_Mod_offOf_51 : decode i_Mod_offOf.2.1 51 = .ok (.iload 4, 2) := by decide +kernel
theorem d_Mod_offOf_53 : decode i_Mod_offOf.2.1 53 = .ok (.irem, 1) := by decide +kernel
theorem d_Mod_offOf_54 : decode i_Mod_offOf.2.1 54 = .ok (.iadd, 1) := by decide +kernel
theorem d_Mod_offOf_55 : decode i_Mod_offOf.2.1 55 = .ok (.iaload, 1) := by decide +kernel
theorem d_Mod_offOf_56 : decode i_Mod_offOf.2.1 56 = .ok (.iload 5, 2) := by decide +kernel
theorem d_Mod_offOf_58 : decode i_Mod_offOf.2.1 58 = .ok (.isub, 1) := by decide +kernel
theorem d_Mod_offOf_59 : decode i_Mod_offOf.2.1 59 = .ok (.istore 7, 2) := by decide +kernel
theorem d_Mod_offOf_61 : decode i_Mod_offOf.2.1 61 = .ok (.aload_n 0, 1) := by decide +kernel
theorem d_Mod_offOf_62 : decode i_Mod_offOf.2.1 62 = .ok (.getfield 47, 3) := by decide +kernel
theorem d_Mod_offOf_65 : decode i_Mod_offOf.2.1 65 = .ok (.aload_n 0, 1) := by decide +kernel
theorem d_Mod_offOf_66 : decode i_Mod_offOf.2.1 66 = .ok (.getfield 28, 3) := by decide +kernel
theorem d_Mod_offOf_69 : decode i_Mod_offOf.2.1 69 = .ok (.iload_n 1, 1) := by decide +kernel
theorem d_Mod_offOf_70 : decode i_Mod_offOf.2.1 70 = .ok (.iaload, 1) := by decide +kernel
theorem d_Mod_offOf_71 : decode i_Mod_offOf.2.1 71 = .ok (.iload_n 2, 1) := by decide +kernel
theorem d_Mod_offOf_72 : decode i_Mod_offOf.2.1 72 = .ok (.iload_n 3, 1) := by decide +kernel
theorem d_Mod_offOf_73 : decode i_Mod_offOf.2.1 73 = .ok (.iadd, 1) := by decide +kernel
theorem d_Mod_offOf_74 : decode i_Mod_offOf.2.1 74 = .ok (.iload 4, 2) := by decide +kernel
theorem d_Mod_offOf_76 : decode i_Mod_offOf.2.1 76 = .ok (.irem, 1) := by decide +kernel
theorem d_Mod_offOf_77 : decode i_Mod_offOf.2.1 77 = .ok (.iadd, 1) := by decide +kernel
theorem d_Mod_offOf_78 : decode i_Mod_offOf.2.1 78 = .ok (.iaload, 1) := by decide +kernel
theorem d_Mod_offOf_79 : decode i_Mod_offOf.2.1 79 = .ok (.iload 6, 2) := by decide +kernel
theorem d_Mod_offOf_81 : decode i_Mod_offOf.2.1 81 = .ok (.isub, 1) := by decide +kernel
theorem d_Mod_offOf_82 : decode i_Mod_offOf.2.1 82 = .ok (.istore 8, 2) := by decide +kernel
theorem d_Mod_offOf_84 : decode i_Mod_offOf.2.1 84 = .ok (.iload 7, 2) := by decide +kernel
theorem d_Mod_offOf_86 : decode i_Mod_offOf.2.1 86 = .ok (.invokestatic 183, 3) := by decide +kernel
theorem d_Mod_offOf_89 : decode i_Mod_offOf.2.1 89 = .ok (.iload 8, 2) := by decide +kernel
theorem d_Mod_offOf_91 : decode i_Mod_offOf.2.1 91 = .ok (.invokestatic 183, 3) := by decide +kernel
theorem d_Mod_offOf_94 : decode i_Mod_offOf.2.1 94 = .ok (.if_icmp .le 11, 3) := by decide +kernel
theorem d_Mod_offOf_97 : decode i_Mod_offOf.2.1 97 = .ok (.iload 7, 2) := by decide +kernel
theorem d_Mod_offOf_99 : decode i_Mod_offOf.2.1 99 = .ok (.invokestatic 183, 3) := by decide +kernel
theorem d_Mod_offOf_102 : decode i_Mod_offOf.2.1 102 = .ok (.goto 8, 3) := by decide +kernel
theorem d_Mod_offOf_105 : decode i_Mod_offOf.2.1 105 = .ok (.iload 8, 2) := by decide +kernel
theorem d_Mod_offOf_107 : decode i_Mod_offOf.2.1 107 = .ok (.invokestatic 183, 3) := by decide +kernel
theorem d_Mod_offOf_110 : decode i_Mod_offOf.2.1 110 = .ok (.istore 9, 2) := by decide +kernel
theorem d_Mod_offOf_112 : decode i_Mod_offOf.2.1 112 = .ok (.iload 9, 2) := by decide +kernel
theorem d_Mod_offOf_114 : decode i_Mod_offOf.2.1 114 = .ok (.ifCond .ne 8, 3) := by decide +kernel
theorem d_Mod_offOf_117 : decode i_Mod_offOf.2.1 117 = .ok (.ldc 185, 2) := by decide +kernel
theorem d_Mod_offOf_119 : decode i_Mod_offOf.2.1 119 = .ok (.goto 4, 3) := by decide +kernel
theorem d_Mod_offOf_122 : decode i_Mod_offOf.2.1 122 = .ok (.iconst 0, 1) := by decide +kernel
theorem d_Mod_offOf_123 : decode i_Mod_offOf.2.1 123 = .ok (.istore 10, 2) := by decide +kernel
theorem d_Mod_offOf_125 : decode i_Mod_offOf.2.1 125 = .ok (.iconst 1, 1) := by decide +kernel
theorem d_Mod_offOf_126 : decode i_Mod_offOf.2.1 126 = .ok (.istore 11, 2) := by decide +kernel
theorem d_Mod_offOf_128 : decode i_Mod_offOf.2.1 128 = .ok (.iload 11, 2) := by decide +kernel
theorem d_Mod_offOf_130 : decode i_Mod_offOf.2.1 130 = .ok (.iload_n 3, 1) := by decide +kernel
theorem d_Mod_offOf_131 : decode i_Mod_offOf.2.1 131 = .ok (.if_icmp .ge 88, 3) := by decide +kernel
theorem d_Mod_offOf_134 : decode i_Mod_offOf.2.1 134 = .ok (.iload 10, 2) := by decide +kernel
theorem d_Mod_offOf_136 : decode i_Mod_offOf.2.1 136 = .ok (.ldc 185, 2) := by decide +kernel
theorem d_Mod_offOf_138 : decode i_Mod_offOf.2.1 138 = .ok (.if_icmp .eq 81, 3) := by decide +kernel
theorem d_Mod_offOf_141 : decode i_Mod_offOf.2.1 141 = .ok (.aload_n 0, 1) := by decide +kernel
theorem d_Mod_offOf_142 : decode i_Mod_offOf.2.1 142 = .ok (.getfield 28, 3) := by decide +kernel
theorem d_Mod_offOf_145 : decode i_Mod_offOf.2.1 145 = .ok (.iload_n 1, 1) := by decide +kernel
theorem d_Mod_offOf_146 : decode i_Mod_offOf.2.1 146 = .ok (.iaload, 1) := by decide +kernel
theorem d_Mod_offOf_147 : decode i_Mod_offOf.2.1 147 = .ok (.iload_n 2, 1) := by decide +kernel
theorem d_Mod_offOf_148 : decode i_Mod_offOf.2.1 148 = .ok (.iload 11, 2) := by decide +kernel
theorem d_Mod_offOf_150 : decode i_Mod_offOf.2.1 150 = .ok (.iadd, 1) := by decide +kernel
theorem d_Mod_offOf_151 : decode i_Mod_offOf.2.1 151 = .ok (.iload 4, 2) := by decide +kernel
theorem d_Mod_offOf_153 : decode i_Mod_offOf.2.1 153 = .ok (.irem, 1) := by decide +kernel
theorem d_Mod_offOf_154 : decode i_Mod_offOf.2.1 154 = .ok (.iadd, 1) := by decide +kernel
theorem d_Mod_offOf_155 : decode i_Mod_offOf.2.1 155 = .ok (.istore 12, 2) := by decide +kernel
theorem d_Mod_offOf_157 : decode i_Mod_offOf.2.1 157 = .ok (.iload 7, 2) := by decide +kernel
theorem d_Mod_offOf_159 : decode i_Mod_offOf.2.1 159 = .ok (.aload_n 0, 1) := by decide +kernel
theorem d_Mod_offOf_160 : decode i_Mod_offOf.2.1 160 = .ok (.getfield 47, 3) := by decide +kernel
theorem d_Mod_offOf_163 : decode i_Mod_offOf.2.1 163 = .ok (.iload 12, 2) := by decide +kernel
theorem d_Mod_offOf_165 : decode i_Mod_offOf.2.1 165 = .ok (.iaload, 1) := by decide +kernel
theorem d_Mod_offOf_166 : decode i_Mod_offOf.2.1 166 = .ok (.iload 6, 2) := by decide +kernel
theorem d_Mod_offOf_168 : decode i_Mod_offOf.2.1 168 = .ok (.isub, 1) := by decide +kernel
theorem d_Mod_offOf_169 : decode i_Mod_offOf.2.1 169 = .ok (.imul, 1) := by decide +kernel
theorem d_Mod_offOf_170 : decode i_Mod_offOf.2.1 170 = .ok (.iload 8, 2) := by decide +kernel
theorem d_Mod_offOf_172 : decode i_Mod_offOf.2.1 172 = .ok (.aload_n 0, 1) := by decide +kernel
theorem d_Mod_offOf_173 : decode i_Mod_offOf.2.1 173 = .ok (.getfield 44, 3) := by decide +kernel
theorem d_Mod_offOf_176 : decode i_Mod_offOf.2.1 176 = .ok (.iload 12, 2) := by decide +kernel
theorem d_Mod_offOf_178 : decode i_Mod_offOf.2.1 178 = .ok (.iaload, 1) := by decide +kernel
theorem d_Mod_offOf_179 : decode i_Mod_offOf.2.1 179 = .ok (.iload 5, 2) := by decide +kernel
theorem d_Mod_offOf_181 : decode i_Mod_offOf.2.1 181 = .ok (.isub, 1) := by decide +kernel
theorem d_Mod_offOf_182 : decode i_Mod_offOf.2.1 182 = .ok (.imul, 1) := by decide +kernel
theorem d_Mod_offOf_183 : decode i_Mod_offOf.2.1 183 = .ok (.isub, 1) := by decide +kernel
theorem d_Mod_offOf_184 : decode i_Mod_offOf.2.1 184 = .ok (.invokestatic 183, 3) := by decide +kernel
theorem d_Mod_offOf_187 : decode i_Mod_offOf.2.1 187 = .ok (.istore 13, 2) := by decide +kernel
theorem d_Mod_offOf_189 : decode i_Mod_offOf.2.1 189 = .ok (.iconst 2, 1) := by decide +kernel
theorem d_Mod_offOf_190 : decode i_Mod_offOf.2.1 190 = .ok (.iload 13, 2) := by decide +kernel
theorem d_Mod_offOf_192 : decode i_Mod_offOf.2.1 192 = .ok (.imul, 1) := by decide +kernel
theorem d_Mod_offOf_193 : decode i_Mod_offOf.2.1 193 = .ok (.iload 9, 2) := by decide +kernel
theorem d_Mod_offOf_195 : decode i_Mod_offOf.2.1 195 = .ok (.if_icmp .le 8, 3) := by decide +kernel
theorem d_Mod_offOf_198 : decode i_Mod_offOf.2.1 198 = .ok (.ldc 185, 2) := by decide +kernel
theorem d_Mod_offOf_200 : decode i_Mod_offOf.2.1 200 = .ok (.goto 11, 3) := by decide +kernel
theorem d_Mod_offOf_203 : decode i_Mod_offOf.2.1 203 = .ok (.iload 10, 2) := by decide +kernel
theorem d_Mod_offOf_205 : decode i_Mod_offOf.2.1 205 = .ok (.iload 13, 2) := by decide +kernel
theorem d_Mod_offOf_207 : decode i_Mod_offOf.2.1 207 = .ok (.iload 13, 2) := by decide +kernel
theorem d_Mod_offOf_209 : decode i_Mod_offOf.2.1 209 = .ok (.imul, 1) := by decide +kernel
theorem d_Mod_offOf_210 : decode i_Mod_offOf.2.1 210 = .ok (.iadd, 1) := by decide +kernel
theorem d_Mod_offOf_211 : decode i_Mod_offOf.2.1 211 = .ok (.istore 10, 2) := by decide +kernel
theorem d_Mod_offOf_213 : decode i_Mod_offOf.2.1 213 = .ok (.iinc 11 1, 3) := by decide +kernel
theorem d_Mod_offOf_216 : decode i_Mod_offOf.2.1 216 = .ok (.goto (-88), 3) := by decide +kernel
theorem d_Mod_offOf_219 : decode i_Mod_offOf.2.1 219 = .ok (.iload 10, 2) := by decide +kernel
theorem d_Mod_offOf_221 : decode i_Mod_offOf.2.1 221 = .ok (.ireturn, 1) := by decide +kernel
theorem d_Mod_laysTable_0 : decode i_Mod_laysTable.2.1 0 = .ok (.aload_n 0, 1) := by decide +kernel
theorem d_Mod_laysTable_1 : decode i_Mod_laysTable.2.1 1 = .ok (.getfield 153, 3) := by decide +kernel
theorem d_Mod_laysTable_4 : decode i_Mod_laysTable.2.1 4 = .ok (.iload_n 1, 1) := by decide +kernel
theorem d_Mod_laysTable_5 : decode i_Mod_laysTable.2.1 5 = .ok (.if_icmp .ne 4, 3) := by decide +kernel
theorem d_Mod_laysTable_8 : decode i_Mod_laysTable.2.1 8 = .ok (.return_, 1) := by decide +kernel
theorem d_Mod_laysTable_9 : decode i_Mod_laysTable.2.1 9 = .ok (.aload_n 0, 1) := by decide +kernel
theorem d_Mod_laysTable_10 : decode i_Mod_laysTable.2.1 10 = .ok (.iload_n 1, 1) := by decide +kernel
theorem d_Mod_laysTable_11 : decode i_Mod_laysTable.2.1 11 = .ok (.putfield 153, 3) := by decide +kernel
theorem d_Mod_laysTable_14 : decode i_Mod_laysTable.2.1 14 = .ok (.iconst 0, 1) := by decide +kernel
theorem d_Mod_laysTable_15 : decode i_Mod_laysTable.2.1 15 = .ok (.istore_n 2, 1) := by decide +kernel
theorem d_Mod_laysTable_16 : decode i_Mod_laysTable.2.1 16 = .ok (.iload_n 2, 1) := by decide +kernel
theorem d_Mod_laysTable_17 : decode i_Mod_laysTable.2.1 17 = .ok (.aload_n 0, 1) := by decide +kernel
theorem d_Mod_laysTable_18 : decode i_Mod_laysTable.2.1 18 = .ok (.getfield 31, 3) := by decide +kernel
theorem d_Mod_laysTable_21 : decode i_Mod_laysTable.2.1 21 = .ok (.iload_n 1, 1) := by decide +kernel
theorem d_Mod_laysTable_22 : decode i_Mod_laysTable.2.1 22 = .ok (.iaload, 1) := by decide +kernel
theorem d_Mod_laysTable_23 : decode i_Mod_laysTable.2.1 23 = .ok (.if_icmp .ge 46, 3) := by decide +kernel
theorem d_Mod_laysTable_26 : decode i_Mod_laysTable.2.1 26 = .ok (.iconst 1, 1) := by decide +kernel
theorem d_Mod_laysTable_27 : decode i_Mod_laysTable.2.1 27 = .ok (.istore_n 3, 1) := by decide +kernel
theorem d_Mod_laysTable_28 : decode i_Mod_laysTable.2.1 28 = .ok (.iload_n 3, 1) := by decide +kernel
theorem d_Mod_laysTable_29 : decode i_Mod_laysTable.2.1 29 = .ok (.aload_n 0, 1) := by decide +kernel
theorem d_Mod_laysTable_30 : decode i_Mod_laysTable.2.1 30 = .ok (.getfield 31, 3) := by decide +kernel
