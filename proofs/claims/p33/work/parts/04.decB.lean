theorem dX11_init_0 : decode cX11_init 0 = .ok (.aload_n 0, 1) := by decide +kernel
theorem dX11_init_1 : decode cX11_init 1 = .ok (.invokespecial 1, 3) := by decide +kernel
theorem dX11_init_4 : decode cX11_init 4 = .ok (.aload_n 0, 1) := by decide +kernel
theorem dX11_init_5 : decode cX11_init 5 = .ok (.sipush 1662, 3) := by decide +kernel
theorem dX11_init_8 : decode cX11_init 8 = .ok (.newarray .long, 2) := by decide +kernel
theorem dX11_init_10 : decode cX11_init 10 = .ok (.putfield 7, 3) := by decide +kernel
theorem dX11_init_13 : decode cX11_init 13 = .ok (.aload_n 0, 1) := by decide +kernel
theorem dX11_init_14 : decode cX11_init 14 = .ok (.sipush 6648, 3) := by decide +kernel
theorem dX11_init_17 : decode cX11_init 17 = .ok (.newarray .long, 2) := by decide +kernel
theorem dX11_init_19 : decode cX11_init 19 = .ok (.putfield 13, 3) := by decide +kernel
theorem dX11_init_22 : decode cX11_init 22 = .ok (.aload_n 0, 1) := by decide +kernel
theorem dX11_init_23 : decode cX11_init 23 = .ok (.sipush 1662, 3) := by decide +kernel
theorem dX11_init_26 : decode cX11_init 26 = .ok (.newarray .long, 2) := by decide +kernel
theorem dX11_init_28 : decode cX11_init 28 = .ok (.putfield 16, 3) := by decide +kernel
theorem dX11_init_31 : decode cX11_init 31 = .ok (.aload_n 0, 1) := by decide +kernel
theorem dX11_init_32 : decode cX11_init 32 = .ok (.bipush 60, 2) := by decide +kernel
theorem dX11_init_34 : decode cX11_init 34 = .ok (.newarray .char, 2) := by decide +kernel
theorem dX11_init_36 : decode cX11_init 36 = .ok (.putfield 19, 3) := by decide +kernel
theorem dX11_init_39 : decode cX11_init 39 = .ok (.aload_n 0, 1) := by decide +kernel
theorem dX11_init_40 : decode cX11_init 40 = .ok (.sipush 330, 3) := by decide +kernel
theorem dX11_init_43 : decode cX11_init 43 = .ok (.newarray .long, 2) := by decide +kernel
theorem dX11_init_45 : decode cX11_init 45 = .ok (.putfield 23, 3) := by decide +kernel
theorem dX11_init_48 : decode cX11_init 48 = .ok (.aload_n 0, 1) := by decide +kernel
theorem dX11_init_49 : decode cX11_init 49 = .ok (.bipush 9, 2) := by decide +kernel
theorem dX11_init_51 : decode cX11_init 51 = .ok (.newarray .int, 2) := by decide +kernel
theorem dX11_init_53 : decode cX11_init 53 = .ok (.putfield 26, 3) := by decide +kernel
theorem dX11_init_56 : decode cX11_init 56 = .ok (.aload_n 0, 1) := by decide +kernel
theorem dX11_init_57 : decode cX11_init 57 = .ok (.bipush 9, 2) := by decide +kernel
theorem dX11_init_59 : decode cX11_init 59 = .ok (.newarray .int, 2) := by decide +kernel
theorem dX11_init_61 : decode cX11_init 61 = .ok (.putfield 30, 3) := by decide +kernel
theorem dX11_init_64 : decode cX11_init 64 = .ok (.aload_n 0, 1) := by decide +kernel
theorem dX11_init_65 : decode cX11_init 65 = .ok (.getfield 7, 3) := by decide +kernel
theorem dX11_init_68 : decode cX11_init 68 = .ok (.iconst 4, 1) := by decide +kernel
theorem dX11_init_69 : decode cX11_init 69 = .ok (.ldc2_w 33, 3) := by decide +kernel
theorem dX11_init_72 : decode cX11_init 72 = .ok (.lastore, 1) := by decide +kernel
theorem dX11_init_73 : decode cX11_init 73 = .ok (.aload_n 0, 1) := by decide +kernel
theorem dX11_init_74 : decode cX11_init 74 = .ok (.getfield 7, 3) := by decide +kernel
theorem dX11_init_77 : decode cX11_init 77 = .ok (.iconst 5, 1) := by decide +kernel
theorem dX11_init_78 : decode cX11_init 78 = .ok (.ldc2_w 35, 3) := by decide +kernel
theorem dX11_init_81 : decode cX11_init 81 = .ok (.lastore, 1) := by decide +kernel
theorem dX11_init_82 : decode cX11_init 82 = .ok (.aload_n 0, 1) := by decide +kernel
theorem dX11_init_83 : decode cX11_init 83 = .ok (.getfield 7, 3) := by decide +kernel
theorem dX11_init_86 : decode cX11_init 86 = .ok (.bipush 6, 2) := by decide +kernel
theorem dX11_init_88 : decode cX11_init 88 = .ok (.ldc2_w 37, 3) := by decide +kernel
theorem dX11_init_91 : decode cX11_init 91 = .ok (.lastore, 1) := by decide +kernel
theorem dX11_init_92 : decode cX11_init 92 = .ok (.aload_n 0, 1) := by decide +kernel
theorem dX11_init_93 : decode cX11_init 93 = .ok (.getfield 7, 3) := by decide +kernel
theorem dX11_init_96 : decode cX11_init 96 = .ok (.bipush 7, 2) := by decide +kernel
theorem dX11_init_98 : decode cX11_init 98 = .ok (.ldc2_w 39, 3) := by decide +kernel
theorem dX11_init_101 : decode cX11_init 101 = .ok (.lastore, 1) := by decide +kernel
theorem dX11_init_102 : decode cX11_init 102 = .ok (.aload_n 0, 1) := by decide +kernel
theorem dX11_init_103 : decode cX11_init 103 = .ok (.getfield 7, 3) := by decide +kernel
theorem dX11_init_106 : decode cX11_init 106 = .ok (.bipush 8, 2) := by decide +kernel
theorem dX11_init_108 : decode cX11_init 108 = .ok (.ldc2_w 41, 3) := by decide +kernel
theorem dX11_init_111 : decode cX11_init 111 = .ok (.lastore, 1) := by decide +kernel
theorem dX11_init_112 : decode cX11_init 112 = .ok (.aload_n 0, 1) := by decide +kernel
theorem dX11_init_113 : decode cX11_init 113 = .ok (.getfield 7, 3) := by decide +kernel
theorem dX11_init_116 : decode cX11_init 116 = .ok (.bipush 9, 2) := by decide +kernel
theorem dX11_init_118 : decode cX11_init 118 = .ok (.ldc2_w 43, 3) := by decide +kernel
theorem dX11_init_121 : decode cX11_init 121 = .ok (.lastore, 1) := by decide +kernel
theorem dX11_init_122 : decode cX11_init 122 = .ok (.return_, 1) := by decide +kernel
theorem dX11_in_0 : decode cX11_in 0 = .ok (.iload_n 0, 1) := by decide +kernel
theorem dX11_in_1 : decode cX11_in 1 = .ok (.iload_n 1, 1) := by decide +kernel
theorem dX11_in_2 : decode cX11_in 2 = .ok (.if_icmp .lt 12, 3) := by decide +kernel
theorem dX11_in_5 : decode cX11_in 5 = .ok (.iload_n 0, 1) := by decide +kernel
theorem dX11_in_6 : decode cX11_in 6 = .ok (.iload_n 2, 1) := by decide +kernel
theorem dX11_in_7 : decode cX11_in 7 = .ok (.if_icmp .gt 7, 3) := by decide +kernel
theorem dX11_in_10 : decode cX11_in 10 = .ok (.iconst 1, 1) := by decide +kernel
theorem dX11_in_11 : decode cX11_in 11 = .ok (.goto 4, 3) := by decide +kernel
theorem dX11_in_14 : decode cX11_in 14 = .ok (.iconst 0, 1) := by decide +kernel
theorem dX11_in_15 : decode cX11_in 15 = .ok (.ireturn, 1) := by decide +kernel
theorem dX11_number_0 : decode cX11_number 0 = .ok (.aload_n 0, 1) := by decide +kernel
theorem dX11_number_1 : decode cX11_number 1 = .ok (.getfield 7, 3) := by decide +kernel
theorem dX11_number_4 : decode cX11_number 4 = .ok (.iload_n 1, 1) := by decide +kernel
theorem dX11_number_5 : decode cX11_number 5 = .ok (.laload, 1) := by decide +kernel
theorem dX11_number_6 : decode cX11_number 6 = .ok (.l2i, 1) := by decide +kernel
theorem dX11_number_7 : decode cX11_number 7 = .ok (.ireturn, 1) := by decide +kernel
theorem dX11_record_0 : decode cX11_record 0 = .ok (.aload_n 0, 1) := by decide +kernel
theorem dX11_record_1 : decode cX11_record 1 = .ok (.getfield 45, 3) := by decide +kernel
theorem dX11_record_4 : decode cX11_record 4 = .ok (.iconst 4, 1) := by decide +kernel
theorem dX11_record_5 : decode cX11_record 5 = .ok (.if_icmp .ne 44, 3) := by decide +kernel
theorem dX11_record_8 : decode cX11_record 8 = .ok (.iconst 0, 1) := by decide +kernel
theorem dX11_record_9 : decode cX11_record 9 = .ok (.istore_n 1, 1) := by decide +kernel
theorem dX11_record_10 : decode cX11_record 10 = .ok (.iload_n 1, 1) := by decide +kernel
theorem dX11_record_11 : decode cX11_record 11 = .ok (.sipush 4986, 3) := by decide +kernel
theorem dX11_record_14 : decode cX11_record 14 = .ok (.if_icmp .ge 25, 3) := by decide +kernel
theorem dX11_record_17 : decode cX11_record 17 = .ok (.aload_n 0, 1) := by decide +kernel
theorem dX11_record_18 : decode cX11_record 18 = .ok (.getfield 13, 3) := by decide +kernel
theorem dX11_record_21 : decode cX11_record 21 = .ok (.iload_n 1, 1) := by decide +kernel
theorem dX11_record_22 : decode cX11_record 22 = .ok (.aload_n 0, 1) := by decide +kernel
theorem dX11_record_23 : decode cX11_record 23 = .ok (.getfield 13, 3) := by decide +kernel
theorem dX11_record_26 : decode cX11_record 26 = .ok (.sipush 1662, 3) := by decide +kernel
theorem dX11_record_29 : decode cX11_record 29 = .ok (.iload_n 1, 1) := by decide +kernel
theorem dX11_record_30 : decode cX11_record 30 = .ok (.iadd, 1) := by decide +kernel
theorem dX11_record_31 : decode cX11_record 31 = .ok (.laload, 1) := by decide +kernel
theorem dX11_record_32 : decode cX11_record 32 = .ok (.lastore, 1) := by decide +kernel
theorem dX11_record_33 : decode cX11_record 33 = .ok (.iinc 1 1, 3) := by decide +kernel
theorem dX11_record_36 : decode cX11_record 36 = .ok (.goto (-26), 3) := by decide +kernel
theorem dX11_record_39 : decode cX11_record 39 = .ok (.aload_n 0, 1) := by decide +kernel
theorem dX11_record_40 : decode cX11_record 40 = .ok (.dup, 1) := by decide +kernel
theorem dX11_record_41 : decode cX11_record 41 = .ok (.getfield 45, 3) := by decide +kernel
theorem dX11_record_44 : decode cX11_record 44 = .ok (.iconst 1, 1) := by decide +kernel
theorem dX11_record_45 : decode cX11_record 45 = .ok (.isub, 1) := by decide +kernel
theorem dX11_record_46 : decode cX11_record 46 = .ok (.putfield 45, 3) := by decide +kernel
theorem dX11_record_49 : decode cX11_record 49 = .ok (.iconst 0, 1) := by decide +kernel
theorem dX11_record_50 : decode cX11_record 50 = .ok (.istore_n 1, 1) := by decide +kernel
theorem dX11_record_51 : decode cX11_record 51 = .ok (.iload_n 1, 1) := by decide +kernel
theorem dX11_record_52 : decode cX11_record 52 = .ok (.sipush 1662, 3) := by decide +kernel
theorem dX11_record_55 : decode cX11_record 55 = .ok (.if_icmp .ge 30, 3) := by decide +kernel
theorem dX11_record_58 : decode cX11_record 58 = .ok (.aload_n 0, 1) := by decide +kernel
theorem dX11_record_59 : decode cX11_record 59 = .ok (.getfield 13, 3) := by decide +kernel
theorem dX11_record_62 : decode cX11_record 62 = .ok (.sipush 1662, 3) := by decide +kernel
theorem dX11_record_65 : decode cX11_record 65 = .ok (.aload_n 0, 1) := by decide +kernel
theorem dX11_record_66 : decode cX11_record 66 = .ok (.getfield 45, 3) := by decide +kernel
theorem dX11_record_69 : decode cX11_record 69 = .ok (.imul, 1) := by decide +kernel
theorem dX11_record_70 : decode cX11_record 70 = .ok (.iload_n 1, 1) := by decide +kernel
theorem dX11_record_71 : decode cX11_record 71 = .ok (.iadd, 1) := by decide +kernel
theorem dX11_record_72 : decode cX11_record 72 = .ok (.aload_n 0, 1) := by decide +kernel
theorem dX11_record_73 : decode cX11_record 73 = .ok (.getfield 7, 3) := by decide +kernel
theorem dX11_record_76 : decode cX11_record 76 = .ok (.iload_n 1, 1) := by decide +kernel
theorem dX11_record_77 : decode cX11_record 77 = .ok (.laload, 1) := by decide +kernel
theorem dX11_record_78 : decode cX11_record 78 = .ok (.lastore, 1) := by decide +kernel
theorem dX11_record_79 : decode cX11_record 79 = .ok (.iinc 1 1, 3) := by decide +kernel
theorem dX11_record_82 : decode cX11_record 82 = .ok (.goto (-31), 3) := by decide +kernel
theorem dX11_record_85 : decode cX11_record 85 = .ok (.aload_n 0, 1) := by decide +kernel
theorem dX11_record_86 : decode cX11_record 86 = .ok (.dup, 1) := by decide +kernel
theorem dX11_record_87 : decode cX11_record 87 = .ok (.getfield 45, 3) := by decide +kernel
theorem dX11_record_90 : decode cX11_record 90 = .ok (.iconst 1, 1) := by decide +kernel
theorem dX11_record_91 : decode cX11_record 91 = .ok (.iadd, 1) := by decide +kernel
theorem dX11_record_92 : decode cX11_record 92 = .ok (.putfield 45, 3) := by decide +kernel
theorem dX11_record_95 : decode cX11_record 95 = .ok (.return_, 1) := by decide +kernel
theorem dX11_undo_0 : decode cX11_undo 0 = .ok (.aload_n 0, 1) := by decide +kernel
theorem dX11_undo_1 : decode cX11_undo 1 = .ok (.getfield 45, 3) := by decide +kernel
theorem dX11_undo_4 : decode cX11_undo 4 = .ok (.ifCond .ne 6, 3) := by decide +kernel
theorem dX11_undo_7 : decode cX11_undo 7 = .ok (.bipush (-5), 2) := by decide +kernel
theorem dX11_undo_9 : decode cX11_undo 9 = .ok (.ireturn, 1) := by decide +kernel
theorem dX11_undo_10 : decode cX11_undo 10 = .ok (.aload_n 0, 1) := by decide +kernel
theorem dX11_undo_11 : decode cX11_undo 11 = .ok (.dup, 1) := by decide +kernel
theorem dX11_undo_12 : decode cX11_undo 12 = .ok (.getfield 45, 3) := by decide +kernel
theorem dX11_undo_15 : decode cX11_undo 15 = .ok (.iconst 1, 1) := by decide +kernel
theorem dX11_undo_16 : decode cX11_undo 16 = .ok (.isub, 1) := by decide +kernel
theorem dX11_undo_17 : decode cX11_undo 17 = .ok (.putfield 45, 3) := by decide +kernel
theorem dX11_undo_20 : decode cX11_undo 20 = .ok (.iconst 0, 1) := by decide +kernel
theorem dX11_undo_21 : decode cX11_undo 21 = .ok (.istore_n 1, 1) := by decide +kernel
theorem dX11_undo_22 : decode cX11_undo 22 = .ok (.iload_n 1, 1) := by decide +kernel
theorem dX11_undo_23 : decode cX11_undo 23 = .ok (.sipush 1662, 3) := by decide +kernel
theorem dX11_undo_26 : decode cX11_undo 26 = .ok (.if_icmp .ge 30, 3) := by decide +kernel
theorem dX11_undo_29 : decode cX11_undo 29 = .ok (.aload_n 0, 1) := by decide +kernel
theorem dX11_undo_30 : decode cX11_undo 30 = .ok (.getfield 7, 3) := by decide +kernel
theorem dX11_undo_33 : decode cX11_undo 33 = .ok (.iload_n 1, 1) := by decide +kernel
theorem dX11_undo_34 : decode cX11_undo 34 = .ok (.aload_n 0, 1) := by decide +kernel
theorem dX11_undo_35 : decode cX11_undo 35 = .ok (.getfield 13, 3) := by decide +kernel
theorem dX11_undo_38 : decode cX11_undo 38 = .ok (.sipush 1662, 3) := by decide +kernel
theorem dX11_undo_41 : decode cX11_undo 41 = .ok (.aload_n 0, 1) := by decide +kernel
theorem dX11_undo_42 : decode cX11_undo 42 = .ok (.getfield 45, 3) := by decide +kernel
theorem dX11_undo_45 : decode cX11_undo 45 = .ok (.imul, 1) := by decide +kernel
theorem dX11_undo_46 : decode cX11_undo 46 = .ok (.iload_n 1, 1) := by decide +kernel
theorem dX11_undo_47 : decode cX11_undo 47 = .ok (.iadd, 1) := by decide +kernel
theorem dX11_undo_48 : decode cX11_undo 48 = .ok (.laload, 1) := by decide +kernel
theorem dX11_undo_49 : decode cX11_undo 49 = .ok (.lastore, 1) := by decide +kernel
theorem dX11_undo_50 : decode cX11_undo 50 = .ok (.iinc 1 1, 3) := by decide +kernel
theorem dX11_undo_53 : decode cX11_undo 53 = .ok (.goto (-31), 3) := by decide +kernel
theorem dX11_undo_56 : decode cX11_undo 56 = .ok (.aload_n 0, 1) := by decide +kernel
theorem dX11_undo_57 : decode cX11_undo 57 = .ok (.getfield 45, 3) := by decide +kernel
theorem dX11_undo_60 : decode cX11_undo 60 = .ok (.ireturn, 1) := by decide +kernel
theorem dX11_keep_0 : decode cX11_keep 0 = .ok (.iconst 0, 1) := by decide +kernel
theorem dX11_keep_1 : decode cX11_keep 1 = .ok (.istore_n 1, 1) := by decide +kernel
theorem dX11_keep_2 : decode cX11_keep 2 = .ok (.iload_n 1, 1) := by decide +kernel
theorem dX11_keep_3 : decode cX11_keep 3 = .ok (.sipush 1662, 3) := by decide +kernel
theorem dX11_keep_6 : decode cX11_keep 6 = .ok (.if_icmp .ge 21, 3) := by decide +kernel
theorem dX11_keep_9 : decode cX11_keep 9 = .ok (.aload_n 0, 1) := by decide +kernel
theorem dX11_keep_10 : decode cX11_keep 10 = .ok (.getfield 16, 3) := by decide +kernel
theorem dX11_keep_13 : decode cX11_keep 13 = .ok (.iload_n 1, 1) := by decide +kernel
theorem dX11_keep_14 : decode cX11_keep 14 = .ok (.aload_n 0, 1) := by decide +kernel
theorem dX11_keep_15 : decode cX11_keep 15 = .ok (.getfield 7, 3) := by decide +kernel
theorem dX11_keep_18 : decode cX11_keep 18 = .ok (.iload_n 1, 1) := by decide +kernel
theorem dX11_keep_19 : decode cX11_keep 19 = .ok (.laload, 1) := by decide +kernel
theorem dX11_keep_20 : decode cX11_keep 20 = .ok (.lastore, 1) := by decide +kernel
theorem dX11_keep_21 : decode cX11_keep 21 = .ok (.iinc 1 1, 3) := by decide +kernel
theorem dX11_keep_24 : decode cX11_keep 24 = .ok (.goto (-22), 3) := by decide +kernel
theorem dX11_keep_27 : decode cX11_keep 27 = .ok (.aload_n 0, 1) := by decide +kernel
theorem dX11_keep_28 : decode cX11_keep 28 = .ok (.iconst 1, 1) := by decide +kernel
theorem dX11_keep_29 : decode cX11_keep 29 = .ok (.putfield 49, 3) := by decide +kernel
theorem dX11_keep_32 : decode cX11_keep 32 = .ok (.aload_n 0, 1) := by decide +kernel
theorem dX11_keep_33 : decode cX11_keep 33 = .ok (.iconst 0, 1) := by decide +kernel
theorem dX11_keep_34 : decode cX11_keep 34 = .ok (.invokevirtual 53, 3) := by decide +kernel
theorem dX11_keep_37 : decode cX11_keep 37 = .ok (.ireturn, 1) := by decide +kernel
theorem dX11_restore_0 : decode cX11_restore 0 = .ok (.aload_n 0, 1) := by decide +kernel
theorem dX11_restore_1 : decode cX11_restore 1 = .ok (.getfield 49, 3) := by decide +kernel
theorem dX11_restore_4 : decode cX11_restore 4 = .ok (.ifCond .ne 6, 3) := by decide +kernel
theorem dX11_restore_7 : decode cX11_restore 7 = .ok (.bipush (-5), 2) := by decide +kernel
theorem dX11_restore_9 : decode cX11_restore 9 = .ok (.ireturn, 1) := by decide +kernel
theorem dX11_restore_10 : decode cX11_restore 10 = .ok (.aload_n 0, 1) := by decide +kernel
theorem dX11_restore_11 : decode cX11_restore 11 = .ok (.invokevirtual 57, 3) := by decide +kernel
theorem dX11_restore_14 : decode cX11_restore 14 = .ok (.iconst 0, 1) := by decide +kernel
theorem dX11_restore_15 : decode cX11_restore 15 = .ok (.istore_n 1, 1) := by decide +kernel
theorem dX11_restore_16 : decode cX11_restore 16 = .ok (.iload_n 1, 1) := by decide +kernel
theorem dX11_restore_17 : decode cX11_restore 17 = .ok (.sipush 1662, 3) := by decide +kernel
theorem dX11_restore_20 : decode cX11_restore 20 = .ok (.if_icmp .ge 21, 3) := by decide +kernel
theorem dX11_restore_23 : decode cX11_restore 23 = .ok (.aload_n 0, 1) := by decide +kernel
theorem dX11_restore_24 : decode cX11_restore 24 = .ok (.getfield 7, 3) := by decide +kernel
theorem dX11_restore_27 : decode cX11_restore 27 = .ok (.iload_n 1, 1) := by decide +kernel
theorem dX11_restore_28 : decode cX11_restore 28 = .ok (.aload_n 0, 1) := by decide +kernel
theorem dX11_restore_29 : decode cX11_restore 29 = .ok (.getfield 16, 3) := by decide +kernel
theorem dX11_restore_32 : decode cX11_restore 32 = .ok (.iload_n 1, 1) := by decide +kernel
theorem dX11_restore_33 : decode cX11_restore 33 = .ok (.laload, 1) := by decide +kernel
theorem dX11_restore_34 : decode cX11_restore 34 = .ok (.lastore, 1) := by decide +kernel
theorem dX11_restore_35 : decode cX11_restore 35 = .ok (.iinc 1 1, 3) := by decide +kernel
theorem dX11_restore_38 : decode cX11_restore 38 = .ok (.goto (-22), 3) := by decide +kernel
theorem dX11_restore_41 : decode cX11_restore 41 = .ok (.aload_n 0, 1) := by decide +kernel
theorem dX11_restore_42 : decode cX11_restore 42 = .ok (.iconst 0, 1) := by decide +kernel
theorem dX11_restore_43 : decode cX11_restore 43 = .ok (.invokevirtual 53, 3) := by decide +kernel
theorem dX11_restore_46 : decode cX11_restore 46 = .ok (.ireturn, 1) := by decide +kernel
theorem dX11_noFile_0 : decode cX11_noFile 0 = .ok (.iload_n 1, 1) := by decide +kernel
theorem dX11_noFile_1 : decode cX11_noFile 1 = .ok (.iconst 0, 1) := by decide +kernel
theorem dX11_noFile_2 : decode cX11_noFile 2 = .ok (.aload_n 0, 1) := by decide +kernel
theorem dX11_noFile_3 : decode cX11_noFile 3 = .ok (.iconst 0, 1) := by decide +kernel
theorem dX11_noFile_4 : decode cX11_noFile 4 = .ok (.invokevirtual 53, 3) := by decide +kernel
theorem dX11_noFile_7 : decode cX11_noFile 7 = .ok (.iconst 1, 1) := by decide +kernel
theorem dX11_noFile_8 : decode cX11_noFile 8 = .ok (.isub, 1) := by decide +kernel
theorem dX11_noFile_9 : decode cX11_noFile 9 = .ok (.invokestatic 60, 3) := by decide +kernel
theorem dX11_noFile_12 : decode cX11_noFile 12 = .ok (.ifCond .ne 7, 3) := by decide +kernel
theorem dX11_noFile_15 : decode cX11_noFile 15 = .ok (.iconst 1, 1) := by decide +kernel
theorem dX11_noFile_16 : decode cX11_noFile 16 = .ok (.goto 4, 3) := by decide +kernel
theorem dX11_noFile_19 : decode cX11_noFile 19 = .ok (.iconst 0, 1) := by decide +kernel
theorem dX11_noFile_20 : decode cX11_noFile 20 = .ok (.ireturn, 1) := by decide +kernel
theorem dX11_noPerson_0 : decode cX11_noPerson 0 = .ok (.iload_n 1, 1) := by decide +kernel
theorem dX11_noPerson_1 : decode cX11_noPerson 1 = .ok (.iconst 0, 1) := by decide +kernel
theorem dX11_noPerson_2 : decode cX11_noPerson 2 = .ok (.aload_n 0, 1) := by decide +kernel
theorem dX11_noPerson_3 : decode cX11_noPerson 3 = .ok (.iconst 1, 1) := by decide +kernel
theorem dX11_noPerson_4 : decode cX11_noPerson 4 = .ok (.invokevirtual 53, 3) := by decide +kernel
theorem dX11_noPerson_7 : decode cX11_noPerson 7 = .ok (.iconst 1, 1) := by decide +kernel
theorem dX11_noPerson_8 : decode cX11_noPerson 8 = .ok (.isub, 1) := by decide +kernel
theorem dX11_noPerson_9 : decode cX11_noPerson 9 = .ok (.invokestatic 60, 3) := by decide +kernel
theorem dX11_noPerson_12 : decode cX11_noPerson 12 = .ok (.ifCond .ne 7, 3) := by decide +kernel
theorem dX11_noPerson_15 : decode cX11_noPerson 15 = .ok (.iconst 1, 1) := by decide +kernel
theorem dX11_noPerson_16 : decode cX11_noPerson 16 = .ok (.goto 4, 3) := by decide +kernel
theorem dX11_noPerson_19 : decode cX11_noPerson 19 = .ok (.iconst 0, 1) := by decide +kernel
theorem dX11_noPerson_20 : decode cX11_noPerson 20 = .ok (.ireturn, 1) := by decide +kernel
theorem dX11_noEntry_0 : decode cX11_noEntry 0 = .ok (.iload_n 1, 1) := by decide +kernel
theorem dX11_noEntry_1 : decode cX11_noEntry 1 = .ok (.iconst 0, 1) := by decide +kernel
theorem dX11_noEntry_2 : decode cX11_noEntry 2 = .ok (.aload_n 0, 1) := by decide +kernel
theorem dX11_noEntry_3 : decode cX11_noEntry 3 = .ok (.iconst 2, 1) := by decide +kernel
theorem dX11_noEntry_4 : decode cX11_noEntry 4 = .ok (.invokevirtual 53, 3) := by decide +kernel
theorem dX11_noEntry_7 : decode cX11_noEntry 7 = .ok (.iconst 1, 1) := by decide +kernel
theorem dX11_noEntry_8 : decode cX11_noEntry 8 = .ok (.isub, 1) := by decide +kernel
theorem dX11_noEntry_9 : decode cX11_noEntry 9 = .ok (.invokestatic 60, 3) := by decide +kernel
theorem dX11_noEntry_12 : decode cX11_noEntry 12 = .ok (.ifCond .ne 7, 3) := by decide +kernel
theorem dX11_noEntry_15 : decode cX11_noEntry 15 = .ok (.iconst 1, 1) := by decide +kernel
theorem dX11_noEntry_16 : decode cX11_noEntry 16 = .ok (.goto 4, 3) := by decide +kernel
theorem dX11_noEntry_19 : decode cX11_noEntry 19 = .ok (.iconst 0, 1) := by decide +kernel
theorem dX11_noEntry_20 : decode cX11_noEntry 20 = .ok (.ireturn, 1) := by decide +kernel
theorem dX11_noDispute_0 : decode cX11_noDispute 0 = .ok (.iload_n 1, 1) := by decide +kernel
theorem dX11_noDispute_1 : decode cX11_noDispute 1 = .ok (.iconst 0, 1) := by decide +kernel
theorem dX11_noDispute_2 : decode cX11_noDispute 2 = .ok (.aload_n 0, 1) := by decide +kernel
theorem dX11_noDispute_3 : decode cX11_noDispute 3 = .ok (.iconst 3, 1) := by decide +kernel
theorem dX11_noDispute_4 : decode cX11_noDispute 4 = .ok (.invokevirtual 53, 3) := by decide +kernel
theorem dX11_noDispute_7 : decode cX11_noDispute 7 = .ok (.iconst 1, 1) := by decide +kernel
theorem dX11_noDispute_8 : decode cX11_noDispute 8 = .ok (.isub, 1) := by decide +kernel
theorem dX11_noDispute_9 : decode cX11_noDispute 9 = .ok (.invokestatic 60, 3) := by decide +kernel
theorem dX11_noDispute_12 : decode cX11_noDispute 12 = .ok (.ifCond .ne 7, 3) := by decide +kernel
theorem dX11_noDispute_15 : decode cX11_noDispute 15 = .ok (.iconst 1, 1) := by decide +kernel
theorem dX11_noDispute_16 : decode cX11_noDispute 16 = .ok (.goto 4, 3) := by decide +kernel
theorem dX11_noDispute_19 : decode cX11_noDispute 19 = .ok (.iconst 0, 1) := by decide +kernel
theorem dX11_noDispute_20 : decode cX11_noDispute 20 = .ok (.ireturn, 1) := by decide +kernel
theorem dX11_fileBy_0 : decode cX11_fileBy 0 = .ok (.bipush 18, 2) := by decide +kernel
theorem dX11_fileBy_2 : decode cX11_fileBy 2 = .ok (.bipush 7, 2) := by decide +kernel
theorem dX11_fileBy_4 : decode cX11_fileBy 4 = .ok (.iload_n 1, 1) := by decide +kernel
theorem dX11_fileBy_5 : decode cX11_fileBy 5 = .ok (.imul, 1) := by decide +kernel
theorem dX11_fileBy_6 : decode cX11_fileBy 6 = .ok (.iadd, 1) := by decide +kernel
theorem dX11_fileBy_7 : decode cX11_fileBy 7 = .ok (.ireturn, 1) := by decide +kernel
theorem dX11_personBy_0 : decode cX11_personBy 0 = .ok (.bipush 74, 2) := by decide +kernel
theorem dX11_personBy_2 : decode cX11_personBy 2 = .ok (.bipush 7, 2) := by decide +kernel
theorem dX11_personBy_4 : decode cX11_personBy 4 = .ok (.iload_n 1, 1) := by decide +kernel
theorem dX11_personBy_5 : decode cX11_personBy 5 = .ok (.imul, 1) := by decide +kernel
theorem dX11_personBy_6 : decode cX11_personBy 6 = .ok (.iadd, 1) := by decide +kernel
theorem dX11_personBy_7 : decode cX11_personBy 7 = .ok (.ireturn, 1) := by decide +kernel
theorem dX11_disputeAt_0 : decode cX11_disputeAt 0 = .ok (.bipush 116, 2) := by decide +kernel
theorem dX11_disputeAt_2 : decode cX11_disputeAt 2 = .ok (.iconst 5, 1) := by decide +kernel
theorem dX11_disputeAt_3 : decode cX11_disputeAt 3 = .ok (.iload_n 1, 1) := by decide +kernel
theorem dX11_disputeAt_4 : decode cX11_disputeAt 4 = .ok (.imul, 1) := by decide +kernel
theorem dX11_disputeAt_5 : decode cX11_disputeAt 5 = .ok (.iadd, 1) := by decide +kernel
theorem dX11_disputeAt_6 : decode cX11_disputeAt 6 = .ok (.ireturn, 1) := by decide +kernel
theorem dX11_entryAt_0 : decode cX11_entryAt 0 = .ok (.sipush 166, 3) := by decide +kernel
theorem dX11_entryAt_3 : decode cX11_entryAt 3 = .ok (.bipush 11, 2) := by decide +kernel
theorem dX11_entryAt_5 : decode cX11_entryAt 5 = .ok (.iload_n 1, 1) := by decide +kernel
theorem dX11_entryAt_6 : decode cX11_entryAt 6 = .ok (.imul, 1) := by decide +kernel
theorem dX11_entryAt_7 : decode cX11_entryAt 7 = .ok (.iadd, 1) := by decide +kernel
theorem dX11_entryAt_8 : decode cX11_entryAt 8 = .ok (.ireturn, 1) := by decide +kernel
theorem dX11_segmentAt_0 : decode cX11_segmentAt 0 = .ok (.sipush 606, 3) := by decide +kernel
theorem dX11_segmentAt_3 : decode cX11_segmentAt 3 = .ok (.bipush 11, 2) := by decide +kernel
theorem dX11_segmentAt_5 : decode cX11_segmentAt 5 = .ok (.bipush 12, 2) := by decide +kernel
theorem dX11_segmentAt_7 : decode cX11_segmentAt 7 = .ok (.iload_n 1, 1) := by decide +kernel
theorem dX11_segmentAt_8 : decode cX11_segmentAt 8 = .ok (.imul, 1) := by decide +kernel
theorem dX11_segmentAt_9 : decode cX11_segmentAt 9 = .ok (.iload_n 2, 1) := by decide +kernel
theorem dX11_segmentAt_10 : decode cX11_segmentAt 10 = .ok (.iadd, 1) := by decide +kernel
theorem dX11_segmentAt_11 : decode cX11_segmentAt 11 = .ok (.imul, 1) := by decide +kernel
theorem dX11_segmentAt_12 : decode cX11_segmentAt 12 = .ok (.iadd, 1) := by decide +kernel
theorem dX11_segmentAt_13 : decode cX11_segmentAt 13 = .ok (.ireturn, 1) := by decide +kernel
theorem dX11_many_0 : decode cX11_many 0 = .ok (.aload_n 0, 1) := by decide +kernel
theorem dX11_many_1 : decode cX11_many 1 = .ok (.aload_n 0, 1) := by decide +kernel
theorem dX11_many_2 : decode cX11_many 2 = .ok (.iload_n 1, 1) := by decide +kernel
theorem dX11_many_3 : decode cX11_many 3 = .ok (.invokevirtual 64, 3) := by decide +kernel
theorem dX11_many_6 : decode cX11_many 6 = .ok (.iconst 0, 1) := by decide +kernel
theorem dX11_many_7 : decode cX11_many 7 = .ok (.iadd, 1) := by decide +kernel
theorem dX11_many_8 : decode cX11_many 8 = .ok (.invokevirtual 53, 3) := by decide +kernel
theorem dX11_many_11 : decode cX11_many 11 = .ok (.ireturn, 1) := by decide +kernel
theorem dX11_state_0 : decode cX11_state 0 = .ok (.aload_n 0, 1) := by decide +kernel
theorem dX11_state_1 : decode cX11_state 1 = .ok (.aload_n 0, 1) := by decide +kernel
theorem dX11_state_2 : decode cX11_state 2 = .ok (.iload_n 1, 1) := by decide +kernel
theorem dX11_state_3 : decode cX11_state 3 = .ok (.invokevirtual 64, 3) := by decide +kernel
theorem dX11_state_6 : decode cX11_state 6 = .ok (.iconst 1, 1) := by decide +kernel
theorem dX11_state_7 : decode cX11_state 7 = .ok (.iadd, 1) := by decide +kernel
theorem dX11_state_8 : decode cX11_state 8 = .ok (.invokevirtual 53, 3) := by decide +kernel
theorem dX11_state_11 : decode cX11_state 11 = .ok (.ireturn, 1) := by decide +kernel
theorem dX11_isInHand_0 : decode cX11_isInHand 0 = .ok (.aload_n 0, 1) := by decide +kernel
theorem dX11_isInHand_1 : decode cX11_isInHand 1 = .ok (.iload_n 1, 1) := by decide +kernel
theorem dX11_isInHand_2 : decode cX11_isInHand 2 = .ok (.invokevirtual 67, 3) := by decide +kernel
theorem dX11_isInHand_5 : decode cX11_isInHand 5 = .ok (.iconst 2, 1) := by decide +kernel
theorem dX11_isInHand_6 : decode cX11_isInHand 6 = .ok (.if_icmp .gt 7, 3) := by decide +kernel
theorem dX11_isInHand_9 : decode cX11_isInHand 9 = .ok (.iconst 1, 1) := by decide +kernel
theorem dX11_isInHand_10 : decode cX11_isInHand 10 = .ok (.goto 4, 3) := by decide +kernel
theorem dX11_isInHand_13 : decode cX11_isInHand 13 = .ok (.iconst 0, 1) := by decide +kernel
theorem dX11_isInHand_14 : decode cX11_isInHand 14 = .ok (.ireturn, 1) := by decide +kernel
theorem dX11_noSegment_0 : decode cX11_noSegment 0 = .ok (.aload_n 0, 1) := by decide +kernel
theorem dX11_noSegment_1 : decode cX11_noSegment 1 = .ok (.iload_n 1, 1) := by decide +kernel
theorem dX11_noSegment_2 : decode cX11_noSegment 2 = .ok (.invokevirtual 70, 3) := by decide +kernel
theorem dX11_noSegment_5 : decode cX11_noSegment 5 = .ok (.ifCond .ne 18, 3) := by decide +kernel
theorem dX11_noSegment_8 : decode cX11_noSegment 8 = .ok (.iload_n 2, 1) := by decide +kernel
theorem dX11_noSegment_9 : decode cX11_noSegment 9 = .ok (.iconst 0, 1) := by decide +kernel
theorem dX11_noSegment_10 : decode cX11_noSegment 10 = .ok (.aload_n 0, 1) := by decide +kernel
theorem dX11_noSegment_11 : decode cX11_noSegment 11 = .ok (.iload_n 1, 1) := by decide +kernel
theorem dX11_noSegment_12 : decode cX11_noSegment 12 = .ok (.invokevirtual 74, 3) := by decide +kernel
theorem dX11_noSegment_15 : decode cX11_noSegment 15 = .ok (.iconst 1, 1) := by decide +kernel
theorem dX11_noSegment_16 : decode cX11_noSegment 16 = .ok (.isub, 1) := by decide +kernel
theorem dX11_noSegment_17 : decode cX11_noSegment 17 = .ok (.invokestatic 60, 3) := by decide +kernel
theorem dX11_noSegment_20 : decode cX11_noSegment 20 = .ok (.ifCond .ne 7, 3) := by decide +kernel
theorem dX11_noSegment_23 : decode cX11_noSegment 23 = .ok (.iconst 1, 1) := by decide +kernel
theorem dX11_noSegment_24 : decode cX11_noSegment 24 = .ok (.goto 4, 3) := by decide +kernel
theorem dX11_noSegment_27 : decode cX11_noSegment 27 = .ok (.iconst 0, 1) := by decide +kernel
theorem dX11_noSegment_28 : decode cX11_noSegment 28 = .ok (.ireturn, 1) := by decide +kernel
theorem dX11_addPerson_0 : decode cX11_addPerson 0 = .ok (.iload_n 1, 1) := by decide +kernel
theorem dX11_addPerson_1 : decode cX11_addPerson 1 = .ok (.iconst 1, 1) := by decide +kernel
theorem dX11_addPerson_2 : decode cX11_addPerson 2 = .ok (.bipush 50, 2) := by decide +kernel
theorem dX11_addPerson_4 : decode cX11_addPerson 4 = .ok (.invokestatic 60, 3) := by decide +kernel
theorem dX11_addPerson_7 : decode cX11_addPerson 7 = .ok (.ifCond .ne 6, 3) := by decide +kernel
theorem dX11_addPerson_10 : decode cX11_addPerson 10 = .ok (.bipush (-2), 2) := by decide +kernel
theorem dX11_addPerson_12 : decode cX11_addPerson 12 = .ok (.ireturn, 1) := by decide +kernel
theorem dX11_addPerson_13 : decode cX11_addPerson 13 = .ok (.aload_n 0, 1) := by decide +kernel
theorem dX11_addPerson_14 : decode cX11_addPerson 14 = .ok (.getfield 7, 3) := by decide +kernel
theorem dX11_addPerson_17 : decode cX11_addPerson 17 = .ok (.iconst 1, 1) := by decide +kernel
theorem dX11_addPerson_18 : decode cX11_addPerson 18 = .ok (.laload, 1) := by decide +kernel
theorem dX11_addPerson_19 : decode cX11_addPerson 19 = .ok (.ldc2_w 77, 3) := by decide +kernel
theorem dX11_addPerson_22 : decode cX11_addPerson 22 = .ok (.lcmp, 1) := by decide +kernel
theorem dX11_addPerson_23 : decode cX11_addPerson 23 = .ok (.ifCond .ne 6, 3) := by decide +kernel
theorem dX11_addPerson_26 : decode cX11_addPerson 26 = .ok (.bipush (-3), 2) := by decide +kernel
theorem dX11_addPerson_28 : decode cX11_addPerson 28 = .ok (.ireturn, 1) := by decide +kernel
theorem dX11_addPerson_29 : decode cX11_addPerson 29 = .ok (.aload_n 0, 1) := by decide +kernel
theorem dX11_addPerson_30 : decode cX11_addPerson 30 = .ok (.invokevirtual 57, 3) := by decide +kernel
theorem dX11_addPerson_33 : decode cX11_addPerson 33 = .ok (.aload_n 0, 1) := by decide +kernel
theorem dX11_addPerson_34 : decode cX11_addPerson 34 = .ok (.iconst 1, 1) := by decide +kernel
theorem dX11_addPerson_35 : decode cX11_addPerson 35 = .ok (.invokevirtual 53, 3) := by decide +kernel
theorem dX11_addPerson_38 : decode cX11_addPerson 38 = .ok (.istore_n 2, 1) := by decide +kernel
theorem dX11_addPerson_39 : decode cX11_addPerson 39 = .ok (.aload_n 0, 1) := by decide +kernel
theorem dX11_addPerson_40 : decode cX11_addPerson 40 = .ok (.getfield 7, 3) := by decide +kernel
theorem dX11_addPerson_43 : decode cX11_addPerson 43 = .ok (.aload_n 0, 1) := by decide +kernel
theorem dX11_addPerson_44 : decode cX11_addPerson 44 = .ok (.iload_n 2, 1) := by decide +kernel
theorem dX11_addPerson_45 : decode cX11_addPerson 45 = .ok (.invokevirtual 79, 3) := by decide +kernel
theorem dX11_addPerson_48 : decode cX11_addPerson 48 = .ok (.iconst 0, 1) := by decide +kernel
theorem dX11_addPerson_49 : decode cX11_addPerson 49 = .ok (.iadd, 1) := by decide +kernel
theorem dX11_addPerson_50 : decode cX11_addPerson 50 = .ok (.iload_n 1, 1) := by decide +kernel
theorem dX11_addPerson_51 : decode cX11_addPerson 51 = .ok (.i2l, 1) := by decide +kernel
theorem dX11_addPerson_52 : decode cX11_addPerson 52 = .ok (.lastore, 1) := by decide +kernel
theorem dX11_addPerson_53 : decode cX11_addPerson 53 = .ok (.aload_n 0, 1) := by decide +kernel
theorem dX11_addPerson_54 : decode cX11_addPerson 54 = .ok (.getfield 7, 3) := by decide +kernel
theorem dX11_addPerson_57 : decode cX11_addPerson 57 = .ok (.aload_n 0, 1) := by decide +kernel
theorem dX11_addPerson_58 : decode cX11_addPerson 58 = .ok (.iload_n 2, 1) := by decide +kernel
theorem dX11_addPerson_59 : decode cX11_addPerson 59 = .ok (.invokevirtual 79, 3) := by decide +kernel
theorem dX11_addPerson_62 : decode cX11_addPerson 62 = .ok (.iconst 1, 1) := by decide +kernel
theorem dX11_addPerson_63 : decode cX11_addPerson 63 = .ok (.iadd, 1) := by decide +kernel
theorem dX11_addPerson_64 : decode cX11_addPerson 64 = .ok (.lconst 0, 1) := by decide +kernel
theorem dX11_addPerson_65 : decode cX11_addPerson 65 = .ok (.lastore, 1) := by decide +kernel
theorem dX11_addPerson_66 : decode cX11_addPerson 66 = .ok (.aload_n 0, 1) := by decide +kernel
theorem dX11_addPerson_67 : decode cX11_addPerson 67 = .ok (.getfield 7, 3) := by decide +kernel
theorem dX11_addPerson_70 : decode cX11_addPerson 70 = .ok (.aload_n 0, 1) := by decide +kernel
theorem dX11_addPerson_71 : decode cX11_addPerson 71 = .ok (.iload_n 2, 1) := by decide +kernel
theorem dX11_addPerson_72 : decode cX11_addPerson 72 = .ok (.invokevirtual 79, 3) := by decide +kernel
theorem dX11_addPerson_75 : decode cX11_addPerson 75 = .ok (.iconst 2, 1) := by decide +kernel
theorem dX11_addPerson_76 : decode cX11_addPerson 76 = .ok (.iadd, 1) := by decide +kernel
theorem dX11_addPerson_77 : decode cX11_addPerson 77 = .ok (.ldc2_w 82, 3) := by decide +kernel
theorem dX11_addPerson_80 : decode cX11_addPerson 80 = .ok (.lastore, 1) := by decide +kernel
theorem dX11_addPerson_81 : decode cX11_addPerson 81 = .ok (.aload_n 0, 1) := by decide +kernel
theorem dX11_addPerson_82 : decode cX11_addPerson 82 = .ok (.getfield 7, 3) := by decide +kernel
theorem dX11_addPerson_85 : decode cX11_addPerson 85 = .ok (.aload_n 0, 1) := by decide +kernel
theorem dX11_addPerson_86 : decode cX11_addPerson 86 = .ok (.iload_n 2, 1) := by decide +kernel
theorem dX11_addPerson_87 : decode cX11_addPerson 87 = .ok (.invokevirtual 79, 3) := by decide +kernel
theorem dX11_addPerson_90 : decode cX11_addPerson 90 = .ok (.iconst 3, 1) := by decide +kernel
theorem dX11_addPerson_91 : decode cX11_addPerson 91 = .ok (.iadd, 1) := by decide +kernel
theorem dX11_addPerson_92 : decode cX11_addPerson 92 = .ok (.lconst 0, 1) := by decide +kernel
theorem dX11_addPerson_93 : decode cX11_addPerson 93 = .ok (.lastore, 1) := by decide +kernel
theorem dX11_addPerson_94 : decode cX11_addPerson 94 = .ok (.aload_n 0, 1) := by decide +kernel
theorem dX11_addPerson_95 : decode cX11_addPerson 95 = .ok (.getfield 7, 3) := by decide +kernel
theorem dX11_addPerson_98 : decode cX11_addPerson 98 = .ok (.aload_n 0, 1) := by decide +kernel
theorem dX11_addPerson_99 : decode cX11_addPerson 99 = .ok (.iload_n 2, 1) := by decide +kernel
theorem dX11_addPerson_100 : decode cX11_addPerson 100 = .ok (.invokevirtual 79, 3) := by decide +kernel
theorem dX11_addPerson_103 : decode cX11_addPerson 103 = .ok (.iconst 4, 1) := by decide +kernel
theorem dX11_addPerson_104 : decode cX11_addPerson 104 = .ok (.iadd, 1) := by decide +kernel
theorem dX11_addPerson_105 : decode cX11_addPerson 105 = .ok (.lconst 0, 1) := by decide +kernel
theorem dX11_addPerson_106 : decode cX11_addPerson 106 = .ok (.lastore, 1) := by decide +kernel
theorem dX11_addPerson_107 : decode cX11_addPerson 107 = .ok (.aload_n 0, 1) := by decide +kernel
theorem dX11_addPerson_108 : decode cX11_addPerson 108 = .ok (.getfield 7, 3) := by decide +kernel
theorem dX11_addPerson_111 : decode cX11_addPerson 111 = .ok (.aload_n 0, 1) := by decide +kernel
theorem dX11_addPerson_112 : decode cX11_addPerson 112 = .ok (.iload_n 2, 1) := by decide +kernel
theorem dX11_addPerson_113 : decode cX11_addPerson 113 = .ok (.invokevirtual 79, 3) := by decide +kernel
theorem dX11_addPerson_116 : decode cX11_addPerson 116 = .ok (.iconst 5, 1) := by decide +kernel
theorem dX11_addPerson_117 : decode cX11_addPerson 117 = .ok (.iadd, 1) := by decide +kernel
theorem dX11_addPerson_118 : decode cX11_addPerson 118 = .ok (.lconst 0, 1) := by decide +kernel
theorem dX11_addPerson_119 : decode cX11_addPerson 119 = .ok (.lastore, 1) := by decide +kernel
theorem dX11_addPerson_120 : decode cX11_addPerson 120 = .ok (.aload_n 0, 1) := by decide +kernel
theorem dX11_addPerson_121 : decode cX11_addPerson 121 = .ok (.getfield 7, 3) := by decide +kernel
theorem dX11_addPerson_124 : decode cX11_addPerson 124 = .ok (.iconst 1, 1) := by decide +kernel
theorem dX11_addPerson_125 : decode cX11_addPerson 125 = .ok (.iload_n 2, 1) := by decide +kernel
theorem dX11_addPerson_126 : decode cX11_addPerson 126 = .ok (.iconst 1, 1) := by decide +kernel
theorem dX11_addPerson_127 : decode cX11_addPerson 127 = .ok (.iadd, 1) := by decide +kernel
theorem dX11_addPerson_128 : decode cX11_addPerson 128 = .ok (.i2l, 1) := by decide +kernel
theorem dX11_addPerson_129 : decode cX11_addPerson 129 = .ok (.lastore, 1) := by decide +kernel
theorem dX11_addPerson_130 : decode cX11_addPerson 130 = .ok (.iload_n 2, 1) := by decide +kernel
theorem dX11_addPerson_131 : decode cX11_addPerson 131 = .ok (.ireturn, 1) := by decide +kernel
theorem dX11_areBarred_0 : decode cX11_areBarred 0 = .ok (.aload_n 0, 1) := by decide +kernel
theorem dX11_areBarred_1 : decode cX11_areBarred 1 = .ok (.getfield 7, 3) := by decide +kernel
theorem dX11_areBarred_4 : decode cX11_areBarred 4 = .ok (.aload_n 0, 1) := by decide +kernel
theorem dX11_areBarred_5 : decode cX11_areBarred 5 = .ok (.iload_n 1, 1) := by decide +kernel
theorem dX11_areBarred_6 : decode cX11_areBarred 6 = .ok (.invokevirtual 79, 3) := by decide +kernel
theorem dX11_areBarred_9 : decode cX11_areBarred 9 = .ok (.iconst 1, 1) := by decide +kernel
theorem dX11_areBarred_10 : decode cX11_areBarred 10 = .ok (.iadd, 1) := by decide +kernel
theorem dX11_areBarred_11 : decode cX11_areBarred 11 = .ok (.laload, 1) := by decide +kernel
theorem dX11_areBarred_12 : decode cX11_areBarred 12 = .ok (.iload_n 2, 1) := by decide +kernel
theorem dX11_areBarred_13 : decode cX11_areBarred 13 = .ok (.lshr, 1) := by decide +kernel
theorem dX11_areBarred_14 : decode cX11_areBarred 14 = .ok (.lconst 1, 1) := by decide +kernel
theorem dX11_areBarred_15 : decode cX11_areBarred 15 = .ok (.land, 1) := by decide +kernel
theorem dX11_areBarred_16 : decode cX11_areBarred 16 = .ok (.lconst 1, 1) := by decide +kernel
theorem dX11_areBarred_17 : decode cX11_areBarred 17 = .ok (.lcmp, 1) := by decide +kernel
theorem dX11_areBarred_18 : decode cX11_areBarred 18 = .ok (.ifCond .ne 7, 3) := by decide +kernel
theorem dX11_areBarred_21 : decode cX11_areBarred 21 = .ok (.iconst 1, 1) := by decide +kernel
theorem dX11_areBarred_22 : decode cX11_areBarred 22 = .ok (.goto 4, 3) := by decide +kernel
theorem dX11_areBarred_25 : decode cX11_areBarred 25 = .ok (.iconst 0, 1) := by decide +kernel
theorem dX11_areBarred_26 : decode cX11_areBarred 26 = .ok (.ireturn, 1) := by decide +kernel
theorem dX11_bits_0 : decode cX11_bits 0 = .ok (.iconst 0, 1) := by decide +kernel
theorem dX11_bits_1 : decode cX11_bits 1 = .ok (.istore_n 1, 1) := by decide +kernel
theorem dX11_bits_2 : decode cX11_bits 2 = .ok (.iconst 0, 1) := by decide +kernel
theorem dX11_bits_3 : decode cX11_bits 3 = .ok (.istore_n 2, 1) := by decide +kernel
theorem dX11_bits_4 : decode cX11_bits 4 = .ok (.iload_n 2, 1) := by decide +kernel
theorem dX11_bits_5 : decode cX11_bits 5 = .ok (.bipush 6, 2) := by decide +kernel
theorem dX11_bits_7 : decode cX11_bits 7 = .ok (.if_icmp .ge 17, 3) := by decide +kernel
theorem dX11_bits_10 : decode cX11_bits 10 = .ok (.iload_n 1, 1) := by decide +kernel
theorem dX11_bits_11 : decode cX11_bits 11 = .ok (.iload_n 0, 1) := by decide +kernel
theorem dX11_bits_12 : decode cX11_bits 12 = .ok (.iload_n 2, 1) := by decide +kernel
theorem dX11_bits_13 : decode cX11_bits 13 = .ok (.ishr, 1) := by decide +kernel
theorem dX11_bits_14 : decode cX11_bits 14 = .ok (.iconst 1, 1) := by decide +kernel
theorem dX11_bits_15 : decode cX11_bits 15 = .ok (.iand, 1) := by decide +kernel
theorem dX11_bits_16 : decode cX11_bits 16 = .ok (.iadd, 1) := by decide +kernel
theorem dX11_bits_17 : decode cX11_bits 17 = .ok (.istore_n 1, 1) := by decide +kernel
theorem dX11_bits_18 : decode cX11_bits 18 = .ok (.iinc 2 1, 3) := by decide +kernel
theorem dX11_bits_21 : decode cX11_bits 21 = .ok (.goto (-17), 3) := by decide +kernel
theorem dX11_bits_24 : decode cX11_bits 24 = .ok (.iload_n 1, 1) := by decide +kernel
theorem dX11_bits_25 : decode cX11_bits 25 = .ok (.ireturn, 1) := by decide +kernel
theorem dX11_bar_0 : decode cX11_bar 0 = .ok (.aload_n 0, 1) := by decide +kernel
theorem dX11_bar_1 : decode cX11_bar 1 = .ok (.iload_n 1, 1) := by decide +kernel
theorem dX11_bar_2 : decode cX11_bar 2 = .ok (.invokevirtual 84, 3) := by decide +kernel
theorem dX11_bar_5 : decode cX11_bar 5 = .ok (.ifCond .ne 11, 3) := by decide +kernel
theorem dX11_bar_8 : decode cX11_bar 8 = .ok (.aload_n 0, 1) := by decide +kernel
theorem dX11_bar_9 : decode cX11_bar 9 = .ok (.iload_n 2, 1) := by decide +kernel
theorem dX11_bar_10 : decode cX11_bar 10 = .ok (.invokevirtual 84, 3) := by decide +kernel
theorem dX11_bar_13 : decode cX11_bar 13 = .ok (.ifCond .eq 5, 3) := by decide +kernel
theorem dX11_bar_16 : decode cX11_bar 16 = .ok (.iconst (-1), 1) := by decide +kernel
theorem dX11_bar_17 : decode cX11_bar 17 = .ok (.ireturn, 1) := by decide +kernel
theorem dX11_bar_18 : decode cX11_bar 18 = .ok (.iload_n 1, 1) := by decide +kernel
theorem dX11_bar_19 : decode cX11_bar 19 = .ok (.iload_n 2, 1) := by decide +kernel
theorem dX11_bar_20 : decode cX11_bar 20 = .ok (.if_icmp .ne 6, 3) := by decide +kernel
theorem dX11_bar_23 : decode cX11_bar 23 = .ok (.bipush (-2), 2) := by decide +kernel
theorem dX11_bar_25 : decode cX11_bar 25 = .ok (.ireturn, 1) := by decide +kernel
theorem dX11_bar_26 : decode cX11_bar 26 = .ok (.aload_n 0, 1) := by decide +kernel
theorem dX11_bar_27 : decode cX11_bar 27 = .ok (.iload_n 1, 1) := by decide +kernel
theorem dX11_bar_28 : decode cX11_bar 28 = .ok (.iload_n 2, 1) := by decide +kernel
theorem dX11_bar_29 : decode cX11_bar 29 = .ok (.invokevirtual 87, 3) := by decide +kernel
theorem dX11_bar_32 : decode cX11_bar 32 = .ok (.iload_n 3, 1) := by decide +kernel
theorem dX11_bar_33 : decode cX11_bar 33 = .ok (.if_icmp .ne 6, 3) := by decide +kernel
theorem dX11_bar_36 : decode cX11_bar 36 = .ok (.bipush (-5), 2) := by decide +kernel
theorem dX11_bar_38 : decode cX11_bar 38 = .ok (.ireturn, 1) := by decide +kernel
theorem dX11_bar_39 : decode cX11_bar 39 = .ok (.aload_n 0, 1) := by decide +kernel
theorem dX11_bar_40 : decode cX11_bar 40 = .ok (.invokevirtual 57, 3) := by decide +kernel
theorem dX11_bar_43 : decode cX11_bar 43 = .ok (.aload_n 0, 1) := by decide +kernel
theorem dX11_bar_44 : decode cX11_bar 44 = .ok (.getfield 7, 3) := by decide +kernel
theorem dX11_bar_47 : decode cX11_bar 47 = .ok (.aload_n 0, 1) := by decide +kernel
theorem dX11_bar_48 : decode cX11_bar 48 = .ok (.iload_n 1, 1) := by decide +kernel
theorem dX11_bar_49 : decode cX11_bar 49 = .ok (.invokevirtual 79, 3) := by decide +kernel
theorem dX11_bar_52 : decode cX11_bar 52 = .ok (.iconst 1, 1) := by decide +kernel
theorem dX11_bar_53 : decode cX11_bar 53 = .ok (.iadd, 1) := by decide +kernel
theorem dX11_bar_54 : decode cX11_bar 54 = .ok (.dup2, 1) := by decide +kernel
theorem dX11_bar_55 : decode cX11_bar 55 = .ok (.laload, 1) := by decide +kernel
theorem dX11_bar_56 : decode cX11_bar 56 = .ok (.lconst 1, 1) := by decide +kernel
theorem dX11_bar_57 : decode cX11_bar 57 = .ok (.iload_n 2, 1) := by decide +kernel
theorem dX11_bar_58 : decode cX11_bar 58 = .ok (.lshl, 1) := by decide +kernel
theorem dX11_bar_59 : decode cX11_bar 59 = .ok (.lxor, 1) := by decide +kernel
theorem dX11_bar_60 : decode cX11_bar 60 = .ok (.lastore, 1) := by decide +kernel
theorem dX11_bar_61 : decode cX11_bar 61 = .ok (.aload_n 0, 1) := by decide +kernel
theorem dX11_bar_62 : decode cX11_bar 62 = .ok (.getfield 7, 3) := by decide +kernel
theorem dX11_bar_65 : decode cX11_bar 65 = .ok (.aload_n 0, 1) := by decide +kernel
theorem dX11_bar_66 : decode cX11_bar 66 = .ok (.iload_n 2, 1) := by decide +kernel
theorem dX11_bar_67 : decode cX11_bar 67 = .ok (.invokevirtual 79, 3) := by decide +kernel
theorem dX11_bar_70 : decode cX11_bar 70 = .ok (.iconst 1, 1) := by decide +kernel
theorem dX11_bar_71 : decode cX11_bar 71 = .ok (.iadd, 1) := by decide +kernel
theorem dX11_bar_72 : decode cX11_bar 72 = .ok (.dup2, 1) := by decide +kernel
theorem dX11_bar_73 : decode cX11_bar 73 = .ok (.laload, 1) := by decide +kernel
theorem dX11_bar_74 : decode cX11_bar 74 = .ok (.lconst 1, 1) := by decide +kernel
theorem dX11_bar_75 : decode cX11_bar 75 = .ok (.iload_n 1, 1) := by decide +kernel
theorem dX11_bar_76 : decode cX11_bar 76 = .ok (.lshl, 1) := by decide +kernel
theorem dX11_bar_77 : decode cX11_bar 77 = .ok (.lxor, 1) := by decide +kernel
theorem dX11_bar_78 : decode cX11_bar 78 = .ok (.lastore, 1) := by decide +kernel
theorem dX11_bar_79 : decode cX11_bar 79 = .ok (.aload_n 0, 1) := by decide +kernel
theorem dX11_bar_80 : decode cX11_bar 80 = .ok (.aload_n 0, 1) := by decide +kernel
theorem dX11_bar_81 : decode cX11_bar 81 = .ok (.iload_n 1, 1) := by decide +kernel
theorem dX11_bar_82 : decode cX11_bar 82 = .ok (.invokevirtual 79, 3) := by decide +kernel
theorem dX11_bar_85 : decode cX11_bar 85 = .ok (.iconst 1, 1) := by decide +kernel
theorem dX11_bar_86 : decode cX11_bar 86 = .ok (.iadd, 1) := by decide +kernel
theorem dX11_bar_87 : decode cX11_bar 87 = .ok (.invokevirtual 53, 3) := by decide +kernel
theorem dX11_bar_90 : decode cX11_bar 90 = .ok (.invokestatic 91, 3) := by decide +kernel
theorem dX11_bar_93 : decode cX11_bar 93 = .ok (.ireturn, 1) := by decide +kernel
theorem dX11_setShare_0 : decode cX11_setShare 0 = .ok (.iload_n 1, 1) := by decide +kernel
theorem dX11_setShare_1 : decode cX11_setShare 1 = .ok (.iconst 0, 1) := by decide +kernel
theorem dX11_setShare_2 : decode cX11_setShare 2 = .ok (.iconst 5, 1) := by decide +kernel
theorem dX11_setShare_3 : decode cX11_setShare 3 = .ok (.invokestatic 60, 3) := by decide +kernel
theorem dX11_setShare_6 : decode cX11_setShare 6 = .ok (.ifCond .eq 13, 3) := by decide +kernel
theorem dX11_setShare_9 : decode cX11_setShare 9 = .ok (.iload_n 2, 1) := by decide +kernel
theorem dX11_setShare_10 : decode cX11_setShare 10 = .ok (.iconst 0, 1) := by decide +kernel
theorem dX11_setShare_11 : decode cX11_setShare 11 = .ok (.bipush 100, 2) := by decide +kernel
theorem dX11_setShare_13 : decode cX11_setShare 13 = .ok (.invokestatic 60, 3) := by decide +kernel
theorem dX11_setShare_16 : decode cX11_setShare 16 = .ok (.ifCond .ne 6, 3) := by decide +kernel
theorem dX11_setShare_19 : decode cX11_setShare 19 = .ok (.bipush (-2), 2) := by decide +kernel
theorem dX11_setShare_21 : decode cX11_setShare 21 = .ok (.ireturn, 1) := by decide +kernel
theorem dX11_setShare_22 : decode cX11_setShare 22 = .ok (.aload_n 0, 1) := by decide +kernel
theorem dX11_setShare_23 : decode cX11_setShare 23 = .ok (.iconst 4, 1) := by decide +kernel
theorem dX11_setShare_24 : decode cX11_setShare 24 = .ok (.iload_n 1, 1) := by decide +kernel
theorem dX11_setShare_25 : decode cX11_setShare 25 = .ok (.iadd, 1) := by decide +kernel
theorem dX11_setShare_26 : decode cX11_setShare 26 = .ok (.invokevirtual 53, 3) := by decide +kernel
theorem dX11_setShare_29 : decode cX11_setShare 29 = .ok (.istore_n 3, 1) := by decide +kernel
theorem dX11_setShare_30 : decode cX11_setShare 30 = .ok (.iload_n 3, 1) := by decide +kernel
theorem dX11_setShare_31 : decode cX11_setShare 31 = .ok (.iload_n 2, 1) := by decide +kernel
theorem dX11_setShare_32 : decode cX11_setShare 32 = .ok (.if_icmp .ne 6, 3) := by decide +kernel
theorem dX11_setShare_35 : decode cX11_setShare 35 = .ok (.bipush (-5), 2) := by decide +kernel
theorem dX11_setShare_37 : decode cX11_setShare 37 = .ok (.ireturn, 1) := by decide +kernel
theorem dX11_setShare_38 : decode cX11_setShare 38 = .ok (.aload_n 0, 1) := by decide +kernel
theorem dX11_setShare_39 : decode cX11_setShare 39 = .ok (.invokevirtual 57, 3) := by decide +kernel
theorem dX11_setShare_42 : decode cX11_setShare 42 = .ok (.aload_n 0, 1) := by decide +kernel
theorem dX11_setShare_43 : decode cX11_setShare 43 = .ok (.getfield 7, 3) := by decide +kernel
theorem dX11_setShare_46 : decode cX11_setShare 46 = .ok (.iconst 4, 1) := by decide +kernel
theorem dX11_setShare_47 : decode cX11_setShare 47 = .ok (.iload_n 1, 1) := by decide +kernel
theorem dX11_setShare_48 : decode cX11_setShare 48 = .ok (.iadd, 1) := by decide +kernel
theorem dX11_setShare_49 : decode cX11_setShare 49 = .ok (.iload_n 2, 1) := by decide +kernel
theorem dX11_setShare_50 : decode cX11_setShare 50 = .ok (.i2l, 1) := by decide +kernel
theorem dX11_setShare_51 : decode cX11_setShare 51 = .ok (.lastore, 1) := by decide +kernel
theorem dX11_setShare_52 : decode cX11_setShare 52 = .ok (.iload_n 3, 1) := by decide +kernel
theorem dX11_setShare_53 : decode cX11_setShare 53 = .ok (.ireturn, 1) := by decide +kernel
theorem dX11_type_0 : decode cX11_type 0 = .ok (.aload_n 0, 1) := by decide +kernel
theorem dX11_type_1 : decode cX11_type 1 = .ok (.getfield 94, 3) := by decide +kernel
theorem dX11_type_4 : decode cX11_type 4 = .ok (.bipush 60, 2) := by decide +kernel
theorem dX11_type_6 : decode cX11_type 6 = .ok (.if_icmp .ne 6, 3) := by decide +kernel
theorem dX11_type_9 : decode cX11_type 9 = .ok (.bipush (-3), 2) := by decide +kernel
theorem dX11_type_11 : decode cX11_type 11 = .ok (.ireturn, 1) := by decide +kernel
theorem dX11_type_12 : decode cX11_type 12 = .ok (.aload_n 0, 1) := by decide +kernel
theorem dX11_type_13 : decode cX11_type 13 = .ok (.getfield 19, 3) := by decide +kernel
theorem dX11_type_16 : decode cX11_type 16 = .ok (.aload_n 0, 1) := by decide +kernel
theorem dX11_type_17 : decode cX11_type 17 = .ok (.getfield 94, 3) := by decide +kernel
theorem dX11_type_20 : decode cX11_type 20 = .ok (.iload_n 1, 1) := by decide +kernel
theorem dX11_type_21 : decode cX11_type 21 = .ok (.castore, 1) := by decide +kernel
theorem dX11_type_22 : decode cX11_type 22 = .ok (.aload_n 0, 1) := by decide +kernel
theorem dX11_type_23 : decode cX11_type 23 = .ok (.dup, 1) := by decide +kernel
theorem dX11_type_24 : decode cX11_type 24 = .ok (.getfield 94, 3) := by decide +kernel
theorem dX11_type_27 : decode cX11_type 27 = .ok (.iconst 1, 1) := by decide +kernel
theorem dX11_type_28 : decode cX11_type 28 = .ok (.iadd, 1) := by decide +kernel
theorem dX11_type_29 : decode cX11_type 29 = .ok (.putfield 94, 3) := by decide +kernel
theorem dX11_type_32 : decode cX11_type 32 = .ok (.aload_n 0, 1) := by decide +kernel
theorem dX11_type_33 : decode cX11_type 33 = .ok (.getfield 94, 3) := by decide +kernel
theorem dX11_type_36 : decode cX11_type 36 = .ok (.ireturn, 1) := by decide +kernel
theorem dX11_clearText_0 : decode cX11_clearText 0 = .ok (.aload_n 0, 1) := by decide +kernel
theorem dX11_clearText_1 : decode cX11_clearText 1 = .ok (.getfield 94, 3) := by decide +kernel
theorem dX11_clearText_4 : decode cX11_clearText 4 = .ok (.istore_n 1, 1) := by decide +kernel
theorem dX11_clearText_5 : decode cX11_clearText 5 = .ok (.aload_n 0, 1) := by decide +kernel
theorem dX11_clearText_6 : decode cX11_clearText 6 = .ok (.iconst 0, 1) := by decide +kernel
theorem dX11_clearText_7 : decode cX11_clearText 7 = .ok (.putfield 94, 3) := by decide +kernel
theorem dX11_clearText_10 : decode cX11_clearText 10 = .ok (.iload_n 1, 1) := by decide +kernel
theorem dX11_clearText_11 : decode cX11_clearText 11 = .ok (.ireturn, 1) := by decide +kernel
theorem dX11_isLetter_0 : decode cX11_isLetter 0 = .ok (.aload_n 0, 1) := by decide +kernel
theorem dX11_isLetter_1 : decode cX11_isLetter 1 = .ok (.getfield 97, 3) := by decide +kernel
theorem dX11_isLetter_4 : decode cX11_isLetter 4 = .ok (.aload_n 0, 1) := by decide +kernel
theorem dX11_isLetter_5 : decode cX11_isLetter 5 = .ok (.getfield 94, 3) := by decide +kernel
theorem dX11_isLetter_8 : decode cX11_isLetter 8 = .ok (.if_icmp .ge 35, 3) := by decide +kernel
theorem dX11_isLetter_11 : decode cX11_isLetter 11 = .ok (.aload_n 0, 1) := by decide +kernel
theorem dX11_isLetter_12 : decode cX11_isLetter 12 = .ok (.getfield 19, 3) := by decide +kernel
theorem dX11_isLetter_15 : decode cX11_isLetter 15 = .ok (.aload_n 0, 1) := by decide +kernel
theorem dX11_isLetter_16 : decode cX11_isLetter 16 = .ok (.getfield 97, 3) := by decide +kernel
theorem dX11_isLetter_19 : decode cX11_isLetter 19 = .ok (.caload, 1) := by decide +kernel
theorem dX11_isLetter_20 : decode cX11_isLetter 20 = .ok (.bipush 97, 2) := by decide +kernel
theorem dX11_isLetter_22 : decode cX11_isLetter 22 = .ok (.if_icmp .lt 21, 3) := by decide +kernel
theorem dX11_isLetter_25 : decode cX11_isLetter 25 = .ok (.aload_n 0, 1) := by decide +kernel
theorem dX11_isLetter_26 : decode cX11_isLetter 26 = .ok (.getfield 19, 3) := by decide +kernel
theorem dX11_isLetter_29 : decode cX11_isLetter 29 = .ok (.aload_n 0, 1) := by decide +kernel
theorem dX11_isLetter_30 : decode cX11_isLetter 30 = .ok (.getfield 97, 3) := by decide +kernel
theorem dX11_isLetter_33 : decode cX11_isLetter 33 = .ok (.caload, 1) := by decide +kernel
theorem dX11_isLetter_34 : decode cX11_isLetter 34 = .ok (.bipush 122, 2) := by decide +kernel
theorem dX11_isLetter_36 : decode cX11_isLetter 36 = .ok (.if_icmp .gt 7, 3) := by decide +kernel
theorem dX11_isLetter_39 : decode cX11_isLetter 39 = .ok (.iconst 1, 1) := by decide +kernel
theorem dX11_isLetter_40 : decode cX11_isLetter 40 = .ok (.goto 4, 3) := by decide +kernel
theorem dX11_isLetter_43 : decode cX11_isLetter 43 = .ok (.iconst 0, 1) := by decide +kernel
theorem dX11_isLetter_44 : decode cX11_isLetter 44 = .ok (.ireturn, 1) := by decide +kernel
theorem dX11_readsWord_0 : decode cX11_readsWord 0 = .ok (.lconst 0, 1) := by decide +kernel
theorem dX11_readsWord_1 : decode cX11_readsWord 1 = .ok (.lstore_n 1, 1) := by decide +kernel
theorem dX11_readsWord_2 : decode cX11_readsWord 2 = .ok (.iconst 0, 1) := by decide +kernel
theorem dX11_readsWord_3 : decode cX11_readsWord 3 = .ok (.istore_n 3, 1) := by decide +kernel
theorem dX11_readsWord_4 : decode cX11_readsWord 4 = .ok (.iload_n 3, 1) := by decide +kernel
theorem dX11_readsWord_5 : decode cX11_readsWord 5 = .ok (.bipush 8, 2) := by decide +kernel
theorem dX11_readsWord_7 : decode cX11_readsWord 7 = .ok (.if_icmp .ge 48, 3) := by decide +kernel
theorem dX11_readsWord_10 : decode cX11_readsWord 10 = .ok (.aload_n 0, 1) := by decide +kernel
theorem dX11_readsWord_11 : decode cX11_readsWord 11 = .ok (.invokevirtual 100, 3) := by decide +kernel
theorem dX11_readsWord_14 : decode cX11_readsWord 14 = .ok (.ifCond .eq 41, 3) := by decide +kernel
theorem dX11_readsWord_17 : decode cX11_readsWord 17 = .ok (.ldc2_w 104, 3) := by decide +kernel
theorem dX11_readsWord_20 : decode cX11_readsWord 20 = .ok (.lload_n 1, 1) := by decide +kernel
theorem dX11_readsWord_21 : decode cX11_readsWord 21 = .ok (.lmul, 1) := by decide +kernel
theorem dX11_readsWord_22 : decode cX11_readsWord 22 = .ok (.aload_n 0, 1) := by decide +kernel
theorem dX11_readsWord_23 : decode cX11_readsWord 23 = .ok (.getfield 19, 3) := by decide +kernel
theorem dX11_readsWord_26 : decode cX11_readsWord 26 = .ok (.aload_n 0, 1) := by decide +kernel
theorem dX11_readsWord_27 : decode cX11_readsWord 27 = .ok (.getfield 97, 3) := by decide +kernel
theorem dX11_readsWord_30 : decode cX11_readsWord 30 = .ok (.caload, 1) := by decide +kernel
theorem dX11_readsWord_31 : decode cX11_readsWord 31 = .ok (.bipush 97, 2) := by decide +kernel
theorem dX11_readsWord_33 : decode cX11_readsWord 33 = .ok (.isub, 1) := by decide +kernel
theorem dX11_readsWord_34 : decode cX11_readsWord 34 = .ok (.iconst 1, 1) := by decide +kernel
theorem dX11_readsWord_35 : decode cX11_readsWord 35 = .ok (.iadd, 1) := by decide +kernel
theorem dX11_readsWord_36 : decode cX11_readsWord 36 = .ok (.i2l, 1) := by decide +kernel
theorem dX11_readsWord_37 : decode cX11_readsWord 37 = .ok (.ladd, 1) := by decide +kernel
theorem dX11_readsWord_38 : decode cX11_readsWord 38 = .ok (.lstore_n 1, 1) := by decide +kernel
theorem dX11_readsWord_39 : decode cX11_readsWord 39 = .ok (.aload_n 0, 1) := by decide +kernel
theorem dX11_readsWord_40 : decode cX11_readsWord 40 = .ok (.dup, 1) := by decide +kernel
theorem dX11_readsWord_41 : decode cX11_readsWord 41 = .ok (.getfield 97, 3) := by decide +kernel
theorem dX11_readsWord_44 : decode cX11_readsWord 44 = .ok (.iconst 1, 1) := by decide +kernel
theorem dX11_readsWord_45 : decode cX11_readsWord 45 = .ok (.iadd, 1) := by decide +kernel
theorem dX11_readsWord_46 : decode cX11_readsWord 46 = .ok (.putfield 97, 3) := by decide +kernel
theorem dX11_readsWord_49 : decode cX11_readsWord 49 = .ok (.iinc 3 1, 3) := by decide +kernel
theorem dX11_readsWord_52 : decode cX11_readsWord 52 = .ok (.goto (-48), 3) := by decide +kernel
theorem dX11_readsWord_55 : decode cX11_readsWord 55 = .ok (.lload_n 1, 1) := by decide +kernel
theorem dX11_readsWord_56 : decode cX11_readsWord 56 = .ok (.lreturn, 1) := by decide +kernel
theorem dX11_readsSegment_0 : decode cX11_readsSegment 0 = .ok (.bipush 11, 2) := by decide +kernel
theorem dX11_readsSegment_2 : decode cX11_readsSegment 2 = .ok (.aload_n 0, 1) := by decide +kernel
theorem dX11_readsSegment_3 : decode cX11_readsSegment 3 = .ok (.getfield 106, 3) := by decide +kernel
theorem dX11_readsSegment_6 : decode cX11_readsSegment 6 = .ok (.imul, 1) := by decide +kernel
theorem dX11_readsSegment_7 : decode cX11_readsSegment 7 = .ok (.istore_n 1, 1) := by decide +kernel
theorem dX11_readsSegment_8 : decode cX11_readsSegment 8 = .ok (.iconst 0, 1) := by decide +kernel
theorem dX11_readsSegment_9 : decode cX11_readsSegment 9 = .ok (.istore_n 2, 1) := by decide +kernel
theorem dX11_readsSegment_10 : decode cX11_readsSegment 10 = .ok (.iconst 1, 1) := by decide +kernel
theorem dX11_readsSegment_11 : decode cX11_readsSegment 11 = .ok (.istore_n 3, 1) := by decide +kernel
theorem dX11_readsSegment_12 : decode cX11_readsSegment 12 = .ok (.iload_n 3, 1) := by decide +kernel
theorem dX11_readsSegment_13 : decode cX11_readsSegment 13 = .ok (.ifCond .eq 91, 3) := by decide +kernel
theorem dX11_readsSegment_16 : decode cX11_readsSegment 16 = .ok (.aload_n 0, 1) := by decide +kernel
theorem dX11_readsSegment_17 : decode cX11_readsSegment 17 = .ok (.invokevirtual 109, 3) := by decide +kernel
theorem dX11_readsSegment_20 : decode cX11_readsSegment 20 = .ok (.lstore 4, 2) := by decide +kernel
theorem dX11_readsSegment_22 : decode cX11_readsSegment 22 = .ok (.lload 4, 2) := by decide +kernel
theorem dX11_readsSegment_24 : decode cX11_readsSegment 24 = .ok (.lconst 0, 1) := by decide +kernel
theorem dX11_readsSegment_25 : decode cX11_readsSegment 25 = .ok (.lcmp, 1) := by decide +kernel
theorem dX11_readsSegment_26 : decode cX11_readsSegment 26 = .ok (.ifCond .ne 5, 3) := by decide +kernel
theorem dX11_readsSegment_29 : decode cX11_readsSegment 29 = .ok (.iconst 0, 1) := by decide +kernel
theorem dX11_readsSegment_30 : decode cX11_readsSegment 30 = .ok (.ireturn, 1) := by decide +kernel
theorem dX11_readsSegment_31 : decode cX11_readsSegment 31 = .ok (.aload_n 0, 1) := by decide +kernel
theorem dX11_readsSegment_32 : decode cX11_readsSegment 32 = .ok (.getfield 23, 3) := by decide +kernel
theorem dX11_readsSegment_35 : decode cX11_readsSegment 35 = .ok (.iload_n 1, 1) := by decide +kernel
theorem dX11_readsSegment_36 : decode cX11_readsSegment 36 = .ok (.iconst 1, 1) := by decide +kernel
theorem dX11_readsSegment_37 : decode cX11_readsSegment 37 = .ok (.iadd, 1) := by decide +kernel
theorem dX11_readsSegment_38 : decode cX11_readsSegment 38 = .ok (.iload_n 2, 1) := by decide +kernel
theorem dX11_readsSegment_39 : decode cX11_readsSegment 39 = .ok (.iadd, 1) := by decide +kernel
theorem dX11_readsSegment_40 : decode cX11_readsSegment 40 = .ok (.lload 4, 2) := by decide +kernel
theorem dX11_readsSegment_42 : decode cX11_readsSegment 42 = .ok (.lastore, 1) := by decide +kernel
theorem dX11_readsSegment_43 : decode cX11_readsSegment 43 = .ok (.iinc 2 1, 3) := by decide +kernel
theorem dX11_readsSegment_46 : decode cX11_readsSegment 46 = .ok (.iload_n 2, 1) := by decide +kernel
theorem dX11_readsSegment_47 : decode cX11_readsSegment 47 = .ok (.bipush 8, 2) := by decide +kernel
theorem dX11_readsSegment_49 : decode cX11_readsSegment 49 = .ok (.if_icmp .ge 32, 3) := by decide +kernel
theorem dX11_readsSegment_52 : decode cX11_readsSegment 52 = .ok (.aload_n 0, 1) := by decide +kernel
theorem dX11_readsSegment_53 : decode cX11_readsSegment 53 = .ok (.getfield 97, 3) := by decide +kernel
theorem dX11_readsSegment_56 : decode cX11_readsSegment 56 = .ok (.aload_n 0, 1) := by decide +kernel
theorem dX11_readsSegment_57 : decode cX11_readsSegment 57 = .ok (.getfield 94, 3) := by decide +kernel
theorem dX11_readsSegment_60 : decode cX11_readsSegment 60 = .ok (.if_icmp .ge 21, 3) := by decide +kernel
theorem dX11_readsSegment_63 : decode cX11_readsSegment 63 = .ok (.aload_n 0, 1) := by decide +kernel
theorem dX11_readsSegment_64 : decode cX11_readsSegment 64 = .ok (.getfield 19, 3) := by decide +kernel
theorem dX11_readsSegment_67 : decode cX11_readsSegment 67 = .ok (.aload_n 0, 1) := by decide +kernel
theorem dX11_readsSegment_68 : decode cX11_readsSegment 68 = .ok (.getfield 97, 3) := by decide +kernel
theorem dX11_readsSegment_71 : decode cX11_readsSegment 71 = .ok (.caload, 1) := by decide +kernel
theorem dX11_readsSegment_72 : decode cX11_readsSegment 72 = .ok (.bipush 32, 2) := by decide +kernel
theorem dX11_readsSegment_74 : decode cX11_readsSegment 74 = .ok (.if_icmp .ne 7, 3) := by decide +kernel
theorem dX11_readsSegment_77 : decode cX11_readsSegment 77 = .ok (.iconst 1, 1) := by decide +kernel
theorem dX11_readsSegment_78 : decode cX11_readsSegment 78 = .ok (.goto 4, 3) := by decide +kernel
theorem dX11_readsSegment_81 : decode cX11_readsSegment 81 = .ok (.iconst 0, 1) := by decide +kernel
theorem dX11_readsSegment_82 : decode cX11_readsSegment 82 = .ok (.istore_n 3, 1) := by decide +kernel
theorem dX11_readsSegment_83 : decode cX11_readsSegment 83 = .ok (.aload_n 0, 1) := by decide +kernel
theorem dX11_readsSegment_84 : decode cX11_readsSegment 84 = .ok (.dup, 1) := by decide +kernel
theorem dX11_readsSegment_85 : decode cX11_readsSegment 85 = .ok (.getfield 97, 3) := by decide +kernel
theorem dX11_readsSegment_88 : decode cX11_readsSegment 88 = .ok (.iload_n 3, 1) := by decide +kernel
theorem dX11_readsSegment_89 : decode cX11_readsSegment 89 = .ok (.ifCond .eq 7, 3) := by decide +kernel
theorem dX11_readsSegment_92 : decode cX11_readsSegment 92 = .ok (.iconst 1, 1) := by decide +kernel
theorem dX11_readsSegment_93 : decode cX11_readsSegment 93 = .ok (.goto 4, 3) := by decide +kernel
theorem dX11_readsSegment_96 : decode cX11_readsSegment 96 = .ok (.iconst 0, 1) := by decide +kernel
theorem dX11_readsSegment_97 : decode cX11_readsSegment 97 = .ok (.iadd, 1) := by decide +kernel
theorem dX11_readsSegment_98 : decode cX11_readsSegment 98 = .ok (.putfield 97, 3) := by decide +kernel
theorem dX11_readsSegment_101 : decode cX11_readsSegment 101 = .ok (.goto (-89), 3) := by decide +kernel
theorem dX11_readsSegment_104 : decode cX11_readsSegment 104 = .ok (.aload_n 0, 1) := by decide +kernel
theorem dX11_readsSegment_105 : decode cX11_readsSegment 105 = .ok (.getfield 23, 3) := by decide +kernel
theorem dX11_readsSegment_108 : decode cX11_readsSegment 108 = .ok (.iload_n 1, 1) := by decide +kernel
theorem dX11_readsSegment_109 : decode cX11_readsSegment 109 = .ok (.iconst 0, 1) := by decide +kernel
theorem dX11_readsSegment_110 : decode cX11_readsSegment 110 = .ok (.iadd, 1) := by decide +kernel
theorem dX11_readsSegment_111 : decode cX11_readsSegment 111 = .ok (.iload_n 2, 1) := by decide +kernel
theorem dX11_readsSegment_112 : decode cX11_readsSegment 112 = .ok (.i2l, 1) := by decide +kernel
theorem dX11_readsSegment_113 : decode cX11_readsSegment 113 = .ok (.lastore, 1) := by decide +kernel
theorem dX11_readsSegment_114 : decode cX11_readsSegment 114 = .ok (.iload_n 2, 1) := by decide +kernel
theorem dX11_readsSegment_115 : decode cX11_readsSegment 115 = .ok (.istore 4, 2) := by decide +kernel
theorem dX11_readsSegment_117 : decode cX11_readsSegment 117 = .ok (.iload 4, 2) := by decide +kernel
theorem dX11_readsSegment_119 : decode cX11_readsSegment 119 = .ok (.bipush 8, 2) := by decide +kernel
theorem dX11_readsSegment_121 : decode cX11_readsSegment 121 = .ok (.if_icmp .ge 21, 3) := by decide +kernel
theorem dX11_readsSegment_124 : decode cX11_readsSegment 124 = .ok (.aload_n 0, 1) := by decide +kernel
theorem dX11_readsSegment_125 : decode cX11_readsSegment 125 = .ok (.getfield 23, 3) := by decide +kernel
theorem dX11_readsSegment_128 : decode cX11_readsSegment 128 = .ok (.iload_n 1, 1) := by decide +kernel
theorem dX11_readsSegment_129 : decode cX11_readsSegment 129 = .ok (.iconst 1, 1) := by decide +kernel
theorem dX11_readsSegment_130 : decode cX11_readsSegment 130 = .ok (.iadd, 1) := by decide +kernel
theorem dX11_readsSegment_131 : decode cX11_readsSegment 131 = .ok (.iload 4, 2) := by decide +kernel
theorem dX11_readsSegment_133 : decode cX11_readsSegment 133 = .ok (.iadd, 1) := by decide +kernel
theorem dX11_readsSegment_134 : decode cX11_readsSegment 134 = .ok (.lconst 0, 1) := by decide +kernel
theorem dX11_readsSegment_135 : decode cX11_readsSegment 135 = .ok (.lastore, 1) := by decide +kernel
theorem dX11_readsSegment_136 : decode cX11_readsSegment 136 = .ok (.iinc 4 1, 3) := by decide +kernel
theorem dX11_readsSegment_139 : decode cX11_readsSegment 139 = .ok (.goto (-22), 3) := by decide +kernel
theorem dX11_readsSegment_142 : decode cX11_readsSegment 142 = .ok (.aload_n 0, 1) := by decide +kernel
theorem dX11_readsSegment_143 : decode cX11_readsSegment 143 = .ok (.dup, 1) := by decide +kernel
theorem dX11_readsSegment_144 : decode cX11_readsSegment 144 = .ok (.getfield 106, 3) := by decide +kernel
theorem dX11_readsSegment_147 : decode cX11_readsSegment 147 = .ok (.iconst 1, 1) := by decide +kernel
theorem dX11_readsSegment_148 : decode cX11_readsSegment 148 = .ok (.iadd, 1) := by decide +kernel
theorem dX11_readsSegment_149 : decode cX11_readsSegment 149 = .ok (.putfield 106, 3) := by decide +kernel
theorem dX11_readsSegment_152 : decode cX11_readsSegment 152 = .ok (.iconst 1, 1) := by decide +kernel
theorem dX11_readsSegment_153 : decode cX11_readsSegment 153 = .ok (.ireturn, 1) := by decide +kernel
theorem dX11_readsText_0 : decode cX11_readsText 0 = .ok (.aload_n 0, 1) := by decide +kernel
theorem dX11_readsText_1 : decode cX11_readsText 1 = .ok (.iconst 0, 1) := by decide +kernel
theorem dX11_readsText_2 : decode cX11_readsText 2 = .ok (.putfield 97, 3) := by decide +kernel
theorem dX11_readsText_5 : decode cX11_readsText 5 = .ok (.aload_n 0, 1) := by decide +kernel
theorem dX11_readsText_6 : decode cX11_readsText 6 = .ok (.iconst 0, 1) := by decide +kernel
theorem dX11_readsText_7 : decode cX11_readsText 7 = .ok (.putfield 106, 3) := by decide +kernel
theorem dX11_readsText_10 : decode cX11_readsText 10 = .ok (.iconst 1, 1) := by decide +kernel
theorem dX11_readsText_11 : decode cX11_readsText 11 = .ok (.istore_n 1, 1) := by decide +kernel
theorem dX11_readsText_12 : decode cX11_readsText 12 = .ok (.iload_n 1, 1) := by decide +kernel
theorem dX11_readsText_13 : decode cX11_readsText 13 = .ok (.ifCond .eq 67, 3) := by decide +kernel
theorem dX11_readsText_16 : decode cX11_readsText 16 = .ok (.aload_n 0, 1) := by decide +kernel
theorem dX11_readsText_17 : decode cX11_readsText 17 = .ok (.invokevirtual 113, 3) := by decide +kernel
theorem dX11_readsText_20 : decode cX11_readsText 20 = .ok (.ifCond .ne 8, 3) := by decide +kernel
theorem dX11_readsText_23 : decode cX11_readsText 23 = .ok (.aload_n 0, 1) := by decide +kernel
theorem dX11_readsText_24 : decode cX11_readsText 24 = .ok (.getfield 97, 3) := by decide +kernel
theorem dX11_readsText_27 : decode cX11_readsText 27 = .ok (.ireturn, 1) := by decide +kernel
theorem dX11_readsText_28 : decode cX11_readsText 28 = .ok (.aload_n 0, 1) := by decide +kernel
theorem dX11_readsText_29 : decode cX11_readsText 29 = .ok (.getfield 97, 3) := by decide +kernel
theorem dX11_readsText_32 : decode cX11_readsText 32 = .ok (.aload_n 0, 1) := by decide +kernel
theorem dX11_readsText_33 : decode cX11_readsText 33 = .ok (.getfield 94, 3) := by decide +kernel
theorem dX11_readsText_36 : decode cX11_readsText 36 = .ok (.if_icmp .ge 21, 3) := by decide +kernel
theorem dX11_readsText_39 : decode cX11_readsText 39 = .ok (.aload_n 0, 1) := by decide +kernel
theorem dX11_readsText_40 : decode cX11_readsText 40 = .ok (.getfield 19, 3) := by decide +kernel
theorem dX11_readsText_43 : decode cX11_readsText 43 = .ok (.aload_n 0, 1) := by decide +kernel
theorem dX11_readsText_44 : decode cX11_readsText 44 = .ok (.getfield 97, 3) := by decide +kernel
theorem dX11_readsText_47 : decode cX11_readsText 47 = .ok (.caload, 1) := by decide +kernel
theorem dX11_readsText_48 : decode cX11_readsText 48 = .ok (.bipush 46, 2) := by decide +kernel
theorem dX11_readsText_50 : decode cX11_readsText 50 = .ok (.if_icmp .ne 7, 3) := by decide +kernel
theorem dX11_readsText_53 : decode cX11_readsText 53 = .ok (.iconst 1, 1) := by decide +kernel
theorem dX11_readsText_54 : decode cX11_readsText 54 = .ok (.goto 4, 3) := by decide +kernel
theorem dX11_readsText_57 : decode cX11_readsText 57 = .ok (.iconst 0, 1) := by decide +kernel
theorem dX11_readsText_58 : decode cX11_readsText 58 = .ok (.istore_n 1, 1) := by decide +kernel
theorem dX11_readsText_59 : decode cX11_readsText 59 = .ok (.aload_n 0, 1) := by decide +kernel
theorem dX11_readsText_60 : decode cX11_readsText 60 = .ok (.dup, 1) := by decide +kernel
theorem dX11_readsText_61 : decode cX11_readsText 61 = .ok (.getfield 97, 3) := by decide +kernel
theorem dX11_readsText_64 : decode cX11_readsText 64 = .ok (.iload_n 1, 1) := by decide +kernel
theorem dX11_readsText_65 : decode cX11_readsText 65 = .ok (.ifCond .eq 7, 3) := by decide +kernel
theorem dX11_readsText_68 : decode cX11_readsText 68 = .ok (.iconst 1, 1) := by decide +kernel
theorem dX11_readsText_69 : decode cX11_readsText 69 = .ok (.goto 4, 3) := by decide +kernel
theorem dX11_readsText_72 : decode cX11_readsText 72 = .ok (.iconst 0, 1) := by decide +kernel
theorem dX11_readsText_73 : decode cX11_readsText 73 = .ok (.iadd, 1) := by decide +kernel
theorem dX11_readsText_74 : decode cX11_readsText 74 = .ok (.putfield 97, 3) := by decide +kernel
theorem dX11_readsText_77 : decode cX11_readsText 77 = .ok (.goto (-65), 3) := by decide +kernel
theorem dX11_readsText_80 : decode cX11_readsText 80 = .ok (.aload_n 0, 1) := by decide +kernel
theorem dX11_readsText_81 : decode cX11_readsText 81 = .ok (.getfield 97, 3) := by decide +kernel
theorem dX11_readsText_84 : decode cX11_readsText 84 = .ok (.aload_n 0, 1) := by decide +kernel
theorem dX11_readsText_85 : decode cX11_readsText 85 = .ok (.getfield 94, 3) := by decide +kernel
theorem dX11_readsText_88 : decode cX11_readsText 88 = .ok (.if_icmp .ge 10, 3) := by decide +kernel
theorem dX11_readsText_91 : decode cX11_readsText 91 = .ok (.aload_n 0, 1) := by decide +kernel
theorem dX11_readsText_92 : decode cX11_readsText 92 = .ok (.getfield 97, 3) := by decide +kernel
theorem dX11_readsText_95 : decode cX11_readsText 95 = .ok (.goto 5, 3) := by decide +kernel
theorem dX11_readsText_98 : decode cX11_readsText 98 = .ok (.bipush (-5), 2) := by decide +kernel
theorem dX11_readsText_100 : decode cX11_readsText 100 = .ok (.ireturn, 1) := by decide +kernel
theorem dX11_areAlike_0 : decode cX11_areAlike 0 = .ok (.aload_n 0, 1) := by decide +kernel
theorem dX11_areAlike_1 : decode cX11_areAlike 1 = .ok (.getfield 7, 3) := by decide +kernel
theorem dX11_areAlike_4 : decode cX11_areAlike 4 = .ok (.iload_n 1, 1) := by decide +kernel
theorem dX11_areAlike_5 : decode cX11_areAlike 5 = .ok (.iconst 0, 1) := by decide +kernel
theorem dX11_areAlike_6 : decode cX11_areAlike 6 = .ok (.iadd, 1) := by decide +kernel
theorem dX11_areAlike_7 : decode cX11_areAlike 7 = .ok (.laload, 1) := by decide +kernel
theorem dX11_areAlike_8 : decode cX11_areAlike 8 = .ok (.aload_n 0, 1) := by decide +kernel
theorem dX11_areAlike_9 : decode cX11_areAlike 9 = .ok (.getfield 7, 3) := by decide +kernel
theorem dX11_areAlike_12 : decode cX11_areAlike 12 = .ok (.iload_n 2, 1) := by decide +kernel
theorem dX11_areAlike_13 : decode cX11_areAlike 13 = .ok (.iconst 0, 1) := by decide +kernel
theorem dX11_areAlike_14 : decode cX11_areAlike 14 = .ok (.iadd, 1) := by decide +kernel
theorem dX11_areAlike_15 : decode cX11_areAlike 15 = .ok (.laload, 1) := by decide +kernel
theorem dX11_areAlike_16 : decode cX11_areAlike 16 = .ok (.lcmp, 1) := by decide +kernel
theorem dX11_areAlike_17 : decode cX11_areAlike 17 = .ok (.ifCond .ne 7, 3) := by decide +kernel
theorem dX11_areAlike_20 : decode cX11_areAlike 20 = .ok (.iconst 1, 1) := by decide +kernel
theorem dX11_areAlike_21 : decode cX11_areAlike 21 = .ok (.goto 4, 3) := by decide +kernel
theorem dX11_areAlike_24 : decode cX11_areAlike 24 = .ok (.iconst 0, 1) := by decide +kernel
theorem dX11_areAlike_25 : decode cX11_areAlike 25 = .ok (.istore_n 3, 1) := by decide +kernel
theorem dX11_areAlike_26 : decode cX11_areAlike 26 = .ok (.iconst 0, 1) := by decide +kernel
theorem dX11_areAlike_27 : decode cX11_areAlike 27 = .ok (.istore 4, 2) := by decide +kernel
theorem dX11_areAlike_29 : decode cX11_areAlike 29 = .ok (.iload 4, 2) := by decide +kernel
theorem dX11_areAlike_31 : decode cX11_areAlike 31 = .ok (.bipush 8, 2) := by decide +kernel
theorem dX11_areAlike_33 : decode cX11_areAlike 33 = .ok (.if_icmp .ge 45, 3) := by decide +kernel
theorem dX11_areAlike_36 : decode cX11_areAlike 36 = .ok (.iload_n 3, 1) := by decide +kernel
theorem dX11_areAlike_37 : decode cX11_areAlike 37 = .ok (.ifCond .eq 33, 3) := by decide +kernel
theorem dX11_areAlike_40 : decode cX11_areAlike 40 = .ok (.aload_n 0, 1) := by decide +kernel
theorem dX11_areAlike_41 : decode cX11_areAlike 41 = .ok (.getfield 7, 3) := by decide +kernel
theorem dX11_areAlike_44 : decode cX11_areAlike 44 = .ok (.iload_n 1, 1) := by decide +kernel
theorem dX11_areAlike_45 : decode cX11_areAlike 45 = .ok (.iconst 1, 1) := by decide +kernel
theorem dX11_areAlike_46 : decode cX11_areAlike 46 = .ok (.iadd, 1) := by decide +kernel
theorem dX11_areAlike_47 : decode cX11_areAlike 47 = .ok (.iload 4, 2) := by decide +kernel
theorem dX11_areAlike_49 : decode cX11_areAlike 49 = .ok (.iadd, 1) := by decide +kernel
theorem dX11_areAlike_50 : decode cX11_areAlike 50 = .ok (.laload, 1) := by decide +kernel
theorem dX11_areAlike_51 : decode cX11_areAlike 51 = .ok (.aload_n 0, 1) := by decide +kernel
theorem dX11_areAlike_52 : decode cX11_areAlike 52 = .ok (.getfield 7, 3) := by decide +kernel
theorem dX11_areAlike_55 : decode cX11_areAlike 55 = .ok (.iload_n 2, 1) := by decide +kernel
theorem dX11_areAlike_56 : decode cX11_areAlike 56 = .ok (.iconst 1, 1) := by decide +kernel
theorem dX11_areAlike_57 : decode cX11_areAlike 57 = .ok (.iadd, 1) := by decide +kernel
theorem dX11_areAlike_58 : decode cX11_areAlike 58 = .ok (.iload 4, 2) := by decide +kernel
theorem dX11_areAlike_60 : decode cX11_areAlike 60 = .ok (.iadd, 1) := by decide +kernel
theorem dX11_areAlike_61 : decode cX11_areAlike 61 = .ok (.laload, 1) := by decide +kernel
theorem dX11_areAlike_62 : decode cX11_areAlike 62 = .ok (.lcmp, 1) := by decide +kernel
theorem dX11_areAlike_63 : decode cX11_areAlike 63 = .ok (.ifCond .ne 7, 3) := by decide +kernel
theorem dX11_areAlike_66 : decode cX11_areAlike 66 = .ok (.iconst 1, 1) := by decide +kernel
theorem dX11_areAlike_67 : decode cX11_areAlike 67 = .ok (.goto 4, 3) := by decide +kernel
theorem dX11_areAlike_70 : decode cX11_areAlike 70 = .ok (.iconst 0, 1) := by decide +kernel
theorem dX11_areAlike_71 : decode cX11_areAlike 71 = .ok (.istore_n 3, 1) := by decide +kernel
theorem dX11_areAlike_72 : decode cX11_areAlike 72 = .ok (.iinc 4 1, 3) := by decide +kernel
theorem dX11_areAlike_75 : decode cX11_areAlike 75 = .ok (.goto (-46), 3) := by decide +kernel
theorem dX11_areAlike_78 : decode cX11_areAlike 78 = .ok (.iload_n 3, 1) := by decide +kernel
theorem dX11_areAlike_79 : decode cX11_areAlike 79 = .ok (.ireturn, 1) := by decide +kernel
theorem dX11_entryLike_0 : decode cX11_entryLike 0 = .ok (.iconst 0, 1) := by decide +kernel
theorem dX11_entryLike_1 : decode cX11_entryLike 1 = .ok (.istore_n 2, 1) := by decide +kernel
theorem dX11_entryLike_2 : decode cX11_entryLike 2 = .ok (.iload_n 2, 1) := by decide +kernel
theorem dX11_entryLike_3 : decode cX11_entryLike 3 = .ok (.i2l, 1) := by decide +kernel
theorem dX11_entryLike_4 : decode cX11_entryLike 4 = .ok (.aload_n 0, 1) := by decide +kernel
theorem dX11_entryLike_5 : decode cX11_entryLike 5 = .ok (.getfield 7, 3) := by decide +kernel
theorem dX11_entryLike_8 : decode cX11_entryLike 8 = .ok (.iconst 2, 1) := by decide +kernel
theorem dX11_entryLike_9 : decode cX11_entryLike 9 = .ok (.laload, 1) := by decide +kernel
theorem dX11_entryLike_10 : decode cX11_entryLike 10 = .ok (.lcmp, 1) := by decide +kernel
theorem dX11_entryLike_11 : decode cX11_entryLike 11 = .ok (.ifCond .ge 24, 3) := by decide +kernel
theorem dX11_entryLike_14 : decode cX11_entryLike 14 = .ok (.aload_n 0, 1) := by decide +kernel
theorem dX11_entryLike_15 : decode cX11_entryLike 15 = .ok (.aload_n 0, 1) := by decide +kernel
theorem dX11_entryLike_16 : decode cX11_entryLike 16 = .ok (.iload_n 2, 1) := by decide +kernel
theorem dX11_entryLike_17 : decode cX11_entryLike 17 = .ok (.invokevirtual 116, 3) := by decide +kernel
theorem dX11_entryLike_20 : decode cX11_entryLike 20 = .ok (.iload_n 1, 1) := by decide +kernel
theorem dX11_entryLike_21 : decode cX11_entryLike 21 = .ok (.invokevirtual 119, 3) := by decide +kernel
theorem dX11_entryLike_24 : decode cX11_entryLike 24 = .ok (.ifCond .eq 5, 3) := by decide +kernel
theorem dX11_entryLike_27 : decode cX11_entryLike 27 = .ok (.iload_n 2, 1) := by decide +kernel
theorem dX11_entryLike_28 : decode cX11_entryLike 28 = .ok (.ireturn, 1) := by decide +kernel
theorem dX11_entryLike_29 : decode cX11_entryLike 29 = .ok (.iinc 2 1, 3) := by decide +kernel
theorem dX11_entryLike_32 : decode cX11_entryLike 32 = .ok (.goto (-30), 3) := by decide +kernel
theorem dX11_entryLike_35 : decode cX11_entryLike 35 = .ok (.bipush (-5), 2) := by decide +kernel
theorem dX11_entryLike_37 : decode cX11_entryLike 37 = .ok (.ireturn, 1) := by decide +kernel
theorem dX11_least_0 : decode cX11_least 0 = .ok (.iload_n 0, 1) := by decide +kernel
theorem dX11_least_1 : decode cX11_least 1 = .ok (.iload_n 1, 1) := by decide +kernel
theorem dX11_least_2 : decode cX11_least 2 = .ok (.if_icmp .ge 7, 3) := by decide +kernel
theorem dX11_least_5 : decode cX11_least 5 = .ok (.iload_n 0, 1) := by decide +kernel
theorem dX11_least_6 : decode cX11_least 6 = .ok (.goto 4, 3) := by decide +kernel
theorem dX11_least_9 : decode cX11_least 9 = .ok (.iload_n 1, 1) := by decide +kernel
theorem dX11_least_10 : decode cX11_least 10 = .ok (.istore_n 3, 1) := by decide +kernel
theorem dX11_least_11 : decode cX11_least 11 = .ok (.iload_n 3, 1) := by decide +kernel
theorem dX11_least_12 : decode cX11_least 12 = .ok (.iload_n 2, 1) := by decide +kernel
theorem dX11_least_13 : decode cX11_least 13 = .ok (.if_icmp .ge 7, 3) := by decide +kernel
theorem dX11_least_16 : decode cX11_least 16 = .ok (.iload_n 3, 1) := by decide +kernel
theorem dX11_least_17 : decode cX11_least 17 = .ok (.goto 4, 3) := by decide +kernel
theorem dX11_least_20 : decode cX11_least 20 = .ok (.iload_n 2, 1) := by decide +kernel
theorem dX11_least_21 : decode cX11_least 21 = .ok (.ireturn, 1) := by decide +kernel
theorem dX11_apart_0 : decode cX11_apart 0 = .ok (.aload_n 0, 1) := by decide +kernel
theorem dX11_apart_1 : decode cX11_apart 1 = .ok (.iload_n 1, 1) := by decide +kernel
theorem dX11_apart_2 : decode cX11_apart 2 = .ok (.iconst 0, 1) := by decide +kernel
theorem dX11_apart_3 : decode cX11_apart 3 = .ok (.iadd, 1) := by decide +kernel
theorem dX11_apart_4 : decode cX11_apart 4 = .ok (.invokevirtual 53, 3) := by decide +kernel
theorem dX11_apart_7 : decode cX11_apart 7 = .ok (.istore_n 3, 1) := by decide +kernel
theorem dX11_apart_8 : decode cX11_apart 8 = .ok (.aload_n 0, 1) := by decide +kernel
theorem dX11_apart_9 : decode cX11_apart 9 = .ok (.iload_n 2, 1) := by decide +kernel
theorem dX11_apart_10 : decode cX11_apart 10 = .ok (.iconst 0, 1) := by decide +kernel
theorem dX11_apart_11 : decode cX11_apart 11 = .ok (.iadd, 1) := by decide +kernel
theorem dX11_apart_12 : decode cX11_apart 12 = .ok (.invokevirtual 53, 3) := by decide +kernel
theorem dX11_apart_15 : decode cX11_apart 15 = .ok (.istore 4, 2) := by decide +kernel
theorem dX11_apart_17 : decode cX11_apart 17 = .ok (.iconst 0, 1) := by decide +kernel
theorem dX11_apart_18 : decode cX11_apart 18 = .ok (.istore 5, 2) := by decide +kernel
theorem dX11_apart_20 : decode cX11_apart 20 = .ok (.iload 5, 2) := by decide +kernel
theorem dX11_apart_22 : decode cX11_apart 22 = .ok (.iload 4, 2) := by decide +kernel
theorem dX11_apart_24 : decode cX11_apart 24 = .ok (.if_icmp .gt 18, 3) := by decide +kernel
theorem dX11_apart_27 : decode cX11_apart 27 = .ok (.aload_n 0, 1) := by decide +kernel
theorem dX11_apart_28 : decode cX11_apart 28 = .ok (.getfield 26, 3) := by decide +kernel
theorem dX11_apart_31 : decode cX11_apart 31 = .ok (.iload 5, 2) := by decide +kernel
theorem dX11_apart_33 : decode cX11_apart 33 = .ok (.iload 5, 2) := by decide +kernel
theorem dX11_apart_35 : decode cX11_apart 35 = .ok (.iastore, 1) := by decide +kernel
theorem dX11_apart_36 : decode cX11_apart 36 = .ok (.iinc 5 1, 3) := by decide +kernel
theorem dX11_apart_39 : decode cX11_apart 39 = .ok (.goto (-19), 3) := by decide +kernel
theorem dX11_apart_42 : decode cX11_apart 42 = .ok (.iconst 1, 1) := by decide +kernel
theorem dX11_apart_43 : decode cX11_apart 43 = .ok (.istore 5, 2) := by decide +kernel
theorem dX11_apart_45 : decode cX11_apart 45 = .ok (.iload 5, 2) := by decide +kernel
theorem dX11_apart_47 : decode cX11_apart 47 = .ok (.iload_n 3, 1) := by decide +kernel
theorem dX11_apart_48 : decode cX11_apart 48 = .ok (.if_icmp .gt 142, 3) := by decide +kernel
theorem dX11_apart_51 : decode cX11_apart 51 = .ok (.aload_n 0, 1) := by decide +kernel
theorem dX11_apart_52 : decode cX11_apart 52 = .ok (.getfield 30, 3) := by decide +kernel
theorem dX11_apart_55 : decode cX11_apart 55 = .ok (.iconst 0, 1) := by decide +kernel
theorem dX11_apart_56 : decode cX11_apart 56 = .ok (.iload 5, 2) := by decide +kernel
theorem dX11_apart_58 : decode cX11_apart 58 = .ok (.iastore, 1) := by decide +kernel
theorem dX11_apart_59 : decode cX11_apart 59 = .ok (.iconst 1, 1) := by decide +kernel
theorem dX11_apart_60 : decode cX11_apart 60 = .ok (.istore 6, 2) := by decide +kernel
theorem dX11_apart_62 : decode cX11_apart 62 = .ok (.iload 6, 2) := by decide +kernel
theorem dX11_apart_64 : decode cX11_apart 64 = .ok (.iload 4, 2) := by decide +kernel
theorem dX11_apart_66 : decode cX11_apart 66 = .ok (.if_icmp .gt 88, 3) := by decide +kernel
theorem dX11_apart_69 : decode cX11_apart 69 = .ok (.aload_n 0, 1) := by decide +kernel
theorem dX11_apart_70 : decode cX11_apart 70 = .ok (.getfield 7, 3) := by decide +kernel
theorem dX11_apart_73 : decode cX11_apart 73 = .ok (.iload_n 1, 1) := by decide +kernel
theorem dX11_apart_74 : decode cX11_apart 74 = .ok (.iconst 1, 1) := by decide +kernel
theorem dX11_apart_75 : decode cX11_apart 75 = .ok (.iadd, 1) := by decide +kernel
theorem dX11_apart_76 : decode cX11_apart 76 = .ok (.iload 5, 2) := by decide +kernel
theorem dX11_apart_78 : decode cX11_apart 78 = .ok (.iadd, 1) := by decide +kernel
theorem dX11_apart_79 : decode cX11_apart 79 = .ok (.iconst 1, 1) := by decide +kernel
theorem dX11_apart_80 : decode cX11_apart 80 = .ok (.isub, 1) := by decide +kernel
theorem dX11_apart_81 : decode cX11_apart 81 = .ok (.laload, 1) := by decide +kernel
theorem dX11_apart_82 : decode cX11_apart 82 = .ok (.aload_n 0, 1) := by decide +kernel
theorem dX11_apart_83 : decode cX11_apart 83 = .ok (.getfield 7, 3) := by decide +kernel
theorem dX11_apart_86 : decode cX11_apart 86 = .ok (.iload_n 2, 1) := by decide +kernel
theorem dX11_apart_87 : decode cX11_apart 87 = .ok (.iconst 1, 1) := by decide +kernel
theorem dX11_apart_88 : decode cX11_apart 88 = .ok (.iadd, 1) := by decide +kernel
theorem dX11_apart_89 : decode cX11_apart 89 = .ok (.iload 6, 2) := by decide +kernel
theorem dX11_apart_91 : decode cX11_apart 91 = .ok (.iadd, 1) := by decide +kernel
theorem dX11_apart_92 : decode cX11_apart 92 = .ok (.iconst 1, 1) := by decide +kernel
theorem dX11_apart_93 : decode cX11_apart 93 = .ok (.isub, 1) := by decide +kernel
theorem dX11_apart_94 : decode cX11_apart 94 = .ok (.laload, 1) := by decide +kernel
theorem dX11_apart_95 : decode cX11_apart 95 = .ok (.lcmp, 1) := by decide +kernel
theorem dX11_apart_96 : decode cX11_apart 96 = .ok (.ifCond .ne 7, 3) := by decide +kernel
theorem dX11_apart_99 : decode cX11_apart 99 = .ok (.iconst 0, 1) := by decide +kernel
theorem dX11_apart_100 : decode cX11_apart 100 = .ok (.goto 4, 3) := by decide +kernel
theorem dX11_apart_103 : decode cX11_apart 103 = .ok (.iconst 1, 1) := by decide +kernel
theorem dX11_apart_104 : decode cX11_apart 104 = .ok (.istore 7, 2) := by decide +kernel
theorem dX11_apart_106 : decode cX11_apart 106 = .ok (.aload_n 0, 1) := by decide +kernel
theorem dX11_apart_107 : decode cX11_apart 107 = .ok (.getfield 30, 3) := by decide +kernel
theorem dX11_apart_110 : decode cX11_apart 110 = .ok (.iload 6, 2) := by decide +kernel
theorem dX11_apart_112 : decode cX11_apart 112 = .ok (.aload_n 0, 1) := by decide +kernel
theorem dX11_apart_113 : decode cX11_apart 113 = .ok (.getfield 26, 3) := by decide +kernel
theorem dX11_apart_116 : decode cX11_apart 116 = .ok (.iload 6, 2) := by decide +kernel
theorem dX11_apart_118 : decode cX11_apart 118 = .ok (.iaload, 1) := by decide +kernel
theorem dX11_apart_119 : decode cX11_apart 119 = .ok (.iconst 1, 1) := by decide +kernel
theorem dX11_apart_120 : decode cX11_apart 120 = .ok (.iadd, 1) := by decide +kernel
theorem dX11_apart_121 : decode cX11_apart 121 = .ok (.aload_n 0, 1) := by decide +kernel
theorem dX11_apart_122 : decode cX11_apart 122 = .ok (.getfield 30, 3) := by decide +kernel
theorem dX11_apart_125 : decode cX11_apart 125 = .ok (.iload 6, 2) := by decide +kernel
theorem dX11_apart_127 : decode cX11_apart 127 = .ok (.iconst 1, 1) := by decide +kernel
theorem dX11_apart_128 : decode cX11_apart 128 = .ok (.isub, 1) := by decide +kernel
theorem dX11_apart_129 : decode cX11_apart 129 = .ok (.iaload, 1) := by decide +kernel
theorem dX11_apart_130 : decode cX11_apart 130 = .ok (.iconst 1, 1) := by decide +kernel
theorem dX11_apart_131 : decode cX11_apart 131 = .ok (.iadd, 1) := by decide +kernel
theorem dX11_apart_132 : decode cX11_apart 132 = .ok (.aload_n 0, 1) := by decide +kernel
theorem dX11_apart_133 : decode cX11_apart 133 = .ok (.getfield 26, 3) := by decide +kernel
theorem dX11_apart_136 : decode cX11_apart 136 = .ok (.iload 6, 2) := by decide +kernel
theorem dX11_apart_138 : decode cX11_apart 138 = .ok (.iconst 1, 1) := by decide +kernel
theorem dX11_apart_139 : decode cX11_apart 139 = .ok (.isub, 1) := by decide +kernel
theorem dX11_apart_140 : decode cX11_apart 140 = .ok (.iaload, 1) := by decide +kernel
theorem dX11_apart_141 : decode cX11_apart 141 = .ok (.iload 7, 2) := by decide +kernel
theorem dX11_apart_143 : decode cX11_apart 143 = .ok (.iadd, 1) := by decide +kernel
theorem dX11_apart_144 : decode cX11_apart 144 = .ok (.invokestatic 122, 3) := by decide +kernel
theorem dX11_apart_147 : decode cX11_apart 147 = .ok (.iastore, 1) := by decide +kernel
theorem dX11_apart_148 : decode cX11_apart 148 = .ok (.iinc 6 1, 3) := by decide +kernel
theorem dX11_apart_151 : decode cX11_apart 151 = .ok (.goto (-89), 3) := by decide +kernel
theorem dX11_apart_154 : decode cX11_apart 154 = .ok (.iconst 0, 1) := by decide +kernel
theorem dX11_apart_155 : decode cX11_apart 155 = .ok (.istore 6, 2) := by decide +kernel
theorem dX11_apart_157 : decode cX11_apart 157 = .ok (.iload 6, 2) := by decide +kernel
theorem dX11_apart_159 : decode cX11_apart 159 = .ok (.iload 4, 2) := by decide +kernel
theorem dX11_apart_161 : decode cX11_apart 161 = .ok (.if_icmp .gt 23, 3) := by decide +kernel
theorem dX11_apart_164 : decode cX11_apart 164 = .ok (.aload_n 0, 1) := by decide +kernel
theorem dX11_apart_165 : decode cX11_apart 165 = .ok (.getfield 26, 3) := by decide +kernel
theorem dX11_apart_168 : decode cX11_apart 168 = .ok (.iload 6, 2) := by decide +kernel
theorem dX11_apart_170 : decode cX11_apart 170 = .ok (.aload_n 0, 1) := by decide +kernel
theorem dX11_apart_171 : decode cX11_apart 171 = .ok (.getfield 30, 3) := by decide +kernel
theorem dX11_apart_174 : decode cX11_apart 174 = .ok (.iload 6, 2) := by decide +kernel
theorem dX11_apart_176 : decode cX11_apart 176 = .ok (.iaload, 1) := by decide +kernel
theorem dX11_apart_177 : decode cX11_apart 177 = .ok (.iastore, 1) := by decide +kernel
theorem dX11_apart_178 : decode cX11_apart 178 = .ok (.iinc 6 1, 3) := by decide +kernel
theorem dX11_apart_181 : decode cX11_apart 181 = .ok (.goto (-24), 3) := by decide +kernel
theorem dX11_apart_184 : decode cX11_apart 184 = .ok (.iinc 5 1, 3) := by decide +kernel
theorem dX11_apart_187 : decode cX11_apart 187 = .ok (.goto (-142), 3) := by decide +kernel
theorem dX11_apart_190 : decode cX11_apart 190 = .ok (.aload_n 0, 1) := by decide +kernel
theorem dX11_apart_191 : decode cX11_apart 191 = .ok (.getfield 26, 3) := by decide +kernel
theorem dX11_apart_194 : decode cX11_apart 194 = .ok (.iload 4, 2) := by decide +kernel
theorem dX11_apart_196 : decode cX11_apart 196 = .ok (.iaload, 1) := by decide +kernel
theorem dX11_apart_197 : decode cX11_apart 197 = .ok (.ireturn, 1) := by decide +kernel
theorem dX11_matchOf_0 : decode cX11_matchOf 0 = .ok (.aload_n 0, 1) := by decide +kernel
theorem dX11_matchOf_1 : decode cX11_matchOf 1 = .ok (.iload_n 1, 1) := by decide +kernel
theorem dX11_matchOf_2 : decode cX11_matchOf 2 = .ok (.iconst 0, 1) := by decide +kernel
theorem dX11_matchOf_3 : decode cX11_matchOf 3 = .ok (.iadd, 1) := by decide +kernel
theorem dX11_matchOf_4 : decode cX11_matchOf 4 = .ok (.invokevirtual 53, 3) := by decide +kernel
theorem dX11_matchOf_7 : decode cX11_matchOf 7 = .ok (.istore_n 3, 1) := by decide +kernel
theorem dX11_matchOf_8 : decode cX11_matchOf 8 = .ok (.aload_n 0, 1) := by decide +kernel
theorem dX11_matchOf_9 : decode cX11_matchOf 9 = .ok (.iload_n 2, 1) := by decide +kernel
theorem dX11_matchOf_10 : decode cX11_matchOf 10 = .ok (.iconst 0, 1) := by decide +kernel
theorem dX11_matchOf_11 : decode cX11_matchOf 11 = .ok (.iadd, 1) := by decide +kernel
theorem dX11_matchOf_12 : decode cX11_matchOf 12 = .ok (.invokevirtual 53, 3) := by decide +kernel
theorem dX11_matchOf_15 : decode cX11_matchOf 15 = .ok (.istore 4, 2) := by decide +kernel
theorem dX11_matchOf_17 : decode cX11_matchOf 17 = .ok (.iload_n 3, 1) := by decide +kernel
theorem dX11_matchOf_18 : decode cX11_matchOf 18 = .ok (.iload 4, 2) := by decide +kernel
theorem dX11_matchOf_20 : decode cX11_matchOf 20 = .ok (.if_icmp .le 7, 3) := by decide +kernel
theorem dX11_matchOf_23 : decode cX11_matchOf 23 = .ok (.iload_n 3, 1) := by decide +kernel
theorem dX11_matchOf_24 : decode cX11_matchOf 24 = .ok (.goto 5, 3) := by decide +kernel
theorem dX11_matchOf_27 : decode cX11_matchOf 27 = .ok (.iload 4, 2) := by decide +kernel
theorem dX11_matchOf_29 : decode cX11_matchOf 29 = .ok (.istore 5, 2) := by decide +kernel
theorem dX11_matchOf_31 : decode cX11_matchOf 31 = .ok (.bipush 100, 2) := by decide +kernel
theorem dX11_matchOf_33 : decode cX11_matchOf 33 = .ok (.iload 5, 2) := by decide +kernel
theorem dX11_matchOf_35 : decode cX11_matchOf 35 = .ok (.aload_n 0, 1) := by decide +kernel
theorem dX11_matchOf_36 : decode cX11_matchOf 36 = .ok (.iload_n 1, 1) := by decide +kernel
theorem dX11_matchOf_37 : decode cX11_matchOf 37 = .ok (.iload_n 2, 1) := by decide +kernel
theorem dX11_matchOf_38 : decode cX11_matchOf 38 = .ok (.invokevirtual 126, 3) := by decide +kernel
theorem dX11_matchOf_41 : decode cX11_matchOf 41 = .ok (.isub, 1) := by decide +kernel
theorem dX11_matchOf_42 : decode cX11_matchOf 42 = .ok (.imul, 1) := by decide +kernel
theorem dX11_matchOf_43 : decode cX11_matchOf 43 = .ok (.iload 5, 2) := by decide +kernel
theorem dX11_matchOf_45 : decode cX11_matchOf 45 = .ok (.idiv, 1) := by decide +kernel
theorem dX11_matchOf_46 : decode cX11_matchOf 46 = .ok (.ireturn, 1) := by decide +kernel
theorem dX11_match_0 : decode cX11_match 0 = .ok (.iconst 0, 1) := by decide +kernel
theorem dX11_match_1 : decode cX11_match 1 = .ok (.istore_n 2, 1) := by decide +kernel
theorem dX11_match_2 : decode cX11_match 2 = .ok (.iconst 0, 1) := by decide +kernel
theorem dX11_match_3 : decode cX11_match 3 = .ok (.istore_n 3, 1) := by decide +kernel
theorem dX11_match_4 : decode cX11_match 4 = .ok (.iload_n 3, 1) := by decide +kernel
theorem dX11_match_5 : decode cX11_match 5 = .ok (.i2l, 1) := by decide +kernel
theorem dX11_match_6 : decode cX11_match 6 = .ok (.aload_n 0, 1) := by decide +kernel
theorem dX11_match_7 : decode cX11_match 7 = .ok (.getfield 7, 3) := by decide +kernel
theorem dX11_match_10 : decode cX11_match 10 = .ok (.iconst 2, 1) := by decide +kernel
theorem dX11_match_11 : decode cX11_match 11 = .ok (.laload, 1) := by decide +kernel
theorem dX11_match_12 : decode cX11_match 12 = .ok (.lcmp, 1) := by decide +kernel
theorem dX11_match_13 : decode cX11_match 13 = .ok (.ifCond .ge 34, 3) := by decide +kernel
theorem dX11_match_16 : decode cX11_match 16 = .ok (.aload_n 0, 1) := by decide +kernel
theorem dX11_match_17 : decode cX11_match 17 = .ok (.iload_n 1, 1) := by decide +kernel
theorem dX11_match_18 : decode cX11_match 18 = .ok (.aload_n 0, 1) := by decide +kernel
theorem dX11_match_19 : decode cX11_match 19 = .ok (.iload_n 3, 1) := by decide +kernel
theorem dX11_match_20 : decode cX11_match 20 = .ok (.invokevirtual 116, 3) := by decide +kernel
theorem dX11_match_23 : decode cX11_match 23 = .ok (.invokevirtual 130, 3) := by decide +kernel
theorem dX11_match_26 : decode cX11_match 26 = .ok (.istore 4, 2) := by decide +kernel
theorem dX11_match_28 : decode cX11_match 28 = .ok (.iload 4, 2) := by decide +kernel
theorem dX11_match_30 : decode cX11_match 30 = .ok (.iload_n 2, 1) := by decide +kernel
theorem dX11_match_31 : decode cX11_match 31 = .ok (.if_icmp .le 8, 3) := by decide +kernel
theorem dX11_match_34 : decode cX11_match 34 = .ok (.iload 4, 2) := by decide +kernel
theorem dX11_match_36 : decode cX11_match 36 = .ok (.goto 4, 3) := by decide +kernel
theorem dX11_match_39 : decode cX11_match 39 = .ok (.iload_n 2, 1) := by decide +kernel
theorem dX11_match_40 : decode cX11_match 40 = .ok (.istore_n 2, 1) := by decide +kernel
theorem dX11_match_41 : decode cX11_match 41 = .ok (.iinc 3 1, 3) := by decide +kernel
theorem dX11_match_44 : decode cX11_match 44 = .ok (.goto (-40), 3) := by decide +kernel
theorem dX11_match_47 : decode cX11_match 47 = .ok (.iload_n 2, 1) := by decide +kernel
theorem dX11_match_48 : decode cX11_match 48 = .ok (.ireturn, 1) := by decide +kernel
theorem dX11_bestEntry_0 : decode cX11_bestEntry 0 = .ok (.iconst 0, 1) := by decide +kernel
theorem dX11_bestEntry_1 : decode cX11_bestEntry 1 = .ok (.istore_n 2, 1) := by decide +kernel
theorem dX11_bestEntry_2 : decode cX11_bestEntry 2 = .ok (.bipush (-5), 2) := by decide +kernel
theorem dX11_bestEntry_4 : decode cX11_bestEntry 4 = .ok (.istore_n 3, 1) := by decide +kernel
theorem dX11_bestEntry_5 : decode cX11_bestEntry 5 = .ok (.iconst 0, 1) := by decide +kernel
theorem dX11_bestEntry_6 : decode cX11_bestEntry 6 = .ok (.istore 4, 2) := by decide +kernel
theorem dX11_bestEntry_8 : decode cX11_bestEntry 8 = .ok (.iload 4, 2) := by decide +kernel
theorem dX11_bestEntry_10 : decode cX11_bestEntry 10 = .ok (.i2l, 1) := by decide +kernel
theorem dX11_bestEntry_11 : decode cX11_bestEntry 11 = .ok (.aload_n 0, 1) := by decide +kernel
theorem dX11_bestEntry_12 : decode cX11_bestEntry 12 = .ok (.getfield 7, 3) := by decide +kernel
theorem dX11_bestEntry_15 : decode cX11_bestEntry 15 = .ok (.iconst 2, 1) := by decide +kernel
theorem dX11_bestEntry_16 : decode cX11_bestEntry 16 = .ok (.laload, 1) := by decide +kernel
theorem dX11_bestEntry_17 : decode cX11_bestEntry 17 = .ok (.lcmp, 1) := by decide +kernel
theorem dX11_bestEntry_18 : decode cX11_bestEntry 18 = .ok (.ifCond .ge 48, 3) := by decide +kernel
theorem dX11_bestEntry_21 : decode cX11_bestEntry 21 = .ok (.aload_n 0, 1) := by decide +kernel
theorem dX11_bestEntry_22 : decode cX11_bestEntry 22 = .ok (.iload_n 1, 1) := by decide +kernel
theorem dX11_bestEntry_23 : decode cX11_bestEntry 23 = .ok (.aload_n 0, 1) := by decide +kernel
theorem dX11_bestEntry_24 : decode cX11_bestEntry 24 = .ok (.iload 4, 2) := by decide +kernel
theorem dX11_bestEntry_26 : decode cX11_bestEntry 26 = .ok (.invokevirtual 116, 3) := by decide +kernel
theorem dX11_bestEntry_29 : decode cX11_bestEntry 29 = .ok (.invokevirtual 130, 3) := by decide +kernel
theorem dX11_bestEntry_32 : decode cX11_bestEntry 32 = .ok (.istore 5, 2) := by decide +kernel
theorem dX11_bestEntry_34 : decode cX11_bestEntry 34 = .ok (.iload 5, 2) := by decide +kernel
theorem dX11_bestEntry_36 : decode cX11_bestEntry 36 = .ok (.iload_n 2, 1) := by decide +kernel
theorem dX11_bestEntry_37 : decode cX11_bestEntry 37 = .ok (.if_icmp .le 8, 3) := by decide +kernel
theorem dX11_bestEntry_40 : decode cX11_bestEntry 40 = .ok (.iload 4, 2) := by decide +kernel
theorem dX11_bestEntry_42 : decode cX11_bestEntry 42 = .ok (.goto 4, 3) := by decide +kernel
theorem dX11_bestEntry_45 : decode cX11_bestEntry 45 = .ok (.iload_n 3, 1) := by decide +kernel
theorem dX11_bestEntry_46 : decode cX11_bestEntry 46 = .ok (.istore_n 3, 1) := by decide +kernel
theorem dX11_bestEntry_47 : decode cX11_bestEntry 47 = .ok (.iload 5, 2) := by decide +kernel
theorem dX11_bestEntry_49 : decode cX11_bestEntry 49 = .ok (.iload_n 2, 1) := by decide +kernel
theorem dX11_bestEntry_50 : decode cX11_bestEntry 50 = .ok (.if_icmp .le 8, 3) := by decide +kernel
theorem dX11_bestEntry_53 : decode cX11_bestEntry 53 = .ok (.iload 5, 2) := by decide +kernel
theorem dX11_bestEntry_55 : decode cX11_bestEntry 55 = .ok (.goto 4, 3) := by decide +kernel
theorem dX11_bestEntry_58 : decode cX11_bestEntry 58 = .ok (.iload_n 2, 1) := by decide +kernel
theorem dX11_bestEntry_59 : decode cX11_bestEntry 59 = .ok (.istore_n 2, 1) := by decide +kernel
theorem dX11_bestEntry_60 : decode cX11_bestEntry 60 = .ok (.iinc 4 1, 3) := by decide +kernel
theorem dX11_bestEntry_63 : decode cX11_bestEntry 63 = .ok (.goto (-55), 3) := by decide +kernel
theorem dX11_bestEntry_66 : decode cX11_bestEntry 66 = .ok (.iload_n 3, 1) := by decide +kernel
theorem dX11_bestEntry_67 : decode cX11_bestEntry 67 = .ok (.ireturn, 1) := by decide +kernel
theorem dX11_fileIn_0 : decode cX11_fileIn 0 = .ok (.aload_n 0, 1) := by decide +kernel
theorem dX11_fileIn_1 : decode cX11_fileIn 1 = .ok (.bipush 10, 2) := by decide +kernel
theorem dX11_fileIn_3 : decode cX11_fileIn 3 = .ok (.iload_n 1, 1) := by decide +kernel
theorem dX11_fileIn_4 : decode cX11_fileIn 4 = .ok (.iadd, 1) := by decide +kernel
theorem dX11_fileIn_5 : decode cX11_fileIn 5 = .ok (.invokevirtual 53, 3) := by decide +kernel
theorem dX11_fileIn_8 : decode cX11_fileIn 8 = .ok (.ireturn, 1) := by decide +kernel
theorem dX11_placeOf_0 : decode cX11_placeOf 0 = .ok (.iconst 0, 1) := by decide +kernel
theorem dX11_placeOf_1 : decode cX11_placeOf 1 = .ok (.istore_n 2, 1) := by decide +kernel
theorem dX11_placeOf_2 : decode cX11_placeOf 2 = .ok (.aload_n 0, 1) := by decide +kernel
theorem dX11_placeOf_3 : decode cX11_placeOf 3 = .ok (.iload_n 2, 1) := by decide +kernel
theorem dX11_placeOf_4 : decode cX11_placeOf 4 = .ok (.invokevirtual 133, 3) := by decide +kernel
theorem dX11_placeOf_7 : decode cX11_placeOf 7 = .ok (.iload_n 1, 1) := by decide +kernel
theorem dX11_placeOf_8 : decode cX11_placeOf 8 = .ok (.if_icmp .eq 9, 3) := by decide +kernel
theorem dX11_placeOf_11 : decode cX11_placeOf 11 = .ok (.iinc 2 1, 3) := by decide +kernel
theorem dX11_placeOf_14 : decode cX11_placeOf 14 = .ok (.goto (-12), 3) := by decide +kernel
theorem dX11_placeOf_17 : decode cX11_placeOf 17 = .ok (.iload_n 2, 1) := by decide +kernel
theorem dX11_placeOf_18 : decode cX11_placeOf 18 = .ok (.ireturn, 1) := by decide +kernel
theorem dX11_nearest_0 : decode cX11_nearest 0 = .ok (.bipush (-5), 2) := by decide +kernel
theorem dX11_nearest_2 : decode cX11_nearest 2 = .ok (.istore_n 3, 1) := by decide +kernel
theorem dX11_nearest_3 : decode cX11_nearest 3 = .ok (.aload_n 0, 1) := by decide +kernel
theorem dX11_nearest_4 : decode cX11_nearest 4 = .ok (.iload_n 1, 1) := by decide +kernel
theorem dX11_nearest_5 : decode cX11_nearest 5 = .ok (.invokevirtual 136, 3) := by decide +kernel
theorem dX11_nearest_8 : decode cX11_nearest 8 = .ok (.istore 4, 2) := by decide +kernel
theorem dX11_nearest_10 : decode cX11_nearest 10 = .ok (.iconst 0, 1) := by decide +kernel
theorem dX11_nearest_11 : decode cX11_nearest 11 = .ok (.istore 5, 2) := by decide +kernel
theorem dX11_nearest_13 : decode cX11_nearest 13 = .ok (.iload 5, 2) := by decide +kernel
theorem dX11_nearest_15 : decode cX11_nearest 15 = .ok (.iload 4, 2) := by decide +kernel
theorem dX11_nearest_17 : decode cX11_nearest 17 = .ok (.if_icmp .gt 94, 3) := by decide +kernel
theorem dX11_nearest_20 : decode cX11_nearest 20 = .ok (.aload_n 0, 1) := by decide +kernel
theorem dX11_nearest_21 : decode cX11_nearest 21 = .ok (.iload 5, 2) := by decide +kernel
theorem dX11_nearest_23 : decode cX11_nearest 23 = .ok (.invokevirtual 133, 3) := by decide +kernel
theorem dX11_nearest_26 : decode cX11_nearest 26 = .ok (.istore 6, 2) := by decide +kernel
theorem dX11_nearest_28 : decode cX11_nearest 28 = .ok (.iload 6, 2) := by decide +kernel
theorem dX11_nearest_30 : decode cX11_nearest 30 = .ok (.iload_n 1, 1) := by decide +kernel
theorem dX11_nearest_31 : decode cX11_nearest 31 = .ok (.if_icmp .ne 7, 3) := by decide +kernel
theorem dX11_nearest_34 : decode cX11_nearest 34 = .ok (.iload_n 2, 1) := by decide +kernel
theorem dX11_nearest_35 : decode cX11_nearest 35 = .ok (.goto 9, 3) := by decide +kernel
theorem dX11_nearest_38 : decode cX11_nearest 38 = .ok (.aload_n 0, 1) := by decide +kernel
theorem dX11_nearest_39 : decode cX11_nearest 39 = .ok (.iload 6, 2) := by decide +kernel
theorem dX11_nearest_41 : decode cX11_nearest 41 = .ok (.invokevirtual 74, 3) := by decide +kernel
theorem dX11_nearest_44 : decode cX11_nearest 44 = .ok (.istore 7, 2) := by decide +kernel
theorem dX11_nearest_46 : decode cX11_nearest 46 = .ok (.iconst 0, 1) := by decide +kernel
theorem dX11_nearest_47 : decode cX11_nearest 47 = .ok (.istore 8, 2) := by decide +kernel
theorem dX11_nearest_49 : decode cX11_nearest 49 = .ok (.iload 8, 2) := by decide +kernel
theorem dX11_nearest_51 : decode cX11_nearest 51 = .ok (.iload 7, 2) := by decide +kernel
theorem dX11_nearest_53 : decode cX11_nearest 53 = .ok (.if_icmp .ge 52, 3) := by decide +kernel
theorem dX11_nearest_56 : decode cX11_nearest 56 = .ok (.aload_n 0, 1) := by decide +kernel
theorem dX11_nearest_57 : decode cX11_nearest 57 = .ok (.iload 6, 2) := by decide +kernel
theorem dX11_nearest_59 : decode cX11_nearest 59 = .ok (.invokevirtual 139, 3) := by decide +kernel
theorem dX11_nearest_62 : decode cX11_nearest 62 = .ok (.ifCond .eq 43, 3) := by decide +kernel
theorem dX11_nearest_65 : decode cX11_nearest 65 = .ok (.aload_n 0, 1) := by decide +kernel
theorem dX11_nearest_66 : decode cX11_nearest 66 = .ok (.aload_n 0, 1) := by decide +kernel
theorem dX11_nearest_67 : decode cX11_nearest 67 = .ok (.iload 6, 2) := by decide +kernel
theorem dX11_nearest_69 : decode cX11_nearest 69 = .ok (.iload 8, 2) := by decide +kernel
theorem dX11_nearest_71 : decode cX11_nearest 71 = .ok (.invokevirtual 142, 3) := by decide +kernel
theorem dX11_nearest_74 : decode cX11_nearest 74 = .ok (.aload_n 0, 1) := by decide +kernel
theorem dX11_nearest_75 : decode cX11_nearest 75 = .ok (.iload_n 1, 1) := by decide +kernel
theorem dX11_nearest_76 : decode cX11_nearest 76 = .ok (.iload_n 2, 1) := by decide +kernel
theorem dX11_nearest_77 : decode cX11_nearest 77 = .ok (.invokevirtual 142, 3) := by decide +kernel
theorem dX11_nearest_80 : decode cX11_nearest 80 = .ok (.invokevirtual 119, 3) := by decide +kernel
theorem dX11_nearest_83 : decode cX11_nearest 83 = .ok (.ifCond .eq 14, 3) := by decide +kernel
theorem dX11_nearest_86 : decode cX11_nearest 86 = .ok (.bipush 100, 2) := by decide +kernel
theorem dX11_nearest_88 : decode cX11_nearest 88 = .ok (.iload 6, 2) := by decide +kernel
theorem dX11_nearest_90 : decode cX11_nearest 90 = .ok (.imul, 1) := by decide +kernel
theorem dX11_nearest_91 : decode cX11_nearest 91 = .ok (.iload 8, 2) := by decide +kernel
theorem dX11_nearest_93 : decode cX11_nearest 93 = .ok (.iadd, 1) := by decide +kernel
theorem dX11_nearest_94 : decode cX11_nearest 94 = .ok (.goto 4, 3) := by decide +kernel
theorem dX11_nearest_97 : decode cX11_nearest 97 = .ok (.iload_n 3, 1) := by decide +kernel
theorem dX11_nearest_98 : decode cX11_nearest 98 = .ok (.istore_n 3, 1) := by decide +kernel
theorem dX11_nearest_99 : decode cX11_nearest 99 = .ok (.iinc 8 1, 3) := by decide +kernel
theorem dX11_nearest_102 : decode cX11_nearest 102 = .ok (.goto (-53), 3) := by decide +kernel
theorem dX11_nearest_105 : decode cX11_nearest 105 = .ok (.iinc 5 1, 3) := by decide +kernel
theorem dX11_nearest_108 : decode cX11_nearest 108 = .ok (.goto (-95), 3) := by decide +kernel
theorem dX11_nearest_111 : decode cX11_nearest 111 = .ok (.iload_n 3, 1) := by decide +kernel
theorem dX11_nearest_112 : decode cX11_nearest 112 = .ok (.ireturn, 1) := by decide +kernel
theorem dX11_bandOf_0 : decode cX11_bandOf 0 = .ok (.aload_n 0, 1) := by decide +kernel
theorem dX11_bandOf_1 : decode cX11_bandOf 1 = .ok (.iload_n 1, 1) := by decide +kernel
theorem dX11_bandOf_2 : decode cX11_bandOf 2 = .ok (.iload_n 2, 1) := by decide +kernel
theorem dX11_bandOf_3 : decode cX11_bandOf 3 = .ok (.invokevirtual 145, 3) := by decide +kernel
theorem dX11_bandOf_6 : decode cX11_bandOf 6 = .ok (.ifCond .lt 5, 3) := by decide +kernel
theorem dX11_bandOf_9 : decode cX11_bandOf 9 = .ok (.iconst 0, 1) := by decide +kernel
theorem dX11_bandOf_10 : decode cX11_bandOf 10 = .ok (.ireturn, 1) := by decide +kernel
theorem dX11_bandOf_11 : decode cX11_bandOf 11 = .ok (.aload_n 0, 1) := by decide +kernel
theorem dX11_bandOf_12 : decode cX11_bandOf 12 = .ok (.aload_n 0, 1) := by decide +kernel
theorem dX11_bandOf_13 : decode cX11_bandOf 13 = .ok (.iload_n 1, 1) := by decide +kernel
theorem dX11_bandOf_14 : decode cX11_bandOf 14 = .ok (.iload_n 2, 1) := by decide +kernel
theorem dX11_bandOf_15 : decode cX11_bandOf 15 = .ok (.invokevirtual 142, 3) := by decide +kernel
theorem dX11_bandOf_18 : decode cX11_bandOf 18 = .ok (.invokevirtual 148, 3) := by decide +kernel
theorem dX11_bandOf_21 : decode cX11_bandOf 21 = .ok (.istore_n 3, 1) := by decide +kernel
theorem dX11_bandOf_22 : decode cX11_bandOf 22 = .ok (.iload_n 3, 1) := by decide +kernel
theorem dX11_bandOf_23 : decode cX11_bandOf 23 = .ok (.bipush 100, 2) := by decide +kernel
theorem dX11_bandOf_25 : decode cX11_bandOf 25 = .ok (.if_icmp .ne 7, 3) := by decide +kernel
theorem dX11_bandOf_28 : decode cX11_bandOf 28 = .ok (.iconst 1, 1) := by decide +kernel
theorem dX11_bandOf_29 : decode cX11_bandOf 29 = .ok (.goto 34, 3) := by decide +kernel
theorem dX11_bandOf_32 : decode cX11_bandOf 32 = .ok (.iload_n 3, 1) := by decide +kernel
theorem dX11_bandOf_33 : decode cX11_bandOf 33 = .ok (.bipush 85, 2) := by decide +kernel
theorem dX11_bandOf_35 : decode cX11_bandOf 35 = .ok (.if_icmp .lt 7, 3) := by decide +kernel
theorem dX11_bandOf_38 : decode cX11_bandOf 38 = .ok (.iconst 2, 1) := by decide +kernel
theorem dX11_bandOf_39 : decode cX11_bandOf 39 = .ok (.goto 24, 3) := by decide +kernel
theorem dX11_bandOf_42 : decode cX11_bandOf 42 = .ok (.iload_n 3, 1) := by decide +kernel
theorem dX11_bandOf_43 : decode cX11_bandOf 43 = .ok (.bipush 75, 2) := by decide +kernel
theorem dX11_bandOf_45 : decode cX11_bandOf 45 = .ok (.if_icmp .lt 7, 3) := by decide +kernel
theorem dX11_bandOf_48 : decode cX11_bandOf 48 = .ok (.iconst 3, 1) := by decide +kernel
theorem dX11_bandOf_49 : decode cX11_bandOf 49 = .ok (.goto 14, 3) := by decide +kernel
theorem dX11_bandOf_52 : decode cX11_bandOf 52 = .ok (.iload_n 3, 1) := by decide +kernel
theorem dX11_bandOf_53 : decode cX11_bandOf 53 = .ok (.bipush 50, 2) := by decide +kernel
theorem dX11_bandOf_55 : decode cX11_bandOf 55 = .ok (.if_icmp .lt 7, 3) := by decide +kernel
theorem dX11_bandOf_58 : decode cX11_bandOf 58 = .ok (.iconst 4, 1) := by decide +kernel
theorem dX11_bandOf_59 : decode cX11_bandOf 59 = .ok (.goto 4, 3) := by decide +kernel
theorem dX11_bandOf_62 : decode cX11_bandOf 62 = .ok (.iconst 5, 1) := by decide +kernel
theorem dX11_bandOf_63 : decode cX11_bandOf 63 = .ok (.ireturn, 1) := by decide +kernel
theorem dX11_wordsBy_0 : decode cX11_wordsBy 0 = .ok (.iconst 0, 1) := by decide +kernel
theorem dX11_wordsBy_1 : decode cX11_wordsBy 1 = .ok (.istore_n 3, 1) := by decide +kernel
theorem dX11_wordsBy_2 : decode cX11_wordsBy 2 = .ok (.iconst 0, 1) := by decide +kernel
theorem dX11_wordsBy_3 : decode cX11_wordsBy 3 = .ok (.istore 4, 2) := by decide +kernel
theorem dX11_wordsBy_5 : decode cX11_wordsBy 5 = .ok (.iload 4, 2) := by decide +kernel
theorem dX11_wordsBy_7 : decode cX11_wordsBy 7 = .ok (.aload_n 0, 1) := by decide +kernel
theorem dX11_wordsBy_8 : decode cX11_wordsBy 8 = .ok (.iload_n 1, 1) := by decide +kernel
theorem dX11_wordsBy_9 : decode cX11_wordsBy 9 = .ok (.invokevirtual 74, 3) := by decide +kernel
theorem dX11_wordsBy_12 : decode cX11_wordsBy 12 = .ok (.if_icmp .ge 40, 3) := by decide +kernel
theorem dX11_wordsBy_15 : decode cX11_wordsBy 15 = .ok (.iload_n 3, 1) := by decide +kernel
theorem dX11_wordsBy_16 : decode cX11_wordsBy 16 = .ok (.aload_n 0, 1) := by decide +kernel
theorem dX11_wordsBy_17 : decode cX11_wordsBy 17 = .ok (.iload_n 1, 1) := by decide +kernel
theorem dX11_wordsBy_18 : decode cX11_wordsBy 18 = .ok (.iload 4, 2) := by decide +kernel
theorem dX11_wordsBy_20 : decode cX11_wordsBy 20 = .ok (.invokevirtual 151, 3) := by decide +kernel
theorem dX11_wordsBy_23 : decode cX11_wordsBy 23 = .ok (.iload_n 2, 1) := by decide +kernel
theorem dX11_wordsBy_24 : decode cX11_wordsBy 24 = .ok (.if_icmp .ne 19, 3) := by decide +kernel
theorem dX11_wordsBy_27 : decode cX11_wordsBy 27 = .ok (.aload_n 0, 1) := by decide +kernel
theorem dX11_wordsBy_28 : decode cX11_wordsBy 28 = .ok (.aload_n 0, 1) := by decide +kernel
theorem dX11_wordsBy_29 : decode cX11_wordsBy 29 = .ok (.iload_n 1, 1) := by decide +kernel
theorem dX11_wordsBy_30 : decode cX11_wordsBy 30 = .ok (.iload 4, 2) := by decide +kernel
theorem dX11_wordsBy_32 : decode cX11_wordsBy 32 = .ok (.invokevirtual 142, 3) := by decide +kernel
theorem dX11_wordsBy_35 : decode cX11_wordsBy 35 = .ok (.iconst 0, 1) := by decide +kernel
theorem dX11_wordsBy_36 : decode cX11_wordsBy 36 = .ok (.iadd, 1) := by decide +kernel
theorem dX11_wordsBy_37 : decode cX11_wordsBy 37 = .ok (.invokevirtual 53, 3) := by decide +kernel
theorem dX11_wordsBy_40 : decode cX11_wordsBy 40 = .ok (.goto 4, 3) := by decide +kernel
theorem dX11_wordsBy_43 : decode cX11_wordsBy 43 = .ok (.iconst 0, 1) := by decide +kernel
theorem dX11_wordsBy_44 : decode cX11_wordsBy 44 = .ok (.iadd, 1) := by decide +kernel
theorem dX11_wordsBy_45 : decode cX11_wordsBy 45 = .ok (.istore_n 3, 1) := by decide +kernel
theorem dX11_wordsBy_46 : decode cX11_wordsBy 46 = .ok (.iinc 4 1, 3) := by decide +kernel
theorem dX11_wordsBy_49 : decode cX11_wordsBy 49 = .ok (.goto (-44), 3) := by decide +kernel
theorem dX11_wordsBy_52 : decode cX11_wordsBy 52 = .ok (.iload_n 3, 1) := by decide +kernel
theorem dX11_wordsBy_53 : decode cX11_wordsBy 53 = .ok (.ireturn, 1) := by decide +kernel
theorem dX11_words_0 : decode cX11_words 0 = .ok (.iconst 0, 1) := by decide +kernel
theorem dX11_words_1 : decode cX11_words 1 = .ok (.istore_n 2, 1) := by decide +kernel
theorem dX11_words_2 : decode cX11_words 2 = .ok (.iconst 0, 1) := by decide +kernel
theorem dX11_words_3 : decode cX11_words 3 = .ok (.istore_n 3, 1) := by decide +kernel
theorem dX11_words_4 : decode cX11_words 4 = .ok (.iload_n 3, 1) := by decide +kernel
theorem dX11_words_5 : decode cX11_words 5 = .ok (.aload_n 0, 1) := by decide +kernel
theorem dX11_words_6 : decode cX11_words 6 = .ok (.iload_n 1, 1) := by decide +kernel
theorem dX11_words_7 : decode cX11_words 7 = .ok (.invokevirtual 74, 3) := by decide +kernel
theorem dX11_words_10 : decode cX11_words 10 = .ok (.if_icmp .ge 24, 3) := by decide +kernel
theorem dX11_words_13 : decode cX11_words 13 = .ok (.iload_n 2, 1) := by decide +kernel
theorem dX11_words_14 : decode cX11_words 14 = .ok (.aload_n 0, 1) := by decide +kernel
theorem dX11_words_15 : decode cX11_words 15 = .ok (.aload_n 0, 1) := by decide +kernel
theorem dX11_words_16 : decode cX11_words 16 = .ok (.iload_n 1, 1) := by decide +kernel
theorem dX11_words_17 : decode cX11_words 17 = .ok (.iload_n 3, 1) := by decide +kernel
theorem dX11_words_18 : decode cX11_words 18 = .ok (.invokevirtual 142, 3) := by decide +kernel
theorem dX11_words_21 : decode cX11_words 21 = .ok (.iconst 0, 1) := by decide +kernel
theorem dX11_words_22 : decode cX11_words 22 = .ok (.iadd, 1) := by decide +kernel
theorem dX11_words_23 : decode cX11_words 23 = .ok (.invokevirtual 53, 3) := by decide +kernel
theorem dX11_words_26 : decode cX11_words 26 = .ok (.iadd, 1) := by decide +kernel
theorem dX11_words_27 : decode cX11_words 27 = .ok (.istore_n 2, 1) := by decide +kernel
theorem dX11_words_28 : decode cX11_words 28 = .ok (.iinc 3 1, 3) := by decide +kernel
theorem dX11_words_31 : decode cX11_words 31 = .ok (.goto (-27), 3) := by decide +kernel
theorem dX11_words_34 : decode cX11_words 34 = .ok (.iload_n 2, 1) := by decide +kernel
theorem dX11_words_35 : decode cX11_words 35 = .ok (.ireturn, 1) := by decide +kernel
theorem dX11_priceOf_0 : decode cX11_priceOf 0 = .ok (.iconst 0, 1) := by decide +kernel
theorem dX11_priceOf_1 : decode cX11_priceOf 1 = .ok (.istore_n 3, 1) := by decide +kernel
theorem dX11_priceOf_2 : decode cX11_priceOf 2 = .ok (.iconst 0, 1) := by decide +kernel
theorem dX11_priceOf_3 : decode cX11_priceOf 3 = .ok (.istore 4, 2) := by decide +kernel
theorem dX11_priceOf_5 : decode cX11_priceOf 5 = .ok (.iload 4, 2) := by decide +kernel
theorem dX11_priceOf_7 : decode cX11_priceOf 7 = .ok (.bipush 6, 2) := by decide +kernel
theorem dX11_priceOf_9 : decode cX11_priceOf 9 = .ok (.if_icmp .ge 43, 3) := by decide +kernel
theorem dX11_priceOf_12 : decode cX11_priceOf 12 = .ok (.iload_n 3, 1) := by decide +kernel
theorem dX11_priceOf_13 : decode cX11_priceOf 13 = .ok (.aload_n 0, 1) := by decide +kernel
theorem dX11_priceOf_14 : decode cX11_priceOf 14 = .ok (.iload_n 1, 1) := by decide +kernel
theorem dX11_priceOf_15 : decode cX11_priceOf 15 = .ok (.iload 4, 2) := by decide +kernel
theorem dX11_priceOf_17 : decode cX11_priceOf 17 = .ok (.invokevirtual 154, 3) := by decide +kernel
theorem dX11_priceOf_20 : decode cX11_priceOf 20 = .ok (.aload_n 0, 1) := by decide +kernel
theorem dX11_priceOf_21 : decode cX11_priceOf 21 = .ok (.aload_n 0, 1) := by decide +kernel
theorem dX11_priceOf_22 : decode cX11_priceOf 22 = .ok (.iload_n 2, 1) := by decide +kernel
theorem dX11_priceOf_23 : decode cX11_priceOf 23 = .ok (.invokevirtual 79, 3) := by decide +kernel
theorem dX11_priceOf_26 : decode cX11_priceOf 26 = .ok (.iconst 0, 1) := by decide +kernel
theorem dX11_priceOf_27 : decode cX11_priceOf 27 = .ok (.iadd, 1) := by decide +kernel
theorem dX11_priceOf_28 : decode cX11_priceOf 28 = .ok (.invokevirtual 53, 3) := by decide +kernel
theorem dX11_priceOf_31 : decode cX11_priceOf 31 = .ok (.imul, 1) := by decide +kernel
theorem dX11_priceOf_32 : decode cX11_priceOf 32 = .ok (.aload_n 0, 1) := by decide +kernel
theorem dX11_priceOf_33 : decode cX11_priceOf 33 = .ok (.iconst 4, 1) := by decide +kernel
theorem dX11_priceOf_34 : decode cX11_priceOf 34 = .ok (.iload 4, 2) := by decide +kernel
theorem dX11_priceOf_36 : decode cX11_priceOf 36 = .ok (.iadd, 1) := by decide +kernel
theorem dX11_priceOf_37 : decode cX11_priceOf 37 = .ok (.invokevirtual 53, 3) := by decide +kernel
theorem dX11_priceOf_40 : decode cX11_priceOf 40 = .ok (.imul, 1) := by decide +kernel
theorem dX11_priceOf_41 : decode cX11_priceOf 41 = .ok (.bipush 100, 2) := by decide +kernel
theorem dX11_priceOf_43 : decode cX11_priceOf 43 = .ok (.idiv, 1) := by decide +kernel
theorem dX11_priceOf_44 : decode cX11_priceOf 44 = .ok (.iadd, 1) := by decide +kernel
theorem dX11_priceOf_45 : decode cX11_priceOf 45 = .ok (.istore_n 3, 1) := by decide +kernel
theorem dX11_priceOf_46 : decode cX11_priceOf 46 = .ok (.iinc 4 1, 3) := by decide +kernel
theorem dX11_priceOf_49 : decode cX11_priceOf 49 = .ok (.goto (-44), 3) := by decide +kernel
theorem dX11_priceOf_52 : decode cX11_priceOf 52 = .ok (.iload_n 3, 1) := by decide +kernel
theorem dX11_priceOf_53 : decode cX11_priceOf 53 = .ok (.ireturn, 1) := by decide +kernel
theorem dX11_newFile_0 : decode cX11_newFile 0 = .ok (.aload_n 0, 1) := by decide +kernel
theorem dX11_newFile_1 : decode cX11_newFile 1 = .ok (.getfield 7, 3) := by decide +kernel
theorem dX11_newFile_4 : decode cX11_newFile 4 = .ok (.iconst 0, 1) := by decide +kernel
theorem dX11_newFile_5 : decode cX11_newFile 5 = .ok (.laload, 1) := by decide +kernel
theorem dX11_newFile_6 : decode cX11_newFile 6 = .ok (.ldc2_w 157, 3) := by decide +kernel
theorem dX11_newFile_9 : decode cX11_newFile 9 = .ok (.lcmp, 1) := by decide +kernel
theorem dX11_newFile_10 : decode cX11_newFile 10 = .ok (.ifCond .ne 6, 3) := by decide +kernel
theorem dX11_newFile_13 : decode cX11_newFile 13 = .ok (.bipush (-3), 2) := by decide +kernel
theorem dX11_newFile_15 : decode cX11_newFile 15 = .ok (.ireturn, 1) := by decide +kernel
theorem dX11_newFile_16 : decode cX11_newFile 16 = .ok (.aload_n 0, 1) := by decide +kernel
theorem dX11_newFile_17 : decode cX11_newFile 17 = .ok (.invokevirtual 57, 3) := by decide +kernel
theorem dX11_newFile_20 : decode cX11_newFile 20 = .ok (.aload_n 0, 1) := by decide +kernel
theorem dX11_newFile_21 : decode cX11_newFile 21 = .ok (.iconst 0, 1) := by decide +kernel
theorem dX11_newFile_22 : decode cX11_newFile 22 = .ok (.invokevirtual 53, 3) := by decide +kernel
theorem dX11_newFile_25 : decode cX11_newFile 25 = .ok (.istore_n 1, 1) := by decide +kernel
theorem dX11_newFile_26 : decode cX11_newFile 26 = .ok (.aload_n 0, 1) := by decide +kernel
theorem dX11_newFile_27 : decode cX11_newFile 27 = .ok (.getfield 7, 3) := by decide +kernel
theorem dX11_newFile_30 : decode cX11_newFile 30 = .ok (.aload_n 0, 1) := by decide +kernel
theorem dX11_newFile_31 : decode cX11_newFile 31 = .ok (.iload_n 1, 1) := by decide +kernel
theorem dX11_newFile_32 : decode cX11_newFile 32 = .ok (.invokevirtual 64, 3) := by decide +kernel
theorem dX11_newFile_35 : decode cX11_newFile 35 = .ok (.iconst 0, 1) := by decide +kernel
theorem dX11_newFile_36 : decode cX11_newFile 36 = .ok (.iadd, 1) := by decide +kernel
theorem dX11_newFile_37 : decode cX11_newFile 37 = .ok (.lconst 0, 1) := by decide +kernel
theorem dX11_newFile_38 : decode cX11_newFile 38 = .ok (.lastore, 1) := by decide +kernel
theorem dX11_newFile_39 : decode cX11_newFile 39 = .ok (.aload_n 0, 1) := by decide +kernel
theorem dX11_newFile_40 : decode cX11_newFile 40 = .ok (.getfield 7, 3) := by decide +kernel
theorem dX11_newFile_43 : decode cX11_newFile 43 = .ok (.aload_n 0, 1) := by decide +kernel
theorem dX11_newFile_44 : decode cX11_newFile 44 = .ok (.iload_n 1, 1) := by decide +kernel
theorem dX11_newFile_45 : decode cX11_newFile 45 = .ok (.invokevirtual 64, 3) := by decide +kernel
theorem dX11_newFile_48 : decode cX11_newFile 48 = .ok (.iconst 1, 1) := by decide +kernel
theorem dX11_newFile_49 : decode cX11_newFile 49 = .ok (.iadd, 1) := by decide +kernel
theorem dX11_newFile_50 : decode cX11_newFile 50 = .ok (.lconst 0, 1) := by decide +kernel
theorem dX11_newFile_51 : decode cX11_newFile 51 = .ok (.lastore, 1) := by decide +kernel
theorem dX11_newFile_52 : decode cX11_newFile 52 = .ok (.aload_n 0, 1) := by decide +kernel
theorem dX11_newFile_53 : decode cX11_newFile 53 = .ok (.getfield 7, 3) := by decide +kernel
theorem dX11_newFile_56 : decode cX11_newFile 56 = .ok (.aload_n 0, 1) := by decide +kernel
theorem dX11_newFile_57 : decode cX11_newFile 57 = .ok (.iload_n 1, 1) := by decide +kernel
theorem dX11_newFile_58 : decode cX11_newFile 58 = .ok (.invokevirtual 64, 3) := by decide +kernel
theorem dX11_newFile_61 : decode cX11_newFile 61 = .ok (.iconst 2, 1) := by decide +kernel
theorem dX11_newFile_62 : decode cX11_newFile 62 = .ok (.iadd, 1) := by decide +kernel
theorem dX11_newFile_63 : decode cX11_newFile 63 = .ok (.ldc2_w 82, 3) := by decide +kernel
theorem dX11_newFile_66 : decode cX11_newFile 66 = .ok (.lastore, 1) := by decide +kernel
theorem dX11_newFile_67 : decode cX11_newFile 67 = .ok (.aload_n 0, 1) := by decide +kernel
theorem dX11_newFile_68 : decode cX11_newFile 68 = .ok (.getfield 7, 3) := by decide +kernel
theorem dX11_newFile_71 : decode cX11_newFile 71 = .ok (.aload_n 0, 1) := by decide +kernel
theorem dX11_newFile_72 : decode cX11_newFile 72 = .ok (.iload_n 1, 1) := by decide +kernel
theorem dX11_newFile_73 : decode cX11_newFile 73 = .ok (.invokevirtual 64, 3) := by decide +kernel
theorem dX11_newFile_76 : decode cX11_newFile 76 = .ok (.iconst 3, 1) := by decide +kernel
theorem dX11_newFile_77 : decode cX11_newFile 77 = .ok (.iadd, 1) := by decide +kernel
theorem dX11_newFile_78 : decode cX11_newFile 78 = .ok (.ldc2_w 82, 3) := by decide +kernel
theorem dX11_newFile_81 : decode cX11_newFile 81 = .ok (.lastore, 1) := by decide +kernel
theorem dX11_newFile_82 : decode cX11_newFile 82 = .ok (.aload_n 0, 1) := by decide +kernel
theorem dX11_newFile_83 : decode cX11_newFile 83 = .ok (.getfield 7, 3) := by decide +kernel
theorem dX11_newFile_86 : decode cX11_newFile 86 = .ok (.aload_n 0, 1) := by decide +kernel
theorem dX11_newFile_87 : decode cX11_newFile 87 = .ok (.iload_n 1, 1) := by decide +kernel
theorem dX11_newFile_88 : decode cX11_newFile 88 = .ok (.invokevirtual 64, 3) := by decide +kernel
theorem dX11_newFile_91 : decode cX11_newFile 91 = .ok (.iconst 4, 1) := by decide +kernel
theorem dX11_newFile_92 : decode cX11_newFile 92 = .ok (.iadd, 1) := by decide +kernel
theorem dX11_newFile_93 : decode cX11_newFile 93 = .ok (.ldc2_w 82, 3) := by decide +kernel
theorem dX11_newFile_96 : decode cX11_newFile 96 = .ok (.lastore, 1) := by decide +kernel
theorem dX11_newFile_97 : decode cX11_newFile 97 = .ok (.aload_n 0, 1) := by decide +kernel
theorem dX11_newFile_98 : decode cX11_newFile 98 = .ok (.getfield 7, 3) := by decide +kernel
theorem dX11_newFile_101 : decode cX11_newFile 101 = .ok (.aload_n 0, 1) := by decide +kernel
theorem dX11_newFile_102 : decode cX11_newFile 102 = .ok (.iload_n 1, 1) := by decide +kernel
theorem dX11_newFile_103 : decode cX11_newFile 103 = .ok (.invokevirtual 64, 3) := by decide +kernel
theorem dX11_newFile_106 : decode cX11_newFile 106 = .ok (.iconst 5, 1) := by decide +kernel
theorem dX11_newFile_107 : decode cX11_newFile 107 = .ok (.iadd, 1) := by decide +kernel
theorem dX11_newFile_108 : decode cX11_newFile 108 = .ok (.lconst 0, 1) := by decide +kernel
theorem dX11_newFile_109 : decode cX11_newFile 109 = .ok (.lastore, 1) := by decide +kernel
theorem dX11_newFile_110 : decode cX11_newFile 110 = .ok (.aload_n 0, 1) := by decide +kernel
theorem dX11_newFile_111 : decode cX11_newFile 111 = .ok (.getfield 7, 3) := by decide +kernel
theorem dX11_newFile_114 : decode cX11_newFile 114 = .ok (.bipush 10, 2) := by decide +kernel
theorem dX11_newFile_116 : decode cX11_newFile 116 = .ok (.iload_n 1, 1) := by decide +kernel
theorem dX11_newFile_117 : decode cX11_newFile 117 = .ok (.iadd, 1) := by decide +kernel
theorem dX11_newFile_118 : decode cX11_newFile 118 = .ok (.iload_n 1, 1) := by decide +kernel
theorem dX11_newFile_119 : decode cX11_newFile 119 = .ok (.i2l, 1) := by decide +kernel
theorem dX11_newFile_120 : decode cX11_newFile 120 = .ok (.lastore, 1) := by decide +kernel
theorem dX11_newFile_121 : decode cX11_newFile 121 = .ok (.aload_n 0, 1) := by decide +kernel
theorem dX11_newFile_122 : decode cX11_newFile 122 = .ok (.getfield 7, 3) := by decide +kernel
theorem dX11_newFile_125 : decode cX11_newFile 125 = .ok (.iconst 0, 1) := by decide +kernel
theorem dX11_newFile_126 : decode cX11_newFile 126 = .ok (.iload_n 1, 1) := by decide +kernel
theorem dX11_newFile_127 : decode cX11_newFile 127 = .ok (.iconst 1, 1) := by decide +kernel
theorem dX11_newFile_128 : decode cX11_newFile 128 = .ok (.iadd, 1) := by decide +kernel
theorem dX11_newFile_129 : decode cX11_newFile 129 = .ok (.i2l, 1) := by decide +kernel
theorem dX11_newFile_130 : decode cX11_newFile 130 = .ok (.lastore, 1) := by decide +kernel
theorem dX11_newFile_131 : decode cX11_newFile 131 = .ok (.iload_n 1, 1) := by decide +kernel
theorem dX11_newFile_132 : decode cX11_newFile 132 = .ok (.ireturn, 1) := by decide +kernel
theorem dX11_lay_0 : decode cX11_lay 0 = .ok (.iconst 0, 1) := by decide +kernel
theorem dX11_lay_1 : decode cX11_lay 1 = .ok (.istore_n 3, 1) := by decide +kernel
theorem dX11_lay_2 : decode cX11_lay 2 = .ok (.iload_n 3, 1) := by decide +kernel
theorem dX11_lay_3 : decode cX11_lay 3 = .ok (.bipush 9, 2) := by decide +kernel
theorem dX11_lay_5 : decode cX11_lay 5 = .ok (.if_icmp .ge 28, 3) := by decide +kernel
theorem dX11_lay_8 : decode cX11_lay 8 = .ok (.aload_n 0, 1) := by decide +kernel
theorem dX11_lay_9 : decode cX11_lay 9 = .ok (.getfield 7, 3) := by decide +kernel
theorem dX11_lay_12 : decode cX11_lay 12 = .ok (.iload_n 2, 1) := by decide +kernel
theorem dX11_lay_13 : decode cX11_lay 13 = .ok (.iload_n 3, 1) := by decide +kernel
theorem dX11_lay_14 : decode cX11_lay 14 = .ok (.iadd, 1) := by decide +kernel
theorem dX11_lay_15 : decode cX11_lay 15 = .ok (.aload_n 0, 1) := by decide +kernel
theorem dX11_lay_16 : decode cX11_lay 16 = .ok (.getfield 23, 3) := by decide +kernel
theorem dX11_lay_19 : decode cX11_lay 19 = .ok (.bipush 11, 2) := by decide +kernel
theorem dX11_lay_21 : decode cX11_lay 21 = .ok (.iload_n 1, 1) := by decide +kernel
theorem dX11_lay_22 : decode cX11_lay 22 = .ok (.imul, 1) := by decide +kernel
theorem dX11_lay_23 : decode cX11_lay 23 = .ok (.iload_n 3, 1) := by decide +kernel
theorem dX11_lay_24 : decode cX11_lay 24 = .ok (.iadd, 1) := by decide +kernel
theorem dX11_lay_25 : decode cX11_lay 25 = .ok (.laload, 1) := by decide +kernel
theorem dX11_lay_26 : decode cX11_lay 26 = .ok (.lastore, 1) := by decide +kernel
theorem dX11_lay_27 : decode cX11_lay 27 = .ok (.iinc 3 1, 3) := by decide +kernel
theorem dX11_lay_30 : decode cX11_lay 30 = .ok (.goto (-28), 3) := by decide +kernel
theorem dX11_lay_33 : decode cX11_lay 33 = .ok (.return_, 1) := by decide +kernel
theorem dX11_readSegments_0 : decode cX11_readSegments 0 = .ok (.aload_n 0, 1) := by decide +kernel
theorem dX11_readSegments_1 : decode cX11_readSegments 1 = .ok (.iload_n 1, 1) := by decide +kernel
theorem dX11_readSegments_2 : decode cX11_readSegments 2 = .ok (.invokevirtual 70, 3) := by decide +kernel
theorem dX11_readSegments_5 : decode cX11_readSegments 5 = .ok (.ifCond .eq 5, 3) := by decide +kernel
theorem dX11_readSegments_8 : decode cX11_readSegments 8 = .ok (.iconst (-1), 1) := by decide +kernel
theorem dX11_readSegments_9 : decode cX11_readSegments 9 = .ok (.ireturn, 1) := by decide +kernel
theorem dX11_readSegments_10 : decode cX11_readSegments 10 = .ok (.aload_n 0, 1) := by decide +kernel
theorem dX11_readSegments_11 : decode cX11_readSegments 11 = .ok (.invokevirtual 159, 3) := by decide +kernel
theorem dX11_readSegments_14 : decode cX11_readSegments 14 = .ok (.istore_n 2, 1) := by decide +kernel
theorem dX11_readSegments_15 : decode cX11_readSegments 15 = .ok (.iload_n 2, 1) := by decide +kernel
theorem dX11_readSegments_16 : decode cX11_readSegments 16 = .ok (.ifCond .lt 8, 3) := by decide +kernel
theorem dX11_readSegments_19 : decode cX11_readSegments 19 = .ok (.bipush (-100), 2) := by decide +kernel
theorem dX11_readSegments_21 : decode cX11_readSegments 21 = .ok (.iload_n 2, 1) := by decide +kernel
theorem dX11_readSegments_22 : decode cX11_readSegments 22 = .ok (.isub, 1) := by decide +kernel
theorem dX11_readSegments_23 : decode cX11_readSegments 23 = .ok (.ireturn, 1) := by decide +kernel
theorem dX11_readSegments_24 : decode cX11_readSegments 24 = .ok (.aload_n 0, 1) := by decide +kernel
theorem dX11_readSegments_25 : decode cX11_readSegments 25 = .ok (.iload_n 1, 1) := by decide +kernel
theorem dX11_readSegments_26 : decode cX11_readSegments 26 = .ok (.invokevirtual 67, 3) := by decide +kernel
theorem dX11_readSegments_29 : decode cX11_readSegments 29 = .ok (.ifCond .eq 6, 3) := by decide +kernel
theorem dX11_readSegments_32 : decode cX11_readSegments 32 = .ok (.bipush (-4), 2) := by decide +kernel
theorem dX11_readSegments_34 : decode cX11_readSegments 34 = .ok (.ireturn, 1) := by decide +kernel
theorem dX11_readSegments_35 : decode cX11_readSegments 35 = .ok (.aload_n 0, 1) := by decide +kernel
theorem dX11_readSegments_36 : decode cX11_readSegments 36 = .ok (.iload_n 1, 1) := by decide +kernel
theorem dX11_readSegments_37 : decode cX11_readSegments 37 = .ok (.invokevirtual 74, 3) := by decide +kernel
theorem dX11_readSegments_40 : decode cX11_readSegments 40 = .ok (.istore_n 3, 1) := by decide +kernel
theorem dX11_readSegments_41 : decode cX11_readSegments 41 = .ok (.iload_n 3, 1) := by decide +kernel
theorem dX11_readSegments_42 : decode cX11_readSegments 42 = .ok (.aload_n 0, 1) := by decide +kernel
theorem dX11_readSegments_43 : decode cX11_readSegments 43 = .ok (.getfield 106, 3) := by decide +kernel
theorem dX11_readSegments_46 : decode cX11_readSegments 46 = .ok (.iadd, 1) := by decide +kernel
theorem dX11_readSegments_47 : decode cX11_readSegments 47 = .ok (.bipush 12, 2) := by decide +kernel
theorem dX11_readSegments_49 : decode cX11_readSegments 49 = .ok (.if_icmp .le 6, 3) := by decide +kernel
theorem dX11_readSegments_52 : decode cX11_readSegments 52 = .ok (.bipush (-3), 2) := by decide +kernel
theorem dX11_readSegments_54 : decode cX11_readSegments 54 = .ok (.ireturn, 1) := by decide +kernel
theorem dX11_readSegments_55 : decode cX11_readSegments 55 = .ok (.aload_n 0, 1) := by decide +kernel
theorem dX11_readSegments_56 : decode cX11_readSegments 56 = .ok (.invokevirtual 57, 3) := by decide +kernel
theorem dX11_readSegments_59 : decode cX11_readSegments 59 = .ok (.iconst 0, 1) := by decide +kernel
theorem dX11_readSegments_60 : decode cX11_readSegments 60 = .ok (.istore 4, 2) := by decide +kernel
theorem dX11_readSegments_62 : decode cX11_readSegments 62 = .ok (.iload 4, 2) := by decide +kernel
theorem dX11_readSegments_64 : decode cX11_readSegments 64 = .ok (.aload_n 0, 1) := by decide +kernel
theorem dX11_readSegments_65 : decode cX11_readSegments 65 = .ok (.getfield 106, 3) := by decide +kernel
theorem dX11_readSegments_68 : decode cX11_readSegments 68 = .ok (.if_icmp .ge 52, 3) := by decide +kernel
theorem dX11_readSegments_71 : decode cX11_readSegments 71 = .ok (.aload_n 0, 1) := by decide +kernel
theorem dX11_readSegments_72 : decode cX11_readSegments 72 = .ok (.iload_n 1, 1) := by decide +kernel
theorem dX11_readSegments_73 : decode cX11_readSegments 73 = .ok (.iload_n 3, 1) := by decide +kernel
theorem dX11_readSegments_74 : decode cX11_readSegments 74 = .ok (.iload 4, 2) := by decide +kernel
theorem dX11_readSegments_76 : decode cX11_readSegments 76 = .ok (.iadd, 1) := by decide +kernel
theorem dX11_readSegments_77 : decode cX11_readSegments 77 = .ok (.invokevirtual 142, 3) := by decide +kernel
theorem dX11_readSegments_80 : decode cX11_readSegments 80 = .ok (.istore 5, 2) := by decide +kernel
theorem dX11_readSegments_82 : decode cX11_readSegments 82 = .ok (.aload_n 0, 1) := by decide +kernel
theorem dX11_readSegments_83 : decode cX11_readSegments 83 = .ok (.iload 4, 2) := by decide +kernel
theorem dX11_readSegments_85 : decode cX11_readSegments 85 = .ok (.iload 5, 2) := by decide +kernel
theorem dX11_readSegments_87 : decode cX11_readSegments 87 = .ok (.invokevirtual 163, 3) := by decide +kernel
theorem dX11_readSegments_90 : decode cX11_readSegments 90 = .ok (.aload_n 0, 1) := by decide +kernel
theorem dX11_readSegments_91 : decode cX11_readSegments 91 = .ok (.getfield 7, 3) := by decide +kernel
theorem dX11_readSegments_94 : decode cX11_readSegments 94 = .ok (.iload 5, 2) := by decide +kernel
theorem dX11_readSegments_96 : decode cX11_readSegments 96 = .ok (.bipush 9, 2) := by decide +kernel
theorem dX11_readSegments_98 : decode cX11_readSegments 98 = .ok (.iadd, 1) := by decide +kernel
theorem dX11_readSegments_99 : decode cX11_readSegments 99 = .ok (.ldc2_w 82, 3) := by decide +kernel
theorem dX11_readSegments_102 : decode cX11_readSegments 102 = .ok (.lastore, 1) := by decide +kernel
theorem dX11_readSegments_103 : decode cX11_readSegments 103 = .ok (.aload_n 0, 1) := by decide +kernel
theorem dX11_readSegments_104 : decode cX11_readSegments 104 = .ok (.getfield 7, 3) := by decide +kernel
theorem dX11_readSegments_107 : decode cX11_readSegments 107 = .ok (.iload 5, 2) := by decide +kernel
theorem dX11_readSegments_109 : decode cX11_readSegments 109 = .ok (.bipush 10, 2) := by decide +kernel
theorem dX11_readSegments_111 : decode cX11_readSegments 111 = .ok (.iadd, 1) := by decide +kernel
theorem dX11_readSegments_112 : decode cX11_readSegments 112 = .ok (.lconst 0, 1) := by decide +kernel
theorem dX11_readSegments_113 : decode cX11_readSegments 113 = .ok (.lastore, 1) := by decide +kernel
theorem dX11_readSegments_114 : decode cX11_readSegments 114 = .ok (.iinc 4 1, 3) := by decide +kernel
theorem dX11_readSegments_117 : decode cX11_readSegments 117 = .ok (.goto (-55), 3) := by decide +kernel
theorem dX11_readSegments_120 : decode cX11_readSegments 120 = .ok (.aload_n 0, 1) := by decide +kernel
theorem dX11_readSegments_121 : decode cX11_readSegments 121 = .ok (.getfield 7, 3) := by decide +kernel
theorem dX11_readSegments_124 : decode cX11_readSegments 124 = .ok (.aload_n 0, 1) := by decide +kernel
theorem dX11_readSegments_125 : decode cX11_readSegments 125 = .ok (.iload_n 1, 1) := by decide +kernel
theorem dX11_readSegments_126 : decode cX11_readSegments 126 = .ok (.invokevirtual 64, 3) := by decide +kernel
theorem dX11_readSegments_129 : decode cX11_readSegments 129 = .ok (.iconst 0, 1) := by decide +kernel
theorem dX11_readSegments_130 : decode cX11_readSegments 130 = .ok (.iadd, 1) := by decide +kernel
theorem dX11_readSegments_131 : decode cX11_readSegments 131 = .ok (.iload_n 3, 1) := by decide +kernel
theorem dX11_readSegments_132 : decode cX11_readSegments 132 = .ok (.aload_n 0, 1) := by decide +kernel
theorem dX11_readSegments_133 : decode cX11_readSegments 133 = .ok (.getfield 106, 3) := by decide +kernel
theorem dX11_readSegments_136 : decode cX11_readSegments 136 = .ok (.iadd, 1) := by decide +kernel
theorem dX11_readSegments_137 : decode cX11_readSegments 137 = .ok (.i2l, 1) := by decide +kernel
theorem dX11_readSegments_138 : decode cX11_readSegments 138 = .ok (.lastore, 1) := by decide +kernel
theorem dX11_readSegments_139 : decode cX11_readSegments 139 = .ok (.iload_n 3, 1) := by decide +kernel
theorem dX11_readSegments_140 : decode cX11_readSegments 140 = .ok (.aload_n 0, 1) := by decide +kernel
theorem dX11_readSegments_141 : decode cX11_readSegments 141 = .ok (.getfield 106, 3) := by decide +kernel
theorem dX11_readSegments_144 : decode cX11_readSegments 144 = .ok (.iadd, 1) := by decide +kernel
theorem dX11_readSegments_145 : decode cX11_readSegments 145 = .ok (.ireturn, 1) := by decide +kernel
theorem dX11_isRemembered_0 : decode cX11_isRemembered 0 = .ok (.iconst 0, 1) := by decide +kernel
theorem dX11_isRemembered_1 : decode cX11_isRemembered 1 = .ok (.istore_n 1, 1) := by decide +kernel
theorem dX11_isRemembered_2 : decode cX11_isRemembered 2 = .ok (.iconst 0, 1) := by decide +kernel
theorem dX11_isRemembered_3 : decode cX11_isRemembered 3 = .ok (.istore_n 2, 1) := by decide +kernel
theorem dX11_isRemembered_4 : decode cX11_isRemembered 4 = .ok (.iload_n 2, 1) := by decide +kernel
theorem dX11_isRemembered_5 : decode cX11_isRemembered 5 = .ok (.i2l, 1) := by decide +kernel
theorem dX11_isRemembered_6 : decode cX11_isRemembered 6 = .ok (.aload_n 0, 1) := by decide +kernel
theorem dX11_isRemembered_7 : decode cX11_isRemembered 7 = .ok (.getfield 7, 3) := by decide +kernel
theorem dX11_isRemembered_10 : decode cX11_isRemembered 10 = .ok (.iconst 2, 1) := by decide +kernel
theorem dX11_isRemembered_11 : decode cX11_isRemembered 11 = .ok (.laload, 1) := by decide +kernel
theorem dX11_isRemembered_12 : decode cX11_isRemembered 12 = .ok (.lcmp, 1) := by decide +kernel
theorem dX11_isRemembered_13 : decode cX11_isRemembered 13 = .ok (.ifCond .ge 75, 3) := by decide +kernel
theorem dX11_isRemembered_16 : decode cX11_isRemembered 16 = .ok (.iconst 1, 1) := by decide +kernel
theorem dX11_isRemembered_17 : decode cX11_isRemembered 17 = .ok (.istore_n 3, 1) := by decide +kernel
theorem dX11_isRemembered_18 : decode cX11_isRemembered 18 = .ok (.iconst 0, 1) := by decide +kernel
theorem dX11_isRemembered_19 : decode cX11_isRemembered 19 = .ok (.istore 4, 2) := by decide +kernel
theorem dX11_isRemembered_21 : decode cX11_isRemembered 21 = .ok (.iload 4, 2) := by decide +kernel
theorem dX11_isRemembered_23 : decode cX11_isRemembered 23 = .ok (.bipush 9, 2) := by decide +kernel
theorem dX11_isRemembered_25 : decode cX11_isRemembered 25 = .ok (.if_icmp .ge 43, 3) := by decide +kernel
theorem dX11_isRemembered_28 : decode cX11_isRemembered 28 = .ok (.iload_n 3, 1) := by decide +kernel
theorem dX11_isRemembered_29 : decode cX11_isRemembered 29 = .ok (.ifCond .eq 31, 3) := by decide +kernel
theorem dX11_isRemembered_32 : decode cX11_isRemembered 32 = .ok (.aload_n 0, 1) := by decide +kernel
theorem dX11_isRemembered_33 : decode cX11_isRemembered 33 = .ok (.getfield 7, 3) := by decide +kernel
theorem dX11_isRemembered_36 : decode cX11_isRemembered 36 = .ok (.aload_n 0, 1) := by decide +kernel
theorem dX11_isRemembered_37 : decode cX11_isRemembered 37 = .ok (.iload_n 2, 1) := by decide +kernel
theorem dX11_isRemembered_38 : decode cX11_isRemembered 38 = .ok (.invokevirtual 116, 3) := by decide +kernel
theorem dX11_isRemembered_41 : decode cX11_isRemembered 41 = .ok (.iload 4, 2) := by decide +kernel
theorem dX11_isRemembered_43 : decode cX11_isRemembered 43 = .ok (.iadd, 1) := by decide +kernel
theorem dX11_isRemembered_44 : decode cX11_isRemembered 44 = .ok (.laload, 1) := by decide +kernel
theorem dX11_isRemembered_45 : decode cX11_isRemembered 45 = .ok (.aload_n 0, 1) := by decide +kernel
theorem dX11_isRemembered_46 : decode cX11_isRemembered 46 = .ok (.getfield 23, 3) := by decide +kernel
theorem dX11_isRemembered_49 : decode cX11_isRemembered 49 = .ok (.iload 4, 2) := by decide +kernel
theorem dX11_isRemembered_51 : decode cX11_isRemembered 51 = .ok (.laload, 1) := by decide +kernel
theorem dX11_isRemembered_52 : decode cX11_isRemembered 52 = .ok (.lcmp, 1) := by decide +kernel
theorem dX11_isRemembered_53 : decode cX11_isRemembered 53 = .ok (.ifCond .ne 7, 3) := by decide +kernel
theorem dX11_isRemembered_56 : decode cX11_isRemembered 56 = .ok (.iconst 1, 1) := by decide +kernel
theorem dX11_isRemembered_57 : decode cX11_isRemembered 57 = .ok (.goto 4, 3) := by decide +kernel
theorem dX11_isRemembered_60 : decode cX11_isRemembered 60 = .ok (.iconst 0, 1) := by decide +kernel
theorem dX11_isRemembered_61 : decode cX11_isRemembered 61 = .ok (.istore_n 3, 1) := by decide +kernel
theorem dX11_isRemembered_62 : decode cX11_isRemembered 62 = .ok (.iinc 4 1, 3) := by decide +kernel
theorem dX11_isRemembered_65 : decode cX11_isRemembered 65 = .ok (.goto (-44), 3) := by decide +kernel
theorem dX11_isRemembered_68 : decode cX11_isRemembered 68 = .ok (.iload_n 1, 1) := by decide +kernel
theorem dX11_isRemembered_69 : decode cX11_isRemembered 69 = .ok (.ifCond .ne 7, 3) := by decide +kernel
theorem dX11_isRemembered_72 : decode cX11_isRemembered 72 = .ok (.iload_n 3, 1) := by decide +kernel
theorem dX11_isRemembered_73 : decode cX11_isRemembered 73 = .ok (.ifCond .eq 7, 3) := by decide +kernel
theorem dX11_isRemembered_76 : decode cX11_isRemembered 76 = .ok (.iconst 1, 1) := by decide +kernel
theorem dX11_isRemembered_77 : decode cX11_isRemembered 77 = .ok (.goto 4, 3) := by decide +kernel
theorem dX11_isRemembered_80 : decode cX11_isRemembered 80 = .ok (.iconst 0, 1) := by decide +kernel
theorem dX11_isRemembered_81 : decode cX11_isRemembered 81 = .ok (.istore_n 1, 1) := by decide +kernel
theorem dX11_isRemembered_82 : decode cX11_isRemembered 82 = .ok (.iinc 2 1, 3) := by decide +kernel
theorem dX11_isRemembered_85 : decode cX11_isRemembered 85 = .ok (.goto (-81), 3) := by decide +kernel
theorem dX11_isRemembered_88 : decode cX11_isRemembered 88 = .ok (.iload_n 1, 1) := by decide +kernel
theorem dX11_isRemembered_89 : decode cX11_isRemembered 89 = .ok (.ireturn, 1) := by decide +kernel
theorem dX11_newEntry_0 : decode cX11_newEntry 0 = .ok (.aload_n 0, 1) := by decide +kernel
theorem dX11_newEntry_1 : decode cX11_newEntry 1 = .ok (.iconst 2, 1) := by decide +kernel
theorem dX11_newEntry_2 : decode cX11_newEntry 2 = .ok (.invokevirtual 53, 3) := by decide +kernel
theorem dX11_newEntry_5 : decode cX11_newEntry 5 = .ok (.istore_n 2, 1) := by decide +kernel
theorem dX11_newEntry_6 : decode cX11_newEntry 6 = .ok (.aload_n 0, 1) := by decide +kernel
theorem dX11_newEntry_7 : decode cX11_newEntry 7 = .ok (.getfield 7, 3) := by decide +kernel
theorem dX11_newEntry_10 : decode cX11_newEntry 10 = .ok (.aload_n 0, 1) := by decide +kernel
theorem dX11_newEntry_11 : decode cX11_newEntry 11 = .ok (.iload_n 2, 1) := by decide +kernel
theorem dX11_newEntry_12 : decode cX11_newEntry 12 = .ok (.invokevirtual 116, 3) := by decide +kernel
theorem dX11_newEntry_15 : decode cX11_newEntry 15 = .ok (.bipush 9, 2) := by decide +kernel
theorem dX11_newEntry_17 : decode cX11_newEntry 17 = .ok (.iadd, 1) := by decide +kernel
theorem dX11_newEntry_18 : decode cX11_newEntry 18 = .ok (.iload_n 1, 1) := by decide +kernel
theorem dX11_newEntry_19 : decode cX11_newEntry 19 = .ok (.i2l, 1) := by decide +kernel
theorem dX11_newEntry_20 : decode cX11_newEntry 20 = .ok (.lastore, 1) := by decide +kernel
theorem dX11_newEntry_21 : decode cX11_newEntry 21 = .ok (.aload_n 0, 1) := by decide +kernel
theorem dX11_newEntry_22 : decode cX11_newEntry 22 = .ok (.getfield 7, 3) := by decide +kernel
theorem dX11_newEntry_25 : decode cX11_newEntry 25 = .ok (.aload_n 0, 1) := by decide +kernel
theorem dX11_newEntry_26 : decode cX11_newEntry 26 = .ok (.iload_n 2, 1) := by decide +kernel
theorem dX11_newEntry_27 : decode cX11_newEntry 27 = .ok (.invokevirtual 116, 3) := by decide +kernel
theorem dX11_newEntry_30 : decode cX11_newEntry 30 = .ok (.bipush 10, 2) := by decide +kernel
theorem dX11_newEntry_32 : decode cX11_newEntry 32 = .ok (.iadd, 1) := by decide +kernel
theorem dX11_newEntry_33 : decode cX11_newEntry 33 = .ok (.lconst 0, 1) := by decide +kernel
theorem dX11_newEntry_34 : decode cX11_newEntry 34 = .ok (.lastore, 1) := by decide +kernel
theorem dX11_newEntry_35 : decode cX11_newEntry 35 = .ok (.aload_n 0, 1) := by decide +kernel
theorem dX11_newEntry_36 : decode cX11_newEntry 36 = .ok (.getfield 7, 3) := by decide +kernel
theorem dX11_newEntry_39 : decode cX11_newEntry 39 = .ok (.iconst 2, 1) := by decide +kernel
theorem dX11_newEntry_40 : decode cX11_newEntry 40 = .ok (.iload_n 2, 1) := by decide +kernel
theorem dX11_newEntry_41 : decode cX11_newEntry 41 = .ok (.iconst 1, 1) := by decide +kernel
theorem dX11_newEntry_42 : decode cX11_newEntry 42 = .ok (.iadd, 1) := by decide +kernel
theorem dX11_newEntry_43 : decode cX11_newEntry 43 = .ok (.i2l, 1) := by decide +kernel
theorem dX11_newEntry_44 : decode cX11_newEntry 44 = .ok (.lastore, 1) := by decide +kernel
theorem dX11_newEntry_45 : decode cX11_newEntry 45 = .ok (.iload_n 2, 1) := by decide +kernel
theorem dX11_newEntry_46 : decode cX11_newEntry 46 = .ok (.ireturn, 1) := by decide +kernel
theorem dX11_remember_0 : decode cX11_remember 0 = .ok (.aload_n 0, 1) := by decide +kernel
theorem dX11_remember_1 : decode cX11_remember 1 = .ok (.invokevirtual 159, 3) := by decide +kernel
theorem dX11_remember_4 : decode cX11_remember 4 = .ok (.istore_n 2, 1) := by decide +kernel
theorem dX11_remember_5 : decode cX11_remember 5 = .ok (.iload_n 2, 1) := by decide +kernel
theorem dX11_remember_6 : decode cX11_remember 6 = .ok (.ifCond .lt 8, 3) := by decide +kernel
theorem dX11_remember_9 : decode cX11_remember 9 = .ok (.bipush (-100), 2) := by decide +kernel
theorem dX11_remember_11 : decode cX11_remember 11 = .ok (.iload_n 2, 1) := by decide +kernel
theorem dX11_remember_12 : decode cX11_remember 12 = .ok (.isub, 1) := by decide +kernel
theorem dX11_remember_13 : decode cX11_remember 13 = .ok (.ireturn, 1) := by decide +kernel
theorem dX11_remember_14 : decode cX11_remember 14 = .ok (.iload_n 1, 1) := by decide +kernel
theorem dX11_remember_15 : decode cX11_remember 15 = .ok (.iconst 1, 1) := by decide +kernel
theorem dX11_remember_16 : decode cX11_remember 16 = .ok (.sipush 999, 3) := by decide +kernel
theorem dX11_remember_19 : decode cX11_remember 19 = .ok (.invokestatic 60, 3) := by decide +kernel
theorem dX11_remember_22 : decode cX11_remember 22 = .ok (.ifCond .eq 11, 3) := by decide +kernel
theorem dX11_remember_25 : decode cX11_remember 25 = .ok (.aload_n 0, 1) := by decide +kernel
theorem dX11_remember_26 : decode cX11_remember 26 = .ok (.getfield 106, 3) := by decide +kernel
theorem dX11_remember_29 : decode cX11_remember 29 = .ok (.iconst 1, 1) := by decide +kernel
theorem dX11_remember_30 : decode cX11_remember 30 = .ok (.if_icmp .le 6, 3) := by decide +kernel
theorem dX11_remember_33 : decode cX11_remember 33 = .ok (.bipush (-2), 2) := by decide +kernel
theorem dX11_remember_35 : decode cX11_remember 35 = .ok (.ireturn, 1) := by decide +kernel
theorem dX11_remember_36 : decode cX11_remember 36 = .ok (.aload_n 0, 1) := by decide +kernel
theorem dX11_remember_37 : decode cX11_remember 37 = .ok (.invokevirtual 167, 3) := by decide +kernel
theorem dX11_remember_40 : decode cX11_remember 40 = .ok (.ifCond .eq 6, 3) := by decide +kernel
theorem dX11_remember_43 : decode cX11_remember 43 = .ok (.bipush (-4), 2) := by decide +kernel
theorem dX11_remember_45 : decode cX11_remember 45 = .ok (.ireturn, 1) := by decide +kernel
theorem dX11_remember_46 : decode cX11_remember 46 = .ok (.aload_n 0, 1) := by decide +kernel
theorem dX11_remember_47 : decode cX11_remember 47 = .ok (.getfield 7, 3) := by decide +kernel
theorem dX11_remember_50 : decode cX11_remember 50 = .ok (.iconst 2, 1) := by decide +kernel
theorem dX11_remember_51 : decode cX11_remember 51 = .ok (.laload, 1) := by decide +kernel
theorem dX11_remember_52 : decode cX11_remember 52 = .ok (.ldc2_w 37, 3) := by decide +kernel
theorem dX11_remember_55 : decode cX11_remember 55 = .ok (.lcmp, 1) := by decide +kernel
theorem dX11_remember_56 : decode cX11_remember 56 = .ok (.ifCond .ne 6, 3) := by decide +kernel
theorem dX11_remember_59 : decode cX11_remember 59 = .ok (.bipush (-3), 2) := by decide +kernel
theorem dX11_remember_61 : decode cX11_remember 61 = .ok (.ireturn, 1) := by decide +kernel
theorem dX11_remember_62 : decode cX11_remember 62 = .ok (.aload_n 0, 1) := by decide +kernel
theorem dX11_remember_63 : decode cX11_remember 63 = .ok (.invokevirtual 57, 3) := by decide +kernel
theorem dX11_remember_66 : decode cX11_remember 66 = .ok (.aload_n 0, 1) := by decide +kernel
theorem dX11_remember_67 : decode cX11_remember 67 = .ok (.iload_n 1, 1) := by decide +kernel
theorem dX11_remember_68 : decode cX11_remember 68 = .ok (.invokevirtual 170, 3) := by decide +kernel
theorem dX11_remember_71 : decode cX11_remember 71 = .ok (.istore_n 3, 1) := by decide +kernel
theorem dX11_remember_72 : decode cX11_remember 72 = .ok (.aload_n 0, 1) := by decide +kernel
theorem dX11_remember_73 : decode cX11_remember 73 = .ok (.iconst 0, 1) := by decide +kernel
theorem dX11_remember_74 : decode cX11_remember 74 = .ok (.aload_n 0, 1) := by decide +kernel
theorem dX11_remember_75 : decode cX11_remember 75 = .ok (.iload_n 3, 1) := by decide +kernel
theorem dX11_remember_76 : decode cX11_remember 76 = .ok (.invokevirtual 116, 3) := by decide +kernel
theorem dX11_remember_79 : decode cX11_remember 79 = .ok (.invokevirtual 163, 3) := by decide +kernel
theorem dX11_remember_82 : decode cX11_remember 82 = .ok (.iload_n 3, 1) := by decide +kernel
theorem dX11_remember_83 : decode cX11_remember 83 = .ok (.ireturn, 1) := by decide +kernel
theorem dX11_swapFiles_0 : decode cX11_swapFiles 0 = .ok (.aload_n 0, 1) := by decide +kernel
theorem dX11_swapFiles_1 : decode cX11_swapFiles 1 = .ok (.iload_n 1, 1) := by decide +kernel
theorem dX11_swapFiles_2 : decode cX11_swapFiles 2 = .ok (.invokevirtual 70, 3) := by decide +kernel
theorem dX11_swapFiles_5 : decode cX11_swapFiles 5 = .ok (.ifCond .ne 11, 3) := by decide +kernel
theorem dX11_swapFiles_8 : decode cX11_swapFiles 8 = .ok (.aload_n 0, 1) := by decide +kernel
theorem dX11_swapFiles_9 : decode cX11_swapFiles 9 = .ok (.iload_n 2, 1) := by decide +kernel
theorem dX11_swapFiles_10 : decode cX11_swapFiles 10 = .ok (.invokevirtual 70, 3) := by decide +kernel
theorem dX11_swapFiles_13 : decode cX11_swapFiles 13 = .ok (.ifCond .eq 5, 3) := by decide +kernel
theorem dX11_swapFiles_16 : decode cX11_swapFiles 16 = .ok (.iconst (-1), 1) := by decide +kernel
theorem dX11_swapFiles_17 : decode cX11_swapFiles 17 = .ok (.ireturn, 1) := by decide +kernel
theorem dX11_swapFiles_18 : decode cX11_swapFiles 18 = .ok (.iload_n 1, 1) := by decide +kernel
theorem dX11_swapFiles_19 : decode cX11_swapFiles 19 = .ok (.iload_n 2, 1) := by decide +kernel
theorem dX11_swapFiles_20 : decode cX11_swapFiles 20 = .ok (.if_icmp .ne 6, 3) := by decide +kernel
theorem dX11_swapFiles_23 : decode cX11_swapFiles 23 = .ok (.bipush (-5), 2) := by decide +kernel
theorem dX11_swapFiles_25 : decode cX11_swapFiles 25 = .ok (.ireturn, 1) := by decide +kernel
theorem dX11_swapFiles_26 : decode cX11_swapFiles 26 = .ok (.aload_n 0, 1) := by decide +kernel
theorem dX11_swapFiles_27 : decode cX11_swapFiles 27 = .ok (.invokevirtual 57, 3) := by decide +kernel
theorem dX11_swapFiles_30 : decode cX11_swapFiles 30 = .ok (.aload_n 0, 1) := by decide +kernel
theorem dX11_swapFiles_31 : decode cX11_swapFiles 31 = .ok (.iload_n 1, 1) := by decide +kernel
theorem dX11_swapFiles_32 : decode cX11_swapFiles 32 = .ok (.invokevirtual 136, 3) := by decide +kernel
theorem dX11_swapFiles_35 : decode cX11_swapFiles 35 = .ok (.istore_n 3, 1) := by decide +kernel
theorem dX11_swapFiles_36 : decode cX11_swapFiles 36 = .ok (.aload_n 0, 1) := by decide +kernel
theorem dX11_swapFiles_37 : decode cX11_swapFiles 37 = .ok (.iload_n 2, 1) := by decide +kernel
theorem dX11_swapFiles_38 : decode cX11_swapFiles 38 = .ok (.invokevirtual 136, 3) := by decide +kernel
theorem dX11_swapFiles_41 : decode cX11_swapFiles 41 = .ok (.istore 4, 2) := by decide +kernel
theorem dX11_swapFiles_43 : decode cX11_swapFiles 43 = .ok (.aload_n 0, 1) := by decide +kernel
theorem dX11_swapFiles_44 : decode cX11_swapFiles 44 = .ok (.getfield 7, 3) := by decide +kernel
theorem dX11_swapFiles_47 : decode cX11_swapFiles 47 = .ok (.bipush 10, 2) := by decide +kernel
theorem dX11_swapFiles_49 : decode cX11_swapFiles 49 = .ok (.iload_n 3, 1) := by decide +kernel
theorem dX11_swapFiles_50 : decode cX11_swapFiles 50 = .ok (.iadd, 1) := by decide +kernel
theorem dX11_swapFiles_51 : decode cX11_swapFiles 51 = .ok (.iload_n 2, 1) := by decide +kernel
theorem dX11_swapFiles_52 : decode cX11_swapFiles 52 = .ok (.i2l, 1) := by decide +kernel
theorem dX11_swapFiles_53 : decode cX11_swapFiles 53 = .ok (.lastore, 1) := by decide +kernel
theorem dX11_swapFiles_54 : decode cX11_swapFiles 54 = .ok (.aload_n 0, 1) := by decide +kernel
theorem dX11_swapFiles_55 : decode cX11_swapFiles 55 = .ok (.getfield 7, 3) := by decide +kernel
theorem dX11_swapFiles_58 : decode cX11_swapFiles 58 = .ok (.bipush 10, 2) := by decide +kernel
theorem dX11_swapFiles_60 : decode cX11_swapFiles 60 = .ok (.iload 4, 2) := by decide +kernel
theorem dX11_swapFiles_62 : decode cX11_swapFiles 62 = .ok (.iadd, 1) := by decide +kernel
theorem dX11_swapFiles_63 : decode cX11_swapFiles 63 = .ok (.iload_n 1, 1) := by decide +kernel
theorem dX11_swapFiles_64 : decode cX11_swapFiles 64 = .ok (.i2l, 1) := by decide +kernel
theorem dX11_swapFiles_65 : decode cX11_swapFiles 65 = .ok (.lastore, 1) := by decide +kernel
theorem dX11_swapFiles_66 : decode cX11_swapFiles 66 = .ok (.iload 4, 2) := by decide +kernel
theorem dX11_swapFiles_68 : decode cX11_swapFiles 68 = .ok (.ireturn, 1) := by decide +kernel
theorem dX11_hasTarget_0 : decode cX11_hasTarget 0 = .ok (.aload_n 0, 1) := by decide +kernel
theorem dX11_hasTarget_1 : decode cX11_hasTarget 1 = .ok (.getfield 7, 3) := by decide +kernel
theorem dX11_hasTarget_4 : decode cX11_hasTarget 4 = .ok (.iload_n 1, 1) := by decide +kernel
theorem dX11_hasTarget_5 : decode cX11_hasTarget 5 = .ok (.bipush 9, 2) := by decide +kernel
theorem dX11_hasTarget_7 : decode cX11_hasTarget 7 = .ok (.iadd, 1) := by decide +kernel
theorem dX11_hasTarget_8 : decode cX11_hasTarget 8 = .ok (.laload, 1) := by decide +kernel
theorem dX11_hasTarget_9 : decode cX11_hasTarget 9 = .ok (.lconst 0, 1) := by decide +kernel
theorem dX11_hasTarget_10 : decode cX11_hasTarget 10 = .ok (.lcmp, 1) := by decide +kernel
theorem dX11_hasTarget_11 : decode cX11_hasTarget 11 = .ok (.ifCond .le 7, 3) := by decide +kernel
theorem dX11_hasTarget_14 : decode cX11_hasTarget 14 = .ok (.iconst 1, 1) := by decide +kernel
theorem dX11_hasTarget_15 : decode cX11_hasTarget 15 = .ok (.goto 4, 3) := by decide +kernel
theorem dX11_hasTarget_18 : decode cX11_hasTarget 18 = .ok (.iconst 0, 1) := by decide +kernel
theorem dX11_hasTarget_19 : decode cX11_hasTarget 19 = .ok (.ireturn, 1) := by decide +kernel
theorem dX11_withTarget_0 : decode cX11_withTarget 0 = .ok (.iconst 0, 1) := by decide +kernel
theorem dX11_withTarget_1 : decode cX11_withTarget 1 = .ok (.istore_n 2, 1) := by decide +kernel
theorem dX11_withTarget_2 : decode cX11_withTarget 2 = .ok (.iconst 0, 1) := by decide +kernel
theorem dX11_withTarget_3 : decode cX11_withTarget 3 = .ok (.istore_n 3, 1) := by decide +kernel
theorem dX11_withTarget_4 : decode cX11_withTarget 4 = .ok (.iload_n 3, 1) := by decide +kernel
theorem dX11_withTarget_5 : decode cX11_withTarget 5 = .ok (.aload_n 0, 1) := by decide +kernel
theorem dX11_withTarget_6 : decode cX11_withTarget 6 = .ok (.iload_n 1, 1) := by decide +kernel
theorem dX11_withTarget_7 : decode cX11_withTarget 7 = .ok (.invokevirtual 74, 3) := by decide +kernel
theorem dX11_withTarget_10 : decode cX11_withTarget 10 = .ok (.if_icmp .ge 30, 3) := by decide +kernel
theorem dX11_withTarget_13 : decode cX11_withTarget 13 = .ok (.iload_n 2, 1) := by decide +kernel
theorem dX11_withTarget_14 : decode cX11_withTarget 14 = .ok (.aload_n 0, 1) := by decide +kernel
theorem dX11_withTarget_15 : decode cX11_withTarget 15 = .ok (.aload_n 0, 1) := by decide +kernel
theorem dX11_withTarget_16 : decode cX11_withTarget 16 = .ok (.iload_n 1, 1) := by decide +kernel
theorem dX11_withTarget_17 : decode cX11_withTarget 17 = .ok (.iload_n 3, 1) := by decide +kernel
theorem dX11_withTarget_18 : decode cX11_withTarget 18 = .ok (.invokevirtual 142, 3) := by decide +kernel
theorem dX11_withTarget_21 : decode cX11_withTarget 21 = .ok (.invokevirtual 173, 3) := by decide +kernel
theorem dX11_withTarget_24 : decode cX11_withTarget 24 = .ok (.ifCond .eq 7, 3) := by decide +kernel
theorem dX11_withTarget_27 : decode cX11_withTarget 27 = .ok (.iconst 1, 1) := by decide +kernel
theorem dX11_withTarget_28 : decode cX11_withTarget 28 = .ok (.goto 4, 3) := by decide +kernel
theorem dX11_withTarget_31 : decode cX11_withTarget 31 = .ok (.iconst 0, 1) := by decide +kernel
theorem dX11_withTarget_32 : decode cX11_withTarget 32 = .ok (.iadd, 1) := by decide +kernel
theorem dX11_withTarget_33 : decode cX11_withTarget 33 = .ok (.istore_n 2, 1) := by decide +kernel
theorem dX11_withTarget_34 : decode cX11_withTarget 34 = .ok (.iinc 3 1, 3) := by decide +kernel
theorem dX11_withTarget_37 : decode cX11_withTarget 37 = .ok (.goto (-33), 3) := by decide +kernel
theorem dX11_withTarget_40 : decode cX11_withTarget 40 = .ok (.iload_n 2, 1) := by decide +kernel
theorem dX11_withTarget_41 : decode cX11_withTarget 41 = .ok (.ireturn, 1) := by decide +kernel
theorem dX11_withdraw_0 : decode cX11_withdraw 0 = .ok (.aload_n 0, 1) := by decide +kernel
theorem dX11_withdraw_1 : decode cX11_withdraw 1 = .ok (.iload_n 1, 1) := by decide +kernel
theorem dX11_withdraw_2 : decode cX11_withdraw 2 = .ok (.invokevirtual 70, 3) := by decide +kernel
theorem dX11_withdraw_5 : decode cX11_withdraw 5 = .ok (.ifCond .eq 5, 3) := by decide +kernel
theorem dX11_withdraw_8 : decode cX11_withdraw 8 = .ok (.iconst (-1), 1) := by decide +kernel
theorem dX11_withdraw_9 : decode cX11_withdraw 9 = .ok (.ireturn, 1) := by decide +kernel
theorem dX11_withdraw_10 : decode cX11_withdraw 10 = .ok (.aload_n 0, 1) := by decide +kernel
theorem dX11_withdraw_11 : decode cX11_withdraw 11 = .ok (.iload_n 1, 1) := by decide +kernel
theorem dX11_withdraw_12 : decode cX11_withdraw 12 = .ok (.invokevirtual 139, 3) := by decide +kernel
theorem dX11_withdraw_15 : decode cX11_withdraw 15 = .ok (.ifCond .ne 6, 3) := by decide +kernel
theorem dX11_withdraw_18 : decode cX11_withdraw 18 = .ok (.bipush (-4), 2) := by decide +kernel
theorem dX11_withdraw_20 : decode cX11_withdraw 20 = .ok (.ireturn, 1) := by decide +kernel
theorem dX11_withdraw_21 : decode cX11_withdraw 21 = .ok (.aload_n 0, 1) := by decide +kernel
theorem dX11_withdraw_22 : decode cX11_withdraw 22 = .ok (.invokevirtual 57, 3) := by decide +kernel
theorem dX11_withdraw_25 : decode cX11_withdraw 25 = .ok (.aload_n 0, 1) := by decide +kernel
theorem dX11_withdraw_26 : decode cX11_withdraw 26 = .ok (.getfield 7, 3) := by decide +kernel
theorem dX11_withdraw_29 : decode cX11_withdraw 29 = .ok (.aload_n 0, 1) := by decide +kernel
theorem dX11_withdraw_30 : decode cX11_withdraw 30 = .ok (.iload_n 1, 1) := by decide +kernel
theorem dX11_withdraw_31 : decode cX11_withdraw 31 = .ok (.invokevirtual 64, 3) := by decide +kernel
theorem dX11_withdraw_34 : decode cX11_withdraw 34 = .ok (.iconst 1, 1) := by decide +kernel
theorem dX11_withdraw_35 : decode cX11_withdraw 35 = .ok (.iadd, 1) := by decide +kernel
theorem dX11_withdraw_36 : decode cX11_withdraw 36 = .ok (.ldc2_w 176, 3) := by decide +kernel
theorem dX11_withdraw_39 : decode cX11_withdraw 39 = .ok (.lastore, 1) := by decide +kernel
theorem dX11_withdraw_40 : decode cX11_withdraw 40 = .ok (.aload_n 0, 1) := by decide +kernel
theorem dX11_withdraw_41 : decode cX11_withdraw 41 = .ok (.getfield 7, 3) := by decide +kernel
theorem dX11_withdraw_44 : decode cX11_withdraw 44 = .ok (.aload_n 0, 1) := by decide +kernel
theorem dX11_withdraw_45 : decode cX11_withdraw 45 = .ok (.iload_n 1, 1) := by decide +kernel
theorem dX11_withdraw_46 : decode cX11_withdraw 46 = .ok (.invokevirtual 64, 3) := by decide +kernel
theorem dX11_withdraw_49 : decode cX11_withdraw 49 = .ok (.iconst 2, 1) := by decide +kernel
theorem dX11_withdraw_50 : decode cX11_withdraw 50 = .ok (.iadd, 1) := by decide +kernel
theorem dX11_withdraw_51 : decode cX11_withdraw 51 = .ok (.ldc2_w 82, 3) := by decide +kernel
theorem dX11_withdraw_54 : decode cX11_withdraw 54 = .ok (.lastore, 1) := by decide +kernel
theorem dX11_withdraw_55 : decode cX11_withdraw 55 = .ok (.aload_n 0, 1) := by decide +kernel
theorem dX11_withdraw_56 : decode cX11_withdraw 56 = .ok (.getfield 7, 3) := by decide +kernel
theorem dX11_withdraw_59 : decode cX11_withdraw 59 = .ok (.aload_n 0, 1) := by decide +kernel
theorem dX11_withdraw_60 : decode cX11_withdraw 60 = .ok (.iload_n 1, 1) := by decide +kernel
theorem dX11_withdraw_61 : decode cX11_withdraw 61 = .ok (.invokevirtual 64, 3) := by decide +kernel
theorem dX11_withdraw_64 : decode cX11_withdraw 64 = .ok (.iconst 3, 1) := by decide +kernel
theorem dX11_withdraw_65 : decode cX11_withdraw 65 = .ok (.iadd, 1) := by decide +kernel
theorem dX11_withdraw_66 : decode cX11_withdraw 66 = .ok (.ldc2_w 82, 3) := by decide +kernel
theorem dX11_withdraw_69 : decode cX11_withdraw 69 = .ok (.lastore, 1) := by decide +kernel
theorem dX11_withdraw_70 : decode cX11_withdraw 70 = .ok (.aload_n 0, 1) := by decide +kernel
theorem dX11_withdraw_71 : decode cX11_withdraw 71 = .ok (.getfield 7, 3) := by decide +kernel
theorem dX11_withdraw_74 : decode cX11_withdraw 74 = .ok (.aload_n 0, 1) := by decide +kernel
theorem dX11_withdraw_75 : decode cX11_withdraw 75 = .ok (.iload_n 1, 1) := by decide +kernel
theorem dX11_withdraw_76 : decode cX11_withdraw 76 = .ok (.invokevirtual 64, 3) := by decide +kernel
theorem dX11_withdraw_79 : decode cX11_withdraw 79 = .ok (.iconst 4, 1) := by decide +kernel
theorem dX11_withdraw_80 : decode cX11_withdraw 80 = .ok (.iadd, 1) := by decide +kernel
theorem dX11_withdraw_81 : decode cX11_withdraw 81 = .ok (.ldc2_w 82, 3) := by decide +kernel
theorem dX11_withdraw_84 : decode cX11_withdraw 84 = .ok (.lastore, 1) := by decide +kernel
theorem dX11_withdraw_85 : decode cX11_withdraw 85 = .ok (.aload_n 0, 1) := by decide +kernel
theorem dX11_withdraw_86 : decode cX11_withdraw 86 = .ok (.iload_n 1, 1) := by decide +kernel
theorem dX11_withdraw_87 : decode cX11_withdraw 87 = .ok (.invokevirtual 178, 3) := by decide +kernel
theorem dX11_withdraw_90 : decode cX11_withdraw 90 = .ok (.ireturn, 1) := by decide +kernel
theorem dX11_give_0 : decode cX11_give 0 = .ok (.aload_n 0, 1) := by decide +kernel
theorem dX11_give_1 : decode cX11_give 1 = .ok (.getfield 7, 3) := by decide +kernel
theorem dX11_give_4 : decode cX11_give 4 = .ok (.iload_n 1, 1) := by decide +kernel
theorem dX11_give_5 : decode cX11_give 5 = .ok (.bipush 9, 2) := by decide +kernel
theorem dX11_give_7 : decode cX11_give 7 = .ok (.iadd, 1) := by decide +kernel
theorem dX11_give_8 : decode cX11_give 8 = .ok (.iload_n 2, 1) := by decide +kernel
theorem dX11_give_9 : decode cX11_give 9 = .ok (.i2l, 1) := by decide +kernel
theorem dX11_give_10 : decode cX11_give 10 = .ok (.lastore, 1) := by decide +kernel
theorem dX11_give_11 : decode cX11_give 11 = .ok (.aload_n 0, 1) := by decide +kernel
theorem dX11_give_12 : decode cX11_give 12 = .ok (.getfield 7, 3) := by decide +kernel
theorem dX11_give_15 : decode cX11_give 15 = .ok (.iload_n 1, 1) := by decide +kernel
theorem dX11_give_16 : decode cX11_give 16 = .ok (.bipush 10, 2) := by decide +kernel
theorem dX11_give_18 : decode cX11_give 18 = .ok (.iadd, 1) := by decide +kernel
theorem dX11_give_19 : decode cX11_give 19 = .ok (.iload_n 3, 1) := by decide +kernel
theorem dX11_give_20 : decode cX11_give 20 = .ok (.i2l, 1) := by decide +kernel
theorem dX11_give_21 : decode cX11_give 21 = .ok (.lastore, 1) := by decide +kernel
theorem dX11_give_22 : decode cX11_give 22 = .ok (.return_, 1) := by decide +kernel
theorem dX11_take_0 : decode cX11_take 0 = .ok (.aload_n 0, 1) := by decide +kernel
theorem dX11_take_1 : decode cX11_take 1 = .ok (.iload_n 1, 1) := by decide +kernel
theorem dX11_take_2 : decode cX11_take 2 = .ok (.invokevirtual 70, 3) := by decide +kernel
theorem dX11_take_5 : decode cX11_take 5 = .ok (.ifCond .ne 11, 3) := by decide +kernel
theorem dX11_take_8 : decode cX11_take 8 = .ok (.aload_n 0, 1) := by decide +kernel
theorem dX11_take_9 : decode cX11_take 9 = .ok (.iload_n 2, 1) := by decide +kernel
theorem dX11_take_10 : decode cX11_take 10 = .ok (.invokevirtual 84, 3) := by decide +kernel
theorem dX11_take_13 : decode cX11_take 13 = .ok (.ifCond .eq 5, 3) := by decide +kernel
theorem dX11_take_16 : decode cX11_take 16 = .ok (.iconst (-1), 1) := by decide +kernel
theorem dX11_take_17 : decode cX11_take 17 = .ok (.ireturn, 1) := by decide +kernel
theorem dX11_take_18 : decode cX11_take 18 = .ok (.aload_n 0, 1) := by decide +kernel
theorem dX11_take_19 : decode cX11_take 19 = .ok (.iload_n 1, 1) := by decide +kernel
theorem dX11_take_20 : decode cX11_take 20 = .ok (.invokevirtual 67, 3) := by decide +kernel
theorem dX11_take_23 : decode cX11_take 23 = .ok (.ifCond .ne 11, 3) := by decide +kernel
theorem dX11_take_26 : decode cX11_take 26 = .ok (.aload_n 0, 1) := by decide +kernel
theorem dX11_take_27 : decode cX11_take 27 = .ok (.iload_n 1, 1) := by decide +kernel
theorem dX11_take_28 : decode cX11_take 28 = .ok (.invokevirtual 74, 3) := by decide +kernel
theorem dX11_take_31 : decode cX11_take 31 = .ok (.ifCond .ne 6, 3) := by decide +kernel
theorem dX11_take_34 : decode cX11_take 34 = .ok (.bipush (-4), 2) := by decide +kernel
theorem dX11_take_36 : decode cX11_take 36 = .ok (.ireturn, 1) := by decide +kernel
theorem dX11_take_37 : decode cX11_take 37 = .ok (.aload_n 0, 1) := by decide +kernel
theorem dX11_take_38 : decode cX11_take 38 = .ok (.invokevirtual 57, 3) := by decide +kernel
theorem dX11_take_41 : decode cX11_take 41 = .ok (.aload_n 0, 1) := by decide +kernel
theorem dX11_take_42 : decode cX11_take 42 = .ok (.iload_n 1, 1) := by decide +kernel
theorem dX11_take_43 : decode cX11_take 43 = .ok (.iload_n 2, 1) := by decide +kernel
theorem dX11_take_44 : decode cX11_take 44 = .ok (.invokevirtual 181, 3) := by decide +kernel
theorem dX11_take_47 : decode cX11_take 47 = .ok (.istore_n 3, 1) := by decide +kernel
theorem dX11_take_48 : decode cX11_take 48 = .ok (.iconst 0, 1) := by decide +kernel
theorem dX11_take_49 : decode cX11_take 49 = .ok (.istore 4, 2) := by decide +kernel
theorem dX11_take_51 : decode cX11_take 51 = .ok (.iload 4, 2) := by decide +kernel
theorem dX11_take_53 : decode cX11_take 53 = .ok (.aload_n 0, 1) := by decide +kernel
theorem dX11_take_54 : decode cX11_take 54 = .ok (.iload_n 1, 1) := by decide +kernel
theorem dX11_take_55 : decode cX11_take 55 = .ok (.invokevirtual 74, 3) := by decide +kernel
theorem dX11_take_58 : decode cX11_take 58 = .ok (.if_icmp .ge 60, 3) := by decide +kernel
theorem dX11_take_61 : decode cX11_take 61 = .ok (.aload_n 0, 1) := by decide +kernel
theorem dX11_take_62 : decode cX11_take 62 = .ok (.iload_n 1, 1) := by decide +kernel
theorem dX11_take_63 : decode cX11_take 63 = .ok (.iload 4, 2) := by decide +kernel
theorem dX11_take_65 : decode cX11_take 65 = .ok (.invokevirtual 142, 3) := by decide +kernel
theorem dX11_take_68 : decode cX11_take 68 = .ok (.istore 5, 2) := by decide +kernel
theorem dX11_take_70 : decode cX11_take 70 = .ok (.aload_n 0, 1) := by decide +kernel
theorem dX11_take_71 : decode cX11_take 71 = .ok (.iload 5, 2) := by decide +kernel
theorem dX11_take_73 : decode cX11_take 73 = .ok (.invokevirtual 184, 3) := by decide +kernel
theorem dX11_take_76 : decode cX11_take 76 = .ok (.istore 6, 2) := by decide +kernel
theorem dX11_take_78 : decode cX11_take 78 = .ok (.aload_n 0, 1) := by decide +kernel
theorem dX11_take_79 : decode cX11_take 79 = .ok (.iload 5, 2) := by decide +kernel
theorem dX11_take_81 : decode cX11_take 81 = .ok (.invokevirtual 173, 3) := by decide +kernel
theorem dX11_take_84 : decode cX11_take 84 = .ok (.ifCond .ne 28, 3) := by decide +kernel
theorem dX11_take_87 : decode cX11_take 87 = .ok (.iload 6, 2) := by decide +kernel
theorem dX11_take_89 : decode cX11_take 89 = .ok (.ifCond .lt 23, 3) := by decide +kernel
theorem dX11_take_92 : decode cX11_take 92 = .ok (.aload_n 0, 1) := by decide +kernel
theorem dX11_take_93 : decode cX11_take 93 = .ok (.iload 5, 2) := by decide +kernel
theorem dX11_take_95 : decode cX11_take 95 = .ok (.aload_n 0, 1) := by decide +kernel
theorem dX11_take_96 : decode cX11_take 96 = .ok (.aload_n 0, 1) := by decide +kernel
theorem dX11_take_97 : decode cX11_take 97 = .ok (.iload 6, 2) := by decide +kernel
theorem dX11_take_99 : decode cX11_take 99 = .ok (.invokevirtual 116, 3) := by decide +kernel
theorem dX11_take_102 : decode cX11_take 102 = .ok (.bipush 9, 2) := by decide +kernel
theorem dX11_take_104 : decode cX11_take 104 = .ok (.iadd, 1) := by decide +kernel
theorem dX11_take_105 : decode cX11_take 105 = .ok (.invokevirtual 53, 3) := by decide +kernel
theorem dX11_take_108 : decode cX11_take 108 = .ok (.iconst 3, 1) := by decide +kernel
theorem dX11_take_109 : decode cX11_take 109 = .ok (.invokevirtual 187, 3) := by decide +kernel
theorem dX11_take_112 : decode cX11_take 112 = .ok (.iinc 4 1, 3) := by decide +kernel
theorem dX11_take_115 : decode cX11_take 115 = .ok (.goto (-64), 3) := by decide +kernel
theorem dX11_take_118 : decode cX11_take 118 = .ok (.aload_n 0, 1) := by decide +kernel
theorem dX11_take_119 : decode cX11_take 119 = .ok (.getfield 7, 3) := by decide +kernel
theorem dX11_take_122 : decode cX11_take 122 = .ok (.aload_n 0, 1) := by decide +kernel
theorem dX11_take_123 : decode cX11_take 123 = .ok (.iload_n 1, 1) := by decide +kernel
theorem dX11_take_124 : decode cX11_take 124 = .ok (.invokevirtual 64, 3) := by decide +kernel
theorem dX11_take_127 : decode cX11_take 127 = .ok (.iconst 1, 1) := by decide +kernel
theorem dX11_take_128 : decode cX11_take 128 = .ok (.iadd, 1) := by decide +kernel
theorem dX11_take_129 : decode cX11_take 129 = .ok (.lconst 1, 1) := by decide +kernel
theorem dX11_take_130 : decode cX11_take 130 = .ok (.lastore, 1) := by decide +kernel
theorem dX11_take_131 : decode cX11_take 131 = .ok (.aload_n 0, 1) := by decide +kernel
theorem dX11_take_132 : decode cX11_take 132 = .ok (.getfield 7, 3) := by decide +kernel
theorem dX11_take_135 : decode cX11_take 135 = .ok (.aload_n 0, 1) := by decide +kernel
theorem dX11_take_136 : decode cX11_take 136 = .ok (.iload_n 1, 1) := by decide +kernel
theorem dX11_take_137 : decode cX11_take 137 = .ok (.invokevirtual 64, 3) := by decide +kernel
theorem dX11_take_140 : decode cX11_take 140 = .ok (.iconst 2, 1) := by decide +kernel
theorem dX11_take_141 : decode cX11_take 141 = .ok (.iadd, 1) := by decide +kernel
theorem dX11_take_142 : decode cX11_take 142 = .ok (.iload_n 2, 1) := by decide +kernel
theorem dX11_take_143 : decode cX11_take 143 = .ok (.i2l, 1) := by decide +kernel
theorem dX11_take_144 : decode cX11_take 144 = .ok (.lastore, 1) := by decide +kernel
theorem dX11_take_145 : decode cX11_take 145 = .ok (.aload_n 0, 1) := by decide +kernel
theorem dX11_take_146 : decode cX11_take 146 = .ok (.getfield 7, 3) := by decide +kernel
theorem dX11_take_149 : decode cX11_take 149 = .ok (.aload_n 0, 1) := by decide +kernel
theorem dX11_take_150 : decode cX11_take 150 = .ok (.iload_n 1, 1) := by decide +kernel
theorem dX11_take_151 : decode cX11_take 151 = .ok (.invokevirtual 64, 3) := by decide +kernel
theorem dX11_take_154 : decode cX11_take 154 = .ok (.iconst 4, 1) := by decide +kernel
theorem dX11_take_155 : decode cX11_take 155 = .ok (.iadd, 1) := by decide +kernel
theorem dX11_take_156 : decode cX11_take 156 = .ok (.iload_n 3, 1) := by decide +kernel
theorem dX11_take_157 : decode cX11_take 157 = .ok (.i2l, 1) := by decide +kernel
theorem dX11_take_158 : decode cX11_take 158 = .ok (.lastore, 1) := by decide +kernel
theorem dX11_take_159 : decode cX11_take 159 = .ok (.iload_n 3, 1) := by decide +kernel
theorem dX11_take_160 : decode cX11_take 160 = .ok (.ireturn, 1) := by decide +kernel
theorem dX11_openDispute_0 : decode cX11_openDispute 0 = .ok (.iconst 0, 1) := by decide +kernel
theorem dX11_openDispute_1 : decode cX11_openDispute 1 = .ok (.istore_n 2, 1) := by decide +kernel
theorem dX11_openDispute_2 : decode cX11_openDispute 2 = .ok (.iload_n 2, 1) := by decide +kernel
theorem dX11_openDispute_3 : decode cX11_openDispute 3 = .ok (.i2l, 1) := by decide +kernel
theorem dX11_openDispute_4 : decode cX11_openDispute 4 = .ok (.aload_n 0, 1) := by decide +kernel
theorem dX11_openDispute_5 : decode cX11_openDispute 5 = .ok (.getfield 7, 3) := by decide +kernel
theorem dX11_openDispute_8 : decode cX11_openDispute 8 = .ok (.iconst 3, 1) := by decide +kernel
theorem dX11_openDispute_9 : decode cX11_openDispute 9 = .ok (.laload, 1) := by decide +kernel
theorem dX11_openDispute_10 : decode cX11_openDispute 10 = .ok (.lcmp, 1) := by decide +kernel
theorem dX11_openDispute_11 : decode cX11_openDispute 11 = .ok (.ifCond .ge 46, 3) := by decide +kernel
theorem dX11_openDispute_14 : decode cX11_openDispute 14 = .ok (.aload_n 0, 1) := by decide +kernel
theorem dX11_openDispute_15 : decode cX11_openDispute 15 = .ok (.getfield 7, 3) := by decide +kernel
theorem dX11_openDispute_18 : decode cX11_openDispute 18 = .ok (.aload_n 0, 1) := by decide +kernel
theorem dX11_openDispute_19 : decode cX11_openDispute 19 = .ok (.iload_n 2, 1) := by decide +kernel
theorem dX11_openDispute_20 : decode cX11_openDispute 20 = .ok (.invokevirtual 191, 3) := by decide +kernel
theorem dX11_openDispute_23 : decode cX11_openDispute 23 = .ok (.iconst 0, 1) := by decide +kernel
theorem dX11_openDispute_24 : decode cX11_openDispute 24 = .ok (.iadd, 1) := by decide +kernel
theorem dX11_openDispute_25 : decode cX11_openDispute 25 = .ok (.laload, 1) := by decide +kernel
theorem dX11_openDispute_26 : decode cX11_openDispute 26 = .ok (.iload_n 1, 1) := by decide +kernel
theorem dX11_openDispute_27 : decode cX11_openDispute 27 = .ok (.i2l, 1) := by decide +kernel
theorem dX11_openDispute_28 : decode cX11_openDispute 28 = .ok (.lcmp, 1) := by decide +kernel
theorem dX11_openDispute_29 : decode cX11_openDispute 29 = .ok (.ifCond .ne 22, 3) := by decide +kernel
theorem dX11_openDispute_32 : decode cX11_openDispute 32 = .ok (.aload_n 0, 1) := by decide +kernel
theorem dX11_openDispute_33 : decode cX11_openDispute 33 = .ok (.getfield 7, 3) := by decide +kernel
theorem dX11_openDispute_36 : decode cX11_openDispute 36 = .ok (.aload_n 0, 1) := by decide +kernel
theorem dX11_openDispute_37 : decode cX11_openDispute 37 = .ok (.iload_n 2, 1) := by decide +kernel
theorem dX11_openDispute_38 : decode cX11_openDispute 38 = .ok (.invokevirtual 191, 3) := by decide +kernel
theorem dX11_openDispute_41 : decode cX11_openDispute 41 = .ok (.iconst 3, 1) := by decide +kernel
theorem dX11_openDispute_42 : decode cX11_openDispute 42 = .ok (.iadd, 1) := by decide +kernel
theorem dX11_openDispute_43 : decode cX11_openDispute 43 = .ok (.laload, 1) := by decide +kernel
theorem dX11_openDispute_44 : decode cX11_openDispute 44 = .ok (.lconst 0, 1) := by decide +kernel
theorem dX11_openDispute_45 : decode cX11_openDispute 45 = .ok (.lcmp, 1) := by decide +kernel
theorem dX11_openDispute_46 : decode cX11_openDispute 46 = .ok (.ifCond .ne 5, 3) := by decide +kernel
theorem dX11_openDispute_49 : decode cX11_openDispute 49 = .ok (.iload_n 2, 1) := by decide +kernel
theorem dX11_openDispute_50 : decode cX11_openDispute 50 = .ok (.ireturn, 1) := by decide +kernel
theorem dX11_openDispute_51 : decode cX11_openDispute 51 = .ok (.iinc 2 1, 3) := by decide +kernel
theorem dX11_openDispute_54 : decode cX11_openDispute 54 = .ok (.goto (-52), 3) := by decide +kernel
theorem dX11_openDispute_57 : decode cX11_openDispute 57 = .ok (.bipush (-5), 2) := by decide +kernel
theorem dX11_openDispute_59 : decode cX11_openDispute 59 = .ok (.ireturn, 1) := by decide +kernel
theorem dX11_isSettled_0 : decode cX11_isSettled 0 = .ok (.aload_n 0, 1) := by decide +kernel
theorem dX11_isSettled_1 : decode cX11_isSettled 1 = .ok (.getfield 7, 3) := by decide +kernel
theorem dX11_isSettled_4 : decode cX11_isSettled 4 = .ok (.aload_n 0, 1) := by decide +kernel
theorem dX11_isSettled_5 : decode cX11_isSettled 5 = .ok (.iload_n 1, 1) := by decide +kernel
theorem dX11_isSettled_6 : decode cX11_isSettled 6 = .ok (.invokevirtual 116, 3) := by decide +kernel
theorem dX11_isSettled_9 : decode cX11_isSettled 9 = .ok (.bipush 10, 2) := by decide +kernel
theorem dX11_isSettled_11 : decode cX11_isSettled 11 = .ok (.iadd, 1) := by decide +kernel
theorem dX11_isSettled_12 : decode cX11_isSettled 12 = .ok (.laload, 1) := by decide +kernel
theorem dX11_isSettled_13 : decode cX11_isSettled 13 = .ok (.lconst 1, 1) := by decide +kernel
theorem dX11_isSettled_14 : decode cX11_isSettled 14 = .ok (.lcmp, 1) := by decide +kernel
theorem dX11_isSettled_15 : decode cX11_isSettled 15 = .ok (.ifCond .ne 7, 3) := by decide +kernel
theorem dX11_isSettled_18 : decode cX11_isSettled 18 = .ok (.iconst 1, 1) := by decide +kernel
theorem dX11_isSettled_19 : decode cX11_isSettled 19 = .ok (.goto 4, 3) := by decide +kernel
theorem dX11_isSettled_22 : decode cX11_isSettled 22 = .ok (.iconst 0, 1) := by decide +kernel
theorem dX11_isSettled_23 : decode cX11_isSettled 23 = .ok (.ireturn, 1) := by decide +kernel
theorem dX11_spread_0 : decode cX11_spread 0 = .ok (.iconst 0, 1) := by decide +kernel
theorem dX11_spread_1 : decode cX11_spread 1 = .ok (.istore_n 2, 1) := by decide +kernel
theorem dX11_spread_2 : decode cX11_spread 2 = .ok (.iconst 0, 1) := by decide +kernel
theorem dX11_spread_3 : decode cX11_spread 3 = .ok (.istore_n 3, 1) := by decide +kernel
theorem dX11_spread_4 : decode cX11_spread 4 = .ok (.iload_n 3, 1) := by decide +kernel
theorem dX11_spread_5 : decode cX11_spread 5 = .ok (.i2l, 1) := by decide +kernel
theorem dX11_spread_6 : decode cX11_spread 6 = .ok (.aload_n 0, 1) := by decide +kernel
theorem dX11_spread_7 : decode cX11_spread 7 = .ok (.getfield 7, 3) := by decide +kernel
theorem dX11_spread_10 : decode cX11_spread 10 = .ok (.iconst 0, 1) := by decide +kernel
theorem dX11_spread_11 : decode cX11_spread 11 = .ok (.laload, 1) := by decide +kernel
theorem dX11_spread_12 : decode cX11_spread 12 = .ok (.lcmp, 1) := by decide +kernel
theorem dX11_spread_13 : decode cX11_spread 13 = .ok (.ifCond .ge 83, 3) := by decide +kernel
theorem dX11_spread_16 : decode cX11_spread 16 = .ok (.iconst 0, 1) := by decide +kernel
theorem dX11_spread_17 : decode cX11_spread 17 = .ok (.istore 4, 2) := by decide +kernel
theorem dX11_spread_19 : decode cX11_spread 19 = .ok (.iload 4, 2) := by decide +kernel
theorem dX11_spread_21 : decode cX11_spread 21 = .ok (.aload_n 0, 1) := by decide +kernel
theorem dX11_spread_22 : decode cX11_spread 22 = .ok (.iload_n 3, 1) := by decide +kernel
theorem dX11_spread_23 : decode cX11_spread 23 = .ok (.invokevirtual 74, 3) := by decide +kernel
theorem dX11_spread_26 : decode cX11_spread 26 = .ok (.if_icmp .ge 64, 3) := by decide +kernel
theorem dX11_spread_29 : decode cX11_spread 29 = .ok (.aload_n 0, 1) := by decide +kernel
theorem dX11_spread_30 : decode cX11_spread 30 = .ok (.iload_n 3, 1) := by decide +kernel
theorem dX11_spread_31 : decode cX11_spread 31 = .ok (.invokevirtual 67, 3) := by decide +kernel
theorem dX11_spread_34 : decode cX11_spread 34 = .ok (.iconst 1, 1) := by decide +kernel
theorem dX11_spread_35 : decode cX11_spread 35 = .ok (.if_icmp .ne 55, 3) := by decide +kernel
theorem dX11_spread_38 : decode cX11_spread 38 = .ok (.aload_n 0, 1) := by decide +kernel
theorem dX11_spread_39 : decode cX11_spread 39 = .ok (.iload_n 3, 1) := by decide +kernel
theorem dX11_spread_40 : decode cX11_spread 40 = .ok (.iload 4, 2) := by decide +kernel
theorem dX11_spread_42 : decode cX11_spread 42 = .ok (.invokevirtual 142, 3) := by decide +kernel
theorem dX11_spread_45 : decode cX11_spread 45 = .ok (.istore 5, 2) := by decide +kernel
theorem dX11_spread_47 : decode cX11_spread 47 = .ok (.aload_n 0, 1) := by decide +kernel
theorem dX11_spread_48 : decode cX11_spread 48 = .ok (.iload 5, 2) := by decide +kernel
theorem dX11_spread_50 : decode cX11_spread 50 = .ok (.invokevirtual 173, 3) := by decide +kernel
theorem dX11_spread_53 : decode cX11_spread 53 = .ok (.ifCond .ne 31, 3) := by decide +kernel
theorem dX11_spread_56 : decode cX11_spread 56 = .ok (.aload_n 0, 1) := by decide +kernel
theorem dX11_spread_57 : decode cX11_spread 57 = .ok (.iload 5, 2) := by decide +kernel
theorem dX11_spread_59 : decode cX11_spread 59 = .ok (.iload_n 1, 1) := by decide +kernel
theorem dX11_spread_60 : decode cX11_spread 60 = .ok (.invokevirtual 119, 3) := by decide +kernel
theorem dX11_spread_63 : decode cX11_spread 63 = .ok (.ifCond .eq 21, 3) := by decide +kernel
theorem dX11_spread_66 : decode cX11_spread 66 = .ok (.aload_n 0, 1) := by decide +kernel
theorem dX11_spread_67 : decode cX11_spread 67 = .ok (.iload 5, 2) := by decide +kernel
theorem dX11_spread_69 : decode cX11_spread 69 = .ok (.aload_n 0, 1) := by decide +kernel
theorem dX11_spread_70 : decode cX11_spread 70 = .ok (.iload_n 1, 1) := by decide +kernel
theorem dX11_spread_71 : decode cX11_spread 71 = .ok (.bipush 9, 2) := by decide +kernel
theorem dX11_spread_73 : decode cX11_spread 73 = .ok (.iadd, 1) := by decide +kernel
theorem dX11_spread_74 : decode cX11_spread 74 = .ok (.invokevirtual 53, 3) := by decide +kernel
theorem dX11_spread_77 : decode cX11_spread 77 = .ok (.iconst 2, 1) := by decide +kernel
theorem dX11_spread_78 : decode cX11_spread 78 = .ok (.invokevirtual 187, 3) := by decide +kernel
theorem dX11_spread_81 : decode cX11_spread 81 = .ok (.iinc 2 1, 3) := by decide +kernel
theorem dX11_spread_84 : decode cX11_spread 84 = .ok (.iinc 4 1, 3) := by decide +kernel
theorem dX11_spread_87 : decode cX11_spread 87 = .ok (.goto (-68), 3) := by decide +kernel
theorem dX11_spread_90 : decode cX11_spread 90 = .ok (.iinc 3 1, 3) := by decide +kernel
theorem dX11_spread_93 : decode cX11_spread 93 = .ok (.goto (-89), 3) := by decide +kernel
theorem dX11_spread_96 : decode cX11_spread 96 = .ok (.iload_n 2, 1) := by decide +kernel
theorem dX11_spread_97 : decode cX11_spread 97 = .ok (.ireturn, 1) := by decide +kernel
theorem dX11_newDispute_0 : decode cX11_newDispute 0 = .ok (.aload_n 0, 1) := by decide +kernel
theorem dX11_newDispute_1 : decode cX11_newDispute 1 = .ok (.iconst 3, 1) := by decide +kernel
theorem dX11_newDispute_2 : decode cX11_newDispute 2 = .ok (.invokevirtual 53, 3) := by decide +kernel
theorem dX11_newDispute_5 : decode cX11_newDispute 5 = .ok (.istore_n 3, 1) := by decide +kernel
theorem dX11_newDispute_6 : decode cX11_newDispute 6 = .ok (.aload_n 0, 1) := by decide +kernel
theorem dX11_newDispute_7 : decode cX11_newDispute 7 = .ok (.getfield 7, 3) := by decide +kernel
theorem dX11_newDispute_10 : decode cX11_newDispute 10 = .ok (.aload_n 0, 1) := by decide +kernel
theorem dX11_newDispute_11 : decode cX11_newDispute 11 = .ok (.iload_n 3, 1) := by decide +kernel
theorem dX11_newDispute_12 : decode cX11_newDispute 12 = .ok (.invokevirtual 191, 3) := by decide +kernel
theorem dX11_newDispute_15 : decode cX11_newDispute 15 = .ok (.iconst 0, 1) := by decide +kernel
theorem dX11_newDispute_16 : decode cX11_newDispute 16 = .ok (.iadd, 1) := by decide +kernel
theorem dX11_newDispute_17 : decode cX11_newDispute 17 = .ok (.iload_n 1, 1) := by decide +kernel
theorem dX11_newDispute_18 : decode cX11_newDispute 18 = .ok (.i2l, 1) := by decide +kernel
theorem dX11_newDispute_19 : decode cX11_newDispute 19 = .ok (.lastore, 1) := by decide +kernel
theorem dX11_newDispute_20 : decode cX11_newDispute 20 = .ok (.aload_n 0, 1) := by decide +kernel
theorem dX11_newDispute_21 : decode cX11_newDispute 21 = .ok (.getfield 7, 3) := by decide +kernel
theorem dX11_newDispute_24 : decode cX11_newDispute 24 = .ok (.aload_n 0, 1) := by decide +kernel
theorem dX11_newDispute_25 : decode cX11_newDispute 25 = .ok (.iload_n 3, 1) := by decide +kernel
theorem dX11_newDispute_26 : decode cX11_newDispute 26 = .ok (.invokevirtual 191, 3) := by decide +kernel
theorem dX11_newDispute_29 : decode cX11_newDispute 29 = .ok (.iconst 1, 1) := by decide +kernel
theorem dX11_newDispute_30 : decode cX11_newDispute 30 = .ok (.iadd, 1) := by decide +kernel
theorem dX11_newDispute_31 : decode cX11_newDispute 31 = .ok (.aload_n 0, 1) := by decide +kernel
theorem dX11_newDispute_32 : decode cX11_newDispute 32 = .ok (.getfield 7, 3) := by decide +kernel
theorem dX11_newDispute_35 : decode cX11_newDispute 35 = .ok (.aload_n 0, 1) := by decide +kernel
theorem dX11_newDispute_36 : decode cX11_newDispute 36 = .ok (.iload_n 1, 1) := by decide +kernel
theorem dX11_newDispute_37 : decode cX11_newDispute 37 = .ok (.invokevirtual 116, 3) := by decide +kernel
theorem dX11_newDispute_40 : decode cX11_newDispute 40 = .ok (.bipush 9, 2) := by decide +kernel
theorem dX11_newDispute_42 : decode cX11_newDispute 42 = .ok (.iadd, 1) := by decide +kernel
theorem dX11_newDispute_43 : decode cX11_newDispute 43 = .ok (.laload, 1) := by decide +kernel
theorem dX11_newDispute_44 : decode cX11_newDispute 44 = .ok (.lastore, 1) := by decide +kernel
theorem dX11_newDispute_45 : decode cX11_newDispute 45 = .ok (.aload_n 0, 1) := by decide +kernel
theorem dX11_newDispute_46 : decode cX11_newDispute 46 = .ok (.getfield 7, 3) := by decide +kernel
theorem dX11_newDispute_49 : decode cX11_newDispute 49 = .ok (.aload_n 0, 1) := by decide +kernel
theorem dX11_newDispute_50 : decode cX11_newDispute 50 = .ok (.iload_n 3, 1) := by decide +kernel
theorem dX11_newDispute_51 : decode cX11_newDispute 51 = .ok (.invokevirtual 191, 3) := by decide +kernel
theorem dX11_newDispute_54 : decode cX11_newDispute 54 = .ok (.iconst 2, 1) := by decide +kernel
theorem dX11_newDispute_55 : decode cX11_newDispute 55 = .ok (.iadd, 1) := by decide +kernel
theorem dX11_newDispute_56 : decode cX11_newDispute 56 = .ok (.iload_n 2, 1) := by decide +kernel
theorem dX11_newDispute_57 : decode cX11_newDispute 57 = .ok (.i2l, 1) := by decide +kernel
theorem dX11_newDispute_58 : decode cX11_newDispute 58 = .ok (.lastore, 1) := by decide +kernel
theorem dX11_newDispute_59 : decode cX11_newDispute 59 = .ok (.aload_n 0, 1) := by decide +kernel
theorem dX11_newDispute_60 : decode cX11_newDispute 60 = .ok (.getfield 7, 3) := by decide +kernel
theorem dX11_newDispute_63 : decode cX11_newDispute 63 = .ok (.aload_n 0, 1) := by decide +kernel
theorem dX11_newDispute_64 : decode cX11_newDispute 64 = .ok (.iload_n 3, 1) := by decide +kernel
theorem dX11_newDispute_65 : decode cX11_newDispute 65 = .ok (.invokevirtual 191, 3) := by decide +kernel
theorem dX11_newDispute_68 : decode cX11_newDispute 68 = .ok (.iconst 3, 1) := by decide +kernel
theorem dX11_newDispute_69 : decode cX11_newDispute 69 = .ok (.iadd, 1) := by decide +kernel
theorem dX11_newDispute_70 : decode cX11_newDispute 70 = .ok (.lconst 0, 1) := by decide +kernel
theorem dX11_newDispute_71 : decode cX11_newDispute 71 = .ok (.lastore, 1) := by decide +kernel
theorem dX11_newDispute_72 : decode cX11_newDispute 72 = .ok (.aload_n 0, 1) := by decide +kernel
theorem dX11_newDispute_73 : decode cX11_newDispute 73 = .ok (.getfield 7, 3) := by decide +kernel
theorem dX11_newDispute_76 : decode cX11_newDispute 76 = .ok (.aload_n 0, 1) := by decide +kernel
theorem dX11_newDispute_77 : decode cX11_newDispute 77 = .ok (.iload_n 3, 1) := by decide +kernel
theorem dX11_newDispute_78 : decode cX11_newDispute 78 = .ok (.invokevirtual 191, 3) := by decide +kernel
theorem dX11_newDispute_81 : decode cX11_newDispute 81 = .ok (.iconst 4, 1) := by decide +kernel
theorem dX11_newDispute_82 : decode cX11_newDispute 82 = .ok (.iadd, 1) := by decide +kernel
theorem dX11_newDispute_83 : decode cX11_newDispute 83 = .ok (.ldc2_w 82, 3) := by decide +kernel
theorem dX11_newDispute_86 : decode cX11_newDispute 86 = .ok (.lastore, 1) := by decide +kernel
theorem dX11_newDispute_87 : decode cX11_newDispute 87 = .ok (.aload_n 0, 1) := by decide +kernel
theorem dX11_newDispute_88 : decode cX11_newDispute 88 = .ok (.getfield 7, 3) := by decide +kernel
theorem dX11_newDispute_91 : decode cX11_newDispute 91 = .ok (.iconst 3, 1) := by decide +kernel
theorem dX11_newDispute_92 : decode cX11_newDispute 92 = .ok (.iload_n 3, 1) := by decide +kernel
theorem dX11_newDispute_93 : decode cX11_newDispute 93 = .ok (.iconst 1, 1) := by decide +kernel
theorem dX11_newDispute_94 : decode cX11_newDispute 94 = .ok (.iadd, 1) := by decide +kernel
theorem dX11_newDispute_95 : decode cX11_newDispute 95 = .ok (.i2l, 1) := by decide +kernel
theorem dX11_newDispute_96 : decode cX11_newDispute 96 = .ok (.lastore, 1) := by decide +kernel
theorem dX11_newDispute_97 : decode cX11_newDispute 97 = .ok (.return_, 1) := by decide +kernel
theorem dX11_translate_0 : decode cX11_translate 0 = .ok (.aload_n 0, 1) := by decide +kernel
theorem dX11_translate_1 : decode cX11_translate 1 = .ok (.iload_n 1, 1) := by decide +kernel
theorem dX11_translate_2 : decode cX11_translate 2 = .ok (.iload_n 2, 1) := by decide +kernel
theorem dX11_translate_3 : decode cX11_translate 3 = .ok (.invokevirtual 194, 3) := by decide +kernel
theorem dX11_translate_6 : decode cX11_translate 6 = .ok (.ifCond .eq 5, 3) := by decide +kernel
theorem dX11_translate_9 : decode cX11_translate 9 = .ok (.iconst (-1), 1) := by decide +kernel
theorem dX11_translate_10 : decode cX11_translate 10 = .ok (.ireturn, 1) := by decide +kernel
theorem dX11_translate_11 : decode cX11_translate 11 = .ok (.iload_n 3, 1) := by decide +kernel
theorem dX11_translate_12 : decode cX11_translate 12 = .ok (.iconst 1, 1) := by decide +kernel
theorem dX11_translate_13 : decode cX11_translate 13 = .ok (.sipush 999, 3) := by decide +kernel
theorem dX11_translate_16 : decode cX11_translate 16 = .ok (.invokestatic 60, 3) := by decide +kernel
theorem dX11_translate_19 : decode cX11_translate 19 = .ok (.ifCond .ne 6, 3) := by decide +kernel
theorem dX11_translate_22 : decode cX11_translate 22 = .ok (.bipush (-2), 2) := by decide +kernel
theorem dX11_translate_24 : decode cX11_translate 24 = .ok (.ireturn, 1) := by decide +kernel
theorem dX11_translate_25 : decode cX11_translate 25 = .ok (.aload_n 0, 1) := by decide +kernel
theorem dX11_translate_26 : decode cX11_translate 26 = .ok (.iload_n 1, 1) := by decide +kernel
theorem dX11_translate_27 : decode cX11_translate 27 = .ok (.iload_n 2, 1) := by decide +kernel
theorem dX11_translate_28 : decode cX11_translate 28 = .ok (.invokevirtual 142, 3) := by decide +kernel
theorem dX11_translate_31 : decode cX11_translate 31 = .ok (.istore 4, 2) := by decide +kernel
theorem dX11_translate_33 : decode cX11_translate 33 = .ok (.aload_n 0, 1) := by decide +kernel
theorem dX11_translate_34 : decode cX11_translate 34 = .ok (.iload 4, 2) := by decide +kernel
theorem dX11_translate_36 : decode cX11_translate 36 = .ok (.invokevirtual 184, 3) := by decide +kernel
theorem dX11_translate_39 : decode cX11_translate 39 = .ok (.istore 5, 2) := by decide +kernel
theorem dX11_translate_41 : decode cX11_translate 41 = .ok (.iload 5, 2) := by decide +kernel
theorem dX11_translate_43 : decode cX11_translate 43 = .ok (.ifCond .lt 27, 3) := by decide +kernel
theorem dX11_translate_46 : decode cX11_translate 46 = .ok (.aload_n 0, 1) := by decide +kernel
theorem dX11_translate_47 : decode cX11_translate 47 = .ok (.getfield 7, 3) := by decide +kernel
theorem dX11_translate_50 : decode cX11_translate 50 = .ok (.aload_n 0, 1) := by decide +kernel
theorem dX11_translate_51 : decode cX11_translate 51 = .ok (.iload 5, 2) := by decide +kernel
theorem dX11_translate_53 : decode cX11_translate 53 = .ok (.invokevirtual 116, 3) := by decide +kernel
theorem dX11_translate_56 : decode cX11_translate 56 = .ok (.bipush 9, 2) := by decide +kernel
theorem dX11_translate_58 : decode cX11_translate 58 = .ok (.iadd, 1) := by decide +kernel
theorem dX11_translate_59 : decode cX11_translate 59 = .ok (.laload, 1) := by decide +kernel
theorem dX11_translate_60 : decode cX11_translate 60 = .ok (.iload_n 3, 1) := by decide +kernel
theorem dX11_translate_61 : decode cX11_translate 61 = .ok (.i2l, 1) := by decide +kernel
theorem dX11_translate_62 : decode cX11_translate 62 = .ok (.lcmp, 1) := by decide +kernel
theorem dX11_translate_63 : decode cX11_translate 63 = .ok (.ifCond .eq 7, 3) := by decide +kernel
theorem dX11_translate_66 : decode cX11_translate 66 = .ok (.iconst 1, 1) := by decide +kernel
theorem dX11_translate_67 : decode cX11_translate 67 = .ok (.goto 4, 3) := by decide +kernel
theorem dX11_translate_70 : decode cX11_translate 70 = .ok (.iconst 0, 1) := by decide +kernel
theorem dX11_translate_71 : decode cX11_translate 71 = .ok (.istore 6, 2) := by decide +kernel
theorem dX11_translate_73 : decode cX11_translate 73 = .ok (.aload_n 0, 1) := by decide +kernel
theorem dX11_translate_74 : decode cX11_translate 74 = .ok (.iload_n 1, 1) := by decide +kernel
theorem dX11_translate_75 : decode cX11_translate 75 = .ok (.invokevirtual 67, 3) := by decide +kernel
theorem dX11_translate_78 : decode cX11_translate 78 = .ok (.iconst 1, 1) := by decide +kernel
theorem dX11_translate_79 : decode cX11_translate 79 = .ok (.if_icmp .ne 17, 3) := by decide +kernel
theorem dX11_translate_82 : decode cX11_translate 82 = .ok (.iload 6, 2) := by decide +kernel
theorem dX11_translate_84 : decode cX11_translate 84 = .ok (.ifCond .eq 15, 3) := by decide +kernel
theorem dX11_translate_87 : decode cX11_translate 87 = .ok (.aload_n 0, 1) := by decide +kernel
theorem dX11_translate_88 : decode cX11_translate 88 = .ok (.iload 5, 2) := by decide +kernel
theorem dX11_translate_90 : decode cX11_translate 90 = .ok (.invokevirtual 197, 3) := by decide +kernel
theorem dX11_translate_93 : decode cX11_translate 93 = .ok (.ifCond .eq 6, 3) := by decide +kernel
theorem dX11_translate_96 : decode cX11_translate 96 = .ok (.bipush (-4), 2) := by decide +kernel
theorem dX11_translate_98 : decode cX11_translate 98 = .ok (.ireturn, 1) := by decide +kernel
theorem dX11_translate_99 : decode cX11_translate 99 = .ok (.iload 6, 2) := by decide +kernel
theorem dX11_translate_101 : decode cX11_translate 101 = .ok (.ifCond .eq 16, 3) := by decide +kernel
theorem dX11_translate_104 : decode cX11_translate 104 = .ok (.aload_n 0, 1) := by decide +kernel
theorem dX11_translate_105 : decode cX11_translate 105 = .ok (.iload 5, 2) := by decide +kernel
theorem dX11_translate_107 : decode cX11_translate 107 = .ok (.invokevirtual 200, 3) := by decide +kernel
theorem dX11_translate_110 : decode cX11_translate 110 = .ok (.ifCond .ge 7, 3) := by decide +kernel
theorem dX11_translate_113 : decode cX11_translate 113 = .ok (.iconst 1, 1) := by decide +kernel
theorem dX11_translate_114 : decode cX11_translate 114 = .ok (.goto 4, 3) := by decide +kernel
theorem dX11_translate_117 : decode cX11_translate 117 = .ok (.iconst 0, 1) := by decide +kernel
theorem dX11_translate_118 : decode cX11_translate 118 = .ok (.istore 7, 2) := by decide +kernel
theorem dX11_translate_120 : decode cX11_translate 120 = .ok (.iload 5, 2) := by decide +kernel
theorem dX11_translate_122 : decode cX11_translate 122 = .ok (.ifCond .ge 16, 3) := by decide +kernel
theorem dX11_translate_125 : decode cX11_translate 125 = .ok (.aload_n 0, 1) := by decide +kernel
theorem dX11_translate_126 : decode cX11_translate 126 = .ok (.getfield 7, 3) := by decide +kernel
theorem dX11_translate_129 : decode cX11_translate 129 = .ok (.iconst 2, 1) := by decide +kernel
theorem dX11_translate_130 : decode cX11_translate 130 = .ok (.laload, 1) := by decide +kernel
theorem dX11_translate_131 : decode cX11_translate 131 = .ok (.ldc2_w 37, 3) := by decide +kernel
theorem dX11_translate_134 : decode cX11_translate 134 = .ok (.lcmp, 1) := by decide +kernel
theorem dX11_translate_135 : decode cX11_translate 135 = .ok (.ifCond .eq 21, 3) := by decide +kernel
theorem dX11_translate_138 : decode cX11_translate 138 = .ok (.iload 7, 2) := by decide +kernel
theorem dX11_translate_140 : decode cX11_translate 140 = .ok (.ifCond .eq 19, 3) := by decide +kernel
theorem dX11_translate_143 : decode cX11_translate 143 = .ok (.aload_n 0, 1) := by decide +kernel
theorem dX11_translate_144 : decode cX11_translate 144 = .ok (.getfield 7, 3) := by decide +kernel
theorem dX11_translate_147 : decode cX11_translate 147 = .ok (.iconst 3, 1) := by decide +kernel
theorem dX11_translate_148 : decode cX11_translate 148 = .ok (.laload, 1) := by decide +kernel
theorem dX11_translate_149 : decode cX11_translate 149 = .ok (.ldc2_w 33, 3) := by decide +kernel
theorem dX11_translate_152 : decode cX11_translate 152 = .ok (.lcmp, 1) := by decide +kernel
theorem dX11_translate_153 : decode cX11_translate 153 = .ok (.ifCond .ne 6, 3) := by decide +kernel
theorem dX11_translate_156 : decode cX11_translate 156 = .ok (.bipush (-3), 2) := by decide +kernel
theorem dX11_translate_158 : decode cX11_translate 158 = .ok (.ireturn, 1) := by decide +kernel
theorem dX11_translate_159 : decode cX11_translate 159 = .ok (.aload_n 0, 1) := by decide +kernel
theorem dX11_translate_160 : decode cX11_translate 160 = .ok (.getfield 7, 3) := by decide +kernel
theorem dX11_translate_163 : decode cX11_translate 163 = .ok (.iload 4, 2) := by decide +kernel
theorem dX11_translate_165 : decode cX11_translate 165 = .ok (.bipush 9, 2) := by decide +kernel
theorem dX11_translate_167 : decode cX11_translate 167 = .ok (.iadd, 1) := by decide +kernel
theorem dX11_translate_168 : decode cX11_translate 168 = .ok (.laload, 1) := by decide +kernel
theorem dX11_translate_169 : decode cX11_translate 169 = .ok (.iload_n 3, 1) := by decide +kernel
theorem dX11_translate_170 : decode cX11_translate 170 = .ok (.i2l, 1) := by decide +kernel
theorem dX11_translate_171 : decode cX11_translate 171 = .ok (.lcmp, 1) := by decide +kernel
theorem dX11_translate_172 : decode cX11_translate 172 = .ok (.ifCond .ne 6, 3) := by decide +kernel
theorem dX11_translate_175 : decode cX11_translate 175 = .ok (.bipush (-5), 2) := by decide +kernel
theorem dX11_translate_177 : decode cX11_translate 177 = .ok (.ireturn, 1) := by decide +kernel
theorem dX11_translate_178 : decode cX11_translate 178 = .ok (.aload_n 0, 1) := by decide +kernel
theorem dX11_translate_179 : decode cX11_translate 179 = .ok (.invokevirtual 57, 3) := by decide +kernel
theorem dX11_translate_182 : decode cX11_translate 182 = .ok (.aload_n 0, 1) := by decide +kernel
theorem dX11_translate_183 : decode cX11_translate 183 = .ok (.iload 4, 2) := by decide +kernel
theorem dX11_translate_185 : decode cX11_translate 185 = .ok (.iload_n 3, 1) := by decide +kernel
theorem dX11_translate_186 : decode cX11_translate 186 = .ok (.iconst 1, 1) := by decide +kernel
theorem dX11_translate_187 : decode cX11_translate 187 = .ok (.invokevirtual 187, 3) := by decide +kernel
theorem dX11_translate_190 : decode cX11_translate 190 = .ok (.iload 5, 2) := by decide +kernel
theorem dX11_translate_192 : decode cX11_translate 192 = .ok (.ifCond .ge 50, 3) := by decide +kernel
theorem dX11_translate_195 : decode cX11_translate 195 = .ok (.aload_n 0, 1) := by decide +kernel
theorem dX11_translate_196 : decode cX11_translate 196 = .ok (.iload_n 3, 1) := by decide +kernel
theorem dX11_translate_197 : decode cX11_translate 197 = .ok (.invokevirtual 170, 3) := by decide +kernel
theorem dX11_translate_200 : decode cX11_translate 200 = .ok (.istore 8, 2) := by decide +kernel
theorem dX11_translate_202 : decode cX11_translate 202 = .ok (.iconst 0, 1) := by decide +kernel
theorem dX11_translate_203 : decode cX11_translate 203 = .ok (.istore 9, 2) := by decide +kernel
theorem dX11_translate_205 : decode cX11_translate 205 = .ok (.iload 9, 2) := by decide +kernel
theorem dX11_translate_207 : decode cX11_translate 207 = .ok (.bipush 9, 2) := by decide +kernel
theorem dX11_translate_209 : decode cX11_translate 209 = .ok (.if_icmp .ge 33, 3) := by decide +kernel
theorem dX11_translate_212 : decode cX11_translate 212 = .ok (.aload_n 0, 1) := by decide +kernel
theorem dX11_translate_213 : decode cX11_translate 213 = .ok (.getfield 7, 3) := by decide +kernel
theorem dX11_translate_216 : decode cX11_translate 216 = .ok (.aload_n 0, 1) := by decide +kernel
theorem dX11_translate_217 : decode cX11_translate 217 = .ok (.iload 8, 2) := by decide +kernel
theorem dX11_translate_219 : decode cX11_translate 219 = .ok (.invokevirtual 116, 3) := by decide +kernel
theorem dX11_translate_222 : decode cX11_translate 222 = .ok (.iload 9, 2) := by decide +kernel
theorem dX11_translate_224 : decode cX11_translate 224 = .ok (.iadd, 1) := by decide +kernel
theorem dX11_translate_225 : decode cX11_translate 225 = .ok (.aload_n 0, 1) := by decide +kernel
theorem dX11_translate_226 : decode cX11_translate 226 = .ok (.getfield 7, 3) := by decide +kernel
theorem dX11_translate_229 : decode cX11_translate 229 = .ok (.iload 4, 2) := by decide +kernel
theorem dX11_translate_231 : decode cX11_translate 231 = .ok (.iload 9, 2) := by decide +kernel
theorem dX11_translate_233 : decode cX11_translate 233 = .ok (.iadd, 1) := by decide +kernel
theorem dX11_translate_234 : decode cX11_translate 234 = .ok (.laload, 1) := by decide +kernel
theorem dX11_translate_235 : decode cX11_translate 235 = .ok (.lastore, 1) := by decide +kernel
theorem dX11_translate_236 : decode cX11_translate 236 = .ok (.iinc 9 1, 3) := by decide +kernel
theorem dX11_translate_239 : decode cX11_translate 239 = .ok (.goto (-34), 3) := by decide +kernel
theorem dX11_translate_242 : decode cX11_translate 242 = .ok (.iload 7, 2) := by decide +kernel
theorem dX11_translate_244 : decode cX11_translate 244 = .ok (.ifCond .eq 10, 3) := by decide +kernel
theorem dX11_translate_247 : decode cX11_translate 247 = .ok (.aload_n 0, 1) := by decide +kernel
theorem dX11_translate_248 : decode cX11_translate 248 = .ok (.iload 5, 2) := by decide +kernel
theorem dX11_translate_250 : decode cX11_translate 250 = .ok (.iload_n 3, 1) := by decide +kernel
theorem dX11_translate_251 : decode cX11_translate 251 = .ok (.invokevirtual 203, 3) := by decide +kernel
theorem dX11_translate_254 : decode cX11_translate 254 = .ok (.iconst 1, 1) := by decide +kernel
theorem dX11_translate_255 : decode cX11_translate 255 = .ok (.aload_n 0, 1) := by decide +kernel
theorem dX11_translate_256 : decode cX11_translate 256 = .ok (.iload 4, 2) := by decide +kernel
theorem dX11_translate_258 : decode cX11_translate 258 = .ok (.invokevirtual 206, 3) := by decide +kernel
theorem dX11_translate_261 : decode cX11_translate 261 = .ok (.iadd, 1) := by decide +kernel
theorem dX11_translate_262 : decode cX11_translate 262 = .ok (.ireturn, 1) := by decide +kernel
theorem dX11_mayReview_0 : decode cX11_mayReview 0 = .ok (.aload_n 0, 1) := by decide +kernel
theorem dX11_mayReview_1 : decode cX11_mayReview 1 = .ok (.aload_n 0, 1) := by decide +kernel
theorem dX11_mayReview_2 : decode cX11_mayReview 2 = .ok (.iload_n 1, 1) := by decide +kernel
theorem dX11_mayReview_3 : decode cX11_mayReview 3 = .ok (.invokevirtual 64, 3) := by decide +kernel
theorem dX11_mayReview_6 : decode cX11_mayReview 6 = .ok (.iconst 2, 1) := by decide +kernel
theorem dX11_mayReview_7 : decode cX11_mayReview 7 = .ok (.iadd, 1) := by decide +kernel
theorem dX11_mayReview_8 : decode cX11_mayReview 8 = .ok (.invokevirtual 53, 3) := by decide +kernel
theorem dX11_mayReview_11 : decode cX11_mayReview 11 = .ok (.istore_n 3, 1) := by decide +kernel
theorem dX11_mayReview_12 : decode cX11_mayReview 12 = .ok (.iload_n 3, 1) := by decide +kernel
theorem dX11_mayReview_13 : decode cX11_mayReview 13 = .ok (.iload_n 2, 1) := by decide +kernel
theorem dX11_mayReview_14 : decode cX11_mayReview 14 = .ok (.if_icmp .eq 34, 3) := by decide +kernel
theorem dX11_mayReview_17 : decode cX11_mayReview 17 = .ok (.aload_n 0, 1) := by decide +kernel
theorem dX11_mayReview_18 : decode cX11_mayReview 18 = .ok (.iload_n 3, 1) := by decide +kernel
theorem dX11_mayReview_19 : decode cX11_mayReview 19 = .ok (.iload_n 2, 1) := by decide +kernel
theorem dX11_mayReview_20 : decode cX11_mayReview 20 = .ok (.invokevirtual 87, 3) := by decide +kernel
theorem dX11_mayReview_23 : decode cX11_mayReview 23 = .ok (.ifCond .ne 25, 3) := by decide +kernel
theorem dX11_mayReview_26 : decode cX11_mayReview 26 = .ok (.aload_n 0, 1) := by decide +kernel
theorem dX11_mayReview_27 : decode cX11_mayReview 27 = .ok (.getfield 7, 3) := by decide +kernel
theorem dX11_mayReview_30 : decode cX11_mayReview 30 = .ok (.aload_n 0, 1) := by decide +kernel
theorem dX11_mayReview_31 : decode cX11_mayReview 31 = .ok (.iload_n 3, 1) := by decide +kernel
theorem dX11_mayReview_32 : decode cX11_mayReview 32 = .ok (.invokevirtual 79, 3) := by decide +kernel
theorem dX11_mayReview_35 : decode cX11_mayReview 35 = .ok (.iconst 2, 1) := by decide +kernel
theorem dX11_mayReview_36 : decode cX11_mayReview 36 = .ok (.iadd, 1) := by decide +kernel
theorem dX11_mayReview_37 : decode cX11_mayReview 37 = .ok (.laload, 1) := by decide +kernel
theorem dX11_mayReview_38 : decode cX11_mayReview 38 = .ok (.iload_n 2, 1) := by decide +kernel
theorem dX11_mayReview_39 : decode cX11_mayReview 39 = .ok (.i2l, 1) := by decide +kernel
theorem dX11_mayReview_40 : decode cX11_mayReview 40 = .ok (.lcmp, 1) := by decide +kernel
theorem dX11_mayReview_41 : decode cX11_mayReview 41 = .ok (.ifCond .eq 7, 3) := by decide +kernel
theorem dX11_mayReview_44 : decode cX11_mayReview 44 = .ok (.iconst 1, 1) := by decide +kernel
theorem dX11_mayReview_45 : decode cX11_mayReview 45 = .ok (.goto 4, 3) := by decide +kernel
theorem dX11_mayReview_48 : decode cX11_mayReview 48 = .ok (.iconst 0, 1) := by decide +kernel
theorem dX11_mayReview_49 : decode cX11_mayReview 49 = .ok (.ireturn, 1) := by decide +kernel
theorem dX11_isReady_0 : decode cX11_isReady 0 = .ok (.iconst 1, 1) := by decide +kernel
theorem dX11_isReady_1 : decode cX11_isReady 1 = .ok (.istore_n 2, 1) := by decide +kernel
theorem dX11_isReady_2 : decode cX11_isReady 2 = .ok (.iconst 0, 1) := by decide +kernel
theorem dX11_isReady_3 : decode cX11_isReady 3 = .ok (.istore_n 3, 1) := by decide +kernel
theorem dX11_isReady_4 : decode cX11_isReady 4 = .ok (.iload_n 3, 1) := by decide +kernel
theorem dX11_isReady_5 : decode cX11_isReady 5 = .ok (.aload_n 0, 1) := by decide +kernel
theorem dX11_isReady_6 : decode cX11_isReady 6 = .ok (.iload_n 1, 1) := by decide +kernel
theorem dX11_isReady_7 : decode cX11_isReady 7 = .ok (.invokevirtual 74, 3) := by decide +kernel
theorem dX11_isReady_10 : decode cX11_isReady 10 = .ok (.if_icmp .ge 58, 3) := by decide +kernel
theorem dX11_isReady_13 : decode cX11_isReady 13 = .ok (.aload_n 0, 1) := by decide +kernel
theorem dX11_isReady_14 : decode cX11_isReady 14 = .ok (.iload_n 1, 1) := by decide +kernel
theorem dX11_isReady_15 : decode cX11_isReady 15 = .ok (.iload_n 3, 1) := by decide +kernel
theorem dX11_isReady_16 : decode cX11_isReady 16 = .ok (.invokevirtual 142, 3) := by decide +kernel
theorem dX11_isReady_19 : decode cX11_isReady 19 = .ok (.istore 4, 2) := by decide +kernel
theorem dX11_isReady_21 : decode cX11_isReady 21 = .ok (.aload_n 0, 1) := by decide +kernel
theorem dX11_isReady_22 : decode cX11_isReady 22 = .ok (.iload 4, 2) := by decide +kernel
theorem dX11_isReady_24 : decode cX11_isReady 24 = .ok (.invokevirtual 184, 3) := by decide +kernel
theorem dX11_isReady_27 : decode cX11_isReady 27 = .ok (.istore 5, 2) := by decide +kernel
theorem dX11_isReady_29 : decode cX11_isReady 29 = .ok (.iload_n 2, 1) := by decide +kernel
theorem dX11_isReady_30 : decode cX11_isReady 30 = .ok (.ifCond .eq 30, 3) := by decide +kernel
theorem dX11_isReady_33 : decode cX11_isReady 33 = .ok (.aload_n 0, 1) := by decide +kernel
theorem dX11_isReady_34 : decode cX11_isReady 34 = .ok (.iload 4, 2) := by decide +kernel
theorem dX11_isReady_36 : decode cX11_isReady 36 = .ok (.invokevirtual 173, 3) := by decide +kernel
theorem dX11_isReady_39 : decode cX11_isReady 39 = .ok (.ifCond .eq 21, 3) := by decide +kernel
theorem dX11_isReady_42 : decode cX11_isReady 42 = .ok (.iload 5, 2) := by decide +kernel
theorem dX11_isReady_44 : decode cX11_isReady 44 = .ok (.ifCond .lt 12, 3) := by decide +kernel
theorem dX11_isReady_47 : decode cX11_isReady 47 = .ok (.aload_n 0, 1) := by decide +kernel
theorem dX11_isReady_48 : decode cX11_isReady 48 = .ok (.iload 5, 2) := by decide +kernel
theorem dX11_isReady_50 : decode cX11_isReady 50 = .ok (.invokevirtual 200, 3) := by decide +kernel
theorem dX11_isReady_53 : decode cX11_isReady 53 = .ok (.ifCond .ge 7, 3) := by decide +kernel
theorem dX11_isReady_56 : decode cX11_isReady 56 = .ok (.iconst 1, 1) := by decide +kernel
theorem dX11_isReady_57 : decode cX11_isReady 57 = .ok (.goto 4, 3) := by decide +kernel
theorem dX11_isReady_60 : decode cX11_isReady 60 = .ok (.iconst 0, 1) := by decide +kernel
theorem dX11_isReady_61 : decode cX11_isReady 61 = .ok (.istore_n 2, 1) := by decide +kernel
theorem dX11_isReady_62 : decode cX11_isReady 62 = .ok (.iinc 3 1, 3) := by decide +kernel
theorem dX11_isReady_65 : decode cX11_isReady 65 = .ok (.goto (-61), 3) := by decide +kernel
theorem dX11_isReady_68 : decode cX11_isReady 68 = .ok (.iload_n 2, 1) := by decide +kernel
theorem dX11_isReady_69 : decode cX11_isReady 69 = .ok (.ireturn, 1) := by decide +kernel
theorem dX11_inWay_0 : decode cX11_inWay 0 = .ok (.iconst 0, 1) := by decide +kernel
theorem dX11_inWay_1 : decode cX11_inWay 1 = .ok (.istore_n 3, 1) := by decide +kernel
theorem dX11_inWay_2 : decode cX11_inWay 2 = .ok (.iconst 0, 1) := by decide +kernel
theorem dX11_inWay_3 : decode cX11_inWay 3 = .ok (.istore 4, 2) := by decide +kernel
theorem dX11_inWay_5 : decode cX11_inWay 5 = .ok (.iload 4, 2) := by decide +kernel
theorem dX11_inWay_7 : decode cX11_inWay 7 = .ok (.aload_n 0, 1) := by decide +kernel
theorem dX11_inWay_8 : decode cX11_inWay 8 = .ok (.iload_n 1, 1) := by decide +kernel
theorem dX11_inWay_9 : decode cX11_inWay 9 = .ok (.invokevirtual 74, 3) := by decide +kernel
theorem dX11_inWay_12 : decode cX11_inWay 12 = .ok (.if_icmp .ge 38, 3) := by decide +kernel
theorem dX11_inWay_15 : decode cX11_inWay 15 = .ok (.iload_n 3, 1) := by decide +kernel
theorem dX11_inWay_16 : decode cX11_inWay 16 = .ok (.aload_n 0, 1) := by decide +kernel
theorem dX11_inWay_17 : decode cX11_inWay 17 = .ok (.getfield 7, 3) := by decide +kernel
theorem dX11_inWay_20 : decode cX11_inWay 20 = .ok (.aload_n 0, 1) := by decide +kernel
theorem dX11_inWay_21 : decode cX11_inWay 21 = .ok (.iload_n 1, 1) := by decide +kernel
theorem dX11_inWay_22 : decode cX11_inWay 22 = .ok (.iload 4, 2) := by decide +kernel
theorem dX11_inWay_24 : decode cX11_inWay 24 = .ok (.invokevirtual 142, 3) := by decide +kernel
theorem dX11_inWay_27 : decode cX11_inWay 27 = .ok (.bipush 10, 2) := by decide +kernel
theorem dX11_inWay_29 : decode cX11_inWay 29 = .ok (.iadd, 1) := by decide +kernel
theorem dX11_inWay_30 : decode cX11_inWay 30 = .ok (.laload, 1) := by decide +kernel
theorem dX11_inWay_31 : decode cX11_inWay 31 = .ok (.iload_n 2, 1) := by decide +kernel
theorem dX11_inWay_32 : decode cX11_inWay 32 = .ok (.i2l, 1) := by decide +kernel
theorem dX11_inWay_33 : decode cX11_inWay 33 = .ok (.lcmp, 1) := by decide +kernel
theorem dX11_inWay_34 : decode cX11_inWay 34 = .ok (.ifCond .ne 7, 3) := by decide +kernel
theorem dX11_inWay_37 : decode cX11_inWay 37 = .ok (.iconst 1, 1) := by decide +kernel
theorem dX11_inWay_38 : decode cX11_inWay 38 = .ok (.goto 4, 3) := by decide +kernel
theorem dX11_inWay_41 : decode cX11_inWay 41 = .ok (.iconst 0, 1) := by decide +kernel
theorem dX11_inWay_42 : decode cX11_inWay 42 = .ok (.iadd, 1) := by decide +kernel
theorem dX11_inWay_43 : decode cX11_inWay 43 = .ok (.istore_n 3, 1) := by decide +kernel
theorem dX11_inWay_44 : decode cX11_inWay 44 = .ok (.iinc 4 1, 3) := by decide +kernel
theorem dX11_inWay_47 : decode cX11_inWay 47 = .ok (.goto (-42), 3) := by decide +kernel
theorem dX11_inWay_50 : decode cX11_inWay 50 = .ok (.iload_n 3, 1) := by decide +kernel
theorem dX11_inWay_51 : decode cX11_inWay 51 = .ok (.ireturn, 1) := by decide +kernel
theorem dX11_review_0 : decode cX11_review 0 = .ok (.aload_n 0, 1) := by decide +kernel
theorem dX11_review_1 : decode cX11_review 1 = .ok (.iload_n 1, 1) := by decide +kernel
theorem dX11_review_2 : decode cX11_review 2 = .ok (.invokevirtual 70, 3) := by decide +kernel
theorem dX11_review_5 : decode cX11_review 5 = .ok (.ifCond .ne 11, 3) := by decide +kernel
theorem dX11_review_8 : decode cX11_review 8 = .ok (.aload_n 0, 1) := by decide +kernel
theorem dX11_review_9 : decode cX11_review 9 = .ok (.iload_n 2, 1) := by decide +kernel
theorem dX11_review_10 : decode cX11_review 10 = .ok (.invokevirtual 84, 3) := by decide +kernel
theorem dX11_review_13 : decode cX11_review 13 = .ok (.ifCond .eq 5, 3) := by decide +kernel
theorem dX11_review_16 : decode cX11_review 16 = .ok (.iconst (-1), 1) := by decide +kernel
theorem dX11_review_17 : decode cX11_review 17 = .ok (.ireturn, 1) := by decide +kernel
theorem dX11_review_18 : decode cX11_review 18 = .ok (.aload_n 0, 1) := by decide +kernel
theorem dX11_review_19 : decode cX11_review 19 = .ok (.iload_n 1, 1) := by decide +kernel
theorem dX11_review_20 : decode cX11_review 20 = .ok (.invokevirtual 67, 3) := by decide +kernel
theorem dX11_review_23 : decode cX11_review 23 = .ok (.iconst 1, 1) := by decide +kernel
theorem dX11_review_24 : decode cX11_review 24 = .ok (.if_icmp .ne 20, 3) := by decide +kernel
theorem dX11_review_27 : decode cX11_review 27 = .ok (.aload_n 0, 1) := by decide +kernel
theorem dX11_review_28 : decode cX11_review 28 = .ok (.iload_n 1, 1) := by decide +kernel
theorem dX11_review_29 : decode cX11_review 29 = .ok (.invokevirtual 209, 3) := by decide +kernel
theorem dX11_review_32 : decode cX11_review 32 = .ok (.ifCond .eq 12, 3) := by decide +kernel
theorem dX11_review_35 : decode cX11_review 35 = .ok (.aload_n 0, 1) := by decide +kernel
theorem dX11_review_36 : decode cX11_review 36 = .ok (.iload_n 1, 1) := by decide +kernel
theorem dX11_review_37 : decode cX11_review 37 = .ok (.iload_n 2, 1) := by decide +kernel
theorem dX11_review_38 : decode cX11_review 38 = .ok (.invokevirtual 212, 3) := by decide +kernel
theorem dX11_review_41 : decode cX11_review 41 = .ok (.ifCond .ne 6, 3) := by decide +kernel
theorem dX11_review_44 : decode cX11_review 44 = .ok (.bipush (-4), 2) := by decide +kernel
theorem dX11_review_46 : decode cX11_review 46 = .ok (.ireturn, 1) := by decide +kernel
theorem dX11_review_47 : decode cX11_review 47 = .ok (.aload_n 0, 1) := by decide +kernel
theorem dX11_review_48 : decode cX11_review 48 = .ok (.invokevirtual 57, 3) := by decide +kernel
theorem dX11_review_51 : decode cX11_review 51 = .ok (.aload_n 0, 1) := by decide +kernel
theorem dX11_review_52 : decode cX11_review 52 = .ok (.getfield 7, 3) := by decide +kernel
theorem dX11_review_55 : decode cX11_review 55 = .ok (.aload_n 0, 1) := by decide +kernel
theorem dX11_review_56 : decode cX11_review 56 = .ok (.iload_n 1, 1) := by decide +kernel
theorem dX11_review_57 : decode cX11_review 57 = .ok (.invokevirtual 64, 3) := by decide +kernel
theorem dX11_review_60 : decode cX11_review 60 = .ok (.iconst 1, 1) := by decide +kernel
theorem dX11_review_61 : decode cX11_review 61 = .ok (.iadd, 1) := by decide +kernel
theorem dX11_review_62 : decode cX11_review 62 = .ok (.ldc2_w 215, 3) := by decide +kernel
theorem dX11_review_65 : decode cX11_review 65 = .ok (.lastore, 1) := by decide +kernel
theorem dX11_review_66 : decode cX11_review 66 = .ok (.aload_n 0, 1) := by decide +kernel
theorem dX11_review_67 : decode cX11_review 67 = .ok (.getfield 7, 3) := by decide +kernel
theorem dX11_review_70 : decode cX11_review 70 = .ok (.aload_n 0, 1) := by decide +kernel
theorem dX11_review_71 : decode cX11_review 71 = .ok (.iload_n 1, 1) := by decide +kernel
theorem dX11_review_72 : decode cX11_review 72 = .ok (.invokevirtual 64, 3) := by decide +kernel
theorem dX11_review_75 : decode cX11_review 75 = .ok (.iconst 3, 1) := by decide +kernel
theorem dX11_review_76 : decode cX11_review 76 = .ok (.iadd, 1) := by decide +kernel
theorem dX11_review_77 : decode cX11_review 77 = .ok (.iload_n 2, 1) := by decide +kernel
theorem dX11_review_78 : decode cX11_review 78 = .ok (.i2l, 1) := by decide +kernel
theorem dX11_review_79 : decode cX11_review 79 = .ok (.lastore, 1) := by decide +kernel
theorem dX11_review_80 : decode cX11_review 80 = .ok (.aload_n 0, 1) := by decide +kernel
theorem dX11_review_81 : decode cX11_review 81 = .ok (.getfield 7, 3) := by decide +kernel
theorem dX11_review_84 : decode cX11_review 84 = .ok (.aload_n 0, 1) := by decide +kernel
theorem dX11_review_85 : decode cX11_review 85 = .ok (.aload_n 0, 1) := by decide +kernel
theorem dX11_review_86 : decode cX11_review 86 = .ok (.aload_n 0, 1) := by decide +kernel
theorem dX11_review_87 : decode cX11_review 87 = .ok (.iload_n 1, 1) := by decide +kernel
theorem dX11_review_88 : decode cX11_review 88 = .ok (.invokevirtual 64, 3) := by decide +kernel
theorem dX11_review_91 : decode cX11_review 91 = .ok (.iconst 2, 1) := by decide +kernel
theorem dX11_review_92 : decode cX11_review 92 = .ok (.iadd, 1) := by decide +kernel
theorem dX11_review_93 : decode cX11_review 93 = .ok (.invokevirtual 53, 3) := by decide +kernel
theorem dX11_review_96 : decode cX11_review 96 = .ok (.invokevirtual 79, 3) := by decide +kernel
theorem dX11_review_99 : decode cX11_review 99 = .ok (.iconst 2, 1) := by decide +kernel
theorem dX11_review_100 : decode cX11_review 100 = .ok (.iadd, 1) := by decide +kernel
theorem dX11_review_101 : decode cX11_review 101 = .ok (.iload_n 2, 1) := by decide +kernel
theorem dX11_review_102 : decode cX11_review 102 = .ok (.i2l, 1) := by decide +kernel
theorem dX11_review_103 : decode cX11_review 103 = .ok (.lastore, 1) := by decide +kernel
theorem dX11_review_104 : decode cX11_review 104 = .ok (.aload_n 0, 1) := by decide +kernel
theorem dX11_review_105 : decode cX11_review 105 = .ok (.iload_n 1, 1) := by decide +kernel
theorem dX11_review_106 : decode cX11_review 106 = .ok (.iconst 1, 1) := by decide +kernel
theorem dX11_review_107 : decode cX11_review 107 = .ok (.invokevirtual 217, 3) := by decide +kernel
theorem dX11_review_110 : decode cX11_review 110 = .ok (.ireturn, 1) := by decide +kernel
theorem dX11_reject_0 : decode cX11_reject 0 = .ok (.aload_n 0, 1) := by decide +kernel
theorem dX11_reject_1 : decode cX11_reject 1 = .ok (.iload_n 1, 1) := by decide +kernel
theorem dX11_reject_2 : decode cX11_reject 2 = .ok (.iload_n 2, 1) := by decide +kernel
theorem dX11_reject_3 : decode cX11_reject 3 = .ok (.invokevirtual 194, 3) := by decide +kernel
theorem dX11_reject_6 : decode cX11_reject 6 = .ok (.ifCond .eq 5, 3) := by decide +kernel
theorem dX11_reject_9 : decode cX11_reject 9 = .ok (.iconst (-1), 1) := by decide +kernel
theorem dX11_reject_10 : decode cX11_reject 10 = .ok (.ireturn, 1) := by decide +kernel
theorem dX11_reject_11 : decode cX11_reject 11 = .ok (.aload_n 0, 1) := by decide +kernel
theorem dX11_reject_12 : decode cX11_reject 12 = .ok (.iload_n 1, 1) := by decide +kernel
theorem dX11_reject_13 : decode cX11_reject 13 = .ok (.invokevirtual 67, 3) := by decide +kernel
theorem dX11_reject_16 : decode cX11_reject 16 = .ok (.iconst 2, 1) := by decide +kernel
theorem dX11_reject_17 : decode cX11_reject 17 = .ok (.if_icmp .eq 6, 3) := by decide +kernel
theorem dX11_reject_20 : decode cX11_reject 20 = .ok (.bipush (-4), 2) := by decide +kernel
theorem dX11_reject_22 : decode cX11_reject 22 = .ok (.ireturn, 1) := by decide +kernel
theorem dX11_reject_23 : decode cX11_reject 23 = .ok (.aload_n 0, 1) := by decide +kernel
theorem dX11_reject_24 : decode cX11_reject 24 = .ok (.invokevirtual 57, 3) := by decide +kernel
theorem dX11_reject_27 : decode cX11_reject 27 = .ok (.aload_n 0, 1) := by decide +kernel
theorem dX11_reject_28 : decode cX11_reject 28 = .ok (.aload_n 0, 1) := by decide +kernel
theorem dX11_reject_29 : decode cX11_reject 29 = .ok (.iload_n 1, 1) := by decide +kernel
theorem dX11_reject_30 : decode cX11_reject 30 = .ok (.iload_n 2, 1) := by decide +kernel
theorem dX11_reject_31 : decode cX11_reject 31 = .ok (.invokevirtual 142, 3) := by decide +kernel
theorem dX11_reject_34 : decode cX11_reject 34 = .ok (.bipush (-5), 2) := by decide +kernel
theorem dX11_reject_36 : decode cX11_reject 36 = .ok (.iconst 0, 1) := by decide +kernel
theorem dX11_reject_37 : decode cX11_reject 37 = .ok (.invokevirtual 187, 3) := by decide +kernel
theorem dX11_reject_40 : decode cX11_reject 40 = .ok (.aload_n 0, 1) := by decide +kernel
theorem dX11_reject_41 : decode cX11_reject 41 = .ok (.getfield 7, 3) := by decide +kernel
theorem dX11_reject_44 : decode cX11_reject 44 = .ok (.aload_n 0, 1) := by decide +kernel
theorem dX11_reject_45 : decode cX11_reject 45 = .ok (.iload_n 1, 1) := by decide +kernel
theorem dX11_reject_46 : decode cX11_reject 46 = .ok (.invokevirtual 64, 3) := by decide +kernel
theorem dX11_reject_49 : decode cX11_reject 49 = .ok (.iconst 1, 1) := by decide +kernel
theorem dX11_reject_50 : decode cX11_reject 50 = .ok (.iadd, 1) := by decide +kernel
theorem dX11_reject_51 : decode cX11_reject 51 = .ok (.lconst 1, 1) := by decide +kernel
theorem dX11_reject_52 : decode cX11_reject 52 = .ok (.lastore, 1) := by decide +kernel
theorem dX11_reject_53 : decode cX11_reject 53 = .ok (.aload_n 0, 1) := by decide +kernel
theorem dX11_reject_54 : decode cX11_reject 54 = .ok (.getfield 7, 3) := by decide +kernel
theorem dX11_reject_57 : decode cX11_reject 57 = .ok (.aload_n 0, 1) := by decide +kernel
theorem dX11_reject_58 : decode cX11_reject 58 = .ok (.iload_n 1, 1) := by decide +kernel
theorem dX11_reject_59 : decode cX11_reject 59 = .ok (.invokevirtual 64, 3) := by decide +kernel
theorem dX11_reject_62 : decode cX11_reject 62 = .ok (.iconst 3, 1) := by decide +kernel
theorem dX11_reject_63 : decode cX11_reject 63 = .ok (.iadd, 1) := by decide +kernel
theorem dX11_reject_64 : decode cX11_reject 64 = .ok (.ldc2_w 82, 3) := by decide +kernel
theorem dX11_reject_67 : decode cX11_reject 67 = .ok (.lastore, 1) := by decide +kernel
theorem dX11_reject_68 : decode cX11_reject 68 = .ok (.aload_n 0, 1) := by decide +kernel
theorem dX11_reject_69 : decode cX11_reject 69 = .ok (.getfield 7, 3) := by decide +kernel
theorem dX11_reject_72 : decode cX11_reject 72 = .ok (.aload_n 0, 1) := by decide +kernel
theorem dX11_reject_73 : decode cX11_reject 73 = .ok (.iload_n 1, 1) := by decide +kernel
theorem dX11_reject_74 : decode cX11_reject 74 = .ok (.invokevirtual 64, 3) := by decide +kernel
theorem dX11_reject_77 : decode cX11_reject 77 = .ok (.iconst 5, 1) := by decide +kernel
theorem dX11_reject_78 : decode cX11_reject 78 = .ok (.iadd, 1) := by decide +kernel
theorem dX11_reject_79 : decode cX11_reject 79 = .ok (.dup2, 1) := by decide +kernel
theorem dX11_reject_80 : decode cX11_reject 80 = .ok (.laload, 1) := by decide +kernel
theorem dX11_reject_81 : decode cX11_reject 81 = .ok (.lconst 1, 1) := by decide +kernel
theorem dX11_reject_82 : decode cX11_reject 82 = .ok (.ladd, 1) := by decide +kernel
theorem dX11_reject_83 : decode cX11_reject 83 = .ok (.lastore, 1) := by decide +kernel
theorem dX11_reject_84 : decode cX11_reject 84 = .ok (.aload_n 0, 1) := by decide +kernel
theorem dX11_reject_85 : decode cX11_reject 85 = .ok (.aload_n 0, 1) := by decide +kernel
theorem dX11_reject_86 : decode cX11_reject 86 = .ok (.iload_n 1, 1) := by decide +kernel
theorem dX11_reject_87 : decode cX11_reject 87 = .ok (.invokevirtual 64, 3) := by decide +kernel
theorem dX11_reject_90 : decode cX11_reject 90 = .ok (.iconst 5, 1) := by decide +kernel
theorem dX11_reject_91 : decode cX11_reject 91 = .ok (.iadd, 1) := by decide +kernel
theorem dX11_reject_92 : decode cX11_reject 92 = .ok (.invokevirtual 53, 3) := by decide +kernel
theorem dX11_reject_95 : decode cX11_reject 95 = .ok (.ireturn, 1) := by decide +kernel
theorem dX11_cost_0 : decode cX11_cost 0 = .ok (.aload_n 0, 1) := by decide +kernel
theorem dX11_cost_1 : decode cX11_cost 1 = .ok (.iload_n 1, 1) := by decide +kernel
theorem dX11_cost_2 : decode cX11_cost 2 = .ok (.invokevirtual 67, 3) := by decide +kernel
theorem dX11_cost_5 : decode cX11_cost 5 = .ok (.ifCond .eq 12, 3) := by decide +kernel
theorem dX11_cost_8 : decode cX11_cost 8 = .ok (.aload_n 0, 1) := by decide +kernel
theorem dX11_cost_9 : decode cX11_cost 9 = .ok (.iload_n 1, 1) := by decide +kernel
theorem dX11_cost_10 : decode cX11_cost 10 = .ok (.invokevirtual 67, 3) := by decide +kernel
theorem dX11_cost_13 : decode cX11_cost 13 = .ok (.iconst 4, 1) := by decide +kernel
theorem dX11_cost_14 : decode cX11_cost 14 = .ok (.if_icmp .ne 7, 3) := by decide +kernel
theorem dX11_cost_17 : decode cX11_cost 17 = .ok (.iconst 0, 1) := by decide +kernel
theorem dX11_cost_18 : decode cX11_cost 18 = .ok (.goto 14, 3) := by decide +kernel
theorem dX11_cost_21 : decode cX11_cost 21 = .ok (.aload_n 0, 1) := by decide +kernel
theorem dX11_cost_22 : decode cX11_cost 22 = .ok (.aload_n 0, 1) := by decide +kernel
theorem dX11_cost_23 : decode cX11_cost 23 = .ok (.iload_n 1, 1) := by decide +kernel
theorem dX11_cost_24 : decode cX11_cost 24 = .ok (.invokevirtual 64, 3) := by decide +kernel
theorem dX11_cost_27 : decode cX11_cost 27 = .ok (.iconst 4, 1) := by decide +kernel
theorem dX11_cost_28 : decode cX11_cost 28 = .ok (.iadd, 1) := by decide +kernel
theorem dX11_cost_29 : decode cX11_cost 29 = .ok (.invokevirtual 53, 3) := by decide +kernel
theorem dX11_cost_32 : decode cX11_cost 32 = .ok (.istore_n 2, 1) := by decide +kernel
theorem dX11_cost_33 : decode cX11_cost 33 = .ok (.aload_n 0, 1) := by decide +kernel
theorem dX11_cost_34 : decode cX11_cost 34 = .ok (.iload_n 1, 1) := by decide +kernel
theorem dX11_cost_35 : decode cX11_cost 35 = .ok (.invokevirtual 67, 3) := by decide +kernel
theorem dX11_cost_38 : decode cX11_cost 38 = .ok (.iconst 3, 1) := by decide +kernel
theorem dX11_cost_39 : decode cX11_cost 39 = .ok (.if_icmp .ne 15, 3) := by decide +kernel
theorem dX11_cost_42 : decode cX11_cost 42 = .ok (.iload_n 2, 1) := by decide +kernel
theorem dX11_cost_43 : decode cX11_cost 43 = .ok (.iconst 2, 1) := by decide +kernel
theorem dX11_cost_44 : decode cX11_cost 44 = .ok (.aload_n 0, 1) := by decide +kernel
theorem dX11_cost_45 : decode cX11_cost 45 = .ok (.iload_n 1, 1) := by decide +kernel
theorem dX11_cost_46 : decode cX11_cost 46 = .ok (.invokevirtual 220, 3) := by decide +kernel
theorem dX11_cost_49 : decode cX11_cost 49 = .ok (.imul, 1) := by decide +kernel
theorem dX11_cost_50 : decode cX11_cost 50 = .ok (.iadd, 1) := by decide +kernel
theorem dX11_cost_51 : decode cX11_cost 51 = .ok (.goto 4, 3) := by decide +kernel
theorem dX11_cost_54 : decode cX11_cost 54 = .ok (.iload_n 2, 1) := by decide +kernel
theorem dX11_cost_55 : decode cX11_cost 55 = .ok (.ireturn, 1) := by decide +kernel
theorem dX11_deliver_0 : decode cX11_deliver 0 = .ok (.aload_n 0, 1) := by decide +kernel
theorem dX11_deliver_1 : decode cX11_deliver 1 = .ok (.iload_n 1, 1) := by decide +kernel
theorem dX11_deliver_2 : decode cX11_deliver 2 = .ok (.invokevirtual 70, 3) := by decide +kernel
theorem dX11_deliver_5 : decode cX11_deliver 5 = .ok (.ifCond .eq 5, 3) := by decide +kernel
theorem dX11_deliver_8 : decode cX11_deliver 8 = .ok (.iconst (-1), 1) := by decide +kernel
theorem dX11_deliver_9 : decode cX11_deliver 9 = .ok (.ireturn, 1) := by decide +kernel
theorem dX11_deliver_10 : decode cX11_deliver 10 = .ok (.aload_n 0, 1) := by decide +kernel
theorem dX11_deliver_11 : decode cX11_deliver 11 = .ok (.iload_n 1, 1) := by decide +kernel
theorem dX11_deliver_12 : decode cX11_deliver 12 = .ok (.invokevirtual 67, 3) := by decide +kernel
theorem dX11_deliver_15 : decode cX11_deliver 15 = .ok (.iconst 2, 1) := by decide +kernel
theorem dX11_deliver_16 : decode cX11_deliver 16 = .ok (.if_icmp .eq 6, 3) := by decide +kernel
theorem dX11_deliver_19 : decode cX11_deliver 19 = .ok (.bipush (-4), 2) := by decide +kernel
theorem dX11_deliver_21 : decode cX11_deliver 21 = .ok (.ireturn, 1) := by decide +kernel
theorem dX11_deliver_22 : decode cX11_deliver 22 = .ok (.aload_n 0, 1) := by decide +kernel
theorem dX11_deliver_23 : decode cX11_deliver 23 = .ok (.invokevirtual 57, 3) := by decide +kernel
theorem dX11_deliver_26 : decode cX11_deliver 26 = .ok (.aload_n 0, 1) := by decide +kernel
theorem dX11_deliver_27 : decode cX11_deliver 27 = .ok (.getfield 7, 3) := by decide +kernel
theorem dX11_deliver_30 : decode cX11_deliver 30 = .ok (.aload_n 0, 1) := by decide +kernel
theorem dX11_deliver_31 : decode cX11_deliver 31 = .ok (.iload_n 1, 1) := by decide +kernel
theorem dX11_deliver_32 : decode cX11_deliver 32 = .ok (.invokevirtual 64, 3) := by decide +kernel
theorem dX11_deliver_35 : decode cX11_deliver 35 = .ok (.iconst 1, 1) := by decide +kernel
theorem dX11_deliver_36 : decode cX11_deliver 36 = .ok (.iadd, 1) := by decide +kernel
theorem dX11_deliver_37 : decode cX11_deliver 37 = .ok (.ldc2_w 223, 3) := by decide +kernel
theorem dX11_deliver_40 : decode cX11_deliver 40 = .ok (.lastore, 1) := by decide +kernel
theorem dX11_deliver_41 : decode cX11_deliver 41 = .ok (.aload_n 0, 1) := by decide +kernel
theorem dX11_deliver_42 : decode cX11_deliver 42 = .ok (.aload_n 0, 1) := by decide +kernel
theorem dX11_deliver_43 : decode cX11_deliver 43 = .ok (.aload_n 0, 1) := by decide +kernel
theorem dX11_deliver_44 : decode cX11_deliver 44 = .ok (.iload_n 1, 1) := by decide +kernel
theorem dX11_deliver_45 : decode cX11_deliver 45 = .ok (.invokevirtual 64, 3) := by decide +kernel
theorem dX11_deliver_48 : decode cX11_deliver 48 = .ok (.iconst 2, 1) := by decide +kernel
theorem dX11_deliver_49 : decode cX11_deliver 49 = .ok (.iadd, 1) := by decide +kernel
theorem dX11_deliver_50 : decode cX11_deliver 50 = .ok (.invokevirtual 53, 3) := by decide +kernel
theorem dX11_deliver_53 : decode cX11_deliver 53 = .ok (.invokevirtual 79, 3) := by decide +kernel
theorem dX11_deliver_56 : decode cX11_deliver 56 = .ok (.istore_n 2, 1) := by decide +kernel
theorem dX11_deliver_57 : decode cX11_deliver 57 = .ok (.aload_n 0, 1) := by decide +kernel
theorem dX11_deliver_58 : decode cX11_deliver 58 = .ok (.aload_n 0, 1) := by decide +kernel
theorem dX11_deliver_59 : decode cX11_deliver 59 = .ok (.aload_n 0, 1) := by decide +kernel
theorem dX11_deliver_60 : decode cX11_deliver 60 = .ok (.iload_n 1, 1) := by decide +kernel
theorem dX11_deliver_61 : decode cX11_deliver 61 = .ok (.invokevirtual 64, 3) := by decide +kernel
theorem dX11_deliver_64 : decode cX11_deliver 64 = .ok (.iconst 3, 1) := by decide +kernel
theorem dX11_deliver_65 : decode cX11_deliver 65 = .ok (.iadd, 1) := by decide +kernel
theorem dX11_deliver_66 : decode cX11_deliver 66 = .ok (.invokevirtual 53, 3) := by decide +kernel
theorem dX11_deliver_69 : decode cX11_deliver 69 = .ok (.invokevirtual 79, 3) := by decide +kernel
theorem dX11_deliver_72 : decode cX11_deliver 72 = .ok (.istore_n 3, 1) := by decide +kernel
theorem dX11_deliver_73 : decode cX11_deliver 73 = .ok (.aload_n 0, 1) := by decide +kernel
theorem dX11_deliver_74 : decode cX11_deliver 74 = .ok (.iload_n 1, 1) := by decide +kernel
theorem dX11_deliver_75 : decode cX11_deliver 75 = .ok (.invokevirtual 220, 3) := by decide +kernel
theorem dX11_deliver_78 : decode cX11_deliver 78 = .ok (.istore 4, 2) := by decide +kernel
theorem dX11_deliver_80 : decode cX11_deliver 80 = .ok (.aload_n 0, 1) := by decide +kernel
theorem dX11_deliver_81 : decode cX11_deliver 81 = .ok (.getfield 7, 3) := by decide +kernel
theorem dX11_deliver_84 : decode cX11_deliver 84 = .ok (.iload_n 2, 1) := by decide +kernel
theorem dX11_deliver_85 : decode cX11_deliver 85 = .ok (.iconst 3, 1) := by decide +kernel
theorem dX11_deliver_86 : decode cX11_deliver 86 = .ok (.iadd, 1) := by decide +kernel
theorem dX11_deliver_87 : decode cX11_deliver 87 = .ok (.dup2, 1) := by decide +kernel
theorem dX11_deliver_88 : decode cX11_deliver 88 = .ok (.laload, 1) := by decide +kernel
theorem dX11_deliver_89 : decode cX11_deliver 89 = .ok (.aload_n 0, 1) := by decide +kernel
theorem dX11_deliver_90 : decode cX11_deliver 90 = .ok (.getfield 7, 3) := by decide +kernel
theorem dX11_deliver_93 : decode cX11_deliver 93 = .ok (.aload_n 0, 1) := by decide +kernel
theorem dX11_deliver_94 : decode cX11_deliver 94 = .ok (.iload_n 1, 1) := by decide +kernel
theorem dX11_deliver_95 : decode cX11_deliver 95 = .ok (.invokevirtual 64, 3) := by decide +kernel
theorem dX11_deliver_98 : decode cX11_deliver 98 = .ok (.iconst 4, 1) := by decide +kernel
theorem dX11_deliver_99 : decode cX11_deliver 99 = .ok (.iadd, 1) := by decide +kernel
theorem dX11_deliver_100 : decode cX11_deliver 100 = .ok (.laload, 1) := by decide +kernel
theorem dX11_deliver_101 : decode cX11_deliver 101 = .ok (.ladd, 1) := by decide +kernel
theorem dX11_deliver_102 : decode cX11_deliver 102 = .ok (.lastore, 1) := by decide +kernel
theorem dX11_deliver_103 : decode cX11_deliver 103 = .ok (.aload_n 0, 1) := by decide +kernel
theorem dX11_deliver_104 : decode cX11_deliver 104 = .ok (.getfield 7, 3) := by decide +kernel
theorem dX11_deliver_107 : decode cX11_deliver 107 = .ok (.iload_n 2, 1) := by decide +kernel
theorem dX11_deliver_108 : decode cX11_deliver 108 = .ok (.iconst 4, 1) := by decide +kernel
theorem dX11_deliver_109 : decode cX11_deliver 109 = .ok (.iadd, 1) := by decide +kernel
theorem dX11_deliver_110 : decode cX11_deliver 110 = .ok (.dup2, 1) := by decide +kernel
theorem dX11_deliver_111 : decode cX11_deliver 111 = .ok (.laload, 1) := by decide +kernel
theorem dX11_deliver_112 : decode cX11_deliver 112 = .ok (.iload 4, 2) := by decide +kernel
theorem dX11_deliver_114 : decode cX11_deliver 114 = .ok (.i2l, 1) := by decide +kernel
theorem dX11_deliver_115 : decode cX11_deliver 115 = .ok (.ladd, 1) := by decide +kernel
theorem dX11_deliver_116 : decode cX11_deliver 116 = .ok (.lastore, 1) := by decide +kernel
theorem dX11_deliver_117 : decode cX11_deliver 117 = .ok (.aload_n 0, 1) := by decide +kernel
theorem dX11_deliver_118 : decode cX11_deliver 118 = .ok (.getfield 7, 3) := by decide +kernel
theorem dX11_deliver_121 : decode cX11_deliver 121 = .ok (.iload_n 3, 1) := by decide +kernel
theorem dX11_deliver_122 : decode cX11_deliver 122 = .ok (.iconst 3, 1) := by decide +kernel
theorem dX11_deliver_123 : decode cX11_deliver 123 = .ok (.iadd, 1) := by decide +kernel
theorem dX11_deliver_124 : decode cX11_deliver 124 = .ok (.dup2, 1) := by decide +kernel
theorem dX11_deliver_125 : decode cX11_deliver 125 = .ok (.laload, 1) := by decide +kernel
theorem dX11_deliver_126 : decode cX11_deliver 126 = .ok (.iconst 2, 1) := by decide +kernel
theorem dX11_deliver_127 : decode cX11_deliver 127 = .ok (.iload 4, 2) := by decide +kernel
theorem dX11_deliver_129 : decode cX11_deliver 129 = .ok (.imul, 1) := by decide +kernel
theorem dX11_deliver_130 : decode cX11_deliver 130 = .ok (.i2l, 1) := by decide +kernel
theorem dX11_deliver_131 : decode cX11_deliver 131 = .ok (.ladd, 1) := by decide +kernel
theorem dX11_deliver_132 : decode cX11_deliver 132 = .ok (.lastore, 1) := by decide +kernel
theorem dX11_deliver_133 : decode cX11_deliver 133 = .ok (.aload_n 0, 1) := by decide +kernel
theorem dX11_deliver_134 : decode cX11_deliver 134 = .ok (.getfield 7, 3) := by decide +kernel
theorem dX11_deliver_137 : decode cX11_deliver 137 = .ok (.iload_n 3, 1) := by decide +kernel
theorem dX11_deliver_138 : decode cX11_deliver 138 = .ok (.iconst 5, 1) := by decide +kernel
theorem dX11_deliver_139 : decode cX11_deliver 139 = .ok (.iadd, 1) := by decide +kernel
theorem dX11_deliver_140 : decode cX11_deliver 140 = .ok (.dup2, 1) := by decide +kernel
theorem dX11_deliver_141 : decode cX11_deliver 141 = .ok (.laload, 1) := by decide +kernel
theorem dX11_deliver_142 : decode cX11_deliver 142 = .ok (.iload 4, 2) := by decide +kernel
theorem dX11_deliver_144 : decode cX11_deliver 144 = .ok (.i2l, 1) := by decide +kernel
theorem dX11_deliver_145 : decode cX11_deliver 145 = .ok (.ladd, 1) := by decide +kernel
theorem dX11_deliver_146 : decode cX11_deliver 146 = .ok (.lastore, 1) := by decide +kernel
theorem dX11_deliver_147 : decode cX11_deliver 147 = .ok (.aload_n 0, 1) := by decide +kernel
theorem dX11_deliver_148 : decode cX11_deliver 148 = .ok (.iload_n 1, 1) := by decide +kernel
theorem dX11_deliver_149 : decode cX11_deliver 149 = .ok (.invokevirtual 225, 3) := by decide +kernel
theorem dX11_deliver_152 : decode cX11_deliver 152 = .ok (.ireturn, 1) := by decide +kernel
theorem dX11_settleAll_0 : decode cX11_settleAll 0 = .ok (.iconst 0, 1) := by decide +kernel
theorem dX11_settleAll_1 : decode cX11_settleAll 1 = .ok (.istore_n 3, 1) := by decide +kernel
theorem dX11_settleAll_2 : decode cX11_settleAll 2 = .ok (.iconst 0, 1) := by decide +kernel
theorem dX11_settleAll_3 : decode cX11_settleAll 3 = .ok (.istore 4, 2) := by decide +kernel
theorem dX11_settleAll_5 : decode cX11_settleAll 5 = .ok (.iload 4, 2) := by decide +kernel
theorem dX11_settleAll_7 : decode cX11_settleAll 7 = .ok (.i2l, 1) := by decide +kernel
theorem dX11_settleAll_8 : decode cX11_settleAll 8 = .ok (.aload_n 0, 1) := by decide +kernel
theorem dX11_settleAll_9 : decode cX11_settleAll 9 = .ok (.getfield 7, 3) := by decide +kernel
theorem dX11_settleAll_12 : decode cX11_settleAll 12 = .ok (.iconst 0, 1) := by decide +kernel
theorem dX11_settleAll_13 : decode cX11_settleAll 13 = .ok (.laload, 1) := by decide +kernel
theorem dX11_settleAll_14 : decode cX11_settleAll 14 = .ok (.lcmp, 1) := by decide +kernel
theorem dX11_settleAll_15 : decode cX11_settleAll 15 = .ok (.ifCond .ge 98, 3) := by decide +kernel
theorem dX11_settleAll_18 : decode cX11_settleAll 18 = .ok (.iconst 0, 1) := by decide +kernel
theorem dX11_settleAll_19 : decode cX11_settleAll 19 = .ok (.istore 5, 2) := by decide +kernel
theorem dX11_settleAll_21 : decode cX11_settleAll 21 = .ok (.iload 5, 2) := by decide +kernel
theorem dX11_settleAll_23 : decode cX11_settleAll 23 = .ok (.aload_n 0, 1) := by decide +kernel
theorem dX11_settleAll_24 : decode cX11_settleAll 24 = .ok (.iload 4, 2) := by decide +kernel
theorem dX11_settleAll_26 : decode cX11_settleAll 26 = .ok (.invokevirtual 74, 3) := by decide +kernel
theorem dX11_settleAll_29 : decode cX11_settleAll 29 = .ok (.if_icmp .ge 78, 3) := by decide +kernel
theorem dX11_settleAll_32 : decode cX11_settleAll 32 = .ok (.aload_n 0, 1) := by decide +kernel
theorem dX11_settleAll_33 : decode cX11_settleAll 33 = .ok (.iload 4, 2) := by decide +kernel
theorem dX11_settleAll_35 : decode cX11_settleAll 35 = .ok (.invokevirtual 139, 3) := by decide +kernel
theorem dX11_settleAll_38 : decode cX11_settleAll 38 = .ok (.ifCond .eq 69, 3) := by decide +kernel
theorem dX11_settleAll_41 : decode cX11_settleAll 41 = .ok (.aload_n 0, 1) := by decide +kernel
theorem dX11_settleAll_42 : decode cX11_settleAll 42 = .ok (.iload 4, 2) := by decide +kernel
theorem dX11_settleAll_44 : decode cX11_settleAll 44 = .ok (.iload 5, 2) := by decide +kernel
theorem dX11_settleAll_46 : decode cX11_settleAll 46 = .ok (.invokevirtual 142, 3) := by decide +kernel
theorem dX11_settleAll_49 : decode cX11_settleAll 49 = .ok (.istore 6, 2) := by decide +kernel
theorem dX11_settleAll_51 : decode cX11_settleAll 51 = .ok (.aload_n 0, 1) := by decide +kernel
theorem dX11_settleAll_52 : decode cX11_settleAll 52 = .ok (.iload 6, 2) := by decide +kernel
theorem dX11_settleAll_54 : decode cX11_settleAll 54 = .ok (.invokevirtual 173, 3) := by decide +kernel
theorem dX11_settleAll_57 : decode cX11_settleAll 57 = .ok (.ifCond .eq 44, 3) := by decide +kernel
theorem dX11_settleAll_60 : decode cX11_settleAll 60 = .ok (.aload_n 0, 1) := by decide +kernel
theorem dX11_settleAll_61 : decode cX11_settleAll 61 = .ok (.getfield 7, 3) := by decide +kernel
theorem dX11_settleAll_64 : decode cX11_settleAll 64 = .ok (.iload 6, 2) := by decide +kernel
theorem dX11_settleAll_66 : decode cX11_settleAll 66 = .ok (.bipush 9, 2) := by decide +kernel
theorem dX11_settleAll_68 : decode cX11_settleAll 68 = .ok (.iadd, 1) := by decide +kernel
theorem dX11_settleAll_69 : decode cX11_settleAll 69 = .ok (.laload, 1) := by decide +kernel
theorem dX11_settleAll_70 : decode cX11_settleAll 70 = .ok (.iload_n 2, 1) := by decide +kernel
theorem dX11_settleAll_71 : decode cX11_settleAll 71 = .ok (.i2l, 1) := by decide +kernel
theorem dX11_settleAll_72 : decode cX11_settleAll 72 = .ok (.lcmp, 1) := by decide +kernel
theorem dX11_settleAll_73 : decode cX11_settleAll 73 = .ok (.ifCond .eq 28, 3) := by decide +kernel
theorem dX11_settleAll_76 : decode cX11_settleAll 76 = .ok (.aload_n 0, 1) := by decide +kernel
theorem dX11_settleAll_77 : decode cX11_settleAll 77 = .ok (.iload 6, 2) := by decide +kernel
theorem dX11_settleAll_79 : decode cX11_settleAll 79 = .ok (.aload_n 0, 1) := by decide +kernel
theorem dX11_settleAll_80 : decode cX11_settleAll 80 = .ok (.iload_n 1, 1) := by decide +kernel
theorem dX11_settleAll_81 : decode cX11_settleAll 81 = .ok (.invokevirtual 116, 3) := by decide +kernel
theorem dX11_settleAll_84 : decode cX11_settleAll 84 = .ok (.invokevirtual 119, 3) := by decide +kernel
theorem dX11_settleAll_87 : decode cX11_settleAll 87 = .ok (.ifCond .eq 14, 3) := by decide +kernel
theorem dX11_settleAll_90 : decode cX11_settleAll 90 = .ok (.aload_n 0, 1) := by decide +kernel
theorem dX11_settleAll_91 : decode cX11_settleAll 91 = .ok (.iload 6, 2) := by decide +kernel
theorem dX11_settleAll_93 : decode cX11_settleAll 93 = .ok (.iload_n 2, 1) := by decide +kernel
theorem dX11_settleAll_94 : decode cX11_settleAll 94 = .ok (.iconst 4, 1) := by decide +kernel
theorem dX11_settleAll_95 : decode cX11_settleAll 95 = .ok (.invokevirtual 187, 3) := by decide +kernel
theorem dX11_settleAll_98 : decode cX11_settleAll 98 = .ok (.iinc 3 1, 3) := by decide +kernel
theorem dX11_settleAll_101 : decode cX11_settleAll 101 = .ok (.iinc 5 1, 3) := by decide +kernel
theorem dX11_settleAll_104 : decode cX11_settleAll 104 = .ok (.goto (-83), 3) := by decide +kernel
theorem dX11_settleAll_107 : decode cX11_settleAll 107 = .ok (.iinc 4 1, 3) := by decide +kernel
theorem dX11_settleAll_110 : decode cX11_settleAll 110 = .ok (.goto (-105), 3) := by decide +kernel
theorem dX11_settleAll_113 : decode cX11_settleAll 113 = .ok (.iload_n 3, 1) := by decide +kernel
theorem dX11_settleAll_114 : decode cX11_settleAll 114 = .ok (.ireturn, 1) := by decide +kernel
theorem dX11_settle_0 : decode cX11_settle 0 = .ok (.aload_n 0, 1) := by decide +kernel
theorem dX11_settle_1 : decode cX11_settle 1 = .ok (.iload_n 1, 1) := by decide +kernel
theorem dX11_settle_2 : decode cX11_settle 2 = .ok (.invokevirtual 228, 3) := by decide +kernel
theorem dX11_settle_5 : decode cX11_settle 5 = .ok (.ifCond .eq 5, 3) := by decide +kernel
theorem dX11_settle_8 : decode cX11_settle 8 = .ok (.iconst (-1), 1) := by decide +kernel
theorem dX11_settle_9 : decode cX11_settle 9 = .ok (.ireturn, 1) := by decide +kernel
theorem dX11_settle_10 : decode cX11_settle 10 = .ok (.iload_n 2, 1) := by decide +kernel
theorem dX11_settle_11 : decode cX11_settle 11 = .ok (.iconst 0, 1) := by decide +kernel
theorem dX11_settle_12 : decode cX11_settle 12 = .ok (.iconst 1, 1) := by decide +kernel
theorem dX11_settle_13 : decode cX11_settle 13 = .ok (.invokestatic 60, 3) := by decide +kernel
theorem dX11_settle_16 : decode cX11_settle 16 = .ok (.ifCond .ne 6, 3) := by decide +kernel
theorem dX11_settle_19 : decode cX11_settle 19 = .ok (.bipush (-2), 2) := by decide +kernel
theorem dX11_settle_21 : decode cX11_settle 21 = .ok (.ireturn, 1) := by decide +kernel
theorem dX11_settle_22 : decode cX11_settle 22 = .ok (.aload_n 0, 1) := by decide +kernel
theorem dX11_settle_23 : decode cX11_settle 23 = .ok (.iload_n 1, 1) := by decide +kernel
theorem dX11_settle_24 : decode cX11_settle 24 = .ok (.invokevirtual 191, 3) := by decide +kernel
theorem dX11_settle_27 : decode cX11_settle 27 = .ok (.istore_n 3, 1) := by decide +kernel
theorem dX11_settle_28 : decode cX11_settle 28 = .ok (.aload_n 0, 1) := by decide +kernel
theorem dX11_settle_29 : decode cX11_settle 29 = .ok (.getfield 7, 3) := by decide +kernel
theorem dX11_settle_32 : decode cX11_settle 32 = .ok (.iload_n 3, 1) := by decide +kernel
theorem dX11_settle_33 : decode cX11_settle 33 = .ok (.iconst 3, 1) := by decide +kernel
theorem dX11_settle_34 : decode cX11_settle 34 = .ok (.iadd, 1) := by decide +kernel
theorem dX11_settle_35 : decode cX11_settle 35 = .ok (.laload, 1) := by decide +kernel
theorem dX11_settle_36 : decode cX11_settle 36 = .ok (.lconst 1, 1) := by decide +kernel
theorem dX11_settle_37 : decode cX11_settle 37 = .ok (.lcmp, 1) := by decide +kernel
theorem dX11_settle_38 : decode cX11_settle 38 = .ok (.ifCond .ne 6, 3) := by decide +kernel
theorem dX11_settle_41 : decode cX11_settle 41 = .ok (.bipush (-4), 2) := by decide +kernel
theorem dX11_settle_43 : decode cX11_settle 43 = .ok (.ireturn, 1) := by decide +kernel
theorem dX11_settle_44 : decode cX11_settle 44 = .ok (.aload_n 0, 1) := by decide +kernel
theorem dX11_settle_45 : decode cX11_settle 45 = .ok (.invokevirtual 57, 3) := by decide +kernel
theorem dX11_settle_48 : decode cX11_settle 48 = .ok (.aload_n 0, 1) := by decide +kernel
theorem dX11_settle_49 : decode cX11_settle 49 = .ok (.iload_n 3, 1) := by decide +kernel
theorem dX11_settle_50 : decode cX11_settle 50 = .ok (.iconst 0, 1) := by decide +kernel
theorem dX11_settle_51 : decode cX11_settle 51 = .ok (.iadd, 1) := by decide +kernel
theorem dX11_settle_52 : decode cX11_settle 52 = .ok (.invokevirtual 53, 3) := by decide +kernel
theorem dX11_settle_55 : decode cX11_settle 55 = .ok (.istore 4, 2) := by decide +kernel
theorem dX11_settle_57 : decode cX11_settle 57 = .ok (.aload_n 0, 1) := by decide +kernel
theorem dX11_settle_58 : decode cX11_settle 58 = .ok (.iload_n 3, 1) := by decide +kernel
theorem dX11_settle_59 : decode cX11_settle 59 = .ok (.iload_n 2, 1) := by decide +kernel
theorem dX11_settle_60 : decode cX11_settle 60 = .ok (.ifCond .ne 7, 3) := by decide +kernel
theorem dX11_settle_63 : decode cX11_settle 63 = .ok (.iconst 1, 1) := by decide +kernel
theorem dX11_settle_64 : decode cX11_settle 64 = .ok (.goto 4, 3) := by decide +kernel
theorem dX11_settle_67 : decode cX11_settle 67 = .ok (.iconst 2, 1) := by decide +kernel
theorem dX11_settle_68 : decode cX11_settle 68 = .ok (.iadd, 1) := by decide +kernel
theorem dX11_settle_69 : decode cX11_settle 69 = .ok (.invokevirtual 53, 3) := by decide +kernel
theorem dX11_settle_72 : decode cX11_settle 72 = .ok (.istore 5, 2) := by decide +kernel
theorem dX11_settle_74 : decode cX11_settle 74 = .ok (.aload_n 0, 1) := by decide +kernel
theorem dX11_settle_75 : decode cX11_settle 75 = .ok (.getfield 7, 3) := by decide +kernel
theorem dX11_settle_78 : decode cX11_settle 78 = .ok (.iload_n 3, 1) := by decide +kernel
theorem dX11_settle_79 : decode cX11_settle 79 = .ok (.iconst 3, 1) := by decide +kernel
theorem dX11_settle_80 : decode cX11_settle 80 = .ok (.iadd, 1) := by decide +kernel
theorem dX11_settle_81 : decode cX11_settle 81 = .ok (.lconst 1, 1) := by decide +kernel
theorem dX11_settle_82 : decode cX11_settle 82 = .ok (.lastore, 1) := by decide +kernel
theorem dX11_settle_83 : decode cX11_settle 83 = .ok (.aload_n 0, 1) := by decide +kernel
theorem dX11_settle_84 : decode cX11_settle 84 = .ok (.getfield 7, 3) := by decide +kernel
theorem dX11_settle_87 : decode cX11_settle 87 = .ok (.iload_n 3, 1) := by decide +kernel
theorem dX11_settle_88 : decode cX11_settle 88 = .ok (.iconst 4, 1) := by decide +kernel
theorem dX11_settle_89 : decode cX11_settle 89 = .ok (.iadd, 1) := by decide +kernel
theorem dX11_settle_90 : decode cX11_settle 90 = .ok (.iload 5, 2) := by decide +kernel
theorem dX11_settle_92 : decode cX11_settle 92 = .ok (.i2l, 1) := by decide +kernel
theorem dX11_settle_93 : decode cX11_settle 93 = .ok (.lastore, 1) := by decide +kernel
theorem dX11_settle_94 : decode cX11_settle 94 = .ok (.aload_n 0, 1) := by decide +kernel
theorem dX11_settle_95 : decode cX11_settle 95 = .ok (.getfield 7, 3) := by decide +kernel
theorem dX11_settle_98 : decode cX11_settle 98 = .ok (.aload_n 0, 1) := by decide +kernel
theorem dX11_settle_99 : decode cX11_settle 99 = .ok (.iload 4, 2) := by decide +kernel
theorem dX11_settle_101 : decode cX11_settle 101 = .ok (.invokevirtual 116, 3) := by decide +kernel
theorem dX11_settle_104 : decode cX11_settle 104 = .ok (.bipush 9, 2) := by decide +kernel
theorem dX11_settle_106 : decode cX11_settle 106 = .ok (.iadd, 1) := by decide +kernel
theorem dX11_settle_107 : decode cX11_settle 107 = .ok (.iload 5, 2) := by decide +kernel
theorem dX11_settle_109 : decode cX11_settle 109 = .ok (.i2l, 1) := by decide +kernel
theorem dX11_settle_110 : decode cX11_settle 110 = .ok (.lastore, 1) := by decide +kernel
theorem dX11_settle_111 : decode cX11_settle 111 = .ok (.aload_n 0, 1) := by decide +kernel
theorem dX11_settle_112 : decode cX11_settle 112 = .ok (.getfield 7, 3) := by decide +kernel
theorem dX11_settle_115 : decode cX11_settle 115 = .ok (.aload_n 0, 1) := by decide +kernel
theorem dX11_settle_116 : decode cX11_settle 116 = .ok (.iload 4, 2) := by decide +kernel
theorem dX11_settle_118 : decode cX11_settle 118 = .ok (.invokevirtual 116, 3) := by decide +kernel
theorem dX11_settle_121 : decode cX11_settle 121 = .ok (.bipush 10, 2) := by decide +kernel
theorem dX11_settle_123 : decode cX11_settle 123 = .ok (.iadd, 1) := by decide +kernel
theorem dX11_settle_124 : decode cX11_settle 124 = .ok (.lconst 1, 1) := by decide +kernel
theorem dX11_settle_125 : decode cX11_settle 125 = .ok (.lastore, 1) := by decide +kernel
theorem dX11_settle_126 : decode cX11_settle 126 = .ok (.aload_n 0, 1) := by decide +kernel
theorem dX11_settle_127 : decode cX11_settle 127 = .ok (.iload 4, 2) := by decide +kernel
theorem dX11_settle_129 : decode cX11_settle 129 = .ok (.iload 5, 2) := by decide +kernel
theorem dX11_settle_131 : decode cX11_settle 131 = .ok (.invokevirtual 231, 3) := by decide +kernel
theorem dX11_settle_134 : decode cX11_settle 134 = .ok (.ireturn, 1) := by decide +kernel
theorem dX11_filesOf_0 : decode cX11_filesOf 0 = .ok (.iconst 0, 1) := by decide +kernel
theorem dX11_filesOf_1 : decode cX11_filesOf 1 = .ok (.istore 5, 2) := by decide +kernel
theorem dX11_filesOf_3 : decode cX11_filesOf 3 = .ok (.iconst 0, 1) := by decide +kernel
theorem dX11_filesOf_4 : decode cX11_filesOf 4 = .ok (.istore 6, 2) := by decide +kernel
theorem dX11_filesOf_6 : decode cX11_filesOf 6 = .ok (.iload 6, 2) := by decide +kernel
theorem dX11_filesOf_8 : decode cX11_filesOf 8 = .ok (.i2l, 1) := by decide +kernel
theorem dX11_filesOf_9 : decode cX11_filesOf 9 = .ok (.aload_n 0, 1) := by decide +kernel
theorem dX11_filesOf_10 : decode cX11_filesOf 10 = .ok (.getfield 7, 3) := by decide +kernel
theorem dX11_filesOf_13 : decode cX11_filesOf 13 = .ok (.iconst 0, 1) := by decide +kernel
theorem dX11_filesOf_14 : decode cX11_filesOf 14 = .ok (.laload, 1) := by decide +kernel
theorem dX11_filesOf_15 : decode cX11_filesOf 15 = .ok (.lcmp, 1) := by decide +kernel
theorem dX11_filesOf_16 : decode cX11_filesOf 16 = .ok (.ifCond .ge 53, 3) := by decide +kernel
theorem dX11_filesOf_19 : decode cX11_filesOf 19 = .ok (.iload 5, 2) := by decide +kernel
theorem dX11_filesOf_21 : decode cX11_filesOf 21 = .ok (.aload_n 0, 1) := by decide +kernel
theorem dX11_filesOf_22 : decode cX11_filesOf 22 = .ok (.iload 6, 2) := by decide +kernel
theorem dX11_filesOf_24 : decode cX11_filesOf 24 = .ok (.invokevirtual 67, 3) := by decide +kernel
theorem dX11_filesOf_27 : decode cX11_filesOf 27 = .ok (.iload_n 3, 1) := by decide +kernel
theorem dX11_filesOf_28 : decode cX11_filesOf 28 = .ok (.iload 4, 2) := by decide +kernel
theorem dX11_filesOf_30 : decode cX11_filesOf 30 = .ok (.invokestatic 60, 3) := by decide +kernel
theorem dX11_filesOf_33 : decode cX11_filesOf 33 = .ok (.ifCond .eq 26, 3) := by decide +kernel
theorem dX11_filesOf_36 : decode cX11_filesOf 36 = .ok (.aload_n 0, 1) := by decide +kernel
theorem dX11_filesOf_37 : decode cX11_filesOf 37 = .ok (.getfield 7, 3) := by decide +kernel
theorem dX11_filesOf_40 : decode cX11_filesOf 40 = .ok (.aload_n 0, 1) := by decide +kernel
theorem dX11_filesOf_41 : decode cX11_filesOf 41 = .ok (.iload 6, 2) := by decide +kernel
theorem dX11_filesOf_43 : decode cX11_filesOf 43 = .ok (.invokevirtual 64, 3) := by decide +kernel
theorem dX11_filesOf_46 : decode cX11_filesOf 46 = .ok (.iload_n 2, 1) := by decide +kernel
theorem dX11_filesOf_47 : decode cX11_filesOf 47 = .ok (.iadd, 1) := by decide +kernel
theorem dX11_filesOf_48 : decode cX11_filesOf 48 = .ok (.laload, 1) := by decide +kernel
theorem dX11_filesOf_49 : decode cX11_filesOf 49 = .ok (.iload_n 1, 1) := by decide +kernel
theorem dX11_filesOf_50 : decode cX11_filesOf 50 = .ok (.i2l, 1) := by decide +kernel
theorem dX11_filesOf_51 : decode cX11_filesOf 51 = .ok (.lcmp, 1) := by decide +kernel
theorem dX11_filesOf_52 : decode cX11_filesOf 52 = .ok (.ifCond .ne 7, 3) := by decide +kernel
theorem dX11_filesOf_55 : decode cX11_filesOf 55 = .ok (.iconst 1, 1) := by decide +kernel
theorem dX11_filesOf_56 : decode cX11_filesOf 56 = .ok (.goto 4, 3) := by decide +kernel
theorem dX11_filesOf_59 : decode cX11_filesOf 59 = .ok (.iconst 0, 1) := by decide +kernel
theorem dX11_filesOf_60 : decode cX11_filesOf 60 = .ok (.iadd, 1) := by decide +kernel
theorem dX11_filesOf_61 : decode cX11_filesOf 61 = .ok (.istore 5, 2) := by decide +kernel
theorem dX11_filesOf_63 : decode cX11_filesOf 63 = .ok (.iinc 6 1, 3) := by decide +kernel
theorem dX11_filesOf_66 : decode cX11_filesOf 66 = .ok (.goto (-60), 3) := by decide +kernel
theorem dX11_filesOf_69 : decode cX11_filesOf 69 = .ok (.iload 5, 2) := by decide +kernel
theorem dX11_filesOf_71 : decode cX11_filesOf 71 = .ok (.ireturn, 1) := by decide +kernel
theorem dX11_person_0 : decode cX11_person 0 = .ok (.aload_n 0, 1) := by decide +kernel
theorem dX11_person_1 : decode cX11_person 1 = .ok (.iload_n 1, 1) := by decide +kernel
theorem dX11_person_2 : decode cX11_person 2 = .ok (.invokevirtual 84, 3) := by decide +kernel
theorem dX11_person_5 : decode cX11_person 5 = .ok (.ifCond .eq 5, 3) := by decide +kernel
theorem dX11_person_8 : decode cX11_person 8 = .ok (.iconst (-1), 1) := by decide +kernel
theorem dX11_person_9 : decode cX11_person 9 = .ok (.ireturn, 1) := by decide +kernel
theorem dX11_person_10 : decode cX11_person 10 = .ok (.aload_n 0, 1) := by decide +kernel
theorem dX11_person_11 : decode cX11_person 11 = .ok (.iload_n 1, 1) := by decide +kernel
theorem dX11_person_12 : decode cX11_person 12 = .ok (.invokevirtual 79, 3) := by decide +kernel
theorem dX11_person_15 : decode cX11_person 15 = .ok (.istore_n 3, 1) := by decide +kernel
theorem dX11_person_16 : decode cX11_person 16 = .ok (.iload_n 2, 1) := by decide +kernel
theorem dX11_person_17 : decode cX11_person 17 = .ok (.tableswitch 113 0 7 #[47, 55, 63, 72, 81, 89, 97, 105], 47) := by decide +kernel
theorem dX11_person_64 : decode cX11_person 64 = .ok (.aload_n 0, 1) := by decide +kernel
theorem dX11_person_65 : decode cX11_person 65 = .ok (.iload_n 3, 1) := by decide +kernel
theorem dX11_person_66 : decode cX11_person 66 = .ok (.iconst 0, 1) := by decide +kernel
theorem dX11_person_67 : decode cX11_person 67 = .ok (.iadd, 1) := by decide +kernel
theorem dX11_person_68 : decode cX11_person 68 = .ok (.invokevirtual 53, 3) := by decide +kernel
theorem dX11_person_71 : decode cX11_person 71 = .ok (.ireturn, 1) := by decide +kernel
theorem dX11_person_72 : decode cX11_person 72 = .ok (.aload_n 0, 1) := by decide +kernel
theorem dX11_person_73 : decode cX11_person 73 = .ok (.iload_n 3, 1) := by decide +kernel
theorem dX11_person_74 : decode cX11_person 74 = .ok (.iconst 1, 1) := by decide +kernel
theorem dX11_person_75 : decode cX11_person 75 = .ok (.iadd, 1) := by decide +kernel
theorem dX11_person_76 : decode cX11_person 76 = .ok (.invokevirtual 53, 3) := by decide +kernel
theorem dX11_person_79 : decode cX11_person 79 = .ok (.ireturn, 1) := by decide +kernel
theorem dX11_person_80 : decode cX11_person 80 = .ok (.aload_n 0, 1) := by decide +kernel
theorem dX11_person_81 : decode cX11_person 81 = .ok (.iload_n 1, 1) := by decide +kernel
theorem dX11_person_82 : decode cX11_person 82 = .ok (.iconst 2, 1) := by decide +kernel
theorem dX11_person_83 : decode cX11_person 83 = .ok (.iconst 1, 1) := by decide +kernel
theorem dX11_person_84 : decode cX11_person 84 = .ok (.iconst 2, 1) := by decide +kernel
theorem dX11_person_85 : decode cX11_person 85 = .ok (.invokevirtual 234, 3) := by decide +kernel
theorem dX11_person_88 : decode cX11_person 88 = .ok (.ireturn, 1) := by decide +kernel
theorem dX11_person_89 : decode cX11_person 89 = .ok (.aload_n 0, 1) := by decide +kernel
theorem dX11_person_90 : decode cX11_person 90 = .ok (.iload_n 1, 1) := by decide +kernel
theorem dX11_person_91 : decode cX11_person 91 = .ok (.iconst 3, 1) := by decide +kernel
theorem dX11_person_92 : decode cX11_person 92 = .ok (.iconst 2, 1) := by decide +kernel
theorem dX11_person_93 : decode cX11_person 93 = .ok (.iconst 2, 1) := by decide +kernel
theorem dX11_person_94 : decode cX11_person 94 = .ok (.invokevirtual 234, 3) := by decide +kernel
theorem dX11_person_97 : decode cX11_person 97 = .ok (.ireturn, 1) := by decide +kernel
theorem dX11_person_98 : decode cX11_person 98 = .ok (.aload_n 0, 1) := by decide +kernel
theorem dX11_person_99 : decode cX11_person 99 = .ok (.iload_n 3, 1) := by decide +kernel
theorem dX11_person_100 : decode cX11_person 100 = .ok (.iconst 4, 1) := by decide +kernel
theorem dX11_person_101 : decode cX11_person 101 = .ok (.iadd, 1) := by decide +kernel
theorem dX11_person_102 : decode cX11_person 102 = .ok (.invokevirtual 53, 3) := by decide +kernel
theorem dX11_person_105 : decode cX11_person 105 = .ok (.ireturn, 1) := by decide +kernel
theorem dX11_person_106 : decode cX11_person 106 = .ok (.aload_n 0, 1) := by decide +kernel
theorem dX11_person_107 : decode cX11_person 107 = .ok (.iload_n 3, 1) := by decide +kernel
theorem dX11_person_108 : decode cX11_person 108 = .ok (.iconst 5, 1) := by decide +kernel
theorem dX11_person_109 : decode cX11_person 109 = .ok (.iadd, 1) := by decide +kernel
theorem dX11_person_110 : decode cX11_person 110 = .ok (.invokevirtual 53, 3) := by decide +kernel
theorem dX11_person_113 : decode cX11_person 113 = .ok (.ireturn, 1) := by decide +kernel
theorem dX11_person_114 : decode cX11_person 114 = .ok (.aload_n 0, 1) := by decide +kernel
theorem dX11_person_115 : decode cX11_person 115 = .ok (.iload_n 3, 1) := by decide +kernel
theorem dX11_person_116 : decode cX11_person 116 = .ok (.iconst 3, 1) := by decide +kernel
theorem dX11_person_117 : decode cX11_person 117 = .ok (.iadd, 1) := by decide +kernel
theorem dX11_person_118 : decode cX11_person 118 = .ok (.invokevirtual 53, 3) := by decide +kernel
theorem dX11_person_121 : decode cX11_person 121 = .ok (.ireturn, 1) := by decide +kernel
theorem dX11_person_122 : decode cX11_person 122 = .ok (.aload_n 0, 1) := by decide +kernel
theorem dX11_person_123 : decode cX11_person 123 = .ok (.iload_n 3, 1) := by decide +kernel
theorem dX11_person_124 : decode cX11_person 124 = .ok (.iconst 2, 1) := by decide +kernel
theorem dX11_person_125 : decode cX11_person 125 = .ok (.iadd, 1) := by decide +kernel
theorem dX11_person_126 : decode cX11_person 126 = .ok (.invokevirtual 53, 3) := by decide +kernel
theorem dX11_person_129 : decode cX11_person 129 = .ok (.ireturn, 1) := by decide +kernel
theorem dX11_person_130 : decode cX11_person 130 = .ok (.bipush (-2), 2) := by decide +kernel
theorem dX11_person_132 : decode cX11_person 132 = .ok (.ireturn, 1) := by decide +kernel
theorem dX11_file_0 : decode cX11_file 0 = .ok (.aload_n 0, 1) := by decide +kernel
theorem dX11_file_1 : decode cX11_file 1 = .ok (.iload_n 1, 1) := by decide +kernel
theorem dX11_file_2 : decode cX11_file 2 = .ok (.invokevirtual 70, 3) := by decide +kernel
theorem dX11_file_5 : decode cX11_file 5 = .ok (.ifCond .eq 5, 3) := by decide +kernel
theorem dX11_file_8 : decode cX11_file 8 = .ok (.iconst (-1), 1) := by decide +kernel
theorem dX11_file_9 : decode cX11_file 9 = .ok (.ireturn, 1) := by decide +kernel
theorem dX11_file_10 : decode cX11_file 10 = .ok (.aload_n 0, 1) := by decide +kernel
theorem dX11_file_11 : decode cX11_file 11 = .ok (.iload_n 1, 1) := by decide +kernel
theorem dX11_file_12 : decode cX11_file 12 = .ok (.invokevirtual 64, 3) := by decide +kernel
theorem dX11_file_15 : decode cX11_file 15 = .ok (.istore_n 3, 1) := by decide +kernel
theorem dX11_file_16 : decode cX11_file 16 = .ok (.iload_n 2, 1) := by decide +kernel
theorem dX11_file_17 : decode cX11_file 17 = .ok (.tableswitch 133 0 9 #[55, 63, 71, 77, 83, 91, 99, 107, 113, 125], 55) := by decide +kernel
theorem dX11_file_72 : decode cX11_file 72 = .ok (.aload_n 0, 1) := by decide +kernel
theorem dX11_file_73 : decode cX11_file 73 = .ok (.iload_n 3, 1) := by decide +kernel
theorem dX11_file_74 : decode cX11_file 74 = .ok (.iconst 1, 1) := by decide +kernel
theorem dX11_file_75 : decode cX11_file 75 = .ok (.iadd, 1) := by decide +kernel
theorem dX11_file_76 : decode cX11_file 76 = .ok (.invokevirtual 53, 3) := by decide +kernel
theorem dX11_file_79 : decode cX11_file 79 = .ok (.ireturn, 1) := by decide +kernel
theorem dX11_file_80 : decode cX11_file 80 = .ok (.aload_n 0, 1) := by decide +kernel
theorem dX11_file_81 : decode cX11_file 81 = .ok (.iload_n 3, 1) := by decide +kernel
theorem dX11_file_82 : decode cX11_file 82 = .ok (.iconst 0, 1) := by decide +kernel
theorem dX11_file_83 : decode cX11_file 83 = .ok (.iadd, 1) := by decide +kernel
theorem dX11_file_84 : decode cX11_file 84 = .ok (.invokevirtual 53, 3) := by decide +kernel
theorem dX11_file_87 : decode cX11_file 87 = .ok (.ireturn, 1) := by decide +kernel
theorem dX11_file_88 : decode cX11_file 88 = .ok (.aload_n 0, 1) := by decide +kernel
theorem dX11_file_89 : decode cX11_file 89 = .ok (.iload_n 1, 1) := by decide +kernel
theorem dX11_file_90 : decode cX11_file 90 = .ok (.invokevirtual 220, 3) := by decide +kernel
theorem dX11_file_93 : decode cX11_file 93 = .ok (.ireturn, 1) := by decide +kernel
theorem dX11_file_94 : decode cX11_file 94 = .ok (.aload_n 0, 1) := by decide +kernel
theorem dX11_file_95 : decode cX11_file 95 = .ok (.iload_n 1, 1) := by decide +kernel
theorem dX11_file_96 : decode cX11_file 96 = .ok (.invokevirtual 136, 3) := by decide +kernel
theorem dX11_file_99 : decode cX11_file 99 = .ok (.ireturn, 1) := by decide +kernel
theorem dX11_file_100 : decode cX11_file 100 = .ok (.aload_n 0, 1) := by decide +kernel
theorem dX11_file_101 : decode cX11_file 101 = .ok (.iload_n 3, 1) := by decide +kernel
theorem dX11_file_102 : decode cX11_file 102 = .ok (.iconst 2, 1) := by decide +kernel
theorem dX11_file_103 : decode cX11_file 103 = .ok (.iadd, 1) := by decide +kernel
theorem dX11_file_104 : decode cX11_file 104 = .ok (.invokevirtual 53, 3) := by decide +kernel
theorem dX11_file_107 : decode cX11_file 107 = .ok (.ireturn, 1) := by decide +kernel
theorem dX11_file_108 : decode cX11_file 108 = .ok (.aload_n 0, 1) := by decide +kernel
theorem dX11_file_109 : decode cX11_file 109 = .ok (.iload_n 3, 1) := by decide +kernel
theorem dX11_file_110 : decode cX11_file 110 = .ok (.iconst 3, 1) := by decide +kernel
theorem dX11_file_111 : decode cX11_file 111 = .ok (.iadd, 1) := by decide +kernel
theorem dX11_file_112 : decode cX11_file 112 = .ok (.invokevirtual 53, 3) := by decide +kernel
theorem dX11_file_115 : decode cX11_file 115 = .ok (.ireturn, 1) := by decide +kernel
theorem dX11_file_116 : decode cX11_file 116 = .ok (.aload_n 0, 1) := by decide +kernel
theorem dX11_file_117 : decode cX11_file 117 = .ok (.iload_n 3, 1) := by decide +kernel
theorem dX11_file_118 : decode cX11_file 118 = .ok (.iconst 4, 1) := by decide +kernel
theorem dX11_file_119 : decode cX11_file 119 = .ok (.iadd, 1) := by decide +kernel
theorem dX11_file_120 : decode cX11_file 120 = .ok (.invokevirtual 53, 3) := by decide +kernel
theorem dX11_file_123 : decode cX11_file 123 = .ok (.ireturn, 1) := by decide +kernel
theorem dX11_file_124 : decode cX11_file 124 = .ok (.aload_n 0, 1) := by decide +kernel
theorem dX11_file_125 : decode cX11_file 125 = .ok (.iload_n 1, 1) := by decide +kernel
theorem dX11_file_126 : decode cX11_file 126 = .ok (.invokevirtual 225, 3) := by decide +kernel
theorem dX11_file_129 : decode cX11_file 129 = .ok (.ireturn, 1) := by decide +kernel
theorem dX11_file_130 : decode cX11_file 130 = .ok (.aload_n 0, 1) := by decide +kernel
theorem dX11_file_131 : decode cX11_file 131 = .ok (.iload_n 1, 1) := by decide +kernel
theorem dX11_file_132 : decode cX11_file 132 = .ok (.invokevirtual 74, 3) := by decide +kernel
theorem dX11_file_135 : decode cX11_file 135 = .ok (.aload_n 0, 1) := by decide +kernel
theorem dX11_file_136 : decode cX11_file 136 = .ok (.iload_n 1, 1) := by decide +kernel
theorem dX11_file_137 : decode cX11_file 137 = .ok (.invokevirtual 178, 3) := by decide +kernel
theorem dX11_file_140 : decode cX11_file 140 = .ok (.isub, 1) := by decide +kernel
theorem dX11_file_141 : decode cX11_file 141 = .ok (.ireturn, 1) := by decide +kernel
theorem dX11_file_142 : decode cX11_file 142 = .ok (.aload_n 0, 1) := by decide +kernel
theorem dX11_file_143 : decode cX11_file 143 = .ok (.iload_n 3, 1) := by decide +kernel
theorem dX11_file_144 : decode cX11_file 144 = .ok (.iconst 5, 1) := by decide +kernel
theorem dX11_file_145 : decode cX11_file 145 = .ok (.iadd, 1) := by decide +kernel
theorem dX11_file_146 : decode cX11_file 146 = .ok (.invokevirtual 53, 3) := by decide +kernel
theorem dX11_file_149 : decode cX11_file 149 = .ok (.ireturn, 1) := by decide +kernel
theorem dX11_file_150 : decode cX11_file 150 = .ok (.bipush (-2), 2) := by decide +kernel
theorem dX11_file_152 : decode cX11_file 152 = .ok (.ireturn, 1) := by decide +kernel
theorem dX11_segment_0 : decode cX11_segment 0 = .ok (.aload_n 0, 1) := by decide +kernel
theorem dX11_segment_1 : decode cX11_segment 1 = .ok (.iload_n 1, 1) := by decide +kernel
theorem dX11_segment_2 : decode cX11_segment 2 = .ok (.iload_n 2, 1) := by decide +kernel
theorem dX11_segment_3 : decode cX11_segment 3 = .ok (.invokevirtual 194, 3) := by decide +kernel
theorem dX11_segment_6 : decode cX11_segment 6 = .ok (.ifCond .eq 5, 3) := by decide +kernel
theorem dX11_segment_9 : decode cX11_segment 9 = .ok (.iconst (-1), 1) := by decide +kernel
theorem dX11_segment_10 : decode cX11_segment 10 = .ok (.ireturn, 1) := by decide +kernel
theorem dX11_segment_11 : decode cX11_segment 11 = .ok (.aload_n 0, 1) := by decide +kernel
theorem dX11_segment_12 : decode cX11_segment 12 = .ok (.iload_n 1, 1) := by decide +kernel
theorem dX11_segment_13 : decode cX11_segment 13 = .ok (.iload_n 2, 1) := by decide +kernel
theorem dX11_segment_14 : decode cX11_segment 14 = .ok (.invokevirtual 142, 3) := by decide +kernel
theorem dX11_segment_17 : decode cX11_segment 17 = .ok (.istore 4, 2) := by decide +kernel
theorem dX11_segment_19 : decode cX11_segment 19 = .ok (.iload_n 3, 1) := by decide +kernel
theorem dX11_segment_20 : decode cX11_segment 20 = .ok (.tableswitch 127 0 6 #[44, 53, 63, 73, 80, 87, 107], 44) := by decide +kernel
theorem dX11_segment_64 : decode cX11_segment 64 = .ok (.aload_n 0, 1) := by decide +kernel
theorem dX11_segment_65 : decode cX11_segment 65 = .ok (.iload 4, 2) := by decide +kernel
theorem dX11_segment_67 : decode cX11_segment 67 = .ok (.iconst 0, 1) := by decide +kernel
theorem dX11_segment_68 : decode cX11_segment 68 = .ok (.iadd, 1) := by decide +kernel
theorem dX11_segment_69 : decode cX11_segment 69 = .ok (.invokevirtual 53, 3) := by decide +kernel
theorem dX11_segment_72 : decode cX11_segment 72 = .ok (.ireturn, 1) := by decide +kernel
theorem dX11_segment_73 : decode cX11_segment 73 = .ok (.aload_n 0, 1) := by decide +kernel
theorem dX11_segment_74 : decode cX11_segment 74 = .ok (.iload 4, 2) := by decide +kernel
theorem dX11_segment_76 : decode cX11_segment 76 = .ok (.bipush 9, 2) := by decide +kernel
theorem dX11_segment_78 : decode cX11_segment 78 = .ok (.iadd, 1) := by decide +kernel
theorem dX11_segment_79 : decode cX11_segment 79 = .ok (.invokevirtual 53, 3) := by decide +kernel
theorem dX11_segment_82 : decode cX11_segment 82 = .ok (.ireturn, 1) := by decide +kernel
theorem dX11_segment_83 : decode cX11_segment 83 = .ok (.aload_n 0, 1) := by decide +kernel
theorem dX11_segment_84 : decode cX11_segment 84 = .ok (.iload 4, 2) := by decide +kernel
theorem dX11_segment_86 : decode cX11_segment 86 = .ok (.bipush 10, 2) := by decide +kernel
theorem dX11_segment_88 : decode cX11_segment 88 = .ok (.iadd, 1) := by decide +kernel
theorem dX11_segment_89 : decode cX11_segment 89 = .ok (.invokevirtual 53, 3) := by decide +kernel
theorem dX11_segment_92 : decode cX11_segment 92 = .ok (.ireturn, 1) := by decide +kernel
theorem dX11_segment_93 : decode cX11_segment 93 = .ok (.aload_n 0, 1) := by decide +kernel
theorem dX11_segment_94 : decode cX11_segment 94 = .ok (.iload 4, 2) := by decide +kernel
theorem dX11_segment_96 : decode cX11_segment 96 = .ok (.invokevirtual 148, 3) := by decide +kernel
theorem dX11_segment_99 : decode cX11_segment 99 = .ok (.ireturn, 1) := by decide +kernel
theorem dX11_segment_100 : decode cX11_segment 100 = .ok (.aload_n 0, 1) := by decide +kernel
theorem dX11_segment_101 : decode cX11_segment 101 = .ok (.iload 4, 2) := by decide +kernel
theorem dX11_segment_103 : decode cX11_segment 103 = .ok (.invokevirtual 238, 3) := by decide +kernel
theorem dX11_segment_106 : decode cX11_segment 106 = .ok (.ireturn, 1) := by decide +kernel
theorem dX11_segment_107 : decode cX11_segment 107 = .ok (.aload_n 0, 1) := by decide +kernel
theorem dX11_segment_108 : decode cX11_segment 108 = .ok (.iload_n 1, 1) := by decide +kernel
theorem dX11_segment_109 : decode cX11_segment 109 = .ok (.invokevirtual 139, 3) := by decide +kernel
theorem dX11_segment_112 : decode cX11_segment 112 = .ok (.ifCond .eq 12, 3) := by decide +kernel
theorem dX11_segment_115 : decode cX11_segment 115 = .ok (.aload_n 0, 1) := by decide +kernel
theorem dX11_segment_116 : decode cX11_segment 116 = .ok (.iload_n 1, 1) := by decide +kernel
theorem dX11_segment_117 : decode cX11_segment 117 = .ok (.iload_n 2, 1) := by decide +kernel
theorem dX11_segment_118 : decode cX11_segment 118 = .ok (.invokevirtual 151, 3) := by decide +kernel
theorem dX11_segment_121 : decode cX11_segment 121 = .ok (.goto 5, 3) := by decide +kernel
theorem dX11_segment_124 : decode cX11_segment 124 = .ok (.bipush (-5), 2) := by decide +kernel
theorem dX11_segment_126 : decode cX11_segment 126 = .ok (.ireturn, 1) := by decide +kernel
theorem dX11_segment_127 : decode cX11_segment 127 = .ok (.aload_n 0, 1) := by decide +kernel
theorem dX11_segment_128 : decode cX11_segment 128 = .ok (.iload_n 1, 1) := by decide +kernel
theorem dX11_segment_129 : decode cX11_segment 129 = .ok (.invokevirtual 139, 3) := by decide +kernel
theorem dX11_segment_132 : decode cX11_segment 132 = .ok (.ifCond .eq 12, 3) := by decide +kernel
theorem dX11_segment_135 : decode cX11_segment 135 = .ok (.aload_n 0, 1) := by decide +kernel
theorem dX11_segment_136 : decode cX11_segment 136 = .ok (.iload_n 1, 1) := by decide +kernel
theorem dX11_segment_137 : decode cX11_segment 137 = .ok (.iload_n 2, 1) := by decide +kernel
theorem dX11_segment_138 : decode cX11_segment 138 = .ok (.invokevirtual 145, 3) := by decide +kernel
theorem dX11_segment_141 : decode cX11_segment 141 = .ok (.goto 5, 3) := by decide +kernel
theorem dX11_segment_144 : decode cX11_segment 144 = .ok (.bipush (-5), 2) := by decide +kernel
theorem dX11_segment_146 : decode cX11_segment 146 = .ok (.ireturn, 1) := by decide +kernel
theorem dX11_segment_147 : decode cX11_segment 147 = .ok (.bipush (-2), 2) := by decide +kernel
theorem dX11_segment_149 : decode cX11_segment 149 = .ok (.ireturn, 1) := by decide +kernel
theorem dX11_lettersOf_0 : decode cX11_lettersOf 0 = .ok (.iconst 0, 1) := by decide +kernel
theorem dX11_lettersOf_1 : decode cX11_lettersOf 1 = .ok (.istore_n 2, 1) := by decide +kernel
theorem dX11_lettersOf_2 : decode cX11_lettersOf 2 = .ok (.lload_n 0, 1) := by decide +kernel
theorem dX11_lettersOf_3 : decode cX11_lettersOf 3 = .ok (.lstore_n 3, 1) := by decide +kernel
theorem dX11_lettersOf_4 : decode cX11_lettersOf 4 = .ok (.lload_n 3, 1) := by decide +kernel
theorem dX11_lettersOf_5 : decode cX11_lettersOf 5 = .ok (.lconst 0, 1) := by decide +kernel
theorem dX11_lettersOf_6 : decode cX11_lettersOf 6 = .ok (.lcmp, 1) := by decide +kernel
theorem dX11_lettersOf_7 : decode cX11_lettersOf 7 = .ok (.ifCond .le 15, 3) := by decide +kernel
theorem dX11_lettersOf_10 : decode cX11_lettersOf 10 = .ok (.iinc 2 1, 3) := by decide +kernel
theorem dX11_lettersOf_13 : decode cX11_lettersOf 13 = .ok (.lload_n 3, 1) := by decide +kernel
theorem dX11_lettersOf_14 : decode cX11_lettersOf 14 = .ok (.ldc2_w 104, 3) := by decide +kernel
theorem dX11_lettersOf_17 : decode cX11_lettersOf 17 = .ok (.ldiv, 1) := by decide +kernel
theorem dX11_lettersOf_18 : decode cX11_lettersOf 18 = .ok (.lstore_n 3, 1) := by decide +kernel
theorem dX11_lettersOf_19 : decode cX11_lettersOf 19 = .ok (.goto (-15), 3) := by decide +kernel
theorem dX11_lettersOf_22 : decode cX11_lettersOf 22 = .ok (.iload_n 2, 1) := by decide +kernel
theorem dX11_lettersOf_23 : decode cX11_lettersOf 23 = .ok (.ireturn, 1) := by decide +kernel
theorem dX11_letter_0 : decode cX11_letter 0 = .ok (.lload_n 0, 1) := by decide +kernel
theorem dX11_letter_1 : decode cX11_letter 1 = .ok (.lstore_n 3, 1) := by decide +kernel
theorem dX11_letter_2 : decode cX11_letter 2 = .ok (.lload_n 0, 1) := by decide +kernel
theorem dX11_letter_3 : decode cX11_letter 3 = .ok (.invokestatic 241, 3) := by decide +kernel
theorem dX11_letter_6 : decode cX11_letter 6 = .ok (.iconst 1, 1) := by decide +kernel
theorem dX11_letter_7 : decode cX11_letter 7 = .ok (.isub, 1) := by decide +kernel
theorem dX11_letter_8 : decode cX11_letter 8 = .ok (.istore 5, 2) := by decide +kernel
theorem dX11_letter_10 : decode cX11_letter 10 = .ok (.iload 5, 2) := by decide +kernel
theorem dX11_letter_12 : decode cX11_letter 12 = .ok (.iload_n 2, 1) := by decide +kernel
theorem dX11_letter_13 : decode cX11_letter 13 = .ok (.if_icmp .le 15, 3) := by decide +kernel
theorem dX11_letter_16 : decode cX11_letter 16 = .ok (.lload_n 3, 1) := by decide +kernel
theorem dX11_letter_17 : decode cX11_letter 17 = .ok (.ldc2_w 104, 3) := by decide +kernel
theorem dX11_letter_20 : decode cX11_letter 20 = .ok (.ldiv, 1) := by decide +kernel
theorem dX11_letter_21 : decode cX11_letter 21 = .ok (.lstore_n 3, 1) := by decide +kernel
theorem dX11_letter_22 : decode cX11_letter 22 = .ok (.iinc 5 (-1), 3) := by decide +kernel
theorem dX11_letter_25 : decode cX11_letter 25 = .ok (.goto (-15), 3) := by decide +kernel
theorem dX11_letter_28 : decode cX11_letter 28 = .ok (.lload_n 3, 1) := by decide +kernel
theorem dX11_letter_29 : decode cX11_letter 29 = .ok (.ldc2_w 104, 3) := by decide +kernel
theorem dX11_letter_32 : decode cX11_letter 32 = .ok (.lrem, 1) := by decide +kernel
theorem dX11_letter_33 : decode cX11_letter 33 = .ok (.l2i, 1) := by decide +kernel
theorem dX11_letter_34 : decode cX11_letter 34 = .ok (.bipush 97, 2) := by decide +kernel
theorem dX11_letter_36 : decode cX11_letter 36 = .ok (.iadd, 1) := by decide +kernel
theorem dX11_letter_37 : decode cX11_letter 37 = .ok (.iconst 1, 1) := by decide +kernel
theorem dX11_letter_38 : decode cX11_letter 38 = .ok (.isub, 1) := by decide +kernel
theorem dX11_letter_39 : decode cX11_letter 39 = .ok (.ireturn, 1) := by decide +kernel
theorem dX11_charAt_0 : decode cX11_charAt 0 = .ok (.aload_n 0, 1) := by decide +kernel
theorem dX11_charAt_1 : decode cX11_charAt 1 = .ok (.iload_n 1, 1) := by decide +kernel
theorem dX11_charAt_2 : decode cX11_charAt 2 = .ok (.iload_n 2, 1) := by decide +kernel
theorem dX11_charAt_3 : decode cX11_charAt 3 = .ok (.invokevirtual 194, 3) := by decide +kernel
theorem dX11_charAt_6 : decode cX11_charAt 6 = .ok (.ifCond .eq 5, 3) := by decide +kernel
theorem dX11_charAt_9 : decode cX11_charAt 9 = .ok (.iconst (-1), 1) := by decide +kernel
theorem dX11_charAt_10 : decode cX11_charAt 10 = .ok (.ireturn, 1) := by decide +kernel
theorem dX11_charAt_11 : decode cX11_charAt 11 = .ok (.iload_n 3, 1) := by decide +kernel
theorem dX11_charAt_12 : decode cX11_charAt 12 = .ok (.ifCond .ge 6, 3) := by decide +kernel
theorem dX11_charAt_15 : decode cX11_charAt 15 = .ok (.bipush (-2), 2) := by decide +kernel
theorem dX11_charAt_17 : decode cX11_charAt 17 = .ok (.ireturn, 1) := by decide +kernel
theorem dX11_charAt_18 : decode cX11_charAt 18 = .ok (.aload_n 0, 1) := by decide +kernel
theorem dX11_charAt_19 : decode cX11_charAt 19 = .ok (.iload_n 1, 1) := by decide +kernel
theorem dX11_charAt_20 : decode cX11_charAt 20 = .ok (.iload_n 2, 1) := by decide +kernel
theorem dX11_charAt_21 : decode cX11_charAt 21 = .ok (.invokevirtual 142, 3) := by decide +kernel
theorem dX11_charAt_24 : decode cX11_charAt 24 = .ok (.istore 4, 2) := by decide +kernel
theorem dX11_charAt_26 : decode cX11_charAt 26 = .ok (.iload_n 3, 1) := by decide +kernel
theorem dX11_charAt_27 : decode cX11_charAt 27 = .ok (.istore 5, 2) := by decide +kernel
theorem dX11_charAt_29 : decode cX11_charAt 29 = .ok (.iconst 0, 1) := by decide +kernel
theorem dX11_charAt_30 : decode cX11_charAt 30 = .ok (.istore 6, 2) := by decide +kernel
theorem dX11_charAt_32 : decode cX11_charAt 32 = .ok (.iload 6, 2) := by decide +kernel
theorem dX11_charAt_34 : decode cX11_charAt 34 = .ok (.i2l, 1) := by decide +kernel
theorem dX11_charAt_35 : decode cX11_charAt 35 = .ok (.aload_n 0, 1) := by decide +kernel
theorem dX11_charAt_36 : decode cX11_charAt 36 = .ok (.getfield 7, 3) := by decide +kernel
theorem dX11_charAt_39 : decode cX11_charAt 39 = .ok (.iload 4, 2) := by decide +kernel
theorem dX11_charAt_41 : decode cX11_charAt 41 = .ok (.iconst 0, 1) := by decide +kernel
theorem dX11_charAt_42 : decode cX11_charAt 42 = .ok (.iadd, 1) := by decide +kernel
theorem dX11_charAt_43 : decode cX11_charAt 43 = .ok (.laload, 1) := by decide +kernel
theorem dX11_charAt_44 : decode cX11_charAt 44 = .ok (.lcmp, 1) := by decide +kernel
theorem dX11_charAt_45 : decode cX11_charAt 45 = .ok (.ifCond .ge 96, 3) := by decide +kernel
theorem dX11_charAt_48 : decode cX11_charAt 48 = .ok (.aload_n 0, 1) := by decide +kernel
theorem dX11_charAt_49 : decode cX11_charAt 49 = .ok (.getfield 7, 3) := by decide +kernel
theorem dX11_charAt_52 : decode cX11_charAt 52 = .ok (.iload 4, 2) := by decide +kernel
theorem dX11_charAt_54 : decode cX11_charAt 54 = .ok (.iconst 1, 1) := by decide +kernel
theorem dX11_charAt_55 : decode cX11_charAt 55 = .ok (.iadd, 1) := by decide +kernel
theorem dX11_charAt_56 : decode cX11_charAt 56 = .ok (.iload 6, 2) := by decide +kernel
theorem dX11_charAt_58 : decode cX11_charAt 58 = .ok (.iadd, 1) := by decide +kernel
theorem dX11_charAt_59 : decode cX11_charAt 59 = .ok (.laload, 1) := by decide +kernel
theorem dX11_charAt_60 : decode cX11_charAt 60 = .ok (.invokestatic 241, 3) := by decide +kernel
theorem dX11_charAt_63 : decode cX11_charAt 63 = .ok (.istore 7, 2) := by decide +kernel
theorem dX11_charAt_65 : decode cX11_charAt 65 = .ok (.iload 5, 2) := by decide +kernel
theorem dX11_charAt_67 : decode cX11_charAt 67 = .ok (.iload 7, 2) := by decide +kernel
theorem dX11_charAt_69 : decode cX11_charAt 69 = .ok (.if_icmp .ge 21, 3) := by decide +kernel
theorem dX11_charAt_72 : decode cX11_charAt 72 = .ok (.aload_n 0, 1) := by decide +kernel
theorem dX11_charAt_73 : decode cX11_charAt 73 = .ok (.getfield 7, 3) := by decide +kernel
theorem dX11_charAt_76 : decode cX11_charAt 76 = .ok (.iload 4, 2) := by decide +kernel
theorem dX11_charAt_78 : decode cX11_charAt 78 = .ok (.iconst 1, 1) := by decide +kernel
theorem dX11_charAt_79 : decode cX11_charAt 79 = .ok (.iadd, 1) := by decide +kernel
theorem dX11_charAt_80 : decode cX11_charAt 80 = .ok (.iload 6, 2) := by decide +kernel
theorem dX11_charAt_82 : decode cX11_charAt 82 = .ok (.iadd, 1) := by decide +kernel
theorem dX11_charAt_83 : decode cX11_charAt 83 = .ok (.laload, 1) := by decide +kernel
theorem dX11_charAt_84 : decode cX11_charAt 84 = .ok (.iload 5, 2) := by decide +kernel
theorem dX11_charAt_86 : decode cX11_charAt 86 = .ok (.invokestatic 245, 3) := by decide +kernel
theorem dX11_charAt_89 : decode cX11_charAt 89 = .ok (.ireturn, 1) := by decide +kernel
theorem dX11_charAt_90 : decode cX11_charAt 90 = .ok (.iload 5, 2) := by decide +kernel
theorem dX11_charAt_92 : decode cX11_charAt 92 = .ok (.iload 7, 2) := by decide +kernel
theorem dX11_charAt_94 : decode cX11_charAt 94 = .ok (.if_icmp .ne 24, 3) := by decide +kernel
theorem dX11_charAt_97 : decode cX11_charAt 97 = .ok (.iload 6, 2) := by decide +kernel
theorem dX11_charAt_99 : decode cX11_charAt 99 = .ok (.iconst 1, 1) := by decide +kernel
theorem dX11_charAt_100 : decode cX11_charAt 100 = .ok (.iadd, 1) := by decide +kernel
theorem dX11_charAt_101 : decode cX11_charAt 101 = .ok (.i2l, 1) := by decide +kernel
theorem dX11_charAt_102 : decode cX11_charAt 102 = .ok (.aload_n 0, 1) := by decide +kernel
theorem dX11_charAt_103 : decode cX11_charAt 103 = .ok (.getfield 7, 3) := by decide +kernel
theorem dX11_charAt_106 : decode cX11_charAt 106 = .ok (.iload 4, 2) := by decide +kernel
theorem dX11_charAt_108 : decode cX11_charAt 108 = .ok (.iconst 0, 1) := by decide +kernel
theorem dX11_charAt_109 : decode cX11_charAt 109 = .ok (.iadd, 1) := by decide +kernel
theorem dX11_charAt_110 : decode cX11_charAt 110 = .ok (.laload, 1) := by decide +kernel
theorem dX11_charAt_111 : decode cX11_charAt 111 = .ok (.lcmp, 1) := by decide +kernel
theorem dX11_charAt_112 : decode cX11_charAt 112 = .ok (.ifCond .ge 6, 3) := by decide +kernel
theorem dX11_charAt_115 : decode cX11_charAt 115 = .ok (.bipush 32, 2) := by decide +kernel
theorem dX11_charAt_117 : decode cX11_charAt 117 = .ok (.ireturn, 1) := by decide +kernel
theorem dX11_charAt_118 : decode cX11_charAt 118 = .ok (.iload 5, 2) := by decide +kernel
theorem dX11_charAt_120 : decode cX11_charAt 120 = .ok (.iload 7, 2) := by decide +kernel
theorem dX11_charAt_122 : decode cX11_charAt 122 = .ok (.iconst 1, 1) := by decide +kernel
theorem dX11_charAt_123 : decode cX11_charAt 123 = .ok (.iadd, 1) := by decide +kernel
theorem dX11_charAt_124 : decode cX11_charAt 124 = .ok (.isub, 1) := by decide +kernel
theorem dX11_charAt_125 : decode cX11_charAt 125 = .ok (.istore 5, 2) := by decide +kernel
theorem dX11_charAt_127 : decode cX11_charAt 127 = .ok (.iload 5, 2) := by decide +kernel
theorem dX11_charAt_129 : decode cX11_charAt 129 = .ok (.ifCond .ge 6, 3) := by decide +kernel
theorem dX11_charAt_132 : decode cX11_charAt 132 = .ok (.bipush (-5), 2) := by decide +kernel
theorem dX11_charAt_134 : decode cX11_charAt 134 = .ok (.ireturn, 1) := by decide +kernel
theorem dX11_charAt_135 : decode cX11_charAt 135 = .ok (.iinc 6 1, 3) := by decide +kernel
theorem dX11_charAt_138 : decode cX11_charAt 138 = .ok (.goto (-106), 3) := by decide +kernel
theorem dX11_charAt_141 : decode cX11_charAt 141 = .ok (.bipush (-5), 2) := by decide +kernel
theorem dX11_charAt_143 : decode cX11_charAt 143 = .ok (.ireturn, 1) := by decide +kernel
theorem dX11_distance_0 : decode cX11_distance 0 = .ok (.aload_n 0, 1) := by decide +kernel
theorem dX11_distance_1 : decode cX11_distance 1 = .ok (.iload_n 1, 1) := by decide +kernel
theorem dX11_distance_2 : decode cX11_distance 2 = .ok (.iload_n 2, 1) := by decide +kernel
theorem dX11_distance_3 : decode cX11_distance 3 = .ok (.invokevirtual 194, 3) := by decide +kernel
theorem dX11_distance_6 : decode cX11_distance 6 = .ok (.ifCond .ne 11, 3) := by decide +kernel
theorem dX11_distance_9 : decode cX11_distance 9 = .ok (.aload_n 0, 1) := by decide +kernel
theorem dX11_distance_10 : decode cX11_distance 10 = .ok (.iload_n 3, 1) := by decide +kernel
theorem dX11_distance_11 : decode cX11_distance 11 = .ok (.invokevirtual 249, 3) := by decide +kernel
theorem dX11_distance_14 : decode cX11_distance 14 = .ok (.ifCond .eq 7, 3) := by decide +kernel
theorem dX11_distance_17 : decode cX11_distance 17 = .ok (.iconst (-1), 1) := by decide +kernel
theorem dX11_distance_18 : decode cX11_distance 18 = .ok (.goto 18, 3) := by decide +kernel
theorem dX11_distance_21 : decode cX11_distance 21 = .ok (.aload_n 0, 1) := by decide +kernel
theorem dX11_distance_22 : decode cX11_distance 22 = .ok (.aload_n 0, 1) := by decide +kernel
theorem dX11_distance_23 : decode cX11_distance 23 = .ok (.iload_n 1, 1) := by decide +kernel
theorem dX11_distance_24 : decode cX11_distance 24 = .ok (.iload_n 2, 1) := by decide +kernel
theorem dX11_distance_25 : decode cX11_distance 25 = .ok (.invokevirtual 142, 3) := by decide +kernel
theorem dX11_distance_28 : decode cX11_distance 28 = .ok (.aload_n 0, 1) := by decide +kernel
theorem dX11_distance_29 : decode cX11_distance 29 = .ok (.iload_n 3, 1) := by decide +kernel
theorem dX11_distance_30 : decode cX11_distance 30 = .ok (.invokevirtual 116, 3) := by decide +kernel
theorem dX11_distance_33 : decode cX11_distance 33 = .ok (.invokevirtual 126, 3) := by decide +kernel
theorem dX11_distance_36 : decode cX11_distance 36 = .ok (.ireturn, 1) := by decide +kernel
theorem dX11_wordsIn_0 : decode cX11_wordsIn 0 = .ok (.aload_n 0, 1) := by decide +kernel
theorem dX11_wordsIn_1 : decode cX11_wordsIn 1 = .ok (.iload_n 1, 1) := by decide +kernel
theorem dX11_wordsIn_2 : decode cX11_wordsIn 2 = .ok (.invokevirtual 70, 3) := by decide +kernel
theorem dX11_wordsIn_5 : decode cX11_wordsIn 5 = .ok (.ifCond .eq 5, 3) := by decide +kernel
theorem dX11_wordsIn_8 : decode cX11_wordsIn 8 = .ok (.iconst (-1), 1) := by decide +kernel
theorem dX11_wordsIn_9 : decode cX11_wordsIn 9 = .ok (.ireturn, 1) := by decide +kernel
theorem dX11_wordsIn_10 : decode cX11_wordsIn 10 = .ok (.iload_n 2, 1) := by decide +kernel
theorem dX11_wordsIn_11 : decode cX11_wordsIn 11 = .ok (.iconst 0, 1) := by decide +kernel
theorem dX11_wordsIn_12 : decode cX11_wordsIn 12 = .ok (.iconst 5, 1) := by decide +kernel
theorem dX11_wordsIn_13 : decode cX11_wordsIn 13 = .ok (.invokestatic 60, 3) := by decide +kernel
theorem dX11_wordsIn_16 : decode cX11_wordsIn 16 = .ok (.ifCond .ne 6, 3) := by decide +kernel
theorem dX11_wordsIn_19 : decode cX11_wordsIn 19 = .ok (.bipush (-2), 2) := by decide +kernel
theorem dX11_wordsIn_21 : decode cX11_wordsIn 21 = .ok (.ireturn, 1) := by decide +kernel
theorem dX11_wordsIn_22 : decode cX11_wordsIn 22 = .ok (.aload_n 0, 1) := by decide +kernel
theorem dX11_wordsIn_23 : decode cX11_wordsIn 23 = .ok (.iload_n 1, 1) := by decide +kernel
theorem dX11_wordsIn_24 : decode cX11_wordsIn 24 = .ok (.invokevirtual 139, 3) := by decide +kernel
theorem dX11_wordsIn_27 : decode cX11_wordsIn 27 = .ok (.ifCond .eq 12, 3) := by decide +kernel
theorem dX11_wordsIn_30 : decode cX11_wordsIn 30 = .ok (.aload_n 0, 1) := by decide +kernel
theorem dX11_wordsIn_31 : decode cX11_wordsIn 31 = .ok (.iload_n 1, 1) := by decide +kernel
theorem dX11_wordsIn_32 : decode cX11_wordsIn 32 = .ok (.iload_n 2, 1) := by decide +kernel
theorem dX11_wordsIn_33 : decode cX11_wordsIn 33 = .ok (.invokevirtual 154, 3) := by decide +kernel
theorem dX11_wordsIn_36 : decode cX11_wordsIn 36 = .ok (.goto 5, 3) := by decide +kernel
theorem dX11_wordsIn_39 : decode cX11_wordsIn 39 = .ok (.bipush (-5), 2) := by decide +kernel
theorem dX11_wordsIn_41 : decode cX11_wordsIn 41 = .ok (.ireturn, 1) := by decide +kernel
theorem dX11_allWords_0 : decode cX11_allWords 0 = .ok (.iload_n 1, 1) := by decide +kernel
theorem dX11_allWords_1 : decode cX11_allWords 1 = .ok (.iconst 0, 1) := by decide +kernel
theorem dX11_allWords_2 : decode cX11_allWords 2 = .ok (.iconst 5, 1) := by decide +kernel
theorem dX11_allWords_3 : decode cX11_allWords 3 = .ok (.invokestatic 60, 3) := by decide +kernel
theorem dX11_allWords_6 : decode cX11_allWords 6 = .ok (.ifCond .ne 6, 3) := by decide +kernel
theorem dX11_allWords_9 : decode cX11_allWords 9 = .ok (.bipush (-2), 2) := by decide +kernel
theorem dX11_allWords_11 : decode cX11_allWords 11 = .ok (.ireturn, 1) := by decide +kernel
theorem dX11_allWords_12 : decode cX11_allWords 12 = .ok (.iconst 0, 1) := by decide +kernel
theorem dX11_allWords_13 : decode cX11_allWords 13 = .ok (.istore_n 2, 1) := by decide +kernel
theorem dX11_allWords_14 : decode cX11_allWords 14 = .ok (.iconst 0, 1) := by decide +kernel
theorem dX11_allWords_15 : decode cX11_allWords 15 = .ok (.istore_n 3, 1) := by decide +kernel
theorem dX11_allWords_16 : decode cX11_allWords 16 = .ok (.iload_n 3, 1) := by decide +kernel
theorem dX11_allWords_17 : decode cX11_allWords 17 = .ok (.i2l, 1) := by decide +kernel
theorem dX11_allWords_18 : decode cX11_allWords 18 = .ok (.aload_n 0, 1) := by decide +kernel
theorem dX11_allWords_19 : decode cX11_allWords 19 = .ok (.getfield 7, 3) := by decide +kernel
theorem dX11_allWords_22 : decode cX11_allWords 22 = .ok (.iconst 0, 1) := by decide +kernel
theorem dX11_allWords_23 : decode cX11_allWords 23 = .ok (.laload, 1) := by decide +kernel
theorem dX11_allWords_24 : decode cX11_allWords 24 = .ok (.lcmp, 1) := by decide +kernel
theorem dX11_allWords_25 : decode cX11_allWords 25 = .ok (.ifCond .ge 30, 3) := by decide +kernel
theorem dX11_allWords_28 : decode cX11_allWords 28 = .ok (.iload_n 2, 1) := by decide +kernel
theorem dX11_allWords_29 : decode cX11_allWords 29 = .ok (.aload_n 0, 1) := by decide +kernel
theorem dX11_allWords_30 : decode cX11_allWords 30 = .ok (.iload_n 3, 1) := by decide +kernel
theorem dX11_allWords_31 : decode cX11_allWords 31 = .ok (.invokevirtual 139, 3) := by decide +kernel
theorem dX11_allWords_34 : decode cX11_allWords 34 = .ok (.ifCond .eq 12, 3) := by decide +kernel
theorem dX11_allWords_37 : decode cX11_allWords 37 = .ok (.aload_n 0, 1) := by decide +kernel
theorem dX11_allWords_38 : decode cX11_allWords 38 = .ok (.iload_n 3, 1) := by decide +kernel
theorem dX11_allWords_39 : decode cX11_allWords 39 = .ok (.iload_n 1, 1) := by decide +kernel
theorem dX11_allWords_40 : decode cX11_allWords 40 = .ok (.invokevirtual 154, 3) := by decide +kernel
theorem dX11_allWords_43 : decode cX11_allWords 43 = .ok (.goto 4, 3) := by decide +kernel
theorem dX11_allWords_46 : decode cX11_allWords 46 = .ok (.iconst 0, 1) := by decide +kernel
theorem dX11_allWords_47 : decode cX11_allWords 47 = .ok (.iadd, 1) := by decide +kernel
theorem dX11_allWords_48 : decode cX11_allWords 48 = .ok (.istore_n 2, 1) := by decide +kernel
theorem dX11_allWords_49 : decode cX11_allWords 49 = .ok (.iinc 3 1, 3) := by decide +kernel
theorem dX11_allWords_52 : decode cX11_allWords 52 = .ok (.goto (-36), 3) := by decide +kernel
theorem dX11_allWords_55 : decode cX11_allWords 55 = .ok (.iload_n 2, 1) := by decide +kernel
theorem dX11_allWords_56 : decode cX11_allWords 56 = .ok (.ireturn, 1) := by decide +kernel
theorem dX11_price_0 : decode cX11_price 0 = .ok (.aload_n 0, 1) := by decide +kernel
theorem dX11_price_1 : decode cX11_price 1 = .ok (.iload_n 1, 1) := by decide +kernel
theorem dX11_price_2 : decode cX11_price 2 = .ok (.invokevirtual 70, 3) := by decide +kernel
theorem dX11_price_5 : decode cX11_price 5 = .ok (.ifCond .ne 11, 3) := by decide +kernel
theorem dX11_price_8 : decode cX11_price 8 = .ok (.aload_n 0, 1) := by decide +kernel
theorem dX11_price_9 : decode cX11_price 9 = .ok (.iload_n 2, 1) := by decide +kernel
theorem dX11_price_10 : decode cX11_price 10 = .ok (.invokevirtual 84, 3) := by decide +kernel
theorem dX11_price_13 : decode cX11_price 13 = .ok (.ifCond .eq 5, 3) := by decide +kernel
theorem dX11_price_16 : decode cX11_price 16 = .ok (.iconst (-1), 1) := by decide +kernel
theorem dX11_price_17 : decode cX11_price 17 = .ok (.ireturn, 1) := by decide +kernel
theorem dX11_price_18 : decode cX11_price 18 = .ok (.aload_n 0, 1) := by decide +kernel
theorem dX11_price_19 : decode cX11_price 19 = .ok (.iload_n 1, 1) := by decide +kernel
theorem dX11_price_20 : decode cX11_price 20 = .ok (.invokevirtual 139, 3) := by decide +kernel
theorem dX11_price_23 : decode cX11_price 23 = .ok (.ifCond .eq 12, 3) := by decide +kernel
theorem dX11_price_26 : decode cX11_price 26 = .ok (.aload_n 0, 1) := by decide +kernel
theorem dX11_price_27 : decode cX11_price 27 = .ok (.iload_n 1, 1) := by decide +kernel
theorem dX11_price_28 : decode cX11_price 28 = .ok (.iload_n 2, 1) := by decide +kernel
theorem dX11_price_29 : decode cX11_price 29 = .ok (.invokevirtual 181, 3) := by decide +kernel
theorem dX11_price_32 : decode cX11_price 32 = .ok (.goto 5, 3) := by decide +kernel
theorem dX11_price_35 : decode cX11_price 35 = .ok (.bipush (-5), 2) := by decide +kernel
theorem dX11_price_37 : decode cX11_price 37 = .ok (.ireturn, 1) := by decide +kernel
theorem dX11_firstReviewer_0 : decode cX11_firstReviewer 0 = .ok (.aload_n 0, 1) := by decide +kernel
theorem dX11_firstReviewer_1 : decode cX11_firstReviewer 1 = .ok (.iload_n 1, 1) := by decide +kernel
theorem dX11_firstReviewer_2 : decode cX11_firstReviewer 2 = .ok (.invokevirtual 70, 3) := by decide +kernel
theorem dX11_firstReviewer_5 : decode cX11_firstReviewer 5 = .ok (.ifCond .eq 5, 3) := by decide +kernel
theorem dX11_firstReviewer_8 : decode cX11_firstReviewer 8 = .ok (.iconst (-1), 1) := by decide +kernel
theorem dX11_firstReviewer_9 : decode cX11_firstReviewer 9 = .ok (.ireturn, 1) := by decide +kernel
theorem dX11_firstReviewer_10 : decode cX11_firstReviewer 10 = .ok (.iconst 0, 1) := by decide +kernel
theorem dX11_firstReviewer_11 : decode cX11_firstReviewer 11 = .ok (.istore_n 2, 1) := by decide +kernel
theorem dX11_firstReviewer_12 : decode cX11_firstReviewer 12 = .ok (.iload_n 2, 1) := by decide +kernel
theorem dX11_firstReviewer_13 : decode cX11_firstReviewer 13 = .ok (.i2l, 1) := by decide +kernel
theorem dX11_firstReviewer_14 : decode cX11_firstReviewer 14 = .ok (.aload_n 0, 1) := by decide +kernel
theorem dX11_firstReviewer_15 : decode cX11_firstReviewer 15 = .ok (.getfield 7, 3) := by decide +kernel
theorem dX11_firstReviewer_18 : decode cX11_firstReviewer 18 = .ok (.iconst 1, 1) := by decide +kernel
theorem dX11_firstReviewer_19 : decode cX11_firstReviewer 19 = .ok (.laload, 1) := by decide +kernel
theorem dX11_firstReviewer_20 : decode cX11_firstReviewer 20 = .ok (.lcmp, 1) := by decide +kernel
theorem dX11_firstReviewer_21 : decode cX11_firstReviewer 21 = .ok (.ifCond .ge 29, 3) := by decide +kernel
theorem dX11_firstReviewer_24 : decode cX11_firstReviewer 24 = .ok (.aload_n 0, 1) := by decide +kernel
theorem dX11_firstReviewer_25 : decode cX11_firstReviewer 25 = .ok (.iload_n 1, 1) := by decide +kernel
theorem dX11_firstReviewer_26 : decode cX11_firstReviewer 26 = .ok (.invokevirtual 67, 3) := by decide +kernel
theorem dX11_firstReviewer_29 : decode cX11_firstReviewer 29 = .ok (.iconst 1, 1) := by decide +kernel
theorem dX11_firstReviewer_30 : decode cX11_firstReviewer 30 = .ok (.if_icmp .ne 20, 3) := by decide +kernel
theorem dX11_firstReviewer_33 : decode cX11_firstReviewer 33 = .ok (.aload_n 0, 1) := by decide +kernel
theorem dX11_firstReviewer_34 : decode cX11_firstReviewer 34 = .ok (.iload_n 1, 1) := by decide +kernel
theorem dX11_firstReviewer_35 : decode cX11_firstReviewer 35 = .ok (.iload_n 2, 1) := by decide +kernel
theorem dX11_firstReviewer_36 : decode cX11_firstReviewer 36 = .ok (.invokevirtual 212, 3) := by decide +kernel
theorem dX11_firstReviewer_39 : decode cX11_firstReviewer 39 = .ok (.ifCond .eq 5, 3) := by decide +kernel
theorem dX11_firstReviewer_42 : decode cX11_firstReviewer 42 = .ok (.iload_n 2, 1) := by decide +kernel
theorem dX11_firstReviewer_43 : decode cX11_firstReviewer 43 = .ok (.ireturn, 1) := by decide +kernel
theorem dX11_firstReviewer_44 : decode cX11_firstReviewer 44 = .ok (.iinc 2 1, 3) := by decide +kernel
theorem dX11_firstReviewer_47 : decode cX11_firstReviewer 47 = .ok (.goto (-35), 3) := by decide +kernel
theorem dX11_firstReviewer_50 : decode cX11_firstReviewer 50 = .ok (.bipush (-5), 2) := by decide +kernel
theorem dX11_firstReviewer_52 : decode cX11_firstReviewer 52 = .ok (.ireturn, 1) := by decide +kernel
theorem dX11_likeEntry_0 : decode cX11_likeEntry 0 = .ok (.iconst 0, 1) := by decide +kernel
theorem dX11_likeEntry_1 : decode cX11_likeEntry 1 = .ok (.istore_n 2, 1) := by decide +kernel
theorem dX11_likeEntry_2 : decode cX11_likeEntry 2 = .ok (.iconst 0, 1) := by decide +kernel
theorem dX11_likeEntry_3 : decode cX11_likeEntry 3 = .ok (.istore_n 3, 1) := by decide +kernel
theorem dX11_likeEntry_4 : decode cX11_likeEntry 4 = .ok (.iload_n 3, 1) := by decide +kernel
theorem dX11_likeEntry_5 : decode cX11_likeEntry 5 = .ok (.i2l, 1) := by decide +kernel
theorem dX11_likeEntry_6 : decode cX11_likeEntry 6 = .ok (.aload_n 0, 1) := by decide +kernel
theorem dX11_likeEntry_7 : decode cX11_likeEntry 7 = .ok (.getfield 7, 3) := by decide +kernel
theorem dX11_likeEntry_10 : decode cX11_likeEntry 10 = .ok (.iconst 0, 1) := by decide +kernel
theorem dX11_likeEntry_11 : decode cX11_likeEntry 11 = .ok (.laload, 1) := by decide +kernel
theorem dX11_likeEntry_12 : decode cX11_likeEntry 12 = .ok (.lcmp, 1) := by decide +kernel
theorem dX11_likeEntry_13 : decode cX11_likeEntry 13 = .ok (.ifCond .ge 63, 3) := by decide +kernel
theorem dX11_likeEntry_16 : decode cX11_likeEntry 16 = .ok (.iconst 0, 1) := by decide +kernel
theorem dX11_likeEntry_17 : decode cX11_likeEntry 17 = .ok (.istore 4, 2) := by decide +kernel
theorem dX11_likeEntry_19 : decode cX11_likeEntry 19 = .ok (.iload 4, 2) := by decide +kernel
theorem dX11_likeEntry_21 : decode cX11_likeEntry 21 = .ok (.aload_n 0, 1) := by decide +kernel
theorem dX11_likeEntry_22 : decode cX11_likeEntry 22 = .ok (.iload_n 3, 1) := by decide +kernel
theorem dX11_likeEntry_23 : decode cX11_likeEntry 23 = .ok (.invokevirtual 74, 3) := by decide +kernel
theorem dX11_likeEntry_26 : decode cX11_likeEntry 26 = .ok (.if_icmp .ge 44, 3) := by decide +kernel
theorem dX11_likeEntry_29 : decode cX11_likeEntry 29 = .ok (.aload_n 0, 1) := by decide +kernel
theorem dX11_likeEntry_30 : decode cX11_likeEntry 30 = .ok (.iload_n 3, 1) := by decide +kernel
theorem dX11_likeEntry_31 : decode cX11_likeEntry 31 = .ok (.invokevirtual 139, 3) := by decide +kernel
theorem dX11_likeEntry_34 : decode cX11_likeEntry 34 = .ok (.ifCond .eq 36, 3) := by decide +kernel
theorem dX11_likeEntry_37 : decode cX11_likeEntry 37 = .ok (.iload_n 2, 1) := by decide +kernel
theorem dX11_likeEntry_38 : decode cX11_likeEntry 38 = .ok (.aload_n 0, 1) := by decide +kernel
theorem dX11_likeEntry_39 : decode cX11_likeEntry 39 = .ok (.aload_n 0, 1) := by decide +kernel
theorem dX11_likeEntry_40 : decode cX11_likeEntry 40 = .ok (.iload_n 3, 1) := by decide +kernel
theorem dX11_likeEntry_41 : decode cX11_likeEntry 41 = .ok (.iload 4, 2) := by decide +kernel
theorem dX11_likeEntry_43 : decode cX11_likeEntry 43 = .ok (.invokevirtual 142, 3) := by decide +kernel
theorem dX11_likeEntry_46 : decode cX11_likeEntry 46 = .ok (.aload_n 0, 1) := by decide +kernel
theorem dX11_likeEntry_47 : decode cX11_likeEntry 47 = .ok (.iload_n 1, 1) := by decide +kernel
theorem dX11_likeEntry_48 : decode cX11_likeEntry 48 = .ok (.invokevirtual 116, 3) := by decide +kernel
theorem dX11_likeEntry_51 : decode cX11_likeEntry 51 = .ok (.invokevirtual 119, 3) := by decide +kernel
theorem dX11_likeEntry_54 : decode cX11_likeEntry 54 = .ok (.ifCond .eq 7, 3) := by decide +kernel
theorem dX11_likeEntry_57 : decode cX11_likeEntry 57 = .ok (.iconst 1, 1) := by decide +kernel
theorem dX11_likeEntry_58 : decode cX11_likeEntry 58 = .ok (.goto 4, 3) := by decide +kernel
theorem dX11_likeEntry_61 : decode cX11_likeEntry 61 = .ok (.iconst 0, 1) := by decide +kernel
theorem dX11_likeEntry_62 : decode cX11_likeEntry 62 = .ok (.iadd, 1) := by decide +kernel
theorem dX11_likeEntry_63 : decode cX11_likeEntry 63 = .ok (.istore_n 2, 1) := by decide +kernel
theorem dX11_likeEntry_64 : decode cX11_likeEntry 64 = .ok (.iinc 4 1, 3) := by decide +kernel
theorem dX11_likeEntry_67 : decode cX11_likeEntry 67 = .ok (.goto (-48), 3) := by decide +kernel
theorem dX11_likeEntry_70 : decode cX11_likeEntry 70 = .ok (.iinc 3 1, 3) := by decide +kernel
theorem dX11_likeEntry_73 : decode cX11_likeEntry 73 = .ok (.goto (-69), 3) := by decide +kernel
theorem dX11_likeEntry_76 : decode cX11_likeEntry 76 = .ok (.iload_n 2, 1) := by decide +kernel
theorem dX11_likeEntry_77 : decode cX11_likeEntry 77 = .ok (.ireturn, 1) := by decide +kernel
theorem dX11_entry_0 : decode cX11_entry 0 = .ok (.aload_n 0, 1) := by decide +kernel
theorem dX11_entry_1 : decode cX11_entry 1 = .ok (.iload_n 1, 1) := by decide +kernel
theorem dX11_entry_2 : decode cX11_entry 2 = .ok (.invokevirtual 249, 3) := by decide +kernel
theorem dX11_entry_5 : decode cX11_entry 5 = .ok (.ifCond .eq 5, 3) := by decide +kernel
theorem dX11_entry_8 : decode cX11_entry 8 = .ok (.iconst (-1), 1) := by decide +kernel
theorem dX11_entry_9 : decode cX11_entry 9 = .ok (.ireturn, 1) := by decide +kernel
theorem dX11_entry_10 : decode cX11_entry 10 = .ok (.aload_n 0, 1) := by decide +kernel
theorem dX11_entry_11 : decode cX11_entry 11 = .ok (.iload_n 1, 1) := by decide +kernel
theorem dX11_entry_12 : decode cX11_entry 12 = .ok (.invokevirtual 116, 3) := by decide +kernel
theorem dX11_entry_15 : decode cX11_entry 15 = .ok (.istore_n 3, 1) := by decide +kernel
theorem dX11_entry_16 : decode cX11_entry 16 = .ok (.iload_n 2, 1) := by decide +kernel
theorem dX11_entry_17 : decode cX11_entry 17 = .ok (.tableswitch 73 0 4 #[35, 43, 52, 61, 67], 35) := by decide +kernel
theorem dX11_entry_52 : decode cX11_entry 52 = .ok (.aload_n 0, 1) := by decide +kernel
theorem dX11_entry_53 : decode cX11_entry 53 = .ok (.iload_n 3, 1) := by decide +kernel
theorem dX11_entry_54 : decode cX11_entry 54 = .ok (.iconst 0, 1) := by decide +kernel
theorem dX11_entry_55 : decode cX11_entry 55 = .ok (.iadd, 1) := by decide +kernel
theorem dX11_entry_56 : decode cX11_entry 56 = .ok (.invokevirtual 53, 3) := by decide +kernel
theorem dX11_entry_59 : decode cX11_entry 59 = .ok (.ireturn, 1) := by decide +kernel
theorem dX11_entry_60 : decode cX11_entry 60 = .ok (.aload_n 0, 1) := by decide +kernel
theorem dX11_entry_61 : decode cX11_entry 61 = .ok (.iload_n 3, 1) := by decide +kernel
theorem dX11_entry_62 : decode cX11_entry 62 = .ok (.bipush 9, 2) := by decide +kernel
theorem dX11_entry_64 : decode cX11_entry 64 = .ok (.iadd, 1) := by decide +kernel
theorem dX11_entry_65 : decode cX11_entry 65 = .ok (.invokevirtual 53, 3) := by decide +kernel
theorem dX11_entry_68 : decode cX11_entry 68 = .ok (.ireturn, 1) := by decide +kernel
theorem dX11_entry_69 : decode cX11_entry 69 = .ok (.aload_n 0, 1) := by decide +kernel
theorem dX11_entry_70 : decode cX11_entry 70 = .ok (.iload_n 3, 1) := by decide +kernel
theorem dX11_entry_71 : decode cX11_entry 71 = .ok (.bipush 10, 2) := by decide +kernel
theorem dX11_entry_73 : decode cX11_entry 73 = .ok (.iadd, 1) := by decide +kernel
theorem dX11_entry_74 : decode cX11_entry 74 = .ok (.invokevirtual 53, 3) := by decide +kernel
theorem dX11_entry_77 : decode cX11_entry 77 = .ok (.ireturn, 1) := by decide +kernel
theorem dX11_entry_78 : decode cX11_entry 78 = .ok (.aload_n 0, 1) := by decide +kernel
theorem dX11_entry_79 : decode cX11_entry 79 = .ok (.iload_n 1, 1) := by decide +kernel
theorem dX11_entry_80 : decode cX11_entry 80 = .ok (.invokevirtual 200, 3) := by decide +kernel
theorem dX11_entry_83 : decode cX11_entry 83 = .ok (.ireturn, 1) := by decide +kernel
theorem dX11_entry_84 : decode cX11_entry 84 = .ok (.aload_n 0, 1) := by decide +kernel
theorem dX11_entry_85 : decode cX11_entry 85 = .ok (.iload_n 1, 1) := by decide +kernel
theorem dX11_entry_86 : decode cX11_entry 86 = .ok (.invokevirtual 252, 3) := by decide +kernel
theorem dX11_entry_89 : decode cX11_entry 89 = .ok (.ireturn, 1) := by decide +kernel
theorem dX11_entry_90 : decode cX11_entry 90 = .ok (.bipush (-2), 2) := by decide +kernel
theorem dX11_entry_92 : decode cX11_entry 92 = .ok (.ireturn, 1) := by decide +kernel
theorem dX11_dispute_0 : decode cX11_dispute 0 = .ok (.aload_n 0, 1) := by decide +kernel
theorem dX11_dispute_1 : decode cX11_dispute 1 = .ok (.iload_n 1, 1) := by decide +kernel
theorem dX11_dispute_2 : decode cX11_dispute 2 = .ok (.invokevirtual 228, 3) := by decide +kernel
theorem dX11_dispute_5 : decode cX11_dispute 5 = .ok (.ifCond .eq 5, 3) := by decide +kernel
theorem dX11_dispute_8 : decode cX11_dispute 8 = .ok (.iconst (-1), 1) := by decide +kernel
theorem dX11_dispute_9 : decode cX11_dispute 9 = .ok (.ireturn, 1) := by decide +kernel
theorem dX11_dispute_10 : decode cX11_dispute 10 = .ok (.iload_n 2, 1) := by decide +kernel
theorem dX11_dispute_11 : decode cX11_dispute 11 = .ok (.iconst 0, 1) := by decide +kernel
theorem dX11_dispute_12 : decode cX11_dispute 12 = .ok (.iconst 4, 1) := by decide +kernel
theorem dX11_dispute_13 : decode cX11_dispute 13 = .ok (.invokestatic 60, 3) := by decide +kernel
theorem dX11_dispute_16 : decode cX11_dispute 16 = .ok (.ifCond .eq 17, 3) := by decide +kernel
theorem dX11_dispute_19 : decode cX11_dispute 19 = .ok (.aload_n 0, 1) := by decide +kernel
theorem dX11_dispute_20 : decode cX11_dispute 20 = .ok (.aload_n 0, 1) := by decide +kernel
theorem dX11_dispute_21 : decode cX11_dispute 21 = .ok (.iload_n 1, 1) := by decide +kernel
theorem dX11_dispute_22 : decode cX11_dispute 22 = .ok (.invokevirtual 191, 3) := by decide +kernel
theorem dX11_dispute_25 : decode cX11_dispute 25 = .ok (.iload_n 2, 1) := by decide +kernel
theorem dX11_dispute_26 : decode cX11_dispute 26 = .ok (.iadd, 1) := by decide +kernel
theorem dX11_dispute_27 : decode cX11_dispute 27 = .ok (.invokevirtual 53, 3) := by decide +kernel
theorem dX11_dispute_30 : decode cX11_dispute 30 = .ok (.goto 5, 3) := by decide +kernel
theorem dX11_dispute_33 : decode cX11_dispute 33 = .ok (.bipush (-2), 2) := by decide +kernel
theorem dX11_dispute_35 : decode cX11_dispute 35 = .ok (.ireturn, 1) := by decide +kernel
theorem dX11_fileAt_0 : decode cX11_fileAt 0 = .ok (.iload_n 1, 1) := by decide +kernel
theorem dX11_fileAt_1 : decode cX11_fileAt 1 = .ok (.ifCond .ge 6, 3) := by decide +kernel
theorem dX11_fileAt_4 : decode cX11_fileAt 4 = .ok (.bipush (-2), 2) := by decide +kernel
theorem dX11_fileAt_6 : decode cX11_fileAt 6 = .ok (.ireturn, 1) := by decide +kernel
theorem dX11_fileAt_7 : decode cX11_fileAt 7 = .ok (.iload_n 1, 1) := by decide +kernel
theorem dX11_fileAt_8 : decode cX11_fileAt 8 = .ok (.i2l, 1) := by decide +kernel
theorem dX11_fileAt_9 : decode cX11_fileAt 9 = .ok (.aload_n 0, 1) := by decide +kernel
theorem dX11_fileAt_10 : decode cX11_fileAt 10 = .ok (.getfield 7, 3) := by decide +kernel
theorem dX11_fileAt_13 : decode cX11_fileAt 13 = .ok (.iconst 0, 1) := by decide +kernel
theorem dX11_fileAt_14 : decode cX11_fileAt 14 = .ok (.laload, 1) := by decide +kernel
theorem dX11_fileAt_15 : decode cX11_fileAt 15 = .ok (.lcmp, 1) := by decide +kernel
theorem dX11_fileAt_16 : decode cX11_fileAt 16 = .ok (.ifCond .ge 11, 3) := by decide +kernel
theorem dX11_fileAt_19 : decode cX11_fileAt 19 = .ok (.aload_n 0, 1) := by decide +kernel
theorem dX11_fileAt_20 : decode cX11_fileAt 20 = .ok (.iload_n 1, 1) := by decide +kernel
theorem dX11_fileAt_21 : decode cX11_fileAt 21 = .ok (.invokevirtual 133, 3) := by decide +kernel
theorem dX11_fileAt_24 : decode cX11_fileAt 24 = .ok (.goto 5, 3) := by decide +kernel
theorem dX11_fileAt_27 : decode cX11_fileAt 27 = .ok (.bipush (-5), 2) := by decide +kernel
theorem dX11_fileAt_29 : decode cX11_fileAt 29 = .ok (.ireturn, 1) := by decide +kernel
theorem dX11_openDisputes_0 : decode cX11_openDisputes 0 = .ok (.iconst 0, 1) := by decide +kernel
theorem dX11_openDisputes_1 : decode cX11_openDisputes 1 = .ok (.istore_n 1, 1) := by decide +kernel
theorem dX11_openDisputes_2 : decode cX11_openDisputes 2 = .ok (.iconst 0, 1) := by decide +kernel
theorem dX11_openDisputes_3 : decode cX11_openDisputes 3 = .ok (.istore_n 2, 1) := by decide +kernel
theorem dX11_openDisputes_4 : decode cX11_openDisputes 4 = .ok (.iload_n 2, 1) := by decide +kernel
theorem dX11_openDisputes_5 : decode cX11_openDisputes 5 = .ok (.i2l, 1) := by decide +kernel
theorem dX11_openDisputes_6 : decode cX11_openDisputes 6 = .ok (.aload_n 0, 1) := by decide +kernel
theorem dX11_openDisputes_7 : decode cX11_openDisputes 7 = .ok (.getfield 7, 3) := by decide +kernel
theorem dX11_openDisputes_10 : decode cX11_openDisputes 10 = .ok (.iconst 3, 1) := by decide +kernel
theorem dX11_openDisputes_11 : decode cX11_openDisputes 11 = .ok (.laload, 1) := by decide +kernel
theorem dX11_openDisputes_12 : decode cX11_openDisputes 12 = .ok (.lcmp, 1) := by decide +kernel
theorem dX11_openDisputes_13 : decode cX11_openDisputes 13 = .ok (.ifCond .ge 34, 3) := by decide +kernel
theorem dX11_openDisputes_16 : decode cX11_openDisputes 16 = .ok (.iload_n 1, 1) := by decide +kernel
theorem dX11_openDisputes_17 : decode cX11_openDisputes 17 = .ok (.aload_n 0, 1) := by decide +kernel
theorem dX11_openDisputes_18 : decode cX11_openDisputes 18 = .ok (.getfield 7, 3) := by decide +kernel
theorem dX11_openDisputes_21 : decode cX11_openDisputes 21 = .ok (.aload_n 0, 1) := by decide +kernel
theorem dX11_openDisputes_22 : decode cX11_openDisputes 22 = .ok (.iload_n 2, 1) := by decide +kernel
theorem dX11_openDisputes_23 : decode cX11_openDisputes 23 = .ok (.invokevirtual 191, 3) := by decide +kernel
theorem dX11_openDisputes_26 : decode cX11_openDisputes 26 = .ok (.iconst 3, 1) := by decide +kernel
theorem dX11_openDisputes_27 : decode cX11_openDisputes 27 = .ok (.iadd, 1) := by decide +kernel
theorem dX11_openDisputes_28 : decode cX11_openDisputes 28 = .ok (.laload, 1) := by decide +kernel
theorem dX11_openDisputes_29 : decode cX11_openDisputes 29 = .ok (.lconst 0, 1) := by decide +kernel
theorem dX11_openDisputes_30 : decode cX11_openDisputes 30 = .ok (.lcmp, 1) := by decide +kernel
theorem dX11_openDisputes_31 : decode cX11_openDisputes 31 = .ok (.ifCond .ne 7, 3) := by decide +kernel
theorem dX11_openDisputes_34 : decode cX11_openDisputes 34 = .ok (.iconst 1, 1) := by decide +kernel
theorem dX11_openDisputes_35 : decode cX11_openDisputes 35 = .ok (.goto 4, 3) := by decide +kernel
theorem dX11_openDisputes_38 : decode cX11_openDisputes 38 = .ok (.iconst 0, 1) := by decide +kernel
theorem dX11_openDisputes_39 : decode cX11_openDisputes 39 = .ok (.iadd, 1) := by decide +kernel
theorem dX11_openDisputes_40 : decode cX11_openDisputes 40 = .ok (.istore_n 1, 1) := by decide +kernel
theorem dX11_openDisputes_41 : decode cX11_openDisputes 41 = .ok (.iinc 2 1, 3) := by decide +kernel
theorem dX11_openDisputes_44 : decode cX11_openDisputes 44 = .ok (.goto (-40), 3) := by decide +kernel
theorem dX11_openDisputes_47 : decode cX11_openDisputes 47 = .ok (.iload_n 1, 1) := by decide +kernel
theorem dX11_openDisputes_48 : decode cX11_openDisputes 48 = .ok (.ireturn, 1) := by decide +kernel
theorem dX11_sum_0 : decode cX11_sum 0 = .ok (.iconst 0, 1) := by decide +kernel
theorem dX11_sum_1 : decode cX11_sum 1 = .ok (.istore 4, 2) := by decide +kernel
theorem dX11_sum_3 : decode cX11_sum 3 = .ok (.iconst 0, 1) := by decide +kernel
theorem dX11_sum_4 : decode cX11_sum 4 = .ok (.istore 5, 2) := by decide +kernel
theorem dX11_sum_6 : decode cX11_sum 6 = .ok (.iload 5, 2) := by decide +kernel
theorem dX11_sum_8 : decode cX11_sum 8 = .ok (.i2l, 1) := by decide +kernel
theorem dX11_sum_9 : decode cX11_sum 9 = .ok (.aload_n 0, 1) := by decide +kernel
theorem dX11_sum_10 : decode cX11_sum 10 = .ok (.getfield 7, 3) := by decide +kernel
theorem dX11_sum_13 : decode cX11_sum 13 = .ok (.iconst 0, 1) := by decide +kernel
theorem dX11_sum_14 : decode cX11_sum 14 = .ok (.laload, 1) := by decide +kernel
theorem dX11_sum_15 : decode cX11_sum 15 = .ok (.lcmp, 1) := by decide +kernel
theorem dX11_sum_16 : decode cX11_sum 16 = .ok (.ifCond .ge 63, 3) := by decide +kernel
theorem dX11_sum_19 : decode cX11_sum 19 = .ok (.aload_n 0, 1) := by decide +kernel
theorem dX11_sum_20 : decode cX11_sum 20 = .ok (.iload 5, 2) := by decide +kernel
theorem dX11_sum_22 : decode cX11_sum 22 = .ok (.invokevirtual 67, 3) := by decide +kernel
theorem dX11_sum_25 : decode cX11_sum 25 = .ok (.iload_n 1, 1) := by decide +kernel
theorem dX11_sum_26 : decode cX11_sum 26 = .ok (.iload_n 2, 1) := by decide +kernel
theorem dX11_sum_27 : decode cX11_sum 27 = .ok (.invokestatic 60, 3) := by decide +kernel
theorem dX11_sum_30 : decode cX11_sum 30 = .ok (.ifCond .eq 43, 3) := by decide +kernel
theorem dX11_sum_33 : decode cX11_sum 33 = .ok (.iload 4, 2) := by decide +kernel
theorem dX11_sum_35 : decode cX11_sum 35 = .ok (.iload_n 3, 1) := by decide +kernel
theorem dX11_sum_36 : decode cX11_sum 36 = .ok (.ifCond .ne 7, 3) := by decide +kernel
theorem dX11_sum_39 : decode cX11_sum 39 = .ok (.iconst 1, 1) := by decide +kernel
theorem dX11_sum_40 : decode cX11_sum 40 = .ok (.goto 30, 3) := by decide +kernel
theorem dX11_sum_43 : decode cX11_sum 43 = .ok (.iload_n 3, 1) := by decide +kernel
theorem dX11_sum_44 : decode cX11_sum 44 = .ok (.iconst 1, 1) := by decide +kernel
theorem dX11_sum_45 : decode cX11_sum 45 = .ok (.if_icmp .ne 12, 3) := by decide +kernel
theorem dX11_sum_48 : decode cX11_sum 48 = .ok (.aload_n 0, 1) := by decide +kernel
theorem dX11_sum_49 : decode cX11_sum 49 = .ok (.iload 5, 2) := by decide +kernel
theorem dX11_sum_51 : decode cX11_sum 51 = .ok (.invokevirtual 220, 3) := by decide +kernel
theorem dX11_sum_54 : decode cX11_sum 54 = .ok (.goto 16, 3) := by decide +kernel
theorem dX11_sum_57 : decode cX11_sum 57 = .ok (.aload_n 0, 1) := by decide +kernel
theorem dX11_sum_58 : decode cX11_sum 58 = .ok (.iload 5, 2) := by decide +kernel
theorem dX11_sum_60 : decode cX11_sum 60 = .ok (.invokevirtual 74, 3) := by decide +kernel
theorem dX11_sum_63 : decode cX11_sum 63 = .ok (.aload_n 0, 1) := by decide +kernel
theorem dX11_sum_64 : decode cX11_sum 64 = .ok (.iload 5, 2) := by decide +kernel
theorem dX11_sum_66 : decode cX11_sum 66 = .ok (.invokevirtual 178, 3) := by decide +kernel
theorem dX11_sum_69 : decode cX11_sum 69 = .ok (.isub, 1) := by decide +kernel
theorem dX11_sum_70 : decode cX11_sum 70 = .ok (.iadd, 1) := by decide +kernel
theorem dX11_sum_71 : decode cX11_sum 71 = .ok (.istore 4, 2) := by decide +kernel
theorem dX11_sum_73 : decode cX11_sum 73 = .ok (.iinc 5 1, 3) := by decide +kernel
theorem dX11_sum_76 : decode cX11_sum 76 = .ok (.goto (-70), 3) := by decide +kernel
theorem dX11_sum_79 : decode cX11_sum 79 = .ok (.iload 4, 2) := by decide +kernel
theorem dX11_sum_81 : decode cX11_sum 81 = .ok (.ireturn, 1) := by decide +kernel
theorem dX11_allPaid_0 : decode cX11_allPaid 0 = .ok (.iconst 0, 1) := by decide +kernel
theorem dX11_allPaid_1 : decode cX11_allPaid 1 = .ok (.istore_n 1, 1) := by decide +kernel
theorem dX11_allPaid_2 : decode cX11_allPaid 2 = .ok (.iconst 0, 1) := by decide +kernel
theorem dX11_allPaid_3 : decode cX11_allPaid 3 = .ok (.istore_n 2, 1) := by decide +kernel
theorem dX11_allPaid_4 : decode cX11_allPaid 4 = .ok (.iload_n 2, 1) := by decide +kernel
theorem dX11_allPaid_5 : decode cX11_allPaid 5 = .ok (.i2l, 1) := by decide +kernel
theorem dX11_allPaid_6 : decode cX11_allPaid 6 = .ok (.aload_n 0, 1) := by decide +kernel
theorem dX11_allPaid_7 : decode cX11_allPaid 7 = .ok (.getfield 7, 3) := by decide +kernel
theorem dX11_allPaid_10 : decode cX11_allPaid 10 = .ok (.iconst 1, 1) := by decide +kernel
theorem dX11_allPaid_11 : decode cX11_allPaid 11 = .ok (.laload, 1) := by decide +kernel
theorem dX11_allPaid_12 : decode cX11_allPaid 12 = .ok (.lcmp, 1) := by decide +kernel
theorem dX11_allPaid_13 : decode cX11_allPaid 13 = .ok (.ifCond .ge 23, 3) := by decide +kernel
theorem dX11_allPaid_16 : decode cX11_allPaid 16 = .ok (.iload_n 1, 1) := by decide +kernel
theorem dX11_allPaid_17 : decode cX11_allPaid 17 = .ok (.aload_n 0, 1) := by decide +kernel
theorem dX11_allPaid_18 : decode cX11_allPaid 18 = .ok (.aload_n 0, 1) := by decide +kernel
theorem dX11_allPaid_19 : decode cX11_allPaid 19 = .ok (.iload_n 2, 1) := by decide +kernel
theorem dX11_allPaid_20 : decode cX11_allPaid 20 = .ok (.invokevirtual 79, 3) := by decide +kernel
theorem dX11_allPaid_23 : decode cX11_allPaid 23 = .ok (.iconst 3, 1) := by decide +kernel
theorem dX11_allPaid_24 : decode cX11_allPaid 24 = .ok (.iadd, 1) := by decide +kernel
theorem dX11_allPaid_25 : decode cX11_allPaid 25 = .ok (.invokevirtual 53, 3) := by decide +kernel
theorem dX11_allPaid_28 : decode cX11_allPaid 28 = .ok (.iadd, 1) := by decide +kernel
theorem dX11_allPaid_29 : decode cX11_allPaid 29 = .ok (.istore_n 1, 1) := by decide +kernel
theorem dX11_allPaid_30 : decode cX11_allPaid 30 = .ok (.iinc 2 1, 3) := by decide +kernel
theorem dX11_allPaid_33 : decode cX11_allPaid 33 = .ok (.goto (-29), 3) := by decide +kernel
theorem dX11_allPaid_36 : decode cX11_allPaid 36 = .ok (.iload_n 1, 1) := by decide +kernel
theorem dX11_allPaid_37 : decode cX11_allPaid 37 = .ok (.ireturn, 1) := by decide +kernel
theorem dX11_allInWay_0 : decode cX11_allInWay 0 = .ok (.iconst 0, 1) := by decide +kernel
theorem dX11_allInWay_1 : decode cX11_allInWay 1 = .ok (.istore_n 2, 1) := by decide +kernel
theorem dX11_allInWay_2 : decode cX11_allInWay 2 = .ok (.iconst 0, 1) := by decide +kernel
theorem dX11_allInWay_3 : decode cX11_allInWay 3 = .ok (.istore_n 3, 1) := by decide +kernel
theorem dX11_allInWay_4 : decode cX11_allInWay 4 = .ok (.iload_n 3, 1) := by decide +kernel
theorem dX11_allInWay_5 : decode cX11_allInWay 5 = .ok (.i2l, 1) := by decide +kernel
theorem dX11_allInWay_6 : decode cX11_allInWay 6 = .ok (.aload_n 0, 1) := by decide +kernel
theorem dX11_allInWay_7 : decode cX11_allInWay 7 = .ok (.getfield 7, 3) := by decide +kernel
theorem dX11_allInWay_10 : decode cX11_allInWay 10 = .ok (.iconst 0, 1) := by decide +kernel
theorem dX11_allInWay_11 : decode cX11_allInWay 11 = .ok (.laload, 1) := by decide +kernel
theorem dX11_allInWay_12 : decode cX11_allInWay 12 = .ok (.lcmp, 1) := by decide +kernel
theorem dX11_allInWay_13 : decode cX11_allInWay 13 = .ok (.ifCond .ge 18, 3) := by decide +kernel
theorem dX11_allInWay_16 : decode cX11_allInWay 16 = .ok (.iload_n 2, 1) := by decide +kernel
theorem dX11_allInWay_17 : decode cX11_allInWay 17 = .ok (.aload_n 0, 1) := by decide +kernel
theorem dX11_allInWay_18 : decode cX11_allInWay 18 = .ok (.iload_n 3, 1) := by decide +kernel
theorem dX11_allInWay_19 : decode cX11_allInWay 19 = .ok (.iload_n 1, 1) := by decide +kernel
theorem dX11_allInWay_20 : decode cX11_allInWay 20 = .ok (.invokevirtual 217, 3) := by decide +kernel
theorem dX11_allInWay_23 : decode cX11_allInWay 23 = .ok (.iadd, 1) := by decide +kernel
theorem dX11_allInWay_24 : decode cX11_allInWay 24 = .ok (.istore_n 2, 1) := by decide +kernel
theorem dX11_allInWay_25 : decode cX11_allInWay 25 = .ok (.iinc 3 1, 3) := by decide +kernel
theorem dX11_allInWay_28 : decode cX11_allInWay 28 = .ok (.goto (-24), 3) := by decide +kernel
theorem dX11_allInWay_31 : decode cX11_allInWay 31 = .ok (.iload_n 2, 1) := by decide +kernel
theorem dX11_allInWay_32 : decode cX11_allInWay 32 = .ok (.ireturn, 1) := by decide +kernel
theorem dX11_count_0 : decode cX11_count 0 = .ok (.iload_n 1, 1) := by decide +kernel
theorem dX11_count_1 : decode cX11_count 1 = .ok (.tableswitch 159 0 16 #[83, 89, 97, 103, 109, 115, 120, 128, 136, 141, 159, 159, 159, 159, 159, 149, 154], 83) := by decide +kernel
theorem dX11_count_84 : decode cX11_count 84 = .ok (.aload_n 0, 1) := by decide +kernel
theorem dX11_count_85 : decode cX11_count 85 = .ok (.iconst 0, 1) := by decide +kernel
theorem dX11_count_86 : decode cX11_count 86 = .ok (.invokevirtual 53, 3) := by decide +kernel
theorem dX11_count_89 : decode cX11_count 89 = .ok (.ireturn, 1) := by decide +kernel
theorem dX11_count_90 : decode cX11_count 90 = .ok (.aload_n 0, 1) := by decide +kernel
theorem dX11_count_91 : decode cX11_count 91 = .ok (.iconst 0, 1) := by decide +kernel
theorem dX11_count_92 : decode cX11_count 92 = .ok (.iconst 2, 1) := by decide +kernel
theorem dX11_count_93 : decode cX11_count 93 = .ok (.iconst 0, 1) := by decide +kernel
theorem dX11_count_94 : decode cX11_count 94 = .ok (.invokevirtual 255, 3) := by decide +kernel
theorem dX11_count_97 : decode cX11_count 97 = .ok (.ireturn, 1) := by decide +kernel
theorem dX11_count_98 : decode cX11_count 98 = .ok (.aload_n 0, 1) := by decide +kernel
theorem dX11_count_99 : decode cX11_count 99 = .ok (.iconst 1, 1) := by decide +kernel
theorem dX11_count_100 : decode cX11_count 100 = .ok (.invokevirtual 53, 3) := by decide +kernel
theorem dX11_count_103 : decode cX11_count 103 = .ok (.ireturn, 1) := by decide +kernel
theorem dX11_count_104 : decode cX11_count 104 = .ok (.aload_n 0, 1) := by decide +kernel
theorem dX11_count_105 : decode cX11_count 105 = .ok (.iconst 2, 1) := by decide +kernel
theorem dX11_count_106 : decode cX11_count 106 = .ok (.invokevirtual 53, 3) := by decide +kernel
theorem dX11_count_109 : decode cX11_count 109 = .ok (.ireturn, 1) := by decide +kernel
theorem dX11_count_110 : decode cX11_count 110 = .ok (.aload_n 0, 1) := by decide +kernel
theorem dX11_count_111 : decode cX11_count 111 = .ok (.iconst 3, 1) := by decide +kernel
theorem dX11_count_112 : decode cX11_count 112 = .ok (.invokevirtual 53, 3) := by decide +kernel
theorem dX11_count_115 : decode cX11_count 115 = .ok (.ireturn, 1) := by decide +kernel
theorem dX11_count_116 : decode cX11_count 116 = .ok (.aload_n 0, 1) := by decide +kernel
theorem dX11_count_117 : decode cX11_count 117 = .ok (.invokevirtual 258, 3) := by decide +kernel
theorem dX11_count_120 : decode cX11_count 120 = .ok (.ireturn, 1) := by decide +kernel
theorem dX11_count_121 : decode cX11_count 121 = .ok (.aload_n 0, 1) := by decide +kernel
theorem dX11_count_122 : decode cX11_count 122 = .ok (.iconst 0, 1) := by decide +kernel
theorem dX11_count_123 : decode cX11_count 123 = .ok (.iconst 2, 1) := by decide +kernel
theorem dX11_count_124 : decode cX11_count 124 = .ok (.iconst 1, 1) := by decide +kernel
theorem dX11_count_125 : decode cX11_count 125 = .ok (.invokevirtual 255, 3) := by decide +kernel
theorem dX11_count_128 : decode cX11_count 128 = .ok (.ireturn, 1) := by decide +kernel
theorem dX11_count_129 : decode cX11_count 129 = .ok (.aload_n 0, 1) := by decide +kernel
theorem dX11_count_130 : decode cX11_count 130 = .ok (.iconst 3, 1) := by decide +kernel
theorem dX11_count_131 : decode cX11_count 131 = .ok (.iconst 3, 1) := by decide +kernel
theorem dX11_count_132 : decode cX11_count 132 = .ok (.iconst 1, 1) := by decide +kernel
theorem dX11_count_133 : decode cX11_count 133 = .ok (.invokevirtual 255, 3) := by decide +kernel
theorem dX11_count_136 : decode cX11_count 136 = .ok (.ireturn, 1) := by decide +kernel
theorem dX11_count_137 : decode cX11_count 137 = .ok (.aload_n 0, 1) := by decide +kernel
theorem dX11_count_138 : decode cX11_count 138 = .ok (.invokevirtual 261, 3) := by decide +kernel
theorem dX11_count_141 : decode cX11_count 141 = .ok (.ireturn, 1) := by decide +kernel
theorem dX11_count_142 : decode cX11_count 142 = .ok (.aload_n 0, 1) := by decide +kernel
theorem dX11_count_143 : decode cX11_count 143 = .ok (.iconst 0, 1) := by decide +kernel
theorem dX11_count_144 : decode cX11_count 144 = .ok (.iconst 2, 1) := by decide +kernel
theorem dX11_count_145 : decode cX11_count 145 = .ok (.iconst 2, 1) := by decide +kernel
theorem dX11_count_146 : decode cX11_count 146 = .ok (.invokevirtual 255, 3) := by decide +kernel
theorem dX11_count_149 : decode cX11_count 149 = .ok (.ireturn, 1) := by decide +kernel
theorem dX11_count_150 : decode cX11_count 150 = .ok (.aload_n 0, 1) := by decide +kernel
theorem dX11_count_151 : decode cX11_count 151 = .ok (.getfield 45, 3) := by decide +kernel
theorem dX11_count_154 : decode cX11_count 154 = .ok (.ireturn, 1) := by decide +kernel
theorem dX11_count_155 : decode cX11_count 155 = .ok (.aload_n 0, 1) := by decide +kernel
theorem dX11_count_156 : decode cX11_count 156 = .ok (.getfield 94, 3) := by decide +kernel
theorem dX11_count_159 : decode cX11_count 159 = .ok (.ireturn, 1) := by decide +kernel
theorem dX11_count_160 : decode cX11_count 160 = .ok (.iload_n 1, 1) := by decide +kernel
theorem dX11_count_161 : decode cX11_count 161 = .ok (.bipush 10, 2) := by decide +kernel
theorem dX11_count_163 : decode cX11_count 163 = .ok (.bipush 14, 2) := by decide +kernel
theorem dX11_count_165 : decode cX11_count 165 = .ok (.invokestatic 60, 3) := by decide +kernel
theorem dX11_count_168 : decode cX11_count 168 = .ok (.ifCond .eq 14, 3) := by decide +kernel
theorem dX11_count_171 : decode cX11_count 171 = .ok (.aload_n 0, 1) := by decide +kernel
theorem dX11_count_172 : decode cX11_count 172 = .ok (.iload_n 1, 1) := by decide +kernel
theorem dX11_count_173 : decode cX11_count 173 = .ok (.bipush 10, 2) := by decide +kernel
theorem dX11_count_175 : decode cX11_count 175 = .ok (.isub, 1) := by decide +kernel
theorem dX11_count_176 : decode cX11_count 176 = .ok (.invokevirtual 264, 3) := by decide +kernel
theorem dX11_count_179 : decode cX11_count 179 = .ok (.goto 5, 3) := by decide +kernel
theorem dX11_count_182 : decode cX11_count 182 = .ok (.bipush (-2), 2) := by decide +kernel
theorem dX11_count_184 : decode cX11_count 184 = .ok (.ireturn, 1) := by decide +kernel
