theorem dX7_init_0 : decode cX7_init 0 = .ok (.aload_n 0, 1) := by decide +kernel
theorem dX7_init_1 : decode cX7_init 1 = .ok (.invokespecial 1, 3) := by decide +kernel
theorem dX7_init_4 : decode cX7_init 4 = .ok (.aload_n 0, 1) := by decide +kernel
theorem dX7_init_5 : decode cX7_init 5 = .ok (.sipush 300, 3) := by decide +kernel
theorem dX7_init_8 : decode cX7_init 8 = .ok (.newarray .int, 2) := by decide +kernel
theorem dX7_init_10 : decode cX7_init 10 = .ok (.putfield 7, 3) := by decide +kernel
theorem dX7_init_13 : decode cX7_init 13 = .ok (.aload_n 0, 1) := by decide +kernel
theorem dX7_init_14 : decode cX7_init 14 = .ok (.sipush 1800, 3) := by decide +kernel
theorem dX7_init_17 : decode cX7_init 17 = .ok (.newarray .int, 2) := by decide +kernel
theorem dX7_init_19 : decode cX7_init 19 = .ok (.putfield 13, 3) := by decide +kernel
theorem dX7_init_22 : decode cX7_init 22 = .ok (.aload_n 0, 1) := by decide +kernel
theorem dX7_init_23 : decode cX7_init 23 = .ok (.bipush 60, 2) := by decide +kernel
theorem dX7_init_25 : decode cX7_init 25 = .ok (.newarray .int, 2) := by decide +kernel
theorem dX7_init_27 : decode cX7_init 27 = .ok (.putfield 16, 3) := by decide +kernel
theorem dX7_init_30 : decode cX7_init 30 = .ok (.aload_n 0, 1) := by decide +kernel
theorem dX7_init_31 : decode cX7_init 31 = .ok (.iconst 3, 1) := by decide +kernel
theorem dX7_init_32 : decode cX7_init 32 = .ok (.newarray .int, 2) := by decide +kernel
theorem dX7_init_34 : decode cX7_init 34 = .ok (.putfield 19, 3) := by decide +kernel
theorem dX7_init_37 : decode cX7_init 37 = .ok (.aload_n 0, 1) := by decide +kernel
theorem dX7_init_38 : decode cX7_init 38 = .ok (.getfield 7, 3) := by decide +kernel
theorem dX7_init_41 : decode cX7_init 41 = .ok (.iconst 1, 1) := by decide +kernel
theorem dX7_init_42 : decode cX7_init 42 = .ok (.sipush 2000, 3) := by decide +kernel
theorem dX7_init_45 : decode cX7_init 45 = .ok (.iastore, 1) := by decide +kernel
theorem dX7_init_46 : decode cX7_init 46 = .ok (.aload_n 0, 1) := by decide +kernel
theorem dX7_init_47 : decode cX7_init 47 = .ok (.getfield 7, 3) := by decide +kernel
theorem dX7_init_50 : decode cX7_init 50 = .ok (.iconst 3, 1) := by decide +kernel
theorem dX7_init_51 : decode cX7_init 51 = .ok (.iconst (-1), 1) := by decide +kernel
theorem dX7_init_52 : decode cX7_init 52 = .ok (.iastore, 1) := by decide +kernel
theorem dX7_init_53 : decode cX7_init 53 = .ok (.iconst 0, 1) := by decide +kernel
theorem dX7_init_54 : decode cX7_init 54 = .ok (.istore_n 1, 1) := by decide +kernel
theorem dX7_init_55 : decode cX7_init 55 = .ok (.iload_n 1, 1) := by decide +kernel
theorem dX7_init_56 : decode cX7_init 56 = .ok (.bipush 8, 2) := by decide +kernel
theorem dX7_init_58 : decode cX7_init 58 = .ok (.if_icmp .ge 31, 3) := by decide +kernel
theorem dX7_init_61 : decode cX7_init 61 = .ok (.aload_n 0, 1) := by decide +kernel
theorem dX7_init_62 : decode cX7_init 62 = .ok (.getfield 7, 3) := by decide +kernel
theorem dX7_init_65 : decode cX7_init 65 = .ok (.bipush 10, 2) := by decide +kernel
theorem dX7_init_67 : decode cX7_init 67 = .ok (.iload_n 1, 1) := by decide +kernel
theorem dX7_init_68 : decode cX7_init 68 = .ok (.iadd, 1) := by decide +kernel
theorem dX7_init_69 : decode cX7_init 69 = .ok (.sipush 170, 3) := by decide +kernel
theorem dX7_init_72 : decode cX7_init 72 = .ok (.iastore, 1) := by decide +kernel
theorem dX7_init_73 : decode cX7_init 73 = .ok (.aload_n 0, 1) := by decide +kernel
theorem dX7_init_74 : decode cX7_init 74 = .ok (.getfield 7, 3) := by decide +kernel
theorem dX7_init_77 : decode cX7_init 77 = .ok (.bipush 18, 2) := by decide +kernel
theorem dX7_init_79 : decode cX7_init 79 = .ok (.iload_n 1, 1) := by decide +kernel
theorem dX7_init_80 : decode cX7_init 80 = .ok (.iadd, 1) := by decide +kernel
theorem dX7_init_81 : decode cX7_init 81 = .ok (.iconst (-1), 1) := by decide +kernel
theorem dX7_init_82 : decode cX7_init 82 = .ok (.iastore, 1) := by decide +kernel
theorem dX7_init_83 : decode cX7_init 83 = .ok (.iinc 1 1, 3) := by decide +kernel
theorem dX7_init_86 : decode cX7_init 86 = .ok (.goto (-31), 3) := by decide +kernel
theorem dX7_init_89 : decode cX7_init 89 = .ok (.return_, 1) := by decide +kernel
theorem dX7_thrown_0 : decode cX7_thrown 0 = .ok (.aload_n 0, 1) := by decide +kernel
theorem dX7_thrown_1 : decode cX7_thrown 1 = .ok (.getfield 22, 3) := by decide +kernel
theorem dX7_thrown_4 : decode cX7_thrown 4 = .ok (.ireturn, 1) := by decide +kernel
theorem dX7_fails_0 : decode cX7_fails 0 = .ok (.aload_n 0, 1) := by decide +kernel
theorem dX7_fails_1 : decode cX7_fails 1 = .ok (.iload_n 1, 1) := by decide +kernel
theorem dX7_fails_2 : decode cX7_fails 2 = .ok (.putfield 22, 3) := by decide +kernel
theorem dX7_fails_5 : decode cX7_fails 5 = .ok (.iconst 0, 1) := by decide +kernel
theorem dX7_fails_6 : decode cX7_fails 6 = .ok (.ireturn, 1) := by decide +kernel
theorem dX7_within_0 : decode cX7_within 0 = .ok (.iload_n 0, 1) := by decide +kernel
theorem dX7_within_1 : decode cX7_within 1 = .ok (.iload_n 1, 1) := by decide +kernel
theorem dX7_within_2 : decode cX7_within 2 = .ok (.if_icmp .lt 12, 3) := by decide +kernel
theorem dX7_within_5 : decode cX7_within 5 = .ok (.iload_n 0, 1) := by decide +kernel
theorem dX7_within_6 : decode cX7_within 6 = .ok (.iload_n 2, 1) := by decide +kernel
theorem dX7_within_7 : decode cX7_within 7 = .ok (.if_icmp .gt 7, 3) := by decide +kernel
theorem dX7_within_10 : decode cX7_within 10 = .ok (.iconst 1, 1) := by decide +kernel
theorem dX7_within_11 : decode cX7_within 11 = .ok (.goto 4, 3) := by decide +kernel
theorem dX7_within_14 : decode cX7_within 14 = .ok (.iconst 0, 1) := by decide +kernel
theorem dX7_within_15 : decode cX7_within 15 = .ok (.ireturn, 1) := by decide +kernel
theorem dX7_isPerson_0 : decode cX7_isPerson 0 = .ok (.iload_n 0, 1) := by decide +kernel
theorem dX7_isPerson_1 : decode cX7_isPerson 1 = .ok (.iconst 0, 1) := by decide +kernel
theorem dX7_isPerson_2 : decode cX7_isPerson 2 = .ok (.bipush 7, 2) := by decide +kernel
theorem dX7_isPerson_4 : decode cX7_isPerson 4 = .ok (.invokestatic 26, 3) := by decide +kernel
theorem dX7_isPerson_7 : decode cX7_isPerson 7 = .ok (.ireturn, 1) := by decide +kernel
theorem dX7_isKind_0 : decode cX7_isKind 0 = .ok (.iload_n 0, 1) := by decide +kernel
theorem dX7_isKind_1 : decode cX7_isKind 1 = .ok (.iconst 0, 1) := by decide +kernel
theorem dX7_isKind_2 : decode cX7_isKind 2 = .ok (.iconst 5, 1) := by decide +kernel
theorem dX7_isKind_3 : decode cX7_isKind 3 = .ok (.invokestatic 26, 3) := by decide +kernel
theorem dX7_isKind_6 : decode cX7_isKind 6 = .ok (.ireturn, 1) := by decide +kernel
theorem dX7_isRisk_0 : decode cX7_isRisk 0 = .ok (.iload_n 0, 1) := by decide +kernel
theorem dX7_isRisk_1 : decode cX7_isRisk 1 = .ok (.iconst 1, 1) := by decide +kernel
theorem dX7_isRisk_2 : decode cX7_isRisk 2 = .ok (.iconst 5, 1) := by decide +kernel
theorem dX7_isRisk_3 : decode cX7_isRisk 3 = .ok (.invokestatic 26, 3) := by decide +kernel
theorem dX7_isRisk_6 : decode cX7_isRisk 6 = .ok (.ireturn, 1) := by decide +kernel
theorem dX7_isPart_0 : decode cX7_isPart 0 = .ok (.iload_n 0, 1) := by decide +kernel
theorem dX7_isPart_1 : decode cX7_isPart 1 = .ok (.iconst 1, 1) := by decide +kernel
theorem dX7_isPart_2 : decode cX7_isPart 2 = .ok (.if_icmp .eq 31, 3) := by decide +kernel
theorem dX7_isPart_5 : decode cX7_isPart 5 = .ok (.iload_n 0, 1) := by decide +kernel
theorem dX7_isPart_6 : decode cX7_isPart 6 = .ok (.iconst 2, 1) := by decide +kernel
theorem dX7_isPart_7 : decode cX7_isPart 7 = .ok (.if_icmp .eq 26, 3) := by decide +kernel
theorem dX7_isPart_10 : decode cX7_isPart 10 = .ok (.iload_n 0, 1) := by decide +kernel
theorem dX7_isPart_11 : decode cX7_isPart 11 = .ok (.iconst 4, 1) := by decide +kernel
theorem dX7_isPart_12 : decode cX7_isPart 12 = .ok (.if_icmp .eq 21, 3) := by decide +kernel
theorem dX7_isPart_15 : decode cX7_isPart 15 = .ok (.iload_n 0, 1) := by decide +kernel
theorem dX7_isPart_16 : decode cX7_isPart 16 = .ok (.bipush 8, 2) := by decide +kernel
theorem dX7_isPart_18 : decode cX7_isPart 18 = .ok (.if_icmp .eq 15, 3) := by decide +kernel
theorem dX7_isPart_21 : decode cX7_isPart 21 = .ok (.iload_n 0, 1) := by decide +kernel
theorem dX7_isPart_22 : decode cX7_isPart 22 = .ok (.bipush 16, 2) := by decide +kernel
theorem dX7_isPart_24 : decode cX7_isPart 24 = .ok (.if_icmp .eq 9, 3) := by decide +kernel
theorem dX7_isPart_27 : decode cX7_isPart 27 = .ok (.iload_n 0, 1) := by decide +kernel
theorem dX7_isPart_28 : decode cX7_isPart 28 = .ok (.bipush 32, 2) := by decide +kernel
theorem dX7_isPart_30 : decode cX7_isPart 30 = .ok (.if_icmp .ne 7, 3) := by decide +kernel
theorem dX7_isPart_33 : decode cX7_isPart 33 = .ok (.iconst 1, 1) := by decide +kernel
theorem dX7_isPart_34 : decode cX7_isPart 34 = .ok (.goto 4, 3) := by decide +kernel
theorem dX7_isPart_37 : decode cX7_isPart 37 = .ok (.iconst 0, 1) := by decide +kernel
theorem dX7_isPart_38 : decode cX7_isPart 38 = .ok (.ireturn, 1) := by decide +kernel
theorem dX7_isScene_0 : decode cX7_isScene 0 = .ok (.iload_n 1, 1) := by decide +kernel
theorem dX7_isScene_1 : decode cX7_isScene 1 = .ok (.iconst 0, 1) := by decide +kernel
theorem dX7_isScene_2 : decode cX7_isScene 2 = .ok (.aload_n 0, 1) := by decide +kernel
theorem dX7_isScene_3 : decode cX7_isScene 3 = .ok (.getfield 7, 3) := by decide +kernel
theorem dX7_isScene_6 : decode cX7_isScene 6 = .ok (.iconst 4, 1) := by decide +kernel
theorem dX7_isScene_7 : decode cX7_isScene 7 = .ok (.iaload, 1) := by decide +kernel
theorem dX7_isScene_8 : decode cX7_isScene 8 = .ok (.iconst 1, 1) := by decide +kernel
theorem dX7_isScene_9 : decode cX7_isScene 9 = .ok (.isub, 1) := by decide +kernel
theorem dX7_isScene_10 : decode cX7_isScene 10 = .ok (.invokestatic 26, 3) := by decide +kernel
theorem dX7_isScene_13 : decode cX7_isScene 13 = .ok (.ireturn, 1) := by decide +kernel
theorem dX7_save_0 : decode cX7_save 0 = .ok (.aload_n 0, 1) := by decide +kernel
theorem dX7_save_1 : decode cX7_save 1 = .ok (.getfield 30, 3) := by decide +kernel
theorem dX7_save_4 : decode cX7_save 4 = .ok (.bipush 6, 2) := by decide +kernel
theorem dX7_save_6 : decode cX7_save 6 = .ok (.if_icmp .ne 44, 3) := by decide +kernel
theorem dX7_save_9 : decode cX7_save 9 = .ok (.iconst 0, 1) := by decide +kernel
theorem dX7_save_10 : decode cX7_save 10 = .ok (.istore_n 1, 1) := by decide +kernel
theorem dX7_save_11 : decode cX7_save 11 = .ok (.iload_n 1, 1) := by decide +kernel
theorem dX7_save_12 : decode cX7_save 12 = .ok (.sipush 1500, 3) := by decide +kernel
theorem dX7_save_15 : decode cX7_save 15 = .ok (.if_icmp .ge 25, 3) := by decide +kernel
theorem dX7_save_18 : decode cX7_save 18 = .ok (.aload_n 0, 1) := by decide +kernel
theorem dX7_save_19 : decode cX7_save 19 = .ok (.getfield 13, 3) := by decide +kernel
theorem dX7_save_22 : decode cX7_save 22 = .ok (.iload_n 1, 1) := by decide +kernel
theorem dX7_save_23 : decode cX7_save 23 = .ok (.aload_n 0, 1) := by decide +kernel
theorem dX7_save_24 : decode cX7_save 24 = .ok (.getfield 13, 3) := by decide +kernel
theorem dX7_save_27 : decode cX7_save 27 = .ok (.iload_n 1, 1) := by decide +kernel
theorem dX7_save_28 : decode cX7_save 28 = .ok (.sipush 300, 3) := by decide +kernel
theorem dX7_save_31 : decode cX7_save 31 = .ok (.iadd, 1) := by decide +kernel
theorem dX7_save_32 : decode cX7_save 32 = .ok (.iaload, 1) := by decide +kernel
theorem dX7_save_33 : decode cX7_save 33 = .ok (.iastore, 1) := by decide +kernel
theorem dX7_save_34 : decode cX7_save 34 = .ok (.iinc 1 1, 3) := by decide +kernel
theorem dX7_save_37 : decode cX7_save 37 = .ok (.goto (-26), 3) := by decide +kernel
theorem dX7_save_40 : decode cX7_save 40 = .ok (.aload_n 0, 1) := by decide +kernel
theorem dX7_save_41 : decode cX7_save 41 = .ok (.dup, 1) := by decide +kernel
theorem dX7_save_42 : decode cX7_save 42 = .ok (.getfield 30, 3) := by decide +kernel
theorem dX7_save_45 : decode cX7_save 45 = .ok (.iconst 1, 1) := by decide +kernel
theorem dX7_save_46 : decode cX7_save 46 = .ok (.isub, 1) := by decide +kernel
theorem dX7_save_47 : decode cX7_save 47 = .ok (.putfield 30, 3) := by decide +kernel
theorem dX7_save_50 : decode cX7_save 50 = .ok (.iconst 0, 1) := by decide +kernel
theorem dX7_save_51 : decode cX7_save 51 = .ok (.istore_n 1, 1) := by decide +kernel
theorem dX7_save_52 : decode cX7_save 52 = .ok (.iload_n 1, 1) := by decide +kernel
theorem dX7_save_53 : decode cX7_save 53 = .ok (.sipush 300, 3) := by decide +kernel
theorem dX7_save_56 : decode cX7_save 56 = .ok (.if_icmp .ge 30, 3) := by decide +kernel
theorem dX7_save_59 : decode cX7_save 59 = .ok (.aload_n 0, 1) := by decide +kernel
theorem dX7_save_60 : decode cX7_save 60 = .ok (.getfield 13, 3) := by decide +kernel
theorem dX7_save_63 : decode cX7_save 63 = .ok (.aload_n 0, 1) := by decide +kernel
theorem dX7_save_64 : decode cX7_save 64 = .ok (.getfield 30, 3) := by decide +kernel
theorem dX7_save_67 : decode cX7_save 67 = .ok (.sipush 300, 3) := by decide +kernel
theorem dX7_save_70 : decode cX7_save 70 = .ok (.imul, 1) := by decide +kernel
theorem dX7_save_71 : decode cX7_save 71 = .ok (.iload_n 1, 1) := by decide +kernel
theorem dX7_save_72 : decode cX7_save 72 = .ok (.iadd, 1) := by decide +kernel
theorem dX7_save_73 : decode cX7_save 73 = .ok (.aload_n 0, 1) := by decide +kernel
theorem dX7_save_74 : decode cX7_save 74 = .ok (.getfield 7, 3) := by decide +kernel
theorem dX7_save_77 : decode cX7_save 77 = .ok (.iload_n 1, 1) := by decide +kernel
theorem dX7_save_78 : decode cX7_save 78 = .ok (.iaload, 1) := by decide +kernel
theorem dX7_save_79 : decode cX7_save 79 = .ok (.iastore, 1) := by decide +kernel
theorem dX7_save_80 : decode cX7_save 80 = .ok (.iinc 1 1, 3) := by decide +kernel
theorem dX7_save_83 : decode cX7_save 83 = .ok (.goto (-31), 3) := by decide +kernel
theorem dX7_save_86 : decode cX7_save 86 = .ok (.aload_n 0, 1) := by decide +kernel
theorem dX7_save_87 : decode cX7_save 87 = .ok (.dup, 1) := by decide +kernel
theorem dX7_save_88 : decode cX7_save 88 = .ok (.getfield 30, 3) := by decide +kernel
theorem dX7_save_91 : decode cX7_save 91 = .ok (.iconst 1, 1) := by decide +kernel
theorem dX7_save_92 : decode cX7_save 92 = .ok (.iadd, 1) := by decide +kernel
theorem dX7_save_93 : decode cX7_save 93 = .ok (.putfield 30, 3) := by decide +kernel
theorem dX7_save_96 : decode cX7_save 96 = .ok (.return_, 1) := by decide +kernel
theorem dX7_undo_0 : decode cX7_undo 0 = .ok (.aload_n 0, 1) := by decide +kernel
theorem dX7_undo_1 : decode cX7_undo 1 = .ok (.iconst 0, 1) := by decide +kernel
theorem dX7_undo_2 : decode cX7_undo 2 = .ok (.putfield 22, 3) := by decide +kernel
theorem dX7_undo_5 : decode cX7_undo 5 = .ok (.aload_n 0, 1) := by decide +kernel
theorem dX7_undo_6 : decode cX7_undo 6 = .ok (.getfield 30, 3) := by decide +kernel
theorem dX7_undo_9 : decode cX7_undo 9 = .ok (.ifCond .ne 9, 3) := by decide +kernel
theorem dX7_undo_12 : decode cX7_undo 12 = .ok (.aload_n 0, 1) := by decide +kernel
theorem dX7_undo_13 : decode cX7_undo 13 = .ok (.iconst 1, 1) := by decide +kernel
theorem dX7_undo_14 : decode cX7_undo 14 = .ok (.invokevirtual 33, 3) := by decide +kernel
theorem dX7_undo_17 : decode cX7_undo 17 = .ok (.ireturn, 1) := by decide +kernel
theorem dX7_undo_18 : decode cX7_undo 18 = .ok (.aload_n 0, 1) := by decide +kernel
theorem dX7_undo_19 : decode cX7_undo 19 = .ok (.dup, 1) := by decide +kernel
theorem dX7_undo_20 : decode cX7_undo 20 = .ok (.getfield 30, 3) := by decide +kernel
theorem dX7_undo_23 : decode cX7_undo 23 = .ok (.iconst 1, 1) := by decide +kernel
theorem dX7_undo_24 : decode cX7_undo 24 = .ok (.isub, 1) := by decide +kernel
theorem dX7_undo_25 : decode cX7_undo 25 = .ok (.putfield 30, 3) := by decide +kernel
theorem dX7_undo_28 : decode cX7_undo 28 = .ok (.iconst 0, 1) := by decide +kernel
theorem dX7_undo_29 : decode cX7_undo 29 = .ok (.istore_n 1, 1) := by decide +kernel
theorem dX7_undo_30 : decode cX7_undo 30 = .ok (.iload_n 1, 1) := by decide +kernel
theorem dX7_undo_31 : decode cX7_undo 31 = .ok (.sipush 300, 3) := by decide +kernel
theorem dX7_undo_34 : decode cX7_undo 34 = .ok (.if_icmp .ge 30, 3) := by decide +kernel
theorem dX7_undo_37 : decode cX7_undo 37 = .ok (.aload_n 0, 1) := by decide +kernel
theorem dX7_undo_38 : decode cX7_undo 38 = .ok (.getfield 7, 3) := by decide +kernel
theorem dX7_undo_41 : decode cX7_undo 41 = .ok (.iload_n 1, 1) := by decide +kernel
theorem dX7_undo_42 : decode cX7_undo 42 = .ok (.aload_n 0, 1) := by decide +kernel
theorem dX7_undo_43 : decode cX7_undo 43 = .ok (.getfield 13, 3) := by decide +kernel
theorem dX7_undo_46 : decode cX7_undo 46 = .ok (.aload_n 0, 1) := by decide +kernel
theorem dX7_undo_47 : decode cX7_undo 47 = .ok (.getfield 30, 3) := by decide +kernel
theorem dX7_undo_50 : decode cX7_undo 50 = .ok (.sipush 300, 3) := by decide +kernel
theorem dX7_undo_53 : decode cX7_undo 53 = .ok (.imul, 1) := by decide +kernel
theorem dX7_undo_54 : decode cX7_undo 54 = .ok (.iload_n 1, 1) := by decide +kernel
theorem dX7_undo_55 : decode cX7_undo 55 = .ok (.iadd, 1) := by decide +kernel
theorem dX7_undo_56 : decode cX7_undo 56 = .ok (.iaload, 1) := by decide +kernel
theorem dX7_undo_57 : decode cX7_undo 57 = .ok (.iastore, 1) := by decide +kernel
theorem dX7_undo_58 : decode cX7_undo 58 = .ok (.iinc 1 1, 3) := by decide +kernel
theorem dX7_undo_61 : decode cX7_undo 61 = .ok (.goto (-31), 3) := by decide +kernel
theorem dX7_undo_64 : decode cX7_undo 64 = .ok (.aload_n 0, 1) := by decide +kernel
theorem dX7_undo_65 : decode cX7_undo 65 = .ok (.getfield 30, 3) := by decide +kernel
theorem dX7_undo_68 : decode cX7_undo 68 = .ok (.ireturn, 1) := by decide +kernel
theorem dX7_needs_0 : decode cX7_needs 0 = .ok (.iload_n 0, 1) := by decide +kernel
theorem dX7_needs_1 : decode cX7_needs 1 = .ok (.tableswitch 49 1 4 #[31, 35, 39, 43], 31) := by decide +kernel
theorem dX7_needs_32 : decode cX7_needs 32 = .ok (.iload_n 1, 1) := by decide +kernel
theorem dX7_needs_33 : decode cX7_needs 33 = .ok (.iconst 1, 1) := by decide +kernel
theorem dX7_needs_34 : decode cX7_needs 34 = .ok (.iadd, 1) := by decide +kernel
theorem dX7_needs_35 : decode cX7_needs 35 = .ok (.ireturn, 1) := by decide +kernel
theorem dX7_needs_36 : decode cX7_needs 36 = .ok (.iconst 2, 1) := by decide +kernel
theorem dX7_needs_37 : decode cX7_needs 37 = .ok (.iload_n 1, 1) := by decide +kernel
theorem dX7_needs_38 : decode cX7_needs 38 = .ok (.imul, 1) := by decide +kernel
theorem dX7_needs_39 : decode cX7_needs 39 = .ok (.ireturn, 1) := by decide +kernel
theorem dX7_needs_40 : decode cX7_needs 40 = .ok (.iload_n 1, 1) := by decide +kernel
theorem dX7_needs_41 : decode cX7_needs 41 = .ok (.iconst 2, 1) := by decide +kernel
theorem dX7_needs_42 : decode cX7_needs 42 = .ok (.iadd, 1) := by decide +kernel
theorem dX7_needs_43 : decode cX7_needs 43 = .ok (.ireturn, 1) := by decide +kernel
theorem dX7_needs_44 : decode cX7_needs 44 = .ok (.iload_n 1, 1) := by decide +kernel
theorem dX7_needs_45 : decode cX7_needs 45 = .ok (.iconst 2, 1) := by decide +kernel
theorem dX7_needs_46 : decode cX7_needs 46 = .ok (.idiv, 1) := by decide +kernel
theorem dX7_needs_47 : decode cX7_needs 47 = .ok (.iconst 1, 1) := by decide +kernel
theorem dX7_needs_48 : decode cX7_needs 48 = .ok (.iadd, 1) := by decide +kernel
theorem dX7_needs_49 : decode cX7_needs 49 = .ok (.ireturn, 1) := by decide +kernel
theorem dX7_needs_50 : decode cX7_needs 50 = .ok (.iload_n 1, 1) := by decide +kernel
theorem dX7_needs_51 : decode cX7_needs 51 = .ok (.ireturn, 1) := by decide +kernel
theorem dX7_countsFor_0 : decode cX7_countsFor 0 = .ok (.iload_n 0, 1) := by decide +kernel
theorem dX7_countsFor_1 : decode cX7_countsFor 1 = .ok (.tableswitch 50 0 4 #[35, 38, 41, 44, 47], 35) := by decide +kernel
theorem dX7_countsFor_36 : decode cX7_countsFor 36 = .ok (.bipush 20, 2) := by decide +kernel
theorem dX7_countsFor_38 : decode cX7_countsFor 38 = .ok (.ireturn, 1) := by decide +kernel
theorem dX7_countsFor_39 : decode cX7_countsFor 39 = .ok (.bipush 15, 2) := by decide +kernel
theorem dX7_countsFor_41 : decode cX7_countsFor 41 = .ok (.ireturn, 1) := by decide +kernel
theorem dX7_countsFor_42 : decode cX7_countsFor 42 = .ok (.bipush 10, 2) := by decide +kernel
theorem dX7_countsFor_44 : decode cX7_countsFor 44 = .ok (.ireturn, 1) := by decide +kernel
theorem dX7_countsFor_45 : decode cX7_countsFor 45 = .ok (.bipush 12, 2) := by decide +kernel
theorem dX7_countsFor_47 : decode cX7_countsFor 47 = .ok (.ireturn, 1) := by decide +kernel
theorem dX7_countsFor_48 : decode cX7_countsFor 48 = .ok (.bipush 30, 2) := by decide +kernel
theorem dX7_countsFor_50 : decode cX7_countsFor 50 = .ok (.ireturn, 1) := by decide +kernel
theorem dX7_countsFor_51 : decode cX7_countsFor 51 = .ok (.bipush 25, 2) := by decide +kernel
theorem dX7_countsFor_53 : decode cX7_countsFor 53 = .ok (.ireturn, 1) := by decide +kernel
theorem dX7_barringParts_0 : decode cX7_barringParts 0 = .ok (.iload_n 0, 1) := by decide +kernel
theorem dX7_barringParts_1 : decode cX7_barringParts 1 = .ok (.tableswitch 49 0 4 #[35, 37, 40, 43, 46], 35) := by decide +kernel
theorem dX7_barringParts_36 : decode cX7_barringParts 36 = .ok (.iconst 3, 1) := by decide +kernel
theorem dX7_barringParts_37 : decode cX7_barringParts 37 = .ok (.ireturn, 1) := by decide +kernel
theorem dX7_barringParts_38 : decode cX7_barringParts 38 = .ok (.bipush 28, 2) := by decide +kernel
theorem dX7_barringParts_40 : decode cX7_barringParts 40 = .ok (.ireturn, 1) := by decide +kernel
theorem dX7_barringParts_41 : decode cX7_barringParts 41 = .ok (.bipush 63, 2) := by decide +kernel
theorem dX7_barringParts_43 : decode cX7_barringParts 43 = .ok (.ireturn, 1) := by decide +kernel
theorem dX7_barringParts_44 : decode cX7_barringParts 44 = .ok (.bipush 48, 2) := by decide +kernel
theorem dX7_barringParts_46 : decode cX7_barringParts 46 = .ok (.ireturn, 1) := by decide +kernel
theorem dX7_barringParts_47 : decode cX7_barringParts 47 = .ok (.bipush 32, 2) := by decide +kernel
theorem dX7_barringParts_49 : decode cX7_barringParts 49 = .ok (.ireturn, 1) := by decide +kernel
theorem dX7_barringParts_50 : decode cX7_barringParts 50 = .ok (.bipush 35, 2) := by decide +kernel
theorem dX7_barringParts_52 : decode cX7_barringParts 52 = .ok (.ireturn, 1) := by decide +kernel
theorem dX7_partOfRehearsal_0 : decode cX7_partOfRehearsal 0 = .ok (.iload_n 0, 1) := by decide +kernel
theorem dX7_partOfRehearsal_1 : decode cX7_partOfRehearsal 1 = .ok (.ifCond .eq 8, 3) := by decide +kernel
theorem dX7_partOfRehearsal_4 : decode cX7_partOfRehearsal 4 = .ok (.iload_n 0, 1) := by decide +kernel
theorem dX7_partOfRehearsal_5 : decode cX7_partOfRehearsal 5 = .ok (.iconst 5, 1) := by decide +kernel
theorem dX7_partOfRehearsal_6 : decode cX7_partOfRehearsal 6 = .ok (.if_icmp .ne 7, 3) := by decide +kernel
theorem dX7_partOfRehearsal_9 : decode cX7_partOfRehearsal 9 = .ok (.iconst 1, 1) := by decide +kernel
theorem dX7_partOfRehearsal_10 : decode cX7_partOfRehearsal 10 = .ok (.goto 19, 3) := by decide +kernel
theorem dX7_partOfRehearsal_13 : decode cX7_partOfRehearsal 13 = .ok (.iload_n 0, 1) := by decide +kernel
theorem dX7_partOfRehearsal_14 : decode cX7_partOfRehearsal 14 = .ok (.iconst 1, 1) := by decide +kernel
theorem dX7_partOfRehearsal_15 : decode cX7_partOfRehearsal 15 = .ok (.if_icmp .eq 8, 3) := by decide +kernel
theorem dX7_partOfRehearsal_18 : decode cX7_partOfRehearsal 18 = .ok (.iload_n 0, 1) := by decide +kernel
theorem dX7_partOfRehearsal_19 : decode cX7_partOfRehearsal 19 = .ok (.iconst 4, 1) := by decide +kernel
theorem dX7_partOfRehearsal_20 : decode cX7_partOfRehearsal 20 = .ok (.if_icmp .ne 7, 3) := by decide +kernel
theorem dX7_partOfRehearsal_23 : decode cX7_partOfRehearsal 23 = .ok (.iconst 4, 1) := by decide +kernel
theorem dX7_partOfRehearsal_24 : decode cX7_partOfRehearsal 24 = .ok (.goto 5, 3) := by decide +kernel
theorem dX7_partOfRehearsal_27 : decode cX7_partOfRehearsal 27 = .ok (.bipush 16, 2) := by decide +kernel
theorem dX7_partOfRehearsal_29 : decode cX7_partOfRehearsal 29 = .ok (.ireturn, 1) := by decide +kernel
theorem dX7_ofInjury_0 : decode cX7_ofInjury 0 = .ok (.aload_n 0, 1) := by decide +kernel
theorem dX7_ofInjury_1 : decode cX7_ofInjury 1 = .ok (.getfield 7, 3) := by decide +kernel
theorem dX7_ofInjury_4 : decode cX7_ofInjury 4 = .ok (.sipush 202, 3) := by decide +kernel
theorem dX7_ofInjury_7 : decode cX7_ofInjury 7 = .ok (.iconst 4, 1) := by decide +kernel
theorem dX7_ofInjury_8 : decode cX7_ofInjury 8 = .ok (.iload_n 1, 1) := by decide +kernel
theorem dX7_ofInjury_9 : decode cX7_ofInjury 9 = .ok (.imul, 1) := by decide +kernel
theorem dX7_ofInjury_10 : decode cX7_ofInjury 10 = .ok (.iadd, 1) := by decide +kernel
theorem dX7_ofInjury_11 : decode cX7_ofInjury 11 = .ok (.iload_n 2, 1) := by decide +kernel
theorem dX7_ofInjury_12 : decode cX7_ofInjury 12 = .ok (.iadd, 1) := by decide +kernel
theorem dX7_ofInjury_13 : decode cX7_ofInjury 13 = .ok (.iaload, 1) := by decide +kernel
theorem dX7_ofInjury_14 : decode cX7_ofInjury 14 = .ok (.ireturn, 1) := by decide +kernel
theorem dX7_hurtParts_0 : decode cX7_hurtParts 0 = .ok (.iconst 0, 1) := by decide +kernel
theorem dX7_hurtParts_1 : decode cX7_hurtParts 1 = .ok (.istore_n 3, 1) := by decide +kernel
theorem dX7_hurtParts_2 : decode cX7_hurtParts 2 = .ok (.iconst 0, 1) := by decide +kernel
theorem dX7_hurtParts_3 : decode cX7_hurtParts 3 = .ok (.istore 4, 2) := by decide +kernel
theorem dX7_hurtParts_5 : decode cX7_hurtParts 5 = .ok (.iload 4, 2) := by decide +kernel
theorem dX7_hurtParts_7 : decode cX7_hurtParts 7 = .ok (.aload_n 0, 1) := by decide +kernel
theorem dX7_hurtParts_8 : decode cX7_hurtParts 8 = .ok (.getfield 7, 3) := by decide +kernel
theorem dX7_hurtParts_11 : decode cX7_hurtParts 11 = .ok (.bipush 9, 2) := by decide +kernel
theorem dX7_hurtParts_13 : decode cX7_hurtParts 13 = .ok (.iaload, 1) := by decide +kernel
theorem dX7_hurtParts_14 : decode cX7_hurtParts 14 = .ok (.if_icmp .ge 67, 3) := by decide +kernel
theorem dX7_hurtParts_17 : decode cX7_hurtParts 17 = .ok (.aload_n 0, 1) := by decide +kernel
theorem dX7_hurtParts_18 : decode cX7_hurtParts 18 = .ok (.iload 4, 2) := by decide +kernel
theorem dX7_hurtParts_20 : decode cX7_hurtParts 20 = .ok (.iconst 0, 1) := by decide +kernel
theorem dX7_hurtParts_21 : decode cX7_hurtParts 21 = .ok (.invokevirtual 37, 3) := by decide +kernel
theorem dX7_hurtParts_24 : decode cX7_hurtParts 24 = .ok (.iload_n 1, 1) := by decide +kernel
theorem dX7_hurtParts_25 : decode cX7_hurtParts 25 = .ok (.if_icmp .ne 28, 3) := by decide +kernel
theorem dX7_hurtParts_28 : decode cX7_hurtParts 28 = .ok (.iload_n 2, 1) := by decide +kernel
theorem dX7_hurtParts_29 : decode cX7_hurtParts 29 = .ok (.aload_n 0, 1) := by decide +kernel
theorem dX7_hurtParts_30 : decode cX7_hurtParts 30 = .ok (.iload 4, 2) := by decide +kernel
theorem dX7_hurtParts_32 : decode cX7_hurtParts 32 = .ok (.iconst 2, 1) := by decide +kernel
theorem dX7_hurtParts_33 : decode cX7_hurtParts 33 = .ok (.invokevirtual 37, 3) := by decide +kernel
theorem dX7_hurtParts_36 : decode cX7_hurtParts 36 = .ok (.aload_n 0, 1) := by decide +kernel
theorem dX7_hurtParts_37 : decode cX7_hurtParts 37 = .ok (.iload 4, 2) := by decide +kernel
theorem dX7_hurtParts_39 : decode cX7_hurtParts 39 = .ok (.iconst 3, 1) := by decide +kernel
theorem dX7_hurtParts_40 : decode cX7_hurtParts 40 = .ok (.invokevirtual 37, 3) := by decide +kernel
theorem dX7_hurtParts_43 : decode cX7_hurtParts 43 = .ok (.invokestatic 26, 3) := by decide +kernel
theorem dX7_hurtParts_46 : decode cX7_hurtParts 46 = .ok (.ifCond .eq 7, 3) := by decide +kernel
theorem dX7_hurtParts_49 : decode cX7_hurtParts 49 = .ok (.iconst 1, 1) := by decide +kernel
theorem dX7_hurtParts_50 : decode cX7_hurtParts 50 = .ok (.goto 4, 3) := by decide +kernel
theorem dX7_hurtParts_53 : decode cX7_hurtParts 53 = .ok (.iconst 0, 1) := by decide +kernel
theorem dX7_hurtParts_54 : decode cX7_hurtParts 54 = .ok (.istore 5, 2) := by decide +kernel
theorem dX7_hurtParts_56 : decode cX7_hurtParts 56 = .ok (.iload_n 3, 1) := by decide +kernel
theorem dX7_hurtParts_57 : decode cX7_hurtParts 57 = .ok (.iload 5, 2) := by decide +kernel
theorem dX7_hurtParts_59 : decode cX7_hurtParts 59 = .ok (.ifCond .eq 13, 3) := by decide +kernel
theorem dX7_hurtParts_62 : decode cX7_hurtParts 62 = .ok (.aload_n 0, 1) := by decide +kernel
theorem dX7_hurtParts_63 : decode cX7_hurtParts 63 = .ok (.iload 4, 2) := by decide +kernel
theorem dX7_hurtParts_65 : decode cX7_hurtParts 65 = .ok (.iconst 1, 1) := by decide +kernel
theorem dX7_hurtParts_66 : decode cX7_hurtParts 66 = .ok (.invokevirtual 37, 3) := by decide +kernel
theorem dX7_hurtParts_69 : decode cX7_hurtParts 69 = .ok (.goto 4, 3) := by decide +kernel
theorem dX7_hurtParts_72 : decode cX7_hurtParts 72 = .ok (.iconst 0, 1) := by decide +kernel
theorem dX7_hurtParts_73 : decode cX7_hurtParts 73 = .ok (.ior, 1) := by decide +kernel
theorem dX7_hurtParts_74 : decode cX7_hurtParts 74 = .ok (.istore_n 3, 1) := by decide +kernel
theorem dX7_hurtParts_75 : decode cX7_hurtParts 75 = .ok (.iinc 4 1, 3) := by decide +kernel
theorem dX7_hurtParts_78 : decode cX7_hurtParts 78 = .ok (.goto (-73), 3) := by decide +kernel
theorem dX7_hurtParts_81 : decode cX7_hurtParts 81 = .ok (.iload_n 3, 1) := by decide +kernel
theorem dX7_hurtParts_82 : decode cX7_hurtParts 82 = .ok (.ireturn, 1) := by decide +kernel
theorem dX7_lastHurtDay_0 : decode cX7_lastHurtDay 0 = .ok (.iconst (-1), 1) := by decide +kernel
theorem dX7_lastHurtDay_1 : decode cX7_lastHurtDay 1 = .ok (.istore_n 2, 1) := by decide +kernel
theorem dX7_lastHurtDay_2 : decode cX7_lastHurtDay 2 = .ok (.iconst 0, 1) := by decide +kernel
theorem dX7_lastHurtDay_3 : decode cX7_lastHurtDay 3 = .ok (.istore_n 3, 1) := by decide +kernel
theorem dX7_lastHurtDay_4 : decode cX7_lastHurtDay 4 = .ok (.iload_n 3, 1) := by decide +kernel
theorem dX7_lastHurtDay_5 : decode cX7_lastHurtDay 5 = .ok (.aload_n 0, 1) := by decide +kernel
theorem dX7_lastHurtDay_6 : decode cX7_lastHurtDay 6 = .ok (.getfield 7, 3) := by decide +kernel
theorem dX7_lastHurtDay_9 : decode cX7_lastHurtDay 9 = .ok (.bipush 9, 2) := by decide +kernel
theorem dX7_lastHurtDay_11 : decode cX7_lastHurtDay 11 = .ok (.iaload, 1) := by decide +kernel
theorem dX7_lastHurtDay_12 : decode cX7_lastHurtDay 12 = .ok (.if_icmp .ge 76, 3) := by decide +kernel
theorem dX7_lastHurtDay_15 : decode cX7_lastHurtDay 15 = .ok (.aload_n 0, 1) := by decide +kernel
theorem dX7_lastHurtDay_16 : decode cX7_lastHurtDay 16 = .ok (.iload_n 3, 1) := by decide +kernel
theorem dX7_lastHurtDay_17 : decode cX7_lastHurtDay 17 = .ok (.iconst 0, 1) := by decide +kernel
theorem dX7_lastHurtDay_18 : decode cX7_lastHurtDay 18 = .ok (.invokevirtual 37, 3) := by decide +kernel
theorem dX7_lastHurtDay_21 : decode cX7_lastHurtDay 21 = .ok (.iload_n 1, 1) := by decide +kernel
theorem dX7_lastHurtDay_22 : decode cX7_lastHurtDay 22 = .ok (.if_icmp .ne 31, 3) := by decide +kernel
theorem dX7_lastHurtDay_25 : decode cX7_lastHurtDay 25 = .ok (.aload_n 0, 1) := by decide +kernel
theorem dX7_lastHurtDay_26 : decode cX7_lastHurtDay 26 = .ok (.getfield 7, 3) := by decide +kernel
theorem dX7_lastHurtDay_29 : decode cX7_lastHurtDay 29 = .ok (.iconst 0, 1) := by decide +kernel
theorem dX7_lastHurtDay_30 : decode cX7_lastHurtDay 30 = .ok (.iaload, 1) := by decide +kernel
theorem dX7_lastHurtDay_31 : decode cX7_lastHurtDay 31 = .ok (.aload_n 0, 1) := by decide +kernel
theorem dX7_lastHurtDay_32 : decode cX7_lastHurtDay 32 = .ok (.iload_n 3, 1) := by decide +kernel
theorem dX7_lastHurtDay_33 : decode cX7_lastHurtDay 33 = .ok (.iconst 2, 1) := by decide +kernel
theorem dX7_lastHurtDay_34 : decode cX7_lastHurtDay 34 = .ok (.invokevirtual 37, 3) := by decide +kernel
theorem dX7_lastHurtDay_37 : decode cX7_lastHurtDay 37 = .ok (.aload_n 0, 1) := by decide +kernel
theorem dX7_lastHurtDay_38 : decode cX7_lastHurtDay 38 = .ok (.iload_n 3, 1) := by decide +kernel
theorem dX7_lastHurtDay_39 : decode cX7_lastHurtDay 39 = .ok (.iconst 3, 1) := by decide +kernel
theorem dX7_lastHurtDay_40 : decode cX7_lastHurtDay 40 = .ok (.invokevirtual 37, 3) := by decide +kernel
theorem dX7_lastHurtDay_43 : decode cX7_lastHurtDay 43 = .ok (.invokestatic 26, 3) := by decide +kernel
theorem dX7_lastHurtDay_46 : decode cX7_lastHurtDay 46 = .ok (.ifCond .eq 7, 3) := by decide +kernel
theorem dX7_lastHurtDay_49 : decode cX7_lastHurtDay 49 = .ok (.iconst 1, 1) := by decide +kernel
theorem dX7_lastHurtDay_50 : decode cX7_lastHurtDay 50 = .ok (.goto 4, 3) := by decide +kernel
theorem dX7_lastHurtDay_53 : decode cX7_lastHurtDay 53 = .ok (.iconst 0, 1) := by decide +kernel
theorem dX7_lastHurtDay_54 : decode cX7_lastHurtDay 54 = .ok (.istore 4, 2) := by decide +kernel
theorem dX7_lastHurtDay_56 : decode cX7_lastHurtDay 56 = .ok (.iload 4, 2) := by decide +kernel
theorem dX7_lastHurtDay_58 : decode cX7_lastHurtDay 58 = .ok (.ifCond .eq 22, 3) := by decide +kernel
theorem dX7_lastHurtDay_61 : decode cX7_lastHurtDay 61 = .ok (.aload_n 0, 1) := by decide +kernel
theorem dX7_lastHurtDay_62 : decode cX7_lastHurtDay 62 = .ok (.iload_n 3, 1) := by decide +kernel
theorem dX7_lastHurtDay_63 : decode cX7_lastHurtDay 63 = .ok (.iconst 3, 1) := by decide +kernel
theorem dX7_lastHurtDay_64 : decode cX7_lastHurtDay 64 = .ok (.invokevirtual 37, 3) := by decide +kernel
theorem dX7_lastHurtDay_67 : decode cX7_lastHurtDay 67 = .ok (.iload_n 2, 1) := by decide +kernel
theorem dX7_lastHurtDay_68 : decode cX7_lastHurtDay 68 = .ok (.if_icmp .le 12, 3) := by decide +kernel
theorem dX7_lastHurtDay_71 : decode cX7_lastHurtDay 71 = .ok (.aload_n 0, 1) := by decide +kernel
theorem dX7_lastHurtDay_72 : decode cX7_lastHurtDay 72 = .ok (.iload_n 3, 1) := by decide +kernel
theorem dX7_lastHurtDay_73 : decode cX7_lastHurtDay 73 = .ok (.iconst 3, 1) := by decide +kernel
theorem dX7_lastHurtDay_74 : decode cX7_lastHurtDay 74 = .ok (.invokevirtual 37, 3) := by decide +kernel
theorem dX7_lastHurtDay_77 : decode cX7_lastHurtDay 77 = .ok (.goto 4, 3) := by decide +kernel
theorem dX7_lastHurtDay_80 : decode cX7_lastHurtDay 80 = .ok (.iload_n 2, 1) := by decide +kernel
theorem dX7_lastHurtDay_81 : decode cX7_lastHurtDay 81 = .ok (.istore_n 2, 1) := by decide +kernel
theorem dX7_lastHurtDay_82 : decode cX7_lastHurtDay 82 = .ok (.iinc 3 1, 3) := by decide +kernel
theorem dX7_lastHurtDay_85 : decode cX7_lastHurtDay 85 = .ok (.goto (-81), 3) := by decide +kernel
theorem dX7_lastHurtDay_88 : decode cX7_lastHurtDay 88 = .ok (.iload_n 2, 1) := by decide +kernel
theorem dX7_lastHurtDay_89 : decode cX7_lastHurtDay 89 = .ok (.ireturn, 1) := by decide +kernel
theorem dX7_isBarred_0 : decode cX7_isBarred 0 = .ok (.aload_n 0, 1) := by decide +kernel
theorem dX7_isBarred_1 : decode cX7_isBarred 1 = .ok (.iload_n 1, 1) := by decide +kernel
theorem dX7_isBarred_2 : decode cX7_isBarred 2 = .ok (.iload_n 3, 1) := by decide +kernel
theorem dX7_isBarred_3 : decode cX7_isBarred 3 = .ok (.invokevirtual 41, 3) := by decide +kernel
theorem dX7_isBarred_6 : decode cX7_isBarred 6 = .ok (.iload_n 2, 1) := by decide +kernel
theorem dX7_isBarred_7 : decode cX7_isBarred 7 = .ok (.invokestatic 44, 3) := by decide +kernel
theorem dX7_isBarred_10 : decode cX7_isBarred 10 = .ok (.iand, 1) := by decide +kernel
theorem dX7_isBarred_11 : decode cX7_isBarred 11 = .ok (.ifCond .eq 7, 3) := by decide +kernel
theorem dX7_isBarred_14 : decode cX7_isBarred 14 = .ok (.iconst 1, 1) := by decide +kernel
theorem dX7_isBarred_15 : decode cX7_isBarred 15 = .ok (.goto 4, 3) := by decide +kernel
theorem dX7_isBarred_18 : decode cX7_isBarred 18 = .ok (.iconst 0, 1) := by decide +kernel
theorem dX7_isBarred_19 : decode cX7_isBarred 19 = .ok (.ireturn, 1) := by decide +kernel
theorem dX7_barredKinds_0 : decode cX7_barredKinds 0 = .ok (.iconst 0, 1) := by decide +kernel
theorem dX7_barredKinds_1 : decode cX7_barredKinds 1 = .ok (.istore_n 2, 1) := by decide +kernel
theorem dX7_barredKinds_2 : decode cX7_barredKinds 2 = .ok (.iconst 0, 1) := by decide +kernel
theorem dX7_barredKinds_3 : decode cX7_barredKinds 3 = .ok (.istore_n 3, 1) := by decide +kernel
theorem dX7_barredKinds_4 : decode cX7_barredKinds 4 = .ok (.iload_n 3, 1) := by decide +kernel
theorem dX7_barredKinds_5 : decode cX7_barredKinds 5 = .ok (.bipush 6, 2) := by decide +kernel
theorem dX7_barredKinds_7 : decode cX7_barredKinds 7 = .ok (.if_icmp .ge 34, 3) := by decide +kernel
theorem dX7_barredKinds_10 : decode cX7_barredKinds 10 = .ok (.iload_n 2, 1) := by decide +kernel
theorem dX7_barredKinds_11 : decode cX7_barredKinds 11 = .ok (.aload_n 0, 1) := by decide +kernel
theorem dX7_barredKinds_12 : decode cX7_barredKinds 12 = .ok (.iload_n 1, 1) := by decide +kernel
theorem dX7_barredKinds_13 : decode cX7_barredKinds 13 = .ok (.iload_n 3, 1) := by decide +kernel
theorem dX7_barredKinds_14 : decode cX7_barredKinds 14 = .ok (.aload_n 0, 1) := by decide +kernel
theorem dX7_barredKinds_15 : decode cX7_barredKinds 15 = .ok (.getfield 7, 3) := by decide +kernel
theorem dX7_barredKinds_18 : decode cX7_barredKinds 18 = .ok (.iconst 0, 1) := by decide +kernel
theorem dX7_barredKinds_19 : decode cX7_barredKinds 19 = .ok (.iaload, 1) := by decide +kernel
theorem dX7_barredKinds_20 : decode cX7_barredKinds 20 = .ok (.invokevirtual 47, 3) := by decide +kernel
theorem dX7_barredKinds_23 : decode cX7_barredKinds 23 = .ok (.ifCond .eq 9, 3) := by decide +kernel
theorem dX7_barredKinds_26 : decode cX7_barredKinds 26 = .ok (.iconst 1, 1) := by decide +kernel
theorem dX7_barredKinds_27 : decode cX7_barredKinds 27 = .ok (.iload_n 3, 1) := by decide +kernel
theorem dX7_barredKinds_28 : decode cX7_barredKinds 28 = .ok (.ishl, 1) := by decide +kernel
theorem dX7_barredKinds_29 : decode cX7_barredKinds 29 = .ok (.goto 4, 3) := by decide +kernel
theorem dX7_barredKinds_32 : decode cX7_barredKinds 32 = .ok (.iconst 0, 1) := by decide +kernel
theorem dX7_barredKinds_33 : decode cX7_barredKinds 33 = .ok (.ior, 1) := by decide +kernel
theorem dX7_barredKinds_34 : decode cX7_barredKinds 34 = .ok (.istore_n 2, 1) := by decide +kernel
theorem dX7_barredKinds_35 : decode cX7_barredKinds 35 = .ok (.iinc 3 1, 3) := by decide +kernel
theorem dX7_barredKinds_38 : decode cX7_barredKinds 38 = .ok (.goto (-34), 3) := by decide +kernel
theorem dX7_barredKinds_41 : decode cX7_barredKinds 41 = .ok (.iload_n 2, 1) := by decide +kernel
theorem dX7_barredKinds_42 : decode cX7_barredKinds 42 = .ok (.ireturn, 1) := by decide +kernel
theorem dX7_ofRehearsal_0 : decode cX7_ofRehearsal 0 = .ok (.aload_n 0, 1) := by decide +kernel
theorem dX7_ofRehearsal_1 : decode cX7_ofRehearsal 1 = .ok (.getfield 7, 3) := by decide +kernel
theorem dX7_ofRehearsal_4 : decode cX7_ofRehearsal 4 = .ok (.bipush 42, 2) := by decide +kernel
theorem dX7_ofRehearsal_6 : decode cX7_ofRehearsal 6 = .ok (.iconst 4, 1) := by decide +kernel
theorem dX7_ofRehearsal_7 : decode cX7_ofRehearsal 7 = .ok (.iload_n 1, 1) := by decide +kernel
theorem dX7_ofRehearsal_8 : decode cX7_ofRehearsal 8 = .ok (.imul, 1) := by decide +kernel
theorem dX7_ofRehearsal_9 : decode cX7_ofRehearsal 9 = .ok (.iadd, 1) := by decide +kernel
theorem dX7_ofRehearsal_10 : decode cX7_ofRehearsal 10 = .ok (.iload_n 2, 1) := by decide +kernel
theorem dX7_ofRehearsal_11 : decode cX7_ofRehearsal 11 = .ok (.iadd, 1) := by decide +kernel
theorem dX7_ofRehearsal_12 : decode cX7_ofRehearsal 12 = .ok (.iaload, 1) := by decide +kernel
theorem dX7_ofRehearsal_13 : decode cX7_ofRehearsal 13 = .ok (.ireturn, 1) := by decide +kernel
theorem dX7_counting_0 : decode cX7_counting 0 = .ok (.iconst 0, 1) := by decide +kernel
theorem dX7_counting_1 : decode cX7_counting 1 = .ok (.istore 5, 2) := by decide +kernel
theorem dX7_counting_3 : decode cX7_counting 3 = .ok (.iconst 0, 1) := by decide +kernel
theorem dX7_counting_4 : decode cX7_counting 4 = .ok (.istore 6, 2) := by decide +kernel
theorem dX7_counting_6 : decode cX7_counting 6 = .ok (.iload 6, 2) := by decide +kernel
theorem dX7_counting_8 : decode cX7_counting 8 = .ok (.aload_n 0, 1) := by decide +kernel
theorem dX7_counting_9 : decode cX7_counting 9 = .ok (.getfield 7, 3) := by decide +kernel
theorem dX7_counting_12 : decode cX7_counting 12 = .ok (.bipush 8, 2) := by decide +kernel
theorem dX7_counting_14 : decode cX7_counting 14 = .ok (.iaload, 1) := by decide +kernel
theorem dX7_counting_15 : decode cX7_counting 15 = .ok (.if_icmp .ge 94, 3) := by decide +kernel
theorem dX7_counting_18 : decode cX7_counting 18 = .ok (.aload_n 0, 1) := by decide +kernel
theorem dX7_counting_19 : decode cX7_counting 19 = .ok (.iload 6, 2) := by decide +kernel
theorem dX7_counting_21 : decode cX7_counting 21 = .ok (.iconst 0, 1) := by decide +kernel
theorem dX7_counting_22 : decode cX7_counting 22 = .ok (.invokevirtual 50, 3) := by decide +kernel
theorem dX7_counting_25 : decode cX7_counting 25 = .ok (.iload_n 1, 1) := by decide +kernel
theorem dX7_counting_26 : decode cX7_counting 26 = .ok (.if_icmp .ne 31, 3) := by decide +kernel
theorem dX7_counting_29 : decode cX7_counting 29 = .ok (.aload_n 0, 1) := by decide +kernel
theorem dX7_counting_30 : decode cX7_counting 30 = .ok (.iload 6, 2) := by decide +kernel
theorem dX7_counting_32 : decode cX7_counting 32 = .ok (.iconst 1, 1) := by decide +kernel
theorem dX7_counting_33 : decode cX7_counting 33 = .ok (.invokevirtual 50, 3) := by decide +kernel
theorem dX7_counting_36 : decode cX7_counting 36 = .ok (.iload_n 2, 1) := by decide +kernel
theorem dX7_counting_37 : decode cX7_counting 37 = .ok (.if_icmp .ne 20, 3) := by decide +kernel
theorem dX7_counting_40 : decode cX7_counting 40 = .ok (.aload_n 0, 1) := by decide +kernel
theorem dX7_counting_41 : decode cX7_counting 41 = .ok (.iload 6, 2) := by decide +kernel
theorem dX7_counting_43 : decode cX7_counting 43 = .ok (.iconst 2, 1) := by decide +kernel
theorem dX7_counting_44 : decode cX7_counting 44 = .ok (.invokevirtual 50, 3) := by decide +kernel
theorem dX7_counting_47 : decode cX7_counting 47 = .ok (.iload_n 3, 1) := by decide +kernel
theorem dX7_counting_48 : decode cX7_counting 48 = .ok (.iconst 1, 1) := by decide +kernel
theorem dX7_counting_49 : decode cX7_counting 49 = .ok (.isub, 1) := by decide +kernel
theorem dX7_counting_50 : decode cX7_counting 50 = .ok (.if_icmp .lt 7, 3) := by decide +kernel
theorem dX7_counting_53 : decode cX7_counting 53 = .ok (.iconst 1, 1) := by decide +kernel
theorem dX7_counting_54 : decode cX7_counting 54 = .ok (.goto 4, 3) := by decide +kernel
theorem dX7_counting_57 : decode cX7_counting 57 = .ok (.iconst 0, 1) := by decide +kernel
theorem dX7_counting_58 : decode cX7_counting 58 = .ok (.istore 7, 2) := by decide +kernel
theorem dX7_counting_60 : decode cX7_counting 60 = .ok (.aload_n 0, 1) := by decide +kernel
theorem dX7_counting_61 : decode cX7_counting 61 = .ok (.iload 6, 2) := by decide +kernel
theorem dX7_counting_63 : decode cX7_counting 63 = .ok (.iconst 3, 1) := by decide +kernel
theorem dX7_counting_64 : decode cX7_counting 64 = .ok (.invokevirtual 50, 3) := by decide +kernel
theorem dX7_counting_67 : decode cX7_counting 67 = .ok (.istore 8, 2) := by decide +kernel
theorem dX7_counting_69 : decode cX7_counting 69 = .ok (.iload 5, 2) := by decide +kernel
theorem dX7_counting_71 : decode cX7_counting 71 = .ok (.iload 7, 2) := by decide +kernel
theorem dX7_counting_73 : decode cX7_counting 73 = .ok (.ifCond .eq 26, 3) := by decide +kernel
theorem dX7_counting_76 : decode cX7_counting 76 = .ok (.iload 4, 2) := by decide +kernel
theorem dX7_counting_78 : decode cX7_counting 78 = .ok (.iload 8, 2) := by decide +kernel
theorem dX7_counting_80 : decode cX7_counting 80 = .ok (.iload 8, 2) := by decide +kernel
theorem dX7_counting_82 : decode cX7_counting 82 = .ok (.iload_n 2, 1) := by decide +kernel
theorem dX7_counting_83 : decode cX7_counting 83 = .ok (.invokestatic 53, 3) := by decide +kernel
theorem dX7_counting_86 : decode cX7_counting 86 = .ok (.iadd, 1) := by decide +kernel
theorem dX7_counting_87 : decode cX7_counting 87 = .ok (.iconst 1, 1) := by decide +kernel
theorem dX7_counting_88 : decode cX7_counting 88 = .ok (.isub, 1) := by decide +kernel
theorem dX7_counting_89 : decode cX7_counting 89 = .ok (.invokestatic 26, 3) := by decide +kernel
theorem dX7_counting_92 : decode cX7_counting 92 = .ok (.ifCond .eq 7, 3) := by decide +kernel
theorem dX7_counting_95 : decode cX7_counting 95 = .ok (.iconst 1, 1) := by decide +kernel
theorem dX7_counting_96 : decode cX7_counting 96 = .ok (.goto 4, 3) := by decide +kernel
theorem dX7_counting_99 : decode cX7_counting 99 = .ok (.iconst 0, 1) := by decide +kernel
theorem dX7_counting_100 : decode cX7_counting 100 = .ok (.iadd, 1) := by decide +kernel
theorem dX7_counting_101 : decode cX7_counting 101 = .ok (.istore 5, 2) := by decide +kernel
theorem dX7_counting_103 : decode cX7_counting 103 = .ok (.iinc 6 1, 3) := by decide +kernel
theorem dX7_counting_106 : decode cX7_counting 106 = .ok (.goto (-100), 3) := by decide +kernel
theorem dX7_counting_109 : decode cX7_counting 109 = .ok (.iload 5, 2) := by decide +kernel
theorem dX7_counting_111 : decode cX7_counting 111 = .ok (.ireturn, 1) := by decide +kernel
theorem dX7_injure_0 : decode cX7_injure 0 = .ok (.aload_n 0, 1) := by decide +kernel
theorem dX7_injure_1 : decode cX7_injure 1 = .ok (.getfield 7, 3) := by decide +kernel
theorem dX7_injure_4 : decode cX7_injure 4 = .ok (.bipush 9, 2) := by decide +kernel
theorem dX7_injure_6 : decode cX7_injure 6 = .ok (.iaload, 1) := by decide +kernel
theorem dX7_injure_7 : decode cX7_injure 7 = .ok (.bipush 12, 2) := by decide +kernel
theorem dX7_injure_9 : decode cX7_injure 9 = .ok (.if_icmp .ne 49, 3) := by decide +kernel
theorem dX7_injure_12 : decode cX7_injure 12 = .ok (.sipush 202, 3) := by decide +kernel
theorem dX7_injure_15 : decode cX7_injure 15 = .ok (.istore 4, 2) := by decide +kernel
theorem dX7_injure_17 : decode cX7_injure 17 = .ok (.iload 4, 2) := by decide +kernel
theorem dX7_injure_19 : decode cX7_injure 19 = .ok (.sipush 246, 3) := by decide +kernel
theorem dX7_injure_22 : decode cX7_injure 22 = .ok (.if_icmp .ge 25, 3) := by decide +kernel
theorem dX7_injure_25 : decode cX7_injure 25 = .ok (.aload_n 0, 1) := by decide +kernel
theorem dX7_injure_26 : decode cX7_injure 26 = .ok (.getfield 7, 3) := by decide +kernel
theorem dX7_injure_29 : decode cX7_injure 29 = .ok (.iload 4, 2) := by decide +kernel
theorem dX7_injure_31 : decode cX7_injure 31 = .ok (.aload_n 0, 1) := by decide +kernel
theorem dX7_injure_32 : decode cX7_injure 32 = .ok (.getfield 7, 3) := by decide +kernel
theorem dX7_injure_35 : decode cX7_injure 35 = .ok (.iload 4, 2) := by decide +kernel
theorem dX7_injure_37 : decode cX7_injure 37 = .ok (.iconst 4, 1) := by decide +kernel
theorem dX7_injure_38 : decode cX7_injure 38 = .ok (.iadd, 1) := by decide +kernel
theorem dX7_injure_39 : decode cX7_injure 39 = .ok (.iaload, 1) := by decide +kernel
theorem dX7_injure_40 : decode cX7_injure 40 = .ok (.iastore, 1) := by decide +kernel
theorem dX7_injure_41 : decode cX7_injure 41 = .ok (.iinc 4 1, 3) := by decide +kernel
theorem dX7_injure_44 : decode cX7_injure 44 = .ok (.goto (-27), 3) := by decide +kernel
theorem dX7_injure_47 : decode cX7_injure 47 = .ok (.aload_n 0, 1) := by decide +kernel
theorem dX7_injure_48 : decode cX7_injure 48 = .ok (.getfield 7, 3) := by decide +kernel
theorem dX7_injure_51 : decode cX7_injure 51 = .ok (.bipush 9, 2) := by decide +kernel
theorem dX7_injure_53 : decode cX7_injure 53 = .ok (.dup2, 1) := by decide +kernel
theorem dX7_injure_54 : decode cX7_injure 54 = .ok (.iaload, 1) := by decide +kernel
theorem dX7_injure_55 : decode cX7_injure 55 = .ok (.iconst 1, 1) := by decide +kernel
theorem dX7_injure_56 : decode cX7_injure 56 = .ok (.isub, 1) := by decide +kernel
theorem dX7_injure_57 : decode cX7_injure 57 = .ok (.iastore, 1) := by decide +kernel
theorem dX7_injure_58 : decode cX7_injure 58 = .ok (.sipush 202, 3) := by decide +kernel
theorem dX7_injure_61 : decode cX7_injure 61 = .ok (.iconst 4, 1) := by decide +kernel
theorem dX7_injure_62 : decode cX7_injure 62 = .ok (.aload_n 0, 1) := by decide +kernel
theorem dX7_injure_63 : decode cX7_injure 63 = .ok (.getfield 7, 3) := by decide +kernel
theorem dX7_injure_66 : decode cX7_injure 66 = .ok (.bipush 9, 2) := by decide +kernel
theorem dX7_injure_68 : decode cX7_injure 68 = .ok (.iaload, 1) := by decide +kernel
theorem dX7_injure_69 : decode cX7_injure 69 = .ok (.imul, 1) := by decide +kernel
theorem dX7_injure_70 : decode cX7_injure 70 = .ok (.iadd, 1) := by decide +kernel
theorem dX7_injure_71 : decode cX7_injure 71 = .ok (.istore 4, 2) := by decide +kernel
theorem dX7_injure_73 : decode cX7_injure 73 = .ok (.aload_n 0, 1) := by decide +kernel
theorem dX7_injure_74 : decode cX7_injure 74 = .ok (.getfield 7, 3) := by decide +kernel
theorem dX7_injure_77 : decode cX7_injure 77 = .ok (.iload 4, 2) := by decide +kernel
theorem dX7_injure_79 : decode cX7_injure 79 = .ok (.iconst 0, 1) := by decide +kernel
theorem dX7_injure_80 : decode cX7_injure 80 = .ok (.iadd, 1) := by decide +kernel
theorem dX7_injure_81 : decode cX7_injure 81 = .ok (.iload_n 1, 1) := by decide +kernel
theorem dX7_injure_82 : decode cX7_injure 82 = .ok (.iastore, 1) := by decide +kernel
theorem dX7_injure_83 : decode cX7_injure 83 = .ok (.aload_n 0, 1) := by decide +kernel
theorem dX7_injure_84 : decode cX7_injure 84 = .ok (.getfield 7, 3) := by decide +kernel
theorem dX7_injure_87 : decode cX7_injure 87 = .ok (.iload 4, 2) := by decide +kernel
theorem dX7_injure_89 : decode cX7_injure 89 = .ok (.iconst 1, 1) := by decide +kernel
theorem dX7_injure_90 : decode cX7_injure 90 = .ok (.iadd, 1) := by decide +kernel
theorem dX7_injure_91 : decode cX7_injure 91 = .ok (.iload_n 2, 1) := by decide +kernel
theorem dX7_injure_92 : decode cX7_injure 92 = .ok (.iastore, 1) := by decide +kernel
theorem dX7_injure_93 : decode cX7_injure 93 = .ok (.aload_n 0, 1) := by decide +kernel
theorem dX7_injure_94 : decode cX7_injure 94 = .ok (.getfield 7, 3) := by decide +kernel
theorem dX7_injure_97 : decode cX7_injure 97 = .ok (.iload 4, 2) := by decide +kernel
theorem dX7_injure_99 : decode cX7_injure 99 = .ok (.iconst 2, 1) := by decide +kernel
theorem dX7_injure_100 : decode cX7_injure 100 = .ok (.iadd, 1) := by decide +kernel
theorem dX7_injure_101 : decode cX7_injure 101 = .ok (.aload_n 0, 1) := by decide +kernel
theorem dX7_injure_102 : decode cX7_injure 102 = .ok (.getfield 7, 3) := by decide +kernel
theorem dX7_injure_105 : decode cX7_injure 105 = .ok (.iconst 0, 1) := by decide +kernel
theorem dX7_injure_106 : decode cX7_injure 106 = .ok (.iaload, 1) := by decide +kernel
theorem dX7_injure_107 : decode cX7_injure 107 = .ok (.iastore, 1) := by decide +kernel
theorem dX7_injure_108 : decode cX7_injure 108 = .ok (.aload_n 0, 1) := by decide +kernel
theorem dX7_injure_109 : decode cX7_injure 109 = .ok (.getfield 7, 3) := by decide +kernel
theorem dX7_injure_112 : decode cX7_injure 112 = .ok (.iload 4, 2) := by decide +kernel
theorem dX7_injure_114 : decode cX7_injure 114 = .ok (.iconst 3, 1) := by decide +kernel
theorem dX7_injure_115 : decode cX7_injure 115 = .ok (.iadd, 1) := by decide +kernel
theorem dX7_injure_116 : decode cX7_injure 116 = .ok (.aload_n 0, 1) := by decide +kernel
theorem dX7_injure_117 : decode cX7_injure 117 = .ok (.getfield 7, 3) := by decide +kernel
theorem dX7_injure_120 : decode cX7_injure 120 = .ok (.iconst 0, 1) := by decide +kernel
theorem dX7_injure_121 : decode cX7_injure 121 = .ok (.iaload, 1) := by decide +kernel
theorem dX7_injure_122 : decode cX7_injure 122 = .ok (.iload_n 3, 1) := by decide +kernel
theorem dX7_injure_123 : decode cX7_injure 123 = .ok (.iadd, 1) := by decide +kernel
theorem dX7_injure_124 : decode cX7_injure 124 = .ok (.iconst 1, 1) := by decide +kernel
theorem dX7_injure_125 : decode cX7_injure 125 = .ok (.isub, 1) := by decide +kernel
theorem dX7_injure_126 : decode cX7_injure 126 = .ok (.iastore, 1) := by decide +kernel
theorem dX7_injure_127 : decode cX7_injure 127 = .ok (.aload_n 0, 1) := by decide +kernel
theorem dX7_injure_128 : decode cX7_injure 128 = .ok (.getfield 7, 3) := by decide +kernel
theorem dX7_injure_131 : decode cX7_injure 131 = .ok (.bipush 9, 2) := by decide +kernel
theorem dX7_injure_133 : decode cX7_injure 133 = .ok (.dup2, 1) := by decide +kernel
theorem dX7_injure_134 : decode cX7_injure 134 = .ok (.iaload, 1) := by decide +kernel
theorem dX7_injure_135 : decode cX7_injure 135 = .ok (.iconst 1, 1) := by decide +kernel
theorem dX7_injure_136 : decode cX7_injure 136 = .ok (.iadd, 1) := by decide +kernel
theorem dX7_injure_137 : decode cX7_injure 137 = .ok (.iastore, 1) := by decide +kernel
theorem dX7_injure_138 : decode cX7_injure 138 = .ok (.aload_n 0, 1) := by decide +kernel
theorem dX7_injure_139 : decode cX7_injure 139 = .ok (.getfield 7, 3) := by decide +kernel
theorem dX7_injure_142 : decode cX7_injure 142 = .ok (.bipush 6, 2) := by decide +kernel
theorem dX7_injure_144 : decode cX7_injure 144 = .ok (.dup2, 1) := by decide +kernel
theorem dX7_injure_145 : decode cX7_injure 145 = .ok (.iaload, 1) := by decide +kernel
theorem dX7_injure_146 : decode cX7_injure 146 = .ok (.iconst 1, 1) := by decide +kernel
theorem dX7_injure_147 : decode cX7_injure 147 = .ok (.iadd, 1) := by decide +kernel
theorem dX7_injure_148 : decode cX7_injure 148 = .ok (.iastore, 1) := by decide +kernel
theorem dX7_injure_149 : decode cX7_injure 149 = .ok (.return_, 1) := by decide +kernel
theorem dX7_doesRehearse_0 : decode cX7_doesRehearse 0 = .ok (.aload_n 0, 1) := by decide +kernel
theorem dX7_doesRehearse_1 : decode cX7_doesRehearse 1 = .ok (.getfield 7, 3) := by decide +kernel
theorem dX7_doesRehearse_4 : decode cX7_doesRehearse 4 = .ok (.bipush 7, 2) := by decide +kernel
theorem dX7_doesRehearse_6 : decode cX7_doesRehearse 6 = .ok (.dup2, 1) := by decide +kernel
theorem dX7_doesRehearse_7 : decode cX7_doesRehearse 7 = .ok (.iaload, 1) := by decide +kernel
theorem dX7_doesRehearse_8 : decode cX7_doesRehearse 8 = .ok (.iconst 1, 1) := by decide +kernel
theorem dX7_doesRehearse_9 : decode cX7_doesRehearse 9 = .ok (.iadd, 1) := by decide +kernel
theorem dX7_doesRehearse_10 : decode cX7_doesRehearse 10 = .ok (.iastore, 1) := by decide +kernel
theorem dX7_doesRehearse_11 : decode cX7_doesRehearse 11 = .ok (.aload_n 0, 1) := by decide +kernel
theorem dX7_doesRehearse_12 : decode cX7_doesRehearse 12 = .ok (.getfield 7, 3) := by decide +kernel
theorem dX7_doesRehearse_15 : decode cX7_doesRehearse 15 = .ok (.bipush 34, 2) := by decide +kernel
theorem dX7_doesRehearse_17 : decode cX7_doesRehearse 17 = .ok (.iload_n 1, 1) := by decide +kernel
theorem dX7_doesRehearse_18 : decode cX7_doesRehearse 18 = .ok (.iadd, 1) := by decide +kernel
theorem dX7_doesRehearse_19 : decode cX7_doesRehearse 19 = .ok (.dup2, 1) := by decide +kernel
theorem dX7_doesRehearse_20 : decode cX7_doesRehearse 20 = .ok (.iaload, 1) := by decide +kernel
theorem dX7_doesRehearse_21 : decode cX7_doesRehearse 21 = .ok (.iconst 1, 1) := by decide +kernel
theorem dX7_doesRehearse_22 : decode cX7_doesRehearse 22 = .ok (.iadd, 1) := by decide +kernel
theorem dX7_doesRehearse_23 : decode cX7_doesRehearse 23 = .ok (.iastore, 1) := by decide +kernel
theorem dX7_doesRehearse_24 : decode cX7_doesRehearse 24 = .ok (.aload_n 0, 1) := by decide +kernel
theorem dX7_doesRehearse_25 : decode cX7_doesRehearse 25 = .ok (.getfield 7, 3) := by decide +kernel
theorem dX7_doesRehearse_28 : decode cX7_doesRehearse 28 = .ok (.bipush 34, 2) := by decide +kernel
theorem dX7_doesRehearse_30 : decode cX7_doesRehearse 30 = .ok (.iload_n 1, 1) := by decide +kernel
theorem dX7_doesRehearse_31 : decode cX7_doesRehearse 31 = .ok (.iadd, 1) := by decide +kernel
theorem dX7_doesRehearse_32 : decode cX7_doesRehearse 32 = .ok (.iaload, 1) := by decide +kernel
theorem dX7_doesRehearse_33 : decode cX7_doesRehearse 33 = .ok (.iconst 3, 1) := by decide +kernel
theorem dX7_doesRehearse_34 : decode cX7_doesRehearse 34 = .ok (.if_icmp .le 17, 3) := by decide +kernel
theorem dX7_doesRehearse_37 : decode cX7_doesRehearse 37 = .ok (.aload_n 0, 1) := by decide +kernel
theorem dX7_doesRehearse_38 : decode cX7_doesRehearse 38 = .ok (.iload_n 1, 1) := by decide +kernel
theorem dX7_doesRehearse_39 : decode cX7_doesRehearse 39 = .ok (.iload_n 2, 1) := by decide +kernel
theorem dX7_doesRehearse_40 : decode cX7_doesRehearse 40 = .ok (.invokestatic 56, 3) := by decide +kernel
theorem dX7_doesRehearse_43 : decode cX7_doesRehearse 43 = .ok (.iconst 2, 1) := by decide +kernel
theorem dX7_doesRehearse_44 : decode cX7_doesRehearse 44 = .ok (.iload_n 3, 1) := by decide +kernel
theorem dX7_doesRehearse_45 : decode cX7_doesRehearse 45 = .ok (.imul, 1) := by decide +kernel
theorem dX7_doesRehearse_46 : decode cX7_doesRehearse 46 = .ok (.invokevirtual 59, 3) := by decide +kernel
theorem dX7_doesRehearse_49 : decode cX7_doesRehearse 49 = .ok (.iconst 0, 1) := by decide +kernel
theorem dX7_doesRehearse_50 : decode cX7_doesRehearse 50 = .ok (.ireturn, 1) := by decide +kernel
theorem dX7_doesRehearse_51 : decode cX7_doesRehearse 51 = .ok (.aload_n 0, 1) := by decide +kernel
theorem dX7_doesRehearse_52 : decode cX7_doesRehearse 52 = .ok (.getfield 7, 3) := by decide +kernel
theorem dX7_doesRehearse_55 : decode cX7_doesRehearse 55 = .ok (.bipush 8, 2) := by decide +kernel
theorem dX7_doesRehearse_57 : decode cX7_doesRehearse 57 = .ok (.iaload, 1) := by decide +kernel
theorem dX7_doesRehearse_58 : decode cX7_doesRehearse 58 = .ok (.bipush 40, 2) := by decide +kernel
theorem dX7_doesRehearse_60 : decode cX7_doesRehearse 60 = .ok (.if_icmp .ne 48, 3) := by decide +kernel
theorem dX7_doesRehearse_63 : decode cX7_doesRehearse 63 = .ok (.bipush 42, 2) := by decide +kernel
theorem dX7_doesRehearse_65 : decode cX7_doesRehearse 65 = .ok (.istore 4, 2) := by decide +kernel
theorem dX7_doesRehearse_67 : decode cX7_doesRehearse 67 = .ok (.iload 4, 2) := by decide +kernel
theorem dX7_doesRehearse_69 : decode cX7_doesRehearse 69 = .ok (.sipush 198, 3) := by decide +kernel
theorem dX7_doesRehearse_72 : decode cX7_doesRehearse 72 = .ok (.if_icmp .ge 25, 3) := by decide +kernel
theorem dX7_doesRehearse_75 : decode cX7_doesRehearse 75 = .ok (.aload_n 0, 1) := by decide +kernel
theorem dX7_doesRehearse_76 : decode cX7_doesRehearse 76 = .ok (.getfield 7, 3) := by decide +kernel
theorem dX7_doesRehearse_79 : decode cX7_doesRehearse 79 = .ok (.iload 4, 2) := by decide +kernel
theorem dX7_doesRehearse_81 : decode cX7_doesRehearse 81 = .ok (.aload_n 0, 1) := by decide +kernel
theorem dX7_doesRehearse_82 : decode cX7_doesRehearse 82 = .ok (.getfield 7, 3) := by decide +kernel
theorem dX7_doesRehearse_85 : decode cX7_doesRehearse 85 = .ok (.iload 4, 2) := by decide +kernel
theorem dX7_doesRehearse_87 : decode cX7_doesRehearse 87 = .ok (.iconst 4, 1) := by decide +kernel
theorem dX7_doesRehearse_88 : decode cX7_doesRehearse 88 = .ok (.iadd, 1) := by decide +kernel
theorem dX7_doesRehearse_89 : decode cX7_doesRehearse 89 = .ok (.iaload, 1) := by decide +kernel
theorem dX7_doesRehearse_90 : decode cX7_doesRehearse 90 = .ok (.iastore, 1) := by decide +kernel
theorem dX7_doesRehearse_91 : decode cX7_doesRehearse 91 = .ok (.iinc 4 1, 3) := by decide +kernel
theorem dX7_doesRehearse_94 : decode cX7_doesRehearse 94 = .ok (.goto (-27), 3) := by decide +kernel
theorem dX7_doesRehearse_97 : decode cX7_doesRehearse 97 = .ok (.aload_n 0, 1) := by decide +kernel
theorem dX7_doesRehearse_98 : decode cX7_doesRehearse 98 = .ok (.getfield 7, 3) := by decide +kernel
theorem dX7_doesRehearse_101 : decode cX7_doesRehearse 101 = .ok (.bipush 8, 2) := by decide +kernel
theorem dX7_doesRehearse_103 : decode cX7_doesRehearse 103 = .ok (.dup2, 1) := by decide +kernel
theorem dX7_doesRehearse_104 : decode cX7_doesRehearse 104 = .ok (.iaload, 1) := by decide +kernel
theorem dX7_doesRehearse_105 : decode cX7_doesRehearse 105 = .ok (.iconst 1, 1) := by decide +kernel
theorem dX7_doesRehearse_106 : decode cX7_doesRehearse 106 = .ok (.isub, 1) := by decide +kernel
theorem dX7_doesRehearse_107 : decode cX7_doesRehearse 107 = .ok (.iastore, 1) := by decide +kernel
theorem dX7_doesRehearse_108 : decode cX7_doesRehearse 108 = .ok (.bipush 42, 2) := by decide +kernel
theorem dX7_doesRehearse_110 : decode cX7_doesRehearse 110 = .ok (.iconst 4, 1) := by decide +kernel
theorem dX7_doesRehearse_111 : decode cX7_doesRehearse 111 = .ok (.aload_n 0, 1) := by decide +kernel
theorem dX7_doesRehearse_112 : decode cX7_doesRehearse 112 = .ok (.getfield 7, 3) := by decide +kernel
theorem dX7_doesRehearse_115 : decode cX7_doesRehearse 115 = .ok (.bipush 8, 2) := by decide +kernel
theorem dX7_doesRehearse_117 : decode cX7_doesRehearse 117 = .ok (.iaload, 1) := by decide +kernel
theorem dX7_doesRehearse_118 : decode cX7_doesRehearse 118 = .ok (.imul, 1) := by decide +kernel
theorem dX7_doesRehearse_119 : decode cX7_doesRehearse 119 = .ok (.iadd, 1) := by decide +kernel
theorem dX7_doesRehearse_120 : decode cX7_doesRehearse 120 = .ok (.istore 4, 2) := by decide +kernel
theorem dX7_doesRehearse_122 : decode cX7_doesRehearse 122 = .ok (.aload_n 0, 1) := by decide +kernel
theorem dX7_doesRehearse_123 : decode cX7_doesRehearse 123 = .ok (.getfield 7, 3) := by decide +kernel
theorem dX7_doesRehearse_126 : decode cX7_doesRehearse 126 = .ok (.iload 4, 2) := by decide +kernel
theorem dX7_doesRehearse_128 : decode cX7_doesRehearse 128 = .ok (.iconst 0, 1) := by decide +kernel
theorem dX7_doesRehearse_129 : decode cX7_doesRehearse 129 = .ok (.iadd, 1) := by decide +kernel
theorem dX7_doesRehearse_130 : decode cX7_doesRehearse 130 = .ok (.iload_n 1, 1) := by decide +kernel
theorem dX7_doesRehearse_131 : decode cX7_doesRehearse 131 = .ok (.iastore, 1) := by decide +kernel
theorem dX7_doesRehearse_132 : decode cX7_doesRehearse 132 = .ok (.aload_n 0, 1) := by decide +kernel
theorem dX7_doesRehearse_133 : decode cX7_doesRehearse 133 = .ok (.getfield 7, 3) := by decide +kernel
theorem dX7_doesRehearse_136 : decode cX7_doesRehearse 136 = .ok (.iload 4, 2) := by decide +kernel
theorem dX7_doesRehearse_138 : decode cX7_doesRehearse 138 = .ok (.iconst 1, 1) := by decide +kernel
theorem dX7_doesRehearse_139 : decode cX7_doesRehearse 139 = .ok (.iadd, 1) := by decide +kernel
theorem dX7_doesRehearse_140 : decode cX7_doesRehearse 140 = .ok (.iload_n 2, 1) := by decide +kernel
theorem dX7_doesRehearse_141 : decode cX7_doesRehearse 141 = .ok (.iastore, 1) := by decide +kernel
theorem dX7_doesRehearse_142 : decode cX7_doesRehearse 142 = .ok (.aload_n 0, 1) := by decide +kernel
theorem dX7_doesRehearse_143 : decode cX7_doesRehearse 143 = .ok (.getfield 7, 3) := by decide +kernel
theorem dX7_doesRehearse_146 : decode cX7_doesRehearse 146 = .ok (.iload 4, 2) := by decide +kernel
theorem dX7_doesRehearse_148 : decode cX7_doesRehearse 148 = .ok (.iconst 2, 1) := by decide +kernel
theorem dX7_doesRehearse_149 : decode cX7_doesRehearse 149 = .ok (.iadd, 1) := by decide +kernel
theorem dX7_doesRehearse_150 : decode cX7_doesRehearse 150 = .ok (.iload_n 3, 1) := by decide +kernel
theorem dX7_doesRehearse_151 : decode cX7_doesRehearse 151 = .ok (.iastore, 1) := by decide +kernel
theorem dX7_doesRehearse_152 : decode cX7_doesRehearse 152 = .ok (.aload_n 0, 1) := by decide +kernel
theorem dX7_doesRehearse_153 : decode cX7_doesRehearse 153 = .ok (.getfield 7, 3) := by decide +kernel
theorem dX7_doesRehearse_156 : decode cX7_doesRehearse 156 = .ok (.iload 4, 2) := by decide +kernel
theorem dX7_doesRehearse_158 : decode cX7_doesRehearse 158 = .ok (.iconst 3, 1) := by decide +kernel
theorem dX7_doesRehearse_159 : decode cX7_doesRehearse 159 = .ok (.iadd, 1) := by decide +kernel
theorem dX7_doesRehearse_160 : decode cX7_doesRehearse 160 = .ok (.aload_n 0, 1) := by decide +kernel
theorem dX7_doesRehearse_161 : decode cX7_doesRehearse 161 = .ok (.getfield 7, 3) := by decide +kernel
theorem dX7_doesRehearse_164 : decode cX7_doesRehearse 164 = .ok (.iconst 0, 1) := by decide +kernel
theorem dX7_doesRehearse_165 : decode cX7_doesRehearse 165 = .ok (.iaload, 1) := by decide +kernel
theorem dX7_doesRehearse_166 : decode cX7_doesRehearse 166 = .ok (.iastore, 1) := by decide +kernel
theorem dX7_doesRehearse_167 : decode cX7_doesRehearse 167 = .ok (.aload_n 0, 1) := by decide +kernel
theorem dX7_doesRehearse_168 : decode cX7_doesRehearse 168 = .ok (.getfield 7, 3) := by decide +kernel
theorem dX7_doesRehearse_171 : decode cX7_doesRehearse 171 = .ok (.bipush 8, 2) := by decide +kernel
theorem dX7_doesRehearse_173 : decode cX7_doesRehearse 173 = .ok (.dup2, 1) := by decide +kernel
theorem dX7_doesRehearse_174 : decode cX7_doesRehearse 174 = .ok (.iaload, 1) := by decide +kernel
theorem dX7_doesRehearse_175 : decode cX7_doesRehearse 175 = .ok (.iconst 1, 1) := by decide +kernel
theorem dX7_doesRehearse_176 : decode cX7_doesRehearse 176 = .ok (.iadd, 1) := by decide +kernel
theorem dX7_doesRehearse_177 : decode cX7_doesRehearse 177 = .ok (.iastore, 1) := by decide +kernel
theorem dX7_doesRehearse_178 : decode cX7_doesRehearse 178 = .ok (.iconst 1, 1) := by decide +kernel
theorem dX7_doesRehearse_179 : decode cX7_doesRehearse 179 = .ok (.ireturn, 1) := by decide +kernel
theorem dX7_doesPass_0 : decode cX7_doesPass 0 = .ok (.aload_n 0, 1) := by decide +kernel
theorem dX7_doesPass_1 : decode cX7_doesPass 1 = .ok (.getfield 7, 3) := by decide +kernel
theorem dX7_doesPass_4 : decode cX7_doesPass 4 = .ok (.iconst 0, 1) := by decide +kernel
theorem dX7_doesPass_5 : decode cX7_doesPass 5 = .ok (.dup2, 1) := by decide +kernel
theorem dX7_doesPass_6 : decode cX7_doesPass 6 = .ok (.iaload, 1) := by decide +kernel
theorem dX7_doesPass_7 : decode cX7_doesPass 7 = .ok (.iload_n 1, 1) := by decide +kernel
theorem dX7_doesPass_8 : decode cX7_doesPass 8 = .ok (.iadd, 1) := by decide +kernel
theorem dX7_doesPass_9 : decode cX7_doesPass 9 = .ok (.iastore, 1) := by decide +kernel
theorem dX7_doesPass_10 : decode cX7_doesPass 10 = .ok (.iconst 0, 1) := by decide +kernel
theorem dX7_doesPass_11 : decode cX7_doesPass 11 = .ok (.istore_n 2, 1) := by decide +kernel
theorem dX7_doesPass_12 : decode cX7_doesPass 12 = .ok (.iload_n 2, 1) := by decide +kernel
theorem dX7_doesPass_13 : decode cX7_doesPass 13 = .ok (.bipush 8, 2) := by decide +kernel
theorem dX7_doesPass_15 : decode cX7_doesPass 15 = .ok (.if_icmp .ge 19, 3) := by decide +kernel
theorem dX7_doesPass_18 : decode cX7_doesPass 18 = .ok (.aload_n 0, 1) := by decide +kernel
theorem dX7_doesPass_19 : decode cX7_doesPass 19 = .ok (.getfield 7, 3) := by decide +kernel
theorem dX7_doesPass_22 : decode cX7_doesPass 22 = .ok (.bipush 34, 2) := by decide +kernel
theorem dX7_doesPass_24 : decode cX7_doesPass 24 = .ok (.iload_n 2, 1) := by decide +kernel
theorem dX7_doesPass_25 : decode cX7_doesPass 25 = .ok (.iadd, 1) := by decide +kernel
theorem dX7_doesPass_26 : decode cX7_doesPass 26 = .ok (.iconst 0, 1) := by decide +kernel
theorem dX7_doesPass_27 : decode cX7_doesPass 27 = .ok (.iastore, 1) := by decide +kernel
theorem dX7_doesPass_28 : decode cX7_doesPass 28 = .ok (.iinc 2 1, 3) := by decide +kernel
theorem dX7_doesPass_31 : decode cX7_doesPass 31 = .ok (.goto (-19), 3) := by decide +kernel
theorem dX7_doesPass_34 : decode cX7_doesPass 34 = .ok (.aload_n 0, 1) := by decide +kernel
theorem dX7_doesPass_35 : decode cX7_doesPass 35 = .ok (.getfield 7, 3) := by decide +kernel
theorem dX7_doesPass_38 : decode cX7_doesPass 38 = .ok (.iconst 0, 1) := by decide +kernel
theorem dX7_doesPass_39 : decode cX7_doesPass 39 = .ok (.iaload, 1) := by decide +kernel
theorem dX7_doesPass_40 : decode cX7_doesPass 40 = .ok (.ireturn, 1) := by decide +kernel
theorem dX7_ofScene_0 : decode cX7_ofScene 0 = .ok (.aload_n 0, 1) := by decide +kernel
theorem dX7_ofScene_1 : decode cX7_ofScene 1 = .ok (.getfield 7, 3) := by decide +kernel
theorem dX7_ofScene_4 : decode cX7_ofScene 4 = .ok (.sipush 250, 3) := by decide +kernel
theorem dX7_ofScene_7 : decode cX7_ofScene 7 = .ok (.iconst 5, 1) := by decide +kernel
theorem dX7_ofScene_8 : decode cX7_ofScene 8 = .ok (.iload_n 1, 1) := by decide +kernel
theorem dX7_ofScene_9 : decode cX7_ofScene 9 = .ok (.imul, 1) := by decide +kernel
theorem dX7_ofScene_10 : decode cX7_ofScene 10 = .ok (.iadd, 1) := by decide +kernel
theorem dX7_ofScene_11 : decode cX7_ofScene 11 = .ok (.iload_n 2, 1) := by decide +kernel
theorem dX7_ofScene_12 : decode cX7_ofScene 12 = .ok (.iadd, 1) := by decide +kernel
theorem dX7_ofScene_13 : decode cX7_ofScene 13 = .ok (.iaload, 1) := by decide +kernel
theorem dX7_ofScene_14 : decode cX7_ofScene 14 = .ok (.ireturn, 1) := by decide +kernel
theorem dX7_distance_0 : decode cX7_distance 0 = .ok (.aload_n 0, 1) := by decide +kernel
theorem dX7_distance_1 : decode cX7_distance 1 = .ok (.getfield 7, 3) := by decide +kernel
theorem dX7_distance_4 : decode cX7_distance 4 = .ok (.bipush 10, 2) := by decide +kernel
theorem dX7_distance_6 : decode cX7_distance 6 = .ok (.iload_n 1, 1) := by decide +kernel
theorem dX7_distance_7 : decode cX7_distance 7 = .ok (.iadd, 1) := by decide +kernel
theorem dX7_distance_8 : decode cX7_distance 8 = .ok (.iaload, 1) := by decide +kernel
theorem dX7_distance_9 : decode cX7_distance 9 = .ok (.aload_n 0, 1) := by decide +kernel
theorem dX7_distance_10 : decode cX7_distance 10 = .ok (.getfield 7, 3) := by decide +kernel
theorem dX7_distance_13 : decode cX7_distance 13 = .ok (.bipush 10, 2) := by decide +kernel
theorem dX7_distance_15 : decode cX7_distance 15 = .ok (.iload_n 2, 1) := by decide +kernel
theorem dX7_distance_16 : decode cX7_distance 16 = .ok (.iadd, 1) := by decide +kernel
theorem dX7_distance_17 : decode cX7_distance 17 = .ok (.iaload, 1) := by decide +kernel
theorem dX7_distance_18 : decode cX7_distance 18 = .ok (.isub, 1) := by decide +kernel
theorem dX7_distance_19 : decode cX7_distance 19 = .ok (.istore_n 3, 1) := by decide +kernel
theorem dX7_distance_20 : decode cX7_distance 20 = .ok (.iload_n 3, 1) := by decide +kernel
theorem dX7_distance_21 : decode cX7_distance 21 = .ok (.ifCond .ge 8, 3) := by decide +kernel
theorem dX7_distance_24 : decode cX7_distance 24 = .ok (.iload_n 3, 1) := by decide +kernel
theorem dX7_distance_25 : decode cX7_distance 25 = .ok (.ineg, 1) := by decide +kernel
theorem dX7_distance_26 : decode cX7_distance 26 = .ok (.goto 4, 3) := by decide +kernel
theorem dX7_distance_29 : decode cX7_distance 29 = .ok (.iload_n 3, 1) := by decide +kernel
theorem dX7_distance_30 : decode cX7_distance 30 = .ok (.ireturn, 1) := by decide +kernel
theorem dX7_insuredStep_0 : decode cX7_insuredStep 0 = .ok (.iload_n 1, 1) := by decide +kernel
theorem dX7_insuredStep_1 : decode cX7_insuredStep 1 = .ok (.aload_n 0, 1) := by decide +kernel
theorem dX7_insuredStep_2 : decode cX7_insuredStep 2 = .ok (.getfield 7, 3) := by decide +kernel
theorem dX7_insuredStep_5 : decode cX7_insuredStep 5 = .ok (.iconst 3, 1) := by decide +kernel
theorem dX7_insuredStep_6 : decode cX7_insuredStep 6 = .ok (.iaload, 1) := by decide +kernel
theorem dX7_insuredStep_7 : decode cX7_insuredStep 7 = .ok (.if_icmp .gt 12, 3) := by decide +kernel
theorem dX7_insuredStep_10 : decode cX7_insuredStep 10 = .ok (.aload_n 0, 1) := by decide +kernel
theorem dX7_insuredStep_11 : decode cX7_insuredStep 11 = .ok (.getfield 7, 3) := by decide +kernel
theorem dX7_insuredStep_14 : decode cX7_insuredStep 14 = .ok (.iconst 2, 1) := by decide +kernel
theorem dX7_insuredStep_15 : decode cX7_insuredStep 15 = .ok (.iaload, 1) := by decide +kernel
theorem dX7_insuredStep_16 : decode cX7_insuredStep 16 = .ok (.goto 4, 3) := by decide +kernel
theorem dX7_insuredStep_19 : decode cX7_insuredStep 19 = .ok (.iconst 0, 1) := by decide +kernel
theorem dX7_insuredStep_20 : decode cX7_insuredStep 20 = .ok (.ireturn, 1) := by decide +kernel
theorem dX7_hasRested_0 : decode cX7_hasRested 0 = .ok (.aload_n 0, 1) := by decide +kernel
theorem dX7_hasRested_1 : decode cX7_hasRested 1 = .ok (.getfield 7, 3) := by decide +kernel
theorem dX7_hasRested_4 : decode cX7_hasRested 4 = .ok (.bipush 18, 2) := by decide +kernel
theorem dX7_hasRested_6 : decode cX7_hasRested 6 = .ok (.iload_n 1, 1) := by decide +kernel
theorem dX7_hasRested_7 : decode cX7_hasRested 7 = .ok (.iadd, 1) := by decide +kernel
theorem dX7_hasRested_8 : decode cX7_hasRested 8 = .ok (.iaload, 1) := by decide +kernel
theorem dX7_hasRested_9 : decode cX7_hasRested 9 = .ok (.istore_n 3, 1) := by decide +kernel
theorem dX7_hasRested_10 : decode cX7_hasRested 10 = .ok (.iload_n 3, 1) := by decide +kernel
theorem dX7_hasRested_11 : decode cX7_hasRested 11 = .ok (.iconst (-1), 1) := by decide +kernel
theorem dX7_hasRested_12 : decode cX7_hasRested 12 = .ok (.if_icmp .eq 15, 3) := by decide +kernel
theorem dX7_hasRested_15 : decode cX7_hasRested 15 = .ok (.iload_n 3, 1) := by decide +kernel
theorem dX7_hasRested_16 : decode cX7_hasRested 16 = .ok (.iload_n 2, 1) := by decide +kernel
theorem dX7_hasRested_17 : decode cX7_hasRested 17 = .ok (.if_icmp .eq 14, 3) := by decide +kernel
theorem dX7_hasRested_20 : decode cX7_hasRested 20 = .ok (.iload_n 3, 1) := by decide +kernel
theorem dX7_hasRested_21 : decode cX7_hasRested 21 = .ok (.iload_n 2, 1) := by decide +kernel
theorem dX7_hasRested_22 : decode cX7_hasRested 22 = .ok (.iconst 1, 1) := by decide +kernel
theorem dX7_hasRested_23 : decode cX7_hasRested 23 = .ok (.isub, 1) := by decide +kernel
theorem dX7_hasRested_24 : decode cX7_hasRested 24 = .ok (.if_icmp .eq 7, 3) := by decide +kernel
theorem dX7_hasRested_27 : decode cX7_hasRested 27 = .ok (.iconst 1, 1) := by decide +kernel
theorem dX7_hasRested_28 : decode cX7_hasRested 28 = .ok (.goto 4, 3) := by decide +kernel
theorem dX7_hasRested_31 : decode cX7_hasRested 31 = .ok (.iconst 0, 1) := by decide +kernel
theorem dX7_hasRested_32 : decode cX7_hasRested 32 = .ok (.ireturn, 1) := by decide +kernel
theorem dX7_lacks_0 : decode cX7_lacks 0 = .ok (.aload_n 0, 1) := by decide +kernel
theorem dX7_lacks_1 : decode cX7_lacks 1 = .ok (.iload_n 1, 1) := by decide +kernel
theorem dX7_lacks_2 : decode cX7_lacks 2 = .ok (.iconst 0, 1) := by decide +kernel
theorem dX7_lacks_3 : decode cX7_lacks 3 = .ok (.invokevirtual 63, 3) := by decide +kernel
theorem dX7_lacks_6 : decode cX7_lacks 6 = .ok (.istore 4, 2) := by decide +kernel
theorem dX7_lacks_8 : decode cX7_lacks 8 = .ok (.aload_n 0, 1) := by decide +kernel
theorem dX7_lacks_9 : decode cX7_lacks 9 = .ok (.iload_n 1, 1) := by decide +kernel
theorem dX7_lacks_10 : decode cX7_lacks 10 = .ok (.iconst 1, 1) := by decide +kernel
theorem dX7_lacks_11 : decode cX7_lacks 11 = .ok (.invokevirtual 63, 3) := by decide +kernel
theorem dX7_lacks_14 : decode cX7_lacks 14 = .ok (.istore 5, 2) := by decide +kernel
theorem dX7_lacks_16 : decode cX7_lacks 16 = .ok (.iload 4, 2) := by decide +kernel
theorem dX7_lacks_18 : decode cX7_lacks 18 = .ok (.iload 5, 2) := by decide +kernel
theorem dX7_lacks_20 : decode cX7_lacks 20 = .ok (.invokestatic 66, 3) := by decide +kernel
theorem dX7_lacks_23 : decode cX7_lacks 23 = .ok (.aload_n 0, 1) := by decide +kernel
theorem dX7_lacks_24 : decode cX7_lacks 24 = .ok (.iload_n 2, 1) := by decide +kernel
theorem dX7_lacks_25 : decode cX7_lacks 25 = .ok (.iload 4, 2) := by decide +kernel
theorem dX7_lacks_27 : decode cX7_lacks 27 = .ok (.iload 5, 2) := by decide +kernel
theorem dX7_lacks_29 : decode cX7_lacks 29 = .ok (.iload_n 3, 1) := by decide +kernel
theorem dX7_lacks_30 : decode cX7_lacks 30 = .ok (.invokevirtual 69, 3) := by decide +kernel
theorem dX7_lacks_33 : decode cX7_lacks 33 = .ok (.isub, 1) := by decide +kernel
theorem dX7_lacks_34 : decode cX7_lacks 34 = .ok (.istore 6, 2) := by decide +kernel
theorem dX7_lacks_36 : decode cX7_lacks 36 = .ok (.iload 6, 2) := by decide +kernel
theorem dX7_lacks_38 : decode cX7_lacks 38 = .ok (.ifCond .le 8, 3) := by decide +kernel
theorem dX7_lacks_41 : decode cX7_lacks 41 = .ok (.iload 6, 2) := by decide +kernel
theorem dX7_lacks_43 : decode cX7_lacks 43 = .ok (.goto 4, 3) := by decide +kernel
theorem dX7_lacks_46 : decode cX7_lacks 46 = .ok (.iconst 0, 1) := by decide +kernel
theorem dX7_lacks_47 : decode cX7_lacks 47 = .ok (.ireturn, 1) := by decide +kernel
theorem dX7_reason_0 : decode cX7_reason 0 = .ok (.aload_n 0, 1) := by decide +kernel
theorem dX7_reason_1 : decode cX7_reason 1 = .ok (.iload_n 1, 1) := by decide +kernel
theorem dX7_reason_2 : decode cX7_reason 2 = .ok (.iconst 3, 1) := by decide +kernel
theorem dX7_reason_3 : decode cX7_reason 3 = .ok (.invokevirtual 63, 3) := by decide +kernel
theorem dX7_reason_6 : decode cX7_reason 6 = .ok (.iconst (-1), 1) := by decide +kernel
theorem dX7_reason_7 : decode cX7_reason 7 = .ok (.if_icmp .eq 5, 3) := by decide +kernel
theorem dX7_reason_10 : decode cX7_reason 10 = .ok (.iconst 1, 1) := by decide +kernel
theorem dX7_reason_11 : decode cX7_reason 11 = .ok (.ireturn, 1) := by decide +kernel
theorem dX7_reason_12 : decode cX7_reason 12 = .ok (.aload_n 0, 1) := by decide +kernel
theorem dX7_reason_13 : decode cX7_reason 13 = .ok (.iload_n 2, 1) := by decide +kernel
theorem dX7_reason_14 : decode cX7_reason 14 = .ok (.aload_n 0, 1) := by decide +kernel
theorem dX7_reason_15 : decode cX7_reason 15 = .ok (.iload_n 1, 1) := by decide +kernel
theorem dX7_reason_16 : decode cX7_reason 16 = .ok (.iconst 2, 1) := by decide +kernel
theorem dX7_reason_17 : decode cX7_reason 17 = .ok (.invokevirtual 63, 3) := by decide +kernel
theorem dX7_reason_20 : decode cX7_reason 20 = .ok (.invokevirtual 73, 3) := by decide +kernel
theorem dX7_reason_23 : decode cX7_reason 23 = .ok (.iconst 5, 1) := by decide +kernel
theorem dX7_reason_24 : decode cX7_reason 24 = .ok (.if_icmp .le 5, 3) := by decide +kernel
theorem dX7_reason_27 : decode cX7_reason 27 = .ok (.iconst 2, 1) := by decide +kernel
theorem dX7_reason_28 : decode cX7_reason 28 = .ok (.ireturn, 1) := by decide +kernel
theorem dX7_reason_29 : decode cX7_reason 29 = .ok (.aload_n 0, 1) := by decide +kernel
theorem dX7_reason_30 : decode cX7_reason 30 = .ok (.iload_n 3, 1) := by decide +kernel
theorem dX7_reason_31 : decode cX7_reason 31 = .ok (.invokevirtual 76, 3) := by decide +kernel
theorem dX7_reason_34 : decode cX7_reason 34 = .ok (.aload_n 0, 1) := by decide +kernel
theorem dX7_reason_35 : decode cX7_reason 35 = .ok (.iload_n 1, 1) := by decide +kernel
theorem dX7_reason_36 : decode cX7_reason 36 = .ok (.iconst 1, 1) := by decide +kernel
theorem dX7_reason_37 : decode cX7_reason 37 = .ok (.invokevirtual 63, 3) := by decide +kernel
theorem dX7_reason_40 : decode cX7_reason 40 = .ok (.if_icmp .ge 5, 3) := by decide +kernel
theorem dX7_reason_43 : decode cX7_reason 43 = .ok (.iconst 3, 1) := by decide +kernel
theorem dX7_reason_44 : decode cX7_reason 44 = .ok (.ireturn, 1) := by decide +kernel
theorem dX7_reason_45 : decode cX7_reason 45 = .ok (.aload_n 0, 1) := by decide +kernel
theorem dX7_reason_46 : decode cX7_reason 46 = .ok (.iload_n 2, 1) := by decide +kernel
theorem dX7_reason_47 : decode cX7_reason 47 = .ok (.aload_n 0, 1) := by decide +kernel
theorem dX7_reason_48 : decode cX7_reason 48 = .ok (.iload_n 1, 1) := by decide +kernel
theorem dX7_reason_49 : decode cX7_reason 49 = .ok (.iconst 0, 1) := by decide +kernel
theorem dX7_reason_50 : decode cX7_reason 50 = .ok (.invokevirtual 63, 3) := by decide +kernel
theorem dX7_reason_53 : decode cX7_reason 53 = .ok (.iload_n 3, 1) := by decide +kernel
theorem dX7_reason_54 : decode cX7_reason 54 = .ok (.invokevirtual 47, 3) := by decide +kernel
theorem dX7_reason_57 : decode cX7_reason 57 = .ok (.ifCond .eq 5, 3) := by decide +kernel
theorem dX7_reason_60 : decode cX7_reason 60 = .ok (.iconst 4, 1) := by decide +kernel
theorem dX7_reason_61 : decode cX7_reason 61 = .ok (.ireturn, 1) := by decide +kernel
theorem dX7_reason_62 : decode cX7_reason 62 = .ok (.aload_n 0, 1) := by decide +kernel
theorem dX7_reason_63 : decode cX7_reason 63 = .ok (.iload_n 2, 1) := by decide +kernel
theorem dX7_reason_64 : decode cX7_reason 64 = .ok (.iload_n 3, 1) := by decide +kernel
theorem dX7_reason_65 : decode cX7_reason 65 = .ok (.invokevirtual 79, 3) := by decide +kernel
theorem dX7_reason_68 : decode cX7_reason 68 = .ok (.ifCond .ne 5, 3) := by decide +kernel
theorem dX7_reason_71 : decode cX7_reason 71 = .ok (.iconst 5, 1) := by decide +kernel
theorem dX7_reason_72 : decode cX7_reason 72 = .ok (.ireturn, 1) := by decide +kernel
theorem dX7_reason_73 : decode cX7_reason 73 = .ok (.aload_n 0, 1) := by decide +kernel
theorem dX7_reason_74 : decode cX7_reason 74 = .ok (.iload_n 1, 1) := by decide +kernel
theorem dX7_reason_75 : decode cX7_reason 75 = .ok (.iload_n 2, 1) := by decide +kernel
theorem dX7_reason_76 : decode cX7_reason 76 = .ok (.iload_n 3, 1) := by decide +kernel
theorem dX7_reason_77 : decode cX7_reason 77 = .ok (.invokevirtual 83, 3) := by decide +kernel
theorem dX7_reason_80 : decode cX7_reason 80 = .ok (.ifCond .le 8, 3) := by decide +kernel
theorem dX7_reason_83 : decode cX7_reason 83 = .ok (.bipush 6, 2) := by decide +kernel
theorem dX7_reason_85 : decode cX7_reason 85 = .ok (.goto 4, 3) := by decide +kernel
theorem dX7_reason_88 : decode cX7_reason 88 = .ok (.iconst 0, 1) := by decide +kernel
theorem dX7_reason_89 : decode cX7_reason 89 = .ok (.ireturn, 1) := by decide +kernel
theorem dX7_cleared_0 : decode cX7_cleared 0 = .ok (.iconst 0, 1) := by decide +kernel
theorem dX7_cleared_1 : decode cX7_cleared 1 = .ok (.istore_n 2, 1) := by decide +kernel
theorem dX7_cleared_2 : decode cX7_cleared 2 = .ok (.iconst 0, 1) := by decide +kernel
theorem dX7_cleared_3 : decode cX7_cleared 3 = .ok (.istore_n 3, 1) := by decide +kernel
theorem dX7_cleared_4 : decode cX7_cleared 4 = .ok (.iload_n 3, 1) := by decide +kernel
theorem dX7_cleared_5 : decode cX7_cleared 5 = .ok (.bipush 8, 2) := by decide +kernel
theorem dX7_cleared_7 : decode cX7_cleared 7 = .ok (.if_icmp .ge 34, 3) := by decide +kernel
theorem dX7_cleared_10 : decode cX7_cleared 10 = .ok (.iload_n 2, 1) := by decide +kernel
theorem dX7_cleared_11 : decode cX7_cleared 11 = .ok (.aload_n 0, 1) := by decide +kernel
theorem dX7_cleared_12 : decode cX7_cleared 12 = .ok (.iload_n 1, 1) := by decide +kernel
theorem dX7_cleared_13 : decode cX7_cleared 13 = .ok (.iload_n 3, 1) := by decide +kernel
theorem dX7_cleared_14 : decode cX7_cleared 14 = .ok (.aload_n 0, 1) := by decide +kernel
theorem dX7_cleared_15 : decode cX7_cleared 15 = .ok (.getfield 7, 3) := by decide +kernel
theorem dX7_cleared_18 : decode cX7_cleared 18 = .ok (.iconst 0, 1) := by decide +kernel
theorem dX7_cleared_19 : decode cX7_cleared 19 = .ok (.iaload, 1) := by decide +kernel
theorem dX7_cleared_20 : decode cX7_cleared 20 = .ok (.invokevirtual 87, 3) := by decide +kernel
theorem dX7_cleared_23 : decode cX7_cleared 23 = .ok (.ifCond .ne 9, 3) := by decide +kernel
theorem dX7_cleared_26 : decode cX7_cleared 26 = .ok (.iconst 1, 1) := by decide +kernel
theorem dX7_cleared_27 : decode cX7_cleared 27 = .ok (.iload_n 3, 1) := by decide +kernel
theorem dX7_cleared_28 : decode cX7_cleared 28 = .ok (.ishl, 1) := by decide +kernel
theorem dX7_cleared_29 : decode cX7_cleared 29 = .ok (.goto 4, 3) := by decide +kernel
theorem dX7_cleared_32 : decode cX7_cleared 32 = .ok (.iconst 0, 1) := by decide +kernel
theorem dX7_cleared_33 : decode cX7_cleared 33 = .ok (.ior, 1) := by decide +kernel
theorem dX7_cleared_34 : decode cX7_cleared 34 = .ok (.istore_n 2, 1) := by decide +kernel
theorem dX7_cleared_35 : decode cX7_cleared 35 = .ok (.iinc 3 1, 3) := by decide +kernel
theorem dX7_cleared_38 : decode cX7_cleared 38 = .ok (.goto (-34), 3) := by decide +kernel
theorem dX7_cleared_41 : decode cX7_cleared 41 = .ok (.iload_n 2, 1) := by decide +kernel
theorem dX7_cleared_42 : decode cX7_cleared 42 = .ok (.ireturn, 1) := by decide +kernel
theorem dX7_doesShoot_0 : decode cX7_doesShoot 0 = .ok (.iload_n 2, 1) := by decide +kernel
theorem dX7_doesShoot_1 : decode cX7_doesShoot 1 = .ok (.aload_n 0, 1) := by decide +kernel
theorem dX7_doesShoot_2 : decode cX7_doesShoot 2 = .ok (.iload_n 1, 1) := by decide +kernel
theorem dX7_doesShoot_3 : decode cX7_doesShoot 3 = .ok (.iconst 2, 1) := by decide +kernel
theorem dX7_doesShoot_4 : decode cX7_doesShoot 4 = .ok (.invokevirtual 63, 3) := by decide +kernel
theorem dX7_doesShoot_7 : decode cX7_doesShoot 7 = .ok (.if_icmp .ne 7, 3) := by decide +kernel
theorem dX7_doesShoot_10 : decode cX7_doesShoot 10 = .ok (.iconst 0, 1) := by decide +kernel
theorem dX7_doesShoot_11 : decode cX7_doesShoot 11 = .ok (.goto 4, 3) := by decide +kernel
theorem dX7_doesShoot_14 : decode cX7_doesShoot 14 = .ok (.iconst 1, 1) := by decide +kernel
theorem dX7_doesShoot_15 : decode cX7_doesShoot 15 = .ok (.istore_n 3, 1) := by decide +kernel
theorem dX7_doesShoot_16 : decode cX7_doesShoot 16 = .ok (.aload_n 0, 1) := by decide +kernel
theorem dX7_doesShoot_17 : decode cX7_doesShoot 17 = .ok (.getfield 7, 3) := by decide +kernel
theorem dX7_doesShoot_20 : decode cX7_doesShoot 20 = .ok (.sipush 250, 3) := by decide +kernel
theorem dX7_doesShoot_23 : decode cX7_doesShoot 23 = .ok (.iconst 5, 1) := by decide +kernel
theorem dX7_doesShoot_24 : decode cX7_doesShoot 24 = .ok (.iload_n 1, 1) := by decide +kernel
theorem dX7_doesShoot_25 : decode cX7_doesShoot 25 = .ok (.imul, 1) := by decide +kernel
theorem dX7_doesShoot_26 : decode cX7_doesShoot 26 = .ok (.iadd, 1) := by decide +kernel
theorem dX7_doesShoot_27 : decode cX7_doesShoot 27 = .ok (.iconst 3, 1) := by decide +kernel
theorem dX7_doesShoot_28 : decode cX7_doesShoot 28 = .ok (.iadd, 1) := by decide +kernel
theorem dX7_doesShoot_29 : decode cX7_doesShoot 29 = .ok (.aload_n 0, 1) := by decide +kernel
theorem dX7_doesShoot_30 : decode cX7_doesShoot 30 = .ok (.getfield 7, 3) := by decide +kernel
theorem dX7_doesShoot_33 : decode cX7_doesShoot 33 = .ok (.iconst 0, 1) := by decide +kernel
theorem dX7_doesShoot_34 : decode cX7_doesShoot 34 = .ok (.iaload, 1) := by decide +kernel
theorem dX7_doesShoot_35 : decode cX7_doesShoot 35 = .ok (.iastore, 1) := by decide +kernel
theorem dX7_doesShoot_36 : decode cX7_doesShoot 36 = .ok (.aload_n 0, 1) := by decide +kernel
theorem dX7_doesShoot_37 : decode cX7_doesShoot 37 = .ok (.getfield 7, 3) := by decide +kernel
theorem dX7_doesShoot_40 : decode cX7_doesShoot 40 = .ok (.sipush 250, 3) := by decide +kernel
theorem dX7_doesShoot_43 : decode cX7_doesShoot 43 = .ok (.iconst 5, 1) := by decide +kernel
theorem dX7_doesShoot_44 : decode cX7_doesShoot 44 = .ok (.iload_n 1, 1) := by decide +kernel
theorem dX7_doesShoot_45 : decode cX7_doesShoot 45 = .ok (.imul, 1) := by decide +kernel
theorem dX7_doesShoot_46 : decode cX7_doesShoot 46 = .ok (.iadd, 1) := by decide +kernel
theorem dX7_doesShoot_47 : decode cX7_doesShoot 47 = .ok (.iconst 4, 1) := by decide +kernel
theorem dX7_doesShoot_48 : decode cX7_doesShoot 48 = .ok (.iadd, 1) := by decide +kernel
theorem dX7_doesShoot_49 : decode cX7_doesShoot 49 = .ok (.iload_n 2, 1) := by decide +kernel
theorem dX7_doesShoot_50 : decode cX7_doesShoot 50 = .ok (.iastore, 1) := by decide +kernel
theorem dX7_doesShoot_51 : decode cX7_doesShoot 51 = .ok (.aload_n 0, 1) := by decide +kernel
theorem dX7_doesShoot_52 : decode cX7_doesShoot 52 = .ok (.getfield 7, 3) := by decide +kernel
theorem dX7_doesShoot_55 : decode cX7_doesShoot 55 = .ok (.bipush 18, 2) := by decide +kernel
theorem dX7_doesShoot_57 : decode cX7_doesShoot 57 = .ok (.iload_n 2, 1) := by decide +kernel
theorem dX7_doesShoot_58 : decode cX7_doesShoot 58 = .ok (.iadd, 1) := by decide +kernel
theorem dX7_doesShoot_59 : decode cX7_doesShoot 59 = .ok (.aload_n 0, 1) := by decide +kernel
theorem dX7_doesShoot_60 : decode cX7_doesShoot 60 = .ok (.getfield 7, 3) := by decide +kernel
theorem dX7_doesShoot_63 : decode cX7_doesShoot 63 = .ok (.iconst 0, 1) := by decide +kernel
theorem dX7_doesShoot_64 : decode cX7_doesShoot 64 = .ok (.iaload, 1) := by decide +kernel
theorem dX7_doesShoot_65 : decode cX7_doesShoot 65 = .ok (.iastore, 1) := by decide +kernel
theorem dX7_doesShoot_66 : decode cX7_doesShoot 66 = .ok (.aload_n 0, 1) := by decide +kernel
theorem dX7_doesShoot_67 : decode cX7_doesShoot 67 = .ok (.getfield 7, 3) := by decide +kernel
theorem dX7_doesShoot_70 : decode cX7_doesShoot 70 = .ok (.bipush 26, 2) := by decide +kernel
theorem dX7_doesShoot_72 : decode cX7_doesShoot 72 = .ok (.iload_n 2, 1) := by decide +kernel
theorem dX7_doesShoot_73 : decode cX7_doesShoot 73 = .ok (.iadd, 1) := by decide +kernel
theorem dX7_doesShoot_74 : decode cX7_doesShoot 74 = .ok (.dup2, 1) := by decide +kernel
theorem dX7_doesShoot_75 : decode cX7_doesShoot 75 = .ok (.iaload, 1) := by decide +kernel
theorem dX7_doesShoot_76 : decode cX7_doesShoot 76 = .ok (.iconst 1, 1) := by decide +kernel
theorem dX7_doesShoot_77 : decode cX7_doesShoot 77 = .ok (.iadd, 1) := by decide +kernel
theorem dX7_doesShoot_78 : decode cX7_doesShoot 78 = .ok (.iastore, 1) := by decide +kernel
theorem dX7_doesShoot_79 : decode cX7_doesShoot 79 = .ok (.aload_n 0, 1) := by decide +kernel
theorem dX7_doesShoot_80 : decode cX7_doesShoot 80 = .ok (.getfield 7, 3) := by decide +kernel
theorem dX7_doesShoot_83 : decode cX7_doesShoot 83 = .ok (.iconst 5, 1) := by decide +kernel
theorem dX7_doesShoot_84 : decode cX7_doesShoot 84 = .ok (.dup2, 1) := by decide +kernel
theorem dX7_doesShoot_85 : decode cX7_doesShoot 85 = .ok (.iaload, 1) := by decide +kernel
theorem dX7_doesShoot_86 : decode cX7_doesShoot 86 = .ok (.iload_n 3, 1) := by decide +kernel
theorem dX7_doesShoot_87 : decode cX7_doesShoot 87 = .ok (.iadd, 1) := by decide +kernel
theorem dX7_doesShoot_88 : decode cX7_doesShoot 88 = .ok (.iastore, 1) := by decide +kernel
theorem dX7_doesShoot_89 : decode cX7_doesShoot 89 = .ok (.iload_n 3, 1) := by decide +kernel
theorem dX7_doesShoot_90 : decode cX7_doesShoot 90 = .ok (.ireturn, 1) := by decide +kernel
theorem dX7_costOf_0 : decode cX7_costOf 0 = .ok (.iload_n 2, 1) := by decide +kernel
theorem dX7_costOf_1 : decode cX7_costOf 1 = .ok (.iload_n 1, 1) := by decide +kernel
theorem dX7_costOf_2 : decode cX7_costOf 2 = .ok (.imul, 1) := by decide +kernel
theorem dX7_costOf_3 : decode cX7_costOf 3 = .ok (.iload_n 1, 1) := by decide +kernel
theorem dX7_costOf_4 : decode cX7_costOf 4 = .ok (.imul, 1) := by decide +kernel
theorem dX7_costOf_5 : decode cX7_costOf 5 = .ok (.istore_n 3, 1) := by decide +kernel
theorem dX7_costOf_6 : decode cX7_costOf 6 = .ok (.iload_n 3, 1) := by decide +kernel
theorem dX7_costOf_7 : decode cX7_costOf 7 = .ok (.iload_n 3, 1) := by decide +kernel
theorem dX7_costOf_8 : decode cX7_costOf 8 = .ok (.aload_n 0, 1) := by decide +kernel
theorem dX7_costOf_9 : decode cX7_costOf 9 = .ok (.getfield 7, 3) := by decide +kernel
theorem dX7_costOf_12 : decode cX7_costOf 12 = .ok (.bipush 6, 2) := by decide +kernel
theorem dX7_costOf_14 : decode cX7_costOf 14 = .ok (.iaload, 1) := by decide +kernel
theorem dX7_costOf_15 : decode cX7_costOf 15 = .ok (.imul, 1) := by decide +kernel
theorem dX7_costOf_16 : decode cX7_costOf 16 = .ok (.bipush 10, 2) := by decide +kernel
theorem dX7_costOf_18 : decode cX7_costOf 18 = .ok (.idiv, 1) := by decide +kernel
theorem dX7_costOf_19 : decode cX7_costOf 19 = .ok (.iadd, 1) := by decide +kernel
theorem dX7_costOf_20 : decode cX7_costOf 20 = .ok (.ireturn, 1) := by decide +kernel
theorem dX7_size_0 : decode cX7_size 0 = .ok (.aload_n 0, 1) := by decide +kernel
theorem dX7_size_1 : decode cX7_size 1 = .ok (.iconst 0, 1) := by decide +kernel
theorem dX7_size_2 : decode cX7_size 2 = .ok (.putfield 22, 3) := by decide +kernel
theorem dX7_size_5 : decode cX7_size 5 = .ok (.iload_n 1, 1) := by decide +kernel
theorem dX7_size_6 : decode cX7_size 6 = .ok (.invokestatic 90, 3) := by decide +kernel
theorem dX7_size_9 : decode cX7_size 9 = .ok (.ifCond .ne 9, 3) := by decide +kernel
theorem dX7_size_12 : decode cX7_size 12 = .ok (.aload_n 0, 1) := by decide +kernel
theorem dX7_size_13 : decode cX7_size 13 = .ok (.iconst 1, 1) := by decide +kernel
theorem dX7_size_14 : decode cX7_size 14 = .ok (.invokevirtual 33, 3) := by decide +kernel
theorem dX7_size_17 : decode cX7_size 17 = .ok (.ireturn, 1) := by decide +kernel
theorem dX7_size_18 : decode cX7_size 18 = .ok (.iload_n 2, 1) := by decide +kernel
theorem dX7_size_19 : decode cX7_size 19 = .ok (.sipush 150, 3) := by decide +kernel
theorem dX7_size_22 : decode cX7_size 22 = .ok (.sipush 200, 3) := by decide +kernel
theorem dX7_size_25 : decode cX7_size 25 = .ok (.invokestatic 26, 3) := by decide +kernel
theorem dX7_size_28 : decode cX7_size 28 = .ok (.ifCond .ne 9, 3) := by decide +kernel
theorem dX7_size_31 : decode cX7_size 31 = .ok (.aload_n 0, 1) := by decide +kernel
theorem dX7_size_32 : decode cX7_size 32 = .ok (.iconst 2, 1) := by decide +kernel
theorem dX7_size_33 : decode cX7_size 33 = .ok (.invokevirtual 33, 3) := by decide +kernel
theorem dX7_size_36 : decode cX7_size 36 = .ok (.ireturn, 1) := by decide +kernel
theorem dX7_size_37 : decode cX7_size 37 = .ok (.aload_n 0, 1) := by decide +kernel
theorem dX7_size_38 : decode cX7_size 38 = .ok (.invokevirtual 94, 3) := by decide +kernel
theorem dX7_size_41 : decode cX7_size 41 = .ok (.aload_n 0, 1) := by decide +kernel
theorem dX7_size_42 : decode cX7_size 42 = .ok (.getfield 7, 3) := by decide +kernel
theorem dX7_size_45 : decode cX7_size 45 = .ok (.bipush 10, 2) := by decide +kernel
theorem dX7_size_47 : decode cX7_size 47 = .ok (.iload_n 1, 1) := by decide +kernel
theorem dX7_size_48 : decode cX7_size 48 = .ok (.iadd, 1) := by decide +kernel
theorem dX7_size_49 : decode cX7_size 49 = .ok (.iaload, 1) := by decide +kernel
theorem dX7_size_50 : decode cX7_size 50 = .ok (.istore_n 3, 1) := by decide +kernel
theorem dX7_size_51 : decode cX7_size 51 = .ok (.aload_n 0, 1) := by decide +kernel
theorem dX7_size_52 : decode cX7_size 52 = .ok (.getfield 7, 3) := by decide +kernel
theorem dX7_size_55 : decode cX7_size 55 = .ok (.bipush 10, 2) := by decide +kernel
theorem dX7_size_57 : decode cX7_size 57 = .ok (.iload_n 1, 1) := by decide +kernel
theorem dX7_size_58 : decode cX7_size 58 = .ok (.iadd, 1) := by decide +kernel
theorem dX7_size_59 : decode cX7_size 59 = .ok (.iload_n 2, 1) := by decide +kernel
theorem dX7_size_60 : decode cX7_size 60 = .ok (.iastore, 1) := by decide +kernel
theorem dX7_size_61 : decode cX7_size 61 = .ok (.iload_n 3, 1) := by decide +kernel
theorem dX7_size_62 : decode cX7_size 62 = .ok (.ireturn, 1) := by decide +kernel
theorem dX7_pass_0 : decode cX7_pass 0 = .ok (.aload_n 0, 1) := by decide +kernel
theorem dX7_pass_1 : decode cX7_pass 1 = .ok (.iconst 0, 1) := by decide +kernel
theorem dX7_pass_2 : decode cX7_pass 2 = .ok (.putfield 22, 3) := by decide +kernel
theorem dX7_pass_5 : decode cX7_pass 5 = .ok (.iload_n 1, 1) := by decide +kernel
theorem dX7_pass_6 : decode cX7_pass 6 = .ok (.iconst 1, 1) := by decide +kernel
theorem dX7_pass_7 : decode cX7_pass 7 = .ok (.bipush 99, 2) := by decide +kernel
theorem dX7_pass_9 : decode cX7_pass 9 = .ok (.invokestatic 26, 3) := by decide +kernel
theorem dX7_pass_12 : decode cX7_pass 12 = .ok (.ifCond .ne 9, 3) := by decide +kernel
theorem dX7_pass_15 : decode cX7_pass 15 = .ok (.aload_n 0, 1) := by decide +kernel
theorem dX7_pass_16 : decode cX7_pass 16 = .ok (.iconst 1, 1) := by decide +kernel
theorem dX7_pass_17 : decode cX7_pass 17 = .ok (.invokevirtual 33, 3) := by decide +kernel
theorem dX7_pass_20 : decode cX7_pass 20 = .ok (.ireturn, 1) := by decide +kernel
theorem dX7_pass_21 : decode cX7_pass 21 = .ok (.aload_n 0, 1) := by decide +kernel
theorem dX7_pass_22 : decode cX7_pass 22 = .ok (.getfield 7, 3) := by decide +kernel
theorem dX7_pass_25 : decode cX7_pass 25 = .ok (.iconst 0, 1) := by decide +kernel
theorem dX7_pass_26 : decode cX7_pass 26 = .ok (.iaload, 1) := by decide +kernel
theorem dX7_pass_27 : decode cX7_pass 27 = .ok (.iload_n 1, 1) := by decide +kernel
theorem dX7_pass_28 : decode cX7_pass 28 = .ok (.iadd, 1) := by decide +kernel
theorem dX7_pass_29 : decode cX7_pass 29 = .ok (.sipush 999, 3) := by decide +kernel
theorem dX7_pass_32 : decode cX7_pass 32 = .ok (.if_icmp .le 9, 3) := by decide +kernel
theorem dX7_pass_35 : decode cX7_pass 35 = .ok (.aload_n 0, 1) := by decide +kernel
theorem dX7_pass_36 : decode cX7_pass 36 = .ok (.iconst 2, 1) := by decide +kernel
theorem dX7_pass_37 : decode cX7_pass 37 = .ok (.invokevirtual 33, 3) := by decide +kernel
theorem dX7_pass_40 : decode cX7_pass 40 = .ok (.ireturn, 1) := by decide +kernel
theorem dX7_pass_41 : decode cX7_pass 41 = .ok (.aload_n 0, 1) := by decide +kernel
theorem dX7_pass_42 : decode cX7_pass 42 = .ok (.invokevirtual 94, 3) := by decide +kernel
theorem dX7_pass_45 : decode cX7_pass 45 = .ok (.aload_n 0, 1) := by decide +kernel
theorem dX7_pass_46 : decode cX7_pass 46 = .ok (.iload_n 1, 1) := by decide +kernel
theorem dX7_pass_47 : decode cX7_pass 47 = .ok (.invokevirtual 97, 3) := by decide +kernel
theorem dX7_pass_50 : decode cX7_pass 50 = .ok (.ireturn, 1) := by decide +kernel
theorem dX7_rehearse_0 : decode cX7_rehearse 0 = .ok (.aload_n 0, 1) := by decide +kernel
theorem dX7_rehearse_1 : decode cX7_rehearse 1 = .ok (.iconst 0, 1) := by decide +kernel
theorem dX7_rehearse_2 : decode cX7_rehearse 2 = .ok (.putfield 22, 3) := by decide +kernel
theorem dX7_rehearse_5 : decode cX7_rehearse 5 = .ok (.iload_n 1, 1) := by decide +kernel
theorem dX7_rehearse_6 : decode cX7_rehearse 6 = .ok (.invokestatic 90, 3) := by decide +kernel
theorem dX7_rehearse_9 : decode cX7_rehearse 9 = .ok (.ifCond .eq 10, 3) := by decide +kernel
theorem dX7_rehearse_12 : decode cX7_rehearse 12 = .ok (.iload_n 2, 1) := by decide +kernel
theorem dX7_rehearse_13 : decode cX7_rehearse 13 = .ok (.invokestatic 100, 3) := by decide +kernel
theorem dX7_rehearse_16 : decode cX7_rehearse 16 = .ok (.ifCond .ne 9, 3) := by decide +kernel
theorem dX7_rehearse_19 : decode cX7_rehearse 19 = .ok (.aload_n 0, 1) := by decide +kernel
theorem dX7_rehearse_20 : decode cX7_rehearse 20 = .ok (.iconst 1, 1) := by decide +kernel
theorem dX7_rehearse_21 : decode cX7_rehearse 21 = .ok (.invokevirtual 33, 3) := by decide +kernel
theorem dX7_rehearse_24 : decode cX7_rehearse 24 = .ok (.ireturn, 1) := by decide +kernel
theorem dX7_rehearse_25 : decode cX7_rehearse 25 = .ok (.iload_n 3, 1) := by decide +kernel
theorem dX7_rehearse_26 : decode cX7_rehearse 26 = .ok (.invokestatic 103, 3) := by decide +kernel
theorem dX7_rehearse_29 : decode cX7_rehearse 29 = .ok (.ifCond .ne 9, 3) := by decide +kernel
theorem dX7_rehearse_32 : decode cX7_rehearse 32 = .ok (.aload_n 0, 1) := by decide +kernel
theorem dX7_rehearse_33 : decode cX7_rehearse 33 = .ok (.iconst 2, 1) := by decide +kernel
theorem dX7_rehearse_34 : decode cX7_rehearse 34 = .ok (.invokevirtual 33, 3) := by decide +kernel
theorem dX7_rehearse_37 : decode cX7_rehearse 37 = .ok (.ireturn, 1) := by decide +kernel
theorem dX7_rehearse_38 : decode cX7_rehearse 38 = .ok (.aload_n 0, 1) := by decide +kernel
theorem dX7_rehearse_39 : decode cX7_rehearse 39 = .ok (.iload_n 1, 1) := by decide +kernel
theorem dX7_rehearse_40 : decode cX7_rehearse 40 = .ok (.iload_n 2, 1) := by decide +kernel
theorem dX7_rehearse_41 : decode cX7_rehearse 41 = .ok (.aload_n 0, 1) := by decide +kernel
theorem dX7_rehearse_42 : decode cX7_rehearse 42 = .ok (.getfield 7, 3) := by decide +kernel
theorem dX7_rehearse_45 : decode cX7_rehearse 45 = .ok (.iconst 0, 1) := by decide +kernel
theorem dX7_rehearse_46 : decode cX7_rehearse 46 = .ok (.iaload, 1) := by decide +kernel
theorem dX7_rehearse_47 : decode cX7_rehearse 47 = .ok (.invokevirtual 47, 3) := by decide +kernel
theorem dX7_rehearse_50 : decode cX7_rehearse 50 = .ok (.ifCond .eq 9, 3) := by decide +kernel
theorem dX7_rehearse_53 : decode cX7_rehearse 53 = .ok (.aload_n 0, 1) := by decide +kernel
theorem dX7_rehearse_54 : decode cX7_rehearse 54 = .ok (.iconst 3, 1) := by decide +kernel
theorem dX7_rehearse_55 : decode cX7_rehearse 55 = .ok (.invokevirtual 33, 3) := by decide +kernel
theorem dX7_rehearse_58 : decode cX7_rehearse 58 = .ok (.ireturn, 1) := by decide +kernel
theorem dX7_rehearse_59 : decode cX7_rehearse 59 = .ok (.aload_n 0, 1) := by decide +kernel
theorem dX7_rehearse_60 : decode cX7_rehearse 60 = .ok (.invokevirtual 94, 3) := by decide +kernel
theorem dX7_rehearse_63 : decode cX7_rehearse 63 = .ok (.aload_n 0, 1) := by decide +kernel
theorem dX7_rehearse_64 : decode cX7_rehearse 64 = .ok (.iload_n 1, 1) := by decide +kernel
theorem dX7_rehearse_65 : decode cX7_rehearse 65 = .ok (.iload_n 2, 1) := by decide +kernel
theorem dX7_rehearse_66 : decode cX7_rehearse 66 = .ok (.iload_n 3, 1) := by decide +kernel
theorem dX7_rehearse_67 : decode cX7_rehearse 67 = .ok (.invokevirtual 106, 3) := by decide +kernel
theorem dX7_rehearse_70 : decode cX7_rehearse 70 = .ok (.ireturn, 1) := by decide +kernel
theorem dX7_hurt_0 : decode cX7_hurt 0 = .ok (.aload_n 0, 1) := by decide +kernel
theorem dX7_hurt_1 : decode cX7_hurt 1 = .ok (.iconst 0, 1) := by decide +kernel
theorem dX7_hurt_2 : decode cX7_hurt 2 = .ok (.putfield 22, 3) := by decide +kernel
theorem dX7_hurt_5 : decode cX7_hurt 5 = .ok (.iload_n 1, 1) := by decide +kernel
theorem dX7_hurt_6 : decode cX7_hurt 6 = .ok (.invokestatic 90, 3) := by decide +kernel
theorem dX7_hurt_9 : decode cX7_hurt 9 = .ok (.ifCond .ne 9, 3) := by decide +kernel
theorem dX7_hurt_12 : decode cX7_hurt 12 = .ok (.aload_n 0, 1) := by decide +kernel
theorem dX7_hurt_13 : decode cX7_hurt 13 = .ok (.iconst 1, 1) := by decide +kernel
theorem dX7_hurt_14 : decode cX7_hurt 14 = .ok (.invokevirtual 33, 3) := by decide +kernel
theorem dX7_hurt_17 : decode cX7_hurt 17 = .ok (.ireturn, 1) := by decide +kernel
theorem dX7_hurt_18 : decode cX7_hurt 18 = .ok (.iload_n 2, 1) := by decide +kernel
theorem dX7_hurt_19 : decode cX7_hurt 19 = .ok (.invokestatic 109, 3) := by decide +kernel
theorem dX7_hurt_22 : decode cX7_hurt 22 = .ok (.ifCond .eq 13, 3) := by decide +kernel
theorem dX7_hurt_25 : decode cX7_hurt 25 = .ok (.iload_n 3, 1) := by decide +kernel
theorem dX7_hurt_26 : decode cX7_hurt 26 = .ok (.iconst 1, 1) := by decide +kernel
theorem dX7_hurt_27 : decode cX7_hurt 27 = .ok (.bipush 60, 2) := by decide +kernel
theorem dX7_hurt_29 : decode cX7_hurt 29 = .ok (.invokestatic 26, 3) := by decide +kernel
theorem dX7_hurt_32 : decode cX7_hurt 32 = .ok (.ifCond .ne 9, 3) := by decide +kernel
theorem dX7_hurt_35 : decode cX7_hurt 35 = .ok (.aload_n 0, 1) := by decide +kernel
theorem dX7_hurt_36 : decode cX7_hurt 36 = .ok (.iconst 2, 1) := by decide +kernel
theorem dX7_hurt_37 : decode cX7_hurt 37 = .ok (.invokevirtual 33, 3) := by decide +kernel
theorem dX7_hurt_40 : decode cX7_hurt 40 = .ok (.ireturn, 1) := by decide +kernel
theorem dX7_hurt_41 : decode cX7_hurt 41 = .ok (.aload_n 0, 1) := by decide +kernel
theorem dX7_hurt_42 : decode cX7_hurt 42 = .ok (.invokevirtual 94, 3) := by decide +kernel
theorem dX7_hurt_45 : decode cX7_hurt 45 = .ok (.aload_n 0, 1) := by decide +kernel
theorem dX7_hurt_46 : decode cX7_hurt 46 = .ok (.iload_n 1, 1) := by decide +kernel
theorem dX7_hurt_47 : decode cX7_hurt 47 = .ok (.iload_n 2, 1) := by decide +kernel
theorem dX7_hurt_48 : decode cX7_hurt 48 = .ok (.iload_n 3, 1) := by decide +kernel
theorem dX7_hurt_49 : decode cX7_hurt 49 = .ok (.invokevirtual 59, 3) := by decide +kernel
theorem dX7_hurt_52 : decode cX7_hurt 52 = .ok (.iconst 0, 1) := by decide +kernel
theorem dX7_hurt_53 : decode cX7_hurt 53 = .ok (.istore 4, 2) := by decide +kernel
theorem dX7_hurt_55 : decode cX7_hurt 55 = .ok (.iconst 0, 1) := by decide +kernel
theorem dX7_hurt_56 : decode cX7_hurt 56 = .ok (.istore 5, 2) := by decide +kernel
theorem dX7_hurt_58 : decode cX7_hurt 58 = .ok (.iload 5, 2) := by decide +kernel
theorem dX7_hurt_60 : decode cX7_hurt 60 = .ok (.aload_n 0, 1) := by decide +kernel
theorem dX7_hurt_61 : decode cX7_hurt 61 = .ok (.getfield 7, 3) := by decide +kernel
theorem dX7_hurt_64 : decode cX7_hurt 64 = .ok (.iconst 4, 1) := by decide +kernel
theorem dX7_hurt_65 : decode cX7_hurt 65 = .ok (.iaload, 1) := by decide +kernel
theorem dX7_hurt_66 : decode cX7_hurt 66 = .ok (.if_icmp .ge 63, 3) := by decide +kernel
theorem dX7_hurt_69 : decode cX7_hurt 69 = .ok (.aload_n 0, 1) := by decide +kernel
theorem dX7_hurt_70 : decode cX7_hurt 70 = .ok (.iload 5, 2) := by decide +kernel
theorem dX7_hurt_72 : decode cX7_hurt 72 = .ok (.iconst 3, 1) := by decide +kernel
theorem dX7_hurt_73 : decode cX7_hurt 73 = .ok (.invokevirtual 63, 3) := by decide +kernel
theorem dX7_hurt_76 : decode cX7_hurt 76 = .ok (.iconst (-1), 1) := by decide +kernel
theorem dX7_hurt_77 : decode cX7_hurt 77 = .ok (.if_icmp .ne 7, 3) := by decide +kernel
theorem dX7_hurt_80 : decode cX7_hurt 80 = .ok (.iconst 1, 1) := by decide +kernel
theorem dX7_hurt_81 : decode cX7_hurt 81 = .ok (.goto 4, 3) := by decide +kernel
theorem dX7_hurt_84 : decode cX7_hurt 84 = .ok (.iconst 0, 1) := by decide +kernel
theorem dX7_hurt_85 : decode cX7_hurt 85 = .ok (.istore 6, 2) := by decide +kernel
theorem dX7_hurt_87 : decode cX7_hurt 87 = .ok (.iload 4, 2) := by decide +kernel
theorem dX7_hurt_89 : decode cX7_hurt 89 = .ok (.iload 6, 2) := by decide +kernel
theorem dX7_hurt_91 : decode cX7_hurt 91 = .ok (.ifCond .eq 28, 3) := by decide +kernel
theorem dX7_hurt_94 : decode cX7_hurt 94 = .ok (.aload_n 0, 1) := by decide +kernel
theorem dX7_hurt_95 : decode cX7_hurt 95 = .ok (.iload_n 1, 1) := by decide +kernel
theorem dX7_hurt_96 : decode cX7_hurt 96 = .ok (.aload_n 0, 1) := by decide +kernel
theorem dX7_hurt_97 : decode cX7_hurt 97 = .ok (.iload 5, 2) := by decide +kernel
theorem dX7_hurt_99 : decode cX7_hurt 99 = .ok (.iconst 0, 1) := by decide +kernel
theorem dX7_hurt_100 : decode cX7_hurt 100 = .ok (.invokevirtual 63, 3) := by decide +kernel
theorem dX7_hurt_103 : decode cX7_hurt 103 = .ok (.aload_n 0, 1) := by decide +kernel
theorem dX7_hurt_104 : decode cX7_hurt 104 = .ok (.getfield 7, 3) := by decide +kernel
theorem dX7_hurt_107 : decode cX7_hurt 107 = .ok (.iconst 0, 1) := by decide +kernel
theorem dX7_hurt_108 : decode cX7_hurt 108 = .ok (.iaload, 1) := by decide +kernel
theorem dX7_hurt_109 : decode cX7_hurt 109 = .ok (.invokevirtual 47, 3) := by decide +kernel
theorem dX7_hurt_112 : decode cX7_hurt 112 = .ok (.ifCond .eq 7, 3) := by decide +kernel
theorem dX7_hurt_115 : decode cX7_hurt 115 = .ok (.iconst 1, 1) := by decide +kernel
theorem dX7_hurt_116 : decode cX7_hurt 116 = .ok (.goto 4, 3) := by decide +kernel
theorem dX7_hurt_119 : decode cX7_hurt 119 = .ok (.iconst 0, 1) := by decide +kernel
theorem dX7_hurt_120 : decode cX7_hurt 120 = .ok (.iadd, 1) := by decide +kernel
theorem dX7_hurt_121 : decode cX7_hurt 121 = .ok (.istore 4, 2) := by decide +kernel
theorem dX7_hurt_123 : decode cX7_hurt 123 = .ok (.iinc 5 1, 3) := by decide +kernel
theorem dX7_hurt_126 : decode cX7_hurt 126 = .ok (.goto (-68), 3) := by decide +kernel
theorem dX7_hurt_129 : decode cX7_hurt 129 = .ok (.iload 4, 2) := by decide +kernel
theorem dX7_hurt_131 : decode cX7_hurt 131 = .ok (.ireturn, 1) := by decide +kernel
theorem dX7_insure_0 : decode cX7_insure 0 = .ok (.aload_n 0, 1) := by decide +kernel
theorem dX7_insure_1 : decode cX7_insure 1 = .ok (.iconst 0, 1) := by decide +kernel
theorem dX7_insure_2 : decode cX7_insure 2 = .ok (.putfield 22, 3) := by decide +kernel
theorem dX7_insure_5 : decode cX7_insure 5 = .ok (.iload_n 1, 1) := by decide +kernel
theorem dX7_insure_6 : decode cX7_insure 6 = .ok (.iconst 1, 1) := by decide +kernel
theorem dX7_insure_7 : decode cX7_insure 7 = .ok (.iconst 5, 1) := by decide +kernel
theorem dX7_insure_8 : decode cX7_insure 8 = .ok (.invokestatic 26, 3) := by decide +kernel
theorem dX7_insure_11 : decode cX7_insure 11 = .ok (.ifCond .eq 13, 3) := by decide +kernel
theorem dX7_insure_14 : decode cX7_insure 14 = .ok (.iload_n 2, 1) := by decide +kernel
theorem dX7_insure_15 : decode cX7_insure 15 = .ok (.iconst 1, 1) := by decide +kernel
theorem dX7_insure_16 : decode cX7_insure 16 = .ok (.bipush 60, 2) := by decide +kernel
theorem dX7_insure_18 : decode cX7_insure 18 = .ok (.invokestatic 26, 3) := by decide +kernel
theorem dX7_insure_21 : decode cX7_insure 21 = .ok (.ifCond .ne 9, 3) := by decide +kernel
theorem dX7_insure_24 : decode cX7_insure 24 = .ok (.aload_n 0, 1) := by decide +kernel
theorem dX7_insure_25 : decode cX7_insure 25 = .ok (.iconst 1, 1) := by decide +kernel
theorem dX7_insure_26 : decode cX7_insure 26 = .ok (.invokevirtual 33, 3) := by decide +kernel
theorem dX7_insure_29 : decode cX7_insure 29 = .ok (.ireturn, 1) := by decide +kernel
theorem dX7_insure_30 : decode cX7_insure 30 = .ok (.aload_n 0, 1) := by decide +kernel
theorem dX7_insure_31 : decode cX7_insure 31 = .ok (.iload_n 1, 1) := by decide +kernel
theorem dX7_insure_32 : decode cX7_insure 32 = .ok (.iload_n 2, 1) := by decide +kernel
theorem dX7_insure_33 : decode cX7_insure 33 = .ok (.invokevirtual 112, 3) := by decide +kernel
theorem dX7_insure_36 : decode cX7_insure 36 = .ok (.istore_n 3, 1) := by decide +kernel
theorem dX7_insure_37 : decode cX7_insure 37 = .ok (.iload_n 3, 1) := by decide +kernel
theorem dX7_insure_38 : decode cX7_insure 38 = .ok (.aload_n 0, 1) := by decide +kernel
theorem dX7_insure_39 : decode cX7_insure 39 = .ok (.getfield 7, 3) := by decide +kernel
theorem dX7_insure_42 : decode cX7_insure 42 = .ok (.iconst 1, 1) := by decide +kernel
theorem dX7_insure_43 : decode cX7_insure 43 = .ok (.iaload, 1) := by decide +kernel
theorem dX7_insure_44 : decode cX7_insure 44 = .ok (.if_icmp .le 9, 3) := by decide +kernel
theorem dX7_insure_47 : decode cX7_insure 47 = .ok (.aload_n 0, 1) := by decide +kernel
theorem dX7_insure_48 : decode cX7_insure 48 = .ok (.iconst 2, 1) := by decide +kernel
theorem dX7_insure_49 : decode cX7_insure 49 = .ok (.invokevirtual 33, 3) := by decide +kernel
theorem dX7_insure_52 : decode cX7_insure 52 = .ok (.ireturn, 1) := by decide +kernel
theorem dX7_insure_53 : decode cX7_insure 53 = .ok (.aload_n 0, 1) := by decide +kernel
theorem dX7_insure_54 : decode cX7_insure 54 = .ok (.invokevirtual 94, 3) := by decide +kernel
theorem dX7_insure_57 : decode cX7_insure 57 = .ok (.aload_n 0, 1) := by decide +kernel
theorem dX7_insure_58 : decode cX7_insure 58 = .ok (.getfield 7, 3) := by decide +kernel
theorem dX7_insure_61 : decode cX7_insure 61 = .ok (.iconst 1, 1) := by decide +kernel
theorem dX7_insure_62 : decode cX7_insure 62 = .ok (.dup2, 1) := by decide +kernel
theorem dX7_insure_63 : decode cX7_insure 63 = .ok (.iaload, 1) := by decide +kernel
theorem dX7_insure_64 : decode cX7_insure 64 = .ok (.iload_n 3, 1) := by decide +kernel
theorem dX7_insure_65 : decode cX7_insure 65 = .ok (.isub, 1) := by decide +kernel
theorem dX7_insure_66 : decode cX7_insure 66 = .ok (.iastore, 1) := by decide +kernel
theorem dX7_insure_67 : decode cX7_insure 67 = .ok (.aload_n 0, 1) := by decide +kernel
theorem dX7_insure_68 : decode cX7_insure 68 = .ok (.getfield 7, 3) := by decide +kernel
theorem dX7_insure_71 : decode cX7_insure 71 = .ok (.iconst 2, 1) := by decide +kernel
theorem dX7_insure_72 : decode cX7_insure 72 = .ok (.iload_n 1, 1) := by decide +kernel
theorem dX7_insure_73 : decode cX7_insure 73 = .ok (.iastore, 1) := by decide +kernel
theorem dX7_insure_74 : decode cX7_insure 74 = .ok (.aload_n 0, 1) := by decide +kernel
theorem dX7_insure_75 : decode cX7_insure 75 = .ok (.getfield 7, 3) := by decide +kernel
theorem dX7_insure_78 : decode cX7_insure 78 = .ok (.iconst 3, 1) := by decide +kernel
theorem dX7_insure_79 : decode cX7_insure 79 = .ok (.aload_n 0, 1) := by decide +kernel
theorem dX7_insure_80 : decode cX7_insure 80 = .ok (.getfield 7, 3) := by decide +kernel
theorem dX7_insure_83 : decode cX7_insure 83 = .ok (.iconst 0, 1) := by decide +kernel
theorem dX7_insure_84 : decode cX7_insure 84 = .ok (.iaload, 1) := by decide +kernel
theorem dX7_insure_85 : decode cX7_insure 85 = .ok (.iload_n 2, 1) := by decide +kernel
theorem dX7_insure_86 : decode cX7_insure 86 = .ok (.iadd, 1) := by decide +kernel
theorem dX7_insure_87 : decode cX7_insure 87 = .ok (.iconst 1, 1) := by decide +kernel
theorem dX7_insure_88 : decode cX7_insure 88 = .ok (.isub, 1) := by decide +kernel
theorem dX7_insure_89 : decode cX7_insure 89 = .ok (.iastore, 1) := by decide +kernel
theorem dX7_insure_90 : decode cX7_insure 90 = .ok (.aload_n 0, 1) := by decide +kernel
theorem dX7_insure_91 : decode cX7_insure 91 = .ok (.getfield 7, 3) := by decide +kernel
theorem dX7_insure_94 : decode cX7_insure 94 = .ok (.iconst 1, 1) := by decide +kernel
theorem dX7_insure_95 : decode cX7_insure 95 = .ok (.iaload, 1) := by decide +kernel
theorem dX7_insure_96 : decode cX7_insure 96 = .ok (.ireturn, 1) := by decide +kernel
theorem dX7_scene_0 : decode cX7_scene 0 = .ok (.aload_n 0, 1) := by decide +kernel
theorem dX7_scene_1 : decode cX7_scene 1 = .ok (.iconst 0, 1) := by decide +kernel
theorem dX7_scene_2 : decode cX7_scene 2 = .ok (.putfield 22, 3) := by decide +kernel
theorem dX7_scene_5 : decode cX7_scene 5 = .ok (.iload_n 1, 1) := by decide +kernel
theorem dX7_scene_6 : decode cX7_scene 6 = .ok (.invokestatic 100, 3) := by decide +kernel
theorem dX7_scene_9 : decode cX7_scene 9 = .ok (.ifCond .eq 10, 3) := by decide +kernel
theorem dX7_scene_12 : decode cX7_scene 12 = .ok (.iload_n 3, 1) := by decide +kernel
theorem dX7_scene_13 : decode cX7_scene 13 = .ok (.invokestatic 90, 3) := by decide +kernel
theorem dX7_scene_16 : decode cX7_scene 16 = .ok (.ifCond .ne 9, 3) := by decide +kernel
theorem dX7_scene_19 : decode cX7_scene 19 = .ok (.aload_n 0, 1) := by decide +kernel
theorem dX7_scene_20 : decode cX7_scene 20 = .ok (.iconst 1, 1) := by decide +kernel
theorem dX7_scene_21 : decode cX7_scene 21 = .ok (.invokevirtual 33, 3) := by decide +kernel
theorem dX7_scene_24 : decode cX7_scene 24 = .ok (.ireturn, 1) := by decide +kernel
theorem dX7_scene_25 : decode cX7_scene 25 = .ok (.iload_n 2, 1) := by decide +kernel
theorem dX7_scene_26 : decode cX7_scene 26 = .ok (.invokestatic 103, 3) := by decide +kernel
theorem dX7_scene_29 : decode cX7_scene 29 = .ok (.ifCond .ne 9, 3) := by decide +kernel
theorem dX7_scene_32 : decode cX7_scene 32 = .ok (.aload_n 0, 1) := by decide +kernel
theorem dX7_scene_33 : decode cX7_scene 33 = .ok (.iconst 2, 1) := by decide +kernel
theorem dX7_scene_34 : decode cX7_scene 34 = .ok (.invokevirtual 33, 3) := by decide +kernel
theorem dX7_scene_37 : decode cX7_scene 37 = .ok (.ireturn, 1) := by decide +kernel
theorem dX7_scene_38 : decode cX7_scene 38 = .ok (.aload_n 0, 1) := by decide +kernel
theorem dX7_scene_39 : decode cX7_scene 39 = .ok (.getfield 7, 3) := by decide +kernel
theorem dX7_scene_42 : decode cX7_scene 42 = .ok (.iconst 4, 1) := by decide +kernel
theorem dX7_scene_43 : decode cX7_scene 43 = .ok (.iaload, 1) := by decide +kernel
theorem dX7_scene_44 : decode cX7_scene 44 = .ok (.bipush 10, 2) := by decide +kernel
theorem dX7_scene_46 : decode cX7_scene 46 = .ok (.if_icmp .ne 9, 3) := by decide +kernel
theorem dX7_scene_49 : decode cX7_scene 49 = .ok (.aload_n 0, 1) := by decide +kernel
theorem dX7_scene_50 : decode cX7_scene 50 = .ok (.iconst 3, 1) := by decide +kernel
theorem dX7_scene_51 : decode cX7_scene 51 = .ok (.invokevirtual 33, 3) := by decide +kernel
theorem dX7_scene_54 : decode cX7_scene 54 = .ok (.ireturn, 1) := by decide +kernel
theorem dX7_scene_55 : decode cX7_scene 55 = .ok (.aload_n 0, 1) := by decide +kernel
theorem dX7_scene_56 : decode cX7_scene 56 = .ok (.invokevirtual 94, 3) := by decide +kernel
theorem dX7_scene_59 : decode cX7_scene 59 = .ok (.sipush 250, 3) := by decide +kernel
theorem dX7_scene_62 : decode cX7_scene 62 = .ok (.iconst 5, 1) := by decide +kernel
theorem dX7_scene_63 : decode cX7_scene 63 = .ok (.aload_n 0, 1) := by decide +kernel
theorem dX7_scene_64 : decode cX7_scene 64 = .ok (.getfield 7, 3) := by decide +kernel
theorem dX7_scene_67 : decode cX7_scene 67 = .ok (.iconst 4, 1) := by decide +kernel
theorem dX7_scene_68 : decode cX7_scene 68 = .ok (.iaload, 1) := by decide +kernel
theorem dX7_scene_69 : decode cX7_scene 69 = .ok (.imul, 1) := by decide +kernel
theorem dX7_scene_70 : decode cX7_scene 70 = .ok (.iadd, 1) := by decide +kernel
theorem dX7_scene_71 : decode cX7_scene 71 = .ok (.istore 4, 2) := by decide +kernel
theorem dX7_scene_73 : decode cX7_scene 73 = .ok (.aload_n 0, 1) := by decide +kernel
theorem dX7_scene_74 : decode cX7_scene 74 = .ok (.getfield 7, 3) := by decide +kernel
theorem dX7_scene_77 : decode cX7_scene 77 = .ok (.iload 4, 2) := by decide +kernel
theorem dX7_scene_79 : decode cX7_scene 79 = .ok (.iconst 0, 1) := by decide +kernel
theorem dX7_scene_80 : decode cX7_scene 80 = .ok (.iadd, 1) := by decide +kernel
theorem dX7_scene_81 : decode cX7_scene 81 = .ok (.iload_n 1, 1) := by decide +kernel
theorem dX7_scene_82 : decode cX7_scene 82 = .ok (.iastore, 1) := by decide +kernel
theorem dX7_scene_83 : decode cX7_scene 83 = .ok (.aload_n 0, 1) := by decide +kernel
theorem dX7_scene_84 : decode cX7_scene 84 = .ok (.getfield 7, 3) := by decide +kernel
theorem dX7_scene_87 : decode cX7_scene 87 = .ok (.iload 4, 2) := by decide +kernel
theorem dX7_scene_89 : decode cX7_scene 89 = .ok (.iconst 1, 1) := by decide +kernel
theorem dX7_scene_90 : decode cX7_scene 90 = .ok (.iadd, 1) := by decide +kernel
theorem dX7_scene_91 : decode cX7_scene 91 = .ok (.iload_n 2, 1) := by decide +kernel
theorem dX7_scene_92 : decode cX7_scene 92 = .ok (.iastore, 1) := by decide +kernel
theorem dX7_scene_93 : decode cX7_scene 93 = .ok (.aload_n 0, 1) := by decide +kernel
theorem dX7_scene_94 : decode cX7_scene 94 = .ok (.getfield 7, 3) := by decide +kernel
theorem dX7_scene_97 : decode cX7_scene 97 = .ok (.iload 4, 2) := by decide +kernel
theorem dX7_scene_99 : decode cX7_scene 99 = .ok (.iconst 2, 1) := by decide +kernel
theorem dX7_scene_100 : decode cX7_scene 100 = .ok (.iadd, 1) := by decide +kernel
theorem dX7_scene_101 : decode cX7_scene 101 = .ok (.iload_n 3, 1) := by decide +kernel
theorem dX7_scene_102 : decode cX7_scene 102 = .ok (.iastore, 1) := by decide +kernel
theorem dX7_scene_103 : decode cX7_scene 103 = .ok (.aload_n 0, 1) := by decide +kernel
theorem dX7_scene_104 : decode cX7_scene 104 = .ok (.getfield 7, 3) := by decide +kernel
theorem dX7_scene_107 : decode cX7_scene 107 = .ok (.iload 4, 2) := by decide +kernel
theorem dX7_scene_109 : decode cX7_scene 109 = .ok (.iconst 3, 1) := by decide +kernel
theorem dX7_scene_110 : decode cX7_scene 110 = .ok (.iadd, 1) := by decide +kernel
theorem dX7_scene_111 : decode cX7_scene 111 = .ok (.iconst (-1), 1) := by decide +kernel
theorem dX7_scene_112 : decode cX7_scene 112 = .ok (.iastore, 1) := by decide +kernel
theorem dX7_scene_113 : decode cX7_scene 113 = .ok (.aload_n 0, 1) := by decide +kernel
theorem dX7_scene_114 : decode cX7_scene 114 = .ok (.getfield 7, 3) := by decide +kernel
theorem dX7_scene_117 : decode cX7_scene 117 = .ok (.iload 4, 2) := by decide +kernel
theorem dX7_scene_119 : decode cX7_scene 119 = .ok (.iconst 4, 1) := by decide +kernel
theorem dX7_scene_120 : decode cX7_scene 120 = .ok (.iadd, 1) := by decide +kernel
theorem dX7_scene_121 : decode cX7_scene 121 = .ok (.iconst (-1), 1) := by decide +kernel
theorem dX7_scene_122 : decode cX7_scene 122 = .ok (.iastore, 1) := by decide +kernel
theorem dX7_scene_123 : decode cX7_scene 123 = .ok (.aload_n 0, 1) := by decide +kernel
theorem dX7_scene_124 : decode cX7_scene 124 = .ok (.getfield 7, 3) := by decide +kernel
theorem dX7_scene_127 : decode cX7_scene 127 = .ok (.iconst 4, 1) := by decide +kernel
theorem dX7_scene_128 : decode cX7_scene 128 = .ok (.dup2, 1) := by decide +kernel
theorem dX7_scene_129 : decode cX7_scene 129 = .ok (.iaload, 1) := by decide +kernel
theorem dX7_scene_130 : decode cX7_scene 130 = .ok (.iconst 1, 1) := by decide +kernel
theorem dX7_scene_131 : decode cX7_scene 131 = .ok (.iadd, 1) := by decide +kernel
theorem dX7_scene_132 : decode cX7_scene 132 = .ok (.iastore, 1) := by decide +kernel
theorem dX7_scene_133 : decode cX7_scene 133 = .ok (.aload_n 0, 1) := by decide +kernel
theorem dX7_scene_134 : decode cX7_scene 134 = .ok (.getfield 7, 3) := by decide +kernel
theorem dX7_scene_137 : decode cX7_scene 137 = .ok (.iconst 4, 1) := by decide +kernel
theorem dX7_scene_138 : decode cX7_scene 138 = .ok (.iaload, 1) := by decide +kernel
theorem dX7_scene_139 : decode cX7_scene 139 = .ok (.iconst 1, 1) := by decide +kernel
theorem dX7_scene_140 : decode cX7_scene 140 = .ok (.isub, 1) := by decide +kernel
theorem dX7_scene_141 : decode cX7_scene 141 = .ok (.ireturn, 1) := by decide +kernel
theorem dX7_shoot_0 : decode cX7_shoot 0 = .ok (.aload_n 0, 1) := by decide +kernel
theorem dX7_shoot_1 : decode cX7_shoot 1 = .ok (.iconst 0, 1) := by decide +kernel
theorem dX7_shoot_2 : decode cX7_shoot 2 = .ok (.putfield 22, 3) := by decide +kernel
theorem dX7_shoot_5 : decode cX7_shoot 5 = .ok (.aload_n 0, 1) := by decide +kernel
theorem dX7_shoot_6 : decode cX7_shoot 6 = .ok (.iload_n 1, 1) := by decide +kernel
theorem dX7_shoot_7 : decode cX7_shoot 7 = .ok (.invokevirtual 115, 3) := by decide +kernel
theorem dX7_shoot_10 : decode cX7_shoot 10 = .ok (.ifCond .eq 10, 3) := by decide +kernel
theorem dX7_shoot_13 : decode cX7_shoot 13 = .ok (.iload_n 2, 1) := by decide +kernel
theorem dX7_shoot_14 : decode cX7_shoot 14 = .ok (.invokestatic 90, 3) := by decide +kernel
theorem dX7_shoot_17 : decode cX7_shoot 17 = .ok (.ifCond .ne 9, 3) := by decide +kernel
theorem dX7_shoot_20 : decode cX7_shoot 20 = .ok (.aload_n 0, 1) := by decide +kernel
theorem dX7_shoot_21 : decode cX7_shoot 21 = .ok (.iconst 1, 1) := by decide +kernel
theorem dX7_shoot_22 : decode cX7_shoot 22 = .ok (.invokevirtual 33, 3) := by decide +kernel
theorem dX7_shoot_25 : decode cX7_shoot 25 = .ok (.ireturn, 1) := by decide +kernel
theorem dX7_shoot_26 : decode cX7_shoot 26 = .ok (.aload_n 0, 1) := by decide +kernel
theorem dX7_shoot_27 : decode cX7_shoot 27 = .ok (.iload_n 1, 1) := by decide +kernel
theorem dX7_shoot_28 : decode cX7_shoot 28 = .ok (.iload_n 2, 1) := by decide +kernel
theorem dX7_shoot_29 : decode cX7_shoot 29 = .ok (.aload_n 0, 1) := by decide +kernel
theorem dX7_shoot_30 : decode cX7_shoot 30 = .ok (.getfield 7, 3) := by decide +kernel
theorem dX7_shoot_33 : decode cX7_shoot 33 = .ok (.iconst 0, 1) := by decide +kernel
theorem dX7_shoot_34 : decode cX7_shoot 34 = .ok (.iaload, 1) := by decide +kernel
theorem dX7_shoot_35 : decode cX7_shoot 35 = .ok (.invokevirtual 87, 3) := by decide +kernel
theorem dX7_shoot_38 : decode cX7_shoot 38 = .ok (.ifCond .eq 9, 3) := by decide +kernel
theorem dX7_shoot_41 : decode cX7_shoot 41 = .ok (.aload_n 0, 1) := by decide +kernel
theorem dX7_shoot_42 : decode cX7_shoot 42 = .ok (.iconst 2, 1) := by decide +kernel
theorem dX7_shoot_43 : decode cX7_shoot 43 = .ok (.invokevirtual 33, 3) := by decide +kernel
theorem dX7_shoot_46 : decode cX7_shoot 46 = .ok (.ireturn, 1) := by decide +kernel
theorem dX7_shoot_47 : decode cX7_shoot 47 = .ok (.aload_n 0, 1) := by decide +kernel
theorem dX7_shoot_48 : decode cX7_shoot 48 = .ok (.invokevirtual 94, 3) := by decide +kernel
theorem dX7_shoot_51 : decode cX7_shoot 51 = .ok (.aload_n 0, 1) := by decide +kernel
theorem dX7_shoot_52 : decode cX7_shoot 52 = .ok (.iload_n 1, 1) := by decide +kernel
theorem dX7_shoot_53 : decode cX7_shoot 53 = .ok (.iload_n 2, 1) := by decide +kernel
theorem dX7_shoot_54 : decode cX7_shoot 54 = .ok (.invokevirtual 118, 3) := by decide +kernel
theorem dX7_shoot_57 : decode cX7_shoot 57 = .ok (.ireturn, 1) := by decide +kernel
theorem dX7_append_0 : decode cX7_append 0 = .ok (.aload_n 0, 1) := by decide +kernel
theorem dX7_append_1 : decode cX7_append 1 = .ok (.iconst 0, 1) := by decide +kernel
theorem dX7_append_2 : decode cX7_append 2 = .ok (.putfield 22, 3) := by decide +kernel
theorem dX7_append_5 : decode cX7_append 5 = .ok (.iload_n 1, 1) := by decide +kernel
theorem dX7_append_6 : decode cX7_append 6 = .ok (.bipush 33, 2) := by decide +kernel
theorem dX7_append_8 : decode cX7_append 8 = .ok (.bipush 126, 2) := by decide +kernel
theorem dX7_append_10 : decode cX7_append 10 = .ok (.invokestatic 26, 3) := by decide +kernel
theorem dX7_append_13 : decode cX7_append 13 = .ok (.ifCond .ne 9, 3) := by decide +kernel
theorem dX7_append_16 : decode cX7_append 16 = .ok (.aload_n 0, 1) := by decide +kernel
theorem dX7_append_17 : decode cX7_append 17 = .ok (.iconst 1, 1) := by decide +kernel
theorem dX7_append_18 : decode cX7_append 18 = .ok (.invokevirtual 33, 3) := by decide +kernel
theorem dX7_append_21 : decode cX7_append 21 = .ok (.ireturn, 1) := by decide +kernel
theorem dX7_append_22 : decode cX7_append 22 = .ok (.aload_n 0, 1) := by decide +kernel
theorem dX7_append_23 : decode cX7_append 23 = .ok (.getfield 121, 3) := by decide +kernel
theorem dX7_append_26 : decode cX7_append 26 = .ok (.bipush 60, 2) := by decide +kernel
theorem dX7_append_28 : decode cX7_append 28 = .ok (.if_icmp .ne 9, 3) := by decide +kernel
theorem dX7_append_31 : decode cX7_append 31 = .ok (.aload_n 0, 1) := by decide +kernel
theorem dX7_append_32 : decode cX7_append 32 = .ok (.iconst 2, 1) := by decide +kernel
theorem dX7_append_33 : decode cX7_append 33 = .ok (.invokevirtual 33, 3) := by decide +kernel
theorem dX7_append_36 : decode cX7_append 36 = .ok (.ireturn, 1) := by decide +kernel
theorem dX7_append_37 : decode cX7_append 37 = .ok (.aload_n 0, 1) := by decide +kernel
theorem dX7_append_38 : decode cX7_append 38 = .ok (.getfield 16, 3) := by decide +kernel
theorem dX7_append_41 : decode cX7_append 41 = .ok (.aload_n 0, 1) := by decide +kernel
theorem dX7_append_42 : decode cX7_append 42 = .ok (.getfield 121, 3) := by decide +kernel
theorem dX7_append_45 : decode cX7_append 45 = .ok (.iload_n 1, 1) := by decide +kernel
theorem dX7_append_46 : decode cX7_append 46 = .ok (.iastore, 1) := by decide +kernel
theorem dX7_append_47 : decode cX7_append 47 = .ok (.aload_n 0, 1) := by decide +kernel
theorem dX7_append_48 : decode cX7_append 48 = .ok (.dup, 1) := by decide +kernel
theorem dX7_append_49 : decode cX7_append 49 = .ok (.getfield 121, 3) := by decide +kernel
theorem dX7_append_52 : decode cX7_append 52 = .ok (.iconst 1, 1) := by decide +kernel
theorem dX7_append_53 : decode cX7_append 53 = .ok (.iadd, 1) := by decide +kernel
theorem dX7_append_54 : decode cX7_append 54 = .ok (.putfield 121, 3) := by decide +kernel
theorem dX7_append_57 : decode cX7_append 57 = .ok (.aload_n 0, 1) := by decide +kernel
theorem dX7_append_58 : decode cX7_append 58 = .ok (.getfield 121, 3) := by decide +kernel
theorem dX7_append_61 : decode cX7_append 61 = .ok (.ireturn, 1) := by decide +kernel
theorem dX7_clearBuffer_0 : decode cX7_clearBuffer 0 = .ok (.aload_n 0, 1) := by decide +kernel
theorem dX7_clearBuffer_1 : decode cX7_clearBuffer 1 = .ok (.iconst 0, 1) := by decide +kernel
theorem dX7_clearBuffer_2 : decode cX7_clearBuffer 2 = .ok (.putfield 22, 3) := by decide +kernel
theorem dX7_clearBuffer_5 : decode cX7_clearBuffer 5 = .ok (.aload_n 0, 1) := by decide +kernel
theorem dX7_clearBuffer_6 : decode cX7_clearBuffer 6 = .ok (.getfield 121, 3) := by decide +kernel
theorem dX7_clearBuffer_9 : decode cX7_clearBuffer 9 = .ok (.istore_n 1, 1) := by decide +kernel
theorem dX7_clearBuffer_10 : decode cX7_clearBuffer 10 = .ok (.aload_n 0, 1) := by decide +kernel
theorem dX7_clearBuffer_11 : decode cX7_clearBuffer 11 = .ok (.iconst 0, 1) := by decide +kernel
theorem dX7_clearBuffer_12 : decode cX7_clearBuffer 12 = .ok (.putfield 121, 3) := by decide +kernel
theorem dX7_clearBuffer_15 : decode cX7_clearBuffer 15 = .ok (.iload_n 1, 1) := by decide +kernel
theorem dX7_clearBuffer_16 : decode cX7_clearBuffer 16 = .ok (.ireturn, 1) := by decide +kernel
theorem dX7_next_0 : decode cX7_next 0 = .ok (.aload_n 0, 1) := by decide +kernel
theorem dX7_next_1 : decode cX7_next 1 = .ok (.getfield 124, 3) := by decide +kernel
theorem dX7_next_4 : decode cX7_next 4 = .ok (.aload_n 0, 1) := by decide +kernel
theorem dX7_next_5 : decode cX7_next 5 = .ok (.getfield 121, 3) := by decide +kernel
theorem dX7_next_8 : decode cX7_next 8 = .ok (.if_icmp .ge 15, 3) := by decide +kernel
theorem dX7_next_11 : decode cX7_next 11 = .ok (.aload_n 0, 1) := by decide +kernel
theorem dX7_next_12 : decode cX7_next 12 = .ok (.getfield 16, 3) := by decide +kernel
theorem dX7_next_15 : decode cX7_next 15 = .ok (.aload_n 0, 1) := by decide +kernel
theorem dX7_next_16 : decode cX7_next 16 = .ok (.getfield 124, 3) := by decide +kernel
theorem dX7_next_19 : decode cX7_next 19 = .ok (.iaload, 1) := by decide +kernel
theorem dX7_next_20 : decode cX7_next 20 = .ok (.goto 4, 3) := by decide +kernel
theorem dX7_next_23 : decode cX7_next 23 = .ok (.iconst 0, 1) := by decide +kernel
theorem dX7_next_24 : decode cX7_next 24 = .ok (.ireturn, 1) := by decide +kernel
theorem dX7_takes_0 : decode cX7_takes 0 = .ok (.aload_n 0, 1) := by decide +kernel
theorem dX7_takes_1 : decode cX7_takes 1 = .ok (.invokevirtual 127, 3) := by decide +kernel
theorem dX7_takes_4 : decode cX7_takes 4 = .ok (.iload_n 1, 1) := by decide +kernel
theorem dX7_takes_5 : decode cX7_takes 5 = .ok (.if_icmp .ne 7, 3) := by decide +kernel
theorem dX7_takes_8 : decode cX7_takes 8 = .ok (.iconst 1, 1) := by decide +kernel
theorem dX7_takes_9 : decode cX7_takes 9 = .ok (.goto 4, 3) := by decide +kernel
theorem dX7_takes_12 : decode cX7_takes 12 = .ok (.iconst 0, 1) := by decide +kernel
theorem dX7_takes_13 : decode cX7_takes 13 = .ok (.istore_n 2, 1) := by decide +kernel
theorem dX7_takes_14 : decode cX7_takes 14 = .ok (.aload_n 0, 1) := by decide +kernel
theorem dX7_takes_15 : decode cX7_takes 15 = .ok (.dup, 1) := by decide +kernel
theorem dX7_takes_16 : decode cX7_takes 16 = .ok (.getfield 124, 3) := by decide +kernel
theorem dX7_takes_19 : decode cX7_takes 19 = .ok (.iload_n 2, 1) := by decide +kernel
theorem dX7_takes_20 : decode cX7_takes 20 = .ok (.ifCond .eq 7, 3) := by decide +kernel
theorem dX7_takes_23 : decode cX7_takes 23 = .ok (.iconst 1, 1) := by decide +kernel
theorem dX7_takes_24 : decode cX7_takes 24 = .ok (.goto 4, 3) := by decide +kernel
theorem dX7_takes_27 : decode cX7_takes 27 = .ok (.iconst 0, 1) := by decide +kernel
theorem dX7_takes_28 : decode cX7_takes 28 = .ok (.iadd, 1) := by decide +kernel
theorem dX7_takes_29 : decode cX7_takes 29 = .ok (.putfield 124, 3) := by decide +kernel
theorem dX7_takes_32 : decode cX7_takes 32 = .ok (.iload_n 2, 1) := by decide +kernel
theorem dX7_takes_33 : decode cX7_takes 33 = .ok (.ireturn, 1) := by decide +kernel
theorem dX7_readsDigit_0 : decode cX7_readsDigit 0 = .ok (.aload_n 0, 1) := by decide +kernel
theorem dX7_readsDigit_1 : decode cX7_readsDigit 1 = .ok (.invokevirtual 127, 3) := by decide +kernel
theorem dX7_readsDigit_4 : decode cX7_readsDigit 4 = .ok (.bipush 48, 2) := by decide +kernel
theorem dX7_readsDigit_6 : decode cX7_readsDigit 6 = .ok (.isub, 1) := by decide +kernel
theorem dX7_readsDigit_7 : decode cX7_readsDigit 7 = .ok (.istore 4, 2) := by decide +kernel
theorem dX7_readsDigit_9 : decode cX7_readsDigit 9 = .ok (.iload 4, 2) := by decide +kernel
theorem dX7_readsDigit_11 : decode cX7_readsDigit 11 = .ok (.iload_n 2, 1) := by decide +kernel
theorem dX7_readsDigit_12 : decode cX7_readsDigit 12 = .ok (.iload_n 3, 1) := by decide +kernel
theorem dX7_readsDigit_13 : decode cX7_readsDigit 13 = .ok (.invokestatic 26, 3) := by decide +kernel
theorem dX7_readsDigit_16 : decode cX7_readsDigit 16 = .ok (.istore 5, 2) := by decide +kernel
theorem dX7_readsDigit_18 : decode cX7_readsDigit 18 = .ok (.aload_n 0, 1) := by decide +kernel
theorem dX7_readsDigit_19 : decode cX7_readsDigit 19 = .ok (.getfield 19, 3) := by decide +kernel
theorem dX7_readsDigit_22 : decode cX7_readsDigit 22 = .ok (.iload_n 1, 1) := by decide +kernel
theorem dX7_readsDigit_23 : decode cX7_readsDigit 23 = .ok (.iload 4, 2) := by decide +kernel
theorem dX7_readsDigit_25 : decode cX7_readsDigit 25 = .ok (.iastore, 1) := by decide +kernel
theorem dX7_readsDigit_26 : decode cX7_readsDigit 26 = .ok (.aload_n 0, 1) := by decide +kernel
theorem dX7_readsDigit_27 : decode cX7_readsDigit 27 = .ok (.dup, 1) := by decide +kernel
theorem dX7_readsDigit_28 : decode cX7_readsDigit 28 = .ok (.getfield 124, 3) := by decide +kernel
theorem dX7_readsDigit_31 : decode cX7_readsDigit 31 = .ok (.iload 5, 2) := by decide +kernel
theorem dX7_readsDigit_33 : decode cX7_readsDigit 33 = .ok (.ifCond .eq 7, 3) := by decide +kernel
theorem dX7_readsDigit_36 : decode cX7_readsDigit 36 = .ok (.iconst 1, 1) := by decide +kernel
theorem dX7_readsDigit_37 : decode cX7_readsDigit 37 = .ok (.goto 4, 3) := by decide +kernel
theorem dX7_readsDigit_40 : decode cX7_readsDigit 40 = .ok (.iconst 0, 1) := by decide +kernel
theorem dX7_readsDigit_41 : decode cX7_readsDigit 41 = .ok (.iadd, 1) := by decide +kernel
theorem dX7_readsDigit_42 : decode cX7_readsDigit 42 = .ok (.putfield 124, 3) := by decide +kernel
theorem dX7_readsDigit_45 : decode cX7_readsDigit 45 = .ok (.iload 5, 2) := by decide +kernel
theorem dX7_readsDigit_47 : decode cX7_readsDigit 47 = .ok (.ireturn, 1) := by decide +kernel
theorem dX7_readsDays_0 : decode cX7_readsDays 0 = .ok (.aload_n 0, 1) := by decide +kernel
theorem dX7_readsDays_1 : decode cX7_readsDays 1 = .ok (.iconst 0, 1) := by decide +kernel
theorem dX7_readsDays_2 : decode cX7_readsDays 2 = .ok (.iconst 1, 1) := by decide +kernel
theorem dX7_readsDays_3 : decode cX7_readsDays 3 = .ok (.bipush 9, 2) := by decide +kernel
theorem dX7_readsDays_5 : decode cX7_readsDays 5 = .ok (.invokevirtual 131, 3) := by decide +kernel
theorem dX7_readsDays_8 : decode cX7_readsDays 8 = .ok (.ifCond .ne 5, 3) := by decide +kernel
theorem dX7_readsDays_11 : decode cX7_readsDays 11 = .ok (.iconst 0, 1) := by decide +kernel
theorem dX7_readsDays_12 : decode cX7_readsDays 12 = .ok (.ireturn, 1) := by decide +kernel
theorem dX7_readsDays_13 : decode cX7_readsDays 13 = .ok (.aload_n 0, 1) := by decide +kernel
theorem dX7_readsDays_14 : decode cX7_readsDays 14 = .ok (.invokevirtual 127, 3) := by decide +kernel
theorem dX7_readsDays_17 : decode cX7_readsDays 17 = .ok (.bipush 48, 2) := by decide +kernel
theorem dX7_readsDays_19 : decode cX7_readsDays 19 = .ok (.bipush 57, 2) := by decide +kernel
theorem dX7_readsDays_21 : decode cX7_readsDays 21 = .ok (.invokestatic 26, 3) := by decide +kernel
theorem dX7_readsDays_24 : decode cX7_readsDays 24 = .ok (.ifCond .eq 36, 3) := by decide +kernel
theorem dX7_readsDays_27 : decode cX7_readsDays 27 = .ok (.aload_n 0, 1) := by decide +kernel
theorem dX7_readsDays_28 : decode cX7_readsDays 28 = .ok (.getfield 19, 3) := by decide +kernel
theorem dX7_readsDays_31 : decode cX7_readsDays 31 = .ok (.iconst 0, 1) := by decide +kernel
theorem dX7_readsDays_32 : decode cX7_readsDays 32 = .ok (.bipush 10, 2) := by decide +kernel
theorem dX7_readsDays_34 : decode cX7_readsDays 34 = .ok (.aload_n 0, 1) := by decide +kernel
theorem dX7_readsDays_35 : decode cX7_readsDays 35 = .ok (.getfield 19, 3) := by decide +kernel
theorem dX7_readsDays_38 : decode cX7_readsDays 38 = .ok (.iconst 0, 1) := by decide +kernel
theorem dX7_readsDays_39 : decode cX7_readsDays 39 = .ok (.iaload, 1) := by decide +kernel
theorem dX7_readsDays_40 : decode cX7_readsDays 40 = .ok (.imul, 1) := by decide +kernel
theorem dX7_readsDays_41 : decode cX7_readsDays 41 = .ok (.aload_n 0, 1) := by decide +kernel
theorem dX7_readsDays_42 : decode cX7_readsDays 42 = .ok (.invokevirtual 127, 3) := by decide +kernel
theorem dX7_readsDays_45 : decode cX7_readsDays 45 = .ok (.iadd, 1) := by decide +kernel
theorem dX7_readsDays_46 : decode cX7_readsDays 46 = .ok (.bipush 48, 2) := by decide +kernel
theorem dX7_readsDays_48 : decode cX7_readsDays 48 = .ok (.isub, 1) := by decide +kernel
theorem dX7_readsDays_49 : decode cX7_readsDays 49 = .ok (.iastore, 1) := by decide +kernel
theorem dX7_readsDays_50 : decode cX7_readsDays 50 = .ok (.aload_n 0, 1) := by decide +kernel
theorem dX7_readsDays_51 : decode cX7_readsDays 51 = .ok (.dup, 1) := by decide +kernel
theorem dX7_readsDays_52 : decode cX7_readsDays 52 = .ok (.getfield 124, 3) := by decide +kernel
theorem dX7_readsDays_55 : decode cX7_readsDays 55 = .ok (.iconst 1, 1) := by decide +kernel
theorem dX7_readsDays_56 : decode cX7_readsDays 56 = .ok (.iadd, 1) := by decide +kernel
theorem dX7_readsDays_57 : decode cX7_readsDays 57 = .ok (.putfield 124, 3) := by decide +kernel
theorem dX7_readsDays_60 : decode cX7_readsDays 60 = .ok (.iconst 1, 1) := by decide +kernel
theorem dX7_readsDays_61 : decode cX7_readsDays 61 = .ok (.ireturn, 1) := by decide +kernel
theorem dX7_readsPart_0 : decode cX7_readsPart 0 = .ok (.aload_n 0, 1) := by decide +kernel
theorem dX7_readsPart_1 : decode cX7_readsPart 1 = .ok (.bipush 43, 2) := by decide +kernel
theorem dX7_readsPart_3 : decode cX7_readsPart 3 = .ok (.invokevirtual 134, 3) := by decide +kernel
theorem dX7_readsPart_6 : decode cX7_readsPart 6 = .ok (.ifCond .eq 8, 3) := by decide +kernel
theorem dX7_readsPart_9 : decode cX7_readsPart 9 = .ok (.aload_n 0, 1) := by decide +kernel
theorem dX7_readsPart_10 : decode cX7_readsPart 10 = .ok (.invokevirtual 137, 3) := by decide +kernel
theorem dX7_readsPart_13 : decode cX7_readsPart 13 = .ok (.ireturn, 1) := by decide +kernel
theorem dX7_readsPart_14 : decode cX7_readsPart 14 = .ok (.aload_n 0, 1) := by decide +kernel
theorem dX7_readsPart_15 : decode cX7_readsPart 15 = .ok (.bipush 33, 2) := by decide +kernel
theorem dX7_readsPart_17 : decode cX7_readsPart 17 = .ok (.invokevirtual 134, 3) := by decide +kernel
theorem dX7_readsPart_20 : decode cX7_readsPart 20 = .ok (.ifCond .eq 31, 3) := by decide +kernel
theorem dX7_readsPart_23 : decode cX7_readsPart 23 = .ok (.aload_n 0, 1) := by decide +kernel
theorem dX7_readsPart_24 : decode cX7_readsPart 24 = .ok (.iconst 0, 1) := by decide +kernel
theorem dX7_readsPart_25 : decode cX7_readsPart 25 = .ok (.iconst 0, 1) := by decide +kernel
theorem dX7_readsPart_26 : decode cX7_readsPart 26 = .ok (.bipush 9, 2) := by decide +kernel
theorem dX7_readsPart_28 : decode cX7_readsPart 28 = .ok (.invokevirtual 131, 3) := by decide +kernel
theorem dX7_readsPart_31 : decode cX7_readsPart 31 = .ok (.ifCond .eq 18, 3) := by decide +kernel
theorem dX7_readsPart_34 : decode cX7_readsPart 34 = .ok (.aload_n 0, 1) := by decide +kernel
theorem dX7_readsPart_35 : decode cX7_readsPart 35 = .ok (.iconst 1, 1) := by decide +kernel
theorem dX7_readsPart_36 : decode cX7_readsPart 36 = .ok (.iconst 0, 1) := by decide +kernel
theorem dX7_readsPart_37 : decode cX7_readsPart 37 = .ok (.bipush 7, 2) := by decide +kernel
theorem dX7_readsPart_39 : decode cX7_readsPart 39 = .ok (.invokevirtual 131, 3) := by decide +kernel
theorem dX7_readsPart_42 : decode cX7_readsPart 42 = .ok (.ifCond .eq 7, 3) := by decide +kernel
theorem dX7_readsPart_45 : decode cX7_readsPart 45 = .ok (.iconst 1, 1) := by decide +kernel
theorem dX7_readsPart_46 : decode cX7_readsPart 46 = .ok (.goto 4, 3) := by decide +kernel
theorem dX7_readsPart_49 : decode cX7_readsPart 49 = .ok (.iconst 0, 1) := by decide +kernel
theorem dX7_readsPart_50 : decode cX7_readsPart 50 = .ok (.ireturn, 1) := by decide +kernel
theorem dX7_readsPart_51 : decode cX7_readsPart 51 = .ok (.aload_n 0, 1) := by decide +kernel
theorem dX7_readsPart_52 : decode cX7_readsPart 52 = .ok (.iconst 0, 1) := by decide +kernel
theorem dX7_readsPart_53 : decode cX7_readsPart 53 = .ok (.iconst 0, 1) := by decide +kernel
theorem dX7_readsPart_54 : decode cX7_readsPart 54 = .ok (.bipush 7, 2) := by decide +kernel
theorem dX7_readsPart_56 : decode cX7_readsPart 56 = .ok (.invokevirtual 131, 3) := by decide +kernel
theorem dX7_readsPart_59 : decode cX7_readsPart 59 = .ok (.ifCond .eq 36, 3) := by decide +kernel
theorem dX7_readsPart_62 : decode cX7_readsPart 62 = .ok (.aload_n 0, 1) := by decide +kernel
theorem dX7_readsPart_63 : decode cX7_readsPart 63 = .ok (.bipush 114, 2) := by decide +kernel
theorem dX7_readsPart_65 : decode cX7_readsPart 65 = .ok (.invokevirtual 134, 3) := by decide +kernel
theorem dX7_readsPart_68 : decode cX7_readsPart 68 = .ok (.ifCond .eq 27, 3) := by decide +kernel
theorem dX7_readsPart_71 : decode cX7_readsPart 71 = .ok (.aload_n 0, 1) := by decide +kernel
theorem dX7_readsPart_72 : decode cX7_readsPart 72 = .ok (.iconst 1, 1) := by decide +kernel
theorem dX7_readsPart_73 : decode cX7_readsPart 73 = .ok (.iconst 0, 1) := by decide +kernel
theorem dX7_readsPart_74 : decode cX7_readsPart 74 = .ok (.iconst 5, 1) := by decide +kernel
theorem dX7_readsPart_75 : decode cX7_readsPart 75 = .ok (.invokevirtual 131, 3) := by decide +kernel
theorem dX7_readsPart_78 : decode cX7_readsPart 78 = .ok (.ifCond .eq 17, 3) := by decide +kernel
theorem dX7_readsPart_81 : decode cX7_readsPart 81 = .ok (.aload_n 0, 1) := by decide +kernel
theorem dX7_readsPart_82 : decode cX7_readsPart 82 = .ok (.iconst 2, 1) := by decide +kernel
theorem dX7_readsPart_83 : decode cX7_readsPart 83 = .ok (.iconst 1, 1) := by decide +kernel
theorem dX7_readsPart_84 : decode cX7_readsPart 84 = .ok (.iconst 5, 1) := by decide +kernel
theorem dX7_readsPart_85 : decode cX7_readsPart 85 = .ok (.invokevirtual 131, 3) := by decide +kernel
theorem dX7_readsPart_88 : decode cX7_readsPart 88 = .ok (.ifCond .eq 7, 3) := by decide +kernel
theorem dX7_readsPart_91 : decode cX7_readsPart 91 = .ok (.iconst 1, 1) := by decide +kernel
theorem dX7_readsPart_92 : decode cX7_readsPart 92 = .ok (.goto 4, 3) := by decide +kernel
theorem dX7_readsPart_95 : decode cX7_readsPart 95 = .ok (.iconst 0, 1) := by decide +kernel
theorem dX7_readsPart_96 : decode cX7_readsPart 96 = .ok (.ireturn, 1) := by decide +kernel
theorem dX7_findError_0 : decode cX7_findError 0 = .ok (.aload_n 0, 1) := by decide +kernel
theorem dX7_findError_1 : decode cX7_findError 1 = .ok (.iconst 0, 1) := by decide +kernel
theorem dX7_findError_2 : decode cX7_findError 2 = .ok (.putfield 124, 3) := by decide +kernel
theorem dX7_findError_5 : decode cX7_findError 5 = .ok (.aload_n 0, 1) := by decide +kernel
theorem dX7_findError_6 : decode cX7_findError 6 = .ok (.invokevirtual 141, 3) := by decide +kernel
theorem dX7_findError_9 : decode cX7_findError 9 = .ok (.ifCond .eq 30, 3) := by decide +kernel
theorem dX7_findError_12 : decode cX7_findError 12 = .ok (.aload_n 0, 1) := by decide +kernel
theorem dX7_findError_13 : decode cX7_findError 13 = .ok (.getfield 124, 3) := by decide +kernel
theorem dX7_findError_16 : decode cX7_findError 16 = .ok (.aload_n 0, 1) := by decide +kernel
theorem dX7_findError_17 : decode cX7_findError 17 = .ok (.getfield 121, 3) := by decide +kernel
theorem dX7_findError_20 : decode cX7_findError 20 = .ok (.if_icmp .ne 5, 3) := by decide +kernel
theorem dX7_findError_23 : decode cX7_findError 23 = .ok (.iconst (-1), 1) := by decide +kernel
theorem dX7_findError_24 : decode cX7_findError 24 = .ok (.ireturn, 1) := by decide +kernel
theorem dX7_findError_25 : decode cX7_findError 25 = .ok (.aload_n 0, 1) := by decide +kernel
theorem dX7_findError_26 : decode cX7_findError 26 = .ok (.bipush 59, 2) := by decide +kernel
theorem dX7_findError_28 : decode cX7_findError 28 = .ok (.invokevirtual 134, 3) := by decide +kernel
theorem dX7_findError_31 : decode cX7_findError 31 = .ok (.ifCond .ne (-26), 3) := by decide +kernel
theorem dX7_findError_34 : decode cX7_findError 34 = .ok (.aload_n 0, 1) := by decide +kernel
theorem dX7_findError_35 : decode cX7_findError 35 = .ok (.getfield 124, 3) := by decide +kernel
theorem dX7_findError_38 : decode cX7_findError 38 = .ok (.ireturn, 1) := by decide +kernel
theorem dX7_findError_39 : decode cX7_findError 39 = .ok (.aload_n 0, 1) := by decide +kernel
theorem dX7_findError_40 : decode cX7_findError 40 = .ok (.getfield 124, 3) := by decide +kernel
theorem dX7_findError_43 : decode cX7_findError 43 = .ok (.ireturn, 1) := by decide +kernel
theorem dX7_firstError_0 : decode cX7_firstError 0 = .ok (.aload_n 0, 1) := by decide +kernel
theorem dX7_firstError_1 : decode cX7_firstError 1 = .ok (.iconst 0, 1) := by decide +kernel
theorem dX7_firstError_2 : decode cX7_firstError 2 = .ok (.putfield 22, 3) := by decide +kernel
theorem dX7_firstError_5 : decode cX7_firstError 5 = .ok (.aload_n 0, 1) := by decide +kernel
theorem dX7_firstError_6 : decode cX7_firstError 6 = .ok (.invokevirtual 144, 3) := by decide +kernel
theorem dX7_firstError_9 : decode cX7_firstError 9 = .ok (.istore_n 1, 1) := by decide +kernel
theorem dX7_firstError_10 : decode cX7_firstError 10 = .ok (.iload_n 1, 1) := by decide +kernel
theorem dX7_firstError_11 : decode cX7_firstError 11 = .ok (.iconst (-1), 1) := by decide +kernel
theorem dX7_firstError_12 : decode cX7_firstError 12 = .ok (.if_icmp .ne 10, 3) := by decide +kernel
theorem dX7_firstError_15 : decode cX7_firstError 15 = .ok (.aload_n 0, 1) := by decide +kernel
theorem dX7_firstError_16 : decode cX7_firstError 16 = .ok (.getfield 121, 3) := by decide +kernel
theorem dX7_firstError_19 : decode cX7_firstError 19 = .ok (.goto 4, 3) := by decide +kernel
theorem dX7_firstError_22 : decode cX7_firstError 22 = .ok (.iload_n 1, 1) := by decide +kernel
theorem dX7_firstError_23 : decode cX7_firstError 23 = .ok (.ireturn, 1) := by decide +kernel
theorem dX7_doesPart_0 : decode cX7_doesPart 0 = .ok (.iload_n 1, 1) := by decide +kernel
theorem dX7_doesPart_1 : decode cX7_doesPart 1 = .ok (.bipush 43, 2) := by decide +kernel
theorem dX7_doesPart_3 : decode cX7_doesPart 3 = .ok (.if_icmp .ne 51, 3) := by decide +kernel
theorem dX7_doesPart_6 : decode cX7_doesPart 6 = .ok (.aload_n 0, 1) := by decide +kernel
theorem dX7_doesPart_7 : decode cX7_doesPart 7 = .ok (.getfield 7, 3) := by decide +kernel
theorem dX7_doesPart_10 : decode cX7_doesPart 10 = .ok (.iconst 0, 1) := by decide +kernel
theorem dX7_doesPart_11 : decode cX7_doesPart 11 = .ok (.iaload, 1) := by decide +kernel
theorem dX7_doesPart_12 : decode cX7_doesPart 12 = .ok (.aload_n 0, 1) := by decide +kernel
theorem dX7_doesPart_13 : decode cX7_doesPart 13 = .ok (.getfield 19, 3) := by decide +kernel
theorem dX7_doesPart_16 : decode cX7_doesPart 16 = .ok (.iconst 0, 1) := by decide +kernel
theorem dX7_doesPart_17 : decode cX7_doesPart 17 = .ok (.iaload, 1) := by decide +kernel
theorem dX7_doesPart_18 : decode cX7_doesPart 18 = .ok (.iadd, 1) := by decide +kernel
theorem dX7_doesPart_19 : decode cX7_doesPart 19 = .ok (.sipush 999, 3) := by decide +kernel
theorem dX7_doesPart_22 : decode cX7_doesPart 22 = .ok (.if_icmp .gt 7, 3) := by decide +kernel
theorem dX7_doesPart_25 : decode cX7_doesPart 25 = .ok (.iconst 1, 1) := by decide +kernel
theorem dX7_doesPart_26 : decode cX7_doesPart 26 = .ok (.goto 4, 3) := by decide +kernel
theorem dX7_doesPart_29 : decode cX7_doesPart 29 = .ok (.iconst 0, 1) := by decide +kernel
theorem dX7_doesPart_30 : decode cX7_doesPart 30 = .ok (.istore_n 2, 1) := by decide +kernel
theorem dX7_doesPart_31 : decode cX7_doesPart 31 = .ok (.iload_n 2, 1) := by decide +kernel
theorem dX7_doesPart_32 : decode cX7_doesPart 32 = .ok (.ifCond .eq 20, 3) := by decide +kernel
theorem dX7_doesPart_35 : decode cX7_doesPart 35 = .ok (.aload_n 0, 1) := by decide +kernel
theorem dX7_doesPart_36 : decode cX7_doesPart 36 = .ok (.aload_n 0, 1) := by decide +kernel
theorem dX7_doesPart_37 : decode cX7_doesPart 37 = .ok (.getfield 19, 3) := by decide +kernel
theorem dX7_doesPart_40 : decode cX7_doesPart 40 = .ok (.iconst 0, 1) := by decide +kernel
theorem dX7_doesPart_41 : decode cX7_doesPart 41 = .ok (.iaload, 1) := by decide +kernel
theorem dX7_doesPart_42 : decode cX7_doesPart 42 = .ok (.invokevirtual 97, 3) := by decide +kernel
theorem dX7_doesPart_45 : decode cX7_doesPart 45 = .ok (.ifCond .le 7, 3) := by decide +kernel
theorem dX7_doesPart_48 : decode cX7_doesPart 48 = .ok (.iconst 1, 1) := by decide +kernel
theorem dX7_doesPart_49 : decode cX7_doesPart 49 = .ok (.goto 4, 3) := by decide +kernel
theorem dX7_doesPart_52 : decode cX7_doesPart 52 = .ok (.iconst 0, 1) := by decide +kernel
theorem dX7_doesPart_53 : decode cX7_doesPart 53 = .ok (.ireturn, 1) := by decide +kernel
theorem dX7_doesPart_54 : decode cX7_doesPart 54 = .ok (.iload_n 1, 1) := by decide +kernel
theorem dX7_doesPart_55 : decode cX7_doesPart 55 = .ok (.bipush 33, 2) := by decide +kernel
theorem dX7_doesPart_57 : decode cX7_doesPart 57 = .ok (.if_icmp .ne 76, 3) := by decide +kernel
theorem dX7_doesPart_60 : decode cX7_doesPart 60 = .ok (.aload_n 0, 1) := by decide +kernel
theorem dX7_doesPart_61 : decode cX7_doesPart 61 = .ok (.aload_n 0, 1) := by decide +kernel
theorem dX7_doesPart_62 : decode cX7_doesPart 62 = .ok (.getfield 19, 3) := by decide +kernel
theorem dX7_doesPart_65 : decode cX7_doesPart 65 = .ok (.iconst 0, 1) := by decide +kernel
theorem dX7_doesPart_66 : decode cX7_doesPart 66 = .ok (.iaload, 1) := by decide +kernel
theorem dX7_doesPart_67 : decode cX7_doesPart 67 = .ok (.invokevirtual 115, 3) := by decide +kernel
theorem dX7_doesPart_70 : decode cX7_doesPart 70 = .ok (.ifCond .eq 32, 3) := by decide +kernel
theorem dX7_doesPart_73 : decode cX7_doesPart 73 = .ok (.aload_n 0, 1) := by decide +kernel
theorem dX7_doesPart_74 : decode cX7_doesPart 74 = .ok (.aload_n 0, 1) := by decide +kernel
theorem dX7_doesPart_75 : decode cX7_doesPart 75 = .ok (.getfield 19, 3) := by decide +kernel
theorem dX7_doesPart_78 : decode cX7_doesPart 78 = .ok (.iconst 0, 1) := by decide +kernel
theorem dX7_doesPart_79 : decode cX7_doesPart 79 = .ok (.iaload, 1) := by decide +kernel
theorem dX7_doesPart_80 : decode cX7_doesPart 80 = .ok (.aload_n 0, 1) := by decide +kernel
theorem dX7_doesPart_81 : decode cX7_doesPart 81 = .ok (.getfield 19, 3) := by decide +kernel
theorem dX7_doesPart_84 : decode cX7_doesPart 84 = .ok (.iconst 1, 1) := by decide +kernel
theorem dX7_doesPart_85 : decode cX7_doesPart 85 = .ok (.iaload, 1) := by decide +kernel
theorem dX7_doesPart_86 : decode cX7_doesPart 86 = .ok (.aload_n 0, 1) := by decide +kernel
theorem dX7_doesPart_87 : decode cX7_doesPart 87 = .ok (.getfield 7, 3) := by decide +kernel
theorem dX7_doesPart_90 : decode cX7_doesPart 90 = .ok (.iconst 0, 1) := by decide +kernel
theorem dX7_doesPart_91 : decode cX7_doesPart 91 = .ok (.iaload, 1) := by decide +kernel
theorem dX7_doesPart_92 : decode cX7_doesPart 92 = .ok (.invokevirtual 87, 3) := by decide +kernel
theorem dX7_doesPart_95 : decode cX7_doesPart 95 = .ok (.ifCond .ne 7, 3) := by decide +kernel
theorem dX7_doesPart_98 : decode cX7_doesPart 98 = .ok (.iconst 1, 1) := by decide +kernel
theorem dX7_doesPart_99 : decode cX7_doesPart 99 = .ok (.goto 4, 3) := by decide +kernel
theorem dX7_doesPart_102 : decode cX7_doesPart 102 = .ok (.iconst 0, 1) := by decide +kernel
theorem dX7_doesPart_103 : decode cX7_doesPart 103 = .ok (.istore_n 2, 1) := by decide +kernel
theorem dX7_doesPart_104 : decode cX7_doesPart 104 = .ok (.iload_n 2, 1) := by decide +kernel
theorem dX7_doesPart_105 : decode cX7_doesPart 105 = .ok (.ifCond .eq 26, 3) := by decide +kernel
theorem dX7_doesPart_108 : decode cX7_doesPart 108 = .ok (.aload_n 0, 1) := by decide +kernel
theorem dX7_doesPart_109 : decode cX7_doesPart 109 = .ok (.aload_n 0, 1) := by decide +kernel
theorem dX7_doesPart_110 : decode cX7_doesPart 110 = .ok (.getfield 19, 3) := by decide +kernel
theorem dX7_doesPart_113 : decode cX7_doesPart 113 = .ok (.iconst 0, 1) := by decide +kernel
theorem dX7_doesPart_114 : decode cX7_doesPart 114 = .ok (.iaload, 1) := by decide +kernel
theorem dX7_doesPart_115 : decode cX7_doesPart 115 = .ok (.aload_n 0, 1) := by decide +kernel
theorem dX7_doesPart_116 : decode cX7_doesPart 116 = .ok (.getfield 19, 3) := by decide +kernel
theorem dX7_doesPart_119 : decode cX7_doesPart 119 = .ok (.iconst 1, 1) := by decide +kernel
theorem dX7_doesPart_120 : decode cX7_doesPart 120 = .ok (.iaload, 1) := by decide +kernel
theorem dX7_doesPart_121 : decode cX7_doesPart 121 = .ok (.invokevirtual 118, 3) := by decide +kernel
theorem dX7_doesPart_124 : decode cX7_doesPart 124 = .ok (.ifCond .lt 7, 3) := by decide +kernel
theorem dX7_doesPart_127 : decode cX7_doesPart 127 = .ok (.iconst 1, 1) := by decide +kernel
theorem dX7_doesPart_128 : decode cX7_doesPart 128 = .ok (.goto 4, 3) := by decide +kernel
theorem dX7_doesPart_131 : decode cX7_doesPart 131 = .ok (.iconst 0, 1) := by decide +kernel
theorem dX7_doesPart_132 : decode cX7_doesPart 132 = .ok (.ireturn, 1) := by decide +kernel
theorem dX7_doesPart_133 : decode cX7_doesPart 133 = .ok (.aload_n 0, 1) := by decide +kernel
theorem dX7_doesPart_134 : decode cX7_doesPart 134 = .ok (.aload_n 0, 1) := by decide +kernel
theorem dX7_doesPart_135 : decode cX7_doesPart 135 = .ok (.getfield 19, 3) := by decide +kernel
theorem dX7_doesPart_138 : decode cX7_doesPart 138 = .ok (.iconst 0, 1) := by decide +kernel
theorem dX7_doesPart_139 : decode cX7_doesPart 139 = .ok (.iaload, 1) := by decide +kernel
theorem dX7_doesPart_140 : decode cX7_doesPart 140 = .ok (.aload_n 0, 1) := by decide +kernel
theorem dX7_doesPart_141 : decode cX7_doesPart 141 = .ok (.getfield 19, 3) := by decide +kernel
theorem dX7_doesPart_144 : decode cX7_doesPart 144 = .ok (.iconst 1, 1) := by decide +kernel
theorem dX7_doesPart_145 : decode cX7_doesPart 145 = .ok (.iaload, 1) := by decide +kernel
theorem dX7_doesPart_146 : decode cX7_doesPart 146 = .ok (.aload_n 0, 1) := by decide +kernel
theorem dX7_doesPart_147 : decode cX7_doesPart 147 = .ok (.getfield 7, 3) := by decide +kernel
theorem dX7_doesPart_150 : decode cX7_doesPart 150 = .ok (.iconst 0, 1) := by decide +kernel
theorem dX7_doesPart_151 : decode cX7_doesPart 151 = .ok (.iaload, 1) := by decide +kernel
theorem dX7_doesPart_152 : decode cX7_doesPart 152 = .ok (.invokevirtual 47, 3) := by decide +kernel
theorem dX7_doesPart_155 : decode cX7_doesPart 155 = .ok (.ifCond .ne 7, 3) := by decide +kernel
theorem dX7_doesPart_158 : decode cX7_doesPart 158 = .ok (.iconst 1, 1) := by decide +kernel
theorem dX7_doesPart_159 : decode cX7_doesPart 159 = .ok (.goto 4, 3) := by decide +kernel
theorem dX7_doesPart_162 : decode cX7_doesPart 162 = .ok (.iconst 0, 1) := by decide +kernel
theorem dX7_doesPart_163 : decode cX7_doesPart 163 = .ok (.istore_n 2, 1) := by decide +kernel
theorem dX7_doesPart_164 : decode cX7_doesPart 164 = .ok (.iload_n 2, 1) := by decide +kernel
theorem dX7_doesPart_165 : decode cX7_doesPart 165 = .ok (.ifCond .eq 32, 3) := by decide +kernel
theorem dX7_doesPart_168 : decode cX7_doesPart 168 = .ok (.aload_n 0, 1) := by decide +kernel
theorem dX7_doesPart_169 : decode cX7_doesPart 169 = .ok (.aload_n 0, 1) := by decide +kernel
theorem dX7_doesPart_170 : decode cX7_doesPart 170 = .ok (.getfield 19, 3) := by decide +kernel
theorem dX7_doesPart_173 : decode cX7_doesPart 173 = .ok (.iconst 0, 1) := by decide +kernel
theorem dX7_doesPart_174 : decode cX7_doesPart 174 = .ok (.iaload, 1) := by decide +kernel
theorem dX7_doesPart_175 : decode cX7_doesPart 175 = .ok (.aload_n 0, 1) := by decide +kernel
theorem dX7_doesPart_176 : decode cX7_doesPart 176 = .ok (.getfield 19, 3) := by decide +kernel
theorem dX7_doesPart_179 : decode cX7_doesPart 179 = .ok (.iconst 1, 1) := by decide +kernel
theorem dX7_doesPart_180 : decode cX7_doesPart 180 = .ok (.iaload, 1) := by decide +kernel
theorem dX7_doesPart_181 : decode cX7_doesPart 181 = .ok (.aload_n 0, 1) := by decide +kernel
theorem dX7_doesPart_182 : decode cX7_doesPart 182 = .ok (.getfield 19, 3) := by decide +kernel
theorem dX7_doesPart_185 : decode cX7_doesPart 185 = .ok (.iconst 2, 1) := by decide +kernel
theorem dX7_doesPart_186 : decode cX7_doesPart 186 = .ok (.iaload, 1) := by decide +kernel
theorem dX7_doesPart_187 : decode cX7_doesPart 187 = .ok (.invokevirtual 106, 3) := by decide +kernel
theorem dX7_doesPart_190 : decode cX7_doesPart 190 = .ok (.ifCond .lt 7, 3) := by decide +kernel
theorem dX7_doesPart_193 : decode cX7_doesPart 193 = .ok (.iconst 1, 1) := by decide +kernel
theorem dX7_doesPart_194 : decode cX7_doesPart 194 = .ok (.goto 4, 3) := by decide +kernel
theorem dX7_doesPart_197 : decode cX7_doesPart 197 = .ok (.iconst 0, 1) := by decide +kernel
theorem dX7_doesPart_198 : decode cX7_doesPart 198 = .ok (.ireturn, 1) := by decide +kernel
theorem dX7_play_0 : decode cX7_play 0 = .ok (.aload_n 0, 1) := by decide +kernel
theorem dX7_play_1 : decode cX7_play 1 = .ok (.iconst 0, 1) := by decide +kernel
theorem dX7_play_2 : decode cX7_play 2 = .ok (.putfield 22, 3) := by decide +kernel
theorem dX7_play_5 : decode cX7_play 5 = .ok (.aload_n 0, 1) := by decide +kernel
theorem dX7_play_6 : decode cX7_play 6 = .ok (.invokevirtual 144, 3) := by decide +kernel
theorem dX7_play_9 : decode cX7_play 9 = .ok (.iconst (-1), 1) := by decide +kernel
theorem dX7_play_10 : decode cX7_play 10 = .ok (.if_icmp .eq 9, 3) := by decide +kernel
theorem dX7_play_13 : decode cX7_play 13 = .ok (.aload_n 0, 1) := by decide +kernel
theorem dX7_play_14 : decode cX7_play 14 = .ok (.iconst 1, 1) := by decide +kernel
theorem dX7_play_15 : decode cX7_play 15 = .ok (.invokevirtual 33, 3) := by decide +kernel
theorem dX7_play_18 : decode cX7_play 18 = .ok (.ireturn, 1) := by decide +kernel
theorem dX7_play_19 : decode cX7_play 19 = .ok (.aload_n 0, 1) := by decide +kernel
theorem dX7_play_20 : decode cX7_play 20 = .ok (.invokevirtual 94, 3) := by decide +kernel
theorem dX7_play_23 : decode cX7_play 23 = .ok (.aload_n 0, 1) := by decide +kernel
theorem dX7_play_24 : decode cX7_play 24 = .ok (.iconst 0, 1) := by decide +kernel
theorem dX7_play_25 : decode cX7_play 25 = .ok (.putfield 124, 3) := by decide +kernel
theorem dX7_play_28 : decode cX7_play 28 = .ok (.iconst 0, 1) := by decide +kernel
theorem dX7_play_29 : decode cX7_play 29 = .ok (.istore_n 1, 1) := by decide +kernel
theorem dX7_play_30 : decode cX7_play 30 = .ok (.iconst 1, 1) := by decide +kernel
theorem dX7_play_31 : decode cX7_play 31 = .ok (.istore_n 2, 1) := by decide +kernel
theorem dX7_play_32 : decode cX7_play 32 = .ok (.iload_n 2, 1) := by decide +kernel
theorem dX7_play_33 : decode cX7_play 33 = .ok (.ifCond .eq 65, 3) := by decide +kernel
theorem dX7_play_36 : decode cX7_play 36 = .ok (.aload_n 0, 1) := by decide +kernel
theorem dX7_play_37 : decode cX7_play 37 = .ok (.getfield 124, 3) := by decide +kernel
theorem dX7_play_40 : decode cX7_play 40 = .ok (.aload_n 0, 1) := by decide +kernel
theorem dX7_play_41 : decode cX7_play 41 = .ok (.getfield 121, 3) := by decide +kernel
theorem dX7_play_44 : decode cX7_play 44 = .ok (.if_icmp .ge 54, 3) := by decide +kernel
theorem dX7_play_47 : decode cX7_play 47 = .ok (.aload_n 0, 1) := by decide +kernel
theorem dX7_play_48 : decode cX7_play 48 = .ok (.invokevirtual 127, 3) := by decide +kernel
theorem dX7_play_51 : decode cX7_play 51 = .ok (.istore_n 3, 1) := by decide +kernel
theorem dX7_play_52 : decode cX7_play 52 = .ok (.aload_n 0, 1) := by decide +kernel
theorem dX7_play_53 : decode cX7_play 53 = .ok (.invokevirtual 141, 3) := by decide +kernel
theorem dX7_play_56 : decode cX7_play 56 = .ok (.ifCond .eq 15, 3) := by decide +kernel
theorem dX7_play_59 : decode cX7_play 59 = .ok (.aload_n 0, 1) := by decide +kernel
theorem dX7_play_60 : decode cX7_play 60 = .ok (.iload_n 3, 1) := by decide +kernel
theorem dX7_play_61 : decode cX7_play 61 = .ok (.invokevirtual 147, 3) := by decide +kernel
theorem dX7_play_64 : decode cX7_play 64 = .ok (.ifCond .eq 7, 3) := by decide +kernel
theorem dX7_play_67 : decode cX7_play 67 = .ok (.iconst 1, 1) := by decide +kernel
theorem dX7_play_68 : decode cX7_play 68 = .ok (.goto 4, 3) := by decide +kernel
theorem dX7_play_71 : decode cX7_play 71 = .ok (.iconst 0, 1) := by decide +kernel
theorem dX7_play_72 : decode cX7_play 72 = .ok (.istore_n 2, 1) := by decide +kernel
theorem dX7_play_73 : decode cX7_play 73 = .ok (.iload_n 1, 1) := by decide +kernel
theorem dX7_play_74 : decode cX7_play 74 = .ok (.iload_n 2, 1) := by decide +kernel
theorem dX7_play_75 : decode cX7_play 75 = .ok (.ifCond .eq 7, 3) := by decide +kernel
theorem dX7_play_78 : decode cX7_play 78 = .ok (.iconst 1, 1) := by decide +kernel
theorem dX7_play_79 : decode cX7_play 79 = .ok (.goto 4, 3) := by decide +kernel
theorem dX7_play_82 : decode cX7_play 82 = .ok (.iconst 0, 1) := by decide +kernel
theorem dX7_play_83 : decode cX7_play 83 = .ok (.iadd, 1) := by decide +kernel
theorem dX7_play_84 : decode cX7_play 84 = .ok (.istore_n 1, 1) := by decide +kernel
theorem dX7_play_85 : decode cX7_play 85 = .ok (.aload_n 0, 1) := by decide +kernel
theorem dX7_play_86 : decode cX7_play 86 = .ok (.dup, 1) := by decide +kernel
theorem dX7_play_87 : decode cX7_play 87 = .ok (.getfield 124, 3) := by decide +kernel
theorem dX7_play_90 : decode cX7_play 90 = .ok (.iconst 1, 1) := by decide +kernel
theorem dX7_play_91 : decode cX7_play 91 = .ok (.iadd, 1) := by decide +kernel
theorem dX7_play_92 : decode cX7_play 92 = .ok (.putfield 124, 3) := by decide +kernel
theorem dX7_play_95 : decode cX7_play 95 = .ok (.goto (-63), 3) := by decide +kernel
theorem dX7_play_98 : decode cX7_play 98 = .ok (.aload_n 0, 1) := by decide +kernel
theorem dX7_play_99 : decode cX7_play 99 = .ok (.iconst 0, 1) := by decide +kernel
theorem dX7_play_100 : decode cX7_play 100 = .ok (.putfield 121, 3) := by decide +kernel
theorem dX7_play_103 : decode cX7_play 103 = .ok (.iload_n 1, 1) := by decide +kernel
theorem dX7_play_104 : decode cX7_play 104 = .ok (.ireturn, 1) := by decide +kernel
theorem dX7_tellsPerson_0 : decode cX7_tellsPerson 0 = .ok (.iload_n 2, 1) := by decide +kernel
theorem dX7_tellsPerson_1 : decode cX7_tellsPerson 1 = .ok (.tableswitch 97 0 5 #[39, 49, 61, 67, 77, 87], 39) := by decide +kernel
theorem dX7_tellsPerson_40 : decode cX7_tellsPerson 40 = .ok (.aload_n 0, 1) := by decide +kernel
theorem dX7_tellsPerson_41 : decode cX7_tellsPerson 41 = .ok (.getfield 7, 3) := by decide +kernel
theorem dX7_tellsPerson_44 : decode cX7_tellsPerson 44 = .ok (.bipush 10, 2) := by decide +kernel
theorem dX7_tellsPerson_46 : decode cX7_tellsPerson 46 = .ok (.iload_n 1, 1) := by decide +kernel
theorem dX7_tellsPerson_47 : decode cX7_tellsPerson 47 = .ok (.iadd, 1) := by decide +kernel
theorem dX7_tellsPerson_48 : decode cX7_tellsPerson 48 = .ok (.iaload, 1) := by decide +kernel
theorem dX7_tellsPerson_49 : decode cX7_tellsPerson 49 = .ok (.ireturn, 1) := by decide +kernel
theorem dX7_tellsPerson_50 : decode cX7_tellsPerson 50 = .ok (.aload_n 0, 1) := by decide +kernel
theorem dX7_tellsPerson_51 : decode cX7_tellsPerson 51 = .ok (.iload_n 1, 1) := by decide +kernel
theorem dX7_tellsPerson_52 : decode cX7_tellsPerson 52 = .ok (.aload_n 0, 1) := by decide +kernel
theorem dX7_tellsPerson_53 : decode cX7_tellsPerson 53 = .ok (.getfield 7, 3) := by decide +kernel
theorem dX7_tellsPerson_56 : decode cX7_tellsPerson 56 = .ok (.iconst 0, 1) := by decide +kernel
theorem dX7_tellsPerson_57 : decode cX7_tellsPerson 57 = .ok (.iaload, 1) := by decide +kernel
theorem dX7_tellsPerson_58 : decode cX7_tellsPerson 58 = .ok (.invokevirtual 41, 3) := by decide +kernel
theorem dX7_tellsPerson_61 : decode cX7_tellsPerson 61 = .ok (.ireturn, 1) := by decide +kernel
theorem dX7_tellsPerson_62 : decode cX7_tellsPerson 62 = .ok (.aload_n 0, 1) := by decide +kernel
theorem dX7_tellsPerson_63 : decode cX7_tellsPerson 63 = .ok (.iload_n 1, 1) := by decide +kernel
theorem dX7_tellsPerson_64 : decode cX7_tellsPerson 64 = .ok (.invokevirtual 150, 3) := by decide +kernel
theorem dX7_tellsPerson_67 : decode cX7_tellsPerson 67 = .ok (.ireturn, 1) := by decide +kernel
theorem dX7_tellsPerson_68 : decode cX7_tellsPerson 68 = .ok (.aload_n 0, 1) := by decide +kernel
theorem dX7_tellsPerson_69 : decode cX7_tellsPerson 69 = .ok (.getfield 7, 3) := by decide +kernel
theorem dX7_tellsPerson_72 : decode cX7_tellsPerson 72 = .ok (.bipush 34, 2) := by decide +kernel
theorem dX7_tellsPerson_74 : decode cX7_tellsPerson 74 = .ok (.iload_n 1, 1) := by decide +kernel
theorem dX7_tellsPerson_75 : decode cX7_tellsPerson 75 = .ok (.iadd, 1) := by decide +kernel
theorem dX7_tellsPerson_76 : decode cX7_tellsPerson 76 = .ok (.iaload, 1) := by decide +kernel
theorem dX7_tellsPerson_77 : decode cX7_tellsPerson 77 = .ok (.ireturn, 1) := by decide +kernel
theorem dX7_tellsPerson_78 : decode cX7_tellsPerson 78 = .ok (.aload_n 0, 1) := by decide +kernel
theorem dX7_tellsPerson_79 : decode cX7_tellsPerson 79 = .ok (.getfield 7, 3) := by decide +kernel
theorem dX7_tellsPerson_82 : decode cX7_tellsPerson 82 = .ok (.bipush 18, 2) := by decide +kernel
theorem dX7_tellsPerson_84 : decode cX7_tellsPerson 84 = .ok (.iload_n 1, 1) := by decide +kernel
theorem dX7_tellsPerson_85 : decode cX7_tellsPerson 85 = .ok (.iadd, 1) := by decide +kernel
theorem dX7_tellsPerson_86 : decode cX7_tellsPerson 86 = .ok (.iaload, 1) := by decide +kernel
theorem dX7_tellsPerson_87 : decode cX7_tellsPerson 87 = .ok (.ireturn, 1) := by decide +kernel
theorem dX7_tellsPerson_88 : decode cX7_tellsPerson 88 = .ok (.aload_n 0, 1) := by decide +kernel
theorem dX7_tellsPerson_89 : decode cX7_tellsPerson 89 = .ok (.getfield 7, 3) := by decide +kernel
theorem dX7_tellsPerson_92 : decode cX7_tellsPerson 92 = .ok (.bipush 26, 2) := by decide +kernel
theorem dX7_tellsPerson_94 : decode cX7_tellsPerson 94 = .ok (.iload_n 1, 1) := by decide +kernel
theorem dX7_tellsPerson_95 : decode cX7_tellsPerson 95 = .ok (.iadd, 1) := by decide +kernel
theorem dX7_tellsPerson_96 : decode cX7_tellsPerson 96 = .ok (.iaload, 1) := by decide +kernel
theorem dX7_tellsPerson_97 : decode cX7_tellsPerson 97 = .ok (.ireturn, 1) := by decide +kernel
theorem dX7_tellsPerson_98 : decode cX7_tellsPerson 98 = .ok (.aload_n 0, 1) := by decide +kernel
theorem dX7_tellsPerson_99 : decode cX7_tellsPerson 99 = .ok (.iload_n 1, 1) := by decide +kernel
theorem dX7_tellsPerson_100 : decode cX7_tellsPerson 100 = .ok (.invokevirtual 153, 3) := by decide +kernel
theorem dX7_tellsPerson_103 : decode cX7_tellsPerson 103 = .ok (.ireturn, 1) := by decide +kernel
theorem dX7_person_0 : decode cX7_person 0 = .ok (.aload_n 0, 1) := by decide +kernel
theorem dX7_person_1 : decode cX7_person 1 = .ok (.iconst 0, 1) := by decide +kernel
theorem dX7_person_2 : decode cX7_person 2 = .ok (.putfield 22, 3) := by decide +kernel
theorem dX7_person_5 : decode cX7_person 5 = .ok (.iload_n 1, 1) := by decide +kernel
theorem dX7_person_6 : decode cX7_person 6 = .ok (.invokestatic 90, 3) := by decide +kernel
theorem dX7_person_9 : decode cX7_person 9 = .ok (.ifCond .ne 9, 3) := by decide +kernel
theorem dX7_person_12 : decode cX7_person 12 = .ok (.aload_n 0, 1) := by decide +kernel
theorem dX7_person_13 : decode cX7_person 13 = .ok (.iconst 1, 1) := by decide +kernel
theorem dX7_person_14 : decode cX7_person 14 = .ok (.invokevirtual 33, 3) := by decide +kernel
theorem dX7_person_17 : decode cX7_person 17 = .ok (.ireturn, 1) := by decide +kernel
theorem dX7_person_18 : decode cX7_person 18 = .ok (.iload_n 2, 1) := by decide +kernel
theorem dX7_person_19 : decode cX7_person 19 = .ok (.iconst 0, 1) := by decide +kernel
theorem dX7_person_20 : decode cX7_person 20 = .ok (.bipush 6, 2) := by decide +kernel
theorem dX7_person_22 : decode cX7_person 22 = .ok (.invokestatic 26, 3) := by decide +kernel
theorem dX7_person_25 : decode cX7_person 25 = .ok (.ifCond .eq 12, 3) := by decide +kernel
theorem dX7_person_28 : decode cX7_person 28 = .ok (.aload_n 0, 1) := by decide +kernel
theorem dX7_person_29 : decode cX7_person 29 = .ok (.iload_n 1, 1) := by decide +kernel
theorem dX7_person_30 : decode cX7_person 30 = .ok (.iload_n 2, 1) := by decide +kernel
theorem dX7_person_31 : decode cX7_person 31 = .ok (.invokevirtual 156, 3) := by decide +kernel
theorem dX7_person_34 : decode cX7_person 34 = .ok (.goto 8, 3) := by decide +kernel
theorem dX7_person_37 : decode cX7_person 37 = .ok (.aload_n 0, 1) := by decide +kernel
theorem dX7_person_38 : decode cX7_person 38 = .ok (.iconst 2, 1) := by decide +kernel
theorem dX7_person_39 : decode cX7_person 39 = .ok (.invokevirtual 33, 3) := by decide +kernel
theorem dX7_person_42 : decode cX7_person 42 = .ok (.ireturn, 1) := by decide +kernel
theorem dX7_rehearsed_0 : decode cX7_rehearsed 0 = .ok (.aload_n 0, 1) := by decide +kernel
theorem dX7_rehearsed_1 : decode cX7_rehearsed 1 = .ok (.iconst 0, 1) := by decide +kernel
theorem dX7_rehearsed_2 : decode cX7_rehearsed 2 = .ok (.putfield 22, 3) := by decide +kernel
theorem dX7_rehearsed_5 : decode cX7_rehearsed 5 = .ok (.iload_n 1, 1) := by decide +kernel
theorem dX7_rehearsed_6 : decode cX7_rehearsed 6 = .ok (.invokestatic 90, 3) := by decide +kernel
theorem dX7_rehearsed_9 : decode cX7_rehearsed 9 = .ok (.ifCond .eq 10, 3) := by decide +kernel
theorem dX7_rehearsed_12 : decode cX7_rehearsed 12 = .ok (.iload_n 2, 1) := by decide +kernel
theorem dX7_rehearsed_13 : decode cX7_rehearsed 13 = .ok (.invokestatic 100, 3) := by decide +kernel
theorem dX7_rehearsed_16 : decode cX7_rehearsed 16 = .ok (.ifCond .ne 9, 3) := by decide +kernel
theorem dX7_rehearsed_19 : decode cX7_rehearsed 19 = .ok (.aload_n 0, 1) := by decide +kernel
theorem dX7_rehearsed_20 : decode cX7_rehearsed 20 = .ok (.iconst 1, 1) := by decide +kernel
theorem dX7_rehearsed_21 : decode cX7_rehearsed 21 = .ok (.invokevirtual 33, 3) := by decide +kernel
theorem dX7_rehearsed_24 : decode cX7_rehearsed 24 = .ok (.ireturn, 1) := by decide +kernel
theorem dX7_rehearsed_25 : decode cX7_rehearsed 25 = .ok (.iload_n 3, 1) := by decide +kernel
theorem dX7_rehearsed_26 : decode cX7_rehearsed 26 = .ok (.invokestatic 103, 3) := by decide +kernel
theorem dX7_rehearsed_29 : decode cX7_rehearsed 29 = .ok (.ifCond .eq 19, 3) := by decide +kernel
theorem dX7_rehearsed_32 : decode cX7_rehearsed 32 = .ok (.aload_n 0, 1) := by decide +kernel
theorem dX7_rehearsed_33 : decode cX7_rehearsed 33 = .ok (.iload_n 1, 1) := by decide +kernel
theorem dX7_rehearsed_34 : decode cX7_rehearsed 34 = .ok (.iload_n 2, 1) := by decide +kernel
theorem dX7_rehearsed_35 : decode cX7_rehearsed 35 = .ok (.iload_n 3, 1) := by decide +kernel
theorem dX7_rehearsed_36 : decode cX7_rehearsed 36 = .ok (.aload_n 0, 1) := by decide +kernel
theorem dX7_rehearsed_37 : decode cX7_rehearsed 37 = .ok (.getfield 7, 3) := by decide +kernel
theorem dX7_rehearsed_40 : decode cX7_rehearsed 40 = .ok (.iconst 0, 1) := by decide +kernel
theorem dX7_rehearsed_41 : decode cX7_rehearsed 41 = .ok (.iaload, 1) := by decide +kernel
theorem dX7_rehearsed_42 : decode cX7_rehearsed 42 = .ok (.invokevirtual 69, 3) := by decide +kernel
theorem dX7_rehearsed_45 : decode cX7_rehearsed 45 = .ok (.goto 8, 3) := by decide +kernel
theorem dX7_rehearsed_48 : decode cX7_rehearsed 48 = .ok (.aload_n 0, 1) := by decide +kernel
theorem dX7_rehearsed_49 : decode cX7_rehearsed 49 = .ok (.iconst 2, 1) := by decide +kernel
theorem dX7_rehearsed_50 : decode cX7_rehearsed 50 = .ok (.invokevirtual 33, 3) := by decide +kernel
theorem dX7_rehearsed_53 : decode cX7_rehearsed 53 = .ok (.ireturn, 1) := by decide +kernel
theorem dX7_kind_0 : decode cX7_kind 0 = .ok (.aload_n 0, 1) := by decide +kernel
theorem dX7_kind_1 : decode cX7_kind 1 = .ok (.iconst 0, 1) := by decide +kernel
theorem dX7_kind_2 : decode cX7_kind 2 = .ok (.putfield 22, 3) := by decide +kernel
theorem dX7_kind_5 : decode cX7_kind 5 = .ok (.iload_n 1, 1) := by decide +kernel
theorem dX7_kind_6 : decode cX7_kind 6 = .ok (.invokestatic 100, 3) := by decide +kernel
theorem dX7_kind_9 : decode cX7_kind 9 = .ok (.ifCond .ne 9, 3) := by decide +kernel
theorem dX7_kind_12 : decode cX7_kind 12 = .ok (.aload_n 0, 1) := by decide +kernel
theorem dX7_kind_13 : decode cX7_kind 13 = .ok (.iconst 1, 1) := by decide +kernel
theorem dX7_kind_14 : decode cX7_kind 14 = .ok (.invokevirtual 33, 3) := by decide +kernel
theorem dX7_kind_17 : decode cX7_kind 17 = .ok (.ireturn, 1) := by decide +kernel
theorem dX7_kind_18 : decode cX7_kind 18 = .ok (.iload_n 2, 1) := by decide +kernel
theorem dX7_kind_19 : decode cX7_kind 19 = .ok (.invokestatic 103, 3) := by decide +kernel
theorem dX7_kind_22 : decode cX7_kind 22 = .ok (.ifCond .eq 12, 3) := by decide +kernel
theorem dX7_kind_25 : decode cX7_kind 25 = .ok (.iload_n 3, 1) := by decide +kernel
theorem dX7_kind_26 : decode cX7_kind 26 = .ok (.iconst 0, 1) := by decide +kernel
theorem dX7_kind_27 : decode cX7_kind 27 = .ok (.iconst 2, 1) := by decide +kernel
theorem dX7_kind_28 : decode cX7_kind 28 = .ok (.invokestatic 26, 3) := by decide +kernel
theorem dX7_kind_31 : decode cX7_kind 31 = .ok (.ifCond .ne 9, 3) := by decide +kernel
theorem dX7_kind_34 : decode cX7_kind 34 = .ok (.aload_n 0, 1) := by decide +kernel
theorem dX7_kind_35 : decode cX7_kind 35 = .ok (.iconst 2, 1) := by decide +kernel
theorem dX7_kind_36 : decode cX7_kind 36 = .ok (.invokevirtual 33, 3) := by decide +kernel
theorem dX7_kind_39 : decode cX7_kind 39 = .ok (.ireturn, 1) := by decide +kernel
theorem dX7_kind_40 : decode cX7_kind 40 = .ok (.iload_n 3, 1) := by decide +kernel
theorem dX7_kind_41 : decode cX7_kind 41 = .ok (.ifCond .ne 11, 3) := by decide +kernel
theorem dX7_kind_44 : decode cX7_kind 44 = .ok (.iload_n 1, 1) := by decide +kernel
theorem dX7_kind_45 : decode cX7_kind 45 = .ok (.iload_n 2, 1) := by decide +kernel
theorem dX7_kind_46 : decode cX7_kind 46 = .ok (.invokestatic 66, 3) := by decide +kernel
theorem dX7_kind_49 : decode cX7_kind 49 = .ok (.goto 19, 3) := by decide +kernel
theorem dX7_kind_52 : decode cX7_kind 52 = .ok (.iload_n 3, 1) := by decide +kernel
theorem dX7_kind_53 : decode cX7_kind 53 = .ok (.iconst 1, 1) := by decide +kernel
theorem dX7_kind_54 : decode cX7_kind 54 = .ok (.if_icmp .ne 10, 3) := by decide +kernel
theorem dX7_kind_57 : decode cX7_kind 57 = .ok (.iload_n 1, 1) := by decide +kernel
theorem dX7_kind_58 : decode cX7_kind 58 = .ok (.invokestatic 53, 3) := by decide +kernel
theorem dX7_kind_61 : decode cX7_kind 61 = .ok (.goto 7, 3) := by decide +kernel
theorem dX7_kind_64 : decode cX7_kind 64 = .ok (.iload_n 1, 1) := by decide +kernel
theorem dX7_kind_65 : decode cX7_kind 65 = .ok (.invokestatic 44, 3) := by decide +kernel
theorem dX7_kind_68 : decode cX7_kind 68 = .ok (.ireturn, 1) := by decide +kernel
theorem dX7_tellsScene_0 : decode cX7_tellsScene 0 = .ok (.iload_n 2, 1) := by decide +kernel
theorem dX7_tellsScene_1 : decode cX7_tellsScene 1 = .ok (.iconst 5, 1) := by decide +kernel
theorem dX7_tellsScene_2 : decode cX7_tellsScene 2 = .ok (.if_icmp .ge 12, 3) := by decide +kernel
theorem dX7_tellsScene_5 : decode cX7_tellsScene 5 = .ok (.aload_n 0, 1) := by decide +kernel
theorem dX7_tellsScene_6 : decode cX7_tellsScene 6 = .ok (.iload_n 1, 1) := by decide +kernel
theorem dX7_tellsScene_7 : decode cX7_tellsScene 7 = .ok (.iload_n 2, 1) := by decide +kernel
theorem dX7_tellsScene_8 : decode cX7_tellsScene 8 = .ok (.invokevirtual 63, 3) := by decide +kernel
theorem dX7_tellsScene_11 : decode cX7_tellsScene 11 = .ok (.goto 8, 3) := by decide +kernel
theorem dX7_tellsScene_14 : decode cX7_tellsScene 14 = .ok (.aload_n 0, 1) := by decide +kernel
theorem dX7_tellsScene_15 : decode cX7_tellsScene 15 = .ok (.iload_n 1, 1) := by decide +kernel
theorem dX7_tellsScene_16 : decode cX7_tellsScene 16 = .ok (.invokevirtual 159, 3) := by decide +kernel
theorem dX7_tellsScene_19 : decode cX7_tellsScene 19 = .ok (.ireturn, 1) := by decide +kernel
theorem dX7_sceneOf_0 : decode cX7_sceneOf 0 = .ok (.aload_n 0, 1) := by decide +kernel
theorem dX7_sceneOf_1 : decode cX7_sceneOf 1 = .ok (.iconst 0, 1) := by decide +kernel
theorem dX7_sceneOf_2 : decode cX7_sceneOf 2 = .ok (.putfield 22, 3) := by decide +kernel
theorem dX7_sceneOf_5 : decode cX7_sceneOf 5 = .ok (.aload_n 0, 1) := by decide +kernel
theorem dX7_sceneOf_6 : decode cX7_sceneOf 6 = .ok (.iload_n 1, 1) := by decide +kernel
theorem dX7_sceneOf_7 : decode cX7_sceneOf 7 = .ok (.invokevirtual 115, 3) := by decide +kernel
theorem dX7_sceneOf_10 : decode cX7_sceneOf 10 = .ok (.ifCond .ne 9, 3) := by decide +kernel
theorem dX7_sceneOf_13 : decode cX7_sceneOf 13 = .ok (.aload_n 0, 1) := by decide +kernel
theorem dX7_sceneOf_14 : decode cX7_sceneOf 14 = .ok (.iconst 1, 1) := by decide +kernel
theorem dX7_sceneOf_15 : decode cX7_sceneOf 15 = .ok (.invokevirtual 33, 3) := by decide +kernel
theorem dX7_sceneOf_18 : decode cX7_sceneOf 18 = .ok (.ireturn, 1) := by decide +kernel
theorem dX7_sceneOf_19 : decode cX7_sceneOf 19 = .ok (.iload_n 2, 1) := by decide +kernel
theorem dX7_sceneOf_20 : decode cX7_sceneOf 20 = .ok (.iconst 0, 1) := by decide +kernel
theorem dX7_sceneOf_21 : decode cX7_sceneOf 21 = .ok (.iconst 5, 1) := by decide +kernel
theorem dX7_sceneOf_22 : decode cX7_sceneOf 22 = .ok (.invokestatic 26, 3) := by decide +kernel
theorem dX7_sceneOf_25 : decode cX7_sceneOf 25 = .ok (.ifCond .eq 12, 3) := by decide +kernel
theorem dX7_sceneOf_28 : decode cX7_sceneOf 28 = .ok (.aload_n 0, 1) := by decide +kernel
theorem dX7_sceneOf_29 : decode cX7_sceneOf 29 = .ok (.iload_n 1, 1) := by decide +kernel
theorem dX7_sceneOf_30 : decode cX7_sceneOf 30 = .ok (.iload_n 2, 1) := by decide +kernel
theorem dX7_sceneOf_31 : decode cX7_sceneOf 31 = .ok (.invokevirtual 162, 3) := by decide +kernel
theorem dX7_sceneOf_34 : decode cX7_sceneOf 34 = .ok (.goto 8, 3) := by decide +kernel
theorem dX7_sceneOf_37 : decode cX7_sceneOf 37 = .ok (.aload_n 0, 1) := by decide +kernel
theorem dX7_sceneOf_38 : decode cX7_sceneOf 38 = .ok (.iconst 2, 1) := by decide +kernel
theorem dX7_sceneOf_39 : decode cX7_sceneOf 39 = .ok (.invokevirtual 33, 3) := by decide +kernel
theorem dX7_sceneOf_42 : decode cX7_sceneOf 42 = .ok (.ireturn, 1) := by decide +kernel
theorem dX7_shotScenes_0 : decode cX7_shotScenes 0 = .ok (.iconst 0, 1) := by decide +kernel
theorem dX7_shotScenes_1 : decode cX7_shotScenes 1 = .ok (.istore_n 1, 1) := by decide +kernel
theorem dX7_shotScenes_2 : decode cX7_shotScenes 2 = .ok (.iconst 0, 1) := by decide +kernel
theorem dX7_shotScenes_3 : decode cX7_shotScenes 3 = .ok (.istore_n 2, 1) := by decide +kernel
theorem dX7_shotScenes_4 : decode cX7_shotScenes 4 = .ok (.iload_n 2, 1) := by decide +kernel
theorem dX7_shotScenes_5 : decode cX7_shotScenes 5 = .ok (.aload_n 0, 1) := by decide +kernel
theorem dX7_shotScenes_6 : decode cX7_shotScenes 6 = .ok (.getfield 7, 3) := by decide +kernel
theorem dX7_shotScenes_9 : decode cX7_shotScenes 9 = .ok (.iconst 4, 1) := by decide +kernel
theorem dX7_shotScenes_10 : decode cX7_shotScenes 10 = .ok (.iaload, 1) := by decide +kernel
theorem dX7_shotScenes_11 : decode cX7_shotScenes 11 = .ok (.if_icmp .ge 27, 3) := by decide +kernel
theorem dX7_shotScenes_14 : decode cX7_shotScenes 14 = .ok (.iload_n 1, 1) := by decide +kernel
theorem dX7_shotScenes_15 : decode cX7_shotScenes 15 = .ok (.aload_n 0, 1) := by decide +kernel
theorem dX7_shotScenes_16 : decode cX7_shotScenes 16 = .ok (.iload_n 2, 1) := by decide +kernel
theorem dX7_shotScenes_17 : decode cX7_shotScenes 17 = .ok (.iconst 3, 1) := by decide +kernel
theorem dX7_shotScenes_18 : decode cX7_shotScenes 18 = .ok (.invokevirtual 63, 3) := by decide +kernel
theorem dX7_shotScenes_21 : decode cX7_shotScenes 21 = .ok (.iconst (-1), 1) := by decide +kernel
theorem dX7_shotScenes_22 : decode cX7_shotScenes 22 = .ok (.if_icmp .ne 7, 3) := by decide +kernel
theorem dX7_shotScenes_25 : decode cX7_shotScenes 25 = .ok (.iconst 0, 1) := by decide +kernel
theorem dX7_shotScenes_26 : decode cX7_shotScenes 26 = .ok (.goto 4, 3) := by decide +kernel
theorem dX7_shotScenes_29 : decode cX7_shotScenes 29 = .ok (.iconst 1, 1) := by decide +kernel
theorem dX7_shotScenes_30 : decode cX7_shotScenes 30 = .ok (.iadd, 1) := by decide +kernel
theorem dX7_shotScenes_31 : decode cX7_shotScenes 31 = .ok (.istore_n 1, 1) := by decide +kernel
theorem dX7_shotScenes_32 : decode cX7_shotScenes 32 = .ok (.iinc 2 1, 3) := by decide +kernel
theorem dX7_shotScenes_35 : decode cX7_shotScenes 35 = .ok (.goto (-31), 3) := by decide +kernel
theorem dX7_shotScenes_38 : decode cX7_shotScenes 38 = .ok (.iload_n 1, 1) := by decide +kernel
theorem dX7_shotScenes_39 : decode cX7_shotScenes 39 = .ok (.ireturn, 1) := by decide +kernel
theorem dX7_openScenes_0 : decode cX7_openScenes 0 = .ok (.iconst 0, 1) := by decide +kernel
theorem dX7_openScenes_1 : decode cX7_openScenes 1 = .ok (.istore_n 1, 1) := by decide +kernel
theorem dX7_openScenes_2 : decode cX7_openScenes 2 = .ok (.iconst 0, 1) := by decide +kernel
theorem dX7_openScenes_3 : decode cX7_openScenes 3 = .ok (.istore_n 2, 1) := by decide +kernel
theorem dX7_openScenes_4 : decode cX7_openScenes 4 = .ok (.iload_n 2, 1) := by decide +kernel
theorem dX7_openScenes_5 : decode cX7_openScenes 5 = .ok (.aload_n 0, 1) := by decide +kernel
theorem dX7_openScenes_6 : decode cX7_openScenes 6 = .ok (.getfield 7, 3) := by decide +kernel
theorem dX7_openScenes_9 : decode cX7_openScenes 9 = .ok (.iconst 4, 1) := by decide +kernel
theorem dX7_openScenes_10 : decode cX7_openScenes 10 = .ok (.iaload, 1) := by decide +kernel
theorem dX7_openScenes_11 : decode cX7_openScenes 11 = .ok (.if_icmp .ge 25, 3) := by decide +kernel
theorem dX7_openScenes_14 : decode cX7_openScenes 14 = .ok (.iload_n 1, 1) := by decide +kernel
theorem dX7_openScenes_15 : decode cX7_openScenes 15 = .ok (.aload_n 0, 1) := by decide +kernel
theorem dX7_openScenes_16 : decode cX7_openScenes 16 = .ok (.iload_n 2, 1) := by decide +kernel
theorem dX7_openScenes_17 : decode cX7_openScenes 17 = .ok (.invokevirtual 159, 3) := by decide +kernel
theorem dX7_openScenes_20 : decode cX7_openScenes 20 = .ok (.ifCond .ne 7, 3) := by decide +kernel
theorem dX7_openScenes_23 : decode cX7_openScenes 23 = .ok (.iconst 0, 1) := by decide +kernel
theorem dX7_openScenes_24 : decode cX7_openScenes 24 = .ok (.goto 4, 3) := by decide +kernel
theorem dX7_openScenes_27 : decode cX7_openScenes 27 = .ok (.iconst 1, 1) := by decide +kernel
theorem dX7_openScenes_28 : decode cX7_openScenes 28 = .ok (.iadd, 1) := by decide +kernel
theorem dX7_openScenes_29 : decode cX7_openScenes 29 = .ok (.istore_n 1, 1) := by decide +kernel
theorem dX7_openScenes_30 : decode cX7_openScenes 30 = .ok (.iinc 2 1, 3) := by decide +kernel
theorem dX7_openScenes_33 : decode cX7_openScenes 33 = .ok (.goto (-29), 3) := by decide +kernel
theorem dX7_openScenes_36 : decode cX7_openScenes 36 = .ok (.iload_n 1, 1) := by decide +kernel
theorem dX7_openScenes_37 : decode cX7_openScenes 37 = .ok (.ireturn, 1) := by decide +kernel
theorem dX7_tellsCount_0 : decode cX7_tellsCount 0 = .ok (.iload_n 1, 1) := by decide +kernel
theorem dX7_tellsCount_1 : decode cX7_tellsCount 1 = .ok (.tableswitch 139 0 9 #[55, 55, 62, 73, 99, 106, 111, 118, 126, 134], 55) := by decide +kernel
theorem dX7_tellsCount_56 : decode cX7_tellsCount 56 = .ok (.aload_n 0, 1) := by decide +kernel
theorem dX7_tellsCount_57 : decode cX7_tellsCount 57 = .ok (.getfield 7, 3) := by decide +kernel
theorem dX7_tellsCount_60 : decode cX7_tellsCount 60 = .ok (.iload_n 1, 1) := by decide +kernel
theorem dX7_tellsCount_61 : decode cX7_tellsCount 61 = .ok (.iaload, 1) := by decide +kernel
theorem dX7_tellsCount_62 : decode cX7_tellsCount 62 = .ok (.ireturn, 1) := by decide +kernel
theorem dX7_tellsCount_63 : decode cX7_tellsCount 63 = .ok (.aload_n 0, 1) := by decide +kernel
theorem dX7_tellsCount_64 : decode cX7_tellsCount 64 = .ok (.aload_n 0, 1) := by decide +kernel
theorem dX7_tellsCount_65 : decode cX7_tellsCount 65 = .ok (.getfield 7, 3) := by decide +kernel
theorem dX7_tellsCount_68 : decode cX7_tellsCount 68 = .ok (.iconst 0, 1) := by decide +kernel
theorem dX7_tellsCount_69 : decode cX7_tellsCount 69 = .ok (.iaload, 1) := by decide +kernel
theorem dX7_tellsCount_70 : decode cX7_tellsCount 70 = .ok (.invokevirtual 76, 3) := by decide +kernel
theorem dX7_tellsCount_73 : decode cX7_tellsCount 73 = .ok (.ireturn, 1) := by decide +kernel
theorem dX7_tellsCount_74 : decode cX7_tellsCount 74 = .ok (.aload_n 0, 1) := by decide +kernel
theorem dX7_tellsCount_75 : decode cX7_tellsCount 75 = .ok (.getfield 7, 3) := by decide +kernel
theorem dX7_tellsCount_78 : decode cX7_tellsCount 78 = .ok (.iconst 0, 1) := by decide +kernel
theorem dX7_tellsCount_79 : decode cX7_tellsCount 79 = .ok (.iaload, 1) := by decide +kernel
theorem dX7_tellsCount_80 : decode cX7_tellsCount 80 = .ok (.aload_n 0, 1) := by decide +kernel
theorem dX7_tellsCount_81 : decode cX7_tellsCount 81 = .ok (.getfield 7, 3) := by decide +kernel
theorem dX7_tellsCount_84 : decode cX7_tellsCount 84 = .ok (.iconst 3, 1) := by decide +kernel
theorem dX7_tellsCount_85 : decode cX7_tellsCount 85 = .ok (.iaload, 1) := by decide +kernel
theorem dX7_tellsCount_86 : decode cX7_tellsCount 86 = .ok (.if_icmp .gt 12, 3) := by decide +kernel
theorem dX7_tellsCount_89 : decode cX7_tellsCount 89 = .ok (.aload_n 0, 1) := by decide +kernel
theorem dX7_tellsCount_90 : decode cX7_tellsCount 90 = .ok (.getfield 7, 3) := by decide +kernel
theorem dX7_tellsCount_93 : decode cX7_tellsCount 93 = .ok (.iconst 3, 1) := by decide +kernel
theorem dX7_tellsCount_94 : decode cX7_tellsCount 94 = .ok (.iaload, 1) := by decide +kernel
theorem dX7_tellsCount_95 : decode cX7_tellsCount 95 = .ok (.goto 4, 3) := by decide +kernel
theorem dX7_tellsCount_98 : decode cX7_tellsCount 98 = .ok (.iconst (-1), 1) := by decide +kernel
theorem dX7_tellsCount_99 : decode cX7_tellsCount 99 = .ok (.ireturn, 1) := by decide +kernel
theorem dX7_tellsCount_100 : decode cX7_tellsCount 100 = .ok (.aload_n 0, 1) := by decide +kernel
theorem dX7_tellsCount_101 : decode cX7_tellsCount 101 = .ok (.getfield 7, 3) := by decide +kernel
theorem dX7_tellsCount_104 : decode cX7_tellsCount 104 = .ok (.iconst 4, 1) := by decide +kernel
theorem dX7_tellsCount_105 : decode cX7_tellsCount 105 = .ok (.iaload, 1) := by decide +kernel
theorem dX7_tellsCount_106 : decode cX7_tellsCount 106 = .ok (.ireturn, 1) := by decide +kernel
theorem dX7_tellsCount_107 : decode cX7_tellsCount 107 = .ok (.aload_n 0, 1) := by decide +kernel
theorem dX7_tellsCount_108 : decode cX7_tellsCount 108 = .ok (.invokevirtual 165, 3) := by decide +kernel
theorem dX7_tellsCount_111 : decode cX7_tellsCount 111 = .ok (.ireturn, 1) := by decide +kernel
theorem dX7_tellsCount_112 : decode cX7_tellsCount 112 = .ok (.aload_n 0, 1) := by decide +kernel
theorem dX7_tellsCount_113 : decode cX7_tellsCount 113 = .ok (.getfield 7, 3) := by decide +kernel
theorem dX7_tellsCount_116 : decode cX7_tellsCount 116 = .ok (.iconst 5, 1) := by decide +kernel
theorem dX7_tellsCount_117 : decode cX7_tellsCount 117 = .ok (.iaload, 1) := by decide +kernel
theorem dX7_tellsCount_118 : decode cX7_tellsCount 118 = .ok (.ireturn, 1) := by decide +kernel
theorem dX7_tellsCount_119 : decode cX7_tellsCount 119 = .ok (.aload_n 0, 1) := by decide +kernel
theorem dX7_tellsCount_120 : decode cX7_tellsCount 120 = .ok (.getfield 7, 3) := by decide +kernel
theorem dX7_tellsCount_123 : decode cX7_tellsCount 123 = .ok (.bipush 6, 2) := by decide +kernel
theorem dX7_tellsCount_125 : decode cX7_tellsCount 125 = .ok (.iaload, 1) := by decide +kernel
theorem dX7_tellsCount_126 : decode cX7_tellsCount 126 = .ok (.ireturn, 1) := by decide +kernel
theorem dX7_tellsCount_127 : decode cX7_tellsCount 127 = .ok (.aload_n 0, 1) := by decide +kernel
theorem dX7_tellsCount_128 : decode cX7_tellsCount 128 = .ok (.getfield 7, 3) := by decide +kernel
theorem dX7_tellsCount_131 : decode cX7_tellsCount 131 = .ok (.bipush 7, 2) := by decide +kernel
theorem dX7_tellsCount_133 : decode cX7_tellsCount 133 = .ok (.iaload, 1) := by decide +kernel
theorem dX7_tellsCount_134 : decode cX7_tellsCount 134 = .ok (.ireturn, 1) := by decide +kernel
theorem dX7_tellsCount_135 : decode cX7_tellsCount 135 = .ok (.aload_n 0, 1) := by decide +kernel
theorem dX7_tellsCount_136 : decode cX7_tellsCount 136 = .ok (.invokevirtual 168, 3) := by decide +kernel
theorem dX7_tellsCount_139 : decode cX7_tellsCount 139 = .ok (.ireturn, 1) := by decide +kernel
theorem dX7_tellsCount_140 : decode cX7_tellsCount 140 = .ok (.aload_n 0, 1) := by decide +kernel
theorem dX7_tellsCount_141 : decode cX7_tellsCount 141 = .ok (.getfield 30, 3) := by decide +kernel
theorem dX7_tellsCount_144 : decode cX7_tellsCount 144 = .ok (.ireturn, 1) := by decide +kernel
theorem dX7_count_0 : decode cX7_count 0 = .ok (.aload_n 0, 1) := by decide +kernel
theorem dX7_count_1 : decode cX7_count 1 = .ok (.iconst 0, 1) := by decide +kernel
theorem dX7_count_2 : decode cX7_count 2 = .ok (.putfield 22, 3) := by decide +kernel
theorem dX7_count_5 : decode cX7_count 5 = .ok (.iload_n 1, 1) := by decide +kernel
theorem dX7_count_6 : decode cX7_count 6 = .ok (.iconst 0, 1) := by decide +kernel
theorem dX7_count_7 : decode cX7_count 7 = .ok (.bipush 10, 2) := by decide +kernel
theorem dX7_count_9 : decode cX7_count 9 = .ok (.invokestatic 26, 3) := by decide +kernel
theorem dX7_count_12 : decode cX7_count 12 = .ok (.ifCond .eq 11, 3) := by decide +kernel
theorem dX7_count_15 : decode cX7_count 15 = .ok (.aload_n 0, 1) := by decide +kernel
theorem dX7_count_16 : decode cX7_count 16 = .ok (.iload_n 1, 1) := by decide +kernel
theorem dX7_count_17 : decode cX7_count 17 = .ok (.invokevirtual 171, 3) := by decide +kernel
theorem dX7_count_20 : decode cX7_count 20 = .ok (.goto 8, 3) := by decide +kernel
theorem dX7_count_23 : decode cX7_count 23 = .ok (.aload_n 0, 1) := by decide +kernel
theorem dX7_count_24 : decode cX7_count 24 = .ok (.iconst 1, 1) := by decide +kernel
theorem dX7_count_25 : decode cX7_count 25 = .ok (.invokevirtual 33, 3) := by decide +kernel
theorem dX7_count_28 : decode cX7_count 28 = .ok (.ireturn, 1) := by decide +kernel
theorem dX7_refusal_0 : decode cX7_refusal 0 = .ok (.aload_n 0, 1) := by decide +kernel
theorem dX7_refusal_1 : decode cX7_refusal 1 = .ok (.iconst 0, 1) := by decide +kernel
theorem dX7_refusal_2 : decode cX7_refusal 2 = .ok (.putfield 22, 3) := by decide +kernel
theorem dX7_refusal_5 : decode cX7_refusal 5 = .ok (.aload_n 0, 1) := by decide +kernel
theorem dX7_refusal_6 : decode cX7_refusal 6 = .ok (.iload_n 1, 1) := by decide +kernel
theorem dX7_refusal_7 : decode cX7_refusal 7 = .ok (.invokevirtual 115, 3) := by decide +kernel
theorem dX7_refusal_10 : decode cX7_refusal 10 = .ok (.ifCond .eq 10, 3) := by decide +kernel
theorem dX7_refusal_13 : decode cX7_refusal 13 = .ok (.iload_n 2, 1) := by decide +kernel
theorem dX7_refusal_14 : decode cX7_refusal 14 = .ok (.invokestatic 90, 3) := by decide +kernel
theorem dX7_refusal_17 : decode cX7_refusal 17 = .ok (.ifCond .ne 9, 3) := by decide +kernel
theorem dX7_refusal_20 : decode cX7_refusal 20 = .ok (.aload_n 0, 1) := by decide +kernel
theorem dX7_refusal_21 : decode cX7_refusal 21 = .ok (.iconst 1, 1) := by decide +kernel
theorem dX7_refusal_22 : decode cX7_refusal 22 = .ok (.invokevirtual 33, 3) := by decide +kernel
theorem dX7_refusal_25 : decode cX7_refusal 25 = .ok (.ireturn, 1) := by decide +kernel
theorem dX7_refusal_26 : decode cX7_refusal 26 = .ok (.aload_n 0, 1) := by decide +kernel
theorem dX7_refusal_27 : decode cX7_refusal 27 = .ok (.iload_n 1, 1) := by decide +kernel
theorem dX7_refusal_28 : decode cX7_refusal 28 = .ok (.iload_n 2, 1) := by decide +kernel
theorem dX7_refusal_29 : decode cX7_refusal 29 = .ok (.aload_n 0, 1) := by decide +kernel
theorem dX7_refusal_30 : decode cX7_refusal 30 = .ok (.getfield 7, 3) := by decide +kernel
theorem dX7_refusal_33 : decode cX7_refusal 33 = .ok (.iconst 0, 1) := by decide +kernel
theorem dX7_refusal_34 : decode cX7_refusal 34 = .ok (.iaload, 1) := by decide +kernel
theorem dX7_refusal_35 : decode cX7_refusal 35 = .ok (.invokevirtual 87, 3) := by decide +kernel
theorem dX7_refusal_38 : decode cX7_refusal 38 = .ok (.ireturn, 1) := by decide +kernel
theorem dX7_firstDay_0 : decode cX7_firstDay 0 = .ok (.aload_n 0, 1) := by decide +kernel
theorem dX7_firstDay_1 : decode cX7_firstDay 1 = .ok (.getfield 7, 3) := by decide +kernel
theorem dX7_firstDay_4 : decode cX7_firstDay 4 = .ok (.iconst 0, 1) := by decide +kernel
theorem dX7_firstDay_5 : decode cX7_firstDay 5 = .ok (.iaload, 1) := by decide +kernel
theorem dX7_firstDay_6 : decode cX7_firstDay 6 = .ok (.istore_n 3, 1) := by decide +kernel
theorem dX7_firstDay_7 : decode cX7_firstDay 7 = .ok (.iload_n 3, 1) := by decide +kernel
theorem dX7_firstDay_8 : decode cX7_firstDay 8 = .ok (.aload_n 0, 1) := by decide +kernel
theorem dX7_firstDay_9 : decode cX7_firstDay 9 = .ok (.getfield 7, 3) := by decide +kernel
theorem dX7_firstDay_12 : decode cX7_firstDay 12 = .ok (.iconst 0, 1) := by decide +kernel
theorem dX7_firstDay_13 : decode cX7_firstDay 13 = .ok (.iaload, 1) := by decide +kernel
theorem dX7_firstDay_14 : decode cX7_firstDay 14 = .ok (.bipush 60, 2) := by decide +kernel
theorem dX7_firstDay_16 : decode cX7_firstDay 16 = .ok (.iadd, 1) := by decide +kernel
theorem dX7_firstDay_17 : decode cX7_firstDay 17 = .ok (.if_icmp .gt 21, 3) := by decide +kernel
theorem dX7_firstDay_20 : decode cX7_firstDay 20 = .ok (.aload_n 0, 1) := by decide +kernel
theorem dX7_firstDay_21 : decode cX7_firstDay 21 = .ok (.iload_n 1, 1) := by decide +kernel
theorem dX7_firstDay_22 : decode cX7_firstDay 22 = .ok (.iload_n 2, 1) := by decide +kernel
theorem dX7_firstDay_23 : decode cX7_firstDay 23 = .ok (.iload_n 3, 1) := by decide +kernel
theorem dX7_firstDay_24 : decode cX7_firstDay 24 = .ok (.invokevirtual 87, 3) := by decide +kernel
theorem dX7_firstDay_27 : decode cX7_firstDay 27 = .ok (.ifCond .ne 5, 3) := by decide +kernel
theorem dX7_firstDay_30 : decode cX7_firstDay 30 = .ok (.iload_n 3, 1) := by decide +kernel
theorem dX7_firstDay_31 : decode cX7_firstDay 31 = .ok (.ireturn, 1) := by decide +kernel
theorem dX7_firstDay_32 : decode cX7_firstDay 32 = .ok (.iinc 3 1, 3) := by decide +kernel
theorem dX7_firstDay_35 : decode cX7_firstDay 35 = .ok (.goto (-28), 3) := by decide +kernel
theorem dX7_firstDay_38 : decode cX7_firstDay 38 = .ok (.iconst (-1), 1) := by decide +kernel
theorem dX7_firstDay_39 : decode cX7_firstDay 39 = .ok (.ireturn, 1) := by decide +kernel
theorem dX7_soonest_0 : decode cX7_soonest 0 = .ok (.aload_n 0, 1) := by decide +kernel
theorem dX7_soonest_1 : decode cX7_soonest 1 = .ok (.iconst 0, 1) := by decide +kernel
theorem dX7_soonest_2 : decode cX7_soonest 2 = .ok (.putfield 22, 3) := by decide +kernel
theorem dX7_soonest_5 : decode cX7_soonest 5 = .ok (.aload_n 0, 1) := by decide +kernel
theorem dX7_soonest_6 : decode cX7_soonest 6 = .ok (.iload_n 1, 1) := by decide +kernel
theorem dX7_soonest_7 : decode cX7_soonest 7 = .ok (.invokevirtual 115, 3) := by decide +kernel
theorem dX7_soonest_10 : decode cX7_soonest 10 = .ok (.ifCond .eq 19, 3) := by decide +kernel
theorem dX7_soonest_13 : decode cX7_soonest 13 = .ok (.iload_n 2, 1) := by decide +kernel
theorem dX7_soonest_14 : decode cX7_soonest 14 = .ok (.invokestatic 90, 3) := by decide +kernel
theorem dX7_soonest_17 : decode cX7_soonest 17 = .ok (.ifCond .eq 12, 3) := by decide +kernel
theorem dX7_soonest_20 : decode cX7_soonest 20 = .ok (.aload_n 0, 1) := by decide +kernel
theorem dX7_soonest_21 : decode cX7_soonest 21 = .ok (.iload_n 1, 1) := by decide +kernel
theorem dX7_soonest_22 : decode cX7_soonest 22 = .ok (.iload_n 2, 1) := by decide +kernel
theorem dX7_soonest_23 : decode cX7_soonest 23 = .ok (.invokevirtual 174, 3) := by decide +kernel
theorem dX7_soonest_26 : decode cX7_soonest 26 = .ok (.goto 8, 3) := by decide +kernel
theorem dX7_soonest_29 : decode cX7_soonest 29 = .ok (.aload_n 0, 1) := by decide +kernel
theorem dX7_soonest_30 : decode cX7_soonest 30 = .ok (.iconst 1, 1) := by decide +kernel
theorem dX7_soonest_31 : decode cX7_soonest 31 = .ok (.invokevirtual 33, 3) := by decide +kernel
theorem dX7_soonest_34 : decode cX7_soonest 34 = .ok (.ireturn, 1) := by decide +kernel
theorem dX7_lacking_0 : decode cX7_lacking 0 = .ok (.aload_n 0, 1) := by decide +kernel
theorem dX7_lacking_1 : decode cX7_lacking 1 = .ok (.iconst 0, 1) := by decide +kernel
theorem dX7_lacking_2 : decode cX7_lacking 2 = .ok (.putfield 22, 3) := by decide +kernel
theorem dX7_lacking_5 : decode cX7_lacking 5 = .ok (.aload_n 0, 1) := by decide +kernel
theorem dX7_lacking_6 : decode cX7_lacking 6 = .ok (.iload_n 1, 1) := by decide +kernel
theorem dX7_lacking_7 : decode cX7_lacking 7 = .ok (.invokevirtual 115, 3) := by decide +kernel
theorem dX7_lacking_10 : decode cX7_lacking 10 = .ok (.ifCond .eq 25, 3) := by decide +kernel
theorem dX7_lacking_13 : decode cX7_lacking 13 = .ok (.iload_n 2, 1) := by decide +kernel
theorem dX7_lacking_14 : decode cX7_lacking 14 = .ok (.invokestatic 90, 3) := by decide +kernel
theorem dX7_lacking_17 : decode cX7_lacking 17 = .ok (.ifCond .eq 18, 3) := by decide +kernel
theorem dX7_lacking_20 : decode cX7_lacking 20 = .ok (.aload_n 0, 1) := by decide +kernel
theorem dX7_lacking_21 : decode cX7_lacking 21 = .ok (.iload_n 1, 1) := by decide +kernel
theorem dX7_lacking_22 : decode cX7_lacking 22 = .ok (.iload_n 2, 1) := by decide +kernel
theorem dX7_lacking_23 : decode cX7_lacking 23 = .ok (.aload_n 0, 1) := by decide +kernel
theorem dX7_lacking_24 : decode cX7_lacking 24 = .ok (.getfield 7, 3) := by decide +kernel
theorem dX7_lacking_27 : decode cX7_lacking 27 = .ok (.iconst 0, 1) := by decide +kernel
theorem dX7_lacking_28 : decode cX7_lacking 28 = .ok (.iaload, 1) := by decide +kernel
theorem dX7_lacking_29 : decode cX7_lacking 29 = .ok (.invokevirtual 83, 3) := by decide +kernel
theorem dX7_lacking_32 : decode cX7_lacking 32 = .ok (.goto 8, 3) := by decide +kernel
theorem dX7_lacking_35 : decode cX7_lacking 35 = .ok (.aload_n 0, 1) := by decide +kernel
theorem dX7_lacking_36 : decode cX7_lacking 36 = .ok (.iconst 1, 1) := by decide +kernel
theorem dX7_lacking_37 : decode cX7_lacking 37 = .ok (.invokevirtual 33, 3) := by decide +kernel
theorem dX7_lacking_40 : decode cX7_lacking 40 = .ok (.ireturn, 1) := by decide +kernel
theorem dX7_rankFor_0 : decode cX7_rankFor 0 = .ok (.aload_n 0, 1) := by decide +kernel
theorem dX7_rankFor_1 : decode cX7_rankFor 1 = .ok (.iload_n 1, 1) := by decide +kernel
theorem dX7_rankFor_2 : decode cX7_rankFor 2 = .ok (.iconst 2, 1) := by decide +kernel
theorem dX7_rankFor_3 : decode cX7_rankFor 3 = .ok (.invokevirtual 63, 3) := by decide +kernel
theorem dX7_rankFor_6 : decode cX7_rankFor 6 = .ok (.istore_n 3, 1) := by decide +kernel
theorem dX7_rankFor_7 : decode cX7_rankFor 7 = .ok (.iload_n 2, 1) := by decide +kernel
theorem dX7_rankFor_8 : decode cX7_rankFor 8 = .ok (.iload_n 3, 1) := by decide +kernel
theorem dX7_rankFor_9 : decode cX7_rankFor 9 = .ok (.if_icmp .ne 7, 3) := by decide +kernel
theorem dX7_rankFor_12 : decode cX7_rankFor 12 = .ok (.iconst 0, 1) := by decide +kernel
theorem dX7_rankFor_13 : decode cX7_rankFor 13 = .ok (.goto 11, 3) := by decide +kernel
theorem dX7_rankFor_16 : decode cX7_rankFor 16 = .ok (.iconst 1, 1) := by decide +kernel
theorem dX7_rankFor_17 : decode cX7_rankFor 17 = .ok (.aload_n 0, 1) := by decide +kernel
theorem dX7_rankFor_18 : decode cX7_rankFor 18 = .ok (.iload_n 2, 1) := by decide +kernel
theorem dX7_rankFor_19 : decode cX7_rankFor 19 = .ok (.iload_n 3, 1) := by decide +kernel
theorem dX7_rankFor_20 : decode cX7_rankFor 20 = .ok (.invokevirtual 73, 3) := by decide +kernel
theorem dX7_rankFor_23 : decode cX7_rankFor 23 = .ok (.iadd, 1) := by decide +kernel
theorem dX7_rankFor_24 : decode cX7_rankFor 24 = .ok (.istore 4, 2) := by decide +kernel
theorem dX7_rankFor_26 : decode cX7_rankFor 26 = .ok (.sipush 1000, 3) := by decide +kernel
theorem dX7_rankFor_29 : decode cX7_rankFor 29 = .ok (.aload_n 0, 1) := by decide +kernel
theorem dX7_rankFor_30 : decode cX7_rankFor 30 = .ok (.iload_n 1, 1) := by decide +kernel
theorem dX7_rankFor_31 : decode cX7_rankFor 31 = .ok (.iload_n 2, 1) := by decide +kernel
theorem dX7_rankFor_32 : decode cX7_rankFor 32 = .ok (.aload_n 0, 1) := by decide +kernel
theorem dX7_rankFor_33 : decode cX7_rankFor 33 = .ok (.getfield 7, 3) := by decide +kernel
theorem dX7_rankFor_36 : decode cX7_rankFor 36 = .ok (.iconst 0, 1) := by decide +kernel
theorem dX7_rankFor_37 : decode cX7_rankFor 37 = .ok (.iaload, 1) := by decide +kernel
theorem dX7_rankFor_38 : decode cX7_rankFor 38 = .ok (.invokevirtual 83, 3) := by decide +kernel
theorem dX7_rankFor_41 : decode cX7_rankFor 41 = .ok (.imul, 1) := by decide +kernel
theorem dX7_rankFor_42 : decode cX7_rankFor 42 = .ok (.bipush 10, 2) := by decide +kernel
theorem dX7_rankFor_44 : decode cX7_rankFor 44 = .ok (.iload 4, 2) := by decide +kernel
theorem dX7_rankFor_46 : decode cX7_rankFor 46 = .ok (.imul, 1) := by decide +kernel
theorem dX7_rankFor_47 : decode cX7_rankFor 47 = .ok (.iadd, 1) := by decide +kernel
theorem dX7_rankFor_48 : decode cX7_rankFor 48 = .ok (.iload_n 2, 1) := by decide +kernel
theorem dX7_rankFor_49 : decode cX7_rankFor 49 = .ok (.iadd, 1) := by decide +kernel
theorem dX7_rankFor_50 : decode cX7_rankFor 50 = .ok (.ireturn, 1) := by decide +kernel
theorem dX7_bestFor_0 : decode cX7_bestFor 0 = .ok (.iconst (-1), 1) := by decide +kernel
theorem dX7_bestFor_1 : decode cX7_bestFor 1 = .ok (.istore_n 2, 1) := by decide +kernel
theorem dX7_bestFor_2 : decode cX7_bestFor 2 = .ok (.iconst 0, 1) := by decide +kernel
theorem dX7_bestFor_3 : decode cX7_bestFor 3 = .ok (.istore_n 3, 1) := by decide +kernel
theorem dX7_bestFor_4 : decode cX7_bestFor 4 = .ok (.iload_n 3, 1) := by decide +kernel
theorem dX7_bestFor_5 : decode cX7_bestFor 5 = .ok (.bipush 8, 2) := by decide +kernel
theorem dX7_bestFor_7 : decode cX7_bestFor 7 = .ok (.if_icmp .ge 88, 3) := by decide +kernel
theorem dX7_bestFor_10 : decode cX7_bestFor 10 = .ok (.aload_n 0, 1) := by decide +kernel
theorem dX7_bestFor_11 : decode cX7_bestFor 11 = .ok (.iload_n 1, 1) := by decide +kernel
theorem dX7_bestFor_12 : decode cX7_bestFor 12 = .ok (.iconst 3, 1) := by decide +kernel
theorem dX7_bestFor_13 : decode cX7_bestFor 13 = .ok (.invokevirtual 63, 3) := by decide +kernel
theorem dX7_bestFor_16 : decode cX7_bestFor 16 = .ok (.iconst (-1), 1) := by decide +kernel
theorem dX7_bestFor_17 : decode cX7_bestFor 17 = .ok (.if_icmp .ne 78, 3) := by decide +kernel
theorem dX7_bestFor_20 : decode cX7_bestFor 20 = .ok (.aload_n 0, 1) := by decide +kernel
theorem dX7_bestFor_21 : decode cX7_bestFor 21 = .ok (.iload_n 3, 1) := by decide +kernel
theorem dX7_bestFor_22 : decode cX7_bestFor 22 = .ok (.aload_n 0, 1) := by decide +kernel
theorem dX7_bestFor_23 : decode cX7_bestFor 23 = .ok (.iload_n 1, 1) := by decide +kernel
theorem dX7_bestFor_24 : decode cX7_bestFor 24 = .ok (.iconst 2, 1) := by decide +kernel
theorem dX7_bestFor_25 : decode cX7_bestFor 25 = .ok (.invokevirtual 63, 3) := by decide +kernel
theorem dX7_bestFor_28 : decode cX7_bestFor 28 = .ok (.invokevirtual 73, 3) := by decide +kernel
theorem dX7_bestFor_31 : decode cX7_bestFor 31 = .ok (.iconst 5, 1) := by decide +kernel
theorem dX7_bestFor_32 : decode cX7_bestFor 32 = .ok (.if_icmp .gt 27, 3) := by decide +kernel
theorem dX7_bestFor_35 : decode cX7_bestFor 35 = .ok (.aload_n 0, 1) := by decide +kernel
theorem dX7_bestFor_36 : decode cX7_bestFor 36 = .ok (.iload_n 3, 1) := by decide +kernel
theorem dX7_bestFor_37 : decode cX7_bestFor 37 = .ok (.aload_n 0, 1) := by decide +kernel
theorem dX7_bestFor_38 : decode cX7_bestFor 38 = .ok (.iload_n 1, 1) := by decide +kernel
theorem dX7_bestFor_39 : decode cX7_bestFor 39 = .ok (.iconst 0, 1) := by decide +kernel
theorem dX7_bestFor_40 : decode cX7_bestFor 40 = .ok (.invokevirtual 63, 3) := by decide +kernel
theorem dX7_bestFor_43 : decode cX7_bestFor 43 = .ok (.aload_n 0, 1) := by decide +kernel
theorem dX7_bestFor_44 : decode cX7_bestFor 44 = .ok (.getfield 7, 3) := by decide +kernel
theorem dX7_bestFor_47 : decode cX7_bestFor 47 = .ok (.iconst 0, 1) := by decide +kernel
theorem dX7_bestFor_48 : decode cX7_bestFor 48 = .ok (.iaload, 1) := by decide +kernel
theorem dX7_bestFor_49 : decode cX7_bestFor 49 = .ok (.invokevirtual 47, 3) := by decide +kernel
theorem dX7_bestFor_52 : decode cX7_bestFor 52 = .ok (.ifCond .ne 7, 3) := by decide +kernel
theorem dX7_bestFor_55 : decode cX7_bestFor 55 = .ok (.iconst 1, 1) := by decide +kernel
theorem dX7_bestFor_56 : decode cX7_bestFor 56 = .ok (.goto 4, 3) := by decide +kernel
theorem dX7_bestFor_59 : decode cX7_bestFor 59 = .ok (.iconst 0, 1) := by decide +kernel
theorem dX7_bestFor_60 : decode cX7_bestFor 60 = .ok (.istore 4, 2) := by decide +kernel
theorem dX7_bestFor_62 : decode cX7_bestFor 62 = .ok (.iload 4, 2) := by decide +kernel
theorem dX7_bestFor_64 : decode cX7_bestFor 64 = .ok (.ifCond .eq 25, 3) := by decide +kernel
theorem dX7_bestFor_67 : decode cX7_bestFor 67 = .ok (.iload_n 2, 1) := by decide +kernel
theorem dX7_bestFor_68 : decode cX7_bestFor 68 = .ok (.iconst (-1), 1) := by decide +kernel
theorem dX7_bestFor_69 : decode cX7_bestFor 69 = .ok (.if_icmp .eq 18, 3) := by decide +kernel
theorem dX7_bestFor_72 : decode cX7_bestFor 72 = .ok (.aload_n 0, 1) := by decide +kernel
theorem dX7_bestFor_73 : decode cX7_bestFor 73 = .ok (.iload_n 1, 1) := by decide +kernel
theorem dX7_bestFor_74 : decode cX7_bestFor 74 = .ok (.iload_n 3, 1) := by decide +kernel
theorem dX7_bestFor_75 : decode cX7_bestFor 75 = .ok (.invokevirtual 177, 3) := by decide +kernel
theorem dX7_bestFor_78 : decode cX7_bestFor 78 = .ok (.aload_n 0, 1) := by decide +kernel
theorem dX7_bestFor_79 : decode cX7_bestFor 79 = .ok (.iload_n 1, 1) := by decide +kernel
theorem dX7_bestFor_80 : decode cX7_bestFor 80 = .ok (.iload_n 2, 1) := by decide +kernel
theorem dX7_bestFor_81 : decode cX7_bestFor 81 = .ok (.invokevirtual 177, 3) := by decide +kernel
theorem dX7_bestFor_84 : decode cX7_bestFor 84 = .ok (.if_icmp .ge 5, 3) := by decide +kernel
theorem dX7_bestFor_87 : decode cX7_bestFor 87 = .ok (.iload_n 3, 1) := by decide +kernel
theorem dX7_bestFor_88 : decode cX7_bestFor 88 = .ok (.istore_n 2, 1) := by decide +kernel
theorem dX7_bestFor_89 : decode cX7_bestFor 89 = .ok (.iinc 3 1, 3) := by decide +kernel
theorem dX7_bestFor_92 : decode cX7_bestFor 92 = .ok (.goto (-88), 3) := by decide +kernel
theorem dX7_bestFor_95 : decode cX7_bestFor 95 = .ok (.iload_n 2, 1) := by decide +kernel
theorem dX7_bestFor_96 : decode cX7_bestFor 96 = .ok (.ireturn, 1) := by decide +kernel
theorem dX7_best_0 : decode cX7_best 0 = .ok (.aload_n 0, 1) := by decide +kernel
theorem dX7_best_1 : decode cX7_best 1 = .ok (.iconst 0, 1) := by decide +kernel
theorem dX7_best_2 : decode cX7_best 2 = .ok (.putfield 22, 3) := by decide +kernel
theorem dX7_best_5 : decode cX7_best 5 = .ok (.aload_n 0, 1) := by decide +kernel
theorem dX7_best_6 : decode cX7_best 6 = .ok (.iload_n 1, 1) := by decide +kernel
theorem dX7_best_7 : decode cX7_best 7 = .ok (.invokevirtual 115, 3) := by decide +kernel
theorem dX7_best_10 : decode cX7_best 10 = .ok (.ifCond .eq 11, 3) := by decide +kernel
theorem dX7_best_13 : decode cX7_best 13 = .ok (.aload_n 0, 1) := by decide +kernel
theorem dX7_best_14 : decode cX7_best 14 = .ok (.iload_n 1, 1) := by decide +kernel
theorem dX7_best_15 : decode cX7_best 15 = .ok (.invokevirtual 180, 3) := by decide +kernel
theorem dX7_best_18 : decode cX7_best 18 = .ok (.goto 8, 3) := by decide +kernel
theorem dX7_best_21 : decode cX7_best 21 = .ok (.aload_n 0, 1) := by decide +kernel
theorem dX7_best_22 : decode cX7_best 22 = .ok (.iconst 1, 1) := by decide +kernel
theorem dX7_best_23 : decode cX7_best 23 = .ok (.invokevirtual 33, 3) := by decide +kernel
theorem dX7_best_26 : decode cX7_best 26 = .ok (.ireturn, 1) := by decide +kernel
theorem dX7_cost_0 : decode cX7_cost 0 = .ok (.aload_n 0, 1) := by decide +kernel
theorem dX7_cost_1 : decode cX7_cost 1 = .ok (.iconst 0, 1) := by decide +kernel
theorem dX7_cost_2 : decode cX7_cost 2 = .ok (.putfield 22, 3) := by decide +kernel
theorem dX7_cost_5 : decode cX7_cost 5 = .ok (.iload_n 1, 1) := by decide +kernel
theorem dX7_cost_6 : decode cX7_cost 6 = .ok (.iconst 1, 1) := by decide +kernel
theorem dX7_cost_7 : decode cX7_cost 7 = .ok (.iconst 5, 1) := by decide +kernel
theorem dX7_cost_8 : decode cX7_cost 8 = .ok (.invokestatic 26, 3) := by decide +kernel
theorem dX7_cost_11 : decode cX7_cost 11 = .ok (.ifCond .eq 22, 3) := by decide +kernel
theorem dX7_cost_14 : decode cX7_cost 14 = .ok (.iload_n 2, 1) := by decide +kernel
theorem dX7_cost_15 : decode cX7_cost 15 = .ok (.iconst 1, 1) := by decide +kernel
theorem dX7_cost_16 : decode cX7_cost 16 = .ok (.bipush 60, 2) := by decide +kernel
theorem dX7_cost_18 : decode cX7_cost 18 = .ok (.invokestatic 26, 3) := by decide +kernel
theorem dX7_cost_21 : decode cX7_cost 21 = .ok (.ifCond .eq 12, 3) := by decide +kernel
theorem dX7_cost_24 : decode cX7_cost 24 = .ok (.aload_n 0, 1) := by decide +kernel
theorem dX7_cost_25 : decode cX7_cost 25 = .ok (.iload_n 1, 1) := by decide +kernel
theorem dX7_cost_26 : decode cX7_cost 26 = .ok (.iload_n 2, 1) := by decide +kernel
theorem dX7_cost_27 : decode cX7_cost 27 = .ok (.invokevirtual 112, 3) := by decide +kernel
theorem dX7_cost_30 : decode cX7_cost 30 = .ok (.goto 8, 3) := by decide +kernel
theorem dX7_cost_33 : decode cX7_cost 33 = .ok (.aload_n 0, 1) := by decide +kernel
theorem dX7_cost_34 : decode cX7_cost 34 = .ok (.iconst 1, 1) := by decide +kernel
theorem dX7_cost_35 : decode cX7_cost 35 = .ok (.invokevirtual 33, 3) := by decide +kernel
theorem dX7_cost_38 : decode cX7_cost 38 = .ok (.ireturn, 1) := by decide +kernel
theorem dX7_stoppedBy_0 : decode cX7_stoppedBy 0 = .ok (.iconst 0, 1) := by decide +kernel
theorem dX7_stoppedBy_1 : decode cX7_stoppedBy 1 = .ok (.istore_n 3, 1) := by decide +kernel
theorem dX7_stoppedBy_2 : decode cX7_stoppedBy 2 = .ok (.iconst 0, 1) := by decide +kernel
theorem dX7_stoppedBy_3 : decode cX7_stoppedBy 3 = .ok (.istore 4, 2) := by decide +kernel
theorem dX7_stoppedBy_5 : decode cX7_stoppedBy 5 = .ok (.iload 4, 2) := by decide +kernel
theorem dX7_stoppedBy_7 : decode cX7_stoppedBy 7 = .ok (.aload_n 0, 1) := by decide +kernel
theorem dX7_stoppedBy_8 : decode cX7_stoppedBy 8 = .ok (.getfield 7, 3) := by decide +kernel
theorem dX7_stoppedBy_11 : decode cX7_stoppedBy 11 = .ok (.iconst 4, 1) := by decide +kernel
theorem dX7_stoppedBy_12 : decode cX7_stoppedBy 12 = .ok (.iaload, 1) := by decide +kernel
theorem dX7_stoppedBy_13 : decode cX7_stoppedBy 13 = .ok (.if_icmp .ge 56, 3) := by decide +kernel
theorem dX7_stoppedBy_16 : decode cX7_stoppedBy 16 = .ok (.aload_n 0, 1) := by decide +kernel
theorem dX7_stoppedBy_17 : decode cX7_stoppedBy 17 = .ok (.iload 4, 2) := by decide +kernel
theorem dX7_stoppedBy_19 : decode cX7_stoppedBy 19 = .ok (.iconst 0, 1) := by decide +kernel
theorem dX7_stoppedBy_20 : decode cX7_stoppedBy 20 = .ok (.invokevirtual 63, 3) := by decide +kernel
theorem dX7_stoppedBy_23 : decode cX7_stoppedBy 23 = .ok (.invokestatic 44, 3) := by decide +kernel
theorem dX7_stoppedBy_26 : decode cX7_stoppedBy 26 = .ok (.iload_n 2, 1) := by decide +kernel
theorem dX7_stoppedBy_27 : decode cX7_stoppedBy 27 = .ok (.iand, 1) := by decide +kernel
theorem dX7_stoppedBy_28 : decode cX7_stoppedBy 28 = .ok (.ifCond .eq 7, 3) := by decide +kernel
theorem dX7_stoppedBy_31 : decode cX7_stoppedBy 31 = .ok (.iconst 1, 1) := by decide +kernel
theorem dX7_stoppedBy_32 : decode cX7_stoppedBy 32 = .ok (.goto 4, 3) := by decide +kernel
theorem dX7_stoppedBy_35 : decode cX7_stoppedBy 35 = .ok (.iconst 0, 1) := by decide +kernel
theorem dX7_stoppedBy_36 : decode cX7_stoppedBy 36 = .ok (.istore 5, 2) := by decide +kernel
theorem dX7_stoppedBy_38 : decode cX7_stoppedBy 38 = .ok (.iload_n 3, 1) := by decide +kernel
theorem dX7_stoppedBy_39 : decode cX7_stoppedBy 39 = .ok (.iload 5, 2) := by decide +kernel
theorem dX7_stoppedBy_41 : decode cX7_stoppedBy 41 = .ok (.ifCond .eq 19, 3) := by decide +kernel
theorem dX7_stoppedBy_44 : decode cX7_stoppedBy 44 = .ok (.aload_n 0, 1) := by decide +kernel
theorem dX7_stoppedBy_45 : decode cX7_stoppedBy 45 = .ok (.iload 4, 2) := by decide +kernel
theorem dX7_stoppedBy_47 : decode cX7_stoppedBy 47 = .ok (.invokevirtual 159, 3) := by decide +kernel
theorem dX7_stoppedBy_50 : decode cX7_stoppedBy 50 = .ok (.iconst 1, 1) := by decide +kernel
theorem dX7_stoppedBy_51 : decode cX7_stoppedBy 51 = .ok (.iload_n 1, 1) := by decide +kernel
theorem dX7_stoppedBy_52 : decode cX7_stoppedBy 52 = .ok (.ishl, 1) := by decide +kernel
theorem dX7_stoppedBy_53 : decode cX7_stoppedBy 53 = .ok (.if_icmp .ne 7, 3) := by decide +kernel
theorem dX7_stoppedBy_56 : decode cX7_stoppedBy 56 = .ok (.iconst 1, 1) := by decide +kernel
theorem dX7_stoppedBy_57 : decode cX7_stoppedBy 57 = .ok (.goto 4, 3) := by decide +kernel
theorem dX7_stoppedBy_60 : decode cX7_stoppedBy 60 = .ok (.iconst 0, 1) := by decide +kernel
theorem dX7_stoppedBy_61 : decode cX7_stoppedBy 61 = .ok (.iadd, 1) := by decide +kernel
theorem dX7_stoppedBy_62 : decode cX7_stoppedBy 62 = .ok (.istore_n 3, 1) := by decide +kernel
theorem dX7_stoppedBy_63 : decode cX7_stoppedBy 63 = .ok (.iinc 4 1, 3) := by decide +kernel
theorem dX7_stoppedBy_66 : decode cX7_stoppedBy 66 = .ok (.goto (-61), 3) := by decide +kernel
theorem dX7_stoppedBy_69 : decode cX7_stoppedBy 69 = .ok (.iload_n 3, 1) := by decide +kernel
theorem dX7_stoppedBy_70 : decode cX7_stoppedBy 70 = .ok (.ireturn, 1) := by decide +kernel
theorem dX7_ifHurt_0 : decode cX7_ifHurt 0 = .ok (.aload_n 0, 1) := by decide +kernel
theorem dX7_ifHurt_1 : decode cX7_ifHurt 1 = .ok (.iconst 0, 1) := by decide +kernel
theorem dX7_ifHurt_2 : decode cX7_ifHurt 2 = .ok (.putfield 22, 3) := by decide +kernel
theorem dX7_ifHurt_5 : decode cX7_ifHurt 5 = .ok (.iload_n 1, 1) := by decide +kernel
theorem dX7_ifHurt_6 : decode cX7_ifHurt 6 = .ok (.invokestatic 90, 3) := by decide +kernel
theorem dX7_ifHurt_9 : decode cX7_ifHurt 9 = .ok (.ifCond .ne 9, 3) := by decide +kernel
theorem dX7_ifHurt_12 : decode cX7_ifHurt 12 = .ok (.aload_n 0, 1) := by decide +kernel
theorem dX7_ifHurt_13 : decode cX7_ifHurt 13 = .ok (.iconst 1, 1) := by decide +kernel
theorem dX7_ifHurt_14 : decode cX7_ifHurt 14 = .ok (.invokevirtual 33, 3) := by decide +kernel
theorem dX7_ifHurt_17 : decode cX7_ifHurt 17 = .ok (.ireturn, 1) := by decide +kernel
theorem dX7_ifHurt_18 : decode cX7_ifHurt 18 = .ok (.iload_n 2, 1) := by decide +kernel
theorem dX7_ifHurt_19 : decode cX7_ifHurt 19 = .ok (.invokestatic 109, 3) := by decide +kernel
theorem dX7_ifHurt_22 : decode cX7_ifHurt 22 = .ok (.ifCond .eq 12, 3) := by decide +kernel
theorem dX7_ifHurt_25 : decode cX7_ifHurt 25 = .ok (.aload_n 0, 1) := by decide +kernel
theorem dX7_ifHurt_26 : decode cX7_ifHurt 26 = .ok (.iload_n 1, 1) := by decide +kernel
theorem dX7_ifHurt_27 : decode cX7_ifHurt 27 = .ok (.iload_n 2, 1) := by decide +kernel
theorem dX7_ifHurt_28 : decode cX7_ifHurt 28 = .ok (.invokevirtual 183, 3) := by decide +kernel
theorem dX7_ifHurt_31 : decode cX7_ifHurt 31 = .ok (.goto 8, 3) := by decide +kernel
theorem dX7_ifHurt_34 : decode cX7_ifHurt 34 = .ok (.aload_n 0, 1) := by decide +kernel
theorem dX7_ifHurt_35 : decode cX7_ifHurt 35 = .ok (.iconst 2, 1) := by decide +kernel
theorem dX7_ifHurt_36 : decode cX7_ifHurt 36 = .ok (.invokevirtual 33, 3) := by decide +kernel
theorem dX7_ifHurt_39 : decode cX7_ifHurt 39 = .ok (.ireturn, 1) := by decide +kernel
theorem dX7_share_0 : decode cX7_share 0 = .ok (.aload_n 0, 1) := by decide +kernel
theorem dX7_share_1 : decode cX7_share 1 = .ok (.getfield 7, 3) := by decide +kernel
theorem dX7_share_4 : decode cX7_share 4 = .ok (.iconst 4, 1) := by decide +kernel
theorem dX7_share_5 : decode cX7_share 5 = .ok (.iaload, 1) := by decide +kernel
theorem dX7_share_6 : decode cX7_share 6 = .ok (.ifCond .ne 7, 3) := by decide +kernel
theorem dX7_share_9 : decode cX7_share 9 = .ok (.dconst 1, 1) := by decide +kernel
theorem dX7_share_10 : decode cX7_share 10 = .ok (.goto 16, 3) := by decide +kernel
theorem dX7_share_13 : decode cX7_share 13 = .ok (.aload_n 0, 1) := by decide +kernel
theorem dX7_share_14 : decode cX7_share 14 = .ok (.invokevirtual 165, 3) := by decide +kernel
theorem dX7_share_17 : decode cX7_share 17 = .ok (.i2d, 1) := by decide +kernel
theorem dX7_share_18 : decode cX7_share 18 = .ok (.aload_n 0, 1) := by decide +kernel
theorem dX7_share_19 : decode cX7_share 19 = .ok (.getfield 7, 3) := by decide +kernel
theorem dX7_share_22 : decode cX7_share 22 = .ok (.iconst 4, 1) := by decide +kernel
theorem dX7_share_23 : decode cX7_share 23 = .ok (.iaload, 1) := by decide +kernel
theorem dX7_share_24 : decode cX7_share 24 = .ok (.i2d, 1) := by decide +kernel
theorem dX7_share_25 : decode cX7_share 25 = .ok (.ddiv, 1) := by decide +kernel
theorem dX7_share_26 : decode cX7_share 26 = .ok (.dreturn, 1) := by decide +kernel
theorem dX7_shotShare_0 : decode cX7_shotShare 0 = .ok (.aload_n 0, 1) := by decide +kernel
theorem dX7_shotShare_1 : decode cX7_shotShare 1 = .ok (.iconst 0, 1) := by decide +kernel
theorem dX7_shotShare_2 : decode cX7_shotShare 2 = .ok (.putfield 22, 3) := by decide +kernel
theorem dX7_shotShare_5 : decode cX7_shotShare 5 = .ok (.aload_n 0, 1) := by decide +kernel
theorem dX7_shotShare_6 : decode cX7_shotShare 6 = .ok (.invokevirtual 186, 3) := by decide +kernel
theorem dX7_shotShare_9 : decode cX7_shotShare 9 = .ok (.dreturn, 1) := by decide +kernel
theorem dX7_mix_0 : decode cX7_mix 0 = .ok (.aload_n 0, 1) := by decide +kernel
theorem dX7_mix_1 : decode cX7_mix 1 = .ok (.ldc2_w 190, 3) := by decide +kernel
theorem dX7_mix_4 : decode cX7_mix 4 = .ok (.aload_n 0, 1) := by decide +kernel
theorem dX7_mix_5 : decode cX7_mix 5 = .ok (.getfield 192, 3) := by decide +kernel
theorem dX7_mix_8 : decode cX7_mix 8 = .ok (.lmul, 1) := by decide +kernel
theorem dX7_mix_9 : decode cX7_mix 9 = .ok (.lload_n 1, 1) := by decide +kernel
theorem dX7_mix_10 : decode cX7_mix 10 = .ok (.ladd, 1) := by decide +kernel
theorem dX7_mix_11 : decode cX7_mix 11 = .ok (.putfield 192, 3) := by decide +kernel
theorem dX7_mix_14 : decode cX7_mix 14 = .ok (.return_, 1) := by decide +kernel
theorem dX7_mixPerson_0 : decode cX7_mixPerson 0 = .ok (.iconst 0, 1) := by decide +kernel
theorem dX7_mixPerson_1 : decode cX7_mixPerson 1 = .ok (.istore_n 2, 1) := by decide +kernel
theorem dX7_mixPerson_2 : decode cX7_mixPerson 2 = .ok (.iload_n 2, 1) := by decide +kernel
theorem dX7_mixPerson_3 : decode cX7_mixPerson 3 = .ok (.bipush 7, 2) := by decide +kernel
theorem dX7_mixPerson_5 : decode cX7_mixPerson 5 = .ok (.if_icmp .ge 20, 3) := by decide +kernel
theorem dX7_mixPerson_8 : decode cX7_mixPerson 8 = .ok (.aload_n 0, 1) := by decide +kernel
theorem dX7_mixPerson_9 : decode cX7_mixPerson 9 = .ok (.aload_n 0, 1) := by decide +kernel
theorem dX7_mixPerson_10 : decode cX7_mixPerson 10 = .ok (.iload_n 1, 1) := by decide +kernel
theorem dX7_mixPerson_11 : decode cX7_mixPerson 11 = .ok (.iload_n 2, 1) := by decide +kernel
theorem dX7_mixPerson_12 : decode cX7_mixPerson 12 = .ok (.invokevirtual 156, 3) := by decide +kernel
theorem dX7_mixPerson_15 : decode cX7_mixPerson 15 = .ok (.i2l, 1) := by decide +kernel
theorem dX7_mixPerson_16 : decode cX7_mixPerson 16 = .ok (.invokevirtual 196, 3) := by decide +kernel
theorem dX7_mixPerson_19 : decode cX7_mixPerson 19 = .ok (.iinc 2 1, 3) := by decide +kernel
theorem dX7_mixPerson_22 : decode cX7_mixPerson 22 = .ok (.goto (-20), 3) := by decide +kernel
theorem dX7_mixPerson_25 : decode cX7_mixPerson 25 = .ok (.iconst 0, 1) := by decide +kernel
theorem dX7_mixPerson_26 : decode cX7_mixPerson 26 = .ok (.istore_n 2, 1) := by decide +kernel
theorem dX7_mixPerson_27 : decode cX7_mixPerson 27 = .ok (.iload_n 2, 1) := by decide +kernel
theorem dX7_mixPerson_28 : decode cX7_mixPerson 28 = .ok (.bipush 6, 2) := by decide +kernel
theorem dX7_mixPerson_30 : decode cX7_mixPerson 30 = .ok (.if_icmp .ge 27, 3) := by decide +kernel
theorem dX7_mixPerson_33 : decode cX7_mixPerson 33 = .ok (.aload_n 0, 1) := by decide +kernel
theorem dX7_mixPerson_34 : decode cX7_mixPerson 34 = .ok (.aload_n 0, 1) := by decide +kernel
theorem dX7_mixPerson_35 : decode cX7_mixPerson 35 = .ok (.iload_n 1, 1) := by decide +kernel
theorem dX7_mixPerson_36 : decode cX7_mixPerson 36 = .ok (.iload_n 2, 1) := by decide +kernel
theorem dX7_mixPerson_37 : decode cX7_mixPerson 37 = .ok (.iconst 2, 1) := by decide +kernel
theorem dX7_mixPerson_38 : decode cX7_mixPerson 38 = .ok (.aload_n 0, 1) := by decide +kernel
theorem dX7_mixPerson_39 : decode cX7_mixPerson 39 = .ok (.getfield 7, 3) := by decide +kernel
theorem dX7_mixPerson_42 : decode cX7_mixPerson 42 = .ok (.iconst 0, 1) := by decide +kernel
theorem dX7_mixPerson_43 : decode cX7_mixPerson 43 = .ok (.iaload, 1) := by decide +kernel
theorem dX7_mixPerson_44 : decode cX7_mixPerson 44 = .ok (.invokevirtual 69, 3) := by decide +kernel
theorem dX7_mixPerson_47 : decode cX7_mixPerson 47 = .ok (.i2l, 1) := by decide +kernel
theorem dX7_mixPerson_48 : decode cX7_mixPerson 48 = .ok (.invokevirtual 196, 3) := by decide +kernel
theorem dX7_mixPerson_51 : decode cX7_mixPerson 51 = .ok (.iinc 2 1, 3) := by decide +kernel
theorem dX7_mixPerson_54 : decode cX7_mixPerson 54 = .ok (.goto (-27), 3) := by decide +kernel
theorem dX7_mixPerson_57 : decode cX7_mixPerson 57 = .ok (.aload_n 0, 1) := by decide +kernel
theorem dX7_mixPerson_58 : decode cX7_mixPerson 58 = .ok (.aload_n 0, 1) := by decide +kernel
theorem dX7_mixPerson_59 : decode cX7_mixPerson 59 = .ok (.iload_n 1, 1) := by decide +kernel
theorem dX7_mixPerson_60 : decode cX7_mixPerson 60 = .ok (.bipush 16, 2) := by decide +kernel
theorem dX7_mixPerson_62 : decode cX7_mixPerson 62 = .ok (.invokevirtual 183, 3) := by decide +kernel
theorem dX7_mixPerson_65 : decode cX7_mixPerson 65 = .ok (.i2l, 1) := by decide +kernel
theorem dX7_mixPerson_66 : decode cX7_mixPerson 66 = .ok (.invokevirtual 196, 3) := by decide +kernel
theorem dX7_mixPerson_69 : decode cX7_mixPerson 69 = .ok (.return_, 1) := by decide +kernel
theorem dX7_mixScene_0 : decode cX7_mixScene 0 = .ok (.iconst 0, 1) := by decide +kernel
theorem dX7_mixScene_1 : decode cX7_mixScene 1 = .ok (.istore_n 2, 1) := by decide +kernel
theorem dX7_mixScene_2 : decode cX7_mixScene 2 = .ok (.iload_n 2, 1) := by decide +kernel
theorem dX7_mixScene_3 : decode cX7_mixScene 3 = .ok (.bipush 6, 2) := by decide +kernel
theorem dX7_mixScene_5 : decode cX7_mixScene 5 = .ok (.if_icmp .ge 20, 3) := by decide +kernel
theorem dX7_mixScene_8 : decode cX7_mixScene 8 = .ok (.aload_n 0, 1) := by decide +kernel
theorem dX7_mixScene_9 : decode cX7_mixScene 9 = .ok (.aload_n 0, 1) := by decide +kernel
theorem dX7_mixScene_10 : decode cX7_mixScene 10 = .ok (.iload_n 1, 1) := by decide +kernel
theorem dX7_mixScene_11 : decode cX7_mixScene 11 = .ok (.iload_n 2, 1) := by decide +kernel
theorem dX7_mixScene_12 : decode cX7_mixScene 12 = .ok (.invokevirtual 162, 3) := by decide +kernel
theorem dX7_mixScene_15 : decode cX7_mixScene 15 = .ok (.i2l, 1) := by decide +kernel
theorem dX7_mixScene_16 : decode cX7_mixScene 16 = .ok (.invokevirtual 196, 3) := by decide +kernel
theorem dX7_mixScene_19 : decode cX7_mixScene 19 = .ok (.iinc 2 1, 3) := by decide +kernel
theorem dX7_mixScene_22 : decode cX7_mixScene 22 = .ok (.goto (-20), 3) := by decide +kernel
theorem dX7_mixScene_25 : decode cX7_mixScene 25 = .ok (.aload_n 0, 1) := by decide +kernel
theorem dX7_mixScene_26 : decode cX7_mixScene 26 = .ok (.aload_n 0, 1) := by decide +kernel
theorem dX7_mixScene_27 : decode cX7_mixScene 27 = .ok (.iload_n 1, 1) := by decide +kernel
theorem dX7_mixScene_28 : decode cX7_mixScene 28 = .ok (.invokevirtual 180, 3) := by decide +kernel
theorem dX7_mixScene_31 : decode cX7_mixScene 31 = .ok (.i2l, 1) := by decide +kernel
theorem dX7_mixScene_32 : decode cX7_mixScene 32 = .ok (.invokevirtual 196, 3) := by decide +kernel
theorem dX7_mixScene_35 : decode cX7_mixScene 35 = .ok (.iconst 0, 1) := by decide +kernel
theorem dX7_mixScene_36 : decode cX7_mixScene 36 = .ok (.istore_n 2, 1) := by decide +kernel
theorem dX7_mixScene_37 : decode cX7_mixScene 37 = .ok (.iload_n 2, 1) := by decide +kernel
theorem dX7_mixScene_38 : decode cX7_mixScene 38 = .ok (.bipush 8, 2) := by decide +kernel
theorem dX7_mixScene_40 : decode cX7_mixScene 40 = .ok (.if_icmp .ge 54, 3) := by decide +kernel
theorem dX7_mixScene_43 : decode cX7_mixScene 43 = .ok (.aload_n 0, 1) := by decide +kernel
theorem dX7_mixScene_44 : decode cX7_mixScene 44 = .ok (.aload_n 0, 1) := by decide +kernel
theorem dX7_mixScene_45 : decode cX7_mixScene 45 = .ok (.iload_n 1, 1) := by decide +kernel
theorem dX7_mixScene_46 : decode cX7_mixScene 46 = .ok (.iload_n 2, 1) := by decide +kernel
theorem dX7_mixScene_47 : decode cX7_mixScene 47 = .ok (.aload_n 0, 1) := by decide +kernel
theorem dX7_mixScene_48 : decode cX7_mixScene 48 = .ok (.getfield 7, 3) := by decide +kernel
theorem dX7_mixScene_51 : decode cX7_mixScene 51 = .ok (.iconst 0, 1) := by decide +kernel
theorem dX7_mixScene_52 : decode cX7_mixScene 52 = .ok (.iaload, 1) := by decide +kernel
theorem dX7_mixScene_53 : decode cX7_mixScene 53 = .ok (.invokevirtual 87, 3) := by decide +kernel
theorem dX7_mixScene_56 : decode cX7_mixScene 56 = .ok (.i2l, 1) := by decide +kernel
theorem dX7_mixScene_57 : decode cX7_mixScene 57 = .ok (.invokevirtual 196, 3) := by decide +kernel
theorem dX7_mixScene_60 : decode cX7_mixScene 60 = .ok (.aload_n 0, 1) := by decide +kernel
theorem dX7_mixScene_61 : decode cX7_mixScene 61 = .ok (.aload_n 0, 1) := by decide +kernel
theorem dX7_mixScene_62 : decode cX7_mixScene 62 = .ok (.iload_n 1, 1) := by decide +kernel
theorem dX7_mixScene_63 : decode cX7_mixScene 63 = .ok (.iload_n 2, 1) := by decide +kernel
theorem dX7_mixScene_64 : decode cX7_mixScene 64 = .ok (.aload_n 0, 1) := by decide +kernel
theorem dX7_mixScene_65 : decode cX7_mixScene 65 = .ok (.getfield 7, 3) := by decide +kernel
theorem dX7_mixScene_68 : decode cX7_mixScene 68 = .ok (.iconst 0, 1) := by decide +kernel
theorem dX7_mixScene_69 : decode cX7_mixScene 69 = .ok (.iaload, 1) := by decide +kernel
theorem dX7_mixScene_70 : decode cX7_mixScene 70 = .ok (.invokevirtual 83, 3) := by decide +kernel
theorem dX7_mixScene_73 : decode cX7_mixScene 73 = .ok (.i2l, 1) := by decide +kernel
theorem dX7_mixScene_74 : decode cX7_mixScene 74 = .ok (.invokevirtual 196, 3) := by decide +kernel
theorem dX7_mixScene_77 : decode cX7_mixScene 77 = .ok (.aload_n 0, 1) := by decide +kernel
theorem dX7_mixScene_78 : decode cX7_mixScene 78 = .ok (.aload_n 0, 1) := by decide +kernel
theorem dX7_mixScene_79 : decode cX7_mixScene 79 = .ok (.iload_n 1, 1) := by decide +kernel
theorem dX7_mixScene_80 : decode cX7_mixScene 80 = .ok (.iload_n 2, 1) := by decide +kernel
theorem dX7_mixScene_81 : decode cX7_mixScene 81 = .ok (.invokevirtual 174, 3) := by decide +kernel
theorem dX7_mixScene_84 : decode cX7_mixScene 84 = .ok (.i2l, 1) := by decide +kernel
theorem dX7_mixScene_85 : decode cX7_mixScene 85 = .ok (.invokevirtual 196, 3) := by decide +kernel
theorem dX7_mixScene_88 : decode cX7_mixScene 88 = .ok (.iinc 2 1, 3) := by decide +kernel
theorem dX7_mixScene_91 : decode cX7_mixScene 91 = .ok (.goto (-54), 3) := by decide +kernel
theorem dX7_mixScene_94 : decode cX7_mixScene 94 = .ok (.return_, 1) := by decide +kernel
theorem dX7_digest_0 : decode cX7_digest 0 = .ok (.aload_n 0, 1) := by decide +kernel
theorem dX7_digest_1 : decode cX7_digest 1 = .ok (.iconst 0, 1) := by decide +kernel
theorem dX7_digest_2 : decode cX7_digest 2 = .ok (.putfield 22, 3) := by decide +kernel
theorem dX7_digest_5 : decode cX7_digest 5 = .ok (.aload_n 0, 1) := by decide +kernel
theorem dX7_digest_6 : decode cX7_digest 6 = .ok (.ldc2_w 200, 3) := by decide +kernel
theorem dX7_digest_9 : decode cX7_digest 9 = .ok (.putfield 192, 3) := by decide +kernel
theorem dX7_digest_12 : decode cX7_digest 12 = .ok (.iconst 0, 1) := by decide +kernel
theorem dX7_digest_13 : decode cX7_digest 13 = .ok (.istore_n 1, 1) := by decide +kernel
theorem dX7_digest_14 : decode cX7_digest 14 = .ok (.iload_n 1, 1) := by decide +kernel
theorem dX7_digest_15 : decode cX7_digest 15 = .ok (.bipush 11, 2) := by decide +kernel
theorem dX7_digest_17 : decode cX7_digest 17 = .ok (.if_icmp .ge 19, 3) := by decide +kernel
theorem dX7_digest_20 : decode cX7_digest 20 = .ok (.aload_n 0, 1) := by decide +kernel
theorem dX7_digest_21 : decode cX7_digest 21 = .ok (.aload_n 0, 1) := by decide +kernel
theorem dX7_digest_22 : decode cX7_digest 22 = .ok (.iload_n 1, 1) := by decide +kernel
theorem dX7_digest_23 : decode cX7_digest 23 = .ok (.invokevirtual 171, 3) := by decide +kernel
theorem dX7_digest_26 : decode cX7_digest 26 = .ok (.i2l, 1) := by decide +kernel
theorem dX7_digest_27 : decode cX7_digest 27 = .ok (.invokevirtual 196, 3) := by decide +kernel
theorem dX7_digest_30 : decode cX7_digest 30 = .ok (.iinc 1 1, 3) := by decide +kernel
theorem dX7_digest_33 : decode cX7_digest 33 = .ok (.goto (-19), 3) := by decide +kernel
theorem dX7_digest_36 : decode cX7_digest 36 = .ok (.iconst 0, 1) := by decide +kernel
theorem dX7_digest_37 : decode cX7_digest 37 = .ok (.istore_n 1, 1) := by decide +kernel
theorem dX7_digest_38 : decode cX7_digest 38 = .ok (.iload_n 1, 1) := by decide +kernel
theorem dX7_digest_39 : decode cX7_digest 39 = .ok (.bipush 8, 2) := by decide +kernel
theorem dX7_digest_41 : decode cX7_digest 41 = .ok (.if_icmp .ge 14, 3) := by decide +kernel
theorem dX7_digest_44 : decode cX7_digest 44 = .ok (.aload_n 0, 1) := by decide +kernel
theorem dX7_digest_45 : decode cX7_digest 45 = .ok (.iload_n 1, 1) := by decide +kernel
theorem dX7_digest_46 : decode cX7_digest 46 = .ok (.invokevirtual 202, 3) := by decide +kernel
theorem dX7_digest_49 : decode cX7_digest 49 = .ok (.iinc 1 1, 3) := by decide +kernel
theorem dX7_digest_52 : decode cX7_digest 52 = .ok (.goto (-14), 3) := by decide +kernel
theorem dX7_digest_55 : decode cX7_digest 55 = .ok (.iconst 0, 1) := by decide +kernel
theorem dX7_digest_56 : decode cX7_digest 56 = .ok (.istore_n 1, 1) := by decide +kernel
theorem dX7_digest_57 : decode cX7_digest 57 = .ok (.iload_n 1, 1) := by decide +kernel
theorem dX7_digest_58 : decode cX7_digest 58 = .ok (.aload_n 0, 1) := by decide +kernel
theorem dX7_digest_59 : decode cX7_digest 59 = .ok (.getfield 7, 3) := by decide +kernel
theorem dX7_digest_62 : decode cX7_digest 62 = .ok (.iconst 4, 1) := by decide +kernel
theorem dX7_digest_63 : decode cX7_digest 63 = .ok (.iaload, 1) := by decide +kernel
theorem dX7_digest_64 : decode cX7_digest 64 = .ok (.if_icmp .ge 14, 3) := by decide +kernel
theorem dX7_digest_67 : decode cX7_digest 67 = .ok (.aload_n 0, 1) := by decide +kernel
theorem dX7_digest_68 : decode cX7_digest 68 = .ok (.iload_n 1, 1) := by decide +kernel
theorem dX7_digest_69 : decode cX7_digest 69 = .ok (.invokevirtual 206, 3) := by decide +kernel
theorem dX7_digest_72 : decode cX7_digest 72 = .ok (.iinc 1 1, 3) := by decide +kernel
theorem dX7_digest_75 : decode cX7_digest 75 = .ok (.goto (-18), 3) := by decide +kernel
theorem dX7_digest_78 : decode cX7_digest 78 = .ok (.aload_n 0, 1) := by decide +kernel
theorem dX7_digest_79 : decode cX7_digest 79 = .ok (.aload_n 0, 1) := by decide +kernel
theorem dX7_digest_80 : decode cX7_digest 80 = .ok (.iconst 3, 1) := by decide +kernel
theorem dX7_digest_81 : decode cX7_digest 81 = .ok (.bipush 10, 2) := by decide +kernel
theorem dX7_digest_83 : decode cX7_digest 83 = .ok (.invokevirtual 112, 3) := by decide +kernel
theorem dX7_digest_86 : decode cX7_digest 86 = .ok (.i2l, 1) := by decide +kernel
theorem dX7_digest_87 : decode cX7_digest 87 = .ok (.invokevirtual 196, 3) := by decide +kernel
theorem dX7_digest_90 : decode cX7_digest 90 = .ok (.aload_n 0, 1) := by decide +kernel
theorem dX7_digest_91 : decode cX7_digest 91 = .ok (.aload_n 0, 1) := by decide +kernel
theorem dX7_digest_92 : decode cX7_digest 92 = .ok (.invokevirtual 186, 3) := by decide +kernel
theorem dX7_digest_95 : decode cX7_digest 95 = .ok (.invokestatic 209, 3) := by decide +kernel
theorem dX7_digest_98 : decode cX7_digest 98 = .ok (.invokevirtual 196, 3) := by decide +kernel
theorem dX7_digest_101 : decode cX7_digest 101 = .ok (.aload_n 0, 1) := by decide +kernel
theorem dX7_digest_102 : decode cX7_digest 102 = .ok (.aload_n 0, 1) := by decide +kernel
theorem dX7_digest_103 : decode cX7_digest 103 = .ok (.getfield 121, 3) := by decide +kernel
theorem dX7_digest_106 : decode cX7_digest 106 = .ok (.i2l, 1) := by decide +kernel
theorem dX7_digest_107 : decode cX7_digest 107 = .ok (.invokevirtual 196, 3) := by decide +kernel
theorem dX7_digest_110 : decode cX7_digest 110 = .ok (.iconst 0, 1) := by decide +kernel
theorem dX7_digest_111 : decode cX7_digest 111 = .ok (.istore_n 1, 1) := by decide +kernel
theorem dX7_digest_112 : decode cX7_digest 112 = .ok (.iload_n 1, 1) := by decide +kernel
theorem dX7_digest_113 : decode cX7_digest 113 = .ok (.aload_n 0, 1) := by decide +kernel
theorem dX7_digest_114 : decode cX7_digest 114 = .ok (.getfield 121, 3) := by decide +kernel
theorem dX7_digest_117 : decode cX7_digest 117 = .ok (.if_icmp .ge 20, 3) := by decide +kernel
theorem dX7_digest_120 : decode cX7_digest 120 = .ok (.aload_n 0, 1) := by decide +kernel
theorem dX7_digest_121 : decode cX7_digest 121 = .ok (.aload_n 0, 1) := by decide +kernel
theorem dX7_digest_122 : decode cX7_digest 122 = .ok (.getfield 16, 3) := by decide +kernel
theorem dX7_digest_125 : decode cX7_digest 125 = .ok (.iload_n 1, 1) := by decide +kernel
theorem dX7_digest_126 : decode cX7_digest 126 = .ok (.iaload, 1) := by decide +kernel
theorem dX7_digest_127 : decode cX7_digest 127 = .ok (.i2l, 1) := by decide +kernel
theorem dX7_digest_128 : decode cX7_digest 128 = .ok (.invokevirtual 196, 3) := by decide +kernel
theorem dX7_digest_131 : decode cX7_digest 131 = .ok (.iinc 1 1, 3) := by decide +kernel
theorem dX7_digest_134 : decode cX7_digest 134 = .ok (.goto (-22), 3) := by decide +kernel
theorem dX7_digest_137 : decode cX7_digest 137 = .ok (.aload_n 0, 1) := by decide +kernel
theorem dX7_digest_138 : decode cX7_digest 138 = .ok (.getfield 192, 3) := by decide +kernel
theorem dX7_digest_141 : decode cX7_digest 141 = .ok (.lreturn, 1) := by decide +kernel
