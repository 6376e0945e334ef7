theorem dX0_init_0 : decode cX0_init 0 = .ok (.aload_n 0, 1) := by decide +kernel
theorem dX0_init_1 : decode cX0_init 1 = .ok (.invokespecial 3, 3) := by decide +kernel
theorem dX0_init_4 : decode cX0_init 4 = .ok (.aload_n 0, 1) := by decide +kernel
theorem dX0_init_5 : decode cX0_init 5 = .ok (.iconst 0, 1) := by decide +kernel
theorem dX0_init_6 : decode cX0_init 6 = .ok (.putfield 9, 3) := by decide +kernel
theorem dX0_init_9 : decode cX0_init 9 = .ok (.aload_n 0, 1) := by decide +kernel
theorem dX0_init_10 : decode cX0_init 10 = .ok (.bipush 12, 2) := by decide +kernel
theorem dX0_init_12 : decode cX0_init 12 = .ok (.newarray .int, 2) := by decide +kernel
theorem dX0_init_14 : decode cX0_init 14 = .ok (.putfield 15, 3) := by decide +kernel
theorem dX0_init_17 : decode cX0_init 17 = .ok (.aload_n 0, 1) := by decide +kernel
theorem dX0_init_18 : decode cX0_init 18 = .ok (.bipush 12, 2) := by decide +kernel
theorem dX0_init_20 : decode cX0_init 20 = .ok (.newarray .int, 2) := by decide +kernel
theorem dX0_init_22 : decode cX0_init 22 = .ok (.putfield 19, 3) := by decide +kernel
theorem dX0_init_25 : decode cX0_init 25 = .ok (.aload_n 0, 1) := by decide +kernel
theorem dX0_init_26 : decode cX0_init 26 = .ok (.bipush 12, 2) := by decide +kernel
theorem dX0_init_28 : decode cX0_init 28 = .ok (.newarray .int, 2) := by decide +kernel
theorem dX0_init_30 : decode cX0_init 30 = .ok (.putfield 22, 3) := by decide +kernel
theorem dX0_init_33 : decode cX0_init 33 = .ok (.return_, 1) := by decide +kernel
theorem dX0_keep_0 : decode cX0_keep 0 = .ok (.aload_n 0, 1) := by decide +kernel
theorem dX0_keep_1 : decode cX0_keep 1 = .ok (.getfield 9, 3) := by decide +kernel
theorem dX0_keep_4 : decode cX0_keep 4 = .ok (.bipush 12, 2) := by decide +kernel
theorem dX0_keep_6 : decode cX0_keep 6 = .ok (.if_icmp .lt 34, 3) := by decide +kernel
theorem dX0_keep_9 : decode cX0_keep 9 = .ok (.aload_n 0, 1) := by decide +kernel
theorem dX0_keep_10 : decode cX0_keep 10 = .ok (.getfield 15, 3) := by decide +kernel
theorem dX0_keep_13 : decode cX0_keep 13 = .ok (.invokestatic 25, 3) := by decide +kernel
theorem dX0_keep_16 : decode cX0_keep 16 = .ok (.aload_n 0, 1) := by decide +kernel
theorem dX0_keep_17 : decode cX0_keep 17 = .ok (.getfield 19, 3) := by decide +kernel
theorem dX0_keep_20 : decode cX0_keep 20 = .ok (.invokestatic 25, 3) := by decide +kernel
theorem dX0_keep_23 : decode cX0_keep 23 = .ok (.aload_n 0, 1) := by decide +kernel
theorem dX0_keep_24 : decode cX0_keep 24 = .ok (.getfield 22, 3) := by decide +kernel
theorem dX0_keep_27 : decode cX0_keep 27 = .ok (.invokestatic 25, 3) := by decide +kernel
theorem dX0_keep_30 : decode cX0_keep 30 = .ok (.aload_n 0, 1) := by decide +kernel
theorem dX0_keep_31 : decode cX0_keep 31 = .ok (.dup, 1) := by decide +kernel
theorem dX0_keep_32 : decode cX0_keep 32 = .ok (.getfield 9, 3) := by decide +kernel
theorem dX0_keep_35 : decode cX0_keep 35 = .ok (.iconst 1, 1) := by decide +kernel
theorem dX0_keep_36 : decode cX0_keep 36 = .ok (.isub, 1) := by decide +kernel
theorem dX0_keep_37 : decode cX0_keep 37 = .ok (.putfield 9, 3) := by decide +kernel
theorem dX0_keep_40 : decode cX0_keep 40 = .ok (.aload_n 0, 1) := by decide +kernel
theorem dX0_keep_41 : decode cX0_keep 41 = .ok (.getfield 15, 3) := by decide +kernel
theorem dX0_keep_44 : decode cX0_keep 44 = .ok (.aload_n 0, 1) := by decide +kernel
theorem dX0_keep_45 : decode cX0_keep 45 = .ok (.getfield 9, 3) := by decide +kernel
theorem dX0_keep_48 : decode cX0_keep 48 = .ok (.iload_n 1, 1) := by decide +kernel
theorem dX0_keep_49 : decode cX0_keep 49 = .ok (.invokestatic 29, 3) := by decide +kernel
theorem dX0_keep_52 : decode cX0_keep 52 = .ok (.aload_n 0, 1) := by decide +kernel
theorem dX0_keep_53 : decode cX0_keep 53 = .ok (.getfield 19, 3) := by decide +kernel
theorem dX0_keep_56 : decode cX0_keep 56 = .ok (.aload_n 0, 1) := by decide +kernel
theorem dX0_keep_57 : decode cX0_keep 57 = .ok (.getfield 9, 3) := by decide +kernel
theorem dX0_keep_60 : decode cX0_keep 60 = .ok (.iload_n 2, 1) := by decide +kernel
theorem dX0_keep_61 : decode cX0_keep 61 = .ok (.invokestatic 29, 3) := by decide +kernel
theorem dX0_keep_64 : decode cX0_keep 64 = .ok (.aload_n 0, 1) := by decide +kernel
theorem dX0_keep_65 : decode cX0_keep 65 = .ok (.getfield 22, 3) := by decide +kernel
theorem dX0_keep_68 : decode cX0_keep 68 = .ok (.aload_n 0, 1) := by decide +kernel
theorem dX0_keep_69 : decode cX0_keep 69 = .ok (.getfield 9, 3) := by decide +kernel
theorem dX0_keep_72 : decode cX0_keep 72 = .ok (.iload_n 3, 1) := by decide +kernel
theorem dX0_keep_73 : decode cX0_keep 73 = .ok (.invokestatic 29, 3) := by decide +kernel
theorem dX0_keep_76 : decode cX0_keep 76 = .ok (.aload_n 0, 1) := by decide +kernel
theorem dX0_keep_77 : decode cX0_keep 77 = .ok (.dup, 1) := by decide +kernel
theorem dX0_keep_78 : decode cX0_keep 78 = .ok (.getfield 9, 3) := by decide +kernel
theorem dX0_keep_81 : decode cX0_keep 81 = .ok (.iconst 1, 1) := by decide +kernel
theorem dX0_keep_82 : decode cX0_keep 82 = .ok (.iadd, 1) := by decide +kernel
theorem dX0_keep_83 : decode cX0_keep 83 = .ok (.putfield 9, 3) := by decide +kernel
theorem dX0_keep_86 : decode cX0_keep 86 = .ok (.return_, 1) := by decide +kernel
theorem dX0_partsOn_0 : decode cX0_partsOn 0 = .ok (.iconst 0, 1) := by decide +kernel
theorem dX0_partsOn_1 : decode cX0_partsOn 1 = .ok (.istore_n 3, 1) := by decide +kernel
theorem dX0_partsOn_2 : decode cX0_partsOn 2 = .ok (.iconst 0, 1) := by decide +kernel
theorem dX0_partsOn_3 : decode cX0_partsOn 3 = .ok (.istore 4, 2) := by decide +kernel
theorem dX0_partsOn_5 : decode cX0_partsOn 5 = .ok (.iload 4, 2) := by decide +kernel
theorem dX0_partsOn_7 : decode cX0_partsOn 7 = .ok (.aload_n 0, 1) := by decide +kernel
theorem dX0_partsOn_8 : decode cX0_partsOn 8 = .ok (.getfield 9, 3) := by decide +kernel
theorem dX0_partsOn_11 : decode cX0_partsOn 11 = .ok (.if_icmp .ge 47, 3) := by decide +kernel
theorem dX0_partsOn_14 : decode cX0_partsOn 14 = .ok (.aload_n 0, 1) := by decide +kernel
theorem dX0_partsOn_15 : decode cX0_partsOn 15 = .ok (.getfield 15, 3) := by decide +kernel
theorem dX0_partsOn_18 : decode cX0_partsOn 18 = .ok (.iload 4, 2) := by decide +kernel
theorem dX0_partsOn_20 : decode cX0_partsOn 20 = .ok (.invokestatic 33, 3) := by decide +kernel
theorem dX0_partsOn_23 : decode cX0_partsOn 23 = .ok (.iload_n 2, 1) := by decide +kernel
theorem dX0_partsOn_24 : decode cX0_partsOn 24 = .ok (.if_icmp .ne 28, 3) := by decide +kernel
theorem dX0_partsOn_27 : decode cX0_partsOn 27 = .ok (.iload_n 1, 1) := by decide +kernel
theorem dX0_partsOn_28 : decode cX0_partsOn 28 = .ok (.aload_n 0, 1) := by decide +kernel
theorem dX0_partsOn_29 : decode cX0_partsOn 29 = .ok (.getfield 22, 3) := by decide +kernel
theorem dX0_partsOn_32 : decode cX0_partsOn 32 = .ok (.iload 4, 2) := by decide +kernel
theorem dX0_partsOn_34 : decode cX0_partsOn 34 = .ok (.invokestatic 33, 3) := by decide +kernel
theorem dX0_partsOn_37 : decode cX0_partsOn 37 = .ok (.if_icmp .gt 15, 3) := by decide +kernel
theorem dX0_partsOn_40 : decode cX0_partsOn 40 = .ok (.iload_n 3, 1) := by decide +kernel
theorem dX0_partsOn_41 : decode cX0_partsOn 41 = .ok (.aload_n 0, 1) := by decide +kernel
theorem dX0_partsOn_42 : decode cX0_partsOn 42 = .ok (.getfield 19, 3) := by decide +kernel
theorem dX0_partsOn_45 : decode cX0_partsOn 45 = .ok (.iload 4, 2) := by decide +kernel
theorem dX0_partsOn_47 : decode cX0_partsOn 47 = .ok (.invokestatic 33, 3) := by decide +kernel
theorem dX0_partsOn_50 : decode cX0_partsOn 50 = .ok (.ior, 1) := by decide +kernel
theorem dX0_partsOn_51 : decode cX0_partsOn 51 = .ok (.istore_n 3, 1) := by decide +kernel
theorem dX0_partsOn_52 : decode cX0_partsOn 52 = .ok (.iinc 4 1, 3) := by decide +kernel
theorem dX0_partsOn_55 : decode cX0_partsOn 55 = .ok (.goto (-50), 3) := by decide +kernel
theorem dX0_partsOn_58 : decode cX0_partsOn 58 = .ok (.iload_n 3, 1) := by decide +kernel
theorem dX0_partsOn_59 : decode cX0_partsOn 59 = .ok (.ireturn, 1) := by decide +kernel
theorem dX0_lastDayFor_0 : decode cX0_lastDayFor 0 = .ok (.iconst (-1), 1) := by decide +kernel
theorem dX0_lastDayFor_1 : decode cX0_lastDayFor 1 = .ok (.istore_n 3, 1) := by decide +kernel
theorem dX0_lastDayFor_2 : decode cX0_lastDayFor 2 = .ok (.iconst 0, 1) := by decide +kernel
theorem dX0_lastDayFor_3 : decode cX0_lastDayFor 3 = .ok (.istore 4, 2) := by decide +kernel
theorem dX0_lastDayFor_5 : decode cX0_lastDayFor 5 = .ok (.iload 4, 2) := by decide +kernel
theorem dX0_lastDayFor_7 : decode cX0_lastDayFor 7 = .ok (.aload_n 0, 1) := by decide +kernel
theorem dX0_lastDayFor_8 : decode cX0_lastDayFor 8 = .ok (.getfield 9, 3) := by decide +kernel
theorem dX0_lastDayFor_11 : decode cX0_lastDayFor 11 = .ok (.if_icmp .ge 48, 3) := by decide +kernel
theorem dX0_lastDayFor_14 : decode cX0_lastDayFor 14 = .ok (.aload_n 0, 1) := by decide +kernel
theorem dX0_lastDayFor_15 : decode cX0_lastDayFor 15 = .ok (.getfield 22, 3) := by decide +kernel
theorem dX0_lastDayFor_18 : decode cX0_lastDayFor 18 = .ok (.iload 4, 2) := by decide +kernel
theorem dX0_lastDayFor_20 : decode cX0_lastDayFor 20 = .ok (.invokestatic 33, 3) := by decide +kernel
theorem dX0_lastDayFor_23 : decode cX0_lastDayFor 23 = .ok (.istore 5, 2) := by decide +kernel
theorem dX0_lastDayFor_25 : decode cX0_lastDayFor 25 = .ok (.aload_n 0, 1) := by decide +kernel
theorem dX0_lastDayFor_26 : decode cX0_lastDayFor 26 = .ok (.getfield 15, 3) := by decide +kernel
theorem dX0_lastDayFor_29 : decode cX0_lastDayFor 29 = .ok (.iload 4, 2) := by decide +kernel
theorem dX0_lastDayFor_31 : decode cX0_lastDayFor 31 = .ok (.invokestatic 33, 3) := by decide +kernel
theorem dX0_lastDayFor_34 : decode cX0_lastDayFor 34 = .ok (.iload_n 2, 1) := by decide +kernel
theorem dX0_lastDayFor_35 : decode cX0_lastDayFor 35 = .ok (.if_icmp .ne 18, 3) := by decide +kernel
theorem dX0_lastDayFor_38 : decode cX0_lastDayFor 38 = .ok (.iload_n 1, 1) := by decide +kernel
theorem dX0_lastDayFor_39 : decode cX0_lastDayFor 39 = .ok (.iload 5, 2) := by decide +kernel
theorem dX0_lastDayFor_41 : decode cX0_lastDayFor 41 = .ok (.if_icmp .gt 12, 3) := by decide +kernel
theorem dX0_lastDayFor_44 : decode cX0_lastDayFor 44 = .ok (.iload 5, 2) := by decide +kernel
theorem dX0_lastDayFor_46 : decode cX0_lastDayFor 46 = .ok (.iload_n 3, 1) := by decide +kernel
theorem dX0_lastDayFor_47 : decode cX0_lastDayFor 47 = .ok (.if_icmp .le 6, 3) := by decide +kernel
theorem dX0_lastDayFor_50 : decode cX0_lastDayFor 50 = .ok (.iload 5, 2) := by decide +kernel
theorem dX0_lastDayFor_52 : decode cX0_lastDayFor 52 = .ok (.istore_n 3, 1) := by decide +kernel
theorem dX0_lastDayFor_53 : decode cX0_lastDayFor 53 = .ok (.iinc 4 1, 3) := by decide +kernel
theorem dX0_lastDayFor_56 : decode cX0_lastDayFor 56 = .ok (.goto (-51), 3) := by decide +kernel
theorem dX0_lastDayFor_59 : decode cX0_lastDayFor 59 = .ok (.iload_n 3, 1) := by decide +kernel
theorem dX0_lastDayFor_60 : decode cX0_lastDayFor 60 = .ok (.ireturn, 1) := by decide +kernel
theorem dX0_copyFrom_0 : decode cX0_copyFrom 0 = .ok (.aload_n 1, 1) := by decide +kernel
theorem dX0_copyFrom_1 : decode cX0_copyFrom 1 = .ok (.ifnonnull 4, 3) := by decide +kernel
theorem dX0_copyFrom_4 : decode cX0_copyFrom 4 = .ok (.return_, 1) := by decide +kernel
theorem dX0_copyFrom_5 : decode cX0_copyFrom 5 = .ok (.aload_n 0, 1) := by decide +kernel
theorem dX0_copyFrom_6 : decode cX0_copyFrom 6 = .ok (.aload_n 1, 1) := by decide +kernel
theorem dX0_copyFrom_7 : decode cX0_copyFrom 7 = .ok (.getfield 9, 3) := by decide +kernel
theorem dX0_copyFrom_10 : decode cX0_copyFrom 10 = .ok (.putfield 9, 3) := by decide +kernel
theorem dX0_copyFrom_13 : decode cX0_copyFrom 13 = .ok (.aload_n 1, 1) := by decide +kernel
theorem dX0_copyFrom_14 : decode cX0_copyFrom 14 = .ok (.getfield 15, 3) := by decide +kernel
theorem dX0_copyFrom_17 : decode cX0_copyFrom 17 = .ok (.aload_n 0, 1) := by decide +kernel
theorem dX0_copyFrom_18 : decode cX0_copyFrom 18 = .ok (.getfield 15, 3) := by decide +kernel
theorem dX0_copyFrom_21 : decode cX0_copyFrom 21 = .ok (.invokestatic 37, 3) := by decide +kernel
theorem dX0_copyFrom_24 : decode cX0_copyFrom 24 = .ok (.aload_n 1, 1) := by decide +kernel
theorem dX0_copyFrom_25 : decode cX0_copyFrom 25 = .ok (.getfield 19, 3) := by decide +kernel
theorem dX0_copyFrom_28 : decode cX0_copyFrom 28 = .ok (.aload_n 0, 1) := by decide +kernel
theorem dX0_copyFrom_29 : decode cX0_copyFrom 29 = .ok (.getfield 19, 3) := by decide +kernel
theorem dX0_copyFrom_32 : decode cX0_copyFrom 32 = .ok (.invokestatic 37, 3) := by decide +kernel
theorem dX0_copyFrom_35 : decode cX0_copyFrom 35 = .ok (.aload_n 1, 1) := by decide +kernel
theorem dX0_copyFrom_36 : decode cX0_copyFrom 36 = .ok (.getfield 22, 3) := by decide +kernel
theorem dX0_copyFrom_39 : decode cX0_copyFrom 39 = .ok (.aload_n 0, 1) := by decide +kernel
theorem dX0_copyFrom_40 : decode cX0_copyFrom 40 = .ok (.getfield 22, 3) := by decide +kernel
theorem dX0_copyFrom_43 : decode cX0_copyFrom 43 = .ok (.invokestatic 37, 3) := by decide +kernel
theorem dX0_copyFrom_46 : decode cX0_copyFrom 46 = .ok (.return_, 1) := by decide +kernel
theorem dX1_init_0 : decode cX1_init 0 = .ok (.aload_n 0, 1) := by decide +kernel
theorem dX1_init_1 : decode cX1_init 1 = .ok (.invokespecial 3, 3) := by decide +kernel
theorem dX1_init_4 : decode cX1_init 4 = .ok (.aload_n 0, 1) := by decide +kernel
theorem dX1_init_5 : decode cX1_init 5 = .ok (.iconst 0, 1) := by decide +kernel
theorem dX1_init_6 : decode cX1_init 6 = .ok (.putfield 9, 3) := by decide +kernel
theorem dX1_init_9 : decode cX1_init 9 = .ok (.aload_n 0, 1) := by decide +kernel
theorem dX1_init_10 : decode cX1_init 10 = .ok (.bipush 60, 2) := by decide +kernel
theorem dX1_init_12 : decode cX1_init 12 = .ok (.newarray .int, 2) := by decide +kernel
theorem dX1_init_14 : decode cX1_init 14 = .ok (.putfield 15, 3) := by decide +kernel
theorem dX1_init_17 : decode cX1_init 17 = .ok (.return_, 1) := by decide +kernel
theorem dX2_init_0 : decode cX2_init 0 = .ok (.aload_n 0, 1) := by decide +kernel
theorem dX2_init_1 : decode cX2_init 1 = .ok (.invokespecial 3, 3) := by decide +kernel
theorem dX2_init_4 : decode cX2_init 4 = .ok (.aload_n 0, 1) := by decide +kernel
theorem dX2_init_5 : decode cX2_init 5 = .ok (.iconst 0, 1) := by decide +kernel
theorem dX2_init_6 : decode cX2_init 6 = .ok (.putfield 9, 3) := by decide +kernel
theorem dX2_init_9 : decode cX2_init 9 = .ok (.aload_n 0, 1) := by decide +kernel
theorem dX2_init_10 : decode cX2_init 10 = .ok (.bipush 40, 2) := by decide +kernel
theorem dX2_init_12 : decode cX2_init 12 = .ok (.newarray .int, 2) := by decide +kernel
theorem dX2_init_14 : decode cX2_init 14 = .ok (.putfield 15, 3) := by decide +kernel
theorem dX2_init_17 : decode cX2_init 17 = .ok (.aload_n 0, 1) := by decide +kernel
theorem dX2_init_18 : decode cX2_init 18 = .ok (.bipush 40, 2) := by decide +kernel
theorem dX2_init_20 : decode cX2_init 20 = .ok (.newarray .int, 2) := by decide +kernel
theorem dX2_init_22 : decode cX2_init 22 = .ok (.putfield 19, 3) := by decide +kernel
theorem dX2_init_25 : decode cX2_init 25 = .ok (.aload_n 0, 1) := by decide +kernel
theorem dX2_init_26 : decode cX2_init 26 = .ok (.bipush 40, 2) := by decide +kernel
theorem dX2_init_28 : decode cX2_init 28 = .ok (.newarray .int, 2) := by decide +kernel
theorem dX2_init_30 : decode cX2_init 30 = .ok (.putfield 22, 3) := by decide +kernel
theorem dX2_init_33 : decode cX2_init 33 = .ok (.aload_n 0, 1) := by decide +kernel
theorem dX2_init_34 : decode cX2_init 34 = .ok (.bipush 40, 2) := by decide +kernel
theorem dX2_init_36 : decode cX2_init 36 = .ok (.newarray .int, 2) := by decide +kernel
theorem dX2_init_38 : decode cX2_init 38 = .ok (.putfield 25, 3) := by decide +kernel
theorem dX2_init_41 : decode cX2_init 41 = .ok (.return_, 1) := by decide +kernel
theorem dX2_keep_0 : decode cX2_keep 0 = .ok (.aload_n 0, 1) := by decide +kernel
theorem dX2_keep_1 : decode cX2_keep 1 = .ok (.getfield 9, 3) := by decide +kernel
theorem dX2_keep_4 : decode cX2_keep 4 = .ok (.bipush 40, 2) := by decide +kernel
theorem dX2_keep_6 : decode cX2_keep 6 = .ok (.if_icmp .lt 41, 3) := by decide +kernel
theorem dX2_keep_9 : decode cX2_keep 9 = .ok (.aload_n 0, 1) := by decide +kernel
theorem dX2_keep_10 : decode cX2_keep 10 = .ok (.getfield 15, 3) := by decide +kernel
theorem dX2_keep_13 : decode cX2_keep 13 = .ok (.invokestatic 28, 3) := by decide +kernel
theorem dX2_keep_16 : decode cX2_keep 16 = .ok (.aload_n 0, 1) := by decide +kernel
theorem dX2_keep_17 : decode cX2_keep 17 = .ok (.getfield 19, 3) := by decide +kernel
theorem dX2_keep_20 : decode cX2_keep 20 = .ok (.invokestatic 28, 3) := by decide +kernel
theorem dX2_keep_23 : decode cX2_keep 23 = .ok (.aload_n 0, 1) := by decide +kernel
theorem dX2_keep_24 : decode cX2_keep 24 = .ok (.getfield 22, 3) := by decide +kernel
theorem dX2_keep_27 : decode cX2_keep 27 = .ok (.invokestatic 28, 3) := by decide +kernel
theorem dX2_keep_30 : decode cX2_keep 30 = .ok (.aload_n 0, 1) := by decide +kernel
theorem dX2_keep_31 : decode cX2_keep 31 = .ok (.getfield 25, 3) := by decide +kernel
theorem dX2_keep_34 : decode cX2_keep 34 = .ok (.invokestatic 28, 3) := by decide +kernel
theorem dX2_keep_37 : decode cX2_keep 37 = .ok (.aload_n 0, 1) := by decide +kernel
theorem dX2_keep_38 : decode cX2_keep 38 = .ok (.dup, 1) := by decide +kernel
theorem dX2_keep_39 : decode cX2_keep 39 = .ok (.getfield 9, 3) := by decide +kernel
theorem dX2_keep_42 : decode cX2_keep 42 = .ok (.iconst 1, 1) := by decide +kernel
theorem dX2_keep_43 : decode cX2_keep 43 = .ok (.isub, 1) := by decide +kernel
theorem dX2_keep_44 : decode cX2_keep 44 = .ok (.putfield 9, 3) := by decide +kernel
theorem dX2_keep_47 : decode cX2_keep 47 = .ok (.aload_n 0, 1) := by decide +kernel
theorem dX2_keep_48 : decode cX2_keep 48 = .ok (.getfield 15, 3) := by decide +kernel
theorem dX2_keep_51 : decode cX2_keep 51 = .ok (.aload_n 0, 1) := by decide +kernel
theorem dX2_keep_52 : decode cX2_keep 52 = .ok (.getfield 9, 3) := by decide +kernel
theorem dX2_keep_55 : decode cX2_keep 55 = .ok (.iload_n 1, 1) := by decide +kernel
theorem dX2_keep_56 : decode cX2_keep 56 = .ok (.invokestatic 32, 3) := by decide +kernel
theorem dX2_keep_59 : decode cX2_keep 59 = .ok (.aload_n 0, 1) := by decide +kernel
theorem dX2_keep_60 : decode cX2_keep 60 = .ok (.getfield 19, 3) := by decide +kernel
theorem dX2_keep_63 : decode cX2_keep 63 = .ok (.aload_n 0, 1) := by decide +kernel
theorem dX2_keep_64 : decode cX2_keep 64 = .ok (.getfield 9, 3) := by decide +kernel
theorem dX2_keep_67 : decode cX2_keep 67 = .ok (.iload_n 2, 1) := by decide +kernel
theorem dX2_keep_68 : decode cX2_keep 68 = .ok (.invokestatic 32, 3) := by decide +kernel
theorem dX2_keep_71 : decode cX2_keep 71 = .ok (.aload_n 0, 1) := by decide +kernel
theorem dX2_keep_72 : decode cX2_keep 72 = .ok (.getfield 22, 3) := by decide +kernel
theorem dX2_keep_75 : decode cX2_keep 75 = .ok (.aload_n 0, 1) := by decide +kernel
theorem dX2_keep_76 : decode cX2_keep 76 = .ok (.getfield 9, 3) := by decide +kernel
theorem dX2_keep_79 : decode cX2_keep 79 = .ok (.iload_n 3, 1) := by decide +kernel
theorem dX2_keep_80 : decode cX2_keep 80 = .ok (.invokestatic 32, 3) := by decide +kernel
theorem dX2_keep_83 : decode cX2_keep 83 = .ok (.aload_n 0, 1) := by decide +kernel
theorem dX2_keep_84 : decode cX2_keep 84 = .ok (.getfield 25, 3) := by decide +kernel
theorem dX2_keep_87 : decode cX2_keep 87 = .ok (.aload_n 0, 1) := by decide +kernel
theorem dX2_keep_88 : decode cX2_keep 88 = .ok (.getfield 9, 3) := by decide +kernel
theorem dX2_keep_91 : decode cX2_keep 91 = .ok (.iload 4, 2) := by decide +kernel
theorem dX2_keep_93 : decode cX2_keep 93 = .ok (.invokestatic 32, 3) := by decide +kernel
theorem dX2_keep_96 : decode cX2_keep 96 = .ok (.aload_n 0, 1) := by decide +kernel
theorem dX2_keep_97 : decode cX2_keep 97 = .ok (.dup, 1) := by decide +kernel
theorem dX2_keep_98 : decode cX2_keep 98 = .ok (.getfield 9, 3) := by decide +kernel
theorem dX2_keep_101 : decode cX2_keep 101 = .ok (.iconst 1, 1) := by decide +kernel
theorem dX2_keep_102 : decode cX2_keep 102 = .ok (.iadd, 1) := by decide +kernel
theorem dX2_keep_103 : decode cX2_keep 103 = .ok (.putfield 9, 3) := by decide +kernel
theorem dX2_keep_106 : decode cX2_keep 106 = .ok (.return_, 1) := by decide +kernel
theorem dX2_countingOn_0 : decode cX2_countingOn 0 = .ok (.iconst 0, 1) := by decide +kernel
theorem dX2_countingOn_1 : decode cX2_countingOn 1 = .ok (.istore 5, 2) := by decide +kernel
theorem dX2_countingOn_3 : decode cX2_countingOn 3 = .ok (.iconst 0, 1) := by decide +kernel
theorem dX2_countingOn_4 : decode cX2_countingOn 4 = .ok (.istore 6, 2) := by decide +kernel
theorem dX2_countingOn_6 : decode cX2_countingOn 6 = .ok (.iload 6, 2) := by decide +kernel
theorem dX2_countingOn_8 : decode cX2_countingOn 8 = .ok (.aload_n 0, 1) := by decide +kernel
theorem dX2_countingOn_9 : decode cX2_countingOn 9 = .ok (.getfield 9, 3) := by decide +kernel
theorem dX2_countingOn_12 : decode cX2_countingOn 12 = .ok (.if_icmp .ge 75, 3) := by decide +kernel
theorem dX2_countingOn_15 : decode cX2_countingOn 15 = .ok (.aload_n 0, 1) := by decide +kernel
theorem dX2_countingOn_16 : decode cX2_countingOn 16 = .ok (.getfield 15, 3) := by decide +kernel
theorem dX2_countingOn_19 : decode cX2_countingOn 19 = .ok (.iload 6, 2) := by decide +kernel
theorem dX2_countingOn_21 : decode cX2_countingOn 21 = .ok (.invokestatic 36, 3) := by decide +kernel
theorem dX2_countingOn_24 : decode cX2_countingOn 24 = .ok (.iload_n 2, 1) := by decide +kernel
theorem dX2_countingOn_25 : decode cX2_countingOn 25 = .ok (.if_icmp .ne 56, 3) := by decide +kernel
theorem dX2_countingOn_28 : decode cX2_countingOn 28 = .ok (.aload_n 0, 1) := by decide +kernel
theorem dX2_countingOn_29 : decode cX2_countingOn 29 = .ok (.getfield 19, 3) := by decide +kernel
theorem dX2_countingOn_32 : decode cX2_countingOn 32 = .ok (.iload 6, 2) := by decide +kernel
theorem dX2_countingOn_34 : decode cX2_countingOn 34 = .ok (.invokestatic 36, 3) := by decide +kernel
theorem dX2_countingOn_37 : decode cX2_countingOn 37 = .ok (.iload_n 3, 1) := by decide +kernel
theorem dX2_countingOn_38 : decode cX2_countingOn 38 = .ok (.if_icmp .ne 43, 3) := by decide +kernel
theorem dX2_countingOn_41 : decode cX2_countingOn 41 = .ok (.aload_n 0, 1) := by decide +kernel
theorem dX2_countingOn_42 : decode cX2_countingOn 42 = .ok (.getfield 22, 3) := by decide +kernel
theorem dX2_countingOn_45 : decode cX2_countingOn 45 = .ok (.iload 6, 2) := by decide +kernel
theorem dX2_countingOn_47 : decode cX2_countingOn 47 = .ok (.invokestatic 36, 3) := by decide +kernel
theorem dX2_countingOn_50 : decode cX2_countingOn 50 = .ok (.iload 4, 2) := by decide +kernel
theorem dX2_countingOn_52 : decode cX2_countingOn 52 = .ok (.iconst 1, 1) := by decide +kernel
theorem dX2_countingOn_53 : decode cX2_countingOn 53 = .ok (.isub, 1) := by decide +kernel
theorem dX2_countingOn_54 : decode cX2_countingOn 54 = .ok (.if_icmp .lt 27, 3) := by decide +kernel
theorem dX2_countingOn_57 : decode cX2_countingOn 57 = .ok (.iload_n 1, 1) := by decide +kernel
theorem dX2_countingOn_58 : decode cX2_countingOn 58 = .ok (.aload_n 0, 1) := by decide +kernel
theorem dX2_countingOn_59 : decode cX2_countingOn 59 = .ok (.getfield 25, 3) := by decide +kernel
theorem dX2_countingOn_62 : decode cX2_countingOn 62 = .ok (.iload 6, 2) := by decide +kernel
theorem dX2_countingOn_64 : decode cX2_countingOn 64 = .ok (.invokestatic 36, 3) := by decide +kernel
theorem dX2_countingOn_67 : decode cX2_countingOn 67 = .ok (.getstatic 40, 3) := by decide +kernel
theorem dX2_countingOn_70 : decode cX2_countingOn 70 = .ok (.iload_n 3, 1) := by decide +kernel
theorem dX2_countingOn_71 : decode cX2_countingOn 71 = .ok (.invokestatic 36, 3) := by decide +kernel
theorem dX2_countingOn_74 : decode cX2_countingOn 74 = .ok (.iadd, 1) := by decide +kernel
theorem dX2_countingOn_75 : decode cX2_countingOn 75 = .ok (.if_icmp .ge 6, 3) := by decide +kernel
theorem dX2_countingOn_78 : decode cX2_countingOn 78 = .ok (.iinc 5 1, 3) := by decide +kernel
theorem dX2_countingOn_81 : decode cX2_countingOn 81 = .ok (.iinc 6 1, 3) := by decide +kernel
theorem dX2_countingOn_84 : decode cX2_countingOn 84 = .ok (.goto (-78), 3) := by decide +kernel
theorem dX2_countingOn_87 : decode cX2_countingOn 87 = .ok (.iload 5, 2) := by decide +kernel
theorem dX2_countingOn_89 : decode cX2_countingOn 89 = .ok (.ireturn, 1) := by decide +kernel
theorem dX2_copyFrom_0 : decode cX2_copyFrom 0 = .ok (.aload_n 1, 1) := by decide +kernel
theorem dX2_copyFrom_1 : decode cX2_copyFrom 1 = .ok (.ifnonnull 4, 3) := by decide +kernel
theorem dX2_copyFrom_4 : decode cX2_copyFrom 4 = .ok (.return_, 1) := by decide +kernel
theorem dX2_copyFrom_5 : decode cX2_copyFrom 5 = .ok (.aload_n 0, 1) := by decide +kernel
theorem dX2_copyFrom_6 : decode cX2_copyFrom 6 = .ok (.aload_n 1, 1) := by decide +kernel
theorem dX2_copyFrom_7 : decode cX2_copyFrom 7 = .ok (.getfield 9, 3) := by decide +kernel
theorem dX2_copyFrom_10 : decode cX2_copyFrom 10 = .ok (.putfield 9, 3) := by decide +kernel
theorem dX2_copyFrom_13 : decode cX2_copyFrom 13 = .ok (.aload_n 1, 1) := by decide +kernel
theorem dX2_copyFrom_14 : decode cX2_copyFrom 14 = .ok (.getfield 15, 3) := by decide +kernel
theorem dX2_copyFrom_17 : decode cX2_copyFrom 17 = .ok (.aload_n 0, 1) := by decide +kernel
theorem dX2_copyFrom_18 : decode cX2_copyFrom 18 = .ok (.getfield 15, 3) := by decide +kernel
theorem dX2_copyFrom_21 : decode cX2_copyFrom 21 = .ok (.invokestatic 43, 3) := by decide +kernel
theorem dX2_copyFrom_24 : decode cX2_copyFrom 24 = .ok (.aload_n 1, 1) := by decide +kernel
theorem dX2_copyFrom_25 : decode cX2_copyFrom 25 = .ok (.getfield 19, 3) := by decide +kernel
theorem dX2_copyFrom_28 : decode cX2_copyFrom 28 = .ok (.aload_n 0, 1) := by decide +kernel
theorem dX2_copyFrom_29 : decode cX2_copyFrom 29 = .ok (.getfield 19, 3) := by decide +kernel
theorem dX2_copyFrom_32 : decode cX2_copyFrom 32 = .ok (.invokestatic 43, 3) := by decide +kernel
theorem dX2_copyFrom_35 : decode cX2_copyFrom 35 = .ok (.aload_n 1, 1) := by decide +kernel
theorem dX2_copyFrom_36 : decode cX2_copyFrom 36 = .ok (.getfield 22, 3) := by decide +kernel
theorem dX2_copyFrom_39 : decode cX2_copyFrom 39 = .ok (.aload_n 0, 1) := by decide +kernel
theorem dX2_copyFrom_40 : decode cX2_copyFrom 40 = .ok (.getfield 22, 3) := by decide +kernel
theorem dX2_copyFrom_43 : decode cX2_copyFrom 43 = .ok (.invokestatic 43, 3) := by decide +kernel
theorem dX2_copyFrom_46 : decode cX2_copyFrom 46 = .ok (.aload_n 1, 1) := by decide +kernel
theorem dX2_copyFrom_47 : decode cX2_copyFrom 47 = .ok (.getfield 25, 3) := by decide +kernel
theorem dX2_copyFrom_50 : decode cX2_copyFrom 50 = .ok (.aload_n 0, 1) := by decide +kernel
theorem dX2_copyFrom_51 : decode cX2_copyFrom 51 = .ok (.getfield 25, 3) := by decide +kernel
theorem dX2_copyFrom_54 : decode cX2_copyFrom 54 = .ok (.invokestatic 43, 3) := by decide +kernel
theorem dX2_copyFrom_57 : decode cX2_copyFrom 57 = .ok (.return_, 1) := by decide +kernel
theorem dX3_init_0 : decode cX3_init 0 = .ok (.aload_n 0, 1) := by decide +kernel
theorem dX3_init_1 : decode cX3_init 1 = .ok (.invokespecial 3, 3) := by decide +kernel
theorem dX3_init_4 : decode cX3_init 4 = .ok (.aload_n 0, 1) := by decide +kernel
theorem dX3_init_5 : decode cX3_init 5 = .ok (.iconst 0, 1) := by decide +kernel
theorem dX3_init_6 : decode cX3_init 6 = .ok (.putfield 9, 3) := by decide +kernel
theorem dX3_init_9 : decode cX3_init 9 = .ok (.aload_n 0, 1) := by decide +kernel
theorem dX3_init_10 : decode cX3_init 10 = .ok (.bipush 6, 2) := by decide +kernel
theorem dX3_init_12 : decode cX3_init 12 = .ok (.anewarray 15, 3) := by decide +kernel
theorem dX3_init_15 : decode cX3_init 15 = .ok (.putfield 17, 3) := by decide +kernel
theorem dX3_init_18 : decode cX3_init 18 = .ok (.iconst 0, 1) := by decide +kernel
theorem dX3_init_19 : decode cX3_init 19 = .ok (.istore_n 1, 1) := by decide +kernel
theorem dX3_init_20 : decode cX3_init 20 = .ok (.iload_n 1, 1) := by decide +kernel
theorem dX3_init_21 : decode cX3_init 21 = .ok (.aload_n 0, 1) := by decide +kernel
theorem dX3_init_22 : decode cX3_init 22 = .ok (.getfield 17, 3) := by decide +kernel
theorem dX3_init_25 : decode cX3_init 25 = .ok (.arraylength, 1) := by decide +kernel
theorem dX3_init_26 : decode cX3_init 26 = .ok (.if_icmp .ge 22, 3) := by decide +kernel
theorem dX3_init_29 : decode cX3_init 29 = .ok (.aload_n 0, 1) := by decide +kernel
theorem dX3_init_30 : decode cX3_init 30 = .ok (.getfield 17, 3) := by decide +kernel
theorem dX3_init_33 : decode cX3_init 33 = .ok (.iload_n 1, 1) := by decide +kernel
theorem dX3_init_34 : decode cX3_init 34 = .ok (.new 15, 3) := by decide +kernel
theorem dX3_init_37 : decode cX3_init 37 = .ok (.dup, 1) := by decide +kernel
theorem dX3_init_38 : decode cX3_init 38 = .ok (.invokespecial 21, 3) := by decide +kernel
theorem dX3_init_41 : decode cX3_init 41 = .ok (.aastore, 1) := by decide +kernel
theorem dX3_init_42 : decode cX3_init 42 = .ok (.iinc 1 1, 3) := by decide +kernel
theorem dX3_init_45 : decode cX3_init 45 = .ok (.goto (-25), 3) := by decide +kernel
theorem dX3_init_48 : decode cX3_init 48 = .ok (.return_, 1) := by decide +kernel
theorem dX3_keep_0 : decode cX3_keep 0 = .ok (.aload_n 0, 1) := by decide +kernel
theorem dX3_keep_1 : decode cX3_keep 1 = .ok (.getfield 9, 3) := by decide +kernel
theorem dX3_keep_4 : decode cX3_keep 4 = .ok (.bipush 6, 2) := by decide +kernel
theorem dX3_keep_6 : decode cX3_keep 6 = .ok (.if_icmp .lt 7, 3) := by decide +kernel
theorem dX3_keep_9 : decode cX3_keep 9 = .ok (.aload_n 0, 1) := by decide +kernel
theorem dX3_keep_10 : decode cX3_keep 10 = .ok (.invokevirtual 22, 3) := by decide +kernel
theorem dX3_keep_13 : decode cX3_keep 13 = .ok (.aload_n 0, 1) := by decide +kernel
theorem dX3_keep_14 : decode cX3_keep 14 = .ok (.aload_n 0, 1) := by decide +kernel
theorem dX3_keep_15 : decode cX3_keep 15 = .ok (.getfield 9, 3) := by decide +kernel
theorem dX3_keep_18 : decode cX3_keep 18 = .ok (.invokevirtual 25, 3) := by decide +kernel
theorem dX3_keep_21 : decode cX3_keep 21 = .ok (.astore_n 2, 1) := by decide +kernel
theorem dX3_keep_22 : decode cX3_keep 22 = .ok (.aload_n 2, 1) := by decide +kernel
theorem dX3_keep_23 : decode cX3_keep 23 = .ok (.ifnull 18, 3) := by decide +kernel
theorem dX3_keep_26 : decode cX3_keep 26 = .ok (.aload_n 2, 1) := by decide +kernel
theorem dX3_keep_27 : decode cX3_keep 27 = .ok (.aload_n 1, 1) := by decide +kernel
theorem dX3_keep_28 : decode cX3_keep 28 = .ok (.invokevirtual 29, 3) := by decide +kernel
theorem dX3_keep_31 : decode cX3_keep 31 = .ok (.aload_n 0, 1) := by decide +kernel
theorem dX3_keep_32 : decode cX3_keep 32 = .ok (.dup, 1) := by decide +kernel
theorem dX3_keep_33 : decode cX3_keep 33 = .ok (.getfield 9, 3) := by decide +kernel
theorem dX3_keep_36 : decode cX3_keep 36 = .ok (.iconst 1, 1) := by decide +kernel
theorem dX3_keep_37 : decode cX3_keep 37 = .ok (.iadd, 1) := by decide +kernel
theorem dX3_keep_38 : decode cX3_keep 38 = .ok (.putfield 9, 3) := by decide +kernel
theorem dX3_keep_41 : decode cX3_keep 41 = .ok (.return_, 1) := by decide +kernel
theorem dX3_dropOldest_0 : decode cX3_dropOldest 0 = .ok (.aload_n 0, 1) := by decide +kernel
theorem dX3_dropOldest_1 : decode cX3_dropOldest 1 = .ok (.iconst 0, 1) := by decide +kernel
theorem dX3_dropOldest_2 : decode cX3_dropOldest 2 = .ok (.invokevirtual 25, 3) := by decide +kernel
theorem dX3_dropOldest_5 : decode cX3_dropOldest 5 = .ok (.astore_n 1, 1) := by decide +kernel
theorem dX3_dropOldest_6 : decode cX3_dropOldest 6 = .ok (.iconst 0, 1) := by decide +kernel
theorem dX3_dropOldest_7 : decode cX3_dropOldest 7 = .ok (.istore_n 2, 1) := by decide +kernel
theorem dX3_dropOldest_8 : decode cX3_dropOldest 8 = .ok (.iload_n 2, 1) := by decide +kernel
theorem dX3_dropOldest_9 : decode cX3_dropOldest 9 = .ok (.iconst 1, 1) := by decide +kernel
theorem dX3_dropOldest_10 : decode cX3_dropOldest 10 = .ok (.iadd, 1) := by decide +kernel
theorem dX3_dropOldest_11 : decode cX3_dropOldest 11 = .ok (.aload_n 0, 1) := by decide +kernel
theorem dX3_dropOldest_12 : decode cX3_dropOldest 12 = .ok (.getfield 17, 3) := by decide +kernel
theorem dX3_dropOldest_15 : decode cX3_dropOldest 15 = .ok (.arraylength, 1) := by decide +kernel
theorem dX3_dropOldest_16 : decode cX3_dropOldest 16 = .ok (.if_icmp .ge 23, 3) := by decide +kernel
theorem dX3_dropOldest_19 : decode cX3_dropOldest 19 = .ok (.aload_n 0, 1) := by decide +kernel
theorem dX3_dropOldest_20 : decode cX3_dropOldest 20 = .ok (.getfield 17, 3) := by decide +kernel
theorem dX3_dropOldest_23 : decode cX3_dropOldest 23 = .ok (.iload_n 2, 1) := by decide +kernel
theorem dX3_dropOldest_24 : decode cX3_dropOldest 24 = .ok (.aload_n 0, 1) := by decide +kernel
theorem dX3_dropOldest_25 : decode cX3_dropOldest 25 = .ok (.getfield 17, 3) := by decide +kernel
theorem dX3_dropOldest_28 : decode cX3_dropOldest 28 = .ok (.iload_n 2, 1) := by decide +kernel
theorem dX3_dropOldest_29 : decode cX3_dropOldest 29 = .ok (.iconst 1, 1) := by decide +kernel
theorem dX3_dropOldest_30 : decode cX3_dropOldest 30 = .ok (.iadd, 1) := by decide +kernel
theorem dX3_dropOldest_31 : decode cX3_dropOldest 31 = .ok (.aaload, 1) := by decide +kernel
theorem dX3_dropOldest_32 : decode cX3_dropOldest 32 = .ok (.aastore, 1) := by decide +kernel
theorem dX3_dropOldest_33 : decode cX3_dropOldest 33 = .ok (.iinc 2 1, 3) := by decide +kernel
theorem dX3_dropOldest_36 : decode cX3_dropOldest 36 = .ok (.goto (-28), 3) := by decide +kernel
theorem dX3_dropOldest_39 : decode cX3_dropOldest 39 = .ok (.aload_n 0, 1) := by decide +kernel
theorem dX3_dropOldest_40 : decode cX3_dropOldest 40 = .ok (.getfield 17, 3) := by decide +kernel
theorem dX3_dropOldest_43 : decode cX3_dropOldest 43 = .ok (.arraylength, 1) := by decide +kernel
theorem dX3_dropOldest_44 : decode cX3_dropOldest 44 = .ok (.ifCond .le 16, 3) := by decide +kernel
theorem dX3_dropOldest_47 : decode cX3_dropOldest 47 = .ok (.aload_n 0, 1) := by decide +kernel
theorem dX3_dropOldest_48 : decode cX3_dropOldest 48 = .ok (.getfield 17, 3) := by decide +kernel
theorem dX3_dropOldest_51 : decode cX3_dropOldest 51 = .ok (.aload_n 0, 1) := by decide +kernel
theorem dX3_dropOldest_52 : decode cX3_dropOldest 52 = .ok (.getfield 17, 3) := by decide +kernel
theorem dX3_dropOldest_55 : decode cX3_dropOldest 55 = .ok (.arraylength, 1) := by decide +kernel
theorem dX3_dropOldest_56 : decode cX3_dropOldest 56 = .ok (.iconst 1, 1) := by decide +kernel
theorem dX3_dropOldest_57 : decode cX3_dropOldest 57 = .ok (.isub, 1) := by decide +kernel
theorem dX3_dropOldest_58 : decode cX3_dropOldest 58 = .ok (.aload_n 1, 1) := by decide +kernel
theorem dX3_dropOldest_59 : decode cX3_dropOldest 59 = .ok (.aastore, 1) := by decide +kernel
theorem dX3_dropOldest_60 : decode cX3_dropOldest 60 = .ok (.aload_n 0, 1) := by decide +kernel
theorem dX3_dropOldest_61 : decode cX3_dropOldest 61 = .ok (.dup, 1) := by decide +kernel
theorem dX3_dropOldest_62 : decode cX3_dropOldest 62 = .ok (.getfield 9, 3) := by decide +kernel
theorem dX3_dropOldest_65 : decode cX3_dropOldest 65 = .ok (.iconst 1, 1) := by decide +kernel
theorem dX3_dropOldest_66 : decode cX3_dropOldest 66 = .ok (.isub, 1) := by decide +kernel
theorem dX3_dropOldest_67 : decode cX3_dropOldest 67 = .ok (.putfield 9, 3) := by decide +kernel
theorem dX3_dropOldest_70 : decode cX3_dropOldest 70 = .ok (.return_, 1) := by decide +kernel
theorem dX3_restoreLatest_0 : decode cX3_restoreLatest 0 = .ok (.aload_n 0, 1) := by decide +kernel
theorem dX3_restoreLatest_1 : decode cX3_restoreLatest 1 = .ok (.aload_n 0, 1) := by decide +kernel
theorem dX3_restoreLatest_2 : decode cX3_restoreLatest 2 = .ok (.getfield 9, 3) := by decide +kernel
theorem dX3_restoreLatest_5 : decode cX3_restoreLatest 5 = .ok (.iconst 1, 1) := by decide +kernel
theorem dX3_restoreLatest_6 : decode cX3_restoreLatest 6 = .ok (.isub, 1) := by decide +kernel
theorem dX3_restoreLatest_7 : decode cX3_restoreLatest 7 = .ok (.invokevirtual 25, 3) := by decide +kernel
theorem dX3_restoreLatest_10 : decode cX3_restoreLatest 10 = .ok (.astore_n 2, 1) := by decide +kernel
theorem dX3_restoreLatest_11 : decode cX3_restoreLatest 11 = .ok (.aload_n 2, 1) := by decide +kernel
theorem dX3_restoreLatest_12 : decode cX3_restoreLatest 12 = .ok (.ifnull 22, 3) := by decide +kernel
theorem dX3_restoreLatest_15 : decode cX3_restoreLatest 15 = .ok (.aload_n 1, 1) := by decide +kernel
theorem dX3_restoreLatest_16 : decode cX3_restoreLatest 16 = .ok (.ifnull 18, 3) := by decide +kernel
theorem dX3_restoreLatest_19 : decode cX3_restoreLatest 19 = .ok (.aload_n 1, 1) := by decide +kernel
theorem dX3_restoreLatest_20 : decode cX3_restoreLatest 20 = .ok (.aload_n 2, 1) := by decide +kernel
theorem dX3_restoreLatest_21 : decode cX3_restoreLatest 21 = .ok (.invokevirtual 29, 3) := by decide +kernel
theorem dX3_restoreLatest_24 : decode cX3_restoreLatest 24 = .ok (.aload_n 0, 1) := by decide +kernel
theorem dX3_restoreLatest_25 : decode cX3_restoreLatest 25 = .ok (.dup, 1) := by decide +kernel
theorem dX3_restoreLatest_26 : decode cX3_restoreLatest 26 = .ok (.getfield 9, 3) := by decide +kernel
theorem dX3_restoreLatest_29 : decode cX3_restoreLatest 29 = .ok (.iconst 1, 1) := by decide +kernel
theorem dX3_restoreLatest_30 : decode cX3_restoreLatest 30 = .ok (.isub, 1) := by decide +kernel
theorem dX3_restoreLatest_31 : decode cX3_restoreLatest 31 = .ok (.putfield 9, 3) := by decide +kernel
theorem dX3_restoreLatest_34 : decode cX3_restoreLatest 34 = .ok (.return_, 1) := by decide +kernel
theorem dX3_stateAt_0 : decode cX3_stateAt 0 = .ok (.iload_n 1, 1) := by decide +kernel
theorem dX3_stateAt_1 : decode cX3_stateAt 1 = .ok (.ifCond .lt 21, 3) := by decide +kernel
theorem dX3_stateAt_4 : decode cX3_stateAt 4 = .ok (.iload_n 1, 1) := by decide +kernel
theorem dX3_stateAt_5 : decode cX3_stateAt 5 = .ok (.aload_n 0, 1) := by decide +kernel
theorem dX3_stateAt_6 : decode cX3_stateAt 6 = .ok (.getfield 17, 3) := by decide +kernel
theorem dX3_stateAt_9 : decode cX3_stateAt 9 = .ok (.arraylength, 1) := by decide +kernel
theorem dX3_stateAt_10 : decode cX3_stateAt 10 = .ok (.if_icmp .ge 12, 3) := by decide +kernel
theorem dX3_stateAt_13 : decode cX3_stateAt 13 = .ok (.aload_n 0, 1) := by decide +kernel
theorem dX3_stateAt_14 : decode cX3_stateAt 14 = .ok (.getfield 17, 3) := by decide +kernel
theorem dX3_stateAt_17 : decode cX3_stateAt 17 = .ok (.iload_n 1, 1) := by decide +kernel
theorem dX3_stateAt_18 : decode cX3_stateAt 18 = .ok (.aaload, 1) := by decide +kernel
theorem dX3_stateAt_19 : decode cX3_stateAt 19 = .ok (.goto 4, 3) := by decide +kernel
theorem dX3_stateAt_22 : decode cX3_stateAt 22 = .ok (.aconst_null, 1) := by decide +kernel
theorem dX3_stateAt_23 : decode cX3_stateAt 23 = .ok (.areturn, 1) := by decide +kernel
theorem dX4_init_0 : decode cX4_init 0 = .ok (.aload_n 0, 1) := by decide +kernel
theorem dX4_init_1 : decode cX4_init 1 = .ok (.invokespecial 3, 3) := by decide +kernel
theorem dX4_init_4 : decode cX4_init 4 = .ok (.aload_n 0, 1) := by decide +kernel
theorem dX4_init_5 : decode cX4_init 5 = .ok (.iconst 0, 1) := by decide +kernel
theorem dX4_init_6 : decode cX4_init 6 = .ok (.putfield 9, 3) := by decide +kernel
theorem dX4_init_9 : decode cX4_init 9 = .ok (.aload_n 0, 1) := by decide +kernel
theorem dX4_init_10 : decode cX4_init 10 = .ok (.bipush 10, 2) := by decide +kernel
theorem dX4_init_12 : decode cX4_init 12 = .ok (.newarray .int, 2) := by decide +kernel
theorem dX4_init_14 : decode cX4_init 14 = .ok (.putfield 15, 3) := by decide +kernel
theorem dX4_init_17 : decode cX4_init 17 = .ok (.aload_n 0, 1) := by decide +kernel
theorem dX4_init_18 : decode cX4_init 18 = .ok (.bipush 10, 2) := by decide +kernel
theorem dX4_init_20 : decode cX4_init 20 = .ok (.newarray .int, 2) := by decide +kernel
theorem dX4_init_22 : decode cX4_init 22 = .ok (.putfield 19, 3) := by decide +kernel
theorem dX4_init_25 : decode cX4_init 25 = .ok (.aload_n 0, 1) := by decide +kernel
theorem dX4_init_26 : decode cX4_init 26 = .ok (.bipush 10, 2) := by decide +kernel
theorem dX4_init_28 : decode cX4_init 28 = .ok (.newarray .int, 2) := by decide +kernel
theorem dX4_init_30 : decode cX4_init 30 = .ok (.putfield 22, 3) := by decide +kernel
theorem dX4_init_33 : decode cX4_init 33 = .ok (.aload_n 0, 1) := by decide +kernel
theorem dX4_init_34 : decode cX4_init 34 = .ok (.bipush 10, 2) := by decide +kernel
theorem dX4_init_36 : decode cX4_init 36 = .ok (.newarray .int, 2) := by decide +kernel
theorem dX4_init_38 : decode cX4_init 38 = .ok (.putfield 25, 3) := by decide +kernel
theorem dX4_init_41 : decode cX4_init 41 = .ok (.aload_n 0, 1) := by decide +kernel
theorem dX4_init_42 : decode cX4_init 42 = .ok (.bipush 10, 2) := by decide +kernel
theorem dX4_init_44 : decode cX4_init 44 = .ok (.newarray .int, 2) := by decide +kernel
theorem dX4_init_46 : decode cX4_init 46 = .ok (.putfield 28, 3) := by decide +kernel
theorem dX4_init_49 : decode cX4_init 49 = .ok (.return_, 1) := by decide +kernel
theorem dX4_has_0 : decode cX4_has 0 = .ok (.iload_n 1, 1) := by decide +kernel
theorem dX4_has_1 : decode cX4_has 1 = .ok (.ifCond .lt 15, 3) := by decide +kernel
theorem dX4_has_4 : decode cX4_has 4 = .ok (.iload_n 1, 1) := by decide +kernel
theorem dX4_has_5 : decode cX4_has 5 = .ok (.aload_n 0, 1) := by decide +kernel
theorem dX4_has_6 : decode cX4_has 6 = .ok (.getfield 9, 3) := by decide +kernel
theorem dX4_has_9 : decode cX4_has 9 = .ok (.if_icmp .ge 7, 3) := by decide +kernel
theorem dX4_has_12 : decode cX4_has 12 = .ok (.iconst 1, 1) := by decide +kernel
theorem dX4_has_13 : decode cX4_has 13 = .ok (.goto 4, 3) := by decide +kernel
theorem dX4_has_16 : decode cX4_has 16 = .ok (.iconst 0, 1) := by decide +kernel
theorem dX4_has_17 : decode cX4_has 17 = .ok (.ireturn, 1) := by decide +kernel
theorem dX4_tell_0 : decode cX4_tell 0 = .ok (.aload_n 0, 1) := by decide +kernel
theorem dX4_tell_1 : decode cX4_tell 1 = .ok (.getfield 9, 3) := by decide +kernel
theorem dX4_tell_4 : decode cX4_tell 4 = .ok (.istore 4, 2) := by decide +kernel
theorem dX4_tell_6 : decode cX4_tell 6 = .ok (.aload_n 0, 1) := by decide +kernel
theorem dX4_tell_7 : decode cX4_tell 7 = .ok (.getfield 15, 3) := by decide +kernel
theorem dX4_tell_10 : decode cX4_tell 10 = .ok (.iload 4, 2) := by decide +kernel
theorem dX4_tell_12 : decode cX4_tell 12 = .ok (.iload_n 1, 1) := by decide +kernel
theorem dX4_tell_13 : decode cX4_tell 13 = .ok (.invokestatic 31, 3) := by decide +kernel
theorem dX4_tell_16 : decode cX4_tell 16 = .ok (.aload_n 0, 1) := by decide +kernel
theorem dX4_tell_17 : decode cX4_tell 17 = .ok (.getfield 19, 3) := by decide +kernel
theorem dX4_tell_20 : decode cX4_tell 20 = .ok (.iload 4, 2) := by decide +kernel
theorem dX4_tell_22 : decode cX4_tell 22 = .ok (.iload_n 2, 1) := by decide +kernel
theorem dX4_tell_23 : decode cX4_tell 23 = .ok (.invokestatic 31, 3) := by decide +kernel
theorem dX4_tell_26 : decode cX4_tell 26 = .ok (.aload_n 0, 1) := by decide +kernel
theorem dX4_tell_27 : decode cX4_tell 27 = .ok (.getfield 22, 3) := by decide +kernel
theorem dX4_tell_30 : decode cX4_tell 30 = .ok (.iload 4, 2) := by decide +kernel
theorem dX4_tell_32 : decode cX4_tell 32 = .ok (.iload_n 3, 1) := by decide +kernel
theorem dX4_tell_33 : decode cX4_tell 33 = .ok (.invokestatic 31, 3) := by decide +kernel
theorem dX4_tell_36 : decode cX4_tell 36 = .ok (.aload_n 0, 1) := by decide +kernel
theorem dX4_tell_37 : decode cX4_tell 37 = .ok (.getfield 25, 3) := by decide +kernel
theorem dX4_tell_40 : decode cX4_tell 40 = .ok (.iload 4, 2) := by decide +kernel
theorem dX4_tell_42 : decode cX4_tell 42 = .ok (.iconst (-1), 1) := by decide +kernel
theorem dX4_tell_43 : decode cX4_tell 43 = .ok (.invokestatic 31, 3) := by decide +kernel
theorem dX4_tell_46 : decode cX4_tell 46 = .ok (.aload_n 0, 1) := by decide +kernel
theorem dX4_tell_47 : decode cX4_tell 47 = .ok (.getfield 28, 3) := by decide +kernel
theorem dX4_tell_50 : decode cX4_tell 50 = .ok (.iload 4, 2) := by decide +kernel
theorem dX4_tell_52 : decode cX4_tell 52 = .ok (.iconst (-1), 1) := by decide +kernel
theorem dX4_tell_53 : decode cX4_tell 53 = .ok (.invokestatic 31, 3) := by decide +kernel
theorem dX4_tell_56 : decode cX4_tell 56 = .ok (.aload_n 0, 1) := by decide +kernel
theorem dX4_tell_57 : decode cX4_tell 57 = .ok (.dup, 1) := by decide +kernel
theorem dX4_tell_58 : decode cX4_tell 58 = .ok (.getfield 9, 3) := by decide +kernel
theorem dX4_tell_61 : decode cX4_tell 61 = .ok (.iconst 1, 1) := by decide +kernel
theorem dX4_tell_62 : decode cX4_tell 62 = .ok (.iadd, 1) := by decide +kernel
theorem dX4_tell_63 : decode cX4_tell 63 = .ok (.putfield 9, 3) := by decide +kernel
theorem dX4_tell_66 : decode cX4_tell 66 = .ok (.iload 4, 2) := by decide +kernel
theorem dX4_tell_68 : decode cX4_tell 68 = .ok (.ireturn, 1) := by decide +kernel
theorem dX4_noteShot_0 : decode cX4_noteShot 0 = .ok (.aload_n 0, 1) := by decide +kernel
theorem dX4_noteShot_1 : decode cX4_noteShot 1 = .ok (.getfield 25, 3) := by decide +kernel
theorem dX4_noteShot_4 : decode cX4_noteShot 4 = .ok (.iload_n 1, 1) := by decide +kernel
theorem dX4_noteShot_5 : decode cX4_noteShot 5 = .ok (.iload_n 3, 1) := by decide +kernel
theorem dX4_noteShot_6 : decode cX4_noteShot 6 = .ok (.invokestatic 31, 3) := by decide +kernel
theorem dX4_noteShot_9 : decode cX4_noteShot 9 = .ok (.aload_n 0, 1) := by decide +kernel
theorem dX4_noteShot_10 : decode cX4_noteShot 10 = .ok (.getfield 28, 3) := by decide +kernel
theorem dX4_noteShot_13 : decode cX4_noteShot 13 = .ok (.iload_n 1, 1) := by decide +kernel
theorem dX4_noteShot_14 : decode cX4_noteShot 14 = .ok (.iload_n 2, 1) := by decide +kernel
theorem dX4_noteShot_15 : decode cX4_noteShot 15 = .ok (.invokestatic 31, 3) := by decide +kernel
theorem dX4_noteShot_18 : decode cX4_noteShot 18 = .ok (.return_, 1) := by decide +kernel
theorem dX4_kindOf_0 : decode cX4_kindOf 0 = .ok (.aload_n 0, 1) := by decide +kernel
theorem dX4_kindOf_1 : decode cX4_kindOf 1 = .ok (.getfield 15, 3) := by decide +kernel
theorem dX4_kindOf_4 : decode cX4_kindOf 4 = .ok (.iload_n 1, 1) := by decide +kernel
theorem dX4_kindOf_5 : decode cX4_kindOf 5 = .ok (.invokestatic 35, 3) := by decide +kernel
theorem dX4_kindOf_8 : decode cX4_kindOf 8 = .ok (.ireturn, 1) := by decide +kernel
theorem dX4_riskOf_0 : decode cX4_riskOf 0 = .ok (.aload_n 0, 1) := by decide +kernel
theorem dX4_riskOf_1 : decode cX4_riskOf 1 = .ok (.getfield 19, 3) := by decide +kernel
theorem dX4_riskOf_4 : decode cX4_riskOf 4 = .ok (.iload_n 1, 1) := by decide +kernel
theorem dX4_riskOf_5 : decode cX4_riskOf 5 = .ok (.invokestatic 35, 3) := by decide +kernel
theorem dX4_riskOf_8 : decode cX4_riskOf 8 = .ok (.ireturn, 1) := by decide +kernel
theorem dX4_seenIn_0 : decode cX4_seenIn 0 = .ok (.aload_n 0, 1) := by decide +kernel
theorem dX4_seenIn_1 : decode cX4_seenIn 1 = .ok (.getfield 22, 3) := by decide +kernel
theorem dX4_seenIn_4 : decode cX4_seenIn 4 = .ok (.iload_n 1, 1) := by decide +kernel
theorem dX4_seenIn_5 : decode cX4_seenIn 5 = .ok (.invokestatic 35, 3) := by decide +kernel
theorem dX4_seenIn_8 : decode cX4_seenIn 8 = .ok (.ireturn, 1) := by decide +kernel
theorem dX4_dayOfShot_0 : decode cX4_dayOfShot 0 = .ok (.aload_n 0, 1) := by decide +kernel
theorem dX4_dayOfShot_1 : decode cX4_dayOfShot 1 = .ok (.getfield 25, 3) := by decide +kernel
theorem dX4_dayOfShot_4 : decode cX4_dayOfShot 4 = .ok (.iload_n 1, 1) := by decide +kernel
theorem dX4_dayOfShot_5 : decode cX4_dayOfShot 5 = .ok (.invokestatic 35, 3) := by decide +kernel
theorem dX4_dayOfShot_8 : decode cX4_dayOfShot 8 = .ok (.ireturn, 1) := by decide +kernel
theorem dX4_doerOf_0 : decode cX4_doerOf 0 = .ok (.aload_n 0, 1) := by decide +kernel
theorem dX4_doerOf_1 : decode cX4_doerOf 1 = .ok (.getfield 28, 3) := by decide +kernel
theorem dX4_doerOf_4 : decode cX4_doerOf 4 = .ok (.iload_n 1, 1) := by decide +kernel
theorem dX4_doerOf_5 : decode cX4_doerOf 5 = .ok (.invokestatic 35, 3) := by decide +kernel
theorem dX4_doerOf_8 : decode cX4_doerOf 8 = .ok (.ireturn, 1) := by decide +kernel
theorem dX4_isShot_0 : decode cX4_isShot 0 = .ok (.aload_n 0, 1) := by decide +kernel
theorem dX4_isShot_1 : decode cX4_isShot 1 = .ok (.getfield 25, 3) := by decide +kernel
theorem dX4_isShot_4 : decode cX4_isShot 4 = .ok (.iload_n 1, 1) := by decide +kernel
theorem dX4_isShot_5 : decode cX4_isShot 5 = .ok (.invokestatic 35, 3) := by decide +kernel
theorem dX4_isShot_8 : decode cX4_isShot 8 = .ok (.iconst (-1), 1) := by decide +kernel
theorem dX4_isShot_9 : decode cX4_isShot 9 = .ok (.if_icmp .eq 7, 3) := by decide +kernel
theorem dX4_isShot_12 : decode cX4_isShot 12 = .ok (.iconst 1, 1) := by decide +kernel
theorem dX4_isShot_13 : decode cX4_isShot 13 = .ok (.goto 4, 3) := by decide +kernel
theorem dX4_isShot_16 : decode cX4_isShot 16 = .ok (.iconst 0, 1) := by decide +kernel
theorem dX4_isShot_17 : decode cX4_isShot 17 = .ok (.ireturn, 1) := by decide +kernel
theorem dX4_isByDouble_0 : decode cX4_isByDouble 0 = .ok (.aload_n 0, 1) := by decide +kernel
theorem dX4_isByDouble_1 : decode cX4_isByDouble 1 = .ok (.iload_n 1, 1) := by decide +kernel
theorem dX4_isByDouble_2 : decode cX4_isByDouble 2 = .ok (.invokevirtual 39, 3) := by decide +kernel
theorem dX4_isByDouble_5 : decode cX4_isByDouble 5 = .ok (.ifCond .eq 20, 3) := by decide +kernel
theorem dX4_isByDouble_8 : decode cX4_isByDouble 8 = .ok (.aload_n 0, 1) := by decide +kernel
theorem dX4_isByDouble_9 : decode cX4_isByDouble 9 = .ok (.iload_n 1, 1) := by decide +kernel
theorem dX4_isByDouble_10 : decode cX4_isByDouble 10 = .ok (.invokevirtual 43, 3) := by decide +kernel
theorem dX4_isByDouble_13 : decode cX4_isByDouble 13 = .ok (.aload_n 0, 1) := by decide +kernel
theorem dX4_isByDouble_14 : decode cX4_isByDouble 14 = .ok (.iload_n 1, 1) := by decide +kernel
theorem dX4_isByDouble_15 : decode cX4_isByDouble 15 = .ok (.invokevirtual 47, 3) := by decide +kernel
theorem dX4_isByDouble_18 : decode cX4_isByDouble 18 = .ok (.if_icmp .eq 7, 3) := by decide +kernel
theorem dX4_isByDouble_21 : decode cX4_isByDouble 21 = .ok (.iconst 1, 1) := by decide +kernel
theorem dX4_isByDouble_22 : decode cX4_isByDouble 22 = .ok (.goto 4, 3) := by decide +kernel
theorem dX4_isByDouble_25 : decode cX4_isByDouble 25 = .ok (.iconst 0, 1) := by decide +kernel
theorem dX4_isByDouble_26 : decode cX4_isByDouble 26 = .ok (.ireturn, 1) := by decide +kernel
theorem dX4_shotOnes_0 : decode cX4_shotOnes 0 = .ok (.iconst 0, 1) := by decide +kernel
theorem dX4_shotOnes_1 : decode cX4_shotOnes 1 = .ok (.istore_n 1, 1) := by decide +kernel
theorem dX4_shotOnes_2 : decode cX4_shotOnes 2 = .ok (.iconst 0, 1) := by decide +kernel
theorem dX4_shotOnes_3 : decode cX4_shotOnes 3 = .ok (.istore_n 2, 1) := by decide +kernel
theorem dX4_shotOnes_4 : decode cX4_shotOnes 4 = .ok (.iload_n 2, 1) := by decide +kernel
theorem dX4_shotOnes_5 : decode cX4_shotOnes 5 = .ok (.aload_n 0, 1) := by decide +kernel
theorem dX4_shotOnes_6 : decode cX4_shotOnes 6 = .ok (.getfield 9, 3) := by decide +kernel
theorem dX4_shotOnes_9 : decode cX4_shotOnes 9 = .ok (.if_icmp .ge 20, 3) := by decide +kernel
theorem dX4_shotOnes_12 : decode cX4_shotOnes 12 = .ok (.aload_n 0, 1) := by decide +kernel
theorem dX4_shotOnes_13 : decode cX4_shotOnes 13 = .ok (.iload_n 2, 1) := by decide +kernel
theorem dX4_shotOnes_14 : decode cX4_shotOnes 14 = .ok (.invokevirtual 39, 3) := by decide +kernel
theorem dX4_shotOnes_17 : decode cX4_shotOnes 17 = .ok (.ifCond .eq 6, 3) := by decide +kernel
theorem dX4_shotOnes_20 : decode cX4_shotOnes 20 = .ok (.iinc 1 1, 3) := by decide +kernel
theorem dX4_shotOnes_23 : decode cX4_shotOnes 23 = .ok (.iinc 2 1, 3) := by decide +kernel
theorem dX4_shotOnes_26 : decode cX4_shotOnes 26 = .ok (.goto (-22), 3) := by decide +kernel
theorem dX4_shotOnes_29 : decode cX4_shotOnes 29 = .ok (.iload_n 1, 1) := by decide +kernel
theorem dX4_shotOnes_30 : decode cX4_shotOnes 30 = .ok (.ireturn, 1) := by decide +kernel
theorem dX4_shotByDoubles_0 : decode cX4_shotByDoubles 0 = .ok (.iconst 0, 1) := by decide +kernel
theorem dX4_shotByDoubles_1 : decode cX4_shotByDoubles 1 = .ok (.istore_n 1, 1) := by decide +kernel
theorem dX4_shotByDoubles_2 : decode cX4_shotByDoubles 2 = .ok (.iconst 0, 1) := by decide +kernel
theorem dX4_shotByDoubles_3 : decode cX4_shotByDoubles 3 = .ok (.istore_n 2, 1) := by decide +kernel
theorem dX4_shotByDoubles_4 : decode cX4_shotByDoubles 4 = .ok (.iload_n 2, 1) := by decide +kernel
theorem dX4_shotByDoubles_5 : decode cX4_shotByDoubles 5 = .ok (.aload_n 0, 1) := by decide +kernel
theorem dX4_shotByDoubles_6 : decode cX4_shotByDoubles 6 = .ok (.getfield 9, 3) := by decide +kernel
theorem dX4_shotByDoubles_9 : decode cX4_shotByDoubles 9 = .ok (.if_icmp .ge 20, 3) := by decide +kernel
theorem dX4_shotByDoubles_12 : decode cX4_shotByDoubles 12 = .ok (.aload_n 0, 1) := by decide +kernel
theorem dX4_shotByDoubles_13 : decode cX4_shotByDoubles 13 = .ok (.iload_n 2, 1) := by decide +kernel
theorem dX4_shotByDoubles_14 : decode cX4_shotByDoubles 14 = .ok (.invokevirtual 50, 3) := by decide +kernel
theorem dX4_shotByDoubles_17 : decode cX4_shotByDoubles 17 = .ok (.ifCond .eq 6, 3) := by decide +kernel
theorem dX4_shotByDoubles_20 : decode cX4_shotByDoubles 20 = .ok (.iinc 1 1, 3) := by decide +kernel
theorem dX4_shotByDoubles_23 : decode cX4_shotByDoubles 23 = .ok (.iinc 2 1, 3) := by decide +kernel
theorem dX4_shotByDoubles_26 : decode cX4_shotByDoubles 26 = .ok (.goto (-22), 3) := by decide +kernel
theorem dX4_shotByDoubles_29 : decode cX4_shotByDoubles 29 = .ok (.iload_n 1, 1) := by decide +kernel
theorem dX4_shotByDoubles_30 : decode cX4_shotByDoubles 30 = .ok (.ireturn, 1) := by decide +kernel
theorem dX4_shotBy_0 : decode cX4_shotBy 0 = .ok (.iconst 0, 1) := by decide +kernel
theorem dX4_shotBy_1 : decode cX4_shotBy 1 = .ok (.istore_n 2, 1) := by decide +kernel
theorem dX4_shotBy_2 : decode cX4_shotBy 2 = .ok (.iconst 0, 1) := by decide +kernel
theorem dX4_shotBy_3 : decode cX4_shotBy 3 = .ok (.istore_n 3, 1) := by decide +kernel
theorem dX4_shotBy_4 : decode cX4_shotBy 4 = .ok (.iload_n 3, 1) := by decide +kernel
theorem dX4_shotBy_5 : decode cX4_shotBy 5 = .ok (.aload_n 0, 1) := by decide +kernel
theorem dX4_shotBy_6 : decode cX4_shotBy 6 = .ok (.getfield 9, 3) := by decide +kernel
theorem dX4_shotBy_9 : decode cX4_shotBy 9 = .ok (.if_icmp .ge 29, 3) := by decide +kernel
theorem dX4_shotBy_12 : decode cX4_shotBy 12 = .ok (.aload_n 0, 1) := by decide +kernel
theorem dX4_shotBy_13 : decode cX4_shotBy 13 = .ok (.iload_n 3, 1) := by decide +kernel
theorem dX4_shotBy_14 : decode cX4_shotBy 14 = .ok (.invokevirtual 39, 3) := by decide +kernel
theorem dX4_shotBy_17 : decode cX4_shotBy 17 = .ok (.ifCond .eq 15, 3) := by decide +kernel
theorem dX4_shotBy_20 : decode cX4_shotBy 20 = .ok (.aload_n 0, 1) := by decide +kernel
theorem dX4_shotBy_21 : decode cX4_shotBy 21 = .ok (.iload_n 3, 1) := by decide +kernel
theorem dX4_shotBy_22 : decode cX4_shotBy 22 = .ok (.invokevirtual 43, 3) := by decide +kernel
theorem dX4_shotBy_25 : decode cX4_shotBy 25 = .ok (.iload_n 1, 1) := by decide +kernel
theorem dX4_shotBy_26 : decode cX4_shotBy 26 = .ok (.if_icmp .ne 6, 3) := by decide +kernel
theorem dX4_shotBy_29 : decode cX4_shotBy 29 = .ok (.iinc 2 1, 3) := by decide +kernel
theorem dX4_shotBy_32 : decode cX4_shotBy 32 = .ok (.iinc 3 1, 3) := by decide +kernel
theorem dX4_shotBy_35 : decode cX4_shotBy 35 = .ok (.goto (-31), 3) := by decide +kernel
theorem dX4_shotBy_38 : decode cX4_shotBy 38 = .ok (.iload_n 2, 1) := by decide +kernel
theorem dX4_shotBy_39 : decode cX4_shotBy 39 = .ok (.ireturn, 1) := by decide +kernel
theorem dX4_latestShotBy_0 : decode cX4_latestShotBy 0 = .ok (.iconst (-1), 1) := by decide +kernel
theorem dX4_latestShotBy_1 : decode cX4_latestShotBy 1 = .ok (.istore_n 2, 1) := by decide +kernel
theorem dX4_latestShotBy_2 : decode cX4_latestShotBy 2 = .ok (.iconst 0, 1) := by decide +kernel
theorem dX4_latestShotBy_3 : decode cX4_latestShotBy 3 = .ok (.istore_n 3, 1) := by decide +kernel
theorem dX4_latestShotBy_4 : decode cX4_latestShotBy 4 = .ok (.iload_n 3, 1) := by decide +kernel
theorem dX4_latestShotBy_5 : decode cX4_latestShotBy 5 = .ok (.aload_n 0, 1) := by decide +kernel
theorem dX4_latestShotBy_6 : decode cX4_latestShotBy 6 = .ok (.getfield 9, 3) := by decide +kernel
theorem dX4_latestShotBy_9 : decode cX4_latestShotBy 9 = .ok (.if_icmp .ge 42, 3) := by decide +kernel
theorem dX4_latestShotBy_12 : decode cX4_latestShotBy 12 = .ok (.aload_n 0, 1) := by decide +kernel
theorem dX4_latestShotBy_13 : decode cX4_latestShotBy 13 = .ok (.getfield 28, 3) := by decide +kernel
theorem dX4_latestShotBy_16 : decode cX4_latestShotBy 16 = .ok (.iload_n 3, 1) := by decide +kernel
theorem dX4_latestShotBy_17 : decode cX4_latestShotBy 17 = .ok (.invokestatic 35, 3) := by decide +kernel
theorem dX4_latestShotBy_20 : decode cX4_latestShotBy 20 = .ok (.iload_n 1, 1) := by decide +kernel
theorem dX4_latestShotBy_21 : decode cX4_latestShotBy 21 = .ok (.if_icmp .ne 24, 3) := by decide +kernel
theorem dX4_latestShotBy_24 : decode cX4_latestShotBy 24 = .ok (.aload_n 0, 1) := by decide +kernel
theorem dX4_latestShotBy_25 : decode cX4_latestShotBy 25 = .ok (.getfield 25, 3) := by decide +kernel
theorem dX4_latestShotBy_28 : decode cX4_latestShotBy 28 = .ok (.iload_n 3, 1) := by decide +kernel
theorem dX4_latestShotBy_29 : decode cX4_latestShotBy 29 = .ok (.invokestatic 35, 3) := by decide +kernel
theorem dX4_latestShotBy_32 : decode cX4_latestShotBy 32 = .ok (.iload_n 2, 1) := by decide +kernel
theorem dX4_latestShotBy_33 : decode cX4_latestShotBy 33 = .ok (.if_icmp .le 12, 3) := by decide +kernel
theorem dX4_latestShotBy_36 : decode cX4_latestShotBy 36 = .ok (.aload_n 0, 1) := by decide +kernel
theorem dX4_latestShotBy_37 : decode cX4_latestShotBy 37 = .ok (.getfield 25, 3) := by decide +kernel
theorem dX4_latestShotBy_40 : decode cX4_latestShotBy 40 = .ok (.iload_n 3, 1) := by decide +kernel
theorem dX4_latestShotBy_41 : decode cX4_latestShotBy 41 = .ok (.invokestatic 35, 3) := by decide +kernel
theorem dX4_latestShotBy_44 : decode cX4_latestShotBy 44 = .ok (.istore_n 2, 1) := by decide +kernel
theorem dX4_latestShotBy_45 : decode cX4_latestShotBy 45 = .ok (.iinc 3 1, 3) := by decide +kernel
theorem dX4_latestShotBy_48 : decode cX4_latestShotBy 48 = .ok (.goto (-44), 3) := by decide +kernel
theorem dX4_latestShotBy_51 : decode cX4_latestShotBy 51 = .ok (.iload_n 2, 1) := by decide +kernel
theorem dX4_latestShotBy_52 : decode cX4_latestShotBy 52 = .ok (.ireturn, 1) := by decide +kernel
theorem dX4_shareShot_0 : decode cX4_shareShot 0 = .ok (.aload_n 0, 1) := by decide +kernel
theorem dX4_shareShot_1 : decode cX4_shareShot 1 = .ok (.getfield 9, 3) := by decide +kernel
theorem dX4_shareShot_4 : decode cX4_shareShot 4 = .ok (.ifCond .ne 7, 3) := by decide +kernel
theorem dX4_shareShot_7 : decode cX4_shareShot 7 = .ok (.dconst 1, 1) := by decide +kernel
theorem dX4_shareShot_8 : decode cX4_shareShot 8 = .ok (.goto 14, 3) := by decide +kernel
theorem dX4_shareShot_11 : decode cX4_shareShot 11 = .ok (.aload_n 0, 1) := by decide +kernel
theorem dX4_shareShot_12 : decode cX4_shareShot 12 = .ok (.invokevirtual 53, 3) := by decide +kernel
theorem dX4_shareShot_15 : decode cX4_shareShot 15 = .ok (.i2d, 1) := by decide +kernel
theorem dX4_shareShot_16 : decode cX4_shareShot 16 = .ok (.aload_n 0, 1) := by decide +kernel
theorem dX4_shareShot_17 : decode cX4_shareShot 17 = .ok (.getfield 9, 3) := by decide +kernel
theorem dX4_shareShot_20 : decode cX4_shareShot 20 = .ok (.i2d, 1) := by decide +kernel
theorem dX4_shareShot_21 : decode cX4_shareShot 21 = .ok (.ddiv, 1) := by decide +kernel
theorem dX4_shareShot_22 : decode cX4_shareShot 22 = .ok (.dreturn, 1) := by decide +kernel
theorem dX4_copyFrom_0 : decode cX4_copyFrom 0 = .ok (.aload_n 1, 1) := by decide +kernel
theorem dX4_copyFrom_1 : decode cX4_copyFrom 1 = .ok (.ifnonnull 4, 3) := by decide +kernel
theorem dX4_copyFrom_4 : decode cX4_copyFrom 4 = .ok (.return_, 1) := by decide +kernel
theorem dX4_copyFrom_5 : decode cX4_copyFrom 5 = .ok (.aload_n 0, 1) := by decide +kernel
theorem dX4_copyFrom_6 : decode cX4_copyFrom 6 = .ok (.aload_n 1, 1) := by decide +kernel
theorem dX4_copyFrom_7 : decode cX4_copyFrom 7 = .ok (.getfield 9, 3) := by decide +kernel
theorem dX4_copyFrom_10 : decode cX4_copyFrom 10 = .ok (.putfield 9, 3) := by decide +kernel
theorem dX4_copyFrom_13 : decode cX4_copyFrom 13 = .ok (.aload_n 1, 1) := by decide +kernel
theorem dX4_copyFrom_14 : decode cX4_copyFrom 14 = .ok (.getfield 15, 3) := by decide +kernel
theorem dX4_copyFrom_17 : decode cX4_copyFrom 17 = .ok (.aload_n 0, 1) := by decide +kernel
theorem dX4_copyFrom_18 : decode cX4_copyFrom 18 = .ok (.getfield 15, 3) := by decide +kernel
theorem dX4_copyFrom_21 : decode cX4_copyFrom 21 = .ok (.invokestatic 57, 3) := by decide +kernel
theorem dX4_copyFrom_24 : decode cX4_copyFrom 24 = .ok (.aload_n 1, 1) := by decide +kernel
theorem dX4_copyFrom_25 : decode cX4_copyFrom 25 = .ok (.getfield 19, 3) := by decide +kernel
theorem dX4_copyFrom_28 : decode cX4_copyFrom 28 = .ok (.aload_n 0, 1) := by decide +kernel
theorem dX4_copyFrom_29 : decode cX4_copyFrom 29 = .ok (.getfield 19, 3) := by decide +kernel
theorem dX4_copyFrom_32 : decode cX4_copyFrom 32 = .ok (.invokestatic 57, 3) := by decide +kernel
theorem dX4_copyFrom_35 : decode cX4_copyFrom 35 = .ok (.aload_n 1, 1) := by decide +kernel
theorem dX4_copyFrom_36 : decode cX4_copyFrom 36 = .ok (.getfield 22, 3) := by decide +kernel
theorem dX4_copyFrom_39 : decode cX4_copyFrom 39 = .ok (.aload_n 0, 1) := by decide +kernel
theorem dX4_copyFrom_40 : decode cX4_copyFrom 40 = .ok (.getfield 22, 3) := by decide +kernel
theorem dX4_copyFrom_43 : decode cX4_copyFrom 43 = .ok (.invokestatic 57, 3) := by decide +kernel
theorem dX4_copyFrom_46 : decode cX4_copyFrom 46 = .ok (.aload_n 1, 1) := by decide +kernel
theorem dX4_copyFrom_47 : decode cX4_copyFrom 47 = .ok (.getfield 25, 3) := by decide +kernel
theorem dX4_copyFrom_50 : decode cX4_copyFrom 50 = .ok (.aload_n 0, 1) := by decide +kernel
theorem dX4_copyFrom_51 : decode cX4_copyFrom 51 = .ok (.getfield 25, 3) := by decide +kernel
theorem dX4_copyFrom_54 : decode cX4_copyFrom 54 = .ok (.invokestatic 57, 3) := by decide +kernel
theorem dX4_copyFrom_57 : decode cX4_copyFrom 57 = .ok (.aload_n 1, 1) := by decide +kernel
theorem dX4_copyFrom_58 : decode cX4_copyFrom 58 = .ok (.getfield 28, 3) := by decide +kernel
theorem dX4_copyFrom_61 : decode cX4_copyFrom 61 = .ok (.aload_n 0, 1) := by decide +kernel
theorem dX4_copyFrom_62 : decode cX4_copyFrom 62 = .ok (.getfield 28, 3) := by decide +kernel
theorem dX4_copyFrom_65 : decode cX4_copyFrom 65 = .ok (.invokestatic 57, 3) := by decide +kernel
theorem dX4_copyFrom_68 : decode cX4_copyFrom 68 = .ok (.return_, 1) := by decide +kernel
theorem dX5_init_0 : decode cX5_init 0 = .ok (.aload_n 0, 1) := by decide +kernel
theorem dX5_init_1 : decode cX5_init 1 = .ok (.invokespecial 3, 3) := by decide +kernel
theorem dX5_init_4 : decode cX5_init 4 = .ok (.aload_n 0, 1) := by decide +kernel
theorem dX5_init_5 : decode cX5_init 5 = .ok (.iconst 0, 1) := by decide +kernel
theorem dX5_init_6 : decode cX5_init 6 = .ok (.putfield 9, 3) := by decide +kernel
theorem dX5_init_9 : decode cX5_init 9 = .ok (.aload_n 0, 1) := by decide +kernel
theorem dX5_init_10 : decode cX5_init 10 = .ok (.sipush 2000, 3) := by decide +kernel
theorem dX5_init_13 : decode cX5_init 13 = .ok (.putfield 15, 3) := by decide +kernel
theorem dX5_init_16 : decode cX5_init 16 = .ok (.aload_n 0, 1) := by decide +kernel
theorem dX5_init_17 : decode cX5_init 17 = .ok (.iconst 0, 1) := by decide +kernel
theorem dX5_init_18 : decode cX5_init 18 = .ok (.putfield 18, 3) := by decide +kernel
theorem dX5_init_21 : decode cX5_init 21 = .ok (.aload_n 0, 1) := by decide +kernel
theorem dX5_init_22 : decode cX5_init 22 = .ok (.iconst (-1), 1) := by decide +kernel
theorem dX5_init_23 : decode cX5_init 23 = .ok (.putfield 21, 3) := by decide +kernel
theorem dX5_init_26 : decode cX5_init 26 = .ok (.aload_n 0, 1) := by decide +kernel
theorem dX5_init_27 : decode cX5_init 27 = .ok (.iconst 0, 1) := by decide +kernel
theorem dX5_init_28 : decode cX5_init 28 = .ok (.putfield 24, 3) := by decide +kernel
theorem dX5_init_31 : decode cX5_init 31 = .ok (.aload_n 0, 1) := by decide +kernel
theorem dX5_init_32 : decode cX5_init 32 = .ok (.iconst 0, 1) := by decide +kernel
theorem dX5_init_33 : decode cX5_init 33 = .ok (.putfield 27, 3) := by decide +kernel
theorem dX5_init_36 : decode cX5_init 36 = .ok (.aload_n 0, 1) := by decide +kernel
theorem dX5_init_37 : decode cX5_init 37 = .ok (.bipush 8, 2) := by decide +kernel
theorem dX5_init_39 : decode cX5_init 39 = .ok (.newarray .int, 2) := by decide +kernel
theorem dX5_init_41 : decode cX5_init 41 = .ok (.putfield 30, 3) := by decide +kernel
theorem dX5_init_44 : decode cX5_init 44 = .ok (.aload_n 0, 1) := by decide +kernel
theorem dX5_init_45 : decode cX5_init 45 = .ok (.bipush 8, 2) := by decide +kernel
theorem dX5_init_47 : decode cX5_init 47 = .ok (.newarray .int, 2) := by decide +kernel
theorem dX5_init_49 : decode cX5_init 49 = .ok (.putfield 34, 3) := by decide +kernel
theorem dX5_init_52 : decode cX5_init 52 = .ok (.aload_n 0, 1) := by decide +kernel
theorem dX5_init_53 : decode cX5_init 53 = .ok (.new 37, 3) := by decide +kernel
theorem dX5_init_56 : decode cX5_init 56 = .ok (.dup, 1) := by decide +kernel
theorem dX5_init_57 : decode cX5_init 57 = .ok (.invokespecial 39, 3) := by decide +kernel
theorem dX5_init_60 : decode cX5_init 60 = .ok (.putfield 40, 3) := by decide +kernel
theorem dX5_init_63 : decode cX5_init 63 = .ok (.aload_n 0, 1) := by decide +kernel
theorem dX5_init_64 : decode cX5_init 64 = .ok (.new 44, 3) := by decide +kernel
theorem dX5_init_67 : decode cX5_init 67 = .ok (.dup, 1) := by decide +kernel
theorem dX5_init_68 : decode cX5_init 68 = .ok (.invokespecial 46, 3) := by decide +kernel
theorem dX5_init_71 : decode cX5_init 71 = .ok (.putfield 47, 3) := by decide +kernel
theorem dX5_init_74 : decode cX5_init 74 = .ok (.aload_n 0, 1) := by decide +kernel
theorem dX5_init_75 : decode cX5_init 75 = .ok (.new 51, 3) := by decide +kernel
theorem dX5_init_78 : decode cX5_init 78 = .ok (.dup, 1) := by decide +kernel
theorem dX5_init_79 : decode cX5_init 79 = .ok (.invokespecial 53, 3) := by decide +kernel
theorem dX5_init_82 : decode cX5_init 82 = .ok (.putfield 54, 3) := by decide +kernel
theorem dX5_init_85 : decode cX5_init 85 = .ok (.iconst 0, 1) := by decide +kernel
theorem dX5_init_86 : decode cX5_init 86 = .ok (.istore_n 1, 1) := by decide +kernel
theorem dX5_init_87 : decode cX5_init 87 = .ok (.iload_n 1, 1) := by decide +kernel
theorem dX5_init_88 : decode cX5_init 88 = .ok (.aload_n 0, 1) := by decide +kernel
theorem dX5_init_89 : decode cX5_init 89 = .ok (.getfield 30, 3) := by decide +kernel
theorem dX5_init_92 : decode cX5_init 92 = .ok (.arraylength, 1) := by decide +kernel
theorem dX5_init_93 : decode cX5_init 93 = .ok (.if_icmp .ge 18, 3) := by decide +kernel
theorem dX5_init_96 : decode cX5_init 96 = .ok (.aload_n 0, 1) := by decide +kernel
theorem dX5_init_97 : decode cX5_init 97 = .ok (.getfield 30, 3) := by decide +kernel
theorem dX5_init_100 : decode cX5_init 100 = .ok (.iload_n 1, 1) := by decide +kernel
theorem dX5_init_101 : decode cX5_init 101 = .ok (.sipush 170, 3) := by decide +kernel
theorem dX5_init_104 : decode cX5_init 104 = .ok (.iastore, 1) := by decide +kernel
theorem dX5_init_105 : decode cX5_init 105 = .ok (.iinc 1 1, 3) := by decide +kernel
theorem dX5_init_108 : decode cX5_init 108 = .ok (.goto (-21), 3) := by decide +kernel
theorem dX5_init_111 : decode cX5_init 111 = .ok (.return_, 1) := by decide +kernel
theorem dX5_copyFrom_0 : decode cX5_copyFrom 0 = .ok (.aload_n 1, 1) := by decide +kernel
theorem dX5_copyFrom_1 : decode cX5_copyFrom 1 = .ok (.ifnonnull 4, 3) := by decide +kernel
theorem dX5_copyFrom_4 : decode cX5_copyFrom 4 = .ok (.return_, 1) := by decide +kernel
theorem dX5_copyFrom_5 : decode cX5_copyFrom 5 = .ok (.aload_n 0, 1) := by decide +kernel
theorem dX5_copyFrom_6 : decode cX5_copyFrom 6 = .ok (.aload_n 1, 1) := by decide +kernel
theorem dX5_copyFrom_7 : decode cX5_copyFrom 7 = .ok (.getfield 9, 3) := by decide +kernel
theorem dX5_copyFrom_10 : decode cX5_copyFrom 10 = .ok (.putfield 9, 3) := by decide +kernel
theorem dX5_copyFrom_13 : decode cX5_copyFrom 13 = .ok (.aload_n 0, 1) := by decide +kernel
theorem dX5_copyFrom_14 : decode cX5_copyFrom 14 = .ok (.aload_n 1, 1) := by decide +kernel
theorem dX5_copyFrom_15 : decode cX5_copyFrom 15 = .ok (.getfield 15, 3) := by decide +kernel
theorem dX5_copyFrom_18 : decode cX5_copyFrom 18 = .ok (.putfield 15, 3) := by decide +kernel
theorem dX5_copyFrom_21 : decode cX5_copyFrom 21 = .ok (.aload_n 0, 1) := by decide +kernel
theorem dX5_copyFrom_22 : decode cX5_copyFrom 22 = .ok (.aload_n 1, 1) := by decide +kernel
theorem dX5_copyFrom_23 : decode cX5_copyFrom 23 = .ok (.getfield 18, 3) := by decide +kernel
theorem dX5_copyFrom_26 : decode cX5_copyFrom 26 = .ok (.putfield 18, 3) := by decide +kernel
theorem dX5_copyFrom_29 : decode cX5_copyFrom 29 = .ok (.aload_n 0, 1) := by decide +kernel
theorem dX5_copyFrom_30 : decode cX5_copyFrom 30 = .ok (.aload_n 1, 1) := by decide +kernel
theorem dX5_copyFrom_31 : decode cX5_copyFrom 31 = .ok (.getfield 21, 3) := by decide +kernel
theorem dX5_copyFrom_34 : decode cX5_copyFrom 34 = .ok (.putfield 21, 3) := by decide +kernel
theorem dX5_copyFrom_37 : decode cX5_copyFrom 37 = .ok (.aload_n 0, 1) := by decide +kernel
theorem dX5_copyFrom_38 : decode cX5_copyFrom 38 = .ok (.aload_n 1, 1) := by decide +kernel
theorem dX5_copyFrom_39 : decode cX5_copyFrom 39 = .ok (.getfield 24, 3) := by decide +kernel
theorem dX5_copyFrom_42 : decode cX5_copyFrom 42 = .ok (.putfield 24, 3) := by decide +kernel
theorem dX5_copyFrom_45 : decode cX5_copyFrom 45 = .ok (.aload_n 0, 1) := by decide +kernel
theorem dX5_copyFrom_46 : decode cX5_copyFrom 46 = .ok (.aload_n 1, 1) := by decide +kernel
theorem dX5_copyFrom_47 : decode cX5_copyFrom 47 = .ok (.getfield 27, 3) := by decide +kernel
theorem dX5_copyFrom_50 : decode cX5_copyFrom 50 = .ok (.putfield 27, 3) := by decide +kernel
theorem dX5_copyFrom_53 : decode cX5_copyFrom 53 = .ok (.aload_n 1, 1) := by decide +kernel
theorem dX5_copyFrom_54 : decode cX5_copyFrom 54 = .ok (.getfield 30, 3) := by decide +kernel
theorem dX5_copyFrom_57 : decode cX5_copyFrom 57 = .ok (.aload_n 0, 1) := by decide +kernel
theorem dX5_copyFrom_58 : decode cX5_copyFrom 58 = .ok (.getfield 30, 3) := by decide +kernel
theorem dX5_copyFrom_61 : decode cX5_copyFrom 61 = .ok (.invokestatic 58, 3) := by decide +kernel
theorem dX5_copyFrom_64 : decode cX5_copyFrom 64 = .ok (.aload_n 1, 1) := by decide +kernel
theorem dX5_copyFrom_65 : decode cX5_copyFrom 65 = .ok (.getfield 34, 3) := by decide +kernel
theorem dX5_copyFrom_68 : decode cX5_copyFrom 68 = .ok (.aload_n 0, 1) := by decide +kernel
theorem dX5_copyFrom_69 : decode cX5_copyFrom 69 = .ok (.getfield 34, 3) := by decide +kernel
theorem dX5_copyFrom_72 : decode cX5_copyFrom 72 = .ok (.invokestatic 58, 3) := by decide +kernel
theorem dX5_copyFrom_75 : decode cX5_copyFrom 75 = .ok (.aload_n 0, 1) := by decide +kernel
theorem dX5_copyFrom_76 : decode cX5_copyFrom 76 = .ok (.getfield 40, 3) := by decide +kernel
theorem dX5_copyFrom_79 : decode cX5_copyFrom 79 = .ok (.aload_n 1, 1) := by decide +kernel
theorem dX5_copyFrom_80 : decode cX5_copyFrom 80 = .ok (.getfield 40, 3) := by decide +kernel
theorem dX5_copyFrom_83 : decode cX5_copyFrom 83 = .ok (.invokevirtual 62, 3) := by decide +kernel
theorem dX5_copyFrom_86 : decode cX5_copyFrom 86 = .ok (.aload_n 0, 1) := by decide +kernel
theorem dX5_copyFrom_87 : decode cX5_copyFrom 87 = .ok (.getfield 47, 3) := by decide +kernel
theorem dX5_copyFrom_90 : decode cX5_copyFrom 90 = .ok (.aload_n 1, 1) := by decide +kernel
theorem dX5_copyFrom_91 : decode cX5_copyFrom 91 = .ok (.getfield 47, 3) := by decide +kernel
theorem dX5_copyFrom_94 : decode cX5_copyFrom 94 = .ok (.invokevirtual 66, 3) := by decide +kernel
theorem dX5_copyFrom_97 : decode cX5_copyFrom 97 = .ok (.aload_n 0, 1) := by decide +kernel
theorem dX5_copyFrom_98 : decode cX5_copyFrom 98 = .ok (.getfield 54, 3) := by decide +kernel
theorem dX5_copyFrom_101 : decode cX5_copyFrom 101 = .ok (.aload_n 1, 1) := by decide +kernel
theorem dX5_copyFrom_102 : decode cX5_copyFrom 102 = .ok (.getfield 54, 3) := by decide +kernel
theorem dX5_copyFrom_105 : decode cX5_copyFrom 105 = .ok (.invokevirtual 69, 3) := by decide +kernel
theorem dX5_copyFrom_108 : decode cX5_copyFrom 108 = .ok (.return_, 1) := by decide +kernel
theorem dX5_changeSize_0 : decode cX5_changeSize 0 = .ok (.aload_n 0, 1) := by decide +kernel
theorem dX5_changeSize_1 : decode cX5_changeSize 1 = .ok (.getfield 30, 3) := by decide +kernel
theorem dX5_changeSize_4 : decode cX5_changeSize 4 = .ok (.iload_n 1, 1) := by decide +kernel
theorem dX5_changeSize_5 : decode cX5_changeSize 5 = .ok (.invokestatic 72, 3) := by decide +kernel
theorem dX5_changeSize_8 : decode cX5_changeSize 8 = .ok (.istore_n 3, 1) := by decide +kernel
theorem dX5_changeSize_9 : decode cX5_changeSize 9 = .ok (.aload_n 0, 1) := by decide +kernel
theorem dX5_changeSize_10 : decode cX5_changeSize 10 = .ok (.getfield 30, 3) := by decide +kernel
theorem dX5_changeSize_13 : decode cX5_changeSize 13 = .ok (.iload_n 1, 1) := by decide +kernel
theorem dX5_changeSize_14 : decode cX5_changeSize 14 = .ok (.iload_n 2, 1) := by decide +kernel
theorem dX5_changeSize_15 : decode cX5_changeSize 15 = .ok (.invokestatic 76, 3) := by decide +kernel
theorem dX5_changeSize_18 : decode cX5_changeSize 18 = .ok (.iload_n 3, 1) := by decide +kernel
theorem dX5_changeSize_19 : decode cX5_changeSize 19 = .ok (.ireturn, 1) := by decide +kernel
theorem dX5_canPass_0 : decode cX5_canPass 0 = .ok (.aload_n 0, 1) := by decide +kernel
theorem dX5_canPass_1 : decode cX5_canPass 1 = .ok (.getfield 9, 3) := by decide +kernel
theorem dX5_canPass_4 : decode cX5_canPass 4 = .ok (.iload_n 1, 1) := by decide +kernel
theorem dX5_canPass_5 : decode cX5_canPass 5 = .ok (.iadd, 1) := by decide +kernel
theorem dX5_canPass_6 : decode cX5_canPass 6 = .ok (.sipush 999, 3) := by decide +kernel
theorem dX5_canPass_9 : decode cX5_canPass 9 = .ok (.if_icmp .gt 7, 3) := by decide +kernel
theorem dX5_canPass_12 : decode cX5_canPass 12 = .ok (.iconst 1, 1) := by decide +kernel
theorem dX5_canPass_13 : decode cX5_canPass 13 = .ok (.goto 4, 3) := by decide +kernel
theorem dX5_canPass_16 : decode cX5_canPass 16 = .ok (.iconst 0, 1) := by decide +kernel
theorem dX5_canPass_17 : decode cX5_canPass 17 = .ok (.ireturn, 1) := by decide +kernel
theorem dX5_letPass_0 : decode cX5_letPass 0 = .ok (.aload_n 0, 1) := by decide +kernel
theorem dX5_letPass_1 : decode cX5_letPass 1 = .ok (.dup, 1) := by decide +kernel
theorem dX5_letPass_2 : decode cX5_letPass 2 = .ok (.getfield 9, 3) := by decide +kernel
theorem dX5_letPass_5 : decode cX5_letPass 5 = .ok (.iload_n 1, 1) := by decide +kernel
theorem dX5_letPass_6 : decode cX5_letPass 6 = .ok (.iadd, 1) := by decide +kernel
theorem dX5_letPass_7 : decode cX5_letPass 7 = .ok (.putfield 9, 3) := by decide +kernel
theorem dX5_letPass_10 : decode cX5_letPass 10 = .ok (.iconst 0, 1) := by decide +kernel
theorem dX5_letPass_11 : decode cX5_letPass 11 = .ok (.istore_n 2, 1) := by decide +kernel
theorem dX5_letPass_12 : decode cX5_letPass 12 = .ok (.iload_n 2, 1) := by decide +kernel
theorem dX5_letPass_13 : decode cX5_letPass 13 = .ok (.bipush 8, 2) := by decide +kernel
theorem dX5_letPass_15 : decode cX5_letPass 15 = .ok (.if_icmp .ge 18, 3) := by decide +kernel
theorem dX5_letPass_18 : decode cX5_letPass 18 = .ok (.aload_n 0, 1) := by decide +kernel
theorem dX5_letPass_19 : decode cX5_letPass 19 = .ok (.getfield 34, 3) := by decide +kernel
theorem dX5_letPass_22 : decode cX5_letPass 22 = .ok (.iload_n 2, 1) := by decide +kernel
theorem dX5_letPass_23 : decode cX5_letPass 23 = .ok (.iconst 0, 1) := by decide +kernel
theorem dX5_letPass_24 : decode cX5_letPass 24 = .ok (.invokestatic 76, 3) := by decide +kernel
theorem dX5_letPass_27 : decode cX5_letPass 27 = .ok (.iinc 2 1, 3) := by decide +kernel
theorem dX5_letPass_30 : decode cX5_letPass 30 = .ok (.goto (-18), 3) := by decide +kernel
theorem dX5_letPass_33 : decode cX5_letPass 33 = .ok (.return_, 1) := by decide +kernel
theorem dX5_canRehearse_0 : decode cX5_canRehearse 0 = .ok (.aload_n 0, 1) := by decide +kernel
theorem dX5_canRehearse_1 : decode cX5_canRehearse 1 = .ok (.getfield 47, 3) := by decide +kernel
theorem dX5_canRehearse_4 : decode cX5_canRehearse 4 = .ok (.aload_n 0, 1) := by decide +kernel
theorem dX5_canRehearse_5 : decode cX5_canRehearse 5 = .ok (.getfield 9, 3) := by decide +kernel
theorem dX5_canRehearse_8 : decode cX5_canRehearse 8 = .ok (.iload_n 1, 1) := by decide +kernel
theorem dX5_canRehearse_9 : decode cX5_canRehearse 9 = .ok (.invokevirtual 80, 3) := by decide +kernel
theorem dX5_canRehearse_12 : decode cX5_canRehearse 12 = .ok (.iload_n 2, 1) := by decide +kernel
theorem dX5_canRehearse_13 : decode cX5_canRehearse 13 = .ok (.invokestatic 84, 3) := by decide +kernel
theorem dX5_canRehearse_16 : decode cX5_canRehearse 16 = .ok (.ifCond .ne 7, 3) := by decide +kernel
theorem dX5_canRehearse_19 : decode cX5_canRehearse 19 = .ok (.iconst 1, 1) := by decide +kernel
theorem dX5_canRehearse_20 : decode cX5_canRehearse 20 = .ok (.goto 4, 3) := by decide +kernel
theorem dX5_canRehearse_23 : decode cX5_canRehearse 23 = .ok (.iconst 0, 1) := by decide +kernel
theorem dX5_canRehearse_24 : decode cX5_canRehearse 24 = .ok (.ireturn, 1) := by decide +kernel
theorem dX5_letRehearse_0 : decode cX5_letRehearse 0 = .ok (.aload_n 0, 1) := by decide +kernel
theorem dX5_letRehearse_1 : decode cX5_letRehearse 1 = .ok (.dup, 1) := by decide +kernel
theorem dX5_letRehearse_2 : decode cX5_letRehearse 2 = .ok (.getfield 27, 3) := by decide +kernel
theorem dX5_letRehearse_5 : decode cX5_letRehearse 5 = .ok (.iconst 1, 1) := by decide +kernel
theorem dX5_letRehearse_6 : decode cX5_letRehearse 6 = .ok (.iadd, 1) := by decide +kernel
theorem dX5_letRehearse_7 : decode cX5_letRehearse 7 = .ok (.putfield 27, 3) := by decide +kernel
theorem dX5_letRehearse_10 : decode cX5_letRehearse 10 = .ok (.aload_n 0, 1) := by decide +kernel
theorem dX5_letRehearse_11 : decode cX5_letRehearse 11 = .ok (.getfield 34, 3) := by decide +kernel
theorem dX5_letRehearse_14 : decode cX5_letRehearse 14 = .ok (.iload_n 1, 1) := by decide +kernel
theorem dX5_letRehearse_15 : decode cX5_letRehearse 15 = .ok (.invokestatic 72, 3) := by decide +kernel
theorem dX5_letRehearse_18 : decode cX5_letRehearse 18 = .ok (.iconst 1, 1) := by decide +kernel
theorem dX5_letRehearse_19 : decode cX5_letRehearse 19 = .ok (.iadd, 1) := by decide +kernel
theorem dX5_letRehearse_20 : decode cX5_letRehearse 20 = .ok (.istore 4, 2) := by decide +kernel
theorem dX5_letRehearse_22 : decode cX5_letRehearse 22 = .ok (.aload_n 0, 1) := by decide +kernel
theorem dX5_letRehearse_23 : decode cX5_letRehearse 23 = .ok (.getfield 34, 3) := by decide +kernel
theorem dX5_letRehearse_26 : decode cX5_letRehearse 26 = .ok (.iload_n 1, 1) := by decide +kernel
theorem dX5_letRehearse_27 : decode cX5_letRehearse 27 = .ok (.iload 4, 2) := by decide +kernel
theorem dX5_letRehearse_29 : decode cX5_letRehearse 29 = .ok (.invokestatic 76, 3) := by decide +kernel
theorem dX5_letRehearse_32 : decode cX5_letRehearse 32 = .ok (.iload 4, 2) := by decide +kernel
theorem dX5_letRehearse_34 : decode cX5_letRehearse 34 = .ok (.iconst 3, 1) := by decide +kernel
theorem dX5_letRehearse_35 : decode cX5_letRehearse 35 = .ok (.if_icmp .le 20, 3) := by decide +kernel
theorem dX5_letRehearse_38 : decode cX5_letRehearse 38 = .ok (.aload_n 0, 1) := by decide +kernel
theorem dX5_letRehearse_39 : decode cX5_letRehearse 39 = .ok (.iload_n 1, 1) := by decide +kernel
theorem dX5_letRehearse_40 : decode cX5_letRehearse 40 = .ok (.getstatic 88, 3) := by decide +kernel
theorem dX5_letRehearse_43 : decode cX5_letRehearse 43 = .ok (.iload_n 2, 1) := by decide +kernel
theorem dX5_letRehearse_44 : decode cX5_letRehearse 44 = .ok (.invokestatic 72, 3) := by decide +kernel
theorem dX5_letRehearse_47 : decode cX5_letRehearse 47 = .ok (.iconst 2, 1) := by decide +kernel
theorem dX5_letRehearse_48 : decode cX5_letRehearse 48 = .ok (.iload_n 3, 1) := by decide +kernel
theorem dX5_letRehearse_49 : decode cX5_letRehearse 49 = .ok (.imul, 1) := by decide +kernel
theorem dX5_letRehearse_50 : decode cX5_letRehearse 50 = .ok (.invokevirtual 91, 3) := by decide +kernel
theorem dX5_letRehearse_53 : decode cX5_letRehearse 53 = .ok (.iconst 0, 1) := by decide +kernel
theorem dX5_letRehearse_54 : decode cX5_letRehearse 54 = .ok (.ireturn, 1) := by decide +kernel
theorem dX5_letRehearse_55 : decode cX5_letRehearse 55 = .ok (.aload_n 0, 1) := by decide +kernel
theorem dX5_letRehearse_56 : decode cX5_letRehearse 56 = .ok (.getfield 40, 3) := by decide +kernel
theorem dX5_letRehearse_59 : decode cX5_letRehearse 59 = .ok (.iload_n 1, 1) := by decide +kernel
theorem dX5_letRehearse_60 : decode cX5_letRehearse 60 = .ok (.iload_n 2, 1) := by decide +kernel
theorem dX5_letRehearse_61 : decode cX5_letRehearse 61 = .ok (.iload_n 3, 1) := by decide +kernel
theorem dX5_letRehearse_62 : decode cX5_letRehearse 62 = .ok (.aload_n 0, 1) := by decide +kernel
theorem dX5_letRehearse_63 : decode cX5_letRehearse 63 = .ok (.getfield 9, 3) := by decide +kernel
theorem dX5_letRehearse_66 : decode cX5_letRehearse 66 = .ok (.invokevirtual 95, 3) := by decide +kernel
theorem dX5_letRehearse_69 : decode cX5_letRehearse 69 = .ok (.iconst 1, 1) := by decide +kernel
theorem dX5_letRehearse_70 : decode cX5_letRehearse 70 = .ok (.ireturn, 1) := by decide +kernel
theorem dX5_noteInjury_0 : decode cX5_noteInjury 0 = .ok (.aload_n 0, 1) := by decide +kernel
theorem dX5_noteInjury_1 : decode cX5_noteInjury 1 = .ok (.dup, 1) := by decide +kernel
theorem dX5_noteInjury_2 : decode cX5_noteInjury 2 = .ok (.getfield 24, 3) := by decide +kernel
theorem dX5_noteInjury_5 : decode cX5_noteInjury 5 = .ok (.iconst 1, 1) := by decide +kernel
theorem dX5_noteInjury_6 : decode cX5_noteInjury 6 = .ok (.iadd, 1) := by decide +kernel
theorem dX5_noteInjury_7 : decode cX5_noteInjury 7 = .ok (.putfield 24, 3) := by decide +kernel
theorem dX5_noteInjury_10 : decode cX5_noteInjury 10 = .ok (.aload_n 0, 1) := by decide +kernel
theorem dX5_noteInjury_11 : decode cX5_noteInjury 11 = .ok (.getfield 47, 3) := by decide +kernel
theorem dX5_noteInjury_14 : decode cX5_noteInjury 14 = .ok (.iload_n 1, 1) := by decide +kernel
theorem dX5_noteInjury_15 : decode cX5_noteInjury 15 = .ok (.iload_n 2, 1) := by decide +kernel
theorem dX5_noteInjury_16 : decode cX5_noteInjury 16 = .ok (.aload_n 0, 1) := by decide +kernel
theorem dX5_noteInjury_17 : decode cX5_noteInjury 17 = .ok (.getfield 9, 3) := by decide +kernel
theorem dX5_noteInjury_20 : decode cX5_noteInjury 20 = .ok (.iload_n 3, 1) := by decide +kernel
theorem dX5_noteInjury_21 : decode cX5_noteInjury 21 = .ok (.iadd, 1) := by decide +kernel
theorem dX5_noteInjury_22 : decode cX5_noteInjury 22 = .ok (.iconst 1, 1) := by decide +kernel
theorem dX5_noteInjury_23 : decode cX5_noteInjury 23 = .ok (.isub, 1) := by decide +kernel
theorem dX5_noteInjury_24 : decode cX5_noteInjury 24 = .ok (.invokevirtual 99, 3) := by decide +kernel
theorem dX5_noteInjury_27 : decode cX5_noteInjury 27 = .ok (.return_, 1) := by decide +kernel
theorem dX5_scenesBarredFor_0 : decode cX5_scenesBarredFor 0 = .ok (.aload_n 0, 1) := by decide +kernel
theorem dX5_scenesBarredFor_1 : decode cX5_scenesBarredFor 1 = .ok (.getfield 47, 3) := by decide +kernel
theorem dX5_scenesBarredFor_4 : decode cX5_scenesBarredFor 4 = .ok (.aload_n 0, 1) := by decide +kernel
theorem dX5_scenesBarredFor_5 : decode cX5_scenesBarredFor 5 = .ok (.getfield 9, 3) := by decide +kernel
theorem dX5_scenesBarredFor_8 : decode cX5_scenesBarredFor 8 = .ok (.iload_n 1, 1) := by decide +kernel
theorem dX5_scenesBarredFor_9 : decode cX5_scenesBarredFor 9 = .ok (.invokevirtual 80, 3) := by decide +kernel
theorem dX5_scenesBarredFor_12 : decode cX5_scenesBarredFor 12 = .ok (.istore_n 2, 1) := by decide +kernel
theorem dX5_scenesBarredFor_13 : decode cX5_scenesBarredFor 13 = .ok (.iconst 0, 1) := by decide +kernel
theorem dX5_scenesBarredFor_14 : decode cX5_scenesBarredFor 14 = .ok (.istore_n 3, 1) := by decide +kernel
theorem dX5_scenesBarredFor_15 : decode cX5_scenesBarredFor 15 = .ok (.iconst 0, 1) := by decide +kernel
theorem dX5_scenesBarredFor_16 : decode cX5_scenesBarredFor 16 = .ok (.istore 4, 2) := by decide +kernel
theorem dX5_scenesBarredFor_18 : decode cX5_scenesBarredFor 18 = .ok (.iload 4, 2) := by decide +kernel
theorem dX5_scenesBarredFor_20 : decode cX5_scenesBarredFor 20 = .ok (.aload_n 0, 1) := by decide +kernel
theorem dX5_scenesBarredFor_21 : decode cX5_scenesBarredFor 21 = .ok (.getfield 54, 3) := by decide +kernel
theorem dX5_scenesBarredFor_24 : decode cX5_scenesBarredFor 24 = .ok (.getfield 101, 3) := by decide +kernel
theorem dX5_scenesBarredFor_27 : decode cX5_scenesBarredFor 27 = .ok (.if_icmp .ge 40, 3) := by decide +kernel
theorem dX5_scenesBarredFor_30 : decode cX5_scenesBarredFor 30 = .ok (.aload_n 0, 1) := by decide +kernel
theorem dX5_scenesBarredFor_31 : decode cX5_scenesBarredFor 31 = .ok (.getfield 54, 3) := by decide +kernel
theorem dX5_scenesBarredFor_34 : decode cX5_scenesBarredFor 34 = .ok (.iload 4, 2) := by decide +kernel
theorem dX5_scenesBarredFor_36 : decode cX5_scenesBarredFor 36 = .ok (.invokevirtual 104, 3) := by decide +kernel
theorem dX5_scenesBarredFor_39 : decode cX5_scenesBarredFor 39 = .ok (.ifCond .ne 22, 3) := by decide +kernel
theorem dX5_scenesBarredFor_42 : decode cX5_scenesBarredFor 42 = .ok (.iload_n 2, 1) := by decide +kernel
theorem dX5_scenesBarredFor_43 : decode cX5_scenesBarredFor 43 = .ok (.aload_n 0, 1) := by decide +kernel
theorem dX5_scenesBarredFor_44 : decode cX5_scenesBarredFor 44 = .ok (.getfield 54, 3) := by decide +kernel
theorem dX5_scenesBarredFor_47 : decode cX5_scenesBarredFor 47 = .ok (.iload 4, 2) := by decide +kernel
theorem dX5_scenesBarredFor_49 : decode cX5_scenesBarredFor 49 = .ok (.invokevirtual 108, 3) := by decide +kernel
theorem dX5_scenesBarredFor_52 : decode cX5_scenesBarredFor 52 = .ok (.invokestatic 84, 3) := by decide +kernel
theorem dX5_scenesBarredFor_55 : decode cX5_scenesBarredFor 55 = .ok (.ifCond .eq 6, 3) := by decide +kernel
theorem dX5_scenesBarredFor_58 : decode cX5_scenesBarredFor 58 = .ok (.iinc 3 1, 3) := by decide +kernel
theorem dX5_scenesBarredFor_61 : decode cX5_scenesBarredFor 61 = .ok (.iinc 4 1, 3) := by decide +kernel
theorem dX5_scenesBarredFor_64 : decode cX5_scenesBarredFor 64 = .ok (.goto (-46), 3) := by decide +kernel
theorem dX5_scenesBarredFor_67 : decode cX5_scenesBarredFor 67 = .ok (.iload_n 3, 1) := by decide +kernel
theorem dX5_scenesBarredFor_68 : decode cX5_scenesBarredFor 68 = .ok (.ireturn, 1) := by decide +kernel
theorem dX5_costOf_0 : decode cX5_costOf 0 = .ok (.iload_n 2, 1) := by decide +kernel
theorem dX5_costOf_1 : decode cX5_costOf 1 = .ok (.iload_n 1, 1) := by decide +kernel
theorem dX5_costOf_2 : decode cX5_costOf 2 = .ok (.imul, 1) := by decide +kernel
theorem dX5_costOf_3 : decode cX5_costOf 3 = .ok (.iload_n 1, 1) := by decide +kernel
theorem dX5_costOf_4 : decode cX5_costOf 4 = .ok (.imul, 1) := by decide +kernel
theorem dX5_costOf_5 : decode cX5_costOf 5 = .ok (.istore_n 3, 1) := by decide +kernel
theorem dX5_costOf_6 : decode cX5_costOf 6 = .ok (.iload_n 3, 1) := by decide +kernel
theorem dX5_costOf_7 : decode cX5_costOf 7 = .ok (.iload_n 3, 1) := by decide +kernel
theorem dX5_costOf_8 : decode cX5_costOf 8 = .ok (.aload_n 0, 1) := by decide +kernel
theorem dX5_costOf_9 : decode cX5_costOf 9 = .ok (.getfield 24, 3) := by decide +kernel
theorem dX5_costOf_12 : decode cX5_costOf 12 = .ok (.imul, 1) := by decide +kernel
theorem dX5_costOf_13 : decode cX5_costOf 13 = .ok (.bipush 10, 2) := by decide +kernel
theorem dX5_costOf_15 : decode cX5_costOf 15 = .ok (.idiv, 1) := by decide +kernel
theorem dX5_costOf_16 : decode cX5_costOf 16 = .ok (.iadd, 1) := by decide +kernel
theorem dX5_costOf_17 : decode cX5_costOf 17 = .ok (.ireturn, 1) := by decide +kernel
theorem dX5_buyInsurance_0 : decode cX5_buyInsurance 0 = .ok (.aload_n 0, 1) := by decide +kernel
theorem dX5_buyInsurance_1 : decode cX5_buyInsurance 1 = .ok (.dup, 1) := by decide +kernel
theorem dX5_buyInsurance_2 : decode cX5_buyInsurance 2 = .ok (.getfield 15, 3) := by decide +kernel
theorem dX5_buyInsurance_5 : decode cX5_buyInsurance 5 = .ok (.aload_n 0, 1) := by decide +kernel
theorem dX5_buyInsurance_6 : decode cX5_buyInsurance 6 = .ok (.iload_n 1, 1) := by decide +kernel
theorem dX5_buyInsurance_7 : decode cX5_buyInsurance 7 = .ok (.iload_n 2, 1) := by decide +kernel
theorem dX5_buyInsurance_8 : decode cX5_buyInsurance 8 = .ok (.invokevirtual 112, 3) := by decide +kernel
theorem dX5_buyInsurance_11 : decode cX5_buyInsurance 11 = .ok (.isub, 1) := by decide +kernel
theorem dX5_buyInsurance_12 : decode cX5_buyInsurance 12 = .ok (.putfield 15, 3) := by decide +kernel
theorem dX5_buyInsurance_15 : decode cX5_buyInsurance 15 = .ok (.aload_n 0, 1) := by decide +kernel
theorem dX5_buyInsurance_16 : decode cX5_buyInsurance 16 = .ok (.iload_n 1, 1) := by decide +kernel
theorem dX5_buyInsurance_17 : decode cX5_buyInsurance 17 = .ok (.putfield 18, 3) := by decide +kernel
theorem dX5_buyInsurance_20 : decode cX5_buyInsurance 20 = .ok (.aload_n 0, 1) := by decide +kernel
theorem dX5_buyInsurance_21 : decode cX5_buyInsurance 21 = .ok (.aload_n 0, 1) := by decide +kernel
theorem dX5_buyInsurance_22 : decode cX5_buyInsurance 22 = .ok (.getfield 9, 3) := by decide +kernel
theorem dX5_buyInsurance_25 : decode cX5_buyInsurance 25 = .ok (.iload_n 2, 1) := by decide +kernel
theorem dX5_buyInsurance_26 : decode cX5_buyInsurance 26 = .ok (.iadd, 1) := by decide +kernel
theorem dX5_buyInsurance_27 : decode cX5_buyInsurance 27 = .ok (.iconst 1, 1) := by decide +kernel
theorem dX5_buyInsurance_28 : decode cX5_buyInsurance 28 = .ok (.isub, 1) := by decide +kernel
theorem dX5_buyInsurance_29 : decode cX5_buyInsurance 29 = .ok (.putfield 21, 3) := by decide +kernel
theorem dX5_buyInsurance_32 : decode cX5_buyInsurance 32 = .ok (.return_, 1) := by decide +kernel
theorem dX5_stepOn_0 : decode cX5_stepOn 0 = .ok (.iload_n 1, 1) := by decide +kernel
theorem dX5_stepOn_1 : decode cX5_stepOn 1 = .ok (.aload_n 0, 1) := by decide +kernel
theorem dX5_stepOn_2 : decode cX5_stepOn 2 = .ok (.getfield 21, 3) := by decide +kernel
theorem dX5_stepOn_5 : decode cX5_stepOn 5 = .ok (.if_icmp .gt 10, 3) := by decide +kernel
theorem dX5_stepOn_8 : decode cX5_stepOn 8 = .ok (.aload_n 0, 1) := by decide +kernel
theorem dX5_stepOn_9 : decode cX5_stepOn 9 = .ok (.getfield 18, 3) := by decide +kernel
theorem dX5_stepOn_12 : decode cX5_stepOn 12 = .ok (.goto 4, 3) := by decide +kernel
theorem dX5_stepOn_15 : decode cX5_stepOn 15 = .ok (.iconst 0, 1) := by decide +kernel
theorem dX5_stepOn_16 : decode cX5_stepOn 16 = .ok (.ireturn, 1) := by decide +kernel
theorem dX5_lastInsuredDay_0 : decode cX5_lastInsuredDay 0 = .ok (.aload_n 0, 1) := by decide +kernel
theorem dX5_lastInsuredDay_1 : decode cX5_lastInsuredDay 1 = .ok (.getfield 9, 3) := by decide +kernel
theorem dX5_lastInsuredDay_4 : decode cX5_lastInsuredDay 4 = .ok (.aload_n 0, 1) := by decide +kernel
theorem dX5_lastInsuredDay_5 : decode cX5_lastInsuredDay 5 = .ok (.getfield 21, 3) := by decide +kernel
theorem dX5_lastInsuredDay_8 : decode cX5_lastInsuredDay 8 = .ok (.if_icmp .gt 10, 3) := by decide +kernel
theorem dX5_lastInsuredDay_11 : decode cX5_lastInsuredDay 11 = .ok (.aload_n 0, 1) := by decide +kernel
theorem dX5_lastInsuredDay_12 : decode cX5_lastInsuredDay 12 = .ok (.getfield 21, 3) := by decide +kernel
theorem dX5_lastInsuredDay_15 : decode cX5_lastInsuredDay 15 = .ok (.goto 4, 3) := by decide +kernel
theorem dX5_lastInsuredDay_18 : decode cX5_lastInsuredDay 18 = .ok (.iconst (-1), 1) := by decide +kernel
theorem dX5_lastInsuredDay_19 : decode cX5_lastInsuredDay 19 = .ok (.ireturn, 1) := by decide +kernel
theorem dX5_canShoot_0 : decode cX5_canShoot 0 = .ok (.aload_n 0, 1) := by decide +kernel
theorem dX5_canShoot_1 : decode cX5_canShoot 1 = .ok (.aload_n 0, 1) := by decide +kernel
theorem dX5_canShoot_2 : decode cX5_canShoot 2 = .ok (.getfield 9, 3) := by decide +kernel
theorem dX5_canShoot_5 : decode cX5_canShoot 5 = .ok (.iload_n 1, 1) := by decide +kernel
theorem dX5_canShoot_6 : decode cX5_canShoot 6 = .ok (.iload_n 2, 1) := by decide +kernel
theorem dX5_canShoot_7 : decode cX5_canShoot 7 = .ok (.invokevirtual 115, 3) := by decide +kernel
theorem dX5_canShoot_10 : decode cX5_canShoot 10 = .ok (.ifCond .ne 7, 3) := by decide +kernel
theorem dX5_canShoot_13 : decode cX5_canShoot 13 = .ok (.iconst 1, 1) := by decide +kernel
theorem dX5_canShoot_14 : decode cX5_canShoot 14 = .ok (.goto 4, 3) := by decide +kernel
theorem dX5_canShoot_17 : decode cX5_canShoot 17 = .ok (.iconst 0, 1) := by decide +kernel
theorem dX5_canShoot_18 : decode cX5_canShoot 18 = .ok (.ireturn, 1) := by decide +kernel
theorem dX5_letShoot_0 : decode cX5_letShoot 0 = .ok (.aload_n 0, 1) := by decide +kernel
theorem dX5_letShoot_1 : decode cX5_letShoot 1 = .ok (.getfield 54, 3) := by decide +kernel
theorem dX5_letShoot_4 : decode cX5_letShoot 4 = .ok (.iload_n 1, 1) := by decide +kernel
theorem dX5_letShoot_5 : decode cX5_letShoot 5 = .ok (.iload_n 2, 1) := by decide +kernel
theorem dX5_letShoot_6 : decode cX5_letShoot 6 = .ok (.aload_n 0, 1) := by decide +kernel
theorem dX5_letShoot_7 : decode cX5_letShoot 7 = .ok (.getfield 9, 3) := by decide +kernel
theorem dX5_letShoot_10 : decode cX5_letShoot 10 = .ok (.invokevirtual 119, 3) := by decide +kernel
theorem dX5_letShoot_13 : decode cX5_letShoot 13 = .ok (.return_, 1) := by decide +kernel
theorem dX5_reasonOn_0 : decode cX5_reasonOn 0 = .ok (.aload_n 0, 1) := by decide +kernel
theorem dX5_reasonOn_1 : decode cX5_reasonOn 1 = .ok (.getfield 54, 3) := by decide +kernel
theorem dX5_reasonOn_4 : decode cX5_reasonOn 4 = .ok (.iload_n 2, 1) := by decide +kernel
theorem dX5_reasonOn_5 : decode cX5_reasonOn 5 = .ok (.invokevirtual 108, 3) := by decide +kernel
theorem dX5_reasonOn_8 : decode cX5_reasonOn 8 = .ok (.istore 4, 2) := by decide +kernel
theorem dX5_reasonOn_10 : decode cX5_reasonOn 10 = .ok (.aload_n 0, 1) := by decide +kernel
theorem dX5_reasonOn_11 : decode cX5_reasonOn 11 = .ok (.getfield 54, 3) := by decide +kernel
theorem dX5_reasonOn_14 : decode cX5_reasonOn 14 = .ok (.iload_n 2, 1) := by decide +kernel
theorem dX5_reasonOn_15 : decode cX5_reasonOn 15 = .ok (.invokevirtual 122, 3) := by decide +kernel
theorem dX5_reasonOn_18 : decode cX5_reasonOn 18 = .ok (.istore 5, 2) := by decide +kernel
theorem dX5_reasonOn_20 : decode cX5_reasonOn 20 = .ok (.aload_n 0, 1) := by decide +kernel
theorem dX5_reasonOn_21 : decode cX5_reasonOn 21 = .ok (.getfield 54, 3) := by decide +kernel
theorem dX5_reasonOn_24 : decode cX5_reasonOn 24 = .ok (.iload_n 2, 1) := by decide +kernel
theorem dX5_reasonOn_25 : decode cX5_reasonOn 25 = .ok (.invokevirtual 104, 3) := by decide +kernel
theorem dX5_reasonOn_28 : decode cX5_reasonOn 28 = .ok (.ifCond .eq 5, 3) := by decide +kernel
theorem dX5_reasonOn_31 : decode cX5_reasonOn 31 = .ok (.iconst 1, 1) := by decide +kernel
theorem dX5_reasonOn_32 : decode cX5_reasonOn 32 = .ok (.ireturn, 1) := by decide +kernel
theorem dX5_reasonOn_33 : decode cX5_reasonOn 33 = .ok (.aload_n 0, 1) := by decide +kernel
theorem dX5_reasonOn_34 : decode cX5_reasonOn 34 = .ok (.iload_n 3, 1) := by decide +kernel
theorem dX5_reasonOn_35 : decode cX5_reasonOn 35 = .ok (.aload_n 0, 1) := by decide +kernel
theorem dX5_reasonOn_36 : decode cX5_reasonOn 36 = .ok (.getfield 54, 3) := by decide +kernel
theorem dX5_reasonOn_39 : decode cX5_reasonOn 39 = .ok (.iload_n 2, 1) := by decide +kernel
theorem dX5_reasonOn_40 : decode cX5_reasonOn 40 = .ok (.invokevirtual 125, 3) := by decide +kernel
theorem dX5_reasonOn_43 : decode cX5_reasonOn 43 = .ok (.invokevirtual 128, 3) := by decide +kernel
theorem dX5_reasonOn_46 : decode cX5_reasonOn 46 = .ok (.ifCond .ne 5, 3) := by decide +kernel
theorem dX5_reasonOn_49 : decode cX5_reasonOn 49 = .ok (.iconst 2, 1) := by decide +kernel
theorem dX5_reasonOn_50 : decode cX5_reasonOn 50 = .ok (.ireturn, 1) := by decide +kernel
theorem dX5_reasonOn_51 : decode cX5_reasonOn 51 = .ok (.aload_n 0, 1) := by decide +kernel
theorem dX5_reasonOn_52 : decode cX5_reasonOn 52 = .ok (.iload_n 1, 1) := by decide +kernel
theorem dX5_reasonOn_53 : decode cX5_reasonOn 53 = .ok (.invokevirtual 131, 3) := by decide +kernel
theorem dX5_reasonOn_56 : decode cX5_reasonOn 56 = .ok (.iload 5, 2) := by decide +kernel
theorem dX5_reasonOn_58 : decode cX5_reasonOn 58 = .ok (.if_icmp .ge 5, 3) := by decide +kernel
theorem dX5_reasonOn_61 : decode cX5_reasonOn 61 = .ok (.iconst 3, 1) := by decide +kernel
theorem dX5_reasonOn_62 : decode cX5_reasonOn 62 = .ok (.ireturn, 1) := by decide +kernel
theorem dX5_reasonOn_63 : decode cX5_reasonOn 63 = .ok (.aload_n 0, 1) := by decide +kernel
theorem dX5_reasonOn_64 : decode cX5_reasonOn 64 = .ok (.getfield 47, 3) := by decide +kernel
theorem dX5_reasonOn_67 : decode cX5_reasonOn 67 = .ok (.iload_n 1, 1) := by decide +kernel
theorem dX5_reasonOn_68 : decode cX5_reasonOn 68 = .ok (.iload_n 3, 1) := by decide +kernel
theorem dX5_reasonOn_69 : decode cX5_reasonOn 69 = .ok (.invokevirtual 80, 3) := by decide +kernel
theorem dX5_reasonOn_72 : decode cX5_reasonOn 72 = .ok (.iload 4, 2) := by decide +kernel
theorem dX5_reasonOn_74 : decode cX5_reasonOn 74 = .ok (.invokestatic 84, 3) := by decide +kernel
theorem dX5_reasonOn_77 : decode cX5_reasonOn 77 = .ok (.ifCond .eq 5, 3) := by decide +kernel
theorem dX5_reasonOn_80 : decode cX5_reasonOn 80 = .ok (.iconst 4, 1) := by decide +kernel
theorem dX5_reasonOn_81 : decode cX5_reasonOn 81 = .ok (.ireturn, 1) := by decide +kernel
theorem dX5_reasonOn_82 : decode cX5_reasonOn 82 = .ok (.aload_n 0, 1) := by decide +kernel
theorem dX5_reasonOn_83 : decode cX5_reasonOn 83 = .ok (.getfield 54, 3) := by decide +kernel
theorem dX5_reasonOn_86 : decode cX5_reasonOn 86 = .ok (.iload_n 3, 1) := by decide +kernel
theorem dX5_reasonOn_87 : decode cX5_reasonOn 87 = .ok (.invokevirtual 134, 3) := by decide +kernel
theorem dX5_reasonOn_90 : decode cX5_reasonOn 90 = .ok (.istore 6, 2) := by decide +kernel
theorem dX5_reasonOn_92 : decode cX5_reasonOn 92 = .ok (.iload 6, 2) := by decide +kernel
theorem dX5_reasonOn_94 : decode cX5_reasonOn 94 = .ok (.iconst (-1), 1) := by decide +kernel
theorem dX5_reasonOn_95 : decode cX5_reasonOn 95 = .ok (.if_icmp .eq 13, 3) := by decide +kernel
theorem dX5_reasonOn_98 : decode cX5_reasonOn 98 = .ok (.iload_n 1, 1) := by decide +kernel
theorem dX5_reasonOn_99 : decode cX5_reasonOn 99 = .ok (.iload 6, 2) := by decide +kernel
theorem dX5_reasonOn_101 : decode cX5_reasonOn 101 = .ok (.iconst 1, 1) := by decide +kernel
theorem dX5_reasonOn_102 : decode cX5_reasonOn 102 = .ok (.iadd, 1) := by decide +kernel
theorem dX5_reasonOn_103 : decode cX5_reasonOn 103 = .ok (.if_icmp .gt 5, 3) := by decide +kernel
theorem dX5_reasonOn_106 : decode cX5_reasonOn 106 = .ok (.iconst 5, 1) := by decide +kernel
theorem dX5_reasonOn_107 : decode cX5_reasonOn 107 = .ok (.ireturn, 1) := by decide +kernel
theorem dX5_reasonOn_108 : decode cX5_reasonOn 108 = .ok (.aload_n 0, 1) := by decide +kernel
theorem dX5_reasonOn_109 : decode cX5_reasonOn 109 = .ok (.getfield 40, 3) := by decide +kernel
theorem dX5_reasonOn_112 : decode cX5_reasonOn 112 = .ok (.iload_n 1, 1) := by decide +kernel
theorem dX5_reasonOn_113 : decode cX5_reasonOn 113 = .ok (.iload_n 3, 1) := by decide +kernel
theorem dX5_reasonOn_114 : decode cX5_reasonOn 114 = .ok (.iload 4, 2) := by decide +kernel
theorem dX5_reasonOn_116 : decode cX5_reasonOn 116 = .ok (.iload 5, 2) := by decide +kernel
theorem dX5_reasonOn_118 : decode cX5_reasonOn 118 = .ok (.invokevirtual 137, 3) := by decide +kernel
theorem dX5_reasonOn_121 : decode cX5_reasonOn 121 = .ok (.istore 7, 2) := by decide +kernel
theorem dX5_reasonOn_123 : decode cX5_reasonOn 123 = .ok (.iload 7, 2) := by decide +kernel
theorem dX5_reasonOn_125 : decode cX5_reasonOn 125 = .ok (.iload 4, 2) := by decide +kernel
theorem dX5_reasonOn_127 : decode cX5_reasonOn 127 = .ok (.iload 5, 2) := by decide +kernel
theorem dX5_reasonOn_129 : decode cX5_reasonOn 129 = .ok (.invokestatic 141, 3) := by decide +kernel
theorem dX5_reasonOn_132 : decode cX5_reasonOn 132 = .ok (.if_icmp .ge 8, 3) := by decide +kernel
theorem dX5_reasonOn_135 : decode cX5_reasonOn 135 = .ok (.bipush 6, 2) := by decide +kernel
theorem dX5_reasonOn_137 : decode cX5_reasonOn 137 = .ok (.goto 4, 3) := by decide +kernel
theorem dX5_reasonOn_140 : decode cX5_reasonOn 140 = .ok (.iconst 0, 1) := by decide +kernel
theorem dX5_reasonOn_141 : decode cX5_reasonOn 141 = .ok (.ireturn, 1) := by decide +kernel
theorem dX5_lookAlike_0 : decode cX5_lookAlike 0 = .ok (.aload_n 0, 1) := by decide +kernel
theorem dX5_lookAlike_1 : decode cX5_lookAlike 1 = .ok (.getfield 30, 3) := by decide +kernel
theorem dX5_lookAlike_4 : decode cX5_lookAlike 4 = .ok (.iload_n 1, 1) := by decide +kernel
theorem dX5_lookAlike_5 : decode cX5_lookAlike 5 = .ok (.invokestatic 72, 3) := by decide +kernel
theorem dX5_lookAlike_8 : decode cX5_lookAlike 8 = .ok (.aload_n 0, 1) := by decide +kernel
theorem dX5_lookAlike_9 : decode cX5_lookAlike 9 = .ok (.getfield 30, 3) := by decide +kernel
theorem dX5_lookAlike_12 : decode cX5_lookAlike 12 = .ok (.iload_n 2, 1) := by decide +kernel
theorem dX5_lookAlike_13 : decode cX5_lookAlike 13 = .ok (.invokestatic 72, 3) := by decide +kernel
theorem dX5_lookAlike_16 : decode cX5_lookAlike 16 = .ok (.isub, 1) := by decide +kernel
theorem dX5_lookAlike_17 : decode cX5_lookAlike 17 = .ok (.istore_n 3, 1) := by decide +kernel
theorem dX5_lookAlike_18 : decode cX5_lookAlike 18 = .ok (.iload_n 3, 1) := by decide +kernel
theorem dX5_lookAlike_19 : decode cX5_lookAlike 19 = .ok (.bipush (-5), 2) := by decide +kernel
theorem dX5_lookAlike_21 : decode cX5_lookAlike 21 = .ok (.if_icmp .lt 12, 3) := by decide +kernel
theorem dX5_lookAlike_24 : decode cX5_lookAlike 24 = .ok (.iload_n 3, 1) := by decide +kernel
theorem dX5_lookAlike_25 : decode cX5_lookAlike 25 = .ok (.iconst 5, 1) := by decide +kernel
theorem dX5_lookAlike_26 : decode cX5_lookAlike 26 = .ok (.if_icmp .gt 7, 3) := by decide +kernel
theorem dX5_lookAlike_29 : decode cX5_lookAlike 29 = .ok (.iconst 1, 1) := by decide +kernel
theorem dX5_lookAlike_30 : decode cX5_lookAlike 30 = .ok (.goto 4, 3) := by decide +kernel
theorem dX5_lookAlike_33 : decode cX5_lookAlike 33 = .ok (.iconst 0, 1) := by decide +kernel
theorem dX5_lookAlike_34 : decode cX5_lookAlike 34 = .ok (.ireturn, 1) := by decide +kernel
theorem dX5_clearedToday_0 : decode cX5_clearedToday 0 = .ok (.iconst 0, 1) := by decide +kernel
theorem dX5_clearedToday_1 : decode cX5_clearedToday 1 = .ok (.istore_n 2, 1) := by decide +kernel
theorem dX5_clearedToday_2 : decode cX5_clearedToday 2 = .ok (.iconst 0, 1) := by decide +kernel
theorem dX5_clearedToday_3 : decode cX5_clearedToday 3 = .ok (.istore_n 3, 1) := by decide +kernel
theorem dX5_clearedToday_4 : decode cX5_clearedToday 4 = .ok (.iload_n 3, 1) := by decide +kernel
theorem dX5_clearedToday_5 : decode cX5_clearedToday 5 = .ok (.bipush 8, 2) := by decide +kernel
theorem dX5_clearedToday_7 : decode cX5_clearedToday 7 = .ok (.if_icmp .ge 28, 3) := by decide +kernel
theorem dX5_clearedToday_10 : decode cX5_clearedToday 10 = .ok (.aload_n 0, 1) := by decide +kernel
theorem dX5_clearedToday_11 : decode cX5_clearedToday 11 = .ok (.aload_n 0, 1) := by decide +kernel
theorem dX5_clearedToday_12 : decode cX5_clearedToday 12 = .ok (.getfield 9, 3) := by decide +kernel
theorem dX5_clearedToday_15 : decode cX5_clearedToday 15 = .ok (.iload_n 1, 1) := by decide +kernel
theorem dX5_clearedToday_16 : decode cX5_clearedToday 16 = .ok (.iload_n 3, 1) := by decide +kernel
theorem dX5_clearedToday_17 : decode cX5_clearedToday 17 = .ok (.invokevirtual 115, 3) := by decide +kernel
theorem dX5_clearedToday_20 : decode cX5_clearedToday 20 = .ok (.ifCond .ne 9, 3) := by decide +kernel
theorem dX5_clearedToday_23 : decode cX5_clearedToday 23 = .ok (.iload_n 2, 1) := by decide +kernel
theorem dX5_clearedToday_24 : decode cX5_clearedToday 24 = .ok (.iconst 1, 1) := by decide +kernel
theorem dX5_clearedToday_25 : decode cX5_clearedToday 25 = .ok (.iload_n 3, 1) := by decide +kernel
theorem dX5_clearedToday_26 : decode cX5_clearedToday 26 = .ok (.ishl, 1) := by decide +kernel
theorem dX5_clearedToday_27 : decode cX5_clearedToday 27 = .ok (.ior, 1) := by decide +kernel
theorem dX5_clearedToday_28 : decode cX5_clearedToday 28 = .ok (.istore_n 2, 1) := by decide +kernel
theorem dX5_clearedToday_29 : decode cX5_clearedToday 29 = .ok (.iinc 3 1, 3) := by decide +kernel
theorem dX5_clearedToday_32 : decode cX5_clearedToday 32 = .ok (.goto (-28), 3) := by decide +kernel
theorem dX5_clearedToday_35 : decode cX5_clearedToday 35 = .ok (.iload_n 2, 1) := by decide +kernel
theorem dX5_clearedToday_36 : decode cX5_clearedToday 36 = .ok (.ireturn, 1) := by decide +kernel
theorem dX5_scenesSomebodyCouldShoot_0 : decode cX5_scenesSomebodyCouldShoot 0 = .ok (.iconst 0, 1) := by decide +kernel
theorem dX5_scenesSomebodyCouldShoot_1 : decode cX5_scenesSomebodyCouldShoot 1 = .ok (.istore_n 1, 1) := by decide +kernel
theorem dX5_scenesSomebodyCouldShoot_2 : decode cX5_scenesSomebodyCouldShoot 2 = .ok (.iconst 0, 1) := by decide +kernel
theorem dX5_scenesSomebodyCouldShoot_3 : decode cX5_scenesSomebodyCouldShoot 3 = .ok (.istore_n 2, 1) := by decide +kernel
theorem dX5_scenesSomebodyCouldShoot_4 : decode cX5_scenesSomebodyCouldShoot 4 = .ok (.iload_n 2, 1) := by decide +kernel
theorem dX5_scenesSomebodyCouldShoot_5 : decode cX5_scenesSomebodyCouldShoot 5 = .ok (.aload_n 0, 1) := by decide +kernel
theorem dX5_scenesSomebodyCouldShoot_6 : decode cX5_scenesSomebodyCouldShoot 6 = .ok (.getfield 54, 3) := by decide +kernel
theorem dX5_scenesSomebodyCouldShoot_9 : decode cX5_scenesSomebodyCouldShoot 9 = .ok (.getfield 101, 3) := by decide +kernel
theorem dX5_scenesSomebodyCouldShoot_12 : decode cX5_scenesSomebodyCouldShoot 12 = .ok (.if_icmp .ge 20, 3) := by decide +kernel
theorem dX5_scenesSomebodyCouldShoot_15 : decode cX5_scenesSomebodyCouldShoot 15 = .ok (.aload_n 0, 1) := by decide +kernel
theorem dX5_scenesSomebodyCouldShoot_16 : decode cX5_scenesSomebodyCouldShoot 16 = .ok (.iload_n 2, 1) := by decide +kernel
theorem dX5_scenesSomebodyCouldShoot_17 : decode cX5_scenesSomebodyCouldShoot 17 = .ok (.invokevirtual 160, 3) := by decide +kernel
theorem dX5_scenesSomebodyCouldShoot_20 : decode cX5_scenesSomebodyCouldShoot 20 = .ok (.ifCond .eq 6, 3) := by decide +kernel
theorem dX5_scenesSomebodyCouldShoot_23 : decode cX5_scenesSomebodyCouldShoot 23 = .ok (.iinc 1 1, 3) := by decide +kernel
theorem dX5_scenesSomebodyCouldShoot_26 : decode cX5_scenesSomebodyCouldShoot 26 = .ok (.iinc 2 1, 3) := by decide +kernel
theorem dX5_scenesSomebodyCouldShoot_29 : decode cX5_scenesSomebodyCouldShoot 29 = .ok (.goto (-25), 3) := by decide +kernel
theorem dX5_scenesSomebodyCouldShoot_32 : decode cX5_scenesSomebodyCouldShoot 32 = .ok (.iload_n 1, 1) := by decide +kernel
theorem dX5_scenesSomebodyCouldShoot_33 : decode cX5_scenesSomebodyCouldShoot 33 = .ok (.ireturn, 1) := by decide +kernel
theorem dX5_personNumber_0 : decode cX5_personNumber 0 = .ok (.iload_n 2, 1) := by decide +kernel
theorem dX5_personNumber_1 : decode cX5_personNumber 1 = .ok (.tableswitch 101 0 5 #[39, 48, 61, 74, 83, 92], 39) := by decide +kernel
theorem dX5_personNumber_40 : decode cX5_personNumber 40 = .ok (.aload_n 0, 1) := by decide +kernel
theorem dX5_personNumber_41 : decode cX5_personNumber 41 = .ok (.getfield 30, 3) := by decide +kernel
theorem dX5_personNumber_44 : decode cX5_personNumber 44 = .ok (.iload_n 1, 1) := by decide +kernel
theorem dX5_personNumber_45 : decode cX5_personNumber 45 = .ok (.invokestatic 72, 3) := by decide +kernel
theorem dX5_personNumber_48 : decode cX5_personNumber 48 = .ok (.ireturn, 1) := by decide +kernel
theorem dX5_personNumber_49 : decode cX5_personNumber 49 = .ok (.aload_n 0, 1) := by decide +kernel
theorem dX5_personNumber_50 : decode cX5_personNumber 50 = .ok (.getfield 47, 3) := by decide +kernel
theorem dX5_personNumber_53 : decode cX5_personNumber 53 = .ok (.aload_n 0, 1) := by decide +kernel
theorem dX5_personNumber_54 : decode cX5_personNumber 54 = .ok (.getfield 9, 3) := by decide +kernel
theorem dX5_personNumber_57 : decode cX5_personNumber 57 = .ok (.iload_n 1, 1) := by decide +kernel
theorem dX5_personNumber_58 : decode cX5_personNumber 58 = .ok (.invokevirtual 80, 3) := by decide +kernel
theorem dX5_personNumber_61 : decode cX5_personNumber 61 = .ok (.ireturn, 1) := by decide +kernel
theorem dX5_personNumber_62 : decode cX5_personNumber 62 = .ok (.aload_n 0, 1) := by decide +kernel
theorem dX5_personNumber_63 : decode cX5_personNumber 63 = .ok (.getfield 47, 3) := by decide +kernel
theorem dX5_personNumber_66 : decode cX5_personNumber 66 = .ok (.aload_n 0, 1) := by decide +kernel
theorem dX5_personNumber_67 : decode cX5_personNumber 67 = .ok (.getfield 9, 3) := by decide +kernel
theorem dX5_personNumber_70 : decode cX5_personNumber 70 = .ok (.iload_n 1, 1) := by decide +kernel
theorem dX5_personNumber_71 : decode cX5_personNumber 71 = .ok (.invokevirtual 163, 3) := by decide +kernel
theorem dX5_personNumber_74 : decode cX5_personNumber 74 = .ok (.ireturn, 1) := by decide +kernel
theorem dX5_personNumber_75 : decode cX5_personNumber 75 = .ok (.aload_n 0, 1) := by decide +kernel
theorem dX5_personNumber_76 : decode cX5_personNumber 76 = .ok (.getfield 34, 3) := by decide +kernel
theorem dX5_personNumber_79 : decode cX5_personNumber 79 = .ok (.iload_n 1, 1) := by decide +kernel
theorem dX5_personNumber_80 : decode cX5_personNumber 80 = .ok (.invokestatic 72, 3) := by decide +kernel
theorem dX5_personNumber_83 : decode cX5_personNumber 83 = .ok (.ireturn, 1) := by decide +kernel
theorem dX5_personNumber_84 : decode cX5_personNumber 84 = .ok (.aload_n 0, 1) := by decide +kernel
theorem dX5_personNumber_85 : decode cX5_personNumber 85 = .ok (.getfield 54, 3) := by decide +kernel
theorem dX5_personNumber_88 : decode cX5_personNumber 88 = .ok (.iload_n 1, 1) := by decide +kernel
theorem dX5_personNumber_89 : decode cX5_personNumber 89 = .ok (.invokevirtual 134, 3) := by decide +kernel
theorem dX5_personNumber_92 : decode cX5_personNumber 92 = .ok (.ireturn, 1) := by decide +kernel
theorem dX5_personNumber_93 : decode cX5_personNumber 93 = .ok (.aload_n 0, 1) := by decide +kernel
theorem dX5_personNumber_94 : decode cX5_personNumber 94 = .ok (.getfield 54, 3) := by decide +kernel
theorem dX5_personNumber_97 : decode cX5_personNumber 97 = .ok (.iload_n 1, 1) := by decide +kernel
theorem dX5_personNumber_98 : decode cX5_personNumber 98 = .ok (.invokevirtual 166, 3) := by decide +kernel
theorem dX5_personNumber_101 : decode cX5_personNumber 101 = .ok (.ireturn, 1) := by decide +kernel
theorem dX5_personNumber_102 : decode cX5_personNumber 102 = .ok (.aload_n 0, 1) := by decide +kernel
theorem dX5_personNumber_103 : decode cX5_personNumber 103 = .ok (.iload_n 1, 1) := by decide +kernel
theorem dX5_personNumber_104 : decode cX5_personNumber 104 = .ok (.invokevirtual 169, 3) := by decide +kernel
theorem dX5_personNumber_107 : decode cX5_personNumber 107 = .ok (.ireturn, 1) := by decide +kernel
theorem dX5_kindsBarredToday_0 : decode cX5_kindsBarredToday 0 = .ok (.aload_n 0, 1) := by decide +kernel
theorem dX5_kindsBarredToday_1 : decode cX5_kindsBarredToday 1 = .ok (.getfield 47, 3) := by decide +kernel
theorem dX5_kindsBarredToday_4 : decode cX5_kindsBarredToday 4 = .ok (.aload_n 0, 1) := by decide +kernel
theorem dX5_kindsBarredToday_5 : decode cX5_kindsBarredToday 5 = .ok (.getfield 9, 3) := by decide +kernel
theorem dX5_kindsBarredToday_8 : decode cX5_kindsBarredToday 8 = .ok (.iload_n 1, 1) := by decide +kernel
theorem dX5_kindsBarredToday_9 : decode cX5_kindsBarredToday 9 = .ok (.invokevirtual 80, 3) := by decide +kernel
theorem dX5_kindsBarredToday_12 : decode cX5_kindsBarredToday 12 = .ok (.istore_n 2, 1) := by decide +kernel
theorem dX5_kindsBarredToday_13 : decode cX5_kindsBarredToday 13 = .ok (.iconst 0, 1) := by decide +kernel
theorem dX5_kindsBarredToday_14 : decode cX5_kindsBarredToday 14 = .ok (.istore_n 3, 1) := by decide +kernel
theorem dX5_kindsBarredToday_15 : decode cX5_kindsBarredToday 15 = .ok (.iconst 0, 1) := by decide +kernel
theorem dX5_kindsBarredToday_16 : decode cX5_kindsBarredToday 16 = .ok (.istore 4, 2) := by decide +kernel
theorem dX5_kindsBarredToday_18 : decode cX5_kindsBarredToday 18 = .ok (.iload 4, 2) := by decide +kernel
theorem dX5_kindsBarredToday_20 : decode cX5_kindsBarredToday 20 = .ok (.bipush 6, 2) := by decide +kernel
theorem dX5_kindsBarredToday_22 : decode cX5_kindsBarredToday 22 = .ok (.if_icmp .ge 25, 3) := by decide +kernel
theorem dX5_kindsBarredToday_25 : decode cX5_kindsBarredToday 25 = .ok (.iload_n 2, 1) := by decide +kernel
theorem dX5_kindsBarredToday_26 : decode cX5_kindsBarredToday 26 = .ok (.iload 4, 2) := by decide +kernel
theorem dX5_kindsBarredToday_28 : decode cX5_kindsBarredToday 28 = .ok (.invokestatic 84, 3) := by decide +kernel
theorem dX5_kindsBarredToday_31 : decode cX5_kindsBarredToday 31 = .ok (.ifCond .eq 10, 3) := by decide +kernel
theorem dX5_kindsBarredToday_34 : decode cX5_kindsBarredToday 34 = .ok (.iload_n 3, 1) := by decide +kernel
theorem dX5_kindsBarredToday_35 : decode cX5_kindsBarredToday 35 = .ok (.iconst 1, 1) := by decide +kernel
theorem dX5_kindsBarredToday_36 : decode cX5_kindsBarredToday 36 = .ok (.iload 4, 2) := by decide +kernel
theorem dX5_kindsBarredToday_38 : decode cX5_kindsBarredToday 38 = .ok (.ishl, 1) := by decide +kernel
theorem dX5_kindsBarredToday_39 : decode cX5_kindsBarredToday 39 = .ok (.ior, 1) := by decide +kernel
theorem dX5_kindsBarredToday_40 : decode cX5_kindsBarredToday 40 = .ok (.istore_n 3, 1) := by decide +kernel
theorem dX5_kindsBarredToday_41 : decode cX5_kindsBarredToday 41 = .ok (.iinc 4 1, 3) := by decide +kernel
theorem dX5_kindsBarredToday_44 : decode cX5_kindsBarredToday 44 = .ok (.goto (-26), 3) := by decide +kernel
theorem dX5_kindsBarredToday_47 : decode cX5_kindsBarredToday 47 = .ok (.iload_n 3, 1) := by decide +kernel
theorem dX5_kindsBarredToday_48 : decode cX5_kindsBarredToday 48 = .ok (.ireturn, 1) := by decide +kernel
theorem dX5_sceneNumber_0 : decode cX5_sceneNumber 0 = .ok (.iload_n 2, 1) := by decide +kernel
theorem dX5_sceneNumber_1 : decode cX5_sceneNumber 1 = .ok (.tableswitch 80 0 4 #[35, 44, 53, 62, 71], 35) := by decide +kernel
theorem dX5_sceneNumber_36 : decode cX5_sceneNumber 36 = .ok (.aload_n 0, 1) := by decide +kernel
theorem dX5_sceneNumber_37 : decode cX5_sceneNumber 37 = .ok (.getfield 54, 3) := by decide +kernel
theorem dX5_sceneNumber_40 : decode cX5_sceneNumber 40 = .ok (.iload_n 1, 1) := by decide +kernel
theorem dX5_sceneNumber_41 : decode cX5_sceneNumber 41 = .ok (.invokevirtual 108, 3) := by decide +kernel
theorem dX5_sceneNumber_44 : decode cX5_sceneNumber 44 = .ok (.ireturn, 1) := by decide +kernel
theorem dX5_sceneNumber_45 : decode cX5_sceneNumber 45 = .ok (.aload_n 0, 1) := by decide +kernel
theorem dX5_sceneNumber_46 : decode cX5_sceneNumber 46 = .ok (.getfield 54, 3) := by decide +kernel
theorem dX5_sceneNumber_49 : decode cX5_sceneNumber 49 = .ok (.iload_n 1, 1) := by decide +kernel
theorem dX5_sceneNumber_50 : decode cX5_sceneNumber 50 = .ok (.invokevirtual 122, 3) := by decide +kernel
theorem dX5_sceneNumber_53 : decode cX5_sceneNumber 53 = .ok (.ireturn, 1) := by decide +kernel
theorem dX5_sceneNumber_54 : decode cX5_sceneNumber 54 = .ok (.aload_n 0, 1) := by decide +kernel
theorem dX5_sceneNumber_55 : decode cX5_sceneNumber 55 = .ok (.getfield 54, 3) := by decide +kernel
theorem dX5_sceneNumber_58 : decode cX5_sceneNumber 58 = .ok (.iload_n 1, 1) := by decide +kernel
theorem dX5_sceneNumber_59 : decode cX5_sceneNumber 59 = .ok (.invokevirtual 125, 3) := by decide +kernel
theorem dX5_sceneNumber_62 : decode cX5_sceneNumber 62 = .ok (.ireturn, 1) := by decide +kernel
theorem dX5_sceneNumber_63 : decode cX5_sceneNumber 63 = .ok (.aload_n 0, 1) := by decide +kernel
theorem dX5_sceneNumber_64 : decode cX5_sceneNumber 64 = .ok (.getfield 54, 3) := by decide +kernel
theorem dX5_sceneNumber_67 : decode cX5_sceneNumber 67 = .ok (.iload_n 1, 1) := by decide +kernel
theorem dX5_sceneNumber_68 : decode cX5_sceneNumber 68 = .ok (.invokevirtual 172, 3) := by decide +kernel
theorem dX5_sceneNumber_71 : decode cX5_sceneNumber 71 = .ok (.ireturn, 1) := by decide +kernel
theorem dX5_sceneNumber_72 : decode cX5_sceneNumber 72 = .ok (.aload_n 0, 1) := by decide +kernel
theorem dX5_sceneNumber_73 : decode cX5_sceneNumber 73 = .ok (.getfield 54, 3) := by decide +kernel
theorem dX5_sceneNumber_76 : decode cX5_sceneNumber 76 = .ok (.iload_n 1, 1) := by decide +kernel
theorem dX5_sceneNumber_77 : decode cX5_sceneNumber 77 = .ok (.invokevirtual 175, 3) := by decide +kernel
theorem dX5_sceneNumber_80 : decode cX5_sceneNumber 80 = .ok (.ireturn, 1) := by decide +kernel
theorem dX5_sceneNumber_81 : decode cX5_sceneNumber 81 = .ok (.aload_n 0, 1) := by decide +kernel
theorem dX5_sceneNumber_82 : decode cX5_sceneNumber 82 = .ok (.iload_n 1, 1) := by decide +kernel
theorem dX5_sceneNumber_83 : decode cX5_sceneNumber 83 = .ok (.invokevirtual 160, 3) := by decide +kernel
theorem dX5_sceneNumber_86 : decode cX5_sceneNumber 86 = .ok (.ireturn, 1) := by decide +kernel
