theorem dX6_init_0 : decode cX6_init 0 = .ok (.aload_n 0, 1) := by decide +kernel
theorem dX6_init_1 : decode cX6_init 1 = .ok (.invokespecial 1, 3) := by decide +kernel
theorem dX6_init_4 : decode cX6_init 4 = .ok (.aload_n 0, 1) := by decide +kernel
theorem dX6_init_5 : decode cX6_init 5 = .ok (.new 7, 3) := by decide +kernel
theorem dX6_init_8 : decode cX6_init 8 = .ok (.dup, 1) := by decide +kernel
theorem dX6_init_9 : decode cX6_init 9 = .ok (.invokespecial 9, 3) := by decide +kernel
theorem dX6_init_12 : decode cX6_init 12 = .ok (.putfield 10, 3) := by decide +kernel
theorem dX6_init_15 : decode cX6_init 15 = .ok (.aload_n 0, 1) := by decide +kernel
theorem dX6_init_16 : decode cX6_init 16 = .ok (.new 16, 3) := by decide +kernel
theorem dX6_init_19 : decode cX6_init 19 = .ok (.dup, 1) := by decide +kernel
theorem dX6_init_20 : decode cX6_init 20 = .ok (.invokespecial 18, 3) := by decide +kernel
theorem dX6_init_23 : decode cX6_init 23 = .ok (.putfield 19, 3) := by decide +kernel
theorem dX6_init_26 : decode cX6_init 26 = .ok (.aload_n 0, 1) := by decide +kernel
theorem dX6_init_27 : decode cX6_init 27 = .ok (.new 23, 3) := by decide +kernel
theorem dX6_init_30 : decode cX6_init 30 = .ok (.dup, 1) := by decide +kernel
theorem dX6_init_31 : decode cX6_init 31 = .ok (.invokespecial 25, 3) := by decide +kernel
theorem dX6_init_34 : decode cX6_init 34 = .ok (.putfield 26, 3) := by decide +kernel
theorem dX6_init_37 : decode cX6_init 37 = .ok (.return_, 1) := by decide +kernel
theorem dX6_size_0 : decode cX6_size 0 = .ok (.iload_n 1, 1) := by decide +kernel
theorem dX6_size_1 : decode cX6_size 1 = .ok (.invokestatic 30, 3) := by decide +kernel
theorem dX6_size_4 : decode cX6_size 4 = .ok (.iload_n 2, 1) := by decide +kernel
theorem dX6_size_5 : decode cX6_size 5 = .ok (.sipush 150, 3) := by decide +kernel
theorem dX6_size_8 : decode cX6_size 8 = .ok (.sipush 200, 3) := by decide +kernel
theorem dX6_size_11 : decode cX6_size 11 = .ok (.invokestatic 34, 3) := by decide +kernel
theorem dX6_size_14 : decode cX6_size 14 = .ok (.invokestatic 38, 3) := by decide +kernel
theorem dX6_size_17 : decode cX6_size 17 = .ok (.aload_n 0, 1) := by decide +kernel
theorem dX6_size_18 : decode cX6_size 18 = .ok (.getfield 19, 3) := by decide +kernel
theorem dX6_size_21 : decode cX6_size 21 = .ok (.aload_n 0, 1) := by decide +kernel
theorem dX6_size_22 : decode cX6_size 22 = .ok (.getfield 10, 3) := by decide +kernel
theorem dX6_size_25 : decode cX6_size 25 = .ok (.invokevirtual 42, 3) := by decide +kernel
theorem dX6_size_28 : decode cX6_size 28 = .ok (.aload_n 0, 1) := by decide +kernel
theorem dX6_size_29 : decode cX6_size 29 = .ok (.getfield 10, 3) := by decide +kernel
theorem dX6_size_32 : decode cX6_size 32 = .ok (.iload_n 1, 1) := by decide +kernel
theorem dX6_size_33 : decode cX6_size 33 = .ok (.iload_n 2, 1) := by decide +kernel
theorem dX6_size_34 : decode cX6_size 34 = .ok (.invokevirtual 46, 3) := by decide +kernel
theorem dX6_size_37 : decode cX6_size 37 = .ok (.ireturn, 1) := by decide +kernel
theorem dX6_pass_0 : decode cX6_pass 0 = .ok (.iload_n 1, 1) := by decide +kernel
theorem dX6_pass_1 : decode cX6_pass 1 = .ok (.iconst 1, 1) := by decide +kernel
theorem dX6_pass_2 : decode cX6_pass 2 = .ok (.bipush 99, 2) := by decide +kernel
theorem dX6_pass_4 : decode cX6_pass 4 = .ok (.invokestatic 34, 3) := by decide +kernel
theorem dX6_pass_7 : decode cX6_pass 7 = .ok (.invokestatic 38, 3) := by decide +kernel
theorem dX6_pass_10 : decode cX6_pass 10 = .ok (.aload_n 0, 1) := by decide +kernel
theorem dX6_pass_11 : decode cX6_pass 11 = .ok (.getfield 10, 3) := by decide +kernel
theorem dX6_pass_14 : decode cX6_pass 14 = .ok (.iload_n 1, 1) := by decide +kernel
theorem dX6_pass_15 : decode cX6_pass 15 = .ok (.invokevirtual 50, 3) := by decide +kernel
theorem dX6_pass_18 : decode cX6_pass 18 = .ok (.invokestatic 54, 3) := by decide +kernel
theorem dX6_pass_21 : decode cX6_pass 21 = .ok (.aload_n 0, 1) := by decide +kernel
theorem dX6_pass_22 : decode cX6_pass 22 = .ok (.getfield 19, 3) := by decide +kernel
theorem dX6_pass_25 : decode cX6_pass 25 = .ok (.aload_n 0, 1) := by decide +kernel
theorem dX6_pass_26 : decode cX6_pass 26 = .ok (.getfield 10, 3) := by decide +kernel
theorem dX6_pass_29 : decode cX6_pass 29 = .ok (.invokevirtual 42, 3) := by decide +kernel
theorem dX6_pass_32 : decode cX6_pass 32 = .ok (.aload_n 0, 1) := by decide +kernel
theorem dX6_pass_33 : decode cX6_pass 33 = .ok (.getfield 10, 3) := by decide +kernel
theorem dX6_pass_36 : decode cX6_pass 36 = .ok (.iload_n 1, 1) := by decide +kernel
theorem dX6_pass_37 : decode cX6_pass 37 = .ok (.invokevirtual 57, 3) := by decide +kernel
theorem dX6_pass_40 : decode cX6_pass 40 = .ok (.aload_n 0, 1) := by decide +kernel
theorem dX6_pass_41 : decode cX6_pass 41 = .ok (.getfield 10, 3) := by decide +kernel
theorem dX6_pass_44 : decode cX6_pass 44 = .ok (.getfield 60, 3) := by decide +kernel
theorem dX6_pass_47 : decode cX6_pass 47 = .ok (.ireturn, 1) := by decide +kernel
theorem dX6_rehearse_0 : decode cX6_rehearse 0 = .ok (.iload_n 1, 1) := by decide +kernel
theorem dX6_rehearse_1 : decode cX6_rehearse 1 = .ok (.invokestatic 30, 3) := by decide +kernel
theorem dX6_rehearse_4 : decode cX6_rehearse 4 = .ok (.iload_n 2, 1) := by decide +kernel
theorem dX6_rehearse_5 : decode cX6_rehearse 5 = .ok (.invokestatic 64, 3) := by decide +kernel
theorem dX6_rehearse_8 : decode cX6_rehearse 8 = .ok (.iload_n 3, 1) := by decide +kernel
theorem dX6_rehearse_9 : decode cX6_rehearse 9 = .ok (.iconst 1, 1) := by decide +kernel
theorem dX6_rehearse_10 : decode cX6_rehearse 10 = .ok (.iconst 5, 1) := by decide +kernel
theorem dX6_rehearse_11 : decode cX6_rehearse 11 = .ok (.invokestatic 34, 3) := by decide +kernel
theorem dX6_rehearse_14 : decode cX6_rehearse 14 = .ok (.invokestatic 38, 3) := by decide +kernel
theorem dX6_rehearse_17 : decode cX6_rehearse 17 = .ok (.aload_n 0, 1) := by decide +kernel
theorem dX6_rehearse_18 : decode cX6_rehearse 18 = .ok (.getfield 10, 3) := by decide +kernel
theorem dX6_rehearse_21 : decode cX6_rehearse 21 = .ok (.iload_n 1, 1) := by decide +kernel
theorem dX6_rehearse_22 : decode cX6_rehearse 22 = .ok (.iload_n 2, 1) := by decide +kernel
theorem dX6_rehearse_23 : decode cX6_rehearse 23 = .ok (.invokevirtual 67, 3) := by decide +kernel
theorem dX6_rehearse_26 : decode cX6_rehearse 26 = .ok (.invokestatic 54, 3) := by decide +kernel
theorem dX6_rehearse_29 : decode cX6_rehearse 29 = .ok (.aload_n 0, 1) := by decide +kernel
theorem dX6_rehearse_30 : decode cX6_rehearse 30 = .ok (.getfield 19, 3) := by decide +kernel
theorem dX6_rehearse_33 : decode cX6_rehearse 33 = .ok (.aload_n 0, 1) := by decide +kernel
theorem dX6_rehearse_34 : decode cX6_rehearse 34 = .ok (.getfield 10, 3) := by decide +kernel
theorem dX6_rehearse_37 : decode cX6_rehearse 37 = .ok (.invokevirtual 42, 3) := by decide +kernel
theorem dX6_rehearse_40 : decode cX6_rehearse 40 = .ok (.aload_n 0, 1) := by decide +kernel
theorem dX6_rehearse_41 : decode cX6_rehearse 41 = .ok (.getfield 10, 3) := by decide +kernel
theorem dX6_rehearse_44 : decode cX6_rehearse 44 = .ok (.iload_n 1, 1) := by decide +kernel
theorem dX6_rehearse_45 : decode cX6_rehearse 45 = .ok (.iload_n 2, 1) := by decide +kernel
theorem dX6_rehearse_46 : decode cX6_rehearse 46 = .ok (.iload_n 3, 1) := by decide +kernel
theorem dX6_rehearse_47 : decode cX6_rehearse 47 = .ok (.invokevirtual 71, 3) := by decide +kernel
theorem dX6_rehearse_50 : decode cX6_rehearse 50 = .ok (.ifCond .eq 7, 3) := by decide +kernel
theorem dX6_rehearse_53 : decode cX6_rehearse 53 = .ok (.iconst 1, 1) := by decide +kernel
theorem dX6_rehearse_54 : decode cX6_rehearse 54 = .ok (.goto 4, 3) := by decide +kernel
theorem dX6_rehearse_57 : decode cX6_rehearse 57 = .ok (.iconst 0, 1) := by decide +kernel
theorem dX6_rehearse_58 : decode cX6_rehearse 58 = .ok (.ireturn, 1) := by decide +kernel
theorem dX6_hurt_0 : decode cX6_hurt 0 = .ok (.iload_n 1, 1) := by decide +kernel
theorem dX6_hurt_1 : decode cX6_hurt 1 = .ok (.invokestatic 30, 3) := by decide +kernel
theorem dX6_hurt_4 : decode cX6_hurt 4 = .ok (.iload_n 2, 1) := by decide +kernel
theorem dX6_hurt_5 : decode cX6_hurt 5 = .ok (.invokestatic 74, 3) := by decide +kernel
theorem dX6_hurt_8 : decode cX6_hurt 8 = .ok (.ifCond .eq 17, 3) := by decide +kernel
theorem dX6_hurt_11 : decode cX6_hurt 11 = .ok (.iload_n 3, 1) := by decide +kernel
theorem dX6_hurt_12 : decode cX6_hurt 12 = .ok (.iconst 1, 1) := by decide +kernel
theorem dX6_hurt_13 : decode cX6_hurt 13 = .ok (.bipush 60, 2) := by decide +kernel
theorem dX6_hurt_15 : decode cX6_hurt 15 = .ok (.invokestatic 34, 3) := by decide +kernel
theorem dX6_hurt_18 : decode cX6_hurt 18 = .ok (.ifCond .eq 7, 3) := by decide +kernel
theorem dX6_hurt_21 : decode cX6_hurt 21 = .ok (.iconst 1, 1) := by decide +kernel
theorem dX6_hurt_22 : decode cX6_hurt 22 = .ok (.goto 4, 3) := by decide +kernel
theorem dX6_hurt_25 : decode cX6_hurt 25 = .ok (.iconst 0, 1) := by decide +kernel
theorem dX6_hurt_26 : decode cX6_hurt 26 = .ok (.invokestatic 38, 3) := by decide +kernel
theorem dX6_hurt_29 : decode cX6_hurt 29 = .ok (.aload_n 0, 1) := by decide +kernel
theorem dX6_hurt_30 : decode cX6_hurt 30 = .ok (.getfield 19, 3) := by decide +kernel
theorem dX6_hurt_33 : decode cX6_hurt 33 = .ok (.aload_n 0, 1) := by decide +kernel
theorem dX6_hurt_34 : decode cX6_hurt 34 = .ok (.getfield 10, 3) := by decide +kernel
theorem dX6_hurt_37 : decode cX6_hurt 37 = .ok (.invokevirtual 42, 3) := by decide +kernel
theorem dX6_hurt_40 : decode cX6_hurt 40 = .ok (.aload_n 0, 1) := by decide +kernel
theorem dX6_hurt_41 : decode cX6_hurt 41 = .ok (.getfield 10, 3) := by decide +kernel
theorem dX6_hurt_44 : decode cX6_hurt 44 = .ok (.iload_n 1, 1) := by decide +kernel
theorem dX6_hurt_45 : decode cX6_hurt 45 = .ok (.iload_n 2, 1) := by decide +kernel
theorem dX6_hurt_46 : decode cX6_hurt 46 = .ok (.iload_n 3, 1) := by decide +kernel
theorem dX6_hurt_47 : decode cX6_hurt 47 = .ok (.invokevirtual 77, 3) := by decide +kernel
theorem dX6_hurt_50 : decode cX6_hurt 50 = .ok (.aload_n 0, 1) := by decide +kernel
theorem dX6_hurt_51 : decode cX6_hurt 51 = .ok (.getfield 10, 3) := by decide +kernel
theorem dX6_hurt_54 : decode cX6_hurt 54 = .ok (.iload_n 1, 1) := by decide +kernel
theorem dX6_hurt_55 : decode cX6_hurt 55 = .ok (.invokevirtual 81, 3) := by decide +kernel
theorem dX6_hurt_58 : decode cX6_hurt 58 = .ok (.ireturn, 1) := by decide +kernel
theorem dX6_insure_0 : decode cX6_insure 0 = .ok (.iload_n 1, 1) := by decide +kernel
theorem dX6_insure_1 : decode cX6_insure 1 = .ok (.iload_n 2, 1) := by decide +kernel
theorem dX6_insure_2 : decode cX6_insure 2 = .ok (.invokestatic 85, 3) := by decide +kernel
theorem dX6_insure_5 : decode cX6_insure 5 = .ok (.invokestatic 38, 3) := by decide +kernel
theorem dX6_insure_8 : decode cX6_insure 8 = .ok (.aload_n 0, 1) := by decide +kernel
theorem dX6_insure_9 : decode cX6_insure 9 = .ok (.getfield 10, 3) := by decide +kernel
theorem dX6_insure_12 : decode cX6_insure 12 = .ok (.iload_n 1, 1) := by decide +kernel
theorem dX6_insure_13 : decode cX6_insure 13 = .ok (.iload_n 2, 1) := by decide +kernel
theorem dX6_insure_14 : decode cX6_insure 14 = .ok (.invokevirtual 88, 3) := by decide +kernel
theorem dX6_insure_17 : decode cX6_insure 17 = .ok (.aload_n 0, 1) := by decide +kernel
theorem dX6_insure_18 : decode cX6_insure 18 = .ok (.getfield 10, 3) := by decide +kernel
theorem dX6_insure_21 : decode cX6_insure 21 = .ok (.getfield 91, 3) := by decide +kernel
theorem dX6_insure_24 : decode cX6_insure 24 = .ok (.if_icmp .gt 7, 3) := by decide +kernel
theorem dX6_insure_27 : decode cX6_insure 27 = .ok (.iconst 1, 1) := by decide +kernel
theorem dX6_insure_28 : decode cX6_insure 28 = .ok (.goto 4, 3) := by decide +kernel
theorem dX6_insure_31 : decode cX6_insure 31 = .ok (.iconst 0, 1) := by decide +kernel
theorem dX6_insure_32 : decode cX6_insure 32 = .ok (.invokestatic 54, 3) := by decide +kernel
theorem dX6_insure_35 : decode cX6_insure 35 = .ok (.aload_n 0, 1) := by decide +kernel
theorem dX6_insure_36 : decode cX6_insure 36 = .ok (.getfield 19, 3) := by decide +kernel
theorem dX6_insure_39 : decode cX6_insure 39 = .ok (.aload_n 0, 1) := by decide +kernel
theorem dX6_insure_40 : decode cX6_insure 40 = .ok (.getfield 10, 3) := by decide +kernel
theorem dX6_insure_43 : decode cX6_insure 43 = .ok (.invokevirtual 42, 3) := by decide +kernel
theorem dX6_insure_46 : decode cX6_insure 46 = .ok (.aload_n 0, 1) := by decide +kernel
theorem dX6_insure_47 : decode cX6_insure 47 = .ok (.getfield 10, 3) := by decide +kernel
theorem dX6_insure_50 : decode cX6_insure 50 = .ok (.iload_n 1, 1) := by decide +kernel
theorem dX6_insure_51 : decode cX6_insure 51 = .ok (.iload_n 2, 1) := by decide +kernel
theorem dX6_insure_52 : decode cX6_insure 52 = .ok (.invokevirtual 94, 3) := by decide +kernel
theorem dX6_insure_55 : decode cX6_insure 55 = .ok (.aload_n 0, 1) := by decide +kernel
theorem dX6_insure_56 : decode cX6_insure 56 = .ok (.getfield 10, 3) := by decide +kernel
theorem dX6_insure_59 : decode cX6_insure 59 = .ok (.getfield 91, 3) := by decide +kernel
theorem dX6_insure_62 : decode cX6_insure 62 = .ok (.ireturn, 1) := by decide +kernel
theorem dX6_scene_0 : decode cX6_scene 0 = .ok (.iload_n 1, 1) := by decide +kernel
theorem dX6_scene_1 : decode cX6_scene 1 = .ok (.invokestatic 64, 3) := by decide +kernel
theorem dX6_scene_4 : decode cX6_scene 4 = .ok (.iload_n 3, 1) := by decide +kernel
theorem dX6_scene_5 : decode cX6_scene 5 = .ok (.invokestatic 30, 3) := by decide +kernel
theorem dX6_scene_8 : decode cX6_scene 8 = .ok (.iload_n 2, 1) := by decide +kernel
theorem dX6_scene_9 : decode cX6_scene 9 = .ok (.iconst 1, 1) := by decide +kernel
theorem dX6_scene_10 : decode cX6_scene 10 = .ok (.iconst 5, 1) := by decide +kernel
theorem dX6_scene_11 : decode cX6_scene 11 = .ok (.invokestatic 34, 3) := by decide +kernel
theorem dX6_scene_14 : decode cX6_scene 14 = .ok (.invokestatic 38, 3) := by decide +kernel
theorem dX6_scene_17 : decode cX6_scene 17 = .ok (.aload_n 0, 1) := by decide +kernel
theorem dX6_scene_18 : decode cX6_scene 18 = .ok (.getfield 10, 3) := by decide +kernel
theorem dX6_scene_21 : decode cX6_scene 21 = .ok (.getfield 98, 3) := by decide +kernel
theorem dX6_scene_24 : decode cX6_scene 24 = .ok (.getfield 102, 3) := by decide +kernel
theorem dX6_scene_27 : decode cX6_scene 27 = .ok (.bipush 10, 2) := by decide +kernel
theorem dX6_scene_29 : decode cX6_scene 29 = .ok (.if_icmp .ge 7, 3) := by decide +kernel
theorem dX6_scene_32 : decode cX6_scene 32 = .ok (.iconst 1, 1) := by decide +kernel
theorem dX6_scene_33 : decode cX6_scene 33 = .ok (.goto 4, 3) := by decide +kernel
theorem dX6_scene_36 : decode cX6_scene 36 = .ok (.iconst 0, 1) := by decide +kernel
theorem dX6_scene_37 : decode cX6_scene 37 = .ok (.invokestatic 54, 3) := by decide +kernel
theorem dX6_scene_40 : decode cX6_scene 40 = .ok (.aload_n 0, 1) := by decide +kernel
theorem dX6_scene_41 : decode cX6_scene 41 = .ok (.getfield 19, 3) := by decide +kernel
theorem dX6_scene_44 : decode cX6_scene 44 = .ok (.aload_n 0, 1) := by decide +kernel
theorem dX6_scene_45 : decode cX6_scene 45 = .ok (.getfield 10, 3) := by decide +kernel
theorem dX6_scene_48 : decode cX6_scene 48 = .ok (.invokevirtual 42, 3) := by decide +kernel
theorem dX6_scene_51 : decode cX6_scene 51 = .ok (.aload_n 0, 1) := by decide +kernel
theorem dX6_scene_52 : decode cX6_scene 52 = .ok (.getfield 10, 3) := by decide +kernel
theorem dX6_scene_55 : decode cX6_scene 55 = .ok (.getfield 98, 3) := by decide +kernel
theorem dX6_scene_58 : decode cX6_scene 58 = .ok (.iload_n 1, 1) := by decide +kernel
theorem dX6_scene_59 : decode cX6_scene 59 = .ok (.iload_n 2, 1) := by decide +kernel
theorem dX6_scene_60 : decode cX6_scene 60 = .ok (.iload_n 3, 1) := by decide +kernel
theorem dX6_scene_61 : decode cX6_scene 61 = .ok (.invokevirtual 107, 3) := by decide +kernel
theorem dX6_scene_64 : decode cX6_scene 64 = .ok (.ireturn, 1) := by decide +kernel
theorem dX6_shoot_0 : decode cX6_shoot 0 = .ok (.aload_n 0, 1) := by decide +kernel
theorem dX6_shoot_1 : decode cX6_shoot 1 = .ok (.iload_n 1, 1) := by decide +kernel
theorem dX6_shoot_2 : decode cX6_shoot 2 = .ok (.invokevirtual 111, 3) := by decide +kernel
theorem dX6_shoot_5 : decode cX6_shoot 5 = .ok (.iload_n 2, 1) := by decide +kernel
theorem dX6_shoot_6 : decode cX6_shoot 6 = .ok (.invokestatic 30, 3) := by decide +kernel
theorem dX6_shoot_9 : decode cX6_shoot 9 = .ok (.aload_n 0, 1) := by decide +kernel
theorem dX6_shoot_10 : decode cX6_shoot 10 = .ok (.getfield 10, 3) := by decide +kernel
theorem dX6_shoot_13 : decode cX6_shoot 13 = .ok (.iload_n 1, 1) := by decide +kernel
theorem dX6_shoot_14 : decode cX6_shoot 14 = .ok (.iload_n 2, 1) := by decide +kernel
theorem dX6_shoot_15 : decode cX6_shoot 15 = .ok (.invokevirtual 114, 3) := by decide +kernel
theorem dX6_shoot_18 : decode cX6_shoot 18 = .ok (.invokestatic 54, 3) := by decide +kernel
theorem dX6_shoot_21 : decode cX6_shoot 21 = .ok (.aload_n 0, 1) := by decide +kernel
theorem dX6_shoot_22 : decode cX6_shoot 22 = .ok (.getfield 19, 3) := by decide +kernel
theorem dX6_shoot_25 : decode cX6_shoot 25 = .ok (.aload_n 0, 1) := by decide +kernel
theorem dX6_shoot_26 : decode cX6_shoot 26 = .ok (.getfield 10, 3) := by decide +kernel
theorem dX6_shoot_29 : decode cX6_shoot 29 = .ok (.invokevirtual 42, 3) := by decide +kernel
theorem dX6_shoot_32 : decode cX6_shoot 32 = .ok (.aload_n 0, 1) := by decide +kernel
theorem dX6_shoot_33 : decode cX6_shoot 33 = .ok (.getfield 10, 3) := by decide +kernel
theorem dX6_shoot_36 : decode cX6_shoot 36 = .ok (.iload_n 1, 1) := by decide +kernel
theorem dX6_shoot_37 : decode cX6_shoot 37 = .ok (.iload_n 2, 1) := by decide +kernel
theorem dX6_shoot_38 : decode cX6_shoot 38 = .ok (.invokevirtual 117, 3) := by decide +kernel
theorem dX6_shoot_41 : decode cX6_shoot 41 = .ok (.aload_n 0, 1) := by decide +kernel
theorem dX6_shoot_42 : decode cX6_shoot 42 = .ok (.getfield 10, 3) := by decide +kernel
theorem dX6_shoot_45 : decode cX6_shoot 45 = .ok (.getfield 98, 3) := by decide +kernel
theorem dX6_shoot_48 : decode cX6_shoot 48 = .ok (.iload_n 1, 1) := by decide +kernel
theorem dX6_shoot_49 : decode cX6_shoot 49 = .ok (.invokevirtual 120, 3) := by decide +kernel
theorem dX6_shoot_52 : decode cX6_shoot 52 = .ok (.ifCond .eq 7, 3) := by decide +kernel
theorem dX6_shoot_55 : decode cX6_shoot 55 = .ok (.iconst 1, 1) := by decide +kernel
theorem dX6_shoot_56 : decode cX6_shoot 56 = .ok (.goto 4, 3) := by decide +kernel
theorem dX6_shoot_59 : decode cX6_shoot 59 = .ok (.iconst 0, 1) := by decide +kernel
theorem dX6_shoot_60 : decode cX6_shoot 60 = .ok (.ireturn, 1) := by decide +kernel
theorem dX6_undo_0 : decode cX6_undo 0 = .ok (.aload_n 0, 1) := by decide +kernel
theorem dX6_undo_1 : decode cX6_undo 1 = .ok (.getfield 19, 3) := by decide +kernel
theorem dX6_undo_4 : decode cX6_undo 4 = .ok (.getfield 146, 3) := by decide +kernel
theorem dX6_undo_7 : decode cX6_undo 7 = .ok (.ifCond .le 7, 3) := by decide +kernel
theorem dX6_undo_10 : decode cX6_undo 10 = .ok (.iconst 1, 1) := by decide +kernel
theorem dX6_undo_11 : decode cX6_undo 11 = .ok (.goto 4, 3) := by decide +kernel
theorem dX6_undo_14 : decode cX6_undo 14 = .ok (.iconst 0, 1) := by decide +kernel
theorem dX6_undo_15 : decode cX6_undo 15 = .ok (.invokestatic 54, 3) := by decide +kernel
theorem dX6_undo_18 : decode cX6_undo 18 = .ok (.aload_n 0, 1) := by decide +kernel
theorem dX6_undo_19 : decode cX6_undo 19 = .ok (.getfield 19, 3) := by decide +kernel
theorem dX6_undo_22 : decode cX6_undo 22 = .ok (.aload_n 0, 1) := by decide +kernel
theorem dX6_undo_23 : decode cX6_undo 23 = .ok (.getfield 10, 3) := by decide +kernel
theorem dX6_undo_26 : decode cX6_undo 26 = .ok (.invokevirtual 149, 3) := by decide +kernel
theorem dX6_undo_29 : decode cX6_undo 29 = .ok (.aload_n 0, 1) := by decide +kernel
theorem dX6_undo_30 : decode cX6_undo 30 = .ok (.getfield 19, 3) := by decide +kernel
theorem dX6_undo_33 : decode cX6_undo 33 = .ok (.getfield 146, 3) := by decide +kernel
theorem dX6_undo_36 : decode cX6_undo 36 = .ok (.ireturn, 1) := by decide +kernel
theorem dX6_person_0 : decode cX6_person 0 = .ok (.iload_n 1, 1) := by decide +kernel
theorem dX6_person_1 : decode cX6_person 1 = .ok (.invokestatic 30, 3) := by decide +kernel
theorem dX6_person_4 : decode cX6_person 4 = .ok (.iload_n 2, 1) := by decide +kernel
theorem dX6_person_5 : decode cX6_person 5 = .ok (.iconst 0, 1) := by decide +kernel
theorem dX6_person_6 : decode cX6_person 6 = .ok (.bipush 6, 2) := by decide +kernel
theorem dX6_person_8 : decode cX6_person 8 = .ok (.invokestatic 34, 3) := by decide +kernel
theorem dX6_person_11 : decode cX6_person 11 = .ok (.invokestatic 38, 3) := by decide +kernel
theorem dX6_person_14 : decode cX6_person 14 = .ok (.aload_n 0, 1) := by decide +kernel
theorem dX6_person_15 : decode cX6_person 15 = .ok (.getfield 10, 3) := by decide +kernel
theorem dX6_person_18 : decode cX6_person 18 = .ok (.iload_n 1, 1) := by decide +kernel
theorem dX6_person_19 : decode cX6_person 19 = .ok (.iload_n 2, 1) := by decide +kernel
theorem dX6_person_20 : decode cX6_person 20 = .ok (.invokevirtual 152, 3) := by decide +kernel
theorem dX6_person_23 : decode cX6_person 23 = .ok (.ireturn, 1) := by decide +kernel
theorem dX6_rehearsed_0 : decode cX6_rehearsed 0 = .ok (.iload_n 1, 1) := by decide +kernel
theorem dX6_rehearsed_1 : decode cX6_rehearsed 1 = .ok (.invokestatic 30, 3) := by decide +kernel
theorem dX6_rehearsed_4 : decode cX6_rehearsed 4 = .ok (.iload_n 2, 1) := by decide +kernel
theorem dX6_rehearsed_5 : decode cX6_rehearsed 5 = .ok (.invokestatic 64, 3) := by decide +kernel
theorem dX6_rehearsed_8 : decode cX6_rehearsed 8 = .ok (.iload_n 3, 1) := by decide +kernel
theorem dX6_rehearsed_9 : decode cX6_rehearsed 9 = .ok (.iconst 1, 1) := by decide +kernel
theorem dX6_rehearsed_10 : decode cX6_rehearsed 10 = .ok (.iconst 5, 1) := by decide +kernel
theorem dX6_rehearsed_11 : decode cX6_rehearsed 11 = .ok (.invokestatic 34, 3) := by decide +kernel
theorem dX6_rehearsed_14 : decode cX6_rehearsed 14 = .ok (.invokestatic 38, 3) := by decide +kernel
theorem dX6_rehearsed_17 : decode cX6_rehearsed 17 = .ok (.aload_n 0, 1) := by decide +kernel
theorem dX6_rehearsed_18 : decode cX6_rehearsed 18 = .ok (.getfield 10, 3) := by decide +kernel
theorem dX6_rehearsed_21 : decode cX6_rehearsed 21 = .ok (.getfield 155, 3) := by decide +kernel
theorem dX6_rehearsed_24 : decode cX6_rehearsed 24 = .ok (.aload_n 0, 1) := by decide +kernel
theorem dX6_rehearsed_25 : decode cX6_rehearsed 25 = .ok (.getfield 10, 3) := by decide +kernel
theorem dX6_rehearsed_28 : decode cX6_rehearsed 28 = .ok (.getfield 60, 3) := by decide +kernel
theorem dX6_rehearsed_31 : decode cX6_rehearsed 31 = .ok (.iload_n 1, 1) := by decide +kernel
theorem dX6_rehearsed_32 : decode cX6_rehearsed 32 = .ok (.iload_n 2, 1) := by decide +kernel
theorem dX6_rehearsed_33 : decode cX6_rehearsed 33 = .ok (.iload_n 3, 1) := by decide +kernel
theorem dX6_rehearsed_34 : decode cX6_rehearsed 34 = .ok (.invokevirtual 159, 3) := by decide +kernel
theorem dX6_rehearsed_37 : decode cX6_rehearsed 37 = .ok (.ireturn, 1) := by decide +kernel
theorem dX6_sceneOf_0 : decode cX6_sceneOf 0 = .ok (.aload_n 0, 1) := by decide +kernel
theorem dX6_sceneOf_1 : decode cX6_sceneOf 1 = .ok (.iload_n 1, 1) := by decide +kernel
theorem dX6_sceneOf_2 : decode cX6_sceneOf 2 = .ok (.invokevirtual 111, 3) := by decide +kernel
theorem dX6_sceneOf_5 : decode cX6_sceneOf 5 = .ok (.iload_n 2, 1) := by decide +kernel
theorem dX6_sceneOf_6 : decode cX6_sceneOf 6 = .ok (.iconst 0, 1) := by decide +kernel
theorem dX6_sceneOf_7 : decode cX6_sceneOf 7 = .ok (.iconst 5, 1) := by decide +kernel
theorem dX6_sceneOf_8 : decode cX6_sceneOf 8 = .ok (.invokestatic 34, 3) := by decide +kernel
theorem dX6_sceneOf_11 : decode cX6_sceneOf 11 = .ok (.invokestatic 38, 3) := by decide +kernel
theorem dX6_sceneOf_14 : decode cX6_sceneOf 14 = .ok (.aload_n 0, 1) := by decide +kernel
theorem dX6_sceneOf_15 : decode cX6_sceneOf 15 = .ok (.getfield 10, 3) := by decide +kernel
theorem dX6_sceneOf_18 : decode cX6_sceneOf 18 = .ok (.iload_n 1, 1) := by decide +kernel
theorem dX6_sceneOf_19 : decode cX6_sceneOf 19 = .ok (.iload_n 2, 1) := by decide +kernel
theorem dX6_sceneOf_20 : decode cX6_sceneOf 20 = .ok (.invokevirtual 179, 3) := by decide +kernel
theorem dX6_sceneOf_23 : decode cX6_sceneOf 23 = .ok (.ireturn, 1) := by decide +kernel
theorem dX6_count_0 : decode cX6_count 0 = .ok (.iload_n 1, 1) := by decide +kernel
theorem dX6_count_1 : decode cX6_count 1 = .ok (.iconst 0, 1) := by decide +kernel
theorem dX6_count_2 : decode cX6_count 2 = .ok (.bipush 10, 2) := by decide +kernel
theorem dX6_count_4 : decode cX6_count 4 = .ok (.invokestatic 34, 3) := by decide +kernel
theorem dX6_count_7 : decode cX6_count 7 = .ok (.invokestatic 38, 3) := by decide +kernel
theorem dX6_count_10 : decode cX6_count 10 = .ok (.aload_n 0, 1) := by decide +kernel
theorem dX6_count_11 : decode cX6_count 11 = .ok (.iload_n 1, 1) := by decide +kernel
theorem dX6_count_12 : decode cX6_count 12 = .ok (.invokevirtual 182, 3) := by decide +kernel
theorem dX6_count_15 : decode cX6_count 15 = .ok (.ireturn, 1) := by decide +kernel
theorem dX6_refusal_0 : decode cX6_refusal 0 = .ok (.aload_n 0, 1) := by decide +kernel
theorem dX6_refusal_1 : decode cX6_refusal 1 = .ok (.iload_n 1, 1) := by decide +kernel
theorem dX6_refusal_2 : decode cX6_refusal 2 = .ok (.invokevirtual 111, 3) := by decide +kernel
theorem dX6_refusal_5 : decode cX6_refusal 5 = .ok (.iload_n 2, 1) := by decide +kernel
theorem dX6_refusal_6 : decode cX6_refusal 6 = .ok (.invokestatic 30, 3) := by decide +kernel
theorem dX6_refusal_9 : decode cX6_refusal 9 = .ok (.aload_n 0, 1) := by decide +kernel
theorem dX6_refusal_10 : decode cX6_refusal 10 = .ok (.getfield 10, 3) := by decide +kernel
theorem dX6_refusal_13 : decode cX6_refusal 13 = .ok (.aload_n 0, 1) := by decide +kernel
theorem dX6_refusal_14 : decode cX6_refusal 14 = .ok (.getfield 10, 3) := by decide +kernel
theorem dX6_refusal_17 : decode cX6_refusal 17 = .ok (.getfield 60, 3) := by decide +kernel
theorem dX6_refusal_20 : decode cX6_refusal 20 = .ok (.iload_n 1, 1) := by decide +kernel
theorem dX6_refusal_21 : decode cX6_refusal 21 = .ok (.iload_n 2, 1) := by decide +kernel
theorem dX6_refusal_22 : decode cX6_refusal 22 = .ok (.invokevirtual 185, 3) := by decide +kernel
theorem dX6_refusal_25 : decode cX6_refusal 25 = .ok (.ireturn, 1) := by decide +kernel
theorem dX6_shotShare_0 : decode cX6_shotShare 0 = .ok (.aload_n 0, 1) := by decide +kernel
theorem dX6_shotShare_1 : decode cX6_shotShare 1 = .ok (.getfield 10, 3) := by decide +kernel
theorem dX6_shotShare_4 : decode cX6_shotShare 4 = .ok (.getfield 98, 3) := by decide +kernel
theorem dX6_shotShare_7 : decode cX6_shotShare 7 = .ok (.invokevirtual 200, 3) := by decide +kernel
theorem dX6_shotShare_10 : decode cX6_shotShare 10 = .ok (.dreturn, 1) := by decide +kernel
theorem dX6_countNumber_0 : decode cX6_countNumber 0 = .ok (.iload_n 1, 1) := by decide +kernel
theorem dX6_countNumber_1 : decode cX6_countNumber 1 = .ok (.tableswitch 151 0 9 #[55, 63, 71, 86, 94, 105, 116, 127, 135, 143], 55) := by decide +kernel
theorem dX6_countNumber_56 : decode cX6_countNumber 56 = .ok (.aload_n 0, 1) := by decide +kernel
theorem dX6_countNumber_57 : decode cX6_countNumber 57 = .ok (.getfield 10, 3) := by decide +kernel
theorem dX6_countNumber_60 : decode cX6_countNumber 60 = .ok (.getfield 60, 3) := by decide +kernel
theorem dX6_countNumber_63 : decode cX6_countNumber 63 = .ok (.ireturn, 1) := by decide +kernel
theorem dX6_countNumber_64 : decode cX6_countNumber 64 = .ok (.aload_n 0, 1) := by decide +kernel
theorem dX6_countNumber_65 : decode cX6_countNumber 65 = .ok (.getfield 10, 3) := by decide +kernel
theorem dX6_countNumber_68 : decode cX6_countNumber 68 = .ok (.getfield 91, 3) := by decide +kernel
theorem dX6_countNumber_71 : decode cX6_countNumber 71 = .ok (.ireturn, 1) := by decide +kernel
theorem dX6_countNumber_72 : decode cX6_countNumber 72 = .ok (.aload_n 0, 1) := by decide +kernel
theorem dX6_countNumber_73 : decode cX6_countNumber 73 = .ok (.getfield 10, 3) := by decide +kernel
theorem dX6_countNumber_76 : decode cX6_countNumber 76 = .ok (.aload_n 0, 1) := by decide +kernel
theorem dX6_countNumber_77 : decode cX6_countNumber 77 = .ok (.getfield 10, 3) := by decide +kernel
theorem dX6_countNumber_80 : decode cX6_countNumber 80 = .ok (.getfield 60, 3) := by decide +kernel
theorem dX6_countNumber_83 : decode cX6_countNumber 83 = .ok (.invokevirtual 232, 3) := by decide +kernel
theorem dX6_countNumber_86 : decode cX6_countNumber 86 = .ok (.ireturn, 1) := by decide +kernel
theorem dX6_countNumber_87 : decode cX6_countNumber 87 = .ok (.aload_n 0, 1) := by decide +kernel
theorem dX6_countNumber_88 : decode cX6_countNumber 88 = .ok (.getfield 10, 3) := by decide +kernel
theorem dX6_countNumber_91 : decode cX6_countNumber 91 = .ok (.invokevirtual 235, 3) := by decide +kernel
theorem dX6_countNumber_94 : decode cX6_countNumber 94 = .ok (.ireturn, 1) := by decide +kernel
theorem dX6_countNumber_95 : decode cX6_countNumber 95 = .ok (.aload_n 0, 1) := by decide +kernel
theorem dX6_countNumber_96 : decode cX6_countNumber 96 = .ok (.getfield 10, 3) := by decide +kernel
theorem dX6_countNumber_99 : decode cX6_countNumber 99 = .ok (.getfield 98, 3) := by decide +kernel
theorem dX6_countNumber_102 : decode cX6_countNumber 102 = .ok (.getfield 102, 3) := by decide +kernel
theorem dX6_countNumber_105 : decode cX6_countNumber 105 = .ok (.ireturn, 1) := by decide +kernel
theorem dX6_countNumber_106 : decode cX6_countNumber 106 = .ok (.aload_n 0, 1) := by decide +kernel
theorem dX6_countNumber_107 : decode cX6_countNumber 107 = .ok (.getfield 10, 3) := by decide +kernel
theorem dX6_countNumber_110 : decode cX6_countNumber 110 = .ok (.getfield 98, 3) := by decide +kernel
theorem dX6_countNumber_113 : decode cX6_countNumber 113 = .ok (.invokevirtual 238, 3) := by decide +kernel
theorem dX6_countNumber_116 : decode cX6_countNumber 116 = .ok (.ireturn, 1) := by decide +kernel
theorem dX6_countNumber_117 : decode cX6_countNumber 117 = .ok (.aload_n 0, 1) := by decide +kernel
theorem dX6_countNumber_118 : decode cX6_countNumber 118 = .ok (.getfield 10, 3) := by decide +kernel
theorem dX6_countNumber_121 : decode cX6_countNumber 121 = .ok (.getfield 98, 3) := by decide +kernel
theorem dX6_countNumber_124 : decode cX6_countNumber 124 = .ok (.invokevirtual 241, 3) := by decide +kernel
theorem dX6_countNumber_127 : decode cX6_countNumber 127 = .ok (.ireturn, 1) := by decide +kernel
theorem dX6_countNumber_128 : decode cX6_countNumber 128 = .ok (.aload_n 0, 1) := by decide +kernel
theorem dX6_countNumber_129 : decode cX6_countNumber 129 = .ok (.getfield 10, 3) := by decide +kernel
theorem dX6_countNumber_132 : decode cX6_countNumber 132 = .ok (.getfield 244, 3) := by decide +kernel
theorem dX6_countNumber_135 : decode cX6_countNumber 135 = .ok (.ireturn, 1) := by decide +kernel
theorem dX6_countNumber_136 : decode cX6_countNumber 136 = .ok (.aload_n 0, 1) := by decide +kernel
theorem dX6_countNumber_137 : decode cX6_countNumber 137 = .ok (.getfield 10, 3) := by decide +kernel
theorem dX6_countNumber_140 : decode cX6_countNumber 140 = .ok (.getfield 247, 3) := by decide +kernel
theorem dX6_countNumber_143 : decode cX6_countNumber 143 = .ok (.ireturn, 1) := by decide +kernel
theorem dX6_countNumber_144 : decode cX6_countNumber 144 = .ok (.aload_n 0, 1) := by decide +kernel
theorem dX6_countNumber_145 : decode cX6_countNumber 145 = .ok (.getfield 10, 3) := by decide +kernel
theorem dX6_countNumber_148 : decode cX6_countNumber 148 = .ok (.invokevirtual 250, 3) := by decide +kernel
theorem dX6_countNumber_151 : decode cX6_countNumber 151 = .ok (.ireturn, 1) := by decide +kernel
theorem dX6_countNumber_152 : decode cX6_countNumber 152 = .ok (.aload_n 0, 1) := by decide +kernel
theorem dX6_countNumber_153 : decode cX6_countNumber 153 = .ok (.getfield 19, 3) := by decide +kernel
theorem dX6_countNumber_156 : decode cX6_countNumber 156 = .ok (.getfield 146, 3) := by decide +kernel
theorem dX6_countNumber_159 : decode cX6_countNumber 159 = .ok (.ireturn, 1) := by decide +kernel
theorem dX6_requirePerson_0 : decode cX6_requirePerson 0 = .ok (.iload_n 0, 1) := by decide +kernel
theorem dX6_requirePerson_1 : decode cX6_requirePerson 1 = .ok (.iconst 0, 1) := by decide +kernel
theorem dX6_requirePerson_2 : decode cX6_requirePerson 2 = .ok (.bipush 7, 2) := by decide +kernel
theorem dX6_requirePerson_4 : decode cX6_requirePerson 4 = .ok (.invokestatic 34, 3) := by decide +kernel
theorem dX6_requirePerson_7 : decode cX6_requirePerson 7 = .ok (.ifCond .ne 14, 3) := by decide +kernel
theorem dX6_requirePerson_10 : decode cX6_requirePerson 10 = .ok (.new 271, 3) := by decide +kernel
theorem dX6_requirePerson_13 : decode cX6_requirePerson 13 = .ok (.dup, 1) := by decide +kernel
theorem dX6_requirePerson_14 : decode cX6_requirePerson 14 = .ok (.ldc_w 273, 3) := by decide +kernel
theorem dX6_requirePerson_17 : decode cX6_requirePerson 17 = .ok (.invokespecial 275, 3) := by decide +kernel
theorem dX6_requirePerson_20 : decode cX6_requirePerson 20 = .ok (.athrow, 1) := by decide +kernel
theorem dX6_requirePerson_21 : decode cX6_requirePerson 21 = .ok (.return_, 1) := by decide +kernel
theorem dX6_requireKind_0 : decode cX6_requireKind 0 = .ok (.iload_n 0, 1) := by decide +kernel
theorem dX6_requireKind_1 : decode cX6_requireKind 1 = .ok (.iconst 0, 1) := by decide +kernel
theorem dX6_requireKind_2 : decode cX6_requireKind 2 = .ok (.iconst 5, 1) := by decide +kernel
theorem dX6_requireKind_3 : decode cX6_requireKind 3 = .ok (.invokestatic 34, 3) := by decide +kernel
theorem dX6_requireKind_6 : decode cX6_requireKind 6 = .ok (.ifCond .ne 14, 3) := by decide +kernel
theorem dX6_requireKind_9 : decode cX6_requireKind 9 = .ok (.new 271, 3) := by decide +kernel
theorem dX6_requireKind_12 : decode cX6_requireKind 12 = .ok (.dup, 1) := by decide +kernel
theorem dX6_requireKind_13 : decode cX6_requireKind 13 = .ok (.ldc_w 278, 3) := by decide +kernel
theorem dX6_requireKind_16 : decode cX6_requireKind 16 = .ok (.invokespecial 275, 3) := by decide +kernel
theorem dX6_requireKind_19 : decode cX6_requireKind 19 = .ok (.athrow, 1) := by decide +kernel
theorem dX6_requireKind_20 : decode cX6_requireKind 20 = .ok (.return_, 1) := by decide +kernel
theorem dX6_requireScene_0 : decode cX6_requireScene 0 = .ok (.aload_n 0, 1) := by decide +kernel
theorem dX6_requireScene_1 : decode cX6_requireScene 1 = .ok (.getfield 10, 3) := by decide +kernel
theorem dX6_requireScene_4 : decode cX6_requireScene 4 = .ok (.getfield 98, 3) := by decide +kernel
theorem dX6_requireScene_7 : decode cX6_requireScene 7 = .ok (.iload_n 1, 1) := by decide +kernel
theorem dX6_requireScene_8 : decode cX6_requireScene 8 = .ok (.invokevirtual 268, 3) := by decide +kernel
theorem dX6_requireScene_11 : decode cX6_requireScene 11 = .ok (.ifCond .ne 14, 3) := by decide +kernel
theorem dX6_requireScene_14 : decode cX6_requireScene 14 = .ok (.new 271, 3) := by decide +kernel
theorem dX6_requireScene_17 : decode cX6_requireScene 17 = .ok (.dup, 1) := by decide +kernel
theorem dX6_requireScene_18 : decode cX6_requireScene 18 = .ok (.ldc_w 280, 3) := by decide +kernel
theorem dX6_requireScene_21 : decode cX6_requireScene 21 = .ok (.invokespecial 275, 3) := by decide +kernel
theorem dX6_requireScene_24 : decode cX6_requireScene 24 = .ok (.athrow, 1) := by decide +kernel
theorem dX6_requireScene_25 : decode cX6_requireScene 25 = .ok (.return_, 1) := by decide +kernel
theorem dX6_requireArgument_0 : decode cX6_requireArgument 0 = .ok (.iload_n 0, 1) := by decide +kernel
theorem dX6_requireArgument_1 : decode cX6_requireArgument 1 = .ok (.ifCond .ne 14, 3) := by decide +kernel
theorem dX6_requireArgument_4 : decode cX6_requireArgument 4 = .ok (.new 282, 3) := by decide +kernel
theorem dX6_requireArgument_7 : decode cX6_requireArgument 7 = .ok (.dup, 1) := by decide +kernel
theorem dX6_requireArgument_8 : decode cX6_requireArgument 8 = .ok (.ldc_w 284, 3) := by decide +kernel
theorem dX6_requireArgument_11 : decode cX6_requireArgument 11 = .ok (.invokespecial 286, 3) := by decide +kernel
theorem dX6_requireArgument_14 : decode cX6_requireArgument 14 = .ok (.athrow, 1) := by decide +kernel
theorem dX6_requireArgument_15 : decode cX6_requireArgument 15 = .ok (.return_, 1) := by decide +kernel
theorem dX6_requireState_0 : decode cX6_requireState 0 = .ok (.iload_n 0, 1) := by decide +kernel
theorem dX6_requireState_1 : decode cX6_requireState 1 = .ok (.ifCond .ne 14, 3) := by decide +kernel
theorem dX6_requireState_4 : decode cX6_requireState 4 = .ok (.new 287, 3) := by decide +kernel
theorem dX6_requireState_7 : decode cX6_requireState 7 = .ok (.dup, 1) := by decide +kernel
theorem dX6_requireState_8 : decode cX6_requireState 8 = .ok (.ldc_w 289, 3) := by decide +kernel
theorem dX6_requireState_11 : decode cX6_requireState 11 = .ok (.invokespecial 291, 3) := by decide +kernel
theorem dX6_requireState_14 : decode cX6_requireState 14 = .ok (.athrow, 1) := by decide +kernel
theorem dX6_requireState_15 : decode cX6_requireState 15 = .ok (.return_, 1) := by decide +kernel
theorem dX6_isBetween_0 : decode cX6_isBetween 0 = .ok (.iload_n 0, 1) := by decide +kernel
theorem dX6_isBetween_1 : decode cX6_isBetween 1 = .ok (.iload_n 1, 1) := by decide +kernel
theorem dX6_isBetween_2 : decode cX6_isBetween 2 = .ok (.if_icmp .lt 12, 3) := by decide +kernel
theorem dX6_isBetween_5 : decode cX6_isBetween 5 = .ok (.iload_n 0, 1) := by decide +kernel
theorem dX6_isBetween_6 : decode cX6_isBetween 6 = .ok (.iload_n 2, 1) := by decide +kernel
theorem dX6_isBetween_7 : decode cX6_isBetween 7 = .ok (.if_icmp .gt 7, 3) := by decide +kernel
theorem dX6_isBetween_10 : decode cX6_isBetween 10 = .ok (.iconst 1, 1) := by decide +kernel
theorem dX6_isBetween_11 : decode cX6_isBetween 11 = .ok (.goto 4, 3) := by decide +kernel
theorem dX6_isBetween_14 : decode cX6_isBetween 14 = .ok (.iconst 0, 1) := by decide +kernel
theorem dX6_isBetween_15 : decode cX6_isBetween 15 = .ok (.ireturn, 1) := by decide +kernel
theorem dX6_isPart_0 : decode cX6_isPart 0 = .ok (.iload_n 0, 1) := by decide +kernel
theorem dX6_isPart_1 : decode cX6_isPart 1 = .ok (.iconst 1, 1) := by decide +kernel
theorem dX6_isPart_2 : decode cX6_isPart 2 = .ok (.bipush 32, 2) := by decide +kernel
theorem dX6_isPart_4 : decode cX6_isPart 4 = .ok (.invokestatic 34, 3) := by decide +kernel
theorem dX6_isPart_7 : decode cX6_isPart 7 = .ok (.ifCond .eq 15, 3) := by decide +kernel
theorem dX6_isPart_10 : decode cX6_isPart 10 = .ok (.iload_n 0, 1) := by decide +kernel
theorem dX6_isPart_11 : decode cX6_isPart 11 = .ok (.iload_n 0, 1) := by decide +kernel
theorem dX6_isPart_12 : decode cX6_isPart 12 = .ok (.iconst 1, 1) := by decide +kernel
theorem dX6_isPart_13 : decode cX6_isPart 13 = .ok (.isub, 1) := by decide +kernel
theorem dX6_isPart_14 : decode cX6_isPart 14 = .ok (.iand, 1) := by decide +kernel
theorem dX6_isPart_15 : decode cX6_isPart 15 = .ok (.ifCond .ne 7, 3) := by decide +kernel
theorem dX6_isPart_18 : decode cX6_isPart 18 = .ok (.iconst 1, 1) := by decide +kernel
theorem dX6_isPart_19 : decode cX6_isPart 19 = .ok (.goto 4, 3) := by decide +kernel
theorem dX6_isPart_22 : decode cX6_isPart 22 = .ok (.iconst 0, 1) := by decide +kernel
theorem dX6_isPart_23 : decode cX6_isPart 23 = .ok (.ireturn, 1) := by decide +kernel
theorem dX6_isInsurance_0 : decode cX6_isInsurance 0 = .ok (.iload_n 0, 1) := by decide +kernel
theorem dX6_isInsurance_1 : decode cX6_isInsurance 1 = .ok (.iconst 1, 1) := by decide +kernel
theorem dX6_isInsurance_2 : decode cX6_isInsurance 2 = .ok (.iconst 5, 1) := by decide +kernel
theorem dX6_isInsurance_3 : decode cX6_isInsurance 3 = .ok (.invokestatic 34, 3) := by decide +kernel
theorem dX6_isInsurance_6 : decode cX6_isInsurance 6 = .ok (.ifCond .eq 17, 3) := by decide +kernel
theorem dX6_isInsurance_9 : decode cX6_isInsurance 9 = .ok (.iload_n 1, 1) := by decide +kernel
theorem dX6_isInsurance_10 : decode cX6_isInsurance 10 = .ok (.iconst 1, 1) := by decide +kernel
theorem dX6_isInsurance_11 : decode cX6_isInsurance 11 = .ok (.bipush 60, 2) := by decide +kernel
theorem dX6_isInsurance_13 : decode cX6_isInsurance 13 = .ok (.invokestatic 34, 3) := by decide +kernel
theorem dX6_isInsurance_16 : decode cX6_isInsurance 16 = .ok (.ifCond .eq 7, 3) := by decide +kernel
theorem dX6_isInsurance_19 : decode cX6_isInsurance 19 = .ok (.iconst 1, 1) := by decide +kernel
theorem dX6_isInsurance_20 : decode cX6_isInsurance 20 = .ok (.goto 4, 3) := by decide +kernel
theorem dX6_isInsurance_23 : decode cX6_isInsurance 23 = .ok (.iconst 0, 1) := by decide +kernel
theorem dX6_isInsurance_24 : decode cX6_isInsurance 24 = .ok (.ireturn, 1) := by decide +kernel
theorem dX6_rehearsalsNeeded_0 : decode cX6_rehearsalsNeeded 0 = .ok (.iload_n 0, 1) := by decide +kernel
theorem dX6_rehearsalsNeeded_1 : decode cX6_rehearsalsNeeded 1 = .ok (.tableswitch 49 1 4 #[31, 35, 39, 43], 31) := by decide +kernel
theorem dX6_rehearsalsNeeded_32 : decode cX6_rehearsalsNeeded 32 = .ok (.iload_n 1, 1) := by decide +kernel
theorem dX6_rehearsalsNeeded_33 : decode cX6_rehearsalsNeeded 33 = .ok (.iconst 1, 1) := by decide +kernel
theorem dX6_rehearsalsNeeded_34 : decode cX6_rehearsalsNeeded 34 = .ok (.iadd, 1) := by decide +kernel
theorem dX6_rehearsalsNeeded_35 : decode cX6_rehearsalsNeeded 35 = .ok (.ireturn, 1) := by decide +kernel
theorem dX6_rehearsalsNeeded_36 : decode cX6_rehearsalsNeeded 36 = .ok (.iconst 2, 1) := by decide +kernel
theorem dX6_rehearsalsNeeded_37 : decode cX6_rehearsalsNeeded 37 = .ok (.iload_n 1, 1) := by decide +kernel
theorem dX6_rehearsalsNeeded_38 : decode cX6_rehearsalsNeeded 38 = .ok (.imul, 1) := by decide +kernel
theorem dX6_rehearsalsNeeded_39 : decode cX6_rehearsalsNeeded 39 = .ok (.ireturn, 1) := by decide +kernel
theorem dX6_rehearsalsNeeded_40 : decode cX6_rehearsalsNeeded 40 = .ok (.iload_n 1, 1) := by decide +kernel
theorem dX6_rehearsalsNeeded_41 : decode cX6_rehearsalsNeeded 41 = .ok (.iconst 2, 1) := by decide +kernel
theorem dX6_rehearsalsNeeded_42 : decode cX6_rehearsalsNeeded 42 = .ok (.iadd, 1) := by decide +kernel
theorem dX6_rehearsalsNeeded_43 : decode cX6_rehearsalsNeeded 43 = .ok (.ireturn, 1) := by decide +kernel
theorem dX6_rehearsalsNeeded_44 : decode cX6_rehearsalsNeeded 44 = .ok (.iload_n 1, 1) := by decide +kernel
theorem dX6_rehearsalsNeeded_45 : decode cX6_rehearsalsNeeded 45 = .ok (.iconst 2, 1) := by decide +kernel
theorem dX6_rehearsalsNeeded_46 : decode cX6_rehearsalsNeeded 46 = .ok (.idiv, 1) := by decide +kernel
theorem dX6_rehearsalsNeeded_47 : decode cX6_rehearsalsNeeded 47 = .ok (.iconst 1, 1) := by decide +kernel
theorem dX6_rehearsalsNeeded_48 : decode cX6_rehearsalsNeeded 48 = .ok (.iadd, 1) := by decide +kernel
theorem dX6_rehearsalsNeeded_49 : decode cX6_rehearsalsNeeded 49 = .ok (.ireturn, 1) := by decide +kernel
theorem dX6_rehearsalsNeeded_50 : decode cX6_rehearsalsNeeded 50 = .ok (.iload_n 1, 1) := by decide +kernel
theorem dX6_rehearsalsNeeded_51 : decode cX6_rehearsalsNeeded 51 = .ok (.ireturn, 1) := by decide +kernel
theorem dX6_barsKind_0 : decode cX6_barsKind 0 = .ok (.iload_n 0, 1) := by decide +kernel
theorem dX6_barsKind_1 : decode cX6_barsKind 1 = .ok (.getstatic 176, 3) := by decide +kernel
theorem dX6_barsKind_4 : decode cX6_barsKind 4 = .ok (.iload_n 1, 1) := by decide +kernel
theorem dX6_barsKind_5 : decode cX6_barsKind 5 = .ok (.invokestatic 172, 3) := by decide +kernel
theorem dX6_barsKind_8 : decode cX6_barsKind 8 = .ok (.iand, 1) := by decide +kernel
theorem dX6_barsKind_9 : decode cX6_barsKind 9 = .ok (.ifCond .eq 7, 3) := by decide +kernel
theorem dX6_barsKind_12 : decode cX6_barsKind 12 = .ok (.iconst 1, 1) := by decide +kernel
theorem dX6_barsKind_13 : decode cX6_barsKind 13 = .ok (.goto 4, 3) := by decide +kernel
theorem dX6_barsKind_16 : decode cX6_barsKind 16 = .ok (.iconst 0, 1) := by decide +kernel
theorem dX6_barsKind_17 : decode cX6_barsKind 17 = .ok (.ireturn, 1) := by decide +kernel
theorem dX6_at_0 : decode cX6_at 0 = .ok (.aload_n 0, 1) := by decide +kernel
theorem dX6_at_1 : decode cX6_at 1 = .ok (.ifnull 19, 3) := by decide +kernel
theorem dX6_at_4 : decode cX6_at 4 = .ok (.iload_n 1, 1) := by decide +kernel
theorem dX6_at_5 : decode cX6_at 5 = .ok (.ifCond .lt 15, 3) := by decide +kernel
theorem dX6_at_8 : decode cX6_at 8 = .ok (.iload_n 1, 1) := by decide +kernel
theorem dX6_at_9 : decode cX6_at 9 = .ok (.aload_n 0, 1) := by decide +kernel
theorem dX6_at_10 : decode cX6_at 10 = .ok (.arraylength, 1) := by decide +kernel
theorem dX6_at_11 : decode cX6_at 11 = .ok (.if_icmp .ge 9, 3) := by decide +kernel
theorem dX6_at_14 : decode cX6_at 14 = .ok (.aload_n 0, 1) := by decide +kernel
theorem dX6_at_15 : decode cX6_at 15 = .ok (.iload_n 1, 1) := by decide +kernel
theorem dX6_at_16 : decode cX6_at 16 = .ok (.iaload, 1) := by decide +kernel
theorem dX6_at_17 : decode cX6_at 17 = .ok (.goto 4, 3) := by decide +kernel
theorem dX6_at_20 : decode cX6_at 20 = .ok (.iconst 0, 1) := by decide +kernel
theorem dX6_at_21 : decode cX6_at 21 = .ok (.ireturn, 1) := by decide +kernel
theorem dX6_put_0 : decode cX6_put 0 = .ok (.aload_n 0, 1) := by decide +kernel
theorem dX6_put_1 : decode cX6_put 1 = .ok (.ifnull 17, 3) := by decide +kernel
theorem dX6_put_4 : decode cX6_put 4 = .ok (.iload_n 1, 1) := by decide +kernel
theorem dX6_put_5 : decode cX6_put 5 = .ok (.ifCond .lt 13, 3) := by decide +kernel
theorem dX6_put_8 : decode cX6_put 8 = .ok (.iload_n 1, 1) := by decide +kernel
theorem dX6_put_9 : decode cX6_put 9 = .ok (.aload_n 0, 1) := by decide +kernel
theorem dX6_put_10 : decode cX6_put 10 = .ok (.arraylength, 1) := by decide +kernel
theorem dX6_put_11 : decode cX6_put 11 = .ok (.if_icmp .ge 7, 3) := by decide +kernel
theorem dX6_put_14 : decode cX6_put 14 = .ok (.aload_n 0, 1) := by decide +kernel
theorem dX6_put_15 : decode cX6_put 15 = .ok (.iload_n 1, 1) := by decide +kernel
theorem dX6_put_16 : decode cX6_put 16 = .ok (.iload_n 2, 1) := by decide +kernel
theorem dX6_put_17 : decode cX6_put 17 = .ok (.iastore, 1) := by decide +kernel
theorem dX6_put_18 : decode cX6_put 18 = .ok (.return_, 1) := by decide +kernel
theorem dX6_copyRow_0 : decode cX6_copyRow 0 = .ok (.aload_n 0, 1) := by decide +kernel
theorem dX6_copyRow_1 : decode cX6_copyRow 1 = .ok (.ifnull 7, 3) := by decide +kernel
theorem dX6_copyRow_4 : decode cX6_copyRow 4 = .ok (.aload_n 1, 1) := by decide +kernel
theorem dX6_copyRow_5 : decode cX6_copyRow 5 = .ok (.ifnonnull 4, 3) := by decide +kernel
theorem dX6_copyRow_8 : decode cX6_copyRow 8 = .ok (.return_, 1) := by decide +kernel
theorem dX6_copyRow_9 : decode cX6_copyRow 9 = .ok (.iconst 0, 1) := by decide +kernel
theorem dX6_copyRow_10 : decode cX6_copyRow 10 = .ok (.istore_n 2, 1) := by decide +kernel
theorem dX6_copyRow_11 : decode cX6_copyRow 11 = .ok (.iload_n 2, 1) := by decide +kernel
theorem dX6_copyRow_12 : decode cX6_copyRow 12 = .ok (.aload_n 0, 1) := by decide +kernel
theorem dX6_copyRow_13 : decode cX6_copyRow 13 = .ok (.arraylength, 1) := by decide +kernel
theorem dX6_copyRow_14 : decode cX6_copyRow 14 = .ok (.if_icmp .ge 21, 3) := by decide +kernel
theorem dX6_copyRow_17 : decode cX6_copyRow 17 = .ok (.iload_n 2, 1) := by decide +kernel
theorem dX6_copyRow_18 : decode cX6_copyRow 18 = .ok (.aload_n 1, 1) := by decide +kernel
theorem dX6_copyRow_19 : decode cX6_copyRow 19 = .ok (.arraylength, 1) := by decide +kernel
theorem dX6_copyRow_20 : decode cX6_copyRow 20 = .ok (.if_icmp .ge 15, 3) := by decide +kernel
theorem dX6_copyRow_23 : decode cX6_copyRow 23 = .ok (.aload_n 1, 1) := by decide +kernel
theorem dX6_copyRow_24 : decode cX6_copyRow 24 = .ok (.iload_n 2, 1) := by decide +kernel
theorem dX6_copyRow_25 : decode cX6_copyRow 25 = .ok (.aload_n 0, 1) := by decide +kernel
theorem dX6_copyRow_26 : decode cX6_copyRow 26 = .ok (.iload_n 2, 1) := by decide +kernel
theorem dX6_copyRow_27 : decode cX6_copyRow 27 = .ok (.iaload, 1) := by decide +kernel
theorem dX6_copyRow_28 : decode cX6_copyRow 28 = .ok (.iastore, 1) := by decide +kernel
theorem dX6_copyRow_29 : decode cX6_copyRow 29 = .ok (.iinc 2 1, 3) := by decide +kernel
theorem dX6_copyRow_32 : decode cX6_copyRow 32 = .ok (.goto (-21), 3) := by decide +kernel
theorem dX6_copyRow_35 : decode cX6_copyRow 35 = .ok (.return_, 1) := by decide +kernel
theorem dX6_dropFirst_0 : decode cX6_dropFirst 0 = .ok (.aload_n 0, 1) := by decide +kernel
theorem dX6_dropFirst_1 : decode cX6_dropFirst 1 = .ok (.ifnonnull 4, 3) := by decide +kernel
theorem dX6_dropFirst_4 : decode cX6_dropFirst 4 = .ok (.return_, 1) := by decide +kernel
theorem dX6_dropFirst_5 : decode cX6_dropFirst 5 = .ok (.iconst 0, 1) := by decide +kernel
theorem dX6_dropFirst_6 : decode cX6_dropFirst 6 = .ok (.istore_n 1, 1) := by decide +kernel
theorem dX6_dropFirst_7 : decode cX6_dropFirst 7 = .ok (.iload_n 1, 1) := by decide +kernel
theorem dX6_dropFirst_8 : decode cX6_dropFirst 8 = .ok (.iconst 1, 1) := by decide +kernel
theorem dX6_dropFirst_9 : decode cX6_dropFirst 9 = .ok (.iadd, 1) := by decide +kernel
theorem dX6_dropFirst_10 : decode cX6_dropFirst 10 = .ok (.aload_n 0, 1) := by decide +kernel
theorem dX6_dropFirst_11 : decode cX6_dropFirst 11 = .ok (.arraylength, 1) := by decide +kernel
theorem dX6_dropFirst_12 : decode cX6_dropFirst 12 = .ok (.if_icmp .ge 17, 3) := by decide +kernel
theorem dX6_dropFirst_15 : decode cX6_dropFirst 15 = .ok (.aload_n 0, 1) := by decide +kernel
theorem dX6_dropFirst_16 : decode cX6_dropFirst 16 = .ok (.iload_n 1, 1) := by decide +kernel
theorem dX6_dropFirst_17 : decode cX6_dropFirst 17 = .ok (.aload_n 0, 1) := by decide +kernel
theorem dX6_dropFirst_18 : decode cX6_dropFirst 18 = .ok (.iload_n 1, 1) := by decide +kernel
theorem dX6_dropFirst_19 : decode cX6_dropFirst 19 = .ok (.iconst 1, 1) := by decide +kernel
theorem dX6_dropFirst_20 : decode cX6_dropFirst 20 = .ok (.iadd, 1) := by decide +kernel
theorem dX6_dropFirst_21 : decode cX6_dropFirst 21 = .ok (.iaload, 1) := by decide +kernel
theorem dX6_dropFirst_22 : decode cX6_dropFirst 22 = .ok (.iastore, 1) := by decide +kernel
theorem dX6_dropFirst_23 : decode cX6_dropFirst 23 = .ok (.iinc 1 1, 3) := by decide +kernel
theorem dX6_dropFirst_26 : decode cX6_dropFirst 26 = .ok (.goto (-19), 3) := by decide +kernel
theorem dX6_dropFirst_29 : decode cX6_dropFirst 29 = .ok (.return_, 1) := by decide +kernel
