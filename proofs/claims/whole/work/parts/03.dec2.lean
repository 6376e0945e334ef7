theorem dX6_init_0 : decode cX6_init 0 = .ok (.aload_n 0, 1) := by decide +kernel
theorem dX6_init_1 : decode cX6_init 1 = .ok (.invokespecial 1, 3) := by decide +kernel
theorem dX6_init_4 : decode cX6_init 4 = .ok (.aload_n 0, 1) := by decide +kernel
theorem dX6_init_5 : decode cX6_init 5 = .ok (.new 7, 3) := by decide +kernel
theorem dX6_init_8 : decode cX6_init 8 = .ok (.dup, 1) := by decide +kernel
theorem dX6_init_9 : decode cX6_init 9 = .ok (.invokespecial 9, 3) := by decide +kernel
theorem dX6_init_12 : decode cX6_init 12 = .ok (.putfield 10, 3) := by decide +kernel
theorem dX6_init_15 : decode cX6_init 15 = .ok (.aload_n 0, 1) := by decide +kernel
theorem dX6_init_16 : decode cX6_init 16 = .ok (.new 16, 3) := by decide +kernel
theorem dX6_init_19 : decode cX6_init 19 = .ok (.dup, 1) := by decide +kernel
theorem dX6_init_20 : decode cX6_init 20 = .ok (.invokespecial 18, 3) := by decide +kernel
theorem dX6_init_23 : decode cX6_init 23 = .ok (.putfield 19, 3) := by decide +kernel
theorem dX6_init_26 : decode cX6_init 26 = .ok (.aload_n 0, 1) := by decide +kernel
theorem dX6_init_27 : decode cX6_init 27 = .ok (.new 23, 3) := by decide +kernel
theorem dX6_init_30 : decode cX6_init 30 = .ok (.dup, 1) := by decide +kernel
theorem dX6_init_31 : decode cX6_init 31 = .ok (.invokespecial 25, 3) := by decide +kernel
theorem dX6_init_34 : decode cX6_init 34 = .ok (.putfield 26, 3) := by decide +kernel
theorem dX6_init_37 : decode cX6_init 37 = .ok (.return_, 1) := by decide +kernel
theorem dX6_size_0 : decode cX6_size 0 = .ok (.iload_n 1, 1) := by decide +kernel
theorem dX6_size_1 : decode cX6_size 1 = .ok (.invokestatic 30, 3) := by decide +kernel
theorem dX6_size_4 : decode cX6_size 4 = .ok (.iload_n 2, 1) := by decide +kernel
theorem dX6_size_5 : decode cX6_size 5 = .ok (.sipush 150, 3) := by decide +kernel
theorem dX6_size_8 : decode cX6_size 8 = .ok (.sipush 200, 3) := by decide +kernel
theorem dX6_size_11 : decode cX6_size 11 = .ok (.invokestatic 34, 3) := by decide +kernel
theorem dX6_size_14 : decode cX6_size 14 = .ok (.invokestatic 38, 3) := by decide +kernel
theorem dX6_size_17 : decode cX6_size 17 = .ok (.aload_n 0, 1) := by decide +kernel
theorem dX6_size_18 : decode cX6_size 18 = .ok (.getfield 19, 3) := by decide +kernel
theorem dX6_size_21 : decode cX6_size 21 = .ok (.aload_n 0, 1) := by decide +kernel
theorem dX6_size_22 : decode cX6_size 22 = .ok (.getfield 10, 3) := by decide +kernel
theorem dX6_size_25 : decode cX6_size 25 = .ok (.invokevirtual 42, 3) := by decide +kernel
theorem dX6_size_28 : decode cX6_size 28 = .ok (.aload_n 0, 1) := by decide +kernel
theorem dX6_size_29 : decode cX6_size 29 = .ok (.getfield 10, 3) := by decide +kernel
theorem dX6_size_32 : decode cX6_size 32 = .ok (.iload_n 1, 1) := by decide +kernel
theorem dX6_size_33 : decode cX6_size 33 = .ok (.iload_n 2, 1) := by decide +kernel
theorem dX6_size_34 : decode cX6_size 34 = .ok (.invokevirtual 46, 3) := by decide +kernel
theorem dX6_size_37 : decode cX6_size 37 = .ok (.ireturn, 1) := by decide +kernel
theorem dX6_pass_0 : decode cX6_pass 0 = .ok (.iload_n 1, 1) := by decide +kernel
theorem dX6_pass_1 : decode cX6_pass 1 = .ok (.iconst 1, 1) := by decide +kernel
theorem dX6_pass_2 : decode cX6_pass 2 = .ok (.bipush 99, 2) := by decide +kernel
theorem dX6_pass_4 : decode cX6_pass 4 = .ok (.invokestatic 34, 3) := by decide +kernel
theorem dX6_pass_7 : decode cX6_pass 7 = .ok (.invokestatic 38, 3) := by decide +kernel
theorem dX6_pass_10 : decode cX6_pass 10 = .ok (.aload_n 0, 1) := by decide +kernel
theorem dX6_pass_11 : decode cX6_pass 11 = .ok (.getfield 10, 3) := by decide +kernel
theorem dX6_pass_14 : decode cX6_pass 14 = .ok (.iload_n 1, 1) := by decide +kernel
theorem dX6_pass_15 : decode cX6_pass 15 = .ok (.invokevirtual 50, 3) := by decide +kernel
theorem dX6_pass_18 : decode cX6_pass 18 = .ok (.invokestatic 54, 3) := by decide +kernel
theorem dX6_pass_21 : decode cX6_pass 21 = .ok (.aload_n 0, 1) := by decide +kernel
theorem dX6_pass_22 : decode cX6_pass 22 = .ok (.getfield 19, 3) := by decide +kernel
theorem dX6_pass_25 : decode cX6_pass 25 = .ok (.aload_n 0, 1) := by decide +kernel
theorem dX6_pass_26 : decode cX6_pass 26 = .ok (.getfield 10, 3) := by decide +kernel
theorem dX6_pass_29 : decode cX6_pass 29 = .ok (.invokevirtual 42, 3) := by decide +kernel
theorem dX6_pass_32 : decode cX6_pass 32 = .ok (.aload_n 0, 1) := by decide +kernel
theorem dX6_pass_33 : decode cX6_pass 33 = .ok (.getfield 10, 3) := by decide +kernel
theorem dX6_pass_36 : decode cX6_pass 36 = .ok (.iload_n 1, 1) := by decide +kernel
theorem dX6_pass_37 : decode cX6_pass 37 = .ok (.invokevirtual 57, 3) := by decide +kernel
theorem dX6_pass_40 : decode cX6_pass 40 = .ok (.aload_n 0, 1) := by decide +kernel
theorem dX6_pass_41 : decode cX6_pass 41 = .ok (.getfield 10, 3) := by decide +kernel
theorem dX6_pass_44 : decode cX6_pass 44 = .ok (.getfield 60, 3) := by decide +kernel
theorem dX6_pass_47 : decode cX6_pass 47 = .ok (.ireturn, 1) := by decide +kernel
theorem dX6_rehearse_0 : decode cX6_rehearse 0 = .ok (.iload_n 1, 1) := by decide +kernel
theorem dX6_rehearse_1 : decode cX6_rehearse 1 = .ok (.invokestatic 30, 3) := by decide +kernel
theorem dX6_rehearse_4 : decode cX6_rehearse 4 = .ok (.iload_n 2, 1) := by decide +kernel
theorem dX6_rehearse_5 : decode cX6_rehearse 5 = .ok (.invokestatic 64, 3) := by decide +kernel
theorem dX6_rehearse_8 : decode cX6_rehearse 8 = .ok (.iload_n 3, 1) := by decide +kernel
theorem dX6_rehearse_9 : decode cX6_rehearse 9 = .ok (.iconst 1, 1) := by decide +kernel
theorem dX6_rehearse_10 : decode cX6_rehearse 10 = .ok (.iconst 5, 1) := by decide +kernel
theorem dX6_rehearse_11 : decode cX6_rehearse 11 = .ok (.invokestatic 34, 3) := by decide +kernel
theorem dX6_rehearse_14 : decode cX6_rehearse 14 = .ok (.invokestatic 38, 3) := by decide +kernel
theorem dX6_rehearse_17 : decode cX6_rehearse 17 = .ok (.aload_n 0, 1) := by decide +kernel
theorem dX6_rehearse_18 : decode cX6_rehearse 18 = .ok (.getfield 10, 3) := by decide +kernel
theorem dX6_rehearse_21 : decode cX6_rehearse 21 = .ok (.iload_n 1, 1) := by decide +kernel
theorem dX6_rehearse_22 : decode cX6_rehearse 22 = .ok (.iload_n 2, 1) := by decide +kernel
theorem dX6_rehearse_23 : decode cX6_rehearse 23 = .ok (.invokevirtual 67, 3) := by decide +kernel
theorem dX6_rehearse_26 : decode cX6_rehearse 26 = .ok (.invokestatic 54, 3) := by decide +kernel
theorem dX6_rehearse_29 : decode cX6_rehearse 29 = .ok (.aload_n 0, 1) := by decide +kernel
theorem dX6_rehearse_30 : decode cX6_rehearse 30 = .ok (.getfield 19, 3) := by decide +kernel
theorem dX6_rehearse_33 : decode cX6_rehearse 33 = .ok (.aload_n 0, 1) := by decide +kernel
theorem dX6_rehearse_34 : decode cX6_rehearse 34 = .ok (.getfield 10, 3) := by decide +kernel
theorem dX6_rehearse_37 : decode cX6_rehearse 37 = .ok (.invokevirtual 42, 3) := by decide +kernel
theorem dX6_rehearse_40 : decode cX6_rehearse 40 = .ok (.aload_n 0, 1) := by decide +kernel
theorem dX6_rehearse_41 : decode cX6_rehearse 41 = .ok (.getfield 10, 3) := by decide +kernel
theorem dX6_rehearse_44 : decode cX6_rehearse 44 = .ok (.iload_n 1, 1) := by decide +kernel
theorem dX6_rehearse_45 : decode cX6_rehearse 45 = .ok (.iload_n 2, 1) := by decide +kernel
theorem dX6_rehearse_46 : decode cX6_rehearse 46 = .ok (.iload_n 3, 1) := by decide +kernel
theorem dX6_rehearse_47 : decode cX6_rehearse 47 = .ok (.invokevirtual 71, 3) := by decide +kernel
theorem dX6_rehearse_50 : decode cX6_rehearse 50 = .ok (.ifCond .eq 7, 3) := by decide +kernel
theorem dX6_rehearse_53 : decode cX6_rehearse 53 = .ok (.iconst 1, 1) := by decide +kernel
theorem dX6_rehearse_54 : decode cX6_rehearse 54 = .ok (.goto 4, 3) := by decide +kernel
theorem dX6_rehearse_57 : decode cX6_rehearse 57 = .ok (.iconst 0, 1) := by decide +kernel
theorem dX6_rehearse_58 : decode cX6_rehearse 58 = .ok (.ireturn, 1) := by decide +kernel
theorem dX6_hurt_0 : decode cX6_hurt 0 = .ok (.iload_n 1, 1) := by decide +kernel
theorem dX6_hurt_1 : decode cX6_hurt 1 = .ok (.invokestatic 30, 3) := by decide +kernel
theorem dX6_hurt_4 : decode cX6_hurt 4 = .ok (.iload_n 2, 1) := by decide +kernel
theorem dX6_hurt_5 : decode cX6_hurt 5 = .ok (.invokestatic 74, 3) := by decide +kernel
theorem dX6_hurt_8 : decode cX6_hurt 8 = .ok (.ifCond .eq 17, 3) := by decide +kernel
theorem dX6_hurt_11 : decode cX6_hurt 11 = .ok (.iload_n 3, 1) := by decide +kernel
theorem dX6_hurt_12 : decode cX6_hurt 12 = .ok (.iconst 1, 1) := by decide +kernel
theorem dX6_hurt_13 : decode cX6_hurt 13 = .ok (.bipush 60, 2) := by decide +kernel
theorem dX6_hurt_15 : decode cX6_hurt 15 = .ok (.invokestatic 34, 3) := by decide +kernel
theorem dX6_hurt_18 : decode cX6_hurt 18 = .ok (.ifCond .eq 7, 3) := by decide +kernel
theorem dX6_hurt_21 : decode cX6_hurt 21 = .ok (.iconst 1, 1) := by decide +kernel
theorem dX6_hurt_22 : decode cX6_hurt 22 = .ok (.goto 4, 3) := by decide +kernel
theorem dX6_hurt_25 : decode cX6_hurt 25 = .ok (.iconst 0, 1) := by decide +kernel
theorem dX6_hurt_26 : decode cX6_hurt 26 = .ok (.invokestatic 38, 3) := by decide +kernel
theorem dX6_hurt_29 : decode cX6_hurt 29 = .ok (.aload_n 0, 1) := by decide +kernel
theorem dX6_hurt_30 : decode cX6_hurt 30 = .ok (.getfield 19, 3) := by decide +kernel
theorem dX6_hurt_33 : decode cX6_hurt 33 = .ok (.aload_n 0, 1) := by decide +kernel
theorem dX6_hurt_34 : decode cX6_hurt 34 = .ok (.getfield 10, 3) := by decide +kernel
theorem dX6_hurt_37 : decode cX6_hurt 37 = .ok (.invokevirtual 42, 3) := by decide +kernel
theorem dX6_hurt_40 : decode cX6_hurt 40 = .ok (.aload_n 0, 1) := by decide +kernel
theorem dX6_hurt_41 : decode cX6_hurt 41 = .ok (.getfield 10, 3) := by decide +kernel
theorem dX6_hurt_44 : decode cX6_hurt 44 = .ok (.iload_n 1, 1) := by decide +kernel
theorem dX6_hurt_45 : decode cX6_hurt 45 = .ok (.iload_n 2, 1) := by decide +kernel
theorem dX6_hurt_46 : decode cX6_hurt 46 = .ok (.iload_n 3, 1) := by decide +kernel
theorem dX6_hurt_47 : decode cX6_hurt 47 = .ok (.invokevirtual 77, 3) := by decide +kernel
theorem dX6_hurt_50 : decode cX6_hurt 50 = .ok (.aload_n 0, 1) := by decide +kernel
theorem dX6_hurt_51 : decode cX6_hurt 51 = .ok (.getfield 10, 3) := by decide +kernel
theorem dX6_hurt_54 : decode cX6_hurt 54 = .ok (.iload_n 1, 1) := by decide +kernel
theorem dX6_hurt_55 : decode cX6_hurt 55 = .ok (.invokevirtual 81, 3) := by decide +kernel
theorem dX6_hurt_58 : decode cX6_hurt 58 = .ok (.ireturn, 1) := by decide +kernel
theorem dX6_insure_0 : decode cX6_insure 0 = .ok (.iload_n 1, 1) := by decide +kernel
theorem dX6_insure_1 : decode cX6_insure 1 = .ok (.iload_n 2, 1) := by decide +kernel
theorem dX6_insure_2 : decode cX6_insure 2 = .ok (.invokestatic 85, 3) := by decide +kernel
theorem dX6_insure_5 : decode cX6_insure 5 = .ok (.invokestatic 38, 3) := by decide +kernel
theorem dX6_insure_8 : decode cX6_insure 8 = .ok (.aload_n 0, 1) := by decide +kernel
theorem dX6_insure_9 : decode cX6_insure 9 = .ok (.getfield 10, 3) := by decide +kernel
theorem dX6_insure_12 : decode cX6_insure 12 = .ok (.iload_n 1, 1) := by decide +kernel
theorem dX6_insure_13 : decode cX6_insure 13 = .ok (.iload_n 2, 1) := by decide +kernel
theorem dX6_insure_14 : decode cX6_insure 14 = .ok (.invokevirtual 88, 3) := by decide +kernel
theorem dX6_insure_17 : decode cX6_insure 17 = .ok (.aload_n 0, 1) := by decide +kernel
theorem dX6_insure_18 : decode cX6_insure 18 = .ok (.getfield 10, 3) := by decide +kernel
theorem dX6_insure_21 : decode cX6_insure 21 = .ok (.getfield 91, 3) := by decide +kernel
theorem dX6_insure_24 : decode cX6_insure 24 = .ok (.if_icmp .gt 7, 3) := by decide +kernel
theorem dX6_insure_27 : decode cX6_insure 27 = .ok (.iconst 1, 1) := by decide +kernel
theorem dX6_insure_28 : decode cX6_insure 28 = .ok (.goto 4, 3) := by decide +kernel
theorem dX6_insure_31 : decode cX6_insure 31 = .ok (.iconst 0, 1) := by decide +kernel
theorem dX6_insure_32 : decode cX6_insure 32 = .ok (.invokestatic 54, 3) := by decide +kernel
theorem dX6_insure_35 : decode cX6_insure 35 = .ok (.aload_n 0, 1) := by decide +kernel
theorem dX6_insure_36 : decode cX6_insure 36 = .ok (.getfield 19, 3) := by decide +kernel
theorem dX6_insure_39 : decode cX6_insure 39 = .ok (.aload_n 0, 1) := by decide +kernel
theorem dX6_insure_40 : decode cX6_insure 40 = .ok (.getfield 10, 3) := by decide +kernel
theorem dX6_insure_43 : decode cX6_insure 43 = .ok (.invokevirtual 42, 3) := by decide +kernel
theorem dX6_insure_46 : decode cX6_insure 46 = .ok (.aload_n 0, 1) := by decide +kernel
theorem dX6_insure_47 : decode cX6_insure 47 = .ok (.getfield 10, 3) := by decide +kernel
theorem dX6_insure_50 : decode cX6_insure 50 = .ok (.iload_n 1, 1) := by decide +kernel
theorem dX6_insure_51 : decode cX6_insure 51 = .ok (.iload_n 2, 1) := by decide +kernel
theorem dX6_insure_52 : decode cX6_insure 52 = .ok (.invokevirtual 94, 3) := by decide +kernel
theorem dX6_insure_55 : decode cX6_insure 55 = .ok (.aload_n 0, 1) := by decide +kernel
theorem dX6_insure_56 : decode cX6_insure 56 = .ok (.getfield 10, 3) := by decide +kernel
theorem dX6_insure_59 : decode cX6_insure 59 = .ok (.getfield 91, 3) := by decide +kernel
theorem dX6_insure_62 : decode cX6_insure 62 = .ok (.ireturn, 1) := by decide +kernel
theorem dX6_scene_0 : decode cX6_scene 0 = .ok (.iload_n 1, 1) := by decide +kernel
theorem dX6_scene_1 : decode cX6_scene 1 = .ok (.invokestatic 64, 3) := by decide +kernel
theorem dX6_scene_4 : decode cX6_scene 4 = .ok (.iload_n 3, 1) := by decide +kernel
theorem dX6_scene_5 : decode cX6_scene 5 = .ok (.invokestatic 30, 3) := by decide +kernel
theorem dX6_scene_8 : decode cX6_scene 8 = .ok (.iload_n 2, 1) := by decide +kernel
theorem dX6_scene_9 : decode cX6_scene 9 = .ok (.iconst 1, 1) := by decide +kernel
theorem dX6_scene_10 : decode cX6_scene 10 = .ok (.iconst 5, 1) := by decide +kernel
theorem dX6_scene_11 : decode cX6_scene 11 = .ok (.invokestatic 34, 3) := by decide +kernel
theorem dX6_scene_14 : decode cX6_scene 14 = .ok (.invokestatic 38, 3) := by decide +kernel
theorem dX6_scene_17 : decode cX6_scene 17 = .ok (.aload_n 0, 1) := by decide +kernel
theorem dX6_scene_18 : decode cX6_scene 18 = .ok (.getfield 10, 3) := by decide +kernel
theorem dX6_scene_21 : decode cX6_scene 21 = .ok (.getfield 98, 3) := by decide +kernel
theorem dX6_scene_24 : decode cX6_scene 24 = .ok (.getfield 102, 3) := by decide +kernel
theorem dX6_scene_27 : decode cX6_scene 27 = .ok (.bipush 10, 2) := by decide +kernel
theorem dX6_scene_29 : decode cX6_scene 29 = .ok (.if_icmp .ge 7, 3) := by decide +kernel
theorem dX6_scene_32 : decode cX6_scene 32 = .ok (.iconst 1, 1) := by decide +kernel
theorem dX6_scene_33 : decode cX6_scene 33 = .ok (.goto 4, 3) := by decide +kernel
theorem dX6_scene_36 : decode cX6_scene 36 = .ok (.iconst 0, 1) := by decide +kernel
theorem dX6_scene_37 : decode cX6_scene 37 = .ok (.invokestatic 54, 3) := by decide +kernel
theorem dX6_scene_40 : decode cX6_scene 40 = .ok (.aload_n 0, 1) := by decide +kernel
theorem dX6_scene_41 : decode cX6_scene 41 = .ok (.getfield 19, 3) := by decide +kernel
theorem dX6_scene_44 : decode cX6_scene 44 = .ok (.aload_n 0, 1) := by decide +kernel
theorem dX6_scene_45 : decode cX6_scene 45 = .ok (.getfield 10, 3) := by decide +kernel
theorem dX6_scene_48 : decode cX6_scene 48 = .ok (.invokevirtual 42, 3) := by decide +kernel
theorem dX6_scene_51 : decode cX6_scene 51 = .ok (.aload_n 0, 1) := by decide +kernel
theorem dX6_scene_52 : decode cX6_scene 52 = .ok (.getfield 10, 3) := by decide +kernel
theorem dX6_scene_55 : decode cX6_scene 55 = .ok (.getfield 98, 3) := by decide +kernel
theorem dX6_scene_58 : decode cX6_scene 58 = .ok (.iload_n 1, 1) := by decide +kernel
theorem dX6_scene_59 : decode cX6_scene 59 = .ok (.iload_n 2, 1) := by decide +kernel
theorem dX6_scene_60 : decode cX6_scene 60 = .ok (.iload_n 3, 1) := by decide +kernel
theorem dX6_scene_61 : decode cX6_scene 61 = .ok (.invokevirtual 107, 3) := by decide +kernel
theorem dX6_scene_64 : decode cX6_scene 64 = .ok (.ireturn, 1) := by decide +kernel
theorem dX6_shoot_0 : decode cX6_shoot 0 = .ok (.aload_n 0, 1) := by decide +kernel
theorem dX6_shoot_1 : decode cX6_shoot 1 = .ok (.iload_n 1, 1) := by decide +kernel
theorem dX6_shoot_2 : decode cX6_shoot 2 = .ok (.invokevirtual 111, 3) := by decide +kernel
theorem dX6_shoot_5 : decode cX6_shoot 5 = .ok (.iload_n 2, 1) := by decide +kernel
theorem dX6_shoot_6 : decode cX6_shoot 6 = .ok (.invokestatic 30, 3) := by decide +kernel
theorem dX6_shoot_9 : decode cX6_shoot 9 = .ok (.aload_n 0, 1) := by decide +kernel
theorem dX6_shoot_10 : decode cX6_shoot 10 = .ok (.getfield 10, 3) := by decide +kernel
theorem dX6_shoot_13 : decode cX6_shoot 13 = .ok (.iload_n 1, 1) := by decide +kernel
theorem dX6_shoot_14 : decode cX6_shoot 14 = .ok (.iload_n 2, 1) := by decide +kernel
theorem dX6_shoot_15 : decode cX6_shoot 15 = .ok (.invokevirtual 114, 3) := by decide +kernel
theorem dX6_shoot_18 : decode cX6_shoot 18 = .ok (.invokestatic 54, 3) := by decide +kernel
theorem dX6_shoot_21 : decode cX6_shoot 21 = .ok (.aload_n 0, 1) := by decide +kernel
theorem dX6_shoot_22 : decode cX6_shoot 22 = .ok (.getfield 19, 3) := by decide +kernel
theorem dX6_shoot_25 : decode cX6_shoot 25 = .ok (.aload_n 0, 1) := by decide +kernel
theorem dX6_shoot_26 : decode cX6_shoot 26 = .ok (.getfield 10, 3) := by decide +kernel
theorem dX6_shoot_29 : decode cX6_shoot 29 = .ok (.invokevirtual 42, 3) := by decide +kernel
theorem dX6_shoot_32 : decode cX6_shoot 32 = .ok (.aload_n 0, 1) := by decide +kernel
theorem dX6_shoot_33 : decode cX6_shoot 33 = .ok (.getfield 10, 3) := by decide +kernel
theorem dX6_shoot_36 : decode cX6_shoot 36 = .ok (.iload_n 1, 1) := by decide +kernel
theorem dX6_shoot_37 : decode cX6_shoot 37 = .ok (.iload_n 2, 1) := by decide +kernel
theorem dX6_shoot_38 : decode cX6_shoot 38 = .ok (.invokevirtual 117, 3) := by decide +kernel
theorem dX6_shoot_41 : decode cX6_shoot 41 = .ok (.aload_n 0, 1) := by decide +kernel
theorem dX6_shoot_42 : decode cX6_shoot 42 = .ok (.getfield 10, 3) := by decide +kernel
theorem dX6_shoot_45 : decode cX6_shoot 45 = .ok (.getfield 98, 3) := by decide +kernel
theorem dX6_shoot_48 : decode cX6_shoot 48 = .ok (.iload_n 1, 1) := by decide +kernel
theorem dX6_shoot_49 : decode cX6_shoot 49 = .ok (.invokevirtual 120, 3) := by decide +kernel
theorem dX6_shoot_52 : decode cX6_shoot 52 = .ok (.ifCond .eq 7, 3) := by decide +kernel
theorem dX6_shoot_55 : decode cX6_shoot 55 = .ok (.iconst 1, 1) := by decide +kernel
theorem dX6_shoot_56 : decode cX6_shoot 56 = .ok (.goto 4, 3) := by decide +kernel
theorem dX6_shoot_59 : decode cX6_shoot 59 = .ok (.iconst 0, 1) := by decide +kernel
theorem dX6_shoot_60 : decode cX6_shoot 60 = .ok (.ireturn, 1) := by decide +kernel
theorem dX6_append_0 : decode cX6_append 0 = .ok (.iload_n 1, 1) := by decide +kernel
theorem dX6_append_1 : decode cX6_append 1 = .ok (.bipush 33, 2) := by decide +kernel
theorem dX6_append_3 : decode cX6_append 3 = .ok (.bipush 126, 2) := by decide +kernel
theorem dX6_append_5 : decode cX6_append 5 = .ok (.invokestatic 34, 3) := by decide +kernel
theorem dX6_append_8 : decode cX6_append 8 = .ok (.invokestatic 38, 3) := by decide +kernel
theorem dX6_append_11 : decode cX6_append 11 = .ok (.aload_n 0, 1) := by decide +kernel
theorem dX6_append_12 : decode cX6_append 12 = .ok (.getfield 26, 3) := by decide +kernel
theorem dX6_append_15 : decode cX6_append 15 = .ok (.getfield 123, 3) := by decide +kernel
theorem dX6_append_18 : decode cX6_append 18 = .ok (.bipush 60, 2) := by decide +kernel
theorem dX6_append_20 : decode cX6_append 20 = .ok (.if_icmp .ge 7, 3) := by decide +kernel
theorem dX6_append_23 : decode cX6_append 23 = .ok (.iconst 1, 1) := by decide +kernel
theorem dX6_append_24 : decode cX6_append 24 = .ok (.goto 4, 3) := by decide +kernel
theorem dX6_append_27 : decode cX6_append 27 = .ok (.iconst 0, 1) := by decide +kernel
theorem dX6_append_28 : decode cX6_append 28 = .ok (.invokestatic 54, 3) := by decide +kernel
theorem dX6_append_31 : decode cX6_append 31 = .ok (.aload_n 0, 1) := by decide +kernel
theorem dX6_append_32 : decode cX6_append 32 = .ok (.getfield 26, 3) := by decide +kernel
theorem dX6_append_35 : decode cX6_append 35 = .ok (.iload_n 1, 1) := by decide +kernel
theorem dX6_append_36 : decode cX6_append 36 = .ok (.invokevirtual 126, 3) := by decide +kernel
theorem dX6_append_39 : decode cX6_append 39 = .ok (.aload_n 0, 1) := by decide +kernel
theorem dX6_append_40 : decode cX6_append 40 = .ok (.getfield 26, 3) := by decide +kernel
theorem dX6_append_43 : decode cX6_append 43 = .ok (.getfield 123, 3) := by decide +kernel
theorem dX6_append_46 : decode cX6_append 46 = .ok (.ireturn, 1) := by decide +kernel
theorem dX6_clearBuffer_0 : decode cX6_clearBuffer 0 = .ok (.aload_n 0, 1) := by decide +kernel
theorem dX6_clearBuffer_1 : decode cX6_clearBuffer 1 = .ok (.getfield 26, 3) := by decide +kernel
theorem dX6_clearBuffer_4 : decode cX6_clearBuffer 4 = .ok (.getfield 123, 3) := by decide +kernel
theorem dX6_clearBuffer_7 : decode cX6_clearBuffer 7 = .ok (.istore_n 1, 1) := by decide +kernel
theorem dX6_clearBuffer_8 : decode cX6_clearBuffer 8 = .ok (.aload_n 0, 1) := by decide +kernel
theorem dX6_clearBuffer_9 : decode cX6_clearBuffer 9 = .ok (.getfield 26, 3) := by decide +kernel
theorem dX6_clearBuffer_12 : decode cX6_clearBuffer 12 = .ok (.invokevirtual 129, 3) := by decide +kernel
theorem dX6_clearBuffer_15 : decode cX6_clearBuffer 15 = .ok (.iload_n 1, 1) := by decide +kernel
theorem dX6_clearBuffer_16 : decode cX6_clearBuffer 16 = .ok (.ireturn, 1) := by decide +kernel
theorem dX6_firstError_0 : decode cX6_firstError 0 = .ok (.aload_n 0, 1) := by decide +kernel
theorem dX6_firstError_1 : decode cX6_firstError 1 = .ok (.getfield 26, 3) := by decide +kernel
theorem dX6_firstError_4 : decode cX6_firstError 4 = .ok (.invokevirtual 132, 3) := by decide +kernel
theorem dX6_firstError_7 : decode cX6_firstError 7 = .ok (.ireturn, 1) := by decide +kernel
theorem dX6_play_0 : decode cX6_play 0 = .ok (.aload_n 0, 1) := by decide +kernel
theorem dX6_play_1 : decode cX6_play 1 = .ok (.getfield 26, 3) := by decide +kernel
theorem dX6_play_4 : decode cX6_play 4 = .ok (.invokevirtual 136, 3) := by decide +kernel
theorem dX6_play_7 : decode cX6_play 7 = .ok (.invokestatic 38, 3) := by decide +kernel
theorem dX6_play_10 : decode cX6_play 10 = .ok (.aload_n 0, 1) := by decide +kernel
theorem dX6_play_11 : decode cX6_play 11 = .ok (.getfield 19, 3) := by decide +kernel
theorem dX6_play_14 : decode cX6_play 14 = .ok (.aload_n 0, 1) := by decide +kernel
theorem dX6_play_15 : decode cX6_play 15 = .ok (.getfield 10, 3) := by decide +kernel
theorem dX6_play_18 : decode cX6_play 18 = .ok (.invokevirtual 42, 3) := by decide +kernel
theorem dX6_play_21 : decode cX6_play 21 = .ok (.iconst 0, 1) := by decide +kernel
theorem dX6_play_22 : decode cX6_play 22 = .ok (.istore_n 1, 1) := by decide +kernel
theorem dX6_play_23 : decode cX6_play 23 = .ok (.iconst 1, 1) := by decide +kernel
theorem dX6_play_24 : decode cX6_play 24 = .ok (.istore_n 2, 1) := by decide +kernel
theorem dX6_play_25 : decode cX6_play 25 = .ok (.aload_n 0, 1) := by decide +kernel
theorem dX6_play_26 : decode cX6_play 26 = .ok (.getfield 26, 3) := by decide +kernel
theorem dX6_play_29 : decode cX6_play 29 = .ok (.getfield 123, 3) := by decide +kernel
theorem dX6_play_32 : decode cX6_play 32 = .ok (.istore_n 3, 1) := by decide +kernel
theorem dX6_play_33 : decode cX6_play 33 = .ok (.iconst 0, 1) := by decide +kernel
theorem dX6_play_34 : decode cX6_play 34 = .ok (.istore 4, 2) := by decide +kernel
theorem dX6_play_36 : decode cX6_play 36 = .ok (.iload 4, 2) := by decide +kernel
theorem dX6_play_38 : decode cX6_play 38 = .ok (.iload_n 3, 1) := by decide +kernel
theorem dX6_play_39 : decode cX6_play 39 = .ok (.if_icmp .ge 44, 3) := by decide +kernel
theorem dX6_play_42 : decode cX6_play 42 = .ok (.iload_n 2, 1) := by decide +kernel
theorem dX6_play_43 : decode cX6_play 43 = .ok (.ifCond .eq 40, 3) := by decide +kernel
theorem dX6_play_46 : decode cX6_play 46 = .ok (.aload_n 0, 1) := by decide +kernel
theorem dX6_play_47 : decode cX6_play 47 = .ok (.getfield 26, 3) := by decide +kernel
theorem dX6_play_50 : decode cX6_play 50 = .ok (.iload 4, 2) := by decide +kernel
theorem dX6_play_52 : decode cX6_play 52 = .ok (.invokevirtual 140, 3) := by decide +kernel
theorem dX6_play_55 : decode cX6_play 55 = .ok (.ifCond .eq 22, 3) := by decide +kernel
theorem dX6_play_58 : decode cX6_play 58 = .ok (.aload_n 0, 1) := by decide +kernel
theorem dX6_play_59 : decode cX6_play 59 = .ok (.iload 4, 2) := by decide +kernel
theorem dX6_play_61 : decode cX6_play 61 = .ok (.invokevirtual 143, 3) := by decide +kernel
theorem dX6_play_64 : decode cX6_play 64 = .ok (.istore_n 2, 1) := by decide +kernel
theorem dX6_play_65 : decode cX6_play 65 = .ok (.iload_n 1, 1) := by decide +kernel
theorem dX6_play_66 : decode cX6_play 66 = .ok (.iload_n 2, 1) := by decide +kernel
theorem dX6_play_67 : decode cX6_play 67 = .ok (.ifCond .eq 7, 3) := by decide +kernel
theorem dX6_play_70 : decode cX6_play 70 = .ok (.iconst 1, 1) := by decide +kernel
theorem dX6_play_71 : decode cX6_play 71 = .ok (.goto 4, 3) := by decide +kernel
theorem dX6_play_74 : decode cX6_play 74 = .ok (.iconst 0, 1) := by decide +kernel
theorem dX6_play_75 : decode cX6_play 75 = .ok (.iadd, 1) := by decide +kernel
theorem dX6_play_76 : decode cX6_play 76 = .ok (.istore_n 1, 1) := by decide +kernel
theorem dX6_play_77 : decode cX6_play 77 = .ok (.iinc 4 1, 3) := by decide +kernel
theorem dX6_play_80 : decode cX6_play 80 = .ok (.goto (-44), 3) := by decide +kernel
theorem dX6_play_83 : decode cX6_play 83 = .ok (.aload_n 0, 1) := by decide +kernel
theorem dX6_play_84 : decode cX6_play 84 = .ok (.getfield 26, 3) := by decide +kernel
theorem dX6_play_87 : decode cX6_play 87 = .ok (.invokevirtual 129, 3) := by decide +kernel
theorem dX6_play_90 : decode cX6_play 90 = .ok (.iload_n 1, 1) := by decide +kernel
theorem dX6_play_91 : decode cX6_play 91 = .ok (.ireturn, 1) := by decide +kernel
theorem dX6_undo_0 : decode cX6_undo 0 = .ok (.aload_n 0, 1) := by decide +kernel
theorem dX6_undo_1 : decode cX6_undo 1 = .ok (.getfield 19, 3) := by decide +kernel
theorem dX6_undo_4 : decode cX6_undo 4 = .ok (.getfield 146, 3) := by decide +kernel
theorem dX6_undo_7 : decode cX6_undo 7 = .ok (.ifCond .le 7, 3) := by decide +kernel
theorem dX6_undo_10 : decode cX6_undo 10 = .ok (.iconst 1, 1) := by decide +kernel
theorem dX6_undo_11 : decode cX6_undo 11 = .ok (.goto 4, 3) := by decide +kernel
theorem dX6_undo_14 : decode cX6_undo 14 = .ok (.iconst 0, 1) := by decide +kernel
theorem dX6_undo_15 : decode cX6_undo 15 = .ok (.invokestatic 54, 3) := by decide +kernel
theorem dX6_undo_18 : decode cX6_undo 18 = .ok (.aload_n 0, 1) := by decide +kernel
theorem dX6_undo_19 : decode cX6_undo 19 = .ok (.getfield 19, 3) := by decide +kernel
theorem dX6_undo_22 : decode cX6_undo 22 = .ok (.aload_n 0, 1) := by decide +kernel
theorem dX6_undo_23 : decode cX6_undo 23 = .ok (.getfield 10, 3) := by decide +kernel
theorem dX6_undo_26 : decode cX6_undo 26 = .ok (.invokevirtual 149, 3) := by decide +kernel
theorem dX6_undo_29 : decode cX6_undo 29 = .ok (.aload_n 0, 1) := by decide +kernel
theorem dX6_undo_30 : decode cX6_undo 30 = .ok (.getfield 19, 3) := by decide +kernel
theorem dX6_undo_33 : decode cX6_undo 33 = .ok (.getfield 146, 3) := by decide +kernel
theorem dX6_undo_36 : decode cX6_undo 36 = .ok (.ireturn, 1) := by decide +kernel
theorem dX6_person_0 : decode cX6_person 0 = .ok (.iload_n 1, 1) := by decide +kernel
theorem dX6_person_1 : decode cX6_person 1 = .ok (.invokestatic 30, 3) := by decide +kernel
theorem dX6_person_4 : decode cX6_person 4 = .ok (.iload_n 2, 1) := by decide +kernel
theorem dX6_person_5 : decode cX6_person 5 = .ok (.iconst 0, 1) := by decide +kernel
theorem dX6_person_6 : decode cX6_person 6 = .ok (.bipush 6, 2) := by decide +kernel
theorem dX6_person_8 : decode cX6_person 8 = .ok (.invokestatic 34, 3) := by decide +kernel
theorem dX6_person_11 : decode cX6_person 11 = .ok (.invokestatic 38, 3) := by decide +kernel
theorem dX6_person_14 : decode cX6_person 14 = .ok (.aload_n 0, 1) := by decide +kernel
theorem dX6_person_15 : decode cX6_person 15 = .ok (.getfield 10, 3) := by decide +kernel
theorem dX6_person_18 : decode cX6_person 18 = .ok (.iload_n 1, 1) := by decide +kernel
theorem dX6_person_19 : decode cX6_person 19 = .ok (.iload_n 2, 1) := by decide +kernel
theorem dX6_person_20 : decode cX6_person 20 = .ok (.invokevirtual 152, 3) := by decide +kernel
theorem dX6_person_23 : decode cX6_person 23 = .ok (.ireturn, 1) := by decide +kernel
theorem dX6_rehearsed_0 : decode cX6_rehearsed 0 = .ok (.iload_n 1, 1) := by decide +kernel
theorem dX6_rehearsed_1 : decode cX6_rehearsed 1 = .ok (.invokestatic 30, 3) := by decide +kernel
theorem dX6_rehearsed_4 : decode cX6_rehearsed 4 = .ok (.iload_n 2, 1) := by decide +kernel
theorem dX6_rehearsed_5 : decode cX6_rehearsed 5 = .ok (.invokestatic 64, 3) := by decide +kernel
theorem dX6_rehearsed_8 : decode cX6_rehearsed 8 = .ok (.iload_n 3, 1) := by decide +kernel
theorem dX6_rehearsed_9 : decode cX6_rehearsed 9 = .ok (.iconst 1, 1) := by decide +kernel
theorem dX6_rehearsed_10 : decode cX6_rehearsed 10 = .ok (.iconst 5, 1) := by decide +kernel
theorem dX6_rehearsed_11 : decode cX6_rehearsed 11 = .ok (.invokestatic 34, 3) := by decide +kernel
theorem dX6_rehearsed_14 : decode cX6_rehearsed 14 = .ok (.invokestatic 38, 3) := by decide +kernel
theorem dX6_rehearsed_17 : decode cX6_rehearsed 17 = .ok (.aload_n 0, 1) := by decide +kernel
theorem dX6_rehearsed_18 : decode cX6_rehearsed 18 = .ok (.getfield 10, 3) := by decide +kernel
theorem dX6_rehearsed_21 : decode cX6_rehearsed 21 = .ok (.getfield 155, 3) := by decide +kernel
theorem dX6_rehearsed_24 : decode cX6_rehearsed 24 = .ok (.aload_n 0, 1) := by decide +kernel
theorem dX6_rehearsed_25 : decode cX6_rehearsed 25 = .ok (.getfield 10, 3) := by decide +kernel
theorem dX6_rehearsed_28 : decode cX6_rehearsed 28 = .ok (.getfield 60, 3) := by decide +kernel
theorem dX6_rehearsed_31 : decode cX6_rehearsed 31 = .ok (.iload_n 1, 1) := by decide +kernel
theorem dX6_rehearsed_32 : decode cX6_rehearsed 32 = .ok (.iload_n 2, 1) := by decide +kernel
theorem dX6_rehearsed_33 : decode cX6_rehearsed 33 = .ok (.iload_n 3, 1) := by decide +kernel
theorem dX6_rehearsed_34 : decode cX6_rehearsed 34 = .ok (.invokevirtual 159, 3) := by decide +kernel
theorem dX6_rehearsed_37 : decode cX6_rehearsed 37 = .ok (.ireturn, 1) := by decide +kernel
theorem dX6_kind_0 : decode cX6_kind 0 = .ok (.iload_n 1, 1) := by decide +kernel
theorem dX6_kind_1 : decode cX6_kind 1 = .ok (.invokestatic 64, 3) := by decide +kernel
theorem dX6_kind_4 : decode cX6_kind 4 = .ok (.iload_n 2, 1) := by decide +kernel
theorem dX6_kind_5 : decode cX6_kind 5 = .ok (.iconst 1, 1) := by decide +kernel
theorem dX6_kind_6 : decode cX6_kind 6 = .ok (.iconst 5, 1) := by decide +kernel
theorem dX6_kind_7 : decode cX6_kind 7 = .ok (.invokestatic 34, 3) := by decide +kernel
theorem dX6_kind_10 : decode cX6_kind 10 = .ok (.ifCond .eq 16, 3) := by decide +kernel
theorem dX6_kind_13 : decode cX6_kind 13 = .ok (.iload_n 3, 1) := by decide +kernel
theorem dX6_kind_14 : decode cX6_kind 14 = .ok (.iconst 0, 1) := by decide +kernel
theorem dX6_kind_15 : decode cX6_kind 15 = .ok (.iconst 2, 1) := by decide +kernel
theorem dX6_kind_16 : decode cX6_kind 16 = .ok (.invokestatic 34, 3) := by decide +kernel
theorem dX6_kind_19 : decode cX6_kind 19 = .ok (.ifCond .eq 7, 3) := by decide +kernel
theorem dX6_kind_22 : decode cX6_kind 22 = .ok (.iconst 1, 1) := by decide +kernel
theorem dX6_kind_23 : decode cX6_kind 23 = .ok (.goto 4, 3) := by decide +kernel
theorem dX6_kind_26 : decode cX6_kind 26 = .ok (.iconst 0, 1) := by decide +kernel
theorem dX6_kind_27 : decode cX6_kind 27 = .ok (.invokestatic 38, 3) := by decide +kernel
theorem dX6_kind_30 : decode cX6_kind 30 = .ok (.iload_n 3, 1) := by decide +kernel
theorem dX6_kind_31 : decode cX6_kind 31 = .ok (.lookupswitch 39 #[(0, 25), (1, 31)], 25) := by decide +kernel
theorem dX6_kind_56 : decode cX6_kind 56 = .ok (.iload_n 1, 1) := by decide +kernel
theorem dX6_kind_57 : decode cX6_kind 57 = .ok (.iload_n 2, 1) := by decide +kernel
theorem dX6_kind_58 : decode cX6_kind 58 = .ok (.invokestatic 165, 3) := by decide +kernel
theorem dX6_kind_61 : decode cX6_kind 61 = .ok (.ireturn, 1) := by decide +kernel
theorem dX6_kind_62 : decode cX6_kind 62 = .ok (.getstatic 168, 3) := by decide +kernel
theorem dX6_kind_65 : decode cX6_kind 65 = .ok (.iload_n 1, 1) := by decide +kernel
theorem dX6_kind_66 : decode cX6_kind 66 = .ok (.invokestatic 172, 3) := by decide +kernel
theorem dX6_kind_69 : decode cX6_kind 69 = .ok (.ireturn, 1) := by decide +kernel
theorem dX6_kind_70 : decode cX6_kind 70 = .ok (.getstatic 176, 3) := by decide +kernel
theorem dX6_kind_73 : decode cX6_kind 73 = .ok (.iload_n 1, 1) := by decide +kernel
theorem dX6_kind_74 : decode cX6_kind 74 = .ok (.invokestatic 172, 3) := by decide +kernel
theorem dX6_kind_77 : decode cX6_kind 77 = .ok (.ireturn, 1) := by decide +kernel
theorem dX6_sceneOf_0 : decode cX6_sceneOf 0 = .ok (.aload_n 0, 1) := by decide +kernel
theorem dX6_sceneOf_1 : decode cX6_sceneOf 1 = .ok (.iload_n 1, 1) := by decide +kernel
theorem dX6_sceneOf_2 : decode cX6_sceneOf 2 = .ok (.invokevirtual 111, 3) := by decide +kernel
theorem dX6_sceneOf_5 : decode cX6_sceneOf 5 = .ok (.iload_n 2, 1) := by decide +kernel
theorem dX6_sceneOf_6 : decode cX6_sceneOf 6 = .ok (.iconst 0, 1) := by decide +kernel
theorem dX6_sceneOf_7 : decode cX6_sceneOf 7 = .ok (.iconst 5, 1) := by decide +kernel
theorem dX6_sceneOf_8 : decode cX6_sceneOf 8 = .ok (.invokestatic 34, 3) := by decide +kernel
theorem dX6_sceneOf_11 : decode cX6_sceneOf 11 = .ok (.invokestatic 38, 3) := by decide +kernel
theorem dX6_sceneOf_14 : decode cX6_sceneOf 14 = .ok (.aload_n 0, 1) := by decide +kernel
theorem dX6_sceneOf_15 : decode cX6_sceneOf 15 = .ok (.getfield 10, 3) := by decide +kernel
theorem dX6_sceneOf_18 : decode cX6_sceneOf 18 = .ok (.iload_n 1, 1) := by decide +kernel
theorem dX6_sceneOf_19 : decode cX6_sceneOf 19 = .ok (.iload_n 2, 1) := by decide +kernel
theorem dX6_sceneOf_20 : decode cX6_sceneOf 20 = .ok (.invokevirtual 179, 3) := by decide +kernel
theorem dX6_sceneOf_23 : decode cX6_sceneOf 23 = .ok (.ireturn, 1) := by decide +kernel
theorem dX6_count_0 : decode cX6_count 0 = .ok (.iload_n 1, 1) := by decide +kernel
theorem dX6_count_1 : decode cX6_count 1 = .ok (.iconst 0, 1) := by decide +kernel
theorem dX6_count_2 : decode cX6_count 2 = .ok (.bipush 10, 2) := by decide +kernel
theorem dX6_count_4 : decode cX6_count 4 = .ok (.invokestatic 34, 3) := by decide +kernel
theorem dX6_count_7 : decode cX6_count 7 = .ok (.invokestatic 38, 3) := by decide +kernel
theorem dX6_count_10 : decode cX6_count 10 = .ok (.aload_n 0, 1) := by decide +kernel
theorem dX6_count_11 : decode cX6_count 11 = .ok (.iload_n 1, 1) := by decide +kernel
theorem dX6_count_12 : decode cX6_count 12 = .ok (.invokevirtual 182, 3) := by decide +kernel
theorem dX6_count_15 : decode cX6_count 15 = .ok (.ireturn, 1) := by decide +kernel
theorem dX6_refusal_0 : decode cX6_refusal 0 = .ok (.aload_n 0, 1) := by decide +kernel
theorem dX6_refusal_1 : decode cX6_refusal 1 = .ok (.iload_n 1, 1) := by decide +kernel
theorem dX6_refusal_2 : decode cX6_refusal 2 = .ok (.invokevirtual 111, 3) := by decide +kernel
theorem dX6_refusal_5 : decode cX6_refusal 5 = .ok (.iload_n 2, 1) := by decide +kernel
theorem dX6_refusal_6 : decode cX6_refusal 6 = .ok (.invokestatic 30, 3) := by decide +kernel
theorem dX6_refusal_9 : decode cX6_refusal 9 = .ok (.aload_n 0, 1) := by decide +kernel
theorem dX6_refusal_10 : decode cX6_refusal 10 = .ok (.getfield 10, 3) := by decide +kernel
theorem dX6_refusal_13 : decode cX6_refusal 13 = .ok (.aload_n 0, 1) := by decide +kernel
theorem dX6_refusal_14 : decode cX6_refusal 14 = .ok (.getfield 10, 3) := by decide +kernel
theorem dX6_refusal_17 : decode cX6_refusal 17 = .ok (.getfield 60, 3) := by decide +kernel
theorem dX6_refusal_20 : decode cX6_refusal 20 = .ok (.iload_n 1, 1) := by decide +kernel
theorem dX6_refusal_21 : decode cX6_refusal 21 = .ok (.iload_n 2, 1) := by decide +kernel
theorem dX6_refusal_22 : decode cX6_refusal 22 = .ok (.invokevirtual 185, 3) := by decide +kernel
theorem dX6_refusal_25 : decode cX6_refusal 25 = .ok (.ireturn, 1) := by decide +kernel
theorem dX6_soonest_0 : decode cX6_soonest 0 = .ok (.aload_n 0, 1) := by decide +kernel
theorem dX6_soonest_1 : decode cX6_soonest 1 = .ok (.iload_n 1, 1) := by decide +kernel
theorem dX6_soonest_2 : decode cX6_soonest 2 = .ok (.invokevirtual 111, 3) := by decide +kernel
theorem dX6_soonest_5 : decode cX6_soonest 5 = .ok (.iload_n 2, 1) := by decide +kernel
theorem dX6_soonest_6 : decode cX6_soonest 6 = .ok (.invokestatic 30, 3) := by decide +kernel
theorem dX6_soonest_9 : decode cX6_soonest 9 = .ok (.aload_n 0, 1) := by decide +kernel
theorem dX6_soonest_10 : decode cX6_soonest 10 = .ok (.getfield 10, 3) := by decide +kernel
theorem dX6_soonest_13 : decode cX6_soonest 13 = .ok (.iload_n 1, 1) := by decide +kernel
theorem dX6_soonest_14 : decode cX6_soonest 14 = .ok (.iload_n 2, 1) := by decide +kernel
theorem dX6_soonest_15 : decode cX6_soonest 15 = .ok (.invokevirtual 188, 3) := by decide +kernel
theorem dX6_soonest_18 : decode cX6_soonest 18 = .ok (.ireturn, 1) := by decide +kernel
theorem dX6_lacking_0 : decode cX6_lacking 0 = .ok (.aload_n 0, 1) := by decide +kernel
theorem dX6_lacking_1 : decode cX6_lacking 1 = .ok (.iload_n 1, 1) := by decide +kernel
theorem dX6_lacking_2 : decode cX6_lacking 2 = .ok (.invokevirtual 111, 3) := by decide +kernel
theorem dX6_lacking_5 : decode cX6_lacking 5 = .ok (.iload_n 2, 1) := by decide +kernel
theorem dX6_lacking_6 : decode cX6_lacking 6 = .ok (.invokestatic 30, 3) := by decide +kernel
theorem dX6_lacking_9 : decode cX6_lacking 9 = .ok (.aload_n 0, 1) := by decide +kernel
theorem dX6_lacking_10 : decode cX6_lacking 10 = .ok (.getfield 10, 3) := by decide +kernel
theorem dX6_lacking_13 : decode cX6_lacking 13 = .ok (.iload_n 1, 1) := by decide +kernel
theorem dX6_lacking_14 : decode cX6_lacking 14 = .ok (.iload_n 2, 1) := by decide +kernel
theorem dX6_lacking_15 : decode cX6_lacking 15 = .ok (.invokevirtual 191, 3) := by decide +kernel
theorem dX6_lacking_18 : decode cX6_lacking 18 = .ok (.ireturn, 1) := by decide +kernel
theorem dX6_best_0 : decode cX6_best 0 = .ok (.aload_n 0, 1) := by decide +kernel
theorem dX6_best_1 : decode cX6_best 1 = .ok (.iload_n 1, 1) := by decide +kernel
theorem dX6_best_2 : decode cX6_best 2 = .ok (.invokevirtual 111, 3) := by decide +kernel
theorem dX6_best_5 : decode cX6_best 5 = .ok (.aload_n 0, 1) := by decide +kernel
theorem dX6_best_6 : decode cX6_best 6 = .ok (.getfield 10, 3) := by decide +kernel
theorem dX6_best_9 : decode cX6_best 9 = .ok (.iload_n 1, 1) := by decide +kernel
theorem dX6_best_10 : decode cX6_best 10 = .ok (.invokevirtual 194, 3) := by decide +kernel
theorem dX6_best_13 : decode cX6_best 13 = .ok (.ireturn, 1) := by decide +kernel
theorem dX6_cost_0 : decode cX6_cost 0 = .ok (.iload_n 1, 1) := by decide +kernel
theorem dX6_cost_1 : decode cX6_cost 1 = .ok (.iload_n 2, 1) := by decide +kernel
theorem dX6_cost_2 : decode cX6_cost 2 = .ok (.invokestatic 85, 3) := by decide +kernel
theorem dX6_cost_5 : decode cX6_cost 5 = .ok (.invokestatic 38, 3) := by decide +kernel
theorem dX6_cost_8 : decode cX6_cost 8 = .ok (.aload_n 0, 1) := by decide +kernel
theorem dX6_cost_9 : decode cX6_cost 9 = .ok (.getfield 10, 3) := by decide +kernel
theorem dX6_cost_12 : decode cX6_cost 12 = .ok (.iload_n 1, 1) := by decide +kernel
theorem dX6_cost_13 : decode cX6_cost 13 = .ok (.iload_n 2, 1) := by decide +kernel
theorem dX6_cost_14 : decode cX6_cost 14 = .ok (.invokevirtual 88, 3) := by decide +kernel
theorem dX6_cost_17 : decode cX6_cost 17 = .ok (.ireturn, 1) := by decide +kernel
theorem dX6_ifHurt_0 : decode cX6_ifHurt 0 = .ok (.iload_n 1, 1) := by decide +kernel
theorem dX6_ifHurt_1 : decode cX6_ifHurt 1 = .ok (.invokestatic 30, 3) := by decide +kernel
theorem dX6_ifHurt_4 : decode cX6_ifHurt 4 = .ok (.iload_n 2, 1) := by decide +kernel
theorem dX6_ifHurt_5 : decode cX6_ifHurt 5 = .ok (.invokestatic 74, 3) := by decide +kernel
theorem dX6_ifHurt_8 : decode cX6_ifHurt 8 = .ok (.invokestatic 38, 3) := by decide +kernel
theorem dX6_ifHurt_11 : decode cX6_ifHurt 11 = .ok (.aload_n 0, 1) := by decide +kernel
theorem dX6_ifHurt_12 : decode cX6_ifHurt 12 = .ok (.getfield 10, 3) := by decide +kernel
theorem dX6_ifHurt_15 : decode cX6_ifHurt 15 = .ok (.iload_n 1, 1) := by decide +kernel
theorem dX6_ifHurt_16 : decode cX6_ifHurt 16 = .ok (.iload_n 2, 1) := by decide +kernel
theorem dX6_ifHurt_17 : decode cX6_ifHurt 17 = .ok (.invokevirtual 197, 3) := by decide +kernel
theorem dX6_ifHurt_20 : decode cX6_ifHurt 20 = .ok (.ireturn, 1) := by decide +kernel
theorem dX6_shotShare_0 : decode cX6_shotShare 0 = .ok (.aload_n 0, 1) := by decide +kernel
theorem dX6_shotShare_1 : decode cX6_shotShare 1 = .ok (.getfield 10, 3) := by decide +kernel
theorem dX6_shotShare_4 : decode cX6_shotShare 4 = .ok (.getfield 98, 3) := by decide +kernel
theorem dX6_shotShare_7 : decode cX6_shotShare 7 = .ok (.invokevirtual 200, 3) := by decide +kernel
theorem dX6_shotShare_10 : decode cX6_shotShare 10 = .ok (.dreturn, 1) := by decide +kernel
theorem dX6_digest_0 : decode cX6_digest 0 = .ok (.ldc2_w 204, 3) := by decide +kernel
theorem dX6_digest_3 : decode cX6_digest 3 = .ok (.lstore_n 1, 1) := by decide +kernel
theorem dX6_digest_4 : decode cX6_digest 4 = .ok (.iconst 0, 1) := by decide +kernel
theorem dX6_digest_5 : decode cX6_digest 5 = .ok (.istore_n 3, 1) := by decide +kernel
theorem dX6_digest_6 : decode cX6_digest 6 = .ok (.iload_n 3, 1) := by decide +kernel
theorem dX6_digest_7 : decode cX6_digest 7 = .ok (.bipush 10, 2) := by decide +kernel
theorem dX6_digest_9 : decode cX6_digest 9 = .ok (.if_icmp .gt 20, 3) := by decide +kernel
theorem dX6_digest_12 : decode cX6_digest 12 = .ok (.lload_n 1, 1) := by decide +kernel
theorem dX6_digest_13 : decode cX6_digest 13 = .ok (.aload_n 0, 1) := by decide +kernel
theorem dX6_digest_14 : decode cX6_digest 14 = .ok (.iload_n 3, 1) := by decide +kernel
theorem dX6_digest_15 : decode cX6_digest 15 = .ok (.invokevirtual 182, 3) := by decide +kernel
theorem dX6_digest_18 : decode cX6_digest 18 = .ok (.i2l, 1) := by decide +kernel
theorem dX6_digest_19 : decode cX6_digest 19 = .ok (.invokestatic 206, 3) := by decide +kernel
theorem dX6_digest_22 : decode cX6_digest 22 = .ok (.lstore_n 1, 1) := by decide +kernel
theorem dX6_digest_23 : decode cX6_digest 23 = .ok (.iinc 3 1, 3) := by decide +kernel
theorem dX6_digest_26 : decode cX6_digest 26 = .ok (.goto (-20), 3) := by decide +kernel
theorem dX6_digest_29 : decode cX6_digest 29 = .ok (.iconst 0, 1) := by decide +kernel
theorem dX6_digest_30 : decode cX6_digest 30 = .ok (.istore_n 3, 1) := by decide +kernel
theorem dX6_digest_31 : decode cX6_digest 31 = .ok (.iload_n 3, 1) := by decide +kernel
theorem dX6_digest_32 : decode cX6_digest 32 = .ok (.bipush 8, 2) := by decide +kernel
theorem dX6_digest_34 : decode cX6_digest 34 = .ok (.if_icmp .ge 16, 3) := by decide +kernel
theorem dX6_digest_37 : decode cX6_digest 37 = .ok (.aload_n 0, 1) := by decide +kernel
theorem dX6_digest_38 : decode cX6_digest 38 = .ok (.lload_n 1, 1) := by decide +kernel
theorem dX6_digest_39 : decode cX6_digest 39 = .ok (.iload_n 3, 1) := by decide +kernel
theorem dX6_digest_40 : decode cX6_digest 40 = .ok (.invokevirtual 210, 3) := by decide +kernel
theorem dX6_digest_43 : decode cX6_digest 43 = .ok (.lstore_n 1, 1) := by decide +kernel
theorem dX6_digest_44 : decode cX6_digest 44 = .ok (.iinc 3 1, 3) := by decide +kernel
theorem dX6_digest_47 : decode cX6_digest 47 = .ok (.goto (-16), 3) := by decide +kernel
theorem dX6_digest_50 : decode cX6_digest 50 = .ok (.iconst 0, 1) := by decide +kernel
theorem dX6_digest_51 : decode cX6_digest 51 = .ok (.istore_n 3, 1) := by decide +kernel
theorem dX6_digest_52 : decode cX6_digest 52 = .ok (.iload_n 3, 1) := by decide +kernel
theorem dX6_digest_53 : decode cX6_digest 53 = .ok (.aload_n 0, 1) := by decide +kernel
theorem dX6_digest_54 : decode cX6_digest 54 = .ok (.getfield 10, 3) := by decide +kernel
theorem dX6_digest_57 : decode cX6_digest 57 = .ok (.getfield 98, 3) := by decide +kernel
theorem dX6_digest_60 : decode cX6_digest 60 = .ok (.getfield 102, 3) := by decide +kernel
theorem dX6_digest_63 : decode cX6_digest 63 = .ok (.if_icmp .ge 16, 3) := by decide +kernel
theorem dX6_digest_66 : decode cX6_digest 66 = .ok (.aload_n 0, 1) := by decide +kernel
theorem dX6_digest_67 : decode cX6_digest 67 = .ok (.lload_n 1, 1) := by decide +kernel
theorem dX6_digest_68 : decode cX6_digest 68 = .ok (.iload_n 3, 1) := by decide +kernel
theorem dX6_digest_69 : decode cX6_digest 69 = .ok (.invokevirtual 214, 3) := by decide +kernel
theorem dX6_digest_72 : decode cX6_digest 72 = .ok (.lstore_n 1, 1) := by decide +kernel
theorem dX6_digest_73 : decode cX6_digest 73 = .ok (.iinc 3 1, 3) := by decide +kernel
theorem dX6_digest_76 : decode cX6_digest 76 = .ok (.goto (-24), 3) := by decide +kernel
theorem dX6_digest_79 : decode cX6_digest 79 = .ok (.lload_n 1, 1) := by decide +kernel
theorem dX6_digest_80 : decode cX6_digest 80 = .ok (.aload_n 0, 1) := by decide +kernel
theorem dX6_digest_81 : decode cX6_digest 81 = .ok (.getfield 10, 3) := by decide +kernel
theorem dX6_digest_84 : decode cX6_digest 84 = .ok (.iconst 3, 1) := by decide +kernel
theorem dX6_digest_85 : decode cX6_digest 85 = .ok (.bipush 10, 2) := by decide +kernel
theorem dX6_digest_87 : decode cX6_digest 87 = .ok (.invokevirtual 88, 3) := by decide +kernel
theorem dX6_digest_90 : decode cX6_digest 90 = .ok (.i2l, 1) := by decide +kernel
theorem dX6_digest_91 : decode cX6_digest 91 = .ok (.invokestatic 206, 3) := by decide +kernel
theorem dX6_digest_94 : decode cX6_digest 94 = .ok (.lstore_n 1, 1) := by decide +kernel
theorem dX6_digest_95 : decode cX6_digest 95 = .ok (.lload_n 1, 1) := by decide +kernel
theorem dX6_digest_96 : decode cX6_digest 96 = .ok (.aload_n 0, 1) := by decide +kernel
theorem dX6_digest_97 : decode cX6_digest 97 = .ok (.getfield 10, 3) := by decide +kernel
theorem dX6_digest_100 : decode cX6_digest 100 = .ok (.getfield 98, 3) := by decide +kernel
theorem dX6_digest_103 : decode cX6_digest 103 = .ok (.invokevirtual 200, 3) := by decide +kernel
theorem dX6_digest_106 : decode cX6_digest 106 = .ok (.invokestatic 217, 3) := by decide +kernel
theorem dX6_digest_109 : decode cX6_digest 109 = .ok (.invokestatic 206, 3) := by decide +kernel
theorem dX6_digest_112 : decode cX6_digest 112 = .ok (.lstore_n 1, 1) := by decide +kernel
theorem dX6_digest_113 : decode cX6_digest 113 = .ok (.lload_n 1, 1) := by decide +kernel
theorem dX6_digest_114 : decode cX6_digest 114 = .ok (.aload_n 0, 1) := by decide +kernel
theorem dX6_digest_115 : decode cX6_digest 115 = .ok (.getfield 26, 3) := by decide +kernel
theorem dX6_digest_118 : decode cX6_digest 118 = .ok (.getfield 123, 3) := by decide +kernel
theorem dX6_digest_121 : decode cX6_digest 121 = .ok (.i2l, 1) := by decide +kernel
theorem dX6_digest_122 : decode cX6_digest 122 = .ok (.invokestatic 206, 3) := by decide +kernel
theorem dX6_digest_125 : decode cX6_digest 125 = .ok (.lstore_n 1, 1) := by decide +kernel
theorem dX6_digest_126 : decode cX6_digest 126 = .ok (.iconst 0, 1) := by decide +kernel
theorem dX6_digest_127 : decode cX6_digest 127 = .ok (.istore_n 3, 1) := by decide +kernel
theorem dX6_digest_128 : decode cX6_digest 128 = .ok (.iload_n 3, 1) := by decide +kernel
theorem dX6_digest_129 : decode cX6_digest 129 = .ok (.aload_n 0, 1) := by decide +kernel
theorem dX6_digest_130 : decode cX6_digest 130 = .ok (.getfield 26, 3) := by decide +kernel
theorem dX6_digest_133 : decode cX6_digest 133 = .ok (.getfield 123, 3) := by decide +kernel
theorem dX6_digest_136 : decode cX6_digest 136 = .ok (.if_icmp .ge 23, 3) := by decide +kernel
theorem dX6_digest_139 : decode cX6_digest 139 = .ok (.lload_n 1, 1) := by decide +kernel
theorem dX6_digest_140 : decode cX6_digest 140 = .ok (.aload_n 0, 1) := by decide +kernel
theorem dX6_digest_141 : decode cX6_digest 141 = .ok (.getfield 26, 3) := by decide +kernel
theorem dX6_digest_144 : decode cX6_digest 144 = .ok (.iload_n 3, 1) := by decide +kernel
theorem dX6_digest_145 : decode cX6_digest 145 = .ok (.invokevirtual 221, 3) := by decide +kernel
theorem dX6_digest_148 : decode cX6_digest 148 = .ok (.i2l, 1) := by decide +kernel
theorem dX6_digest_149 : decode cX6_digest 149 = .ok (.invokestatic 206, 3) := by decide +kernel
theorem dX6_digest_152 : decode cX6_digest 152 = .ok (.lstore_n 1, 1) := by decide +kernel
theorem dX6_digest_153 : decode cX6_digest 153 = .ok (.iinc 3 1, 3) := by decide +kernel
theorem dX6_digest_156 : decode cX6_digest 156 = .ok (.goto (-28), 3) := by decide +kernel
theorem dX6_digest_159 : decode cX6_digest 159 = .ok (.lload_n 1, 1) := by decide +kernel
theorem dX6_digest_160 : decode cX6_digest 160 = .ok (.lreturn, 1) := by decide +kernel
theorem dX6_mixedWithPerson_0 : decode cX6_mixedWithPerson 0 = .ok (.lload_n 1, 1) := by decide +kernel
theorem dX6_mixedWithPerson_1 : decode cX6_mixedWithPerson 1 = .ok (.lstore 4, 2) := by decide +kernel
theorem dX6_mixedWithPerson_3 : decode cX6_mixedWithPerson 3 = .ok (.iconst 0, 1) := by decide +kernel
theorem dX6_mixedWithPerson_4 : decode cX6_mixedWithPerson 4 = .ok (.istore 6, 2) := by decide +kernel
theorem dX6_mixedWithPerson_6 : decode cX6_mixedWithPerson 6 = .ok (.iload 6, 2) := by decide +kernel
theorem dX6_mixedWithPerson_8 : decode cX6_mixedWithPerson 8 = .ok (.bipush 6, 2) := by decide +kernel
theorem dX6_mixedWithPerson_10 : decode cX6_mixedWithPerson 10 = .ok (.if_icmp .gt 27, 3) := by decide +kernel
theorem dX6_mixedWithPerson_13 : decode cX6_mixedWithPerson 13 = .ok (.lload 4, 2) := by decide +kernel
theorem dX6_mixedWithPerson_15 : decode cX6_mixedWithPerson 15 = .ok (.aload_n 0, 1) := by decide +kernel
theorem dX6_mixedWithPerson_16 : decode cX6_mixedWithPerson 16 = .ok (.getfield 10, 3) := by decide +kernel
theorem dX6_mixedWithPerson_19 : decode cX6_mixedWithPerson 19 = .ok (.iload_n 3, 1) := by decide +kernel
theorem dX6_mixedWithPerson_20 : decode cX6_mixedWithPerson 20 = .ok (.iload 6, 2) := by decide +kernel
theorem dX6_mixedWithPerson_22 : decode cX6_mixedWithPerson 22 = .ok (.invokevirtual 152, 3) := by decide +kernel
theorem dX6_mixedWithPerson_25 : decode cX6_mixedWithPerson 25 = .ok (.i2l, 1) := by decide +kernel
theorem dX6_mixedWithPerson_26 : decode cX6_mixedWithPerson 26 = .ok (.invokestatic 206, 3) := by decide +kernel
theorem dX6_mixedWithPerson_29 : decode cX6_mixedWithPerson 29 = .ok (.lstore 4, 2) := by decide +kernel
theorem dX6_mixedWithPerson_31 : decode cX6_mixedWithPerson 31 = .ok (.iinc 6 1, 3) := by decide +kernel
theorem dX6_mixedWithPerson_34 : decode cX6_mixedWithPerson 34 = .ok (.goto (-28), 3) := by decide +kernel
theorem dX6_mixedWithPerson_37 : decode cX6_mixedWithPerson 37 = .ok (.iconst 0, 1) := by decide +kernel
theorem dX6_mixedWithPerson_38 : decode cX6_mixedWithPerson 38 = .ok (.istore 6, 2) := by decide +kernel
theorem dX6_mixedWithPerson_40 : decode cX6_mixedWithPerson 40 = .ok (.iload 6, 2) := by decide +kernel
theorem dX6_mixedWithPerson_42 : decode cX6_mixedWithPerson 42 = .ok (.bipush 6, 2) := by decide +kernel
theorem dX6_mixedWithPerson_44 : decode cX6_mixedWithPerson 44 = .ok (.if_icmp .ge 38, 3) := by decide +kernel
theorem dX6_mixedWithPerson_47 : decode cX6_mixedWithPerson 47 = .ok (.lload 4, 2) := by decide +kernel
theorem dX6_mixedWithPerson_49 : decode cX6_mixedWithPerson 49 = .ok (.aload_n 0, 1) := by decide +kernel
theorem dX6_mixedWithPerson_50 : decode cX6_mixedWithPerson 50 = .ok (.getfield 10, 3) := by decide +kernel
theorem dX6_mixedWithPerson_53 : decode cX6_mixedWithPerson 53 = .ok (.getfield 155, 3) := by decide +kernel
theorem dX6_mixedWithPerson_56 : decode cX6_mixedWithPerson 56 = .ok (.aload_n 0, 1) := by decide +kernel
theorem dX6_mixedWithPerson_57 : decode cX6_mixedWithPerson 57 = .ok (.getfield 10, 3) := by decide +kernel
theorem dX6_mixedWithPerson_60 : decode cX6_mixedWithPerson 60 = .ok (.getfield 60, 3) := by decide +kernel
theorem dX6_mixedWithPerson_63 : decode cX6_mixedWithPerson 63 = .ok (.iload_n 3, 1) := by decide +kernel
theorem dX6_mixedWithPerson_64 : decode cX6_mixedWithPerson 64 = .ok (.iload 6, 2) := by decide +kernel
theorem dX6_mixedWithPerson_66 : decode cX6_mixedWithPerson 66 = .ok (.iconst 2, 1) := by decide +kernel
theorem dX6_mixedWithPerson_67 : decode cX6_mixedWithPerson 67 = .ok (.invokevirtual 159, 3) := by decide +kernel
theorem dX6_mixedWithPerson_70 : decode cX6_mixedWithPerson 70 = .ok (.i2l, 1) := by decide +kernel
theorem dX6_mixedWithPerson_71 : decode cX6_mixedWithPerson 71 = .ok (.invokestatic 206, 3) := by decide +kernel
theorem dX6_mixedWithPerson_74 : decode cX6_mixedWithPerson 74 = .ok (.lstore 4, 2) := by decide +kernel
theorem dX6_mixedWithPerson_76 : decode cX6_mixedWithPerson 76 = .ok (.iinc 6 1, 3) := by decide +kernel
theorem dX6_mixedWithPerson_79 : decode cX6_mixedWithPerson 79 = .ok (.goto (-39), 3) := by decide +kernel
theorem dX6_mixedWithPerson_82 : decode cX6_mixedWithPerson 82 = .ok (.lload 4, 2) := by decide +kernel
theorem dX6_mixedWithPerson_84 : decode cX6_mixedWithPerson 84 = .ok (.aload_n 0, 1) := by decide +kernel
theorem dX6_mixedWithPerson_85 : decode cX6_mixedWithPerson 85 = .ok (.getfield 10, 3) := by decide +kernel
theorem dX6_mixedWithPerson_88 : decode cX6_mixedWithPerson 88 = .ok (.iload_n 3, 1) := by decide +kernel
theorem dX6_mixedWithPerson_89 : decode cX6_mixedWithPerson 89 = .ok (.bipush 16, 2) := by decide +kernel
theorem dX6_mixedWithPerson_91 : decode cX6_mixedWithPerson 91 = .ok (.invokevirtual 197, 3) := by decide +kernel
theorem dX6_mixedWithPerson_94 : decode cX6_mixedWithPerson 94 = .ok (.i2l, 1) := by decide +kernel
theorem dX6_mixedWithPerson_95 : decode cX6_mixedWithPerson 95 = .ok (.invokestatic 206, 3) := by decide +kernel
theorem dX6_mixedWithPerson_98 : decode cX6_mixedWithPerson 98 = .ok (.lreturn, 1) := by decide +kernel
theorem dX6_mixedWithScene_0 : decode cX6_mixedWithScene 0 = .ok (.lload_n 1, 1) := by decide +kernel
theorem dX6_mixedWithScene_1 : decode cX6_mixedWithScene 1 = .ok (.lstore 4, 2) := by decide +kernel
theorem dX6_mixedWithScene_3 : decode cX6_mixedWithScene 3 = .ok (.iconst 0, 1) := by decide +kernel
theorem dX6_mixedWithScene_4 : decode cX6_mixedWithScene 4 = .ok (.istore 6, 2) := by decide +kernel
theorem dX6_mixedWithScene_6 : decode cX6_mixedWithScene 6 = .ok (.iload 6, 2) := by decide +kernel
theorem dX6_mixedWithScene_8 : decode cX6_mixedWithScene 8 = .ok (.iconst 5, 1) := by decide +kernel
theorem dX6_mixedWithScene_9 : decode cX6_mixedWithScene 9 = .ok (.if_icmp .gt 27, 3) := by decide +kernel
theorem dX6_mixedWithScene_12 : decode cX6_mixedWithScene 12 = .ok (.lload 4, 2) := by decide +kernel
theorem dX6_mixedWithScene_14 : decode cX6_mixedWithScene 14 = .ok (.aload_n 0, 1) := by decide +kernel
theorem dX6_mixedWithScene_15 : decode cX6_mixedWithScene 15 = .ok (.getfield 10, 3) := by decide +kernel
theorem dX6_mixedWithScene_18 : decode cX6_mixedWithScene 18 = .ok (.iload_n 3, 1) := by decide +kernel
theorem dX6_mixedWithScene_19 : decode cX6_mixedWithScene 19 = .ok (.iload 6, 2) := by decide +kernel
theorem dX6_mixedWithScene_21 : decode cX6_mixedWithScene 21 = .ok (.invokevirtual 179, 3) := by decide +kernel
theorem dX6_mixedWithScene_24 : decode cX6_mixedWithScene 24 = .ok (.i2l, 1) := by decide +kernel
theorem dX6_mixedWithScene_25 : decode cX6_mixedWithScene 25 = .ok (.invokestatic 206, 3) := by decide +kernel
theorem dX6_mixedWithScene_28 : decode cX6_mixedWithScene 28 = .ok (.lstore 4, 2) := by decide +kernel
theorem dX6_mixedWithScene_30 : decode cX6_mixedWithScene 30 = .ok (.iinc 6 1, 3) := by decide +kernel
theorem dX6_mixedWithScene_33 : decode cX6_mixedWithScene 33 = .ok (.goto (-27), 3) := by decide +kernel
theorem dX6_mixedWithScene_36 : decode cX6_mixedWithScene 36 = .ok (.lload 4, 2) := by decide +kernel
theorem dX6_mixedWithScene_38 : decode cX6_mixedWithScene 38 = .ok (.aload_n 0, 1) := by decide +kernel
theorem dX6_mixedWithScene_39 : decode cX6_mixedWithScene 39 = .ok (.getfield 10, 3) := by decide +kernel
theorem dX6_mixedWithScene_42 : decode cX6_mixedWithScene 42 = .ok (.iload_n 3, 1) := by decide +kernel
theorem dX6_mixedWithScene_43 : decode cX6_mixedWithScene 43 = .ok (.invokevirtual 194, 3) := by decide +kernel
theorem dX6_mixedWithScene_46 : decode cX6_mixedWithScene 46 = .ok (.i2l, 1) := by decide +kernel
theorem dX6_mixedWithScene_47 : decode cX6_mixedWithScene 47 = .ok (.invokestatic 206, 3) := by decide +kernel
theorem dX6_mixedWithScene_50 : decode cX6_mixedWithScene 50 = .ok (.lstore 4, 2) := by decide +kernel
theorem dX6_mixedWithScene_52 : decode cX6_mixedWithScene 52 = .ok (.iconst 0, 1) := by decide +kernel
theorem dX6_mixedWithScene_53 : decode cX6_mixedWithScene 53 = .ok (.istore 6, 2) := by decide +kernel
theorem dX6_mixedWithScene_55 : decode cX6_mixedWithScene 55 = .ok (.iload 6, 2) := by decide +kernel
theorem dX6_mixedWithScene_57 : decode cX6_mixedWithScene 57 = .ok (.bipush 8, 2) := by decide +kernel
theorem dX6_mixedWithScene_59 : decode cX6_mixedWithScene 59 = .ok (.if_icmp .ge 70, 3) := by decide +kernel
theorem dX6_mixedWithScene_62 : decode cX6_mixedWithScene 62 = .ok (.lload 4, 2) := by decide +kernel
theorem dX6_mixedWithScene_64 : decode cX6_mixedWithScene 64 = .ok (.aload_n 0, 1) := by decide +kernel
theorem dX6_mixedWithScene_65 : decode cX6_mixedWithScene 65 = .ok (.getfield 10, 3) := by decide +kernel
theorem dX6_mixedWithScene_68 : decode cX6_mixedWithScene 68 = .ok (.aload_n 0, 1) := by decide +kernel
theorem dX6_mixedWithScene_69 : decode cX6_mixedWithScene 69 = .ok (.getfield 10, 3) := by decide +kernel
theorem dX6_mixedWithScene_72 : decode cX6_mixedWithScene 72 = .ok (.getfield 60, 3) := by decide +kernel
theorem dX6_mixedWithScene_75 : decode cX6_mixedWithScene 75 = .ok (.iload_n 3, 1) := by decide +kernel
theorem dX6_mixedWithScene_76 : decode cX6_mixedWithScene 76 = .ok (.iload 6, 2) := by decide +kernel
theorem dX6_mixedWithScene_78 : decode cX6_mixedWithScene 78 = .ok (.invokevirtual 185, 3) := by decide +kernel
theorem dX6_mixedWithScene_81 : decode cX6_mixedWithScene 81 = .ok (.i2l, 1) := by decide +kernel
theorem dX6_mixedWithScene_82 : decode cX6_mixedWithScene 82 = .ok (.invokestatic 206, 3) := by decide +kernel
theorem dX6_mixedWithScene_85 : decode cX6_mixedWithScene 85 = .ok (.lstore 4, 2) := by decide +kernel
theorem dX6_mixedWithScene_87 : decode cX6_mixedWithScene 87 = .ok (.lload 4, 2) := by decide +kernel
theorem dX6_mixedWithScene_89 : decode cX6_mixedWithScene 89 = .ok (.aload_n 0, 1) := by decide +kernel
theorem dX6_mixedWithScene_90 : decode cX6_mixedWithScene 90 = .ok (.getfield 10, 3) := by decide +kernel
theorem dX6_mixedWithScene_93 : decode cX6_mixedWithScene 93 = .ok (.iload_n 3, 1) := by decide +kernel
theorem dX6_mixedWithScene_94 : decode cX6_mixedWithScene 94 = .ok (.iload 6, 2) := by decide +kernel
theorem dX6_mixedWithScene_96 : decode cX6_mixedWithScene 96 = .ok (.invokevirtual 191, 3) := by decide +kernel
theorem dX6_mixedWithScene_99 : decode cX6_mixedWithScene 99 = .ok (.i2l, 1) := by decide +kernel
theorem dX6_mixedWithScene_100 : decode cX6_mixedWithScene 100 = .ok (.invokestatic 206, 3) := by decide +kernel
theorem dX6_mixedWithScene_103 : decode cX6_mixedWithScene 103 = .ok (.lstore 4, 2) := by decide +kernel
theorem dX6_mixedWithScene_105 : decode cX6_mixedWithScene 105 = .ok (.lload 4, 2) := by decide +kernel
theorem dX6_mixedWithScene_107 : decode cX6_mixedWithScene 107 = .ok (.aload_n 0, 1) := by decide +kernel
theorem dX6_mixedWithScene_108 : decode cX6_mixedWithScene 108 = .ok (.getfield 10, 3) := by decide +kernel
theorem dX6_mixedWithScene_111 : decode cX6_mixedWithScene 111 = .ok (.iload_n 3, 1) := by decide +kernel
theorem dX6_mixedWithScene_112 : decode cX6_mixedWithScene 112 = .ok (.iload 6, 2) := by decide +kernel
theorem dX6_mixedWithScene_114 : decode cX6_mixedWithScene 114 = .ok (.invokevirtual 188, 3) := by decide +kernel
theorem dX6_mixedWithScene_117 : decode cX6_mixedWithScene 117 = .ok (.i2l, 1) := by decide +kernel
theorem dX6_mixedWithScene_118 : decode cX6_mixedWithScene 118 = .ok (.invokestatic 206, 3) := by decide +kernel
theorem dX6_mixedWithScene_121 : decode cX6_mixedWithScene 121 = .ok (.lstore 4, 2) := by decide +kernel
theorem dX6_mixedWithScene_123 : decode cX6_mixedWithScene 123 = .ok (.iinc 6 1, 3) := by decide +kernel
theorem dX6_mixedWithScene_126 : decode cX6_mixedWithScene 126 = .ok (.goto (-71), 3) := by decide +kernel
theorem dX6_mixedWithScene_129 : decode cX6_mixedWithScene 129 = .ok (.lload 4, 2) := by decide +kernel
theorem dX6_mixedWithScene_131 : decode cX6_mixedWithScene 131 = .ok (.lreturn, 1) := by decide +kernel
theorem dX6_mixed_0 : decode cX6_mixed 0 = .ok (.ldc2_w 224, 3) := by decide +kernel
theorem dX6_mixed_3 : decode cX6_mixed 3 = .ok (.lload_n 0, 1) := by decide +kernel
theorem dX6_mixed_4 : decode cX6_mixed 4 = .ok (.lmul, 1) := by decide +kernel
theorem dX6_mixed_5 : decode cX6_mixed 5 = .ok (.lload_n 2, 1) := by decide +kernel
theorem dX6_mixed_6 : decode cX6_mixed 6 = .ok (.ladd, 1) := by decide +kernel
theorem dX6_mixed_7 : decode cX6_mixed 7 = .ok (.lreturn, 1) := by decide +kernel
theorem dX6_bitsOfShare_0 : decode cX6_bitsOfShare 0 = .ok (.dload_n 0, 1) := by decide +kernel
theorem dX6_bitsOfShare_1 : decode cX6_bitsOfShare 1 = .ok (.dconst 0, 1) := by decide +kernel
theorem dX6_bitsOfShare_2 : decode cX6_bitsOfShare 2 = .ok (.dcmp .g, 1) := by decide +kernel
theorem dX6_bitsOfShare_3 : decode cX6_bitsOfShare 3 = .ok (.ifCond .gt 5, 3) := by decide +kernel
theorem dX6_bitsOfShare_6 : decode cX6_bitsOfShare 6 = .ok (.lconst 0, 1) := by decide +kernel
theorem dX6_bitsOfShare_7 : decode cX6_bitsOfShare 7 = .ok (.lreturn, 1) := by decide +kernel
theorem dX6_bitsOfShare_8 : decode cX6_bitsOfShare 8 = .ok (.dload_n 0, 1) := by decide +kernel
theorem dX6_bitsOfShare_9 : decode cX6_bitsOfShare 9 = .ok (.dstore_n 2, 1) := by decide +kernel
theorem dX6_bitsOfShare_10 : decode cX6_bitsOfShare 10 = .ok (.ldc2_w 226, 3) := by decide +kernel
theorem dX6_bitsOfShare_13 : decode cX6_bitsOfShare 13 = .ok (.lstore 4, 2) := by decide +kernel
theorem dX6_bitsOfShare_15 : decode cX6_bitsOfShare 15 = .ok (.iconst 0, 1) := by decide +kernel
theorem dX6_bitsOfShare_16 : decode cX6_bitsOfShare 16 = .ok (.istore 6, 2) := by decide +kernel
theorem dX6_bitsOfShare_18 : decode cX6_bitsOfShare 18 = .ok (.iload 6, 2) := by decide +kernel
theorem dX6_bitsOfShare_20 : decode cX6_bitsOfShare 20 = .ok (.bipush 64, 2) := by decide +kernel
theorem dX6_bitsOfShare_22 : decode cX6_bitsOfShare 22 = .ok (.if_icmp .ge 27, 3) := by decide +kernel
theorem dX6_bitsOfShare_25 : decode cX6_bitsOfShare 25 = .ok (.dload_n 2, 1) := by decide +kernel
theorem dX6_bitsOfShare_26 : decode cX6_bitsOfShare 26 = .ok (.dconst 1, 1) := by decide +kernel
theorem dX6_bitsOfShare_27 : decode cX6_bitsOfShare 27 = .ok (.dcmp .g, 1) := by decide +kernel
theorem dX6_bitsOfShare_28 : decode cX6_bitsOfShare 28 = .ok (.ifCond .ge 21, 3) := by decide +kernel
theorem dX6_bitsOfShare_31 : decode cX6_bitsOfShare 31 = .ok (.dload_n 2, 1) := by decide +kernel
theorem dX6_bitsOfShare_32 : decode cX6_bitsOfShare 32 = .ok (.ldc2_w 228, 3) := by decide +kernel
theorem dX6_bitsOfShare_35 : decode cX6_bitsOfShare 35 = .ok (.dmul, 1) := by decide +kernel
theorem dX6_bitsOfShare_36 : decode cX6_bitsOfShare 36 = .ok (.dstore_n 2, 1) := by decide +kernel
theorem dX6_bitsOfShare_37 : decode cX6_bitsOfShare 37 = .ok (.lload 4, 2) := by decide +kernel
theorem dX6_bitsOfShare_39 : decode cX6_bitsOfShare 39 = .ok (.lconst 1, 1) := by decide +kernel
theorem dX6_bitsOfShare_40 : decode cX6_bitsOfShare 40 = .ok (.lsub, 1) := by decide +kernel
theorem dX6_bitsOfShare_41 : decode cX6_bitsOfShare 41 = .ok (.lstore 4, 2) := by decide +kernel
theorem dX6_bitsOfShare_43 : decode cX6_bitsOfShare 43 = .ok (.iinc 6 1, 3) := by decide +kernel
theorem dX6_bitsOfShare_46 : decode cX6_bitsOfShare 46 = .ok (.goto (-28), 3) := by decide +kernel
theorem dX6_bitsOfShare_49 : decode cX6_bitsOfShare 49 = .ok (.lload 4, 2) := by decide +kernel
theorem dX6_bitsOfShare_51 : decode cX6_bitsOfShare 51 = .ok (.bipush 52, 2) := by decide +kernel
theorem dX6_bitsOfShare_53 : decode cX6_bitsOfShare 53 = .ok (.lshl, 1) := by decide +kernel
theorem dX6_bitsOfShare_54 : decode cX6_bitsOfShare 54 = .ok (.dload_n 2, 1) := by decide +kernel
theorem dX6_bitsOfShare_55 : decode cX6_bitsOfShare 55 = .ok (.dconst 1, 1) := by decide +kernel
theorem dX6_bitsOfShare_56 : decode cX6_bitsOfShare 56 = .ok (.dsub, 1) := by decide +kernel
theorem dX6_bitsOfShare_57 : decode cX6_bitsOfShare 57 = .ok (.ldc2_w 230, 3) := by decide +kernel
theorem dX6_bitsOfShare_60 : decode cX6_bitsOfShare 60 = .ok (.dmul, 1) := by decide +kernel
theorem dX6_bitsOfShare_61 : decode cX6_bitsOfShare 61 = .ok (.d2l, 1) := by decide +kernel
theorem dX6_bitsOfShare_62 : decode cX6_bitsOfShare 62 = .ok (.ladd, 1) := by decide +kernel
theorem dX6_bitsOfShare_63 : decode cX6_bitsOfShare 63 = .ok (.lreturn, 1) := by decide +kernel
theorem dX6_countNumber_0 : decode cX6_countNumber 0 = .ok (.iload_n 1, 1) := by decide +kernel
theorem dX6_countNumber_1 : decode cX6_countNumber 1 = .ok (.tableswitch 151 0 9 #[55, 63, 71, 86, 94, 105, 116, 127, 135, 143], 55) := by decide +kernel
theorem dX6_countNumber_56 : decode cX6_countNumber 56 = .ok (.aload_n 0, 1) := by decide +kernel
theorem dX6_countNumber_57 : decode cX6_countNumber 57 = .ok (.getfield 10, 3) := by decide +kernel
theorem dX6_countNumber_60 : decode cX6_countNumber 60 = .ok (.getfield 60, 3) := by decide +kernel
theorem dX6_countNumber_63 : decode cX6_countNumber 63 = .ok (.ireturn, 1) := by decide +kernel
theorem dX6_countNumber_64 : decode cX6_countNumber 64 = .ok (.aload_n 0, 1) := by decide +kernel
theorem dX6_countNumber_65 : decode cX6_countNumber 65 = .ok (.getfield 10, 3) := by decide +kernel
theorem dX6_countNumber_68 : decode cX6_countNumber 68 = .ok (.getfield 91, 3) := by decide +kernel
theorem dX6_countNumber_71 : decode cX6_countNumber 71 = .ok (.ireturn, 1) := by decide +kernel
theorem dX6_countNumber_72 : decode cX6_countNumber 72 = .ok (.aload_n 0, 1) := by decide +kernel
theorem dX6_countNumber_73 : decode cX6_countNumber 73 = .ok (.getfield 10, 3) := by decide +kernel
theorem dX6_countNumber_76 : decode cX6_countNumber 76 = .ok (.aload_n 0, 1) := by decide +kernel
theorem dX6_countNumber_77 : decode cX6_countNumber 77 = .ok (.getfield 10, 3) := by decide +kernel
theorem dX6_countNumber_80 : decode cX6_countNumber 80 = .ok (.getfield 60, 3) := by decide +kernel
theorem dX6_countNumber_83 : decode cX6_countNumber 83 = .ok (.invokevirtual 232, 3) := by decide +kernel
theorem dX6_countNumber_86 : decode cX6_countNumber 86 = .ok (.ireturn, 1) := by decide +kernel
theorem dX6_countNumber_87 : decode cX6_countNumber 87 = .ok (.aload_n 0, 1) := by decide +kernel
theorem dX6_countNumber_88 : decode cX6_countNumber 88 = .ok (.getfield 10, 3) := by decide +kernel
theorem dX6_countNumber_91 : decode cX6_countNumber 91 = .ok (.invokevirtual 235, 3) := by decide +kernel
theorem dX6_countNumber_94 : decode cX6_countNumber 94 = .ok (.ireturn, 1) := by decide +kernel
theorem dX6_countNumber_95 : decode cX6_countNumber 95 = .ok (.aload_n 0, 1) := by decide +kernel
theorem dX6_countNumber_96 : decode cX6_countNumber 96 = .ok (.getfield 10, 3) := by decide +kernel
theorem dX6_countNumber_99 : decode cX6_countNumber 99 = .ok (.getfield 98, 3) := by decide +kernel
theorem dX6_countNumber_102 : decode cX6_countNumber 102 = .ok (.getfield 102, 3) := by decide +kernel
theorem dX6_countNumber_105 : decode cX6_countNumber 105 = .ok (.ireturn, 1) := by decide +kernel
theorem dX6_countNumber_106 : decode cX6_countNumber 106 = .ok (.aload_n 0, 1) := by decide +kernel
theorem dX6_countNumber_107 : decode cX6_countNumber 107 = .ok (.getfield 10, 3) := by decide +kernel
theorem dX6_countNumber_110 : decode cX6_countNumber 110 = .ok (.getfield 98, 3) := by decide +kernel
theorem dX6_countNumber_113 : decode cX6_countNumber 113 = .ok (.invokevirtual 238, 3) := by decide +kernel
theorem dX6_countNumber_116 : decode cX6_countNumber 116 = .ok (.ireturn, 1) := by decide +kernel
theorem dX6_countNumber_117 : decode cX6_countNumber 117 = .ok (.aload_n 0, 1) := by decide +kernel
theorem dX6_countNumber_118 : decode cX6_countNumber 118 = .ok (.getfield 10, 3) := by decide +kernel
theorem dX6_countNumber_121 : decode cX6_countNumber 121 = .ok (.getfield 98, 3) := by decide +kernel
theorem dX6_countNumber_124 : decode cX6_countNumber 124 = .ok (.invokevirtual 241, 3) := by decide +kernel
theorem dX6_countNumber_127 : decode cX6_countNumber 127 = .ok (.ireturn, 1) := by decide +kernel
theorem dX6_countNumber_128 : decode cX6_countNumber 128 = .ok (.aload_n 0, 1) := by decide +kernel
theorem dX6_countNumber_129 : decode cX6_countNumber 129 = .ok (.getfield 10, 3) := by decide +kernel
theorem dX6_countNumber_132 : decode cX6_countNumber 132 = .ok (.getfield 244, 3) := by decide +kernel
theorem dX6_countNumber_135 : decode cX6_countNumber 135 = .ok (.ireturn, 1) := by decide +kernel
theorem dX6_countNumber_136 : decode cX6_countNumber 136 = .ok (.aload_n 0, 1) := by decide +kernel
theorem dX6_countNumber_137 : decode cX6_countNumber 137 = .ok (.getfield 10, 3) := by decide +kernel
theorem dX6_countNumber_140 : decode cX6_countNumber 140 = .ok (.getfield 247, 3) := by decide +kernel
theorem dX6_countNumber_143 : decode cX6_countNumber 143 = .ok (.ireturn, 1) := by decide +kernel
theorem dX6_countNumber_144 : decode cX6_countNumber 144 = .ok (.aload_n 0, 1) := by decide +kernel
theorem dX6_countNumber_145 : decode cX6_countNumber 145 = .ok (.getfield 10, 3) := by decide +kernel
theorem dX6_countNumber_148 : decode cX6_countNumber 148 = .ok (.invokevirtual 250, 3) := by decide +kernel
theorem dX6_countNumber_151 : decode cX6_countNumber 151 = .ok (.ireturn, 1) := by decide +kernel
theorem dX6_countNumber_152 : decode cX6_countNumber 152 = .ok (.aload_n 0, 1) := by decide +kernel
theorem dX6_countNumber_153 : decode cX6_countNumber 153 = .ok (.getfield 19, 3) := by decide +kernel
theorem dX6_countNumber_156 : decode cX6_countNumber 156 = .ok (.getfield 146, 3) := by decide +kernel
theorem dX6_countNumber_159 : decode cX6_countNumber 159 = .ok (.ireturn, 1) := by decide +kernel
theorem dX6_playPart_0 : decode cX6_playPart 0 = .ok (.aload_n 0, 1) := by decide +kernel
theorem dX6_playPart_1 : decode cX6_playPart 1 = .ok (.getfield 26, 3) := by decide +kernel
theorem dX6_playPart_4 : decode cX6_playPart 4 = .ok (.iload_n 1, 1) := by decide +kernel
theorem dX6_playPart_5 : decode cX6_playPart 5 = .ok (.invokevirtual 221, 3) := by decide +kernel
theorem dX6_playPart_8 : decode cX6_playPart 8 = .ok (.lookupswitch 68 #[(33, 43), (43, 28)], 28) := by decide +kernel
theorem dX6_playPart_36 : decode cX6_playPart 36 = .ok (.aload_n 0, 1) := by decide +kernel
theorem dX6_playPart_37 : decode cX6_playPart 37 = .ok (.aload_n 0, 1) := by decide +kernel
theorem dX6_playPart_38 : decode cX6_playPart 38 = .ok (.getfield 26, 3) := by decide +kernel
theorem dX6_playPart_41 : decode cX6_playPart 41 = .ok (.iload_n 1, 1) := by decide +kernel
theorem dX6_playPart_42 : decode cX6_playPart 42 = .ok (.iconst 1, 1) := by decide +kernel
theorem dX6_playPart_43 : decode cX6_playPart 43 = .ok (.iadd, 1) := by decide +kernel
theorem dX6_playPart_44 : decode cX6_playPart 44 = .ok (.invokevirtual 253, 3) := by decide +kernel
theorem dX6_playPart_47 : decode cX6_playPart 47 = .ok (.invokevirtual 256, 3) := by decide +kernel
theorem dX6_playPart_50 : decode cX6_playPart 50 = .ok (.ireturn, 1) := by decide +kernel
theorem dX6_playPart_51 : decode cX6_playPart 51 = .ok (.aload_n 0, 1) := by decide +kernel
theorem dX6_playPart_52 : decode cX6_playPart 52 = .ok (.aload_n 0, 1) := by decide +kernel
theorem dX6_playPart_53 : decode cX6_playPart 53 = .ok (.getfield 26, 3) := by decide +kernel
theorem dX6_playPart_56 : decode cX6_playPart 56 = .ok (.iload_n 1, 1) := by decide +kernel
theorem dX6_playPart_57 : decode cX6_playPart 57 = .ok (.iconst 1, 1) := by decide +kernel
theorem dX6_playPart_58 : decode cX6_playPart 58 = .ok (.iadd, 1) := by decide +kernel
theorem dX6_playPart_59 : decode cX6_playPart 59 = .ok (.invokevirtual 259, 3) := by decide +kernel
theorem dX6_playPart_62 : decode cX6_playPart 62 = .ok (.aload_n 0, 1) := by decide +kernel
theorem dX6_playPart_63 : decode cX6_playPart 63 = .ok (.getfield 26, 3) := by decide +kernel
theorem dX6_playPart_66 : decode cX6_playPart 66 = .ok (.iload_n 1, 1) := by decide +kernel
theorem dX6_playPart_67 : decode cX6_playPart 67 = .ok (.iconst 2, 1) := by decide +kernel
theorem dX6_playPart_68 : decode cX6_playPart 68 = .ok (.iadd, 1) := by decide +kernel
theorem dX6_playPart_69 : decode cX6_playPart 69 = .ok (.invokevirtual 259, 3) := by decide +kernel
theorem dX6_playPart_72 : decode cX6_playPart 72 = .ok (.invokevirtual 262, 3) := by decide +kernel
theorem dX6_playPart_75 : decode cX6_playPart 75 = .ok (.ireturn, 1) := by decide +kernel
theorem dX6_playPart_76 : decode cX6_playPart 76 = .ok (.aload_n 0, 1) := by decide +kernel
theorem dX6_playPart_77 : decode cX6_playPart 77 = .ok (.aload_n 0, 1) := by decide +kernel
theorem dX6_playPart_78 : decode cX6_playPart 78 = .ok (.getfield 26, 3) := by decide +kernel
theorem dX6_playPart_81 : decode cX6_playPart 81 = .ok (.iload_n 1, 1) := by decide +kernel
theorem dX6_playPart_82 : decode cX6_playPart 82 = .ok (.invokevirtual 259, 3) := by decide +kernel
theorem dX6_playPart_85 : decode cX6_playPart 85 = .ok (.aload_n 0, 1) := by decide +kernel
theorem dX6_playPart_86 : decode cX6_playPart 86 = .ok (.getfield 26, 3) := by decide +kernel
theorem dX6_playPart_89 : decode cX6_playPart 89 = .ok (.iload_n 1, 1) := by decide +kernel
theorem dX6_playPart_90 : decode cX6_playPart 90 = .ok (.iconst 2, 1) := by decide +kernel
theorem dX6_playPart_91 : decode cX6_playPart 91 = .ok (.iadd, 1) := by decide +kernel
theorem dX6_playPart_92 : decode cX6_playPart 92 = .ok (.invokevirtual 259, 3) := by decide +kernel
theorem dX6_playPart_95 : decode cX6_playPart 95 = .ok (.aload_n 0, 1) := by decide +kernel
theorem dX6_playPart_96 : decode cX6_playPart 96 = .ok (.getfield 26, 3) := by decide +kernel
theorem dX6_playPart_99 : decode cX6_playPart 99 = .ok (.iload_n 1, 1) := by decide +kernel
theorem dX6_playPart_100 : decode cX6_playPart 100 = .ok (.iconst 3, 1) := by decide +kernel
theorem dX6_playPart_101 : decode cX6_playPart 101 = .ok (.iadd, 1) := by decide +kernel
theorem dX6_playPart_102 : decode cX6_playPart 102 = .ok (.invokevirtual 259, 3) := by decide +kernel
theorem dX6_playPart_105 : decode cX6_playPart 105 = .ok (.invokevirtual 265, 3) := by decide +kernel
theorem dX6_playPart_108 : decode cX6_playPart 108 = .ok (.ireturn, 1) := by decide +kernel
theorem dX6_playDays_0 : decode cX6_playDays 0 = .ok (.aload_n 0, 1) := by decide +kernel
theorem dX6_playDays_1 : decode cX6_playDays 1 = .ok (.getfield 10, 3) := by decide +kernel
theorem dX6_playDays_4 : decode cX6_playDays 4 = .ok (.iload_n 1, 1) := by decide +kernel
theorem dX6_playDays_5 : decode cX6_playDays 5 = .ok (.invokevirtual 50, 3) := by decide +kernel
theorem dX6_playDays_8 : decode cX6_playDays 8 = .ok (.ifCond .ne 5, 3) := by decide +kernel
theorem dX6_playDays_11 : decode cX6_playDays 11 = .ok (.iconst 0, 1) := by decide +kernel
theorem dX6_playDays_12 : decode cX6_playDays 12 = .ok (.ireturn, 1) := by decide +kernel
theorem dX6_playDays_13 : decode cX6_playDays 13 = .ok (.aload_n 0, 1) := by decide +kernel
theorem dX6_playDays_14 : decode cX6_playDays 14 = .ok (.getfield 10, 3) := by decide +kernel
theorem dX6_playDays_17 : decode cX6_playDays 17 = .ok (.iload_n 1, 1) := by decide +kernel
theorem dX6_playDays_18 : decode cX6_playDays 18 = .ok (.invokevirtual 57, 3) := by decide +kernel
theorem dX6_playDays_21 : decode cX6_playDays 21 = .ok (.iconst 1, 1) := by decide +kernel
theorem dX6_playDays_22 : decode cX6_playDays 22 = .ok (.ireturn, 1) := by decide +kernel
theorem dX6_playShot_0 : decode cX6_playShot 0 = .ok (.aload_n 0, 1) := by decide +kernel
theorem dX6_playShot_1 : decode cX6_playShot 1 = .ok (.getfield 10, 3) := by decide +kernel
theorem dX6_playShot_4 : decode cX6_playShot 4 = .ok (.getfield 98, 3) := by decide +kernel
theorem dX6_playShot_7 : decode cX6_playShot 7 = .ok (.iload_n 1, 1) := by decide +kernel
theorem dX6_playShot_8 : decode cX6_playShot 8 = .ok (.invokevirtual 268, 3) := by decide +kernel
theorem dX6_playShot_11 : decode cX6_playShot 11 = .ok (.ifCond .eq 15, 3) := by decide +kernel
theorem dX6_playShot_14 : decode cX6_playShot 14 = .ok (.aload_n 0, 1) := by decide +kernel
theorem dX6_playShot_15 : decode cX6_playShot 15 = .ok (.getfield 10, 3) := by decide +kernel
theorem dX6_playShot_18 : decode cX6_playShot 18 = .ok (.iload_n 1, 1) := by decide +kernel
theorem dX6_playShot_19 : decode cX6_playShot 19 = .ok (.iload_n 2, 1) := by decide +kernel
theorem dX6_playShot_20 : decode cX6_playShot 20 = .ok (.invokevirtual 114, 3) := by decide +kernel
theorem dX6_playShot_23 : decode cX6_playShot 23 = .ok (.ifCond .ne 5, 3) := by decide +kernel
theorem dX6_playShot_26 : decode cX6_playShot 26 = .ok (.iconst 0, 1) := by decide +kernel
theorem dX6_playShot_27 : decode cX6_playShot 27 = .ok (.ireturn, 1) := by decide +kernel
theorem dX6_playShot_28 : decode cX6_playShot 28 = .ok (.aload_n 0, 1) := by decide +kernel
theorem dX6_playShot_29 : decode cX6_playShot 29 = .ok (.getfield 10, 3) := by decide +kernel
theorem dX6_playShot_32 : decode cX6_playShot 32 = .ok (.iload_n 1, 1) := by decide +kernel
theorem dX6_playShot_33 : decode cX6_playShot 33 = .ok (.iload_n 2, 1) := by decide +kernel
theorem dX6_playShot_34 : decode cX6_playShot 34 = .ok (.invokevirtual 117, 3) := by decide +kernel
theorem dX6_playShot_37 : decode cX6_playShot 37 = .ok (.iconst 1, 1) := by decide +kernel
theorem dX6_playShot_38 : decode cX6_playShot 38 = .ok (.ireturn, 1) := by decide +kernel
theorem dX6_playRehearsal_0 : decode cX6_playRehearsal 0 = .ok (.aload_n 0, 1) := by decide +kernel
theorem dX6_playRehearsal_1 : decode cX6_playRehearsal 1 = .ok (.getfield 10, 3) := by decide +kernel
theorem dX6_playRehearsal_4 : decode cX6_playRehearsal 4 = .ok (.iload_n 1, 1) := by decide +kernel
theorem dX6_playRehearsal_5 : decode cX6_playRehearsal 5 = .ok (.iload_n 2, 1) := by decide +kernel
theorem dX6_playRehearsal_6 : decode cX6_playRehearsal 6 = .ok (.invokevirtual 67, 3) := by decide +kernel
theorem dX6_playRehearsal_9 : decode cX6_playRehearsal 9 = .ok (.ifCond .ne 5, 3) := by decide +kernel
theorem dX6_playRehearsal_12 : decode cX6_playRehearsal 12 = .ok (.iconst 0, 1) := by decide +kernel
theorem dX6_playRehearsal_13 : decode cX6_playRehearsal 13 = .ok (.ireturn, 1) := by decide +kernel
theorem dX6_playRehearsal_14 : decode cX6_playRehearsal 14 = .ok (.aload_n 0, 1) := by decide +kernel
theorem dX6_playRehearsal_15 : decode cX6_playRehearsal 15 = .ok (.getfield 10, 3) := by decide +kernel
theorem dX6_playRehearsal_18 : decode cX6_playRehearsal 18 = .ok (.iload_n 1, 1) := by decide +kernel
theorem dX6_playRehearsal_19 : decode cX6_playRehearsal 19 = .ok (.iload_n 2, 1) := by decide +kernel
theorem dX6_playRehearsal_20 : decode cX6_playRehearsal 20 = .ok (.iload_n 3, 1) := by decide +kernel
theorem dX6_playRehearsal_21 : decode cX6_playRehearsal 21 = .ok (.invokevirtual 71, 3) := by decide +kernel
theorem dX6_playRehearsal_24 : decode cX6_playRehearsal 24 = .ok (.pop, 1) := by decide +kernel
theorem dX6_playRehearsal_25 : decode cX6_playRehearsal 25 = .ok (.iconst 1, 1) := by decide +kernel
theorem dX6_playRehearsal_26 : decode cX6_playRehearsal 26 = .ok (.ireturn, 1) := by decide +kernel
theorem dX6_requirePerson_0 : decode cX6_requirePerson 0 = .ok (.iload_n 0, 1) := by decide +kernel
theorem dX6_requirePerson_1 : decode cX6_requirePerson 1 = .ok (.iconst 0, 1) := by decide +kernel
theorem dX6_requirePerson_2 : decode cX6_requirePerson 2 = .ok (.bipush 7, 2) := by decide +kernel
theorem dX6_requirePerson_4 : decode cX6_requirePerson 4 = .ok (.invokestatic 34, 3) := by decide +kernel
theorem dX6_requirePerson_7 : decode cX6_requirePerson 7 = .ok (.ifCond .ne 14, 3) := by decide +kernel
theorem dX6_requirePerson_10 : decode cX6_requirePerson 10 = .ok (.new 271, 3) := by decide +kernel
theorem dX6_requirePerson_13 : decode cX6_requirePerson 13 = .ok (.dup, 1) := by decide +kernel
theorem dX6_requirePerson_14 : decode cX6_requirePerson 14 = .ok (.ldc_w 273, 3) := by decide +kernel
theorem dX6_requirePerson_17 : decode cX6_requirePerson 17 = .ok (.invokespecial 275, 3) := by decide +kernel
theorem dX6_requirePerson_20 : decode cX6_requirePerson 20 = .ok (.athrow, 1) := by decide +kernel
theorem dX6_requirePerson_21 : decode cX6_requirePerson 21 = .ok (.return_, 1) := by decide +kernel
theorem dX6_requireKind_0 : decode cX6_requireKind 0 = .ok (.iload_n 0, 1) := by decide +kernel
theorem dX6_requireKind_1 : decode cX6_requireKind 1 = .ok (.iconst 0, 1) := by decide +kernel
theorem dX6_requireKind_2 : decode cX6_requireKind 2 = .ok (.iconst 5, 1) := by decide +kernel
theorem dX6_requireKind_3 : decode cX6_requireKind 3 = .ok (.invokestatic 34, 3) := by decide +kernel
theorem dX6_requireKind_6 : decode cX6_requireKind 6 = .ok (.ifCond .ne 14, 3) := by decide +kernel
theorem dX6_requireKind_9 : decode cX6_requireKind 9 = .ok (.new 271, 3) := by decide +kernel
theorem dX6_requireKind_12 : decode cX6_requireKind 12 = .ok (.dup, 1) := by decide +kernel
theorem dX6_requireKind_13 : decode cX6_requireKind 13 = .ok (.ldc_w 278, 3) := by decide +kernel
theorem dX6_requireKind_16 : decode cX6_requireKind 16 = .ok (.invokespecial 275, 3) := by decide +kernel
theorem dX6_requireKind_19 : decode cX6_requireKind 19 = .ok (.athrow, 1) := by decide +kernel
theorem dX6_requireKind_20 : decode cX6_requireKind 20 = .ok (.return_, 1) := by decide +kernel
theorem dX6_requireScene_0 : decode cX6_requireScene 0 = .ok (.aload_n 0, 1) := by decide +kernel
theorem dX6_requireScene_1 : decode cX6_requireScene 1 = .ok (.getfield 10, 3) := by decide +kernel
theorem dX6_requireScene_4 : decode cX6_requireScene 4 = .ok (.getfield 98, 3) := by decide +kernel
theorem dX6_requireScene_7 : decode cX6_requireScene 7 = .ok (.iload_n 1, 1) := by decide +kernel
theorem dX6_requireScene_8 : decode cX6_requireScene 8 = .ok (.invokevirtual 268, 3) := by decide +kernel
theorem dX6_requireScene_11 : decode cX6_requireScene 11 = .ok (.ifCond .ne 14, 3) := by decide +kernel
theorem dX6_requireScene_14 : decode cX6_requireScene 14 = .ok (.new 271, 3) := by decide +kernel
theorem dX6_requireScene_17 : decode cX6_requireScene 17 = .ok (.dup, 1) := by decide +kernel
theorem dX6_requireScene_18 : decode cX6_requireScene 18 = .ok (.ldc_w 280, 3) := by decide +kernel
theorem dX6_requireScene_21 : decode cX6_requireScene 21 = .ok (.invokespecial 275, 3) := by decide +kernel
theorem dX6_requireScene_24 : decode cX6_requireScene 24 = .ok (.athrow, 1) := by decide +kernel
theorem dX6_requireScene_25 : decode cX6_requireScene 25 = .ok (.return_, 1) := by decide +kernel
theorem dX6_requireArgument_0 : decode cX6_requireArgument 0 = .ok (.iload_n 0, 1) := by decide +kernel
theorem dX6_requireArgument_1 : decode cX6_requireArgument 1 = .ok (.ifCond .ne 14, 3) := by decide +kernel
theorem dX6_requireArgument_4 : decode cX6_requireArgument 4 = .ok (.new 282, 3) := by decide +kernel
theorem dX6_requireArgument_7 : decode cX6_requireArgument 7 = .ok (.dup, 1) := by decide +kernel
theorem dX6_requireArgument_8 : decode cX6_requireArgument 8 = .ok (.ldc_w 284, 3) := by decide +kernel
theorem dX6_requireArgument_11 : decode cX6_requireArgument 11 = .ok (.invokespecial 286, 3) := by decide +kernel
theorem dX6_requireArgument_14 : decode cX6_requireArgument 14 = .ok (.athrow, 1) := by decide +kernel
theorem dX6_requireArgument_15 : decode cX6_requireArgument 15 = .ok (.return_, 1) := by decide +kernel
theorem dX6_requireState_0 : decode cX6_requireState 0 = .ok (.iload_n 0, 1) := by decide +kernel
theorem dX6_requireState_1 : decode cX6_requireState 1 = .ok (.ifCond .ne 14, 3) := by decide +kernel
theorem dX6_requireState_4 : decode cX6_requireState 4 = .ok (.new 287, 3) := by decide +kernel
theorem dX6_requireState_7 : decode cX6_requireState 7 = .ok (.dup, 1) := by decide +kernel
theorem dX6_requireState_8 : decode cX6_requireState 8 = .ok (.ldc_w 289, 3) := by decide +kernel
theorem dX6_requireState_11 : decode cX6_requireState 11 = .ok (.invokespecial 291, 3) := by decide +kernel
theorem dX6_requireState_14 : decode cX6_requireState 14 = .ok (.athrow, 1) := by decide +kernel
theorem dX6_requireState_15 : decode cX6_requireState 15 = .ok (.return_, 1) := by decide +kernel
theorem dX6_isBetween_0 : decode cX6_isBetween 0 = .ok (.iload_n 0, 1) := by decide +kernel
theorem dX6_isBetween_1 : decode cX6_isBetween 1 = .ok (.iload_n 1, 1) := by decide +kernel
theorem dX6_isBetween_2 : decode cX6_isBetween 2 = .ok (.if_icmp .lt 12, 3) := by decide +kernel
theorem dX6_isBetween_5 : decode cX6_isBetween 5 = .ok (.iload_n 0, 1) := by decide +kernel
theorem dX6_isBetween_6 : decode cX6_isBetween 6 = .ok (.iload_n 2, 1) := by decide +kernel
theorem dX6_isBetween_7 : decode cX6_isBetween 7 = .ok (.if_icmp .gt 7, 3) := by decide +kernel
theorem dX6_isBetween_10 : decode cX6_isBetween 10 = .ok (.iconst 1, 1) := by decide +kernel
theorem dX6_isBetween_11 : decode cX6_isBetween 11 = .ok (.goto 4, 3) := by decide +kernel
theorem dX6_isBetween_14 : decode cX6_isBetween 14 = .ok (.iconst 0, 1) := by decide +kernel
theorem dX6_isBetween_15 : decode cX6_isBetween 15 = .ok (.ireturn, 1) := by decide +kernel
theorem dX6_isPart_0 : decode cX6_isPart 0 = .ok (.iload_n 0, 1) := by decide +kernel
theorem dX6_isPart_1 : decode cX6_isPart 1 = .ok (.iconst 1, 1) := by decide +kernel
theorem dX6_isPart_2 : decode cX6_isPart 2 = .ok (.bipush 32, 2) := by decide +kernel
theorem dX6_isPart_4 : decode cX6_isPart 4 = .ok (.invokestatic 34, 3) := by decide +kernel
theorem dX6_isPart_7 : decode cX6_isPart 7 = .ok (.ifCond .eq 15, 3) := by decide +kernel
theorem dX6_isPart_10 : decode cX6_isPart 10 = .ok (.iload_n 0, 1) := by decide +kernel
theorem dX6_isPart_11 : decode cX6_isPart 11 = .ok (.iload_n 0, 1) := by decide +kernel
theorem dX6_isPart_12 : decode cX6_isPart 12 = .ok (.iconst 1, 1) := by decide +kernel
theorem dX6_isPart_13 : decode cX6_isPart 13 = .ok (.isub, 1) := by decide +kernel
theorem dX6_isPart_14 : decode cX6_isPart 14 = .ok (.iand, 1) := by decide +kernel
theorem dX6_isPart_15 : decode cX6_isPart 15 = .ok (.ifCond .ne 7, 3) := by decide +kernel
theorem dX6_isPart_18 : decode cX6_isPart 18 = .ok (.iconst 1, 1) := by decide +kernel
theorem dX6_isPart_19 : decode cX6_isPart 19 = .ok (.goto 4, 3) := by decide +kernel
theorem dX6_isPart_22 : decode cX6_isPart 22 = .ok (.iconst 0, 1) := by decide +kernel
theorem dX6_isPart_23 : decode cX6_isPart 23 = .ok (.ireturn, 1) := by decide +kernel
theorem dX6_isInsurance_0 : decode cX6_isInsurance 0 = .ok (.iload_n 0, 1) := by decide +kernel
theorem dX6_isInsurance_1 : decode cX6_isInsurance 1 = .ok (.iconst 1, 1) := by decide +kernel
theorem dX6_isInsurance_2 : decode cX6_isInsurance 2 = .ok (.iconst 5, 1) := by decide +kernel
theorem dX6_isInsurance_3 : decode cX6_isInsurance 3 = .ok (.invokestatic 34, 3) := by decide +kernel
theorem dX6_isInsurance_6 : decode cX6_isInsurance 6 = .ok (.ifCond .eq 17, 3) := by decide +kernel
theorem dX6_isInsurance_9 : decode cX6_isInsurance 9 = .ok (.iload_n 1, 1) := by decide +kernel
theorem dX6_isInsurance_10 : decode cX6_isInsurance 10 = .ok (.iconst 1, 1) := by decide +kernel
theorem dX6_isInsurance_11 : decode cX6_isInsurance 11 = .ok (.bipush 60, 2) := by decide +kernel
theorem dX6_isInsurance_13 : decode cX6_isInsurance 13 = .ok (.invokestatic 34, 3) := by decide +kernel
theorem dX6_isInsurance_16 : decode cX6_isInsurance 16 = .ok (.ifCond .eq 7, 3) := by decide +kernel
theorem dX6_isInsurance_19 : decode cX6_isInsurance 19 = .ok (.iconst 1, 1) := by decide +kernel
theorem dX6_isInsurance_20 : decode cX6_isInsurance 20 = .ok (.goto 4, 3) := by decide +kernel
theorem dX6_isInsurance_23 : decode cX6_isInsurance 23 = .ok (.iconst 0, 1) := by decide +kernel
theorem dX6_isInsurance_24 : decode cX6_isInsurance 24 = .ok (.ireturn, 1) := by decide +kernel
theorem dX6_rehearsalsNeeded_0 : decode cX6_rehearsalsNeeded 0 = .ok (.iload_n 0, 1) := by decide +kernel
theorem dX6_rehearsalsNeeded_1 : decode cX6_rehearsalsNeeded 1 = .ok (.tableswitch 49 1 4 #[31, 35, 39, 43], 31) := by decide +kernel
theorem dX6_rehearsalsNeeded_32 : decode cX6_rehearsalsNeeded 32 = .ok (.iload_n 1, 1) := by decide +kernel
theorem dX6_rehearsalsNeeded_33 : decode cX6_rehearsalsNeeded 33 = .ok (.iconst 1, 1) := by decide +kernel
theorem dX6_rehearsalsNeeded_34 : decode cX6_rehearsalsNeeded 34 = .ok (.iadd, 1) := by decide +kernel
theorem dX6_rehearsalsNeeded_35 : decode cX6_rehearsalsNeeded 35 = .ok (.ireturn, 1) := by decide +kernel
theorem dX6_rehearsalsNeeded_36 : decode cX6_rehearsalsNeeded 36 = .ok (.iconst 2, 1) := by decide +kernel
theorem dX6_rehearsalsNeeded_37 : decode cX6_rehearsalsNeeded 37 = .ok (.iload_n 1, 1) := by decide +kernel
theorem dX6_rehearsalsNeeded_38 : decode cX6_rehearsalsNeeded 38 = .ok (.imul, 1) := by decide +kernel
theorem dX6_rehearsalsNeeded_39 : decode cX6_rehearsalsNeeded 39 = .ok (.ireturn, 1) := by decide +kernel
theorem dX6_rehearsalsNeeded_40 : decode cX6_rehearsalsNeeded 40 = .ok (.iload_n 1, 1) := by decide +kernel
theorem dX6_rehearsalsNeeded_41 : decode cX6_rehearsalsNeeded 41 = .ok (.iconst 2, 1) := by decide +kernel
theorem dX6_rehearsalsNeeded_42 : decode cX6_rehearsalsNeeded 42 = .ok (.iadd, 1) := by decide +kernel
theorem dX6_rehearsalsNeeded_43 : decode cX6_rehearsalsNeeded 43 = .ok (.ireturn, 1) := by decide +kernel
theorem dX6_rehearsalsNeeded_44 : decode cX6_rehearsalsNeeded 44 = .ok (.iload_n 1, 1) := by decide +kernel
theorem dX6_rehearsalsNeeded_45 : decode cX6_rehearsalsNeeded 45 = .ok (.iconst 2, 1) := by decide +kernel
theorem dX6_rehearsalsNeeded_46 : decode cX6_rehearsalsNeeded 46 = .ok (.idiv, 1) := by decide +kernel
theorem dX6_rehearsalsNeeded_47 : decode cX6_rehearsalsNeeded 47 = .ok (.iconst 1, 1) := by decide +kernel
theorem dX6_rehearsalsNeeded_48 : decode cX6_rehearsalsNeeded 48 = .ok (.iadd, 1) := by decide +kernel
theorem dX6_rehearsalsNeeded_49 : decode cX6_rehearsalsNeeded 49 = .ok (.ireturn, 1) := by decide +kernel
theorem dX6_rehearsalsNeeded_50 : decode cX6_rehearsalsNeeded 50 = .ok (.iload_n 1, 1) := by decide +kernel
theorem dX6_rehearsalsNeeded_51 : decode cX6_rehearsalsNeeded 51 = .ok (.ireturn, 1) := by decide +kernel
theorem dX6_barsKind_0 : decode cX6_barsKind 0 = .ok (.iload_n 0, 1) := by decide +kernel
theorem dX6_barsKind_1 : decode cX6_barsKind 1 = .ok (.getstatic 176, 3) := by decide +kernel
theorem dX6_barsKind_4 : decode cX6_barsKind 4 = .ok (.iload_n 1, 1) := by decide +kernel
theorem dX6_barsKind_5 : decode cX6_barsKind 5 = .ok (.invokestatic 172, 3) := by decide +kernel
theorem dX6_barsKind_8 : decode cX6_barsKind 8 = .ok (.iand, 1) := by decide +kernel
theorem dX6_barsKind_9 : decode cX6_barsKind 9 = .ok (.ifCond .eq 7, 3) := by decide +kernel
theorem dX6_barsKind_12 : decode cX6_barsKind 12 = .ok (.iconst 1, 1) := by decide +kernel
theorem dX6_barsKind_13 : decode cX6_barsKind 13 = .ok (.goto 4, 3) := by decide +kernel
theorem dX6_barsKind_16 : decode cX6_barsKind 16 = .ok (.iconst 0, 1) := by decide +kernel
theorem dX6_barsKind_17 : decode cX6_barsKind 17 = .ok (.ireturn, 1) := by decide +kernel
theorem dX6_at_0 : decode cX6_at 0 = .ok (.aload_n 0, 1) := by decide +kernel
theorem dX6_at_1 : decode cX6_at 1 = .ok (.ifnull 19, 3) := by decide +kernel
theorem dX6_at_4 : decode cX6_at 4 = .ok (.iload_n 1, 1) := by decide +kernel
theorem dX6_at_5 : decode cX6_at 5 = .ok (.ifCond .lt 15, 3) := by decide +kernel
theorem dX6_at_8 : decode cX6_at 8 = .ok (.iload_n 1, 1) := by decide +kernel
theorem dX6_at_9 : decode cX6_at 9 = .ok (.aload_n 0, 1) := by decide +kernel
theorem dX6_at_10 : decode cX6_at 10 = .ok (.arraylength, 1) := by decide +kernel
theorem dX6_at_11 : decode cX6_at 11 = .ok (.if_icmp .ge 9, 3) := by decide +kernel
theorem dX6_at_14 : decode cX6_at 14 = .ok (.aload_n 0, 1) := by decide +kernel
theorem dX6_at_15 : decode cX6_at 15 = .ok (.iload_n 1, 1) := by decide +kernel
theorem dX6_at_16 : decode cX6_at 16 = .ok (.iaload, 1) := by decide +kernel
theorem dX6_at_17 : decode cX6_at 17 = .ok (.goto 4, 3) := by decide +kernel
theorem dX6_at_20 : decode cX6_at 20 = .ok (.iconst 0, 1) := by decide +kernel
theorem dX6_at_21 : decode cX6_at 21 = .ok (.ireturn, 1) := by decide +kernel
theorem dX6_put_0 : decode cX6_put 0 = .ok (.aload_n 0, 1) := by decide +kernel
theorem dX6_put_1 : decode cX6_put 1 = .ok (.ifnull 17, 3) := by decide +kernel
theorem dX6_put_4 : decode cX6_put 4 = .ok (.iload_n 1, 1) := by decide +kernel
theorem dX6_put_5 : decode cX6_put 5 = .ok (.ifCond .lt 13, 3) := by decide +kernel
theorem dX6_put_8 : decode cX6_put 8 = .ok (.iload_n 1, 1) := by decide +kernel
theorem dX6_put_9 : decode cX6_put 9 = .ok (.aload_n 0, 1) := by decide +kernel
theorem dX6_put_10 : decode cX6_put 10 = .ok (.arraylength, 1) := by decide +kernel
theorem dX6_put_11 : decode cX6_put 11 = .ok (.if_icmp .ge 7, 3) := by decide +kernel
theorem dX6_put_14 : decode cX6_put 14 = .ok (.aload_n 0, 1) := by decide +kernel
theorem dX6_put_15 : decode cX6_put 15 = .ok (.iload_n 1, 1) := by decide +kernel
theorem dX6_put_16 : decode cX6_put 16 = .ok (.iload_n 2, 1) := by decide +kernel
theorem dX6_put_17 : decode cX6_put 17 = .ok (.iastore, 1) := by decide +kernel
theorem dX6_put_18 : decode cX6_put 18 = .ok (.return_, 1) := by decide +kernel
theorem dX6_copyRow_0 : decode cX6_copyRow 0 = .ok (.aload_n 0, 1) := by decide +kernel
theorem dX6_copyRow_1 : decode cX6_copyRow 1 = .ok (.ifnull 7, 3) := by decide +kernel
theorem dX6_copyRow_4 : decode cX6_copyRow 4 = .ok (.aload_n 1, 1) := by decide +kernel
theorem dX6_copyRow_5 : decode cX6_copyRow 5 = .ok (.ifnonnull 4, 3) := by decide +kernel
theorem dX6_copyRow_8 : decode cX6_copyRow 8 = .ok (.return_, 1) := by decide +kernel
theorem dX6_copyRow_9 : decode cX6_copyRow 9 = .ok (.iconst 0, 1) := by decide +kernel
theorem dX6_copyRow_10 : decode cX6_copyRow 10 = .ok (.istore_n 2, 1) := by decide +kernel
theorem dX6_copyRow_11 : decode cX6_copyRow 11 = .ok (.iload_n 2, 1) := by decide +kernel
theorem dX6_copyRow_12 : decode cX6_copyRow 12 = .ok (.aload_n 0, 1) := by decide +kernel
theorem dX6_copyRow_13 : decode cX6_copyRow 13 = .ok (.arraylength, 1) := by decide +kernel
theorem dX6_copyRow_14 : decode cX6_copyRow 14 = .ok (.if_icmp .ge 21, 3) := by decide +kernel
theorem dX6_copyRow_17 : decode cX6_copyRow 17 = .ok (.iload_n 2, 1) := by decide +kernel
theorem dX6_copyRow_18 : decode cX6_copyRow 18 = .ok (.aload_n 1, 1) := by decide +kernel
theorem dX6_copyRow_19 : decode cX6_copyRow 19 = .ok (.arraylength, 1) := by decide +kernel
theorem dX6_copyRow_20 : decode cX6_copyRow 20 = .ok (.if_icmp .ge 15, 3) := by decide +kernel
theorem dX6_copyRow_23 : decode cX6_copyRow 23 = .ok (.aload_n 1, 1) := by decide +kernel
theorem dX6_copyRow_24 : decode cX6_copyRow 24 = .ok (.iload_n 2, 1) := by decide +kernel
theorem dX6_copyRow_25 : decode cX6_copyRow 25 = .ok (.aload_n 0, 1) := by decide +kernel
theorem dX6_copyRow_26 : decode cX6_copyRow 26 = .ok (.iload_n 2, 1) := by decide +kernel
theorem dX6_copyRow_27 : decode cX6_copyRow 27 = .ok (.iaload, 1) := by decide +kernel
theorem dX6_copyRow_28 : decode cX6_copyRow 28 = .ok (.iastore, 1) := by decide +kernel
theorem dX6_copyRow_29 : decode cX6_copyRow 29 = .ok (.iinc 2 1, 3) := by decide +kernel
theorem dX6_copyRow_32 : decode cX6_copyRow 32 = .ok (.goto (-21), 3) := by decide +kernel
theorem dX6_copyRow_35 : decode cX6_copyRow 35 = .ok (.return_, 1) := by decide +kernel
theorem dX6_dropFirst_0 : decode cX6_dropFirst 0 = .ok (.aload_n 0, 1) := by decide +kernel
theorem dX6_dropFirst_1 : decode cX6_dropFirst 1 = .ok (.ifnonnull 4, 3) := by decide +kernel
theorem dX6_dropFirst_4 : decode cX6_dropFirst 4 = .ok (.return_, 1) := by decide +kernel
theorem dX6_dropFirst_5 : decode cX6_dropFirst 5 = .ok (.iconst 0, 1) := by decide +kernel
theorem dX6_dropFirst_6 : decode cX6_dropFirst 6 = .ok (.istore_n 1, 1) := by decide +kernel
theorem dX6_dropFirst_7 : decode cX6_dropFirst 7 = .ok (.iload_n 1, 1) := by decide +kernel
theorem dX6_dropFirst_8 : decode cX6_dropFirst 8 = .ok (.iconst 1, 1) := by decide +kernel
theorem dX6_dropFirst_9 : decode cX6_dropFirst 9 = .ok (.iadd, 1) := by decide +kernel
theorem dX6_dropFirst_10 : decode cX6_dropFirst 10 = .ok (.aload_n 0, 1) := by decide +kernel
theorem dX6_dropFirst_11 : decode cX6_dropFirst 11 = .ok (.arraylength, 1) := by decide +kernel
theorem dX6_dropFirst_12 : decode cX6_dropFirst 12 = .ok (.if_icmp .ge 17, 3) := by decide +kernel
theorem dX6_dropFirst_15 : decode cX6_dropFirst 15 = .ok (.aload_n 0, 1) := by decide +kernel
theorem dX6_dropFirst_16 : decode cX6_dropFirst 16 = .ok (.iload_n 1, 1) := by decide +kernel
theorem dX6_dropFirst_17 : decode cX6_dropFirst 17 = .ok (.aload_n 0, 1) := by decide +kernel
theorem dX6_dropFirst_18 : decode cX6_dropFirst 18 = .ok (.iload_n 1, 1) := by decide +kernel
theorem dX6_dropFirst_19 : decode cX6_dropFirst 19 = .ok (.iconst 1, 1) := by decide +kernel
theorem dX6_dropFirst_20 : decode cX6_dropFirst 20 = .ok (.iadd, 1) := by decide +kernel
theorem dX6_dropFirst_21 : decode cX6_dropFirst 21 = .ok (.iaload, 1) := by decide +kernel
theorem dX6_dropFirst_22 : decode cX6_dropFirst 22 = .ok (.iastore, 1) := by decide +kernel
theorem dX6_dropFirst_23 : decode cX6_dropFirst 23 = .ok (.iinc 1 1, 3) := by decide +kernel
theorem dX6_dropFirst_26 : decode cX6_dropFirst 26 = .ok (.goto (-19), 3) := by decide +kernel
theorem dX6_dropFirst_29 : decode cX6_dropFirst 29 = .ok (.return_, 1) := by decide +kernel
