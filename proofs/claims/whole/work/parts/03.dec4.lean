theorem dL_size_0 : decode cL_size 0 = .ok (.aload_n 3, 1) := by decide +kernel
theorem dL_size_1 : decode cL_size 1 = .ok (.iconst 0, 1) := by decide +kernel
theorem dL_size_2 : decode cL_size 2 = .ok (.aload_n 0, 1) := by decide +kernel
theorem dL_size_3 : decode cL_size 3 = .ok (.iload_n 1, 1) := by decide +kernel
theorem dL_size_4 : decode cL_size 4 = .ok (.iload_n 2, 1) := by decide +kernel
theorem dL_size_5 : decode cL_size 5 = .ok (.invokevirtual 7, 3) := by decide +kernel
theorem dL_size_8 : decode cL_size 8 = .ok (.i2l, 1) := by decide +kernel
theorem dL_size_9 : decode cL_size 9 = .ok (.lastore, 1) := by decide +kernel
theorem dL_size_10 : decode cL_size 10 = .ok (.goto 11, 3) := by decide +kernel
theorem dL_size_13 : decode cL_size 13 = .ok (.astore 4, 2) := by decide +kernel
theorem dL_size_15 : decode cL_size 15 = .ok (.iconst 1, 1) := by decide +kernel
theorem dL_size_16 : decode cL_size 16 = .ok (.ireturn, 1) := by decide +kernel
theorem dL_size_17 : decode cL_size 17 = .ok (.astore 4, 2) := by decide +kernel
theorem dL_size_19 : decode cL_size 19 = .ok (.iconst 2, 1) := by decide +kernel
theorem dL_size_20 : decode cL_size 20 = .ok (.ireturn, 1) := by decide +kernel
theorem dL_size_21 : decode cL_size 21 = .ok (.iconst 0, 1) := by decide +kernel
theorem dL_size_22 : decode cL_size 22 = .ok (.ireturn, 1) := by decide +kernel
theorem dL_pass_0 : decode cL_pass 0 = .ok (.aload_n 2, 1) := by decide +kernel
theorem dL_pass_1 : decode cL_pass 1 = .ok (.iconst 0, 1) := by decide +kernel
theorem dL_pass_2 : decode cL_pass 2 = .ok (.aload_n 0, 1) := by decide +kernel
theorem dL_pass_3 : decode cL_pass 3 = .ok (.iload_n 1, 1) := by decide +kernel
theorem dL_pass_4 : decode cL_pass 4 = .ok (.invokevirtual 17, 3) := by decide +kernel
theorem dL_pass_7 : decode cL_pass 7 = .ok (.i2l, 1) := by decide +kernel
theorem dL_pass_8 : decode cL_pass 8 = .ok (.lastore, 1) := by decide +kernel
theorem dL_pass_9 : decode cL_pass 9 = .ok (.goto 9, 3) := by decide +kernel
theorem dL_pass_12 : decode cL_pass 12 = .ok (.astore_n 3, 1) := by decide +kernel
theorem dL_pass_13 : decode cL_pass 13 = .ok (.iconst 1, 1) := by decide +kernel
theorem dL_pass_14 : decode cL_pass 14 = .ok (.ireturn, 1) := by decide +kernel
theorem dL_pass_15 : decode cL_pass 15 = .ok (.astore_n 3, 1) := by decide +kernel
theorem dL_pass_16 : decode cL_pass 16 = .ok (.iconst 2, 1) := by decide +kernel
theorem dL_pass_17 : decode cL_pass 17 = .ok (.ireturn, 1) := by decide +kernel
theorem dL_pass_18 : decode cL_pass 18 = .ok (.iconst 0, 1) := by decide +kernel
theorem dL_pass_19 : decode cL_pass 19 = .ok (.ireturn, 1) := by decide +kernel
theorem dL_rehearse_0 : decode cL_rehearse 0 = .ok (.aload 4, 2) := by decide +kernel
theorem dL_rehearse_2 : decode cL_rehearse 2 = .ok (.iconst 0, 1) := by decide +kernel
theorem dL_rehearse_3 : decode cL_rehearse 3 = .ok (.aload_n 0, 1) := by decide +kernel
theorem dL_rehearse_4 : decode cL_rehearse 4 = .ok (.iload_n 1, 1) := by decide +kernel
theorem dL_rehearse_5 : decode cL_rehearse 5 = .ok (.iload_n 2, 1) := by decide +kernel
theorem dL_rehearse_6 : decode cL_rehearse 6 = .ok (.iload_n 3, 1) := by decide +kernel
theorem dL_rehearse_7 : decode cL_rehearse 7 = .ok (.invokevirtual 23, 3) := by decide +kernel
theorem dL_rehearse_10 : decode cL_rehearse 10 = .ok (.i2l, 1) := by decide +kernel
theorem dL_rehearse_11 : decode cL_rehearse 11 = .ok (.lastore, 1) := by decide +kernel
theorem dL_rehearse_12 : decode cL_rehearse 12 = .ok (.goto 15, 3) := by decide +kernel
theorem dL_rehearse_15 : decode cL_rehearse 15 = .ok (.astore 5, 2) := by decide +kernel
theorem dL_rehearse_17 : decode cL_rehearse 17 = .ok (.iconst 1, 1) := by decide +kernel
theorem dL_rehearse_18 : decode cL_rehearse 18 = .ok (.ireturn, 1) := by decide +kernel
theorem dL_rehearse_19 : decode cL_rehearse 19 = .ok (.astore 5, 2) := by decide +kernel
theorem dL_rehearse_21 : decode cL_rehearse 21 = .ok (.iconst 2, 1) := by decide +kernel
theorem dL_rehearse_22 : decode cL_rehearse 22 = .ok (.ireturn, 1) := by decide +kernel
theorem dL_rehearse_23 : decode cL_rehearse 23 = .ok (.astore 5, 2) := by decide +kernel
theorem dL_rehearse_25 : decode cL_rehearse 25 = .ok (.iconst 3, 1) := by decide +kernel
theorem dL_rehearse_26 : decode cL_rehearse 26 = .ok (.ireturn, 1) := by decide +kernel
theorem dL_rehearse_27 : decode cL_rehearse 27 = .ok (.iconst 0, 1) := by decide +kernel
theorem dL_rehearse_28 : decode cL_rehearse 28 = .ok (.ireturn, 1) := by decide +kernel
theorem dL_hurt_0 : decode cL_hurt 0 = .ok (.aload 4, 2) := by decide +kernel
theorem dL_hurt_2 : decode cL_hurt 2 = .ok (.iconst 0, 1) := by decide +kernel
theorem dL_hurt_3 : decode cL_hurt 3 = .ok (.aload_n 0, 1) := by decide +kernel
theorem dL_hurt_4 : decode cL_hurt 4 = .ok (.iload_n 1, 1) := by decide +kernel
theorem dL_hurt_5 : decode cL_hurt 5 = .ok (.iload_n 2, 1) := by decide +kernel
theorem dL_hurt_6 : decode cL_hurt 6 = .ok (.iload_n 3, 1) := by decide +kernel
theorem dL_hurt_7 : decode cL_hurt 7 = .ok (.invokevirtual 27, 3) := by decide +kernel
theorem dL_hurt_10 : decode cL_hurt 10 = .ok (.i2l, 1) := by decide +kernel
theorem dL_hurt_11 : decode cL_hurt 11 = .ok (.lastore, 1) := by decide +kernel
theorem dL_hurt_12 : decode cL_hurt 12 = .ok (.goto 11, 3) := by decide +kernel
theorem dL_hurt_15 : decode cL_hurt 15 = .ok (.astore 5, 2) := by decide +kernel
theorem dL_hurt_17 : decode cL_hurt 17 = .ok (.iconst 1, 1) := by decide +kernel
theorem dL_hurt_18 : decode cL_hurt 18 = .ok (.ireturn, 1) := by decide +kernel
theorem dL_hurt_19 : decode cL_hurt 19 = .ok (.astore 5, 2) := by decide +kernel
theorem dL_hurt_21 : decode cL_hurt 21 = .ok (.iconst 2, 1) := by decide +kernel
theorem dL_hurt_22 : decode cL_hurt 22 = .ok (.ireturn, 1) := by decide +kernel
theorem dL_hurt_23 : decode cL_hurt 23 = .ok (.iconst 0, 1) := by decide +kernel
theorem dL_hurt_24 : decode cL_hurt 24 = .ok (.ireturn, 1) := by decide +kernel
theorem dL_insure_0 : decode cL_insure 0 = .ok (.aload_n 3, 1) := by decide +kernel
theorem dL_insure_1 : decode cL_insure 1 = .ok (.iconst 0, 1) := by decide +kernel
theorem dL_insure_2 : decode cL_insure 2 = .ok (.aload_n 0, 1) := by decide +kernel
theorem dL_insure_3 : decode cL_insure 3 = .ok (.iload_n 1, 1) := by decide +kernel
theorem dL_insure_4 : decode cL_insure 4 = .ok (.iload_n 2, 1) := by decide +kernel
theorem dL_insure_5 : decode cL_insure 5 = .ok (.invokevirtual 30, 3) := by decide +kernel
theorem dL_insure_8 : decode cL_insure 8 = .ok (.i2l, 1) := by decide +kernel
theorem dL_insure_9 : decode cL_insure 9 = .ok (.lastore, 1) := by decide +kernel
theorem dL_insure_10 : decode cL_insure 10 = .ok (.goto 11, 3) := by decide +kernel
theorem dL_insure_13 : decode cL_insure 13 = .ok (.astore 4, 2) := by decide +kernel
theorem dL_insure_15 : decode cL_insure 15 = .ok (.iconst 1, 1) := by decide +kernel
theorem dL_insure_16 : decode cL_insure 16 = .ok (.ireturn, 1) := by decide +kernel
theorem dL_insure_17 : decode cL_insure 17 = .ok (.astore 4, 2) := by decide +kernel
theorem dL_insure_19 : decode cL_insure 19 = .ok (.iconst 2, 1) := by decide +kernel
theorem dL_insure_20 : decode cL_insure 20 = .ok (.ireturn, 1) := by decide +kernel
theorem dL_insure_21 : decode cL_insure 21 = .ok (.iconst 0, 1) := by decide +kernel
theorem dL_insure_22 : decode cL_insure 22 = .ok (.ireturn, 1) := by decide +kernel
theorem dL_scene_0 : decode cL_scene 0 = .ok (.aload 4, 2) := by decide +kernel
theorem dL_scene_2 : decode cL_scene 2 = .ok (.iconst 0, 1) := by decide +kernel
theorem dL_scene_3 : decode cL_scene 3 = .ok (.aload_n 0, 1) := by decide +kernel
theorem dL_scene_4 : decode cL_scene 4 = .ok (.iload_n 1, 1) := by decide +kernel
theorem dL_scene_5 : decode cL_scene 5 = .ok (.iload_n 2, 1) := by decide +kernel
theorem dL_scene_6 : decode cL_scene 6 = .ok (.iload_n 3, 1) := by decide +kernel
theorem dL_scene_7 : decode cL_scene 7 = .ok (.invokevirtual 33, 3) := by decide +kernel
theorem dL_scene_10 : decode cL_scene 10 = .ok (.i2l, 1) := by decide +kernel
theorem dL_scene_11 : decode cL_scene 11 = .ok (.lastore, 1) := by decide +kernel
theorem dL_scene_12 : decode cL_scene 12 = .ok (.goto 15, 3) := by decide +kernel
theorem dL_scene_15 : decode cL_scene 15 = .ok (.astore 5, 2) := by decide +kernel
theorem dL_scene_17 : decode cL_scene 17 = .ok (.iconst 1, 1) := by decide +kernel
theorem dL_scene_18 : decode cL_scene 18 = .ok (.ireturn, 1) := by decide +kernel
theorem dL_scene_19 : decode cL_scene 19 = .ok (.astore 5, 2) := by decide +kernel
theorem dL_scene_21 : decode cL_scene 21 = .ok (.iconst 2, 1) := by decide +kernel
theorem dL_scene_22 : decode cL_scene 22 = .ok (.ireturn, 1) := by decide +kernel
theorem dL_scene_23 : decode cL_scene 23 = .ok (.astore 5, 2) := by decide +kernel
theorem dL_scene_25 : decode cL_scene 25 = .ok (.iconst 3, 1) := by decide +kernel
theorem dL_scene_26 : decode cL_scene 26 = .ok (.ireturn, 1) := by decide +kernel
theorem dL_scene_27 : decode cL_scene 27 = .ok (.iconst 0, 1) := by decide +kernel
theorem dL_scene_28 : decode cL_scene 28 = .ok (.ireturn, 1) := by decide +kernel
theorem dL_shoot_0 : decode cL_shoot 0 = .ok (.aload_n 3, 1) := by decide +kernel
theorem dL_shoot_1 : decode cL_shoot 1 = .ok (.iconst 0, 1) := by decide +kernel
theorem dL_shoot_2 : decode cL_shoot 2 = .ok (.aload_n 0, 1) := by decide +kernel
theorem dL_shoot_3 : decode cL_shoot 3 = .ok (.iload_n 1, 1) := by decide +kernel
theorem dL_shoot_4 : decode cL_shoot 4 = .ok (.iload_n 2, 1) := by decide +kernel
theorem dL_shoot_5 : decode cL_shoot 5 = .ok (.invokevirtual 36, 3) := by decide +kernel
theorem dL_shoot_8 : decode cL_shoot 8 = .ok (.i2l, 1) := by decide +kernel
theorem dL_shoot_9 : decode cL_shoot 9 = .ok (.lastore, 1) := by decide +kernel
theorem dL_shoot_10 : decode cL_shoot 10 = .ok (.goto 11, 3) := by decide +kernel
theorem dL_shoot_13 : decode cL_shoot 13 = .ok (.astore 4, 2) := by decide +kernel
theorem dL_shoot_15 : decode cL_shoot 15 = .ok (.iconst 1, 1) := by decide +kernel
theorem dL_shoot_16 : decode cL_shoot 16 = .ok (.ireturn, 1) := by decide +kernel
theorem dL_shoot_17 : decode cL_shoot 17 = .ok (.astore 4, 2) := by decide +kernel
theorem dL_shoot_19 : decode cL_shoot 19 = .ok (.iconst 2, 1) := by decide +kernel
theorem dL_shoot_20 : decode cL_shoot 20 = .ok (.ireturn, 1) := by decide +kernel
theorem dL_shoot_21 : decode cL_shoot 21 = .ok (.iconst 0, 1) := by decide +kernel
theorem dL_shoot_22 : decode cL_shoot 22 = .ok (.ireturn, 1) := by decide +kernel
theorem dL_append_0 : decode cL_append 0 = .ok (.aload_n 2, 1) := by decide +kernel
theorem dL_append_1 : decode cL_append 1 = .ok (.iconst 0, 1) := by decide +kernel
theorem dL_append_2 : decode cL_append 2 = .ok (.aload_n 0, 1) := by decide +kernel
theorem dL_append_3 : decode cL_append 3 = .ok (.iload_n 1, 1) := by decide +kernel
theorem dL_append_4 : decode cL_append 4 = .ok (.invokevirtual 39, 3) := by decide +kernel
theorem dL_append_7 : decode cL_append 7 = .ok (.i2l, 1) := by decide +kernel
theorem dL_append_8 : decode cL_append 8 = .ok (.lastore, 1) := by decide +kernel
theorem dL_append_9 : decode cL_append 9 = .ok (.goto 9, 3) := by decide +kernel
theorem dL_append_12 : decode cL_append 12 = .ok (.astore_n 3, 1) := by decide +kernel
theorem dL_append_13 : decode cL_append 13 = .ok (.iconst 1, 1) := by decide +kernel
theorem dL_append_14 : decode cL_append 14 = .ok (.ireturn, 1) := by decide +kernel
theorem dL_append_15 : decode cL_append 15 = .ok (.astore_n 3, 1) := by decide +kernel
theorem dL_append_16 : decode cL_append 16 = .ok (.iconst 2, 1) := by decide +kernel
theorem dL_append_17 : decode cL_append 17 = .ok (.ireturn, 1) := by decide +kernel
theorem dL_append_18 : decode cL_append 18 = .ok (.iconst 0, 1) := by decide +kernel
theorem dL_append_19 : decode cL_append 19 = .ok (.ireturn, 1) := by decide +kernel
theorem dL_play_0 : decode cL_play 0 = .ok (.aload_n 1, 1) := by decide +kernel
theorem dL_play_1 : decode cL_play 1 = .ok (.iconst 0, 1) := by decide +kernel
theorem dL_play_2 : decode cL_play 2 = .ok (.aload_n 0, 1) := by decide +kernel
theorem dL_play_3 : decode cL_play 3 = .ok (.invokevirtual 42, 3) := by decide +kernel
theorem dL_play_6 : decode cL_play 6 = .ok (.i2l, 1) := by decide +kernel
theorem dL_play_7 : decode cL_play 7 = .ok (.lastore, 1) := by decide +kernel
theorem dL_play_8 : decode cL_play 8 = .ok (.goto 6, 3) := by decide +kernel
theorem dL_play_11 : decode cL_play 11 = .ok (.astore_n 2, 1) := by decide +kernel
theorem dL_play_12 : decode cL_play 12 = .ok (.iconst 1, 1) := by decide +kernel
theorem dL_play_13 : decode cL_play 13 = .ok (.ireturn, 1) := by decide +kernel
theorem dL_play_14 : decode cL_play 14 = .ok (.iconst 0, 1) := by decide +kernel
theorem dL_play_15 : decode cL_play 15 = .ok (.ireturn, 1) := by decide +kernel
theorem dL_undo_0 : decode cL_undo 0 = .ok (.aload_n 1, 1) := by decide +kernel
theorem dL_undo_1 : decode cL_undo 1 = .ok (.iconst 0, 1) := by decide +kernel
theorem dL_undo_2 : decode cL_undo 2 = .ok (.aload_n 0, 1) := by decide +kernel
theorem dL_undo_3 : decode cL_undo 3 = .ok (.invokevirtual 46, 3) := by decide +kernel
theorem dL_undo_6 : decode cL_undo 6 = .ok (.i2l, 1) := by decide +kernel
theorem dL_undo_7 : decode cL_undo 7 = .ok (.lastore, 1) := by decide +kernel
theorem dL_undo_8 : decode cL_undo 8 = .ok (.goto 6, 3) := by decide +kernel
theorem dL_undo_11 : decode cL_undo 11 = .ok (.astore_n 2, 1) := by decide +kernel
theorem dL_undo_12 : decode cL_undo 12 = .ok (.iconst 1, 1) := by decide +kernel
theorem dL_undo_13 : decode cL_undo 13 = .ok (.ireturn, 1) := by decide +kernel
theorem dL_undo_14 : decode cL_undo 14 = .ok (.iconst 0, 1) := by decide +kernel
theorem dL_undo_15 : decode cL_undo 15 = .ok (.ireturn, 1) := by decide +kernel
theorem dL_person_0 : decode cL_person 0 = .ok (.aload_n 3, 1) := by decide +kernel
theorem dL_person_1 : decode cL_person 1 = .ok (.iconst 0, 1) := by decide +kernel
theorem dL_person_2 : decode cL_person 2 = .ok (.aload_n 0, 1) := by decide +kernel
theorem dL_person_3 : decode cL_person 3 = .ok (.iload_n 1, 1) := by decide +kernel
theorem dL_person_4 : decode cL_person 4 = .ok (.iload_n 2, 1) := by decide +kernel
theorem dL_person_5 : decode cL_person 5 = .ok (.invokevirtual 49, 3) := by decide +kernel
theorem dL_person_8 : decode cL_person 8 = .ok (.i2l, 1) := by decide +kernel
theorem dL_person_9 : decode cL_person 9 = .ok (.lastore, 1) := by decide +kernel
theorem dL_person_10 : decode cL_person 10 = .ok (.goto 11, 3) := by decide +kernel
theorem dL_person_13 : decode cL_person 13 = .ok (.astore 4, 2) := by decide +kernel
theorem dL_person_15 : decode cL_person 15 = .ok (.iconst 1, 1) := by decide +kernel
theorem dL_person_16 : decode cL_person 16 = .ok (.ireturn, 1) := by decide +kernel
theorem dL_person_17 : decode cL_person 17 = .ok (.astore 4, 2) := by decide +kernel
theorem dL_person_19 : decode cL_person 19 = .ok (.iconst 2, 1) := by decide +kernel
theorem dL_person_20 : decode cL_person 20 = .ok (.ireturn, 1) := by decide +kernel
theorem dL_person_21 : decode cL_person 21 = .ok (.iconst 0, 1) := by decide +kernel
theorem dL_person_22 : decode cL_person 22 = .ok (.ireturn, 1) := by decide +kernel
theorem dL_rehearsed_0 : decode cL_rehearsed 0 = .ok (.aload 4, 2) := by decide +kernel
theorem dL_rehearsed_2 : decode cL_rehearsed 2 = .ok (.iconst 0, 1) := by decide +kernel
theorem dL_rehearsed_3 : decode cL_rehearsed 3 = .ok (.aload_n 0, 1) := by decide +kernel
theorem dL_rehearsed_4 : decode cL_rehearsed 4 = .ok (.iload_n 1, 1) := by decide +kernel
theorem dL_rehearsed_5 : decode cL_rehearsed 5 = .ok (.iload_n 2, 1) := by decide +kernel
theorem dL_rehearsed_6 : decode cL_rehearsed 6 = .ok (.iload_n 3, 1) := by decide +kernel
theorem dL_rehearsed_7 : decode cL_rehearsed 7 = .ok (.invokevirtual 52, 3) := by decide +kernel
theorem dL_rehearsed_10 : decode cL_rehearsed 10 = .ok (.i2l, 1) := by decide +kernel
theorem dL_rehearsed_11 : decode cL_rehearsed 11 = .ok (.lastore, 1) := by decide +kernel
theorem dL_rehearsed_12 : decode cL_rehearsed 12 = .ok (.goto 11, 3) := by decide +kernel
theorem dL_rehearsed_15 : decode cL_rehearsed 15 = .ok (.astore 5, 2) := by decide +kernel
theorem dL_rehearsed_17 : decode cL_rehearsed 17 = .ok (.iconst 1, 1) := by decide +kernel
theorem dL_rehearsed_18 : decode cL_rehearsed 18 = .ok (.ireturn, 1) := by decide +kernel
theorem dL_rehearsed_19 : decode cL_rehearsed 19 = .ok (.astore 5, 2) := by decide +kernel
theorem dL_rehearsed_21 : decode cL_rehearsed 21 = .ok (.iconst 2, 1) := by decide +kernel
theorem dL_rehearsed_22 : decode cL_rehearsed 22 = .ok (.ireturn, 1) := by decide +kernel
theorem dL_rehearsed_23 : decode cL_rehearsed 23 = .ok (.iconst 0, 1) := by decide +kernel
theorem dL_rehearsed_24 : decode cL_rehearsed 24 = .ok (.ireturn, 1) := by decide +kernel
theorem dL_kind_0 : decode cL_kind 0 = .ok (.aload 4, 2) := by decide +kernel
theorem dL_kind_2 : decode cL_kind 2 = .ok (.iconst 0, 1) := by decide +kernel
theorem dL_kind_3 : decode cL_kind 3 = .ok (.aload_n 0, 1) := by decide +kernel
theorem dL_kind_4 : decode cL_kind 4 = .ok (.iload_n 1, 1) := by decide +kernel
theorem dL_kind_5 : decode cL_kind 5 = .ok (.iload_n 2, 1) := by decide +kernel
theorem dL_kind_6 : decode cL_kind 6 = .ok (.iload_n 3, 1) := by decide +kernel
theorem dL_kind_7 : decode cL_kind 7 = .ok (.invokevirtual 55, 3) := by decide +kernel
theorem dL_kind_10 : decode cL_kind 10 = .ok (.i2l, 1) := by decide +kernel
theorem dL_kind_11 : decode cL_kind 11 = .ok (.lastore, 1) := by decide +kernel
theorem dL_kind_12 : decode cL_kind 12 = .ok (.goto 11, 3) := by decide +kernel
theorem dL_kind_15 : decode cL_kind 15 = .ok (.astore 5, 2) := by decide +kernel
theorem dL_kind_17 : decode cL_kind 17 = .ok (.iconst 1, 1) := by decide +kernel
theorem dL_kind_18 : decode cL_kind 18 = .ok (.ireturn, 1) := by decide +kernel
theorem dL_kind_19 : decode cL_kind 19 = .ok (.astore 5, 2) := by decide +kernel
theorem dL_kind_21 : decode cL_kind 21 = .ok (.iconst 2, 1) := by decide +kernel
theorem dL_kind_22 : decode cL_kind 22 = .ok (.ireturn, 1) := by decide +kernel
theorem dL_kind_23 : decode cL_kind 23 = .ok (.iconst 0, 1) := by decide +kernel
theorem dL_kind_24 : decode cL_kind 24 = .ok (.ireturn, 1) := by decide +kernel
theorem dL_sceneOf_0 : decode cL_sceneOf 0 = .ok (.aload_n 3, 1) := by decide +kernel
theorem dL_sceneOf_1 : decode cL_sceneOf 1 = .ok (.iconst 0, 1) := by decide +kernel
theorem dL_sceneOf_2 : decode cL_sceneOf 2 = .ok (.aload_n 0, 1) := by decide +kernel
theorem dL_sceneOf_3 : decode cL_sceneOf 3 = .ok (.iload_n 1, 1) := by decide +kernel
theorem dL_sceneOf_4 : decode cL_sceneOf 4 = .ok (.iload_n 2, 1) := by decide +kernel
theorem dL_sceneOf_5 : decode cL_sceneOf 5 = .ok (.invokevirtual 58, 3) := by decide +kernel
theorem dL_sceneOf_8 : decode cL_sceneOf 8 = .ok (.i2l, 1) := by decide +kernel
theorem dL_sceneOf_9 : decode cL_sceneOf 9 = .ok (.lastore, 1) := by decide +kernel
theorem dL_sceneOf_10 : decode cL_sceneOf 10 = .ok (.goto 11, 3) := by decide +kernel
theorem dL_sceneOf_13 : decode cL_sceneOf 13 = .ok (.astore 4, 2) := by decide +kernel
theorem dL_sceneOf_15 : decode cL_sceneOf 15 = .ok (.iconst 1, 1) := by decide +kernel
theorem dL_sceneOf_16 : decode cL_sceneOf 16 = .ok (.ireturn, 1) := by decide +kernel
theorem dL_sceneOf_17 : decode cL_sceneOf 17 = .ok (.astore 4, 2) := by decide +kernel
theorem dL_sceneOf_19 : decode cL_sceneOf 19 = .ok (.iconst 2, 1) := by decide +kernel
theorem dL_sceneOf_20 : decode cL_sceneOf 20 = .ok (.ireturn, 1) := by decide +kernel
theorem dL_sceneOf_21 : decode cL_sceneOf 21 = .ok (.iconst 0, 1) := by decide +kernel
theorem dL_sceneOf_22 : decode cL_sceneOf 22 = .ok (.ireturn, 1) := by decide +kernel
theorem dL_count_0 : decode cL_count 0 = .ok (.aload_n 2, 1) := by decide +kernel
theorem dL_count_1 : decode cL_count 1 = .ok (.iconst 0, 1) := by decide +kernel
theorem dL_count_2 : decode cL_count 2 = .ok (.aload_n 0, 1) := by decide +kernel
theorem dL_count_3 : decode cL_count 3 = .ok (.iload_n 1, 1) := by decide +kernel
theorem dL_count_4 : decode cL_count 4 = .ok (.invokevirtual 61, 3) := by decide +kernel
theorem dL_count_7 : decode cL_count 7 = .ok (.i2l, 1) := by decide +kernel
theorem dL_count_8 : decode cL_count 8 = .ok (.lastore, 1) := by decide +kernel
theorem dL_count_9 : decode cL_count 9 = .ok (.goto 6, 3) := by decide +kernel
theorem dL_count_12 : decode cL_count 12 = .ok (.astore_n 3, 1) := by decide +kernel
theorem dL_count_13 : decode cL_count 13 = .ok (.iconst 1, 1) := by decide +kernel
theorem dL_count_14 : decode cL_count 14 = .ok (.ireturn, 1) := by decide +kernel
theorem dL_count_15 : decode cL_count 15 = .ok (.iconst 0, 1) := by decide +kernel
theorem dL_count_16 : decode cL_count 16 = .ok (.ireturn, 1) := by decide +kernel
theorem dL_refusal_0 : decode cL_refusal 0 = .ok (.aload_n 3, 1) := by decide +kernel
theorem dL_refusal_1 : decode cL_refusal 1 = .ok (.iconst 0, 1) := by decide +kernel
theorem dL_refusal_2 : decode cL_refusal 2 = .ok (.aload_n 0, 1) := by decide +kernel
theorem dL_refusal_3 : decode cL_refusal 3 = .ok (.iload_n 1, 1) := by decide +kernel
theorem dL_refusal_4 : decode cL_refusal 4 = .ok (.iload_n 2, 1) := by decide +kernel
theorem dL_refusal_5 : decode cL_refusal 5 = .ok (.invokevirtual 64, 3) := by decide +kernel
theorem dL_refusal_8 : decode cL_refusal 8 = .ok (.i2l, 1) := by decide +kernel
theorem dL_refusal_9 : decode cL_refusal 9 = .ok (.lastore, 1) := by decide +kernel
theorem dL_refusal_10 : decode cL_refusal 10 = .ok (.goto 7, 3) := by decide +kernel
theorem dL_refusal_13 : decode cL_refusal 13 = .ok (.astore 4, 2) := by decide +kernel
theorem dL_refusal_15 : decode cL_refusal 15 = .ok (.iconst 1, 1) := by decide +kernel
theorem dL_refusal_16 : decode cL_refusal 16 = .ok (.ireturn, 1) := by decide +kernel
theorem dL_refusal_17 : decode cL_refusal 17 = .ok (.iconst 0, 1) := by decide +kernel
theorem dL_refusal_18 : decode cL_refusal 18 = .ok (.ireturn, 1) := by decide +kernel
theorem dL_soonest_0 : decode cL_soonest 0 = .ok (.aload_n 3, 1) := by decide +kernel
theorem dL_soonest_1 : decode cL_soonest 1 = .ok (.iconst 0, 1) := by decide +kernel
theorem dL_soonest_2 : decode cL_soonest 2 = .ok (.aload_n 0, 1) := by decide +kernel
theorem dL_soonest_3 : decode cL_soonest 3 = .ok (.iload_n 1, 1) := by decide +kernel
theorem dL_soonest_4 : decode cL_soonest 4 = .ok (.iload_n 2, 1) := by decide +kernel
theorem dL_soonest_5 : decode cL_soonest 5 = .ok (.invokevirtual 67, 3) := by decide +kernel
theorem dL_soonest_8 : decode cL_soonest 8 = .ok (.i2l, 1) := by decide +kernel
theorem dL_soonest_9 : decode cL_soonest 9 = .ok (.lastore, 1) := by decide +kernel
theorem dL_soonest_10 : decode cL_soonest 10 = .ok (.goto 7, 3) := by decide +kernel
theorem dL_soonest_13 : decode cL_soonest 13 = .ok (.astore 4, 2) := by decide +kernel
theorem dL_soonest_15 : decode cL_soonest 15 = .ok (.iconst 1, 1) := by decide +kernel
theorem dL_soonest_16 : decode cL_soonest 16 = .ok (.ireturn, 1) := by decide +kernel
theorem dL_soonest_17 : decode cL_soonest 17 = .ok (.iconst 0, 1) := by decide +kernel
theorem dL_soonest_18 : decode cL_soonest 18 = .ok (.ireturn, 1) := by decide +kernel
theorem dL_lacking_0 : decode cL_lacking 0 = .ok (.aload_n 3, 1) := by decide +kernel
theorem dL_lacking_1 : decode cL_lacking 1 = .ok (.iconst 0, 1) := by decide +kernel
theorem dL_lacking_2 : decode cL_lacking 2 = .ok (.aload_n 0, 1) := by decide +kernel
theorem dL_lacking_3 : decode cL_lacking 3 = .ok (.iload_n 1, 1) := by decide +kernel
theorem dL_lacking_4 : decode cL_lacking 4 = .ok (.iload_n 2, 1) := by decide +kernel
theorem dL_lacking_5 : decode cL_lacking 5 = .ok (.invokevirtual 70, 3) := by decide +kernel
theorem dL_lacking_8 : decode cL_lacking 8 = .ok (.i2l, 1) := by decide +kernel
theorem dL_lacking_9 : decode cL_lacking 9 = .ok (.lastore, 1) := by decide +kernel
theorem dL_lacking_10 : decode cL_lacking 10 = .ok (.goto 7, 3) := by decide +kernel
theorem dL_lacking_13 : decode cL_lacking 13 = .ok (.astore 4, 2) := by decide +kernel
theorem dL_lacking_15 : decode cL_lacking 15 = .ok (.iconst 1, 1) := by decide +kernel
theorem dL_lacking_16 : decode cL_lacking 16 = .ok (.ireturn, 1) := by decide +kernel
theorem dL_lacking_17 : decode cL_lacking 17 = .ok (.iconst 0, 1) := by decide +kernel
theorem dL_lacking_18 : decode cL_lacking 18 = .ok (.ireturn, 1) := by decide +kernel
theorem dL_best_0 : decode cL_best 0 = .ok (.aload_n 2, 1) := by decide +kernel
theorem dL_best_1 : decode cL_best 1 = .ok (.iconst 0, 1) := by decide +kernel
theorem dL_best_2 : decode cL_best 2 = .ok (.aload_n 0, 1) := by decide +kernel
theorem dL_best_3 : decode cL_best 3 = .ok (.iload_n 1, 1) := by decide +kernel
theorem dL_best_4 : decode cL_best 4 = .ok (.invokevirtual 73, 3) := by decide +kernel
theorem dL_best_7 : decode cL_best 7 = .ok (.i2l, 1) := by decide +kernel
theorem dL_best_8 : decode cL_best 8 = .ok (.lastore, 1) := by decide +kernel
theorem dL_best_9 : decode cL_best 9 = .ok (.goto 6, 3) := by decide +kernel
theorem dL_best_12 : decode cL_best 12 = .ok (.astore_n 3, 1) := by decide +kernel
theorem dL_best_13 : decode cL_best 13 = .ok (.iconst 1, 1) := by decide +kernel
theorem dL_best_14 : decode cL_best 14 = .ok (.ireturn, 1) := by decide +kernel
theorem dL_best_15 : decode cL_best 15 = .ok (.iconst 0, 1) := by decide +kernel
theorem dL_best_16 : decode cL_best 16 = .ok (.ireturn, 1) := by decide +kernel
theorem dL_cost_0 : decode cL_cost 0 = .ok (.aload_n 3, 1) := by decide +kernel
theorem dL_cost_1 : decode cL_cost 1 = .ok (.iconst 0, 1) := by decide +kernel
theorem dL_cost_2 : decode cL_cost 2 = .ok (.aload_n 0, 1) := by decide +kernel
theorem dL_cost_3 : decode cL_cost 3 = .ok (.iload_n 1, 1) := by decide +kernel
theorem dL_cost_4 : decode cL_cost 4 = .ok (.iload_n 2, 1) := by decide +kernel
theorem dL_cost_5 : decode cL_cost 5 = .ok (.invokevirtual 76, 3) := by decide +kernel
theorem dL_cost_8 : decode cL_cost 8 = .ok (.i2l, 1) := by decide +kernel
theorem dL_cost_9 : decode cL_cost 9 = .ok (.lastore, 1) := by decide +kernel
theorem dL_cost_10 : decode cL_cost 10 = .ok (.goto 7, 3) := by decide +kernel
theorem dL_cost_13 : decode cL_cost 13 = .ok (.astore 4, 2) := by decide +kernel
theorem dL_cost_15 : decode cL_cost 15 = .ok (.iconst 1, 1) := by decide +kernel
theorem dL_cost_16 : decode cL_cost 16 = .ok (.ireturn, 1) := by decide +kernel
theorem dL_cost_17 : decode cL_cost 17 = .ok (.iconst 0, 1) := by decide +kernel
theorem dL_cost_18 : decode cL_cost 18 = .ok (.ireturn, 1) := by decide +kernel
theorem dL_ifHurt_0 : decode cL_ifHurt 0 = .ok (.aload_n 3, 1) := by decide +kernel
theorem dL_ifHurt_1 : decode cL_ifHurt 1 = .ok (.iconst 0, 1) := by decide +kernel
theorem dL_ifHurt_2 : decode cL_ifHurt 2 = .ok (.aload_n 0, 1) := by decide +kernel
theorem dL_ifHurt_3 : decode cL_ifHurt 3 = .ok (.iload_n 1, 1) := by decide +kernel
theorem dL_ifHurt_4 : decode cL_ifHurt 4 = .ok (.iload_n 2, 1) := by decide +kernel
theorem dL_ifHurt_5 : decode cL_ifHurt 5 = .ok (.invokevirtual 79, 3) := by decide +kernel
theorem dL_ifHurt_8 : decode cL_ifHurt 8 = .ok (.i2l, 1) := by decide +kernel
theorem dL_ifHurt_9 : decode cL_ifHurt 9 = .ok (.lastore, 1) := by decide +kernel
theorem dL_ifHurt_10 : decode cL_ifHurt 10 = .ok (.goto 11, 3) := by decide +kernel
theorem dL_ifHurt_13 : decode cL_ifHurt 13 = .ok (.astore 4, 2) := by decide +kernel
theorem dL_ifHurt_15 : decode cL_ifHurt 15 = .ok (.iconst 1, 1) := by decide +kernel
theorem dL_ifHurt_16 : decode cL_ifHurt 16 = .ok (.ireturn, 1) := by decide +kernel
theorem dL_ifHurt_17 : decode cL_ifHurt 17 = .ok (.astore 4, 2) := by decide +kernel
theorem dL_ifHurt_19 : decode cL_ifHurt 19 = .ok (.iconst 2, 1) := by decide +kernel
theorem dL_ifHurt_20 : decode cL_ifHurt 20 = .ok (.ireturn, 1) := by decide +kernel
theorem dL_ifHurt_21 : decode cL_ifHurt 21 = .ok (.iconst 0, 1) := by decide +kernel
theorem dL_ifHurt_22 : decode cL_ifHurt 22 = .ok (.ireturn, 1) := by decide +kernel
theorem dJxe99ae_isNaN_b9ae7_0 : decode cJxe99ae_isNaN_b9ae7 0 = .ok (.dload_n 0, 1) := by decide +kernel
theorem dJxe99ae_isNaN_b9ae7_1 : decode cJxe99ae_isNaN_b9ae7 1 = .ok (.dload_n 0, 1) := by decide +kernel
theorem dJxe99ae_isNaN_b9ae7_2 : decode cJxe99ae_isNaN_b9ae7 2 = .ok (.dcmp .l, 1) := by decide +kernel
theorem dJxe99ae_isNaN_b9ae7_3 : decode cJxe99ae_isNaN_b9ae7 3 = .ok (.ifCond .eq 7, 3) := by decide +kernel
theorem dJxe99ae_isNaN_b9ae7_6 : decode cJxe99ae_isNaN_b9ae7 6 = .ok (.iconst 1, 1) := by decide +kernel
theorem dJxe99ae_isNaN_b9ae7_7 : decode cJxe99ae_isNaN_b9ae7 7 = .ok (.goto 4, 3) := by decide +kernel
theorem dJxe99ae_isNaN_b9ae7_10 : decode cJxe99ae_isNaN_b9ae7 10 = .ok (.iconst 0, 1) := by decide +kernel
theorem dJxe99ae_isNaN_b9ae7_11 : decode cJxe99ae_isNaN_b9ae7 11 = .ok (.ireturn, 1) := by decide +kernel
theorem dJxe99ae_doubleToLongBits_ccdee_0 : decode cJxe99ae_doubleToLongBits_ccdee 0 = .ok (.dload_n 0, 1) := by decide +kernel
theorem dJxe99ae_doubleToLongBits_ccdee_1 : decode cJxe99ae_doubleToLongBits_ccdee 1 = .ok (.invokestatic 122, 3) := by decide +kernel
theorem dJxe99ae_doubleToLongBits_ccdee_4 : decode cJxe99ae_doubleToLongBits_ccdee 4 = .ok (.ifCond .ne 8, 3) := by decide +kernel
theorem dJxe99ae_doubleToLongBits_ccdee_7 : decode cJxe99ae_doubleToLongBits_ccdee 7 = .ok (.dload_n 0, 1) := by decide +kernel
theorem dJxe99ae_doubleToLongBits_ccdee_8 : decode cJxe99ae_doubleToLongBits_ccdee 8 = .ok (.invokestatic 134, 3) := by decide +kernel
theorem dJxe99ae_doubleToLongBits_ccdee_11 : decode cJxe99ae_doubleToLongBits_ccdee 11 = .ok (.lreturn, 1) := by decide +kernel
theorem dJxe99ae_doubleToLongBits_ccdee_12 : decode cJxe99ae_doubleToLongBits_ccdee 12 = .ok (.ldc2_w 137, 3) := by decide +kernel
theorem dJxe99ae_doubleToLongBits_ccdee_15 : decode cJxe99ae_doubleToLongBits_ccdee 15 = .ok (.lreturn, 1) := by decide +kernel
