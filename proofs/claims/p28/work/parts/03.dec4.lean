theorem dL_cell_0 : decode cL_cell 0 = .ok (.iload_n 1, 1) := by decide +kernel
theorem dL_cell_1 : decode cL_cell 1 = .ok (.aload_n 0, 1) := by decide +kernel
theorem dL_cell_2 : decode cL_cell 2 = .ok (.arraylength, 1) := by decide +kernel
theorem dL_cell_3 : decode cL_cell 3 = .ok (.if_icmp .ge 9, 3) := by decide +kernel
theorem dL_cell_6 : decode cL_cell 6 = .ok (.aload_n 0, 1) := by decide +kernel
theorem dL_cell_7 : decode cL_cell 7 = .ok (.iload_n 1, 1) := by decide +kernel
theorem dL_cell_8 : decode cL_cell 8 = .ok (.iaload, 1) := by decide +kernel
theorem dL_cell_9 : decode cL_cell 9 = .ok (.goto 12, 3) := by decide +kernel
theorem dL_cell_12 : decode cL_cell 12 = .ok (.ldc 7, 2) := by decide +kernel
theorem dL_cell_14 : decode cL_cell 14 = .ok (.iload_n 1, 1) := by decide +kernel
theorem dL_cell_15 : decode cL_cell 15 = .ok (.iconst 3, 1) := by decide +kernel
theorem dL_cell_16 : decode cL_cell 16 = .ok (.iadd, 1) := by decide +kernel
theorem dL_cell_17 : decode cL_cell 17 = .ok (.imul, 1) := by decide +kernel
theorem dL_cell_18 : decode cL_cell 18 = .ok (.ldc 8, 2) := by decide +kernel
theorem dL_cell_20 : decode cL_cell 20 = .ok (.iadd, 1) := by decide +kernel
theorem dL_cell_21 : decode cL_cell 21 = .ok (.ireturn, 1) := by decide +kernel
theorem dL_low_0 : decode cL_low 0 = .ok (.iload_n 0, 1) := by decide +kernel
theorem dL_low_1 : decode cL_low 1 = .ok (.ldc 9, 2) := by decide +kernel
theorem dL_low_3 : decode cL_low 3 = .ok (.iand, 1) := by decide +kernel
theorem dL_low_4 : decode cL_low 4 = .ok (.iload_n 1, 1) := by decide +kernel
theorem dL_low_5 : decode cL_low 5 = .ok (.irem, 1) := by decide +kernel
theorem dL_low_6 : decode cL_low 6 = .ok (.ireturn, 1) := by decide +kernel
theorem dL_size_0 : decode cL_size 0 = .ok (.aload_n 0, 1) := by decide +kernel
theorem dL_size_1 : decode cL_size 1 = .ok (.iload_n 1, 1) := by decide +kernel
theorem dL_size_2 : decode cL_size 2 = .ok (.iload_n 2, 1) := by decide +kernel
theorem dL_size_3 : decode cL_size 3 = .ok (.invokevirtual 10, 3) := by decide +kernel
theorem dL_size_6 : decode cL_size 6 = .ok (.ireturn, 1) := by decide +kernel
theorem dL_size_7 : decode cL_size 7 = .ok (.astore_n 3, 1) := by decide +kernel
theorem dL_size_8 : decode cL_size 8 = .ok (.bipush (-101), 2) := by decide +kernel
theorem dL_size_10 : decode cL_size 10 = .ok (.ireturn, 1) := by decide +kernel
theorem dL_size_11 : decode cL_size 11 = .ok (.astore_n 3, 1) := by decide +kernel
theorem dL_size_12 : decode cL_size 12 = .ok (.bipush (-102), 2) := by decide +kernel
theorem dL_size_14 : decode cL_size 14 = .ok (.ireturn, 1) := by decide +kernel
theorem dL_pass_0 : decode cL_pass 0 = .ok (.aload_n 0, 1) := by decide +kernel
theorem dL_pass_1 : decode cL_pass 1 = .ok (.iload_n 1, 1) := by decide +kernel
theorem dL_pass_2 : decode cL_pass 2 = .ok (.invokevirtual 20, 3) := by decide +kernel
theorem dL_pass_5 : decode cL_pass 5 = .ok (.ireturn, 1) := by decide +kernel
theorem dL_pass_6 : decode cL_pass 6 = .ok (.astore_n 2, 1) := by decide +kernel
theorem dL_pass_7 : decode cL_pass 7 = .ok (.bipush (-102), 2) := by decide +kernel
theorem dL_pass_9 : decode cL_pass 9 = .ok (.ireturn, 1) := by decide +kernel
theorem dL_pass_10 : decode cL_pass 10 = .ok (.astore_n 2, 1) := by decide +kernel
theorem dL_pass_11 : decode cL_pass 11 = .ok (.bipush (-103), 2) := by decide +kernel
theorem dL_pass_13 : decode cL_pass 13 = .ok (.ireturn, 1) := by decide +kernel
theorem dL_rehearse_0 : decode cL_rehearse 0 = .ok (.aload_n 0, 1) := by decide +kernel
theorem dL_rehearse_1 : decode cL_rehearse 1 = .ok (.iload_n 1, 1) := by decide +kernel
theorem dL_rehearse_2 : decode cL_rehearse 2 = .ok (.iload_n 2, 1) := by decide +kernel
theorem dL_rehearse_3 : decode cL_rehearse 3 = .ok (.iload_n 3, 1) := by decide +kernel
theorem dL_rehearse_4 : decode cL_rehearse 4 = .ok (.invokevirtual 26, 3) := by decide +kernel
theorem dL_rehearse_7 : decode cL_rehearse 7 = .ok (.ireturn, 1) := by decide +kernel
theorem dL_rehearse_8 : decode cL_rehearse 8 = .ok (.astore 4, 2) := by decide +kernel
theorem dL_rehearse_10 : decode cL_rehearse 10 = .ok (.bipush (-101), 2) := by decide +kernel
theorem dL_rehearse_12 : decode cL_rehearse 12 = .ok (.ireturn, 1) := by decide +kernel
theorem dL_rehearse_13 : decode cL_rehearse 13 = .ok (.astore 4, 2) := by decide +kernel
theorem dL_rehearse_15 : decode cL_rehearse 15 = .ok (.bipush (-102), 2) := by decide +kernel
theorem dL_rehearse_17 : decode cL_rehearse 17 = .ok (.ireturn, 1) := by decide +kernel
theorem dL_rehearse_18 : decode cL_rehearse 18 = .ok (.astore 4, 2) := by decide +kernel
theorem dL_rehearse_20 : decode cL_rehearse 20 = .ok (.bipush (-103), 2) := by decide +kernel
theorem dL_rehearse_22 : decode cL_rehearse 22 = .ok (.ireturn, 1) := by decide +kernel
theorem dL_hurt_0 : decode cL_hurt 0 = .ok (.aload_n 0, 1) := by decide +kernel
theorem dL_hurt_1 : decode cL_hurt 1 = .ok (.iload_n 1, 1) := by decide +kernel
theorem dL_hurt_2 : decode cL_hurt 2 = .ok (.iload_n 2, 1) := by decide +kernel
theorem dL_hurt_3 : decode cL_hurt 3 = .ok (.iload_n 3, 1) := by decide +kernel
theorem dL_hurt_4 : decode cL_hurt 4 = .ok (.invokevirtual 30, 3) := by decide +kernel
theorem dL_hurt_7 : decode cL_hurt 7 = .ok (.ireturn, 1) := by decide +kernel
theorem dL_hurt_8 : decode cL_hurt 8 = .ok (.astore 4, 2) := by decide +kernel
theorem dL_hurt_10 : decode cL_hurt 10 = .ok (.bipush (-101), 2) := by decide +kernel
theorem dL_hurt_12 : decode cL_hurt 12 = .ok (.ireturn, 1) := by decide +kernel
theorem dL_hurt_13 : decode cL_hurt 13 = .ok (.astore 4, 2) := by decide +kernel
theorem dL_hurt_15 : decode cL_hurt 15 = .ok (.bipush (-102), 2) := by decide +kernel
theorem dL_hurt_17 : decode cL_hurt 17 = .ok (.ireturn, 1) := by decide +kernel
theorem dL_insure_0 : decode cL_insure 0 = .ok (.aload_n 0, 1) := by decide +kernel
theorem dL_insure_1 : decode cL_insure 1 = .ok (.iload_n 1, 1) := by decide +kernel
theorem dL_insure_2 : decode cL_insure 2 = .ok (.iload_n 2, 1) := by decide +kernel
theorem dL_insure_3 : decode cL_insure 3 = .ok (.invokevirtual 33, 3) := by decide +kernel
theorem dL_insure_6 : decode cL_insure 6 = .ok (.ireturn, 1) := by decide +kernel
theorem dL_insure_7 : decode cL_insure 7 = .ok (.astore_n 3, 1) := by decide +kernel
theorem dL_insure_8 : decode cL_insure 8 = .ok (.bipush (-102), 2) := by decide +kernel
theorem dL_insure_10 : decode cL_insure 10 = .ok (.ireturn, 1) := by decide +kernel
theorem dL_insure_11 : decode cL_insure 11 = .ok (.astore_n 3, 1) := by decide +kernel
theorem dL_insure_12 : decode cL_insure 12 = .ok (.bipush (-103), 2) := by decide +kernel
theorem dL_insure_14 : decode cL_insure 14 = .ok (.ireturn, 1) := by decide +kernel
theorem dL_scene_0 : decode cL_scene 0 = .ok (.aload_n 0, 1) := by decide +kernel
theorem dL_scene_1 : decode cL_scene 1 = .ok (.iload_n 1, 1) := by decide +kernel
theorem dL_scene_2 : decode cL_scene 2 = .ok (.iload_n 2, 1) := by decide +kernel
theorem dL_scene_3 : decode cL_scene 3 = .ok (.iload_n 3, 1) := by decide +kernel
theorem dL_scene_4 : decode cL_scene 4 = .ok (.invokevirtual 36, 3) := by decide +kernel
theorem dL_scene_7 : decode cL_scene 7 = .ok (.ireturn, 1) := by decide +kernel
theorem dL_scene_8 : decode cL_scene 8 = .ok (.astore 4, 2) := by decide +kernel
theorem dL_scene_10 : decode cL_scene 10 = .ok (.bipush (-101), 2) := by decide +kernel
theorem dL_scene_12 : decode cL_scene 12 = .ok (.ireturn, 1) := by decide +kernel
theorem dL_scene_13 : decode cL_scene 13 = .ok (.astore 4, 2) := by decide +kernel
theorem dL_scene_15 : decode cL_scene 15 = .ok (.bipush (-102), 2) := by decide +kernel
theorem dL_scene_17 : decode cL_scene 17 = .ok (.ireturn, 1) := by decide +kernel
theorem dL_scene_18 : decode cL_scene 18 = .ok (.astore 4, 2) := by decide +kernel
theorem dL_scene_20 : decode cL_scene 20 = .ok (.bipush (-103), 2) := by decide +kernel
theorem dL_scene_22 : decode cL_scene 22 = .ok (.ireturn, 1) := by decide +kernel
theorem dL_shoot_0 : decode cL_shoot 0 = .ok (.aload_n 0, 1) := by decide +kernel
theorem dL_shoot_1 : decode cL_shoot 1 = .ok (.iload_n 1, 1) := by decide +kernel
theorem dL_shoot_2 : decode cL_shoot 2 = .ok (.iload_n 2, 1) := by decide +kernel
theorem dL_shoot_3 : decode cL_shoot 3 = .ok (.invokevirtual 39, 3) := by decide +kernel
theorem dL_shoot_6 : decode cL_shoot 6 = .ok (.ireturn, 1) := by decide +kernel
theorem dL_shoot_7 : decode cL_shoot 7 = .ok (.astore_n 3, 1) := by decide +kernel
theorem dL_shoot_8 : decode cL_shoot 8 = .ok (.bipush (-101), 2) := by decide +kernel
theorem dL_shoot_10 : decode cL_shoot 10 = .ok (.ireturn, 1) := by decide +kernel
theorem dL_shoot_11 : decode cL_shoot 11 = .ok (.astore_n 3, 1) := by decide +kernel
theorem dL_shoot_12 : decode cL_shoot 12 = .ok (.bipush (-103), 2) := by decide +kernel
theorem dL_shoot_14 : decode cL_shoot 14 = .ok (.ireturn, 1) := by decide +kernel
theorem dL_undo_0 : decode cL_undo 0 = .ok (.aload_n 0, 1) := by decide +kernel
theorem dL_undo_1 : decode cL_undo 1 = .ok (.invokevirtual 42, 3) := by decide +kernel
theorem dL_undo_4 : decode cL_undo 4 = .ok (.ireturn, 1) := by decide +kernel
theorem dL_undo_5 : decode cL_undo 5 = .ok (.astore_n 1, 1) := by decide +kernel
theorem dL_undo_6 : decode cL_undo 6 = .ok (.bipush (-103), 2) := by decide +kernel
theorem dL_undo_8 : decode cL_undo 8 = .ok (.ireturn, 1) := by decide +kernel
theorem dL_person_0 : decode cL_person 0 = .ok (.aload_n 0, 1) := by decide +kernel
theorem dL_person_1 : decode cL_person 1 = .ok (.iload_n 1, 1) := by decide +kernel
theorem dL_person_2 : decode cL_person 2 = .ok (.iload_n 2, 1) := by decide +kernel
theorem dL_person_3 : decode cL_person 3 = .ok (.invokevirtual 46, 3) := by decide +kernel
theorem dL_person_6 : decode cL_person 6 = .ok (.ireturn, 1) := by decide +kernel
theorem dL_person_7 : decode cL_person 7 = .ok (.astore_n 3, 1) := by decide +kernel
theorem dL_person_8 : decode cL_person 8 = .ok (.bipush (-101), 2) := by decide +kernel
theorem dL_person_10 : decode cL_person 10 = .ok (.ireturn, 1) := by decide +kernel
theorem dL_person_11 : decode cL_person 11 = .ok (.astore_n 3, 1) := by decide +kernel
theorem dL_person_12 : decode cL_person 12 = .ok (.bipush (-102), 2) := by decide +kernel
theorem dL_person_14 : decode cL_person 14 = .ok (.ireturn, 1) := by decide +kernel
theorem dL_rehearsed_0 : decode cL_rehearsed 0 = .ok (.aload_n 0, 1) := by decide +kernel
theorem dL_rehearsed_1 : decode cL_rehearsed 1 = .ok (.iload_n 1, 1) := by decide +kernel
theorem dL_rehearsed_2 : decode cL_rehearsed 2 = .ok (.iload_n 2, 1) := by decide +kernel
theorem dL_rehearsed_3 : decode cL_rehearsed 3 = .ok (.iload_n 3, 1) := by decide +kernel
theorem dL_rehearsed_4 : decode cL_rehearsed 4 = .ok (.invokevirtual 49, 3) := by decide +kernel
theorem dL_rehearsed_7 : decode cL_rehearsed 7 = .ok (.ireturn, 1) := by decide +kernel
theorem dL_rehearsed_8 : decode cL_rehearsed 8 = .ok (.astore 4, 2) := by decide +kernel
theorem dL_rehearsed_10 : decode cL_rehearsed 10 = .ok (.bipush (-101), 2) := by decide +kernel
theorem dL_rehearsed_12 : decode cL_rehearsed 12 = .ok (.ireturn, 1) := by decide +kernel
theorem dL_rehearsed_13 : decode cL_rehearsed 13 = .ok (.astore 4, 2) := by decide +kernel
theorem dL_rehearsed_15 : decode cL_rehearsed 15 = .ok (.bipush (-102), 2) := by decide +kernel
theorem dL_rehearsed_17 : decode cL_rehearsed 17 = .ok (.ireturn, 1) := by decide +kernel
theorem dL_sceneOf_0 : decode cL_sceneOf 0 = .ok (.aload_n 0, 1) := by decide +kernel
theorem dL_sceneOf_1 : decode cL_sceneOf 1 = .ok (.iload_n 1, 1) := by decide +kernel
theorem dL_sceneOf_2 : decode cL_sceneOf 2 = .ok (.iload_n 2, 1) := by decide +kernel
theorem dL_sceneOf_3 : decode cL_sceneOf 3 = .ok (.invokevirtual 52, 3) := by decide +kernel
theorem dL_sceneOf_6 : decode cL_sceneOf 6 = .ok (.ireturn, 1) := by decide +kernel
theorem dL_sceneOf_7 : decode cL_sceneOf 7 = .ok (.astore_n 3, 1) := by decide +kernel
theorem dL_sceneOf_8 : decode cL_sceneOf 8 = .ok (.bipush (-101), 2) := by decide +kernel
theorem dL_sceneOf_10 : decode cL_sceneOf 10 = .ok (.ireturn, 1) := by decide +kernel
theorem dL_sceneOf_11 : decode cL_sceneOf 11 = .ok (.astore_n 3, 1) := by decide +kernel
theorem dL_sceneOf_12 : decode cL_sceneOf 12 = .ok (.bipush (-102), 2) := by decide +kernel
theorem dL_sceneOf_14 : decode cL_sceneOf 14 = .ok (.ireturn, 1) := by decide +kernel
theorem dL_count_0 : decode cL_count 0 = .ok (.aload_n 0, 1) := by decide +kernel
theorem dL_count_1 : decode cL_count 1 = .ok (.iload_n 1, 1) := by decide +kernel
theorem dL_count_2 : decode cL_count 2 = .ok (.invokevirtual 55, 3) := by decide +kernel
theorem dL_count_5 : decode cL_count 5 = .ok (.ireturn, 1) := by decide +kernel
theorem dL_count_6 : decode cL_count 6 = .ok (.astore_n 2, 1) := by decide +kernel
theorem dL_count_7 : decode cL_count 7 = .ok (.bipush (-102), 2) := by decide +kernel
theorem dL_count_9 : decode cL_count 9 = .ok (.ireturn, 1) := by decide +kernel
theorem dL_refusal_0 : decode cL_refusal 0 = .ok (.aload_n 0, 1) := by decide +kernel
theorem dL_refusal_1 : decode cL_refusal 1 = .ok (.iload_n 1, 1) := by decide +kernel
theorem dL_refusal_2 : decode cL_refusal 2 = .ok (.iload_n 2, 1) := by decide +kernel
theorem dL_refusal_3 : decode cL_refusal 3 = .ok (.invokevirtual 58, 3) := by decide +kernel
theorem dL_refusal_6 : decode cL_refusal 6 = .ok (.ireturn, 1) := by decide +kernel
theorem dL_refusal_7 : decode cL_refusal 7 = .ok (.astore_n 3, 1) := by decide +kernel
theorem dL_refusal_8 : decode cL_refusal 8 = .ok (.bipush (-101), 2) := by decide +kernel
theorem dL_refusal_10 : decode cL_refusal 10 = .ok (.ireturn, 1) := by decide +kernel
theorem dL_bars_0 : decode cL_bars 0 = .ok (.iload_n 0, 1) := by decide +kernel
theorem dL_bars_1 : decode cL_bars 1 = .ok (.ifCond .ne 7, 3) := by decide +kernel
theorem dL_bars_4 : decode cL_bars 4 = .ok (.iconst 3, 1) := by decide +kernel
theorem dL_bars_5 : decode cL_bars 5 = .ok (.goto 45, 3) := by decide +kernel
theorem dL_bars_8 : decode cL_bars 8 = .ok (.iload_n 0, 1) := by decide +kernel
theorem dL_bars_9 : decode cL_bars 9 = .ok (.iconst 1, 1) := by decide +kernel
theorem dL_bars_10 : decode cL_bars 10 = .ok (.if_icmp .ne 8, 3) := by decide +kernel
theorem dL_bars_13 : decode cL_bars 13 = .ok (.bipush 28, 2) := by decide +kernel
theorem dL_bars_15 : decode cL_bars 15 = .ok (.goto 35, 3) := by decide +kernel
theorem dL_bars_18 : decode cL_bars 18 = .ok (.iload_n 0, 1) := by decide +kernel
theorem dL_bars_19 : decode cL_bars 19 = .ok (.iconst 2, 1) := by decide +kernel
theorem dL_bars_20 : decode cL_bars 20 = .ok (.if_icmp .ne 8, 3) := by decide +kernel
theorem dL_bars_23 : decode cL_bars 23 = .ok (.bipush 63, 2) := by decide +kernel
theorem dL_bars_25 : decode cL_bars 25 = .ok (.goto 25, 3) := by decide +kernel
theorem dL_bars_28 : decode cL_bars 28 = .ok (.iload_n 0, 1) := by decide +kernel
theorem dL_bars_29 : decode cL_bars 29 = .ok (.iconst 3, 1) := by decide +kernel
theorem dL_bars_30 : decode cL_bars 30 = .ok (.if_icmp .ne 8, 3) := by decide +kernel
theorem dL_bars_33 : decode cL_bars 33 = .ok (.bipush 48, 2) := by decide +kernel
theorem dL_bars_35 : decode cL_bars 35 = .ok (.goto 15, 3) := by decide +kernel
theorem dL_bars_38 : decode cL_bars 38 = .ok (.iload_n 0, 1) := by decide +kernel
theorem dL_bars_39 : decode cL_bars 39 = .ok (.iconst 4, 1) := by decide +kernel
theorem dL_bars_40 : decode cL_bars 40 = .ok (.if_icmp .ne 8, 3) := by decide +kernel
theorem dL_bars_43 : decode cL_bars 43 = .ok (.bipush 32, 2) := by decide +kernel
theorem dL_bars_45 : decode cL_bars 45 = .ok (.goto 5, 3) := by decide +kernel
theorem dL_bars_48 : decode cL_bars 48 = .ok (.bipush 35, 2) := by decide +kernel
theorem dL_bars_50 : decode cL_bars 50 = .ok (.ireturn, 1) := by decide +kernel
theorem dL_lasts_0 : decode cL_lasts 0 = .ok (.iload_n 0, 1) := by decide +kernel
theorem dL_lasts_1 : decode cL_lasts 1 = .ok (.ifCond .ne 8, 3) := by decide +kernel
theorem dL_lasts_4 : decode cL_lasts 4 = .ok (.bipush 20, 2) := by decide +kernel
theorem dL_lasts_6 : decode cL_lasts 6 = .ok (.goto 45, 3) := by decide +kernel
theorem dL_lasts_9 : decode cL_lasts 9 = .ok (.iload_n 0, 1) := by decide +kernel
theorem dL_lasts_10 : decode cL_lasts 10 = .ok (.iconst 1, 1) := by decide +kernel
theorem dL_lasts_11 : decode cL_lasts 11 = .ok (.if_icmp .ne 8, 3) := by decide +kernel
theorem dL_lasts_14 : decode cL_lasts 14 = .ok (.bipush 15, 2) := by decide +kernel
theorem dL_lasts_16 : decode cL_lasts 16 = .ok (.goto 35, 3) := by decide +kernel
theorem dL_lasts_19 : decode cL_lasts 19 = .ok (.iload_n 0, 1) := by decide +kernel
theorem dL_lasts_20 : decode cL_lasts 20 = .ok (.iconst 2, 1) := by decide +kernel
theorem dL_lasts_21 : decode cL_lasts 21 = .ok (.if_icmp .ne 8, 3) := by decide +kernel
theorem dL_lasts_24 : decode cL_lasts 24 = .ok (.bipush 10, 2) := by decide +kernel
theorem dL_lasts_26 : decode cL_lasts 26 = .ok (.goto 25, 3) := by decide +kernel
theorem dL_lasts_29 : decode cL_lasts 29 = .ok (.iload_n 0, 1) := by decide +kernel
theorem dL_lasts_30 : decode cL_lasts 30 = .ok (.iconst 3, 1) := by decide +kernel
theorem dL_lasts_31 : decode cL_lasts 31 = .ok (.if_icmp .ne 8, 3) := by decide +kernel
theorem dL_lasts_34 : decode cL_lasts 34 = .ok (.bipush 12, 2) := by decide +kernel
theorem dL_lasts_36 : decode cL_lasts 36 = .ok (.goto 15, 3) := by decide +kernel
theorem dL_lasts_39 : decode cL_lasts 39 = .ok (.iload_n 0, 1) := by decide +kernel
theorem dL_lasts_40 : decode cL_lasts 40 = .ok (.iconst 4, 1) := by decide +kernel
theorem dL_lasts_41 : decode cL_lasts 41 = .ok (.if_icmp .ne 8, 3) := by decide +kernel
theorem dL_lasts_44 : decode cL_lasts 44 = .ok (.bipush 30, 2) := by decide +kernel
theorem dL_lasts_46 : decode cL_lasts 46 = .ok (.goto 5, 3) := by decide +kernel
theorem dL_lasts_49 : decode cL_lasts 49 = .ok (.bipush 25, 2) := by decide +kernel
theorem dL_lasts_51 : decode cL_lasts 51 = .ok (.ireturn, 1) := by decide +kernel
theorem dL_needs_0 : decode cL_needs 0 = .ok (.iload_n 0, 1) := by decide +kernel
theorem dL_needs_1 : decode cL_needs 1 = .ok (.iconst 1, 1) := by decide +kernel
theorem dL_needs_2 : decode cL_needs 2 = .ok (.if_icmp .ne 9, 3) := by decide +kernel
theorem dL_needs_5 : decode cL_needs 5 = .ok (.iload_n 1, 1) := by decide +kernel
theorem dL_needs_6 : decode cL_needs 6 = .ok (.iconst 1, 1) := by decide +kernel
theorem dL_needs_7 : decode cL_needs 7 = .ok (.iadd, 1) := by decide +kernel
theorem dL_needs_8 : decode cL_needs 8 = .ok (.goto 39, 3) := by decide +kernel
theorem dL_needs_11 : decode cL_needs 11 = .ok (.iload_n 0, 1) := by decide +kernel
theorem dL_needs_12 : decode cL_needs 12 = .ok (.iconst 2, 1) := by decide +kernel
theorem dL_needs_13 : decode cL_needs 13 = .ok (.if_icmp .ne 9, 3) := by decide +kernel
theorem dL_needs_16 : decode cL_needs 16 = .ok (.iconst 2, 1) := by decide +kernel
theorem dL_needs_17 : decode cL_needs 17 = .ok (.iload_n 1, 1) := by decide +kernel
theorem dL_needs_18 : decode cL_needs 18 = .ok (.imul, 1) := by decide +kernel
theorem dL_needs_19 : decode cL_needs 19 = .ok (.goto 28, 3) := by decide +kernel
theorem dL_needs_22 : decode cL_needs 22 = .ok (.iload_n 0, 1) := by decide +kernel
theorem dL_needs_23 : decode cL_needs 23 = .ok (.iconst 3, 1) := by decide +kernel
theorem dL_needs_24 : decode cL_needs 24 = .ok (.if_icmp .ne 9, 3) := by decide +kernel
theorem dL_needs_27 : decode cL_needs 27 = .ok (.iload_n 1, 1) := by decide +kernel
theorem dL_needs_28 : decode cL_needs 28 = .ok (.iconst 2, 1) := by decide +kernel
theorem dL_needs_29 : decode cL_needs 29 = .ok (.iadd, 1) := by decide +kernel
theorem dL_needs_30 : decode cL_needs 30 = .ok (.goto 17, 3) := by decide +kernel
theorem dL_needs_33 : decode cL_needs 33 = .ok (.iload_n 0, 1) := by decide +kernel
theorem dL_needs_34 : decode cL_needs 34 = .ok (.iconst 4, 1) := by decide +kernel
theorem dL_needs_35 : decode cL_needs 35 = .ok (.if_icmp .ne 11, 3) := by decide +kernel
theorem dL_needs_38 : decode cL_needs 38 = .ok (.iload_n 1, 1) := by decide +kernel
theorem dL_needs_39 : decode cL_needs 39 = .ok (.iconst 2, 1) := by decide +kernel
theorem dL_needs_40 : decode cL_needs 40 = .ok (.idiv, 1) := by decide +kernel
theorem dL_needs_41 : decode cL_needs 41 = .ok (.iconst 1, 1) := by decide +kernel
theorem dL_needs_42 : decode cL_needs 42 = .ok (.iadd, 1) := by decide +kernel
theorem dL_needs_43 : decode cL_needs 43 = .ok (.goto 4, 3) := by decide +kernel
theorem dL_needs_46 : decode cL_needs 46 = .ok (.iload_n 1, 1) := by decide +kernel
theorem dL_needs_47 : decode cL_needs 47 = .ok (.ireturn, 1) := by decide +kernel
theorem dL_hurtParts_0 : decode cL_hurtParts 0 = .ok (.iconst 0, 1) := by decide +kernel
theorem dL_hurtParts_1 : decode cL_hurtParts 1 = .ok (.istore_n 3, 1) := by decide +kernel
theorem dL_hurtParts_2 : decode cL_hurtParts 2 = .ok (.iconst 0, 1) := by decide +kernel
theorem dL_hurtParts_3 : decode cL_hurtParts 3 = .ok (.istore 4, 2) := by decide +kernel
theorem dL_hurtParts_5 : decode cL_hurtParts 5 = .ok (.iload 4, 2) := by decide +kernel
theorem dL_hurtParts_7 : decode cL_hurtParts 7 = .ok (.aload_n 1, 1) := by decide +kernel
theorem dL_hurtParts_8 : decode cL_hurtParts 8 = .ok (.bipush 9, 2) := by decide +kernel
theorem dL_hurtParts_10 : decode cL_hurtParts 10 = .ok (.iaload, 1) := by decide +kernel
theorem dL_hurtParts_11 : decode cL_hurtParts 11 = .ok (.if_icmp .ge 78, 3) := by decide +kernel
theorem dL_hurtParts_14 : decode cL_hurtParts 14 = .ok (.aload_n 2, 1) := by decide +kernel
theorem dL_hurtParts_15 : decode cL_hurtParts 15 = .ok (.iload 4, 2) := by decide +kernel
theorem dL_hurtParts_17 : decode cL_hurtParts 17 = .ok (.iaload, 1) := by decide +kernel
theorem dL_hurtParts_18 : decode cL_hurtParts 18 = .ok (.bipush 7, 2) := by decide +kernel
theorem dL_hurtParts_20 : decode cL_hurtParts 20 = .ok (.iand, 1) := by decide +kernel
theorem dL_hurtParts_21 : decode cL_hurtParts 21 = .ok (.iload_n 0, 1) := by decide +kernel
theorem dL_hurtParts_22 : decode cL_hurtParts 22 = .ok (.if_icmp .ne 37, 3) := by decide +kernel
theorem dL_hurtParts_25 : decode cL_hurtParts 25 = .ok (.aload_n 2, 1) := by decide +kernel
theorem dL_hurtParts_26 : decode cL_hurtParts 26 = .ok (.iload 4, 2) := by decide +kernel
theorem dL_hurtParts_28 : decode cL_hurtParts 28 = .ok (.iaload, 1) := by decide +kernel
theorem dL_hurtParts_29 : decode cL_hurtParts 29 = .ok (.bipush 9, 2) := by decide +kernel
theorem dL_hurtParts_31 : decode cL_hurtParts 31 = .ok (.ishr, 1) := by decide +kernel
theorem dL_hurtParts_32 : decode cL_hurtParts 32 = .ok (.sipush 1023, 3) := by decide +kernel
theorem dL_hurtParts_35 : decode cL_hurtParts 35 = .ok (.iand, 1) := by decide +kernel
theorem dL_hurtParts_36 : decode cL_hurtParts 36 = .ok (.aload_n 1, 1) := by decide +kernel
theorem dL_hurtParts_37 : decode cL_hurtParts 37 = .ok (.iconst 0, 1) := by decide +kernel
theorem dL_hurtParts_38 : decode cL_hurtParts 38 = .ok (.iaload, 1) := by decide +kernel
theorem dL_hurtParts_39 : decode cL_hurtParts 39 = .ok (.if_icmp .gt 20, 3) := by decide +kernel
theorem dL_hurtParts_42 : decode cL_hurtParts 42 = .ok (.aload_n 2, 1) := by decide +kernel
theorem dL_hurtParts_43 : decode cL_hurtParts 43 = .ok (.iload 4, 2) := by decide +kernel
theorem dL_hurtParts_45 : decode cL_hurtParts 45 = .ok (.iaload, 1) := by decide +kernel
theorem dL_hurtParts_46 : decode cL_hurtParts 46 = .ok (.bipush 19, 2) := by decide +kernel
theorem dL_hurtParts_48 : decode cL_hurtParts 48 = .ok (.ishr, 1) := by decide +kernel
theorem dL_hurtParts_49 : decode cL_hurtParts 49 = .ok (.aload_n 1, 1) := by decide +kernel
theorem dL_hurtParts_50 : decode cL_hurtParts 50 = .ok (.iconst 0, 1) := by decide +kernel
theorem dL_hurtParts_51 : decode cL_hurtParts 51 = .ok (.iaload, 1) := by decide +kernel
theorem dL_hurtParts_52 : decode cL_hurtParts 52 = .ok (.if_icmp .lt 7, 3) := by decide +kernel
theorem dL_hurtParts_55 : decode cL_hurtParts 55 = .ok (.iconst 1, 1) := by decide +kernel
theorem dL_hurtParts_56 : decode cL_hurtParts 56 = .ok (.goto 4, 3) := by decide +kernel
theorem dL_hurtParts_59 : decode cL_hurtParts 59 = .ok (.iconst 0, 1) := by decide +kernel
theorem dL_hurtParts_60 : decode cL_hurtParts 60 = .ok (.istore 5, 2) := by decide +kernel
theorem dL_hurtParts_62 : decode cL_hurtParts 62 = .ok (.iload_n 3, 1) := by decide +kernel
theorem dL_hurtParts_63 : decode cL_hurtParts 63 = .ok (.iload 5, 2) := by decide +kernel
theorem dL_hurtParts_65 : decode cL_hurtParts 65 = .ok (.ifCond .eq 15, 3) := by decide +kernel
theorem dL_hurtParts_68 : decode cL_hurtParts 68 = .ok (.aload_n 2, 1) := by decide +kernel
theorem dL_hurtParts_69 : decode cL_hurtParts 69 = .ok (.iload 4, 2) := by decide +kernel
theorem dL_hurtParts_71 : decode cL_hurtParts 71 = .ok (.iaload, 1) := by decide +kernel
theorem dL_hurtParts_72 : decode cL_hurtParts 72 = .ok (.iconst 3, 1) := by decide +kernel
theorem dL_hurtParts_73 : decode cL_hurtParts 73 = .ok (.ishr, 1) := by decide +kernel
theorem dL_hurtParts_74 : decode cL_hurtParts 74 = .ok (.bipush 63, 2) := by decide +kernel
theorem dL_hurtParts_76 : decode cL_hurtParts 76 = .ok (.iand, 1) := by decide +kernel
theorem dL_hurtParts_77 : decode cL_hurtParts 77 = .ok (.goto 4, 3) := by decide +kernel
theorem dL_hurtParts_80 : decode cL_hurtParts 80 = .ok (.iconst 0, 1) := by decide +kernel
theorem dL_hurtParts_81 : decode cL_hurtParts 81 = .ok (.ior, 1) := by decide +kernel
theorem dL_hurtParts_82 : decode cL_hurtParts 82 = .ok (.istore_n 3, 1) := by decide +kernel
theorem dL_hurtParts_83 : decode cL_hurtParts 83 = .ok (.iinc 4 1, 3) := by decide +kernel
theorem dL_hurtParts_86 : decode cL_hurtParts 86 = .ok (.goto (-81), 3) := by decide +kernel
theorem dL_hurtParts_89 : decode cL_hurtParts 89 = .ok (.iload_n 3, 1) := by decide +kernel
theorem dL_hurtParts_90 : decode cL_hurtParts 90 = .ok (.ireturn, 1) := by decide +kernel
theorem dL_counting_0 : decode cL_counting 0 = .ok (.iconst 0, 1) := by decide +kernel
theorem dL_counting_1 : decode cL_counting 1 = .ok (.istore 5, 2) := by decide +kernel
theorem dL_counting_3 : decode cL_counting 3 = .ok (.iconst 0, 1) := by decide +kernel
theorem dL_counting_4 : decode cL_counting 4 = .ok (.istore 6, 2) := by decide +kernel
theorem dL_counting_6 : decode cL_counting 6 = .ok (.iload 6, 2) := by decide +kernel
theorem dL_counting_8 : decode cL_counting 8 = .ok (.aload_n 3, 1) := by decide +kernel
theorem dL_counting_9 : decode cL_counting 9 = .ok (.bipush 8, 2) := by decide +kernel
theorem dL_counting_11 : decode cL_counting 11 = .ok (.iaload, 1) := by decide +kernel
theorem dL_counting_12 : decode cL_counting 12 = .ok (.if_icmp .ge 76, 3) := by decide +kernel
theorem dL_counting_15 : decode cL_counting 15 = .ok (.aload_n 3, 1) := by decide +kernel
theorem dL_counting_16 : decode cL_counting 16 = .ok (.iconst 0, 1) := by decide +kernel
theorem dL_counting_17 : decode cL_counting 17 = .ok (.iaload, 1) := by decide +kernel
theorem dL_counting_18 : decode cL_counting 18 = .ok (.aload 4, 2) := by decide +kernel
theorem dL_counting_20 : decode cL_counting 20 = .ok (.iload 6, 2) := by decide +kernel
theorem dL_counting_22 : decode cL_counting 22 = .ok (.iaload, 1) := by decide +kernel
theorem dL_counting_23 : decode cL_counting 23 = .ok (.bipush 9, 2) := by decide +kernel
theorem dL_counting_25 : decode cL_counting 25 = .ok (.ishr, 1) := by decide +kernel
theorem dL_counting_26 : decode cL_counting 26 = .ok (.isub, 1) := by decide +kernel
theorem dL_counting_27 : decode cL_counting 27 = .ok (.istore 7, 2) := by decide +kernel
theorem dL_counting_29 : decode cL_counting 29 = .ok (.iload 5, 2) := by decide +kernel
theorem dL_counting_31 : decode cL_counting 31 = .ok (.aload 4, 2) := by decide +kernel
theorem dL_counting_33 : decode cL_counting 33 = .ok (.iload 6, 2) := by decide +kernel
theorem dL_counting_35 : decode cL_counting 35 = .ok (.iaload, 1) := by decide +kernel
theorem dL_counting_36 : decode cL_counting 36 = .ok (.bipush 63, 2) := by decide +kernel
theorem dL_counting_38 : decode cL_counting 38 = .ok (.iand, 1) := by decide +kernel
theorem dL_counting_39 : decode cL_counting 39 = .ok (.iload_n 0, 1) := by decide +kernel
theorem dL_counting_40 : decode cL_counting 40 = .ok (.bipush 8, 2) := by decide +kernel
theorem dL_counting_42 : decode cL_counting 42 = .ok (.iload_n 1, 1) := by decide +kernel
theorem dL_counting_43 : decode cL_counting 43 = .ok (.imul, 1) := by decide +kernel
theorem dL_counting_44 : decode cL_counting 44 = .ok (.iadd, 1) := by decide +kernel
theorem dL_counting_45 : decode cL_counting 45 = .ok (.if_icmp .ne 33, 3) := by decide +kernel
theorem dL_counting_48 : decode cL_counting 48 = .ok (.aload 4, 2) := by decide +kernel
theorem dL_counting_50 : decode cL_counting 50 = .ok (.iload 6, 2) := by decide +kernel
theorem dL_counting_52 : decode cL_counting 52 = .ok (.iaload, 1) := by decide +kernel
theorem dL_counting_53 : decode cL_counting 53 = .ok (.bipush 6, 2) := by decide +kernel
theorem dL_counting_55 : decode cL_counting 55 = .ok (.ishr, 1) := by decide +kernel
theorem dL_counting_56 : decode cL_counting 56 = .ok (.bipush 7, 2) := by decide +kernel
theorem dL_counting_58 : decode cL_counting 58 = .ok (.iand, 1) := by decide +kernel
theorem dL_counting_59 : decode cL_counting 59 = .ok (.iload_n 2, 1) := by decide +kernel
theorem dL_counting_60 : decode cL_counting 60 = .ok (.iconst 1, 1) := by decide +kernel
theorem dL_counting_61 : decode cL_counting 61 = .ok (.isub, 1) := by decide +kernel
theorem dL_counting_62 : decode cL_counting 62 = .ok (.if_icmp .lt 16, 3) := by decide +kernel
theorem dL_counting_65 : decode cL_counting 65 = .ok (.iload 7, 2) := by decide +kernel
theorem dL_counting_67 : decode cL_counting 67 = .ok (.iload_n 1, 1) := by decide +kernel
theorem dL_counting_68 : decode cL_counting 68 = .ok (.invokestatic 61, 3) := by decide +kernel
theorem dL_counting_71 : decode cL_counting 71 = .ok (.if_icmp .ge 7, 3) := by decide +kernel
theorem dL_counting_74 : decode cL_counting 74 = .ok (.iconst 1, 1) := by decide +kernel
theorem dL_counting_75 : decode cL_counting 75 = .ok (.goto 4, 3) := by decide +kernel
theorem dL_counting_78 : decode cL_counting 78 = .ok (.iconst 0, 1) := by decide +kernel
theorem dL_counting_79 : decode cL_counting 79 = .ok (.iadd, 1) := by decide +kernel
theorem dL_counting_80 : decode cL_counting 80 = .ok (.istore 5, 2) := by decide +kernel
theorem dL_counting_82 : decode cL_counting 82 = .ok (.iinc 6 1, 3) := by decide +kernel
theorem dL_counting_85 : decode cL_counting 85 = .ok (.goto (-79), 3) := by decide +kernel
theorem dL_counting_88 : decode cL_counting 88 = .ok (.iload 5, 2) := by decide +kernel
theorem dL_counting_90 : decode cL_counting 90 = .ok (.ireturn, 1) := by decide +kernel
theorem dL_reason_0 : decode cL_reason 0 = .ok (.aload 7, 2) := by decide +kernel
theorem dL_reason_2 : decode cL_reason 2 = .ok (.iload_n 0, 1) := by decide +kernel
theorem dL_reason_3 : decode cL_reason 3 = .ok (.iaload, 1) := by decide +kernel
theorem dL_reason_4 : decode cL_reason 4 = .ok (.bipush 7, 2) := by decide +kernel
theorem dL_reason_6 : decode cL_reason 6 = .ok (.iand, 1) := by decide +kernel
theorem dL_reason_7 : decode cL_reason 7 = .ok (.istore 8, 2) := by decide +kernel
theorem dL_reason_9 : decode cL_reason 9 = .ok (.aload 7, 2) := by decide +kernel
theorem dL_reason_11 : decode cL_reason 11 = .ok (.iload_n 0, 1) := by decide +kernel
theorem dL_reason_12 : decode cL_reason 12 = .ok (.iaload, 1) := by decide +kernel
theorem dL_reason_13 : decode cL_reason 13 = .ok (.iconst 3, 1) := by decide +kernel
theorem dL_reason_14 : decode cL_reason 14 = .ok (.ishr, 1) := by decide +kernel
theorem dL_reason_15 : decode cL_reason 15 = .ok (.bipush 7, 2) := by decide +kernel
theorem dL_reason_17 : decode cL_reason 17 = .ok (.iand, 1) := by decide +kernel
theorem dL_reason_18 : decode cL_reason 18 = .ok (.istore 9, 2) := by decide +kernel
theorem dL_reason_20 : decode cL_reason 20 = .ok (.aload_n 3, 1) := by decide +kernel
theorem dL_reason_21 : decode cL_reason 21 = .ok (.iload_n 1, 1) := by decide +kernel
theorem dL_reason_22 : decode cL_reason 22 = .ok (.iaload, 1) := by decide +kernel
theorem dL_reason_23 : decode cL_reason 23 = .ok (.aload_n 3, 1) := by decide +kernel
theorem dL_reason_24 : decode cL_reason 24 = .ok (.aload 7, 2) := by decide +kernel
theorem dL_reason_26 : decode cL_reason 26 = .ok (.iload_n 0, 1) := by decide +kernel
theorem dL_reason_27 : decode cL_reason 27 = .ok (.iaload, 1) := by decide +kernel
theorem dL_reason_28 : decode cL_reason 28 = .ok (.bipush 6, 2) := by decide +kernel
theorem dL_reason_30 : decode cL_reason 30 = .ok (.ishr, 1) := by decide +kernel
theorem dL_reason_31 : decode cL_reason 31 = .ok (.bipush 7, 2) := by decide +kernel
theorem dL_reason_33 : decode cL_reason 33 = .ok (.iand, 1) := by decide +kernel
theorem dL_reason_34 : decode cL_reason 34 = .ok (.iaload, 1) := by decide +kernel
theorem dL_reason_35 : decode cL_reason 35 = .ok (.isub, 1) := by decide +kernel
theorem dL_reason_36 : decode cL_reason 36 = .ok (.istore 10, 2) := by decide +kernel
theorem dL_reason_38 : decode cL_reason 38 = .ok (.aload 7, 2) := by decide +kernel
theorem dL_reason_40 : decode cL_reason 40 = .ok (.iload_n 0, 1) := by decide +kernel
theorem dL_reason_41 : decode cL_reason 41 = .ok (.iaload, 1) := by decide +kernel
theorem dL_reason_42 : decode cL_reason 42 = .ok (.bipush 9, 2) := by decide +kernel
theorem dL_reason_44 : decode cL_reason 44 = .ok (.ishr, 1) := by decide +kernel
theorem dL_reason_45 : decode cL_reason 45 = .ok (.sipush 1023, 3) := by decide +kernel
theorem dL_reason_48 : decode cL_reason 48 = .ok (.iand, 1) := by decide +kernel
theorem dL_reason_49 : decode cL_reason 49 = .ok (.ifCond .le 5, 3) := by decide +kernel
theorem dL_reason_52 : decode cL_reason 52 = .ok (.iconst 1, 1) := by decide +kernel
theorem dL_reason_53 : decode cL_reason 53 = .ok (.ireturn, 1) := by decide +kernel
theorem dL_reason_54 : decode cL_reason 54 = .ok (.iload 10, 2) := by decide +kernel
theorem dL_reason_56 : decode cL_reason 56 = .ok (.iconst 5, 1) := by decide +kernel
theorem dL_reason_57 : decode cL_reason 57 = .ok (.if_icmp .gt 10, 3) := by decide +kernel
theorem dL_reason_60 : decode cL_reason 60 = .ok (.iload 10, 2) := by decide +kernel
theorem dL_reason_62 : decode cL_reason 62 = .ok (.bipush (-5), 2) := by decide +kernel
theorem dL_reason_64 : decode cL_reason 64 = .ok (.if_icmp .ge 5, 3) := by decide +kernel
theorem dL_reason_67 : decode cL_reason 67 = .ok (.iconst 2, 1) := by decide +kernel
theorem dL_reason_68 : decode cL_reason 68 = .ok (.ireturn, 1) := by decide +kernel
theorem dL_reason_69 : decode cL_reason 69 = .ok (.aload_n 2, 1) := by decide +kernel
theorem dL_reason_70 : decode cL_reason 70 = .ok (.iconst 0, 1) := by decide +kernel
theorem dL_reason_71 : decode cL_reason 71 = .ok (.iaload, 1) := by decide +kernel
theorem dL_reason_72 : decode cL_reason 72 = .ok (.aload_n 2, 1) := by decide +kernel
theorem dL_reason_73 : decode cL_reason 73 = .ok (.iconst 3, 1) := by decide +kernel
theorem dL_reason_74 : decode cL_reason 74 = .ok (.iaload, 1) := by decide +kernel
theorem dL_reason_75 : decode cL_reason 75 = .ok (.if_icmp .gt 9, 3) := by decide +kernel
theorem dL_reason_78 : decode cL_reason 78 = .ok (.aload_n 2, 1) := by decide +kernel
theorem dL_reason_79 : decode cL_reason 79 = .ok (.iconst 2, 1) := by decide +kernel
theorem dL_reason_80 : decode cL_reason 80 = .ok (.iaload, 1) := by decide +kernel
theorem dL_reason_81 : decode cL_reason 81 = .ok (.goto 4, 3) := by decide +kernel
theorem dL_reason_84 : decode cL_reason 84 = .ok (.iconst 0, 1) := by decide +kernel
theorem dL_reason_85 : decode cL_reason 85 = .ok (.iload 9, 2) := by decide +kernel
theorem dL_reason_87 : decode cL_reason 87 = .ok (.if_icmp .ge 5, 3) := by decide +kernel
theorem dL_reason_90 : decode cL_reason 90 = .ok (.iconst 3, 1) := by decide +kernel
theorem dL_reason_91 : decode cL_reason 91 = .ok (.ireturn, 1) := by decide +kernel
theorem dL_reason_92 : decode cL_reason 92 = .ok (.iload_n 1, 1) := by decide +kernel
theorem dL_reason_93 : decode cL_reason 93 = .ok (.aload_n 2, 1) := by decide +kernel
theorem dL_reason_94 : decode cL_reason 94 = .ok (.aload 6, 2) := by decide +kernel
theorem dL_reason_96 : decode cL_reason 96 = .ok (.invokestatic 66, 3) := by decide +kernel
theorem dL_reason_99 : decode cL_reason 99 = .ok (.iload 8, 2) := by decide +kernel
theorem dL_reason_101 : decode cL_reason 101 = .ok (.invokestatic 70, 3) := by decide +kernel
theorem dL_reason_104 : decode cL_reason 104 = .ok (.iand, 1) := by decide +kernel
theorem dL_reason_105 : decode cL_reason 105 = .ok (.ifCond .eq 5, 3) := by decide +kernel
theorem dL_reason_108 : decode cL_reason 108 = .ok (.iconst 4, 1) := by decide +kernel
theorem dL_reason_109 : decode cL_reason 109 = .ok (.ireturn, 1) := by decide +kernel
theorem dL_reason_110 : decode cL_reason 110 = .ok (.aload 4, 2) := by decide +kernel
theorem dL_reason_112 : decode cL_reason 112 = .ok (.iload_n 1, 1) := by decide +kernel
theorem dL_reason_113 : decode cL_reason 113 = .ok (.iaload, 1) := by decide +kernel
theorem dL_reason_114 : decode cL_reason 114 = .ok (.ifCond .lt 19, 3) := by decide +kernel
theorem dL_reason_117 : decode cL_reason 117 = .ok (.aload_n 2, 1) := by decide +kernel
theorem dL_reason_118 : decode cL_reason 118 = .ok (.iconst 0, 1) := by decide +kernel
theorem dL_reason_119 : decode cL_reason 119 = .ok (.iaload, 1) := by decide +kernel
theorem dL_reason_120 : decode cL_reason 120 = .ok (.aload 4, 2) := by decide +kernel
theorem dL_reason_122 : decode cL_reason 122 = .ok (.iload_n 1, 1) := by decide +kernel
theorem dL_reason_123 : decode cL_reason 123 = .ok (.iaload, 1) := by decide +kernel
theorem dL_reason_124 : decode cL_reason 124 = .ok (.isub, 1) := by decide +kernel
theorem dL_reason_125 : decode cL_reason 125 = .ok (.iconst 2, 1) := by decide +kernel
theorem dL_reason_126 : decode cL_reason 126 = .ok (.if_icmp .ge 7, 3) := by decide +kernel
theorem dL_reason_129 : decode cL_reason 129 = .ok (.iconst 5, 1) := by decide +kernel
theorem dL_reason_130 : decode cL_reason 130 = .ok (.goto 30, 3) := by decide +kernel
theorem dL_reason_133 : decode cL_reason 133 = .ok (.iload_n 1, 1) := by decide +kernel
theorem dL_reason_134 : decode cL_reason 134 = .ok (.iload 8, 2) := by decide +kernel
theorem dL_reason_136 : decode cL_reason 136 = .ok (.iload 9, 2) := by decide +kernel
theorem dL_reason_138 : decode cL_reason 138 = .ok (.aload_n 2, 1) := by decide +kernel
theorem dL_reason_139 : decode cL_reason 139 = .ok (.aload 5, 2) := by decide +kernel
theorem dL_reason_141 : decode cL_reason 141 = .ok (.invokestatic 73, 3) := by decide +kernel
theorem dL_reason_144 : decode cL_reason 144 = .ok (.iload 8, 2) := by decide +kernel
theorem dL_reason_146 : decode cL_reason 146 = .ok (.iload 9, 2) := by decide +kernel
theorem dL_reason_148 : decode cL_reason 148 = .ok (.invokestatic 77, 3) := by decide +kernel
theorem dL_reason_151 : decode cL_reason 151 = .ok (.if_icmp .ge 8, 3) := by decide +kernel
theorem dL_reason_154 : decode cL_reason 154 = .ok (.bipush 6, 2) := by decide +kernel
theorem dL_reason_156 : decode cL_reason 156 = .ok (.goto 4, 3) := by decide +kernel
theorem dL_reason_159 : decode cL_reason 159 = .ok (.iconst 0, 1) := by decide +kernel
theorem dL_reason_160 : decode cL_reason 160 = .ok (.ireturn, 1) := by decide +kernel
theorem dL_injure_0 : decode cL_injure 0 = .ok (.iconst 0, 1) := by decide +kernel
theorem dL_injure_1 : decode cL_injure 1 = .ok (.istore 5, 2) := by decide +kernel
theorem dL_injure_3 : decode cL_injure 3 = .ok (.iload 5, 2) := by decide +kernel
theorem dL_injure_5 : decode cL_injure 5 = .ok (.bipush 11, 2) := by decide +kernel
theorem dL_injure_7 : decode cL_injure 7 = .ok (.if_icmp .ge 30, 3) := by decide +kernel
theorem dL_injure_10 : decode cL_injure 10 = .ok (.aload_n 3, 1) := by decide +kernel
theorem dL_injure_11 : decode cL_injure 11 = .ok (.bipush 9, 2) := by decide +kernel
theorem dL_injure_13 : decode cL_injure 13 = .ok (.iaload, 1) := by decide +kernel
theorem dL_injure_14 : decode cL_injure 14 = .ok (.bipush 12, 2) := by decide +kernel
theorem dL_injure_16 : decode cL_injure 16 = .ok (.if_icmp .ne 21, 3) := by decide +kernel
theorem dL_injure_19 : decode cL_injure 19 = .ok (.aload 4, 2) := by decide +kernel
theorem dL_injure_21 : decode cL_injure 21 = .ok (.iload 5, 2) := by decide +kernel
theorem dL_injure_23 : decode cL_injure 23 = .ok (.aload 4, 2) := by decide +kernel
theorem dL_injure_25 : decode cL_injure 25 = .ok (.iload 5, 2) := by decide +kernel
theorem dL_injure_27 : decode cL_injure 27 = .ok (.iconst 1, 1) := by decide +kernel
theorem dL_injure_28 : decode cL_injure 28 = .ok (.iadd, 1) := by decide +kernel
theorem dL_injure_29 : decode cL_injure 29 = .ok (.iaload, 1) := by decide +kernel
theorem dL_injure_30 : decode cL_injure 30 = .ok (.iastore, 1) := by decide +kernel
theorem dL_injure_31 : decode cL_injure 31 = .ok (.iinc 5 1, 3) := by decide +kernel
theorem dL_injure_34 : decode cL_injure 34 = .ok (.goto (-31), 3) := by decide +kernel
theorem dL_injure_37 : decode cL_injure 37 = .ok (.aload_n 3, 1) := by decide +kernel
theorem dL_injure_38 : decode cL_injure 38 = .ok (.bipush 9, 2) := by decide +kernel
theorem dL_injure_40 : decode cL_injure 40 = .ok (.aload_n 3, 1) := by decide +kernel
theorem dL_injure_41 : decode cL_injure 41 = .ok (.bipush 9, 2) := by decide +kernel
theorem dL_injure_43 : decode cL_injure 43 = .ok (.iaload, 1) := by decide +kernel
theorem dL_injure_44 : decode cL_injure 44 = .ok (.bipush 12, 2) := by decide +kernel
theorem dL_injure_46 : decode cL_injure 46 = .ok (.if_icmp .ne 8, 3) := by decide +kernel
theorem dL_injure_49 : decode cL_injure 49 = .ok (.bipush 11, 2) := by decide +kernel
theorem dL_injure_51 : decode cL_injure 51 = .ok (.goto 7, 3) := by decide +kernel
theorem dL_injure_54 : decode cL_injure 54 = .ok (.aload_n 3, 1) := by decide +kernel
theorem dL_injure_55 : decode cL_injure 55 = .ok (.bipush 9, 2) := by decide +kernel
theorem dL_injure_57 : decode cL_injure 57 = .ok (.iaload, 1) := by decide +kernel
theorem dL_injure_58 : decode cL_injure 58 = .ok (.iastore, 1) := by decide +kernel
theorem dL_injure_59 : decode cL_injure 59 = .ok (.aload 4, 2) := by decide +kernel
theorem dL_injure_61 : decode cL_injure 61 = .ok (.aload_n 3, 1) := by decide +kernel
theorem dL_injure_62 : decode cL_injure 62 = .ok (.bipush 9, 2) := by decide +kernel
theorem dL_injure_64 : decode cL_injure 64 = .ok (.iaload, 1) := by decide +kernel
theorem dL_injure_65 : decode cL_injure 65 = .ok (.iload_n 0, 1) := by decide +kernel
theorem dL_injure_66 : decode cL_injure 66 = .ok (.bipush 8, 2) := by decide +kernel
theorem dL_injure_68 : decode cL_injure 68 = .ok (.iload_n 1, 1) := by decide +kernel
theorem dL_injure_69 : decode cL_injure 69 = .ok (.imul, 1) := by decide +kernel
theorem dL_injure_70 : decode cL_injure 70 = .ok (.iadd, 1) := by decide +kernel
theorem dL_injure_71 : decode cL_injure 71 = .ok (.sipush 512, 3) := by decide +kernel
theorem dL_injure_74 : decode cL_injure 74 = .ok (.aload_n 3, 1) := by decide +kernel
theorem dL_injure_75 : decode cL_injure 75 = .ok (.iconst 0, 1) := by decide +kernel
theorem dL_injure_76 : decode cL_injure 76 = .ok (.iaload, 1) := by decide +kernel
theorem dL_injure_77 : decode cL_injure 77 = .ok (.imul, 1) := by decide +kernel
theorem dL_injure_78 : decode cL_injure 78 = .ok (.iadd, 1) := by decide +kernel
theorem dL_injure_79 : decode cL_injure 79 = .ok (.ldc 80, 2) := by decide +kernel
theorem dL_injure_81 : decode cL_injure 81 = .ok (.aload_n 3, 1) := by decide +kernel
theorem dL_injure_82 : decode cL_injure 82 = .ok (.iconst 0, 1) := by decide +kernel
theorem dL_injure_83 : decode cL_injure 83 = .ok (.iaload, 1) := by decide +kernel
theorem dL_injure_84 : decode cL_injure 84 = .ok (.iload_n 2, 1) := by decide +kernel
theorem dL_injure_85 : decode cL_injure 85 = .ok (.iadd, 1) := by decide +kernel
theorem dL_injure_86 : decode cL_injure 86 = .ok (.iconst 1, 1) := by decide +kernel
theorem dL_injure_87 : decode cL_injure 87 = .ok (.isub, 1) := by decide +kernel
theorem dL_injure_88 : decode cL_injure 88 = .ok (.imul, 1) := by decide +kernel
theorem dL_injure_89 : decode cL_injure 89 = .ok (.iadd, 1) := by decide +kernel
theorem dL_injure_90 : decode cL_injure 90 = .ok (.iastore, 1) := by decide +kernel
theorem dL_injure_91 : decode cL_injure 91 = .ok (.aload_n 3, 1) := by decide +kernel
theorem dL_injure_92 : decode cL_injure 92 = .ok (.bipush 9, 2) := by decide +kernel
theorem dL_injure_94 : decode cL_injure 94 = .ok (.dup2, 1) := by decide +kernel
theorem dL_injure_95 : decode cL_injure 95 = .ok (.iaload, 1) := by decide +kernel
theorem dL_injure_96 : decode cL_injure 96 = .ok (.iconst 1, 1) := by decide +kernel
theorem dL_injure_97 : decode cL_injure 97 = .ok (.iadd, 1) := by decide +kernel
theorem dL_injure_98 : decode cL_injure 98 = .ok (.iastore, 1) := by decide +kernel
theorem dL_injure_99 : decode cL_injure 99 = .ok (.aload_n 3, 1) := by decide +kernel
theorem dL_injure_100 : decode cL_injure 100 = .ok (.bipush 6, 2) := by decide +kernel
theorem dL_injure_102 : decode cL_injure 102 = .ok (.dup2, 1) := by decide +kernel
theorem dL_injure_103 : decode cL_injure 103 = .ok (.iaload, 1) := by decide +kernel
theorem dL_injure_104 : decode cL_injure 104 = .ok (.iconst 1, 1) := by decide +kernel
theorem dL_injure_105 : decode cL_injure 105 = .ok (.iadd, 1) := by decide +kernel
theorem dL_injure_106 : decode cL_injure 106 = .ok (.iastore, 1) := by decide +kernel
theorem dL_injure_107 : decode cL_injure 107 = .ok (.return_, 1) := by decide +kernel
theorem dL_rehearses_0 : decode cL_rehearses 0 = .ok (.aload_n 3, 1) := by decide +kernel
theorem dL_rehearses_1 : decode cL_rehearses 1 = .ok (.bipush 7, 2) := by decide +kernel
theorem dL_rehearses_3 : decode cL_rehearses 3 = .ok (.dup2, 1) := by decide +kernel
theorem dL_rehearses_4 : decode cL_rehearses 4 = .ok (.iaload, 1) := by decide +kernel
theorem dL_rehearses_5 : decode cL_rehearses 5 = .ok (.iconst 1, 1) := by decide +kernel
theorem dL_rehearses_6 : decode cL_rehearses 6 = .ok (.iadd, 1) := by decide +kernel
theorem dL_rehearses_7 : decode cL_rehearses 7 = .ok (.iastore, 1) := by decide +kernel
theorem dL_rehearses_8 : decode cL_rehearses 8 = .ok (.aload 4, 2) := by decide +kernel
theorem dL_rehearses_10 : decode cL_rehearses 10 = .ok (.iload_n 0, 1) := by decide +kernel
theorem dL_rehearses_11 : decode cL_rehearses 11 = .ok (.dup2, 1) := by decide +kernel
theorem dL_rehearses_12 : decode cL_rehearses 12 = .ok (.iaload, 1) := by decide +kernel
theorem dL_rehearses_13 : decode cL_rehearses 13 = .ok (.iconst 1, 1) := by decide +kernel
theorem dL_rehearses_14 : decode cL_rehearses 14 = .ok (.iadd, 1) := by decide +kernel
theorem dL_rehearses_15 : decode cL_rehearses 15 = .ok (.iastore, 1) := by decide +kernel
theorem dL_rehearses_16 : decode cL_rehearses 16 = .ok (.aload 4, 2) := by decide +kernel
theorem dL_rehearses_18 : decode cL_rehearses 18 = .ok (.iload_n 0, 1) := by decide +kernel
theorem dL_rehearses_19 : decode cL_rehearses 19 = .ok (.iaload, 1) := by decide +kernel
theorem dL_rehearses_20 : decode cL_rehearses 20 = .ok (.iconst 3, 1) := by decide +kernel
theorem dL_rehearses_21 : decode cL_rehearses 21 = .ok (.if_icmp .le 41, 3) := by decide +kernel
theorem dL_rehearses_24 : decode cL_rehearses 24 = .ok (.iload_n 0, 1) := by decide +kernel
theorem dL_rehearses_25 : decode cL_rehearses 25 = .ok (.iload_n 1, 1) := by decide +kernel
theorem dL_rehearses_26 : decode cL_rehearses 26 = .ok (.iconst 5, 1) := by decide +kernel
theorem dL_rehearses_27 : decode cL_rehearses 27 = .ok (.irem, 1) := by decide +kernel
theorem dL_rehearses_28 : decode cL_rehearses 28 = .ok (.ifCond .ne 7, 3) := by decide +kernel
theorem dL_rehearses_31 : decode cL_rehearses 31 = .ok (.iconst 1, 1) := by decide +kernel
theorem dL_rehearses_32 : decode cL_rehearses 32 = .ok (.goto 19, 3) := by decide +kernel
theorem dL_rehearses_35 : decode cL_rehearses 35 = .ok (.iload_n 1, 1) := by decide +kernel
theorem dL_rehearses_36 : decode cL_rehearses 36 = .ok (.iconst 1, 1) := by decide +kernel
theorem dL_rehearses_37 : decode cL_rehearses 37 = .ok (.if_icmp .eq 8, 3) := by decide +kernel
theorem dL_rehearses_40 : decode cL_rehearses 40 = .ok (.iload_n 1, 1) := by decide +kernel
theorem dL_rehearses_41 : decode cL_rehearses 41 = .ok (.iconst 4, 1) := by decide +kernel
theorem dL_rehearses_42 : decode cL_rehearses 42 = .ok (.if_icmp .ne 7, 3) := by decide +kernel
theorem dL_rehearses_45 : decode cL_rehearses 45 = .ok (.iconst 4, 1) := by decide +kernel
theorem dL_rehearses_46 : decode cL_rehearses 46 = .ok (.goto 5, 3) := by decide +kernel
theorem dL_rehearses_49 : decode cL_rehearses 49 = .ok (.bipush 16, 2) := by decide +kernel
theorem dL_rehearses_51 : decode cL_rehearses 51 = .ok (.iconst 2, 1) := by decide +kernel
theorem dL_rehearses_52 : decode cL_rehearses 52 = .ok (.iload_n 2, 1) := by decide +kernel
theorem dL_rehearses_53 : decode cL_rehearses 53 = .ok (.imul, 1) := by decide +kernel
theorem dL_rehearses_54 : decode cL_rehearses 54 = .ok (.aload_n 3, 1) := by decide +kernel
theorem dL_rehearses_55 : decode cL_rehearses 55 = .ok (.aload 6, 2) := by decide +kernel
theorem dL_rehearses_57 : decode cL_rehearses 57 = .ok (.invokestatic 81, 3) := by decide +kernel
theorem dL_rehearses_60 : decode cL_rehearses 60 = .ok (.iconst 0, 1) := by decide +kernel
theorem dL_rehearses_61 : decode cL_rehearses 61 = .ok (.ireturn, 1) := by decide +kernel
theorem dL_rehearses_62 : decode cL_rehearses 62 = .ok (.iconst 0, 1) := by decide +kernel
theorem dL_rehearses_63 : decode cL_rehearses 63 = .ok (.istore 7, 2) := by decide +kernel
theorem dL_rehearses_65 : decode cL_rehearses 65 = .ok (.iload 7, 2) := by decide +kernel
theorem dL_rehearses_67 : decode cL_rehearses 67 = .ok (.bipush 39, 2) := by decide +kernel
theorem dL_rehearses_69 : decode cL_rehearses 69 = .ok (.if_icmp .ge 30, 3) := by decide +kernel
theorem dL_rehearses_72 : decode cL_rehearses 72 = .ok (.aload_n 3, 1) := by decide +kernel
theorem dL_rehearses_73 : decode cL_rehearses 73 = .ok (.bipush 8, 2) := by decide +kernel
theorem dL_rehearses_75 : decode cL_rehearses 75 = .ok (.iaload, 1) := by decide +kernel
theorem dL_rehearses_76 : decode cL_rehearses 76 = .ok (.bipush 40, 2) := by decide +kernel
theorem dL_rehearses_78 : decode cL_rehearses 78 = .ok (.if_icmp .ne 21, 3) := by decide +kernel
theorem dL_rehearses_81 : decode cL_rehearses 81 = .ok (.aload 5, 2) := by decide +kernel
theorem dL_rehearses_83 : decode cL_rehearses 83 = .ok (.iload 7, 2) := by decide +kernel
theorem dL_rehearses_85 : decode cL_rehearses 85 = .ok (.aload 5, 2) := by decide +kernel
theorem dL_rehearses_87 : decode cL_rehearses 87 = .ok (.iload 7, 2) := by decide +kernel
theorem dL_rehearses_89 : decode cL_rehearses 89 = .ok (.iconst 1, 1) := by decide +kernel
theorem dL_rehearses_90 : decode cL_rehearses 90 = .ok (.iadd, 1) := by decide +kernel
theorem dL_rehearses_91 : decode cL_rehearses 91 = .ok (.iaload, 1) := by decide +kernel
theorem dL_rehearses_92 : decode cL_rehearses 92 = .ok (.iastore, 1) := by decide +kernel
theorem dL_rehearses_93 : decode cL_rehearses 93 = .ok (.iinc 7 1, 3) := by decide +kernel
theorem dL_rehearses_96 : decode cL_rehearses 96 = .ok (.goto (-31), 3) := by decide +kernel
theorem dL_rehearses_99 : decode cL_rehearses 99 = .ok (.aload_n 3, 1) := by decide +kernel
theorem dL_rehearses_100 : decode cL_rehearses 100 = .ok (.bipush 8, 2) := by decide +kernel
theorem dL_rehearses_102 : decode cL_rehearses 102 = .ok (.aload_n 3, 1) := by decide +kernel
theorem dL_rehearses_103 : decode cL_rehearses 103 = .ok (.bipush 8, 2) := by decide +kernel
theorem dL_rehearses_105 : decode cL_rehearses 105 = .ok (.iaload, 1) := by decide +kernel
theorem dL_rehearses_106 : decode cL_rehearses 106 = .ok (.bipush 40, 2) := by decide +kernel
theorem dL_rehearses_108 : decode cL_rehearses 108 = .ok (.if_icmp .ne 8, 3) := by decide +kernel
theorem dL_rehearses_111 : decode cL_rehearses 111 = .ok (.bipush 39, 2) := by decide +kernel
theorem dL_rehearses_113 : decode cL_rehearses 113 = .ok (.goto 7, 3) := by decide +kernel
theorem dL_rehearses_116 : decode cL_rehearses 116 = .ok (.aload_n 3, 1) := by decide +kernel
theorem dL_rehearses_117 : decode cL_rehearses 117 = .ok (.bipush 8, 2) := by decide +kernel
theorem dL_rehearses_119 : decode cL_rehearses 119 = .ok (.iaload, 1) := by decide +kernel
theorem dL_rehearses_120 : decode cL_rehearses 120 = .ok (.iastore, 1) := by decide +kernel
theorem dL_rehearses_121 : decode cL_rehearses 121 = .ok (.aload 5, 2) := by decide +kernel
theorem dL_rehearses_123 : decode cL_rehearses 123 = .ok (.aload_n 3, 1) := by decide +kernel
theorem dL_rehearses_124 : decode cL_rehearses 124 = .ok (.bipush 8, 2) := by decide +kernel
theorem dL_rehearses_126 : decode cL_rehearses 126 = .ok (.iaload, 1) := by decide +kernel
theorem dL_rehearses_127 : decode cL_rehearses 127 = .ok (.iload_n 0, 1) := by decide +kernel
theorem dL_rehearses_128 : decode cL_rehearses 128 = .ok (.bipush 8, 2) := by decide +kernel
theorem dL_rehearses_130 : decode cL_rehearses 130 = .ok (.iload_n 1, 1) := by decide +kernel
theorem dL_rehearses_131 : decode cL_rehearses 131 = .ok (.imul, 1) := by decide +kernel
theorem dL_rehearses_132 : decode cL_rehearses 132 = .ok (.iadd, 1) := by decide +kernel
theorem dL_rehearses_133 : decode cL_rehearses 133 = .ok (.bipush 64, 2) := by decide +kernel
theorem dL_rehearses_135 : decode cL_rehearses 135 = .ok (.iload_n 2, 1) := by decide +kernel
theorem dL_rehearses_136 : decode cL_rehearses 136 = .ok (.imul, 1) := by decide +kernel
theorem dL_rehearses_137 : decode cL_rehearses 137 = .ok (.iadd, 1) := by decide +kernel
theorem dL_rehearses_138 : decode cL_rehearses 138 = .ok (.sipush 512, 3) := by decide +kernel
theorem dL_rehearses_141 : decode cL_rehearses 141 = .ok (.aload_n 3, 1) := by decide +kernel
theorem dL_rehearses_142 : decode cL_rehearses 142 = .ok (.iconst 0, 1) := by decide +kernel
theorem dL_rehearses_143 : decode cL_rehearses 143 = .ok (.iaload, 1) := by decide +kernel
theorem dL_rehearses_144 : decode cL_rehearses 144 = .ok (.imul, 1) := by decide +kernel
theorem dL_rehearses_145 : decode cL_rehearses 145 = .ok (.iadd, 1) := by decide +kernel
theorem dL_rehearses_146 : decode cL_rehearses 146 = .ok (.iastore, 1) := by decide +kernel
theorem dL_rehearses_147 : decode cL_rehearses 147 = .ok (.aload_n 3, 1) := by decide +kernel
theorem dL_rehearses_148 : decode cL_rehearses 148 = .ok (.bipush 8, 2) := by decide +kernel
theorem dL_rehearses_150 : decode cL_rehearses 150 = .ok (.dup2, 1) := by decide +kernel
theorem dL_rehearses_151 : decode cL_rehearses 151 = .ok (.iaload, 1) := by decide +kernel
theorem dL_rehearses_152 : decode cL_rehearses 152 = .ok (.iconst 1, 1) := by decide +kernel
theorem dL_rehearses_153 : decode cL_rehearses 153 = .ok (.iadd, 1) := by decide +kernel
theorem dL_rehearses_154 : decode cL_rehearses 154 = .ok (.iastore, 1) := by decide +kernel
theorem dL_rehearses_155 : decode cL_rehearses 155 = .ok (.iconst 1, 1) := by decide +kernel
theorem dL_rehearses_156 : decode cL_rehearses 156 = .ok (.ireturn, 1) := by decide +kernel
theorem dL_told_0 : decode cL_told 0 = .ok (.ldc2_w 85, 3) := by decide +kernel
theorem dL_told_3 : decode cL_told 3 = .ok (.lstore_n 1, 1) := by decide +kernel
theorem dL_told_4 : decode cL_told 4 = .ok (.iconst 0, 1) := by decide +kernel
theorem dL_told_5 : decode cL_told 5 = .ok (.istore_n 3, 1) := by decide +kernel
theorem dL_told_6 : decode cL_told 6 = .ok (.iload_n 3, 1) := by decide +kernel
theorem dL_told_7 : decode cL_told 7 = .ok (.bipush 10, 2) := by decide +kernel
theorem dL_told_9 : decode cL_told 9 = .ok (.if_icmp .ge 22, 3) := by decide +kernel
theorem dL_told_12 : decode cL_told 12 = .ok (.ldc2_w 87, 3) := by decide +kernel
theorem dL_told_15 : decode cL_told 15 = .ok (.lload_n 1, 1) := by decide +kernel
theorem dL_told_16 : decode cL_told 16 = .ok (.lmul, 1) := by decide +kernel
theorem dL_told_17 : decode cL_told 17 = .ok (.aload_n 0, 1) := by decide +kernel
theorem dL_told_18 : decode cL_told 18 = .ok (.iload_n 3, 1) := by decide +kernel
theorem dL_told_19 : decode cL_told 19 = .ok (.invokestatic 89, 3) := by decide +kernel
theorem dL_told_22 : decode cL_told 22 = .ok (.i2l, 1) := by decide +kernel
theorem dL_told_23 : decode cL_told 23 = .ok (.ladd, 1) := by decide +kernel
theorem dL_told_24 : decode cL_told 24 = .ok (.lstore_n 1, 1) := by decide +kernel
theorem dL_told_25 : decode cL_told 25 = .ok (.iinc 3 1, 3) := by decide +kernel
theorem dL_told_28 : decode cL_told 28 = .ok (.goto (-22), 3) := by decide +kernel
theorem dL_told_31 : decode cL_told 31 = .ok (.iconst 0, 1) := by decide +kernel
theorem dL_told_32 : decode cL_told 32 = .ok (.istore_n 3, 1) := by decide +kernel
theorem dL_told_33 : decode cL_told 33 = .ok (.iload_n 3, 1) := by decide +kernel
theorem dL_told_34 : decode cL_told 34 = .ok (.bipush 8, 2) := by decide +kernel
theorem dL_told_36 : decode cL_told 36 = .ok (.if_icmp .ge 40, 3) := by decide +kernel
theorem dL_told_39 : decode cL_told 39 = .ok (.iconst 0, 1) := by decide +kernel
theorem dL_told_40 : decode cL_told 40 = .ok (.istore 4, 2) := by decide +kernel
theorem dL_told_42 : decode cL_told 42 = .ok (.iload 4, 2) := by decide +kernel
theorem dL_told_44 : decode cL_told 44 = .ok (.bipush 7, 2) := by decide +kernel
theorem dL_told_46 : decode cL_told 46 = .ok (.if_icmp .ge 24, 3) := by decide +kernel
theorem dL_told_49 : decode cL_told 49 = .ok (.ldc2_w 87, 3) := by decide +kernel
theorem dL_told_52 : decode cL_told 52 = .ok (.lload_n 1, 1) := by decide +kernel
theorem dL_told_53 : decode cL_told 53 = .ok (.lmul, 1) := by decide +kernel
theorem dL_told_54 : decode cL_told 54 = .ok (.aload_n 0, 1) := by decide +kernel
theorem dL_told_55 : decode cL_told 55 = .ok (.iload_n 3, 1) := by decide +kernel
theorem dL_told_56 : decode cL_told 56 = .ok (.iload 4, 2) := by decide +kernel
theorem dL_told_58 : decode cL_told 58 = .ok (.invokestatic 92, 3) := by decide +kernel
theorem dL_told_61 : decode cL_told 61 = .ok (.i2l, 1) := by decide +kernel
theorem dL_told_62 : decode cL_told 62 = .ok (.ladd, 1) := by decide +kernel
theorem dL_told_63 : decode cL_told 63 = .ok (.lstore_n 1, 1) := by decide +kernel
theorem dL_told_64 : decode cL_told 64 = .ok (.iinc 4 1, 3) := by decide +kernel
theorem dL_told_67 : decode cL_told 67 = .ok (.goto (-25), 3) := by decide +kernel
theorem dL_told_70 : decode cL_told 70 = .ok (.iinc 3 1, 3) := by decide +kernel
theorem dL_told_73 : decode cL_told 73 = .ok (.goto (-40), 3) := by decide +kernel
theorem dL_told_76 : decode cL_told 76 = .ok (.iconst 0, 1) := by decide +kernel
theorem dL_told_77 : decode cL_told 77 = .ok (.istore_n 3, 1) := by decide +kernel
theorem dL_told_78 : decode cL_told 78 = .ok (.iload_n 3, 1) := by decide +kernel
theorem dL_told_79 : decode cL_told 79 = .ok (.aload_n 0, 1) := by decide +kernel
theorem dL_told_80 : decode cL_told 80 = .ok (.iconst 4, 1) := by decide +kernel
theorem dL_told_81 : decode cL_told 81 = .ok (.invokestatic 89, 3) := by decide +kernel
theorem dL_told_84 : decode cL_told 84 = .ok (.if_icmp .ge 40, 3) := by decide +kernel
theorem dL_told_87 : decode cL_told 87 = .ok (.iconst 0, 1) := by decide +kernel
theorem dL_told_88 : decode cL_told 88 = .ok (.istore 4, 2) := by decide +kernel
theorem dL_told_90 : decode cL_told 90 = .ok (.iload 4, 2) := by decide +kernel
theorem dL_told_92 : decode cL_told 92 = .ok (.bipush 6, 2) := by decide +kernel
theorem dL_told_94 : decode cL_told 94 = .ok (.if_icmp .ge 24, 3) := by decide +kernel
theorem dL_told_97 : decode cL_told 97 = .ok (.ldc2_w 87, 3) := by decide +kernel
theorem dL_told_100 : decode cL_told 100 = .ok (.lload_n 1, 1) := by decide +kernel
theorem dL_told_101 : decode cL_told 101 = .ok (.lmul, 1) := by decide +kernel
theorem dL_told_102 : decode cL_told 102 = .ok (.aload_n 0, 1) := by decide +kernel
theorem dL_told_103 : decode cL_told 103 = .ok (.iload_n 3, 1) := by decide +kernel
theorem dL_told_104 : decode cL_told 104 = .ok (.iload 4, 2) := by decide +kernel
theorem dL_told_106 : decode cL_told 106 = .ok (.invokestatic 95, 3) := by decide +kernel
theorem dL_told_109 : decode cL_told 109 = .ok (.i2l, 1) := by decide +kernel
theorem dL_told_110 : decode cL_told 110 = .ok (.ladd, 1) := by decide +kernel
theorem dL_told_111 : decode cL_told 111 = .ok (.lstore_n 1, 1) := by decide +kernel
theorem dL_told_112 : decode cL_told 112 = .ok (.iinc 4 1, 3) := by decide +kernel
theorem dL_told_115 : decode cL_told 115 = .ok (.goto (-25), 3) := by decide +kernel
theorem dL_told_118 : decode cL_told 118 = .ok (.iinc 3 1, 3) := by decide +kernel
theorem dL_told_121 : decode cL_told 121 = .ok (.goto (-43), 3) := by decide +kernel
theorem dL_told_124 : decode cL_told 124 = .ok (.lload_n 1, 1) := by decide +kernel
theorem dL_told_125 : decode cL_told 125 = .ok (.lreturn, 1) := by decide +kernel
theorem dL_call_0 : decode cL_call 0 = .ok (.iload_n 1, 1) := by decide +kernel
theorem dL_call_1 : decode cL_call 1 = .ok (.tableswitch 87 0 5 #[39, 46, 52, 61, 70, 78], 39) := by decide +kernel
theorem dL_call_40 : decode cL_call 40 = .ok (.aload_n 0, 1) := by decide +kernel
theorem dL_call_41 : decode cL_call 41 = .ok (.iload_n 2, 1) := by decide +kernel
theorem dL_call_42 : decode cL_call 42 = .ok (.iload_n 3, 1) := by decide +kernel
theorem dL_call_43 : decode cL_call 43 = .ok (.invokestatic 97, 3) := by decide +kernel
theorem dL_call_46 : decode cL_call 46 = .ok (.ireturn, 1) := by decide +kernel
theorem dL_call_47 : decode cL_call 47 = .ok (.aload_n 0, 1) := by decide +kernel
theorem dL_call_48 : decode cL_call 48 = .ok (.iload_n 3, 1) := by decide +kernel
theorem dL_call_49 : decode cL_call 49 = .ok (.invokestatic 99, 3) := by decide +kernel
theorem dL_call_52 : decode cL_call 52 = .ok (.ireturn, 1) := by decide +kernel
theorem dL_call_53 : decode cL_call 53 = .ok (.aload_n 0, 1) := by decide +kernel
theorem dL_call_54 : decode cL_call 54 = .ok (.iload_n 2, 1) := by decide +kernel
theorem dL_call_55 : decode cL_call 55 = .ok (.iload_n 3, 1) := by decide +kernel
theorem dL_call_56 : decode cL_call 56 = .ok (.iload 4, 2) := by decide +kernel
theorem dL_call_58 : decode cL_call 58 = .ok (.invokestatic 101, 3) := by decide +kernel
theorem dL_call_61 : decode cL_call 61 = .ok (.ireturn, 1) := by decide +kernel
theorem dL_call_62 : decode cL_call 62 = .ok (.aload_n 0, 1) := by decide +kernel
theorem dL_call_63 : decode cL_call 63 = .ok (.iload_n 2, 1) := by decide +kernel
theorem dL_call_64 : decode cL_call 64 = .ok (.iload_n 3, 1) := by decide +kernel
theorem dL_call_65 : decode cL_call 65 = .ok (.iload 4, 2) := by decide +kernel
theorem dL_call_67 : decode cL_call 67 = .ok (.invokestatic 104, 3) := by decide +kernel
theorem dL_call_70 : decode cL_call 70 = .ok (.ireturn, 1) := by decide +kernel
theorem dL_call_71 : decode cL_call 71 = .ok (.aload_n 0, 1) := by decide +kernel
theorem dL_call_72 : decode cL_call 72 = .ok (.iload_n 3, 1) := by decide +kernel
theorem dL_call_73 : decode cL_call 73 = .ok (.iload 4, 2) := by decide +kernel
theorem dL_call_75 : decode cL_call 75 = .ok (.invokestatic 106, 3) := by decide +kernel
theorem dL_call_78 : decode cL_call 78 = .ok (.ireturn, 1) := by decide +kernel
theorem dL_call_79 : decode cL_call 79 = .ok (.aload_n 0, 1) := by decide +kernel
theorem dL_call_80 : decode cL_call 80 = .ok (.iload_n 3, 1) := by decide +kernel
theorem dL_call_81 : decode cL_call 81 = .ok (.iload 4, 2) := by decide +kernel
theorem dL_call_83 : decode cL_call 83 = .ok (.iload_n 2, 1) := by decide +kernel
theorem dL_call_84 : decode cL_call 84 = .ok (.invokestatic 108, 3) := by decide +kernel
theorem dL_call_87 : decode cL_call 87 = .ok (.ireturn, 1) := by decide +kernel
theorem dL_call_88 : decode cL_call 88 = .ok (.aload_n 0, 1) := by decide +kernel
theorem dL_call_89 : decode cL_call 89 = .ok (.iload_n 3, 1) := by decide +kernel
theorem dL_call_90 : decode cL_call 90 = .ok (.iload_n 2, 1) := by decide +kernel
theorem dL_call_91 : decode cL_call 91 = .ok (.invokestatic 110, 3) := by decide +kernel
theorem dL_call_94 : decode cL_call 94 = .ok (.ireturn, 1) := by decide +kernel
theorem dL_due_0 : decode cL_due 0 = .ok (.aload_n 0, 1) := by decide +kernel
theorem dL_due_1 : decode cL_due 1 = .ok (.iconst 1, 1) := by decide +kernel
theorem dL_due_2 : decode cL_due 2 = .ok (.iaload, 1) := by decide +kernel
theorem dL_due_3 : decode cL_due 3 = .ok (.istore 8, 2) := by decide +kernel
theorem dL_due_5 : decode cL_due 5 = .ok (.aload_n 0, 1) := by decide +kernel
theorem dL_due_6 : decode cL_due 6 = .ok (.iconst 2, 1) := by decide +kernel
theorem dL_due_7 : decode cL_due 7 = .ok (.iaload, 1) := by decide +kernel
theorem dL_due_8 : decode cL_due 8 = .ok (.istore 9, 2) := by decide +kernel
theorem dL_due_10 : decode cL_due 10 = .ok (.aload_n 2, 1) := by decide +kernel
theorem dL_due_11 : decode cL_due 11 = .ok (.iload 8, 2) := by decide +kernel
theorem dL_due_13 : decode cL_due 13 = .ok (.iaload, 1) := by decide +kernel
theorem dL_due_14 : decode cL_due 14 = .ok (.istore 10, 2) := by decide +kernel
theorem dL_due_16 : decode cL_due 16 = .ok (.aload_n 0, 1) := by decide +kernel
theorem dL_due_17 : decode cL_due 17 = .ok (.iconst 0, 1) := by decide +kernel
theorem dL_due_18 : decode cL_due 18 = .ok (.iaload, 1) := by decide +kernel
theorem dL_due_19 : decode cL_due 19 = .ok (.ifCond .ne 12, 3) := by decide +kernel
theorem dL_due_22 : decode cL_due 22 = .ok (.aload_n 2, 1) := by decide +kernel
theorem dL_due_23 : decode cL_due 23 = .ok (.iload 8, 2) := by decide +kernel
theorem dL_due_25 : decode cL_due 25 = .ok (.iload 9, 2) := by decide +kernel
theorem dL_due_27 : decode cL_due 27 = .ok (.iastore, 1) := by decide +kernel
theorem dL_due_28 : decode cL_due 28 = .ok (.iload 10, 2) := by decide +kernel
theorem dL_due_30 : decode cL_due 30 = .ok (.ireturn, 1) := by decide +kernel
theorem dL_due_31 : decode cL_due 31 = .ok (.aload_n 0, 1) := by decide +kernel
theorem dL_due_32 : decode cL_due 32 = .ok (.iconst 0, 1) := by decide +kernel
theorem dL_due_33 : decode cL_due 33 = .ok (.iaload, 1) := by decide +kernel
theorem dL_due_34 : decode cL_due 34 = .ok (.iconst 1, 1) := by decide +kernel
theorem dL_due_35 : decode cL_due 35 = .ok (.if_icmp .ne 52, 3) := by decide +kernel
theorem dL_due_38 : decode cL_due 38 = .ok (.aload_n 1, 1) := by decide +kernel
theorem dL_due_39 : decode cL_due 39 = .ok (.iconst 0, 1) := by decide +kernel
theorem dL_due_40 : decode cL_due 40 = .ok (.iaload, 1) := by decide +kernel
theorem dL_due_41 : decode cL_due 41 = .ok (.iload 9, 2) := by decide +kernel
theorem dL_due_43 : decode cL_due 43 = .ok (.iadd, 1) := by decide +kernel
theorem dL_due_44 : decode cL_due 44 = .ok (.sipush 999, 3) := by decide +kernel
theorem dL_due_47 : decode cL_due 47 = .ok (.if_icmp .le 6, 3) := by decide +kernel
theorem dL_due_50 : decode cL_due 50 = .ok (.bipush (-103), 2) := by decide +kernel
theorem dL_due_52 : decode cL_due 52 = .ok (.ireturn, 1) := by decide +kernel
theorem dL_due_53 : decode cL_due 53 = .ok (.aload_n 1, 1) := by decide +kernel
theorem dL_due_54 : decode cL_due 54 = .ok (.iconst 0, 1) := by decide +kernel
theorem dL_due_55 : decode cL_due 55 = .ok (.dup2, 1) := by decide +kernel
theorem dL_due_56 : decode cL_due 56 = .ok (.iaload, 1) := by decide +kernel
theorem dL_due_57 : decode cL_due 57 = .ok (.iload 9, 2) := by decide +kernel
theorem dL_due_59 : decode cL_due 59 = .ok (.iadd, 1) := by decide +kernel
theorem dL_due_60 : decode cL_due 60 = .ok (.iastore, 1) := by decide +kernel
theorem dL_due_61 : decode cL_due 61 = .ok (.iconst 0, 1) := by decide +kernel
theorem dL_due_62 : decode cL_due 62 = .ok (.istore 11, 2) := by decide +kernel
theorem dL_due_64 : decode cL_due 64 = .ok (.iload 11, 2) := by decide +kernel
theorem dL_due_66 : decode cL_due 66 = .ok (.bipush 8, 2) := by decide +kernel
theorem dL_due_68 : decode cL_due 68 = .ok (.if_icmp .ge 15, 3) := by decide +kernel
theorem dL_due_71 : decode cL_due 71 = .ok (.aload 4, 2) := by decide +kernel
theorem dL_due_73 : decode cL_due 73 = .ok (.iload 11, 2) := by decide +kernel
theorem dL_due_75 : decode cL_due 75 = .ok (.iconst 0, 1) := by decide +kernel
theorem dL_due_76 : decode cL_due 76 = .ok (.iastore, 1) := by decide +kernel
theorem dL_due_77 : decode cL_due 77 = .ok (.iinc 11 1, 3) := by decide +kernel
theorem dL_due_80 : decode cL_due 80 = .ok (.goto (-16), 3) := by decide +kernel
theorem dL_due_83 : decode cL_due 83 = .ok (.aload_n 1, 1) := by decide +kernel
theorem dL_due_84 : decode cL_due 84 = .ok (.iconst 0, 1) := by decide +kernel
theorem dL_due_85 : decode cL_due 85 = .ok (.iaload, 1) := by decide +kernel
theorem dL_due_86 : decode cL_due 86 = .ok (.ireturn, 1) := by decide +kernel
theorem dL_due_87 : decode cL_due 87 = .ok (.aload_n 0, 1) := by decide +kernel
theorem dL_due_88 : decode cL_due 88 = .ok (.iconst 0, 1) := by decide +kernel
theorem dL_due_89 : decode cL_due 89 = .ok (.iaload, 1) := by decide +kernel
theorem dL_due_90 : decode cL_due 90 = .ok (.iconst 2, 1) := by decide +kernel
theorem dL_due_91 : decode cL_due 91 = .ok (.if_icmp .ne 43, 3) := by decide +kernel
theorem dL_due_94 : decode cL_due 94 = .ok (.iload 8, 2) := by decide +kernel
theorem dL_due_96 : decode cL_due 96 = .ok (.aload_n 1, 1) := by decide +kernel
theorem dL_due_97 : decode cL_due 97 = .ok (.aload 6, 2) := by decide +kernel
theorem dL_due_99 : decode cL_due 99 = .ok (.invokestatic 66, 3) := by decide +kernel
theorem dL_due_102 : decode cL_due 102 = .ok (.iload 9, 2) := by decide +kernel
theorem dL_due_104 : decode cL_due 104 = .ok (.invokestatic 70, 3) := by decide +kernel
theorem dL_due_107 : decode cL_due 107 = .ok (.iand, 1) := by decide +kernel
theorem dL_due_108 : decode cL_due 108 = .ok (.ifCond .eq 8, 3) := by decide +kernel
theorem dL_due_111 : decode cL_due 111 = .ok (.bipush (-103), 2) := by decide +kernel
theorem dL_due_113 : decode cL_due 113 = .ok (.goto 20, 3) := by decide +kernel
theorem dL_due_116 : decode cL_due 116 = .ok (.iload 8, 2) := by decide +kernel
theorem dL_due_118 : decode cL_due 118 = .ok (.iload 9, 2) := by decide +kernel
theorem dL_due_120 : decode cL_due 120 = .ok (.aload_n 0, 1) := by decide +kernel
theorem dL_due_121 : decode cL_due 121 = .ok (.iconst 3, 1) := by decide +kernel
theorem dL_due_122 : decode cL_due 122 = .ok (.iaload, 1) := by decide +kernel
theorem dL_due_123 : decode cL_due 123 = .ok (.aload_n 1, 1) := by decide +kernel
theorem dL_due_124 : decode cL_due 124 = .ok (.aload 4, 2) := by decide +kernel
theorem dL_due_126 : decode cL_due 126 = .ok (.aload 5, 2) := by decide +kernel
theorem dL_due_128 : decode cL_due 128 = .ok (.aload 6, 2) := by decide +kernel
theorem dL_due_130 : decode cL_due 130 = .ok (.invokestatic 112, 3) := by decide +kernel
theorem dL_due_133 : decode cL_due 133 = .ok (.ireturn, 1) := by decide +kernel
theorem dL_due_134 : decode cL_due 134 = .ok (.aload_n 0, 1) := by decide +kernel
theorem dL_due_135 : decode cL_due 135 = .ok (.iconst 0, 1) := by decide +kernel
theorem dL_due_136 : decode cL_due 136 = .ok (.iaload, 1) := by decide +kernel
theorem dL_due_137 : decode cL_due 137 = .ok (.iconst 3, 1) := by decide +kernel
theorem dL_due_138 : decode cL_due 138 = .ok (.if_icmp .ne 87, 3) := by decide +kernel
theorem dL_due_141 : decode cL_due 141 = .ok (.iload 8, 2) := by decide +kernel
theorem dL_due_143 : decode cL_due 143 = .ok (.iload 9, 2) := by decide +kernel
theorem dL_due_145 : decode cL_due 145 = .ok (.aload_n 0, 1) := by decide +kernel
theorem dL_due_146 : decode cL_due 146 = .ok (.iconst 3, 1) := by decide +kernel
theorem dL_due_147 : decode cL_due 147 = .ok (.iaload, 1) := by decide +kernel
theorem dL_due_148 : decode cL_due 148 = .ok (.aload_n 1, 1) := by decide +kernel
theorem dL_due_149 : decode cL_due 149 = .ok (.aload 6, 2) := by decide +kernel
theorem dL_due_151 : decode cL_due 151 = .ok (.invokestatic 81, 3) := by decide +kernel
theorem dL_due_154 : decode cL_due 154 = .ok (.iconst 0, 1) := by decide +kernel
theorem dL_due_155 : decode cL_due 155 = .ok (.istore 11, 2) := by decide +kernel
theorem dL_due_157 : decode cL_due 157 = .ok (.iconst 0, 1) := by decide +kernel
theorem dL_due_158 : decode cL_due 158 = .ok (.istore 12, 2) := by decide +kernel
theorem dL_due_160 : decode cL_due 160 = .ok (.iload 12, 2) := by decide +kernel
theorem dL_due_162 : decode cL_due 162 = .ok (.aload_n 1, 1) := by decide +kernel
theorem dL_due_163 : decode cL_due 163 = .ok (.iconst 4, 1) := by decide +kernel
theorem dL_due_164 : decode cL_due 164 = .ok (.iaload, 1) := by decide +kernel
theorem dL_due_165 : decode cL_due 165 = .ok (.if_icmp .ge 57, 3) := by decide +kernel
theorem dL_due_168 : decode cL_due 168 = .ok (.iload 11, 2) := by decide +kernel
theorem dL_due_170 : decode cL_due 170 = .ok (.aload 7, 2) := by decide +kernel
theorem dL_due_172 : decode cL_due 172 = .ok (.iload 12, 2) := by decide +kernel
theorem dL_due_174 : decode cL_due 174 = .ok (.iaload, 1) := by decide +kernel
theorem dL_due_175 : decode cL_due 175 = .ok (.bipush 9, 2) := by decide +kernel
theorem dL_due_177 : decode cL_due 177 = .ok (.ishr, 1) := by decide +kernel
theorem dL_due_178 : decode cL_due 178 = .ok (.sipush 1023, 3) := by decide +kernel
theorem dL_due_181 : decode cL_due 181 = .ok (.iand, 1) := by decide +kernel
theorem dL_due_182 : decode cL_due 182 = .ok (.ifCond .ne 30, 3) := by decide +kernel
theorem dL_due_185 : decode cL_due 185 = .ok (.iload 8, 2) := by decide +kernel
theorem dL_due_187 : decode cL_due 187 = .ok (.aload_n 1, 1) := by decide +kernel
theorem dL_due_188 : decode cL_due 188 = .ok (.aload 6, 2) := by decide +kernel
theorem dL_due_190 : decode cL_due 190 = .ok (.invokestatic 66, 3) := by decide +kernel
theorem dL_due_193 : decode cL_due 193 = .ok (.aload 7, 2) := by decide +kernel
theorem dL_due_195 : decode cL_due 195 = .ok (.iload 12, 2) := by decide +kernel
theorem dL_due_197 : decode cL_due 197 = .ok (.iaload, 1) := by decide +kernel
theorem dL_due_198 : decode cL_due 198 = .ok (.bipush 7, 2) := by decide +kernel
theorem dL_due_200 : decode cL_due 200 = .ok (.iand, 1) := by decide +kernel
theorem dL_due_201 : decode cL_due 201 = .ok (.invokestatic 70, 3) := by decide +kernel
theorem dL_due_204 : decode cL_due 204 = .ok (.iand, 1) := by decide +kernel
theorem dL_due_205 : decode cL_due 205 = .ok (.ifCond .eq 7, 3) := by decide +kernel
theorem dL_due_208 : decode cL_due 208 = .ok (.iconst 1, 1) := by decide +kernel
theorem dL_due_209 : decode cL_due 209 = .ok (.goto 4, 3) := by decide +kernel
theorem dL_due_212 : decode cL_due 212 = .ok (.iconst 0, 1) := by decide +kernel
theorem dL_due_213 : decode cL_due 213 = .ok (.iadd, 1) := by decide +kernel
theorem dL_due_214 : decode cL_due 214 = .ok (.istore 11, 2) := by decide +kernel
theorem dL_due_216 : decode cL_due 216 = .ok (.iinc 12 1, 3) := by decide +kernel
theorem dL_due_219 : decode cL_due 219 = .ok (.goto (-59), 3) := by decide +kernel
theorem dL_due_222 : decode cL_due 222 = .ok (.iload 11, 2) := by decide +kernel
theorem dL_due_224 : decode cL_due 224 = .ok (.ireturn, 1) := by decide +kernel
theorem dL_due_225 : decode cL_due 225 = .ok (.aload_n 0, 1) := by decide +kernel
theorem dL_due_226 : decode cL_due 226 = .ok (.iconst 0, 1) := by decide +kernel
theorem dL_due_227 : decode cL_due 227 = .ok (.iaload, 1) := by decide +kernel
theorem dL_due_228 : decode cL_due 228 = .ok (.iconst 4, 1) := by decide +kernel
theorem dL_due_229 : decode cL_due 229 = .ok (.if_icmp .ne 69, 3) := by decide +kernel
theorem dL_due_232 : decode cL_due 232 = .ok (.aload_n 0, 1) := by decide +kernel
theorem dL_due_233 : decode cL_due 233 = .ok (.iconst 3, 1) := by decide +kernel
theorem dL_due_234 : decode cL_due 234 = .ok (.iaload, 1) := by decide +kernel
theorem dL_due_235 : decode cL_due 235 = .ok (.iload 9, 2) := by decide +kernel
theorem dL_due_237 : decode cL_due 237 = .ok (.imul, 1) := by decide +kernel
theorem dL_due_238 : decode cL_due 238 = .ok (.iload 9, 2) := by decide +kernel
theorem dL_due_240 : decode cL_due 240 = .ok (.imul, 1) := by decide +kernel
theorem dL_due_241 : decode cL_due 241 = .ok (.istore 11, 2) := by decide +kernel
theorem dL_due_243 : decode cL_due 243 = .ok (.iload 11, 2) := by decide +kernel
theorem dL_due_245 : decode cL_due 245 = .ok (.iload 11, 2) := by decide +kernel
theorem dL_due_247 : decode cL_due 247 = .ok (.aload_n 1, 1) := by decide +kernel
theorem dL_due_248 : decode cL_due 248 = .ok (.bipush 6, 2) := by decide +kernel
theorem dL_due_250 : decode cL_due 250 = .ok (.iaload, 1) := by decide +kernel
theorem dL_due_251 : decode cL_due 251 = .ok (.imul, 1) := by decide +kernel
theorem dL_due_252 : decode cL_due 252 = .ok (.bipush 10, 2) := by decide +kernel
theorem dL_due_254 : decode cL_due 254 = .ok (.idiv, 1) := by decide +kernel
theorem dL_due_255 : decode cL_due 255 = .ok (.iadd, 1) := by decide +kernel
theorem dL_due_256 : decode cL_due 256 = .ok (.istore 11, 2) := by decide +kernel
theorem dL_due_258 : decode cL_due 258 = .ok (.iload 11, 2) := by decide +kernel
theorem dL_due_260 : decode cL_due 260 = .ok (.aload_n 1, 1) := by decide +kernel
theorem dL_due_261 : decode cL_due 261 = .ok (.iconst 1, 1) := by decide +kernel
theorem dL_due_262 : decode cL_due 262 = .ok (.iaload, 1) := by decide +kernel
theorem dL_due_263 : decode cL_due 263 = .ok (.if_icmp .le 6, 3) := by decide +kernel
theorem dL_due_266 : decode cL_due 266 = .ok (.bipush (-103), 2) := by decide +kernel
theorem dL_due_268 : decode cL_due 268 = .ok (.ireturn, 1) := by decide +kernel
theorem dL_due_269 : decode cL_due 269 = .ok (.aload_n 1, 1) := by decide +kernel
theorem dL_due_270 : decode cL_due 270 = .ok (.iconst 1, 1) := by decide +kernel
theorem dL_due_271 : decode cL_due 271 = .ok (.dup2, 1) := by decide +kernel
theorem dL_due_272 : decode cL_due 272 = .ok (.iaload, 1) := by decide +kernel
theorem dL_due_273 : decode cL_due 273 = .ok (.iload 11, 2) := by decide +kernel
theorem dL_due_275 : decode cL_due 275 = .ok (.isub, 1) := by decide +kernel
theorem dL_due_276 : decode cL_due 276 = .ok (.iastore, 1) := by decide +kernel
theorem dL_due_277 : decode cL_due 277 = .ok (.aload_n 1, 1) := by decide +kernel
theorem dL_due_278 : decode cL_due 278 = .ok (.iconst 2, 1) := by decide +kernel
theorem dL_due_279 : decode cL_due 279 = .ok (.iload 9, 2) := by decide +kernel
theorem dL_due_281 : decode cL_due 281 = .ok (.iastore, 1) := by decide +kernel
theorem dL_due_282 : decode cL_due 282 = .ok (.aload_n 1, 1) := by decide +kernel
theorem dL_due_283 : decode cL_due 283 = .ok (.iconst 3, 1) := by decide +kernel
theorem dL_due_284 : decode cL_due 284 = .ok (.aload_n 1, 1) := by decide +kernel
theorem dL_due_285 : decode cL_due 285 = .ok (.iconst 0, 1) := by decide +kernel
theorem dL_due_286 : decode cL_due 286 = .ok (.iaload, 1) := by decide +kernel
theorem dL_due_287 : decode cL_due 287 = .ok (.aload_n 0, 1) := by decide +kernel
theorem dL_due_288 : decode cL_due 288 = .ok (.iconst 3, 1) := by decide +kernel
theorem dL_due_289 : decode cL_due 289 = .ok (.iaload, 1) := by decide +kernel
theorem dL_due_290 : decode cL_due 290 = .ok (.iadd, 1) := by decide +kernel
theorem dL_due_291 : decode cL_due 291 = .ok (.iconst 1, 1) := by decide +kernel
theorem dL_due_292 : decode cL_due 292 = .ok (.isub, 1) := by decide +kernel
theorem dL_due_293 : decode cL_due 293 = .ok (.iastore, 1) := by decide +kernel
theorem dL_due_294 : decode cL_due 294 = .ok (.aload_n 1, 1) := by decide +kernel
theorem dL_due_295 : decode cL_due 295 = .ok (.iconst 1, 1) := by decide +kernel
theorem dL_due_296 : decode cL_due 296 = .ok (.iaload, 1) := by decide +kernel
theorem dL_due_297 : decode cL_due 297 = .ok (.ireturn, 1) := by decide +kernel
theorem dL_due_298 : decode cL_due 298 = .ok (.aload_n 0, 1) := by decide +kernel
theorem dL_due_299 : decode cL_due 299 = .ok (.iconst 0, 1) := by decide +kernel
theorem dL_due_300 : decode cL_due 300 = .ok (.iaload, 1) := by decide +kernel
theorem dL_due_301 : decode cL_due 301 = .ok (.iconst 5, 1) := by decide +kernel
theorem dL_due_302 : decode cL_due 302 = .ok (.if_icmp .ne 48, 3) := by decide +kernel
theorem dL_due_305 : decode cL_due 305 = .ok (.aload_n 1, 1) := by decide +kernel
theorem dL_due_306 : decode cL_due 306 = .ok (.iconst 4, 1) := by decide +kernel
theorem dL_due_307 : decode cL_due 307 = .ok (.iaload, 1) := by decide +kernel
theorem dL_due_308 : decode cL_due 308 = .ok (.bipush 10, 2) := by decide +kernel
theorem dL_due_310 : decode cL_due 310 = .ok (.if_icmp .ne 6, 3) := by decide +kernel
theorem dL_due_313 : decode cL_due 313 = .ok (.bipush (-103), 2) := by decide +kernel
theorem dL_due_315 : decode cL_due 315 = .ok (.ireturn, 1) := by decide +kernel
theorem dL_due_316 : decode cL_due 316 = .ok (.aload 7, 2) := by decide +kernel
theorem dL_due_318 : decode cL_due 318 = .ok (.aload_n 1, 1) := by decide +kernel
theorem dL_due_319 : decode cL_due 319 = .ok (.iconst 4, 1) := by decide +kernel
theorem dL_due_320 : decode cL_due 320 = .ok (.iaload, 1) := by decide +kernel
theorem dL_due_321 : decode cL_due 321 = .ok (.iload 9, 2) := by decide +kernel
theorem dL_due_323 : decode cL_due 323 = .ok (.bipush 8, 2) := by decide +kernel
theorem dL_due_325 : decode cL_due 325 = .ok (.aload_n 0, 1) := by decide +kernel
theorem dL_due_326 : decode cL_due 326 = .ok (.iconst 3, 1) := by decide +kernel
theorem dL_due_327 : decode cL_due 327 = .ok (.iaload, 1) := by decide +kernel
theorem dL_due_328 : decode cL_due 328 = .ok (.imul, 1) := by decide +kernel
theorem dL_due_329 : decode cL_due 329 = .ok (.iadd, 1) := by decide +kernel
theorem dL_due_330 : decode cL_due 330 = .ok (.bipush 64, 2) := by decide +kernel
theorem dL_due_332 : decode cL_due 332 = .ok (.iload 8, 2) := by decide +kernel
theorem dL_due_334 : decode cL_due 334 = .ok (.imul, 1) := by decide +kernel
theorem dL_due_335 : decode cL_due 335 = .ok (.iadd, 1) := by decide +kernel
theorem dL_due_336 : decode cL_due 336 = .ok (.iastore, 1) := by decide +kernel
theorem dL_due_337 : decode cL_due 337 = .ok (.aload_n 1, 1) := by decide +kernel
theorem dL_due_338 : decode cL_due 338 = .ok (.iconst 4, 1) := by decide +kernel
theorem dL_due_339 : decode cL_due 339 = .ok (.dup2, 1) := by decide +kernel
theorem dL_due_340 : decode cL_due 340 = .ok (.iaload, 1) := by decide +kernel
theorem dL_due_341 : decode cL_due 341 = .ok (.iconst 1, 1) := by decide +kernel
theorem dL_due_342 : decode cL_due 342 = .ok (.iadd, 1) := by decide +kernel
theorem dL_due_343 : decode cL_due 343 = .ok (.iastore, 1) := by decide +kernel
theorem dL_due_344 : decode cL_due 344 = .ok (.aload_n 1, 1) := by decide +kernel
theorem dL_due_345 : decode cL_due 345 = .ok (.iconst 4, 1) := by decide +kernel
theorem dL_due_346 : decode cL_due 346 = .ok (.iaload, 1) := by decide +kernel
theorem dL_due_347 : decode cL_due 347 = .ok (.iconst 1, 1) := by decide +kernel
theorem dL_due_348 : decode cL_due 348 = .ok (.isub, 1) := by decide +kernel
theorem dL_due_349 : decode cL_due 349 = .ok (.ireturn, 1) := by decide +kernel
theorem dL_due_350 : decode cL_due 350 = .ok (.iload 9, 2) := by decide +kernel
theorem dL_due_352 : decode cL_due 352 = .ok (.aload_n 1, 1) := by decide +kernel
theorem dL_due_353 : decode cL_due 353 = .ok (.iconst 4, 1) := by decide +kernel
theorem dL_due_354 : decode cL_due 354 = .ok (.iaload, 1) := by decide +kernel
theorem dL_due_355 : decode cL_due 355 = .ok (.if_icmp .lt 6, 3) := by decide +kernel
theorem dL_due_358 : decode cL_due 358 = .ok (.bipush (-101), 2) := by decide +kernel
theorem dL_due_360 : decode cL_due 360 = .ok (.ireturn, 1) := by decide +kernel
theorem dL_due_361 : decode cL_due 361 = .ok (.iload 9, 2) := by decide +kernel
theorem dL_due_363 : decode cL_due 363 = .ok (.iload 8, 2) := by decide +kernel
theorem dL_due_365 : decode cL_due 365 = .ok (.aload_n 1, 1) := by decide +kernel
theorem dL_due_366 : decode cL_due 366 = .ok (.aload_n 2, 1) := by decide +kernel
theorem dL_due_367 : decode cL_due 367 = .ok (.aload_n 3, 1) := by decide +kernel
theorem dL_due_368 : decode cL_due 368 = .ok (.aload 5, 2) := by decide +kernel
theorem dL_due_370 : decode cL_due 370 = .ok (.aload 6, 2) := by decide +kernel
theorem dL_due_372 : decode cL_due 372 = .ok (.aload 7, 2) := by decide +kernel
theorem dL_due_374 : decode cL_due 374 = .ok (.invokestatic 116, 3) := by decide +kernel
theorem dL_due_377 : decode cL_due 377 = .ok (.ifCond .eq 6, 3) := by decide +kernel
theorem dL_due_380 : decode cL_due 380 = .ok (.bipush (-103), 2) := by decide +kernel
theorem dL_due_382 : decode cL_due 382 = .ok (.ireturn, 1) := by decide +kernel
theorem dL_due_383 : decode cL_due 383 = .ok (.aload 7, 2) := by decide +kernel
theorem dL_due_385 : decode cL_due 385 = .ok (.iload 9, 2) := by decide +kernel
theorem dL_due_387 : decode cL_due 387 = .ok (.iaload, 1) := by decide +kernel
theorem dL_due_388 : decode cL_due 388 = .ok (.bipush 6, 2) := by decide +kernel
theorem dL_due_390 : decode cL_due 390 = .ok (.ishr, 1) := by decide +kernel
theorem dL_due_391 : decode cL_due 391 = .ok (.bipush 7, 2) := by decide +kernel
theorem dL_due_393 : decode cL_due 393 = .ok (.iand, 1) := by decide +kernel
theorem dL_due_394 : decode cL_due 394 = .ok (.iload 8, 2) := by decide +kernel
theorem dL_due_396 : decode cL_due 396 = .ok (.if_icmp .ne 7, 3) := by decide +kernel
theorem dL_due_399 : decode cL_due 399 = .ok (.iconst 0, 1) := by decide +kernel
theorem dL_due_400 : decode cL_due 400 = .ok (.goto 4, 3) := by decide +kernel
theorem dL_due_403 : decode cL_due 403 = .ok (.iconst 1, 1) := by decide +kernel
theorem dL_due_404 : decode cL_due 404 = .ok (.istore 11, 2) := by decide +kernel
theorem dL_due_406 : decode cL_due 406 = .ok (.aload 7, 2) := by decide +kernel
theorem dL_due_408 : decode cL_due 408 = .ok (.iload 9, 2) := by decide +kernel
theorem dL_due_410 : decode cL_due 410 = .ok (.dup2, 1) := by decide +kernel
theorem dL_due_411 : decode cL_due 411 = .ok (.iaload, 1) := by decide +kernel
theorem dL_due_412 : decode cL_due 412 = .ok (.sipush 512, 3) := by decide +kernel
theorem dL_due_415 : decode cL_due 415 = .ok (.aload_n 1, 1) := by decide +kernel
theorem dL_due_416 : decode cL_due 416 = .ok (.iconst 0, 1) := by decide +kernel
theorem dL_due_417 : decode cL_due 417 = .ok (.iaload, 1) := by decide +kernel
theorem dL_due_418 : decode cL_due 418 = .ok (.iconst 1, 1) := by decide +kernel
theorem dL_due_419 : decode cL_due 419 = .ok (.iadd, 1) := by decide +kernel
theorem dL_due_420 : decode cL_due 420 = .ok (.imul, 1) := by decide +kernel
theorem dL_due_421 : decode cL_due 421 = .ok (.ldc 80, 2) := by decide +kernel
theorem dL_due_423 : decode cL_due 423 = .ok (.iload 8, 2) := by decide +kernel
theorem dL_due_425 : decode cL_due 425 = .ok (.iconst 1, 1) := by decide +kernel
theorem dL_due_426 : decode cL_due 426 = .ok (.iadd, 1) := by decide +kernel
theorem dL_due_427 : decode cL_due 427 = .ok (.imul, 1) := by decide +kernel
theorem dL_due_428 : decode cL_due 428 = .ok (.iadd, 1) := by decide +kernel
theorem dL_due_429 : decode cL_due 429 = .ok (.iadd, 1) := by decide +kernel
theorem dL_due_430 : decode cL_due 430 = .ok (.iastore, 1) := by decide +kernel
theorem dL_due_431 : decode cL_due 431 = .ok (.aload_n 3, 1) := by decide +kernel
theorem dL_due_432 : decode cL_due 432 = .ok (.iload 8, 2) := by decide +kernel
theorem dL_due_434 : decode cL_due 434 = .ok (.aload_n 1, 1) := by decide +kernel
theorem dL_due_435 : decode cL_due 435 = .ok (.iconst 0, 1) := by decide +kernel
theorem dL_due_436 : decode cL_due 436 = .ok (.iaload, 1) := by decide +kernel
theorem dL_due_437 : decode cL_due 437 = .ok (.iastore, 1) := by decide +kernel
theorem dL_due_438 : decode cL_due 438 = .ok (.aload_n 1, 1) := by decide +kernel
theorem dL_due_439 : decode cL_due 439 = .ok (.iconst 5, 1) := by decide +kernel
theorem dL_due_440 : decode cL_due 440 = .ok (.dup2, 1) := by decide +kernel
theorem dL_due_441 : decode cL_due 441 = .ok (.iaload, 1) := by decide +kernel
theorem dL_due_442 : decode cL_due 442 = .ok (.iload 11, 2) := by decide +kernel
theorem dL_due_444 : decode cL_due 444 = .ok (.iadd, 1) := by decide +kernel
theorem dL_due_445 : decode cL_due 445 = .ok (.iastore, 1) := by decide +kernel
theorem dL_due_446 : decode cL_due 446 = .ok (.iload 11, 2) := by decide +kernel
theorem dL_due_448 : decode cL_due 448 = .ok (.ireturn, 1) := by decide +kernel
theorem dL_isSo_0 : decode cL_isSo 0 = .ok (.iconst 0, 1) := by decide +kernel
theorem dL_isSo_1 : decode cL_isSo 1 = .ok (.istore 9, 2) := by decide +kernel
theorem dL_isSo_3 : decode cL_isSo 3 = .ok (.iconst 0, 1) := by decide +kernel
theorem dL_isSo_4 : decode cL_isSo 4 = .ok (.istore 10, 2) := by decide +kernel
theorem dL_isSo_6 : decode cL_isSo 6 = .ok (.iconst 0, 1) := by decide +kernel
theorem dL_isSo_7 : decode cL_isSo 7 = .ok (.istore 11, 2) := by decide +kernel
theorem dL_isSo_9 : decode cL_isSo 9 = .ok (.iload 11, 2) := by decide +kernel
theorem dL_isSo_11 : decode cL_isSo 11 = .ok (.aload_n 2, 1) := by decide +kernel
theorem dL_isSo_12 : decode cL_isSo 12 = .ok (.iconst 4, 1) := by decide +kernel
theorem dL_isSo_13 : decode cL_isSo 13 = .ok (.iaload, 1) := by decide +kernel
theorem dL_isSo_14 : decode cL_isSo 14 = .ok (.if_icmp .ge 237, 3) := by decide +kernel
theorem dL_isSo_17 : decode cL_isSo 17 = .ok (.iconst 0, 1) := by decide +kernel
theorem dL_isSo_18 : decode cL_isSo 18 = .ok (.istore 12, 2) := by decide +kernel
theorem dL_isSo_20 : decode cL_isSo 20 = .ok (.iconst 0, 1) := by decide +kernel
theorem dL_isSo_21 : decode cL_isSo 21 = .ok (.istore 13, 2) := by decide +kernel
theorem dL_isSo_23 : decode cL_isSo 23 = .ok (.iload 13, 2) := by decide +kernel
theorem dL_isSo_25 : decode cL_isSo 25 = .ok (.bipush 8, 2) := by decide +kernel
theorem dL_isSo_27 : decode cL_isSo 27 = .ok (.if_icmp .ge 61, 3) := by decide +kernel
theorem dL_isSo_30 : decode cL_isSo 30 = .ok (.iload 11, 2) := by decide +kernel
theorem dL_isSo_32 : decode cL_isSo 32 = .ok (.iload 13, 2) := by decide +kernel
theorem dL_isSo_34 : decode cL_isSo 34 = .ok (.aload_n 2, 1) := by decide +kernel
theorem dL_isSo_35 : decode cL_isSo 35 = .ok (.aload_n 3, 1) := by decide +kernel
theorem dL_isSo_36 : decode cL_isSo 36 = .ok (.aload 4, 2) := by decide +kernel
theorem dL_isSo_38 : decode cL_isSo 38 = .ok (.aload 6, 2) := by decide +kernel
theorem dL_isSo_40 : decode cL_isSo 40 = .ok (.aload 7, 2) := by decide +kernel
theorem dL_isSo_42 : decode cL_isSo 42 = .ok (.aload 8, 2) := by decide +kernel
theorem dL_isSo_44 : decode cL_isSo 44 = .ok (.invokestatic 116, 3) := by decide +kernel
theorem dL_isSo_47 : decode cL_isSo 47 = .ok (.istore 14, 2) := by decide +kernel
theorem dL_isSo_49 : decode cL_isSo 49 = .ok (.iload 12, 2) := by decide +kernel
theorem dL_isSo_51 : decode cL_isSo 51 = .ok (.iload 14, 2) := by decide +kernel
theorem dL_isSo_53 : decode cL_isSo 53 = .ok (.ifCond .ne 10, 3) := by decide +kernel
theorem dL_isSo_56 : decode cL_isSo 56 = .ok (.iconst 1, 1) := by decide +kernel
theorem dL_isSo_57 : decode cL_isSo 57 = .ok (.iload 13, 2) := by decide +kernel
theorem dL_isSo_59 : decode cL_isSo 59 = .ok (.ishl, 1) := by decide +kernel
theorem dL_isSo_60 : decode cL_isSo 60 = .ok (.goto 4, 3) := by decide +kernel
theorem dL_isSo_63 : decode cL_isSo 63 = .ok (.iconst 0, 1) := by decide +kernel
theorem dL_isSo_64 : decode cL_isSo 64 = .ok (.ior, 1) := by decide +kernel
theorem dL_isSo_65 : decode cL_isSo 65 = .ok (.istore 12, 2) := by decide +kernel
theorem dL_isSo_67 : decode cL_isSo 67 = .ok (.aload_n 0, 1) := by decide +kernel
theorem dL_isSo_68 : decode cL_isSo 68 = .ok (.iload 11, 2) := by decide +kernel
theorem dL_isSo_70 : decode cL_isSo 70 = .ok (.iload 13, 2) := by decide +kernel
theorem dL_isSo_72 : decode cL_isSo 72 = .ok (.invokestatic 120, 3) := by decide +kernel
theorem dL_isSo_75 : decode cL_isSo 75 = .ok (.iload 14, 2) := by decide +kernel
theorem dL_isSo_77 : decode cL_isSo 77 = .ok (.if_icmp .eq 5, 3) := by decide +kernel
theorem dL_isSo_80 : decode cL_isSo 80 = .ok (.iconst 0, 1) := by decide +kernel
theorem dL_isSo_81 : decode cL_isSo 81 = .ok (.ireturn, 1) := by decide +kernel
theorem dL_isSo_82 : decode cL_isSo 82 = .ok (.iinc 13 1, 3) := by decide +kernel
theorem dL_isSo_85 : decode cL_isSo 85 = .ok (.goto (-62), 3) := by decide +kernel
theorem dL_isSo_88 : decode cL_isSo 88 = .ok (.iload 9, 2) := by decide +kernel
theorem dL_isSo_90 : decode cL_isSo 90 = .ok (.aload 8, 2) := by decide +kernel
theorem dL_isSo_92 : decode cL_isSo 92 = .ok (.iload 11, 2) := by decide +kernel
theorem dL_isSo_94 : decode cL_isSo 94 = .ok (.iaload, 1) := by decide +kernel
theorem dL_isSo_95 : decode cL_isSo 95 = .ok (.bipush 9, 2) := by decide +kernel
theorem dL_isSo_97 : decode cL_isSo 97 = .ok (.ishr, 1) := by decide +kernel
theorem dL_isSo_98 : decode cL_isSo 98 = .ok (.sipush 1023, 3) := by decide +kernel
theorem dL_isSo_101 : decode cL_isSo 101 = .ok (.iand, 1) := by decide +kernel
theorem dL_isSo_102 : decode cL_isSo 102 = .ok (.ifCond .le 7, 3) := by decide +kernel
theorem dL_isSo_105 : decode cL_isSo 105 = .ok (.iconst 1, 1) := by decide +kernel
theorem dL_isSo_106 : decode cL_isSo 106 = .ok (.goto 4, 3) := by decide +kernel
theorem dL_isSo_109 : decode cL_isSo 109 = .ok (.iconst 0, 1) := by decide +kernel
theorem dL_isSo_110 : decode cL_isSo 110 = .ok (.iadd, 1) := by decide +kernel
theorem dL_isSo_111 : decode cL_isSo 111 = .ok (.istore 9, 2) := by decide +kernel
theorem dL_isSo_113 : decode cL_isSo 113 = .ok (.iload 10, 2) := by decide +kernel
theorem dL_isSo_115 : decode cL_isSo 115 = .ok (.iload 12, 2) := by decide +kernel
theorem dL_isSo_117 : decode cL_isSo 117 = .ok (.ifCond .ne 7, 3) := by decide +kernel
theorem dL_isSo_120 : decode cL_isSo 120 = .ok (.iconst 0, 1) := by decide +kernel
theorem dL_isSo_121 : decode cL_isSo 121 = .ok (.goto 4, 3) := by decide +kernel
theorem dL_isSo_124 : decode cL_isSo 124 = .ok (.iconst 1, 1) := by decide +kernel
theorem dL_isSo_125 : decode cL_isSo 125 = .ok (.iadd, 1) := by decide +kernel
theorem dL_isSo_126 : decode cL_isSo 126 = .ok (.istore 10, 2) := by decide +kernel
theorem dL_isSo_128 : decode cL_isSo 128 = .ok (.aload_n 0, 1) := by decide +kernel
theorem dL_isSo_129 : decode cL_isSo 129 = .ok (.iload 11, 2) := by decide +kernel
theorem dL_isSo_131 : decode cL_isSo 131 = .ok (.iconst 0, 1) := by decide +kernel
theorem dL_isSo_132 : decode cL_isSo 132 = .ok (.invokestatic 95, 3) := by decide +kernel
theorem dL_isSo_135 : decode cL_isSo 135 = .ok (.aload 8, 2) := by decide +kernel
theorem dL_isSo_137 : decode cL_isSo 137 = .ok (.iload 11, 2) := by decide +kernel
theorem dL_isSo_139 : decode cL_isSo 139 = .ok (.iaload, 1) := by decide +kernel
theorem dL_isSo_140 : decode cL_isSo 140 = .ok (.bipush 7, 2) := by decide +kernel
theorem dL_isSo_142 : decode cL_isSo 142 = .ok (.iand, 1) := by decide +kernel
theorem dL_isSo_143 : decode cL_isSo 143 = .ok (.if_icmp .ne 100, 3) := by decide +kernel
theorem dL_isSo_146 : decode cL_isSo 146 = .ok (.aload_n 0, 1) := by decide +kernel
theorem dL_isSo_147 : decode cL_isSo 147 = .ok (.iload 11, 2) := by decide +kernel
theorem dL_isSo_149 : decode cL_isSo 149 = .ok (.iconst 1, 1) := by decide +kernel
theorem dL_isSo_150 : decode cL_isSo 150 = .ok (.invokestatic 95, 3) := by decide +kernel
theorem dL_isSo_153 : decode cL_isSo 153 = .ok (.aload 8, 2) := by decide +kernel
theorem dL_isSo_155 : decode cL_isSo 155 = .ok (.iload 11, 2) := by decide +kernel
theorem dL_isSo_157 : decode cL_isSo 157 = .ok (.iaload, 1) := by decide +kernel
theorem dL_isSo_158 : decode cL_isSo 158 = .ok (.iconst 3, 1) := by decide +kernel
theorem dL_isSo_159 : decode cL_isSo 159 = .ok (.ishr, 1) := by decide +kernel
theorem dL_isSo_160 : decode cL_isSo 160 = .ok (.bipush 7, 2) := by decide +kernel
theorem dL_isSo_162 : decode cL_isSo 162 = .ok (.iand, 1) := by decide +kernel
theorem dL_isSo_163 : decode cL_isSo 163 = .ok (.if_icmp .ne 80, 3) := by decide +kernel
theorem dL_isSo_166 : decode cL_isSo 166 = .ok (.aload_n 0, 1) := by decide +kernel
theorem dL_isSo_167 : decode cL_isSo 167 = .ok (.iload 11, 2) := by decide +kernel
theorem dL_isSo_169 : decode cL_isSo 169 = .ok (.iconst 2, 1) := by decide +kernel
theorem dL_isSo_170 : decode cL_isSo 170 = .ok (.invokestatic 95, 3) := by decide +kernel
theorem dL_isSo_173 : decode cL_isSo 173 = .ok (.aload 8, 2) := by decide +kernel
theorem dL_isSo_175 : decode cL_isSo 175 = .ok (.iload 11, 2) := by decide +kernel
theorem dL_isSo_177 : decode cL_isSo 177 = .ok (.iaload, 1) := by decide +kernel
theorem dL_isSo_178 : decode cL_isSo 178 = .ok (.bipush 6, 2) := by decide +kernel
theorem dL_isSo_180 : decode cL_isSo 180 = .ok (.ishr, 1) := by decide +kernel
theorem dL_isSo_181 : decode cL_isSo 181 = .ok (.bipush 7, 2) := by decide +kernel
theorem dL_isSo_183 : decode cL_isSo 183 = .ok (.iand, 1) := by decide +kernel
theorem dL_isSo_184 : decode cL_isSo 184 = .ok (.if_icmp .ne 59, 3) := by decide +kernel
theorem dL_isSo_187 : decode cL_isSo 187 = .ok (.aload_n 0, 1) := by decide +kernel
theorem dL_isSo_188 : decode cL_isSo 188 = .ok (.iload 11, 2) := by decide +kernel
theorem dL_isSo_190 : decode cL_isSo 190 = .ok (.iconst 3, 1) := by decide +kernel
theorem dL_isSo_191 : decode cL_isSo 191 = .ok (.invokestatic 95, 3) := by decide +kernel
theorem dL_isSo_194 : decode cL_isSo 194 = .ok (.aload 8, 2) := by decide +kernel
theorem dL_isSo_196 : decode cL_isSo 196 = .ok (.iload 11, 2) := by decide +kernel
theorem dL_isSo_198 : decode cL_isSo 198 = .ok (.iaload, 1) := by decide +kernel
theorem dL_isSo_199 : decode cL_isSo 199 = .ok (.bipush 9, 2) := by decide +kernel
theorem dL_isSo_201 : decode cL_isSo 201 = .ok (.ishr, 1) := by decide +kernel
theorem dL_isSo_202 : decode cL_isSo 202 = .ok (.sipush 1023, 3) := by decide +kernel
theorem dL_isSo_205 : decode cL_isSo 205 = .ok (.iand, 1) := by decide +kernel
theorem dL_isSo_206 : decode cL_isSo 206 = .ok (.iconst 1, 1) := by decide +kernel
theorem dL_isSo_207 : decode cL_isSo 207 = .ok (.isub, 1) := by decide +kernel
theorem dL_isSo_208 : decode cL_isSo 208 = .ok (.if_icmp .ne 35, 3) := by decide +kernel
theorem dL_isSo_211 : decode cL_isSo 211 = .ok (.aload_n 0, 1) := by decide +kernel
theorem dL_isSo_212 : decode cL_isSo 212 = .ok (.iload 11, 2) := by decide +kernel
theorem dL_isSo_214 : decode cL_isSo 214 = .ok (.iconst 4, 1) := by decide +kernel
theorem dL_isSo_215 : decode cL_isSo 215 = .ok (.invokestatic 95, 3) := by decide +kernel
theorem dL_isSo_218 : decode cL_isSo 218 = .ok (.aload 8, 2) := by decide +kernel
theorem dL_isSo_220 : decode cL_isSo 220 = .ok (.iload 11, 2) := by decide +kernel
theorem dL_isSo_222 : decode cL_isSo 222 = .ok (.iaload, 1) := by decide +kernel
theorem dL_isSo_223 : decode cL_isSo 223 = .ok (.bipush 19, 2) := by decide +kernel
theorem dL_isSo_225 : decode cL_isSo 225 = .ok (.ishr, 1) := by decide +kernel
theorem dL_isSo_226 : decode cL_isSo 226 = .ok (.iconst 1, 1) := by decide +kernel
theorem dL_isSo_227 : decode cL_isSo 227 = .ok (.isub, 1) := by decide +kernel
theorem dL_isSo_228 : decode cL_isSo 228 = .ok (.if_icmp .ne 15, 3) := by decide +kernel
theorem dL_isSo_231 : decode cL_isSo 231 = .ok (.aload_n 0, 1) := by decide +kernel
theorem dL_isSo_232 : decode cL_isSo 232 = .ok (.iload 11, 2) := by decide +kernel
theorem dL_isSo_234 : decode cL_isSo 234 = .ok (.iconst 5, 1) := by decide +kernel
theorem dL_isSo_235 : decode cL_isSo 235 = .ok (.invokestatic 95, 3) := by decide +kernel
theorem dL_isSo_238 : decode cL_isSo 238 = .ok (.iload 12, 2) := by decide +kernel
theorem dL_isSo_240 : decode cL_isSo 240 = .ok (.if_icmp .eq 5, 3) := by decide +kernel
theorem dL_isSo_243 : decode cL_isSo 243 = .ok (.iconst 0, 1) := by decide +kernel
theorem dL_isSo_244 : decode cL_isSo 244 = .ok (.ireturn, 1) := by decide +kernel
theorem dL_isSo_245 : decode cL_isSo 245 = .ok (.iinc 11 1, 3) := by decide +kernel
theorem dL_isSo_248 : decode cL_isSo 248 = .ok (.goto (-239), 3) := by decide +kernel
theorem dL_isSo_251 : decode cL_isSo 251 = .ok (.iload_n 1, 1) := by decide +kernel
theorem dL_isSo_252 : decode cL_isSo 252 = .ok (.bipush 8, 2) := by decide +kernel
theorem dL_isSo_254 : decode cL_isSo 254 = .ok (.invokestatic 122, 3) := by decide +kernel
theorem dL_isSo_257 : decode cL_isSo 257 = .ok (.istore 11, 2) := by decide +kernel
theorem dL_isSo_259 : decode cL_isSo 259 = .ok (.iload_n 1, 1) := by decide +kernel
theorem dL_isSo_260 : decode cL_isSo 260 = .ok (.iconst 3, 1) := by decide +kernel
theorem dL_isSo_261 : decode cL_isSo 261 = .ok (.ishr, 1) := by decide +kernel
theorem dL_isSo_262 : decode cL_isSo 262 = .ok (.bipush 6, 2) := by decide +kernel
theorem dL_isSo_264 : decode cL_isSo 264 = .ok (.invokestatic 122, 3) := by decide +kernel
theorem dL_isSo_267 : decode cL_isSo 267 = .ok (.istore 12, 2) := by decide +kernel
theorem dL_isSo_269 : decode cL_isSo 269 = .ok (.iconst 1, 1) := by decide +kernel
theorem dL_isSo_270 : decode cL_isSo 270 = .ok (.iload_n 1, 1) := by decide +kernel
theorem dL_isSo_271 : decode cL_isSo 271 = .ok (.bipush 6, 2) := by decide +kernel
theorem dL_isSo_273 : decode cL_isSo 273 = .ok (.ishr, 1) := by decide +kernel
theorem dL_isSo_274 : decode cL_isSo 274 = .ok (.iconst 5, 1) := by decide +kernel
theorem dL_isSo_275 : decode cL_isSo 275 = .ok (.invokestatic 122, 3) := by decide +kernel
theorem dL_isSo_278 : decode cL_isSo 278 = .ok (.iadd, 1) := by decide +kernel
theorem dL_isSo_279 : decode cL_isSo 279 = .ok (.istore 13, 2) := by decide +kernel
theorem dL_isSo_281 : decode cL_isSo 281 = .ok (.iconst 0, 1) := by decide +kernel
theorem dL_isSo_282 : decode cL_isSo 282 = .ok (.istore 14, 2) := by decide +kernel
theorem dL_isSo_284 : decode cL_isSo 284 = .ok (.iconst 0, 1) := by decide +kernel
theorem dL_isSo_285 : decode cL_isSo 285 = .ok (.istore 15, 2) := by decide +kernel
theorem dL_isSo_287 : decode cL_isSo 287 = .ok (.iload 15, 2) := by decide +kernel
theorem dL_isSo_289 : decode cL_isSo 289 = .ok (.bipush 6, 2) := by decide +kernel
theorem dL_isSo_291 : decode cL_isSo 291 = .ok (.if_icmp .ge 39, 3) := by decide +kernel
theorem dL_isSo_294 : decode cL_isSo 294 = .ok (.iload 14, 2) := by decide +kernel
theorem dL_isSo_296 : decode cL_isSo 296 = .ok (.iload 11, 2) := by decide +kernel
theorem dL_isSo_298 : decode cL_isSo 298 = .ok (.aload_n 2, 1) := by decide +kernel
theorem dL_isSo_299 : decode cL_isSo 299 = .ok (.aload 7, 2) := by decide +kernel
theorem dL_isSo_301 : decode cL_isSo 301 = .ok (.invokestatic 66, 3) := by decide +kernel
theorem dL_isSo_304 : decode cL_isSo 304 = .ok (.iload 15, 2) := by decide +kernel
theorem dL_isSo_306 : decode cL_isSo 306 = .ok (.invokestatic 70, 3) := by decide +kernel
theorem dL_isSo_309 : decode cL_isSo 309 = .ok (.iand, 1) := by decide +kernel
theorem dL_isSo_310 : decode cL_isSo 310 = .ok (.ifCond .ne 7, 3) := by decide +kernel
theorem dL_isSo_313 : decode cL_isSo 313 = .ok (.iconst 0, 1) := by decide +kernel
theorem dL_isSo_314 : decode cL_isSo 314 = .ok (.goto 7, 3) := by decide +kernel
theorem dL_isSo_317 : decode cL_isSo 317 = .ok (.iconst 1, 1) := by decide +kernel
theorem dL_isSo_318 : decode cL_isSo 318 = .ok (.iload 15, 2) := by decide +kernel
theorem dL_isSo_320 : decode cL_isSo 320 = .ok (.ishl, 1) := by decide +kernel
theorem dL_isSo_321 : decode cL_isSo 321 = .ok (.ior, 1) := by decide +kernel
theorem dL_isSo_322 : decode cL_isSo 322 = .ok (.istore 14, 2) := by decide +kernel
theorem dL_isSo_324 : decode cL_isSo 324 = .ok (.iinc 15 1, 3) := by decide +kernel
theorem dL_isSo_327 : decode cL_isSo 327 = .ok (.goto (-40), 3) := by decide +kernel
theorem dL_isSo_330 : decode cL_isSo 330 = .ok (.aload_n 0, 1) := by decide +kernel
theorem dL_isSo_331 : decode cL_isSo 331 = .ok (.iload 11, 2) := by decide +kernel
theorem dL_isSo_333 : decode cL_isSo 333 = .ok (.iconst 0, 1) := by decide +kernel
theorem dL_isSo_334 : decode cL_isSo 334 = .ok (.invokestatic 92, 3) := by decide +kernel
theorem dL_isSo_337 : decode cL_isSo 337 = .ok (.aload_n 3, 1) := by decide +kernel
theorem dL_isSo_338 : decode cL_isSo 338 = .ok (.iload 11, 2) := by decide +kernel
theorem dL_isSo_340 : decode cL_isSo 340 = .ok (.iaload, 1) := by decide +kernel
theorem dL_isSo_341 : decode cL_isSo 341 = .ok (.if_icmp .ne 103, 3) := by decide +kernel
theorem dL_isSo_344 : decode cL_isSo 344 = .ok (.aload_n 0, 1) := by decide +kernel
theorem dL_isSo_345 : decode cL_isSo 345 = .ok (.iload 11, 2) := by decide +kernel
theorem dL_isSo_347 : decode cL_isSo 347 = .ok (.iconst 1, 1) := by decide +kernel
theorem dL_isSo_348 : decode cL_isSo 348 = .ok (.invokestatic 92, 3) := by decide +kernel
theorem dL_isSo_351 : decode cL_isSo 351 = .ok (.iload 11, 2) := by decide +kernel
theorem dL_isSo_353 : decode cL_isSo 353 = .ok (.aload_n 2, 1) := by decide +kernel
theorem dL_isSo_354 : decode cL_isSo 354 = .ok (.aload 7, 2) := by decide +kernel
theorem dL_isSo_356 : decode cL_isSo 356 = .ok (.invokestatic 66, 3) := by decide +kernel
theorem dL_isSo_359 : decode cL_isSo 359 = .ok (.if_icmp .ne 85, 3) := by decide +kernel
theorem dL_isSo_362 : decode cL_isSo 362 = .ok (.aload_n 0, 1) := by decide +kernel
theorem dL_isSo_363 : decode cL_isSo 363 = .ok (.iload 11, 2) := by decide +kernel
theorem dL_isSo_365 : decode cL_isSo 365 = .ok (.iconst 3, 1) := by decide +kernel
theorem dL_isSo_366 : decode cL_isSo 366 = .ok (.invokestatic 92, 3) := by decide +kernel
theorem dL_isSo_369 : decode cL_isSo 369 = .ok (.aload 5, 2) := by decide +kernel
theorem dL_isSo_371 : decode cL_isSo 371 = .ok (.iload 11, 2) := by decide +kernel
theorem dL_isSo_373 : decode cL_isSo 373 = .ok (.iaload, 1) := by decide +kernel
theorem dL_isSo_374 : decode cL_isSo 374 = .ok (.if_icmp .ne 70, 3) := by decide +kernel
theorem dL_isSo_377 : decode cL_isSo 377 = .ok (.aload_n 0, 1) := by decide +kernel
theorem dL_isSo_378 : decode cL_isSo 378 = .ok (.iload 11, 2) := by decide +kernel
theorem dL_isSo_380 : decode cL_isSo 380 = .ok (.iconst 4, 1) := by decide +kernel
theorem dL_isSo_381 : decode cL_isSo 381 = .ok (.invokestatic 92, 3) := by decide +kernel
theorem dL_isSo_384 : decode cL_isSo 384 = .ok (.aload 4, 2) := by decide +kernel
theorem dL_isSo_386 : decode cL_isSo 386 = .ok (.iload 11, 2) := by decide +kernel
theorem dL_isSo_388 : decode cL_isSo 388 = .ok (.iaload, 1) := by decide +kernel
theorem dL_isSo_389 : decode cL_isSo 389 = .ok (.if_icmp .ne 55, 3) := by decide +kernel
theorem dL_isSo_392 : decode cL_isSo 392 = .ok (.aload_n 0, 1) := by decide +kernel
theorem dL_isSo_393 : decode cL_isSo 393 = .ok (.iload 11, 2) := by decide +kernel
theorem dL_isSo_395 : decode cL_isSo 395 = .ok (.bipush 6, 2) := by decide +kernel
theorem dL_isSo_397 : decode cL_isSo 397 = .ok (.invokestatic 92, 3) := by decide +kernel
theorem dL_isSo_400 : decode cL_isSo 400 = .ok (.iload 14, 2) := by decide +kernel
theorem dL_isSo_402 : decode cL_isSo 402 = .ok (.if_icmp .ne 42, 3) := by decide +kernel
theorem dL_isSo_405 : decode cL_isSo 405 = .ok (.aload_n 0, 1) := by decide +kernel
theorem dL_isSo_406 : decode cL_isSo 406 = .ok (.iload 11, 2) := by decide +kernel
theorem dL_isSo_408 : decode cL_isSo 408 = .ok (.iconst 2, 1) := by decide +kernel
theorem dL_isSo_409 : decode cL_isSo 409 = .ok (.invokestatic 92, 3) := by decide +kernel
theorem dL_isSo_412 : decode cL_isSo 412 = .ok (.iconst (-1), 1) := by decide +kernel
theorem dL_isSo_413 : decode cL_isSo 413 = .ok (.if_icmp .ne 7, 3) := by decide +kernel
theorem dL_isSo_416 : decode cL_isSo 416 = .ok (.iconst 1, 1) := by decide +kernel
theorem dL_isSo_417 : decode cL_isSo 417 = .ok (.goto 4, 3) := by decide +kernel
theorem dL_isSo_420 : decode cL_isSo 420 = .ok (.iconst 0, 1) := by decide +kernel
theorem dL_isSo_421 : decode cL_isSo 421 = .ok (.iload 11, 2) := by decide +kernel
theorem dL_isSo_423 : decode cL_isSo 423 = .ok (.aload_n 2, 1) := by decide +kernel
theorem dL_isSo_424 : decode cL_isSo 424 = .ok (.aload 7, 2) := by decide +kernel
theorem dL_isSo_426 : decode cL_isSo 426 = .ok (.invokestatic 66, 3) := by decide +kernel
theorem dL_isSo_429 : decode cL_isSo 429 = .ok (.ifCond .ne 7, 3) := by decide +kernel
theorem dL_isSo_432 : decode cL_isSo 432 = .ok (.iconst 1, 1) := by decide +kernel
theorem dL_isSo_433 : decode cL_isSo 433 = .ok (.goto 4, 3) := by decide +kernel
theorem dL_isSo_436 : decode cL_isSo 436 = .ok (.iconst 0, 1) := by decide +kernel
theorem dL_isSo_437 : decode cL_isSo 437 = .ok (.if_icmp .ne 7, 3) := by decide +kernel
theorem dL_isSo_440 : decode cL_isSo 440 = .ok (.iconst 1, 1) := by decide +kernel
theorem dL_isSo_441 : decode cL_isSo 441 = .ok (.goto 4, 3) := by decide +kernel
theorem dL_isSo_444 : decode cL_isSo 444 = .ok (.iconst 0, 1) := by decide +kernel
theorem dL_isSo_445 : decode cL_isSo 445 = .ok (.istore 15, 2) := by decide +kernel
theorem dL_isSo_447 : decode cL_isSo 447 = .ok (.iload 15, 2) := by decide +kernel
theorem dL_isSo_449 : decode cL_isSo 449 = .ok (.ifCond .eq 108, 3) := by decide +kernel
theorem dL_isSo_452 : decode cL_isSo 452 = .ok (.aload_n 0, 1) := by decide +kernel
theorem dL_isSo_453 : decode cL_isSo 453 = .ok (.iload 11, 2) := by decide +kernel
theorem dL_isSo_455 : decode cL_isSo 455 = .ok (.iload 12, 2) := by decide +kernel
theorem dL_isSo_457 : decode cL_isSo 457 = .ok (.iload 13, 2) := by decide +kernel
theorem dL_isSo_459 : decode cL_isSo 459 = .ok (.invokestatic 125, 3) := by decide +kernel
theorem dL_isSo_462 : decode cL_isSo 462 = .ok (.iload 11, 2) := by decide +kernel
theorem dL_isSo_464 : decode cL_isSo 464 = .ok (.iload 12, 2) := by decide +kernel
theorem dL_isSo_466 : decode cL_isSo 466 = .ok (.iload 13, 2) := by decide +kernel
theorem dL_isSo_468 : decode cL_isSo 468 = .ok (.aload_n 2, 1) := by decide +kernel
theorem dL_isSo_469 : decode cL_isSo 469 = .ok (.aload 6, 2) := by decide +kernel
theorem dL_isSo_471 : decode cL_isSo 471 = .ok (.invokestatic 73, 3) := by decide +kernel
theorem dL_isSo_474 : decode cL_isSo 474 = .ok (.if_icmp .ne 83, 3) := by decide +kernel
theorem dL_isSo_477 : decode cL_isSo 477 = .ok (.aload_n 0, 1) := by decide +kernel
theorem dL_isSo_478 : decode cL_isSo 478 = .ok (.iconst 0, 1) := by decide +kernel
theorem dL_isSo_479 : decode cL_isSo 479 = .ok (.invokestatic 89, 3) := by decide +kernel
theorem dL_isSo_482 : decode cL_isSo 482 = .ok (.aload_n 2, 1) := by decide +kernel
theorem dL_isSo_483 : decode cL_isSo 483 = .ok (.iconst 0, 1) := by decide +kernel
theorem dL_isSo_484 : decode cL_isSo 484 = .ok (.iaload, 1) := by decide +kernel
theorem dL_isSo_485 : decode cL_isSo 485 = .ok (.if_icmp .ne 72, 3) := by decide +kernel
theorem dL_isSo_488 : decode cL_isSo 488 = .ok (.aload_n 0, 1) := by decide +kernel
theorem dL_isSo_489 : decode cL_isSo 489 = .ok (.iconst 1, 1) := by decide +kernel
theorem dL_isSo_490 : decode cL_isSo 490 = .ok (.invokestatic 89, 3) := by decide +kernel
theorem dL_isSo_493 : decode cL_isSo 493 = .ok (.aload_n 2, 1) := by decide +kernel
theorem dL_isSo_494 : decode cL_isSo 494 = .ok (.iconst 1, 1) := by decide +kernel
theorem dL_isSo_495 : decode cL_isSo 495 = .ok (.iaload, 1) := by decide +kernel
theorem dL_isSo_496 : decode cL_isSo 496 = .ok (.if_icmp .ne 61, 3) := by decide +kernel
theorem dL_isSo_499 : decode cL_isSo 499 = .ok (.aload_n 2, 1) := by decide +kernel
theorem dL_isSo_500 : decode cL_isSo 500 = .ok (.iconst 1, 1) := by decide +kernel
theorem dL_isSo_501 : decode cL_isSo 501 = .ok (.iaload, 1) := by decide +kernel
theorem dL_isSo_502 : decode cL_isSo 502 = .ok (.ifCond .lt 55, 3) := by decide +kernel
theorem dL_isSo_505 : decode cL_isSo 505 = .ok (.aload_n 0, 1) := by decide +kernel
theorem dL_isSo_506 : decode cL_isSo 506 = .ok (.iconst 2, 1) := by decide +kernel
theorem dL_isSo_507 : decode cL_isSo 507 = .ok (.invokestatic 89, 3) := by decide +kernel
theorem dL_isSo_510 : decode cL_isSo 510 = .ok (.aload_n 2, 1) := by decide +kernel
theorem dL_isSo_511 : decode cL_isSo 511 = .ok (.iconst 0, 1) := by decide +kernel
theorem dL_isSo_512 : decode cL_isSo 512 = .ok (.iaload, 1) := by decide +kernel
theorem dL_isSo_513 : decode cL_isSo 513 = .ok (.aload_n 2, 1) := by decide +kernel
theorem dL_isSo_514 : decode cL_isSo 514 = .ok (.iconst 3, 1) := by decide +kernel
theorem dL_isSo_515 : decode cL_isSo 515 = .ok (.iaload, 1) := by decide +kernel
theorem dL_isSo_516 : decode cL_isSo 516 = .ok (.if_icmp .gt 9, 3) := by decide +kernel
theorem dL_isSo_519 : decode cL_isSo 519 = .ok (.aload_n 2, 1) := by decide +kernel
theorem dL_isSo_520 : decode cL_isSo 520 = .ok (.iconst 2, 1) := by decide +kernel
theorem dL_isSo_521 : decode cL_isSo 521 = .ok (.iaload, 1) := by decide +kernel
theorem dL_isSo_522 : decode cL_isSo 522 = .ok (.goto 4, 3) := by decide +kernel
theorem dL_isSo_525 : decode cL_isSo 525 = .ok (.iconst 0, 1) := by decide +kernel
theorem dL_isSo_526 : decode cL_isSo 526 = .ok (.if_icmp .ne 31, 3) := by decide +kernel
theorem dL_isSo_529 : decode cL_isSo 529 = .ok (.aload_n 0, 1) := by decide +kernel
theorem dL_isSo_530 : decode cL_isSo 530 = .ok (.iconst 3, 1) := by decide +kernel
theorem dL_isSo_531 : decode cL_isSo 531 = .ok (.invokestatic 89, 3) := by decide +kernel
theorem dL_isSo_534 : decode cL_isSo 534 = .ok (.aload_n 2, 1) := by decide +kernel
theorem dL_isSo_535 : decode cL_isSo 535 = .ok (.iconst 0, 1) := by decide +kernel
theorem dL_isSo_536 : decode cL_isSo 536 = .ok (.iaload, 1) := by decide +kernel
theorem dL_isSo_537 : decode cL_isSo 537 = .ok (.aload_n 2, 1) := by decide +kernel
theorem dL_isSo_538 : decode cL_isSo 538 = .ok (.iconst 3, 1) := by decide +kernel
theorem dL_isSo_539 : decode cL_isSo 539 = .ok (.iaload, 1) := by decide +kernel
theorem dL_isSo_540 : decode cL_isSo 540 = .ok (.if_icmp .gt 9, 3) := by decide +kernel
theorem dL_isSo_543 : decode cL_isSo 543 = .ok (.aload_n 2, 1) := by decide +kernel
theorem dL_isSo_544 : decode cL_isSo 544 = .ok (.iconst 3, 1) := by decide +kernel
theorem dL_isSo_545 : decode cL_isSo 545 = .ok (.iaload, 1) := by decide +kernel
theorem dL_isSo_546 : decode cL_isSo 546 = .ok (.goto 4, 3) := by decide +kernel
theorem dL_isSo_549 : decode cL_isSo 549 = .ok (.iconst (-1), 1) := by decide +kernel
theorem dL_isSo_550 : decode cL_isSo 550 = .ok (.if_icmp .ne 7, 3) := by decide +kernel
theorem dL_isSo_553 : decode cL_isSo 553 = .ok (.iconst 1, 1) := by decide +kernel
theorem dL_isSo_554 : decode cL_isSo 554 = .ok (.goto 4, 3) := by decide +kernel
theorem dL_isSo_557 : decode cL_isSo 557 = .ok (.iconst 0, 1) := by decide +kernel
theorem dL_isSo_558 : decode cL_isSo 558 = .ok (.istore 15, 2) := by decide +kernel
theorem dL_isSo_560 : decode cL_isSo 560 = .ok (.iload 15, 2) := by decide +kernel
theorem dL_isSo_562 : decode cL_isSo 562 = .ok (.ifCond .eq 116, 3) := by decide +kernel
theorem dL_isSo_565 : decode cL_isSo 565 = .ok (.aload_n 0, 1) := by decide +kernel
theorem dL_isSo_566 : decode cL_isSo 566 = .ok (.iconst 4, 1) := by decide +kernel
theorem dL_isSo_567 : decode cL_isSo 567 = .ok (.invokestatic 89, 3) := by decide +kernel
theorem dL_isSo_570 : decode cL_isSo 570 = .ok (.aload_n 2, 1) := by decide +kernel
theorem dL_isSo_571 : decode cL_isSo 571 = .ok (.iconst 4, 1) := by decide +kernel
theorem dL_isSo_572 : decode cL_isSo 572 = .ok (.iaload, 1) := by decide +kernel
theorem dL_isSo_573 : decode cL_isSo 573 = .ok (.if_icmp .ne 105, 3) := by decide +kernel
theorem dL_isSo_576 : decode cL_isSo 576 = .ok (.aload_n 0, 1) := by decide +kernel
theorem dL_isSo_577 : decode cL_isSo 577 = .ok (.iconst 5, 1) := by decide +kernel
theorem dL_isSo_578 : decode cL_isSo 578 = .ok (.invokestatic 89, 3) := by decide +kernel
theorem dL_isSo_581 : decode cL_isSo 581 = .ok (.iload 9, 2) := by decide +kernel
theorem dL_isSo_583 : decode cL_isSo 583 = .ok (.if_icmp .ne 95, 3) := by decide +kernel
theorem dL_isSo_586 : decode cL_isSo 586 = .ok (.aload_n 0, 1) := by decide +kernel
theorem dL_isSo_587 : decode cL_isSo 587 = .ok (.bipush 6, 2) := by decide +kernel
theorem dL_isSo_589 : decode cL_isSo 589 = .ok (.invokestatic 89, 3) := by decide +kernel
theorem dL_isSo_592 : decode cL_isSo 592 = .ok (.aload_n 2, 1) := by decide +kernel
theorem dL_isSo_593 : decode cL_isSo 593 = .ok (.iconst 5, 1) := by decide +kernel
theorem dL_isSo_594 : decode cL_isSo 594 = .ok (.iaload, 1) := by decide +kernel
theorem dL_isSo_595 : decode cL_isSo 595 = .ok (.if_icmp .ne 83, 3) := by decide +kernel
theorem dL_isSo_598 : decode cL_isSo 598 = .ok (.aload_n 0, 1) := by decide +kernel
theorem dL_isSo_599 : decode cL_isSo 599 = .ok (.bipush 7, 2) := by decide +kernel
theorem dL_isSo_601 : decode cL_isSo 601 = .ok (.invokestatic 89, 3) := by decide +kernel
theorem dL_isSo_604 : decode cL_isSo 604 = .ok (.aload_n 2, 1) := by decide +kernel
theorem dL_isSo_605 : decode cL_isSo 605 = .ok (.bipush 6, 2) := by decide +kernel
theorem dL_isSo_607 : decode cL_isSo 607 = .ok (.iaload, 1) := by decide +kernel
theorem dL_isSo_608 : decode cL_isSo 608 = .ok (.if_icmp .ne 70, 3) := by decide +kernel
theorem dL_isSo_611 : decode cL_isSo 611 = .ok (.aload_n 0, 1) := by decide +kernel
theorem dL_isSo_612 : decode cL_isSo 612 = .ok (.bipush 8, 2) := by decide +kernel
theorem dL_isSo_614 : decode cL_isSo 614 = .ok (.invokestatic 89, 3) := by decide +kernel
theorem dL_isSo_617 : decode cL_isSo 617 = .ok (.aload_n 2, 1) := by decide +kernel
theorem dL_isSo_618 : decode cL_isSo 618 = .ok (.bipush 7, 2) := by decide +kernel
theorem dL_isSo_620 : decode cL_isSo 620 = .ok (.iaload, 1) := by decide +kernel
theorem dL_isSo_621 : decode cL_isSo 621 = .ok (.if_icmp .ne 57, 3) := by decide +kernel
theorem dL_isSo_624 : decode cL_isSo 624 = .ok (.aload_n 0, 1) := by decide +kernel
theorem dL_isSo_625 : decode cL_isSo 625 = .ok (.bipush 9, 2) := by decide +kernel
theorem dL_isSo_627 : decode cL_isSo 627 = .ok (.invokestatic 89, 3) := by decide +kernel
theorem dL_isSo_630 : decode cL_isSo 630 = .ok (.iload 10, 2) := by decide +kernel
theorem dL_isSo_632 : decode cL_isSo 632 = .ok (.if_icmp .ne 46, 3) := by decide +kernel
theorem dL_isSo_635 : decode cL_isSo 635 = .ok (.aload_n 0, 1) := by decide +kernel
theorem dL_isSo_636 : decode cL_isSo 636 = .ok (.aload_n 2, 1) := by decide +kernel
theorem dL_isSo_637 : decode cL_isSo 637 = .ok (.iconst 4, 1) := by decide +kernel
theorem dL_isSo_638 : decode cL_isSo 638 = .ok (.iaload, 1) := by decide +kernel
theorem dL_isSo_639 : decode cL_isSo 639 = .ok (.iconst 0, 1) := by decide +kernel
theorem dL_isSo_640 : decode cL_isSo 640 = .ok (.invokestatic 120, 3) := by decide +kernel
theorem dL_isSo_643 : decode cL_isSo 643 = .ok (.bipush (-101), 2) := by decide +kernel
theorem dL_isSo_645 : decode cL_isSo 645 = .ok (.if_icmp .ne 33, 3) := by decide +kernel
theorem dL_isSo_648 : decode cL_isSo 648 = .ok (.aload_n 0, 1) := by decide +kernel
theorem dL_isSo_649 : decode cL_isSo 649 = .ok (.invokevirtual 127, 3) := by decide +kernel
theorem dL_isSo_652 : decode cL_isSo 652 = .ok (.aload_n 2, 1) := by decide +kernel
theorem dL_isSo_653 : decode cL_isSo 653 = .ok (.iconst 4, 1) := by decide +kernel
theorem dL_isSo_654 : decode cL_isSo 654 = .ok (.iaload, 1) := by decide +kernel
theorem dL_isSo_655 : decode cL_isSo 655 = .ok (.ifCond .ne 7, 3) := by decide +kernel
theorem dL_isSo_658 : decode cL_isSo 658 = .ok (.dconst 1, 1) := by decide +kernel
theorem dL_isSo_659 : decode cL_isSo 659 = .ok (.goto 11, 3) := by decide +kernel
theorem dL_isSo_662 : decode cL_isSo 662 = .ok (.iload 9, 2) := by decide +kernel
theorem dL_isSo_664 : decode cL_isSo 664 = .ok (.i2d, 1) := by decide +kernel
theorem dL_isSo_665 : decode cL_isSo 665 = .ok (.aload_n 2, 1) := by decide +kernel
theorem dL_isSo_666 : decode cL_isSo 666 = .ok (.iconst 4, 1) := by decide +kernel
theorem dL_isSo_667 : decode cL_isSo 667 = .ok (.iaload, 1) := by decide +kernel
theorem dL_isSo_668 : decode cL_isSo 668 = .ok (.i2d, 1) := by decide +kernel
theorem dL_isSo_669 : decode cL_isSo 669 = .ok (.ddiv, 1) := by decide +kernel
theorem dL_isSo_670 : decode cL_isSo 670 = .ok (.dcmp .l, 1) := by decide +kernel
theorem dL_isSo_671 : decode cL_isSo 671 = .ok (.ifCond .ne 7, 3) := by decide +kernel
theorem dL_isSo_674 : decode cL_isSo 674 = .ok (.iconst 1, 1) := by decide +kernel
theorem dL_isSo_675 : decode cL_isSo 675 = .ok (.goto 4, 3) := by decide +kernel
theorem dL_isSo_678 : decode cL_isSo 678 = .ok (.iconst 0, 1) := by decide +kernel
theorem dL_isSo_679 : decode cL_isSo 679 = .ok (.ireturn, 1) := by decide +kernel
