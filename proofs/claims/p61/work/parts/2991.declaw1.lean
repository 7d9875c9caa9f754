/-! 2991: decode rows of the law -/
theorem dL_cell_0 : decode cL_cell 0 = .ok (.iload_n 1, 1) := by decide +kernel
theorem dL_cell_1 : decode cL_cell 1 = .ok (.aload_n 0, 1) := by decide +kernel
theorem dL_cell_2 : decode cL_cell 2 = .ok (.arraylength, 1) := by decide +kernel
theorem dL_cell_3 : decode cL_cell 3 = .ok (.if_icmp .ge 9, 3) := by decide +kernel
theorem dL_cell_6 : decode cL_cell 6 = .ok (.aload_n 0, 1) := by decide +kernel
theorem dL_cell_7 : decode cL_cell 7 = .ok (.iload_n 1, 1) := by decide +kernel
theorem dL_cell_8 : decode cL_cell 8 = .ok (.iaload, 1) := by decide +kernel
theorem dL_cell_9 : decode cL_cell 9 = .ok (.goto 7, 3) := by decide +kernel
theorem dL_cell_12 : decode cL_cell 12 = .ok (.ldc 7, 2) := by decide +kernel
theorem dL_cell_14 : decode cL_cell 14 = .ok (.iload_n 1, 1) := by decide +kernel
theorem dL_cell_15 : decode cL_cell 15 = .ok (.imul, 1) := by decide +kernel
theorem dL_cell_16 : decode cL_cell 16 = .ok (.ireturn, 1) := by decide +kernel
theorem dL_pick_0 : decode cL_pick 0 = .ok (.aload_n 0, 1) := by decide +kernel
theorem dL_pick_1 : decode cL_pick 1 = .ok (.iload_n 1, 1) := by decide +kernel
theorem dL_pick_2 : decode cL_pick 2 = .ok (.invokestatic 8, 3) := by decide +kernel
theorem dL_pick_5 : decode cL_pick 5 = .ok (.iconst 1, 1) := by decide +kernel
theorem dL_pick_6 : decode cL_pick 6 = .ok (.iushr, 1) := by decide +kernel
theorem dL_pick_7 : decode cL_pick 7 = .ok (.iload_n 2, 1) := by decide +kernel
theorem dL_pick_8 : decode cL_pick 8 = .ok (.irem, 1) := by decide +kernel
theorem dL_pick_9 : decode cL_pick 9 = .ok (.ireturn, 1) := by decide +kernel
theorem dL_rank_0 : decode cL_rank 0 = .ok (.aload_n 0, 1) := by decide +kernel
theorem dL_rank_1 : decode cL_rank 1 = .ok (.iload_n 1, 1) := by decide +kernel
theorem dL_rank_2 : decode cL_rank 2 = .ok (.iload_n 2, 1) := by decide +kernel
theorem dL_rank_3 : decode cL_rank 3 = .ok (.iload_n 3, 1) := by decide +kernel
theorem dL_rank_4 : decode cL_rank 4 = .ok (.iload 4, 2) := by decide +kernel
theorem dL_rank_6 : decode cL_rank 6 = .ok (.iload 5, 2) := by decide +kernel
theorem dL_rank_8 : decode cL_rank 8 = .ok (.iload 6, 2) := by decide +kernel
theorem dL_rank_10 : decode cL_rank 10 = .ok (.iload 7, 2) := by decide +kernel
theorem dL_rank_12 : decode cL_rank 12 = .ok (.invokevirtual 14, 3) := by decide +kernel
theorem dL_rank_15 : decode cL_rank 15 = .ok (.ireturn, 1) := by decide +kernel
theorem dL_rank_16 : decode cL_rank 16 = .ok (.astore 8, 2) := by decide +kernel
theorem dL_rank_18 : decode cL_rank 18 = .ok (.bipush (-78), 2) := by decide +kernel
theorem dL_rank_20 : decode cL_rank 20 = .ok (.ireturn, 1) := by decide +kernel
theorem dL_rank_21 : decode cL_rank 21 = .ok (.astore 8, 2) := by decide +kernel
theorem dL_rank_23 : decode cL_rank 23 = .ok (.bipush (-79), 2) := by decide +kernel
theorem dL_rank_25 : decode cL_rank 25 = .ok (.ireturn, 1) := by decide +kernel
theorem dL_stop_0 : decode cL_stop 0 = .ok (.aload_n 0, 1) := by decide +kernel
theorem dL_stop_1 : decode cL_stop 1 = .ok (.iload_n 1, 1) := by decide +kernel
theorem dL_stop_2 : decode cL_stop 2 = .ok (.invokevirtual 24, 3) := by decide +kernel
theorem dL_stop_5 : decode cL_stop 5 = .ok (.ireturn, 1) := by decide +kernel
theorem dL_stop_6 : decode cL_stop 6 = .ok (.astore_n 2, 1) := by decide +kernel
theorem dL_stop_7 : decode cL_stop 7 = .ok (.bipush (-77), 2) := by decide +kernel
theorem dL_stop_9 : decode cL_stop 9 = .ok (.ireturn, 1) := by decide +kernel
theorem dL_stop_10 : decode cL_stop 10 = .ok (.astore_n 2, 1) := by decide +kernel
theorem dL_stop_11 : decode cL_stop 11 = .ok (.bipush (-79), 2) := by decide +kernel
theorem dL_stop_13 : decode cL_stop 13 = .ok (.ireturn, 1) := by decide +kernel
theorem dL_row_0 : decode cL_row 0 = .ok (.aload_n 0, 1) := by decide +kernel
theorem dL_row_1 : decode cL_row 1 = .ok (.iload_n 1, 1) := by decide +kernel
theorem dL_row_2 : decode cL_row 2 = .ok (.iload_n 2, 1) := by decide +kernel
theorem dL_row_3 : decode cL_row 3 = .ok (.iload_n 3, 1) := by decide +kernel
theorem dL_row_4 : decode cL_row 4 = .ok (.iload 4, 2) := by decide +kernel
theorem dL_row_6 : decode cL_row 6 = .ok (.iload 5, 2) := by decide +kernel
theorem dL_row_8 : decode cL_row 8 = .ok (.invokevirtual 30, 3) := by decide +kernel
theorem dL_row_11 : decode cL_row 11 = .ok (.ireturn, 1) := by decide +kernel
theorem dL_row_12 : decode cL_row 12 = .ok (.astore 6, 2) := by decide +kernel
theorem dL_row_14 : decode cL_row 14 = .ok (.bipush (-77), 2) := by decide +kernel
theorem dL_row_16 : decode cL_row 16 = .ok (.ireturn, 1) := by decide +kernel
theorem dL_row_17 : decode cL_row 17 = .ok (.astore 6, 2) := by decide +kernel
theorem dL_row_19 : decode cL_row 19 = .ok (.bipush (-78), 2) := by decide +kernel
theorem dL_row_21 : decode cL_row 21 = .ok (.ireturn, 1) := by decide +kernel
theorem dL_row_22 : decode cL_row 22 = .ok (.astore 6, 2) := by decide +kernel
theorem dL_row_24 : decode cL_row 24 = .ok (.bipush (-76), 2) := by decide +kernel
theorem dL_row_26 : decode cL_row 26 = .ok (.ireturn, 1) := by decide +kernel
theorem dL_row_27 : decode cL_row 27 = .ok (.astore 6, 2) := by decide +kernel
theorem dL_row_29 : decode cL_row 29 = .ok (.bipush (-79), 2) := by decide +kernel
theorem dL_row_31 : decode cL_row 31 = .ok (.ireturn, 1) := by decide +kernel
theorem dL_cross_0 : decode cL_cross 0 = .ok (.aload_n 0, 1) := by decide +kernel
theorem dL_cross_1 : decode cL_cross 1 = .ok (.iload_n 1, 1) := by decide +kernel
theorem dL_cross_2 : decode cL_cross 2 = .ok (.iload_n 2, 1) := by decide +kernel
theorem dL_cross_3 : decode cL_cross 3 = .ok (.iload_n 3, 1) := by decide +kernel
theorem dL_cross_4 : decode cL_cross 4 = .ok (.invokevirtual 36, 3) := by decide +kernel
theorem dL_cross_7 : decode cL_cross 7 = .ok (.ireturn, 1) := by decide +kernel
theorem dL_cross_8 : decode cL_cross 8 = .ok (.astore 4, 2) := by decide +kernel
theorem dL_cross_10 : decode cL_cross 10 = .ok (.bipush (-77), 2) := by decide +kernel
theorem dL_cross_12 : decode cL_cross 12 = .ok (.ireturn, 1) := by decide +kernel
theorem dL_cross_13 : decode cL_cross 13 = .ok (.astore 4, 2) := by decide +kernel
theorem dL_cross_15 : decode cL_cross 15 = .ok (.bipush (-78), 2) := by decide +kernel
theorem dL_cross_17 : decode cL_cross 17 = .ok (.ireturn, 1) := by decide +kernel
theorem dL_cross_18 : decode cL_cross 18 = .ok (.astore 4, 2) := by decide +kernel
theorem dL_cross_20 : decode cL_cross 20 = .ok (.bipush (-76), 2) := by decide +kernel
theorem dL_cross_22 : decode cL_cross 22 = .ok (.ireturn, 1) := by decide +kernel
theorem dL_coupler_0 : decode cL_coupler 0 = .ok (.aload_n 0, 1) := by decide +kernel
theorem dL_coupler_1 : decode cL_coupler 1 = .ok (.iload_n 1, 1) := by decide +kernel
theorem dL_coupler_2 : decode cL_coupler 2 = .ok (.iload_n 2, 1) := by decide +kernel
theorem dL_coupler_3 : decode cL_coupler 3 = .ok (.iload_n 3, 1) := by decide +kernel
theorem dL_coupler_4 : decode cL_coupler 4 = .ok (.iload 4, 2) := by decide +kernel
theorem dL_coupler_6 : decode cL_coupler 6 = .ok (.invokevirtual 40, 3) := by decide +kernel
theorem dL_coupler_9 : decode cL_coupler 9 = .ok (.ireturn, 1) := by decide +kernel
theorem dL_coupler_10 : decode cL_coupler 10 = .ok (.astore 5, 2) := by decide +kernel
theorem dL_coupler_12 : decode cL_coupler 12 = .ok (.bipush (-77), 2) := by decide +kernel
theorem dL_coupler_14 : decode cL_coupler 14 = .ok (.ireturn, 1) := by decide +kernel
theorem dL_coupler_15 : decode cL_coupler 15 = .ok (.astore 5, 2) := by decide +kernel
theorem dL_coupler_17 : decode cL_coupler 17 = .ok (.bipush (-78), 2) := by decide +kernel
theorem dL_coupler_19 : decode cL_coupler 19 = .ok (.ireturn, 1) := by decide +kernel
theorem dL_coupler_20 : decode cL_coupler 20 = .ok (.astore 5, 2) := by decide +kernel
theorem dL_coupler_22 : decode cL_coupler 22 = .ok (.bipush (-79), 2) := by decide +kernel
theorem dL_coupler_24 : decode cL_coupler 24 = .ok (.ireturn, 1) := by decide +kernel
theorem dL_tremulant_0 : decode cL_tremulant 0 = .ok (.aload_n 0, 1) := by decide +kernel
theorem dL_tremulant_1 : decode cL_tremulant 1 = .ok (.iload_n 1, 1) := by decide +kernel
theorem dL_tremulant_2 : decode cL_tremulant 2 = .ok (.invokevirtual 44, 3) := by decide +kernel
theorem dL_tremulant_5 : decode cL_tremulant 5 = .ok (.ireturn, 1) := by decide +kernel
theorem dL_tremulant_6 : decode cL_tremulant 6 = .ok (.astore_n 2, 1) := by decide +kernel
theorem dL_tremulant_7 : decode cL_tremulant 7 = .ok (.bipush (-77), 2) := by decide +kernel
theorem dL_tremulant_9 : decode cL_tremulant 9 = .ok (.ireturn, 1) := by decide +kernel
theorem dL_tremulant_10 : decode cL_tremulant 10 = .ok (.astore_n 2, 1) := by decide +kernel
theorem dL_tremulant_11 : decode cL_tremulant 11 = .ok (.bipush (-79), 2) := by decide +kernel
theorem dL_tremulant_13 : decode cL_tremulant 13 = .ok (.ireturn, 1) := by decide +kernel
theorem dL_draw_0 : decode cL_draw 0 = .ok (.aload_n 0, 1) := by decide +kernel
theorem dL_draw_1 : decode cL_draw 1 = .ok (.iload_n 1, 1) := by decide +kernel
theorem dL_draw_2 : decode cL_draw 2 = .ok (.iload_n 2, 1) := by decide +kernel
theorem dL_draw_3 : decode cL_draw 3 = .ok (.invokevirtual 47, 3) := by decide +kernel
theorem dL_draw_6 : decode cL_draw 6 = .ok (.ifCond .eq 7, 3) := by decide +kernel
theorem dL_draw_9 : decode cL_draw 9 = .ok (.iconst 1, 1) := by decide +kernel
theorem dL_draw_10 : decode cL_draw 10 = .ok (.goto 4, 3) := by decide +kernel
theorem dL_draw_13 : decode cL_draw 13 = .ok (.iconst 0, 1) := by decide +kernel
theorem dL_draw_14 : decode cL_draw 14 = .ok (.ireturn, 1) := by decide +kernel
theorem dL_draw_15 : decode cL_draw 15 = .ok (.astore_n 3, 1) := by decide +kernel
theorem dL_draw_16 : decode cL_draw 16 = .ok (.bipush (-77), 2) := by decide +kernel
theorem dL_draw_18 : decode cL_draw 18 = .ok (.ireturn, 1) := by decide +kernel
theorem dL_isDrawn_0 : decode cL_isDrawn 0 = .ok (.aload_n 0, 1) := by decide +kernel
theorem dL_isDrawn_1 : decode cL_isDrawn 1 = .ok (.iload_n 1, 1) := by decide +kernel
theorem dL_isDrawn_2 : decode cL_isDrawn 2 = .ok (.invokevirtual 51, 3) := by decide +kernel
theorem dL_isDrawn_5 : decode cL_isDrawn 5 = .ok (.ifCond .eq 7, 3) := by decide +kernel
theorem dL_isDrawn_8 : decode cL_isDrawn 8 = .ok (.iconst 1, 1) := by decide +kernel
theorem dL_isDrawn_9 : decode cL_isDrawn 9 = .ok (.goto 4, 3) := by decide +kernel
theorem dL_isDrawn_12 : decode cL_isDrawn 12 = .ok (.iconst 0, 1) := by decide +kernel
theorem dL_isDrawn_13 : decode cL_isDrawn 13 = .ok (.ireturn, 1) := by decide +kernel
theorem dL_isDrawn_14 : decode cL_isDrawn 14 = .ok (.astore_n 2, 1) := by decide +kernel
theorem dL_isDrawn_15 : decode cL_isDrawn 15 = .ok (.bipush (-77), 2) := by decide +kernel
theorem dL_isDrawn_17 : decode cL_isDrawn 17 = .ok (.ireturn, 1) := by decide +kernel
theorem dL_isOn_0 : decode cL_isOn 0 = .ok (.aload_n 0, 1) := by decide +kernel
theorem dL_isOn_1 : decode cL_isOn 1 = .ok (.iload_n 1, 1) := by decide +kernel
theorem dL_isOn_2 : decode cL_isOn 2 = .ok (.invokevirtual 55, 3) := by decide +kernel
theorem dL_isOn_5 : decode cL_isOn 5 = .ok (.ifCond .eq 7, 3) := by decide +kernel
theorem dL_isOn_8 : decode cL_isOn 8 = .ok (.iconst 1, 1) := by decide +kernel
theorem dL_isOn_9 : decode cL_isOn 9 = .ok (.goto 4, 3) := by decide +kernel
theorem dL_isOn_12 : decode cL_isOn 12 = .ok (.iconst 0, 1) := by decide +kernel
theorem dL_isOn_13 : decode cL_isOn 13 = .ok (.ireturn, 1) := by decide +kernel
theorem dL_isOn_14 : decode cL_isOn 14 = .ok (.astore_n 2, 1) := by decide +kernel
theorem dL_isOn_15 : decode cL_isOn 15 = .ok (.bipush (-77), 2) := by decide +kernel
theorem dL_isOn_17 : decode cL_isOn 17 = .ok (.ireturn, 1) := by decide +kernel
theorem dL_isOn_18 : decode cL_isOn 18 = .ok (.astore_n 2, 1) := by decide +kernel
theorem dL_isOn_19 : decode cL_isOn 19 = .ok (.bipush (-76), 2) := by decide +kernel
theorem dL_isOn_21 : decode cL_isOn 21 = .ok (.ireturn, 1) := by decide +kernel
theorem dL_lock_0 : decode cL_lock 0 = .ok (.aload_n 0, 1) := by decide +kernel
theorem dL_lock_1 : decode cL_lock 1 = .ok (.iload_n 1, 1) := by decide +kernel
theorem dL_lock_2 : decode cL_lock 2 = .ok (.iload_n 2, 1) := by decide +kernel
theorem dL_lock_3 : decode cL_lock 3 = .ok (.invokevirtual 58, 3) := by decide +kernel
theorem dL_lock_6 : decode cL_lock 6 = .ok (.ifCond .eq 7, 3) := by decide +kernel
theorem dL_lock_9 : decode cL_lock 9 = .ok (.iconst 1, 1) := by decide +kernel
theorem dL_lock_10 : decode cL_lock 10 = .ok (.goto 4, 3) := by decide +kernel
theorem dL_lock_13 : decode cL_lock 13 = .ok (.iconst 0, 1) := by decide +kernel
theorem dL_lock_14 : decode cL_lock 14 = .ok (.ireturn, 1) := by decide +kernel
theorem dL_lock_15 : decode cL_lock 15 = .ok (.astore_n 3, 1) := by decide +kernel
theorem dL_lock_16 : decode cL_lock 16 = .ok (.bipush (-77), 2) := by decide +kernel
theorem dL_lock_18 : decode cL_lock 18 = .ok (.ireturn, 1) := by decide +kernel
theorem dL_stage_0 : decode cL_stage 0 = .ok (.aload_n 0, 1) := by decide +kernel
theorem dL_stage_1 : decode cL_stage 1 = .ok (.iload_n 1, 1) := by decide +kernel
theorem dL_stage_2 : decode cL_stage 2 = .ok (.iload_n 2, 1) := by decide +kernel
theorem dL_stage_3 : decode cL_stage 3 = .ok (.invokevirtual 61, 3) := by decide +kernel
theorem dL_stage_6 : decode cL_stage 6 = .ok (.ireturn, 1) := by decide +kernel
theorem dL_stage_7 : decode cL_stage 7 = .ok (.astore_n 3, 1) := by decide +kernel
theorem dL_stage_8 : decode cL_stage 8 = .ok (.bipush (-77), 2) := by decide +kernel
theorem dL_stage_10 : decode cL_stage 10 = .ok (.ireturn, 1) := by decide +kernel
theorem dL_stage_11 : decode cL_stage 11 = .ok (.astore_n 3, 1) := by decide +kernel
theorem dL_stage_12 : decode cL_stage 12 = .ok (.bipush (-78), 2) := by decide +kernel
theorem dL_stage_14 : decode cL_stage 14 = .ok (.ireturn, 1) := by decide +kernel
theorem dL_stage_15 : decode cL_stage 15 = .ok (.astore_n 3, 1) := by decide +kernel
theorem dL_stage_16 : decode cL_stage 16 = .ok (.bipush (-76), 2) := by decide +kernel
theorem dL_stage_18 : decode cL_stage 18 = .ok (.ireturn, 1) := by decide +kernel
theorem dL_crescendo_0 : decode cL_crescendo 0 = .ok (.aload_n 0, 1) := by decide +kernel
theorem dL_crescendo_1 : decode cL_crescendo 1 = .ok (.iload_n 1, 1) := by decide +kernel
theorem dL_crescendo_2 : decode cL_crescendo 2 = .ok (.invokevirtual 65, 3) := by decide +kernel
theorem dL_crescendo_5 : decode cL_crescendo 5 = .ok (.ireturn, 1) := by decide +kernel
theorem dL_crescendo_6 : decode cL_crescendo 6 = .ok (.astore_n 2, 1) := by decide +kernel
theorem dL_crescendo_7 : decode cL_crescendo 7 = .ok (.bipush (-78), 2) := by decide +kernel
theorem dL_crescendo_9 : decode cL_crescendo 9 = .ok (.ireturn, 1) := by decide +kernel
theorem dL_key_0 : decode cL_key 0 = .ok (.aload_n 0, 1) := by decide +kernel
theorem dL_key_1 : decode cL_key 1 = .ok (.iload_n 1, 1) := by decide +kernel
theorem dL_key_2 : decode cL_key 2 = .ok (.iload_n 2, 1) := by decide +kernel
theorem dL_key_3 : decode cL_key 3 = .ok (.iload_n 3, 1) := by decide +kernel
theorem dL_key_4 : decode cL_key 4 = .ok (.invokevirtual 68, 3) := by decide +kernel
theorem dL_key_7 : decode cL_key 7 = .ok (.ifCond .eq 7, 3) := by decide +kernel
theorem dL_key_10 : decode cL_key 10 = .ok (.iconst 1, 1) := by decide +kernel
theorem dL_key_11 : decode cL_key 11 = .ok (.goto 4, 3) := by decide +kernel
theorem dL_key_14 : decode cL_key 14 = .ok (.iconst 0, 1) := by decide +kernel
theorem dL_key_15 : decode cL_key 15 = .ok (.ireturn, 1) := by decide +kernel
theorem dL_key_16 : decode cL_key 16 = .ok (.astore 4, 2) := by decide +kernel
theorem dL_key_18 : decode cL_key 18 = .ok (.bipush (-77), 2) := by decide +kernel
theorem dL_key_20 : decode cL_key 20 = .ok (.ireturn, 1) := by decide +kernel
theorem dL_isDown_0 : decode cL_isDown 0 = .ok (.aload_n 0, 1) := by decide +kernel
theorem dL_isDown_1 : decode cL_isDown 1 = .ok (.iload_n 1, 1) := by decide +kernel
theorem dL_isDown_2 : decode cL_isDown 2 = .ok (.iload_n 2, 1) := by decide +kernel
theorem dL_isDown_3 : decode cL_isDown 3 = .ok (.invokevirtual 72, 3) := by decide +kernel
theorem dL_isDown_6 : decode cL_isDown 6 = .ok (.ifCond .eq 7, 3) := by decide +kernel
theorem dL_isDown_9 : decode cL_isDown 9 = .ok (.iconst 1, 1) := by decide +kernel
theorem dL_isDown_10 : decode cL_isDown 10 = .ok (.goto 4, 3) := by decide +kernel
theorem dL_isDown_13 : decode cL_isDown 13 = .ok (.iconst 0, 1) := by decide +kernel
theorem dL_isDown_14 : decode cL_isDown 14 = .ok (.ireturn, 1) := by decide +kernel
theorem dL_isDown_15 : decode cL_isDown 15 = .ok (.astore_n 3, 1) := by decide +kernel
theorem dL_isDown_16 : decode cL_isDown 16 = .ok (.bipush (-77), 2) := by decide +kernel
theorem dL_isDown_18 : decode cL_isDown 18 = .ok (.ireturn, 1) := by decide +kernel
theorem dL_pass_0 : decode cL_pass 0 = .ok (.aload_n 0, 1) := by decide +kernel
theorem dL_pass_1 : decode cL_pass 1 = .ok (.iload_n 1, 1) := by decide +kernel
theorem dL_pass_2 : decode cL_pass 2 = .ok (.invokevirtual 76, 3) := by decide +kernel
theorem dL_pass_5 : decode cL_pass 5 = .ok (.ireturn, 1) := by decide +kernel
theorem dL_pass_6 : decode cL_pass 6 = .ok (.astore_n 2, 1) := by decide +kernel
theorem dL_pass_7 : decode cL_pass 7 = .ok (.bipush (-78), 2) := by decide +kernel
theorem dL_pass_9 : decode cL_pass 9 = .ok (.ireturn, 1) := by decide +kernel
theorem dL_reasons_0 : decode cL_reasons 0 = .ok (.aload_n 0, 1) := by decide +kernel
theorem dL_reasons_1 : decode cL_reasons 1 = .ok (.iload_n 1, 1) := by decide +kernel
theorem dL_reasons_2 : decode cL_reasons 2 = .ok (.iload_n 2, 1) := by decide +kernel
theorem dL_reasons_3 : decode cL_reasons 3 = .ok (.invokevirtual 79, 3) := by decide +kernel
theorem dL_reasons_6 : decode cL_reasons 6 = .ok (.ireturn, 1) := by decide +kernel
theorem dL_reasons_7 : decode cL_reasons 7 = .ok (.astore_n 3, 1) := by decide +kernel
theorem dL_reasons_8 : decode cL_reasons 8 = .ok (.bipush (-77), 2) := by decide +kernel
theorem dL_reasons_10 : decode cL_reasons 10 = .ok (.ireturn, 1) := by decide +kernel
theorem dL_reasonsAnew_0 : decode cL_reasonsAnew 0 = .ok (.aload_n 0, 1) := by decide +kernel
theorem dL_reasonsAnew_1 : decode cL_reasonsAnew 1 = .ok (.iload_n 1, 1) := by decide +kernel
theorem dL_reasonsAnew_2 : decode cL_reasonsAnew 2 = .ok (.iload_n 2, 1) := by decide +kernel
theorem dL_reasonsAnew_3 : decode cL_reasonsAnew 3 = .ok (.invokevirtual 82, 3) := by decide +kernel
theorem dL_reasonsAnew_6 : decode cL_reasonsAnew 6 = .ok (.ireturn, 1) := by decide +kernel
theorem dL_reasonsAnew_7 : decode cL_reasonsAnew 7 = .ok (.astore_n 3, 1) := by decide +kernel
theorem dL_reasonsAnew_8 : decode cL_reasonsAnew 8 = .ok (.bipush (-77), 2) := by decide +kernel
theorem dL_reasonsAnew_10 : decode cL_reasonsAnew 10 = .ok (.ireturn, 1) := by decide +kernel
theorem dL_isOpen_0 : decode cL_isOpen 0 = .ok (.aload_n 0, 1) := by decide +kernel
theorem dL_isOpen_1 : decode cL_isOpen 1 = .ok (.iload_n 1, 1) := by decide +kernel
theorem dL_isOpen_2 : decode cL_isOpen 2 = .ok (.iload_n 2, 1) := by decide +kernel
theorem dL_isOpen_3 : decode cL_isOpen 3 = .ok (.invokevirtual 85, 3) := by decide +kernel
theorem dL_isOpen_6 : decode cL_isOpen 6 = .ok (.ifCond .eq 7, 3) := by decide +kernel
theorem dL_isOpen_9 : decode cL_isOpen 9 = .ok (.iconst 1, 1) := by decide +kernel
theorem dL_isOpen_10 : decode cL_isOpen 10 = .ok (.goto 4, 3) := by decide +kernel
theorem dL_isOpen_13 : decode cL_isOpen 13 = .ok (.iconst 0, 1) := by decide +kernel
theorem dL_isOpen_14 : decode cL_isOpen 14 = .ok (.ireturn, 1) := by decide +kernel
theorem dL_isOpen_15 : decode cL_isOpen 15 = .ok (.astore_n 3, 1) := by decide +kernel
theorem dL_isOpen_16 : decode cL_isOpen 16 = .ok (.bipush (-77), 2) := by decide +kernel
theorem dL_isOpen_18 : decode cL_isOpen 18 = .ok (.ireturn, 1) := by decide +kernel
theorem dL_speaks_0 : decode cL_speaks 0 = .ok (.aload_n 0, 1) := by decide +kernel
theorem dL_speaks_1 : decode cL_speaks 1 = .ok (.iload_n 1, 1) := by decide +kernel
theorem dL_speaks_2 : decode cL_speaks 2 = .ok (.iload_n 2, 1) := by decide +kernel
theorem dL_speaks_3 : decode cL_speaks 3 = .ok (.invokevirtual 88, 3) := by decide +kernel
theorem dL_speaks_6 : decode cL_speaks 6 = .ok (.ifCond .eq 7, 3) := by decide +kernel
theorem dL_speaks_9 : decode cL_speaks 9 = .ok (.iconst 1, 1) := by decide +kernel
theorem dL_speaks_10 : decode cL_speaks 10 = .ok (.goto 4, 3) := by decide +kernel
theorem dL_speaks_13 : decode cL_speaks 13 = .ok (.iconst 0, 1) := by decide +kernel
theorem dL_speaks_14 : decode cL_speaks 14 = .ok (.ireturn, 1) := by decide +kernel
theorem dL_speaks_15 : decode cL_speaks 15 = .ok (.astore_n 3, 1) := by decide +kernel
theorem dL_speaks_16 : decode cL_speaks 16 = .ok (.bipush (-77), 2) := by decide +kernel
theorem dL_speaks_18 : decode cL_speaks 18 = .ok (.ireturn, 1) := by decide +kernel
theorem dL_begun_0 : decode cL_begun 0 = .ok (.aload_n 0, 1) := by decide +kernel
theorem dL_begun_1 : decode cL_begun 1 = .ok (.iload_n 1, 1) := by decide +kernel
theorem dL_begun_2 : decode cL_begun 2 = .ok (.iload_n 2, 1) := by decide +kernel
theorem dL_begun_3 : decode cL_begun 3 = .ok (.invokevirtual 91, 3) := by decide +kernel
theorem dL_begun_6 : decode cL_begun 6 = .ok (.ireturn, 1) := by decide +kernel
theorem dL_begun_7 : decode cL_begun 7 = .ok (.astore_n 3, 1) := by decide +kernel
theorem dL_begun_8 : decode cL_begun 8 = .ok (.bipush (-77), 2) := by decide +kernel
theorem dL_begun_10 : decode cL_begun 10 = .ok (.ireturn, 1) := by decide +kernel
theorem dL_supply_0 : decode cL_supply 0 = .ok (.aload_n 0, 1) := by decide +kernel
theorem dL_supply_1 : decode cL_supply 1 = .ok (.iload_n 1, 1) := by decide +kernel
theorem dL_supply_2 : decode cL_supply 2 = .ok (.iload_n 2, 1) := by decide +kernel
theorem dL_supply_3 : decode cL_supply 3 = .ok (.invokevirtual 94, 3) := by decide +kernel
theorem dL_supply_6 : decode cL_supply 6 = .ok (.ireturn, 1) := by decide +kernel
theorem dL_supply_7 : decode cL_supply 7 = .ok (.astore_n 3, 1) := by decide +kernel
theorem dL_supply_8 : decode cL_supply 8 = .ok (.bipush (-77), 2) := by decide +kernel
theorem dL_supply_10 : decode cL_supply 10 = .ok (.ireturn, 1) := by decide +kernel
theorem dL_supply_11 : decode cL_supply 11 = .ok (.astore_n 3, 1) := by decide +kernel
theorem dL_supply_12 : decode cL_supply 12 = .ok (.bipush (-78), 2) := by decide +kernel
theorem dL_supply_14 : decode cL_supply 14 = .ok (.ireturn, 1) := by decide +kernel
theorem dL_wind_0 : decode cL_wind 0 = .ok (.aload_n 0, 1) := by decide +kernel
theorem dL_wind_1 : decode cL_wind 1 = .ok (.iload_n 1, 1) := by decide +kernel
theorem dL_wind_2 : decode cL_wind 2 = .ok (.invokevirtual 97, 3) := by decide +kernel
theorem dL_wind_5 : decode cL_wind 5 = .ok (.ireturn, 1) := by decide +kernel
theorem dL_wind_6 : decode cL_wind 6 = .ok (.astore_n 2, 1) := by decide +kernel
theorem dL_wind_7 : decode cL_wind 7 = .ok (.bipush (-77), 2) := by decide +kernel
theorem dL_wind_9 : decode cL_wind 9 = .ok (.ireturn, 1) := by decide +kernel
theorem dL_box_0 : decode cL_box 0 = .ok (.aload_n 0, 1) := by decide +kernel
theorem dL_box_1 : decode cL_box 1 = .ok (.iload_n 1, 1) := by decide +kernel
theorem dL_box_2 : decode cL_box 2 = .ok (.iload_n 2, 1) := by decide +kernel
theorem dL_box_3 : decode cL_box 3 = .ok (.invokevirtual 100, 3) := by decide +kernel
theorem dL_box_6 : decode cL_box 6 = .ok (.ireturn, 1) := by decide +kernel
theorem dL_box_7 : decode cL_box 7 = .ok (.astore_n 3, 1) := by decide +kernel
theorem dL_box_8 : decode cL_box 8 = .ok (.bipush (-78), 2) := by decide +kernel
theorem dL_box_10 : decode cL_box 10 = .ok (.ireturn, 1) := by decide +kernel
theorem dL_tune_0 : decode cL_tune 0 = .ok (.aload_n 0, 1) := by decide +kernel
theorem dL_tune_1 : decode cL_tune 1 = .ok (.iload_n 1, 1) := by decide +kernel
theorem dL_tune_2 : decode cL_tune 2 = .ok (.iload_n 2, 1) := by decide +kernel
theorem dL_tune_3 : decode cL_tune 3 = .ok (.iload_n 3, 1) := by decide +kernel
theorem dL_tune_4 : decode cL_tune 4 = .ok (.invokevirtual 103, 3) := by decide +kernel
theorem dL_tune_7 : decode cL_tune 7 = .ok (.ireturn, 1) := by decide +kernel
theorem dL_tune_8 : decode cL_tune 8 = .ok (.astore 4, 2) := by decide +kernel
theorem dL_tune_10 : decode cL_tune 10 = .ok (.bipush (-77), 2) := by decide +kernel
theorem dL_tune_12 : decode cL_tune 12 = .ok (.ireturn, 1) := by decide +kernel
theorem dL_tune_13 : decode cL_tune 13 = .ok (.astore 4, 2) := by decide +kernel
theorem dL_tune_15 : decode cL_tune 15 = .ok (.bipush (-78), 2) := by decide +kernel
theorem dL_tune_17 : decode cL_tune 17 = .ok (.ireturn, 1) := by decide +kernel
theorem dL_tuneTo_0 : decode cL_tuneTo 0 = .ok (.aload_n 0, 1) := by decide +kernel
theorem dL_tuneTo_1 : decode cL_tuneTo 1 = .ok (.iload_n 1, 1) := by decide +kernel
theorem dL_tuneTo_2 : decode cL_tuneTo 2 = .ok (.iload_n 2, 1) := by decide +kernel
theorem dL_tuneTo_3 : decode cL_tuneTo 3 = .ok (.iload_n 3, 1) := by decide +kernel
theorem dL_tuneTo_4 : decode cL_tuneTo 4 = .ok (.iload 4, 2) := by decide +kernel
theorem dL_tuneTo_6 : decode cL_tuneTo 6 = .ok (.invokevirtual 106, 3) := by decide +kernel
theorem dL_tuneTo_9 : decode cL_tuneTo 9 = .ok (.ireturn, 1) := by decide +kernel
theorem dL_tuneTo_10 : decode cL_tuneTo 10 = .ok (.astore 5, 2) := by decide +kernel
theorem dL_tuneTo_12 : decode cL_tuneTo 12 = .ok (.bipush (-77), 2) := by decide +kernel
theorem dL_tuneTo_14 : decode cL_tuneTo 14 = .ok (.ireturn, 1) := by decide +kernel
theorem dL_pitch_0 : decode cL_pitch 0 = .ok (.aload_n 0, 1) := by decide +kernel
theorem dL_pitch_1 : decode cL_pitch 1 = .ok (.iload_n 1, 1) := by decide +kernel
theorem dL_pitch_2 : decode cL_pitch 2 = .ok (.iload_n 2, 1) := by decide +kernel
theorem dL_pitch_3 : decode cL_pitch 3 = .ok (.invokevirtual 110, 3) := by decide +kernel
theorem dL_pitch_6 : decode cL_pitch 6 = .ok (.ireturn, 1) := by decide +kernel
theorem dL_pitch_7 : decode cL_pitch 7 = .ok (.astore_n 3, 1) := by decide +kernel
theorem dL_pitch_8 : decode cL_pitch 8 = .ok (.bipush (-77), 2) := by decide +kernel
theorem dL_pitch_10 : decode cL_pitch 10 = .ok (.ireturn, 1) := by decide +kernel
theorem dL_fault_0 : decode cL_fault 0 = .ok (.aload_n 0, 1) := by decide +kernel
theorem dL_fault_1 : decode cL_fault 1 = .ok (.iload_n 1, 1) := by decide +kernel
theorem dL_fault_2 : decode cL_fault 2 = .ok (.iload_n 2, 1) := by decide +kernel
theorem dL_fault_3 : decode cL_fault 3 = .ok (.iload_n 3, 1) := by decide +kernel
theorem dL_fault_4 : decode cL_fault 4 = .ok (.invokevirtual 113, 3) := by decide +kernel
theorem dL_fault_7 : decode cL_fault 7 = .ok (.ireturn, 1) := by decide +kernel
theorem dL_fault_8 : decode cL_fault 8 = .ok (.astore 4, 2) := by decide +kernel
theorem dL_fault_10 : decode cL_fault 10 = .ok (.bipush (-77), 2) := by decide +kernel
theorem dL_fault_12 : decode cL_fault 12 = .ok (.ireturn, 1) := by decide +kernel
theorem dL_fault_13 : decode cL_fault 13 = .ok (.astore 4, 2) := by decide +kernel
theorem dL_fault_15 : decode cL_fault 15 = .ok (.bipush (-78), 2) := by decide +kernel
theorem dL_fault_17 : decode cL_fault 17 = .ok (.ireturn, 1) := by decide +kernel
theorem dL_hunt_0 : decode cL_hunt 0 = .ok (.aload_n 0, 1) := by decide +kernel
theorem dL_hunt_1 : decode cL_hunt 1 = .ok (.iload_n 1, 1) := by decide +kernel
theorem dL_hunt_2 : decode cL_hunt 2 = .ok (.invokevirtual 117, 3) := by decide +kernel
theorem dL_hunt_5 : decode cL_hunt 5 = .ok (.ireturn, 1) := by decide +kernel
theorem dL_hunt_6 : decode cL_hunt 6 = .ok (.astore_n 2, 1) := by decide +kernel
theorem dL_hunt_7 : decode cL_hunt 7 = .ok (.bipush (-77), 2) := by decide +kernel
theorem dL_hunt_9 : decode cL_hunt 9 = .ok (.ireturn, 1) := by decide +kernel
theorem dL_scope_0 : decode cL_scope 0 = .ok (.aload_n 0, 1) := by decide +kernel
theorem dL_scope_1 : decode cL_scope 1 = .ok (.iload_n 1, 1) := by decide +kernel
theorem dL_scope_2 : decode cL_scope 2 = .ok (.iload_n 2, 1) := by decide +kernel
theorem dL_scope_3 : decode cL_scope 3 = .ok (.invokevirtual 120, 3) := by decide +kernel
theorem dL_scope_6 : decode cL_scope 6 = .ok (.ifCond .eq 7, 3) := by decide +kernel
theorem dL_scope_9 : decode cL_scope 9 = .ok (.iconst 1, 1) := by decide +kernel
theorem dL_scope_10 : decode cL_scope 10 = .ok (.goto 4, 3) := by decide +kernel
theorem dL_scope_13 : decode cL_scope 13 = .ok (.iconst 0, 1) := by decide +kernel
theorem dL_scope_14 : decode cL_scope 14 = .ok (.ireturn, 1) := by decide +kernel
theorem dL_scope_15 : decode cL_scope 15 = .ok (.astore_n 3, 1) := by decide +kernel
theorem dL_scope_16 : decode cL_scope 16 = .ok (.bipush (-77), 2) := by decide +kernel
theorem dL_scope_18 : decode cL_scope 18 = .ok (.ireturn, 1) := by decide +kernel
theorem dL_set_0 : decode cL_set 0 = .ok (.aload_n 0, 1) := by decide +kernel
theorem dL_set_1 : decode cL_set 1 = .ok (.iload_n 1, 1) := by decide +kernel
theorem dL_set_2 : decode cL_set 2 = .ok (.iload_n 2, 1) := by decide +kernel
theorem dL_set_3 : decode cL_set 3 = .ok (.invokevirtual 123, 3) := by decide +kernel
theorem dL_set_6 : decode cL_set 6 = .ok (.ireturn, 1) := by decide +kernel
theorem dL_set_7 : decode cL_set 7 = .ok (.astore_n 3, 1) := by decide +kernel
theorem dL_set_8 : decode cL_set 8 = .ok (.bipush (-77), 2) := by decide +kernel
theorem dL_set_10 : decode cL_set 10 = .ok (.ireturn, 1) := by decide +kernel
theorem dL_set_11 : decode cL_set 11 = .ok (.astore_n 3, 1) := by decide +kernel
theorem dL_set_12 : decode cL_set 12 = .ok (.bipush (-76), 2) := by decide +kernel
theorem dL_set_14 : decode cL_set 14 = .ok (.ireturn, 1) := by decide +kernel
theorem dL_push_0 : decode cL_push 0 = .ok (.aload_n 0, 1) := by decide +kernel
theorem dL_push_1 : decode cL_push 1 = .ok (.iload_n 1, 1) := by decide +kernel
theorem dL_push_2 : decode cL_push 2 = .ok (.iload_n 2, 1) := by decide +kernel
theorem dL_push_3 : decode cL_push 3 = .ok (.invokevirtual 126, 3) := by decide +kernel
theorem dL_push_6 : decode cL_push 6 = .ok (.ireturn, 1) := by decide +kernel
theorem dL_push_7 : decode cL_push 7 = .ok (.astore_n 3, 1) := by decide +kernel
theorem dL_push_8 : decode cL_push 8 = .ok (.bipush (-77), 2) := by decide +kernel
theorem dL_push_10 : decode cL_push 10 = .ok (.ireturn, 1) := by decide +kernel
theorem dL_push_11 : decode cL_push 11 = .ok (.astore_n 3, 1) := by decide +kernel
theorem dL_push_12 : decode cL_push 12 = .ok (.bipush (-75), 2) := by decide +kernel
theorem dL_push_14 : decode cL_push 14 = .ok (.ireturn, 1) := by decide +kernel
theorem dL_setReversible_0 : decode cL_setReversible 0 = .ok (.aload_n 0, 1) := by decide +kernel
theorem dL_setReversible_1 : decode cL_setReversible 1 = .ok (.iload_n 1, 1) := by decide +kernel
theorem dL_setReversible_2 : decode cL_setReversible 2 = .ok (.iload_n 2, 1) := by decide +kernel
theorem dL_setReversible_3 : decode cL_setReversible 3 = .ok (.invokevirtual 131, 3) := by decide +kernel
theorem dL_setReversible_6 : decode cL_setReversible 6 = .ok (.ireturn, 1) := by decide +kernel
theorem dL_setReversible_7 : decode cL_setReversible 7 = .ok (.astore_n 3, 1) := by decide +kernel
theorem dL_setReversible_8 : decode cL_setReversible 8 = .ok (.bipush (-77), 2) := by decide +kernel
theorem dL_setReversible_10 : decode cL_setReversible 10 = .ok (.ireturn, 1) := by decide +kernel
theorem dL_setReversible_11 : decode cL_setReversible 11 = .ok (.astore_n 3, 1) := by decide +kernel
theorem dL_setReversible_12 : decode cL_setReversible 12 = .ok (.bipush (-76), 2) := by decide +kernel
theorem dL_setReversible_14 : decode cL_setReversible 14 = .ok (.ireturn, 1) := by decide +kernel
theorem dL_pushReversible_0 : decode cL_pushReversible 0 = .ok (.aload_n 0, 1) := by decide +kernel
theorem dL_pushReversible_1 : decode cL_pushReversible 1 = .ok (.iload_n 1, 1) := by decide +kernel
theorem dL_pushReversible_2 : decode cL_pushReversible 2 = .ok (.invokevirtual 134, 3) := by decide +kernel
theorem dL_pushReversible_5 : decode cL_pushReversible 5 = .ok (.ifCond .eq 7, 3) := by decide +kernel
theorem dL_pushReversible_8 : decode cL_pushReversible 8 = .ok (.iconst 1, 1) := by decide +kernel
theorem dL_pushReversible_9 : decode cL_pushReversible 9 = .ok (.goto 4, 3) := by decide +kernel
theorem dL_pushReversible_12 : decode cL_pushReversible 12 = .ok (.iconst 0, 1) := by decide +kernel
theorem dL_pushReversible_13 : decode cL_pushReversible 13 = .ok (.ireturn, 1) := by decide +kernel
theorem dL_pushReversible_14 : decode cL_pushReversible 14 = .ok (.astore_n 2, 1) := by decide +kernel
theorem dL_pushReversible_15 : decode cL_pushReversible 15 = .ok (.bipush (-77), 2) := by decide +kernel
theorem dL_pushReversible_17 : decode cL_pushReversible 17 = .ok (.ireturn, 1) := by decide +kernel
theorem dL_pushReversible_18 : decode cL_pushReversible 18 = .ok (.astore_n 2, 1) := by decide +kernel
theorem dL_pushReversible_19 : decode cL_pushReversible 19 = .ok (.bipush (-75), 2) := by decide +kernel
theorem dL_pushReversible_21 : decode cL_pushReversible 21 = .ok (.ireturn, 1) := by decide +kernel
theorem dL_frame_0 : decode cL_frame 0 = .ok (.aload_n 0, 1) := by decide +kernel
theorem dL_frame_1 : decode cL_frame 1 = .ok (.iload_n 1, 1) := by decide +kernel
theorem dL_frame_2 : decode cL_frame 2 = .ok (.invokevirtual 137, 3) := by decide +kernel
theorem dL_frame_5 : decode cL_frame 5 = .ok (.ireturn, 1) := by decide +kernel
theorem dL_frame_6 : decode cL_frame 6 = .ok (.astore_n 2, 1) := by decide +kernel
theorem dL_frame_7 : decode cL_frame 7 = .ok (.bipush (-77), 2) := by decide +kernel
theorem dL_frame_9 : decode cL_frame 9 = .ok (.ireturn, 1) := by decide +kernel
theorem dL_frame_10 : decode cL_frame 10 = .ok (.astore_n 2, 1) := by decide +kernel
theorem dL_frame_11 : decode cL_frame 11 = .ok (.bipush (-79), 2) := by decide +kernel
theorem dL_frame_13 : decode cL_frame 13 = .ok (.ireturn, 1) := by decide +kernel
theorem dL_turnTo_0 : decode cL_turnTo 0 = .ok (.aload_n 0, 1) := by decide +kernel
theorem dL_turnTo_1 : decode cL_turnTo 1 = .ok (.iload_n 1, 1) := by decide +kernel
theorem dL_turnTo_2 : decode cL_turnTo 2 = .ok (.invokevirtual 140, 3) := by decide +kernel
theorem dL_turnTo_5 : decode cL_turnTo 5 = .ok (.ireturn, 1) := by decide +kernel
theorem dL_turnTo_6 : decode cL_turnTo 6 = .ok (.astore_n 2, 1) := by decide +kernel
theorem dL_turnTo_7 : decode cL_turnTo 7 = .ok (.bipush (-77), 2) := by decide +kernel
theorem dL_turnTo_9 : decode cL_turnTo 9 = .ok (.ireturn, 1) := by decide +kernel
theorem dL_wire_0 : decode cL_wire 0 = .ok (.aload_n 0, 1) := by decide +kernel
theorem dL_wire_1 : decode cL_wire 1 = .ok (.iload_n 1, 1) := by decide +kernel
theorem dL_wire_2 : decode cL_wire 2 = .ok (.iload_n 2, 1) := by decide +kernel
theorem dL_wire_3 : decode cL_wire 3 = .ok (.iload_n 3, 1) := by decide +kernel
theorem dL_wire_4 : decode cL_wire 4 = .ok (.iload 4, 2) := by decide +kernel
theorem dL_wire_6 : decode cL_wire 6 = .ok (.invokevirtual 143, 3) := by decide +kernel
theorem dL_wire_9 : decode cL_wire 9 = .ok (.ifCond .eq 7, 3) := by decide +kernel
theorem dL_wire_12 : decode cL_wire 12 = .ok (.iconst 1, 1) := by decide +kernel
theorem dL_wire_13 : decode cL_wire 13 = .ok (.goto 4, 3) := by decide +kernel
theorem dL_wire_16 : decode cL_wire 16 = .ok (.iconst 0, 1) := by decide +kernel
theorem dL_wire_17 : decode cL_wire 17 = .ok (.ireturn, 1) := by decide +kernel
theorem dL_wire_18 : decode cL_wire 18 = .ok (.astore 5, 2) := by decide +kernel
theorem dL_wire_20 : decode cL_wire 20 = .ok (.bipush (-77), 2) := by decide +kernel
theorem dL_wire_22 : decode cL_wire 22 = .ok (.ireturn, 1) := by decide +kernel
theorem dL_wire_23 : decode cL_wire 23 = .ok (.astore 5, 2) := by decide +kernel
theorem dL_wire_25 : decode cL_wire 25 = .ok (.bipush (-78), 2) := by decide +kernel
theorem dL_wire_27 : decode cL_wire 27 = .ok (.ireturn, 1) := by decide +kernel
theorem dL_isOnRelay_0 : decode cL_isOnRelay 0 = .ok (.aload_n 0, 1) := by decide +kernel
theorem dL_isOnRelay_1 : decode cL_isOnRelay 1 = .ok (.iload_n 1, 1) := by decide +kernel
theorem dL_isOnRelay_2 : decode cL_isOnRelay 2 = .ok (.invokevirtual 147, 3) := by decide +kernel
theorem dL_isOnRelay_5 : decode cL_isOnRelay 5 = .ok (.ifCond .eq 7, 3) := by decide +kernel
theorem dL_isOnRelay_8 : decode cL_isOnRelay 8 = .ok (.iconst 1, 1) := by decide +kernel
theorem dL_isOnRelay_9 : decode cL_isOnRelay 9 = .ok (.goto 4, 3) := by decide +kernel
theorem dL_isOnRelay_12 : decode cL_isOnRelay 12 = .ok (.iconst 0, 1) := by decide +kernel
theorem dL_isOnRelay_13 : decode cL_isOnRelay 13 = .ok (.ireturn, 1) := by decide +kernel
theorem dL_isOnRelay_14 : decode cL_isOnRelay 14 = .ok (.astore_n 2, 1) := by decide +kernel
theorem dL_isOnRelay_15 : decode cL_isOnRelay 15 = .ok (.bipush (-77), 2) := by decide +kernel
theorem dL_isOnRelay_17 : decode cL_isOnRelay 17 = .ok (.ireturn, 1) := by decide +kernel
theorem dL_drive_0 : decode cL_drive 0 = .ok (.aload_n 0, 1) := by decide +kernel
theorem dL_drive_1 : decode cL_drive 1 = .ok (.iload_n 1, 1) := by decide +kernel
theorem dL_drive_2 : decode cL_drive 2 = .ok (.iload_n 2, 1) := by decide +kernel
theorem dL_drive_3 : decode cL_drive 3 = .ok (.invokevirtual 150, 3) := by decide +kernel
theorem dL_drive_6 : decode cL_drive 6 = .ok (.ireturn, 1) := by decide +kernel
theorem dL_drive_7 : decode cL_drive 7 = .ok (.astore_n 3, 1) := by decide +kernel
theorem dL_drive_8 : decode cL_drive 8 = .ok (.bipush (-77), 2) := by decide +kernel
theorem dL_drive_10 : decode cL_drive 10 = .ok (.ireturn, 1) := by decide +kernel
theorem dL_record_0 : decode cL_record 0 = .ok (.aload_n 0, 1) := by decide +kernel
theorem dL_record_1 : decode cL_record 1 = .ok (.iload_n 1, 1) := by decide +kernel
theorem dL_record_2 : decode cL_record 2 = .ok (.invokevirtual 153, 3) := by decide +kernel
theorem dL_record_5 : decode cL_record 5 = .ok (.ireturn, 1) := by decide +kernel
theorem dL_record_6 : decode cL_record 6 = .ok (.astore_n 2, 1) := by decide +kernel
theorem dL_record_7 : decode cL_record 7 = .ok (.bipush (-78), 2) := by decide +kernel
theorem dL_record_9 : decode cL_record 9 = .ok (.ireturn, 1) := by decide +kernel
theorem dL_playBack_0 : decode cL_playBack 0 = .ok (.aload_n 0, 1) := by decide +kernel
theorem dL_playBack_1 : decode cL_playBack 1 = .ok (.invokevirtual 157, 3) := by decide +kernel
theorem dL_playBack_4 : decode cL_playBack 4 = .ok (.ireturn, 1) := by decide +kernel
theorem dL_playBack_5 : decode cL_playBack 5 = .ok (.astore_n 1, 1) := by decide +kernel
theorem dL_playBack_6 : decode cL_playBack 6 = .ok (.bipush (-75), 2) := by decide +kernel
theorem dL_playBack_8 : decode cL_playBack 8 = .ok (.ireturn, 1) := by decide +kernel
theorem dL_realise_0 : decode cL_realise 0 = .ok (.aload_n 0, 1) := by decide +kernel
theorem dL_realise_1 : decode cL_realise 1 = .ok (.iload_n 1, 1) := by decide +kernel
theorem dL_realise_2 : decode cL_realise 2 = .ok (.iload_n 2, 1) := by decide +kernel
theorem dL_realise_3 : decode cL_realise 3 = .ok (.invokevirtual 161, 3) := by decide +kernel
theorem dL_realise_6 : decode cL_realise 6 = .ok (.ireturn, 1) := by decide +kernel
theorem dL_realise_7 : decode cL_realise 7 = .ok (.astore_n 3, 1) := by decide +kernel
theorem dL_realise_8 : decode cL_realise 8 = .ok (.bipush (-77), 2) := by decide +kernel
theorem dL_realise_10 : decode cL_realise 10 = .ok (.ireturn, 1) := by decide +kernel
theorem dL_realise_11 : decode cL_realise 11 = .ok (.astore_n 3, 1) := by decide +kernel
theorem dL_realise_12 : decode cL_realise 12 = .ok (.bipush (-78), 2) := by decide +kernel
theorem dL_realise_14 : decode cL_realise 14 = .ok (.ireturn, 1) := by decide +kernel
theorem dL_realise_15 : decode cL_realise 15 = .ok (.astore_n 3, 1) := by decide +kernel
theorem dL_realise_16 : decode cL_realise 16 = .ok (.bipush (-76), 2) := by decide +kernel
theorem dL_realise_18 : decode cL_realise 18 = .ok (.ireturn, 1) := by decide +kernel
theorem dL_speakingShare_0 : decode cL_speakingShare 0 = .ok (.aload_n 0, 1) := by decide +kernel
theorem dL_speakingShare_1 : decode cL_speakingShare 1 = .ok (.invokevirtual 165, 3) := by decide +kernel
theorem dL_speakingShare_4 : decode cL_speakingShare 4 = .ok (.freturn, 1) := by decide +kernel
theorem dL_speakingShare_5 : decode cL_speakingShare 5 = .ok (.astore_n 1, 1) := by decide +kernel
theorem dL_speakingShare_6 : decode cL_speakingShare 6 = .ok (.ldc 171, 2) := by decide +kernel
theorem dL_speakingShare_8 : decode cL_speakingShare 8 = .ok (.freturn, 1) := by decide +kernel
theorem dL_meanPitch_0 : decode cL_meanPitch 0 = .ok (.aload_n 0, 1) := by decide +kernel
theorem dL_meanPitch_1 : decode cL_meanPitch 1 = .ok (.invokevirtual 172, 3) := by decide +kernel
theorem dL_meanPitch_4 : decode cL_meanPitch 4 = .ok (.dreturn, 1) := by decide +kernel
theorem dL_meanPitch_5 : decode cL_meanPitch 5 = .ok (.astore_n 1, 1) := by decide +kernel
theorem dL_meanPitch_6 : decode cL_meanPitch 6 = .ok (.ldc2_w 176, 3) := by decide +kernel
theorem dL_meanPitch_9 : decode cL_meanPitch 9 = .ok (.dreturn, 1) := by decide +kernel
theorem dL_law_0 : decode cL_law 0 = .ok (.new 15, 3) := by decide +kernel
theorem dL_law_3 : decode cL_law 3 = .ok (.dup, 1) := by decide +kernel
theorem dL_law_4 : decode cL_law 4 = .ok (.invokespecial 178, 3) := by decide +kernel
