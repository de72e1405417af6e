theorem dJx00060_init_a7421_0 : decode cJx00060_init_a7421 0 = .ok (.aload_n 0, 1) := by decide +kernel
theorem dJx00060_init_a7421_1 : decode cJx00060_init_a7421 1 = .ok (.aload_n 1, 1) := by decide +kernel
theorem dJx00060_init_a7421_2 : decode cJx00060_init_a7421 2 = .ok (.invokespecial 7, 3) := by decide +kernel
theorem dJx00060_init_a7421_5 : decode cJx00060_init_a7421 5 = .ok (.return_, 1) := by decide +kernel
theorem dL_turn_0 : decode cL_turn 0 = .ok (.aload 5, 2) := by decide +kernel
theorem dL_turn_2 : decode cL_turn 2 = .ok (.iconst 0, 1) := by decide +kernel
theorem dL_turn_3 : decode cL_turn 3 = .ok (.aload_n 0, 1) := by decide +kernel
theorem dL_turn_4 : decode cL_turn 4 = .ok (.lload_n 1, 1) := by decide +kernel
theorem dL_turn_5 : decode cL_turn 5 = .ok (.lload_n 3, 1) := by decide +kernel
theorem dL_turn_6 : decode cL_turn 6 = .ok (.invokevirtual 7, 3) := by decide +kernel
theorem dL_turn_9 : decode cL_turn 9 = .ok (.i2l, 1) := by decide +kernel
theorem dL_turn_10 : decode cL_turn 10 = .ok (.lastore, 1) := by decide +kernel
theorem dL_turn_11 : decode cL_turn 11 = .ok (.goto 11, 3) := by decide +kernel
theorem dL_turn_14 : decode cL_turn 14 = .ok (.astore 6, 2) := by decide +kernel
theorem dL_turn_16 : decode cL_turn 16 = .ok (.iconst 1, 1) := by decide +kernel
theorem dL_turn_17 : decode cL_turn 17 = .ok (.ireturn, 1) := by decide +kernel
theorem dL_turn_18 : decode cL_turn 18 = .ok (.astore 6, 2) := by decide +kernel
theorem dL_turn_20 : decode cL_turn 20 = .ok (.iconst 2, 1) := by decide +kernel
theorem dL_turn_21 : decode cL_turn 21 = .ok (.ireturn, 1) := by decide +kernel
theorem dL_turn_22 : decode cL_turn 22 = .ok (.iconst 0, 1) := by decide +kernel
theorem dL_turn_23 : decode cL_turn 23 = .ok (.ireturn, 1) := by decide +kernel
theorem dL_height_0 : decode cL_height 0 = .ok (.aload_n 3, 1) := by decide +kernel
theorem dL_height_1 : decode cL_height 1 = .ok (.iconst 0, 1) := by decide +kernel
theorem dL_height_2 : decode cL_height 2 = .ok (.aload_n 0, 1) := by decide +kernel
theorem dL_height_3 : decode cL_height 3 = .ok (.lload_n 1, 1) := by decide +kernel
theorem dL_height_4 : decode cL_height 4 = .ok (.invokevirtual 17, 3) := by decide +kernel
theorem dL_height_7 : decode cL_height 7 = .ok (.lastore, 1) := by decide +kernel
theorem dL_height_8 : decode cL_height 8 = .ok (.goto 7, 3) := by decide +kernel
theorem dL_height_11 : decode cL_height 11 = .ok (.astore 4, 2) := by decide +kernel
theorem dL_height_13 : decode cL_height 13 = .ok (.iconst 1, 1) := by decide +kernel
theorem dL_height_14 : decode cL_height 14 = .ok (.ireturn, 1) := by decide +kernel
theorem dL_height_15 : decode cL_height 15 = .ok (.iconst 0, 1) := by decide +kernel
theorem dL_height_16 : decode cL_height 16 = .ok (.ireturn, 1) := by decide +kernel
theorem dL_observe_0 : decode cL_observe 0 = .ok (.aload 5, 2) := by decide +kernel
theorem dL_observe_2 : decode cL_observe 2 = .ok (.iconst 0, 1) := by decide +kernel
theorem dL_observe_3 : decode cL_observe 3 = .ok (.aload_n 0, 1) := by decide +kernel
theorem dL_observe_4 : decode cL_observe 4 = .ok (.lload_n 1, 1) := by decide +kernel
theorem dL_observe_5 : decode cL_observe 5 = .ok (.lload_n 3, 1) := by decide +kernel
theorem dL_observe_6 : decode cL_observe 6 = .ok (.invokevirtual 21, 3) := by decide +kernel
theorem dL_observe_9 : decode cL_observe 9 = .ok (.i2l, 1) := by decide +kernel
theorem dL_observe_10 : decode cL_observe 10 = .ok (.lastore, 1) := by decide +kernel
theorem dL_observe_11 : decode cL_observe 11 = .ok (.goto 11, 3) := by decide +kernel
theorem dL_observe_14 : decode cL_observe 14 = .ok (.astore 6, 2) := by decide +kernel
theorem dL_observe_16 : decode cL_observe 16 = .ok (.iconst 1, 1) := by decide +kernel
theorem dL_observe_17 : decode cL_observe 17 = .ok (.ireturn, 1) := by decide +kernel
theorem dL_observe_18 : decode cL_observe 18 = .ok (.astore 6, 2) := by decide +kernel
theorem dL_observe_20 : decode cL_observe 20 = .ok (.iconst 2, 1) := by decide +kernel
theorem dL_observe_21 : decode cL_observe 21 = .ok (.ireturn, 1) := by decide +kernel
theorem dL_observe_22 : decode cL_observe 22 = .ok (.iconst 0, 1) := by decide +kernel
theorem dL_observe_23 : decode cL_observe 23 = .ok (.ireturn, 1) := by decide +kernel
theorem dL_span_0 : decode cL_span 0 = .ok (.aload 8, 2) := by decide +kernel
theorem dL_span_2 : decode cL_span 2 = .ok (.iconst 0, 1) := by decide +kernel
theorem dL_span_3 : decode cL_span 3 = .ok (.aload_n 0, 1) := by decide +kernel
theorem dL_span_4 : decode cL_span 4 = .ok (.lload_n 1, 1) := by decide +kernel
theorem dL_span_5 : decode cL_span 5 = .ok (.lload_n 3, 1) := by decide +kernel
theorem dL_span_6 : decode cL_span 6 = .ok (.lload 5, 2) := by decide +kernel
theorem dL_span_8 : decode cL_span 8 = .ok (.iload 7, 2) := by decide +kernel
theorem dL_span_10 : decode cL_span 10 = .ok (.invokevirtual 24, 3) := by decide +kernel
theorem dL_span_13 : decode cL_span 13 = .ok (.i2l, 1) := by decide +kernel
theorem dL_span_14 : decode cL_span 14 = .ok (.lastore, 1) := by decide +kernel
theorem dL_span_15 : decode cL_span 15 = .ok (.goto 7, 3) := by decide +kernel
theorem dL_span_18 : decode cL_span 18 = .ok (.astore 9, 2) := by decide +kernel
theorem dL_span_20 : decode cL_span 20 = .ok (.iconst 1, 1) := by decide +kernel
theorem dL_span_21 : decode cL_span 21 = .ok (.ireturn, 1) := by decide +kernel
theorem dL_span_22 : decode cL_span 22 = .ok (.iconst 0, 1) := by decide +kernel
theorem dL_span_23 : decode cL_span 23 = .ok (.ireturn, 1) := by decide +kernel
theorem dL_squat_0 : decode cL_squat 0 = .ok (.aload 5, 2) := by decide +kernel
theorem dL_squat_2 : decode cL_squat 2 = .ok (.iconst 0, 1) := by decide +kernel
theorem dL_squat_3 : decode cL_squat 3 = .ok (.aload_n 0, 1) := by decide +kernel
theorem dL_squat_4 : decode cL_squat 4 = .ok (.lload_n 1, 1) := by decide +kernel
theorem dL_squat_5 : decode cL_squat 5 = .ok (.lload_n 3, 1) := by decide +kernel
theorem dL_squat_6 : decode cL_squat 6 = .ok (.invokevirtual 28, 3) := by decide +kernel
theorem dL_squat_9 : decode cL_squat 9 = .ok (.lastore, 1) := by decide +kernel
theorem dL_squat_10 : decode cL_squat 10 = .ok (.goto 7, 3) := by decide +kernel
theorem dL_squat_13 : decode cL_squat 13 = .ok (.astore 6, 2) := by decide +kernel
theorem dL_squat_15 : decode cL_squat 15 = .ok (.iconst 1, 1) := by decide +kernel
theorem dL_squat_16 : decode cL_squat 16 = .ok (.ireturn, 1) := by decide +kernel
theorem dL_squat_17 : decode cL_squat 17 = .ok (.iconst 0, 1) := by decide +kernel
theorem dL_squat_18 : decode cL_squat 18 = .ok (.ireturn, 1) := by decide +kernel
theorem dL_passing_0 : decode cL_passing 0 = .ok (.aload 5, 2) := by decide +kernel
theorem dL_passing_2 : decode cL_passing 2 = .ok (.iconst 0, 1) := by decide +kernel
theorem dL_passing_3 : decode cL_passing 3 = .ok (.aload_n 0, 1) := by decide +kernel
theorem dL_passing_4 : decode cL_passing 4 = .ok (.lload_n 1, 1) := by decide +kernel
theorem dL_passing_5 : decode cL_passing 5 = .ok (.lload_n 3, 1) := by decide +kernel
theorem dL_passing_6 : decode cL_passing 6 = .ok (.invokevirtual 32, 3) := by decide +kernel
theorem dL_passing_9 : decode cL_passing 9 = .ok (.lastore, 1) := by decide +kernel
theorem dL_passing_10 : decode cL_passing 10 = .ok (.goto 11, 3) := by decide +kernel
theorem dL_passing_13 : decode cL_passing 13 = .ok (.astore 6, 2) := by decide +kernel
theorem dL_passing_15 : decode cL_passing 15 = .ok (.iconst 1, 1) := by decide +kernel
theorem dL_passing_16 : decode cL_passing 16 = .ok (.ireturn, 1) := by decide +kernel
theorem dL_passing_17 : decode cL_passing 17 = .ok (.astore 6, 2) := by decide +kernel
theorem dL_passing_19 : decode cL_passing 19 = .ok (.iconst 2, 1) := by decide +kernel
theorem dL_passing_20 : decode cL_passing 20 = .ok (.ireturn, 1) := by decide +kernel
theorem dL_passing_21 : decode cL_passing 21 = .ok (.iconst 0, 1) := by decide +kernel
theorem dL_passing_22 : decode cL_passing 22 = .ok (.ireturn, 1) := by decide +kernel
theorem dL_cosine_0 : decode cL_cosine 0 = .ok (.aload_n 2, 1) := by decide +kernel
theorem dL_cosine_1 : decode cL_cosine 1 = .ok (.iconst 0, 1) := by decide +kernel
theorem dL_cosine_2 : decode cL_cosine 2 = .ok (.aload_n 0, 1) := by decide +kernel
theorem dL_cosine_3 : decode cL_cosine 3 = .ok (.iload_n 1, 1) := by decide +kernel
theorem dL_cosine_4 : decode cL_cosine 4 = .ok (.invokevirtual 37, 3) := by decide +kernel
theorem dL_cosine_7 : decode cL_cosine 7 = .ok (.i2l, 1) := by decide +kernel
theorem dL_cosine_8 : decode cL_cosine 8 = .ok (.lastore, 1) := by decide +kernel
theorem dL_cosine_9 : decode cL_cosine 9 = .ok (.goto 6, 3) := by decide +kernel
theorem dL_cosine_12 : decode cL_cosine 12 = .ok (.astore_n 3, 1) := by decide +kernel
theorem dL_cosine_13 : decode cL_cosine 13 = .ok (.iconst 1, 1) := by decide +kernel
theorem dL_cosine_14 : decode cL_cosine 14 = .ok (.ireturn, 1) := by decide +kernel
theorem dL_cosine_15 : decode cL_cosine 15 = .ok (.iconst 0, 1) := by decide +kernel
theorem dL_cosine_16 : decode cL_cosine 16 = .ok (.ireturn, 1) := by decide +kernel
theorem dL_draft_0 : decode cL_draft 0 = .ok (.aload 7, 2) := by decide +kernel
theorem dL_draft_2 : decode cL_draft 2 = .ok (.iconst 0, 1) := by decide +kernel
theorem dL_draft_3 : decode cL_draft 3 = .ok (.aload_n 0, 1) := by decide +kernel
theorem dL_draft_4 : decode cL_draft 4 = .ok (.lload_n 1, 1) := by decide +kernel
theorem dL_draft_5 : decode cL_draft 5 = .ok (.lload_n 3, 1) := by decide +kernel
theorem dL_draft_6 : decode cL_draft 6 = .ok (.lload 5, 2) := by decide +kernel
theorem dL_draft_8 : decode cL_draft 8 = .ok (.invokevirtual 43, 3) := by decide +kernel
theorem dL_draft_11 : decode cL_draft 11 = .ok (.lastore, 1) := by decide +kernel
theorem dL_draft_12 : decode cL_draft 12 = .ok (.goto 7, 3) := by decide +kernel
theorem dL_draft_15 : decode cL_draft 15 = .ok (.astore 8, 2) := by decide +kernel
theorem dL_draft_17 : decode cL_draft 17 = .ok (.iconst 1, 1) := by decide +kernel
theorem dL_draft_18 : decode cL_draft 18 = .ok (.ireturn, 1) := by decide +kernel
theorem dL_draft_19 : decode cL_draft 19 = .ok (.iconst 0, 1) := by decide +kernel
theorem dL_draft_20 : decode cL_draft 20 = .ok (.ireturn, 1) := by decide +kernel
theorem dL_place_0 : decode cL_place 0 = .ok (.aload 5, 2) := by decide +kernel
theorem dL_place_2 : decode cL_place 2 = .ok (.iconst 0, 1) := by decide +kernel
theorem dL_place_3 : decode cL_place 3 = .ok (.aload_n 0, 1) := by decide +kernel
theorem dL_place_4 : decode cL_place 4 = .ok (.lload_n 1, 1) := by decide +kernel
theorem dL_place_5 : decode cL_place 5 = .ok (.lload_n 3, 1) := by decide +kernel
theorem dL_place_6 : decode cL_place 6 = .ok (.invokevirtual 47, 3) := by decide +kernel
theorem dL_place_9 : decode cL_place 9 = .ok (.i2l, 1) := by decide +kernel
theorem dL_place_10 : decode cL_place 10 = .ok (.lastore, 1) := by decide +kernel
theorem dL_place_11 : decode cL_place 11 = .ok (.goto 11, 3) := by decide +kernel
theorem dL_place_14 : decode cL_place 14 = .ok (.astore 6, 2) := by decide +kernel
theorem dL_place_16 : decode cL_place 16 = .ok (.iconst 1, 1) := by decide +kernel
theorem dL_place_17 : decode cL_place 17 = .ok (.ireturn, 1) := by decide +kernel
theorem dL_place_18 : decode cL_place 18 = .ok (.astore 6, 2) := by decide +kernel
theorem dL_place_20 : decode cL_place 20 = .ok (.iconst 2, 1) := by decide +kernel
theorem dL_place_21 : decode cL_place 21 = .ok (.ireturn, 1) := by decide +kernel
theorem dL_place_22 : decode cL_place 22 = .ok (.iconst 0, 1) := by decide +kernel
theorem dL_place_23 : decode cL_place 23 = .ok (.ireturn, 1) := by decide +kernel
theorem dL_depth_0 : decode cL_depth 0 = .ok (.aload 4, 2) := by decide +kernel
theorem dL_depth_2 : decode cL_depth 2 = .ok (.iconst 0, 1) := by decide +kernel
theorem dL_depth_3 : decode cL_depth 3 = .ok (.aload_n 0, 1) := by decide +kernel
theorem dL_depth_4 : decode cL_depth 4 = .ok (.iload_n 1, 1) := by decide +kernel
theorem dL_depth_5 : decode cL_depth 5 = .ok (.lload_n 2, 1) := by decide +kernel
theorem dL_depth_6 : decode cL_depth 6 = .ok (.invokevirtual 50, 3) := by decide +kernel
theorem dL_depth_9 : decode cL_depth 9 = .ok (.lastore, 1) := by decide +kernel
theorem dL_depth_10 : decode cL_depth 10 = .ok (.goto 11, 3) := by decide +kernel
theorem dL_depth_13 : decode cL_depth 13 = .ok (.astore 5, 2) := by decide +kernel
theorem dL_depth_15 : decode cL_depth 15 = .ok (.iconst 1, 1) := by decide +kernel
theorem dL_depth_16 : decode cL_depth 16 = .ok (.ireturn, 1) := by decide +kernel
theorem dL_depth_17 : decode cL_depth 17 = .ok (.astore 5, 2) := by decide +kernel
theorem dL_depth_19 : decode cL_depth 19 = .ok (.iconst 2, 1) := by decide +kernel
theorem dL_depth_20 : decode cL_depth 20 = .ok (.ireturn, 1) := by decide +kernel
theorem dL_depth_21 : decode cL_depth 21 = .ok (.iconst 0, 1) := by decide +kernel
theorem dL_depth_22 : decode cL_depth 22 = .ok (.ireturn, 1) := by decide +kernel
theorem dL_sail_0 : decode cL_sail 0 = .ok (.aload 8, 2) := by decide +kernel
theorem dL_sail_2 : decode cL_sail 2 = .ok (.iconst 0, 1) := by decide +kernel
theorem dL_sail_3 : decode cL_sail 3 = .ok (.aload_n 0, 1) := by decide +kernel
theorem dL_sail_4 : decode cL_sail 4 = .ok (.lload_n 1, 1) := by decide +kernel
theorem dL_sail_5 : decode cL_sail 5 = .ok (.lload_n 3, 1) := by decide +kernel
theorem dL_sail_6 : decode cL_sail 6 = .ok (.lload 5, 2) := by decide +kernel
theorem dL_sail_8 : decode cL_sail 8 = .ok (.iload 7, 2) := by decide +kernel
theorem dL_sail_10 : decode cL_sail 10 = .ok (.invokevirtual 56, 3) := by decide +kernel
theorem dL_sail_13 : decode cL_sail 13 = .ok (.i2l, 1) := by decide +kernel
theorem dL_sail_14 : decode cL_sail 14 = .ok (.lastore, 1) := by decide +kernel
theorem dL_sail_15 : decode cL_sail 15 = .ok (.goto 15, 3) := by decide +kernel
theorem dL_sail_18 : decode cL_sail 18 = .ok (.astore 9, 2) := by decide +kernel
theorem dL_sail_20 : decode cL_sail 20 = .ok (.iconst 1, 1) := by decide +kernel
theorem dL_sail_21 : decode cL_sail 21 = .ok (.ireturn, 1) := by decide +kernel
theorem dL_sail_22 : decode cL_sail 22 = .ok (.astore 9, 2) := by decide +kernel
theorem dL_sail_24 : decode cL_sail 24 = .ok (.iconst 2, 1) := by decide +kernel
theorem dL_sail_25 : decode cL_sail 25 = .ok (.ireturn, 1) := by decide +kernel
theorem dL_sail_26 : decode cL_sail 26 = .ok (.astore 9, 2) := by decide +kernel
theorem dL_sail_28 : decode cL_sail 28 = .ok (.iconst 3, 1) := by decide +kernel
theorem dL_sail_29 : decode cL_sail 29 = .ok (.ireturn, 1) := by decide +kernel
theorem dL_sail_30 : decode cL_sail 30 = .ok (.iconst 0, 1) := by decide +kernel
theorem dL_sail_31 : decode cL_sail 31 = .ok (.ireturn, 1) := by decide +kernel
theorem dL_read_0 : decode cL_read 0 = .ok (.aload_n 3, 1) := by decide +kernel
theorem dL_read_1 : decode cL_read 1 = .ok (.iconst 0, 1) := by decide +kernel
theorem dL_read_2 : decode cL_read 2 = .ok (.aload_n 0, 1) := by decide +kernel
theorem dL_read_3 : decode cL_read 3 = .ok (.iload_n 1, 1) := by decide +kernel
theorem dL_read_4 : decode cL_read 4 = .ok (.iload_n 2, 1) := by decide +kernel
theorem dL_read_5 : decode cL_read 5 = .ok (.invokevirtual 59, 3) := by decide +kernel
theorem dL_read_8 : decode cL_read 8 = .ok (.lastore, 1) := by decide +kernel
theorem dL_read_9 : decode cL_read 9 = .ok (.goto 7, 3) := by decide +kernel
theorem dL_read_12 : decode cL_read 12 = .ok (.astore 4, 2) := by decide +kernel
theorem dL_read_14 : decode cL_read 14 = .ok (.iconst 1, 1) := by decide +kernel
theorem dL_read_15 : decode cL_read 15 = .ok (.ireturn, 1) := by decide +kernel
theorem dL_read_16 : decode cL_read 16 = .ok (.iconst 0, 1) := by decide +kernel
theorem dL_read_17 : decode cL_read 17 = .ok (.ireturn, 1) := by decide +kernel
