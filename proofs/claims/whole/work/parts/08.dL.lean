theorem dL_feed_0 : decode cL_feed 0 = .ok (.aload_n 3, 1) := by decide +kernel
theorem dL_feed_1 : decode cL_feed 1 = .ok (.iconst 0, 1) := by decide +kernel
theorem dL_feed_2 : decode cL_feed 2 = .ok (.aload_n 0, 1) := by decide +kernel
theorem dL_feed_3 : decode cL_feed 3 = .ok (.lload_n 1, 1) := by decide +kernel
theorem dL_feed_4 : decode cL_feed 4 = .ok (.invokevirtual 7, 3) := by decide +kernel
theorem dL_feed_7 : decode cL_feed 7 = .ok (.i2l, 1) := by decide +kernel
theorem dL_feed_8 : decode cL_feed 8 = .ok (.lastore, 1) := by decide +kernel
theorem dL_feed_9 : decode cL_feed 9 = .ok (.goto 11, 3) := by decide +kernel
theorem dL_feed_12 : decode cL_feed 12 = .ok (.astore 4, 2) := by decide +kernel
theorem dL_feed_14 : decode cL_feed 14 = .ok (.iconst 1, 1) := by decide +kernel
theorem dL_feed_15 : decode cL_feed 15 = .ok (.ireturn, 1) := by decide +kernel
theorem dL_feed_16 : decode cL_feed 16 = .ok (.astore 4, 2) := by decide +kernel
theorem dL_feed_18 : decode cL_feed 18 = .ok (.iconst 2, 1) := by decide +kernel
theorem dL_feed_19 : decode cL_feed 19 = .ok (.ireturn, 1) := by decide +kernel
theorem dL_feed_20 : decode cL_feed 20 = .ok (.iconst 0, 1) := by decide +kernel
theorem dL_feed_21 : decode cL_feed 21 = .ok (.ireturn, 1) := by decide +kernel
theorem dL_cut_0 : decode cL_cut 0 = .ok (.aload_n 2, 1) := by decide +kernel
theorem dL_cut_1 : decode cL_cut 1 = .ok (.iconst 0, 1) := by decide +kernel
theorem dL_cut_2 : decode cL_cut 2 = .ok (.aload_n 0, 1) := by decide +kernel
theorem dL_cut_3 : decode cL_cut 3 = .ok (.iload_n 1, 1) := by decide +kernel
theorem dL_cut_4 : decode cL_cut 4 = .ok (.invokevirtual 17, 3) := by decide +kernel
theorem dL_cut_7 : decode cL_cut 7 = .ok (.i2l, 1) := by decide +kernel
theorem dL_cut_8 : decode cL_cut 8 = .ok (.lastore, 1) := by decide +kernel
theorem dL_cut_9 : decode cL_cut 9 = .ok (.goto 6, 3) := by decide +kernel
theorem dL_cut_12 : decode cL_cut 12 = .ok (.astore_n 3, 1) := by decide +kernel
theorem dL_cut_13 : decode cL_cut 13 = .ok (.iconst 1, 1) := by decide +kernel
theorem dL_cut_14 : decode cL_cut 14 = .ok (.ireturn, 1) := by decide +kernel
theorem dL_cut_15 : decode cL_cut 15 = .ok (.iconst 0, 1) := by decide +kernel
theorem dL_cut_16 : decode cL_cut 16 = .ok (.ireturn, 1) := by decide +kernel
theorem dL_set_0 : decode cL_set 0 = .ok (.aload_n 3, 1) := by decide +kernel
theorem dL_set_1 : decode cL_set 1 = .ok (.iconst 0, 1) := by decide +kernel
theorem dL_set_2 : decode cL_set 2 = .ok (.aload_n 0, 1) := by decide +kernel
theorem dL_set_3 : decode cL_set 3 = .ok (.iload_n 1, 1) := by decide +kernel
theorem dL_set_4 : decode cL_set 4 = .ok (.iload_n 2, 1) := by decide +kernel
theorem dL_set_5 : decode cL_set 5 = .ok (.invokevirtual 21, 3) := by decide +kernel
theorem dL_set_8 : decode cL_set 8 = .ok (.i2l, 1) := by decide +kernel
theorem dL_set_9 : decode cL_set 9 = .ok (.lastore, 1) := by decide +kernel
theorem dL_set_10 : decode cL_set 10 = .ok (.goto 11, 3) := by decide +kernel
theorem dL_set_13 : decode cL_set 13 = .ok (.astore 4, 2) := by decide +kernel
theorem dL_set_15 : decode cL_set 15 = .ok (.iconst 1, 1) := by decide +kernel
theorem dL_set_16 : decode cL_set 16 = .ok (.ireturn, 1) := by decide +kernel
theorem dL_set_17 : decode cL_set 17 = .ok (.astore 4, 2) := by decide +kernel
theorem dL_set_19 : decode cL_set 19 = .ok (.iconst 2, 1) := by decide +kernel
theorem dL_set_20 : decode cL_set 20 = .ok (.ireturn, 1) := by decide +kernel
theorem dL_set_21 : decode cL_set 21 = .ok (.iconst 0, 1) := by decide +kernel
theorem dL_set_22 : decode cL_set 22 = .ok (.ireturn, 1) := by decide +kernel
theorem dL_byteAt_0 : decode cL_byteAt 0 = .ok (.aload_n 2, 1) := by decide +kernel
theorem dL_byteAt_1 : decode cL_byteAt 1 = .ok (.iconst 0, 1) := by decide +kernel
theorem dL_byteAt_2 : decode cL_byteAt 2 = .ok (.aload_n 0, 1) := by decide +kernel
theorem dL_byteAt_3 : decode cL_byteAt 3 = .ok (.iload_n 1, 1) := by decide +kernel
theorem dL_byteAt_4 : decode cL_byteAt 4 = .ok (.invokevirtual 27, 3) := by decide +kernel
theorem dL_byteAt_7 : decode cL_byteAt 7 = .ok (.i2l, 1) := by decide +kernel
theorem dL_byteAt_8 : decode cL_byteAt 8 = .ok (.lastore, 1) := by decide +kernel
theorem dL_byteAt_9 : decode cL_byteAt 9 = .ok (.goto 6, 3) := by decide +kernel
theorem dL_byteAt_12 : decode cL_byteAt 12 = .ok (.astore_n 3, 1) := by decide +kernel
theorem dL_byteAt_13 : decode cL_byteAt 13 = .ok (.iconst 1, 1) := by decide +kernel
theorem dL_byteAt_14 : decode cL_byteAt 14 = .ok (.ireturn, 1) := by decide +kernel
theorem dL_byteAt_15 : decode cL_byteAt 15 = .ok (.iconst 0, 1) := by decide +kernel
theorem dL_byteAt_16 : decode cL_byteAt 16 = .ok (.ireturn, 1) := by decide +kernel
theorem dL_setEscape_0 : decode cL_setEscape 0 = .ok (.aload_n 2, 1) := by decide +kernel
theorem dL_setEscape_1 : decode cL_setEscape 1 = .ok (.iconst 0, 1) := by decide +kernel
theorem dL_setEscape_2 : decode cL_setEscape 2 = .ok (.aload_n 0, 1) := by decide +kernel
theorem dL_setEscape_3 : decode cL_setEscape 3 = .ok (.iload_n 1, 1) := by decide +kernel
theorem dL_setEscape_4 : decode cL_setEscape 4 = .ok (.invokevirtual 30, 3) := by decide +kernel
theorem dL_setEscape_7 : decode cL_setEscape 7 = .ok (.i2l, 1) := by decide +kernel
theorem dL_setEscape_8 : decode cL_setEscape 8 = .ok (.lastore, 1) := by decide +kernel
theorem dL_setEscape_9 : decode cL_setEscape 9 = .ok (.goto 6, 3) := by decide +kernel
theorem dL_setEscape_12 : decode cL_setEscape 12 = .ok (.astore_n 3, 1) := by decide +kernel
theorem dL_setEscape_13 : decode cL_setEscape 13 = .ok (.iconst 1, 1) := by decide +kernel
theorem dL_setEscape_14 : decode cL_setEscape 14 = .ok (.ireturn, 1) := by decide +kernel
theorem dL_setEscape_15 : decode cL_setEscape 15 = .ok (.iconst 0, 1) := by decide +kernel
theorem dL_setEscape_16 : decode cL_setEscape 16 = .ok (.ireturn, 1) := by decide +kernel
theorem dL_setWord_0 : decode cL_setWord 0 = .ok (.aload 5, 2) := by decide +kernel
theorem dL_setWord_2 : decode cL_setWord 2 = .ok (.iconst 0, 1) := by decide +kernel
theorem dL_setWord_3 : decode cL_setWord 3 = .ok (.aload_n 0, 1) := by decide +kernel
theorem dL_setWord_4 : decode cL_setWord 4 = .ok (.iload_n 1, 1) := by decide +kernel
theorem dL_setWord_5 : decode cL_setWord 5 = .ok (.iload_n 2, 1) := by decide +kernel
theorem dL_setWord_6 : decode cL_setWord 6 = .ok (.iload_n 3, 1) := by decide +kernel
theorem dL_setWord_7 : decode cL_setWord 7 = .ok (.iload 4, 2) := by decide +kernel
theorem dL_setWord_9 : decode cL_setWord 9 = .ok (.invokevirtual 33, 3) := by decide +kernel
theorem dL_setWord_12 : decode cL_setWord 12 = .ok (.ifCond .eq 7, 3) := by decide +kernel
theorem dL_setWord_15 : decode cL_setWord 15 = .ok (.lconst 1, 1) := by decide +kernel
theorem dL_setWord_16 : decode cL_setWord 16 = .ok (.goto 4, 3) := by decide +kernel
theorem dL_setWord_19 : decode cL_setWord 19 = .ok (.lconst 0, 1) := by decide +kernel
theorem dL_setWord_20 : decode cL_setWord 20 = .ok (.lastore, 1) := by decide +kernel
theorem dL_setWord_21 : decode cL_setWord 21 = .ok (.goto 11, 3) := by decide +kernel
theorem dL_setWord_24 : decode cL_setWord 24 = .ok (.astore 6, 2) := by decide +kernel
theorem dL_setWord_26 : decode cL_setWord 26 = .ok (.iconst 1, 1) := by decide +kernel
theorem dL_setWord_27 : decode cL_setWord 27 = .ok (.ireturn, 1) := by decide +kernel
theorem dL_setWord_28 : decode cL_setWord 28 = .ok (.astore 6, 2) := by decide +kernel
theorem dL_setWord_30 : decode cL_setWord 30 = .ok (.iconst 2, 1) := by decide +kernel
theorem dL_setWord_31 : decode cL_setWord 31 = .ok (.ireturn, 1) := by decide +kernel
theorem dL_setWord_32 : decode cL_setWord 32 = .ok (.iconst 0, 1) := by decide +kernel
theorem dL_setWord_33 : decode cL_setWord 33 = .ok (.ireturn, 1) := by decide +kernel
theorem dL_setKind_0 : decode cL_setKind 0 = .ok (.aload 5, 2) := by decide +kernel
theorem dL_setKind_2 : decode cL_setKind 2 = .ok (.iconst 0, 1) := by decide +kernel
theorem dL_setKind_3 : decode cL_setKind 3 = .ok (.aload_n 0, 1) := by decide +kernel
theorem dL_setKind_4 : decode cL_setKind 4 = .ok (.iload_n 1, 1) := by decide +kernel
theorem dL_setKind_5 : decode cL_setKind 5 = .ok (.iload_n 2, 1) := by decide +kernel
theorem dL_setKind_6 : decode cL_setKind 6 = .ok (.iload_n 3, 1) := by decide +kernel
theorem dL_setKind_7 : decode cL_setKind 7 = .ok (.iload 4, 2) := by decide +kernel
theorem dL_setKind_9 : decode cL_setKind 9 = .ok (.invokevirtual 37, 3) := by decide +kernel
theorem dL_setKind_12 : decode cL_setKind 12 = .ok (.i2l, 1) := by decide +kernel
theorem dL_setKind_13 : decode cL_setKind 13 = .ok (.lastore, 1) := by decide +kernel
theorem dL_setKind_14 : decode cL_setKind 14 = .ok (.goto 11, 3) := by decide +kernel
theorem dL_setKind_17 : decode cL_setKind 17 = .ok (.astore 6, 2) := by decide +kernel
theorem dL_setKind_19 : decode cL_setKind 19 = .ok (.iconst 1, 1) := by decide +kernel
theorem dL_setKind_20 : decode cL_setKind 20 = .ok (.ireturn, 1) := by decide +kernel
theorem dL_setKind_21 : decode cL_setKind 21 = .ok (.astore 6, 2) := by decide +kernel
theorem dL_setKind_23 : decode cL_setKind 23 = .ok (.iconst 2, 1) := by decide +kernel
theorem dL_setKind_24 : decode cL_setKind 24 = .ok (.ireturn, 1) := by decide +kernel
theorem dL_setKind_25 : decode cL_setKind 25 = .ok (.iconst 0, 1) := by decide +kernel
theorem dL_setKind_26 : decode cL_setKind 26 = .ok (.ireturn, 1) := by decide +kernel
theorem dL_mark_0 : decode cL_mark 0 = .ok (.aload_n 2, 1) := by decide +kernel
theorem dL_mark_1 : decode cL_mark 1 = .ok (.iconst 0, 1) := by decide +kernel
theorem dL_mark_2 : decode cL_mark 2 = .ok (.aload_n 0, 1) := by decide +kernel
theorem dL_mark_3 : decode cL_mark 3 = .ok (.iload_n 1, 1) := by decide +kernel
theorem dL_mark_4 : decode cL_mark 4 = .ok (.invokevirtual 41, 3) := by decide +kernel
theorem dL_mark_7 : decode cL_mark 7 = .ok (.i2l, 1) := by decide +kernel
theorem dL_mark_8 : decode cL_mark 8 = .ok (.lastore, 1) := by decide +kernel
theorem dL_mark_9 : decode cL_mark 9 = .ok (.goto 6, 3) := by decide +kernel
theorem dL_mark_12 : decode cL_mark 12 = .ok (.astore_n 3, 1) := by decide +kernel
theorem dL_mark_13 : decode cL_mark 13 = .ok (.iconst 1, 1) := by decide +kernel
theorem dL_mark_14 : decode cL_mark 14 = .ok (.ireturn, 1) := by decide +kernel
theorem dL_mark_15 : decode cL_mark 15 = .ok (.iconst 0, 1) := by decide +kernel
theorem dL_mark_16 : decode cL_mark 16 = .ok (.ireturn, 1) := by decide +kernel
theorem dL_islandCount_0 : decode cL_islandCount 0 = .ok (.aload_n 1, 1) := by decide +kernel
theorem dL_islandCount_1 : decode cL_islandCount 1 = .ok (.iconst 0, 1) := by decide +kernel
theorem dL_islandCount_2 : decode cL_islandCount 2 = .ok (.aload_n 0, 1) := by decide +kernel
theorem dL_islandCount_3 : decode cL_islandCount 3 = .ok (.invokevirtual 44, 3) := by decide +kernel
theorem dL_islandCount_6 : decode cL_islandCount 6 = .ok (.i2l, 1) := by decide +kernel
theorem dL_islandCount_7 : decode cL_islandCount 7 = .ok (.lastore, 1) := by decide +kernel
theorem dL_islandCount_8 : decode cL_islandCount 8 = .ok (.goto 6, 3) := by decide +kernel
theorem dL_islandCount_11 : decode cL_islandCount 11 = .ok (.astore_n 2, 1) := by decide +kernel
theorem dL_islandCount_12 : decode cL_islandCount 12 = .ok (.iconst 1, 1) := by decide +kernel
theorem dL_islandCount_13 : decode cL_islandCount 13 = .ok (.ireturn, 1) := by decide +kernel
theorem dL_islandCount_14 : decode cL_islandCount 14 = .ok (.iconst 0, 1) := by decide +kernel
theorem dL_islandCount_15 : decode cL_islandCount 15 = .ok (.ireturn, 1) := by decide +kernel
theorem dL_kind_0 : decode cL_kind 0 = .ok (.aload_n 2, 1) := by decide +kernel
theorem dL_kind_1 : decode cL_kind 1 = .ok (.iconst 0, 1) := by decide +kernel
theorem dL_kind_2 : decode cL_kind 2 = .ok (.aload_n 0, 1) := by decide +kernel
theorem dL_kind_3 : decode cL_kind 3 = .ok (.iload_n 1, 1) := by decide +kernel
theorem dL_kind_4 : decode cL_kind 4 = .ok (.invokevirtual 48, 3) := by decide +kernel
theorem dL_kind_7 : decode cL_kind 7 = .ok (.i2l, 1) := by decide +kernel
theorem dL_kind_8 : decode cL_kind 8 = .ok (.lastore, 1) := by decide +kernel
theorem dL_kind_9 : decode cL_kind 9 = .ok (.goto 9, 3) := by decide +kernel
theorem dL_kind_12 : decode cL_kind 12 = .ok (.astore_n 3, 1) := by decide +kernel
theorem dL_kind_13 : decode cL_kind 13 = .ok (.iconst 1, 1) := by decide +kernel
theorem dL_kind_14 : decode cL_kind 14 = .ok (.ireturn, 1) := by decide +kernel
theorem dL_kind_15 : decode cL_kind 15 = .ok (.astore_n 3, 1) := by decide +kernel
theorem dL_kind_16 : decode cL_kind 16 = .ok (.iconst 2, 1) := by decide +kernel
theorem dL_kind_17 : decode cL_kind 17 = .ok (.ireturn, 1) := by decide +kernel
theorem dL_kind_18 : decode cL_kind 18 = .ok (.iconst 0, 1) := by decide +kernel
theorem dL_kind_19 : decode cL_kind 19 = .ok (.ireturn, 1) := by decide +kernel
theorem dL_start_0 : decode cL_start 0 = .ok (.aload_n 2, 1) := by decide +kernel
theorem dL_start_1 : decode cL_start 1 = .ok (.iconst 0, 1) := by decide +kernel
theorem dL_start_2 : decode cL_start 2 = .ok (.aload_n 0, 1) := by decide +kernel
theorem dL_start_3 : decode cL_start 3 = .ok (.iload_n 1, 1) := by decide +kernel
theorem dL_start_4 : decode cL_start 4 = .ok (.invokevirtual 51, 3) := by decide +kernel
theorem dL_start_7 : decode cL_start 7 = .ok (.i2l, 1) := by decide +kernel
theorem dL_start_8 : decode cL_start 8 = .ok (.lastore, 1) := by decide +kernel
theorem dL_start_9 : decode cL_start 9 = .ok (.goto 9, 3) := by decide +kernel
theorem dL_start_12 : decode cL_start 12 = .ok (.astore_n 3, 1) := by decide +kernel
theorem dL_start_13 : decode cL_start 13 = .ok (.iconst 1, 1) := by decide +kernel
theorem dL_start_14 : decode cL_start 14 = .ok (.ireturn, 1) := by decide +kernel
theorem dL_start_15 : decode cL_start 15 = .ok (.astore_n 3, 1) := by decide +kernel
theorem dL_start_16 : decode cL_start 16 = .ok (.iconst 2, 1) := by decide +kernel
theorem dL_start_17 : decode cL_start 17 = .ok (.ireturn, 1) := by decide +kernel
theorem dL_start_18 : decode cL_start 18 = .ok (.iconst 0, 1) := by decide +kernel
theorem dL_start_19 : decode cL_start 19 = .ok (.ireturn, 1) := by decide +kernel
theorem dL_end_0 : decode cL_end 0 = .ok (.aload_n 2, 1) := by decide +kernel
theorem dL_end_1 : decode cL_end 1 = .ok (.iconst 0, 1) := by decide +kernel
theorem dL_end_2 : decode cL_end 2 = .ok (.aload_n 0, 1) := by decide +kernel
theorem dL_end_3 : decode cL_end 3 = .ok (.iload_n 1, 1) := by decide +kernel
theorem dL_end_4 : decode cL_end 4 = .ok (.invokevirtual 54, 3) := by decide +kernel
theorem dL_end_7 : decode cL_end 7 = .ok (.i2l, 1) := by decide +kernel
theorem dL_end_8 : decode cL_end 8 = .ok (.lastore, 1) := by decide +kernel
theorem dL_end_9 : decode cL_end 9 = .ok (.goto 9, 3) := by decide +kernel
theorem dL_end_12 : decode cL_end 12 = .ok (.astore_n 3, 1) := by decide +kernel
theorem dL_end_13 : decode cL_end 13 = .ok (.iconst 1, 1) := by decide +kernel
theorem dL_end_14 : decode cL_end 14 = .ok (.ireturn, 1) := by decide +kernel
theorem dL_end_15 : decode cL_end 15 = .ok (.astore_n 3, 1) := by decide +kernel
theorem dL_end_16 : decode cL_end 16 = .ok (.iconst 2, 1) := by decide +kernel
theorem dL_end_17 : decode cL_end 17 = .ok (.ireturn, 1) := by decide +kernel
theorem dL_end_18 : decode cL_end 18 = .ok (.iconst 0, 1) := by decide +kernel
theorem dL_end_19 : decode cL_end 19 = .ok (.ireturn, 1) := by decide +kernel
theorem dL_state_0 : decode cL_state 0 = .ok (.aload_n 2, 1) := by decide +kernel
theorem dL_state_1 : decode cL_state 1 = .ok (.iconst 0, 1) := by decide +kernel
theorem dL_state_2 : decode cL_state 2 = .ok (.aload_n 0, 1) := by decide +kernel
theorem dL_state_3 : decode cL_state 3 = .ok (.iload_n 1, 1) := by decide +kernel
theorem dL_state_4 : decode cL_state 4 = .ok (.invokevirtual 57, 3) := by decide +kernel
theorem dL_state_7 : decode cL_state 7 = .ok (.i2l, 1) := by decide +kernel
theorem dL_state_8 : decode cL_state 8 = .ok (.lastore, 1) := by decide +kernel
theorem dL_state_9 : decode cL_state 9 = .ok (.goto 9, 3) := by decide +kernel
theorem dL_state_12 : decode cL_state 12 = .ok (.astore_n 3, 1) := by decide +kernel
theorem dL_state_13 : decode cL_state 13 = .ok (.iconst 1, 1) := by decide +kernel
theorem dL_state_14 : decode cL_state 14 = .ok (.ireturn, 1) := by decide +kernel
theorem dL_state_15 : decode cL_state 15 = .ok (.astore_n 3, 1) := by decide +kernel
theorem dL_state_16 : decode cL_state 16 = .ok (.iconst 2, 1) := by decide +kernel
theorem dL_state_17 : decode cL_state 17 = .ok (.ireturn, 1) := by decide +kernel
theorem dL_state_18 : decode cL_state 18 = .ok (.iconst 0, 1) := by decide +kernel
theorem dL_state_19 : decode cL_state 19 = .ok (.ireturn, 1) := by decide +kernel
theorem dL_parent_0 : decode cL_parent 0 = .ok (.aload_n 2, 1) := by decide +kernel
theorem dL_parent_1 : decode cL_parent 1 = .ok (.iconst 0, 1) := by decide +kernel
theorem dL_parent_2 : decode cL_parent 2 = .ok (.aload_n 0, 1) := by decide +kernel
theorem dL_parent_3 : decode cL_parent 3 = .ok (.iload_n 1, 1) := by decide +kernel
theorem dL_parent_4 : decode cL_parent 4 = .ok (.invokevirtual 60, 3) := by decide +kernel
theorem dL_parent_7 : decode cL_parent 7 = .ok (.i2l, 1) := by decide +kernel
theorem dL_parent_8 : decode cL_parent 8 = .ok (.lastore, 1) := by decide +kernel
theorem dL_parent_9 : decode cL_parent 9 = .ok (.goto 9, 3) := by decide +kernel
theorem dL_parent_12 : decode cL_parent 12 = .ok (.astore_n 3, 1) := by decide +kernel
theorem dL_parent_13 : decode cL_parent 13 = .ok (.iconst 1, 1) := by decide +kernel
theorem dL_parent_14 : decode cL_parent 14 = .ok (.ireturn, 1) := by decide +kernel
theorem dL_parent_15 : decode cL_parent 15 = .ok (.astore_n 3, 1) := by decide +kernel
theorem dL_parent_16 : decode cL_parent 16 = .ok (.iconst 2, 1) := by decide +kernel
theorem dL_parent_17 : decode cL_parent 17 = .ok (.ireturn, 1) := by decide +kernel
theorem dL_parent_18 : decode cL_parent 18 = .ok (.iconst 0, 1) := by decide +kernel
theorem dL_parent_19 : decode cL_parent 19 = .ok (.ireturn, 1) := by decide +kernel
theorem dL_depth_0 : decode cL_depth 0 = .ok (.aload_n 2, 1) := by decide +kernel
theorem dL_depth_1 : decode cL_depth 1 = .ok (.iconst 0, 1) := by decide +kernel
theorem dL_depth_2 : decode cL_depth 2 = .ok (.aload_n 0, 1) := by decide +kernel
theorem dL_depth_3 : decode cL_depth 3 = .ok (.iload_n 1, 1) := by decide +kernel
theorem dL_depth_4 : decode cL_depth 4 = .ok (.invokevirtual 63, 3) := by decide +kernel
theorem dL_depth_7 : decode cL_depth 7 = .ok (.i2l, 1) := by decide +kernel
theorem dL_depth_8 : decode cL_depth 8 = .ok (.lastore, 1) := by decide +kernel
theorem dL_depth_9 : decode cL_depth 9 = .ok (.goto 9, 3) := by decide +kernel
theorem dL_depth_12 : decode cL_depth 12 = .ok (.astore_n 3, 1) := by decide +kernel
theorem dL_depth_13 : decode cL_depth 13 = .ok (.iconst 1, 1) := by decide +kernel
theorem dL_depth_14 : decode cL_depth 14 = .ok (.ireturn, 1) := by decide +kernel
theorem dL_depth_15 : decode cL_depth 15 = .ok (.astore_n 3, 1) := by decide +kernel
theorem dL_depth_16 : decode cL_depth 16 = .ok (.iconst 2, 1) := by decide +kernel
theorem dL_depth_17 : decode cL_depth 17 = .ok (.ireturn, 1) := by decide +kernel
theorem dL_depth_18 : decode cL_depth 18 = .ok (.iconst 0, 1) := by decide +kernel
theorem dL_depth_19 : decode cL_depth 19 = .ok (.ireturn, 1) := by decide +kernel
theorem dL_own_0 : decode cL_own 0 = .ok (.aload_n 2, 1) := by decide +kernel
theorem dL_own_1 : decode cL_own 1 = .ok (.iconst 0, 1) := by decide +kernel
theorem dL_own_2 : decode cL_own 2 = .ok (.aload_n 0, 1) := by decide +kernel
theorem dL_own_3 : decode cL_own 3 = .ok (.iload_n 1, 1) := by decide +kernel
theorem dL_own_4 : decode cL_own 4 = .ok (.invokevirtual 66, 3) := by decide +kernel
theorem dL_own_7 : decode cL_own 7 = .ok (.i2l, 1) := by decide +kernel
theorem dL_own_8 : decode cL_own 8 = .ok (.lastore, 1) := by decide +kernel
theorem dL_own_9 : decode cL_own 9 = .ok (.goto 9, 3) := by decide +kernel
theorem dL_own_12 : decode cL_own 12 = .ok (.astore_n 3, 1) := by decide +kernel
theorem dL_own_13 : decode cL_own 13 = .ok (.iconst 1, 1) := by decide +kernel
theorem dL_own_14 : decode cL_own 14 = .ok (.ireturn, 1) := by decide +kernel
theorem dL_own_15 : decode cL_own 15 = .ok (.astore_n 3, 1) := by decide +kernel
theorem dL_own_16 : decode cL_own 16 = .ok (.iconst 2, 1) := by decide +kernel
theorem dL_own_17 : decode cL_own 17 = .ok (.ireturn, 1) := by decide +kernel
theorem dL_own_18 : decode cL_own 18 = .ok (.iconst 0, 1) := by decide +kernel
theorem dL_own_19 : decode cL_own 19 = .ok (.ireturn, 1) := by decide +kernel
theorem dL_at_0 : decode cL_at 0 = .ok (.aload_n 2, 1) := by decide +kernel
theorem dL_at_1 : decode cL_at 1 = .ok (.iconst 0, 1) := by decide +kernel
theorem dL_at_2 : decode cL_at 2 = .ok (.aload_n 0, 1) := by decide +kernel
theorem dL_at_3 : decode cL_at 3 = .ok (.iload_n 1, 1) := by decide +kernel
theorem dL_at_4 : decode cL_at 4 = .ok (.invokevirtual 69, 3) := by decide +kernel
theorem dL_at_7 : decode cL_at 7 = .ok (.i2l, 1) := by decide +kernel
theorem dL_at_8 : decode cL_at 8 = .ok (.lastore, 1) := by decide +kernel
theorem dL_at_9 : decode cL_at 9 = .ok (.goto 9, 3) := by decide +kernel
theorem dL_at_12 : decode cL_at 12 = .ok (.astore_n 3, 1) := by decide +kernel
theorem dL_at_13 : decode cL_at 13 = .ok (.iconst 1, 1) := by decide +kernel
theorem dL_at_14 : decode cL_at 14 = .ok (.ireturn, 1) := by decide +kernel
theorem dL_at_15 : decode cL_at 15 = .ok (.astore_n 3, 1) := by decide +kernel
theorem dL_at_16 : decode cL_at 16 = .ok (.iconst 2, 1) := by decide +kernel
theorem dL_at_17 : decode cL_at 17 = .ok (.ireturn, 1) := by decide +kernel
theorem dL_at_18 : decode cL_at 18 = .ok (.iconst 0, 1) := by decide +kernel
theorem dL_at_19 : decode cL_at 19 = .ok (.ireturn, 1) := by decide +kernel
theorem dL_count_0 : decode cL_count 0 = .ok (.aload_n 3, 1) := by decide +kernel
theorem dL_count_1 : decode cL_count 1 = .ok (.iconst 0, 1) := by decide +kernel
theorem dL_count_2 : decode cL_count 2 = .ok (.aload_n 0, 1) := by decide +kernel
theorem dL_count_3 : decode cL_count 3 = .ok (.iload_n 1, 1) := by decide +kernel
theorem dL_count_4 : decode cL_count 4 = .ok (.iload_n 2, 1) := by decide +kernel
theorem dL_count_5 : decode cL_count 5 = .ok (.invokevirtual 72, 3) := by decide +kernel
theorem dL_count_8 : decode cL_count 8 = .ok (.i2l, 1) := by decide +kernel
theorem dL_count_9 : decode cL_count 9 = .ok (.lastore, 1) := by decide +kernel
theorem dL_count_10 : decode cL_count 10 = .ok (.goto 11, 3) := by decide +kernel
theorem dL_count_13 : decode cL_count 13 = .ok (.astore 4, 2) := by decide +kernel
theorem dL_count_15 : decode cL_count 15 = .ok (.iconst 1, 1) := by decide +kernel
theorem dL_count_16 : decode cL_count 16 = .ok (.ireturn, 1) := by decide +kernel
theorem dL_count_17 : decode cL_count 17 = .ok (.astore 4, 2) := by decide +kernel
theorem dL_count_19 : decode cL_count 19 = .ok (.iconst 2, 1) := by decide +kernel
theorem dL_count_20 : decode cL_count 20 = .ok (.ireturn, 1) := by decide +kernel
theorem dL_count_21 : decode cL_count 21 = .ok (.iconst 0, 1) := by decide +kernel
theorem dL_count_22 : decode cL_count 22 = .ok (.ireturn, 1) := by decide +kernel
theorem dL_water_0 : decode cL_water 0 = .ok (.aload_n 1, 1) := by decide +kernel
theorem dL_water_1 : decode cL_water 1 = .ok (.iconst 0, 1) := by decide +kernel
theorem dL_water_2 : decode cL_water 2 = .ok (.aload_n 0, 1) := by decide +kernel
theorem dL_water_3 : decode cL_water 3 = .ok (.invokevirtual 75, 3) := by decide +kernel
theorem dL_water_6 : decode cL_water 6 = .ok (.i2l, 1) := by decide +kernel
theorem dL_water_7 : decode cL_water 7 = .ok (.lastore, 1) := by decide +kernel
theorem dL_water_8 : decode cL_water 8 = .ok (.goto 6, 3) := by decide +kernel
theorem dL_water_11 : decode cL_water 11 = .ok (.astore_n 2, 1) := by decide +kernel
theorem dL_water_12 : decode cL_water 12 = .ok (.iconst 1, 1) := by decide +kernel
theorem dL_water_13 : decode cL_water 13 = .ok (.ireturn, 1) := by decide +kernel
theorem dL_water_14 : decode cL_water 14 = .ok (.iconst 0, 1) := by decide +kernel
theorem dL_water_15 : decode cL_water 15 = .ok (.ireturn, 1) := by decide +kernel
theorem dL_left_0 : decode cL_left 0 = .ok (.aload_n 1, 1) := by decide +kernel
theorem dL_left_1 : decode cL_left 1 = .ok (.iconst 0, 1) := by decide +kernel
theorem dL_left_2 : decode cL_left 2 = .ok (.aload_n 0, 1) := by decide +kernel
theorem dL_left_3 : decode cL_left 3 = .ok (.invokevirtual 78, 3) := by decide +kernel
theorem dL_left_6 : decode cL_left 6 = .ok (.i2l, 1) := by decide +kernel
theorem dL_left_7 : decode cL_left 7 = .ok (.lastore, 1) := by decide +kernel
theorem dL_left_8 : decode cL_left 8 = .ok (.goto 6, 3) := by decide +kernel
theorem dL_left_11 : decode cL_left 11 = .ok (.astore_n 2, 1) := by decide +kernel
theorem dL_left_12 : decode cL_left 12 = .ok (.iconst 1, 1) := by decide +kernel
theorem dL_left_13 : decode cL_left 13 = .ok (.ireturn, 1) := by decide +kernel
theorem dL_left_14 : decode cL_left 14 = .ok (.iconst 0, 1) := by decide +kernel
theorem dL_left_15 : decode cL_left 15 = .ok (.ireturn, 1) := by decide +kernel
theorem dL_share_0 : decode cL_share 0 = .ok (.aload_n 1, 1) := by decide +kernel
theorem dL_share_1 : decode cL_share 1 = .ok (.iconst 0, 1) := by decide +kernel
theorem dL_share_2 : decode cL_share 2 = .ok (.aload_n 0, 1) := by decide +kernel
theorem dL_share_3 : decode cL_share 3 = .ok (.invokevirtual 81, 3) := by decide +kernel
theorem dL_share_6 : decode cL_share 6 = .ok (.dastore, 1) := by decide +kernel
theorem dL_share_7 : decode cL_share 7 = .ok (.goto 6, 3) := by decide +kernel
theorem dL_share_10 : decode cL_share 10 = .ok (.astore_n 2, 1) := by decide +kernel
theorem dL_share_11 : decode cL_share 11 = .ok (.iconst 1, 1) := by decide +kernel
theorem dL_share_12 : decode cL_share 12 = .ok (.ireturn, 1) := by decide +kernel
theorem dL_share_13 : decode cL_share 13 = .ok (.iconst 0, 1) := by decide +kernel
theorem dL_share_14 : decode cL_share 14 = .ok (.ireturn, 1) := by decide +kernel
