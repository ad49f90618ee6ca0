theorem dX5_init_0 : decode cX5_init 0 = .ok (.aload_n 0, 1) := by decide +kernel
theorem dX5_init_1 : decode cX5_init 1 = .ok (.invokespecial 1, 3) := by decide +kernel
theorem dX5_init_4 : decode cX5_init 4 = .ok (.aload_n 0, 1) := by decide +kernel
theorem dX5_init_5 : decode cX5_init 5 = .ok (.new 7, 3) := by decide +kernel
theorem dX5_init_8 : decode cX5_init 8 = .ok (.dup, 1) := by decide +kernel
theorem dX5_init_9 : decode cX5_init 9 = .ok (.invokespecial 9, 3) := by decide +kernel
theorem dX5_init_12 : decode cX5_init 12 = .ok (.putfield 10, 3) := by decide +kernel
theorem dX5_init_15 : decode cX5_init 15 = .ok (.aload_n 0, 1) := by decide +kernel
theorem dX5_init_16 : decode cX5_init 16 = .ok (.new 16, 3) := by decide +kernel
theorem dX5_init_19 : decode cX5_init 19 = .ok (.dup, 1) := by decide +kernel
theorem dX5_init_20 : decode cX5_init 20 = .ok (.invokespecial 18, 3) := by decide +kernel
theorem dX5_init_23 : decode cX5_init 23 = .ok (.putfield 19, 3) := by decide +kernel
theorem dX5_init_26 : decode cX5_init 26 = .ok (.aload_n 0, 1) := by decide +kernel
theorem dX5_init_27 : decode cX5_init 27 = .ok (.new 23, 3) := by decide +kernel
theorem dX5_init_30 : decode cX5_init 30 = .ok (.dup, 1) := by decide +kernel
theorem dX5_init_31 : decode cX5_init 31 = .ok (.invokespecial 25, 3) := by decide +kernel
theorem dX5_init_34 : decode cX5_init 34 = .ok (.putfield 26, 3) := by decide +kernel
theorem dX5_init_37 : decode cX5_init 37 = .ok (.aload_n 0, 1) := by decide +kernel
theorem dX5_init_38 : decode cX5_init 38 = .ok (.new 30, 3) := by decide +kernel
theorem dX5_init_41 : decode cX5_init 41 = .ok (.dup, 1) := by decide +kernel
theorem dX5_init_42 : decode cX5_init 42 = .ok (.invokespecial 32, 3) := by decide +kernel
theorem dX5_init_45 : decode cX5_init 45 = .ok (.putfield 33, 3) := by decide +kernel
theorem dX5_init_48 : decode cX5_init 48 = .ok (.aload_n 0, 1) := by decide +kernel
theorem dX5_init_49 : decode cX5_init 49 = .ok (.new 37, 3) := by decide +kernel
theorem dX5_init_52 : decode cX5_init 52 = .ok (.dup, 1) := by decide +kernel
theorem dX5_init_53 : decode cX5_init 53 = .ok (.invokespecial 39, 3) := by decide +kernel
theorem dX5_init_56 : decode cX5_init 56 = .ok (.putfield 40, 3) := by decide +kernel
theorem dX5_init_59 : decode cX5_init 59 = .ok (.aload_n 0, 1) := by decide +kernel
theorem dX5_init_60 : decode cX5_init 60 = .ok (.iconst 1, 1) := by decide +kernel
theorem dX5_init_61 : decode cX5_init 61 = .ok (.putfield 44, 3) := by decide +kernel
theorem dX5_init_64 : decode cX5_init 64 = .ok (.return_, 1) := by decide +kernel
theorem dX5_feed_0 : decode cX5_feed 0 = .ok (.iconst 0, 1) := by decide +kernel
theorem dX5_feed_1 : decode cX5_feed 1 = .ok (.istore_n 3, 1) := by decide +kernel
theorem dX5_feed_2 : decode cX5_feed 2 = .ok (.bipush 56, 2) := by decide +kernel
theorem dX5_feed_4 : decode cX5_feed 4 = .ok (.istore 4, 2) := by decide +kernel
theorem dX5_feed_6 : decode cX5_feed 6 = .ok (.iload 4, 2) := by decide +kernel
theorem dX5_feed_8 : decode cX5_feed 8 = .ok (.ifCond .lt 56, 3) := by decide +kernel
theorem dX5_feed_11 : decode cX5_feed 11 = .ok (.lload_n 1, 1) := by decide +kernel
theorem dX5_feed_12 : decode cX5_feed 12 = .ok (.iload 4, 2) := by decide +kernel
theorem dX5_feed_14 : decode cX5_feed 14 = .ok (.lushr, 1) := by decide +kernel
theorem dX5_feed_15 : decode cX5_feed 15 = .ok (.l2i, 1) := by decide +kernel
theorem dX5_feed_16 : decode cX5_feed 16 = .ok (.sipush 255, 3) := by decide +kernel
theorem dX5_feed_19 : decode cX5_feed 19 = .ok (.iand, 1) := by decide +kernel
theorem dX5_feed_20 : decode cX5_feed 20 = .ok (.istore 5, 2) := by decide +kernel
theorem dX5_feed_22 : decode cX5_feed 22 = .ok (.iload 5, 2) := by decide +kernel
theorem dX5_feed_24 : decode cX5_feed 24 = .ok (.ifCond .eq 21, 3) := by decide +kernel
theorem dX5_feed_27 : decode cX5_feed 27 = .ok (.iload 5, 2) := by decide +kernel
theorem dX5_feed_29 : decode cX5_feed 29 = .ok (.invokestatic 48, 3) := by decide +kernel
theorem dX5_feed_32 : decode cX5_feed 32 = .ok (.ifCond .ne 13, 3) := by decide +kernel
theorem dX5_feed_35 : decode cX5_feed 35 = .ok (.new 52, 3) := by decide +kernel
theorem dX5_feed_38 : decode cX5_feed 38 = .ok (.dup, 1) := by decide +kernel
theorem dX5_feed_39 : decode cX5_feed 39 = .ok (.ldc 54, 2) := by decide +kernel
theorem dX5_feed_41 : decode cX5_feed 41 = .ok (.invokespecial 56, 3) := by decide +kernel
theorem dX5_feed_44 : decode cX5_feed 44 = .ok (.athrow, 1) := by decide +kernel
theorem dX5_feed_45 : decode cX5_feed 45 = .ok (.iload_n 3, 1) := by decide +kernel
theorem dX5_feed_46 : decode cX5_feed 46 = .ok (.iload 5, 2) := by decide +kernel
theorem dX5_feed_48 : decode cX5_feed 48 = .ok (.ifCond .eq 7, 3) := by decide +kernel
theorem dX5_feed_51 : decode cX5_feed 51 = .ok (.iconst 1, 1) := by decide +kernel
theorem dX5_feed_52 : decode cX5_feed 52 = .ok (.goto 4, 3) := by decide +kernel
theorem dX5_feed_55 : decode cX5_feed 55 = .ok (.iconst 0, 1) := by decide +kernel
theorem dX5_feed_56 : decode cX5_feed 56 = .ok (.iadd, 1) := by decide +kernel
theorem dX5_feed_57 : decode cX5_feed 57 = .ok (.istore_n 3, 1) := by decide +kernel
theorem dX5_feed_58 : decode cX5_feed 58 = .ok (.iinc 4 (-8), 3) := by decide +kernel
theorem dX5_feed_61 : decode cX5_feed 61 = .ok (.goto (-55), 3) := by decide +kernel
theorem dX5_feed_64 : decode cX5_feed 64 = .ok (.iload_n 3, 1) := by decide +kernel
theorem dX5_feed_65 : decode cX5_feed 65 = .ok (.bipush 48, 2) := by decide +kernel
theorem dX5_feed_67 : decode cX5_feed 67 = .ok (.aload_n 0, 1) := by decide +kernel
theorem dX5_feed_68 : decode cX5_feed 68 = .ok (.getfield 10, 3) := by decide +kernel
theorem dX5_feed_71 : decode cX5_feed 71 = .ok (.getfield 59, 3) := by decide +kernel
theorem dX5_feed_74 : decode cX5_feed 74 = .ok (.isub, 1) := by decide +kernel
theorem dX5_feed_75 : decode cX5_feed 75 = .ok (.if_icmp .le 13, 3) := by decide +kernel
theorem dX5_feed_78 : decode cX5_feed 78 = .ok (.new 63, 3) := by decide +kernel
theorem dX5_feed_81 : decode cX5_feed 81 = .ok (.dup, 1) := by decide +kernel
theorem dX5_feed_82 : decode cX5_feed 82 = .ok (.ldc 65, 2) := by decide +kernel
theorem dX5_feed_84 : decode cX5_feed 84 = .ok (.invokespecial 67, 3) := by decide +kernel
theorem dX5_feed_87 : decode cX5_feed 87 = .ok (.athrow, 1) := by decide +kernel
theorem dX5_feed_88 : decode cX5_feed 88 = .ok (.bipush 56, 2) := by decide +kernel
theorem dX5_feed_90 : decode cX5_feed 90 = .ok (.istore 4, 2) := by decide +kernel
theorem dX5_feed_92 : decode cX5_feed 92 = .ok (.iload 4, 2) := by decide +kernel
theorem dX5_feed_94 : decode cX5_feed 94 = .ok (.ifCond .lt 34, 3) := by decide +kernel
theorem dX5_feed_97 : decode cX5_feed 97 = .ok (.lload_n 1, 1) := by decide +kernel
theorem dX5_feed_98 : decode cX5_feed 98 = .ok (.iload 4, 2) := by decide +kernel
theorem dX5_feed_100 : decode cX5_feed 100 = .ok (.lushr, 1) := by decide +kernel
theorem dX5_feed_101 : decode cX5_feed 101 = .ok (.l2i, 1) := by decide +kernel
theorem dX5_feed_102 : decode cX5_feed 102 = .ok (.sipush 255, 3) := by decide +kernel
theorem dX5_feed_105 : decode cX5_feed 105 = .ok (.iand, 1) := by decide +kernel
theorem dX5_feed_106 : decode cX5_feed 106 = .ok (.istore 5, 2) := by decide +kernel
theorem dX5_feed_108 : decode cX5_feed 108 = .ok (.iload 5, 2) := by decide +kernel
theorem dX5_feed_110 : decode cX5_feed 110 = .ok (.ifCond .eq 12, 3) := by decide +kernel
theorem dX5_feed_113 : decode cX5_feed 113 = .ok (.aload_n 0, 1) := by decide +kernel
theorem dX5_feed_114 : decode cX5_feed 114 = .ok (.getfield 10, 3) := by decide +kernel
theorem dX5_feed_117 : decode cX5_feed 117 = .ok (.iload 5, 2) := by decide +kernel
theorem dX5_feed_119 : decode cX5_feed 119 = .ok (.invokevirtual 68, 3) := by decide +kernel
theorem dX5_feed_122 : decode cX5_feed 122 = .ok (.iinc 4 (-8), 3) := by decide +kernel
theorem dX5_feed_125 : decode cX5_feed 125 = .ok (.goto (-33), 3) := by decide +kernel
theorem dX5_feed_128 : decode cX5_feed 128 = .ok (.aload_n 0, 1) := by decide +kernel
theorem dX5_feed_129 : decode cX5_feed 129 = .ok (.getfield 26, 3) := by decide +kernel
theorem dX5_feed_132 : decode cX5_feed 132 = .ok (.invokevirtual 72, 3) := by decide +kernel
theorem dX5_feed_135 : decode cX5_feed 135 = .ok (.aload_n 0, 1) := by decide +kernel
theorem dX5_feed_136 : decode cX5_feed 136 = .ok (.getfield 10, 3) := by decide +kernel
theorem dX5_feed_139 : decode cX5_feed 139 = .ok (.getfield 59, 3) := by decide +kernel
theorem dX5_feed_142 : decode cX5_feed 142 = .ok (.ireturn, 1) := by decide +kernel
theorem dX5_cut_0 : decode cX5_cut 0 = .ok (.iload_n 1, 1) := by decide +kernel
theorem dX5_cut_1 : decode cX5_cut 1 = .ok (.ifCond .lt 14, 3) := by decide +kernel
theorem dX5_cut_4 : decode cX5_cut 4 = .ok (.iload_n 1, 1) := by decide +kernel
theorem dX5_cut_5 : decode cX5_cut 5 = .ok (.aload_n 0, 1) := by decide +kernel
theorem dX5_cut_6 : decode cX5_cut 6 = .ok (.getfield 10, 3) := by decide +kernel
theorem dX5_cut_9 : decode cX5_cut 9 = .ok (.getfield 59, 3) := by decide +kernel
theorem dX5_cut_12 : decode cX5_cut 12 = .ok (.if_icmp .le 13, 3) := by decide +kernel
theorem dX5_cut_15 : decode cX5_cut 15 = .ok (.new 52, 3) := by decide +kernel
theorem dX5_cut_18 : decode cX5_cut 18 = .ok (.dup, 1) := by decide +kernel
theorem dX5_cut_19 : decode cX5_cut 19 = .ok (.ldc 75, 2) := by decide +kernel
theorem dX5_cut_21 : decode cX5_cut 21 = .ok (.invokespecial 56, 3) := by decide +kernel
theorem dX5_cut_24 : decode cX5_cut 24 = .ok (.athrow, 1) := by decide +kernel
theorem dX5_cut_25 : decode cX5_cut 25 = .ok (.aload_n 0, 1) := by decide +kernel
theorem dX5_cut_26 : decode cX5_cut 26 = .ok (.getfield 10, 3) := by decide +kernel
theorem dX5_cut_29 : decode cX5_cut 29 = .ok (.dup, 1) := by decide +kernel
theorem dX5_cut_30 : decode cX5_cut 30 = .ok (.getfield 59, 3) := by decide +kernel
theorem dX5_cut_33 : decode cX5_cut 33 = .ok (.iload_n 1, 1) := by decide +kernel
theorem dX5_cut_34 : decode cX5_cut 34 = .ok (.isub, 1) := by decide +kernel
theorem dX5_cut_35 : decode cX5_cut 35 = .ok (.putfield 59, 3) := by decide +kernel
theorem dX5_cut_38 : decode cX5_cut 38 = .ok (.aload_n 0, 1) := by decide +kernel
theorem dX5_cut_39 : decode cX5_cut 39 = .ok (.getfield 26, 3) := by decide +kernel
theorem dX5_cut_42 : decode cX5_cut 42 = .ok (.invokevirtual 72, 3) := by decide +kernel
theorem dX5_cut_45 : decode cX5_cut 45 = .ok (.aload_n 0, 1) := by decide +kernel
theorem dX5_cut_46 : decode cX5_cut 46 = .ok (.getfield 10, 3) := by decide +kernel
theorem dX5_cut_49 : decode cX5_cut 49 = .ok (.getfield 59, 3) := by decide +kernel
theorem dX5_cut_52 : decode cX5_cut 52 = .ok (.ireturn, 1) := by decide +kernel
theorem dX5_set_0 : decode cX5_set 0 = .ok (.aload_n 0, 1) := by decide +kernel
theorem dX5_set_1 : decode cX5_set 1 = .ok (.iload_n 1, 1) := by decide +kernel
theorem dX5_set_2 : decode cX5_set 2 = .ok (.invokevirtual 77, 3) := by decide +kernel
theorem dX5_set_5 : decode cX5_set 5 = .ok (.iload_n 2, 1) := by decide +kernel
theorem dX5_set_6 : decode cX5_set 6 = .ok (.invokestatic 48, 3) := by decide +kernel
theorem dX5_set_9 : decode cX5_set 9 = .ok (.ifCond .ne 13, 3) := by decide +kernel
theorem dX5_set_12 : decode cX5_set 12 = .ok (.new 52, 3) := by decide +kernel
theorem dX5_set_15 : decode cX5_set 15 = .ok (.dup, 1) := by decide +kernel
theorem dX5_set_16 : decode cX5_set 16 = .ok (.ldc 80, 2) := by decide +kernel
theorem dX5_set_18 : decode cX5_set 18 = .ok (.invokespecial 56, 3) := by decide +kernel
theorem dX5_set_21 : decode cX5_set 21 = .ok (.athrow, 1) := by decide +kernel
theorem dX5_set_22 : decode cX5_set 22 = .ok (.aload_n 0, 1) := by decide +kernel
theorem dX5_set_23 : decode cX5_set 23 = .ok (.getfield 10, 3) := by decide +kernel
theorem dX5_set_26 : decode cX5_set 26 = .ok (.getfield 82, 3) := by decide +kernel
theorem dX5_set_29 : decode cX5_set 29 = .ok (.iload_n 1, 1) := by decide +kernel
theorem dX5_set_30 : decode cX5_set 30 = .ok (.iaload, 1) := by decide +kernel
theorem dX5_set_31 : decode cX5_set 31 = .ok (.istore_n 3, 1) := by decide +kernel
theorem dX5_set_32 : decode cX5_set 32 = .ok (.aload_n 0, 1) := by decide +kernel
theorem dX5_set_33 : decode cX5_set 33 = .ok (.getfield 10, 3) := by decide +kernel
theorem dX5_set_36 : decode cX5_set 36 = .ok (.getfield 82, 3) := by decide +kernel
theorem dX5_set_39 : decode cX5_set 39 = .ok (.iload_n 1, 1) := by decide +kernel
theorem dX5_set_40 : decode cX5_set 40 = .ok (.iload_n 2, 1) := by decide +kernel
theorem dX5_set_41 : decode cX5_set 41 = .ok (.iastore, 1) := by decide +kernel
theorem dX5_set_42 : decode cX5_set 42 = .ok (.aload_n 0, 1) := by decide +kernel
theorem dX5_set_43 : decode cX5_set 43 = .ok (.getfield 26, 3) := by decide +kernel
theorem dX5_set_46 : decode cX5_set 46 = .ok (.invokevirtual 72, 3) := by decide +kernel
theorem dX5_set_49 : decode cX5_set 49 = .ok (.iload_n 3, 1) := by decide +kernel
theorem dX5_set_50 : decode cX5_set 50 = .ok (.ireturn, 1) := by decide +kernel
theorem dX5_size_0 : decode cX5_size 0 = .ok (.aload_n 0, 1) := by decide +kernel
theorem dX5_size_1 : decode cX5_size 1 = .ok (.getfield 10, 3) := by decide +kernel
theorem dX5_size_4 : decode cX5_size 4 = .ok (.getfield 59, 3) := by decide +kernel
theorem dX5_size_7 : decode cX5_size 7 = .ok (.ireturn, 1) := by decide +kernel
theorem dX5_byteAt_0 : decode cX5_byteAt 0 = .ok (.aload_n 0, 1) := by decide +kernel
theorem dX5_byteAt_1 : decode cX5_byteAt 1 = .ok (.iload_n 1, 1) := by decide +kernel
theorem dX5_byteAt_2 : decode cX5_byteAt 2 = .ok (.invokevirtual 77, 3) := by decide +kernel
theorem dX5_byteAt_5 : decode cX5_byteAt 5 = .ok (.aload_n 0, 1) := by decide +kernel
theorem dX5_byteAt_6 : decode cX5_byteAt 6 = .ok (.getfield 10, 3) := by decide +kernel
theorem dX5_byteAt_9 : decode cX5_byteAt 9 = .ok (.getfield 82, 3) := by decide +kernel
theorem dX5_byteAt_12 : decode cX5_byteAt 12 = .ok (.iload_n 1, 1) := by decide +kernel
theorem dX5_byteAt_13 : decode cX5_byteAt 13 = .ok (.iaload, 1) := by decide +kernel
theorem dX5_byteAt_14 : decode cX5_byteAt 14 = .ok (.ireturn, 1) := by decide +kernel
theorem dX5_setEscape_0 : decode cX5_setEscape 0 = .ok (.iload_n 1, 1) := by decide +kernel
theorem dX5_setEscape_1 : decode cX5_setEscape 1 = .ok (.iconst (-1), 1) := by decide +kernel
theorem dX5_setEscape_2 : decode cX5_setEscape 2 = .ok (.if_icmp .eq 20, 3) := by decide +kernel
theorem dX5_setEscape_5 : decode cX5_setEscape 5 = .ok (.iload_n 1, 1) := by decide +kernel
theorem dX5_setEscape_6 : decode cX5_setEscape 6 = .ok (.invokestatic 48, 3) := by decide +kernel
theorem dX5_setEscape_9 : decode cX5_setEscape 9 = .ok (.ifCond .ne 13, 3) := by decide +kernel
theorem dX5_setEscape_12 : decode cX5_setEscape 12 = .ok (.new 52, 3) := by decide +kernel
theorem dX5_setEscape_15 : decode cX5_setEscape 15 = .ok (.dup, 1) := by decide +kernel
theorem dX5_setEscape_16 : decode cX5_setEscape 16 = .ok (.ldc 86, 2) := by decide +kernel
theorem dX5_setEscape_18 : decode cX5_setEscape 18 = .ok (.invokespecial 56, 3) := by decide +kernel
theorem dX5_setEscape_21 : decode cX5_setEscape 21 = .ok (.athrow, 1) := by decide +kernel
theorem dX5_setEscape_22 : decode cX5_setEscape 22 = .ok (.aload_n 0, 1) := by decide +kernel
theorem dX5_setEscape_23 : decode cX5_setEscape 23 = .ok (.getfield 10, 3) := by decide +kernel
theorem dX5_setEscape_26 : decode cX5_setEscape 26 = .ok (.getfield 88, 3) := by decide +kernel
theorem dX5_setEscape_29 : decode cX5_setEscape 29 = .ok (.istore_n 2, 1) := by decide +kernel
theorem dX5_setEscape_30 : decode cX5_setEscape 30 = .ok (.aload_n 0, 1) := by decide +kernel
theorem dX5_setEscape_31 : decode cX5_setEscape 31 = .ok (.getfield 10, 3) := by decide +kernel
theorem dX5_setEscape_34 : decode cX5_setEscape 34 = .ok (.iload_n 1, 1) := by decide +kernel
theorem dX5_setEscape_35 : decode cX5_setEscape 35 = .ok (.putfield 88, 3) := by decide +kernel
theorem dX5_setEscape_38 : decode cX5_setEscape 38 = .ok (.aload_n 0, 1) := by decide +kernel
theorem dX5_setEscape_39 : decode cX5_setEscape 39 = .ok (.getfield 26, 3) := by decide +kernel
theorem dX5_setEscape_42 : decode cX5_setEscape 42 = .ok (.invokevirtual 72, 3) := by decide +kernel
theorem dX5_setEscape_45 : decode cX5_setEscape 45 = .ok (.iload_n 2, 1) := by decide +kernel
theorem dX5_setEscape_46 : decode cX5_setEscape 46 = .ok (.ireturn, 1) := by decide +kernel
theorem dX5_setWord_0 : decode cX5_setWord 0 = .ok (.aload_n 0, 1) := by decide +kernel
theorem dX5_setWord_1 : decode cX5_setWord 1 = .ok (.iload_n 1, 1) := by decide +kernel
theorem dX5_setWord_2 : decode cX5_setWord 2 = .ok (.invokevirtual 91, 3) := by decide +kernel
theorem dX5_setWord_5 : decode cX5_setWord 5 = .ok (.iload 4, 2) := by decide +kernel
theorem dX5_setWord_7 : decode cX5_setWord 7 = .ok (.ifCond .lt 9, 3) := by decide +kernel
theorem dX5_setWord_10 : decode cX5_setWord 10 = .ok (.iload 4, 2) := by decide +kernel
theorem dX5_setWord_12 : decode cX5_setWord 12 = .ok (.iconst 3, 1) := by decide +kernel
theorem dX5_setWord_13 : decode cX5_setWord 13 = .ok (.if_icmp .le 13, 3) := by decide +kernel
theorem dX5_setWord_16 : decode cX5_setWord 16 = .ok (.new 52, 3) := by decide +kernel
theorem dX5_setWord_19 : decode cX5_setWord 19 = .ok (.dup, 1) := by decide +kernel
theorem dX5_setWord_20 : decode cX5_setWord 20 = .ok (.ldc 94, 2) := by decide +kernel
theorem dX5_setWord_22 : decode cX5_setWord 22 = .ok (.invokespecial 56, 3) := by decide +kernel
theorem dX5_setWord_25 : decode cX5_setWord 25 = .ok (.athrow, 1) := by decide +kernel
theorem dX5_setWord_26 : decode cX5_setWord 26 = .ok (.iconst 0, 1) := by decide +kernel
theorem dX5_setWord_27 : decode cX5_setWord 27 = .ok (.istore 5, 2) := by decide +kernel
theorem dX5_setWord_29 : decode cX5_setWord 29 = .ok (.bipush 8, 2) := by decide +kernel
theorem dX5_setWord_31 : decode cX5_setWord 31 = .ok (.iload 4, 2) := by decide +kernel
theorem dX5_setWord_33 : decode cX5_setWord 33 = .ok (.iconst 1, 1) := by decide +kernel
theorem dX5_setWord_34 : decode cX5_setWord 34 = .ok (.isub, 1) := by decide +kernel
theorem dX5_setWord_35 : decode cX5_setWord 35 = .ok (.imul, 1) := by decide +kernel
theorem dX5_setWord_36 : decode cX5_setWord 36 = .ok (.istore 6, 2) := by decide +kernel
theorem dX5_setWord_38 : decode cX5_setWord 38 = .ok (.iload 6, 2) := by decide +kernel
theorem dX5_setWord_40 : decode cX5_setWord 40 = .ok (.ifCond .lt 47, 3) := by decide +kernel
theorem dX5_setWord_43 : decode cX5_setWord 43 = .ok (.iload_n 3, 1) := by decide +kernel
theorem dX5_setWord_44 : decode cX5_setWord 44 = .ok (.iload 6, 2) := by decide +kernel
theorem dX5_setWord_46 : decode cX5_setWord 46 = .ok (.iushr, 1) := by decide +kernel
theorem dX5_setWord_47 : decode cX5_setWord 47 = .ok (.sipush 255, 3) := by decide +kernel
theorem dX5_setWord_50 : decode cX5_setWord 50 = .ok (.iand, 1) := by decide +kernel
theorem dX5_setWord_51 : decode cX5_setWord 51 = .ok (.istore 7, 2) := by decide +kernel
theorem dX5_setWord_53 : decode cX5_setWord 53 = .ok (.iload 7, 2) := by decide +kernel
theorem dX5_setWord_55 : decode cX5_setWord 55 = .ok (.invokestatic 48, 3) := by decide +kernel
theorem dX5_setWord_58 : decode cX5_setWord 58 = .ok (.ifCond .ne 13, 3) := by decide +kernel
theorem dX5_setWord_61 : decode cX5_setWord 61 = .ok (.new 52, 3) := by decide +kernel
theorem dX5_setWord_64 : decode cX5_setWord 64 = .ok (.dup, 1) := by decide +kernel
theorem dX5_setWord_65 : decode cX5_setWord 65 = .ok (.ldc 96, 2) := by decide +kernel
theorem dX5_setWord_67 : decode cX5_setWord 67 = .ok (.invokespecial 56, 3) := by decide +kernel
theorem dX5_setWord_70 : decode cX5_setWord 70 = .ok (.athrow, 1) := by decide +kernel
theorem dX5_setWord_71 : decode cX5_setWord 71 = .ok (.iload 5, 2) := by decide +kernel
theorem dX5_setWord_73 : decode cX5_setWord 73 = .ok (.bipush 8, 2) := by decide +kernel
theorem dX5_setWord_75 : decode cX5_setWord 75 = .ok (.ishl, 1) := by decide +kernel
theorem dX5_setWord_76 : decode cX5_setWord 76 = .ok (.iload 7, 2) := by decide +kernel
theorem dX5_setWord_78 : decode cX5_setWord 78 = .ok (.ior, 1) := by decide +kernel
theorem dX5_setWord_79 : decode cX5_setWord 79 = .ok (.istore 5, 2) := by decide +kernel
theorem dX5_setWord_81 : decode cX5_setWord 81 = .ok (.iinc 6 (-8), 3) := by decide +kernel
theorem dX5_setWord_84 : decode cX5_setWord 84 = .ok (.goto (-46), 3) := by decide +kernel
theorem dX5_setWord_87 : decode cX5_setWord 87 = .ok (.iload_n 2, 1) := by decide +kernel
theorem dX5_setWord_88 : decode cX5_setWord 88 = .ok (.ifCond .eq 17, 3) := by decide +kernel
theorem dX5_setWord_91 : decode cX5_setWord 91 = .ok (.aload_n 0, 1) := by decide +kernel
theorem dX5_setWord_92 : decode cX5_setWord 92 = .ok (.getfield 19, 3) := by decide +kernel
theorem dX5_setWord_95 : decode cX5_setWord 95 = .ok (.getfield 98, 3) := by decide +kernel
theorem dX5_setWord_98 : decode cX5_setWord 98 = .ok (.iload_n 1, 1) := by decide +kernel
theorem dX5_setWord_99 : decode cX5_setWord 99 = .ok (.iload 5, 2) := by decide +kernel
theorem dX5_setWord_101 : decode cX5_setWord 101 = .ok (.iastore, 1) := by decide +kernel
theorem dX5_setWord_102 : decode cX5_setWord 102 = .ok (.goto 14, 3) := by decide +kernel
theorem dX5_setWord_105 : decode cX5_setWord 105 = .ok (.aload_n 0, 1) := by decide +kernel
theorem dX5_setWord_106 : decode cX5_setWord 106 = .ok (.getfield 19, 3) := by decide +kernel
theorem dX5_setWord_109 : decode cX5_setWord 109 = .ok (.getfield 101, 3) := by decide +kernel
theorem dX5_setWord_112 : decode cX5_setWord 112 = .ok (.iload_n 1, 1) := by decide +kernel
theorem dX5_setWord_113 : decode cX5_setWord 113 = .ok (.iload 5, 2) := by decide +kernel
theorem dX5_setWord_115 : decode cX5_setWord 115 = .ok (.iastore, 1) := by decide +kernel
theorem dX5_setWord_116 : decode cX5_setWord 116 = .ok (.aload_n 0, 1) := by decide +kernel
theorem dX5_setWord_117 : decode cX5_setWord 117 = .ok (.getfield 26, 3) := by decide +kernel
theorem dX5_setWord_120 : decode cX5_setWord 120 = .ok (.invokevirtual 72, 3) := by decide +kernel
theorem dX5_setWord_123 : decode cX5_setWord 123 = .ok (.aload_n 0, 1) := by decide +kernel
theorem dX5_setWord_124 : decode cX5_setWord 124 = .ok (.getfield 19, 3) := by decide +kernel
theorem dX5_setWord_127 : decode cX5_setWord 127 = .ok (.iload_n 1, 1) := by decide +kernel
theorem dX5_setWord_128 : decode cX5_setWord 128 = .ok (.invokevirtual 104, 3) := by decide +kernel
theorem dX5_setWord_131 : decode cX5_setWord 131 = .ok (.ireturn, 1) := by decide +kernel
theorem dX5_setKind_0 : decode cX5_setKind 0 = .ok (.aload_n 0, 1) := by decide +kernel
theorem dX5_setKind_1 : decode cX5_setKind 1 = .ok (.iload_n 1, 1) := by decide +kernel
theorem dX5_setKind_2 : decode cX5_setKind 2 = .ok (.invokevirtual 91, 3) := by decide +kernel
theorem dX5_setKind_5 : decode cX5_setKind 5 = .ok (.iload 4, 2) := by decide +kernel
theorem dX5_setKind_7 : decode cX5_setKind 7 = .ok (.ifCond .lt 10, 3) := by decide +kernel
theorem dX5_setKind_10 : decode cX5_setKind 10 = .ok (.iload 4, 2) := by decide +kernel
theorem dX5_setKind_12 : decode cX5_setKind 12 = .ok (.bipush 63, 2) := by decide +kernel
theorem dX5_setKind_14 : decode cX5_setKind 14 = .ok (.if_icmp .le 13, 3) := by decide +kernel
theorem dX5_setKind_17 : decode cX5_setKind 17 = .ok (.new 52, 3) := by decide +kernel
theorem dX5_setKind_20 : decode cX5_setKind 20 = .ok (.dup, 1) := by decide +kernel
theorem dX5_setKind_21 : decode cX5_setKind 21 = .ok (.ldc 107, 2) := by decide +kernel
theorem dX5_setKind_23 : decode cX5_setKind 23 = .ok (.invokespecial 56, 3) := by decide +kernel
theorem dX5_setKind_26 : decode cX5_setKind 26 = .ok (.athrow, 1) := by decide +kernel
theorem dX5_setKind_27 : decode cX5_setKind 27 = .ok (.aload_n 0, 1) := by decide +kernel
theorem dX5_setKind_28 : decode cX5_setKind 28 = .ok (.getfield 19, 3) := by decide +kernel
theorem dX5_setKind_31 : decode cX5_setKind 31 = .ok (.getfield 109, 3) := by decide +kernel
theorem dX5_setKind_34 : decode cX5_setKind 34 = .ok (.iload_n 1, 1) := by decide +kernel
theorem dX5_setKind_35 : decode cX5_setKind 35 = .ok (.iaload, 1) := by decide +kernel
theorem dX5_setKind_36 : decode cX5_setKind 36 = .ok (.istore 5, 2) := by decide +kernel
theorem dX5_setKind_38 : decode cX5_setKind 38 = .ok (.aload_n 0, 1) := by decide +kernel
theorem dX5_setKind_39 : decode cX5_setKind 39 = .ok (.getfield 19, 3) := by decide +kernel
theorem dX5_setKind_42 : decode cX5_setKind 42 = .ok (.getfield 109, 3) := by decide +kernel
theorem dX5_setKind_45 : decode cX5_setKind 45 = .ok (.iload_n 1, 1) := by decide +kernel
theorem dX5_setKind_46 : decode cX5_setKind 46 = .ok (.iload 4, 2) := by decide +kernel
theorem dX5_setKind_48 : decode cX5_setKind 48 = .ok (.iastore, 1) := by decide +kernel
theorem dX5_setKind_49 : decode cX5_setKind 49 = .ok (.aload_n 0, 1) := by decide +kernel
theorem dX5_setKind_50 : decode cX5_setKind 50 = .ok (.getfield 19, 3) := by decide +kernel
theorem dX5_setKind_53 : decode cX5_setKind 53 = .ok (.aload_n 0, 1) := by decide +kernel
theorem dX5_setKind_54 : decode cX5_setKind 54 = .ok (.getfield 19, 3) := by decide +kernel
theorem dX5_setKind_57 : decode cX5_setKind 57 = .ok (.getfield 112, 3) := by decide +kernel
theorem dX5_setKind_60 : decode cX5_setKind 60 = .ok (.iload_n 1, 1) := by decide +kernel
theorem dX5_setKind_61 : decode cX5_setKind 61 = .ok (.iload_n 2, 1) := by decide +kernel
theorem dX5_setKind_62 : decode cX5_setKind 62 = .ok (.invokestatic 115, 3) := by decide +kernel
theorem dX5_setKind_65 : decode cX5_setKind 65 = .ok (.putfield 112, 3) := by decide +kernel
theorem dX5_setKind_68 : decode cX5_setKind 68 = .ok (.aload_n 0, 1) := by decide +kernel
theorem dX5_setKind_69 : decode cX5_setKind 69 = .ok (.getfield 19, 3) := by decide +kernel
theorem dX5_setKind_72 : decode cX5_setKind 72 = .ok (.aload_n 0, 1) := by decide +kernel
theorem dX5_setKind_73 : decode cX5_setKind 73 = .ok (.getfield 19, 3) := by decide +kernel
theorem dX5_setKind_76 : decode cX5_setKind 76 = .ok (.getfield 119, 3) := by decide +kernel
theorem dX5_setKind_79 : decode cX5_setKind 79 = .ok (.iload_n 1, 1) := by decide +kernel
theorem dX5_setKind_80 : decode cX5_setKind 80 = .ok (.iload_n 3, 1) := by decide +kernel
theorem dX5_setKind_81 : decode cX5_setKind 81 = .ok (.invokestatic 115, 3) := by decide +kernel
theorem dX5_setKind_84 : decode cX5_setKind 84 = .ok (.putfield 119, 3) := by decide +kernel
theorem dX5_setKind_87 : decode cX5_setKind 87 = .ok (.aload_n 0, 1) := by decide +kernel
theorem dX5_setKind_88 : decode cX5_setKind 88 = .ok (.getfield 26, 3) := by decide +kernel
theorem dX5_setKind_91 : decode cX5_setKind 91 = .ok (.invokevirtual 72, 3) := by decide +kernel
theorem dX5_setKind_94 : decode cX5_setKind 94 = .ok (.iload 5, 2) := by decide +kernel
theorem dX5_setKind_96 : decode cX5_setKind 96 = .ok (.ireturn, 1) := by decide +kernel
theorem dX5_setLenient_0 : decode cX5_setLenient 0 = .ok (.aload_n 0, 1) := by decide +kernel
theorem dX5_setLenient_1 : decode cX5_setLenient 1 = .ok (.getfield 44, 3) := by decide +kernel
theorem dX5_setLenient_4 : decode cX5_setLenient 4 = .ok (.istore_n 2, 1) := by decide +kernel
theorem dX5_setLenient_5 : decode cX5_setLenient 5 = .ok (.aload_n 0, 1) := by decide +kernel
theorem dX5_setLenient_6 : decode cX5_setLenient 6 = .ok (.iload_n 1, 1) := by decide +kernel
theorem dX5_setLenient_7 : decode cX5_setLenient 7 = .ok (.putfield 44, 3) := by decide +kernel
theorem dX5_setLenient_10 : decode cX5_setLenient 10 = .ok (.aload_n 0, 1) := by decide +kernel
theorem dX5_setLenient_11 : decode cX5_setLenient 11 = .ok (.getfield 26, 3) := by decide +kernel
theorem dX5_setLenient_14 : decode cX5_setLenient 14 = .ok (.invokevirtual 72, 3) := by decide +kernel
theorem dX5_setLenient_17 : decode cX5_setLenient 17 = .ok (.iload_n 2, 1) := by decide +kernel
theorem dX5_setLenient_18 : decode cX5_setLenient 18 = .ok (.ireturn, 1) := by decide +kernel
theorem dX5_quick_0 : decode cX5_quick 0 = .ok (.aload_n 0, 1) := by decide +kernel
theorem dX5_quick_1 : decode cX5_quick 1 = .ok (.getfield 26, 3) := by decide +kernel
theorem dX5_quick_4 : decode cX5_quick 4 = .ok (.invokevirtual 122, 3) := by decide +kernel
theorem dX5_quick_7 : decode cX5_quick 7 = .ok (.iconst 0, 1) := by decide +kernel
theorem dX5_quick_8 : decode cX5_quick 8 = .ok (.istore_n 1, 1) := by decide +kernel
theorem dX5_quick_9 : decode cX5_quick 9 = .ok (.iconst 0, 1) := by decide +kernel
theorem dX5_quick_10 : decode cX5_quick 10 = .ok (.istore_n 2, 1) := by decide +kernel
theorem dX5_quick_11 : decode cX5_quick 11 = .ok (.iload_n 2, 1) := by decide +kernel
theorem dX5_quick_12 : decode cX5_quick 12 = .ok (.aload_n 0, 1) := by decide +kernel
theorem dX5_quick_13 : decode cX5_quick 13 = .ok (.getfield 10, 3) := by decide +kernel
theorem dX5_quick_16 : decode cX5_quick 16 = .ok (.getfield 59, 3) := by decide +kernel
theorem dX5_quick_19 : decode cX5_quick 19 = .ok (.if_icmp .ge 37, 3) := by decide +kernel
theorem dX5_quick_22 : decode cX5_quick 22 = .ok (.iload_n 2, 1) := by decide +kernel
theorem dX5_quick_23 : decode cX5_quick 23 = .ok (.iload_n 1, 1) := by decide +kernel
theorem dX5_quick_24 : decode cX5_quick 24 = .ok (.if_icmp .ne 26, 3) := by decide +kernel
theorem dX5_quick_27 : decode cX5_quick 27 = .ok (.iload_n 2, 1) := by decide +kernel
theorem dX5_quick_28 : decode cX5_quick 28 = .ok (.aload_n 0, 1) := by decide +kernel
theorem dX5_quick_29 : decode cX5_quick 29 = .ok (.getfield 10, 3) := by decide +kernel
theorem dX5_quick_32 : decode cX5_quick 32 = .ok (.iload_n 2, 1) := by decide +kernel
theorem dX5_quick_33 : decode cX5_quick 33 = .ok (.invokevirtual 125, 3) := by decide +kernel
theorem dX5_quick_36 : decode cX5_quick 36 = .ok (.ifCond .eq 7, 3) := by decide +kernel
theorem dX5_quick_39 : decode cX5_quick 39 = .ok (.iconst 2, 1) := by decide +kernel
theorem dX5_quick_40 : decode cX5_quick 40 = .ok (.goto 8, 3) := by decide +kernel
theorem dX5_quick_43 : decode cX5_quick 43 = .ok (.aload_n 0, 1) := by decide +kernel
theorem dX5_quick_44 : decode cX5_quick 44 = .ok (.iload_n 2, 1) := by decide +kernel
theorem dX5_quick_45 : decode cX5_quick 45 = .ok (.invokevirtual 128, 3) := by decide +kernel
theorem dX5_quick_48 : decode cX5_quick 48 = .ok (.iadd, 1) := by decide +kernel
theorem dX5_quick_49 : decode cX5_quick 49 = .ok (.istore_n 1, 1) := by decide +kernel
theorem dX5_quick_50 : decode cX5_quick 50 = .ok (.iinc 2 1, 3) := by decide +kernel
theorem dX5_quick_53 : decode cX5_quick 53 = .ok (.goto (-42), 3) := by decide +kernel
theorem dX5_quick_56 : decode cX5_quick 56 = .ok (.aload_n 0, 1) := by decide +kernel
theorem dX5_quick_57 : decode cX5_quick 57 = .ok (.aload_n 0, 1) := by decide +kernel
theorem dX5_quick_58 : decode cX5_quick 58 = .ok (.getfield 26, 3) := by decide +kernel
theorem dX5_quick_61 : decode cX5_quick 61 = .ok (.getfield 132, 3) := by decide +kernel
theorem dX5_quick_64 : decode cX5_quick 64 = .ok (.aload_n 0, 1) := by decide +kernel
theorem dX5_quick_65 : decode cX5_quick 65 = .ok (.getfield 10, 3) := by decide +kernel
theorem dX5_quick_68 : decode cX5_quick 68 = .ok (.getfield 59, 3) := by decide +kernel
theorem dX5_quick_71 : decode cX5_quick 71 = .ok (.iconst 2, 1) := by decide +kernel
theorem dX5_quick_72 : decode cX5_quick 72 = .ok (.invokevirtual 135, 3) := by decide +kernel
theorem dX5_quick_75 : decode cX5_quick 75 = .ok (.aload_n 0, 1) := by decide +kernel
theorem dX5_quick_76 : decode cX5_quick 76 = .ok (.getfield 26, 3) := by decide +kernel
theorem dX5_quick_79 : decode cX5_quick 79 = .ok (.getfield 139, 3) := by decide +kernel
theorem dX5_quick_82 : decode cX5_quick 82 = .ok (.ireturn, 1) := by decide +kernel
theorem dX5_best_0 : decode cX5_best 0 = .ok (.aload_n 0, 1) := by decide +kernel
theorem dX5_best_1 : decode cX5_best 1 = .ok (.getfield 33, 3) := by decide +kernel
theorem dX5_best_4 : decode cX5_best 4 = .ok (.aload_n 0, 1) := by decide +kernel
theorem dX5_best_5 : decode cX5_best 5 = .ok (.getfield 10, 3) := by decide +kernel
theorem dX5_best_8 : decode cX5_best 8 = .ok (.aload_n 0, 1) := by decide +kernel
theorem dX5_best_9 : decode cX5_best 9 = .ok (.getfield 19, 3) := by decide +kernel
theorem dX5_best_12 : decode cX5_best 12 = .ok (.invokevirtual 140, 3) := by decide +kernel
theorem dX5_best_15 : decode cX5_best 15 = .ok (.aload_n 0, 1) := by decide +kernel
theorem dX5_best_16 : decode cX5_best 16 = .ok (.getfield 40, 3) := by decide +kernel
theorem dX5_best_19 : decode cX5_best 19 = .ok (.aload_n 0, 1) := by decide +kernel
theorem dX5_best_20 : decode cX5_best 20 = .ok (.getfield 33, 3) := by decide +kernel
theorem dX5_best_23 : decode cX5_best 23 = .ok (.aload_n 0, 1) := by decide +kernel
theorem dX5_best_24 : decode cX5_best 24 = .ok (.getfield 19, 3) := by decide +kernel
theorem dX5_best_27 : decode cX5_best 27 = .ok (.invokevirtual 144, 3) := by decide +kernel
theorem dX5_best_30 : decode cX5_best 30 = .ok (.aload_n 0, 1) := by decide +kernel
theorem dX5_best_31 : decode cX5_best 31 = .ok (.getfield 40, 3) := by decide +kernel
theorem dX5_best_34 : decode cX5_best 34 = .ok (.aload_n 0, 1) := by decide +kernel
theorem dX5_best_35 : decode cX5_best 35 = .ok (.getfield 33, 3) := by decide +kernel
theorem dX5_best_38 : decode cX5_best 38 = .ok (.aload_n 0, 1) := by decide +kernel
theorem dX5_best_39 : decode cX5_best 39 = .ok (.getfield 19, 3) := by decide +kernel
theorem dX5_best_42 : decode cX5_best 42 = .ok (.aload_n 0, 1) := by decide +kernel
theorem dX5_best_43 : decode cX5_best 43 = .ok (.getfield 26, 3) := by decide +kernel
theorem dX5_best_46 : decode cX5_best 46 = .ok (.invokevirtual 148, 3) := by decide +kernel
theorem dX5_best_49 : decode cX5_best 49 = .ok (.aload_n 0, 1) := by decide +kernel
theorem dX5_best_50 : decode cX5_best 50 = .ok (.getfield 26, 3) := by decide +kernel
theorem dX5_best_53 : decode cX5_best 53 = .ok (.getfield 152, 3) := by decide +kernel
theorem dX5_best_56 : decode cX5_best 56 = .ok (.ireturn, 1) := by decide +kernel
theorem dX5_hasReading_0 : decode cX5_hasReading 0 = .ok (.aload_n 0, 1) := by decide +kernel
theorem dX5_hasReading_1 : decode cX5_hasReading 1 = .ok (.getfield 26, 3) := by decide +kernel
theorem dX5_hasReading_4 : decode cX5_hasReading 4 = .ok (.getfield 155, 3) := by decide +kernel
theorem dX5_hasReading_7 : decode cX5_hasReading 7 = .ok (.ireturn, 1) := by decide +kernel
theorem dX5_markCount_0 : decode cX5_markCount 0 = .ok (.aload_n 0, 1) := by decide +kernel
theorem dX5_markCount_1 : decode cX5_markCount 1 = .ok (.getfield 33, 3) := by decide +kernel
theorem dX5_markCount_4 : decode cX5_markCount 4 = .ok (.aload_n 0, 1) := by decide +kernel
theorem dX5_markCount_5 : decode cX5_markCount 5 = .ok (.getfield 10, 3) := by decide +kernel
theorem dX5_markCount_8 : decode cX5_markCount 8 = .ok (.aload_n 0, 1) := by decide +kernel
theorem dX5_markCount_9 : decode cX5_markCount 9 = .ok (.getfield 19, 3) := by decide +kernel
theorem dX5_markCount_12 : decode cX5_markCount 12 = .ok (.invokevirtual 140, 3) := by decide +kernel
theorem dX5_markCount_15 : decode cX5_markCount 15 = .ok (.aload_n 0, 1) := by decide +kernel
theorem dX5_markCount_16 : decode cX5_markCount 16 = .ok (.getfield 33, 3) := by decide +kernel
theorem dX5_markCount_19 : decode cX5_markCount 19 = .ok (.getfield 158, 3) := by decide +kernel
theorem dX5_markCount_22 : decode cX5_markCount 22 = .ok (.ireturn, 1) := by decide +kernel
theorem dX5_mark_0 : decode cX5_mark 0 = .ok (.aload_n 0, 1) := by decide +kernel
theorem dX5_mark_1 : decode cX5_mark 1 = .ok (.getfield 33, 3) := by decide +kernel
theorem dX5_mark_4 : decode cX5_mark 4 = .ok (.aload_n 0, 1) := by decide +kernel
theorem dX5_mark_5 : decode cX5_mark 5 = .ok (.getfield 10, 3) := by decide +kernel
theorem dX5_mark_8 : decode cX5_mark 8 = .ok (.aload_n 0, 1) := by decide +kernel
theorem dX5_mark_9 : decode cX5_mark 9 = .ok (.getfield 19, 3) := by decide +kernel
theorem dX5_mark_12 : decode cX5_mark 12 = .ok (.invokevirtual 140, 3) := by decide +kernel
theorem dX5_mark_15 : decode cX5_mark 15 = .ok (.iload_n 1, 1) := by decide +kernel
theorem dX5_mark_16 : decode cX5_mark 16 = .ok (.ifCond .lt 14, 3) := by decide +kernel
theorem dX5_mark_19 : decode cX5_mark 19 = .ok (.iload_n 1, 1) := by decide +kernel
theorem dX5_mark_20 : decode cX5_mark 20 = .ok (.aload_n 0, 1) := by decide +kernel
theorem dX5_mark_21 : decode cX5_mark 21 = .ok (.getfield 33, 3) := by decide +kernel
theorem dX5_mark_24 : decode cX5_mark 24 = .ok (.getfield 158, 3) := by decide +kernel
theorem dX5_mark_27 : decode cX5_mark 27 = .ok (.if_icmp .lt 13, 3) := by decide +kernel
theorem dX5_mark_30 : decode cX5_mark 30 = .ok (.new 159, 3) := by decide +kernel
theorem dX5_mark_33 : decode cX5_mark 33 = .ok (.dup, 1) := by decide +kernel
theorem dX5_mark_34 : decode cX5_mark 34 = .ok (.ldc 161, 2) := by decide +kernel
theorem dX5_mark_36 : decode cX5_mark 36 = .ok (.invokespecial 163, 3) := by decide +kernel
theorem dX5_mark_39 : decode cX5_mark 39 = .ok (.athrow, 1) := by decide +kernel
theorem dX5_mark_40 : decode cX5_mark 40 = .ok (.aload_n 0, 1) := by decide +kernel
theorem dX5_mark_41 : decode cX5_mark 41 = .ok (.getfield 33, 3) := by decide +kernel
theorem dX5_mark_44 : decode cX5_mark 44 = .ok (.getfield 164, 3) := by decide +kernel
theorem dX5_mark_47 : decode cX5_mark 47 = .ok (.iload_n 1, 1) := by decide +kernel
theorem dX5_mark_48 : decode cX5_mark 48 = .ok (.iaload, 1) := by decide +kernel
theorem dX5_mark_49 : decode cX5_mark 49 = .ok (.ireturn, 1) := by decide +kernel
theorem dX5_islandCount_0 : decode cX5_islandCount 0 = .ok (.aload_n 0, 1) := by decide +kernel
theorem dX5_islandCount_1 : decode cX5_islandCount 1 = .ok (.invokevirtual 167, 3) := by decide +kernel
theorem dX5_islandCount_4 : decode cX5_islandCount 4 = .ok (.aload_n 0, 1) := by decide +kernel
theorem dX5_islandCount_5 : decode cX5_islandCount 5 = .ok (.getfield 26, 3) := by decide +kernel
theorem dX5_islandCount_8 : decode cX5_islandCount 8 = .ok (.getfield 139, 3) := by decide +kernel
theorem dX5_islandCount_11 : decode cX5_islandCount 11 = .ok (.ireturn, 1) := by decide +kernel
theorem dX5_kind_0 : decode cX5_kind 0 = .ok (.aload_n 0, 1) := by decide +kernel
theorem dX5_kind_1 : decode cX5_kind 1 = .ok (.iload_n 1, 1) := by decide +kernel
theorem dX5_kind_2 : decode cX5_kind 2 = .ok (.invokevirtual 170, 3) := by decide +kernel
theorem dX5_kind_5 : decode cX5_kind 5 = .ok (.aload_n 0, 1) := by decide +kernel
theorem dX5_kind_6 : decode cX5_kind 6 = .ok (.getfield 26, 3) := by decide +kernel
theorem dX5_kind_9 : decode cX5_kind 9 = .ok (.getfield 173, 3) := by decide +kernel
theorem dX5_kind_12 : decode cX5_kind 12 = .ok (.iload_n 1, 1) := by decide +kernel
theorem dX5_kind_13 : decode cX5_kind 13 = .ok (.iaload, 1) := by decide +kernel
theorem dX5_kind_14 : decode cX5_kind 14 = .ok (.ireturn, 1) := by decide +kernel
theorem dX5_start_0 : decode cX5_start 0 = .ok (.aload_n 0, 1) := by decide +kernel
theorem dX5_start_1 : decode cX5_start 1 = .ok (.iload_n 1, 1) := by decide +kernel
theorem dX5_start_2 : decode cX5_start 2 = .ok (.invokevirtual 170, 3) := by decide +kernel
theorem dX5_start_5 : decode cX5_start 5 = .ok (.aload_n 0, 1) := by decide +kernel
theorem dX5_start_6 : decode cX5_start 6 = .ok (.getfield 26, 3) := by decide +kernel
theorem dX5_start_9 : decode cX5_start 9 = .ok (.getfield 175, 3) := by decide +kernel
theorem dX5_start_12 : decode cX5_start 12 = .ok (.iload_n 1, 1) := by decide +kernel
theorem dX5_start_13 : decode cX5_start 13 = .ok (.iaload, 1) := by decide +kernel
theorem dX5_start_14 : decode cX5_start 14 = .ok (.ireturn, 1) := by decide +kernel
theorem dX5_end_0 : decode cX5_end 0 = .ok (.aload_n 0, 1) := by decide +kernel
theorem dX5_end_1 : decode cX5_end 1 = .ok (.iload_n 1, 1) := by decide +kernel
theorem dX5_end_2 : decode cX5_end 2 = .ok (.invokevirtual 170, 3) := by decide +kernel
theorem dX5_end_5 : decode cX5_end 5 = .ok (.aload_n 0, 1) := by decide +kernel
theorem dX5_end_6 : decode cX5_end 6 = .ok (.getfield 26, 3) := by decide +kernel
theorem dX5_end_9 : decode cX5_end 9 = .ok (.getfield 178, 3) := by decide +kernel
theorem dX5_end_12 : decode cX5_end 12 = .ok (.iload_n 1, 1) := by decide +kernel
theorem dX5_end_13 : decode cX5_end 13 = .ok (.iaload, 1) := by decide +kernel
theorem dX5_end_14 : decode cX5_end 14 = .ok (.ireturn, 1) := by decide +kernel
theorem dX5_state_0 : decode cX5_state 0 = .ok (.aload_n 0, 1) := by decide +kernel
theorem dX5_state_1 : decode cX5_state 1 = .ok (.iload_n 1, 1) := by decide +kernel
theorem dX5_state_2 : decode cX5_state 2 = .ok (.invokevirtual 170, 3) := by decide +kernel
theorem dX5_state_5 : decode cX5_state 5 = .ok (.aload_n 0, 1) := by decide +kernel
theorem dX5_state_6 : decode cX5_state 6 = .ok (.getfield 26, 3) := by decide +kernel
theorem dX5_state_9 : decode cX5_state 9 = .ok (.getfield 181, 3) := by decide +kernel
theorem dX5_state_12 : decode cX5_state 12 = .ok (.iload_n 1, 1) := by decide +kernel
theorem dX5_state_13 : decode cX5_state 13 = .ok (.iaload, 1) := by decide +kernel
theorem dX5_state_14 : decode cX5_state 14 = .ok (.ireturn, 1) := by decide +kernel
theorem dX5_parent_0 : decode cX5_parent 0 = .ok (.aload_n 0, 1) := by decide +kernel
theorem dX5_parent_1 : decode cX5_parent 1 = .ok (.iload_n 1, 1) := by decide +kernel
theorem dX5_parent_2 : decode cX5_parent 2 = .ok (.invokevirtual 170, 3) := by decide +kernel
theorem dX5_parent_5 : decode cX5_parent 5 = .ok (.aload_n 0, 1) := by decide +kernel
theorem dX5_parent_6 : decode cX5_parent 6 = .ok (.getfield 26, 3) := by decide +kernel
theorem dX5_parent_9 : decode cX5_parent 9 = .ok (.getfield 184, 3) := by decide +kernel
theorem dX5_parent_12 : decode cX5_parent 12 = .ok (.iload_n 1, 1) := by decide +kernel
theorem dX5_parent_13 : decode cX5_parent 13 = .ok (.iaload, 1) := by decide +kernel
theorem dX5_parent_14 : decode cX5_parent 14 = .ok (.ireturn, 1) := by decide +kernel
theorem dX5_depth_0 : decode cX5_depth 0 = .ok (.aload_n 0, 1) := by decide +kernel
theorem dX5_depth_1 : decode cX5_depth 1 = .ok (.iload_n 1, 1) := by decide +kernel
theorem dX5_depth_2 : decode cX5_depth 2 = .ok (.invokevirtual 170, 3) := by decide +kernel
theorem dX5_depth_5 : decode cX5_depth 5 = .ok (.aload_n 0, 1) := by decide +kernel
theorem dX5_depth_6 : decode cX5_depth 6 = .ok (.getfield 26, 3) := by decide +kernel
theorem dX5_depth_9 : decode cX5_depth 9 = .ok (.getfield 187, 3) := by decide +kernel
theorem dX5_depth_12 : decode cX5_depth 12 = .ok (.iload_n 1, 1) := by decide +kernel
theorem dX5_depth_13 : decode cX5_depth 13 = .ok (.iaload, 1) := by decide +kernel
theorem dX5_depth_14 : decode cX5_depth 14 = .ok (.ireturn, 1) := by decide +kernel
theorem dX5_own_0 : decode cX5_own 0 = .ok (.aload_n 0, 1) := by decide +kernel
theorem dX5_own_1 : decode cX5_own 1 = .ok (.iload_n 1, 1) := by decide +kernel
theorem dX5_own_2 : decode cX5_own 2 = .ok (.invokevirtual 170, 3) := by decide +kernel
theorem dX5_own_5 : decode cX5_own 5 = .ok (.aload_n 0, 1) := by decide +kernel
theorem dX5_own_6 : decode cX5_own 6 = .ok (.getfield 26, 3) := by decide +kernel
theorem dX5_own_9 : decode cX5_own 9 = .ok (.getfield 178, 3) := by decide +kernel
theorem dX5_own_12 : decode cX5_own 12 = .ok (.iload_n 1, 1) := by decide +kernel
theorem dX5_own_13 : decode cX5_own 13 = .ok (.iaload, 1) := by decide +kernel
theorem dX5_own_14 : decode cX5_own 14 = .ok (.aload_n 0, 1) := by decide +kernel
theorem dX5_own_15 : decode cX5_own 15 = .ok (.getfield 26, 3) := by decide +kernel
theorem dX5_own_18 : decode cX5_own 18 = .ok (.getfield 175, 3) := by decide +kernel
theorem dX5_own_21 : decode cX5_own 21 = .ok (.iload_n 1, 1) := by decide +kernel
theorem dX5_own_22 : decode cX5_own 22 = .ok (.iaload, 1) := by decide +kernel
theorem dX5_own_23 : decode cX5_own 23 = .ok (.isub, 1) := by decide +kernel
theorem dX5_own_24 : decode cX5_own 24 = .ok (.aload_n 0, 1) := by decide +kernel
theorem dX5_own_25 : decode cX5_own 25 = .ok (.getfield 26, 3) := by decide +kernel
theorem dX5_own_28 : decode cX5_own 28 = .ok (.iload_n 1, 1) := by decide +kernel
theorem dX5_own_29 : decode cX5_own 29 = .ok (.invokevirtual 190, 3) := by decide +kernel
theorem dX5_own_32 : decode cX5_own 32 = .ok (.isub, 1) := by decide +kernel
theorem dX5_own_33 : decode cX5_own 33 = .ok (.ireturn, 1) := by decide +kernel
theorem dX5_at_0 : decode cX5_at 0 = .ok (.aload_n 0, 1) := by decide +kernel
theorem dX5_at_1 : decode cX5_at 1 = .ok (.invokevirtual 167, 3) := by decide +kernel
theorem dX5_at_4 : decode cX5_at 4 = .ok (.aload_n 0, 1) := by decide +kernel
theorem dX5_at_5 : decode cX5_at 5 = .ok (.iload_n 1, 1) := by decide +kernel
theorem dX5_at_6 : decode cX5_at 6 = .ok (.invokevirtual 77, 3) := by decide +kernel
theorem dX5_at_9 : decode cX5_at 9 = .ok (.aload_n 0, 1) := by decide +kernel
theorem dX5_at_10 : decode cX5_at 10 = .ok (.getfield 26, 3) := by decide +kernel
theorem dX5_at_13 : decode cX5_at 13 = .ok (.iload_n 1, 1) := by decide +kernel
theorem dX5_at_14 : decode cX5_at 14 = .ok (.invokevirtual 193, 3) := by decide +kernel
theorem dX5_at_17 : decode cX5_at 17 = .ok (.ireturn, 1) := by decide +kernel
theorem dX5_count_0 : decode cX5_count 0 = .ok (.aload_n 0, 1) := by decide +kernel
theorem dX5_count_1 : decode cX5_count 1 = .ok (.invokevirtual 167, 3) := by decide +kernel
theorem dX5_count_4 : decode cX5_count 4 = .ok (.aload_n 0, 1) := by decide +kernel
theorem dX5_count_5 : decode cX5_count 5 = .ok (.iload_n 1, 1) := by decide +kernel
theorem dX5_count_6 : decode cX5_count 6 = .ok (.invokevirtual 91, 3) := by decide +kernel
theorem dX5_count_9 : decode cX5_count 9 = .ok (.iload_n 2, 1) := by decide +kernel
theorem dX5_count_10 : decode cX5_count 10 = .ok (.ifCond .lt 8, 3) := by decide +kernel
theorem dX5_count_13 : decode cX5_count 13 = .ok (.iload_n 2, 1) := by decide +kernel
theorem dX5_count_14 : decode cX5_count 14 = .ok (.iconst 3, 1) := by decide +kernel
theorem dX5_count_15 : decode cX5_count 15 = .ok (.if_icmp .lt 13, 3) := by decide +kernel
theorem dX5_count_18 : decode cX5_count 18 = .ok (.new 159, 3) := by decide +kernel
theorem dX5_count_21 : decode cX5_count 21 = .ok (.dup, 1) := by decide +kernel
theorem dX5_count_22 : decode cX5_count 22 = .ok (.ldc 196, 2) := by decide +kernel
theorem dX5_count_24 : decode cX5_count 24 = .ok (.invokespecial 163, 3) := by decide +kernel
theorem dX5_count_27 : decode cX5_count 27 = .ok (.athrow, 1) := by decide +kernel
theorem dX5_count_28 : decode cX5_count 28 = .ok (.iconst 0, 1) := by decide +kernel
theorem dX5_count_29 : decode cX5_count 29 = .ok (.istore_n 3, 1) := by decide +kernel
theorem dX5_count_30 : decode cX5_count 30 = .ok (.iconst 0, 1) := by decide +kernel
theorem dX5_count_31 : decode cX5_count 31 = .ok (.istore 4, 2) := by decide +kernel
theorem dX5_count_33 : decode cX5_count 33 = .ok (.iload 4, 2) := by decide +kernel
theorem dX5_count_35 : decode cX5_count 35 = .ok (.aload_n 0, 1) := by decide +kernel
theorem dX5_count_36 : decode cX5_count 36 = .ok (.getfield 26, 3) := by decide +kernel
theorem dX5_count_39 : decode cX5_count 39 = .ok (.getfield 139, 3) := by decide +kernel
theorem dX5_count_42 : decode cX5_count 42 = .ok (.if_icmp .ge 40, 3) := by decide +kernel
theorem dX5_count_45 : decode cX5_count 45 = .ok (.aload_n 0, 1) := by decide +kernel
theorem dX5_count_46 : decode cX5_count 46 = .ok (.getfield 26, 3) := by decide +kernel
theorem dX5_count_49 : decode cX5_count 49 = .ok (.getfield 173, 3) := by decide +kernel
theorem dX5_count_52 : decode cX5_count 52 = .ok (.iload 4, 2) := by decide +kernel
theorem dX5_count_54 : decode cX5_count 54 = .ok (.iaload, 1) := by decide +kernel
theorem dX5_count_55 : decode cX5_count 55 = .ok (.iload_n 1, 1) := by decide +kernel
theorem dX5_count_56 : decode cX5_count 56 = .ok (.if_icmp .ne 20, 3) := by decide +kernel
theorem dX5_count_59 : decode cX5_count 59 = .ok (.aload_n 0, 1) := by decide +kernel
theorem dX5_count_60 : decode cX5_count 60 = .ok (.getfield 26, 3) := by decide +kernel
theorem dX5_count_63 : decode cX5_count 63 = .ok (.getfield 181, 3) := by decide +kernel
theorem dX5_count_66 : decode cX5_count 66 = .ok (.iload 4, 2) := by decide +kernel
theorem dX5_count_68 : decode cX5_count 68 = .ok (.iaload, 1) := by decide +kernel
theorem dX5_count_69 : decode cX5_count 69 = .ok (.iload_n 2, 1) := by decide +kernel
theorem dX5_count_70 : decode cX5_count 70 = .ok (.if_icmp .ne 6, 3) := by decide +kernel
theorem dX5_count_73 : decode cX5_count 73 = .ok (.iinc 3 1, 3) := by decide +kernel
theorem dX5_count_76 : decode cX5_count 76 = .ok (.iinc 4 1, 3) := by decide +kernel
theorem dX5_count_79 : decode cX5_count 79 = .ok (.goto (-46), 3) := by decide +kernel
theorem dX5_count_82 : decode cX5_count 82 = .ok (.iload_n 3, 1) := by decide +kernel
theorem dX5_count_83 : decode cX5_count 83 = .ok (.ireturn, 1) := by decide +kernel
theorem dX5_water_0 : decode cX5_water 0 = .ok (.aload_n 0, 1) := by decide +kernel
theorem dX5_water_1 : decode cX5_water 1 = .ok (.invokevirtual 167, 3) := by decide +kernel
theorem dX5_water_4 : decode cX5_water 4 = .ok (.aload_n 0, 1) := by decide +kernel
theorem dX5_water_5 : decode cX5_water 5 = .ok (.getfield 10, 3) := by decide +kernel
theorem dX5_water_8 : decode cX5_water 8 = .ok (.getfield 59, 3) := by decide +kernel
theorem dX5_water_11 : decode cX5_water 11 = .ok (.aload_n 0, 1) := by decide +kernel
theorem dX5_water_12 : decode cX5_water 12 = .ok (.getfield 26, 3) := by decide +kernel
theorem dX5_water_15 : decode cX5_water 15 = .ok (.iconst (-1), 1) := by decide +kernel
theorem dX5_water_16 : decode cX5_water 16 = .ok (.invokevirtual 190, 3) := by decide +kernel
theorem dX5_water_19 : decode cX5_water 19 = .ok (.isub, 1) := by decide +kernel
theorem dX5_water_20 : decode cX5_water 20 = .ok (.ireturn, 1) := by decide +kernel
theorem dX5_left_0 : decode cX5_left 0 = .ok (.aload_n 0, 1) := by decide +kernel
theorem dX5_left_1 : decode cX5_left 1 = .ok (.invokevirtual 167, 3) := by decide +kernel
theorem dX5_left_4 : decode cX5_left 4 = .ok (.aload_n 0, 1) := by decide +kernel
theorem dX5_left_5 : decode cX5_left 5 = .ok (.getfield 26, 3) := by decide +kernel
theorem dX5_left_8 : decode cX5_left 8 = .ok (.getfield 152, 3) := by decide +kernel
theorem dX5_left_11 : decode cX5_left 11 = .ok (.ireturn, 1) := by decide +kernel
theorem dX5_share_0 : decode cX5_share 0 = .ok (.aload_n 0, 1) := by decide +kernel
theorem dX5_share_1 : decode cX5_share 1 = .ok (.invokevirtual 167, 3) := by decide +kernel
theorem dX5_share_4 : decode cX5_share 4 = .ok (.aload_n 0, 1) := by decide +kernel
theorem dX5_share_5 : decode cX5_share 5 = .ok (.getfield 10, 3) := by decide +kernel
theorem dX5_share_8 : decode cX5_share 8 = .ok (.getfield 59, 3) := by decide +kernel
theorem dX5_share_11 : decode cX5_share 11 = .ok (.ifCond .ne 5, 3) := by decide +kernel
theorem dX5_share_14 : decode cX5_share 14 = .ok (.dconst 0, 1) := by decide +kernel
theorem dX5_share_15 : decode cX5_share 15 = .ok (.dreturn, 1) := by decide +kernel
theorem dX5_share_16 : decode cX5_share 16 = .ok (.aload_n 0, 1) := by decide +kernel
theorem dX5_share_17 : decode cX5_share 17 = .ok (.getfield 26, 3) := by decide +kernel
theorem dX5_share_20 : decode cX5_share 20 = .ok (.iconst (-1), 1) := by decide +kernel
theorem dX5_share_21 : decode cX5_share 21 = .ok (.invokevirtual 190, 3) := by decide +kernel
theorem dX5_share_24 : decode cX5_share 24 = .ok (.i2d, 1) := by decide +kernel
theorem dX5_share_25 : decode cX5_share 25 = .ok (.aload_n 0, 1) := by decide +kernel
theorem dX5_share_26 : decode cX5_share 26 = .ok (.getfield 10, 3) := by decide +kernel
theorem dX5_share_29 : decode cX5_share 29 = .ok (.getfield 59, 3) := by decide +kernel
theorem dX5_share_32 : decode cX5_share 32 = .ok (.i2d, 1) := by decide +kernel
theorem dX5_share_33 : decode cX5_share 33 = .ok (.ddiv, 1) := by decide +kernel
theorem dX5_share_34 : decode cX5_share 34 = .ok (.dreturn, 1) := by decide +kernel
theorem dX5_digest_0 : decode cX5_digest 0 = .ok (.ldc2_w 198, 3) := by decide +kernel
theorem dX5_digest_3 : decode cX5_digest 3 = .ok (.aload_n 0, 1) := by decide +kernel
theorem dX5_digest_4 : decode cX5_digest 4 = .ok (.getfield 10, 3) := by decide +kernel
theorem dX5_digest_7 : decode cX5_digest 7 = .ok (.getfield 59, 3) := by decide +kernel
theorem dX5_digest_10 : decode cX5_digest 10 = .ok (.invokestatic 200, 3) := by decide +kernel
theorem dX5_digest_13 : decode cX5_digest 13 = .ok (.lstore_n 1, 1) := by decide +kernel
theorem dX5_digest_14 : decode cX5_digest 14 = .ok (.iconst 0, 1) := by decide +kernel
theorem dX5_digest_15 : decode cX5_digest 15 = .ok (.istore_n 3, 1) := by decide +kernel
theorem dX5_digest_16 : decode cX5_digest 16 = .ok (.iload_n 3, 1) := by decide +kernel
theorem dX5_digest_17 : decode cX5_digest 17 = .ok (.aload_n 0, 1) := by decide +kernel
theorem dX5_digest_18 : decode cX5_digest 18 = .ok (.getfield 10, 3) := by decide +kernel
theorem dX5_digest_21 : decode cX5_digest 21 = .ok (.getfield 59, 3) := by decide +kernel
theorem dX5_digest_24 : decode cX5_digest 24 = .ok (.if_icmp .ge 23, 3) := by decide +kernel
theorem dX5_digest_27 : decode cX5_digest 27 = .ok (.lload_n 1, 1) := by decide +kernel
theorem dX5_digest_28 : decode cX5_digest 28 = .ok (.aload_n 0, 1) := by decide +kernel
theorem dX5_digest_29 : decode cX5_digest 29 = .ok (.getfield 10, 3) := by decide +kernel
theorem dX5_digest_32 : decode cX5_digest 32 = .ok (.getfield 82, 3) := by decide +kernel
theorem dX5_digest_35 : decode cX5_digest 35 = .ok (.iload_n 3, 1) := by decide +kernel
theorem dX5_digest_36 : decode cX5_digest 36 = .ok (.iaload, 1) := by decide +kernel
theorem dX5_digest_37 : decode cX5_digest 37 = .ok (.invokestatic 200, 3) := by decide +kernel
theorem dX5_digest_40 : decode cX5_digest 40 = .ok (.lstore_n 1, 1) := by decide +kernel
theorem dX5_digest_41 : decode cX5_digest 41 = .ok (.iinc 3 1, 3) := by decide +kernel
theorem dX5_digest_44 : decode cX5_digest 44 = .ok (.goto (-28), 3) := by decide +kernel
theorem dX5_digest_47 : decode cX5_digest 47 = .ok (.lload_n 1, 1) := by decide +kernel
theorem dX5_digest_48 : decode cX5_digest 48 = .ok (.aload_n 0, 1) := by decide +kernel
theorem dX5_digest_49 : decode cX5_digest 49 = .ok (.getfield 10, 3) := by decide +kernel
theorem dX5_digest_52 : decode cX5_digest 52 = .ok (.getfield 88, 3) := by decide +kernel
theorem dX5_digest_55 : decode cX5_digest 55 = .ok (.invokestatic 200, 3) := by decide +kernel
theorem dX5_digest_58 : decode cX5_digest 58 = .ok (.lstore_n 1, 1) := by decide +kernel
theorem dX5_digest_59 : decode cX5_digest 59 = .ok (.lload_n 1, 1) := by decide +kernel
theorem dX5_digest_60 : decode cX5_digest 60 = .ok (.aload_n 0, 1) := by decide +kernel
theorem dX5_digest_61 : decode cX5_digest 61 = .ok (.getfield 44, 3) := by decide +kernel
theorem dX5_digest_64 : decode cX5_digest 64 = .ok (.ifCond .eq 7, 3) := by decide +kernel
theorem dX5_digest_67 : decode cX5_digest 67 = .ok (.iconst 1, 1) := by decide +kernel
theorem dX5_digest_68 : decode cX5_digest 68 = .ok (.goto 4, 3) := by decide +kernel
theorem dX5_digest_71 : decode cX5_digest 71 = .ok (.iconst 0, 1) := by decide +kernel
theorem dX5_digest_72 : decode cX5_digest 72 = .ok (.invokestatic 200, 3) := by decide +kernel
theorem dX5_digest_75 : decode cX5_digest 75 = .ok (.lstore_n 1, 1) := by decide +kernel
theorem dX5_digest_76 : decode cX5_digest 76 = .ok (.iconst 0, 1) := by decide +kernel
theorem dX5_digest_77 : decode cX5_digest 77 = .ok (.istore_n 3, 1) := by decide +kernel
theorem dX5_digest_78 : decode cX5_digest 78 = .ok (.iload_n 3, 1) := by decide +kernel
theorem dX5_digest_79 : decode cX5_digest 79 = .ok (.bipush 6, 2) := by decide +kernel
theorem dX5_digest_81 : decode cX5_digest 81 = .ok (.if_icmp .ge 92, 3) := by decide +kernel
theorem dX5_digest_84 : decode cX5_digest 84 = .ok (.lload_n 1, 1) := by decide +kernel
theorem dX5_digest_85 : decode cX5_digest 85 = .ok (.aload_n 0, 1) := by decide +kernel
theorem dX5_digest_86 : decode cX5_digest 86 = .ok (.getfield 19, 3) := by decide +kernel
theorem dX5_digest_89 : decode cX5_digest 89 = .ok (.iload_n 3, 1) := by decide +kernel
theorem dX5_digest_90 : decode cX5_digest 90 = .ok (.invokevirtual 104, 3) := by decide +kernel
theorem dX5_digest_93 : decode cX5_digest 93 = .ok (.ifCond .eq 7, 3) := by decide +kernel
theorem dX5_digest_96 : decode cX5_digest 96 = .ok (.iconst 1, 1) := by decide +kernel
theorem dX5_digest_97 : decode cX5_digest 97 = .ok (.goto 4, 3) := by decide +kernel
theorem dX5_digest_100 : decode cX5_digest 100 = .ok (.iconst 0, 1) := by decide +kernel
theorem dX5_digest_101 : decode cX5_digest 101 = .ok (.invokestatic 200, 3) := by decide +kernel
theorem dX5_digest_104 : decode cX5_digest 104 = .ok (.lstore_n 1, 1) := by decide +kernel
theorem dX5_digest_105 : decode cX5_digest 105 = .ok (.lload_n 1, 1) := by decide +kernel
theorem dX5_digest_106 : decode cX5_digest 106 = .ok (.aload_n 0, 1) := by decide +kernel
theorem dX5_digest_107 : decode cX5_digest 107 = .ok (.getfield 19, 3) := by decide +kernel
theorem dX5_digest_110 : decode cX5_digest 110 = .ok (.getfield 112, 3) := by decide +kernel
theorem dX5_digest_113 : decode cX5_digest 113 = .ok (.iload_n 3, 1) := by decide +kernel
theorem dX5_digest_114 : decode cX5_digest 114 = .ok (.invokestatic 204, 3) := by decide +kernel
theorem dX5_digest_117 : decode cX5_digest 117 = .ok (.ifCond .eq 7, 3) := by decide +kernel
theorem dX5_digest_120 : decode cX5_digest 120 = .ok (.iconst 1, 1) := by decide +kernel
theorem dX5_digest_121 : decode cX5_digest 121 = .ok (.goto 4, 3) := by decide +kernel
theorem dX5_digest_124 : decode cX5_digest 124 = .ok (.iconst 0, 1) := by decide +kernel
theorem dX5_digest_125 : decode cX5_digest 125 = .ok (.invokestatic 200, 3) := by decide +kernel
theorem dX5_digest_128 : decode cX5_digest 128 = .ok (.lstore_n 1, 1) := by decide +kernel
theorem dX5_digest_129 : decode cX5_digest 129 = .ok (.lload_n 1, 1) := by decide +kernel
theorem dX5_digest_130 : decode cX5_digest 130 = .ok (.aload_n 0, 1) := by decide +kernel
theorem dX5_digest_131 : decode cX5_digest 131 = .ok (.getfield 19, 3) := by decide +kernel
theorem dX5_digest_134 : decode cX5_digest 134 = .ok (.getfield 119, 3) := by decide +kernel
theorem dX5_digest_137 : decode cX5_digest 137 = .ok (.iload_n 3, 1) := by decide +kernel
theorem dX5_digest_138 : decode cX5_digest 138 = .ok (.invokestatic 204, 3) := by decide +kernel
theorem dX5_digest_141 : decode cX5_digest 141 = .ok (.ifCond .eq 7, 3) := by decide +kernel
theorem dX5_digest_144 : decode cX5_digest 144 = .ok (.iconst 1, 1) := by decide +kernel
theorem dX5_digest_145 : decode cX5_digest 145 = .ok (.goto 4, 3) := by decide +kernel
theorem dX5_digest_148 : decode cX5_digest 148 = .ok (.iconst 0, 1) := by decide +kernel
theorem dX5_digest_149 : decode cX5_digest 149 = .ok (.invokestatic 200, 3) := by decide +kernel
theorem dX5_digest_152 : decode cX5_digest 152 = .ok (.lstore_n 1, 1) := by decide +kernel
theorem dX5_digest_153 : decode cX5_digest 153 = .ok (.lload_n 1, 1) := by decide +kernel
theorem dX5_digest_154 : decode cX5_digest 154 = .ok (.aload_n 0, 1) := by decide +kernel
theorem dX5_digest_155 : decode cX5_digest 155 = .ok (.getfield 19, 3) := by decide +kernel
theorem dX5_digest_158 : decode cX5_digest 158 = .ok (.getfield 109, 3) := by decide +kernel
theorem dX5_digest_161 : decode cX5_digest 161 = .ok (.iload_n 3, 1) := by decide +kernel
theorem dX5_digest_162 : decode cX5_digest 162 = .ok (.iaload, 1) := by decide +kernel
theorem dX5_digest_163 : decode cX5_digest 163 = .ok (.invokestatic 200, 3) := by decide +kernel
theorem dX5_digest_166 : decode cX5_digest 166 = .ok (.lstore_n 1, 1) := by decide +kernel
theorem dX5_digest_167 : decode cX5_digest 167 = .ok (.iinc 3 1, 3) := by decide +kernel
theorem dX5_digest_170 : decode cX5_digest 170 = .ok (.goto (-92), 3) := by decide +kernel
theorem dX5_digest_173 : decode cX5_digest 173 = .ok (.aload_n 0, 1) := by decide +kernel
theorem dX5_digest_174 : decode cX5_digest 174 = .ok (.getfield 26, 3) := by decide +kernel
theorem dX5_digest_177 : decode cX5_digest 177 = .ok (.getfield 155, 3) := by decide +kernel
theorem dX5_digest_180 : decode cX5_digest 180 = .ok (.ifCond .eq 11, 3) := by decide +kernel
theorem dX5_digest_183 : decode cX5_digest 183 = .ok (.aload_n 0, 1) := by decide +kernel
theorem dX5_digest_184 : decode cX5_digest 184 = .ok (.lload_n 1, 1) := by decide +kernel
theorem dX5_digest_185 : decode cX5_digest 185 = .ok (.invokevirtual 208, 3) := by decide +kernel
theorem dX5_digest_188 : decode cX5_digest 188 = .ok (.goto 4, 3) := by decide +kernel
theorem dX5_digest_191 : decode cX5_digest 191 = .ok (.lload_n 1, 1) := by decide +kernel
theorem dX5_digest_192 : decode cX5_digest 192 = .ok (.lreturn, 1) := by decide +kernel
theorem dX5_withIslands_0 : decode cX5_withIslands 0 = .ok (.lload_n 1, 1) := by decide +kernel
theorem dX5_withIslands_1 : decode cX5_withIslands 1 = .ok (.aload_n 0, 1) := by decide +kernel
theorem dX5_withIslands_2 : decode cX5_withIslands 2 = .ok (.getfield 26, 3) := by decide +kernel
theorem dX5_withIslands_5 : decode cX5_withIslands 5 = .ok (.getfield 139, 3) := by decide +kernel
theorem dX5_withIslands_8 : decode cX5_withIslands 8 = .ok (.invokestatic 200, 3) := by decide +kernel
theorem dX5_withIslands_11 : decode cX5_withIslands 11 = .ok (.lstore_n 3, 1) := by decide +kernel
theorem dX5_withIslands_12 : decode cX5_withIslands 12 = .ok (.iconst 0, 1) := by decide +kernel
theorem dX5_withIslands_13 : decode cX5_withIslands 13 = .ok (.istore 5, 2) := by decide +kernel
theorem dX5_withIslands_15 : decode cX5_withIslands 15 = .ok (.iload 5, 2) := by decide +kernel
theorem dX5_withIslands_17 : decode cX5_withIslands 17 = .ok (.aload_n 0, 1) := by decide +kernel
theorem dX5_withIslands_18 : decode cX5_withIslands 18 = .ok (.getfield 26, 3) := by decide +kernel
theorem dX5_withIslands_21 : decode cX5_withIslands 21 = .ok (.getfield 139, 3) := by decide +kernel
theorem dX5_withIslands_24 : decode cX5_withIslands 24 = .ok (.if_icmp .ge 69, 3) := by decide +kernel
theorem dX5_withIslands_27 : decode cX5_withIslands 27 = .ok (.lload_n 3, 1) := by decide +kernel
theorem dX5_withIslands_28 : decode cX5_withIslands 28 = .ok (.aload_n 0, 1) := by decide +kernel
theorem dX5_withIslands_29 : decode cX5_withIslands 29 = .ok (.getfield 26, 3) := by decide +kernel
theorem dX5_withIslands_32 : decode cX5_withIslands 32 = .ok (.getfield 173, 3) := by decide +kernel
theorem dX5_withIslands_35 : decode cX5_withIslands 35 = .ok (.iload 5, 2) := by decide +kernel
theorem dX5_withIslands_37 : decode cX5_withIslands 37 = .ok (.iaload, 1) := by decide +kernel
theorem dX5_withIslands_38 : decode cX5_withIslands 38 = .ok (.invokestatic 200, 3) := by decide +kernel
theorem dX5_withIslands_41 : decode cX5_withIslands 41 = .ok (.lstore_n 3, 1) := by decide +kernel
theorem dX5_withIslands_42 : decode cX5_withIslands 42 = .ok (.lload_n 3, 1) := by decide +kernel
theorem dX5_withIslands_43 : decode cX5_withIslands 43 = .ok (.aload_n 0, 1) := by decide +kernel
theorem dX5_withIslands_44 : decode cX5_withIslands 44 = .ok (.getfield 26, 3) := by decide +kernel
theorem dX5_withIslands_47 : decode cX5_withIslands 47 = .ok (.getfield 175, 3) := by decide +kernel
theorem dX5_withIslands_50 : decode cX5_withIslands 50 = .ok (.iload 5, 2) := by decide +kernel
theorem dX5_withIslands_52 : decode cX5_withIslands 52 = .ok (.iaload, 1) := by decide +kernel
theorem dX5_withIslands_53 : decode cX5_withIslands 53 = .ok (.invokestatic 200, 3) := by decide +kernel
theorem dX5_withIslands_56 : decode cX5_withIslands 56 = .ok (.lstore_n 3, 1) := by decide +kernel
theorem dX5_withIslands_57 : decode cX5_withIslands 57 = .ok (.lload_n 3, 1) := by decide +kernel
theorem dX5_withIslands_58 : decode cX5_withIslands 58 = .ok (.aload_n 0, 1) := by decide +kernel
theorem dX5_withIslands_59 : decode cX5_withIslands 59 = .ok (.getfield 26, 3) := by decide +kernel
theorem dX5_withIslands_62 : decode cX5_withIslands 62 = .ok (.getfield 178, 3) := by decide +kernel
theorem dX5_withIslands_65 : decode cX5_withIslands 65 = .ok (.iload 5, 2) := by decide +kernel
theorem dX5_withIslands_67 : decode cX5_withIslands 67 = .ok (.iaload, 1) := by decide +kernel
theorem dX5_withIslands_68 : decode cX5_withIslands 68 = .ok (.invokestatic 200, 3) := by decide +kernel
theorem dX5_withIslands_71 : decode cX5_withIslands 71 = .ok (.lstore_n 3, 1) := by decide +kernel
theorem dX5_withIslands_72 : decode cX5_withIslands 72 = .ok (.lload_n 3, 1) := by decide +kernel
theorem dX5_withIslands_73 : decode cX5_withIslands 73 = .ok (.aload_n 0, 1) := by decide +kernel
theorem dX5_withIslands_74 : decode cX5_withIslands 74 = .ok (.getfield 26, 3) := by decide +kernel
theorem dX5_withIslands_77 : decode cX5_withIslands 77 = .ok (.getfield 181, 3) := by decide +kernel
theorem dX5_withIslands_80 : decode cX5_withIslands 80 = .ok (.iload 5, 2) := by decide +kernel
theorem dX5_withIslands_82 : decode cX5_withIslands 82 = .ok (.iaload, 1) := by decide +kernel
theorem dX5_withIslands_83 : decode cX5_withIslands 83 = .ok (.invokestatic 200, 3) := by decide +kernel
theorem dX5_withIslands_86 : decode cX5_withIslands 86 = .ok (.lstore_n 3, 1) := by decide +kernel
theorem dX5_withIslands_87 : decode cX5_withIslands 87 = .ok (.iinc 5 1, 3) := by decide +kernel
theorem dX5_withIslands_90 : decode cX5_withIslands 90 = .ok (.goto (-75), 3) := by decide +kernel
theorem dX5_withIslands_93 : decode cX5_withIslands 93 = .ok (.lload_n 3, 1) := by decide +kernel
theorem dX5_withIslands_94 : decode cX5_withIslands 94 = .ok (.aload_n 0, 1) := by decide +kernel
theorem dX5_withIslands_95 : decode cX5_withIslands 95 = .ok (.getfield 26, 3) := by decide +kernel
theorem dX5_withIslands_98 : decode cX5_withIslands 98 = .ok (.getfield 152, 3) := by decide +kernel
theorem dX5_withIslands_101 : decode cX5_withIslands 101 = .ok (.invokestatic 200, 3) := by decide +kernel
theorem dX5_withIslands_104 : decode cX5_withIslands 104 = .ok (.lreturn, 1) := by decide +kernel
theorem dX5_mixed_0 : decode cX5_mixed 0 = .ok (.lload_n 0, 1) := by decide +kernel
theorem dX5_mixed_1 : decode cX5_mixed 1 = .ok (.ldc2_w 212, 3) := by decide +kernel
theorem dX5_mixed_4 : decode cX5_mixed 4 = .ok (.lmul, 1) := by decide +kernel
theorem dX5_mixed_5 : decode cX5_mixed 5 = .ok (.iload_n 2, 1) := by decide +kernel
theorem dX5_mixed_6 : decode cX5_mixed 6 = .ok (.i2l, 1) := by decide +kernel
theorem dX5_mixed_7 : decode cX5_mixed 7 = .ok (.ladd, 1) := by decide +kernel
theorem dX5_mixed_8 : decode cX5_mixed 8 = .ok (.lreturn, 1) := by decide +kernel
theorem dX5_isTextByte_0 : decode cX5_isTextByte 0 = .ok (.iload_n 0, 1) := by decide +kernel
theorem dX5_isTextByte_1 : decode cX5_isTextByte 1 = .ok (.bipush 32, 2) := by decide +kernel
theorem dX5_isTextByte_3 : decode cX5_isTextByte 3 = .ok (.if_icmp .lt 13, 3) := by decide +kernel
theorem dX5_isTextByte_6 : decode cX5_isTextByte 6 = .ok (.iload_n 0, 1) := by decide +kernel
theorem dX5_isTextByte_7 : decode cX5_isTextByte 7 = .ok (.bipush 126, 2) := by decide +kernel
theorem dX5_isTextByte_9 : decode cX5_isTextByte 9 = .ok (.if_icmp .gt 7, 3) := by decide +kernel
theorem dX5_isTextByte_12 : decode cX5_isTextByte 12 = .ok (.iconst 1, 1) := by decide +kernel
theorem dX5_isTextByte_13 : decode cX5_isTextByte 13 = .ok (.goto 4, 3) := by decide +kernel
theorem dX5_isTextByte_16 : decode cX5_isTextByte 16 = .ok (.iconst 0, 1) := by decide +kernel
theorem dX5_isTextByte_17 : decode cX5_isTextByte 17 = .ok (.ireturn, 1) := by decide +kernel
theorem dX5_holdsKind_0 : decode cX5_holdsKind 0 = .ok (.iload_n 0, 1) := by decide +kernel
theorem dX5_holdsKind_1 : decode cX5_holdsKind 1 = .ok (.iload_n 1, 1) := by decide +kernel
theorem dX5_holdsKind_2 : decode cX5_holdsKind 2 = .ok (.ishr, 1) := by decide +kernel
theorem dX5_holdsKind_3 : decode cX5_holdsKind 3 = .ok (.iconst 1, 1) := by decide +kernel
theorem dX5_holdsKind_4 : decode cX5_holdsKind 4 = .ok (.iand, 1) := by decide +kernel
theorem dX5_holdsKind_5 : decode cX5_holdsKind 5 = .ok (.iconst 1, 1) := by decide +kernel
theorem dX5_holdsKind_6 : decode cX5_holdsKind 6 = .ok (.if_icmp .ne 7, 3) := by decide +kernel
theorem dX5_holdsKind_9 : decode cX5_holdsKind 9 = .ok (.iconst 1, 1) := by decide +kernel
theorem dX5_holdsKind_10 : decode cX5_holdsKind 10 = .ok (.goto 4, 3) := by decide +kernel
theorem dX5_holdsKind_13 : decode cX5_holdsKind 13 = .ok (.iconst 0, 1) := by decide +kernel
theorem dX5_holdsKind_14 : decode cX5_holdsKind 14 = .ok (.ireturn, 1) := by decide +kernel
theorem dX5_withKind_0 : decode cX5_withKind 0 = .ok (.iload_n 2, 1) := by decide +kernel
theorem dX5_withKind_1 : decode cX5_withKind 1 = .ok (.ifCond .eq 11, 3) := by decide +kernel
theorem dX5_withKind_4 : decode cX5_withKind 4 = .ok (.iload_n 0, 1) := by decide +kernel
theorem dX5_withKind_5 : decode cX5_withKind 5 = .ok (.iconst 1, 1) := by decide +kernel
theorem dX5_withKind_6 : decode cX5_withKind 6 = .ok (.iload_n 1, 1) := by decide +kernel
theorem dX5_withKind_7 : decode cX5_withKind 7 = .ok (.ishl, 1) := by decide +kernel
theorem dX5_withKind_8 : decode cX5_withKind 8 = .ok (.ior, 1) := by decide +kernel
theorem dX5_withKind_9 : decode cX5_withKind 9 = .ok (.goto 10, 3) := by decide +kernel
theorem dX5_withKind_12 : decode cX5_withKind 12 = .ok (.iload_n 0, 1) := by decide +kernel
theorem dX5_withKind_13 : decode cX5_withKind 13 = .ok (.iconst 1, 1) := by decide +kernel
theorem dX5_withKind_14 : decode cX5_withKind 14 = .ok (.iload_n 1, 1) := by decide +kernel
theorem dX5_withKind_15 : decode cX5_withKind 15 = .ok (.ishl, 1) := by decide +kernel
theorem dX5_withKind_16 : decode cX5_withKind 16 = .ok (.iconst (-1), 1) := by decide +kernel
theorem dX5_withKind_17 : decode cX5_withKind 17 = .ok (.ixor, 1) := by decide +kernel
theorem dX5_withKind_18 : decode cX5_withKind 18 = .ok (.iand, 1) := by decide +kernel
theorem dX5_withKind_19 : decode cX5_withKind 19 = .ok (.ireturn, 1) := by decide +kernel
theorem dX5_needPlace_0 : decode cX5_needPlace 0 = .ok (.aload_n 0, 1) := by decide +kernel
theorem dX5_needPlace_1 : decode cX5_needPlace 1 = .ok (.getfield 10, 3) := by decide +kernel
theorem dX5_needPlace_4 : decode cX5_needPlace 4 = .ok (.iload_n 1, 1) := by decide +kernel
theorem dX5_needPlace_5 : decode cX5_needPlace 5 = .ok (.invokevirtual 214, 3) := by decide +kernel
theorem dX5_needPlace_8 : decode cX5_needPlace 8 = .ok (.ifCond .ne 13, 3) := by decide +kernel
theorem dX5_needPlace_11 : decode cX5_needPlace 11 = .ok (.new 159, 3) := by decide +kernel
theorem dX5_needPlace_14 : decode cX5_needPlace 14 = .ok (.dup, 1) := by decide +kernel
theorem dX5_needPlace_15 : decode cX5_needPlace 15 = .ok (.ldc 217, 2) := by decide +kernel
theorem dX5_needPlace_17 : decode cX5_needPlace 17 = .ok (.invokespecial 163, 3) := by decide +kernel
theorem dX5_needPlace_20 : decode cX5_needPlace 20 = .ok (.athrow, 1) := by decide +kernel
theorem dX5_needPlace_21 : decode cX5_needPlace 21 = .ok (.return_, 1) := by decide +kernel
theorem dX5_needKind_0 : decode cX5_needKind 0 = .ok (.iload_n 1, 1) := by decide +kernel
theorem dX5_needKind_1 : decode cX5_needKind 1 = .ok (.ifCond .lt 9, 3) := by decide +kernel
theorem dX5_needKind_4 : decode cX5_needKind 4 = .ok (.iload_n 1, 1) := by decide +kernel
theorem dX5_needKind_5 : decode cX5_needKind 5 = .ok (.bipush 6, 2) := by decide +kernel
theorem dX5_needKind_7 : decode cX5_needKind 7 = .ok (.if_icmp .lt 13, 3) := by decide +kernel
theorem dX5_needKind_10 : decode cX5_needKind 10 = .ok (.new 159, 3) := by decide +kernel
theorem dX5_needKind_13 : decode cX5_needKind 13 = .ok (.dup, 1) := by decide +kernel
theorem dX5_needKind_14 : decode cX5_needKind 14 = .ok (.ldc 219, 2) := by decide +kernel
theorem dX5_needKind_16 : decode cX5_needKind 16 = .ok (.invokespecial 163, 3) := by decide +kernel
theorem dX5_needKind_19 : decode cX5_needKind 19 = .ok (.athrow, 1) := by decide +kernel
theorem dX5_needKind_20 : decode cX5_needKind 20 = .ok (.return_, 1) := by decide +kernel
theorem dX5_needReading_0 : decode cX5_needReading 0 = .ok (.aload_n 0, 1) := by decide +kernel
theorem dX5_needReading_1 : decode cX5_needReading 1 = .ok (.getfield 26, 3) := by decide +kernel
theorem dX5_needReading_4 : decode cX5_needReading 4 = .ok (.getfield 155, 3) := by decide +kernel
theorem dX5_needReading_7 : decode cX5_needReading 7 = .ok (.ifCond .ne 13, 3) := by decide +kernel
theorem dX5_needReading_10 : decode cX5_needReading 10 = .ok (.new 63, 3) := by decide +kernel
theorem dX5_needReading_13 : decode cX5_needReading 13 = .ok (.dup, 1) := by decide +kernel
theorem dX5_needReading_14 : decode cX5_needReading 14 = .ok (.ldc 221, 2) := by decide +kernel
theorem dX5_needReading_16 : decode cX5_needReading 16 = .ok (.invokespecial 67, 3) := by decide +kernel
theorem dX5_needReading_19 : decode cX5_needReading 19 = .ok (.athrow, 1) := by decide +kernel
theorem dX5_needReading_20 : decode cX5_needReading 20 = .ok (.return_, 1) := by decide +kernel
theorem dX5_needIsland_0 : decode cX5_needIsland 0 = .ok (.aload_n 0, 1) := by decide +kernel
theorem dX5_needIsland_1 : decode cX5_needIsland 1 = .ok (.invokevirtual 167, 3) := by decide +kernel
theorem dX5_needIsland_4 : decode cX5_needIsland 4 = .ok (.iload_n 1, 1) := by decide +kernel
theorem dX5_needIsland_5 : decode cX5_needIsland 5 = .ok (.ifCond .lt 14, 3) := by decide +kernel
theorem dX5_needIsland_8 : decode cX5_needIsland 8 = .ok (.iload_n 1, 1) := by decide +kernel
theorem dX5_needIsland_9 : decode cX5_needIsland 9 = .ok (.aload_n 0, 1) := by decide +kernel
theorem dX5_needIsland_10 : decode cX5_needIsland 10 = .ok (.getfield 26, 3) := by decide +kernel
theorem dX5_needIsland_13 : decode cX5_needIsland 13 = .ok (.getfield 139, 3) := by decide +kernel
theorem dX5_needIsland_16 : decode cX5_needIsland 16 = .ok (.if_icmp .lt 13, 3) := by decide +kernel
theorem dX5_needIsland_19 : decode cX5_needIsland 19 = .ok (.new 159, 3) := by decide +kernel
theorem dX5_needIsland_22 : decode cX5_needIsland 22 = .ok (.dup, 1) := by decide +kernel
theorem dX5_needIsland_23 : decode cX5_needIsland 23 = .ok (.ldc 223, 2) := by decide +kernel
theorem dX5_needIsland_25 : decode cX5_needIsland 25 = .ok (.invokespecial 163, 3) := by decide +kernel
theorem dX5_needIsland_28 : decode cX5_needIsland 28 = .ok (.athrow, 1) := by decide +kernel
theorem dX5_needIsland_29 : decode cX5_needIsland 29 = .ok (.return_, 1) := by decide +kernel
theorem dX5_readWordAt_0 : decode cX5_readWordAt 0 = .ok (.iconst 3, 1) := by decide +kernel
theorem dX5_readWordAt_1 : decode cX5_readWordAt 1 = .ok (.istore_n 2, 1) := by decide +kernel
theorem dX5_readWordAt_2 : decode cX5_readWordAt 2 = .ok (.iload_n 2, 1) := by decide +kernel
theorem dX5_readWordAt_3 : decode cX5_readWordAt 3 = .ok (.iconst 1, 1) := by decide +kernel
theorem dX5_readWordAt_4 : decode cX5_readWordAt 4 = .ok (.if_icmp .lt 37, 3) := by decide +kernel
theorem dX5_readWordAt_7 : decode cX5_readWordAt 7 = .ok (.aload_n 0, 1) := by decide +kernel
theorem dX5_readWordAt_8 : decode cX5_readWordAt 8 = .ok (.getfield 10, 3) := by decide +kernel
theorem dX5_readWordAt_11 : decode cX5_readWordAt 11 = .ok (.iload_n 1, 1) := by decide +kernel
theorem dX5_readWordAt_12 : decode cX5_readWordAt 12 = .ok (.iload_n 2, 1) := by decide +kernel
theorem dX5_readWordAt_13 : decode cX5_readWordAt 13 = .ok (.invokevirtual 225, 3) := by decide +kernel
theorem dX5_readWordAt_16 : decode cX5_readWordAt 16 = .ok (.istore_n 3, 1) := by decide +kernel
theorem dX5_readWordAt_17 : decode cX5_readWordAt 17 = .ok (.iload_n 3, 1) := by decide +kernel
theorem dX5_readWordAt_18 : decode cX5_readWordAt 18 = .ok (.ifCond .eq 17, 3) := by decide +kernel
theorem dX5_readWordAt_21 : decode cX5_readWordAt 21 = .ok (.aload_n 0, 1) := by decide +kernel
theorem dX5_readWordAt_22 : decode cX5_readWordAt 22 = .ok (.iload_n 3, 1) := by decide +kernel
theorem dX5_readWordAt_23 : decode cX5_readWordAt 23 = .ok (.iload_n 1, 1) := by decide +kernel
theorem dX5_readWordAt_24 : decode cX5_readWordAt 24 = .ok (.iload_n 1, 1) := by decide +kernel
theorem dX5_readWordAt_25 : decode cX5_readWordAt 25 = .ok (.iload_n 2, 1) := by decide +kernel
theorem dX5_readWordAt_26 : decode cX5_readWordAt 26 = .ok (.iadd, 1) := by decide +kernel
theorem dX5_readWordAt_27 : decode cX5_readWordAt 27 = .ok (.invokevirtual 229, 3) := by decide +kernel
theorem dX5_readWordAt_30 : decode cX5_readWordAt 30 = .ok (.ifCond .eq 5, 3) := by decide +kernel
theorem dX5_readWordAt_33 : decode cX5_readWordAt 33 = .ok (.iload_n 2, 1) := by decide +kernel
theorem dX5_readWordAt_34 : decode cX5_readWordAt 34 = .ok (.ireturn, 1) := by decide +kernel
theorem dX5_readWordAt_35 : decode cX5_readWordAt 35 = .ok (.iinc 2 (-1), 3) := by decide +kernel
theorem dX5_readWordAt_38 : decode cX5_readWordAt 38 = .ok (.goto (-36), 3) := by decide +kernel
theorem dX5_readWordAt_41 : decode cX5_readWordAt 41 = .ok (.iconst 1, 1) := by decide +kernel
theorem dX5_readWordAt_42 : decode cX5_readWordAt 42 = .ok (.ireturn, 1) := by decide +kernel
theorem dX5_takesWord_0 : decode cX5_takesWord 0 = .ok (.aload_n 0, 1) := by decide +kernel
theorem dX5_takesWord_1 : decode cX5_takesWord 1 = .ok (.getfield 26, 3) := by decide +kernel
theorem dX5_takesWord_4 : decode cX5_takesWord 4 = .ok (.invokevirtual 233, 3) := by decide +kernel
theorem dX5_takesWord_7 : decode cX5_takesWord 7 = .ok (.istore 4, 2) := by decide +kernel
theorem dX5_takesWord_9 : decode cX5_takesWord 9 = .ok (.aload_n 0, 1) := by decide +kernel
theorem dX5_takesWord_10 : decode cX5_takesWord 10 = .ok (.getfield 19, 3) := by decide +kernel
theorem dX5_takesWord_13 : decode cX5_takesWord 13 = .ok (.iload 4, 2) := by decide +kernel
theorem dX5_takesWord_15 : decode cX5_takesWord 15 = .ok (.iload_n 1, 1) := by decide +kernel
theorem dX5_takesWord_16 : decode cX5_takesWord 16 = .ok (.invokevirtual 237, 3) := by decide +kernel
theorem dX5_takesWord_19 : decode cX5_takesWord 19 = .ok (.ifCond .eq 14, 3) := by decide +kernel
theorem dX5_takesWord_22 : decode cX5_takesWord 22 = .ok (.aload_n 0, 1) := by decide +kernel
theorem dX5_takesWord_23 : decode cX5_takesWord 23 = .ok (.getfield 26, 3) := by decide +kernel
theorem dX5_takesWord_26 : decode cX5_takesWord 26 = .ok (.iload_n 3, 1) := by decide +kernel
theorem dX5_takesWord_27 : decode cX5_takesWord 27 = .ok (.iconst 0, 1) := by decide +kernel
theorem dX5_takesWord_28 : decode cX5_takesWord 28 = .ok (.invokevirtual 240, 3) := by decide +kernel
theorem dX5_takesWord_31 : decode cX5_takesWord 31 = .ok (.iconst 1, 1) := by decide +kernel
theorem dX5_takesWord_32 : decode cX5_takesWord 32 = .ok (.ireturn, 1) := by decide +kernel
theorem dX5_takesWord_33 : decode cX5_takesWord 33 = .ok (.aload_n 0, 1) := by decide +kernel
theorem dX5_takesWord_34 : decode cX5_takesWord 34 = .ok (.getfield 19, 3) := by decide +kernel
theorem dX5_takesWord_37 : decode cX5_takesWord 37 = .ok (.iload_n 1, 1) := by decide +kernel
theorem dX5_takesWord_38 : decode cX5_takesWord 38 = .ok (.invokevirtual 244, 3) := by decide +kernel
theorem dX5_takesWord_41 : decode cX5_takesWord 41 = .ok (.aload_n 0, 1) := by decide +kernel
theorem dX5_takesWord_42 : decode cX5_takesWord 42 = .ok (.getfield 19, 3) := by decide +kernel
theorem dX5_takesWord_45 : decode cX5_takesWord 45 = .ok (.iload 4, 2) := by decide +kernel
theorem dX5_takesWord_47 : decode cX5_takesWord 47 = .ok (.invokevirtual 247, 3) := by decide +kernel
theorem dX5_takesWord_50 : decode cX5_takesWord 50 = .ok (.iand, 1) := by decide +kernel
theorem dX5_takesWord_51 : decode cX5_takesWord 51 = .ok (.istore 5, 2) := by decide +kernel
theorem dX5_takesWord_53 : decode cX5_takesWord 53 = .ok (.iload 5, 2) := by decide +kernel
theorem dX5_takesWord_55 : decode cX5_takesWord 55 = .ok (.ifCond .eq 30, 3) := by decide +kernel
theorem dX5_takesWord_58 : decode cX5_takesWord 58 = .ok (.aload_n 0, 1) := by decide +kernel
theorem dX5_takesWord_59 : decode cX5_takesWord 59 = .ok (.getfield 26, 3) := by decide +kernel
theorem dX5_takesWord_62 : decode cX5_takesWord 62 = .ok (.getfield 132, 3) := by decide +kernel
theorem dX5_takesWord_65 : decode cX5_takesWord 65 = .ok (.bipush 8, 2) := by decide +kernel
theorem dX5_takesWord_67 : decode cX5_takesWord 67 = .ok (.if_icmp .ge 18, 3) := by decide +kernel
theorem dX5_takesWord_70 : decode cX5_takesWord 70 = .ok (.aload_n 0, 1) := by decide +kernel
theorem dX5_takesWord_71 : decode cX5_takesWord 71 = .ok (.getfield 26, 3) := by decide +kernel
theorem dX5_takesWord_74 : decode cX5_takesWord 74 = .ok (.iload 5, 2) := by decide +kernel
theorem dX5_takesWord_76 : decode cX5_takesWord 76 = .ok (.invokestatic 250, 3) := by decide +kernel
theorem dX5_takesWord_79 : decode cX5_takesWord 79 = .ok (.iload_n 2, 1) := by decide +kernel
theorem dX5_takesWord_80 : decode cX5_takesWord 80 = .ok (.invokevirtual 253, 3) := by decide +kernel
theorem dX5_takesWord_83 : decode cX5_takesWord 83 = .ok (.iconst 1, 1) := by decide +kernel
theorem dX5_takesWord_84 : decode cX5_takesWord 84 = .ok (.ireturn, 1) := by decide +kernel
theorem dX5_takesWord_85 : decode cX5_takesWord 85 = .ok (.iload 4, 2) := by decide +kernel
theorem dX5_takesWord_87 : decode cX5_takesWord 87 = .ok (.bipush 6, 2) := by decide +kernel
theorem dX5_takesWord_89 : decode cX5_takesWord 89 = .ok (.if_icmp .eq 18, 3) := by decide +kernel
theorem dX5_takesWord_92 : decode cX5_takesWord 92 = .ok (.aload_n 0, 1) := by decide +kernel
theorem dX5_takesWord_93 : decode cX5_takesWord 93 = .ok (.getfield 19, 3) := by decide +kernel
theorem dX5_takesWord_96 : decode cX5_takesWord 96 = .ok (.getfield 112, 3) := by decide +kernel
theorem dX5_takesWord_99 : decode cX5_takesWord 99 = .ok (.iload 4, 2) := by decide +kernel
theorem dX5_takesWord_101 : decode cX5_takesWord 101 = .ok (.invokestatic 204, 3) := by decide +kernel
theorem dX5_takesWord_104 : decode cX5_takesWord 104 = .ok (.ifCond .eq 5, 3) := by decide +kernel
theorem dX5_takesWord_107 : decode cX5_takesWord 107 = .ok (.iconst 0, 1) := by decide +kernel
theorem dX5_takesWord_108 : decode cX5_takesWord 108 = .ok (.ireturn, 1) := by decide +kernel
theorem dX5_takesWord_109 : decode cX5_takesWord 109 = .ok (.aload_n 0, 1) := by decide +kernel
theorem dX5_takesWord_110 : decode cX5_takesWord 110 = .ok (.iload_n 1, 1) := by decide +kernel
theorem dX5_takesWord_111 : decode cX5_takesWord 111 = .ok (.iload_n 2, 1) := by decide +kernel
theorem dX5_takesWord_112 : decode cX5_takesWord 112 = .ok (.iload_n 3, 1) := by decide +kernel
theorem dX5_takesWord_113 : decode cX5_takesWord 113 = .ok (.invokevirtual 256, 3) := by decide +kernel
theorem dX5_takesWord_116 : decode cX5_takesWord 116 = .ok (.ireturn, 1) := by decide +kernel
theorem dX5_takesOuterClosing_0 : decode cX5_takesOuterClosing 0 = .ok (.aload_n 0, 1) := by decide +kernel
theorem dX5_takesOuterClosing_1 : decode cX5_takesOuterClosing 1 = .ok (.iload_n 1, 1) := by decide +kernel
theorem dX5_takesOuterClosing_2 : decode cX5_takesOuterClosing 2 = .ok (.invokevirtual 259, 3) := by decide +kernel
theorem dX5_takesOuterClosing_5 : decode cX5_takesOuterClosing 5 = .ok (.istore 4, 2) := by decide +kernel
theorem dX5_takesOuterClosing_7 : decode cX5_takesOuterClosing 7 = .ok (.iload 4, 2) := by decide +kernel
theorem dX5_takesOuterClosing_9 : decode cX5_takesOuterClosing 9 = .ok (.iconst (-1), 1) := by decide +kernel
theorem dX5_takesOuterClosing_10 : decode cX5_takesOuterClosing 10 = .ok (.if_icmp .ne 5, 3) := by decide +kernel
theorem dX5_takesOuterClosing_13 : decode cX5_takesOuterClosing 13 = .ok (.iconst 0, 1) := by decide +kernel
theorem dX5_takesOuterClosing_14 : decode cX5_takesOuterClosing 14 = .ok (.ireturn, 1) := by decide +kernel
theorem dX5_takesOuterClosing_15 : decode cX5_takesOuterClosing 15 = .ok (.aload_n 0, 1) := by decide +kernel
theorem dX5_takesOuterClosing_16 : decode cX5_takesOuterClosing 16 = .ok (.getfield 44, 3) := by decide +kernel
theorem dX5_takesOuterClosing_19 : decode cX5_takesOuterClosing 19 = .ok (.ifCond .eq 23, 3) := by decide +kernel
theorem dX5_takesOuterClosing_22 : decode cX5_takesOuterClosing 22 = .ok (.aload_n 0, 1) := by decide +kernel
theorem dX5_takesOuterClosing_23 : decode cX5_takesOuterClosing 23 = .ok (.iload 4, 2) := by decide +kernel
theorem dX5_takesOuterClosing_25 : decode cX5_takesOuterClosing 25 = .ok (.iload_n 2, 1) := by decide +kernel
theorem dX5_takesOuterClosing_26 : decode cX5_takesOuterClosing 26 = .ok (.iconst 1, 1) := by decide +kernel
theorem dX5_takesOuterClosing_27 : decode cX5_takesOuterClosing 27 = .ok (.invokevirtual 135, 3) := by decide +kernel
theorem dX5_takesOuterClosing_30 : decode cX5_takesOuterClosing 30 = .ok (.aload_n 0, 1) := by decide +kernel
theorem dX5_takesOuterClosing_31 : decode cX5_takesOuterClosing 31 = .ok (.getfield 26, 3) := by decide +kernel
theorem dX5_takesOuterClosing_34 : decode cX5_takesOuterClosing 34 = .ok (.iload_n 3, 1) := by decide +kernel
theorem dX5_takesOuterClosing_35 : decode cX5_takesOuterClosing 35 = .ok (.iconst 0, 1) := by decide +kernel
theorem dX5_takesOuterClosing_36 : decode cX5_takesOuterClosing 36 = .ok (.invokevirtual 240, 3) := by decide +kernel
theorem dX5_takesOuterClosing_39 : decode cX5_takesOuterClosing 39 = .ok (.goto 16, 3) := by decide +kernel
theorem dX5_takesOuterClosing_42 : decode cX5_takesOuterClosing 42 = .ok (.aload_n 0, 1) := by decide +kernel
theorem dX5_takesOuterClosing_43 : decode cX5_takesOuterClosing 43 = .ok (.getfield 26, 3) := by decide +kernel
theorem dX5_takesOuterClosing_46 : decode cX5_takesOuterClosing 46 = .ok (.dup, 1) := by decide +kernel
theorem dX5_takesOuterClosing_47 : decode cX5_takesOuterClosing 47 = .ok (.getfield 152, 3) := by decide +kernel
theorem dX5_takesOuterClosing_50 : decode cX5_takesOuterClosing 50 = .ok (.iconst 1, 1) := by decide +kernel
theorem dX5_takesOuterClosing_51 : decode cX5_takesOuterClosing 51 = .ok (.iadd, 1) := by decide +kernel
theorem dX5_takesOuterClosing_52 : decode cX5_takesOuterClosing 52 = .ok (.putfield 152, 3) := by decide +kernel
theorem dX5_takesOuterClosing_55 : decode cX5_takesOuterClosing 55 = .ok (.iconst 1, 1) := by decide +kernel
theorem dX5_takesOuterClosing_56 : decode cX5_takesOuterClosing 56 = .ok (.ireturn, 1) := by decide +kernel
theorem dX5_islandsInsideClosedBy_0 : decode cX5_islandsInsideClosedBy 0 = .ok (.iconst 1, 1) := by decide +kernel
theorem dX5_islandsInsideClosedBy_1 : decode cX5_islandsInsideClosedBy 1 = .ok (.istore_n 2, 1) := by decide +kernel
theorem dX5_islandsInsideClosedBy_2 : decode cX5_islandsInsideClosedBy 2 = .ok (.iload_n 2, 1) := by decide +kernel
theorem dX5_islandsInsideClosedBy_3 : decode cX5_islandsInsideClosedBy 3 = .ok (.aload_n 0, 1) := by decide +kernel
theorem dX5_islandsInsideClosedBy_4 : decode cX5_islandsInsideClosedBy 4 = .ok (.getfield 26, 3) := by decide +kernel
theorem dX5_islandsInsideClosedBy_7 : decode cX5_islandsInsideClosedBy 7 = .ok (.getfield 132, 3) := by decide +kernel
theorem dX5_islandsInsideClosedBy_10 : decode cX5_islandsInsideClosedBy 10 = .ok (.if_icmp .ge 30, 3) := by decide +kernel
theorem dX5_islandsInsideClosedBy_13 : decode cX5_islandsInsideClosedBy 13 = .ok (.aload_n 0, 1) := by decide +kernel
theorem dX5_islandsInsideClosedBy_14 : decode cX5_islandsInsideClosedBy 14 = .ok (.getfield 19, 3) := by decide +kernel
theorem dX5_islandsInsideClosedBy_17 : decode cX5_islandsInsideClosedBy 17 = .ok (.aload_n 0, 1) := by decide +kernel
theorem dX5_islandsInsideClosedBy_18 : decode cX5_islandsInsideClosedBy 18 = .ok (.getfield 26, 3) := by decide +kernel
theorem dX5_islandsInsideClosedBy_21 : decode cX5_islandsInsideClosedBy 21 = .ok (.iload_n 2, 1) := by decide +kernel
theorem dX5_islandsInsideClosedBy_22 : decode cX5_islandsInsideClosedBy 22 = .ok (.invokevirtual 262, 3) := by decide +kernel
theorem dX5_islandsInsideClosedBy_25 : decode cX5_islandsInsideClosedBy 25 = .ok (.iload_n 1, 1) := by decide +kernel
theorem dX5_islandsInsideClosedBy_26 : decode cX5_islandsInsideClosedBy 26 = .ok (.invokevirtual 237, 3) := by decide +kernel
theorem dX5_islandsInsideClosedBy_29 : decode cX5_islandsInsideClosedBy 29 = .ok (.ifCond .eq 5, 3) := by decide +kernel
theorem dX5_islandsInsideClosedBy_32 : decode cX5_islandsInsideClosedBy 32 = .ok (.iload_n 2, 1) := by decide +kernel
theorem dX5_islandsInsideClosedBy_33 : decode cX5_islandsInsideClosedBy 33 = .ok (.ireturn, 1) := by decide +kernel
theorem dX5_islandsInsideClosedBy_34 : decode cX5_islandsInsideClosedBy 34 = .ok (.iinc 2 1, 3) := by decide +kernel
theorem dX5_islandsInsideClosedBy_37 : decode cX5_islandsInsideClosedBy 37 = .ok (.goto (-35), 3) := by decide +kernel
theorem dX5_islandsInsideClosedBy_40 : decode cX5_islandsInsideClosedBy 40 = .ok (.iconst (-1), 1) := by decide +kernel
theorem dX5_islandsInsideClosedBy_41 : decode cX5_islandsInsideClosedBy 41 = .ok (.ireturn, 1) := by decide +kernel
theorem dX5_giveUp_0 : decode cX5_giveUp 0 = .ok (.iconst 0, 1) := by decide +kernel
theorem dX5_giveUp_1 : decode cX5_giveUp 1 = .ok (.istore 4, 2) := by decide +kernel
theorem dX5_giveUp_3 : decode cX5_giveUp 3 = .ok (.iload 4, 2) := by decide +kernel
theorem dX5_giveUp_5 : decode cX5_giveUp 5 = .ok (.iload_n 1, 1) := by decide +kernel
theorem dX5_giveUp_6 : decode cX5_giveUp 6 = .ok (.if_icmp .ge 18, 3) := by decide +kernel
theorem dX5_giveUp_9 : decode cX5_giveUp 9 = .ok (.aload_n 0, 1) := by decide +kernel
theorem dX5_giveUp_10 : decode cX5_giveUp 10 = .ok (.getfield 26, 3) := by decide +kernel
theorem dX5_giveUp_13 : decode cX5_giveUp 13 = .ok (.iload_n 2, 1) := by decide +kernel
theorem dX5_giveUp_14 : decode cX5_giveUp 14 = .ok (.iload_n 3, 1) := by decide +kernel
theorem dX5_giveUp_15 : decode cX5_giveUp 15 = .ok (.invokevirtual 240, 3) := by decide +kernel
theorem dX5_giveUp_18 : decode cX5_giveUp 18 = .ok (.iinc 4 1, 3) := by decide +kernel
theorem dX5_giveUp_21 : decode cX5_giveUp 21 = .ok (.goto (-18), 3) := by decide +kernel
theorem dX5_giveUp_24 : decode cX5_giveUp 24 = .ok (.return_, 1) := by decide +kernel
theorem dX5_smallestKind_0 : decode cX5_smallestKind 0 = .ok (.iconst 0, 1) := by decide +kernel
theorem dX5_smallestKind_1 : decode cX5_smallestKind 1 = .ok (.istore_n 1, 1) := by decide +kernel
theorem dX5_smallestKind_2 : decode cX5_smallestKind 2 = .ok (.iload_n 1, 1) := by decide +kernel
theorem dX5_smallestKind_3 : decode cX5_smallestKind 3 = .ok (.bipush 6, 2) := by decide +kernel
theorem dX5_smallestKind_5 : decode cX5_smallestKind 5 = .ok (.if_icmp .ge 19, 3) := by decide +kernel
theorem dX5_smallestKind_8 : decode cX5_smallestKind 8 = .ok (.iload_n 0, 1) := by decide +kernel
theorem dX5_smallestKind_9 : decode cX5_smallestKind 9 = .ok (.iload_n 1, 1) := by decide +kernel
theorem dX5_smallestKind_10 : decode cX5_smallestKind 10 = .ok (.invokestatic 204, 3) := by decide +kernel
theorem dX5_smallestKind_13 : decode cX5_smallestKind 13 = .ok (.ifCond .eq 5, 3) := by decide +kernel
theorem dX5_smallestKind_16 : decode cX5_smallestKind 16 = .ok (.iload_n 1, 1) := by decide +kernel
theorem dX5_smallestKind_17 : decode cX5_smallestKind 17 = .ok (.ireturn, 1) := by decide +kernel
theorem dX5_smallestKind_18 : decode cX5_smallestKind 18 = .ok (.iinc 1 1, 3) := by decide +kernel
theorem dX5_smallestKind_21 : decode cX5_smallestKind 21 = .ok (.goto (-19), 3) := by decide +kernel
theorem dX5_smallestKind_24 : decode cX5_smallestKind 24 = .ok (.iconst (-1), 1) := by decide +kernel
theorem dX5_smallestKind_25 : decode cX5_smallestKind 25 = .ok (.ireturn, 1) := by decide +kernel
