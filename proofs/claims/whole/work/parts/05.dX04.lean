theorem dX0_init_0 : decode cX0_init 0 = .ok (.aload_n 0, 1) := by decide +kernel
theorem dX0_init_1 : decode cX0_init 1 = .ok (.invokespecial 3, 3) := by decide +kernel
theorem dX0_init_4 : decode cX0_init 4 = .ok (.aload_n 0, 1) := by decide +kernel
theorem dX0_init_5 : decode cX0_init 5 = .ok (.sipush 2401, 3) := by decide +kernel
theorem dX0_init_8 : decode cX0_init 8 = .ok (.newarray .long, 2) := by decide +kernel
theorem dX0_init_10 : decode cX0_init 10 = .ok (.putfield 11, 3) := by decide +kernel
theorem dX0_init_13 : decode cX0_init 13 = .ok (.aload_n 0, 1) := by decide +kernel
theorem dX0_init_14 : decode cX0_init 14 = .ok (.bipush 48, 2) := by decide +kernel
theorem dX0_init_16 : decode cX0_init 16 = .ok (.newarray .int, 2) := by decide +kernel
theorem dX0_init_18 : decode cX0_init 18 = .ok (.putfield 15, 3) := by decide +kernel
theorem dX0_init_21 : decode cX0_init 21 = .ok (.return_, 1) := by decide +kernel
theorem dX0_fillStretches_0 : decode cX0_fillStretches 0 = .ok (.iconst 0, 1) := by decide +kernel
theorem dX0_fillStretches_1 : decode cX0_fillStretches 1 = .ok (.istore_n 3, 1) := by decide +kernel
theorem dX0_fillStretches_2 : decode cX0_fillStretches 2 = .ok (.iload_n 3, 1) := by decide +kernel
theorem dX0_fillStretches_3 : decode cX0_fillStretches 3 = .ok (.aload_n 1, 1) := by decide +kernel
theorem dX0_fillStretches_4 : decode cX0_fillStretches 4 = .ok (.getfield 19, 3) := by decide +kernel
theorem dX0_fillStretches_7 : decode cX0_fillStretches 7 = .ok (.if_icmp .ge 59, 3) := by decide +kernel
theorem dX0_fillStretches_10 : decode cX0_fillStretches 10 = .ok (.aload_n 1, 1) := by decide +kernel
theorem dX0_fillStretches_11 : decode cX0_fillStretches 11 = .ok (.getfield 25, 3) := by decide +kernel
theorem dX0_fillStretches_14 : decode cX0_fillStretches 14 = .ok (.iload_n 3, 1) := by decide +kernel
theorem dX0_fillStretches_15 : decode cX0_fillStretches 15 = .ok (.iaload, 1) := by decide +kernel
theorem dX0_fillStretches_16 : decode cX0_fillStretches 16 = .ok (.aload_n 2, 1) := by decide +kernel
theorem dX0_fillStretches_17 : decode cX0_fillStretches 17 = .ok (.getfield 28, 3) := by decide +kernel
theorem dX0_fillStretches_20 : decode cX0_fillStretches 20 = .ok (.iconst (-1), 1) := by decide +kernel
theorem dX0_fillStretches_21 : decode cX0_fillStretches 21 = .ok (.ixor, 1) := by decide +kernel
theorem dX0_fillStretches_22 : decode cX0_fillStretches 22 = .ok (.iand, 1) := by decide +kernel
theorem dX0_fillStretches_23 : decode cX0_fillStretches 23 = .ok (.istore 4, 2) := by decide +kernel
theorem dX0_fillStretches_25 : decode cX0_fillStretches 25 = .ok (.iconst 0, 1) := by decide +kernel
theorem dX0_fillStretches_26 : decode cX0_fillStretches 26 = .ok (.istore 5, 2) := by decide +kernel
theorem dX0_fillStretches_28 : decode cX0_fillStretches 28 = .ok (.iload 5, 2) := by decide +kernel
theorem dX0_fillStretches_30 : decode cX0_fillStretches 30 = .ok (.bipush 6, 2) := by decide +kernel
theorem dX0_fillStretches_32 : decode cX0_fillStretches 32 = .ok (.if_icmp .ge 28, 3) := by decide +kernel
theorem dX0_fillStretches_35 : decode cX0_fillStretches 35 = .ok (.iload 4, 2) := by decide +kernel
theorem dX0_fillStretches_37 : decode cX0_fillStretches 37 = .ok (.iload 5, 2) := by decide +kernel
theorem dX0_fillStretches_39 : decode cX0_fillStretches 39 = .ok (.invokestatic 33, 3) := by decide +kernel
theorem dX0_fillStretches_42 : decode cX0_fillStretches 42 = .ok (.ifCond .eq 12, 3) := by decide +kernel
theorem dX0_fillStretches_45 : decode cX0_fillStretches 45 = .ok (.aload_n 0, 1) := by decide +kernel
theorem dX0_fillStretches_46 : decode cX0_fillStretches 46 = .ok (.iload_n 3, 1) := by decide +kernel
theorem dX0_fillStretches_47 : decode cX0_fillStretches 47 = .ok (.iload 5, 2) := by decide +kernel
theorem dX0_fillStretches_49 : decode cX0_fillStretches 49 = .ok (.aload_n 1, 1) := by decide +kernel
theorem dX0_fillStretches_50 : decode cX0_fillStretches 50 = .ok (.aload_n 2, 1) := by decide +kernel
theorem dX0_fillStretches_51 : decode cX0_fillStretches 51 = .ok (.invokevirtual 37, 3) := by decide +kernel
theorem dX0_fillStretches_54 : decode cX0_fillStretches 54 = .ok (.iinc 5 1, 3) := by decide +kernel
theorem dX0_fillStretches_57 : decode cX0_fillStretches 57 = .ok (.goto (-29), 3) := by decide +kernel
theorem dX0_fillStretches_60 : decode cX0_fillStretches 60 = .ok (.iinc 3 1, 3) := by decide +kernel
theorem dX0_fillStretches_63 : decode cX0_fillStretches 63 = .ok (.goto (-61), 3) := by decide +kernel
theorem dX0_fillStretches_66 : decode cX0_fillStretches 66 = .ok (.aload_n 0, 1) := by decide +kernel
theorem dX0_fillStretches_67 : decode cX0_fillStretches 67 = .ok (.aload_n 1, 1) := by decide +kernel
theorem dX0_fillStretches_68 : decode cX0_fillStretches 68 = .ok (.getfield 19, 3) := by decide +kernel
theorem dX0_fillStretches_71 : decode cX0_fillStretches 71 = .ok (.bipush 6, 2) := by decide +kernel
theorem dX0_fillStretches_73 : decode cX0_fillStretches 73 = .ok (.aload_n 1, 1) := by decide +kernel
theorem dX0_fillStretches_74 : decode cX0_fillStretches 74 = .ok (.aload_n 2, 1) := by decide +kernel
theorem dX0_fillStretches_75 : decode cX0_fillStretches 75 = .ok (.invokevirtual 37, 3) := by decide +kernel
theorem dX0_fillStretches_78 : decode cX0_fillStretches 78 = .ok (.return_, 1) := by decide +kernel
theorem dX0_fillStretchesTo_0 : decode cX0_fillStretchesTo 0 = .ok (.aload 4, 2) := by decide +kernel
theorem dX0_fillStretchesTo_2 : decode cX0_fillStretchesTo 2 = .ok (.iload_n 2, 1) := by decide +kernel
theorem dX0_fillStretchesTo_3 : decode cX0_fillStretchesTo 3 = .ok (.invokevirtual 41, 3) := by decide +kernel
theorem dX0_fillStretchesTo_6 : decode cX0_fillStretchesTo 6 = .ok (.istore 5, 2) := by decide +kernel
theorem dX0_fillStretchesTo_8 : decode cX0_fillStretchesTo 8 = .ok (.aload_n 0, 1) := by decide +kernel
theorem dX0_fillStretchesTo_9 : decode cX0_fillStretchesTo 9 = .ok (.iload_n 1, 1) := by decide +kernel
theorem dX0_fillStretchesTo_10 : decode cX0_fillStretchesTo 10 = .ok (.iload_n 1, 1) := by decide +kernel
theorem dX0_fillStretchesTo_11 : decode cX0_fillStretchesTo 11 = .ok (.iload_n 2, 1) := by decide +kernel
theorem dX0_fillStretchesTo_12 : decode cX0_fillStretchesTo 12 = .ok (.iconst 0, 1) := by decide +kernel
theorem dX0_fillStretchesTo_13 : decode cX0_fillStretchesTo 13 = .ok (.invokevirtual 45, 3) := by decide +kernel
theorem dX0_fillStretchesTo_16 : decode cX0_fillStretchesTo 16 = .ok (.iload_n 1, 1) := by decide +kernel
theorem dX0_fillStretchesTo_17 : decode cX0_fillStretchesTo 17 = .ok (.iconst 1, 1) := by decide +kernel
theorem dX0_fillStretchesTo_18 : decode cX0_fillStretchesTo 18 = .ok (.isub, 1) := by decide +kernel
theorem dX0_fillStretchesTo_19 : decode cX0_fillStretchesTo 19 = .ok (.istore 6, 2) := by decide +kernel
theorem dX0_fillStretchesTo_21 : decode cX0_fillStretchesTo 21 = .ok (.iload 6, 2) := by decide +kernel
theorem dX0_fillStretchesTo_23 : decode cX0_fillStretchesTo 23 = .ok (.ifCond .lt 70, 3) := by decide +kernel
theorem dX0_fillStretchesTo_26 : decode cX0_fillStretchesTo 26 = .ok (.iconst 1, 1) := by decide +kernel
theorem dX0_fillStretchesTo_27 : decode cX0_fillStretchesTo 27 = .ok (.aload_n 0, 1) := by decide +kernel
theorem dX0_fillStretchesTo_28 : decode cX0_fillStretchesTo 28 = .ok (.iload 6, 2) := by decide +kernel
theorem dX0_fillStretchesTo_30 : decode cX0_fillStretchesTo 30 = .ok (.iconst 1, 1) := by decide +kernel
theorem dX0_fillStretchesTo_31 : decode cX0_fillStretchesTo 31 = .ok (.iadd, 1) := by decide +kernel
theorem dX0_fillStretchesTo_32 : decode cX0_fillStretchesTo 32 = .ok (.iload_n 1, 1) := by decide +kernel
theorem dX0_fillStretchesTo_33 : decode cX0_fillStretchesTo 33 = .ok (.iload_n 2, 1) := by decide +kernel
theorem dX0_fillStretchesTo_34 : decode cX0_fillStretchesTo 34 = .ok (.invokevirtual 49, 3) := by decide +kernel
theorem dX0_fillStretchesTo_37 : decode cX0_fillStretchesTo 37 = .ok (.iadd, 1) := by decide +kernel
theorem dX0_fillStretchesTo_38 : decode cX0_fillStretchesTo 38 = .ok (.istore 7, 2) := by decide +kernel
theorem dX0_fillStretchesTo_40 : decode cX0_fillStretchesTo 40 = .ok (.aload_n 3, 1) := by decide +kernel
theorem dX0_fillStretchesTo_41 : decode cX0_fillStretchesTo 41 = .ok (.getfield 53, 3) := by decide +kernel
theorem dX0_fillStretchesTo_44 : decode cX0_fillStretchesTo 44 = .ok (.iload 6, 2) := by decide +kernel
theorem dX0_fillStretchesTo_46 : decode cX0_fillStretchesTo 46 = .ok (.iaload, 1) := by decide +kernel
theorem dX0_fillStretchesTo_47 : decode cX0_fillStretchesTo 47 = .ok (.iload 5, 2) := by decide +kernel
theorem dX0_fillStretchesTo_49 : decode cX0_fillStretchesTo 49 = .ok (.iand, 1) := by decide +kernel
theorem dX0_fillStretchesTo_50 : decode cX0_fillStretchesTo 50 = .ok (.istore 8, 2) := by decide +kernel
theorem dX0_fillStretchesTo_52 : decode cX0_fillStretchesTo 52 = .ok (.iload 8, 2) := by decide +kernel
theorem dX0_fillStretchesTo_54 : decode cX0_fillStretchesTo 54 = .ok (.ifCond .eq 23, 3) := by decide +kernel
theorem dX0_fillStretchesTo_57 : decode cX0_fillStretchesTo 57 = .ok (.iload 7, 2) := by decide +kernel
theorem dX0_fillStretchesTo_59 : decode cX0_fillStretchesTo 59 = .ok (.aload_n 0, 1) := by decide +kernel
theorem dX0_fillStretchesTo_60 : decode cX0_fillStretchesTo 60 = .ok (.iload 6, 2) := by decide +kernel
theorem dX0_fillStretchesTo_62 : decode cX0_fillStretchesTo 62 = .ok (.iload_n 1, 1) := by decide +kernel
theorem dX0_fillStretchesTo_63 : decode cX0_fillStretchesTo 63 = .ok (.iload_n 2, 1) := by decide +kernel
theorem dX0_fillStretchesTo_64 : decode cX0_fillStretchesTo 64 = .ok (.iload 8, 2) := by decide +kernel
theorem dX0_fillStretchesTo_66 : decode cX0_fillStretchesTo 66 = .ok (.aload_n 3, 1) := by decide +kernel
theorem dX0_fillStretchesTo_67 : decode cX0_fillStretchesTo 67 = .ok (.aload 4, 2) := by decide +kernel
theorem dX0_fillStretchesTo_69 : decode cX0_fillStretchesTo 69 = .ok (.invokevirtual 56, 3) := by decide +kernel
theorem dX0_fillStretchesTo_72 : decode cX0_fillStretchesTo 72 = .ok (.invokestatic 60, 3) := by decide +kernel
theorem dX0_fillStretchesTo_75 : decode cX0_fillStretchesTo 75 = .ok (.istore 7, 2) := by decide +kernel
theorem dX0_fillStretchesTo_77 : decode cX0_fillStretchesTo 77 = .ok (.aload_n 0, 1) := by decide +kernel
theorem dX0_fillStretchesTo_78 : decode cX0_fillStretchesTo 78 = .ok (.iload 6, 2) := by decide +kernel
theorem dX0_fillStretchesTo_80 : decode cX0_fillStretchesTo 80 = .ok (.iload_n 1, 1) := by decide +kernel
theorem dX0_fillStretchesTo_81 : decode cX0_fillStretchesTo 81 = .ok (.iload_n 2, 1) := by decide +kernel
theorem dX0_fillStretchesTo_82 : decode cX0_fillStretchesTo 82 = .ok (.iload 7, 2) := by decide +kernel
theorem dX0_fillStretchesTo_84 : decode cX0_fillStretchesTo 84 = .ok (.invokevirtual 45, 3) := by decide +kernel
theorem dX0_fillStretchesTo_87 : decode cX0_fillStretchesTo 87 = .ok (.iinc 6 (-1), 3) := by decide +kernel
theorem dX0_fillStretchesTo_90 : decode cX0_fillStretchesTo 90 = .ok (.goto (-69), 3) := by decide +kernel
theorem dX0_fillStretchesTo_93 : decode cX0_fillStretchesTo 93 = .ok (.return_, 1) := by decide +kernel
theorem dX0_fewestIfOpening_0 : decode cX0_fewestIfOpening 0 = .ok (.bipush 48, 2) := by decide +kernel
theorem dX0_fewestIfOpening_2 : decode cX0_fewestIfOpening 2 = .ok (.istore 7, 2) := by decide +kernel
theorem dX0_fewestIfOpening_4 : decode cX0_fewestIfOpening 4 = .ok (.iload_n 1, 1) := by decide +kernel
theorem dX0_fewestIfOpening_5 : decode cX0_fewestIfOpening 5 = .ok (.iconst 1, 1) := by decide +kernel
theorem dX0_fewestIfOpening_6 : decode cX0_fewestIfOpening 6 = .ok (.iadd, 1) := by decide +kernel
theorem dX0_fewestIfOpening_7 : decode cX0_fewestIfOpening 7 = .ok (.istore 8, 2) := by decide +kernel
theorem dX0_fewestIfOpening_9 : decode cX0_fewestIfOpening 9 = .ok (.iload 8, 2) := by decide +kernel
theorem dX0_fewestIfOpening_11 : decode cX0_fewestIfOpening 11 = .ok (.iload_n 2, 1) := by decide +kernel
theorem dX0_fewestIfOpening_12 : decode cX0_fewestIfOpening 12 = .ok (.if_icmp .ge 65, 3) := by decide +kernel
theorem dX0_fewestIfOpening_15 : decode cX0_fewestIfOpening 15 = .ok (.iload 7, 2) := by decide +kernel
theorem dX0_fewestIfOpening_17 : decode cX0_fewestIfOpening 17 = .ok (.ifCond .le 60, 3) := by decide +kernel
theorem dX0_fewestIfOpening_20 : decode cX0_fewestIfOpening 20 = .ok (.iload 4, 2) := by decide +kernel
theorem dX0_fewestIfOpening_22 : decode cX0_fewestIfOpening 22 = .ok (.aload 5, 2) := by decide +kernel
theorem dX0_fewestIfOpening_24 : decode cX0_fewestIfOpening 24 = .ok (.getfield 25, 3) := by decide +kernel
theorem dX0_fewestIfOpening_27 : decode cX0_fewestIfOpening 27 = .ok (.iload 8, 2) := by decide +kernel
theorem dX0_fewestIfOpening_29 : decode cX0_fewestIfOpening 29 = .ok (.iaload, 1) := by decide +kernel
theorem dX0_fewestIfOpening_30 : decode cX0_fewestIfOpening 30 = .ok (.iand, 1) := by decide +kernel
theorem dX0_fewestIfOpening_31 : decode cX0_fewestIfOpening 31 = .ok (.istore 9, 2) := by decide +kernel
theorem dX0_fewestIfOpening_33 : decode cX0_fewestIfOpening 33 = .ok (.iload 9, 2) := by decide +kernel
theorem dX0_fewestIfOpening_35 : decode cX0_fewestIfOpening 35 = .ok (.ifCond .eq 36, 3) := by decide +kernel
theorem dX0_fewestIfOpening_38 : decode cX0_fewestIfOpening 38 = .ok (.aload_n 0, 1) := by decide +kernel
theorem dX0_fewestIfOpening_39 : decode cX0_fewestIfOpening 39 = .ok (.iload 8, 2) := by decide +kernel
theorem dX0_fewestIfOpening_41 : decode cX0_fewestIfOpening 41 = .ok (.iconst 1, 1) := by decide +kernel
theorem dX0_fewestIfOpening_42 : decode cX0_fewestIfOpening 42 = .ok (.iadd, 1) := by decide +kernel
theorem dX0_fewestIfOpening_43 : decode cX0_fewestIfOpening 43 = .ok (.iload_n 2, 1) := by decide +kernel
theorem dX0_fewestIfOpening_44 : decode cX0_fewestIfOpening 44 = .ok (.iload_n 3, 1) := by decide +kernel
theorem dX0_fewestIfOpening_45 : decode cX0_fewestIfOpening 45 = .ok (.invokevirtual 49, 3) := by decide +kernel
theorem dX0_fewestIfOpening_48 : decode cX0_fewestIfOpening 48 = .ok (.istore 10, 2) := by decide +kernel
theorem dX0_fewestIfOpening_50 : decode cX0_fewestIfOpening 50 = .ok (.iload 7, 2) := by decide +kernel
theorem dX0_fewestIfOpening_52 : decode cX0_fewestIfOpening 52 = .ok (.iload 10, 2) := by decide +kernel
theorem dX0_fewestIfOpening_54 : decode cX0_fewestIfOpening 54 = .ok (.aload_n 0, 1) := by decide +kernel
theorem dX0_fewestIfOpening_55 : decode cX0_fewestIfOpening 55 = .ok (.iload_n 1, 1) := by decide +kernel
theorem dX0_fewestIfOpening_56 : decode cX0_fewestIfOpening 56 = .ok (.iload 8, 2) := by decide +kernel
theorem dX0_fewestIfOpening_58 : decode cX0_fewestIfOpening 58 = .ok (.iload 9, 2) := by decide +kernel
theorem dX0_fewestIfOpening_60 : decode cX0_fewestIfOpening 60 = .ok (.aload 6, 2) := by decide +kernel
theorem dX0_fewestIfOpening_62 : decode cX0_fewestIfOpening 62 = .ok (.invokevirtual 66, 3) := by decide +kernel
theorem dX0_fewestIfOpening_65 : decode cX0_fewestIfOpening 65 = .ok (.iadd, 1) := by decide +kernel
theorem dX0_fewestIfOpening_66 : decode cX0_fewestIfOpening 66 = .ok (.invokestatic 60, 3) := by decide +kernel
theorem dX0_fewestIfOpening_69 : decode cX0_fewestIfOpening 69 = .ok (.istore 7, 2) := by decide +kernel
theorem dX0_fewestIfOpening_71 : decode cX0_fewestIfOpening 71 = .ok (.iinc 8 1, 3) := by decide +kernel
theorem dX0_fewestIfOpening_74 : decode cX0_fewestIfOpening 74 = .ok (.goto (-65), 3) := by decide +kernel
theorem dX0_fewestIfOpening_77 : decode cX0_fewestIfOpening 77 = .ok (.iload 7, 2) := by decide +kernel
theorem dX0_fewestIfOpening_79 : decode cX0_fewestIfOpening 79 = .ok (.ireturn, 1) := by decide +kernel
theorem dX0_fewestBetween_0 : decode cX0_fewestBetween 0 = .ok (.bipush 48, 2) := by decide +kernel
theorem dX0_fewestBetween_2 : decode cX0_fewestBetween 2 = .ok (.istore 5, 2) := by decide +kernel
theorem dX0_fewestBetween_4 : decode cX0_fewestBetween 4 = .ok (.iconst 0, 1) := by decide +kernel
theorem dX0_fewestBetween_5 : decode cX0_fewestBetween 5 = .ok (.istore 6, 2) := by decide +kernel
theorem dX0_fewestBetween_7 : decode cX0_fewestBetween 7 = .ok (.iload 6, 2) := by decide +kernel
theorem dX0_fewestBetween_9 : decode cX0_fewestBetween 9 = .ok (.bipush 6, 2) := by decide +kernel
theorem dX0_fewestBetween_11 : decode cX0_fewestBetween 11 = .ok (.if_icmp .ge 35, 3) := by decide +kernel
theorem dX0_fewestBetween_14 : decode cX0_fewestBetween 14 = .ok (.iload_n 3, 1) := by decide +kernel
theorem dX0_fewestBetween_15 : decode cX0_fewestBetween 15 = .ok (.iload 6, 2) := by decide +kernel
theorem dX0_fewestBetween_17 : decode cX0_fewestBetween 17 = .ok (.invokestatic 33, 3) := by decide +kernel
theorem dX0_fewestBetween_20 : decode cX0_fewestBetween 20 = .ok (.ifCond .eq 20, 3) := by decide +kernel
theorem dX0_fewestBetween_23 : decode cX0_fewestBetween 23 = .ok (.iload 5, 2) := by decide +kernel
theorem dX0_fewestBetween_25 : decode cX0_fewestBetween 25 = .ok (.aload_n 0, 1) := by decide +kernel
theorem dX0_fewestBetween_26 : decode cX0_fewestBetween 26 = .ok (.iload_n 1, 1) := by decide +kernel
theorem dX0_fewestBetween_27 : decode cX0_fewestBetween 27 = .ok (.iload_n 2, 1) := by decide +kernel
theorem dX0_fewestBetween_28 : decode cX0_fewestBetween 28 = .ok (.iload 6, 2) := by decide +kernel
theorem dX0_fewestBetween_30 : decode cX0_fewestBetween 30 = .ok (.aload 4, 2) := by decide +kernel
theorem dX0_fewestBetween_32 : decode cX0_fewestBetween 32 = .ok (.invokevirtual 70, 3) := by decide +kernel
theorem dX0_fewestBetween_35 : decode cX0_fewestBetween 35 = .ok (.invokestatic 60, 3) := by decide +kernel
theorem dX0_fewestBetween_38 : decode cX0_fewestBetween 38 = .ok (.istore 5, 2) := by decide +kernel
theorem dX0_fewestBetween_40 : decode cX0_fewestBetween 40 = .ok (.iinc 6 1, 3) := by decide +kernel
theorem dX0_fewestBetween_43 : decode cX0_fewestBetween 43 = .ok (.goto (-36), 3) := by decide +kernel
theorem dX0_fewestBetween_46 : decode cX0_fewestBetween 46 = .ok (.iload 5, 2) := by decide +kernel
theorem dX0_fewestBetween_48 : decode cX0_fewestBetween 48 = .ok (.ireturn, 1) := by decide +kernel
theorem dX0_fewestInside_0 : decode cX0_fewestInside 0 = .ok (.aload 4, 2) := by decide +kernel
theorem dX0_fewestInside_2 : decode cX0_fewestInside 2 = .ok (.getfield 28, 3) := by decide +kernel
theorem dX0_fewestInside_5 : decode cX0_fewestInside 5 = .ok (.iload_n 3, 1) := by decide +kernel
theorem dX0_fewestInside_6 : decode cX0_fewestInside 6 = .ok (.invokestatic 33, 3) := by decide +kernel
theorem dX0_fewestInside_9 : decode cX0_fewestInside 9 = .ok (.ifCond .eq 7, 3) := by decide +kernel
theorem dX0_fewestInside_12 : decode cX0_fewestInside 12 = .ok (.iconst 0, 1) := by decide +kernel
theorem dX0_fewestInside_13 : decode cX0_fewestInside 13 = .ok (.goto 12, 3) := by decide +kernel
theorem dX0_fewestInside_16 : decode cX0_fewestInside 16 = .ok (.aload_n 0, 1) := by decide +kernel
theorem dX0_fewestInside_17 : decode cX0_fewestInside 17 = .ok (.iload_n 1, 1) := by decide +kernel
theorem dX0_fewestInside_18 : decode cX0_fewestInside 18 = .ok (.iconst 1, 1) := by decide +kernel
theorem dX0_fewestInside_19 : decode cX0_fewestInside 19 = .ok (.iadd, 1) := by decide +kernel
theorem dX0_fewestInside_20 : decode cX0_fewestInside 20 = .ok (.iload_n 2, 1) := by decide +kernel
theorem dX0_fewestInside_21 : decode cX0_fewestInside 21 = .ok (.iload_n 3, 1) := by decide +kernel
theorem dX0_fewestInside_22 : decode cX0_fewestInside 22 = .ok (.invokevirtual 49, 3) := by decide +kernel
theorem dX0_fewestInside_25 : decode cX0_fewestInside 25 = .ok (.ireturn, 1) := by decide +kernel
theorem dX0_chooseIslands_0 : decode cX0_chooseIslands 0 = .ok (.aload_n 3, 1) := by decide +kernel
theorem dX0_chooseIslands_1 : decode cX0_chooseIslands 1 = .ok (.invokevirtual 73, 3) := by decide +kernel
theorem dX0_chooseIslands_4 : decode cX0_chooseIslands 4 = .ok (.iconst 0, 1) := by decide +kernel
theorem dX0_chooseIslands_5 : decode cX0_chooseIslands 5 = .ok (.istore 4, 2) := by decide +kernel
theorem dX0_chooseIslands_7 : decode cX0_chooseIslands 7 = .ok (.iload 4, 2) := by decide +kernel
theorem dX0_chooseIslands_9 : decode cX0_chooseIslands 9 = .ok (.aload_n 1, 1) := by decide +kernel
theorem dX0_chooseIslands_10 : decode cX0_chooseIslands 10 = .ok (.getfield 19, 3) := by decide +kernel
theorem dX0_chooseIslands_13 : decode cX0_chooseIslands 13 = .ok (.if_icmp .ge 71, 3) := by decide +kernel
theorem dX0_chooseIslands_16 : decode cX0_chooseIslands 16 = .ok (.aload_n 3, 1) := by decide +kernel
theorem dX0_chooseIslands_17 : decode cX0_chooseIslands 17 = .ok (.iconst 0, 1) := by decide +kernel
theorem dX0_chooseIslands_18 : decode cX0_chooseIslands 18 = .ok (.invokevirtual 78, 3) := by decide +kernel
theorem dX0_chooseIslands_21 : decode cX0_chooseIslands 21 = .ok (.istore 5, 2) := by decide +kernel
theorem dX0_chooseIslands_23 : decode cX0_chooseIslands 23 = .ok (.iload 5, 2) := by decide +kernel
theorem dX0_chooseIslands_25 : decode cX0_chooseIslands 25 = .ok (.iconst (-1), 1) := by decide +kernel
theorem dX0_chooseIslands_26 : decode cX0_chooseIslands 26 = .ok (.if_icmp .ne 10, 3) := by decide +kernel
theorem dX0_chooseIslands_29 : decode cX0_chooseIslands 29 = .ok (.aload_n 1, 1) := by decide +kernel
theorem dX0_chooseIslands_30 : decode cX0_chooseIslands 30 = .ok (.getfield 19, 3) := by decide +kernel
theorem dX0_chooseIslands_33 : decode cX0_chooseIslands 33 = .ok (.goto 10, 3) := by decide +kernel
theorem dX0_chooseIslands_36 : decode cX0_chooseIslands 36 = .ok (.aload_n 0, 1) := by decide +kernel
theorem dX0_chooseIslands_37 : decode cX0_chooseIslands 37 = .ok (.getfield 15, 3) := by decide +kernel
theorem dX0_chooseIslands_40 : decode cX0_chooseIslands 40 = .ok (.iload 5, 2) := by decide +kernel
theorem dX0_chooseIslands_42 : decode cX0_chooseIslands 42 = .ok (.iaload, 1) := by decide +kernel
theorem dX0_chooseIslands_43 : decode cX0_chooseIslands 43 = .ok (.istore 6, 2) := by decide +kernel
theorem dX0_chooseIslands_45 : decode cX0_chooseIslands 45 = .ok (.iload 4, 2) := by decide +kernel
theorem dX0_chooseIslands_47 : decode cX0_chooseIslands 47 = .ok (.iload 6, 2) := by decide +kernel
theorem dX0_chooseIslands_49 : decode cX0_chooseIslands 49 = .ok (.if_icmp .ne 18, 3) := by decide +kernel
theorem dX0_chooseIslands_52 : decode cX0_chooseIslands 52 = .ok (.aload_n 3, 1) := by decide +kernel
theorem dX0_chooseIslands_53 : decode cX0_chooseIslands 53 = .ok (.aload_n 1, 1) := by decide +kernel
theorem dX0_chooseIslands_54 : decode cX0_chooseIslands 54 = .ok (.getfield 81, 3) := by decide +kernel
theorem dX0_chooseIslands_57 : decode cX0_chooseIslands 57 = .ok (.iload 4, 2) := by decide +kernel
theorem dX0_chooseIslands_59 : decode cX0_chooseIslands 59 = .ok (.iaload, 1) := by decide +kernel
theorem dX0_chooseIslands_60 : decode cX0_chooseIslands 60 = .ok (.iconst 0, 1) := by decide +kernel
theorem dX0_chooseIslands_61 : decode cX0_chooseIslands 61 = .ok (.invokevirtual 84, 3) := by decide +kernel
theorem dX0_chooseIslands_64 : decode cX0_chooseIslands 64 = .ok (.goto 14, 3) := by decide +kernel
theorem dX0_chooseIslands_67 : decode cX0_chooseIslands 67 = .ok (.aload_n 0, 1) := by decide +kernel
theorem dX0_chooseIslands_68 : decode cX0_chooseIslands 68 = .ok (.iload 4, 2) := by decide +kernel
theorem dX0_chooseIslands_70 : decode cX0_chooseIslands 70 = .ok (.iload 6, 2) := by decide +kernel
theorem dX0_chooseIslands_72 : decode cX0_chooseIslands 72 = .ok (.aload_n 1, 1) := by decide +kernel
theorem dX0_chooseIslands_73 : decode cX0_chooseIslands 73 = .ok (.aload_n 2, 1) := by decide +kernel
theorem dX0_chooseIslands_74 : decode cX0_chooseIslands 74 = .ok (.aload_n 3, 1) := by decide +kernel
theorem dX0_chooseIslands_75 : decode cX0_chooseIslands 75 = .ok (.invokevirtual 88, 3) := by decide +kernel
theorem dX0_chooseIslands_78 : decode cX0_chooseIslands 78 = .ok (.iinc 4 1, 3) := by decide +kernel
theorem dX0_chooseIslands_81 : decode cX0_chooseIslands 81 = .ok (.goto (-74), 3) := by decide +kernel
theorem dX0_chooseIslands_84 : decode cX0_chooseIslands 84 = .ok (.aload_n 3, 1) := by decide +kernel
theorem dX0_chooseIslands_85 : decode cX0_chooseIslands 85 = .ok (.aload_n 0, 1) := by decide +kernel
theorem dX0_chooseIslands_86 : decode cX0_chooseIslands 86 = .ok (.iconst 0, 1) := by decide +kernel
theorem dX0_chooseIslands_87 : decode cX0_chooseIslands 87 = .ok (.aload_n 1, 1) := by decide +kernel
theorem dX0_chooseIslands_88 : decode cX0_chooseIslands 88 = .ok (.getfield 19, 3) := by decide +kernel
theorem dX0_chooseIslands_91 : decode cX0_chooseIslands 91 = .ok (.bipush 6, 2) := by decide +kernel
theorem dX0_chooseIslands_93 : decode cX0_chooseIslands 93 = .ok (.invokevirtual 49, 3) := by decide +kernel
theorem dX0_chooseIslands_96 : decode cX0_chooseIslands 96 = .ok (.putfield 92, 3) := by decide +kernel
theorem dX0_chooseIslands_99 : decode cX0_chooseIslands 99 = .ok (.return_, 1) := by decide +kernel
theorem dX0_beginAt_0 : decode cX0_beginAt 0 = .ok (.aload 5, 2) := by decide +kernel
theorem dX0_beginAt_2 : decode cX0_beginAt 2 = .ok (.invokevirtual 95, 3) := by decide +kernel
theorem dX0_beginAt_5 : decode cX0_beginAt 5 = .ok (.istore 6, 2) := by decide +kernel
theorem dX0_beginAt_7 : decode cX0_beginAt 7 = .ok (.aload_n 3, 1) := by decide +kernel
theorem dX0_beginAt_8 : decode cX0_beginAt 8 = .ok (.getfield 53, 3) := by decide +kernel
theorem dX0_beginAt_11 : decode cX0_beginAt 11 = .ok (.iload_n 1, 1) := by decide +kernel
theorem dX0_beginAt_12 : decode cX0_beginAt 12 = .ok (.iaload, 1) := by decide +kernel
theorem dX0_beginAt_13 : decode cX0_beginAt 13 = .ok (.aload 4, 2) := by decide +kernel
theorem dX0_beginAt_15 : decode cX0_beginAt 15 = .ok (.iload 6, 2) := by decide +kernel
theorem dX0_beginAt_17 : decode cX0_beginAt 17 = .ok (.invokevirtual 41, 3) := by decide +kernel
theorem dX0_beginAt_20 : decode cX0_beginAt 20 = .ok (.iand, 1) := by decide +kernel
theorem dX0_beginAt_21 : decode cX0_beginAt 21 = .ok (.istore 7, 2) := by decide +kernel
theorem dX0_beginAt_23 : decode cX0_beginAt 23 = .ok (.iconst 0, 1) := by decide +kernel
theorem dX0_beginAt_24 : decode cX0_beginAt 24 = .ok (.istore 8, 2) := by decide +kernel
theorem dX0_beginAt_26 : decode cX0_beginAt 26 = .ok (.iload 8, 2) := by decide +kernel
theorem dX0_beginAt_28 : decode cX0_beginAt 28 = .ok (.bipush 6, 2) := by decide +kernel
theorem dX0_beginAt_30 : decode cX0_beginAt 30 = .ok (.if_icmp .ge 80, 3) := by decide +kernel
theorem dX0_beginAt_33 : decode cX0_beginAt 33 = .ok (.iload 7, 2) := by decide +kernel
theorem dX0_beginAt_35 : decode cX0_beginAt 35 = .ok (.iload 8, 2) := by decide +kernel
theorem dX0_beginAt_37 : decode cX0_beginAt 37 = .ok (.invokestatic 33, 3) := by decide +kernel
theorem dX0_beginAt_40 : decode cX0_beginAt 40 = .ok (.ifCond .eq 19, 3) := by decide +kernel
theorem dX0_beginAt_43 : decode cX0_beginAt 43 = .ok (.aload_n 0, 1) := by decide +kernel
theorem dX0_beginAt_44 : decode cX0_beginAt 44 = .ok (.iload_n 1, 1) := by decide +kernel
theorem dX0_beginAt_45 : decode cX0_beginAt 45 = .ok (.iload_n 2, 1) := by decide +kernel
theorem dX0_beginAt_46 : decode cX0_beginAt 46 = .ok (.iload 8, 2) := by decide +kernel
theorem dX0_beginAt_48 : decode cX0_beginAt 48 = .ok (.iload 6, 2) := by decide +kernel
theorem dX0_beginAt_50 : decode cX0_beginAt 50 = .ok (.aload_n 3, 1) := by decide +kernel
theorem dX0_beginAt_51 : decode cX0_beginAt 51 = .ok (.aload 4, 2) := by decide +kernel
theorem dX0_beginAt_53 : decode cX0_beginAt 53 = .ok (.invokevirtual 99, 3) := by decide +kernel
theorem dX0_beginAt_56 : decode cX0_beginAt 56 = .ok (.goto 4, 3) := by decide +kernel
theorem dX0_beginAt_59 : decode cX0_beginAt 59 = .ok (.iconst (-1), 1) := by decide +kernel
theorem dX0_beginAt_60 : decode cX0_beginAt 60 = .ok (.istore 9, 2) := by decide +kernel
theorem dX0_beginAt_62 : decode cX0_beginAt 62 = .ok (.iload 9, 2) := by decide +kernel
theorem dX0_beginAt_64 : decode cX0_beginAt 64 = .ok (.iconst (-1), 1) := by decide +kernel
theorem dX0_beginAt_65 : decode cX0_beginAt 65 = .ok (.if_icmp .eq 39, 3) := by decide +kernel
theorem dX0_beginAt_68 : decode cX0_beginAt 68 = .ok (.aload 5, 2) := by decide +kernel
theorem dX0_beginAt_70 : decode cX0_beginAt 70 = .ok (.getfield 102, 3) := by decide +kernel
theorem dX0_beginAt_73 : decode cX0_beginAt 73 = .ok (.bipush 48, 2) := by decide +kernel
theorem dX0_beginAt_75 : decode cX0_beginAt 75 = .ok (.if_icmp .ge 29, 3) := by decide +kernel
theorem dX0_beginAt_78 : decode cX0_beginAt 78 = .ok (.aload_n 0, 1) := by decide +kernel
theorem dX0_beginAt_79 : decode cX0_beginAt 79 = .ok (.getfield 15, 3) := by decide +kernel
theorem dX0_beginAt_82 : decode cX0_beginAt 82 = .ok (.aload 5, 2) := by decide +kernel
theorem dX0_beginAt_84 : decode cX0_beginAt 84 = .ok (.getfield 102, 3) := by decide +kernel
theorem dX0_beginAt_87 : decode cX0_beginAt 87 = .ok (.iload 9, 2) := by decide +kernel
theorem dX0_beginAt_89 : decode cX0_beginAt 89 = .ok (.iastore, 1) := by decide +kernel
theorem dX0_beginAt_90 : decode cX0_beginAt 90 = .ok (.aload 5, 2) := by decide +kernel
theorem dX0_beginAt_92 : decode cX0_beginAt 92 = .ok (.iload 8, 2) := by decide +kernel
theorem dX0_beginAt_94 : decode cX0_beginAt 94 = .ok (.aload_n 3, 1) := by decide +kernel
theorem dX0_beginAt_95 : decode cX0_beginAt 95 = .ok (.getfield 103, 3) := by decide +kernel
theorem dX0_beginAt_98 : decode cX0_beginAt 98 = .ok (.iload_n 1, 1) := by decide +kernel
theorem dX0_beginAt_99 : decode cX0_beginAt 99 = .ok (.iaload, 1) := by decide +kernel
theorem dX0_beginAt_100 : decode cX0_beginAt 100 = .ok (.invokevirtual 106, 3) := by decide +kernel
theorem dX0_beginAt_103 : decode cX0_beginAt 103 = .ok (.return_, 1) := by decide +kernel
theorem dX0_beginAt_104 : decode cX0_beginAt 104 = .ok (.iinc 8 1, 3) := by decide +kernel
theorem dX0_beginAt_107 : decode cX0_beginAt 107 = .ok (.goto (-81), 3) := by decide +kernel
theorem dX0_beginAt_110 : decode cX0_beginAt 110 = .ok (.return_, 1) := by decide +kernel
theorem dX0_bestPartner_0 : decode cX0_bestPartner 0 = .ok (.aload_n 0, 1) := by decide +kernel
theorem dX0_bestPartner_1 : decode cX0_bestPartner 1 = .ok (.iload_n 1, 1) := by decide +kernel
theorem dX0_bestPartner_2 : decode cX0_bestPartner 2 = .ok (.iload_n 2, 1) := by decide +kernel
theorem dX0_bestPartner_3 : decode cX0_bestPartner 3 = .ok (.iload 4, 2) := by decide +kernel
theorem dX0_bestPartner_5 : decode cX0_bestPartner 5 = .ok (.invokevirtual 49, 3) := by decide +kernel
theorem dX0_bestPartner_8 : decode cX0_bestPartner 8 = .ok (.istore 7, 2) := by decide +kernel
theorem dX0_bestPartner_10 : decode cX0_bestPartner 10 = .ok (.iload_n 1, 1) := by decide +kernel
theorem dX0_bestPartner_11 : decode cX0_bestPartner 11 = .ok (.iconst 1, 1) := by decide +kernel
theorem dX0_bestPartner_12 : decode cX0_bestPartner 12 = .ok (.iadd, 1) := by decide +kernel
theorem dX0_bestPartner_13 : decode cX0_bestPartner 13 = .ok (.istore 8, 2) := by decide +kernel
theorem dX0_bestPartner_15 : decode cX0_bestPartner 15 = .ok (.iload 8, 2) := by decide +kernel
theorem dX0_bestPartner_17 : decode cX0_bestPartner 17 = .ok (.iload_n 2, 1) := by decide +kernel
theorem dX0_bestPartner_18 : decode cX0_bestPartner 18 = .ok (.if_icmp .ge 54, 3) := by decide +kernel
theorem dX0_bestPartner_21 : decode cX0_bestPartner 21 = .ok (.aload 5, 2) := by decide +kernel
theorem dX0_bestPartner_23 : decode cX0_bestPartner 23 = .ok (.getfield 25, 3) := by decide +kernel
theorem dX0_bestPartner_26 : decode cX0_bestPartner 26 = .ok (.iload 8, 2) := by decide +kernel
theorem dX0_bestPartner_28 : decode cX0_bestPartner 28 = .ok (.iaload, 1) := by decide +kernel
theorem dX0_bestPartner_29 : decode cX0_bestPartner 29 = .ok (.iload_n 3, 1) := by decide +kernel
theorem dX0_bestPartner_30 : decode cX0_bestPartner 30 = .ok (.invokestatic 33, 3) := by decide +kernel
theorem dX0_bestPartner_33 : decode cX0_bestPartner 33 = .ok (.ifCond .eq 33, 3) := by decide +kernel
theorem dX0_bestPartner_36 : decode cX0_bestPartner 36 = .ok (.aload_n 0, 1) := by decide +kernel
theorem dX0_bestPartner_37 : decode cX0_bestPartner 37 = .ok (.iload_n 1, 1) := by decide +kernel
theorem dX0_bestPartner_38 : decode cX0_bestPartner 38 = .ok (.iload 8, 2) := by decide +kernel
theorem dX0_bestPartner_40 : decode cX0_bestPartner 40 = .ok (.iload_n 3, 1) := by decide +kernel
theorem dX0_bestPartner_41 : decode cX0_bestPartner 41 = .ok (.aload 6, 2) := by decide +kernel
theorem dX0_bestPartner_43 : decode cX0_bestPartner 43 = .ok (.invokevirtual 70, 3) := by decide +kernel
theorem dX0_bestPartner_46 : decode cX0_bestPartner 46 = .ok (.aload_n 0, 1) := by decide +kernel
theorem dX0_bestPartner_47 : decode cX0_bestPartner 47 = .ok (.iload 8, 2) := by decide +kernel
theorem dX0_bestPartner_49 : decode cX0_bestPartner 49 = .ok (.iconst 1, 1) := by decide +kernel
theorem dX0_bestPartner_50 : decode cX0_bestPartner 50 = .ok (.iadd, 1) := by decide +kernel
theorem dX0_bestPartner_51 : decode cX0_bestPartner 51 = .ok (.iload_n 2, 1) := by decide +kernel
theorem dX0_bestPartner_52 : decode cX0_bestPartner 52 = .ok (.iload 4, 2) := by decide +kernel
theorem dX0_bestPartner_54 : decode cX0_bestPartner 54 = .ok (.invokevirtual 49, 3) := by decide +kernel
theorem dX0_bestPartner_57 : decode cX0_bestPartner 57 = .ok (.iadd, 1) := by decide +kernel
theorem dX0_bestPartner_58 : decode cX0_bestPartner 58 = .ok (.iload 7, 2) := by decide +kernel
theorem dX0_bestPartner_60 : decode cX0_bestPartner 60 = .ok (.if_icmp .ne 6, 3) := by decide +kernel
theorem dX0_bestPartner_63 : decode cX0_bestPartner 63 = .ok (.iload 8, 2) := by decide +kernel
theorem dX0_bestPartner_65 : decode cX0_bestPartner 65 = .ok (.ireturn, 1) := by decide +kernel
theorem dX0_bestPartner_66 : decode cX0_bestPartner 66 = .ok (.iinc 8 1, 3) := by decide +kernel
theorem dX0_bestPartner_69 : decode cX0_bestPartner 69 = .ok (.goto (-54), 3) := by decide +kernel
theorem dX0_bestPartner_72 : decode cX0_bestPartner 72 = .ok (.iconst (-1), 1) := by decide +kernel
theorem dX0_bestPartner_73 : decode cX0_bestPartner 73 = .ok (.ireturn, 1) := by decide +kernel
theorem dX0_fewest_0 : decode cX0_fewest 0 = .ok (.iload_n 1, 1) := by decide +kernel
theorem dX0_fewest_1 : decode cX0_fewest 1 = .ok (.bipush 49, 2) := by decide +kernel
theorem dX0_fewest_3 : decode cX0_fewest 3 = .ok (.imul, 1) := by decide +kernel
theorem dX0_fewest_4 : decode cX0_fewest 4 = .ok (.iload_n 2, 1) := by decide +kernel
theorem dX0_fewest_5 : decode cX0_fewest 5 = .ok (.iadd, 1) := by decide +kernel
theorem dX0_fewest_6 : decode cX0_fewest 6 = .ok (.istore 4, 2) := by decide +kernel
theorem dX0_fewest_8 : decode cX0_fewest 8 = .ok (.iload 4, 2) := by decide +kernel
theorem dX0_fewest_10 : decode cX0_fewest 10 = .ok (.ifCond .lt 13, 3) := by decide +kernel
theorem dX0_fewest_13 : decode cX0_fewest 13 = .ok (.iload 4, 2) := by decide +kernel
theorem dX0_fewest_15 : decode cX0_fewest 15 = .ok (.aload_n 0, 1) := by decide +kernel
theorem dX0_fewest_16 : decode cX0_fewest 16 = .ok (.getfield 11, 3) := by decide +kernel
theorem dX0_fewest_19 : decode cX0_fewest 19 = .ok (.arraylength, 1) := by decide +kernel
theorem dX0_fewest_20 : decode cX0_fewest 20 = .ok (.if_icmp .lt 5, 3) := by decide +kernel
theorem dX0_fewest_23 : decode cX0_fewest 23 = .ok (.iconst 0, 1) := by decide +kernel
theorem dX0_fewest_24 : decode cX0_fewest 24 = .ok (.ireturn, 1) := by decide +kernel
theorem dX0_fewest_25 : decode cX0_fewest 25 = .ok (.aload_n 0, 1) := by decide +kernel
theorem dX0_fewest_26 : decode cX0_fewest 26 = .ok (.getfield 11, 3) := by decide +kernel
theorem dX0_fewest_29 : decode cX0_fewest 29 = .ok (.iload 4, 2) := by decide +kernel
theorem dX0_fewest_31 : decode cX0_fewest 31 = .ok (.laload, 1) := by decide +kernel
theorem dX0_fewest_32 : decode cX0_fewest 32 = .ok (.bipush 8, 2) := by decide +kernel
theorem dX0_fewest_34 : decode cX0_fewest 34 = .ok (.iload_n 3, 1) := by decide +kernel
theorem dX0_fewest_35 : decode cX0_fewest 35 = .ok (.imul, 1) := by decide +kernel
theorem dX0_fewest_36 : decode cX0_fewest 36 = .ok (.lushr, 1) := by decide +kernel
theorem dX0_fewest_37 : decode cX0_fewest 37 = .ok (.l2i, 1) := by decide +kernel
theorem dX0_fewest_38 : decode cX0_fewest 38 = .ok (.sipush 255, 3) := by decide +kernel
theorem dX0_fewest_41 : decode cX0_fewest 41 = .ok (.iand, 1) := by decide +kernel
theorem dX0_fewest_42 : decode cX0_fewest 42 = .ok (.ireturn, 1) := by decide +kernel
theorem dX0_keep_0 : decode cX0_keep 0 = .ok (.iload_n 1, 1) := by decide +kernel
theorem dX0_keep_1 : decode cX0_keep 1 = .ok (.bipush 49, 2) := by decide +kernel
theorem dX0_keep_3 : decode cX0_keep 3 = .ok (.imul, 1) := by decide +kernel
theorem dX0_keep_4 : decode cX0_keep 4 = .ok (.iload_n 2, 1) := by decide +kernel
theorem dX0_keep_5 : decode cX0_keep 5 = .ok (.iadd, 1) := by decide +kernel
theorem dX0_keep_6 : decode cX0_keep 6 = .ok (.istore 5, 2) := by decide +kernel
theorem dX0_keep_8 : decode cX0_keep 8 = .ok (.iload 5, 2) := by decide +kernel
theorem dX0_keep_10 : decode cX0_keep 10 = .ok (.ifCond .lt 51, 3) := by decide +kernel
theorem dX0_keep_13 : decode cX0_keep 13 = .ok (.iload 5, 2) := by decide +kernel
theorem dX0_keep_15 : decode cX0_keep 15 = .ok (.aload_n 0, 1) := by decide +kernel
theorem dX0_keep_16 : decode cX0_keep 16 = .ok (.getfield 11, 3) := by decide +kernel
theorem dX0_keep_19 : decode cX0_keep 19 = .ok (.arraylength, 1) := by decide +kernel
theorem dX0_keep_20 : decode cX0_keep 20 = .ok (.if_icmp .ge 41, 3) := by decide +kernel
theorem dX0_keep_23 : decode cX0_keep 23 = .ok (.bipush 8, 2) := by decide +kernel
theorem dX0_keep_25 : decode cX0_keep 25 = .ok (.iload_n 3, 1) := by decide +kernel
theorem dX0_keep_26 : decode cX0_keep 26 = .ok (.imul, 1) := by decide +kernel
theorem dX0_keep_27 : decode cX0_keep 27 = .ok (.istore 6, 2) := by decide +kernel
theorem dX0_keep_29 : decode cX0_keep 29 = .ok (.aload_n 0, 1) := by decide +kernel
theorem dX0_keep_30 : decode cX0_keep 30 = .ok (.getfield 11, 3) := by decide +kernel
theorem dX0_keep_33 : decode cX0_keep 33 = .ok (.iload 5, 2) := by decide +kernel
theorem dX0_keep_35 : decode cX0_keep 35 = .ok (.aload_n 0, 1) := by decide +kernel
theorem dX0_keep_36 : decode cX0_keep 36 = .ok (.getfield 11, 3) := by decide +kernel
theorem dX0_keep_39 : decode cX0_keep 39 = .ok (.iload 5, 2) := by decide +kernel
theorem dX0_keep_41 : decode cX0_keep 41 = .ok (.laload, 1) := by decide +kernel
theorem dX0_keep_42 : decode cX0_keep 42 = .ok (.ldc2_w 109, 3) := by decide +kernel
theorem dX0_keep_45 : decode cX0_keep 45 = .ok (.iload 6, 2) := by decide +kernel
theorem dX0_keep_47 : decode cX0_keep 47 = .ok (.lshl, 1) := by decide +kernel
theorem dX0_keep_48 : decode cX0_keep 48 = .ok (.ldc2_w 111, 3) := by decide +kernel
theorem dX0_keep_51 : decode cX0_keep 51 = .ok (.lxor, 1) := by decide +kernel
theorem dX0_keep_52 : decode cX0_keep 52 = .ok (.land, 1) := by decide +kernel
theorem dX0_keep_53 : decode cX0_keep 53 = .ok (.iload 4, 2) := by decide +kernel
theorem dX0_keep_55 : decode cX0_keep 55 = .ok (.i2l, 1) := by decide +kernel
theorem dX0_keep_56 : decode cX0_keep 56 = .ok (.iload 6, 2) := by decide +kernel
theorem dX0_keep_58 : decode cX0_keep 58 = .ok (.lshl, 1) := by decide +kernel
theorem dX0_keep_59 : decode cX0_keep 59 = .ok (.lor, 1) := by decide +kernel
theorem dX0_keep_60 : decode cX0_keep 60 = .ok (.lastore, 1) := by decide +kernel
theorem dX0_keep_61 : decode cX0_keep 61 = .ok (.return_, 1) := by decide +kernel
theorem dX1_init_0 : decode cX1_init 0 = .ok (.aload_n 0, 1) := by decide +kernel
theorem dX1_init_1 : decode cX1_init 1 = .ok (.invokespecial 3, 3) := by decide +kernel
theorem dX1_init_4 : decode cX1_init 4 = .ok (.aload_n 0, 1) := by decide +kernel
theorem dX1_init_5 : decode cX1_init 5 = .ok (.bipush 48, 2) := by decide +kernel
theorem dX1_init_7 : decode cX1_init 7 = .ok (.newarray .int, 2) := by decide +kernel
theorem dX1_init_9 : decode cX1_init 9 = .ok (.putfield 9, 3) := by decide +kernel
theorem dX1_init_12 : decode cX1_init 12 = .ok (.aload_n 0, 1) := by decide +kernel
theorem dX1_init_13 : decode cX1_init 13 = .ok (.bipush 48, 2) := by decide +kernel
theorem dX1_init_15 : decode cX1_init 15 = .ok (.newarray .int, 2) := by decide +kernel
theorem dX1_init_17 : decode cX1_init 17 = .ok (.putfield 15, 3) := by decide +kernel
theorem dX1_init_20 : decode cX1_init 20 = .ok (.aload_n 0, 1) := by decide +kernel
theorem dX1_init_21 : decode cX1_init 21 = .ok (.bipush 48, 2) := by decide +kernel
theorem dX1_init_23 : decode cX1_init 23 = .ok (.newarray .int, 2) := by decide +kernel
theorem dX1_init_25 : decode cX1_init 25 = .ok (.putfield 18, 3) := by decide +kernel
theorem dX1_init_28 : decode cX1_init 28 = .ok (.aload_n 0, 1) := by decide +kernel
theorem dX1_init_29 : decode cX1_init 29 = .ok (.bipush 48, 2) := by decide +kernel
theorem dX1_init_31 : decode cX1_init 31 = .ok (.newarray .int, 2) := by decide +kernel
theorem dX1_init_33 : decode cX1_init 33 = .ok (.putfield 21, 3) := by decide +kernel
theorem dX1_init_36 : decode cX1_init 36 = .ok (.aload_n 0, 1) := by decide +kernel
theorem dX1_init_37 : decode cX1_init 37 = .ok (.bipush 48, 2) := by decide +kernel
theorem dX1_init_39 : decode cX1_init 39 = .ok (.newarray .int, 2) := by decide +kernel
theorem dX1_init_41 : decode cX1_init 41 = .ok (.putfield 24, 3) := by decide +kernel
theorem dX1_init_44 : decode cX1_init 44 = .ok (.aload_n 0, 1) := by decide +kernel
theorem dX1_init_45 : decode cX1_init 45 = .ok (.bipush 48, 2) := by decide +kernel
theorem dX1_init_47 : decode cX1_init 47 = .ok (.newarray .int, 2) := by decide +kernel
theorem dX1_init_49 : decode cX1_init 49 = .ok (.putfield 27, 3) := by decide +kernel
theorem dX1_init_52 : decode cX1_init 52 = .ok (.aload_n 0, 1) := by decide +kernel
theorem dX1_init_53 : decode cX1_init 53 = .ok (.bipush 48, 2) := by decide +kernel
theorem dX1_init_55 : decode cX1_init 55 = .ok (.newarray .int, 2) := by decide +kernel
theorem dX1_init_57 : decode cX1_init 57 = .ok (.putfield 30, 3) := by decide +kernel
theorem dX1_init_60 : decode cX1_init 60 = .ok (.aload_n 0, 1) := by decide +kernel
theorem dX1_init_61 : decode cX1_init 61 = .ok (.iconst 0, 1) := by decide +kernel
theorem dX1_init_62 : decode cX1_init 62 = .ok (.putfield 33, 3) := by decide +kernel
theorem dX1_init_65 : decode cX1_init 65 = .ok (.aload_n 0, 1) := by decide +kernel
theorem dX1_init_66 : decode cX1_init 66 = .ok (.iconst 0, 1) := by decide +kernel
theorem dX1_init_67 : decode cX1_init 67 = .ok (.putfield 37, 3) := by decide +kernel
theorem dX1_init_70 : decode cX1_init 70 = .ok (.aload_n 0, 1) := by decide +kernel
theorem dX1_init_71 : decode cX1_init 71 = .ok (.iconst 0, 1) := by decide +kernel
theorem dX1_init_72 : decode cX1_init 72 = .ok (.putfield 40, 3) := by decide +kernel
theorem dX1_init_75 : decode cX1_init 75 = .ok (.aload_n 0, 1) := by decide +kernel
theorem dX1_init_76 : decode cX1_init 76 = .ok (.iconst 0, 1) := by decide +kernel
theorem dX1_init_77 : decode cX1_init 77 = .ok (.putfield 43, 3) := by decide +kernel
theorem dX1_init_80 : decode cX1_init 80 = .ok (.return_, 1) := by decide +kernel
theorem dX1_forget_0 : decode cX1_forget 0 = .ok (.aload_n 0, 1) := by decide +kernel
theorem dX1_forget_1 : decode cX1_forget 1 = .ok (.iconst 0, 1) := by decide +kernel
theorem dX1_forget_2 : decode cX1_forget 2 = .ok (.putfield 43, 3) := by decide +kernel
theorem dX1_forget_5 : decode cX1_forget 5 = .ok (.return_, 1) := by decide +kernel
theorem dX1_startReading_0 : decode cX1_startReading 0 = .ok (.aload_n 0, 1) := by decide +kernel
theorem dX1_startReading_1 : decode cX1_startReading 1 = .ok (.iconst 0, 1) := by decide +kernel
theorem dX1_startReading_2 : decode cX1_startReading 2 = .ok (.putfield 33, 3) := by decide +kernel
theorem dX1_startReading_5 : decode cX1_startReading 5 = .ok (.aload_n 0, 1) := by decide +kernel
theorem dX1_startReading_6 : decode cX1_startReading 6 = .ok (.iconst 0, 1) := by decide +kernel
theorem dX1_startReading_7 : decode cX1_startReading 7 = .ok (.putfield 37, 3) := by decide +kernel
theorem dX1_startReading_10 : decode cX1_startReading 10 = .ok (.aload_n 0, 1) := by decide +kernel
theorem dX1_startReading_11 : decode cX1_startReading 11 = .ok (.iconst 0, 1) := by decide +kernel
theorem dX1_startReading_12 : decode cX1_startReading 12 = .ok (.putfield 40, 3) := by decide +kernel
theorem dX1_startReading_15 : decode cX1_startReading 15 = .ok (.aload_n 0, 1) := by decide +kernel
theorem dX1_startReading_16 : decode cX1_startReading 16 = .ok (.iconst 1, 1) := by decide +kernel
theorem dX1_startReading_17 : decode cX1_startReading 17 = .ok (.putfield 43, 3) := by decide +kernel
theorem dX1_startReading_20 : decode cX1_startReading 20 = .ok (.return_, 1) := by decide +kernel
theorem dX1_begin_0 : decode cX1_begin 0 = .ok (.aload_n 0, 1) := by decide +kernel
theorem dX1_begin_1 : decode cX1_begin 1 = .ok (.getfield 33, 3) := by decide +kernel
theorem dX1_begin_4 : decode cX1_begin 4 = .ok (.bipush 48, 2) := by decide +kernel
theorem dX1_begin_6 : decode cX1_begin 6 = .ok (.if_icmp .ge 12, 3) := by decide +kernel
theorem dX1_begin_9 : decode cX1_begin 9 = .ok (.aload_n 0, 1) := by decide +kernel
theorem dX1_begin_10 : decode cX1_begin 10 = .ok (.getfield 37, 3) := by decide +kernel
theorem dX1_begin_13 : decode cX1_begin 13 = .ok (.bipush 48, 2) := by decide +kernel
theorem dX1_begin_15 : decode cX1_begin 15 = .ok (.if_icmp .lt 4, 3) := by decide +kernel
theorem dX1_begin_18 : decode cX1_begin 18 = .ok (.return_, 1) := by decide +kernel
theorem dX1_begin_19 : decode cX1_begin 19 = .ok (.aload_n 0, 1) := by decide +kernel
theorem dX1_begin_20 : decode cX1_begin 20 = .ok (.getfield 9, 3) := by decide +kernel
theorem dX1_begin_23 : decode cX1_begin 23 = .ok (.aload_n 0, 1) := by decide +kernel
theorem dX1_begin_24 : decode cX1_begin 24 = .ok (.getfield 33, 3) := by decide +kernel
theorem dX1_begin_27 : decode cX1_begin 27 = .ok (.iload_n 1, 1) := by decide +kernel
theorem dX1_begin_28 : decode cX1_begin 28 = .ok (.iastore, 1) := by decide +kernel
theorem dX1_begin_29 : decode cX1_begin 29 = .ok (.aload_n 0, 1) := by decide +kernel
theorem dX1_begin_30 : decode cX1_begin 30 = .ok (.getfield 15, 3) := by decide +kernel
theorem dX1_begin_33 : decode cX1_begin 33 = .ok (.aload_n 0, 1) := by decide +kernel
theorem dX1_begin_34 : decode cX1_begin 34 = .ok (.getfield 33, 3) := by decide +kernel
theorem dX1_begin_37 : decode cX1_begin 37 = .ok (.iload_n 2, 1) := by decide +kernel
theorem dX1_begin_38 : decode cX1_begin 38 = .ok (.iastore, 1) := by decide +kernel
theorem dX1_begin_39 : decode cX1_begin 39 = .ok (.aload_n 0, 1) := by decide +kernel
theorem dX1_begin_40 : decode cX1_begin 40 = .ok (.getfield 24, 3) := by decide +kernel
theorem dX1_begin_43 : decode cX1_begin 43 = .ok (.aload_n 0, 1) := by decide +kernel
theorem dX1_begin_44 : decode cX1_begin 44 = .ok (.getfield 33, 3) := by decide +kernel
theorem dX1_begin_47 : decode cX1_begin 47 = .ok (.aload_n 0, 1) := by decide +kernel
theorem dX1_begin_48 : decode cX1_begin 48 = .ok (.iconst 0, 1) := by decide +kernel
theorem dX1_begin_49 : decode cX1_begin 49 = .ok (.invokevirtual 47, 3) := by decide +kernel
theorem dX1_begin_52 : decode cX1_begin 52 = .ok (.iastore, 1) := by decide +kernel
theorem dX1_begin_53 : decode cX1_begin 53 = .ok (.aload_n 0, 1) := by decide +kernel
theorem dX1_begin_54 : decode cX1_begin 54 = .ok (.getfield 27, 3) := by decide +kernel
theorem dX1_begin_57 : decode cX1_begin 57 = .ok (.aload_n 0, 1) := by decide +kernel
theorem dX1_begin_58 : decode cX1_begin 58 = .ok (.getfield 33, 3) := by decide +kernel
theorem dX1_begin_61 : decode cX1_begin 61 = .ok (.aload_n 0, 1) := by decide +kernel
theorem dX1_begin_62 : decode cX1_begin 62 = .ok (.getfield 37, 3) := by decide +kernel
theorem dX1_begin_65 : decode cX1_begin 65 = .ok (.iastore, 1) := by decide +kernel
theorem dX1_begin_66 : decode cX1_begin 66 = .ok (.aload_n 0, 1) := by decide +kernel
theorem dX1_begin_67 : decode cX1_begin 67 = .ok (.getfield 30, 3) := by decide +kernel
theorem dX1_begin_70 : decode cX1_begin 70 = .ok (.aload_n 0, 1) := by decide +kernel
theorem dX1_begin_71 : decode cX1_begin 71 = .ok (.getfield 37, 3) := by decide +kernel
theorem dX1_begin_74 : decode cX1_begin 74 = .ok (.aload_n 0, 1) := by decide +kernel
theorem dX1_begin_75 : decode cX1_begin 75 = .ok (.getfield 33, 3) := by decide +kernel
theorem dX1_begin_78 : decode cX1_begin 78 = .ok (.iastore, 1) := by decide +kernel
theorem dX1_begin_79 : decode cX1_begin 79 = .ok (.aload_n 0, 1) := by decide +kernel
theorem dX1_begin_80 : decode cX1_begin 80 = .ok (.dup, 1) := by decide +kernel
theorem dX1_begin_81 : decode cX1_begin 81 = .ok (.getfield 37, 3) := by decide +kernel
theorem dX1_begin_84 : decode cX1_begin 84 = .ok (.iconst 1, 1) := by decide +kernel
theorem dX1_begin_85 : decode cX1_begin 85 = .ok (.iadd, 1) := by decide +kernel
theorem dX1_begin_86 : decode cX1_begin 86 = .ok (.putfield 37, 3) := by decide +kernel
theorem dX1_begin_89 : decode cX1_begin 89 = .ok (.aload_n 0, 1) := by decide +kernel
theorem dX1_begin_90 : decode cX1_begin 90 = .ok (.dup, 1) := by decide +kernel
theorem dX1_begin_91 : decode cX1_begin 91 = .ok (.getfield 33, 3) := by decide +kernel
theorem dX1_begin_94 : decode cX1_begin 94 = .ok (.iconst 1, 1) := by decide +kernel
theorem dX1_begin_95 : decode cX1_begin 95 = .ok (.iadd, 1) := by decide +kernel
theorem dX1_begin_96 : decode cX1_begin 96 = .ok (.putfield 33, 3) := by decide +kernel
theorem dX1_begin_99 : decode cX1_begin 99 = .ok (.return_, 1) := by decide +kernel
theorem dX1_finish_0 : decode cX1_finish 0 = .ok (.aload_n 0, 1) := by decide +kernel
theorem dX1_finish_1 : decode cX1_finish 1 = .ok (.iconst 0, 1) := by decide +kernel
theorem dX1_finish_2 : decode cX1_finish 2 = .ok (.invokevirtual 47, 3) := by decide +kernel
theorem dX1_finish_5 : decode cX1_finish 5 = .ok (.istore_n 3, 1) := by decide +kernel
theorem dX1_finish_6 : decode cX1_finish 6 = .ok (.iload_n 3, 1) := by decide +kernel
theorem dX1_finish_7 : decode cX1_finish 7 = .ok (.iconst (-1), 1) := by decide +kernel
theorem dX1_finish_8 : decode cX1_finish 8 = .ok (.if_icmp .eq 27, 3) := by decide +kernel
theorem dX1_finish_11 : decode cX1_finish 11 = .ok (.aload_n 0, 1) := by decide +kernel
theorem dX1_finish_12 : decode cX1_finish 12 = .ok (.getfield 18, 3) := by decide +kernel
theorem dX1_finish_15 : decode cX1_finish 15 = .ok (.iload_n 3, 1) := by decide +kernel
theorem dX1_finish_16 : decode cX1_finish 16 = .ok (.iload_n 1, 1) := by decide +kernel
theorem dX1_finish_17 : decode cX1_finish 17 = .ok (.iastore, 1) := by decide +kernel
theorem dX1_finish_18 : decode cX1_finish 18 = .ok (.aload_n 0, 1) := by decide +kernel
theorem dX1_finish_19 : decode cX1_finish 19 = .ok (.getfield 21, 3) := by decide +kernel
theorem dX1_finish_22 : decode cX1_finish 22 = .ok (.iload_n 3, 1) := by decide +kernel
theorem dX1_finish_23 : decode cX1_finish 23 = .ok (.iload_n 2, 1) := by decide +kernel
theorem dX1_finish_24 : decode cX1_finish 24 = .ok (.iastore, 1) := by decide +kernel
theorem dX1_finish_25 : decode cX1_finish 25 = .ok (.aload_n 0, 1) := by decide +kernel
theorem dX1_finish_26 : decode cX1_finish 26 = .ok (.dup, 1) := by decide +kernel
theorem dX1_finish_27 : decode cX1_finish 27 = .ok (.getfield 37, 3) := by decide +kernel
theorem dX1_finish_30 : decode cX1_finish 30 = .ok (.iconst 1, 1) := by decide +kernel
theorem dX1_finish_31 : decode cX1_finish 31 = .ok (.isub, 1) := by decide +kernel
theorem dX1_finish_32 : decode cX1_finish 32 = .ok (.putfield 37, 3) := by decide +kernel
theorem dX1_finish_35 : decode cX1_finish 35 = .ok (.return_, 1) := by decide +kernel
theorem dX1_openIsland_0 : decode cX1_openIsland 0 = .ok (.aload_n 0, 1) := by decide +kernel
theorem dX1_openIsland_1 : decode cX1_openIsland 1 = .ok (.getfield 37, 3) := by decide +kernel
theorem dX1_openIsland_4 : decode cX1_openIsland 4 = .ok (.iconst 1, 1) := by decide +kernel
theorem dX1_openIsland_5 : decode cX1_openIsland 5 = .ok (.isub, 1) := by decide +kernel
theorem dX1_openIsland_6 : decode cX1_openIsland 6 = .ok (.iload_n 1, 1) := by decide +kernel
theorem dX1_openIsland_7 : decode cX1_openIsland 7 = .ok (.isub, 1) := by decide +kernel
theorem dX1_openIsland_8 : decode cX1_openIsland 8 = .ok (.istore_n 2, 1) := by decide +kernel
theorem dX1_openIsland_9 : decode cX1_openIsland 9 = .ok (.iload_n 2, 1) := by decide +kernel
theorem dX1_openIsland_10 : decode cX1_openIsland 10 = .ok (.ifCond .lt 9, 3) := by decide +kernel
theorem dX1_openIsland_13 : decode cX1_openIsland 13 = .ok (.iload_n 2, 1) := by decide +kernel
theorem dX1_openIsland_14 : decode cX1_openIsland 14 = .ok (.bipush 48, 2) := by decide +kernel
theorem dX1_openIsland_16 : decode cX1_openIsland 16 = .ok (.if_icmp .lt 7, 3) := by decide +kernel
theorem dX1_openIsland_19 : decode cX1_openIsland 19 = .ok (.iconst (-1), 1) := by decide +kernel
theorem dX1_openIsland_20 : decode cX1_openIsland 20 = .ok (.goto 9, 3) := by decide +kernel
theorem dX1_openIsland_23 : decode cX1_openIsland 23 = .ok (.aload_n 0, 1) := by decide +kernel
theorem dX1_openIsland_24 : decode cX1_openIsland 24 = .ok (.getfield 30, 3) := by decide +kernel
theorem dX1_openIsland_27 : decode cX1_openIsland 27 = .ok (.iload_n 2, 1) := by decide +kernel
theorem dX1_openIsland_28 : decode cX1_openIsland 28 = .ok (.iaload, 1) := by decide +kernel
theorem dX1_openIsland_29 : decode cX1_openIsland 29 = .ok (.ireturn, 1) := by decide +kernel
theorem dX1_openKind_0 : decode cX1_openKind 0 = .ok (.aload_n 0, 1) := by decide +kernel
theorem dX1_openKind_1 : decode cX1_openKind 1 = .ok (.iload_n 1, 1) := by decide +kernel
theorem dX1_openKind_2 : decode cX1_openKind 2 = .ok (.invokevirtual 47, 3) := by decide +kernel
theorem dX1_openKind_5 : decode cX1_openKind 5 = .ok (.istore_n 2, 1) := by decide +kernel
theorem dX1_openKind_6 : decode cX1_openKind 6 = .ok (.iload_n 2, 1) := by decide +kernel
theorem dX1_openKind_7 : decode cX1_openKind 7 = .ok (.iconst (-1), 1) := by decide +kernel
theorem dX1_openKind_8 : decode cX1_openKind 8 = .ok (.if_icmp .ne 8, 3) := by decide +kernel
theorem dX1_openKind_11 : decode cX1_openKind 11 = .ok (.bipush 6, 2) := by decide +kernel
theorem dX1_openKind_13 : decode cX1_openKind 13 = .ok (.goto 9, 3) := by decide +kernel
theorem dX1_openKind_16 : decode cX1_openKind 16 = .ok (.aload_n 0, 1) := by decide +kernel
theorem dX1_openKind_17 : decode cX1_openKind 17 = .ok (.getfield 9, 3) := by decide +kernel
theorem dX1_openKind_20 : decode cX1_openKind 20 = .ok (.iload_n 2, 1) := by decide +kernel
theorem dX1_openKind_21 : decode cX1_openKind 21 = .ok (.iaload, 1) := by decide +kernel
theorem dX1_openKind_22 : decode cX1_openKind 22 = .ok (.ireturn, 1) := by decide +kernel
theorem dX1_innermostKind_0 : decode cX1_innermostKind 0 = .ok (.aload_n 0, 1) := by decide +kernel
theorem dX1_innermostKind_1 : decode cX1_innermostKind 1 = .ok (.iconst 0, 1) := by decide +kernel
theorem dX1_innermostKind_2 : decode cX1_innermostKind 2 = .ok (.invokevirtual 51, 3) := by decide +kernel
theorem dX1_innermostKind_5 : decode cX1_innermostKind 5 = .ok (.ireturn, 1) := by decide +kernel
theorem dX1_bytesOfChildren_0 : decode cX1_bytesOfChildren 0 = .ok (.iconst 0, 1) := by decide +kernel
theorem dX1_bytesOfChildren_1 : decode cX1_bytesOfChildren 1 = .ok (.istore_n 2, 1) := by decide +kernel
theorem dX1_bytesOfChildren_2 : decode cX1_bytesOfChildren 2 = .ok (.iconst 0, 1) := by decide +kernel
theorem dX1_bytesOfChildren_3 : decode cX1_bytesOfChildren 3 = .ok (.istore_n 3, 1) := by decide +kernel
theorem dX1_bytesOfChildren_4 : decode cX1_bytesOfChildren 4 = .ok (.iload_n 3, 1) := by decide +kernel
theorem dX1_bytesOfChildren_5 : decode cX1_bytesOfChildren 5 = .ok (.aload_n 0, 1) := by decide +kernel
theorem dX1_bytesOfChildren_6 : decode cX1_bytesOfChildren 6 = .ok (.getfield 33, 3) := by decide +kernel
theorem dX1_bytesOfChildren_9 : decode cX1_bytesOfChildren 9 = .ok (.if_icmp .ge 35, 3) := by decide +kernel
theorem dX1_bytesOfChildren_12 : decode cX1_bytesOfChildren 12 = .ok (.aload_n 0, 1) := by decide +kernel
theorem dX1_bytesOfChildren_13 : decode cX1_bytesOfChildren 13 = .ok (.getfield 24, 3) := by decide +kernel
theorem dX1_bytesOfChildren_16 : decode cX1_bytesOfChildren 16 = .ok (.iload_n 3, 1) := by decide +kernel
theorem dX1_bytesOfChildren_17 : decode cX1_bytesOfChildren 17 = .ok (.iaload, 1) := by decide +kernel
theorem dX1_bytesOfChildren_18 : decode cX1_bytesOfChildren 18 = .ok (.iload_n 1, 1) := by decide +kernel
theorem dX1_bytesOfChildren_19 : decode cX1_bytesOfChildren 19 = .ok (.if_icmp .ne 19, 3) := by decide +kernel
theorem dX1_bytesOfChildren_22 : decode cX1_bytesOfChildren 22 = .ok (.iload_n 2, 1) := by decide +kernel
theorem dX1_bytesOfChildren_23 : decode cX1_bytesOfChildren 23 = .ok (.aload_n 0, 1) := by decide +kernel
theorem dX1_bytesOfChildren_24 : decode cX1_bytesOfChildren 24 = .ok (.getfield 18, 3) := by decide +kernel
theorem dX1_bytesOfChildren_27 : decode cX1_bytesOfChildren 27 = .ok (.iload_n 3, 1) := by decide +kernel
theorem dX1_bytesOfChildren_28 : decode cX1_bytesOfChildren 28 = .ok (.iaload, 1) := by decide +kernel
theorem dX1_bytesOfChildren_29 : decode cX1_bytesOfChildren 29 = .ok (.aload_n 0, 1) := by decide +kernel
theorem dX1_bytesOfChildren_30 : decode cX1_bytesOfChildren 30 = .ok (.getfield 15, 3) := by decide +kernel
theorem dX1_bytesOfChildren_33 : decode cX1_bytesOfChildren 33 = .ok (.iload_n 3, 1) := by decide +kernel
theorem dX1_bytesOfChildren_34 : decode cX1_bytesOfChildren 34 = .ok (.iaload, 1) := by decide +kernel
theorem dX1_bytesOfChildren_35 : decode cX1_bytesOfChildren 35 = .ok (.isub, 1) := by decide +kernel
theorem dX1_bytesOfChildren_36 : decode cX1_bytesOfChildren 36 = .ok (.iadd, 1) := by decide +kernel
theorem dX1_bytesOfChildren_37 : decode cX1_bytesOfChildren 37 = .ok (.istore_n 2, 1) := by decide +kernel
theorem dX1_bytesOfChildren_38 : decode cX1_bytesOfChildren 38 = .ok (.iinc 3 1, 3) := by decide +kernel
theorem dX1_bytesOfChildren_41 : decode cX1_bytesOfChildren 41 = .ok (.goto (-37), 3) := by decide +kernel
theorem dX1_bytesOfChildren_44 : decode cX1_bytesOfChildren 44 = .ok (.iload_n 2, 1) := by decide +kernel
theorem dX1_bytesOfChildren_45 : decode cX1_bytesOfChildren 45 = .ok (.ireturn, 1) := by decide +kernel
theorem dX1_innermostAround_0 : decode cX1_innermostAround 0 = .ok (.aload_n 0, 1) := by decide +kernel
theorem dX1_innermostAround_1 : decode cX1_innermostAround 1 = .ok (.getfield 33, 3) := by decide +kernel
theorem dX1_innermostAround_4 : decode cX1_innermostAround 4 = .ok (.iconst 1, 1) := by decide +kernel
theorem dX1_innermostAround_5 : decode cX1_innermostAround 5 = .ok (.isub, 1) := by decide +kernel
theorem dX1_innermostAround_6 : decode cX1_innermostAround 6 = .ok (.istore_n 2, 1) := by decide +kernel
theorem dX1_innermostAround_7 : decode cX1_innermostAround 7 = .ok (.iload_n 2, 1) := by decide +kernel
theorem dX1_innermostAround_8 : decode cX1_innermostAround 8 = .ok (.ifCond .lt 31, 3) := by decide +kernel
theorem dX1_innermostAround_11 : decode cX1_innermostAround 11 = .ok (.aload_n 0, 1) := by decide +kernel
theorem dX1_innermostAround_12 : decode cX1_innermostAround 12 = .ok (.getfield 15, 3) := by decide +kernel
theorem dX1_innermostAround_15 : decode cX1_innermostAround 15 = .ok (.iload_n 2, 1) := by decide +kernel
theorem dX1_innermostAround_16 : decode cX1_innermostAround 16 = .ok (.iaload, 1) := by decide +kernel
theorem dX1_innermostAround_17 : decode cX1_innermostAround 17 = .ok (.iload_n 1, 1) := by decide +kernel
theorem dX1_innermostAround_18 : decode cX1_innermostAround 18 = .ok (.if_icmp .gt 15, 3) := by decide +kernel
theorem dX1_innermostAround_21 : decode cX1_innermostAround 21 = .ok (.iload_n 1, 1) := by decide +kernel
theorem dX1_innermostAround_22 : decode cX1_innermostAround 22 = .ok (.aload_n 0, 1) := by decide +kernel
theorem dX1_innermostAround_23 : decode cX1_innermostAround 23 = .ok (.getfield 18, 3) := by decide +kernel
theorem dX1_innermostAround_26 : decode cX1_innermostAround 26 = .ok (.iload_n 2, 1) := by decide +kernel
theorem dX1_innermostAround_27 : decode cX1_innermostAround 27 = .ok (.iaload, 1) := by decide +kernel
theorem dX1_innermostAround_28 : decode cX1_innermostAround 28 = .ok (.if_icmp .ge 5, 3) := by decide +kernel
theorem dX1_innermostAround_31 : decode cX1_innermostAround 31 = .ok (.iload_n 2, 1) := by decide +kernel
theorem dX1_innermostAround_32 : decode cX1_innermostAround 32 = .ok (.ireturn, 1) := by decide +kernel
theorem dX1_innermostAround_33 : decode cX1_innermostAround 33 = .ok (.iinc 2 (-1), 3) := by decide +kernel
theorem dX1_innermostAround_36 : decode cX1_innermostAround 36 = .ok (.goto (-29), 3) := by decide +kernel
theorem dX1_innermostAround_39 : decode cX1_innermostAround 39 = .ok (.iconst (-1), 1) := by decide +kernel
theorem dX1_innermostAround_40 : decode cX1_innermostAround 40 = .ok (.ireturn, 1) := by decide +kernel
theorem dX2_init_0 : decode cX2_init 0 = .ok (.aload_n 0, 1) := by decide +kernel
theorem dX2_init_1 : decode cX2_init 1 = .ok (.invokespecial 3, 3) := by decide +kernel
theorem dX2_init_4 : decode cX2_init 4 = .ok (.aload_n 0, 1) := by decide +kernel
theorem dX2_init_5 : decode cX2_init 5 = .ok (.bipush 6, 2) := by decide +kernel
theorem dX2_init_7 : decode cX2_init 7 = .ok (.newarray .int, 2) := by decide +kernel
theorem dX2_init_9 : decode cX2_init 9 = .ok (.putfield 9, 3) := by decide +kernel
theorem dX2_init_12 : decode cX2_init 12 = .ok (.aload_n 0, 1) := by decide +kernel
theorem dX2_init_13 : decode cX2_init 13 = .ok (.bipush 6, 2) := by decide +kernel
theorem dX2_init_15 : decode cX2_init 15 = .ok (.newarray .int, 2) := by decide +kernel
theorem dX2_init_17 : decode cX2_init 17 = .ok (.putfield 15, 3) := by decide +kernel
theorem dX2_init_20 : decode cX2_init 20 = .ok (.aload_n 0, 1) := by decide +kernel
theorem dX2_init_21 : decode cX2_init 21 = .ok (.bipush 6, 2) := by decide +kernel
theorem dX2_init_23 : decode cX2_init 23 = .ok (.newarray .int, 2) := by decide +kernel
theorem dX2_init_25 : decode cX2_init 25 = .ok (.putfield 18, 3) := by decide +kernel
theorem dX2_init_28 : decode cX2_init 28 = .ok (.iconst 0, 1) := by decide +kernel
theorem dX2_init_29 : decode cX2_init 29 = .ok (.istore_n 1, 1) := by decide +kernel
theorem dX2_init_30 : decode cX2_init 30 = .ok (.iload_n 1, 1) := by decide +kernel
theorem dX2_init_31 : decode cX2_init 31 = .ok (.bipush 6, 2) := by decide +kernel
theorem dX2_init_33 : decode cX2_init 33 = .ok (.if_icmp .ge 17, 3) := by decide +kernel
theorem dX2_init_36 : decode cX2_init 36 = .ok (.aload_n 0, 1) := by decide +kernel
theorem dX2_init_37 : decode cX2_init 37 = .ok (.getfield 18, 3) := by decide +kernel
theorem dX2_init_40 : decode cX2_init 40 = .ok (.iload_n 1, 1) := by decide +kernel
theorem dX2_init_41 : decode cX2_init 41 = .ok (.bipush 63, 2) := by decide +kernel
theorem dX2_init_43 : decode cX2_init 43 = .ok (.iastore, 1) := by decide +kernel
theorem dX2_init_44 : decode cX2_init 44 = .ok (.iinc 1 1, 3) := by decide +kernel
theorem dX2_init_47 : decode cX2_init 47 = .ok (.goto (-17), 3) := by decide +kernel
theorem dX2_init_50 : decode cX2_init 50 = .ok (.aload_n 0, 1) := by decide +kernel
theorem dX2_init_51 : decode cX2_init 51 = .ok (.iconst 0, 1) := by decide +kernel
theorem dX2_init_52 : decode cX2_init 52 = .ok (.putfield 21, 3) := by decide +kernel
theorem dX2_init_55 : decode cX2_init 55 = .ok (.aload_n 0, 1) := by decide +kernel
theorem dX2_init_56 : decode cX2_init 56 = .ok (.bipush 63, 2) := by decide +kernel
theorem dX2_init_58 : decode cX2_init 58 = .ok (.putfield 25, 3) := by decide +kernel
theorem dX2_init_61 : decode cX2_init 61 = .ok (.return_, 1) := by decide +kernel
theorem dX2_isComplete_0 : decode cX2_isComplete 0 = .ok (.iload_n 1, 1) := by decide +kernel
theorem dX2_isComplete_1 : decode cX2_isComplete 1 = .ok (.ifCond .lt 31, 3) := by decide +kernel
theorem dX2_isComplete_4 : decode cX2_isComplete 4 = .ok (.iload_n 1, 1) := by decide +kernel
theorem dX2_isComplete_5 : decode cX2_isComplete 5 = .ok (.bipush 6, 2) := by decide +kernel
theorem dX2_isComplete_7 : decode cX2_isComplete 7 = .ok (.if_icmp .ge 25, 3) := by decide +kernel
theorem dX2_isComplete_10 : decode cX2_isComplete 10 = .ok (.aload_n 0, 1) := by decide +kernel
theorem dX2_isComplete_11 : decode cX2_isComplete 11 = .ok (.getfield 9, 3) := by decide +kernel
theorem dX2_isComplete_14 : decode cX2_isComplete 14 = .ok (.iload_n 1, 1) := by decide +kernel
theorem dX2_isComplete_15 : decode cX2_isComplete 15 = .ok (.iaload, 1) := by decide +kernel
theorem dX2_isComplete_16 : decode cX2_isComplete 16 = .ok (.ifCond .eq 16, 3) := by decide +kernel
theorem dX2_isComplete_19 : decode cX2_isComplete 19 = .ok (.aload_n 0, 1) := by decide +kernel
theorem dX2_isComplete_20 : decode cX2_isComplete 20 = .ok (.getfield 15, 3) := by decide +kernel
theorem dX2_isComplete_23 : decode cX2_isComplete 23 = .ok (.iload_n 1, 1) := by decide +kernel
theorem dX2_isComplete_24 : decode cX2_isComplete 24 = .ok (.iaload, 1) := by decide +kernel
theorem dX2_isComplete_25 : decode cX2_isComplete 25 = .ok (.ifCond .eq 7, 3) := by decide +kernel
theorem dX2_isComplete_28 : decode cX2_isComplete 28 = .ok (.iconst 1, 1) := by decide +kernel
theorem dX2_isComplete_29 : decode cX2_isComplete 29 = .ok (.goto 4, 3) := by decide +kernel
theorem dX2_isComplete_32 : decode cX2_isComplete 32 = .ok (.iconst 0, 1) := by decide +kernel
theorem dX2_isComplete_33 : decode cX2_isComplete 33 = .ok (.ireturn, 1) := by decide +kernel
theorem dX2_isClosedBy_0 : decode cX2_isClosedBy 0 = .ok (.aload_n 0, 1) := by decide +kernel
theorem dX2_isClosedBy_1 : decode cX2_isClosedBy 1 = .ok (.iload_n 1, 1) := by decide +kernel
theorem dX2_isClosedBy_2 : decode cX2_isClosedBy 2 = .ok (.invokevirtual 28, 3) := by decide +kernel
theorem dX2_isClosedBy_5 : decode cX2_isClosedBy 5 = .ok (.ifCond .eq 17, 3) := by decide +kernel
theorem dX2_isClosedBy_8 : decode cX2_isClosedBy 8 = .ok (.aload_n 0, 1) := by decide +kernel
theorem dX2_isClosedBy_9 : decode cX2_isClosedBy 9 = .ok (.getfield 15, 3) := by decide +kernel
theorem dX2_isClosedBy_12 : decode cX2_isClosedBy 12 = .ok (.iload_n 1, 1) := by decide +kernel
theorem dX2_isClosedBy_13 : decode cX2_isClosedBy 13 = .ok (.iaload, 1) := by decide +kernel
theorem dX2_isClosedBy_14 : decode cX2_isClosedBy 14 = .ok (.iload_n 2, 1) := by decide +kernel
theorem dX2_isClosedBy_15 : decode cX2_isClosedBy 15 = .ok (.if_icmp .ne 7, 3) := by decide +kernel
theorem dX2_isClosedBy_18 : decode cX2_isClosedBy 18 = .ok (.iconst 1, 1) := by decide +kernel
theorem dX2_isClosedBy_19 : decode cX2_isClosedBy 19 = .ok (.goto 4, 3) := by decide +kernel
theorem dX2_isClosedBy_22 : decode cX2_isClosedBy 22 = .ok (.iconst 0, 1) := by decide +kernel
theorem dX2_isClosedBy_23 : decode cX2_isClosedBy 23 = .ok (.ireturn, 1) := by decide +kernel
theorem dX2_openedBy_0 : decode cX2_openedBy 0 = .ok (.aload_n 0, 1) := by decide +kernel
theorem dX2_openedBy_1 : decode cX2_openedBy 1 = .ok (.aload_n 0, 1) := by decide +kernel
theorem dX2_openedBy_2 : decode cX2_openedBy 2 = .ok (.getfield 9, 3) := by decide +kernel
theorem dX2_openedBy_5 : decode cX2_openedBy 5 = .ok (.iload_n 1, 1) := by decide +kernel
theorem dX2_openedBy_6 : decode cX2_openedBy 6 = .ok (.invokevirtual 32, 3) := by decide +kernel
theorem dX2_openedBy_9 : decode cX2_openedBy 9 = .ok (.ireturn, 1) := by decide +kernel
theorem dX2_closedBy_0 : decode cX2_closedBy 0 = .ok (.aload_n 0, 1) := by decide +kernel
theorem dX2_closedBy_1 : decode cX2_closedBy 1 = .ok (.aload_n 0, 1) := by decide +kernel
theorem dX2_closedBy_2 : decode cX2_closedBy 2 = .ok (.getfield 15, 3) := by decide +kernel
theorem dX2_closedBy_5 : decode cX2_closedBy 5 = .ok (.iload_n 1, 1) := by decide +kernel
theorem dX2_closedBy_6 : decode cX2_closedBy 6 = .ok (.invokevirtual 32, 3) := by decide +kernel
theorem dX2_closedBy_9 : decode cX2_closedBy 9 = .ok (.ireturn, 1) := by decide +kernel
theorem dX2_kindsWith_0 : decode cX2_kindsWith 0 = .ok (.iconst 0, 1) := by decide +kernel
theorem dX2_kindsWith_1 : decode cX2_kindsWith 1 = .ok (.istore_n 3, 1) := by decide +kernel
theorem dX2_kindsWith_2 : decode cX2_kindsWith 2 = .ok (.iconst 0, 1) := by decide +kernel
theorem dX2_kindsWith_3 : decode cX2_kindsWith 3 = .ok (.istore 4, 2) := by decide +kernel
theorem dX2_kindsWith_5 : decode cX2_kindsWith 5 = .ok (.iload 4, 2) := by decide +kernel
theorem dX2_kindsWith_7 : decode cX2_kindsWith 7 = .ok (.bipush 6, 2) := by decide +kernel
theorem dX2_kindsWith_9 : decode cX2_kindsWith 9 = .ok (.if_icmp .ge 40, 3) := by decide +kernel
theorem dX2_kindsWith_12 : decode cX2_kindsWith 12 = .ok (.iload 4, 2) := by decide +kernel
theorem dX2_kindsWith_14 : decode cX2_kindsWith 14 = .ok (.aload_n 1, 1) := by decide +kernel
theorem dX2_kindsWith_15 : decode cX2_kindsWith 15 = .ok (.arraylength, 1) := by decide +kernel
theorem dX2_kindsWith_16 : decode cX2_kindsWith 16 = .ok (.if_icmp .ge 33, 3) := by decide +kernel
theorem dX2_kindsWith_19 : decode cX2_kindsWith 19 = .ok (.aload_n 1, 1) := by decide +kernel
theorem dX2_kindsWith_20 : decode cX2_kindsWith 20 = .ok (.iload 4, 2) := by decide +kernel
theorem dX2_kindsWith_22 : decode cX2_kindsWith 22 = .ok (.iaload, 1) := by decide +kernel
theorem dX2_kindsWith_23 : decode cX2_kindsWith 23 = .ok (.iload_n 2, 1) := by decide +kernel
theorem dX2_kindsWith_24 : decode cX2_kindsWith 24 = .ok (.if_icmp .ne 19, 3) := by decide +kernel
theorem dX2_kindsWith_27 : decode cX2_kindsWith 27 = .ok (.aload_n 0, 1) := by decide +kernel
theorem dX2_kindsWith_28 : decode cX2_kindsWith 28 = .ok (.iload 4, 2) := by decide +kernel
theorem dX2_kindsWith_30 : decode cX2_kindsWith 30 = .ok (.invokevirtual 28, 3) := by decide +kernel
theorem dX2_kindsWith_33 : decode cX2_kindsWith 33 = .ok (.ifCond .eq 10, 3) := by decide +kernel
theorem dX2_kindsWith_36 : decode cX2_kindsWith 36 = .ok (.iload_n 3, 1) := by decide +kernel
theorem dX2_kindsWith_37 : decode cX2_kindsWith 37 = .ok (.iconst 1, 1) := by decide +kernel
theorem dX2_kindsWith_38 : decode cX2_kindsWith 38 = .ok (.iload 4, 2) := by decide +kernel
theorem dX2_kindsWith_40 : decode cX2_kindsWith 40 = .ok (.ishl, 1) := by decide +kernel
theorem dX2_kindsWith_41 : decode cX2_kindsWith 41 = .ok (.ior, 1) := by decide +kernel
theorem dX2_kindsWith_42 : decode cX2_kindsWith 42 = .ok (.istore_n 3, 1) := by decide +kernel
theorem dX2_kindsWith_43 : decode cX2_kindsWith 43 = .ok (.iinc 4 1, 3) := by decide +kernel
theorem dX2_kindsWith_46 : decode cX2_kindsWith 46 = .ok (.goto (-41), 3) := by decide +kernel
theorem dX2_kindsWith_49 : decode cX2_kindsWith 49 = .ok (.iload_n 3, 1) := by decide +kernel
theorem dX2_kindsWith_50 : decode cX2_kindsWith 50 = .ok (.ireturn, 1) := by decide +kernel
theorem dX2_allowedIn_0 : decode cX2_allowedIn 0 = .ok (.iload_n 1, 1) := by decide +kernel
theorem dX2_allowedIn_1 : decode cX2_allowedIn 1 = .ok (.bipush 6, 2) := by decide +kernel
theorem dX2_allowedIn_3 : decode cX2_allowedIn 3 = .ok (.if_icmp .ne 8, 3) := by decide +kernel
theorem dX2_allowedIn_6 : decode cX2_allowedIn 6 = .ok (.aload_n 0, 1) := by decide +kernel
theorem dX2_allowedIn_7 : decode cX2_allowedIn 7 = .ok (.getfield 25, 3) := by decide +kernel
theorem dX2_allowedIn_10 : decode cX2_allowedIn 10 = .ok (.ireturn, 1) := by decide +kernel
theorem dX2_allowedIn_11 : decode cX2_allowedIn 11 = .ok (.iload_n 1, 1) := by decide +kernel
theorem dX2_allowedIn_12 : decode cX2_allowedIn 12 = .ok (.ifCond .lt 20, 3) := by decide +kernel
theorem dX2_allowedIn_15 : decode cX2_allowedIn 15 = .ok (.iload_n 1, 1) := by decide +kernel
theorem dX2_allowedIn_16 : decode cX2_allowedIn 16 = .ok (.bipush 6, 2) := by decide +kernel
theorem dX2_allowedIn_18 : decode cX2_allowedIn 18 = .ok (.if_icmp .ge 14, 3) := by decide +kernel
theorem dX2_allowedIn_21 : decode cX2_allowedIn 21 = .ok (.aload_n 0, 1) := by decide +kernel
theorem dX2_allowedIn_22 : decode cX2_allowedIn 22 = .ok (.getfield 21, 3) := by decide +kernel
theorem dX2_allowedIn_25 : decode cX2_allowedIn 25 = .ok (.iload_n 1, 1) := by decide +kernel
theorem dX2_allowedIn_26 : decode cX2_allowedIn 26 = .ok (.invokestatic 36, 3) := by decide +kernel
theorem dX2_allowedIn_29 : decode cX2_allowedIn 29 = .ok (.ifCond .eq 5, 3) := by decide +kernel
theorem dX2_allowedIn_32 : decode cX2_allowedIn 32 = .ok (.iconst 0, 1) := by decide +kernel
theorem dX2_allowedIn_33 : decode cX2_allowedIn 33 = .ok (.ireturn, 1) := by decide +kernel
theorem dX2_allowedIn_34 : decode cX2_allowedIn 34 = .ok (.aload_n 0, 1) := by decide +kernel
theorem dX2_allowedIn_35 : decode cX2_allowedIn 35 = .ok (.getfield 18, 3) := by decide +kernel
theorem dX2_allowedIn_38 : decode cX2_allowedIn 38 = .ok (.iload_n 1, 1) := by decide +kernel
theorem dX2_allowedIn_39 : decode cX2_allowedIn 39 = .ok (.iaload, 1) := by decide +kernel
theorem dX2_allowedIn_40 : decode cX2_allowedIn 40 = .ok (.ireturn, 1) := by decide +kernel
theorem dX3_init_0 : decode cX3_init 0 = .ok (.aload_n 0, 1) := by decide +kernel
theorem dX3_init_1 : decode cX3_init 1 = .ok (.invokespecial 3, 3) := by decide +kernel
theorem dX3_init_4 : decode cX3_init 4 = .ok (.aload_n 0, 1) := by decide +kernel
theorem dX3_init_5 : decode cX3_init 5 = .ok (.bipush 48, 2) := by decide +kernel
theorem dX3_init_7 : decode cX3_init 7 = .ok (.newarray .int, 2) := by decide +kernel
theorem dX3_init_9 : decode cX3_init 9 = .ok (.putfield 9, 3) := by decide +kernel
theorem dX3_init_12 : decode cX3_init 12 = .ok (.aload_n 0, 1) := by decide +kernel
theorem dX3_init_13 : decode cX3_init 13 = .ok (.bipush 48, 2) := by decide +kernel
theorem dX3_init_15 : decode cX3_init 15 = .ok (.newarray .int, 2) := by decide +kernel
theorem dX3_init_17 : decode cX3_init 17 = .ok (.putfield 15, 3) := by decide +kernel
theorem dX3_init_20 : decode cX3_init 20 = .ok (.aload_n 0, 1) := by decide +kernel
theorem dX3_init_21 : decode cX3_init 21 = .ok (.bipush 48, 2) := by decide +kernel
theorem dX3_init_23 : decode cX3_init 23 = .ok (.newarray .int, 2) := by decide +kernel
theorem dX3_init_25 : decode cX3_init 25 = .ok (.putfield 18, 3) := by decide +kernel
theorem dX3_init_28 : decode cX3_init 28 = .ok (.aload_n 0, 1) := by decide +kernel
theorem dX3_init_29 : decode cX3_init 29 = .ok (.bipush 48, 2) := by decide +kernel
theorem dX3_init_31 : decode cX3_init 31 = .ok (.newarray .int, 2) := by decide +kernel
theorem dX3_init_33 : decode cX3_init 33 = .ok (.putfield 21, 3) := by decide +kernel
theorem dX3_init_36 : decode cX3_init 36 = .ok (.aload_n 0, 1) := by decide +kernel
theorem dX3_init_37 : decode cX3_init 37 = .ok (.iconst 0, 1) := by decide +kernel
theorem dX3_init_38 : decode cX3_init 38 = .ok (.putfield 24, 3) := by decide +kernel
theorem dX3_init_41 : decode cX3_init 41 = .ok (.return_, 1) := by decide +kernel
theorem dX3_find_0 : decode cX3_find 0 = .ok (.aload_n 0, 1) := by decide +kernel
theorem dX3_find_1 : decode cX3_find 1 = .ok (.iconst 0, 1) := by decide +kernel
theorem dX3_find_2 : decode cX3_find 2 = .ok (.putfield 24, 3) := by decide +kernel
theorem dX3_find_5 : decode cX3_find 5 = .ok (.iconst 0, 1) := by decide +kernel
theorem dX3_find_6 : decode cX3_find 6 = .ok (.istore_n 3, 1) := by decide +kernel
theorem dX3_find_7 : decode cX3_find 7 = .ok (.iconst 0, 1) := by decide +kernel
theorem dX3_find_8 : decode cX3_find 8 = .ok (.istore 4, 2) := by decide +kernel
theorem dX3_find_10 : decode cX3_find 10 = .ok (.iload 4, 2) := by decide +kernel
theorem dX3_find_12 : decode cX3_find 12 = .ok (.aload_n 1, 1) := by decide +kernel
theorem dX3_find_13 : decode cX3_find 13 = .ok (.getfield 28, 3) := by decide +kernel
theorem dX3_find_16 : decode cX3_find 16 = .ok (.if_icmp .ge 40, 3) := by decide +kernel
theorem dX3_find_19 : decode cX3_find 19 = .ok (.iload 4, 2) := by decide +kernel
theorem dX3_find_21 : decode cX3_find 21 = .ok (.iload_n 3, 1) := by decide +kernel
theorem dX3_find_22 : decode cX3_find 22 = .ok (.if_icmp .ne 28, 3) := by decide +kernel
theorem dX3_find_25 : decode cX3_find 25 = .ok (.iload 4, 2) := by decide +kernel
theorem dX3_find_27 : decode cX3_find 27 = .ok (.aload_n 1, 1) := by decide +kernel
theorem dX3_find_28 : decode cX3_find 28 = .ok (.iload 4, 2) := by decide +kernel
theorem dX3_find_30 : decode cX3_find 30 = .ok (.invokevirtual 31, 3) := by decide +kernel
theorem dX3_find_33 : decode cX3_find 33 = .ok (.ifCond .eq 7, 3) := by decide +kernel
theorem dX3_find_36 : decode cX3_find 36 = .ok (.iconst 2, 1) := by decide +kernel
theorem dX3_find_37 : decode cX3_find 37 = .ok (.goto 11, 3) := by decide +kernel
theorem dX3_find_40 : decode cX3_find 40 = .ok (.aload_n 0, 1) := by decide +kernel
theorem dX3_find_41 : decode cX3_find 41 = .ok (.aload_n 1, 1) := by decide +kernel
theorem dX3_find_42 : decode cX3_find 42 = .ok (.aload_n 2, 1) := by decide +kernel
theorem dX3_find_43 : decode cX3_find 43 = .ok (.iload 4, 2) := by decide +kernel
theorem dX3_find_45 : decode cX3_find 45 = .ok (.invokevirtual 35, 3) := by decide +kernel
theorem dX3_find_48 : decode cX3_find 48 = .ok (.iadd, 1) := by decide +kernel
theorem dX3_find_49 : decode cX3_find 49 = .ok (.istore_n 3, 1) := by decide +kernel
theorem dX3_find_50 : decode cX3_find 50 = .ok (.iinc 4 1, 3) := by decide +kernel
theorem dX3_find_53 : decode cX3_find 53 = .ok (.goto (-43), 3) := by decide +kernel
theorem dX3_find_56 : decode cX3_find 56 = .ok (.return_, 1) := by decide +kernel
theorem dX3_findAt_0 : decode cX3_findAt 0 = .ok (.iconst 3, 1) := by decide +kernel
theorem dX3_findAt_1 : decode cX3_findAt 1 = .ok (.istore 4, 2) := by decide +kernel
theorem dX3_findAt_3 : decode cX3_findAt 3 = .ok (.iload 4, 2) := by decide +kernel
theorem dX3_findAt_5 : decode cX3_findAt 5 = .ok (.iconst 1, 1) := by decide +kernel
theorem dX3_findAt_6 : decode cX3_findAt 6 = .ok (.if_icmp .lt 109, 3) := by decide +kernel
theorem dX3_findAt_9 : decode cX3_findAt 9 = .ok (.aload_n 1, 1) := by decide +kernel
theorem dX3_findAt_10 : decode cX3_findAt 10 = .ok (.iload_n 3, 1) := by decide +kernel
theorem dX3_findAt_11 : decode cX3_findAt 11 = .ok (.iload 4, 2) := by decide +kernel
theorem dX3_findAt_13 : decode cX3_findAt 13 = .ok (.invokevirtual 39, 3) := by decide +kernel
theorem dX3_findAt_16 : decode cX3_findAt 16 = .ok (.istore 5, 2) := by decide +kernel
theorem dX3_findAt_18 : decode cX3_findAt 18 = .ok (.aload_n 2, 1) := by decide +kernel
theorem dX3_findAt_19 : decode cX3_findAt 19 = .ok (.iload 5, 2) := by decide +kernel
theorem dX3_findAt_21 : decode cX3_findAt 21 = .ok (.invokevirtual 43, 3) := by decide +kernel
theorem dX3_findAt_24 : decode cX3_findAt 24 = .ok (.istore 6, 2) := by decide +kernel
theorem dX3_findAt_26 : decode cX3_findAt 26 = .ok (.aload_n 2, 1) := by decide +kernel
theorem dX3_findAt_27 : decode cX3_findAt 27 = .ok (.iload 5, 2) := by decide +kernel
theorem dX3_findAt_29 : decode cX3_findAt 29 = .ok (.invokevirtual 49, 3) := by decide +kernel
theorem dX3_findAt_32 : decode cX3_findAt 32 = .ok (.istore 7, 2) := by decide +kernel
theorem dX3_findAt_34 : decode cX3_findAt 34 = .ok (.iload 6, 2) := by decide +kernel
theorem dX3_findAt_36 : decode cX3_findAt 36 = .ok (.iload 7, 2) := by decide +kernel
theorem dX3_findAt_38 : decode cX3_findAt 38 = .ok (.ior, 1) := by decide +kernel
theorem dX3_findAt_39 : decode cX3_findAt 39 = .ok (.ifCond .eq 70, 3) := by decide +kernel
theorem dX3_findAt_42 : decode cX3_findAt 42 = .ok (.aload_n 0, 1) := by decide +kernel
theorem dX3_findAt_43 : decode cX3_findAt 43 = .ok (.getfield 24, 3) := by decide +kernel
theorem dX3_findAt_46 : decode cX3_findAt 46 = .ok (.bipush 48, 2) := by decide +kernel
theorem dX3_findAt_48 : decode cX3_findAt 48 = .ok (.if_icmp .ge 61, 3) := by decide +kernel
theorem dX3_findAt_51 : decode cX3_findAt 51 = .ok (.aload_n 0, 1) := by decide +kernel
theorem dX3_findAt_52 : decode cX3_findAt 52 = .ok (.getfield 9, 3) := by decide +kernel
theorem dX3_findAt_55 : decode cX3_findAt 55 = .ok (.aload_n 0, 1) := by decide +kernel
theorem dX3_findAt_56 : decode cX3_findAt 56 = .ok (.getfield 24, 3) := by decide +kernel
theorem dX3_findAt_59 : decode cX3_findAt 59 = .ok (.iload_n 3, 1) := by decide +kernel
theorem dX3_findAt_60 : decode cX3_findAt 60 = .ok (.iastore, 1) := by decide +kernel
theorem dX3_findAt_61 : decode cX3_findAt 61 = .ok (.aload_n 0, 1) := by decide +kernel
theorem dX3_findAt_62 : decode cX3_findAt 62 = .ok (.getfield 15, 3) := by decide +kernel
theorem dX3_findAt_65 : decode cX3_findAt 65 = .ok (.aload_n 0, 1) := by decide +kernel
theorem dX3_findAt_66 : decode cX3_findAt 66 = .ok (.getfield 24, 3) := by decide +kernel
theorem dX3_findAt_69 : decode cX3_findAt 69 = .ok (.iload_n 3, 1) := by decide +kernel
theorem dX3_findAt_70 : decode cX3_findAt 70 = .ok (.iload 4, 2) := by decide +kernel
theorem dX3_findAt_72 : decode cX3_findAt 72 = .ok (.iadd, 1) := by decide +kernel
theorem dX3_findAt_73 : decode cX3_findAt 73 = .ok (.iastore, 1) := by decide +kernel
theorem dX3_findAt_74 : decode cX3_findAt 74 = .ok (.aload_n 0, 1) := by decide +kernel
theorem dX3_findAt_75 : decode cX3_findAt 75 = .ok (.getfield 18, 3) := by decide +kernel
theorem dX3_findAt_78 : decode cX3_findAt 78 = .ok (.aload_n 0, 1) := by decide +kernel
theorem dX3_findAt_79 : decode cX3_findAt 79 = .ok (.getfield 24, 3) := by decide +kernel
theorem dX3_findAt_82 : decode cX3_findAt 82 = .ok (.iload 6, 2) := by decide +kernel
theorem dX3_findAt_84 : decode cX3_findAt 84 = .ok (.iastore, 1) := by decide +kernel
theorem dX3_findAt_85 : decode cX3_findAt 85 = .ok (.aload_n 0, 1) := by decide +kernel
theorem dX3_findAt_86 : decode cX3_findAt 86 = .ok (.getfield 21, 3) := by decide +kernel
theorem dX3_findAt_89 : decode cX3_findAt 89 = .ok (.aload_n 0, 1) := by decide +kernel
theorem dX3_findAt_90 : decode cX3_findAt 90 = .ok (.getfield 24, 3) := by decide +kernel
theorem dX3_findAt_93 : decode cX3_findAt 93 = .ok (.iload 7, 2) := by decide +kernel
theorem dX3_findAt_95 : decode cX3_findAt 95 = .ok (.iastore, 1) := by decide +kernel
theorem dX3_findAt_96 : decode cX3_findAt 96 = .ok (.aload_n 0, 1) := by decide +kernel
theorem dX3_findAt_97 : decode cX3_findAt 97 = .ok (.dup, 1) := by decide +kernel
theorem dX3_findAt_98 : decode cX3_findAt 98 = .ok (.getfield 24, 3) := by decide +kernel
theorem dX3_findAt_101 : decode cX3_findAt 101 = .ok (.iconst 1, 1) := by decide +kernel
theorem dX3_findAt_102 : decode cX3_findAt 102 = .ok (.iadd, 1) := by decide +kernel
theorem dX3_findAt_103 : decode cX3_findAt 103 = .ok (.putfield 24, 3) := by decide +kernel
theorem dX3_findAt_106 : decode cX3_findAt 106 = .ok (.iload 4, 2) := by decide +kernel
theorem dX3_findAt_108 : decode cX3_findAt 108 = .ok (.ireturn, 1) := by decide +kernel
theorem dX3_findAt_109 : decode cX3_findAt 109 = .ok (.iinc 4 (-1), 3) := by decide +kernel
theorem dX3_findAt_112 : decode cX3_findAt 112 = .ok (.goto (-109), 3) := by decide +kernel
theorem dX3_findAt_115 : decode cX3_findAt 115 = .ok (.iconst 1, 1) := by decide +kernel
theorem dX3_findAt_116 : decode cX3_findAt 116 = .ok (.ireturn, 1) := by decide +kernel
theorem dX4_init_0 : decode cX4_init 0 = .ok (.aload_n 0, 1) := by decide +kernel
theorem dX4_init_1 : decode cX4_init 1 = .ok (.invokespecial 3, 3) := by decide +kernel
theorem dX4_init_4 : decode cX4_init 4 = .ok (.aload_n 0, 1) := by decide +kernel
theorem dX4_init_5 : decode cX4_init 5 = .ok (.bipush 48, 2) := by decide +kernel
theorem dX4_init_7 : decode cX4_init 7 = .ok (.newarray .int, 2) := by decide +kernel
theorem dX4_init_9 : decode cX4_init 9 = .ok (.putfield 9, 3) := by decide +kernel
theorem dX4_init_12 : decode cX4_init 12 = .ok (.aload_n 0, 1) := by decide +kernel
theorem dX4_init_13 : decode cX4_init 13 = .ok (.iconst 0, 1) := by decide +kernel
theorem dX4_init_14 : decode cX4_init 14 = .ok (.putfield 15, 3) := by decide +kernel
theorem dX4_init_17 : decode cX4_init 17 = .ok (.aload_n 0, 1) := by decide +kernel
theorem dX4_init_18 : decode cX4_init 18 = .ok (.iconst (-1), 1) := by decide +kernel
theorem dX4_init_19 : decode cX4_init 19 = .ok (.putfield 19, 3) := by decide +kernel
theorem dX4_init_22 : decode cX4_init 22 = .ok (.return_, 1) := by decide +kernel
theorem dX4_hasPlace_0 : decode cX4_hasPlace 0 = .ok (.iload_n 1, 1) := by decide +kernel
theorem dX4_hasPlace_1 : decode cX4_hasPlace 1 = .ok (.ifCond .lt 15, 3) := by decide +kernel
theorem dX4_hasPlace_4 : decode cX4_hasPlace 4 = .ok (.iload_n 1, 1) := by decide +kernel
theorem dX4_hasPlace_5 : decode cX4_hasPlace 5 = .ok (.aload_n 0, 1) := by decide +kernel
theorem dX4_hasPlace_6 : decode cX4_hasPlace 6 = .ok (.getfield 15, 3) := by decide +kernel
theorem dX4_hasPlace_9 : decode cX4_hasPlace 9 = .ok (.if_icmp .ge 7, 3) := by decide +kernel
theorem dX4_hasPlace_12 : decode cX4_hasPlace 12 = .ok (.iconst 1, 1) := by decide +kernel
theorem dX4_hasPlace_13 : decode cX4_hasPlace 13 = .ok (.goto 4, 3) := by decide +kernel
theorem dX4_hasPlace_16 : decode cX4_hasPlace 16 = .ok (.iconst 0, 1) := by decide +kernel
theorem dX4_hasPlace_17 : decode cX4_hasPlace 17 = .ok (.ireturn, 1) := by decide +kernel
theorem dX4_append_0 : decode cX4_append 0 = .ok (.aload_n 0, 1) := by decide +kernel
theorem dX4_append_1 : decode cX4_append 1 = .ok (.getfield 15, 3) := by decide +kernel
theorem dX4_append_4 : decode cX4_append 4 = .ok (.bipush 48, 2) := by decide +kernel
theorem dX4_append_6 : decode cX4_append 6 = .ok (.if_icmp .ge 23, 3) := by decide +kernel
theorem dX4_append_9 : decode cX4_append 9 = .ok (.aload_n 0, 1) := by decide +kernel
theorem dX4_append_10 : decode cX4_append 10 = .ok (.getfield 9, 3) := by decide +kernel
theorem dX4_append_13 : decode cX4_append 13 = .ok (.aload_n 0, 1) := by decide +kernel
theorem dX4_append_14 : decode cX4_append 14 = .ok (.getfield 15, 3) := by decide +kernel
theorem dX4_append_17 : decode cX4_append 17 = .ok (.iload_n 1, 1) := by decide +kernel
theorem dX4_append_18 : decode cX4_append 18 = .ok (.iastore, 1) := by decide +kernel
theorem dX4_append_19 : decode cX4_append 19 = .ok (.aload_n 0, 1) := by decide +kernel
theorem dX4_append_20 : decode cX4_append 20 = .ok (.dup, 1) := by decide +kernel
theorem dX4_append_21 : decode cX4_append 21 = .ok (.getfield 15, 3) := by decide +kernel
theorem dX4_append_24 : decode cX4_append 24 = .ok (.iconst 1, 1) := by decide +kernel
theorem dX4_append_25 : decode cX4_append 25 = .ok (.iadd, 1) := by decide +kernel
theorem dX4_append_26 : decode cX4_append 26 = .ok (.putfield 15, 3) := by decide +kernel
theorem dX4_append_29 : decode cX4_append 29 = .ok (.return_, 1) := by decide +kernel
theorem dX4_isEscape_0 : decode cX4_isEscape 0 = .ok (.aload_n 0, 1) := by decide +kernel
theorem dX4_isEscape_1 : decode cX4_isEscape 1 = .ok (.iload_n 1, 1) := by decide +kernel
theorem dX4_isEscape_2 : decode cX4_isEscape 2 = .ok (.invokevirtual 22, 3) := by decide +kernel
theorem dX4_isEscape_5 : decode cX4_isEscape 5 = .ok (.ifCond .eq 20, 3) := by decide +kernel
theorem dX4_isEscape_8 : decode cX4_isEscape 8 = .ok (.aload_n 0, 1) := by decide +kernel
theorem dX4_isEscape_9 : decode cX4_isEscape 9 = .ok (.getfield 9, 3) := by decide +kernel
theorem dX4_isEscape_12 : decode cX4_isEscape 12 = .ok (.iload_n 1, 1) := by decide +kernel
theorem dX4_isEscape_13 : decode cX4_isEscape 13 = .ok (.iaload, 1) := by decide +kernel
theorem dX4_isEscape_14 : decode cX4_isEscape 14 = .ok (.aload_n 0, 1) := by decide +kernel
theorem dX4_isEscape_15 : decode cX4_isEscape 15 = .ok (.getfield 19, 3) := by decide +kernel
theorem dX4_isEscape_18 : decode cX4_isEscape 18 = .ok (.if_icmp .ne 7, 3) := by decide +kernel
theorem dX4_isEscape_21 : decode cX4_isEscape 21 = .ok (.iconst 1, 1) := by decide +kernel
theorem dX4_isEscape_22 : decode cX4_isEscape 22 = .ok (.goto 4, 3) := by decide +kernel
theorem dX4_isEscape_25 : decode cX4_isEscape 25 = .ok (.iconst 0, 1) := by decide +kernel
theorem dX4_isEscape_26 : decode cX4_isEscape 26 = .ok (.ireturn, 1) := by decide +kernel
theorem dX4_wordAt_0 : decode cX4_wordAt 0 = .ok (.iload_n 1, 1) := by decide +kernel
theorem dX4_wordAt_1 : decode cX4_wordAt 1 = .ok (.ifCond .lt 18, 3) := by decide +kernel
theorem dX4_wordAt_4 : decode cX4_wordAt 4 = .ok (.iload_n 2, 1) := by decide +kernel
theorem dX4_wordAt_5 : decode cX4_wordAt 5 = .ok (.iconst 1, 1) := by decide +kernel
theorem dX4_wordAt_6 : decode cX4_wordAt 6 = .ok (.if_icmp .lt 13, 3) := by decide +kernel
theorem dX4_wordAt_9 : decode cX4_wordAt 9 = .ok (.iload_n 2, 1) := by decide +kernel
theorem dX4_wordAt_10 : decode cX4_wordAt 10 = .ok (.aload_n 0, 1) := by decide +kernel
theorem dX4_wordAt_11 : decode cX4_wordAt 11 = .ok (.getfield 15, 3) := by decide +kernel
theorem dX4_wordAt_14 : decode cX4_wordAt 14 = .ok (.iload_n 1, 1) := by decide +kernel
theorem dX4_wordAt_15 : decode cX4_wordAt 15 = .ok (.isub, 1) := by decide +kernel
theorem dX4_wordAt_16 : decode cX4_wordAt 16 = .ok (.if_icmp .le 5, 3) := by decide +kernel
theorem dX4_wordAt_19 : decode cX4_wordAt 19 = .ok (.iconst 0, 1) := by decide +kernel
theorem dX4_wordAt_20 : decode cX4_wordAt 20 = .ok (.ireturn, 1) := by decide +kernel
theorem dX4_wordAt_21 : decode cX4_wordAt 21 = .ok (.iconst 0, 1) := by decide +kernel
theorem dX4_wordAt_22 : decode cX4_wordAt 22 = .ok (.istore_n 3, 1) := by decide +kernel
theorem dX4_wordAt_23 : decode cX4_wordAt 23 = .ok (.iload_n 1, 1) := by decide +kernel
theorem dX4_wordAt_24 : decode cX4_wordAt 24 = .ok (.istore 4, 2) := by decide +kernel
theorem dX4_wordAt_26 : decode cX4_wordAt 26 = .ok (.iload 4, 2) := by decide +kernel
theorem dX4_wordAt_28 : decode cX4_wordAt 28 = .ok (.iload_n 1, 1) := by decide +kernel
theorem dX4_wordAt_29 : decode cX4_wordAt 29 = .ok (.iload_n 2, 1) := by decide +kernel
theorem dX4_wordAt_30 : decode cX4_wordAt 30 = .ok (.iadd, 1) := by decide +kernel
theorem dX4_wordAt_31 : decode cX4_wordAt 31 = .ok (.if_icmp .ge 33, 3) := by decide +kernel
theorem dX4_wordAt_34 : decode cX4_wordAt 34 = .ok (.aload_n 0, 1) := by decide +kernel
theorem dX4_wordAt_35 : decode cX4_wordAt 35 = .ok (.iload 4, 2) := by decide +kernel
theorem dX4_wordAt_37 : decode cX4_wordAt 37 = .ok (.invokevirtual 26, 3) := by decide +kernel
theorem dX4_wordAt_40 : decode cX4_wordAt 40 = .ok (.ifCond .eq 5, 3) := by decide +kernel
theorem dX4_wordAt_43 : decode cX4_wordAt 43 = .ok (.iconst 0, 1) := by decide +kernel
theorem dX4_wordAt_44 : decode cX4_wordAt 44 = .ok (.ireturn, 1) := by decide +kernel
theorem dX4_wordAt_45 : decode cX4_wordAt 45 = .ok (.iload_n 3, 1) := by decide +kernel
theorem dX4_wordAt_46 : decode cX4_wordAt 46 = .ok (.bipush 8, 2) := by decide +kernel
theorem dX4_wordAt_48 : decode cX4_wordAt 48 = .ok (.ishl, 1) := by decide +kernel
theorem dX4_wordAt_49 : decode cX4_wordAt 49 = .ok (.aload_n 0, 1) := by decide +kernel
theorem dX4_wordAt_50 : decode cX4_wordAt 50 = .ok (.getfield 9, 3) := by decide +kernel
theorem dX4_wordAt_53 : decode cX4_wordAt 53 = .ok (.iload 4, 2) := by decide +kernel
theorem dX4_wordAt_55 : decode cX4_wordAt 55 = .ok (.iaload, 1) := by decide +kernel
theorem dX4_wordAt_56 : decode cX4_wordAt 56 = .ok (.ior, 1) := by decide +kernel
theorem dX4_wordAt_57 : decode cX4_wordAt 57 = .ok (.istore_n 3, 1) := by decide +kernel
theorem dX4_wordAt_58 : decode cX4_wordAt 58 = .ok (.iinc 4 1, 3) := by decide +kernel
theorem dX4_wordAt_61 : decode cX4_wordAt 61 = .ok (.goto (-35), 3) := by decide +kernel
theorem dX4_wordAt_64 : decode cX4_wordAt 64 = .ok (.iload_n 3, 1) := by decide +kernel
theorem dX4_wordAt_65 : decode cX4_wordAt 65 = .ok (.ireturn, 1) := by decide +kernel
