theorem dX6_init_0 : decode cX6_init 0 = .ok (.aload_n 0, 1) := by decide +kernel
theorem dX6_init_1 : decode cX6_init 1 = .ok (.invokespecial 1, 3) := by decide +kernel
theorem dX6_init_4 : decode cX6_init 4 = .ok (.aload_n 0, 1) := by decide +kernel
theorem dX6_init_5 : decode cX6_init 5 = .ok (.bipush 48, 2) := by decide +kernel
theorem dX6_init_7 : decode cX6_init 7 = .ok (.newarray .int, 2) := by decide +kernel
theorem dX6_init_9 : decode cX6_init 9 = .ok (.putfield 9, 3) := by decide +kernel
theorem dX6_init_12 : decode cX6_init 12 = .ok (.aload_n 0, 1) := by decide +kernel
theorem dX6_init_13 : decode cX6_init 13 = .ok (.iconst (-1), 1) := by decide +kernel
theorem dX6_init_14 : decode cX6_init 14 = .ok (.putfield 13, 3) := by decide +kernel
theorem dX6_init_17 : decode cX6_init 17 = .ok (.aload_n 0, 1) := by decide +kernel
theorem dX6_init_18 : decode cX6_init 18 = .ok (.iconst 1, 1) := by decide +kernel
theorem dX6_init_19 : decode cX6_init 19 = .ok (.putfield 17, 3) := by decide +kernel
theorem dX6_init_22 : decode cX6_init 22 = .ok (.aload_n 0, 1) := by decide +kernel
theorem dX6_init_23 : decode cX6_init 23 = .ok (.bipush 12, 2) := by decide +kernel
theorem dX6_init_25 : decode cX6_init 25 = .ok (.newarray .int, 2) := by decide +kernel
theorem dX6_init_27 : decode cX6_init 27 = .ok (.putfield 21, 3) := by decide +kernel
theorem dX6_init_30 : decode cX6_init 30 = .ok (.aload_n 0, 1) := by decide +kernel
theorem dX6_init_31 : decode cX6_init 31 = .ok (.bipush 36, 2) := by decide +kernel
theorem dX6_init_33 : decode cX6_init 33 = .ok (.newarray .int, 2) := by decide +kernel
theorem dX6_init_35 : decode cX6_init 35 = .ok (.putfield 24, 3) := by decide +kernel
theorem dX6_init_38 : decode cX6_init 38 = .ok (.aload_n 0, 1) := by decide +kernel
theorem dX6_init_39 : decode cX6_init 39 = .ok (.bipush 6, 2) := by decide +kernel
theorem dX6_init_41 : decode cX6_init 41 = .ok (.newarray .boolean, 2) := by decide +kernel
theorem dX6_init_43 : decode cX6_init 43 = .ok (.putfield 27, 3) := by decide +kernel
theorem dX6_init_46 : decode cX6_init 46 = .ok (.aload_n 0, 1) := by decide +kernel
theorem dX6_init_47 : decode cX6_init 47 = .ok (.bipush 6, 2) := by decide +kernel
theorem dX6_init_49 : decode cX6_init 49 = .ok (.newarray .boolean, 2) := by decide +kernel
theorem dX6_init_51 : decode cX6_init 51 = .ok (.dup, 1) := by decide +kernel
theorem dX6_init_52 : decode cX6_init 52 = .ok (.iconst 0, 1) := by decide +kernel
theorem dX6_init_53 : decode cX6_init 53 = .ok (.iconst 1, 1) := by decide +kernel
theorem dX6_init_54 : decode cX6_init 54 = .ok (.bastore, 1) := by decide +kernel
theorem dX6_init_55 : decode cX6_init 55 = .ok (.dup, 1) := by decide +kernel
theorem dX6_init_56 : decode cX6_init 56 = .ok (.iconst 1, 1) := by decide +kernel
theorem dX6_init_57 : decode cX6_init 57 = .ok (.iconst 1, 1) := by decide +kernel
theorem dX6_init_58 : decode cX6_init 58 = .ok (.bastore, 1) := by decide +kernel
theorem dX6_init_59 : decode cX6_init 59 = .ok (.dup, 1) := by decide +kernel
theorem dX6_init_60 : decode cX6_init 60 = .ok (.iconst 2, 1) := by decide +kernel
theorem dX6_init_61 : decode cX6_init 61 = .ok (.iconst 1, 1) := by decide +kernel
theorem dX6_init_62 : decode cX6_init 62 = .ok (.bastore, 1) := by decide +kernel
theorem dX6_init_63 : decode cX6_init 63 = .ok (.dup, 1) := by decide +kernel
theorem dX6_init_64 : decode cX6_init 64 = .ok (.iconst 3, 1) := by decide +kernel
theorem dX6_init_65 : decode cX6_init 65 = .ok (.iconst 1, 1) := by decide +kernel
theorem dX6_init_66 : decode cX6_init 66 = .ok (.bastore, 1) := by decide +kernel
theorem dX6_init_67 : decode cX6_init 67 = .ok (.dup, 1) := by decide +kernel
theorem dX6_init_68 : decode cX6_init 68 = .ok (.iconst 4, 1) := by decide +kernel
theorem dX6_init_69 : decode cX6_init 69 = .ok (.iconst 1, 1) := by decide +kernel
theorem dX6_init_70 : decode cX6_init 70 = .ok (.bastore, 1) := by decide +kernel
theorem dX6_init_71 : decode cX6_init 71 = .ok (.dup, 1) := by decide +kernel
theorem dX6_init_72 : decode cX6_init 72 = .ok (.iconst 5, 1) := by decide +kernel
theorem dX6_init_73 : decode cX6_init 73 = .ok (.iconst 1, 1) := by decide +kernel
theorem dX6_init_74 : decode cX6_init 74 = .ok (.bastore, 1) := by decide +kernel
theorem dX6_init_75 : decode cX6_init 75 = .ok (.putfield 31, 3) := by decide +kernel
theorem dX6_init_78 : decode cX6_init 78 = .ok (.aload_n 0, 1) := by decide +kernel
theorem dX6_init_79 : decode cX6_init 79 = .ok (.bipush 6, 2) := by decide +kernel
theorem dX6_init_81 : decode cX6_init 81 = .ok (.newarray .int, 2) := by decide +kernel
theorem dX6_init_83 : decode cX6_init 83 = .ok (.dup, 1) := by decide +kernel
theorem dX6_init_84 : decode cX6_init 84 = .ok (.iconst 0, 1) := by decide +kernel
theorem dX6_init_85 : decode cX6_init 85 = .ok (.bipush 63, 2) := by decide +kernel
theorem dX6_init_87 : decode cX6_init 87 = .ok (.iastore, 1) := by decide +kernel
theorem dX6_init_88 : decode cX6_init 88 = .ok (.dup, 1) := by decide +kernel
theorem dX6_init_89 : decode cX6_init 89 = .ok (.iconst 1, 1) := by decide +kernel
theorem dX6_init_90 : decode cX6_init 90 = .ok (.bipush 63, 2) := by decide +kernel
theorem dX6_init_92 : decode cX6_init 92 = .ok (.iastore, 1) := by decide +kernel
theorem dX6_init_93 : decode cX6_init 93 = .ok (.dup, 1) := by decide +kernel
theorem dX6_init_94 : decode cX6_init 94 = .ok (.iconst 2, 1) := by decide +kernel
theorem dX6_init_95 : decode cX6_init 95 = .ok (.bipush 63, 2) := by decide +kernel
theorem dX6_init_97 : decode cX6_init 97 = .ok (.iastore, 1) := by decide +kernel
theorem dX6_init_98 : decode cX6_init 98 = .ok (.dup, 1) := by decide +kernel
theorem dX6_init_99 : decode cX6_init 99 = .ok (.iconst 3, 1) := by decide +kernel
theorem dX6_init_100 : decode cX6_init 100 = .ok (.bipush 63, 2) := by decide +kernel
theorem dX6_init_102 : decode cX6_init 102 = .ok (.iastore, 1) := by decide +kernel
theorem dX6_init_103 : decode cX6_init 103 = .ok (.dup, 1) := by decide +kernel
theorem dX6_init_104 : decode cX6_init 104 = .ok (.iconst 4, 1) := by decide +kernel
theorem dX6_init_105 : decode cX6_init 105 = .ok (.bipush 63, 2) := by decide +kernel
theorem dX6_init_107 : decode cX6_init 107 = .ok (.iastore, 1) := by decide +kernel
theorem dX6_init_108 : decode cX6_init 108 = .ok (.dup, 1) := by decide +kernel
theorem dX6_init_109 : decode cX6_init 109 = .ok (.iconst 5, 1) := by decide +kernel
theorem dX6_init_110 : decode cX6_init 110 = .ok (.bipush 63, 2) := by decide +kernel
theorem dX6_init_112 : decode cX6_init 112 = .ok (.iastore, 1) := by decide +kernel
theorem dX6_init_113 : decode cX6_init 113 = .ok (.putfield 34, 3) := by decide +kernel
theorem dX6_init_116 : decode cX6_init 116 = .ok (.aload_n 0, 1) := by decide +kernel
theorem dX6_init_117 : decode cX6_init 117 = .ok (.bipush 48, 2) := by decide +kernel
theorem dX6_init_119 : decode cX6_init 119 = .ok (.newarray .int, 2) := by decide +kernel
theorem dX6_init_121 : decode cX6_init 121 = .ok (.putfield 37, 3) := by decide +kernel
theorem dX6_init_124 : decode cX6_init 124 = .ok (.aload_n 0, 1) := by decide +kernel
theorem dX6_init_125 : decode cX6_init 125 = .ok (.bipush 48, 2) := by decide +kernel
theorem dX6_init_127 : decode cX6_init 127 = .ok (.newarray .int, 2) := by decide +kernel
theorem dX6_init_129 : decode cX6_init 129 = .ok (.putfield 40, 3) := by decide +kernel
theorem dX6_init_132 : decode cX6_init 132 = .ok (.aload_n 0, 1) := by decide +kernel
theorem dX6_init_133 : decode cX6_init 133 = .ok (.bipush 48, 2) := by decide +kernel
theorem dX6_init_135 : decode cX6_init 135 = .ok (.newarray .int, 2) := by decide +kernel
theorem dX6_init_137 : decode cX6_init 137 = .ok (.putfield 43, 3) := by decide +kernel
theorem dX6_init_140 : decode cX6_init 140 = .ok (.aload_n 0, 1) := by decide +kernel
theorem dX6_init_141 : decode cX6_init 141 = .ok (.bipush 48, 2) := by decide +kernel
theorem dX6_init_143 : decode cX6_init 143 = .ok (.newarray .int, 2) := by decide +kernel
theorem dX6_init_145 : decode cX6_init 145 = .ok (.putfield 46, 3) := by decide +kernel
theorem dX6_init_148 : decode cX6_init 148 = .ok (.aload_n 0, 1) := by decide +kernel
theorem dX6_init_149 : decode cX6_init 149 = .ok (.bipush 48, 2) := by decide +kernel
theorem dX6_init_151 : decode cX6_init 151 = .ok (.newarray .int, 2) := by decide +kernel
theorem dX6_init_153 : decode cX6_init 153 = .ok (.putfield 49, 3) := by decide +kernel
theorem dX6_init_156 : decode cX6_init 156 = .ok (.aload_n 0, 1) := by decide +kernel
theorem dX6_init_157 : decode cX6_init 157 = .ok (.bipush 8, 2) := by decide +kernel
theorem dX6_init_159 : decode cX6_init 159 = .ok (.newarray .int, 2) := by decide +kernel
theorem dX6_init_161 : decode cX6_init 161 = .ok (.putfield 52, 3) := by decide +kernel
theorem dX6_init_164 : decode cX6_init 164 = .ok (.aload_n 0, 1) := by decide +kernel
theorem dX6_init_165 : decode cX6_init 165 = .ok (.bipush 48, 2) := by decide +kernel
theorem dX6_init_167 : decode cX6_init 167 = .ok (.newarray .int, 2) := by decide +kernel
theorem dX6_init_169 : decode cX6_init 169 = .ok (.putfield 55, 3) := by decide +kernel
theorem dX6_init_172 : decode cX6_init 172 = .ok (.aload_n 0, 1) := by decide +kernel
theorem dX6_init_173 : decode cX6_init 173 = .ok (.bipush 48, 2) := by decide +kernel
theorem dX6_init_175 : decode cX6_init 175 = .ok (.newarray .int, 2) := by decide +kernel
theorem dX6_init_177 : decode cX6_init 177 = .ok (.putfield 58, 3) := by decide +kernel
theorem dX6_init_180 : decode cX6_init 180 = .ok (.aload_n 0, 1) := by decide +kernel
theorem dX6_init_181 : decode cX6_init 181 = .ok (.sipush 16807, 3) := by decide +kernel
theorem dX6_init_184 : decode cX6_init 184 = .ok (.newarray .int, 2) := by decide +kernel
theorem dX6_init_186 : decode cX6_init 186 = .ok (.putfield 61, 3) := by decide +kernel
theorem dX6_init_189 : decode cX6_init 189 = .ok (.return_, 1) := by decide +kernel
theorem dX6_thrown_0 : decode cX6_thrown 0 = .ok (.aload_n 0, 1) := by decide +kernel
theorem dX6_thrown_1 : decode cX6_thrown 1 = .ok (.getfield 64, 3) := by decide +kernel
theorem dX6_thrown_4 : decode cX6_thrown 4 = .ok (.ireturn, 1) := by decide +kernel
theorem dX6_no_0 : decode cX6_no 0 = .ok (.aload_n 0, 1) := by decide +kernel
theorem dX6_no_1 : decode cX6_no 1 = .ok (.iload_n 1, 1) := by decide +kernel
theorem dX6_no_2 : decode cX6_no 2 = .ok (.putfield 64, 3) := by decide +kernel
theorem dX6_no_5 : decode cX6_no 5 = .ok (.iconst 0, 1) := by decide +kernel
theorem dX6_no_6 : decode cX6_no 6 = .ok (.ireturn, 1) := by decide +kernel
theorem dX6_isIn_0 : decode cX6_isIn 0 = .ok (.iload_n 0, 1) := by decide +kernel
theorem dX6_isIn_1 : decode cX6_isIn 1 = .ok (.iload_n 1, 1) := by decide +kernel
theorem dX6_isIn_2 : decode cX6_isIn 2 = .ok (.if_icmp .lt 12, 3) := by decide +kernel
theorem dX6_isIn_5 : decode cX6_isIn 5 = .ok (.iload_n 0, 1) := by decide +kernel
theorem dX6_isIn_6 : decode cX6_isIn 6 = .ok (.iload_n 2, 1) := by decide +kernel
theorem dX6_isIn_7 : decode cX6_isIn 7 = .ok (.if_icmp .gt 7, 3) := by decide +kernel
theorem dX6_isIn_10 : decode cX6_isIn 10 = .ok (.iconst 1, 1) := by decide +kernel
theorem dX6_isIn_11 : decode cX6_isIn 11 = .ok (.goto 4, 3) := by decide +kernel
theorem dX6_isIn_14 : decode cX6_isIn 14 = .ok (.iconst 0, 1) := by decide +kernel
theorem dX6_isIn_15 : decode cX6_isIn 15 = .ok (.ireturn, 1) := by decide +kernel
theorem dX6_isByte_0 : decode cX6_isByte 0 = .ok (.iload_n 0, 1) := by decide +kernel
theorem dX6_isByte_1 : decode cX6_isByte 1 = .ok (.bipush 32, 2) := by decide +kernel
theorem dX6_isByte_3 : decode cX6_isByte 3 = .ok (.bipush 126, 2) := by decide +kernel
theorem dX6_isByte_5 : decode cX6_isByte 5 = .ok (.invokestatic 67, 3) := by decide +kernel
theorem dX6_isByte_8 : decode cX6_isByte 8 = .ok (.ireturn, 1) := by decide +kernel
theorem dX6_feed_0 : decode cX6_feed 0 = .ok (.aload_n 0, 1) := by decide +kernel
theorem dX6_feed_1 : decode cX6_feed 1 = .ok (.iconst 0, 1) := by decide +kernel
theorem dX6_feed_2 : decode cX6_feed 2 = .ok (.putfield 64, 3) := by decide +kernel
theorem dX6_feed_5 : decode cX6_feed 5 = .ok (.iconst 0, 1) := by decide +kernel
theorem dX6_feed_6 : decode cX6_feed 6 = .ok (.istore_n 3, 1) := by decide +kernel
theorem dX6_feed_7 : decode cX6_feed 7 = .ok (.bipush 56, 2) := by decide +kernel
theorem dX6_feed_9 : decode cX6_feed 9 = .ok (.istore 4, 2) := by decide +kernel
theorem dX6_feed_11 : decode cX6_feed 11 = .ok (.iload 4, 2) := by decide +kernel
theorem dX6_feed_13 : decode cX6_feed 13 = .ok (.ifCond .lt 52, 3) := by decide +kernel
theorem dX6_feed_16 : decode cX6_feed 16 = .ok (.lload_n 1, 1) := by decide +kernel
theorem dX6_feed_17 : decode cX6_feed 17 = .ok (.iload 4, 2) := by decide +kernel
theorem dX6_feed_19 : decode cX6_feed 19 = .ok (.lshr, 1) := by decide +kernel
theorem dX6_feed_20 : decode cX6_feed 20 = .ok (.ldc2_w 71, 3) := by decide +kernel
theorem dX6_feed_23 : decode cX6_feed 23 = .ok (.land, 1) := by decide +kernel
theorem dX6_feed_24 : decode cX6_feed 24 = .ok (.l2i, 1) := by decide +kernel
theorem dX6_feed_25 : decode cX6_feed 25 = .ok (.istore 5, 2) := by decide +kernel
theorem dX6_feed_27 : decode cX6_feed 27 = .ok (.iload 5, 2) := by decide +kernel
theorem dX6_feed_29 : decode cX6_feed 29 = .ok (.ifCond .eq 17, 3) := by decide +kernel
theorem dX6_feed_32 : decode cX6_feed 32 = .ok (.iload 5, 2) := by decide +kernel
theorem dX6_feed_34 : decode cX6_feed 34 = .ok (.invokestatic 73, 3) := by decide +kernel
theorem dX6_feed_37 : decode cX6_feed 37 = .ok (.ifCond .ne 9, 3) := by decide +kernel
theorem dX6_feed_40 : decode cX6_feed 40 = .ok (.aload_n 0, 1) := by decide +kernel
theorem dX6_feed_41 : decode cX6_feed 41 = .ok (.iconst 1, 1) := by decide +kernel
theorem dX6_feed_42 : decode cX6_feed 42 = .ok (.invokevirtual 77, 3) := by decide +kernel
theorem dX6_feed_45 : decode cX6_feed 45 = .ok (.ireturn, 1) := by decide +kernel
theorem dX6_feed_46 : decode cX6_feed 46 = .ok (.iload_n 3, 1) := by decide +kernel
theorem dX6_feed_47 : decode cX6_feed 47 = .ok (.iload 5, 2) := by decide +kernel
theorem dX6_feed_49 : decode cX6_feed 49 = .ok (.ifCond .ne 7, 3) := by decide +kernel
theorem dX6_feed_52 : decode cX6_feed 52 = .ok (.iconst 0, 1) := by decide +kernel
theorem dX6_feed_53 : decode cX6_feed 53 = .ok (.goto 4, 3) := by decide +kernel
theorem dX6_feed_56 : decode cX6_feed 56 = .ok (.iconst 1, 1) := by decide +kernel
theorem dX6_feed_57 : decode cX6_feed 57 = .ok (.iadd, 1) := by decide +kernel
theorem dX6_feed_58 : decode cX6_feed 58 = .ok (.istore_n 3, 1) := by decide +kernel
theorem dX6_feed_59 : decode cX6_feed 59 = .ok (.iinc 4 (-8), 3) := by decide +kernel
theorem dX6_feed_62 : decode cX6_feed 62 = .ok (.goto (-51), 3) := by decide +kernel
theorem dX6_feed_65 : decode cX6_feed 65 = .ok (.aload_n 0, 1) := by decide +kernel
theorem dX6_feed_66 : decode cX6_feed 66 = .ok (.getfield 81, 3) := by decide +kernel
theorem dX6_feed_69 : decode cX6_feed 69 = .ok (.iload_n 3, 1) := by decide +kernel
theorem dX6_feed_70 : decode cX6_feed 70 = .ok (.iadd, 1) := by decide +kernel
theorem dX6_feed_71 : decode cX6_feed 71 = .ok (.bipush 48, 2) := by decide +kernel
theorem dX6_feed_73 : decode cX6_feed 73 = .ok (.if_icmp .le 9, 3) := by decide +kernel
theorem dX6_feed_76 : decode cX6_feed 76 = .ok (.aload_n 0, 1) := by decide +kernel
theorem dX6_feed_77 : decode cX6_feed 77 = .ok (.iconst 2, 1) := by decide +kernel
theorem dX6_feed_78 : decode cX6_feed 78 = .ok (.invokevirtual 77, 3) := by decide +kernel
theorem dX6_feed_81 : decode cX6_feed 81 = .ok (.ireturn, 1) := by decide +kernel
theorem dX6_feed_82 : decode cX6_feed 82 = .ok (.bipush 56, 2) := by decide +kernel
theorem dX6_feed_84 : decode cX6_feed 84 = .ok (.istore 4, 2) := by decide +kernel
theorem dX6_feed_86 : decode cX6_feed 86 = .ok (.iload 4, 2) := by decide +kernel
theorem dX6_feed_88 : decode cX6_feed 88 = .ok (.ifCond .lt 49, 3) := by decide +kernel
theorem dX6_feed_91 : decode cX6_feed 91 = .ok (.lload_n 1, 1) := by decide +kernel
theorem dX6_feed_92 : decode cX6_feed 92 = .ok (.iload 4, 2) := by decide +kernel
theorem dX6_feed_94 : decode cX6_feed 94 = .ok (.lshr, 1) := by decide +kernel
theorem dX6_feed_95 : decode cX6_feed 95 = .ok (.ldc2_w 71, 3) := by decide +kernel
theorem dX6_feed_98 : decode cX6_feed 98 = .ok (.land, 1) := by decide +kernel
theorem dX6_feed_99 : decode cX6_feed 99 = .ok (.l2i, 1) := by decide +kernel
theorem dX6_feed_100 : decode cX6_feed 100 = .ok (.istore 5, 2) := by decide +kernel
theorem dX6_feed_102 : decode cX6_feed 102 = .ok (.iload 5, 2) := by decide +kernel
theorem dX6_feed_104 : decode cX6_feed 104 = .ok (.ifCond .ne 6, 3) := by decide +kernel
theorem dX6_feed_107 : decode cX6_feed 107 = .ok (.goto 24, 3) := by decide +kernel
theorem dX6_feed_110 : decode cX6_feed 110 = .ok (.aload_n 0, 1) := by decide +kernel
theorem dX6_feed_111 : decode cX6_feed 111 = .ok (.getfield 9, 3) := by decide +kernel
theorem dX6_feed_114 : decode cX6_feed 114 = .ok (.aload_n 0, 1) := by decide +kernel
theorem dX6_feed_115 : decode cX6_feed 115 = .ok (.getfield 81, 3) := by decide +kernel
theorem dX6_feed_118 : decode cX6_feed 118 = .ok (.iload 5, 2) := by decide +kernel
theorem dX6_feed_120 : decode cX6_feed 120 = .ok (.iastore, 1) := by decide +kernel
theorem dX6_feed_121 : decode cX6_feed 121 = .ok (.aload_n 0, 1) := by decide +kernel
theorem dX6_feed_122 : decode cX6_feed 122 = .ok (.dup, 1) := by decide +kernel
theorem dX6_feed_123 : decode cX6_feed 123 = .ok (.getfield 81, 3) := by decide +kernel
theorem dX6_feed_126 : decode cX6_feed 126 = .ok (.iconst 1, 1) := by decide +kernel
theorem dX6_feed_127 : decode cX6_feed 127 = .ok (.iadd, 1) := by decide +kernel
theorem dX6_feed_128 : decode cX6_feed 128 = .ok (.putfield 81, 3) := by decide +kernel
theorem dX6_feed_131 : decode cX6_feed 131 = .ok (.iinc 4 (-8), 3) := by decide +kernel
theorem dX6_feed_134 : decode cX6_feed 134 = .ok (.goto (-48), 3) := by decide +kernel
theorem dX6_feed_137 : decode cX6_feed 137 = .ok (.aload_n 0, 1) := by decide +kernel
theorem dX6_feed_138 : decode cX6_feed 138 = .ok (.iconst 0, 1) := by decide +kernel
theorem dX6_feed_139 : decode cX6_feed 139 = .ok (.putfield 84, 3) := by decide +kernel
theorem dX6_feed_142 : decode cX6_feed 142 = .ok (.aload_n 0, 1) := by decide +kernel
theorem dX6_feed_143 : decode cX6_feed 143 = .ok (.getfield 81, 3) := by decide +kernel
theorem dX6_feed_146 : decode cX6_feed 146 = .ok (.ireturn, 1) := by decide +kernel
theorem dX6_cut_0 : decode cX6_cut 0 = .ok (.aload_n 0, 1) := by decide +kernel
theorem dX6_cut_1 : decode cX6_cut 1 = .ok (.iconst 0, 1) := by decide +kernel
theorem dX6_cut_2 : decode cX6_cut 2 = .ok (.putfield 64, 3) := by decide +kernel
theorem dX6_cut_5 : decode cX6_cut 5 = .ok (.iload_n 1, 1) := by decide +kernel
theorem dX6_cut_6 : decode cX6_cut 6 = .ok (.iconst 0, 1) := by decide +kernel
theorem dX6_cut_7 : decode cX6_cut 7 = .ok (.aload_n 0, 1) := by decide +kernel
theorem dX6_cut_8 : decode cX6_cut 8 = .ok (.getfield 81, 3) := by decide +kernel
theorem dX6_cut_11 : decode cX6_cut 11 = .ok (.invokestatic 67, 3) := by decide +kernel
theorem dX6_cut_14 : decode cX6_cut 14 = .ok (.ifCond .ne 9, 3) := by decide +kernel
theorem dX6_cut_17 : decode cX6_cut 17 = .ok (.aload_n 0, 1) := by decide +kernel
theorem dX6_cut_18 : decode cX6_cut 18 = .ok (.iconst 1, 1) := by decide +kernel
theorem dX6_cut_19 : decode cX6_cut 19 = .ok (.invokevirtual 77, 3) := by decide +kernel
theorem dX6_cut_22 : decode cX6_cut 22 = .ok (.ireturn, 1) := by decide +kernel
theorem dX6_cut_23 : decode cX6_cut 23 = .ok (.aload_n 0, 1) := by decide +kernel
theorem dX6_cut_24 : decode cX6_cut 24 = .ok (.dup, 1) := by decide +kernel
theorem dX6_cut_25 : decode cX6_cut 25 = .ok (.getfield 81, 3) := by decide +kernel
theorem dX6_cut_28 : decode cX6_cut 28 = .ok (.iload_n 1, 1) := by decide +kernel
theorem dX6_cut_29 : decode cX6_cut 29 = .ok (.isub, 1) := by decide +kernel
theorem dX6_cut_30 : decode cX6_cut 30 = .ok (.putfield 81, 3) := by decide +kernel
theorem dX6_cut_33 : decode cX6_cut 33 = .ok (.aload_n 0, 1) := by decide +kernel
theorem dX6_cut_34 : decode cX6_cut 34 = .ok (.iconst 0, 1) := by decide +kernel
theorem dX6_cut_35 : decode cX6_cut 35 = .ok (.putfield 84, 3) := by decide +kernel
theorem dX6_cut_38 : decode cX6_cut 38 = .ok (.aload_n 0, 1) := by decide +kernel
theorem dX6_cut_39 : decode cX6_cut 39 = .ok (.getfield 81, 3) := by decide +kernel
theorem dX6_cut_42 : decode cX6_cut 42 = .ok (.ireturn, 1) := by decide +kernel
theorem dX6_set_0 : decode cX6_set 0 = .ok (.aload_n 0, 1) := by decide +kernel
theorem dX6_set_1 : decode cX6_set 1 = .ok (.iconst 0, 1) := by decide +kernel
theorem dX6_set_2 : decode cX6_set 2 = .ok (.putfield 64, 3) := by decide +kernel
theorem dX6_set_5 : decode cX6_set 5 = .ok (.iload_n 1, 1) := by decide +kernel
theorem dX6_set_6 : decode cX6_set 6 = .ok (.iconst 0, 1) := by decide +kernel
theorem dX6_set_7 : decode cX6_set 7 = .ok (.aload_n 0, 1) := by decide +kernel
theorem dX6_set_8 : decode cX6_set 8 = .ok (.getfield 81, 3) := by decide +kernel
theorem dX6_set_11 : decode cX6_set 11 = .ok (.iconst 1, 1) := by decide +kernel
theorem dX6_set_12 : decode cX6_set 12 = .ok (.isub, 1) := by decide +kernel
theorem dX6_set_13 : decode cX6_set 13 = .ok (.invokestatic 67, 3) := by decide +kernel
theorem dX6_set_16 : decode cX6_set 16 = .ok (.ifCond .ne 9, 3) := by decide +kernel
theorem dX6_set_19 : decode cX6_set 19 = .ok (.aload_n 0, 1) := by decide +kernel
theorem dX6_set_20 : decode cX6_set 20 = .ok (.iconst 1, 1) := by decide +kernel
theorem dX6_set_21 : decode cX6_set 21 = .ok (.invokevirtual 77, 3) := by decide +kernel
theorem dX6_set_24 : decode cX6_set 24 = .ok (.ireturn, 1) := by decide +kernel
theorem dX6_set_25 : decode cX6_set 25 = .ok (.iload_n 2, 1) := by decide +kernel
theorem dX6_set_26 : decode cX6_set 26 = .ok (.invokestatic 73, 3) := by decide +kernel
theorem dX6_set_29 : decode cX6_set 29 = .ok (.ifCond .ne 9, 3) := by decide +kernel
theorem dX6_set_32 : decode cX6_set 32 = .ok (.aload_n 0, 1) := by decide +kernel
theorem dX6_set_33 : decode cX6_set 33 = .ok (.iconst 2, 1) := by decide +kernel
theorem dX6_set_34 : decode cX6_set 34 = .ok (.invokevirtual 77, 3) := by decide +kernel
theorem dX6_set_37 : decode cX6_set 37 = .ok (.ireturn, 1) := by decide +kernel
theorem dX6_set_38 : decode cX6_set 38 = .ok (.aload_n 0, 1) := by decide +kernel
theorem dX6_set_39 : decode cX6_set 39 = .ok (.getfield 9, 3) := by decide +kernel
theorem dX6_set_42 : decode cX6_set 42 = .ok (.iload_n 1, 1) := by decide +kernel
theorem dX6_set_43 : decode cX6_set 43 = .ok (.iaload, 1) := by decide +kernel
theorem dX6_set_44 : decode cX6_set 44 = .ok (.istore_n 3, 1) := by decide +kernel
theorem dX6_set_45 : decode cX6_set 45 = .ok (.aload_n 0, 1) := by decide +kernel
theorem dX6_set_46 : decode cX6_set 46 = .ok (.getfield 9, 3) := by decide +kernel
theorem dX6_set_49 : decode cX6_set 49 = .ok (.iload_n 1, 1) := by decide +kernel
theorem dX6_set_50 : decode cX6_set 50 = .ok (.iload_n 2, 1) := by decide +kernel
theorem dX6_set_51 : decode cX6_set 51 = .ok (.iastore, 1) := by decide +kernel
theorem dX6_set_52 : decode cX6_set 52 = .ok (.aload_n 0, 1) := by decide +kernel
theorem dX6_set_53 : decode cX6_set 53 = .ok (.iconst 0, 1) := by decide +kernel
theorem dX6_set_54 : decode cX6_set 54 = .ok (.putfield 84, 3) := by decide +kernel
theorem dX6_set_57 : decode cX6_set 57 = .ok (.iload_n 3, 1) := by decide +kernel
theorem dX6_set_58 : decode cX6_set 58 = .ok (.ireturn, 1) := by decide +kernel
theorem dX6_size_0 : decode cX6_size 0 = .ok (.aload_n 0, 1) := by decide +kernel
theorem dX6_size_1 : decode cX6_size 1 = .ok (.iconst 0, 1) := by decide +kernel
theorem dX6_size_2 : decode cX6_size 2 = .ok (.putfield 64, 3) := by decide +kernel
theorem dX6_size_5 : decode cX6_size 5 = .ok (.aload_n 0, 1) := by decide +kernel
theorem dX6_size_6 : decode cX6_size 6 = .ok (.getfield 81, 3) := by decide +kernel
theorem dX6_size_9 : decode cX6_size 9 = .ok (.ireturn, 1) := by decide +kernel
theorem dX6_byteAt_0 : decode cX6_byteAt 0 = .ok (.aload_n 0, 1) := by decide +kernel
theorem dX6_byteAt_1 : decode cX6_byteAt 1 = .ok (.iconst 0, 1) := by decide +kernel
theorem dX6_byteAt_2 : decode cX6_byteAt 2 = .ok (.putfield 64, 3) := by decide +kernel
theorem dX6_byteAt_5 : decode cX6_byteAt 5 = .ok (.iload_n 1, 1) := by decide +kernel
theorem dX6_byteAt_6 : decode cX6_byteAt 6 = .ok (.iconst 0, 1) := by decide +kernel
theorem dX6_byteAt_7 : decode cX6_byteAt 7 = .ok (.aload_n 0, 1) := by decide +kernel
theorem dX6_byteAt_8 : decode cX6_byteAt 8 = .ok (.getfield 81, 3) := by decide +kernel
theorem dX6_byteAt_11 : decode cX6_byteAt 11 = .ok (.iconst 1, 1) := by decide +kernel
theorem dX6_byteAt_12 : decode cX6_byteAt 12 = .ok (.isub, 1) := by decide +kernel
theorem dX6_byteAt_13 : decode cX6_byteAt 13 = .ok (.invokestatic 67, 3) := by decide +kernel
theorem dX6_byteAt_16 : decode cX6_byteAt 16 = .ok (.ifCond .eq 12, 3) := by decide +kernel
theorem dX6_byteAt_19 : decode cX6_byteAt 19 = .ok (.aload_n 0, 1) := by decide +kernel
theorem dX6_byteAt_20 : decode cX6_byteAt 20 = .ok (.getfield 9, 3) := by decide +kernel
theorem dX6_byteAt_23 : decode cX6_byteAt 23 = .ok (.iload_n 1, 1) := by decide +kernel
theorem dX6_byteAt_24 : decode cX6_byteAt 24 = .ok (.iaload, 1) := by decide +kernel
theorem dX6_byteAt_25 : decode cX6_byteAt 25 = .ok (.goto 8, 3) := by decide +kernel
theorem dX6_byteAt_28 : decode cX6_byteAt 28 = .ok (.aload_n 0, 1) := by decide +kernel
theorem dX6_byteAt_29 : decode cX6_byteAt 29 = .ok (.iconst 1, 1) := by decide +kernel
theorem dX6_byteAt_30 : decode cX6_byteAt 30 = .ok (.invokevirtual 77, 3) := by decide +kernel
theorem dX6_byteAt_33 : decode cX6_byteAt 33 = .ok (.ireturn, 1) := by decide +kernel
theorem dX6_setEscape_0 : decode cX6_setEscape 0 = .ok (.aload_n 0, 1) := by decide +kernel
theorem dX6_setEscape_1 : decode cX6_setEscape 1 = .ok (.iconst 0, 1) := by decide +kernel
theorem dX6_setEscape_2 : decode cX6_setEscape 2 = .ok (.putfield 64, 3) := by decide +kernel
theorem dX6_setEscape_5 : decode cX6_setEscape 5 = .ok (.iload_n 1, 1) := by decide +kernel
theorem dX6_setEscape_6 : decode cX6_setEscape 6 = .ok (.iconst (-1), 1) := by decide +kernel
theorem dX6_setEscape_7 : decode cX6_setEscape 7 = .ok (.if_icmp .eq 16, 3) := by decide +kernel
theorem dX6_setEscape_10 : decode cX6_setEscape 10 = .ok (.iload_n 1, 1) := by decide +kernel
theorem dX6_setEscape_11 : decode cX6_setEscape 11 = .ok (.invokestatic 73, 3) := by decide +kernel
theorem dX6_setEscape_14 : decode cX6_setEscape 14 = .ok (.ifCond .ne 9, 3) := by decide +kernel
theorem dX6_setEscape_17 : decode cX6_setEscape 17 = .ok (.aload_n 0, 1) := by decide +kernel
theorem dX6_setEscape_18 : decode cX6_setEscape 18 = .ok (.iconst 1, 1) := by decide +kernel
theorem dX6_setEscape_19 : decode cX6_setEscape 19 = .ok (.invokevirtual 77, 3) := by decide +kernel
theorem dX6_setEscape_22 : decode cX6_setEscape 22 = .ok (.ireturn, 1) := by decide +kernel
theorem dX6_setEscape_23 : decode cX6_setEscape 23 = .ok (.aload_n 0, 1) := by decide +kernel
theorem dX6_setEscape_24 : decode cX6_setEscape 24 = .ok (.getfield 13, 3) := by decide +kernel
theorem dX6_setEscape_27 : decode cX6_setEscape 27 = .ok (.istore_n 2, 1) := by decide +kernel
theorem dX6_setEscape_28 : decode cX6_setEscape 28 = .ok (.aload_n 0, 1) := by decide +kernel
theorem dX6_setEscape_29 : decode cX6_setEscape 29 = .ok (.iload_n 1, 1) := by decide +kernel
theorem dX6_setEscape_30 : decode cX6_setEscape 30 = .ok (.putfield 13, 3) := by decide +kernel
theorem dX6_setEscape_33 : decode cX6_setEscape 33 = .ok (.aload_n 0, 1) := by decide +kernel
theorem dX6_setEscape_34 : decode cX6_setEscape 34 = .ok (.iconst 0, 1) := by decide +kernel
theorem dX6_setEscape_35 : decode cX6_setEscape 35 = .ok (.putfield 84, 3) := by decide +kernel
theorem dX6_setEscape_38 : decode cX6_setEscape 38 = .ok (.iload_n 2, 1) := by decide +kernel
theorem dX6_setEscape_39 : decode cX6_setEscape 39 = .ok (.ireturn, 1) := by decide +kernel
theorem dX6_isComplete_0 : decode cX6_isComplete 0 = .ok (.aload_n 0, 1) := by decide +kernel
theorem dX6_isComplete_1 : decode cX6_isComplete 1 = .ok (.getfield 21, 3) := by decide +kernel
theorem dX6_isComplete_4 : decode cX6_isComplete 4 = .ok (.iload_n 1, 1) := by decide +kernel
theorem dX6_isComplete_5 : decode cX6_isComplete 5 = .ok (.iaload, 1) := by decide +kernel
theorem dX6_isComplete_6 : decode cX6_isComplete 6 = .ok (.ifCond .le 19, 3) := by decide +kernel
theorem dX6_isComplete_9 : decode cX6_isComplete 9 = .ok (.aload_n 0, 1) := by decide +kernel
theorem dX6_isComplete_10 : decode cX6_isComplete 10 = .ok (.getfield 21, 3) := by decide +kernel
theorem dX6_isComplete_13 : decode cX6_isComplete 13 = .ok (.bipush 6, 2) := by decide +kernel
theorem dX6_isComplete_15 : decode cX6_isComplete 15 = .ok (.iload_n 1, 1) := by decide +kernel
theorem dX6_isComplete_16 : decode cX6_isComplete 16 = .ok (.iadd, 1) := by decide +kernel
theorem dX6_isComplete_17 : decode cX6_isComplete 17 = .ok (.iaload, 1) := by decide +kernel
theorem dX6_isComplete_18 : decode cX6_isComplete 18 = .ok (.ifCond .le 7, 3) := by decide +kernel
theorem dX6_isComplete_21 : decode cX6_isComplete 21 = .ok (.iconst 1, 1) := by decide +kernel
theorem dX6_isComplete_22 : decode cX6_isComplete 22 = .ok (.goto 4, 3) := by decide +kernel
theorem dX6_isComplete_25 : decode cX6_isComplete 25 = .ok (.iconst 0, 1) := by decide +kernel
theorem dX6_isComplete_26 : decode cX6_isComplete 26 = .ok (.ireturn, 1) := by decide +kernel
theorem dX6_setWord_0 : decode cX6_setWord 0 = .ok (.aload_n 0, 1) := by decide +kernel
theorem dX6_setWord_1 : decode cX6_setWord 1 = .ok (.iload_n 1, 1) := by decide +kernel
theorem dX6_setWord_2 : decode cX6_setWord 2 = .ok (.iconst 0, 1) := by decide +kernel
theorem dX6_setWord_3 : decode cX6_setWord 3 = .ok (.iconst 5, 1) := by decide +kernel
theorem dX6_setWord_4 : decode cX6_setWord 4 = .ok (.invokestatic 67, 3) := by decide +kernel
theorem dX6_setWord_7 : decode cX6_setWord 7 = .ok (.ifCond .ne 7, 3) := by decide +kernel
theorem dX6_setWord_10 : decode cX6_setWord 10 = .ok (.iconst 1, 1) := by decide +kernel
theorem dX6_setWord_11 : decode cX6_setWord 11 = .ok (.goto 18, 3) := by decide +kernel
theorem dX6_setWord_14 : decode cX6_setWord 14 = .ok (.iload 4, 2) := by decide +kernel
theorem dX6_setWord_16 : decode cX6_setWord 16 = .ok (.iconst 0, 1) := by decide +kernel
theorem dX6_setWord_17 : decode cX6_setWord 17 = .ok (.iconst 3, 1) := by decide +kernel
theorem dX6_setWord_18 : decode cX6_setWord 18 = .ok (.invokestatic 67, 3) := by decide +kernel
theorem dX6_setWord_21 : decode cX6_setWord 21 = .ok (.ifCond .ne 7, 3) := by decide +kernel
theorem dX6_setWord_24 : decode cX6_setWord 24 = .ok (.iconst 2, 1) := by decide +kernel
theorem dX6_setWord_25 : decode cX6_setWord 25 = .ok (.goto 4, 3) := by decide +kernel
theorem dX6_setWord_28 : decode cX6_setWord 28 = .ok (.iconst 0, 1) := by decide +kernel
theorem dX6_setWord_29 : decode cX6_setWord 29 = .ok (.putfield 64, 3) := by decide +kernel
theorem dX6_setWord_32 : decode cX6_setWord 32 = .ok (.iconst 0, 1) := by decide +kernel
theorem dX6_setWord_33 : decode cX6_setWord 33 = .ok (.istore 5, 2) := by decide +kernel
theorem dX6_setWord_35 : decode cX6_setWord 35 = .ok (.iload 5, 2) := by decide +kernel
theorem dX6_setWord_37 : decode cX6_setWord 37 = .ok (.iload 4, 2) := by decide +kernel
theorem dX6_setWord_39 : decode cX6_setWord 39 = .ok (.if_icmp .ge 38, 3) := by decide +kernel
theorem dX6_setWord_42 : decode cX6_setWord 42 = .ok (.aload_n 0, 1) := by decide +kernel
theorem dX6_setWord_43 : decode cX6_setWord 43 = .ok (.getfield 64, 3) := by decide +kernel
theorem dX6_setWord_46 : decode cX6_setWord 46 = .ok (.ifCond .ne 31, 3) := by decide +kernel
theorem dX6_setWord_49 : decode cX6_setWord 49 = .ok (.iload_n 3, 1) := by decide +kernel
theorem dX6_setWord_50 : decode cX6_setWord 50 = .ok (.bipush 8, 2) := by decide +kernel
theorem dX6_setWord_52 : decode cX6_setWord 52 = .ok (.iload 5, 2) := by decide +kernel
theorem dX6_setWord_54 : decode cX6_setWord 54 = .ok (.imul, 1) := by decide +kernel
theorem dX6_setWord_55 : decode cX6_setWord 55 = .ok (.ishr, 1) := by decide +kernel
theorem dX6_setWord_56 : decode cX6_setWord 56 = .ok (.sipush 255, 3) := by decide +kernel
theorem dX6_setWord_59 : decode cX6_setWord 59 = .ok (.iand, 1) := by decide +kernel
theorem dX6_setWord_60 : decode cX6_setWord 60 = .ok (.invokestatic 73, 3) := by decide +kernel
theorem dX6_setWord_63 : decode cX6_setWord 63 = .ok (.ifCond .ne 8, 3) := by decide +kernel
theorem dX6_setWord_66 : decode cX6_setWord 66 = .ok (.aload_n 0, 1) := by decide +kernel
theorem dX6_setWord_67 : decode cX6_setWord 67 = .ok (.iconst 2, 1) := by decide +kernel
theorem dX6_setWord_68 : decode cX6_setWord 68 = .ok (.putfield 64, 3) := by decide +kernel
theorem dX6_setWord_71 : decode cX6_setWord 71 = .ok (.iinc 5 1, 3) := by decide +kernel
theorem dX6_setWord_74 : decode cX6_setWord 74 = .ok (.goto (-39), 3) := by decide +kernel
theorem dX6_setWord_77 : decode cX6_setWord 77 = .ok (.aload_n 0, 1) := by decide +kernel
theorem dX6_setWord_78 : decode cX6_setWord 78 = .ok (.getfield 64, 3) := by decide +kernel
theorem dX6_setWord_81 : decode cX6_setWord 81 = .ok (.ifCond .eq 5, 3) := by decide +kernel
theorem dX6_setWord_84 : decode cX6_setWord 84 = .ok (.iconst 0, 1) := by decide +kernel
theorem dX6_setWord_85 : decode cX6_setWord 85 = .ok (.ireturn, 1) := by decide +kernel
theorem dX6_setWord_86 : decode cX6_setWord 86 = .ok (.iload_n 2, 1) := by decide +kernel
theorem dX6_setWord_87 : decode cX6_setWord 87 = .ok (.ifCond .eq 10, 3) := by decide +kernel
theorem dX6_setWord_90 : decode cX6_setWord 90 = .ok (.bipush 6, 2) := by decide +kernel
theorem dX6_setWord_92 : decode cX6_setWord 92 = .ok (.iload_n 1, 1) := by decide +kernel
theorem dX6_setWord_93 : decode cX6_setWord 93 = .ok (.iadd, 1) := by decide +kernel
theorem dX6_setWord_94 : decode cX6_setWord 94 = .ok (.goto 4, 3) := by decide +kernel
theorem dX6_setWord_97 : decode cX6_setWord 97 = .ok (.iload_n 1, 1) := by decide +kernel
theorem dX6_setWord_98 : decode cX6_setWord 98 = .ok (.istore 5, 2) := by decide +kernel
theorem dX6_setWord_100 : decode cX6_setWord 100 = .ok (.aload_n 0, 1) := by decide +kernel
theorem dX6_setWord_101 : decode cX6_setWord 101 = .ok (.getfield 21, 3) := by decide +kernel
theorem dX6_setWord_104 : decode cX6_setWord 104 = .ok (.iload 5, 2) := by decide +kernel
theorem dX6_setWord_106 : decode cX6_setWord 106 = .ok (.iload 4, 2) := by decide +kernel
theorem dX6_setWord_108 : decode cX6_setWord 108 = .ok (.iastore, 1) := by decide +kernel
theorem dX6_setWord_109 : decode cX6_setWord 109 = .ok (.iconst 0, 1) := by decide +kernel
theorem dX6_setWord_110 : decode cX6_setWord 110 = .ok (.istore 6, 2) := by decide +kernel
theorem dX6_setWord_112 : decode cX6_setWord 112 = .ok (.iload 6, 2) := by decide +kernel
theorem dX6_setWord_114 : decode cX6_setWord 114 = .ok (.iload 4, 2) := by decide +kernel
theorem dX6_setWord_116 : decode cX6_setWord 116 = .ok (.if_icmp .ge 37, 3) := by decide +kernel
theorem dX6_setWord_119 : decode cX6_setWord 119 = .ok (.aload_n 0, 1) := by decide +kernel
theorem dX6_setWord_120 : decode cX6_setWord 120 = .ok (.getfield 24, 3) := by decide +kernel
theorem dX6_setWord_123 : decode cX6_setWord 123 = .ok (.iconst 3, 1) := by decide +kernel
theorem dX6_setWord_124 : decode cX6_setWord 124 = .ok (.iload 5, 2) := by decide +kernel
theorem dX6_setWord_126 : decode cX6_setWord 126 = .ok (.imul, 1) := by decide +kernel
theorem dX6_setWord_127 : decode cX6_setWord 127 = .ok (.iload 6, 2) := by decide +kernel
theorem dX6_setWord_129 : decode cX6_setWord 129 = .ok (.iadd, 1) := by decide +kernel
theorem dX6_setWord_130 : decode cX6_setWord 130 = .ok (.iload_n 3, 1) := by decide +kernel
theorem dX6_setWord_131 : decode cX6_setWord 131 = .ok (.bipush 8, 2) := by decide +kernel
theorem dX6_setWord_133 : decode cX6_setWord 133 = .ok (.iload 4, 2) := by decide +kernel
theorem dX6_setWord_135 : decode cX6_setWord 135 = .ok (.iconst 1, 1) := by decide +kernel
theorem dX6_setWord_136 : decode cX6_setWord 136 = .ok (.isub, 1) := by decide +kernel
theorem dX6_setWord_137 : decode cX6_setWord 137 = .ok (.iload 6, 2) := by decide +kernel
theorem dX6_setWord_139 : decode cX6_setWord 139 = .ok (.isub, 1) := by decide +kernel
theorem dX6_setWord_140 : decode cX6_setWord 140 = .ok (.imul, 1) := by decide +kernel
theorem dX6_setWord_141 : decode cX6_setWord 141 = .ok (.ishr, 1) := by decide +kernel
theorem dX6_setWord_142 : decode cX6_setWord 142 = .ok (.sipush 255, 3) := by decide +kernel
theorem dX6_setWord_145 : decode cX6_setWord 145 = .ok (.iand, 1) := by decide +kernel
theorem dX6_setWord_146 : decode cX6_setWord 146 = .ok (.iastore, 1) := by decide +kernel
theorem dX6_setWord_147 : decode cX6_setWord 147 = .ok (.iinc 6 1, 3) := by decide +kernel
theorem dX6_setWord_150 : decode cX6_setWord 150 = .ok (.goto (-38), 3) := by decide +kernel
theorem dX6_setWord_153 : decode cX6_setWord 153 = .ok (.aload_n 0, 1) := by decide +kernel
theorem dX6_setWord_154 : decode cX6_setWord 154 = .ok (.iconst 0, 1) := by decide +kernel
theorem dX6_setWord_155 : decode cX6_setWord 155 = .ok (.putfield 84, 3) := by decide +kernel
theorem dX6_setWord_158 : decode cX6_setWord 158 = .ok (.aload_n 0, 1) := by decide +kernel
theorem dX6_setWord_159 : decode cX6_setWord 159 = .ok (.iload_n 1, 1) := by decide +kernel
theorem dX6_setWord_160 : decode cX6_setWord 160 = .ok (.invokevirtual 87, 3) := by decide +kernel
theorem dX6_setWord_163 : decode cX6_setWord 163 = .ok (.ireturn, 1) := by decide +kernel
theorem dX6_setKind_0 : decode cX6_setKind 0 = .ok (.aload_n 0, 1) := by decide +kernel
theorem dX6_setKind_1 : decode cX6_setKind 1 = .ok (.iconst 0, 1) := by decide +kernel
theorem dX6_setKind_2 : decode cX6_setKind 2 = .ok (.putfield 64, 3) := by decide +kernel
theorem dX6_setKind_5 : decode cX6_setKind 5 = .ok (.iload_n 1, 1) := by decide +kernel
theorem dX6_setKind_6 : decode cX6_setKind 6 = .ok (.iconst 0, 1) := by decide +kernel
theorem dX6_setKind_7 : decode cX6_setKind 7 = .ok (.iconst 5, 1) := by decide +kernel
theorem dX6_setKind_8 : decode cX6_setKind 8 = .ok (.invokestatic 67, 3) := by decide +kernel
theorem dX6_setKind_11 : decode cX6_setKind 11 = .ok (.ifCond .ne 9, 3) := by decide +kernel
theorem dX6_setKind_14 : decode cX6_setKind 14 = .ok (.aload_n 0, 1) := by decide +kernel
theorem dX6_setKind_15 : decode cX6_setKind 15 = .ok (.iconst 1, 1) := by decide +kernel
theorem dX6_setKind_16 : decode cX6_setKind 16 = .ok (.invokevirtual 77, 3) := by decide +kernel
theorem dX6_setKind_19 : decode cX6_setKind 19 = .ok (.ireturn, 1) := by decide +kernel
theorem dX6_setKind_20 : decode cX6_setKind 20 = .ok (.iload 4, 2) := by decide +kernel
theorem dX6_setKind_22 : decode cX6_setKind 22 = .ok (.iconst 0, 1) := by decide +kernel
theorem dX6_setKind_23 : decode cX6_setKind 23 = .ok (.bipush 63, 2) := by decide +kernel
theorem dX6_setKind_25 : decode cX6_setKind 25 = .ok (.invokestatic 67, 3) := by decide +kernel
theorem dX6_setKind_28 : decode cX6_setKind 28 = .ok (.ifCond .ne 9, 3) := by decide +kernel
theorem dX6_setKind_31 : decode cX6_setKind 31 = .ok (.aload_n 0, 1) := by decide +kernel
theorem dX6_setKind_32 : decode cX6_setKind 32 = .ok (.iconst 2, 1) := by decide +kernel
theorem dX6_setKind_33 : decode cX6_setKind 33 = .ok (.invokevirtual 77, 3) := by decide +kernel
theorem dX6_setKind_36 : decode cX6_setKind 36 = .ok (.ireturn, 1) := by decide +kernel
theorem dX6_setKind_37 : decode cX6_setKind 37 = .ok (.aload_n 0, 1) := by decide +kernel
theorem dX6_setKind_38 : decode cX6_setKind 38 = .ok (.getfield 34, 3) := by decide +kernel
theorem dX6_setKind_41 : decode cX6_setKind 41 = .ok (.iload_n 1, 1) := by decide +kernel
theorem dX6_setKind_42 : decode cX6_setKind 42 = .ok (.iaload, 1) := by decide +kernel
theorem dX6_setKind_43 : decode cX6_setKind 43 = .ok (.istore 5, 2) := by decide +kernel
theorem dX6_setKind_45 : decode cX6_setKind 45 = .ok (.aload_n 0, 1) := by decide +kernel
theorem dX6_setKind_46 : decode cX6_setKind 46 = .ok (.getfield 27, 3) := by decide +kernel
theorem dX6_setKind_49 : decode cX6_setKind 49 = .ok (.iload_n 1, 1) := by decide +kernel
theorem dX6_setKind_50 : decode cX6_setKind 50 = .ok (.iload_n 2, 1) := by decide +kernel
theorem dX6_setKind_51 : decode cX6_setKind 51 = .ok (.bastore, 1) := by decide +kernel
theorem dX6_setKind_52 : decode cX6_setKind 52 = .ok (.aload_n 0, 1) := by decide +kernel
theorem dX6_setKind_53 : decode cX6_setKind 53 = .ok (.getfield 31, 3) := by decide +kernel
theorem dX6_setKind_56 : decode cX6_setKind 56 = .ok (.iload_n 1, 1) := by decide +kernel
theorem dX6_setKind_57 : decode cX6_setKind 57 = .ok (.iload_n 3, 1) := by decide +kernel
theorem dX6_setKind_58 : decode cX6_setKind 58 = .ok (.bastore, 1) := by decide +kernel
theorem dX6_setKind_59 : decode cX6_setKind 59 = .ok (.aload_n 0, 1) := by decide +kernel
theorem dX6_setKind_60 : decode cX6_setKind 60 = .ok (.getfield 34, 3) := by decide +kernel
theorem dX6_setKind_63 : decode cX6_setKind 63 = .ok (.iload_n 1, 1) := by decide +kernel
theorem dX6_setKind_64 : decode cX6_setKind 64 = .ok (.iload 4, 2) := by decide +kernel
theorem dX6_setKind_66 : decode cX6_setKind 66 = .ok (.iastore, 1) := by decide +kernel
theorem dX6_setKind_67 : decode cX6_setKind 67 = .ok (.aload_n 0, 1) := by decide +kernel
theorem dX6_setKind_68 : decode cX6_setKind 68 = .ok (.iconst 0, 1) := by decide +kernel
theorem dX6_setKind_69 : decode cX6_setKind 69 = .ok (.putfield 84, 3) := by decide +kernel
theorem dX6_setKind_72 : decode cX6_setKind 72 = .ok (.iload 5, 2) := by decide +kernel
theorem dX6_setKind_74 : decode cX6_setKind 74 = .ok (.ireturn, 1) := by decide +kernel
theorem dX6_setLenient_0 : decode cX6_setLenient 0 = .ok (.aload_n 0, 1) := by decide +kernel
theorem dX6_setLenient_1 : decode cX6_setLenient 1 = .ok (.iconst 0, 1) := by decide +kernel
theorem dX6_setLenient_2 : decode cX6_setLenient 2 = .ok (.putfield 64, 3) := by decide +kernel
theorem dX6_setLenient_5 : decode cX6_setLenient 5 = .ok (.aload_n 0, 1) := by decide +kernel
theorem dX6_setLenient_6 : decode cX6_setLenient 6 = .ok (.getfield 17, 3) := by decide +kernel
theorem dX6_setLenient_9 : decode cX6_setLenient 9 = .ok (.istore_n 2, 1) := by decide +kernel
theorem dX6_setLenient_10 : decode cX6_setLenient 10 = .ok (.aload_n 0, 1) := by decide +kernel
theorem dX6_setLenient_11 : decode cX6_setLenient 11 = .ok (.iload_n 1, 1) := by decide +kernel
theorem dX6_setLenient_12 : decode cX6_setLenient 12 = .ok (.putfield 17, 3) := by decide +kernel
theorem dX6_setLenient_15 : decode cX6_setLenient 15 = .ok (.aload_n 0, 1) := by decide +kernel
theorem dX6_setLenient_16 : decode cX6_setLenient 16 = .ok (.iconst 0, 1) := by decide +kernel
theorem dX6_setLenient_17 : decode cX6_setLenient 17 = .ok (.putfield 84, 3) := by decide +kernel
theorem dX6_setLenient_20 : decode cX6_setLenient 20 = .ok (.iload_n 2, 1) := by decide +kernel
theorem dX6_setLenient_21 : decode cX6_setLenient 21 = .ok (.ireturn, 1) := by decide +kernel
theorem dX6_stands_0 : decode cX6_stands 0 = .ok (.aload_n 0, 1) := by decide +kernel
theorem dX6_stands_1 : decode cX6_stands 1 = .ok (.getfield 21, 3) := by decide +kernel
theorem dX6_stands_4 : decode cX6_stands 4 = .ok (.iload_n 1, 1) := by decide +kernel
theorem dX6_stands_5 : decode cX6_stands 5 = .ok (.iaload, 1) := by decide +kernel
theorem dX6_stands_6 : decode cX6_stands 6 = .ok (.ifCond .eq 18, 3) := by decide +kernel
theorem dX6_stands_9 : decode cX6_stands 9 = .ok (.iload_n 2, 1) := by decide +kernel
theorem dX6_stands_10 : decode cX6_stands 10 = .ok (.aload_n 0, 1) := by decide +kernel
theorem dX6_stands_11 : decode cX6_stands 11 = .ok (.getfield 21, 3) := by decide +kernel
theorem dX6_stands_14 : decode cX6_stands 14 = .ok (.iload_n 1, 1) := by decide +kernel
theorem dX6_stands_15 : decode cX6_stands 15 = .ok (.iaload, 1) := by decide +kernel
theorem dX6_stands_16 : decode cX6_stands 16 = .ok (.iadd, 1) := by decide +kernel
theorem dX6_stands_17 : decode cX6_stands 17 = .ok (.aload_n 0, 1) := by decide +kernel
theorem dX6_stands_18 : decode cX6_stands 18 = .ok (.getfield 81, 3) := by decide +kernel
theorem dX6_stands_21 : decode cX6_stands 21 = .ok (.if_icmp .le 5, 3) := by decide +kernel
theorem dX6_stands_24 : decode cX6_stands 24 = .ok (.iconst 0, 1) := by decide +kernel
theorem dX6_stands_25 : decode cX6_stands 25 = .ok (.ireturn, 1) := by decide +kernel
theorem dX6_stands_26 : decode cX6_stands 26 = .ok (.iconst 1, 1) := by decide +kernel
theorem dX6_stands_27 : decode cX6_stands 27 = .ok (.istore_n 3, 1) := by decide +kernel
theorem dX6_stands_28 : decode cX6_stands 28 = .ok (.iconst 0, 1) := by decide +kernel
theorem dX6_stands_29 : decode cX6_stands 29 = .ok (.istore 4, 2) := by decide +kernel
theorem dX6_stands_31 : decode cX6_stands 31 = .ok (.iload 4, 2) := by decide +kernel
theorem dX6_stands_33 : decode cX6_stands 33 = .ok (.aload_n 0, 1) := by decide +kernel
theorem dX6_stands_34 : decode cX6_stands 34 = .ok (.getfield 21, 3) := by decide +kernel
theorem dX6_stands_37 : decode cX6_stands 37 = .ok (.iload_n 1, 1) := by decide +kernel
theorem dX6_stands_38 : decode cX6_stands 38 = .ok (.iaload, 1) := by decide +kernel
theorem dX6_stands_39 : decode cX6_stands 39 = .ok (.if_icmp .ge 58, 3) := by decide +kernel
theorem dX6_stands_42 : decode cX6_stands 42 = .ok (.iload_n 3, 1) := by decide +kernel
theorem dX6_stands_43 : decode cX6_stands 43 = .ok (.ifCond .eq 46, 3) := by decide +kernel
theorem dX6_stands_46 : decode cX6_stands 46 = .ok (.aload_n 0, 1) := by decide +kernel
theorem dX6_stands_47 : decode cX6_stands 47 = .ok (.getfield 9, 3) := by decide +kernel
theorem dX6_stands_50 : decode cX6_stands 50 = .ok (.iload_n 2, 1) := by decide +kernel
theorem dX6_stands_51 : decode cX6_stands 51 = .ok (.iload 4, 2) := by decide +kernel
theorem dX6_stands_53 : decode cX6_stands 53 = .ok (.iadd, 1) := by decide +kernel
theorem dX6_stands_54 : decode cX6_stands 54 = .ok (.iaload, 1) := by decide +kernel
theorem dX6_stands_55 : decode cX6_stands 55 = .ok (.aload_n 0, 1) := by decide +kernel
theorem dX6_stands_56 : decode cX6_stands 56 = .ok (.getfield 24, 3) := by decide +kernel
theorem dX6_stands_59 : decode cX6_stands 59 = .ok (.iconst 3, 1) := by decide +kernel
theorem dX6_stands_60 : decode cX6_stands 60 = .ok (.iload_n 1, 1) := by decide +kernel
theorem dX6_stands_61 : decode cX6_stands 61 = .ok (.imul, 1) := by decide +kernel
theorem dX6_stands_62 : decode cX6_stands 62 = .ok (.iload 4, 2) := by decide +kernel
theorem dX6_stands_64 : decode cX6_stands 64 = .ok (.iadd, 1) := by decide +kernel
theorem dX6_stands_65 : decode cX6_stands 65 = .ok (.iaload, 1) := by decide +kernel
theorem dX6_stands_66 : decode cX6_stands 66 = .ok (.if_icmp .ne 23, 3) := by decide +kernel
theorem dX6_stands_69 : decode cX6_stands 69 = .ok (.aload_n 0, 1) := by decide +kernel
theorem dX6_stands_70 : decode cX6_stands 70 = .ok (.getfield 9, 3) := by decide +kernel
theorem dX6_stands_73 : decode cX6_stands 73 = .ok (.iload_n 2, 1) := by decide +kernel
theorem dX6_stands_74 : decode cX6_stands 74 = .ok (.iload 4, 2) := by decide +kernel
theorem dX6_stands_76 : decode cX6_stands 76 = .ok (.iadd, 1) := by decide +kernel
theorem dX6_stands_77 : decode cX6_stands 77 = .ok (.iaload, 1) := by decide +kernel
theorem dX6_stands_78 : decode cX6_stands 78 = .ok (.aload_n 0, 1) := by decide +kernel
theorem dX6_stands_79 : decode cX6_stands 79 = .ok (.getfield 13, 3) := by decide +kernel
theorem dX6_stands_82 : decode cX6_stands 82 = .ok (.if_icmp .eq 7, 3) := by decide +kernel
theorem dX6_stands_85 : decode cX6_stands 85 = .ok (.iconst 1, 1) := by decide +kernel
theorem dX6_stands_86 : decode cX6_stands 86 = .ok (.goto 4, 3) := by decide +kernel
theorem dX6_stands_89 : decode cX6_stands 89 = .ok (.iconst 0, 1) := by decide +kernel
theorem dX6_stands_90 : decode cX6_stands 90 = .ok (.istore_n 3, 1) := by decide +kernel
theorem dX6_stands_91 : decode cX6_stands 91 = .ok (.iinc 4 1, 3) := by decide +kernel
theorem dX6_stands_94 : decode cX6_stands 94 = .ok (.goto (-63), 3) := by decide +kernel
theorem dX6_stands_97 : decode cX6_stands 97 = .ok (.iload_n 3, 1) := by decide +kernel
theorem dX6_stands_98 : decode cX6_stands 98 = .ok (.ireturn, 1) := by decide +kernel
theorem dX6_canStand_0 : decode cX6_canStand 0 = .ok (.aload_n 0, 1) := by decide +kernel
theorem dX6_canStand_1 : decode cX6_canStand 1 = .ok (.iload_n 1, 1) := by decide +kernel
theorem dX6_canStand_2 : decode cX6_canStand 2 = .ok (.invokevirtual 87, 3) := by decide +kernel
theorem dX6_canStand_5 : decode cX6_canStand 5 = .ok (.ifCond .ne 5, 3) := by decide +kernel
theorem dX6_canStand_8 : decode cX6_canStand 8 = .ok (.iconst 0, 1) := by decide +kernel
theorem dX6_canStand_9 : decode cX6_canStand 9 = .ok (.ireturn, 1) := by decide +kernel
theorem dX6_canStand_10 : decode cX6_canStand 10 = .ok (.iload_n 2, 1) := by decide +kernel
theorem dX6_canStand_11 : decode cX6_canStand 11 = .ok (.bipush 6, 2) := by decide +kernel
theorem dX6_canStand_13 : decode cX6_canStand 13 = .ok (.if_icmp .ne 12, 3) := by decide +kernel
theorem dX6_canStand_16 : decode cX6_canStand 16 = .ok (.aload_n 0, 1) := by decide +kernel
theorem dX6_canStand_17 : decode cX6_canStand 17 = .ok (.getfield 31, 3) := by decide +kernel
theorem dX6_canStand_20 : decode cX6_canStand 20 = .ok (.iload_n 1, 1) := by decide +kernel
theorem dX6_canStand_21 : decode cX6_canStand 21 = .ok (.baload, 1) := by decide +kernel
theorem dX6_canStand_22 : decode cX6_canStand 22 = .ok (.goto 31, 3) := by decide +kernel
theorem dX6_canStand_25 : decode cX6_canStand 25 = .ok (.aload_n 0, 1) := by decide +kernel
theorem dX6_canStand_26 : decode cX6_canStand 26 = .ok (.getfield 27, 3) := by decide +kernel
theorem dX6_canStand_29 : decode cX6_canStand 29 = .ok (.iload_n 2, 1) := by decide +kernel
theorem dX6_canStand_30 : decode cX6_canStand 30 = .ok (.baload, 1) := by decide +kernel
theorem dX6_canStand_31 : decode cX6_canStand 31 = .ok (.ifCond .ne 21, 3) := by decide +kernel
theorem dX6_canStand_34 : decode cX6_canStand 34 = .ok (.aload_n 0, 1) := by decide +kernel
theorem dX6_canStand_35 : decode cX6_canStand 35 = .ok (.getfield 34, 3) := by decide +kernel
theorem dX6_canStand_38 : decode cX6_canStand 38 = .ok (.iload_n 2, 1) := by decide +kernel
theorem dX6_canStand_39 : decode cX6_canStand 39 = .ok (.iaload, 1) := by decide +kernel
theorem dX6_canStand_40 : decode cX6_canStand 40 = .ok (.iload_n 1, 1) := by decide +kernel
theorem dX6_canStand_41 : decode cX6_canStand 41 = .ok (.ishr, 1) := by decide +kernel
theorem dX6_canStand_42 : decode cX6_canStand 42 = .ok (.iconst 1, 1) := by decide +kernel
theorem dX6_canStand_43 : decode cX6_canStand 43 = .ok (.iand, 1) := by decide +kernel
theorem dX6_canStand_44 : decode cX6_canStand 44 = .ok (.iconst 1, 1) := by decide +kernel
theorem dX6_canStand_45 : decode cX6_canStand 45 = .ok (.if_icmp .ne 7, 3) := by decide +kernel
theorem dX6_canStand_48 : decode cX6_canStand 48 = .ok (.iconst 1, 1) := by decide +kernel
theorem dX6_canStand_49 : decode cX6_canStand 49 = .ok (.goto 4, 3) := by decide +kernel
theorem dX6_canStand_52 : decode cX6_canStand 52 = .ok (.iconst 0, 1) := by decide +kernel
theorem dX6_canStand_53 : decode cX6_canStand 53 = .ok (.ireturn, 1) := by decide +kernel
theorem dX6_begin_0 : decode cX6_begin 0 = .ok (.aload_n 0, 1) := by decide +kernel
theorem dX6_begin_1 : decode cX6_begin 1 = .ok (.getfield 37, 3) := by decide +kernel
theorem dX6_begin_4 : decode cX6_begin 4 = .ok (.aload_n 0, 1) := by decide +kernel
theorem dX6_begin_5 : decode cX6_begin 5 = .ok (.getfield 90, 3) := by decide +kernel
theorem dX6_begin_8 : decode cX6_begin 8 = .ok (.iload_n 1, 1) := by decide +kernel
theorem dX6_begin_9 : decode cX6_begin 9 = .ok (.iastore, 1) := by decide +kernel
theorem dX6_begin_10 : decode cX6_begin 10 = .ok (.aload_n 0, 1) := by decide +kernel
theorem dX6_begin_11 : decode cX6_begin 11 = .ok (.getfield 40, 3) := by decide +kernel
theorem dX6_begin_14 : decode cX6_begin 14 = .ok (.aload_n 0, 1) := by decide +kernel
theorem dX6_begin_15 : decode cX6_begin 15 = .ok (.getfield 90, 3) := by decide +kernel
theorem dX6_begin_18 : decode cX6_begin 18 = .ok (.iload_n 2, 1) := by decide +kernel
theorem dX6_begin_19 : decode cX6_begin 19 = .ok (.iastore, 1) := by decide +kernel
theorem dX6_begin_20 : decode cX6_begin 20 = .ok (.aload_n 0, 1) := by decide +kernel
theorem dX6_begin_21 : decode cX6_begin 21 = .ok (.getfield 46, 3) := by decide +kernel
theorem dX6_begin_24 : decode cX6_begin 24 = .ok (.aload_n 0, 1) := by decide +kernel
theorem dX6_begin_25 : decode cX6_begin 25 = .ok (.getfield 90, 3) := by decide +kernel
theorem dX6_begin_28 : decode cX6_begin 28 = .ok (.iconst 2, 1) := by decide +kernel
theorem dX6_begin_29 : decode cX6_begin 29 = .ok (.iastore, 1) := by decide +kernel
theorem dX6_begin_30 : decode cX6_begin 30 = .ok (.aload_n 0, 1) := by decide +kernel
theorem dX6_begin_31 : decode cX6_begin 31 = .ok (.getfield 43, 3) := by decide +kernel
theorem dX6_begin_34 : decode cX6_begin 34 = .ok (.aload_n 0, 1) := by decide +kernel
theorem dX6_begin_35 : decode cX6_begin 35 = .ok (.getfield 90, 3) := by decide +kernel
theorem dX6_begin_38 : decode cX6_begin 38 = .ok (.iconst (-1), 1) := by decide +kernel
theorem dX6_begin_39 : decode cX6_begin 39 = .ok (.iastore, 1) := by decide +kernel
theorem dX6_begin_40 : decode cX6_begin 40 = .ok (.aload_n 0, 1) := by decide +kernel
theorem dX6_begin_41 : decode cX6_begin 41 = .ok (.getfield 49, 3) := by decide +kernel
theorem dX6_begin_44 : decode cX6_begin 44 = .ok (.aload_n 0, 1) := by decide +kernel
theorem dX6_begin_45 : decode cX6_begin 45 = .ok (.getfield 90, 3) := by decide +kernel
theorem dX6_begin_48 : decode cX6_begin 48 = .ok (.aload_n 0, 1) := by decide +kernel
theorem dX6_begin_49 : decode cX6_begin 49 = .ok (.getfield 93, 3) := by decide +kernel
theorem dX6_begin_52 : decode cX6_begin 52 = .ok (.ifCond .ne 7, 3) := by decide +kernel
theorem dX6_begin_55 : decode cX6_begin 55 = .ok (.iconst (-1), 1) := by decide +kernel
theorem dX6_begin_56 : decode cX6_begin 56 = .ok (.goto 14, 3) := by decide +kernel
theorem dX6_begin_59 : decode cX6_begin 59 = .ok (.aload_n 0, 1) := by decide +kernel
theorem dX6_begin_60 : decode cX6_begin 60 = .ok (.getfield 52, 3) := by decide +kernel
theorem dX6_begin_63 : decode cX6_begin 63 = .ok (.aload_n 0, 1) := by decide +kernel
theorem dX6_begin_64 : decode cX6_begin 64 = .ok (.getfield 93, 3) := by decide +kernel
theorem dX6_begin_67 : decode cX6_begin 67 = .ok (.iconst 1, 1) := by decide +kernel
theorem dX6_begin_68 : decode cX6_begin 68 = .ok (.isub, 1) := by decide +kernel
theorem dX6_begin_69 : decode cX6_begin 69 = .ok (.iaload, 1) := by decide +kernel
theorem dX6_begin_70 : decode cX6_begin 70 = .ok (.iastore, 1) := by decide +kernel
theorem dX6_begin_71 : decode cX6_begin 71 = .ok (.aload_n 0, 1) := by decide +kernel
theorem dX6_begin_72 : decode cX6_begin 72 = .ok (.getfield 52, 3) := by decide +kernel
theorem dX6_begin_75 : decode cX6_begin 75 = .ok (.aload_n 0, 1) := by decide +kernel
theorem dX6_begin_76 : decode cX6_begin 76 = .ok (.getfield 93, 3) := by decide +kernel
theorem dX6_begin_79 : decode cX6_begin 79 = .ok (.aload_n 0, 1) := by decide +kernel
theorem dX6_begin_80 : decode cX6_begin 80 = .ok (.getfield 90, 3) := by decide +kernel
theorem dX6_begin_83 : decode cX6_begin 83 = .ok (.iastore, 1) := by decide +kernel
theorem dX6_begin_84 : decode cX6_begin 84 = .ok (.aload_n 0, 1) := by decide +kernel
theorem dX6_begin_85 : decode cX6_begin 85 = .ok (.dup, 1) := by decide +kernel
theorem dX6_begin_86 : decode cX6_begin 86 = .ok (.getfield 93, 3) := by decide +kernel
theorem dX6_begin_89 : decode cX6_begin 89 = .ok (.iconst 1, 1) := by decide +kernel
theorem dX6_begin_90 : decode cX6_begin 90 = .ok (.iadd, 1) := by decide +kernel
theorem dX6_begin_91 : decode cX6_begin 91 = .ok (.putfield 93, 3) := by decide +kernel
theorem dX6_begin_94 : decode cX6_begin 94 = .ok (.aload_n 0, 1) := by decide +kernel
theorem dX6_begin_95 : decode cX6_begin 95 = .ok (.dup, 1) := by decide +kernel
theorem dX6_begin_96 : decode cX6_begin 96 = .ok (.getfield 90, 3) := by decide +kernel
theorem dX6_begin_99 : decode cX6_begin 99 = .ok (.iconst 1, 1) := by decide +kernel
theorem dX6_begin_100 : decode cX6_begin 100 = .ok (.iadd, 1) := by decide +kernel
theorem dX6_begin_101 : decode cX6_begin 101 = .ok (.putfield 90, 3) := by decide +kernel
theorem dX6_begin_104 : decode cX6_begin 104 = .ok (.return_, 1) := by decide +kernel
theorem dX6_finish_0 : decode cX6_finish 0 = .ok (.aload_n 0, 1) := by decide +kernel
theorem dX6_finish_1 : decode cX6_finish 1 = .ok (.dup, 1) := by decide +kernel
theorem dX6_finish_2 : decode cX6_finish 2 = .ok (.getfield 93, 3) := by decide +kernel
theorem dX6_finish_5 : decode cX6_finish 5 = .ok (.iconst 1, 1) := by decide +kernel
theorem dX6_finish_6 : decode cX6_finish 6 = .ok (.isub, 1) := by decide +kernel
theorem dX6_finish_7 : decode cX6_finish 7 = .ok (.putfield 93, 3) := by decide +kernel
theorem dX6_finish_10 : decode cX6_finish 10 = .ok (.aload_n 0, 1) := by decide +kernel
theorem dX6_finish_11 : decode cX6_finish 11 = .ok (.getfield 46, 3) := by decide +kernel
theorem dX6_finish_14 : decode cX6_finish 14 = .ok (.aload_n 0, 1) := by decide +kernel
theorem dX6_finish_15 : decode cX6_finish 15 = .ok (.getfield 52, 3) := by decide +kernel
theorem dX6_finish_18 : decode cX6_finish 18 = .ok (.aload_n 0, 1) := by decide +kernel
theorem dX6_finish_19 : decode cX6_finish 19 = .ok (.getfield 93, 3) := by decide +kernel
theorem dX6_finish_22 : decode cX6_finish 22 = .ok (.iaload, 1) := by decide +kernel
theorem dX6_finish_23 : decode cX6_finish 23 = .ok (.iload_n 1, 1) := by decide +kernel
theorem dX6_finish_24 : decode cX6_finish 24 = .ok (.iastore, 1) := by decide +kernel
theorem dX6_finish_25 : decode cX6_finish 25 = .ok (.aload_n 0, 1) := by decide +kernel
theorem dX6_finish_26 : decode cX6_finish 26 = .ok (.getfield 43, 3) := by decide +kernel
theorem dX6_finish_29 : decode cX6_finish 29 = .ok (.aload_n 0, 1) := by decide +kernel
theorem dX6_finish_30 : decode cX6_finish 30 = .ok (.getfield 52, 3) := by decide +kernel
theorem dX6_finish_33 : decode cX6_finish 33 = .ok (.aload_n 0, 1) := by decide +kernel
theorem dX6_finish_34 : decode cX6_finish 34 = .ok (.getfield 93, 3) := by decide +kernel
theorem dX6_finish_37 : decode cX6_finish 37 = .ok (.iaload, 1) := by decide +kernel
theorem dX6_finish_38 : decode cX6_finish 38 = .ok (.iload_n 2, 1) := by decide +kernel
theorem dX6_finish_39 : decode cX6_finish 39 = .ok (.iastore, 1) := by decide +kernel
theorem dX6_finish_40 : decode cX6_finish 40 = .ok (.return_, 1) := by decide +kernel
theorem dX6_step_0 : decode cX6_step 0 = .ok (.aload_n 0, 1) := by decide +kernel
theorem dX6_step_1 : decode cX6_step 1 = .ok (.getfield 9, 3) := by decide +kernel
theorem dX6_step_4 : decode cX6_step 4 = .ok (.iload_n 1, 1) := by decide +kernel
theorem dX6_step_5 : decode cX6_step 5 = .ok (.iaload, 1) := by decide +kernel
theorem dX6_step_6 : decode cX6_step 6 = .ok (.aload_n 0, 1) := by decide +kernel
theorem dX6_step_7 : decode cX6_step 7 = .ok (.getfield 13, 3) := by decide +kernel
theorem dX6_step_10 : decode cX6_step 10 = .ok (.if_icmp .ne 5, 3) := by decide +kernel
theorem dX6_step_13 : decode cX6_step 13 = .ok (.iconst 2, 1) := by decide +kernel
theorem dX6_step_14 : decode cX6_step 14 = .ok (.ireturn, 1) := by decide +kernel
theorem dX6_step_15 : decode cX6_step 15 = .ok (.aload_n 0, 1) := by decide +kernel
theorem dX6_step_16 : decode cX6_step 16 = .ok (.getfield 93, 3) := by decide +kernel
theorem dX6_step_19 : decode cX6_step 19 = .ok (.ifCond .ne 8, 3) := by decide +kernel
theorem dX6_step_22 : decode cX6_step 22 = .ok (.bipush 6, 2) := by decide +kernel
theorem dX6_step_24 : decode cX6_step 24 = .ok (.goto 19, 3) := by decide +kernel
theorem dX6_step_27 : decode cX6_step 27 = .ok (.aload_n 0, 1) := by decide +kernel
theorem dX6_step_28 : decode cX6_step 28 = .ok (.getfield 37, 3) := by decide +kernel
theorem dX6_step_31 : decode cX6_step 31 = .ok (.aload_n 0, 1) := by decide +kernel
theorem dX6_step_32 : decode cX6_step 32 = .ok (.getfield 52, 3) := by decide +kernel
theorem dX6_step_35 : decode cX6_step 35 = .ok (.aload_n 0, 1) := by decide +kernel
theorem dX6_step_36 : decode cX6_step 36 = .ok (.getfield 93, 3) := by decide +kernel
theorem dX6_step_39 : decode cX6_step 39 = .ok (.iconst 1, 1) := by decide +kernel
theorem dX6_step_40 : decode cX6_step 40 = .ok (.isub, 1) := by decide +kernel
theorem dX6_step_41 : decode cX6_step 41 = .ok (.iaload, 1) := by decide +kernel
theorem dX6_step_42 : decode cX6_step 42 = .ok (.iaload, 1) := by decide +kernel
theorem dX6_step_43 : decode cX6_step 43 = .ok (.istore_n 2, 1) := by decide +kernel
theorem dX6_step_44 : decode cX6_step 44 = .ok (.iconst 0, 1) := by decide +kernel
theorem dX6_step_45 : decode cX6_step 45 = .ok (.istore_n 3, 1) := by decide +kernel
theorem dX6_step_46 : decode cX6_step 46 = .ok (.iconst 0, 1) := by decide +kernel
theorem dX6_step_47 : decode cX6_step 47 = .ok (.istore 4, 2) := by decide +kernel
theorem dX6_step_49 : decode cX6_step 49 = .ok (.iconst 0, 1) := by decide +kernel
theorem dX6_step_50 : decode cX6_step 50 = .ok (.istore 5, 2) := by decide +kernel
theorem dX6_step_52 : decode cX6_step 52 = .ok (.iload_n 2, 1) := by decide +kernel
theorem dX6_step_53 : decode cX6_step 53 = .ok (.bipush 6, 2) := by decide +kernel
theorem dX6_step_55 : decode cX6_step 55 = .ok (.if_icmp .eq 25, 3) := by decide +kernel
theorem dX6_step_58 : decode cX6_step 58 = .ok (.aload_n 0, 1) := by decide +kernel
theorem dX6_step_59 : decode cX6_step 59 = .ok (.bipush 6, 2) := by decide +kernel
theorem dX6_step_61 : decode cX6_step 61 = .ok (.iload_n 2, 1) := by decide +kernel
theorem dX6_step_62 : decode cX6_step 62 = .ok (.iadd, 1) := by decide +kernel
theorem dX6_step_63 : decode cX6_step 63 = .ok (.iload_n 1, 1) := by decide +kernel
theorem dX6_step_64 : decode cX6_step 64 = .ok (.invokevirtual 96, 3) := by decide +kernel
theorem dX6_step_67 : decode cX6_step 67 = .ok (.ifCond .eq 13, 3) := by decide +kernel
theorem dX6_step_70 : decode cX6_step 70 = .ok (.aload_n 0, 1) := by decide +kernel
theorem dX6_step_71 : decode cX6_step 71 = .ok (.getfield 21, 3) := by decide +kernel
theorem dX6_step_74 : decode cX6_step 74 = .ok (.bipush 6, 2) := by decide +kernel
theorem dX6_step_76 : decode cX6_step 76 = .ok (.iload_n 2, 1) := by decide +kernel
theorem dX6_step_77 : decode cX6_step 77 = .ok (.iadd, 1) := by decide +kernel
theorem dX6_step_78 : decode cX6_step 78 = .ok (.iaload, 1) := by decide +kernel
theorem dX6_step_79 : decode cX6_step 79 = .ok (.istore_n 3, 1) := by decide +kernel
theorem dX6_step_80 : decode cX6_step 80 = .ok (.iconst 0, 1) := by decide +kernel
theorem dX6_step_81 : decode cX6_step 81 = .ok (.istore 6, 2) := by decide +kernel
theorem dX6_step_83 : decode cX6_step 83 = .ok (.iload 6, 2) := by decide +kernel
theorem dX6_step_85 : decode cX6_step 85 = .ok (.bipush 6, 2) := by decide +kernel
theorem dX6_step_87 : decode cX6_step 87 = .ok (.if_icmp .ge 67, 3) := by decide +kernel
theorem dX6_step_90 : decode cX6_step 90 = .ok (.aload_n 0, 1) := by decide +kernel
theorem dX6_step_91 : decode cX6_step 91 = .ok (.getfield 93, 3) := by decide +kernel
theorem dX6_step_94 : decode cX6_step 94 = .ok (.bipush 8, 2) := by decide +kernel
theorem dX6_step_96 : decode cX6_step 96 = .ok (.if_icmp .ge 58, 3) := by decide +kernel
theorem dX6_step_99 : decode cX6_step 99 = .ok (.aload_n 0, 1) := by decide +kernel
theorem dX6_step_100 : decode cX6_step 100 = .ok (.iload 6, 2) := by decide +kernel
theorem dX6_step_102 : decode cX6_step 102 = .ok (.iload_n 2, 1) := by decide +kernel
theorem dX6_step_103 : decode cX6_step 103 = .ok (.invokevirtual 100, 3) := by decide +kernel
theorem dX6_step_106 : decode cX6_step 106 = .ok (.ifCond .eq 42, 3) := by decide +kernel
theorem dX6_step_109 : decode cX6_step 109 = .ok (.aload_n 0, 1) := by decide +kernel
theorem dX6_step_110 : decode cX6_step 110 = .ok (.iload 6, 2) := by decide +kernel
theorem dX6_step_112 : decode cX6_step 112 = .ok (.iload_n 1, 1) := by decide +kernel
theorem dX6_step_113 : decode cX6_step 113 = .ok (.invokevirtual 96, 3) := by decide +kernel
theorem dX6_step_116 : decode cX6_step 116 = .ok (.ifCond .eq 32, 3) := by decide +kernel
theorem dX6_step_119 : decode cX6_step 119 = .ok (.aload_n 0, 1) := by decide +kernel
theorem dX6_step_120 : decode cX6_step 120 = .ok (.getfield 21, 3) := by decide +kernel
theorem dX6_step_123 : decode cX6_step 123 = .ok (.iload 6, 2) := by decide +kernel
theorem dX6_step_125 : decode cX6_step 125 = .ok (.iaload, 1) := by decide +kernel
theorem dX6_step_126 : decode cX6_step 126 = .ok (.iload_n 3, 1) := by decide +kernel
theorem dX6_step_127 : decode cX6_step 127 = .ok (.if_icmp .gt 6, 3) := by decide +kernel
theorem dX6_step_130 : decode cX6_step 130 = .ok (.goto 18, 3) := by decide +kernel
theorem dX6_step_133 : decode cX6_step 133 = .ok (.aload_n 0, 1) := by decide +kernel
theorem dX6_step_134 : decode cX6_step 134 = .ok (.getfield 21, 3) := by decide +kernel
theorem dX6_step_137 : decode cX6_step 137 = .ok (.iload 6, 2) := by decide +kernel
theorem dX6_step_139 : decode cX6_step 139 = .ok (.iaload, 1) := by decide +kernel
theorem dX6_step_140 : decode cX6_step 140 = .ok (.istore_n 3, 1) := by decide +kernel
theorem dX6_step_141 : decode cX6_step 141 = .ok (.iconst 1, 1) := by decide +kernel
theorem dX6_step_142 : decode cX6_step 142 = .ok (.istore 4, 2) := by decide +kernel
theorem dX6_step_144 : decode cX6_step 144 = .ok (.iload 6, 2) := by decide +kernel
theorem dX6_step_146 : decode cX6_step 146 = .ok (.istore 5, 2) := by decide +kernel
theorem dX6_step_148 : decode cX6_step 148 = .ok (.iinc 6 1, 3) := by decide +kernel
theorem dX6_step_151 : decode cX6_step 151 = .ok (.goto (-68), 3) := by decide +kernel
theorem dX6_step_154 : decode cX6_step 154 = .ok (.aload_n 0, 1) := by decide +kernel
theorem dX6_step_155 : decode cX6_step 155 = .ok (.getfield 93, 3) := by decide +kernel
theorem dX6_step_158 : decode cX6_step 158 = .ok (.iconst 2, 1) := by decide +kernel
theorem dX6_step_159 : decode cX6_step 159 = .ok (.isub, 1) := by decide +kernel
theorem dX6_step_160 : decode cX6_step 160 = .ok (.istore 6, 2) := by decide +kernel
theorem dX6_step_162 : decode cX6_step 162 = .ok (.iload 6, 2) := by decide +kernel
theorem dX6_step_164 : decode cX6_step 164 = .ok (.ifCond .lt 74, 3) := by decide +kernel
theorem dX6_step_167 : decode cX6_step 167 = .ok (.aload_n 0, 1) := by decide +kernel
theorem dX6_step_168 : decode cX6_step 168 = .ok (.getfield 27, 3) := by decide +kernel
theorem dX6_step_171 : decode cX6_step 171 = .ok (.iload_n 2, 1) := by decide +kernel
theorem dX6_step_172 : decode cX6_step 172 = .ok (.baload, 1) := by decide +kernel
theorem dX6_step_173 : decode cX6_step 173 = .ok (.ifCond .ne 65, 3) := by decide +kernel
theorem dX6_step_176 : decode cX6_step 176 = .ok (.bipush 6, 2) := by decide +kernel
theorem dX6_step_178 : decode cX6_step 178 = .ok (.aload_n 0, 1) := by decide +kernel
theorem dX6_step_179 : decode cX6_step 179 = .ok (.getfield 37, 3) := by decide +kernel
theorem dX6_step_182 : decode cX6_step 182 = .ok (.aload_n 0, 1) := by decide +kernel
theorem dX6_step_183 : decode cX6_step 183 = .ok (.getfield 52, 3) := by decide +kernel
theorem dX6_step_186 : decode cX6_step 186 = .ok (.iload 6, 2) := by decide +kernel
theorem dX6_step_188 : decode cX6_step 188 = .ok (.iaload, 1) := by decide +kernel
theorem dX6_step_189 : decode cX6_step 189 = .ok (.iaload, 1) := by decide +kernel
theorem dX6_step_190 : decode cX6_step 190 = .ok (.iadd, 1) := by decide +kernel
theorem dX6_step_191 : decode cX6_step 191 = .ok (.istore 7, 2) := by decide +kernel
theorem dX6_step_193 : decode cX6_step 193 = .ok (.aload_n 0, 1) := by decide +kernel
theorem dX6_step_194 : decode cX6_step 194 = .ok (.iload 7, 2) := by decide +kernel
theorem dX6_step_196 : decode cX6_step 196 = .ok (.iload_n 1, 1) := by decide +kernel
theorem dX6_step_197 : decode cX6_step 197 = .ok (.invokevirtual 96, 3) := by decide +kernel
theorem dX6_step_200 : decode cX6_step 200 = .ok (.ifCond .eq 32, 3) := by decide +kernel
theorem dX6_step_203 : decode cX6_step 203 = .ok (.aload_n 0, 1) := by decide +kernel
theorem dX6_step_204 : decode cX6_step 204 = .ok (.getfield 21, 3) := by decide +kernel
theorem dX6_step_207 : decode cX6_step 207 = .ok (.iload 7, 2) := by decide +kernel
theorem dX6_step_209 : decode cX6_step 209 = .ok (.iaload, 1) := by decide +kernel
theorem dX6_step_210 : decode cX6_step 210 = .ok (.iload_n 3, 1) := by decide +kernel
theorem dX6_step_211 : decode cX6_step 211 = .ok (.if_icmp .gt 6, 3) := by decide +kernel
theorem dX6_step_214 : decode cX6_step 214 = .ok (.goto 18, 3) := by decide +kernel
theorem dX6_step_217 : decode cX6_step 217 = .ok (.aload_n 0, 1) := by decide +kernel
theorem dX6_step_218 : decode cX6_step 218 = .ok (.getfield 21, 3) := by decide +kernel
theorem dX6_step_221 : decode cX6_step 221 = .ok (.iload 7, 2) := by decide +kernel
theorem dX6_step_223 : decode cX6_step 223 = .ok (.iaload, 1) := by decide +kernel
theorem dX6_step_224 : decode cX6_step 224 = .ok (.istore_n 3, 1) := by decide +kernel
theorem dX6_step_225 : decode cX6_step 225 = .ok (.iconst 2, 1) := by decide +kernel
theorem dX6_step_226 : decode cX6_step 226 = .ok (.istore 4, 2) := by decide +kernel
theorem dX6_step_228 : decode cX6_step 228 = .ok (.iload 6, 2) := by decide +kernel
theorem dX6_step_230 : decode cX6_step 230 = .ok (.istore 5, 2) := by decide +kernel
theorem dX6_step_232 : decode cX6_step 232 = .ok (.iinc 6 (-1), 3) := by decide +kernel
theorem dX6_step_235 : decode cX6_step 235 = .ok (.goto (-73), 3) := by decide +kernel
theorem dX6_step_238 : decode cX6_step 238 = .ok (.iload_n 3, 1) := by decide +kernel
theorem dX6_step_239 : decode cX6_step 239 = .ok (.ifCond .ne 5, 3) := by decide +kernel
theorem dX6_step_242 : decode cX6_step 242 = .ok (.iconst 1, 1) := by decide +kernel
theorem dX6_step_243 : decode cX6_step 243 = .ok (.ireturn, 1) := by decide +kernel
theorem dX6_step_244 : decode cX6_step 244 = .ok (.iload 4, 2) := by decide +kernel
theorem dX6_step_246 : decode cX6_step 246 = .ok (.ifCond .ne 11, 3) := by decide +kernel
theorem dX6_step_249 : decode cX6_step 249 = .ok (.aload_n 0, 1) := by decide +kernel
theorem dX6_step_250 : decode cX6_step 250 = .ok (.iconst 0, 1) := by decide +kernel
theorem dX6_step_251 : decode cX6_step 251 = .ok (.iload_n 1, 1) := by decide +kernel
theorem dX6_step_252 : decode cX6_step 252 = .ok (.iload_n 3, 1) := by decide +kernel
theorem dX6_step_253 : decode cX6_step 253 = .ok (.iadd, 1) := by decide +kernel
theorem dX6_step_254 : decode cX6_step 254 = .ok (.invokevirtual 103, 3) := by decide +kernel
theorem dX6_step_257 : decode cX6_step 257 = .ok (.iload 4, 2) := by decide +kernel
theorem dX6_step_259 : decode cX6_step 259 = .ok (.iconst 1, 1) := by decide +kernel
theorem dX6_step_260 : decode cX6_step 260 = .ok (.if_icmp .ne 10, 3) := by decide +kernel
theorem dX6_step_263 : decode cX6_step 263 = .ok (.aload_n 0, 1) := by decide +kernel
theorem dX6_step_264 : decode cX6_step 264 = .ok (.iload 5, 2) := by decide +kernel
theorem dX6_step_266 : decode cX6_step 266 = .ok (.iload_n 1, 1) := by decide +kernel
theorem dX6_step_267 : decode cX6_step 267 = .ok (.invokevirtual 107, 3) := by decide +kernel
theorem dX6_step_270 : decode cX6_step 270 = .ok (.iload 4, 2) := by decide +kernel
theorem dX6_step_272 : decode cX6_step 272 = .ok (.iconst 2, 1) := by decide +kernel
theorem dX6_step_273 : decode cX6_step 273 = .ok (.if_icmp .ne 20, 3) := by decide +kernel
theorem dX6_step_276 : decode cX6_step 276 = .ok (.aload_n 0, 1) := by decide +kernel
theorem dX6_step_277 : decode cX6_step 277 = .ok (.getfield 17, 3) := by decide +kernel
theorem dX6_step_280 : decode cX6_step 280 = .ok (.ifCond .ne 13, 3) := by decide +kernel
theorem dX6_step_283 : decode cX6_step 283 = .ok (.aload_n 0, 1) := by decide +kernel
theorem dX6_step_284 : decode cX6_step 284 = .ok (.dup, 1) := by decide +kernel
theorem dX6_step_285 : decode cX6_step 285 = .ok (.getfield 110, 3) := by decide +kernel
theorem dX6_step_288 : decode cX6_step 288 = .ok (.iconst 1, 1) := by decide +kernel
theorem dX6_step_289 : decode cX6_step 289 = .ok (.iadd, 1) := by decide +kernel
theorem dX6_step_290 : decode cX6_step 290 = .ok (.putfield 110, 3) := by decide +kernel
theorem dX6_step_293 : decode cX6_step 293 = .ok (.iload 4, 2) := by decide +kernel
theorem dX6_step_295 : decode cX6_step 295 = .ok (.iconst 2, 1) := by decide +kernel
theorem dX6_step_296 : decode cX6_step 296 = .ok (.if_icmp .ne 38, 3) := by decide +kernel
theorem dX6_step_299 : decode cX6_step 299 = .ok (.aload_n 0, 1) := by decide +kernel
theorem dX6_step_300 : decode cX6_step 300 = .ok (.getfield 17, 3) := by decide +kernel
theorem dX6_step_303 : decode cX6_step 303 = .ok (.ifCond .eq 31, 3) := by decide +kernel
theorem dX6_step_306 : decode cX6_step 306 = .ok (.aload_n 0, 1) := by decide +kernel
theorem dX6_step_307 : decode cX6_step 307 = .ok (.getfield 93, 3) := by decide +kernel
theorem dX6_step_310 : decode cX6_step 310 = .ok (.iload 5, 2) := by decide +kernel
theorem dX6_step_312 : decode cX6_step 312 = .ok (.iconst 1, 1) := by decide +kernel
theorem dX6_step_313 : decode cX6_step 313 = .ok (.iadd, 1) := by decide +kernel
theorem dX6_step_314 : decode cX6_step 314 = .ok (.if_icmp .le 12, 3) := by decide +kernel
theorem dX6_step_317 : decode cX6_step 317 = .ok (.aload_n 0, 1) := by decide +kernel
theorem dX6_step_318 : decode cX6_step 318 = .ok (.iconst 1, 1) := by decide +kernel
theorem dX6_step_319 : decode cX6_step 319 = .ok (.iload_n 1, 1) := by decide +kernel
theorem dX6_step_320 : decode cX6_step 320 = .ok (.invokevirtual 103, 3) := by decide +kernel
theorem dX6_step_323 : decode cX6_step 323 = .ok (.goto (-17), 3) := by decide +kernel
theorem dX6_step_326 : decode cX6_step 326 = .ok (.aload_n 0, 1) := by decide +kernel
theorem dX6_step_327 : decode cX6_step 327 = .ok (.iconst 0, 1) := by decide +kernel
theorem dX6_step_328 : decode cX6_step 328 = .ok (.iload_n 1, 1) := by decide +kernel
theorem dX6_step_329 : decode cX6_step 329 = .ok (.iload_n 3, 1) := by decide +kernel
theorem dX6_step_330 : decode cX6_step 330 = .ok (.iadd, 1) := by decide +kernel
theorem dX6_step_331 : decode cX6_step 331 = .ok (.invokevirtual 103, 3) := by decide +kernel
theorem dX6_step_334 : decode cX6_step 334 = .ok (.iload_n 3, 1) := by decide +kernel
theorem dX6_step_335 : decode cX6_step 335 = .ok (.ireturn, 1) := by decide +kernel
theorem dX6_quick_0 : decode cX6_quick 0 = .ok (.aload_n 0, 1) := by decide +kernel
theorem dX6_quick_1 : decode cX6_quick 1 = .ok (.iconst 0, 1) := by decide +kernel
theorem dX6_quick_2 : decode cX6_quick 2 = .ok (.putfield 64, 3) := by decide +kernel
theorem dX6_quick_5 : decode cX6_quick 5 = .ok (.aload_n 0, 1) := by decide +kernel
theorem dX6_quick_6 : decode cX6_quick 6 = .ok (.iconst 0, 1) := by decide +kernel
theorem dX6_quick_7 : decode cX6_quick 7 = .ok (.putfield 90, 3) := by decide +kernel
theorem dX6_quick_10 : decode cX6_quick 10 = .ok (.aload_n 0, 1) := by decide +kernel
theorem dX6_quick_11 : decode cX6_quick 11 = .ok (.iconst 0, 1) := by decide +kernel
theorem dX6_quick_12 : decode cX6_quick 12 = .ok (.putfield 93, 3) := by decide +kernel
theorem dX6_quick_15 : decode cX6_quick 15 = .ok (.aload_n 0, 1) := by decide +kernel
theorem dX6_quick_16 : decode cX6_quick 16 = .ok (.iconst 0, 1) := by decide +kernel
theorem dX6_quick_17 : decode cX6_quick 17 = .ok (.putfield 110, 3) := by decide +kernel
theorem dX6_quick_20 : decode cX6_quick 20 = .ok (.iconst 0, 1) := by decide +kernel
theorem dX6_quick_21 : decode cX6_quick 21 = .ok (.istore_n 1, 1) := by decide +kernel
theorem dX6_quick_22 : decode cX6_quick 22 = .ok (.iload_n 1, 1) := by decide +kernel
theorem dX6_quick_23 : decode cX6_quick 23 = .ok (.aload_n 0, 1) := by decide +kernel
theorem dX6_quick_24 : decode cX6_quick 24 = .ok (.getfield 81, 3) := by decide +kernel
theorem dX6_quick_27 : decode cX6_quick 27 = .ok (.if_icmp .ge 14, 3) := by decide +kernel
theorem dX6_quick_30 : decode cX6_quick 30 = .ok (.iload_n 1, 1) := by decide +kernel
theorem dX6_quick_31 : decode cX6_quick 31 = .ok (.aload_n 0, 1) := by decide +kernel
theorem dX6_quick_32 : decode cX6_quick 32 = .ok (.iload_n 1, 1) := by decide +kernel
theorem dX6_quick_33 : decode cX6_quick 33 = .ok (.invokevirtual 113, 3) := by decide +kernel
theorem dX6_quick_36 : decode cX6_quick 36 = .ok (.iadd, 1) := by decide +kernel
theorem dX6_quick_37 : decode cX6_quick 37 = .ok (.istore_n 1, 1) := by decide +kernel
theorem dX6_quick_38 : decode cX6_quick 38 = .ok (.goto (-16), 3) := by decide +kernel
theorem dX6_quick_41 : decode cX6_quick 41 = .ok (.aload_n 0, 1) := by decide +kernel
theorem dX6_quick_42 : decode cX6_quick 42 = .ok (.getfield 93, 3) := by decide +kernel
theorem dX6_quick_45 : decode cX6_quick 45 = .ok (.ifCond .le 15, 3) := by decide +kernel
theorem dX6_quick_48 : decode cX6_quick 48 = .ok (.aload_n 0, 1) := by decide +kernel
theorem dX6_quick_49 : decode cX6_quick 49 = .ok (.iconst 2, 1) := by decide +kernel
theorem dX6_quick_50 : decode cX6_quick 50 = .ok (.aload_n 0, 1) := by decide +kernel
theorem dX6_quick_51 : decode cX6_quick 51 = .ok (.getfield 81, 3) := by decide +kernel
theorem dX6_quick_54 : decode cX6_quick 54 = .ok (.invokevirtual 103, 3) := by decide +kernel
theorem dX6_quick_57 : decode cX6_quick 57 = .ok (.goto (-16), 3) := by decide +kernel
theorem dX6_quick_60 : decode cX6_quick 60 = .ok (.aload_n 0, 1) := by decide +kernel
theorem dX6_quick_61 : decode cX6_quick 61 = .ok (.iconst 1, 1) := by decide +kernel
theorem dX6_quick_62 : decode cX6_quick 62 = .ok (.putfield 84, 3) := by decide +kernel
theorem dX6_quick_65 : decode cX6_quick 65 = .ok (.aload_n 0, 1) := by decide +kernel
theorem dX6_quick_66 : decode cX6_quick 66 = .ok (.getfield 90, 3) := by decide +kernel
theorem dX6_quick_69 : decode cX6_quick 69 = .ok (.ireturn, 1) := by decide +kernel
theorem dX6_findMarks_0 : decode cX6_findMarks 0 = .ok (.aload_n 0, 1) := by decide +kernel
theorem dX6_findMarks_1 : decode cX6_findMarks 1 = .ok (.iconst 0, 1) := by decide +kernel
theorem dX6_findMarks_2 : decode cX6_findMarks 2 = .ok (.putfield 116, 3) := by decide +kernel
theorem dX6_findMarks_5 : decode cX6_findMarks 5 = .ok (.iconst 0, 1) := by decide +kernel
theorem dX6_findMarks_6 : decode cX6_findMarks 6 = .ok (.istore_n 1, 1) := by decide +kernel
theorem dX6_findMarks_7 : decode cX6_findMarks 7 = .ok (.iload_n 1, 1) := by decide +kernel
theorem dX6_findMarks_8 : decode cX6_findMarks 8 = .ok (.aload_n 0, 1) := by decide +kernel
theorem dX6_findMarks_9 : decode cX6_findMarks 9 = .ok (.getfield 81, 3) := by decide +kernel
theorem dX6_findMarks_12 : decode cX6_findMarks 12 = .ok (.if_icmp .ge 151, 3) := by decide +kernel
theorem dX6_findMarks_15 : decode cX6_findMarks 15 = .ok (.iconst 0, 1) := by decide +kernel
theorem dX6_findMarks_16 : decode cX6_findMarks 16 = .ok (.istore_n 2, 1) := by decide +kernel
theorem dX6_findMarks_17 : decode cX6_findMarks 17 = .ok (.iconst 0, 1) := by decide +kernel
theorem dX6_findMarks_18 : decode cX6_findMarks 18 = .ok (.istore_n 3, 1) := by decide +kernel
theorem dX6_findMarks_19 : decode cX6_findMarks 19 = .ok (.iload_n 3, 1) := by decide +kernel
theorem dX6_findMarks_20 : decode cX6_findMarks 20 = .ok (.bipush 6, 2) := by decide +kernel
theorem dX6_findMarks_22 : decode cX6_findMarks 22 = .ok (.if_icmp .ge 79, 3) := by decide +kernel
theorem dX6_findMarks_25 : decode cX6_findMarks 25 = .ok (.aload_n 0, 1) := by decide +kernel
theorem dX6_findMarks_26 : decode cX6_findMarks 26 = .ok (.getfield 9, 3) := by decide +kernel
theorem dX6_findMarks_29 : decode cX6_findMarks 29 = .ok (.iload_n 1, 1) := by decide +kernel
theorem dX6_findMarks_30 : decode cX6_findMarks 30 = .ok (.iaload, 1) := by decide +kernel
theorem dX6_findMarks_31 : decode cX6_findMarks 31 = .ok (.aload_n 0, 1) := by decide +kernel
theorem dX6_findMarks_32 : decode cX6_findMarks 32 = .ok (.getfield 13, 3) := by decide +kernel
theorem dX6_findMarks_35 : decode cX6_findMarks 35 = .ok (.if_icmp .eq 66, 3) := by decide +kernel
theorem dX6_findMarks_38 : decode cX6_findMarks 38 = .ok (.aload_n 0, 1) := by decide +kernel
theorem dX6_findMarks_39 : decode cX6_findMarks 39 = .ok (.iload_n 3, 1) := by decide +kernel
theorem dX6_findMarks_40 : decode cX6_findMarks 40 = .ok (.invokevirtual 87, 3) := by decide +kernel
theorem dX6_findMarks_43 : decode cX6_findMarks 43 = .ok (.ifCond .ne 6, 3) := by decide +kernel
theorem dX6_findMarks_46 : decode cX6_findMarks 46 = .ok (.goto 49, 3) := by decide +kernel
theorem dX6_findMarks_49 : decode cX6_findMarks 49 = .ok (.aload_n 0, 1) := by decide +kernel
theorem dX6_findMarks_50 : decode cX6_findMarks 50 = .ok (.iload_n 3, 1) := by decide +kernel
theorem dX6_findMarks_51 : decode cX6_findMarks 51 = .ok (.iload_n 1, 1) := by decide +kernel
theorem dX6_findMarks_52 : decode cX6_findMarks 52 = .ok (.invokevirtual 96, 3) := by decide +kernel
theorem dX6_findMarks_55 : decode cX6_findMarks 55 = .ok (.ifCond .eq 14, 3) := by decide +kernel
theorem dX6_findMarks_58 : decode cX6_findMarks 58 = .ok (.iload_n 2, 1) := by decide +kernel
theorem dX6_findMarks_59 : decode cX6_findMarks 59 = .ok (.aload_n 0, 1) := by decide +kernel
theorem dX6_findMarks_60 : decode cX6_findMarks 60 = .ok (.getfield 21, 3) := by decide +kernel
theorem dX6_findMarks_63 : decode cX6_findMarks 63 = .ok (.iload_n 3, 1) := by decide +kernel
theorem dX6_findMarks_64 : decode cX6_findMarks 64 = .ok (.iaload, 1) := by decide +kernel
theorem dX6_findMarks_65 : decode cX6_findMarks 65 = .ok (.invokestatic 119, 3) := by decide +kernel
theorem dX6_findMarks_68 : decode cX6_findMarks 68 = .ok (.istore_n 2, 1) := by decide +kernel
theorem dX6_findMarks_69 : decode cX6_findMarks 69 = .ok (.aload_n 0, 1) := by decide +kernel
theorem dX6_findMarks_70 : decode cX6_findMarks 70 = .ok (.bipush 6, 2) := by decide +kernel
theorem dX6_findMarks_72 : decode cX6_findMarks 72 = .ok (.iload_n 3, 1) := by decide +kernel
theorem dX6_findMarks_73 : decode cX6_findMarks 73 = .ok (.iadd, 1) := by decide +kernel
theorem dX6_findMarks_74 : decode cX6_findMarks 74 = .ok (.iload_n 1, 1) := by decide +kernel
theorem dX6_findMarks_75 : decode cX6_findMarks 75 = .ok (.invokevirtual 96, 3) := by decide +kernel
theorem dX6_findMarks_78 : decode cX6_findMarks 78 = .ok (.ifCond .eq 17, 3) := by decide +kernel
theorem dX6_findMarks_81 : decode cX6_findMarks 81 = .ok (.iload_n 2, 1) := by decide +kernel
theorem dX6_findMarks_82 : decode cX6_findMarks 82 = .ok (.aload_n 0, 1) := by decide +kernel
theorem dX6_findMarks_83 : decode cX6_findMarks 83 = .ok (.getfield 21, 3) := by decide +kernel
theorem dX6_findMarks_86 : decode cX6_findMarks 86 = .ok (.bipush 6, 2) := by decide +kernel
theorem dX6_findMarks_88 : decode cX6_findMarks 88 = .ok (.iload_n 3, 1) := by decide +kernel
theorem dX6_findMarks_89 : decode cX6_findMarks 89 = .ok (.iadd, 1) := by decide +kernel
theorem dX6_findMarks_90 : decode cX6_findMarks 90 = .ok (.iaload, 1) := by decide +kernel
theorem dX6_findMarks_91 : decode cX6_findMarks 91 = .ok (.invokestatic 119, 3) := by decide +kernel
theorem dX6_findMarks_94 : decode cX6_findMarks 94 = .ok (.istore_n 2, 1) := by decide +kernel
theorem dX6_findMarks_95 : decode cX6_findMarks 95 = .ok (.iinc 3 1, 3) := by decide +kernel
theorem dX6_findMarks_98 : decode cX6_findMarks 98 = .ok (.goto (-79), 3) := by decide +kernel
theorem dX6_findMarks_101 : decode cX6_findMarks 101 = .ok (.iload_n 2, 1) := by decide +kernel
theorem dX6_findMarks_102 : decode cX6_findMarks 102 = .ok (.ifCond .le 33, 3) := by decide +kernel
theorem dX6_findMarks_105 : decode cX6_findMarks 105 = .ok (.aload_n 0, 1) := by decide +kernel
theorem dX6_findMarks_106 : decode cX6_findMarks 106 = .ok (.getfield 55, 3) := by decide +kernel
theorem dX6_findMarks_109 : decode cX6_findMarks 109 = .ok (.aload_n 0, 1) := by decide +kernel
theorem dX6_findMarks_110 : decode cX6_findMarks 110 = .ok (.getfield 116, 3) := by decide +kernel
theorem dX6_findMarks_113 : decode cX6_findMarks 113 = .ok (.iload_n 1, 1) := by decide +kernel
theorem dX6_findMarks_114 : decode cX6_findMarks 114 = .ok (.iastore, 1) := by decide +kernel
theorem dX6_findMarks_115 : decode cX6_findMarks 115 = .ok (.aload_n 0, 1) := by decide +kernel
theorem dX6_findMarks_116 : decode cX6_findMarks 116 = .ok (.getfield 58, 3) := by decide +kernel
theorem dX6_findMarks_119 : decode cX6_findMarks 119 = .ok (.aload_n 0, 1) := by decide +kernel
theorem dX6_findMarks_120 : decode cX6_findMarks 120 = .ok (.getfield 116, 3) := by decide +kernel
theorem dX6_findMarks_123 : decode cX6_findMarks 123 = .ok (.iload_n 2, 1) := by decide +kernel
theorem dX6_findMarks_124 : decode cX6_findMarks 124 = .ok (.iastore, 1) := by decide +kernel
theorem dX6_findMarks_125 : decode cX6_findMarks 125 = .ok (.aload_n 0, 1) := by decide +kernel
theorem dX6_findMarks_126 : decode cX6_findMarks 126 = .ok (.dup, 1) := by decide +kernel
theorem dX6_findMarks_127 : decode cX6_findMarks 127 = .ok (.getfield 116, 3) := by decide +kernel
theorem dX6_findMarks_130 : decode cX6_findMarks 130 = .ok (.iconst 1, 1) := by decide +kernel
theorem dX6_findMarks_131 : decode cX6_findMarks 131 = .ok (.iadd, 1) := by decide +kernel
theorem dX6_findMarks_132 : decode cX6_findMarks 132 = .ok (.putfield 116, 3) := by decide +kernel
theorem dX6_findMarks_135 : decode cX6_findMarks 135 = .ok (.iload_n 1, 1) := by decide +kernel
theorem dX6_findMarks_136 : decode cX6_findMarks 136 = .ok (.aload_n 0, 1) := by decide +kernel
theorem dX6_findMarks_137 : decode cX6_findMarks 137 = .ok (.getfield 9, 3) := by decide +kernel
theorem dX6_findMarks_140 : decode cX6_findMarks 140 = .ok (.iload_n 1, 1) := by decide +kernel
theorem dX6_findMarks_141 : decode cX6_findMarks 141 = .ok (.iaload, 1) := by decide +kernel
theorem dX6_findMarks_142 : decode cX6_findMarks 142 = .ok (.aload_n 0, 1) := by decide +kernel
theorem dX6_findMarks_143 : decode cX6_findMarks 143 = .ok (.getfield 13, 3) := by decide +kernel
theorem dX6_findMarks_146 : decode cX6_findMarks 146 = .ok (.if_icmp .ne 7, 3) := by decide +kernel
theorem dX6_findMarks_149 : decode cX6_findMarks 149 = .ok (.iconst 2, 1) := by decide +kernel
theorem dX6_findMarks_150 : decode cX6_findMarks 150 = .ok (.goto 8, 3) := by decide +kernel
theorem dX6_findMarks_153 : decode cX6_findMarks 153 = .ok (.iconst 1, 1) := by decide +kernel
theorem dX6_findMarks_154 : decode cX6_findMarks 154 = .ok (.iload_n 2, 1) := by decide +kernel
theorem dX6_findMarks_155 : decode cX6_findMarks 155 = .ok (.invokestatic 119, 3) := by decide +kernel
theorem dX6_findMarks_158 : decode cX6_findMarks 158 = .ok (.iadd, 1) := by decide +kernel
theorem dX6_findMarks_159 : decode cX6_findMarks 159 = .ok (.istore_n 1, 1) := by decide +kernel
theorem dX6_findMarks_160 : decode cX6_findMarks 160 = .ok (.goto (-153), 3) := by decide +kernel
theorem dX6_findMarks_163 : decode cX6_findMarks 163 = .ok (.return_, 1) := by decide +kernel
theorem dX6_isWord_0 : decode cX6_isWord 0 = .ok (.aload_n 0, 1) := by decide +kernel
theorem dX6_isWord_1 : decode cX6_isWord 1 = .ok (.iload_n 2, 1) := by decide +kernel
theorem dX6_isWord_2 : decode cX6_isWord 2 = .ok (.aload_n 0, 1) := by decide +kernel
theorem dX6_isWord_3 : decode cX6_isWord 3 = .ok (.getfield 55, 3) := by decide +kernel
theorem dX6_isWord_6 : decode cX6_isWord 6 = .ok (.iload_n 1, 1) := by decide +kernel
theorem dX6_isWord_7 : decode cX6_isWord 7 = .ok (.iaload, 1) := by decide +kernel
theorem dX6_isWord_8 : decode cX6_isWord 8 = .ok (.invokevirtual 96, 3) := by decide +kernel
theorem dX6_isWord_11 : decode cX6_isWord 11 = .ok (.ifCond .eq 22, 3) := by decide +kernel
theorem dX6_isWord_14 : decode cX6_isWord 14 = .ok (.aload_n 0, 1) := by decide +kernel
theorem dX6_isWord_15 : decode cX6_isWord 15 = .ok (.getfield 21, 3) := by decide +kernel
theorem dX6_isWord_18 : decode cX6_isWord 18 = .ok (.iload_n 2, 1) := by decide +kernel
theorem dX6_isWord_19 : decode cX6_isWord 19 = .ok (.iaload, 1) := by decide +kernel
theorem dX6_isWord_20 : decode cX6_isWord 20 = .ok (.aload_n 0, 1) := by decide +kernel
theorem dX6_isWord_21 : decode cX6_isWord 21 = .ok (.getfield 58, 3) := by decide +kernel
theorem dX6_isWord_24 : decode cX6_isWord 24 = .ok (.iload_n 1, 1) := by decide +kernel
theorem dX6_isWord_25 : decode cX6_isWord 25 = .ok (.iaload, 1) := by decide +kernel
theorem dX6_isWord_26 : decode cX6_isWord 26 = .ok (.if_icmp .ne 7, 3) := by decide +kernel
theorem dX6_isWord_29 : decode cX6_isWord 29 = .ok (.iconst 1, 1) := by decide +kernel
theorem dX6_isWord_30 : decode cX6_isWord 30 = .ok (.goto 4, 3) := by decide +kernel
theorem dX6_isWord_33 : decode cX6_isWord 33 = .ok (.iconst 0, 1) := by decide +kernel
theorem dX6_isWord_34 : decode cX6_isWord 34 = .ok (.ireturn, 1) := by decide +kernel
theorem dX6_at_0 : decode cX6_at 0 = .ok (.iload_n 1, 1) := by decide +kernel
theorem dX6_at_1 : decode cX6_at 1 = .ok (.bipush 49, 2) := by decide +kernel
theorem dX6_at_3 : decode cX6_at 3 = .ok (.imul, 1) := by decide +kernel
theorem dX6_at_4 : decode cX6_at 4 = .ok (.iload_n 2, 1) := by decide +kernel
theorem dX6_at_5 : decode cX6_at 5 = .ok (.iadd, 1) := by decide +kernel
theorem dX6_at_6 : decode cX6_at 6 = .ok (.bipush 7, 2) := by decide +kernel
theorem dX6_at_8 : decode cX6_at 8 = .ok (.imul, 1) := by decide +kernel
theorem dX6_at_9 : decode cX6_at 9 = .ok (.iload_n 3, 1) := by decide +kernel
theorem dX6_at_10 : decode cX6_at 10 = .ok (.iadd, 1) := by decide +kernel
theorem dX6_at_11 : decode cX6_at 11 = .ok (.ireturn, 1) := by decide +kernel
theorem dX6_paired_0 : decode cX6_paired 0 = .ok (.aload_n 0, 1) := by decide +kernel
theorem dX6_paired_1 : decode cX6_paired 1 = .ok (.getfield 27, 3) := by decide +kernel
theorem dX6_paired_4 : decode cX6_paired 4 = .ok (.iload_n 3, 1) := by decide +kernel
theorem dX6_paired_5 : decode cX6_paired 5 = .ok (.baload, 1) := by decide +kernel
theorem dX6_paired_6 : decode cX6_paired 6 = .ok (.ifCond .eq 7, 3) := by decide +kernel
theorem dX6_paired_9 : decode cX6_paired 9 = .ok (.iconst 0, 1) := by decide +kernel
theorem dX6_paired_10 : decode cX6_paired 10 = .ok (.goto 17, 3) := by decide +kernel
theorem dX6_paired_13 : decode cX6_paired 13 = .ok (.aload_n 0, 1) := by decide +kernel
theorem dX6_paired_14 : decode cX6_paired 14 = .ok (.getfield 61, 3) := by decide +kernel
theorem dX6_paired_17 : decode cX6_paired 17 = .ok (.aload_n 0, 1) := by decide +kernel
theorem dX6_paired_18 : decode cX6_paired 18 = .ok (.iload_n 1, 1) := by decide +kernel
theorem dX6_paired_19 : decode cX6_paired 19 = .ok (.iconst 1, 1) := by decide +kernel
theorem dX6_paired_20 : decode cX6_paired 20 = .ok (.iadd, 1) := by decide +kernel
theorem dX6_paired_21 : decode cX6_paired 21 = .ok (.iload_n 2, 1) := by decide +kernel
theorem dX6_paired_22 : decode cX6_paired 22 = .ok (.iload_n 3, 1) := by decide +kernel
theorem dX6_paired_23 : decode cX6_paired 23 = .ok (.invokevirtual 125, 3) := by decide +kernel
theorem dX6_paired_26 : decode cX6_paired 26 = .ok (.iaload, 1) := by decide +kernel
theorem dX6_paired_27 : decode cX6_paired 27 = .ok (.aload_n 0, 1) := by decide +kernel
theorem dX6_paired_28 : decode cX6_paired 28 = .ok (.getfield 61, 3) := by decide +kernel
theorem dX6_paired_31 : decode cX6_paired 31 = .ok (.aload_n 0, 1) := by decide +kernel
theorem dX6_paired_32 : decode cX6_paired 32 = .ok (.iload_n 2, 1) := by decide +kernel
theorem dX6_paired_33 : decode cX6_paired 33 = .ok (.iconst 1, 1) := by decide +kernel
theorem dX6_paired_34 : decode cX6_paired 34 = .ok (.iadd, 1) := by decide +kernel
theorem dX6_paired_35 : decode cX6_paired 35 = .ok (.iload 4, 2) := by decide +kernel
theorem dX6_paired_37 : decode cX6_paired 37 = .ok (.iload 5, 2) := by decide +kernel
theorem dX6_paired_39 : decode cX6_paired 39 = .ok (.invokevirtual 125, 3) := by decide +kernel
theorem dX6_paired_42 : decode cX6_paired 42 = .ok (.iaload, 1) := by decide +kernel
theorem dX6_paired_43 : decode cX6_paired 43 = .ok (.iadd, 1) := by decide +kernel
theorem dX6_paired_44 : decode cX6_paired 44 = .ok (.ireturn, 1) := by decide +kernel
theorem dX6_canPair_0 : decode cX6_canPair 0 = .ok (.aload_n 0, 1) := by decide +kernel
theorem dX6_canPair_1 : decode cX6_canPair 1 = .ok (.iload_n 3, 1) := by decide +kernel
theorem dX6_canPair_2 : decode cX6_canPair 2 = .ok (.iload 4, 2) := by decide +kernel
theorem dX6_canPair_4 : decode cX6_canPair 4 = .ok (.invokevirtual 100, 3) := by decide +kernel
theorem dX6_canPair_7 : decode cX6_canPair 7 = .ok (.ifCond .eq 28, 3) := by decide +kernel
theorem dX6_canPair_10 : decode cX6_canPair 10 = .ok (.aload_n 0, 1) := by decide +kernel
theorem dX6_canPair_11 : decode cX6_canPair 11 = .ok (.iload_n 1, 1) := by decide +kernel
theorem dX6_canPair_12 : decode cX6_canPair 12 = .ok (.iload_n 3, 1) := by decide +kernel
theorem dX6_canPair_13 : decode cX6_canPair 13 = .ok (.invokevirtual 129, 3) := by decide +kernel
theorem dX6_canPair_16 : decode cX6_canPair 16 = .ok (.ifCond .eq 19, 3) := by decide +kernel
theorem dX6_canPair_19 : decode cX6_canPair 19 = .ok (.aload_n 0, 1) := by decide +kernel
theorem dX6_canPair_20 : decode cX6_canPair 20 = .ok (.iload_n 2, 1) := by decide +kernel
theorem dX6_canPair_21 : decode cX6_canPair 21 = .ok (.bipush 6, 2) := by decide +kernel
theorem dX6_canPair_23 : decode cX6_canPair 23 = .ok (.iload_n 3, 1) := by decide +kernel
theorem dX6_canPair_24 : decode cX6_canPair 24 = .ok (.iadd, 1) := by decide +kernel
theorem dX6_canPair_25 : decode cX6_canPair 25 = .ok (.invokevirtual 129, 3) := by decide +kernel
theorem dX6_canPair_28 : decode cX6_canPair 28 = .ok (.ifCond .eq 7, 3) := by decide +kernel
theorem dX6_canPair_31 : decode cX6_canPair 31 = .ok (.iconst 1, 1) := by decide +kernel
theorem dX6_canPair_32 : decode cX6_canPair 32 = .ok (.goto 4, 3) := by decide +kernel
theorem dX6_canPair_35 : decode cX6_canPair 35 = .ok (.iconst 0, 1) := by decide +kernel
theorem dX6_canPair_36 : decode cX6_canPair 36 = .ok (.ireturn, 1) := by decide +kernel
theorem dX6_count_0 : decode cX6_count 0 = .ok (.aload_n 0, 1) := by decide +kernel
theorem dX6_count_1 : decode cX6_count 1 = .ok (.getfield 116, 3) := by decide +kernel
theorem dX6_count_4 : decode cX6_count 4 = .ok (.istore_n 1, 1) := by decide +kernel
theorem dX6_count_5 : decode cX6_count 5 = .ok (.iload_n 1, 1) := by decide +kernel
theorem dX6_count_6 : decode cX6_count 6 = .ok (.ifCond .lt 164, 3) := by decide +kernel
theorem dX6_count_9 : decode cX6_count 9 = .ok (.iconst 0, 1) := by decide +kernel
theorem dX6_count_10 : decode cX6_count 10 = .ok (.istore_n 2, 1) := by decide +kernel
theorem dX6_count_11 : decode cX6_count 11 = .ok (.iload_n 2, 1) := by decide +kernel
theorem dX6_count_12 : decode cX6_count 12 = .ok (.bipush 6, 2) := by decide +kernel
theorem dX6_count_14 : decode cX6_count 14 = .ok (.if_icmp .gt 22, 3) := by decide +kernel
theorem dX6_count_17 : decode cX6_count 17 = .ok (.aload_n 0, 1) := by decide +kernel
theorem dX6_count_18 : decode cX6_count 18 = .ok (.getfield 61, 3) := by decide +kernel
theorem dX6_count_21 : decode cX6_count 21 = .ok (.aload_n 0, 1) := by decide +kernel
theorem dX6_count_22 : decode cX6_count 22 = .ok (.iload_n 1, 1) := by decide +kernel
theorem dX6_count_23 : decode cX6_count 23 = .ok (.iload_n 1, 1) := by decide +kernel
theorem dX6_count_24 : decode cX6_count 24 = .ok (.iload_n 2, 1) := by decide +kernel
theorem dX6_count_25 : decode cX6_count 25 = .ok (.invokevirtual 125, 3) := by decide +kernel
theorem dX6_count_28 : decode cX6_count 28 = .ok (.iconst 0, 1) := by decide +kernel
theorem dX6_count_29 : decode cX6_count 29 = .ok (.iastore, 1) := by decide +kernel
theorem dX6_count_30 : decode cX6_count 30 = .ok (.iinc 2 1, 3) := by decide +kernel
theorem dX6_count_33 : decode cX6_count 33 = .ok (.goto (-22), 3) := by decide +kernel
theorem dX6_count_36 : decode cX6_count 36 = .ok (.iload_n 1, 1) := by decide +kernel
theorem dX6_count_37 : decode cX6_count 37 = .ok (.iconst 1, 1) := by decide +kernel
theorem dX6_count_38 : decode cX6_count 38 = .ok (.iadd, 1) := by decide +kernel
theorem dX6_count_39 : decode cX6_count 39 = .ok (.istore_n 2, 1) := by decide +kernel
theorem dX6_count_40 : decode cX6_count 40 = .ok (.iload_n 2, 1) := by decide +kernel
theorem dX6_count_41 : decode cX6_count 41 = .ok (.aload_n 0, 1) := by decide +kernel
theorem dX6_count_42 : decode cX6_count 42 = .ok (.getfield 116, 3) := by decide +kernel
theorem dX6_count_45 : decode cX6_count 45 = .ok (.if_icmp .gt 119, 3) := by decide +kernel
theorem dX6_count_48 : decode cX6_count 48 = .ok (.iconst 0, 1) := by decide +kernel
theorem dX6_count_49 : decode cX6_count 49 = .ok (.istore_n 3, 1) := by decide +kernel
theorem dX6_count_50 : decode cX6_count 50 = .ok (.iload_n 3, 1) := by decide +kernel
theorem dX6_count_51 : decode cX6_count 51 = .ok (.bipush 6, 2) := by decide +kernel
theorem dX6_count_53 : decode cX6_count 53 = .ok (.if_icmp .gt 105, 3) := by decide +kernel
theorem dX6_count_56 : decode cX6_count 56 = .ok (.iconst 1, 1) := by decide +kernel
theorem dX6_count_57 : decode cX6_count 57 = .ok (.aload_n 0, 1) := by decide +kernel
theorem dX6_count_58 : decode cX6_count 58 = .ok (.getfield 61, 3) := by decide +kernel
theorem dX6_count_61 : decode cX6_count 61 = .ok (.aload_n 0, 1) := by decide +kernel
theorem dX6_count_62 : decode cX6_count 62 = .ok (.iload_n 1, 1) := by decide +kernel
theorem dX6_count_63 : decode cX6_count 63 = .ok (.iconst 1, 1) := by decide +kernel
theorem dX6_count_64 : decode cX6_count 64 = .ok (.iadd, 1) := by decide +kernel
theorem dX6_count_65 : decode cX6_count 65 = .ok (.iload_n 2, 1) := by decide +kernel
theorem dX6_count_66 : decode cX6_count 66 = .ok (.iload_n 3, 1) := by decide +kernel
theorem dX6_count_67 : decode cX6_count 67 = .ok (.invokevirtual 125, 3) := by decide +kernel
theorem dX6_count_70 : decode cX6_count 70 = .ok (.iaload, 1) := by decide +kernel
theorem dX6_count_71 : decode cX6_count 71 = .ok (.iadd, 1) := by decide +kernel
theorem dX6_count_72 : decode cX6_count 72 = .ok (.istore 4, 2) := by decide +kernel
theorem dX6_count_74 : decode cX6_count 74 = .ok (.iconst 0, 1) := by decide +kernel
theorem dX6_count_75 : decode cX6_count 75 = .ok (.istore 5, 2) := by decide +kernel
theorem dX6_count_77 : decode cX6_count 77 = .ok (.iload 5, 2) := by decide +kernel
theorem dX6_count_79 : decode cX6_count 79 = .ok (.bipush 6, 2) := by decide +kernel
theorem dX6_count_81 : decode cX6_count 81 = .ok (.if_icmp .ge 57, 3) := by decide +kernel
theorem dX6_count_84 : decode cX6_count 84 = .ok (.iload_n 1, 1) := by decide +kernel
theorem dX6_count_85 : decode cX6_count 85 = .ok (.iconst 1, 1) := by decide +kernel
theorem dX6_count_86 : decode cX6_count 86 = .ok (.iadd, 1) := by decide +kernel
theorem dX6_count_87 : decode cX6_count 87 = .ok (.istore 6, 2) := by decide +kernel
theorem dX6_count_89 : decode cX6_count 89 = .ok (.iload 6, 2) := by decide +kernel
theorem dX6_count_91 : decode cX6_count 91 = .ok (.iload_n 2, 1) := by decide +kernel
theorem dX6_count_92 : decode cX6_count 92 = .ok (.if_icmp .ge 40, 3) := by decide +kernel
theorem dX6_count_95 : decode cX6_count 95 = .ok (.aload_n 0, 1) := by decide +kernel
theorem dX6_count_96 : decode cX6_count 96 = .ok (.iload_n 1, 1) := by decide +kernel
theorem dX6_count_97 : decode cX6_count 97 = .ok (.iload 6, 2) := by decide +kernel
theorem dX6_count_99 : decode cX6_count 99 = .ok (.iload 5, 2) := by decide +kernel
theorem dX6_count_101 : decode cX6_count 101 = .ok (.iload_n 3, 1) := by decide +kernel
theorem dX6_count_102 : decode cX6_count 102 = .ok (.invokevirtual 132, 3) := by decide +kernel
theorem dX6_count_105 : decode cX6_count 105 = .ok (.ifCond .eq 21, 3) := by decide +kernel
theorem dX6_count_108 : decode cX6_count 108 = .ok (.iload 4, 2) := by decide +kernel
theorem dX6_count_110 : decode cX6_count 110 = .ok (.aload_n 0, 1) := by decide +kernel
theorem dX6_count_111 : decode cX6_count 111 = .ok (.iload_n 1, 1) := by decide +kernel
theorem dX6_count_112 : decode cX6_count 112 = .ok (.iload 6, 2) := by decide +kernel
theorem dX6_count_114 : decode cX6_count 114 = .ok (.iload 5, 2) := by decide +kernel
theorem dX6_count_116 : decode cX6_count 116 = .ok (.iload_n 2, 1) := by decide +kernel
theorem dX6_count_117 : decode cX6_count 117 = .ok (.iload_n 3, 1) := by decide +kernel
theorem dX6_count_118 : decode cX6_count 118 = .ok (.invokevirtual 136, 3) := by decide +kernel
theorem dX6_count_121 : decode cX6_count 121 = .ok (.invokestatic 140, 3) := by decide +kernel
theorem dX6_count_124 : decode cX6_count 124 = .ok (.istore 4, 2) := by decide +kernel
theorem dX6_count_126 : decode cX6_count 126 = .ok (.iinc 6 1, 3) := by decide +kernel
theorem dX6_count_129 : decode cX6_count 129 = .ok (.goto (-40), 3) := by decide +kernel
theorem dX6_count_132 : decode cX6_count 132 = .ok (.iinc 5 1, 3) := by decide +kernel
theorem dX6_count_135 : decode cX6_count 135 = .ok (.goto (-58), 3) := by decide +kernel
theorem dX6_count_138 : decode cX6_count 138 = .ok (.aload_n 0, 1) := by decide +kernel
theorem dX6_count_139 : decode cX6_count 139 = .ok (.getfield 61, 3) := by decide +kernel
theorem dX6_count_142 : decode cX6_count 142 = .ok (.aload_n 0, 1) := by decide +kernel
theorem dX6_count_143 : decode cX6_count 143 = .ok (.iload_n 1, 1) := by decide +kernel
theorem dX6_count_144 : decode cX6_count 144 = .ok (.iload_n 2, 1) := by decide +kernel
theorem dX6_count_145 : decode cX6_count 145 = .ok (.iload_n 3, 1) := by decide +kernel
theorem dX6_count_146 : decode cX6_count 146 = .ok (.invokevirtual 125, 3) := by decide +kernel
theorem dX6_count_149 : decode cX6_count 149 = .ok (.iload 4, 2) := by decide +kernel
theorem dX6_count_151 : decode cX6_count 151 = .ok (.iastore, 1) := by decide +kernel
theorem dX6_count_152 : decode cX6_count 152 = .ok (.iinc 3 1, 3) := by decide +kernel
theorem dX6_count_155 : decode cX6_count 155 = .ok (.goto (-105), 3) := by decide +kernel
theorem dX6_count_158 : decode cX6_count 158 = .ok (.iinc 2 1, 3) := by decide +kernel
theorem dX6_count_161 : decode cX6_count 161 = .ok (.goto (-121), 3) := by decide +kernel
theorem dX6_count_164 : decode cX6_count 164 = .ok (.iinc 1 (-1), 3) := by decide +kernel
theorem dX6_count_167 : decode cX6_count 167 = .ok (.goto (-162), 3) := by decide +kernel
theorem dX6_count_170 : decode cX6_count 170 = .ok (.return_, 1) := by decide +kernel
theorem dX6_take_0 : decode cX6_take 0 = .ok (.iload_n 1, 1) := by decide +kernel
theorem dX6_take_1 : decode cX6_take 1 = .ok (.istore 5, 2) := by decide +kernel
theorem dX6_take_3 : decode cX6_take 3 = .ok (.iload 5, 2) := by decide +kernel
theorem dX6_take_5 : decode cX6_take 5 = .ok (.iload_n 2, 1) := by decide +kernel
theorem dX6_take_6 : decode cX6_take 6 = .ok (.if_icmp .ge 219, 3) := by decide +kernel
theorem dX6_take_9 : decode cX6_take 9 = .ok (.aload_n 0, 1) := by decide +kernel
theorem dX6_take_10 : decode cX6_take 10 = .ok (.getfield 61, 3) := by decide +kernel
theorem dX6_take_13 : decode cX6_take 13 = .ok (.aload_n 0, 1) := by decide +kernel
theorem dX6_take_14 : decode cX6_take 14 = .ok (.iload 5, 2) := by decide +kernel
theorem dX6_take_16 : decode cX6_take 16 = .ok (.iload_n 2, 1) := by decide +kernel
theorem dX6_take_17 : decode cX6_take 17 = .ok (.iload_n 3, 1) := by decide +kernel
theorem dX6_take_18 : decode cX6_take 18 = .ok (.invokevirtual 125, 3) := by decide +kernel
theorem dX6_take_21 : decode cX6_take 21 = .ok (.iaload, 1) := by decide +kernel
theorem dX6_take_22 : decode cX6_take 22 = .ok (.istore 6, 2) := by decide +kernel
theorem dX6_take_24 : decode cX6_take 24 = .ok (.iconst 0, 1) := by decide +kernel
theorem dX6_take_25 : decode cX6_take 25 = .ok (.istore 7, 2) := by decide +kernel
theorem dX6_take_27 : decode cX6_take 27 = .ok (.iload 5, 2) := by decide +kernel
theorem dX6_take_29 : decode cX6_take 29 = .ok (.iconst 1, 1) := by decide +kernel
theorem dX6_take_30 : decode cX6_take 30 = .ok (.iadd, 1) := by decide +kernel
theorem dX6_take_31 : decode cX6_take 31 = .ok (.istore 8, 2) := by decide +kernel
theorem dX6_take_33 : decode cX6_take 33 = .ok (.iload 7, 2) := by decide +kernel
theorem dX6_take_35 : decode cX6_take 35 = .ok (.bipush 6, 2) := by decide +kernel
theorem dX6_take_37 : decode cX6_take 37 = .ok (.if_icmp .ge 64, 3) := by decide +kernel
theorem dX6_take_40 : decode cX6_take 40 = .ok (.iload 8, 2) := by decide +kernel
theorem dX6_take_42 : decode cX6_take 42 = .ok (.iload_n 2, 1) := by decide +kernel
theorem dX6_take_43 : decode cX6_take 43 = .ok (.if_icmp .ge 34, 3) := by decide +kernel
theorem dX6_take_46 : decode cX6_take 46 = .ok (.aload_n 0, 1) := by decide +kernel
theorem dX6_take_47 : decode cX6_take 47 = .ok (.iload 5, 2) := by decide +kernel
theorem dX6_take_49 : decode cX6_take 49 = .ok (.iload 8, 2) := by decide +kernel
theorem dX6_take_51 : decode cX6_take 51 = .ok (.iload 7, 2) := by decide +kernel
theorem dX6_take_53 : decode cX6_take 53 = .ok (.iload_n 3, 1) := by decide +kernel
theorem dX6_take_54 : decode cX6_take 54 = .ok (.invokevirtual 132, 3) := by decide +kernel
theorem dX6_take_57 : decode cX6_take 57 = .ok (.ifCond .eq 20, 3) := by decide +kernel
theorem dX6_take_60 : decode cX6_take 60 = .ok (.aload_n 0, 1) := by decide +kernel
theorem dX6_take_61 : decode cX6_take 61 = .ok (.iload 5, 2) := by decide +kernel
theorem dX6_take_63 : decode cX6_take 63 = .ok (.iload 8, 2) := by decide +kernel
theorem dX6_take_65 : decode cX6_take 65 = .ok (.iload 7, 2) := by decide +kernel
theorem dX6_take_67 : decode cX6_take 67 = .ok (.iload_n 2, 1) := by decide +kernel
theorem dX6_take_68 : decode cX6_take 68 = .ok (.iload_n 3, 1) := by decide +kernel
theorem dX6_take_69 : decode cX6_take 69 = .ok (.invokevirtual 136, 3) := by decide +kernel
theorem dX6_take_72 : decode cX6_take 72 = .ok (.iload 6, 2) := by decide +kernel
theorem dX6_take_74 : decode cX6_take 74 = .ok (.if_icmp .eq 27, 3) := by decide +kernel
theorem dX6_take_77 : decode cX6_take 77 = .ok (.iinc 8 1, 3) := by decide +kernel
theorem dX6_take_80 : decode cX6_take 80 = .ok (.iload 8, 2) := by decide +kernel
theorem dX6_take_82 : decode cX6_take 82 = .ok (.iload_n 2, 1) := by decide +kernel
theorem dX6_take_83 : decode cX6_take 83 = .ok (.if_icmp .ge 6, 3) := by decide +kernel
theorem dX6_take_86 : decode cX6_take 86 = .ok (.goto (-53), 3) := by decide +kernel
theorem dX6_take_89 : decode cX6_take 89 = .ok (.iload 5, 2) := by decide +kernel
theorem dX6_take_91 : decode cX6_take 91 = .ok (.iconst 1, 1) := by decide +kernel
theorem dX6_take_92 : decode cX6_take 92 = .ok (.iadd, 1) := by decide +kernel
theorem dX6_take_93 : decode cX6_take 93 = .ok (.istore 8, 2) := by decide +kernel
theorem dX6_take_95 : decode cX6_take 95 = .ok (.iinc 7 1, 3) := by decide +kernel
theorem dX6_take_98 : decode cX6_take 98 = .ok (.goto (-65), 3) := by decide +kernel
theorem dX6_take_101 : decode cX6_take 101 = .ok (.iload 7, 2) := by decide +kernel
theorem dX6_take_103 : decode cX6_take 103 = .ok (.bipush 6, 2) := by decide +kernel
theorem dX6_take_105 : decode cX6_take 105 = .ok (.if_icmp .ne 9, 3) := by decide +kernel
theorem dX6_take_108 : decode cX6_take 108 = .ok (.iinc 5 1, 3) := by decide +kernel
theorem dX6_take_111 : decode cX6_take 111 = .ok (.goto (-108), 3) := by decide +kernel
theorem dX6_take_114 : decode cX6_take 114 = .ok (.aload_n 0, 1) := by decide +kernel
theorem dX6_take_115 : decode cX6_take 115 = .ok (.getfield 90, 3) := by decide +kernel
theorem dX6_take_118 : decode cX6_take 118 = .ok (.istore 9, 2) := by decide +kernel
theorem dX6_take_120 : decode cX6_take 120 = .ok (.aload_n 0, 1) := by decide +kernel
theorem dX6_take_121 : decode cX6_take 121 = .ok (.getfield 37, 3) := by decide +kernel
theorem dX6_take_124 : decode cX6_take 124 = .ok (.iload 9, 2) := by decide +kernel
theorem dX6_take_126 : decode cX6_take 126 = .ok (.iload 7, 2) := by decide +kernel
theorem dX6_take_128 : decode cX6_take 128 = .ok (.iastore, 1) := by decide +kernel
theorem dX6_take_129 : decode cX6_take 129 = .ok (.aload_n 0, 1) := by decide +kernel
theorem dX6_take_130 : decode cX6_take 130 = .ok (.getfield 40, 3) := by decide +kernel
theorem dX6_take_133 : decode cX6_take 133 = .ok (.iload 9, 2) := by decide +kernel
theorem dX6_take_135 : decode cX6_take 135 = .ok (.aload_n 0, 1) := by decide +kernel
theorem dX6_take_136 : decode cX6_take 136 = .ok (.getfield 55, 3) := by decide +kernel
theorem dX6_take_139 : decode cX6_take 139 = .ok (.iload 5, 2) := by decide +kernel
theorem dX6_take_141 : decode cX6_take 141 = .ok (.iaload, 1) := by decide +kernel
theorem dX6_take_142 : decode cX6_take 142 = .ok (.iastore, 1) := by decide +kernel
theorem dX6_take_143 : decode cX6_take 143 = .ok (.aload_n 0, 1) := by decide +kernel
theorem dX6_take_144 : decode cX6_take 144 = .ok (.getfield 43, 3) := by decide +kernel
theorem dX6_take_147 : decode cX6_take 147 = .ok (.iload 9, 2) := by decide +kernel
theorem dX6_take_149 : decode cX6_take 149 = .ok (.aload_n 0, 1) := by decide +kernel
theorem dX6_take_150 : decode cX6_take 150 = .ok (.getfield 55, 3) := by decide +kernel
theorem dX6_take_153 : decode cX6_take 153 = .ok (.iload 8, 2) := by decide +kernel
theorem dX6_take_155 : decode cX6_take 155 = .ok (.iaload, 1) := by decide +kernel
theorem dX6_take_156 : decode cX6_take 156 = .ok (.aload_n 0, 1) := by decide +kernel
theorem dX6_take_157 : decode cX6_take 157 = .ok (.getfield 58, 3) := by decide +kernel
theorem dX6_take_160 : decode cX6_take 160 = .ok (.iload 8, 2) := by decide +kernel
theorem dX6_take_162 : decode cX6_take 162 = .ok (.iaload, 1) := by decide +kernel
theorem dX6_take_163 : decode cX6_take 163 = .ok (.iadd, 1) := by decide +kernel
theorem dX6_take_164 : decode cX6_take 164 = .ok (.iastore, 1) := by decide +kernel
theorem dX6_take_165 : decode cX6_take 165 = .ok (.aload_n 0, 1) := by decide +kernel
theorem dX6_take_166 : decode cX6_take 166 = .ok (.getfield 46, 3) := by decide +kernel
theorem dX6_take_169 : decode cX6_take 169 = .ok (.iload 9, 2) := by decide +kernel
theorem dX6_take_171 : decode cX6_take 171 = .ok (.iconst 0, 1) := by decide +kernel
theorem dX6_take_172 : decode cX6_take 172 = .ok (.iastore, 1) := by decide +kernel
theorem dX6_take_173 : decode cX6_take 173 = .ok (.aload_n 0, 1) := by decide +kernel
theorem dX6_take_174 : decode cX6_take 174 = .ok (.getfield 49, 3) := by decide +kernel
theorem dX6_take_177 : decode cX6_take 177 = .ok (.iload 9, 2) := by decide +kernel
theorem dX6_take_179 : decode cX6_take 179 = .ok (.iload 4, 2) := by decide +kernel
theorem dX6_take_181 : decode cX6_take 181 = .ok (.iastore, 1) := by decide +kernel
theorem dX6_take_182 : decode cX6_take 182 = .ok (.aload_n 0, 1) := by decide +kernel
theorem dX6_take_183 : decode cX6_take 183 = .ok (.dup, 1) := by decide +kernel
theorem dX6_take_184 : decode cX6_take 184 = .ok (.getfield 90, 3) := by decide +kernel
theorem dX6_take_187 : decode cX6_take 187 = .ok (.iconst 1, 1) := by decide +kernel
theorem dX6_take_188 : decode cX6_take 188 = .ok (.iadd, 1) := by decide +kernel
theorem dX6_take_189 : decode cX6_take 189 = .ok (.putfield 90, 3) := by decide +kernel
theorem dX6_take_192 : decode cX6_take 192 = .ok (.aload_n 0, 1) := by decide +kernel
theorem dX6_take_193 : decode cX6_take 193 = .ok (.getfield 27, 3) := by decide +kernel
theorem dX6_take_196 : decode cX6_take 196 = .ok (.iload 7, 2) := by decide +kernel
theorem dX6_take_198 : decode cX6_take 198 = .ok (.baload, 1) := by decide +kernel
theorem dX6_take_199 : decode cX6_take 199 = .ok (.ifCond .ne 17, 3) := by decide +kernel
theorem dX6_take_202 : decode cX6_take 202 = .ok (.aload_n 0, 1) := by decide +kernel
theorem dX6_take_203 : decode cX6_take 203 = .ok (.iload 5, 2) := by decide +kernel
theorem dX6_take_205 : decode cX6_take 205 = .ok (.iconst 1, 1) := by decide +kernel
theorem dX6_take_206 : decode cX6_take 206 = .ok (.iadd, 1) := by decide +kernel
theorem dX6_take_207 : decode cX6_take 207 = .ok (.iload 8, 2) := by decide +kernel
theorem dX6_take_209 : decode cX6_take 209 = .ok (.iload 7, 2) := by decide +kernel
theorem dX6_take_211 : decode cX6_take 211 = .ok (.iload 9, 2) := by decide +kernel
theorem dX6_take_213 : decode cX6_take 213 = .ok (.invokevirtual 143, 3) := by decide +kernel
theorem dX6_take_216 : decode cX6_take 216 = .ok (.iload 8, 2) := by decide +kernel
theorem dX6_take_218 : decode cX6_take 218 = .ok (.iconst 1, 1) := by decide +kernel
theorem dX6_take_219 : decode cX6_take 219 = .ok (.iadd, 1) := by decide +kernel
theorem dX6_take_220 : decode cX6_take 220 = .ok (.istore 5, 2) := by decide +kernel
theorem dX6_take_222 : decode cX6_take 222 = .ok (.goto (-219), 3) := by decide +kernel
theorem dX6_take_225 : decode cX6_take 225 = .ok (.return_, 1) := by decide +kernel
theorem dX6_best_0 : decode cX6_best 0 = .ok (.aload_n 0, 1) := by decide +kernel
theorem dX6_best_1 : decode cX6_best 1 = .ok (.iconst 0, 1) := by decide +kernel
theorem dX6_best_2 : decode cX6_best 2 = .ok (.putfield 64, 3) := by decide +kernel
theorem dX6_best_5 : decode cX6_best 5 = .ok (.aload_n 0, 1) := by decide +kernel
theorem dX6_best_6 : decode cX6_best 6 = .ok (.invokevirtual 147, 3) := by decide +kernel
theorem dX6_best_9 : decode cX6_best 9 = .ok (.aload_n 0, 1) := by decide +kernel
theorem dX6_best_10 : decode cX6_best 10 = .ok (.invokevirtual 150, 3) := by decide +kernel
theorem dX6_best_13 : decode cX6_best 13 = .ok (.aload_n 0, 1) := by decide +kernel
theorem dX6_best_14 : decode cX6_best 14 = .ok (.iconst 0, 1) := by decide +kernel
theorem dX6_best_15 : decode cX6_best 15 = .ok (.putfield 90, 3) := by decide +kernel
theorem dX6_best_18 : decode cX6_best 18 = .ok (.aload_n 0, 1) := by decide +kernel
theorem dX6_best_19 : decode cX6_best 19 = .ok (.aload_n 0, 1) := by decide +kernel
theorem dX6_best_20 : decode cX6_best 20 = .ok (.getfield 61, 3) := by decide +kernel
theorem dX6_best_23 : decode cX6_best 23 = .ok (.aload_n 0, 1) := by decide +kernel
theorem dX6_best_24 : decode cX6_best 24 = .ok (.iconst 0, 1) := by decide +kernel
theorem dX6_best_25 : decode cX6_best 25 = .ok (.aload_n 0, 1) := by decide +kernel
theorem dX6_best_26 : decode cX6_best 26 = .ok (.getfield 116, 3) := by decide +kernel
theorem dX6_best_29 : decode cX6_best 29 = .ok (.bipush 6, 2) := by decide +kernel
theorem dX6_best_31 : decode cX6_best 31 = .ok (.invokevirtual 125, 3) := by decide +kernel
theorem dX6_best_34 : decode cX6_best 34 = .ok (.iaload, 1) := by decide +kernel
theorem dX6_best_35 : decode cX6_best 35 = .ok (.putfield 110, 3) := by decide +kernel
theorem dX6_best_38 : decode cX6_best 38 = .ok (.aload_n 0, 1) := by decide +kernel
theorem dX6_best_39 : decode cX6_best 39 = .ok (.iconst 0, 1) := by decide +kernel
theorem dX6_best_40 : decode cX6_best 40 = .ok (.aload_n 0, 1) := by decide +kernel
theorem dX6_best_41 : decode cX6_best 41 = .ok (.getfield 116, 3) := by decide +kernel
theorem dX6_best_44 : decode cX6_best 44 = .ok (.bipush 6, 2) := by decide +kernel
theorem dX6_best_46 : decode cX6_best 46 = .ok (.iconst (-1), 1) := by decide +kernel
theorem dX6_best_47 : decode cX6_best 47 = .ok (.invokevirtual 143, 3) := by decide +kernel
theorem dX6_best_50 : decode cX6_best 50 = .ok (.aload_n 0, 1) := by decide +kernel
theorem dX6_best_51 : decode cX6_best 51 = .ok (.iconst 1, 1) := by decide +kernel
theorem dX6_best_52 : decode cX6_best 52 = .ok (.putfield 84, 3) := by decide +kernel
theorem dX6_best_55 : decode cX6_best 55 = .ok (.aload_n 0, 1) := by decide +kernel
theorem dX6_best_56 : decode cX6_best 56 = .ok (.getfield 110, 3) := by decide +kernel
theorem dX6_best_59 : decode cX6_best 59 = .ok (.ireturn, 1) := by decide +kernel
theorem dX6_hasReading_0 : decode cX6_hasReading 0 = .ok (.aload_n 0, 1) := by decide +kernel
theorem dX6_hasReading_1 : decode cX6_hasReading 1 = .ok (.iconst 0, 1) := by decide +kernel
theorem dX6_hasReading_2 : decode cX6_hasReading 2 = .ok (.putfield 64, 3) := by decide +kernel
theorem dX6_hasReading_5 : decode cX6_hasReading 5 = .ok (.aload_n 0, 1) := by decide +kernel
theorem dX6_hasReading_6 : decode cX6_hasReading 6 = .ok (.getfield 84, 3) := by decide +kernel
theorem dX6_hasReading_9 : decode cX6_hasReading 9 = .ok (.ireturn, 1) := by decide +kernel
theorem dX6_markCount_0 : decode cX6_markCount 0 = .ok (.aload_n 0, 1) := by decide +kernel
theorem dX6_markCount_1 : decode cX6_markCount 1 = .ok (.iconst 0, 1) := by decide +kernel
theorem dX6_markCount_2 : decode cX6_markCount 2 = .ok (.putfield 64, 3) := by decide +kernel
theorem dX6_markCount_5 : decode cX6_markCount 5 = .ok (.aload_n 0, 1) := by decide +kernel
theorem dX6_markCount_6 : decode cX6_markCount 6 = .ok (.invokevirtual 147, 3) := by decide +kernel
theorem dX6_markCount_9 : decode cX6_markCount 9 = .ok (.aload_n 0, 1) := by decide +kernel
theorem dX6_markCount_10 : decode cX6_markCount 10 = .ok (.getfield 116, 3) := by decide +kernel
theorem dX6_markCount_13 : decode cX6_markCount 13 = .ok (.ireturn, 1) := by decide +kernel
theorem dX6_mark_0 : decode cX6_mark 0 = .ok (.aload_n 0, 1) := by decide +kernel
theorem dX6_mark_1 : decode cX6_mark 1 = .ok (.iconst 0, 1) := by decide +kernel
theorem dX6_mark_2 : decode cX6_mark 2 = .ok (.putfield 64, 3) := by decide +kernel
theorem dX6_mark_5 : decode cX6_mark 5 = .ok (.aload_n 0, 1) := by decide +kernel
theorem dX6_mark_6 : decode cX6_mark 6 = .ok (.invokevirtual 147, 3) := by decide +kernel
theorem dX6_mark_9 : decode cX6_mark 9 = .ok (.iload_n 1, 1) := by decide +kernel
theorem dX6_mark_10 : decode cX6_mark 10 = .ok (.iconst 0, 1) := by decide +kernel
theorem dX6_mark_11 : decode cX6_mark 11 = .ok (.aload_n 0, 1) := by decide +kernel
theorem dX6_mark_12 : decode cX6_mark 12 = .ok (.getfield 116, 3) := by decide +kernel
theorem dX6_mark_15 : decode cX6_mark 15 = .ok (.iconst 1, 1) := by decide +kernel
theorem dX6_mark_16 : decode cX6_mark 16 = .ok (.isub, 1) := by decide +kernel
theorem dX6_mark_17 : decode cX6_mark 17 = .ok (.invokestatic 67, 3) := by decide +kernel
theorem dX6_mark_20 : decode cX6_mark 20 = .ok (.ifCond .eq 12, 3) := by decide +kernel
theorem dX6_mark_23 : decode cX6_mark 23 = .ok (.aload_n 0, 1) := by decide +kernel
theorem dX6_mark_24 : decode cX6_mark 24 = .ok (.getfield 55, 3) := by decide +kernel
theorem dX6_mark_27 : decode cX6_mark 27 = .ok (.iload_n 1, 1) := by decide +kernel
theorem dX6_mark_28 : decode cX6_mark 28 = .ok (.iaload, 1) := by decide +kernel
theorem dX6_mark_29 : decode cX6_mark 29 = .ok (.goto 8, 3) := by decide +kernel
theorem dX6_mark_32 : decode cX6_mark 32 = .ok (.aload_n 0, 1) := by decide +kernel
theorem dX6_mark_33 : decode cX6_mark 33 = .ok (.iconst 1, 1) := by decide +kernel
theorem dX6_mark_34 : decode cX6_mark 34 = .ok (.invokevirtual 77, 3) := by decide +kernel
theorem dX6_mark_37 : decode cX6_mark 37 = .ok (.ireturn, 1) := by decide +kernel
theorem dX6_asks_0 : decode cX6_asks 0 = .ok (.aload_n 0, 1) := by decide +kernel
theorem dX6_asks_1 : decode cX6_asks 1 = .ok (.aload_n 0, 1) := by decide +kernel
theorem dX6_asks_2 : decode cX6_asks 2 = .ok (.getfield 84, 3) := by decide +kernel
theorem dX6_asks_5 : decode cX6_asks 5 = .ok (.ifCond .ne 7, 3) := by decide +kernel
theorem dX6_asks_8 : decode cX6_asks 8 = .ok (.iconst 1, 1) := by decide +kernel
theorem dX6_asks_9 : decode cX6_asks 9 = .ok (.goto 17, 3) := by decide +kernel
theorem dX6_asks_12 : decode cX6_asks 12 = .ok (.iload_n 1, 1) := by decide +kernel
theorem dX6_asks_13 : decode cX6_asks 13 = .ok (.ifCond .lt 8, 3) := by decide +kernel
theorem dX6_asks_16 : decode cX6_asks 16 = .ok (.iload_n 1, 1) := by decide +kernel
theorem dX6_asks_17 : decode cX6_asks 17 = .ok (.iload_n 2, 1) := by decide +kernel
theorem dX6_asks_18 : decode cX6_asks 18 = .ok (.if_icmp .lt 7, 3) := by decide +kernel
theorem dX6_asks_21 : decode cX6_asks 21 = .ok (.iconst 2, 1) := by decide +kernel
theorem dX6_asks_22 : decode cX6_asks 22 = .ok (.goto 4, 3) := by decide +kernel
theorem dX6_asks_25 : decode cX6_asks 25 = .ok (.iconst 0, 1) := by decide +kernel
theorem dX6_asks_26 : decode cX6_asks 26 = .ok (.putfield 64, 3) := by decide +kernel
theorem dX6_asks_29 : decode cX6_asks 29 = .ok (.aload_n 0, 1) := by decide +kernel
theorem dX6_asks_30 : decode cX6_asks 30 = .ok (.getfield 64, 3) := by decide +kernel
theorem dX6_asks_33 : decode cX6_asks 33 = .ok (.ifCond .ne 7, 3) := by decide +kernel
theorem dX6_asks_36 : decode cX6_asks 36 = .ok (.iconst 1, 1) := by decide +kernel
theorem dX6_asks_37 : decode cX6_asks 37 = .ok (.goto 4, 3) := by decide +kernel
theorem dX6_asks_40 : decode cX6_asks 40 = .ok (.iconst 0, 1) := by decide +kernel
theorem dX6_asks_41 : decode cX6_asks 41 = .ok (.ireturn, 1) := by decide +kernel
theorem dX6_islandCount_0 : decode cX6_islandCount 0 = .ok (.aload_n 0, 1) := by decide +kernel
theorem dX6_islandCount_1 : decode cX6_islandCount 1 = .ok (.iconst 0, 1) := by decide +kernel
theorem dX6_islandCount_2 : decode cX6_islandCount 2 = .ok (.iconst 1, 1) := by decide +kernel
theorem dX6_islandCount_3 : decode cX6_islandCount 3 = .ok (.invokevirtual 153, 3) := by decide +kernel
theorem dX6_islandCount_6 : decode cX6_islandCount 6 = .ok (.ifCond .eq 10, 3) := by decide +kernel
theorem dX6_islandCount_9 : decode cX6_islandCount 9 = .ok (.aload_n 0, 1) := by decide +kernel
theorem dX6_islandCount_10 : decode cX6_islandCount 10 = .ok (.getfield 90, 3) := by decide +kernel
theorem dX6_islandCount_13 : decode cX6_islandCount 13 = .ok (.goto 4, 3) := by decide +kernel
theorem dX6_islandCount_16 : decode cX6_islandCount 16 = .ok (.iconst 0, 1) := by decide +kernel
theorem dX6_islandCount_17 : decode cX6_islandCount 17 = .ok (.ireturn, 1) := by decide +kernel
theorem dX6_kind_0 : decode cX6_kind 0 = .ok (.aload_n 0, 1) := by decide +kernel
theorem dX6_kind_1 : decode cX6_kind 1 = .ok (.iload_n 1, 1) := by decide +kernel
theorem dX6_kind_2 : decode cX6_kind 2 = .ok (.aload_n 0, 1) := by decide +kernel
theorem dX6_kind_3 : decode cX6_kind 3 = .ok (.getfield 90, 3) := by decide +kernel
theorem dX6_kind_6 : decode cX6_kind 6 = .ok (.invokevirtual 153, 3) := by decide +kernel
theorem dX6_kind_9 : decode cX6_kind 9 = .ok (.ifCond .eq 12, 3) := by decide +kernel
theorem dX6_kind_12 : decode cX6_kind 12 = .ok (.aload_n 0, 1) := by decide +kernel
theorem dX6_kind_13 : decode cX6_kind 13 = .ok (.getfield 37, 3) := by decide +kernel
theorem dX6_kind_16 : decode cX6_kind 16 = .ok (.iload_n 1, 1) := by decide +kernel
theorem dX6_kind_17 : decode cX6_kind 17 = .ok (.iaload, 1) := by decide +kernel
theorem dX6_kind_18 : decode cX6_kind 18 = .ok (.goto 4, 3) := by decide +kernel
theorem dX6_kind_21 : decode cX6_kind 21 = .ok (.iconst 0, 1) := by decide +kernel
theorem dX6_kind_22 : decode cX6_kind 22 = .ok (.ireturn, 1) := by decide +kernel
theorem dX6_start_0 : decode cX6_start 0 = .ok (.aload_n 0, 1) := by decide +kernel
theorem dX6_start_1 : decode cX6_start 1 = .ok (.iload_n 1, 1) := by decide +kernel
theorem dX6_start_2 : decode cX6_start 2 = .ok (.aload_n 0, 1) := by decide +kernel
theorem dX6_start_3 : decode cX6_start 3 = .ok (.getfield 90, 3) := by decide +kernel
theorem dX6_start_6 : decode cX6_start 6 = .ok (.invokevirtual 153, 3) := by decide +kernel
theorem dX6_start_9 : decode cX6_start 9 = .ok (.ifCond .eq 12, 3) := by decide +kernel
theorem dX6_start_12 : decode cX6_start 12 = .ok (.aload_n 0, 1) := by decide +kernel
theorem dX6_start_13 : decode cX6_start 13 = .ok (.getfield 40, 3) := by decide +kernel
theorem dX6_start_16 : decode cX6_start 16 = .ok (.iload_n 1, 1) := by decide +kernel
theorem dX6_start_17 : decode cX6_start 17 = .ok (.iaload, 1) := by decide +kernel
theorem dX6_start_18 : decode cX6_start 18 = .ok (.goto 4, 3) := by decide +kernel
theorem dX6_start_21 : decode cX6_start 21 = .ok (.iconst 0, 1) := by decide +kernel
theorem dX6_start_22 : decode cX6_start 22 = .ok (.ireturn, 1) := by decide +kernel
theorem dX6_end_0 : decode cX6_end 0 = .ok (.aload_n 0, 1) := by decide +kernel
theorem dX6_end_1 : decode cX6_end 1 = .ok (.iload_n 1, 1) := by decide +kernel
theorem dX6_end_2 : decode cX6_end 2 = .ok (.aload_n 0, 1) := by decide +kernel
theorem dX6_end_3 : decode cX6_end 3 = .ok (.getfield 90, 3) := by decide +kernel
theorem dX6_end_6 : decode cX6_end 6 = .ok (.invokevirtual 153, 3) := by decide +kernel
theorem dX6_end_9 : decode cX6_end 9 = .ok (.ifCond .eq 12, 3) := by decide +kernel
theorem dX6_end_12 : decode cX6_end 12 = .ok (.aload_n 0, 1) := by decide +kernel
theorem dX6_end_13 : decode cX6_end 13 = .ok (.getfield 43, 3) := by decide +kernel
theorem dX6_end_16 : decode cX6_end 16 = .ok (.iload_n 1, 1) := by decide +kernel
theorem dX6_end_17 : decode cX6_end 17 = .ok (.iaload, 1) := by decide +kernel
theorem dX6_end_18 : decode cX6_end 18 = .ok (.goto 4, 3) := by decide +kernel
theorem dX6_end_21 : decode cX6_end 21 = .ok (.iconst 0, 1) := by decide +kernel
theorem dX6_end_22 : decode cX6_end 22 = .ok (.ireturn, 1) := by decide +kernel
theorem dX6_state_0 : decode cX6_state 0 = .ok (.aload_n 0, 1) := by decide +kernel
theorem dX6_state_1 : decode cX6_state 1 = .ok (.iload_n 1, 1) := by decide +kernel
theorem dX6_state_2 : decode cX6_state 2 = .ok (.aload_n 0, 1) := by decide +kernel
theorem dX6_state_3 : decode cX6_state 3 = .ok (.getfield 90, 3) := by decide +kernel
theorem dX6_state_6 : decode cX6_state 6 = .ok (.invokevirtual 153, 3) := by decide +kernel
theorem dX6_state_9 : decode cX6_state 9 = .ok (.ifCond .eq 12, 3) := by decide +kernel
theorem dX6_state_12 : decode cX6_state 12 = .ok (.aload_n 0, 1) := by decide +kernel
theorem dX6_state_13 : decode cX6_state 13 = .ok (.getfield 46, 3) := by decide +kernel
theorem dX6_state_16 : decode cX6_state 16 = .ok (.iload_n 1, 1) := by decide +kernel
theorem dX6_state_17 : decode cX6_state 17 = .ok (.iaload, 1) := by decide +kernel
theorem dX6_state_18 : decode cX6_state 18 = .ok (.goto 4, 3) := by decide +kernel
theorem dX6_state_21 : decode cX6_state 21 = .ok (.iconst 0, 1) := by decide +kernel
theorem dX6_state_22 : decode cX6_state 22 = .ok (.ireturn, 1) := by decide +kernel
theorem dX6_parent_0 : decode cX6_parent 0 = .ok (.aload_n 0, 1) := by decide +kernel
theorem dX6_parent_1 : decode cX6_parent 1 = .ok (.iload_n 1, 1) := by decide +kernel
theorem dX6_parent_2 : decode cX6_parent 2 = .ok (.aload_n 0, 1) := by decide +kernel
theorem dX6_parent_3 : decode cX6_parent 3 = .ok (.getfield 90, 3) := by decide +kernel
theorem dX6_parent_6 : decode cX6_parent 6 = .ok (.invokevirtual 153, 3) := by decide +kernel
theorem dX6_parent_9 : decode cX6_parent 9 = .ok (.ifCond .eq 12, 3) := by decide +kernel
theorem dX6_parent_12 : decode cX6_parent 12 = .ok (.aload_n 0, 1) := by decide +kernel
theorem dX6_parent_13 : decode cX6_parent 13 = .ok (.getfield 49, 3) := by decide +kernel
theorem dX6_parent_16 : decode cX6_parent 16 = .ok (.iload_n 1, 1) := by decide +kernel
theorem dX6_parent_17 : decode cX6_parent 17 = .ok (.iaload, 1) := by decide +kernel
theorem dX6_parent_18 : decode cX6_parent 18 = .ok (.goto 4, 3) := by decide +kernel
theorem dX6_parent_21 : decode cX6_parent 21 = .ok (.iconst 0, 1) := by decide +kernel
theorem dX6_parent_22 : decode cX6_parent 22 = .ok (.ireturn, 1) := by decide +kernel
theorem dX6_depth_0 : decode cX6_depth 0 = .ok (.aload_n 0, 1) := by decide +kernel
theorem dX6_depth_1 : decode cX6_depth 1 = .ok (.iload_n 1, 1) := by decide +kernel
theorem dX6_depth_2 : decode cX6_depth 2 = .ok (.aload_n 0, 1) := by decide +kernel
theorem dX6_depth_3 : decode cX6_depth 3 = .ok (.getfield 90, 3) := by decide +kernel
theorem dX6_depth_6 : decode cX6_depth 6 = .ok (.invokevirtual 153, 3) := by decide +kernel
theorem dX6_depth_9 : decode cX6_depth 9 = .ok (.ifCond .ne 5, 3) := by decide +kernel
theorem dX6_depth_12 : decode cX6_depth 12 = .ok (.iconst 0, 1) := by decide +kernel
theorem dX6_depth_13 : decode cX6_depth 13 = .ok (.ireturn, 1) := by decide +kernel
theorem dX6_depth_14 : decode cX6_depth 14 = .ok (.iconst 0, 1) := by decide +kernel
theorem dX6_depth_15 : decode cX6_depth 15 = .ok (.istore_n 2, 1) := by decide +kernel
theorem dX6_depth_16 : decode cX6_depth 16 = .ok (.aload_n 0, 1) := by decide +kernel
theorem dX6_depth_17 : decode cX6_depth 17 = .ok (.getfield 49, 3) := by decide +kernel
theorem dX6_depth_20 : decode cX6_depth 20 = .ok (.iload_n 1, 1) := by decide +kernel
theorem dX6_depth_21 : decode cX6_depth 21 = .ok (.iaload, 1) := by decide +kernel
theorem dX6_depth_22 : decode cX6_depth 22 = .ok (.istore_n 3, 1) := by decide +kernel
theorem dX6_depth_23 : decode cX6_depth 23 = .ok (.iload_n 3, 1) := by decide +kernel
theorem dX6_depth_24 : decode cX6_depth 24 = .ok (.iconst (-1), 1) := by decide +kernel
theorem dX6_depth_25 : decode cX6_depth 25 = .ok (.if_icmp .eq 16, 3) := by decide +kernel
theorem dX6_depth_28 : decode cX6_depth 28 = .ok (.iinc 2 1, 3) := by decide +kernel
theorem dX6_depth_31 : decode cX6_depth 31 = .ok (.aload_n 0, 1) := by decide +kernel
theorem dX6_depth_32 : decode cX6_depth 32 = .ok (.getfield 49, 3) := by decide +kernel
theorem dX6_depth_35 : decode cX6_depth 35 = .ok (.iload_n 3, 1) := by decide +kernel
theorem dX6_depth_36 : decode cX6_depth 36 = .ok (.iaload, 1) := by decide +kernel
theorem dX6_depth_37 : decode cX6_depth 37 = .ok (.istore_n 3, 1) := by decide +kernel
theorem dX6_depth_38 : decode cX6_depth 38 = .ok (.goto (-15), 3) := by decide +kernel
theorem dX6_depth_41 : decode cX6_depth 41 = .ok (.iload_n 2, 1) := by decide +kernel
theorem dX6_depth_42 : decode cX6_depth 42 = .ok (.ireturn, 1) := by decide +kernel
theorem dX6_own_0 : decode cX6_own 0 = .ok (.aload_n 0, 1) := by decide +kernel
theorem dX6_own_1 : decode cX6_own 1 = .ok (.iload_n 1, 1) := by decide +kernel
theorem dX6_own_2 : decode cX6_own 2 = .ok (.aload_n 0, 1) := by decide +kernel
theorem dX6_own_3 : decode cX6_own 3 = .ok (.getfield 90, 3) := by decide +kernel
theorem dX6_own_6 : decode cX6_own 6 = .ok (.invokevirtual 153, 3) := by decide +kernel
theorem dX6_own_9 : decode cX6_own 9 = .ok (.ifCond .ne 5, 3) := by decide +kernel
theorem dX6_own_12 : decode cX6_own 12 = .ok (.iconst 0, 1) := by decide +kernel
theorem dX6_own_13 : decode cX6_own 13 = .ok (.ireturn, 1) := by decide +kernel
theorem dX6_own_14 : decode cX6_own 14 = .ok (.aload_n 0, 1) := by decide +kernel
theorem dX6_own_15 : decode cX6_own 15 = .ok (.getfield 43, 3) := by decide +kernel
theorem dX6_own_18 : decode cX6_own 18 = .ok (.iload_n 1, 1) := by decide +kernel
theorem dX6_own_19 : decode cX6_own 19 = .ok (.iaload, 1) := by decide +kernel
theorem dX6_own_20 : decode cX6_own 20 = .ok (.aload_n 0, 1) := by decide +kernel
theorem dX6_own_21 : decode cX6_own 21 = .ok (.getfield 40, 3) := by decide +kernel
theorem dX6_own_24 : decode cX6_own 24 = .ok (.iload_n 1, 1) := by decide +kernel
theorem dX6_own_25 : decode cX6_own 25 = .ok (.iaload, 1) := by decide +kernel
theorem dX6_own_26 : decode cX6_own 26 = .ok (.isub, 1) := by decide +kernel
theorem dX6_own_27 : decode cX6_own 27 = .ok (.istore_n 2, 1) := by decide +kernel
theorem dX6_own_28 : decode cX6_own 28 = .ok (.iconst 0, 1) := by decide +kernel
theorem dX6_own_29 : decode cX6_own 29 = .ok (.istore_n 3, 1) := by decide +kernel
theorem dX6_own_30 : decode cX6_own 30 = .ok (.iload_n 3, 1) := by decide +kernel
theorem dX6_own_31 : decode cX6_own 31 = .ok (.aload_n 0, 1) := by decide +kernel
theorem dX6_own_32 : decode cX6_own 32 = .ok (.getfield 90, 3) := by decide +kernel
theorem dX6_own_35 : decode cX6_own 35 = .ok (.if_icmp .ge 39, 3) := by decide +kernel
theorem dX6_own_38 : decode cX6_own 38 = .ok (.iload_n 2, 1) := by decide +kernel
theorem dX6_own_39 : decode cX6_own 39 = .ok (.aload_n 0, 1) := by decide +kernel
theorem dX6_own_40 : decode cX6_own 40 = .ok (.getfield 49, 3) := by decide +kernel
theorem dX6_own_43 : decode cX6_own 43 = .ok (.iload_n 3, 1) := by decide +kernel
theorem dX6_own_44 : decode cX6_own 44 = .ok (.iaload, 1) := by decide +kernel
theorem dX6_own_45 : decode cX6_own 45 = .ok (.iload_n 1, 1) := by decide +kernel
theorem dX6_own_46 : decode cX6_own 46 = .ok (.if_icmp .ne 19, 3) := by decide +kernel
theorem dX6_own_49 : decode cX6_own 49 = .ok (.aload_n 0, 1) := by decide +kernel
theorem dX6_own_50 : decode cX6_own 50 = .ok (.getfield 43, 3) := by decide +kernel
theorem dX6_own_53 : decode cX6_own 53 = .ok (.iload_n 3, 1) := by decide +kernel
theorem dX6_own_54 : decode cX6_own 54 = .ok (.iaload, 1) := by decide +kernel
theorem dX6_own_55 : decode cX6_own 55 = .ok (.aload_n 0, 1) := by decide +kernel
theorem dX6_own_56 : decode cX6_own 56 = .ok (.getfield 40, 3) := by decide +kernel
theorem dX6_own_59 : decode cX6_own 59 = .ok (.iload_n 3, 1) := by decide +kernel
theorem dX6_own_60 : decode cX6_own 60 = .ok (.iaload, 1) := by decide +kernel
theorem dX6_own_61 : decode cX6_own 61 = .ok (.isub, 1) := by decide +kernel
theorem dX6_own_62 : decode cX6_own 62 = .ok (.goto 4, 3) := by decide +kernel
theorem dX6_own_65 : decode cX6_own 65 = .ok (.iconst 0, 1) := by decide +kernel
theorem dX6_own_66 : decode cX6_own 66 = .ok (.isub, 1) := by decide +kernel
theorem dX6_own_67 : decode cX6_own 67 = .ok (.istore_n 2, 1) := by decide +kernel
theorem dX6_own_68 : decode cX6_own 68 = .ok (.iinc 3 1, 3) := by decide +kernel
theorem dX6_own_71 : decode cX6_own 71 = .ok (.goto (-41), 3) := by decide +kernel
theorem dX6_own_74 : decode cX6_own 74 = .ok (.iload_n 2, 1) := by decide +kernel
theorem dX6_own_75 : decode cX6_own 75 = .ok (.ireturn, 1) := by decide +kernel
theorem dX6_around_0 : decode cX6_around 0 = .ok (.iconst (-1), 1) := by decide +kernel
theorem dX6_around_1 : decode cX6_around 1 = .ok (.istore_n 2, 1) := by decide +kernel
theorem dX6_around_2 : decode cX6_around 2 = .ok (.iconst 0, 1) := by decide +kernel
theorem dX6_around_3 : decode cX6_around 3 = .ok (.istore_n 3, 1) := by decide +kernel
theorem dX6_around_4 : decode cX6_around 4 = .ok (.iload_n 3, 1) := by decide +kernel
theorem dX6_around_5 : decode cX6_around 5 = .ok (.aload_n 0, 1) := by decide +kernel
theorem dX6_around_6 : decode cX6_around 6 = .ok (.getfield 90, 3) := by decide +kernel
theorem dX6_around_9 : decode cX6_around 9 = .ok (.if_icmp .ge 31, 3) := by decide +kernel
theorem dX6_around_12 : decode cX6_around 12 = .ok (.aload_n 0, 1) := by decide +kernel
theorem dX6_around_13 : decode cX6_around 13 = .ok (.getfield 40, 3) := by decide +kernel
theorem dX6_around_16 : decode cX6_around 16 = .ok (.iload_n 3, 1) := by decide +kernel
theorem dX6_around_17 : decode cX6_around 17 = .ok (.iaload, 1) := by decide +kernel
theorem dX6_around_18 : decode cX6_around 18 = .ok (.iload_n 1, 1) := by decide +kernel
theorem dX6_around_19 : decode cX6_around 19 = .ok (.if_icmp .gt 15, 3) := by decide +kernel
theorem dX6_around_22 : decode cX6_around 22 = .ok (.iload_n 1, 1) := by decide +kernel
theorem dX6_around_23 : decode cX6_around 23 = .ok (.aload_n 0, 1) := by decide +kernel
theorem dX6_around_24 : decode cX6_around 24 = .ok (.getfield 43, 3) := by decide +kernel
theorem dX6_around_27 : decode cX6_around 27 = .ok (.iload_n 3, 1) := by decide +kernel
theorem dX6_around_28 : decode cX6_around 28 = .ok (.iaload, 1) := by decide +kernel
theorem dX6_around_29 : decode cX6_around 29 = .ok (.if_icmp .ge 5, 3) := by decide +kernel
theorem dX6_around_32 : decode cX6_around 32 = .ok (.iload_n 3, 1) := by decide +kernel
theorem dX6_around_33 : decode cX6_around 33 = .ok (.istore_n 2, 1) := by decide +kernel
theorem dX6_around_34 : decode cX6_around 34 = .ok (.iinc 3 1, 3) := by decide +kernel
theorem dX6_around_37 : decode cX6_around 37 = .ok (.goto (-33), 3) := by decide +kernel
theorem dX6_around_40 : decode cX6_around 40 = .ok (.iload_n 2, 1) := by decide +kernel
theorem dX6_around_41 : decode cX6_around 41 = .ok (.ireturn, 1) := by decide +kernel
theorem dX6_at__0 : decode cX6_at_ 0 = .ok (.aload_n 0, 1) := by decide +kernel
theorem dX6_at__1 : decode cX6_at_ 1 = .ok (.iload_n 1, 1) := by decide +kernel
theorem dX6_at__2 : decode cX6_at_ 2 = .ok (.aload_n 0, 1) := by decide +kernel
theorem dX6_at__3 : decode cX6_at_ 3 = .ok (.getfield 81, 3) := by decide +kernel
theorem dX6_at__6 : decode cX6_at_ 6 = .ok (.invokevirtual 153, 3) := by decide +kernel
theorem dX6_at__9 : decode cX6_at_ 9 = .ok (.ifCond .eq 11, 3) := by decide +kernel
theorem dX6_at__12 : decode cX6_at_ 12 = .ok (.aload_n 0, 1) := by decide +kernel
theorem dX6_at__13 : decode cX6_at_ 13 = .ok (.iload_n 1, 1) := by decide +kernel
theorem dX6_at__14 : decode cX6_at_ 14 = .ok (.invokevirtual 156, 3) := by decide +kernel
theorem dX6_at__17 : decode cX6_at_ 17 = .ok (.goto 4, 3) := by decide +kernel
theorem dX6_at__20 : decode cX6_at_ 20 = .ok (.iconst 0, 1) := by decide +kernel
theorem dX6_at__21 : decode cX6_at_ 21 = .ok (.ireturn, 1) := by decide +kernel
theorem dX6_count__0 : decode cX6_count_ 0 = .ok (.iconst 0, 1) := by decide +kernel
theorem dX6_count__1 : decode cX6_count_ 1 = .ok (.istore_n 3, 1) := by decide +kernel
theorem dX6_count__2 : decode cX6_count_ 2 = .ok (.aload_n 0, 1) := by decide +kernel
theorem dX6_count__3 : decode cX6_count_ 3 = .ok (.iload_n 1, 1) := by decide +kernel
theorem dX6_count__4 : decode cX6_count_ 4 = .ok (.bipush 6, 2) := by decide +kernel
theorem dX6_count__6 : decode cX6_count_ 6 = .ok (.invokevirtual 153, 3) := by decide +kernel
theorem dX6_count__9 : decode cX6_count_ 9 = .ok (.ifCond .eq 12, 3) := by decide +kernel
theorem dX6_count__12 : decode cX6_count_ 12 = .ok (.aload_n 0, 1) := by decide +kernel
theorem dX6_count__13 : decode cX6_count_ 13 = .ok (.iload_n 2, 1) := by decide +kernel
theorem dX6_count__14 : decode cX6_count_ 14 = .ok (.iconst 3, 1) := by decide +kernel
theorem dX6_count__15 : decode cX6_count_ 15 = .ok (.invokevirtual 153, 3) := by decide +kernel
theorem dX6_count__18 : decode cX6_count_ 18 = .ok (.ifCond .ne 5, 3) := by decide +kernel
theorem dX6_count__21 : decode cX6_count_ 21 = .ok (.iconst 0, 1) := by decide +kernel
theorem dX6_count__22 : decode cX6_count_ 22 = .ok (.ireturn, 1) := by decide +kernel
theorem dX6_count__23 : decode cX6_count_ 23 = .ok (.iconst 0, 1) := by decide +kernel
theorem dX6_count__24 : decode cX6_count_ 24 = .ok (.istore 4, 2) := by decide +kernel
theorem dX6_count__26 : decode cX6_count_ 26 = .ok (.iload 4, 2) := by decide +kernel
theorem dX6_count__28 : decode cX6_count_ 28 = .ok (.aload_n 0, 1) := by decide +kernel
theorem dX6_count__29 : decode cX6_count_ 29 = .ok (.getfield 90, 3) := by decide +kernel
theorem dX6_count__32 : decode cX6_count_ 32 = .ok (.if_icmp .ge 39, 3) := by decide +kernel
theorem dX6_count__35 : decode cX6_count_ 35 = .ok (.iload_n 3, 1) := by decide +kernel
theorem dX6_count__36 : decode cX6_count_ 36 = .ok (.aload_n 0, 1) := by decide +kernel
theorem dX6_count__37 : decode cX6_count_ 37 = .ok (.getfield 37, 3) := by decide +kernel
theorem dX6_count__40 : decode cX6_count_ 40 = .ok (.iload 4, 2) := by decide +kernel
theorem dX6_count__42 : decode cX6_count_ 42 = .ok (.iaload, 1) := by decide +kernel
theorem dX6_count__43 : decode cX6_count_ 43 = .ok (.iload_n 1, 1) := by decide +kernel
theorem dX6_count__44 : decode cX6_count_ 44 = .ok (.if_icmp .ne 18, 3) := by decide +kernel
theorem dX6_count__47 : decode cX6_count_ 47 = .ok (.aload_n 0, 1) := by decide +kernel
theorem dX6_count__48 : decode cX6_count_ 48 = .ok (.getfield 46, 3) := by decide +kernel
theorem dX6_count__51 : decode cX6_count_ 51 = .ok (.iload 4, 2) := by decide +kernel
theorem dX6_count__53 : decode cX6_count_ 53 = .ok (.iaload, 1) := by decide +kernel
theorem dX6_count__54 : decode cX6_count_ 54 = .ok (.iload_n 2, 1) := by decide +kernel
theorem dX6_count__55 : decode cX6_count_ 55 = .ok (.if_icmp .ne 7, 3) := by decide +kernel
theorem dX6_count__58 : decode cX6_count_ 58 = .ok (.iconst 1, 1) := by decide +kernel
theorem dX6_count__59 : decode cX6_count_ 59 = .ok (.goto 4, 3) := by decide +kernel
theorem dX6_count__62 : decode cX6_count_ 62 = .ok (.iconst 0, 1) := by decide +kernel
theorem dX6_count__63 : decode cX6_count_ 63 = .ok (.iadd, 1) := by decide +kernel
theorem dX6_count__64 : decode cX6_count_ 64 = .ok (.istore_n 3, 1) := by decide +kernel
theorem dX6_count__65 : decode cX6_count_ 65 = .ok (.iinc 4 1, 3) := by decide +kernel
theorem dX6_count__68 : decode cX6_count_ 68 = .ok (.goto (-42), 3) := by decide +kernel
theorem dX6_count__71 : decode cX6_count_ 71 = .ok (.iload_n 3, 1) := by decide +kernel
theorem dX6_count__72 : decode cX6_count_ 72 = .ok (.ireturn, 1) := by decide +kernel
theorem dX6_outside_0 : decode cX6_outside 0 = .ok (.iconst 0, 1) := by decide +kernel
theorem dX6_outside_1 : decode cX6_outside 1 = .ok (.istore_n 1, 1) := by decide +kernel
theorem dX6_outside_2 : decode cX6_outside 2 = .ok (.iconst 0, 1) := by decide +kernel
theorem dX6_outside_3 : decode cX6_outside 3 = .ok (.istore_n 2, 1) := by decide +kernel
theorem dX6_outside_4 : decode cX6_outside 4 = .ok (.iload_n 2, 1) := by decide +kernel
theorem dX6_outside_5 : decode cX6_outside 5 = .ok (.aload_n 0, 1) := by decide +kernel
theorem dX6_outside_6 : decode cX6_outside 6 = .ok (.getfield 81, 3) := by decide +kernel
theorem dX6_outside_9 : decode cX6_outside 9 = .ok (.if_icmp .ge 26, 3) := by decide +kernel
theorem dX6_outside_12 : decode cX6_outside 12 = .ok (.iload_n 1, 1) := by decide +kernel
theorem dX6_outside_13 : decode cX6_outside 13 = .ok (.aload_n 0, 1) := by decide +kernel
theorem dX6_outside_14 : decode cX6_outside 14 = .ok (.iload_n 2, 1) := by decide +kernel
theorem dX6_outside_15 : decode cX6_outside 15 = .ok (.invokevirtual 156, 3) := by decide +kernel
theorem dX6_outside_18 : decode cX6_outside 18 = .ok (.iconst (-1), 1) := by decide +kernel
theorem dX6_outside_19 : decode cX6_outside 19 = .ok (.if_icmp .ne 7, 3) := by decide +kernel
theorem dX6_outside_22 : decode cX6_outside 22 = .ok (.iconst 1, 1) := by decide +kernel
theorem dX6_outside_23 : decode cX6_outside 23 = .ok (.goto 4, 3) := by decide +kernel
theorem dX6_outside_26 : decode cX6_outside 26 = .ok (.iconst 0, 1) := by decide +kernel
theorem dX6_outside_27 : decode cX6_outside 27 = .ok (.iadd, 1) := by decide +kernel
theorem dX6_outside_28 : decode cX6_outside 28 = .ok (.istore_n 1, 1) := by decide +kernel
theorem dX6_outside_29 : decode cX6_outside 29 = .ok (.iinc 2 1, 3) := by decide +kernel
theorem dX6_outside_32 : decode cX6_outside 32 = .ok (.goto (-28), 3) := by decide +kernel
theorem dX6_outside_35 : decode cX6_outside 35 = .ok (.iload_n 1, 1) := by decide +kernel
theorem dX6_outside_36 : decode cX6_outside 36 = .ok (.ireturn, 1) := by decide +kernel
theorem dX6_water_0 : decode cX6_water 0 = .ok (.aload_n 0, 1) := by decide +kernel
theorem dX6_water_1 : decode cX6_water 1 = .ok (.iconst 0, 1) := by decide +kernel
theorem dX6_water_2 : decode cX6_water 2 = .ok (.iconst 1, 1) := by decide +kernel
theorem dX6_water_3 : decode cX6_water 3 = .ok (.invokevirtual 153, 3) := by decide +kernel
theorem dX6_water_6 : decode cX6_water 6 = .ok (.ifCond .eq 10, 3) := by decide +kernel
theorem dX6_water_9 : decode cX6_water 9 = .ok (.aload_n 0, 1) := by decide +kernel
theorem dX6_water_10 : decode cX6_water 10 = .ok (.invokevirtual 159, 3) := by decide +kernel
theorem dX6_water_13 : decode cX6_water 13 = .ok (.goto 4, 3) := by decide +kernel
theorem dX6_water_16 : decode cX6_water 16 = .ok (.iconst 0, 1) := by decide +kernel
theorem dX6_water_17 : decode cX6_water 17 = .ok (.ireturn, 1) := by decide +kernel
theorem dX6_left_0 : decode cX6_left 0 = .ok (.aload_n 0, 1) := by decide +kernel
theorem dX6_left_1 : decode cX6_left 1 = .ok (.iconst 0, 1) := by decide +kernel
theorem dX6_left_2 : decode cX6_left 2 = .ok (.iconst 1, 1) := by decide +kernel
theorem dX6_left_3 : decode cX6_left 3 = .ok (.invokevirtual 153, 3) := by decide +kernel
theorem dX6_left_6 : decode cX6_left 6 = .ok (.ifCond .eq 10, 3) := by decide +kernel
theorem dX6_left_9 : decode cX6_left 9 = .ok (.aload_n 0, 1) := by decide +kernel
theorem dX6_left_10 : decode cX6_left 10 = .ok (.getfield 110, 3) := by decide +kernel
theorem dX6_left_13 : decode cX6_left 13 = .ok (.goto 4, 3) := by decide +kernel
theorem dX6_left_16 : decode cX6_left 16 = .ok (.iconst 0, 1) := by decide +kernel
theorem dX6_left_17 : decode cX6_left 17 = .ok (.ireturn, 1) := by decide +kernel
theorem dX6_share_0 : decode cX6_share 0 = .ok (.aload_n 0, 1) := by decide +kernel
theorem dX6_share_1 : decode cX6_share 1 = .ok (.iconst 0, 1) := by decide +kernel
theorem dX6_share_2 : decode cX6_share 2 = .ok (.iconst 1, 1) := by decide +kernel
theorem dX6_share_3 : decode cX6_share 3 = .ok (.invokevirtual 153, 3) := by decide +kernel
theorem dX6_share_6 : decode cX6_share 6 = .ok (.ifCond .eq 10, 3) := by decide +kernel
theorem dX6_share_9 : decode cX6_share 9 = .ok (.aload_n 0, 1) := by decide +kernel
theorem dX6_share_10 : decode cX6_share 10 = .ok (.getfield 81, 3) := by decide +kernel
theorem dX6_share_13 : decode cX6_share 13 = .ok (.ifCond .ne 7, 3) := by decide +kernel
theorem dX6_share_16 : decode cX6_share 16 = .ok (.dconst 0, 1) := by decide +kernel
theorem dX6_share_17 : decode cX6_share 17 = .ok (.goto 19, 3) := by decide +kernel
theorem dX6_share_20 : decode cX6_share 20 = .ok (.aload_n 0, 1) := by decide +kernel
theorem dX6_share_21 : decode cX6_share 21 = .ok (.getfield 81, 3) := by decide +kernel
theorem dX6_share_24 : decode cX6_share 24 = .ok (.aload_n 0, 1) := by decide +kernel
theorem dX6_share_25 : decode cX6_share 25 = .ok (.invokevirtual 159, 3) := by decide +kernel
theorem dX6_share_28 : decode cX6_share 28 = .ok (.isub, 1) := by decide +kernel
theorem dX6_share_29 : decode cX6_share 29 = .ok (.i2d, 1) := by decide +kernel
theorem dX6_share_30 : decode cX6_share 30 = .ok (.aload_n 0, 1) := by decide +kernel
theorem dX6_share_31 : decode cX6_share 31 = .ok (.getfield 81, 3) := by decide +kernel
theorem dX6_share_34 : decode cX6_share 34 = .ok (.i2d, 1) := by decide +kernel
theorem dX6_share_35 : decode cX6_share 35 = .ok (.ddiv, 1) := by decide +kernel
theorem dX6_share_36 : decode cX6_share 36 = .ok (.dreturn, 1) := by decide +kernel
theorem dX6_digest_0 : decode cX6_digest 0 = .ok (.aload_n 0, 1) := by decide +kernel
theorem dX6_digest_1 : decode cX6_digest 1 = .ok (.iconst 0, 1) := by decide +kernel
theorem dX6_digest_2 : decode cX6_digest 2 = .ok (.putfield 64, 3) := by decide +kernel
theorem dX6_digest_5 : decode cX6_digest 5 = .ok (.ldc2_w 163, 3) := by decide +kernel
theorem dX6_digest_8 : decode cX6_digest 8 = .ok (.aload_n 0, 1) := by decide +kernel
theorem dX6_digest_9 : decode cX6_digest 9 = .ok (.getfield 81, 3) := by decide +kernel
theorem dX6_digest_12 : decode cX6_digest 12 = .ok (.i2l, 1) := by decide +kernel
theorem dX6_digest_13 : decode cX6_digest 13 = .ok (.ladd, 1) := by decide +kernel
theorem dX6_digest_14 : decode cX6_digest 14 = .ok (.lstore_n 1, 1) := by decide +kernel
theorem dX6_digest_15 : decode cX6_digest 15 = .ok (.iconst 0, 1) := by decide +kernel
theorem dX6_digest_16 : decode cX6_digest 16 = .ok (.istore_n 3, 1) := by decide +kernel
theorem dX6_digest_17 : decode cX6_digest 17 = .ok (.iload_n 3, 1) := by decide +kernel
theorem dX6_digest_18 : decode cX6_digest 18 = .ok (.aload_n 0, 1) := by decide +kernel
theorem dX6_digest_19 : decode cX6_digest 19 = .ok (.getfield 81, 3) := by decide +kernel
theorem dX6_digest_22 : decode cX6_digest 22 = .ok (.if_icmp .ge 23, 3) := by decide +kernel
theorem dX6_digest_25 : decode cX6_digest 25 = .ok (.lload_n 1, 1) := by decide +kernel
theorem dX6_digest_26 : decode cX6_digest 26 = .ok (.ldc2_w 165, 3) := by decide +kernel
theorem dX6_digest_29 : decode cX6_digest 29 = .ok (.lmul, 1) := by decide +kernel
theorem dX6_digest_30 : decode cX6_digest 30 = .ok (.aload_n 0, 1) := by decide +kernel
theorem dX6_digest_31 : decode cX6_digest 31 = .ok (.getfield 9, 3) := by decide +kernel
theorem dX6_digest_34 : decode cX6_digest 34 = .ok (.iload_n 3, 1) := by decide +kernel
theorem dX6_digest_35 : decode cX6_digest 35 = .ok (.iaload, 1) := by decide +kernel
theorem dX6_digest_36 : decode cX6_digest 36 = .ok (.i2l, 1) := by decide +kernel
theorem dX6_digest_37 : decode cX6_digest 37 = .ok (.ladd, 1) := by decide +kernel
theorem dX6_digest_38 : decode cX6_digest 38 = .ok (.lstore_n 1, 1) := by decide +kernel
theorem dX6_digest_39 : decode cX6_digest 39 = .ok (.iinc 3 1, 3) := by decide +kernel
theorem dX6_digest_42 : decode cX6_digest 42 = .ok (.goto (-25), 3) := by decide +kernel
theorem dX6_digest_45 : decode cX6_digest 45 = .ok (.lload_n 1, 1) := by decide +kernel
theorem dX6_digest_46 : decode cX6_digest 46 = .ok (.ldc2_w 165, 3) := by decide +kernel
theorem dX6_digest_49 : decode cX6_digest 49 = .ok (.lmul, 1) := by decide +kernel
theorem dX6_digest_50 : decode cX6_digest 50 = .ok (.aload_n 0, 1) := by decide +kernel
theorem dX6_digest_51 : decode cX6_digest 51 = .ok (.getfield 13, 3) := by decide +kernel
theorem dX6_digest_54 : decode cX6_digest 54 = .ok (.i2l, 1) := by decide +kernel
theorem dX6_digest_55 : decode cX6_digest 55 = .ok (.ladd, 1) := by decide +kernel
theorem dX6_digest_56 : decode cX6_digest 56 = .ok (.ldc2_w 165, 3) := by decide +kernel
theorem dX6_digest_59 : decode cX6_digest 59 = .ok (.lmul, 1) := by decide +kernel
theorem dX6_digest_60 : decode cX6_digest 60 = .ok (.aload_n 0, 1) := by decide +kernel
theorem dX6_digest_61 : decode cX6_digest 61 = .ok (.getfield 17, 3) := by decide +kernel
theorem dX6_digest_64 : decode cX6_digest 64 = .ok (.ifCond .eq 7, 3) := by decide +kernel
theorem dX6_digest_67 : decode cX6_digest 67 = .ok (.lconst 1, 1) := by decide +kernel
theorem dX6_digest_68 : decode cX6_digest 68 = .ok (.goto 4, 3) := by decide +kernel
theorem dX6_digest_71 : decode cX6_digest 71 = .ok (.lconst 0, 1) := by decide +kernel
theorem dX6_digest_72 : decode cX6_digest 72 = .ok (.ladd, 1) := by decide +kernel
theorem dX6_digest_73 : decode cX6_digest 73 = .ok (.lstore_n 1, 1) := by decide +kernel
theorem dX6_digest_74 : decode cX6_digest 74 = .ok (.iconst 0, 1) := by decide +kernel
theorem dX6_digest_75 : decode cX6_digest 75 = .ok (.istore_n 3, 1) := by decide +kernel
theorem dX6_digest_76 : decode cX6_digest 76 = .ok (.iload_n 3, 1) := by decide +kernel
theorem dX6_digest_77 : decode cX6_digest 77 = .ok (.bipush 6, 2) := by decide +kernel
theorem dX6_digest_79 : decode cX6_digest 79 = .ok (.if_icmp .ge 79, 3) := by decide +kernel
theorem dX6_digest_82 : decode cX6_digest 82 = .ok (.lload_n 1, 1) := by decide +kernel
theorem dX6_digest_83 : decode cX6_digest 83 = .ok (.ldc2_w 165, 3) := by decide +kernel
theorem dX6_digest_86 : decode cX6_digest 86 = .ok (.lmul, 1) := by decide +kernel
theorem dX6_digest_87 : decode cX6_digest 87 = .ok (.aload_n 0, 1) := by decide +kernel
theorem dX6_digest_88 : decode cX6_digest 88 = .ok (.iload_n 3, 1) := by decide +kernel
theorem dX6_digest_89 : decode cX6_digest 89 = .ok (.invokevirtual 87, 3) := by decide +kernel
theorem dX6_digest_92 : decode cX6_digest 92 = .ok (.ifCond .eq 7, 3) := by decide +kernel
theorem dX6_digest_95 : decode cX6_digest 95 = .ok (.lconst 1, 1) := by decide +kernel
theorem dX6_digest_96 : decode cX6_digest 96 = .ok (.goto 4, 3) := by decide +kernel
theorem dX6_digest_99 : decode cX6_digest 99 = .ok (.lconst 0, 1) := by decide +kernel
theorem dX6_digest_100 : decode cX6_digest 100 = .ok (.ladd, 1) := by decide +kernel
theorem dX6_digest_101 : decode cX6_digest 101 = .ok (.ldc2_w 165, 3) := by decide +kernel
theorem dX6_digest_104 : decode cX6_digest 104 = .ok (.lmul, 1) := by decide +kernel
theorem dX6_digest_105 : decode cX6_digest 105 = .ok (.aload_n 0, 1) := by decide +kernel
theorem dX6_digest_106 : decode cX6_digest 106 = .ok (.getfield 27, 3) := by decide +kernel
theorem dX6_digest_109 : decode cX6_digest 109 = .ok (.iload_n 3, 1) := by decide +kernel
theorem dX6_digest_110 : decode cX6_digest 110 = .ok (.baload, 1) := by decide +kernel
theorem dX6_digest_111 : decode cX6_digest 111 = .ok (.ifCond .eq 7, 3) := by decide +kernel
theorem dX6_digest_114 : decode cX6_digest 114 = .ok (.lconst 1, 1) := by decide +kernel
theorem dX6_digest_115 : decode cX6_digest 115 = .ok (.goto 4, 3) := by decide +kernel
theorem dX6_digest_118 : decode cX6_digest 118 = .ok (.lconst 0, 1) := by decide +kernel
theorem dX6_digest_119 : decode cX6_digest 119 = .ok (.ladd, 1) := by decide +kernel
theorem dX6_digest_120 : decode cX6_digest 120 = .ok (.ldc2_w 165, 3) := by decide +kernel
theorem dX6_digest_123 : decode cX6_digest 123 = .ok (.lmul, 1) := by decide +kernel
theorem dX6_digest_124 : decode cX6_digest 124 = .ok (.aload_n 0, 1) := by decide +kernel
theorem dX6_digest_125 : decode cX6_digest 125 = .ok (.getfield 31, 3) := by decide +kernel
theorem dX6_digest_128 : decode cX6_digest 128 = .ok (.iload_n 3, 1) := by decide +kernel
theorem dX6_digest_129 : decode cX6_digest 129 = .ok (.baload, 1) := by decide +kernel
theorem dX6_digest_130 : decode cX6_digest 130 = .ok (.ifCond .eq 7, 3) := by decide +kernel
theorem dX6_digest_133 : decode cX6_digest 133 = .ok (.lconst 1, 1) := by decide +kernel
theorem dX6_digest_134 : decode cX6_digest 134 = .ok (.goto 4, 3) := by decide +kernel
theorem dX6_digest_137 : decode cX6_digest 137 = .ok (.lconst 0, 1) := by decide +kernel
theorem dX6_digest_138 : decode cX6_digest 138 = .ok (.ladd, 1) := by decide +kernel
theorem dX6_digest_139 : decode cX6_digest 139 = .ok (.ldc2_w 165, 3) := by decide +kernel
theorem dX6_digest_142 : decode cX6_digest 142 = .ok (.lmul, 1) := by decide +kernel
theorem dX6_digest_143 : decode cX6_digest 143 = .ok (.aload_n 0, 1) := by decide +kernel
theorem dX6_digest_144 : decode cX6_digest 144 = .ok (.getfield 34, 3) := by decide +kernel
theorem dX6_digest_147 : decode cX6_digest 147 = .ok (.iload_n 3, 1) := by decide +kernel
theorem dX6_digest_148 : decode cX6_digest 148 = .ok (.iaload, 1) := by decide +kernel
theorem dX6_digest_149 : decode cX6_digest 149 = .ok (.i2l, 1) := by decide +kernel
theorem dX6_digest_150 : decode cX6_digest 150 = .ok (.ladd, 1) := by decide +kernel
theorem dX6_digest_151 : decode cX6_digest 151 = .ok (.lstore_n 1, 1) := by decide +kernel
theorem dX6_digest_152 : decode cX6_digest 152 = .ok (.iinc 3 1, 3) := by decide +kernel
theorem dX6_digest_155 : decode cX6_digest 155 = .ok (.goto (-79), 3) := by decide +kernel
theorem dX6_digest_158 : decode cX6_digest 158 = .ok (.aload_n 0, 1) := by decide +kernel
theorem dX6_digest_159 : decode cX6_digest 159 = .ok (.getfield 84, 3) := by decide +kernel
theorem dX6_digest_162 : decode cX6_digest 162 = .ok (.ifCond .ne 5, 3) := by decide +kernel
theorem dX6_digest_165 : decode cX6_digest 165 = .ok (.lload_n 1, 1) := by decide +kernel
theorem dX6_digest_166 : decode cX6_digest 166 = .ok (.lreturn, 1) := by decide +kernel
theorem dX6_digest_167 : decode cX6_digest 167 = .ok (.lload_n 1, 1) := by decide +kernel
theorem dX6_digest_168 : decode cX6_digest 168 = .ok (.ldc2_w 165, 3) := by decide +kernel
theorem dX6_digest_171 : decode cX6_digest 171 = .ok (.lmul, 1) := by decide +kernel
theorem dX6_digest_172 : decode cX6_digest 172 = .ok (.aload_n 0, 1) := by decide +kernel
theorem dX6_digest_173 : decode cX6_digest 173 = .ok (.getfield 90, 3) := by decide +kernel
theorem dX6_digest_176 : decode cX6_digest 176 = .ok (.i2l, 1) := by decide +kernel
theorem dX6_digest_177 : decode cX6_digest 177 = .ok (.ladd, 1) := by decide +kernel
theorem dX6_digest_178 : decode cX6_digest 178 = .ok (.lstore_n 1, 1) := by decide +kernel
theorem dX6_digest_179 : decode cX6_digest 179 = .ok (.iconst 0, 1) := by decide +kernel
theorem dX6_digest_180 : decode cX6_digest 180 = .ok (.istore_n 3, 1) := by decide +kernel
theorem dX6_digest_181 : decode cX6_digest 181 = .ok (.iload_n 3, 1) := by decide +kernel
theorem dX6_digest_182 : decode cX6_digest 182 = .ok (.aload_n 0, 1) := by decide +kernel
theorem dX6_digest_183 : decode cX6_digest 183 = .ok (.getfield 90, 3) := by decide +kernel
theorem dX6_digest_186 : decode cX6_digest 186 = .ok (.if_icmp .ge 59, 3) := by decide +kernel
theorem dX6_digest_189 : decode cX6_digest 189 = .ok (.lload_n 1, 1) := by decide +kernel
theorem dX6_digest_190 : decode cX6_digest 190 = .ok (.ldc2_w 165, 3) := by decide +kernel
theorem dX6_digest_193 : decode cX6_digest 193 = .ok (.lmul, 1) := by decide +kernel
theorem dX6_digest_194 : decode cX6_digest 194 = .ok (.aload_n 0, 1) := by decide +kernel
theorem dX6_digest_195 : decode cX6_digest 195 = .ok (.getfield 37, 3) := by decide +kernel
theorem dX6_digest_198 : decode cX6_digest 198 = .ok (.iload_n 3, 1) := by decide +kernel
theorem dX6_digest_199 : decode cX6_digest 199 = .ok (.iaload, 1) := by decide +kernel
theorem dX6_digest_200 : decode cX6_digest 200 = .ok (.i2l, 1) := by decide +kernel
theorem dX6_digest_201 : decode cX6_digest 201 = .ok (.ladd, 1) := by decide +kernel
theorem dX6_digest_202 : decode cX6_digest 202 = .ok (.ldc2_w 165, 3) := by decide +kernel
theorem dX6_digest_205 : decode cX6_digest 205 = .ok (.lmul, 1) := by decide +kernel
theorem dX6_digest_206 : decode cX6_digest 206 = .ok (.aload_n 0, 1) := by decide +kernel
theorem dX6_digest_207 : decode cX6_digest 207 = .ok (.getfield 40, 3) := by decide +kernel
theorem dX6_digest_210 : decode cX6_digest 210 = .ok (.iload_n 3, 1) := by decide +kernel
theorem dX6_digest_211 : decode cX6_digest 211 = .ok (.iaload, 1) := by decide +kernel
theorem dX6_digest_212 : decode cX6_digest 212 = .ok (.i2l, 1) := by decide +kernel
theorem dX6_digest_213 : decode cX6_digest 213 = .ok (.ladd, 1) := by decide +kernel
theorem dX6_digest_214 : decode cX6_digest 214 = .ok (.ldc2_w 165, 3) := by decide +kernel
theorem dX6_digest_217 : decode cX6_digest 217 = .ok (.lmul, 1) := by decide +kernel
theorem dX6_digest_218 : decode cX6_digest 218 = .ok (.aload_n 0, 1) := by decide +kernel
theorem dX6_digest_219 : decode cX6_digest 219 = .ok (.getfield 43, 3) := by decide +kernel
theorem dX6_digest_222 : decode cX6_digest 222 = .ok (.iload_n 3, 1) := by decide +kernel
theorem dX6_digest_223 : decode cX6_digest 223 = .ok (.iaload, 1) := by decide +kernel
theorem dX6_digest_224 : decode cX6_digest 224 = .ok (.i2l, 1) := by decide +kernel
theorem dX6_digest_225 : decode cX6_digest 225 = .ok (.ladd, 1) := by decide +kernel
theorem dX6_digest_226 : decode cX6_digest 226 = .ok (.ldc2_w 165, 3) := by decide +kernel
theorem dX6_digest_229 : decode cX6_digest 229 = .ok (.lmul, 1) := by decide +kernel
theorem dX6_digest_230 : decode cX6_digest 230 = .ok (.aload_n 0, 1) := by decide +kernel
theorem dX6_digest_231 : decode cX6_digest 231 = .ok (.getfield 46, 3) := by decide +kernel
theorem dX6_digest_234 : decode cX6_digest 234 = .ok (.iload_n 3, 1) := by decide +kernel
theorem dX6_digest_235 : decode cX6_digest 235 = .ok (.iaload, 1) := by decide +kernel
theorem dX6_digest_236 : decode cX6_digest 236 = .ok (.i2l, 1) := by decide +kernel
theorem dX6_digest_237 : decode cX6_digest 237 = .ok (.ladd, 1) := by decide +kernel
theorem dX6_digest_238 : decode cX6_digest 238 = .ok (.lstore_n 1, 1) := by decide +kernel
theorem dX6_digest_239 : decode cX6_digest 239 = .ok (.iinc 3 1, 3) := by decide +kernel
theorem dX6_digest_242 : decode cX6_digest 242 = .ok (.goto (-61), 3) := by decide +kernel
theorem dX6_digest_245 : decode cX6_digest 245 = .ok (.lload_n 1, 1) := by decide +kernel
theorem dX6_digest_246 : decode cX6_digest 246 = .ok (.ldc2_w 165, 3) := by decide +kernel
theorem dX6_digest_249 : decode cX6_digest 249 = .ok (.lmul, 1) := by decide +kernel
theorem dX6_digest_250 : decode cX6_digest 250 = .ok (.aload_n 0, 1) := by decide +kernel
theorem dX6_digest_251 : decode cX6_digest 251 = .ok (.getfield 110, 3) := by decide +kernel
theorem dX6_digest_254 : decode cX6_digest 254 = .ok (.i2l, 1) := by decide +kernel
theorem dX6_digest_255 : decode cX6_digest 255 = .ok (.ladd, 1) := by decide +kernel
theorem dX6_digest_256 : decode cX6_digest 256 = .ok (.lreturn, 1) := by decide +kernel
theorem dJ9_max_7cf53_0 : decode cJ9_max_7cf53 0 = .ok (.iload_n 0, 1) := by decide +kernel
theorem dJ9_max_7cf53_1 : decode cJ9_max_7cf53 1 = .ok (.iload_n 1, 1) := by decide +kernel
theorem dJ9_max_7cf53_2 : decode cJ9_max_7cf53 2 = .ok (.if_icmp .lt 7, 3) := by decide +kernel
theorem dJ9_max_7cf53_5 : decode cJ9_max_7cf53 5 = .ok (.iload_n 0, 1) := by decide +kernel
theorem dJ9_max_7cf53_6 : decode cJ9_max_7cf53 6 = .ok (.goto 4, 3) := by decide +kernel
theorem dJ9_max_7cf53_9 : decode cJ9_max_7cf53 9 = .ok (.iload_n 1, 1) := by decide +kernel
theorem dJ9_max_7cf53_10 : decode cJ9_max_7cf53 10 = .ok (.ireturn, 1) := by decide +kernel
theorem dJ9_min_7cf53_0 : decode cJ9_min_7cf53 0 = .ok (.iload_n 0, 1) := by decide +kernel
theorem dJ9_min_7cf53_1 : decode cJ9_min_7cf53 1 = .ok (.iload_n 1, 1) := by decide +kernel
theorem dJ9_min_7cf53_2 : decode cJ9_min_7cf53 2 = .ok (.if_icmp .gt 7, 3) := by decide +kernel
theorem dJ9_min_7cf53_5 : decode cJ9_min_7cf53 5 = .ok (.iload_n 0, 1) := by decide +kernel
theorem dJ9_min_7cf53_6 : decode cJ9_min_7cf53 6 = .ok (.goto 4, 3) := by decide +kernel
theorem dJ9_min_7cf53_9 : decode cJ9_min_7cf53 9 = .ok (.iload_n 1, 1) := by decide +kernel
theorem dJ9_min_7cf53_10 : decode cJ9_min_7cf53 10 = .ok (.ireturn, 1) := by decide +kernel
