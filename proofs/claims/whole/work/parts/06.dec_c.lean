theorem dX7_thrown_0 : decode cX7_thrown 0 = .ok (.aload_n 0, 1) := by decide +kernel
theorem dX7_thrown_1 : decode cX7_thrown 1 = .ok (.getfield 1, 3) := by decide +kernel
theorem dX7_thrown_4 : decode cX7_thrown 4 = .ok (.ireturn, 1) := by decide +kernel
theorem dX7_refuse_0 : decode cX7_refuse 0 = .ok (.aload_n 0, 1) := by decide +kernel
theorem dX7_refuse_1 : decode cX7_refuse 1 = .ok (.iconst 1, 1) := by decide +kernel
theorem dX7_refuse_2 : decode cX7_refuse 2 = .ok (.putfield 1, 3) := by decide +kernel
theorem dX7_refuse_5 : decode cX7_refuse 5 = .ok (.iconst 0, 1) := by decide +kernel
theorem dX7_refuse_6 : decode cX7_refuse 6 = .ok (.ireturn, 1) := by decide +kernel
theorem dX7_isIn_0 : decode cX7_isIn 0 = .ok (.iload_n 0, 1) := by decide +kernel
theorem dX7_isIn_1 : decode cX7_isIn 1 = .ok (.iload_n 1, 1) := by decide +kernel
theorem dX7_isIn_2 : decode cX7_isIn 2 = .ok (.if_icmp .lt 12, 3) := by decide +kernel
theorem dX7_isIn_5 : decode cX7_isIn 5 = .ok (.iload_n 0, 1) := by decide +kernel
theorem dX7_isIn_6 : decode cX7_isIn 6 = .ok (.iload_n 2, 1) := by decide +kernel
theorem dX7_isIn_7 : decode cX7_isIn 7 = .ok (.if_icmp .gt 7, 3) := by decide +kernel
theorem dX7_isIn_10 : decode cX7_isIn 10 = .ok (.iconst 1, 1) := by decide +kernel
theorem dX7_isIn_11 : decode cX7_isIn 11 = .ok (.goto 4, 3) := by decide +kernel
theorem dX7_isIn_14 : decode cX7_isIn 14 = .ok (.iconst 0, 1) := by decide +kernel
theorem dX7_isIn_15 : decode cX7_isIn 15 = .ok (.ireturn, 1) := by decide +kernel
theorem dX7_lays_0 : decode cX7_lays 0 = .ok (.bipush 24, 2) := by decide +kernel
theorem dX7_lays_2 : decode cX7_lays 2 = .ok (.istore_n 2, 1) := by decide +kernel
theorem dX7_lays_3 : decode cX7_lays 3 = .ok (.iload_n 2, 1) := by decide +kernel
theorem dX7_lays_4 : decode cX7_lays 4 = .ok (.ifCond .lt 35, 3) := by decide +kernel
theorem dX7_lays_7 : decode cX7_lays 7 = .ok (.aload_n 0, 1) := by decide +kernel
theorem dX7_lays_8 : decode cX7_lays 8 = .ok (.getfield 7, 3) := by decide +kernel
theorem dX7_lays_11 : decode cX7_lays 11 = .ok (.aload_n 0, 1) := by decide +kernel
theorem dX7_lays_12 : decode cX7_lays 12 = .ok (.getfield 11, 3) := by decide +kernel
theorem dX7_lays_15 : decode cX7_lays 15 = .ok (.iload_n 1, 1) := by decide +kernel
theorem dX7_lays_16 : decode cX7_lays 16 = .ok (.iload_n 2, 1) := by decide +kernel
theorem dX7_lays_17 : decode cX7_lays 17 = .ok (.iushr, 1) := by decide +kernel
theorem dX7_lays_18 : decode cX7_lays 18 = .ok (.sipush 255, 3) := by decide +kernel
theorem dX7_lays_21 : decode cX7_lays 21 = .ok (.iand, 1) := by decide +kernel
theorem dX7_lays_22 : decode cX7_lays 22 = .ok (.iastore, 1) := by decide +kernel
theorem dX7_lays_23 : decode cX7_lays 23 = .ok (.aload_n 0, 1) := by decide +kernel
theorem dX7_lays_24 : decode cX7_lays 24 = .ok (.dup, 1) := by decide +kernel
theorem dX7_lays_25 : decode cX7_lays 25 = .ok (.getfield 11, 3) := by decide +kernel
theorem dX7_lays_28 : decode cX7_lays 28 = .ok (.iconst 1, 1) := by decide +kernel
theorem dX7_lays_29 : decode cX7_lays 29 = .ok (.iadd, 1) := by decide +kernel
theorem dX7_lays_30 : decode cX7_lays 30 = .ok (.putfield 11, 3) := by decide +kernel
theorem dX7_lays_33 : decode cX7_lays 33 = .ok (.iinc 2 (-8), 3) := by decide +kernel
theorem dX7_lays_36 : decode cX7_lays 36 = .ok (.goto (-33), 3) := by decide +kernel
theorem dX7_lays_39 : decode cX7_lays 39 = .ok (.return_, 1) := by decide +kernel
theorem dX7_feed_0 : decode cX7_feed 0 = .ok (.aload_n 0, 1) := by decide +kernel
theorem dX7_feed_1 : decode cX7_feed 1 = .ok (.iconst 0, 1) := by decide +kernel
theorem dX7_feed_2 : decode cX7_feed 2 = .ok (.putfield 1, 3) := by decide +kernel
theorem dX7_feed_5 : decode cX7_feed 5 = .ok (.aload_n 0, 1) := by decide +kernel
theorem dX7_feed_6 : decode cX7_feed 6 = .ok (.getfield 11, 3) := by decide +kernel
theorem dX7_feed_9 : decode cX7_feed 9 = .ok (.bipush 20, 2) := by decide +kernel
theorem dX7_feed_11 : decode cX7_feed 11 = .ok (.iadd, 1) := by decide +kernel
theorem dX7_feed_12 : decode cX7_feed 12 = .ok (.sipush 640, 3) := by decide +kernel
theorem dX7_feed_15 : decode cX7_feed 15 = .ok (.if_icmp .le 5, 3) := by decide +kernel
theorem dX7_feed_18 : decode cX7_feed 18 = .ok (.iconst (-1), 1) := by decide +kernel
theorem dX7_feed_19 : decode cX7_feed 19 = .ok (.ireturn, 1) := by decide +kernel
theorem dX7_feed_20 : decode cX7_feed 20 = .ok (.aload_n 0, 1) := by decide +kernel
theorem dX7_feed_21 : decode cX7_feed 21 = .ok (.iload_n 1, 1) := by decide +kernel
theorem dX7_feed_22 : decode cX7_feed 22 = .ok (.invokevirtual 14, 3) := by decide +kernel
theorem dX7_feed_25 : decode cX7_feed 25 = .ok (.aload_n 0, 1) := by decide +kernel
theorem dX7_feed_26 : decode cX7_feed 26 = .ok (.iload_n 2, 1) := by decide +kernel
theorem dX7_feed_27 : decode cX7_feed 27 = .ok (.invokevirtual 14, 3) := by decide +kernel
theorem dX7_feed_30 : decode cX7_feed 30 = .ok (.aload_n 0, 1) := by decide +kernel
theorem dX7_feed_31 : decode cX7_feed 31 = .ok (.iload_n 3, 1) := by decide +kernel
theorem dX7_feed_32 : decode cX7_feed 32 = .ok (.invokevirtual 14, 3) := by decide +kernel
theorem dX7_feed_35 : decode cX7_feed 35 = .ok (.aload_n 0, 1) := by decide +kernel
theorem dX7_feed_36 : decode cX7_feed 36 = .ok (.iload 4, 2) := by decide +kernel
theorem dX7_feed_38 : decode cX7_feed 38 = .ok (.invokevirtual 14, 3) := by decide +kernel
theorem dX7_feed_41 : decode cX7_feed 41 = .ok (.aload_n 0, 1) := by decide +kernel
theorem dX7_feed_42 : decode cX7_feed 42 = .ok (.iload 5, 2) := by decide +kernel
theorem dX7_feed_44 : decode cX7_feed 44 = .ok (.invokevirtual 14, 3) := by decide +kernel
theorem dX7_feed_47 : decode cX7_feed 47 = .ok (.aload_n 0, 1) := by decide +kernel
theorem dX7_feed_48 : decode cX7_feed 48 = .ok (.getfield 11, 3) := by decide +kernel
theorem dX7_feed_51 : decode cX7_feed 51 = .ok (.ireturn, 1) := by decide +kernel
theorem dX7_end_0 : decode cX7_end 0 = .ok (.aload_n 0, 1) := by decide +kernel
theorem dX7_end_1 : decode cX7_end 1 = .ok (.iconst 0, 1) := by decide +kernel
theorem dX7_end_2 : decode cX7_end 2 = .ok (.putfield 1, 3) := by decide +kernel
theorem dX7_end_5 : decode cX7_end 5 = .ok (.iload_n 1, 1) := by decide +kernel
theorem dX7_end_6 : decode cX7_end 6 = .ok (.ifCond .lt 11, 3) := by decide +kernel
theorem dX7_end_9 : decode cX7_end 9 = .ok (.iload_n 1, 1) := by decide +kernel
theorem dX7_end_10 : decode cX7_end 10 = .ok (.aload_n 0, 1) := by decide +kernel
theorem dX7_end_11 : decode cX7_end 11 = .ok (.getfield 11, 3) := by decide +kernel
theorem dX7_end_14 : decode cX7_end 14 = .ok (.if_icmp .le 5, 3) := by decide +kernel
theorem dX7_end_17 : decode cX7_end 17 = .ok (.iconst 0, 1) := by decide +kernel
theorem dX7_end_18 : decode cX7_end 18 = .ok (.ireturn, 1) := by decide +kernel
theorem dX7_end_19 : decode cX7_end 19 = .ok (.aload_n 0, 1) := by decide +kernel
theorem dX7_end_20 : decode cX7_end 20 = .ok (.iload_n 1, 1) := by decide +kernel
theorem dX7_end_21 : decode cX7_end 21 = .ok (.putfield 11, 3) := by decide +kernel
theorem dX7_end_24 : decode cX7_end 24 = .ok (.iconst 1, 1) := by decide +kernel
theorem dX7_end_25 : decode cX7_end 25 = .ok (.ireturn, 1) := by decide +kernel
theorem dX7_tapeAt_0 : decode cX7_tapeAt 0 = .ok (.iload_n 1, 1) := by decide +kernel
theorem dX7_tapeAt_1 : decode cX7_tapeAt 1 = .ok (.aload_n 0, 1) := by decide +kernel
theorem dX7_tapeAt_2 : decode cX7_tapeAt 2 = .ok (.getfield 18, 3) := by decide +kernel
theorem dX7_tapeAt_5 : decode cX7_tapeAt 5 = .ok (.if_icmp .ge 12, 3) := by decide +kernel
theorem dX7_tapeAt_8 : decode cX7_tapeAt 8 = .ok (.aload_n 0, 1) := by decide +kernel
theorem dX7_tapeAt_9 : decode cX7_tapeAt 9 = .ok (.getfield 7, 3) := by decide +kernel
theorem dX7_tapeAt_12 : decode cX7_tapeAt 12 = .ok (.iload_n 1, 1) := by decide +kernel
theorem dX7_tapeAt_13 : decode cX7_tapeAt 13 = .ok (.iaload, 1) := by decide +kernel
theorem dX7_tapeAt_14 : decode cX7_tapeAt 14 = .ok (.goto 4, 3) := by decide +kernel
theorem dX7_tapeAt_17 : decode cX7_tapeAt 17 = .ok (.iconst 0, 1) := by decide +kernel
theorem dX7_tapeAt_18 : decode cX7_tapeAt 18 = .ok (.ireturn, 1) := by decide +kernel
theorem dX7_isDigit_0 : decode cX7_isDigit 0 = .ok (.iload_n 0, 1) := by decide +kernel
theorem dX7_isDigit_1 : decode cX7_isDigit 1 = .ok (.bipush 48, 2) := by decide +kernel
theorem dX7_isDigit_3 : decode cX7_isDigit 3 = .ok (.if_icmp .lt 13, 3) := by decide +kernel
theorem dX7_isDigit_6 : decode cX7_isDigit 6 = .ok (.iload_n 0, 1) := by decide +kernel
theorem dX7_isDigit_7 : decode cX7_isDigit 7 = .ok (.bipush 57, 2) := by decide +kernel
theorem dX7_isDigit_9 : decode cX7_isDigit 9 = .ok (.if_icmp .gt 7, 3) := by decide +kernel
theorem dX7_isDigit_12 : decode cX7_isDigit 12 = .ok (.iconst 1, 1) := by decide +kernel
theorem dX7_isDigit_13 : decode cX7_isDigit 13 = .ok (.goto 4, 3) := by decide +kernel
theorem dX7_isDigit_16 : decode cX7_isDigit 16 = .ok (.iconst 0, 1) := by decide +kernel
theorem dX7_isDigit_17 : decode cX7_isDigit 17 = .ok (.ireturn, 1) := by decide +kernel
theorem dX7_isLetter_0 : decode cX7_isLetter 0 = .ok (.iload_n 0, 1) := by decide +kernel
theorem dX7_isLetter_1 : decode cX7_isLetter 1 = .ok (.bipush 97, 2) := by decide +kernel
theorem dX7_isLetter_3 : decode cX7_isLetter 3 = .ok (.if_icmp .lt 13, 3) := by decide +kernel
theorem dX7_isLetter_6 : decode cX7_isLetter 6 = .ok (.iload_n 0, 1) := by decide +kernel
theorem dX7_isLetter_7 : decode cX7_isLetter 7 = .ok (.bipush 122, 2) := by decide +kernel
theorem dX7_isLetter_9 : decode cX7_isLetter 9 = .ok (.if_icmp .gt 7, 3) := by decide +kernel
theorem dX7_isLetter_12 : decode cX7_isLetter 12 = .ok (.iconst 1, 1) := by decide +kernel
theorem dX7_isLetter_13 : decode cX7_isLetter 13 = .ok (.goto 4, 3) := by decide +kernel
theorem dX7_isLetter_16 : decode cX7_isLetter 16 = .ok (.iconst 0, 1) := by decide +kernel
theorem dX7_isLetter_17 : decode cX7_isLetter 17 = .ok (.ireturn, 1) := by decide +kernel
theorem dX7_go_0 : decode cX7_go 0 = .ok (.aload_n 0, 1) := by decide +kernel
theorem dX7_go_1 : decode cX7_go 1 = .ok (.getfield 21, 3) := by decide +kernel
theorem dX7_go_4 : decode cX7_go 4 = .ok (.aload_n 0, 1) := by decide +kernel
theorem dX7_go_5 : decode cX7_go 5 = .ok (.getfield 18, 3) := by decide +kernel
theorem dX7_go_8 : decode cX7_go 8 = .ok (.if_icmp .ge 44, 3) := by decide +kernel
theorem dX7_go_11 : decode cX7_go 11 = .ok (.aload_n 0, 1) := by decide +kernel
theorem dX7_go_12 : decode cX7_go 12 = .ok (.getfield 7, 3) := by decide +kernel
theorem dX7_go_15 : decode cX7_go 15 = .ok (.aload_n 0, 1) := by decide +kernel
theorem dX7_go_16 : decode cX7_go 16 = .ok (.getfield 21, 3) := by decide +kernel
theorem dX7_go_19 : decode cX7_go 19 = .ok (.iaload, 1) := by decide +kernel
theorem dX7_go_20 : decode cX7_go 20 = .ok (.bipush 32, 2) := by decide +kernel
theorem dX7_go_22 : decode cX7_go 22 = .ok (.if_icmp .eq 17, 3) := by decide +kernel
theorem dX7_go_25 : decode cX7_go 25 = .ok (.aload_n 0, 1) := by decide +kernel
theorem dX7_go_26 : decode cX7_go 26 = .ok (.getfield 7, 3) := by decide +kernel
theorem dX7_go_29 : decode cX7_go 29 = .ok (.aload_n 0, 1) := by decide +kernel
theorem dX7_go_30 : decode cX7_go 30 = .ok (.getfield 21, 3) := by decide +kernel
theorem dX7_go_33 : decode cX7_go 33 = .ok (.iaload, 1) := by decide +kernel
theorem dX7_go_34 : decode cX7_go 34 = .ok (.bipush 10, 2) := by decide +kernel
theorem dX7_go_36 : decode cX7_go 36 = .ok (.if_icmp .ne 16, 3) := by decide +kernel
theorem dX7_go_39 : decode cX7_go 39 = .ok (.aload_n 0, 1) := by decide +kernel
theorem dX7_go_40 : decode cX7_go 40 = .ok (.dup, 1) := by decide +kernel
theorem dX7_go_41 : decode cX7_go 41 = .ok (.getfield 21, 3) := by decide +kernel
theorem dX7_go_44 : decode cX7_go 44 = .ok (.iconst 1, 1) := by decide +kernel
theorem dX7_go_45 : decode cX7_go 45 = .ok (.iadd, 1) := by decide +kernel
theorem dX7_go_46 : decode cX7_go 46 = .ok (.putfield 21, 3) := by decide +kernel
theorem dX7_go_49 : decode cX7_go 49 = .ok (.goto (-49), 3) := by decide +kernel
theorem dX7_go_52 : decode cX7_go 52 = .ok (.aload_n 0, 1) := by decide +kernel
theorem dX7_go_53 : decode cX7_go 53 = .ok (.aload_n 0, 1) := by decide +kernel
theorem dX7_go_54 : decode cX7_go 54 = .ok (.getfield 21, 3) := by decide +kernel
theorem dX7_go_57 : decode cX7_go 57 = .ok (.putfield 24, 3) := by decide +kernel
theorem dX7_go_60 : decode cX7_go 60 = .ok (.aload_n 0, 1) := by decide +kernel
theorem dX7_go_61 : decode cX7_go 61 = .ok (.getfield 18, 3) := by decide +kernel
theorem dX7_go_64 : decode cX7_go 64 = .ok (.sipush 600, 3) := by decide +kernel
theorem dX7_go_67 : decode cX7_go 67 = .ok (.if_icmp .le 26, 3) := by decide +kernel
theorem dX7_go_70 : decode cX7_go 70 = .ok (.aload_n 0, 1) := by decide +kernel
theorem dX7_go_71 : decode cX7_go 71 = .ok (.getfield 24, 3) := by decide +kernel
theorem dX7_go_74 : decode cX7_go 74 = .ok (.sipush 600, 3) := by decide +kernel
theorem dX7_go_77 : decode cX7_go 77 = .ok (.if_icmp .lt 16, 3) := by decide +kernel
theorem dX7_go_80 : decode cX7_go 80 = .ok (.aload_n 0, 1) := by decide +kernel
theorem dX7_go_81 : decode cX7_go 81 = .ok (.sipush 600, 3) := by decide +kernel
theorem dX7_go_84 : decode cX7_go 84 = .ok (.putfield 24, 3) := by decide +kernel
theorem dX7_go_87 : decode cX7_go 87 = .ok (.aload_n 0, 1) := by decide +kernel
theorem dX7_go_88 : decode cX7_go 88 = .ok (.iconst 1, 1) := by decide +kernel
theorem dX7_go_89 : decode cX7_go 89 = .ok (.putfield 27, 3) := by decide +kernel
theorem dX7_go_92 : decode cX7_go 92 = .ok (.return_, 1) := by decide +kernel
theorem dX7_go_93 : decode cX7_go 93 = .ok (.aload_n 0, 1) := by decide +kernel
theorem dX7_go_94 : decode cX7_go 94 = .ok (.getfield 21, 3) := by decide +kernel
theorem dX7_go_97 : decode cX7_go 97 = .ok (.aload_n 0, 1) := by decide +kernel
theorem dX7_go_98 : decode cX7_go 98 = .ok (.getfield 18, 3) := by decide +kernel
theorem dX7_go_101 : decode cX7_go 101 = .ok (.if_icmp .lt 9, 3) := by decide +kernel
theorem dX7_go_104 : decode cX7_go 104 = .ok (.aload_n 0, 1) := by decide +kernel
theorem dX7_go_105 : decode cX7_go 105 = .ok (.iconst 0, 1) := by decide +kernel
theorem dX7_go_106 : decode cX7_go 106 = .ok (.putfield 27, 3) := by decide +kernel
theorem dX7_go_109 : decode cX7_go 109 = .ok (.return_, 1) := by decide +kernel
theorem dX7_go_110 : decode cX7_go 110 = .ok (.aload_n 0, 1) := by decide +kernel
theorem dX7_go_111 : decode cX7_go 111 = .ok (.getfield 7, 3) := by decide +kernel
theorem dX7_go_114 : decode cX7_go 114 = .ok (.aload_n 0, 1) := by decide +kernel
theorem dX7_go_115 : decode cX7_go 115 = .ok (.getfield 21, 3) := by decide +kernel
theorem dX7_go_118 : decode cX7_go 118 = .ok (.iaload, 1) := by decide +kernel
theorem dX7_go_119 : decode cX7_go 119 = .ok (.istore_n 1, 1) := by decide +kernel
theorem dX7_go_120 : decode cX7_go 120 = .ok (.iload_n 1, 1) := by decide +kernel
theorem dX7_go_121 : decode cX7_go 121 = .ok (.invokestatic 30, 3) := by decide +kernel
theorem dX7_go_124 : decode cX7_go 124 = .ok (.ifCond .ne 36, 3) := by decide +kernel
theorem dX7_go_127 : decode cX7_go 127 = .ok (.iload_n 1, 1) := by decide +kernel
theorem dX7_go_128 : decode cX7_go 128 = .ok (.invokestatic 34, 3) := by decide +kernel
theorem dX7_go_131 : decode cX7_go 131 = .ok (.ifCond .ne 29, 3) := by decide +kernel
theorem dX7_go_134 : decode cX7_go 134 = .ok (.aload_n 0, 1) := by decide +kernel
theorem dX7_go_135 : decode cX7_go 135 = .ok (.iload_n 1, 1) := by decide +kernel
theorem dX7_go_136 : decode cX7_go 136 = .ok (.bipush 59, 2) := by decide +kernel
theorem dX7_go_138 : decode cX7_go 138 = .ok (.if_icmp .ne 7, 3) := by decide +kernel
theorem dX7_go_141 : decode cX7_go 141 = .ok (.iconst 4, 1) := by decide +kernel
theorem dX7_go_142 : decode cX7_go 142 = .ok (.goto 4, 3) := by decide +kernel
theorem dX7_go_145 : decode cX7_go 145 = .ok (.iconst 1, 1) := by decide +kernel
theorem dX7_go_146 : decode cX7_go 146 = .ok (.putfield 27, 3) := by decide +kernel
theorem dX7_go_149 : decode cX7_go 149 = .ok (.aload_n 0, 1) := by decide +kernel
theorem dX7_go_150 : decode cX7_go 150 = .ok (.dup, 1) := by decide +kernel
theorem dX7_go_151 : decode cX7_go 151 = .ok (.getfield 21, 3) := by decide +kernel
theorem dX7_go_154 : decode cX7_go 154 = .ok (.iconst 1, 1) := by decide +kernel
theorem dX7_go_155 : decode cX7_go 155 = .ok (.iadd, 1) := by decide +kernel
theorem dX7_go_156 : decode cX7_go 156 = .ok (.putfield 21, 3) := by decide +kernel
theorem dX7_go_159 : decode cX7_go 159 = .ok (.return_, 1) := by decide +kernel
theorem dX7_go_160 : decode cX7_go 160 = .ok (.iload_n 1, 1) := by decide +kernel
theorem dX7_go_161 : decode cX7_go 161 = .ok (.invokestatic 30, 3) := by decide +kernel
theorem dX7_go_164 : decode cX7_go 164 = .ok (.istore_n 2, 1) := by decide +kernel
theorem dX7_go_165 : decode cX7_go 165 = .ok (.iconst 1, 1) := by decide +kernel
theorem dX7_go_166 : decode cX7_go 166 = .ok (.istore_n 3, 1) := by decide +kernel
theorem dX7_go_167 : decode cX7_go 167 = .ok (.aload_n 0, 1) := by decide +kernel
theorem dX7_go_168 : decode cX7_go 168 = .ok (.lconst 0, 1) := by decide +kernel
theorem dX7_go_169 : decode cX7_go 169 = .ok (.putfield 37, 3) := by decide +kernel
theorem dX7_go_172 : decode cX7_go 172 = .ok (.aload_n 0, 1) := by decide +kernel
theorem dX7_go_173 : decode cX7_go 173 = .ok (.iconst 0, 1) := by decide +kernel
theorem dX7_go_174 : decode cX7_go 174 = .ok (.putfield 41, 3) := by decide +kernel
theorem dX7_go_177 : decode cX7_go 177 = .ok (.aload_n 0, 1) := by decide +kernel
theorem dX7_go_178 : decode cX7_go 178 = .ok (.aload_n 0, 1) := by decide +kernel
theorem dX7_go_179 : decode cX7_go 179 = .ok (.getfield 21, 3) := by decide +kernel
theorem dX7_go_182 : decode cX7_go 182 = .ok (.invokevirtual 44, 3) := by decide +kernel
theorem dX7_go_185 : decode cX7_go 185 = .ok (.invokestatic 30, 3) := by decide +kernel
theorem dX7_go_188 : decode cX7_go 188 = .ok (.ifCond .ne 17, 3) := by decide +kernel
theorem dX7_go_191 : decode cX7_go 191 = .ok (.aload_n 0, 1) := by decide +kernel
theorem dX7_go_192 : decode cX7_go 192 = .ok (.aload_n 0, 1) := by decide +kernel
theorem dX7_go_193 : decode cX7_go 193 = .ok (.getfield 21, 3) := by decide +kernel
theorem dX7_go_196 : decode cX7_go 196 = .ok (.invokevirtual 44, 3) := by decide +kernel
theorem dX7_go_199 : decode cX7_go 199 = .ok (.invokestatic 34, 3) := by decide +kernel
theorem dX7_go_202 : decode cX7_go 202 = .ok (.ifCond .eq 110, 3) := by decide +kernel
theorem dX7_go_205 : decode cX7_go 205 = .ok (.aload_n 0, 1) := by decide +kernel
theorem dX7_go_206 : decode cX7_go 206 = .ok (.getfield 7, 3) := by decide +kernel
theorem dX7_go_209 : decode cX7_go 209 = .ok (.aload_n 0, 1) := by decide +kernel
theorem dX7_go_210 : decode cX7_go 210 = .ok (.getfield 21, 3) := by decide +kernel
theorem dX7_go_213 : decode cX7_go 213 = .ok (.iaload, 1) := by decide +kernel
theorem dX7_go_214 : decode cX7_go 214 = .ok (.istore 4, 2) := by decide +kernel
theorem dX7_go_216 : decode cX7_go 216 = .ok (.iload_n 3, 1) := by decide +kernel
theorem dX7_go_217 : decode cX7_go 217 = .ok (.ifCond .eq 16, 3) := by decide +kernel
theorem dX7_go_220 : decode cX7_go 220 = .ok (.iload 4, 2) := by decide +kernel
theorem dX7_go_222 : decode cX7_go 222 = .ok (.invokestatic 30, 3) := by decide +kernel
theorem dX7_go_225 : decode cX7_go 225 = .ok (.iload_n 2, 1) := by decide +kernel
theorem dX7_go_226 : decode cX7_go 226 = .ok (.if_icmp .ne 7, 3) := by decide +kernel
theorem dX7_go_229 : decode cX7_go 229 = .ok (.iconst 1, 1) := by decide +kernel
theorem dX7_go_230 : decode cX7_go 230 = .ok (.goto 4, 3) := by decide +kernel
theorem dX7_go_233 : decode cX7_go 233 = .ok (.iconst 0, 1) := by decide +kernel
theorem dX7_go_234 : decode cX7_go 234 = .ok (.istore_n 3, 1) := by decide +kernel
theorem dX7_go_235 : decode cX7_go 235 = .ok (.aload_n 0, 1) := by decide +kernel
theorem dX7_go_236 : decode cX7_go 236 = .ok (.getfield 21, 3) := by decide +kernel
theorem dX7_go_239 : decode cX7_go 239 = .ok (.aload_n 0, 1) := by decide +kernel
theorem dX7_go_240 : decode cX7_go 240 = .ok (.getfield 24, 3) := by decide +kernel
theorem dX7_go_243 : decode cX7_go 243 = .ok (.isub, 1) := by decide +kernel
theorem dX7_go_244 : decode cX7_go 244 = .ok (.bipush 9, 2) := by decide +kernel
theorem dX7_go_246 : decode cX7_go 246 = .ok (.if_icmp .ge 23, 3) := by decide +kernel
theorem dX7_go_249 : decode cX7_go 249 = .ok (.aload_n 0, 1) := by decide +kernel
theorem dX7_go_250 : decode cX7_go 250 = .ok (.ldc2_w 48, 3) := by decide +kernel
theorem dX7_go_253 : decode cX7_go 253 = .ok (.aload_n 0, 1) := by decide +kernel
theorem dX7_go_254 : decode cX7_go 254 = .ok (.getfield 37, 3) := by decide +kernel
theorem dX7_go_257 : decode cX7_go 257 = .ok (.lmul, 1) := by decide +kernel
theorem dX7_go_258 : decode cX7_go 258 = .ok (.iload 4, 2) := by decide +kernel
theorem dX7_go_260 : decode cX7_go 260 = .ok (.i2l, 1) := by decide +kernel
theorem dX7_go_261 : decode cX7_go 261 = .ok (.ladd, 1) := by decide +kernel
theorem dX7_go_262 : decode cX7_go 262 = .ok (.ldc2_w 50, 3) := by decide +kernel
theorem dX7_go_265 : decode cX7_go 265 = .ok (.lsub, 1) := by decide +kernel
theorem dX7_go_266 : decode cX7_go 266 = .ok (.putfield 37, 3) := by decide +kernel
theorem dX7_go_269 : decode cX7_go 269 = .ok (.aload_n 0, 1) := by decide +kernel
theorem dX7_go_270 : decode cX7_go 270 = .ok (.getfield 21, 3) := by decide +kernel
theorem dX7_go_273 : decode cX7_go 273 = .ok (.aload_n 0, 1) := by decide +kernel
theorem dX7_go_274 : decode cX7_go 274 = .ok (.getfield 24, 3) := by decide +kernel
theorem dX7_go_277 : decode cX7_go 277 = .ok (.isub, 1) := by decide +kernel
theorem dX7_go_278 : decode cX7_go 278 = .ok (.iconst 2, 1) := by decide +kernel
theorem dX7_go_279 : decode cX7_go 279 = .ok (.if_icmp .ge 20, 3) := by decide +kernel
theorem dX7_go_282 : decode cX7_go 282 = .ok (.aload_n 0, 1) := by decide +kernel
theorem dX7_go_283 : decode cX7_go 283 = .ok (.bipush 10, 2) := by decide +kernel
theorem dX7_go_285 : decode cX7_go 285 = .ok (.aload_n 0, 1) := by decide +kernel
theorem dX7_go_286 : decode cX7_go 286 = .ok (.getfield 41, 3) := by decide +kernel
theorem dX7_go_289 : decode cX7_go 289 = .ok (.imul, 1) := by decide +kernel
theorem dX7_go_290 : decode cX7_go 290 = .ok (.iload 4, 2) := by decide +kernel
theorem dX7_go_292 : decode cX7_go 292 = .ok (.iadd, 1) := by decide +kernel
theorem dX7_go_293 : decode cX7_go 293 = .ok (.bipush 48, 2) := by decide +kernel
theorem dX7_go_295 : decode cX7_go 295 = .ok (.isub, 1) := by decide +kernel
theorem dX7_go_296 : decode cX7_go 296 = .ok (.putfield 41, 3) := by decide +kernel
theorem dX7_go_299 : decode cX7_go 299 = .ok (.aload_n 0, 1) := by decide +kernel
theorem dX7_go_300 : decode cX7_go 300 = .ok (.dup, 1) := by decide +kernel
theorem dX7_go_301 : decode cX7_go 301 = .ok (.getfield 21, 3) := by decide +kernel
theorem dX7_go_304 : decode cX7_go 304 = .ok (.iconst 1, 1) := by decide +kernel
theorem dX7_go_305 : decode cX7_go 305 = .ok (.iadd, 1) := by decide +kernel
theorem dX7_go_306 : decode cX7_go 306 = .ok (.putfield 21, 3) := by decide +kernel
theorem dX7_go_309 : decode cX7_go 309 = .ok (.goto (-132), 3) := by decide +kernel
theorem dX7_go_312 : decode cX7_go 312 = .ok (.aload_n 0, 1) := by decide +kernel
theorem dX7_go_313 : decode cX7_go 313 = .ok (.iload_n 3, 1) := by decide +kernel
theorem dX7_go_314 : decode cX7_go 314 = .ok (.ifCond .eq 20, 3) := by decide +kernel
theorem dX7_go_317 : decode cX7_go 317 = .ok (.iload_n 2, 1) := by decide +kernel
theorem dX7_go_318 : decode cX7_go 318 = .ok (.ifCond .ne 20, 3) := by decide +kernel
theorem dX7_go_321 : decode cX7_go 321 = .ok (.aload_n 0, 1) := by decide +kernel
theorem dX7_go_322 : decode cX7_go 322 = .ok (.getfield 21, 3) := by decide +kernel
theorem dX7_go_325 : decode cX7_go 325 = .ok (.aload_n 0, 1) := by decide +kernel
theorem dX7_go_326 : decode cX7_go 326 = .ok (.getfield 24, 3) := by decide +kernel
theorem dX7_go_329 : decode cX7_go 329 = .ok (.isub, 1) := by decide +kernel
theorem dX7_go_330 : decode cX7_go 330 = .ok (.iconst 2, 1) := by decide +kernel
theorem dX7_go_331 : decode cX7_go 331 = .ok (.if_icmp .le 7, 3) := by decide +kernel
theorem dX7_go_334 : decode cX7_go 334 = .ok (.iconst 1, 1) := by decide +kernel
theorem dX7_go_335 : decode cX7_go 335 = .ok (.goto 12, 3) := by decide +kernel
theorem dX7_go_338 : decode cX7_go 338 = .ok (.iload_n 2, 1) := by decide +kernel
theorem dX7_go_339 : decode cX7_go 339 = .ok (.ifCond .eq 7, 3) := by decide +kernel
theorem dX7_go_342 : decode cX7_go 342 = .ok (.iconst 2, 1) := by decide +kernel
theorem dX7_go_343 : decode cX7_go 343 = .ok (.goto 4, 3) := by decide +kernel
theorem dX7_go_346 : decode cX7_go 346 = .ok (.iconst 3, 1) := by decide +kernel
theorem dX7_go_347 : decode cX7_go 347 = .ok (.putfield 27, 3) := by decide +kernel
theorem dX7_go_350 : decode cX7_go 350 = .ok (.return_, 1) := by decide +kernel
theorem dX7_three_0 : decode cX7_three 0 = .ok (.ldc2_w 48, 3) := by decide +kernel
theorem dX7_three_3 : decode cX7_three 3 = .ok (.ldc2_w 48, 3) := by decide +kernel
theorem dX7_three_6 : decode cX7_three 6 = .ok (.iload_n 0, 1) := by decide +kernel
theorem dX7_three_7 : decode cX7_three 7 = .ok (.i2l, 1) := by decide +kernel
theorem dX7_three_8 : decode cX7_three 8 = .ok (.ldc2_w 50, 3) := by decide +kernel
theorem dX7_three_11 : decode cX7_three 11 = .ok (.lsub, 1) := by decide +kernel
theorem dX7_three_12 : decode cX7_three 12 = .ok (.lmul, 1) := by decide +kernel
theorem dX7_three_13 : decode cX7_three 13 = .ok (.iload_n 1, 1) := by decide +kernel
theorem dX7_three_14 : decode cX7_three 14 = .ok (.i2l, 1) := by decide +kernel
theorem dX7_three_15 : decode cX7_three 15 = .ok (.ladd, 1) := by decide +kernel
theorem dX7_three_16 : decode cX7_three 16 = .ok (.ldc2_w 50, 3) := by decide +kernel
theorem dX7_three_19 : decode cX7_three 19 = .ok (.lsub, 1) := by decide +kernel
theorem dX7_three_20 : decode cX7_three 20 = .ok (.lmul, 1) := by decide +kernel
theorem dX7_three_21 : decode cX7_three 21 = .ok (.iload_n 2, 1) := by decide +kernel
theorem dX7_three_22 : decode cX7_three 22 = .ok (.i2l, 1) := by decide +kernel
theorem dX7_three_23 : decode cX7_three 23 = .ok (.ladd, 1) := by decide +kernel
theorem dX7_three_24 : decode cX7_three 24 = .ok (.ldc2_w 50, 3) := by decide +kernel
theorem dX7_three_27 : decode cX7_three 27 = .ok (.lsub, 1) := by decide +kernel
theorem dX7_three_28 : decode cX7_three 28 = .ok (.lreturn, 1) := by decide +kernel
theorem dX7_isWord_0 : decode cX7_isWord 0 = .ok (.aload_n 0, 1) := by decide +kernel
theorem dX7_isWord_1 : decode cX7_isWord 1 = .ok (.getfield 27, 3) := by decide +kernel
theorem dX7_isWord_4 : decode cX7_isWord 4 = .ok (.iconst 2, 1) := by decide +kernel
theorem dX7_isWord_5 : decode cX7_isWord 5 = .ok (.if_icmp .ne 16, 3) := by decide +kernel
theorem dX7_isWord_8 : decode cX7_isWord 8 = .ok (.aload_n 0, 1) := by decide +kernel
theorem dX7_isWord_9 : decode cX7_isWord 9 = .ok (.getfield 37, 3) := by decide +kernel
theorem dX7_isWord_12 : decode cX7_isWord 12 = .ok (.lload_n 1, 1) := by decide +kernel
theorem dX7_isWord_13 : decode cX7_isWord 13 = .ok (.lcmp, 1) := by decide +kernel
theorem dX7_isWord_14 : decode cX7_isWord 14 = .ok (.ifCond .ne 7, 3) := by decide +kernel
theorem dX7_isWord_17 : decode cX7_isWord 17 = .ok (.iconst 1, 1) := by decide +kernel
theorem dX7_isWord_18 : decode cX7_isWord 18 = .ok (.goto 4, 3) := by decide +kernel
theorem dX7_isWord_21 : decode cX7_isWord 21 = .ok (.iconst 0, 1) := by decide +kernel
theorem dX7_isWord_22 : decode cX7_isWord 22 = .ok (.ireturn, 1) := by decide +kernel
theorem dX7_bad_0 : decode cX7_bad 0 = .ok (.aload_n 0, 1) := by decide +kernel
theorem dX7_bad_1 : decode cX7_bad 1 = .ok (.aload_n 0, 1) := by decide +kernel
theorem dX7_bad_2 : decode cX7_bad 2 = .ok (.getfield 27, 3) := by decide +kernel
theorem dX7_bad_5 : decode cX7_bad 5 = .ok (.iconst 1, 1) := by decide +kernel
theorem dX7_bad_6 : decode cX7_bad 6 = .ok (.if_icmp .ne 7, 3) := by decide +kernel
theorem dX7_bad_9 : decode cX7_bad 9 = .ok (.iconst 1, 1) := by decide +kernel
theorem dX7_bad_10 : decode cX7_bad 10 = .ok (.goto 4, 3) := by decide +kernel
theorem dX7_bad_13 : decode cX7_bad 13 = .ok (.iload_n 1, 1) := by decide +kernel
theorem dX7_bad_14 : decode cX7_bad 14 = .ok (.putfield 52, 3) := by decide +kernel
theorem dX7_bad_17 : decode cX7_bad 17 = .ok (.aload_n 0, 1) := by decide +kernel
theorem dX7_bad_18 : decode cX7_bad 18 = .ok (.aload_n 0, 1) := by decide +kernel
theorem dX7_bad_19 : decode cX7_bad 19 = .ok (.getfield 24, 3) := by decide +kernel
theorem dX7_bad_22 : decode cX7_bad 22 = .ok (.putfield 55, 3) := by decide +kernel
theorem dX7_bad_25 : decode cX7_bad 25 = .ok (.iconst 0, 1) := by decide +kernel
theorem dX7_bad_26 : decode cX7_bad 26 = .ok (.ireturn, 1) := by decide +kernel
theorem dX7_init_0 : decode cX7_init 0 = .ok (.aload_n 0, 1) := by decide +kernel
theorem dX7_init_1 : decode cX7_init 1 = .ok (.invokespecial 58, 3) := by decide +kernel
theorem dX7_init_4 : decode cX7_init 4 = .ok (.aload_n 0, 1) := by decide +kernel
theorem dX7_init_5 : decode cX7_init 5 = .ok (.sipush 640, 3) := by decide +kernel
theorem dX7_init_8 : decode cX7_init 8 = .ok (.newarray .int, 2) := by decide +kernel
theorem dX7_init_10 : decode cX7_init 10 = .ok (.putfield 7, 3) := by decide +kernel
theorem dX7_init_13 : decode cX7_init 13 = .ok (.aload_n 0, 1) := by decide +kernel
theorem dX7_init_14 : decode cX7_init 14 = .ok (.sipush 1333, 3) := by decide +kernel
theorem dX7_init_17 : decode cX7_init 17 = .ok (.newarray .int, 2) := by decide +kernel
theorem dX7_init_19 : decode cX7_init 19 = .ok (.putfield 64, 3) := by decide +kernel
theorem dX7_init_22 : decode cX7_init 22 = .ok (.aload_n 0, 1) := by decide +kernel
theorem dX7_init_23 : decode cX7_init 23 = .ok (.sipush 1333, 3) := by decide +kernel
theorem dX7_init_26 : decode cX7_init 26 = .ok (.newarray .int, 2) := by decide +kernel
theorem dX7_init_28 : decode cX7_init 28 = .ok (.putfield 67, 3) := by decide +kernel
theorem dX7_init_31 : decode cX7_init 31 = .ok (.aload_n 0, 1) := by decide +kernel
theorem dX7_init_32 : decode cX7_init 32 = .ok (.sipush 13330, 3) := by decide +kernel
theorem dX7_init_35 : decode cX7_init 35 = .ok (.newarray .int, 2) := by decide +kernel
theorem dX7_init_37 : decode cX7_init 37 = .ok (.putfield 70, 3) := by decide +kernel
theorem dX7_init_40 : decode cX7_init 40 = .ok (.aload_n 0, 1) := by decide +kernel
theorem dX7_init_41 : decode cX7_init 41 = .ok (.bipush 8, 2) := by decide +kernel
theorem dX7_init_43 : decode cX7_init 43 = .ok (.newarray .int, 2) := by decide +kernel
theorem dX7_init_45 : decode cX7_init 45 = .ok (.putfield 73, 3) := by decide +kernel
theorem dX7_init_48 : decode cX7_init 48 = .ok (.aload_n 0, 1) := by decide +kernel
theorem dX7_init_49 : decode cX7_init 49 = .ok (.bipush 24, 2) := by decide +kernel
theorem dX7_init_51 : decode cX7_init 51 = .ok (.newarray .int, 2) := by decide +kernel
theorem dX7_init_53 : decode cX7_init 53 = .ok (.putfield 76, 3) := by decide +kernel
theorem dX7_init_56 : decode cX7_init 56 = .ok (.aload_n 0, 1) := by decide +kernel
theorem dX7_init_57 : decode cX7_init 57 = .ok (.bipush 8, 2) := by decide +kernel
theorem dX7_init_59 : decode cX7_init 59 = .ok (.newarray .int, 2) := by decide +kernel
theorem dX7_init_61 : decode cX7_init 61 = .ok (.putfield 79, 3) := by decide +kernel
theorem dX7_init_64 : decode cX7_init 64 = .ok (.aload_n 0, 1) := by decide +kernel
theorem dX7_init_65 : decode cX7_init 65 = .ok (.sipush 192, 3) := by decide +kernel
theorem dX7_init_68 : decode cX7_init 68 = .ok (.newarray .int, 2) := by decide +kernel
theorem dX7_init_70 : decode cX7_init 70 = .ok (.putfield 82, 3) := by decide +kernel
theorem dX7_init_73 : decode cX7_init 73 = .ok (.aload_n 0, 1) := by decide +kernel
theorem dX7_init_74 : decode cX7_init 74 = .ok (.bipush 24, 2) := by decide +kernel
theorem dX7_init_76 : decode cX7_init 76 = .ok (.newarray .int, 2) := by decide +kernel
theorem dX7_init_78 : decode cX7_init 78 = .ok (.putfield 85, 3) := by decide +kernel
theorem dX7_init_81 : decode cX7_init 81 = .ok (.aload_n 0, 1) := by decide +kernel
theorem dX7_init_82 : decode cX7_init 82 = .ok (.bipush 8, 2) := by decide +kernel
theorem dX7_init_84 : decode cX7_init 84 = .ok (.newarray .int, 2) := by decide +kernel
theorem dX7_init_86 : decode cX7_init 86 = .ok (.putfield 88, 3) := by decide +kernel
theorem dX7_init_89 : decode cX7_init 89 = .ok (.aload_n 0, 1) := by decide +kernel
theorem dX7_init_90 : decode cX7_init 90 = .ok (.bipush 24, 2) := by decide +kernel
theorem dX7_init_92 : decode cX7_init 92 = .ok (.newarray .int, 2) := by decide +kernel
theorem dX7_init_94 : decode cX7_init 94 = .ok (.putfield 91, 3) := by decide +kernel
theorem dX7_init_97 : decode cX7_init 97 = .ok (.aload_n 0, 1) := by decide +kernel
theorem dX7_init_98 : decode cX7_init 98 = .ok (.sipush 192, 3) := by decide +kernel
theorem dX7_init_101 : decode cX7_init 101 = .ok (.newarray .boolean, 2) := by decide +kernel
theorem dX7_init_103 : decode cX7_init 103 = .ok (.putfield 94, 3) := by decide +kernel
theorem dX7_init_106 : decode cX7_init 106 = .ok (.aload_n 0, 1) := by decide +kernel
theorem dX7_init_107 : decode cX7_init 107 = .ok (.getfield 64, 3) := by decide +kernel
theorem dX7_init_110 : decode cX7_init 110 = .ok (.iconst 1, 1) := by decide +kernel
theorem dX7_init_111 : decode cX7_init 111 = .ok (.iconst 1, 1) := by decide +kernel
theorem dX7_init_112 : decode cX7_init 112 = .ok (.iastore, 1) := by decide +kernel
theorem dX7_init_113 : decode cX7_init 113 = .ok (.return_, 1) := by decide +kernel
theorem dX7_told_0 : decode cX7_told 0 = .ok (.aload_n 0, 1) := by decide +kernel
theorem dX7_told_1 : decode cX7_told 1 = .ok (.getfield 27, 3) := by decide +kernel
theorem dX7_told_4 : decode cX7_told 4 = .ok (.iconst 3, 1) := by decide +kernel
theorem dX7_told_5 : decode cX7_told 5 = .ok (.if_icmp .eq 9, 3) := by decide +kernel
theorem dX7_told_8 : decode cX7_told 8 = .ok (.aload_n 0, 1) := by decide +kernel
theorem dX7_told_9 : decode cX7_told 9 = .ok (.iconst 1, 1) := by decide +kernel
theorem dX7_told_10 : decode cX7_told 10 = .ok (.invokevirtual 98, 3) := by decide +kernel
theorem dX7_told_13 : decode cX7_told 13 = .ok (.ireturn, 1) := by decide +kernel
theorem dX7_told_14 : decode cX7_told 14 = .ok (.aload_n 0, 1) := by decide +kernel
theorem dX7_told_15 : decode cX7_told 15 = .ok (.getfield 41, 3) := by decide +kernel
theorem dX7_told_18 : decode cX7_told 18 = .ok (.iload_n 2, 1) := by decide +kernel
theorem dX7_told_19 : decode cX7_told 19 = .ok (.iload_n 3, 1) := by decide +kernel
theorem dX7_told_20 : decode cX7_told 20 = .ok (.invokestatic 101, 3) := by decide +kernel
theorem dX7_told_23 : decode cX7_told 23 = .ok (.ifCond .ne 9, 3) := by decide +kernel
theorem dX7_told_26 : decode cX7_told 26 = .ok (.aload_n 0, 1) := by decide +kernel
theorem dX7_told_27 : decode cX7_told 27 = .ok (.iconst 2, 1) := by decide +kernel
theorem dX7_told_28 : decode cX7_told 28 = .ok (.invokevirtual 98, 3) := by decide +kernel
theorem dX7_told_31 : decode cX7_told 31 = .ok (.ireturn, 1) := by decide +kernel
theorem dX7_told_32 : decode cX7_told 32 = .ok (.aload_n 0, 1) := by decide +kernel
theorem dX7_told_33 : decode cX7_told 33 = .ok (.getfield 67, 3) := by decide +kernel
theorem dX7_told_36 : decode cX7_told 36 = .ok (.iload_n 1, 1) := by decide +kernel
theorem dX7_told_37 : decode cX7_told 37 = .ok (.aload_n 0, 1) := by decide +kernel
theorem dX7_told_38 : decode cX7_told 38 = .ok (.getfield 41, 3) := by decide +kernel
theorem dX7_told_41 : decode cX7_told 41 = .ok (.iastore, 1) := by decide +kernel
theorem dX7_told_42 : decode cX7_told 42 = .ok (.aload_n 0, 1) := by decide +kernel
theorem dX7_told_43 : decode cX7_told 43 = .ok (.invokevirtual 105, 3) := by decide +kernel
theorem dX7_told_46 : decode cX7_told 46 = .ok (.iconst 1, 1) := by decide +kernel
theorem dX7_told_47 : decode cX7_told 47 = .ok (.ireturn, 1) := by decide +kernel
theorem dX7_readEnd_0 : decode cX7_readEnd 0 = .ok (.aload_n 0, 1) := by decide +kernel
theorem dX7_readEnd_1 : decode cX7_readEnd 1 = .ok (.getfield 27, 3) := by decide +kernel
theorem dX7_readEnd_4 : decode cX7_readEnd 4 = .ok (.iconst 4, 1) := by decide +kernel
theorem dX7_readEnd_5 : decode cX7_readEnd 5 = .ok (.if_icmp .eq 9, 3) := by decide +kernel
theorem dX7_readEnd_8 : decode cX7_readEnd 8 = .ok (.aload_n 0, 1) := by decide +kernel
theorem dX7_readEnd_9 : decode cX7_readEnd 9 = .ok (.iconst 1, 1) := by decide +kernel
theorem dX7_readEnd_10 : decode cX7_readEnd 10 = .ok (.invokevirtual 98, 3) := by decide +kernel
theorem dX7_readEnd_13 : decode cX7_readEnd 13 = .ok (.ireturn, 1) := by decide +kernel
theorem dX7_readEnd_14 : decode cX7_readEnd 14 = .ok (.aload_n 0, 1) := by decide +kernel
theorem dX7_readEnd_15 : decode cX7_readEnd 15 = .ok (.invokevirtual 105, 3) := by decide +kernel
theorem dX7_readEnd_18 : decode cX7_readEnd 18 = .ok (.iconst 1, 1) := by decide +kernel
theorem dX7_readEnd_19 : decode cX7_readEnd 19 = .ok (.ireturn, 1) := by decide +kernel
theorem dX7_readGoods_0 : decode cX7_readGoods 0 = .ok (.aload_n 0, 1) := by decide +kernel
theorem dX7_readGoods_1 : decode cX7_readGoods 1 = .ok (.ldc2_w 108, 3) := by decide +kernel
theorem dX7_readGoods_4 : decode cX7_readGoods 4 = .ok (.bipush 103, 2) := by decide +kernel
theorem dX7_readGoods_6 : decode cX7_readGoods 6 = .ok (.bipush 111, 2) := by decide +kernel
theorem dX7_readGoods_8 : decode cX7_readGoods 8 = .ok (.bipush 111, 2) := by decide +kernel
theorem dX7_readGoods_10 : decode cX7_readGoods 10 = .ok (.invokestatic 110, 3) := by decide +kernel
theorem dX7_readGoods_13 : decode cX7_readGoods 13 = .ok (.lmul, 1) := by decide +kernel
theorem dX7_readGoods_14 : decode cX7_readGoods 14 = .ok (.ldc2_w 114, 3) := by decide +kernel
theorem dX7_readGoods_17 : decode cX7_readGoods 17 = .ok (.ladd, 1) := by decide +kernel
theorem dX7_readGoods_18 : decode cX7_readGoods 18 = .ok (.ldc2_w 116, 3) := by decide +kernel
theorem dX7_readGoods_21 : decode cX7_readGoods 21 = .ok (.ladd, 1) := by decide +kernel
theorem dX7_readGoods_22 : decode cX7_readGoods 22 = .ok (.invokevirtual 118, 3) := by decide +kernel
theorem dX7_readGoods_25 : decode cX7_readGoods 25 = .ok (.ifCond .ne 9, 3) := by decide +kernel
theorem dX7_readGoods_28 : decode cX7_readGoods 28 = .ok (.aload_n 0, 1) := by decide +kernel
theorem dX7_readGoods_29 : decode cX7_readGoods 29 = .ok (.iconst 1, 1) := by decide +kernel
theorem dX7_readGoods_30 : decode cX7_readGoods 30 = .ok (.invokevirtual 98, 3) := by decide +kernel
theorem dX7_readGoods_33 : decode cX7_readGoods 33 = .ok (.ireturn, 1) := by decide +kernel
theorem dX7_readGoods_34 : decode cX7_readGoods 34 = .ok (.aload_n 0, 1) := by decide +kernel
theorem dX7_readGoods_35 : decode cX7_readGoods 35 = .ok (.invokevirtual 105, 3) := by decide +kernel
theorem dX7_readGoods_38 : decode cX7_readGoods 38 = .ok (.aload_n 0, 1) := by decide +kernel
theorem dX7_readGoods_39 : decode cX7_readGoods 39 = .ok (.iconst 1, 1) := by decide +kernel
theorem dX7_readGoods_40 : decode cX7_readGoods 40 = .ok (.iconst 1, 1) := by decide +kernel
theorem dX7_readGoods_41 : decode cX7_readGoods 41 = .ok (.iconst 4, 1) := by decide +kernel
theorem dX7_readGoods_42 : decode cX7_readGoods 42 = .ok (.invokevirtual 122, 3) := by decide +kernel
theorem dX7_readGoods_45 : decode cX7_readGoods 45 = .ok (.ifCond .eq 14, 3) := by decide +kernel
theorem dX7_readGoods_48 : decode cX7_readGoods 48 = .ok (.aload_n 0, 1) := by decide +kernel
theorem dX7_readGoods_49 : decode cX7_readGoods 49 = .ok (.invokevirtual 125, 3) := by decide +kernel
theorem dX7_readGoods_52 : decode cX7_readGoods 52 = .ok (.ifCond .eq 7, 3) := by decide +kernel
theorem dX7_readGoods_55 : decode cX7_readGoods 55 = .ok (.iconst 1, 1) := by decide +kernel
theorem dX7_readGoods_56 : decode cX7_readGoods 56 = .ok (.goto 4, 3) := by decide +kernel
theorem dX7_readGoods_59 : decode cX7_readGoods 59 = .ok (.iconst 0, 1) := by decide +kernel
theorem dX7_readGoods_60 : decode cX7_readGoods 60 = .ok (.ireturn, 1) := by decide +kernel
theorem dX7_readCustomer_0 : decode cX7_readCustomer 0 = .ok (.aload_n 0, 1) := by decide +kernel
theorem dX7_readCustomer_1 : decode cX7_readCustomer 1 = .ok (.getfield 67, 3) := by decide +kernel
theorem dX7_readCustomer_4 : decode cX7_readCustomer 4 = .ok (.iconst 2, 1) := by decide +kernel
theorem dX7_readCustomer_5 : decode cX7_readCustomer 5 = .ok (.iaload, 1) := by decide +kernel
theorem dX7_readCustomer_6 : decode cX7_readCustomer 6 = .ok (.bipush 6, 2) := by decide +kernel
theorem dX7_readCustomer_8 : decode cX7_readCustomer 8 = .ok (.if_icmp .ne 9, 3) := by decide +kernel
theorem dX7_readCustomer_11 : decode cX7_readCustomer 11 = .ok (.aload_n 0, 1) := by decide +kernel
theorem dX7_readCustomer_12 : decode cX7_readCustomer 12 = .ok (.iconst 3, 1) := by decide +kernel
theorem dX7_readCustomer_13 : decode cX7_readCustomer 13 = .ok (.invokevirtual 98, 3) := by decide +kernel
theorem dX7_readCustomer_16 : decode cX7_readCustomer 16 = .ok (.ireturn, 1) := by decide +kernel
theorem dX7_readCustomer_17 : decode cX7_readCustomer 17 = .ok (.aload_n 0, 1) := by decide +kernel
theorem dX7_readCustomer_18 : decode cX7_readCustomer 18 = .ok (.invokevirtual 105, 3) := by decide +kernel
theorem dX7_readCustomer_21 : decode cX7_readCustomer 21 = .ok (.aload_n 0, 1) := by decide +kernel
theorem dX7_readCustomer_22 : decode cX7_readCustomer 22 = .ok (.bipush 7, 2) := by decide +kernel
theorem dX7_readCustomer_24 : decode cX7_readCustomer 24 = .ok (.iconst 5, 1) := by decide +kernel
theorem dX7_readCustomer_25 : decode cX7_readCustomer 25 = .ok (.aload_n 0, 1) := by decide +kernel
theorem dX7_readCustomer_26 : decode cX7_readCustomer 26 = .ok (.getfield 67, 3) := by decide +kernel
theorem dX7_readCustomer_29 : decode cX7_readCustomer 29 = .ok (.iconst 2, 1) := by decide +kernel
theorem dX7_readCustomer_30 : decode cX7_readCustomer 30 = .ok (.iaload, 1) := by decide +kernel
theorem dX7_readCustomer_31 : decode cX7_readCustomer 31 = .ok (.imul, 1) := by decide +kernel
theorem dX7_readCustomer_32 : decode cX7_readCustomer 32 = .ok (.iadd, 1) := by decide +kernel
theorem dX7_readCustomer_33 : decode cX7_readCustomer 33 = .ok (.iconst 0, 1) := by decide +kernel
theorem dX7_readCustomer_34 : decode cX7_readCustomer 34 = .ok (.bipush 99, 2) := by decide +kernel
theorem dX7_readCustomer_36 : decode cX7_readCustomer 36 = .ok (.invokevirtual 122, 3) := by decide +kernel
theorem dX7_readCustomer_39 : decode cX7_readCustomer 39 = .ok (.ifCond .ne 5, 3) := by decide +kernel
theorem dX7_readCustomer_42 : decode cX7_readCustomer 42 = .ok (.iconst 0, 1) := by decide +kernel
theorem dX7_readCustomer_43 : decode cX7_readCustomer 43 = .ok (.ireturn, 1) := by decide +kernel
theorem dX7_readCustomer_44 : decode cX7_readCustomer 44 = .ok (.aload_n 0, 1) := by decide +kernel
theorem dX7_readCustomer_45 : decode cX7_readCustomer 45 = .ok (.getfield 67, 3) := by decide +kernel
theorem dX7_readCustomer_48 : decode cX7_readCustomer 48 = .ok (.iconst 2, 1) := by decide +kernel
theorem dX7_readCustomer_49 : decode cX7_readCustomer 49 = .ok (.dup2, 1) := by decide +kernel
theorem dX7_readCustomer_50 : decode cX7_readCustomer 50 = .ok (.iaload, 1) := by decide +kernel
theorem dX7_readCustomer_51 : decode cX7_readCustomer 51 = .ok (.iconst 1, 1) := by decide +kernel
theorem dX7_readCustomer_52 : decode cX7_readCustomer 52 = .ok (.iadd, 1) := by decide +kernel
theorem dX7_readCustomer_53 : decode cX7_readCustomer 53 = .ok (.iastore, 1) := by decide +kernel
theorem dX7_readCustomer_54 : decode cX7_readCustomer 54 = .ok (.aload_n 0, 1) := by decide +kernel
theorem dX7_readCustomer_55 : decode cX7_readCustomer 55 = .ok (.invokevirtual 125, 3) := by decide +kernel
theorem dX7_readCustomer_58 : decode cX7_readCustomer 58 = .ok (.ireturn, 1) := by decide +kernel
theorem dX7_readLot_0 : decode cX7_readLot 0 = .ok (.aload_n 0, 1) := by decide +kernel
theorem dX7_readLot_1 : decode cX7_readLot 1 = .ok (.getfield 67, 3) := by decide +kernel
theorem dX7_readLot_4 : decode cX7_readLot 4 = .ok (.iconst 3, 1) := by decide +kernel
theorem dX7_readLot_5 : decode cX7_readLot 5 = .ok (.iaload, 1) := by decide +kernel
theorem dX7_readLot_6 : decode cX7_readLot 6 = .ok (.bipush 12, 2) := by decide +kernel
theorem dX7_readLot_8 : decode cX7_readLot 8 = .ok (.if_icmp .ne 9, 3) := by decide +kernel
theorem dX7_readLot_11 : decode cX7_readLot 11 = .ok (.aload_n 0, 1) := by decide +kernel
theorem dX7_readLot_12 : decode cX7_readLot 12 = .ok (.iconst 3, 1) := by decide +kernel
theorem dX7_readLot_13 : decode cX7_readLot 13 = .ok (.invokevirtual 98, 3) := by decide +kernel
theorem dX7_readLot_16 : decode cX7_readLot 16 = .ok (.ireturn, 1) := by decide +kernel
theorem dX7_readLot_17 : decode cX7_readLot 17 = .ok (.aload_n 0, 1) := by decide +kernel
theorem dX7_readLot_18 : decode cX7_readLot 18 = .ok (.invokevirtual 105, 3) := by decide +kernel
theorem dX7_readLot_21 : decode cX7_readLot 21 = .ok (.bipush 37, 2) := by decide +kernel
theorem dX7_readLot_23 : decode cX7_readLot 23 = .ok (.iconst 4, 1) := by decide +kernel
theorem dX7_readLot_24 : decode cX7_readLot 24 = .ok (.aload_n 0, 1) := by decide +kernel
theorem dX7_readLot_25 : decode cX7_readLot 25 = .ok (.getfield 67, 3) := by decide +kernel
theorem dX7_readLot_28 : decode cX7_readLot 28 = .ok (.iconst 3, 1) := by decide +kernel
theorem dX7_readLot_29 : decode cX7_readLot 29 = .ok (.iaload, 1) := by decide +kernel
theorem dX7_readLot_30 : decode cX7_readLot 30 = .ok (.imul, 1) := by decide +kernel
theorem dX7_readLot_31 : decode cX7_readLot 31 = .ok (.iadd, 1) := by decide +kernel
theorem dX7_readLot_32 : decode cX7_readLot 32 = .ok (.istore_n 1, 1) := by decide +kernel
theorem dX7_readLot_33 : decode cX7_readLot 33 = .ok (.aload_n 0, 1) := by decide +kernel
theorem dX7_readLot_34 : decode cX7_readLot 34 = .ok (.iload_n 1, 1) := by decide +kernel
theorem dX7_readLot_35 : decode cX7_readLot 35 = .ok (.iconst 0, 1) := by decide +kernel
theorem dX7_readLot_36 : decode cX7_readLot 36 = .ok (.iadd, 1) := by decide +kernel
theorem dX7_readLot_37 : decode cX7_readLot 37 = .ok (.iconst 0, 1) := by decide +kernel
theorem dX7_readLot_38 : decode cX7_readLot 38 = .ok (.aload_n 0, 1) := by decide +kernel
theorem dX7_readLot_39 : decode cX7_readLot 39 = .ok (.getfield 67, 3) := by decide +kernel
theorem dX7_readLot_42 : decode cX7_readLot 42 = .ok (.iconst 1, 1) := by decide +kernel
theorem dX7_readLot_43 : decode cX7_readLot 43 = .ok (.iaload, 1) := by decide +kernel
theorem dX7_readLot_44 : decode cX7_readLot 44 = .ok (.iconst 1, 1) := by decide +kernel
theorem dX7_readLot_45 : decode cX7_readLot 45 = .ok (.isub, 1) := by decide +kernel
theorem dX7_readLot_46 : decode cX7_readLot 46 = .ok (.invokevirtual 122, 3) := by decide +kernel
theorem dX7_readLot_49 : decode cX7_readLot 49 = .ok (.ifCond .eq 42, 3) := by decide +kernel
theorem dX7_readLot_52 : decode cX7_readLot 52 = .ok (.aload_n 0, 1) := by decide +kernel
theorem dX7_readLot_53 : decode cX7_readLot 53 = .ok (.iload_n 1, 1) := by decide +kernel
theorem dX7_readLot_54 : decode cX7_readLot 54 = .ok (.iconst 1, 1) := by decide +kernel
theorem dX7_readLot_55 : decode cX7_readLot 55 = .ok (.iadd, 1) := by decide +kernel
theorem dX7_readLot_56 : decode cX7_readLot 56 = .ok (.iconst 0, 1) := by decide +kernel
theorem dX7_readLot_57 : decode cX7_readLot 57 = .ok (.bipush 99, 2) := by decide +kernel
theorem dX7_readLot_59 : decode cX7_readLot 59 = .ok (.invokevirtual 122, 3) := by decide +kernel
theorem dX7_readLot_62 : decode cX7_readLot 62 = .ok (.ifCond .eq 29, 3) := by decide +kernel
theorem dX7_readLot_65 : decode cX7_readLot 65 = .ok (.aload_n 0, 1) := by decide +kernel
theorem dX7_readLot_66 : decode cX7_readLot 66 = .ok (.iload_n 1, 1) := by decide +kernel
theorem dX7_readLot_67 : decode cX7_readLot 67 = .ok (.iconst 2, 1) := by decide +kernel
theorem dX7_readLot_68 : decode cX7_readLot 68 = .ok (.iadd, 1) := by decide +kernel
theorem dX7_readLot_69 : decode cX7_readLot 69 = .ok (.iconst 1, 1) := by decide +kernel
theorem dX7_readLot_70 : decode cX7_readLot 70 = .ok (.bipush 99, 2) := by decide +kernel
theorem dX7_readLot_72 : decode cX7_readLot 72 = .ok (.invokevirtual 122, 3) := by decide +kernel
theorem dX7_readLot_75 : decode cX7_readLot 75 = .ok (.ifCond .eq 16, 3) := by decide +kernel
theorem dX7_readLot_78 : decode cX7_readLot 78 = .ok (.aload_n 0, 1) := by decide +kernel
theorem dX7_readLot_79 : decode cX7_readLot 79 = .ok (.iload_n 1, 1) := by decide +kernel
theorem dX7_readLot_80 : decode cX7_readLot 80 = .ok (.iconst 3, 1) := by decide +kernel
theorem dX7_readLot_81 : decode cX7_readLot 81 = .ok (.iadd, 1) := by decide +kernel
theorem dX7_readLot_82 : decode cX7_readLot 82 = .ok (.iconst 0, 1) := by decide +kernel
theorem dX7_readLot_83 : decode cX7_readLot 83 = .ok (.bipush 99, 2) := by decide +kernel
theorem dX7_readLot_85 : decode cX7_readLot 85 = .ok (.invokevirtual 122, 3) := by decide +kernel
theorem dX7_readLot_88 : decode cX7_readLot 88 = .ok (.ifCond .ne 5, 3) := by decide +kernel
theorem dX7_readLot_91 : decode cX7_readLot 91 = .ok (.iconst 0, 1) := by decide +kernel
theorem dX7_readLot_92 : decode cX7_readLot 92 = .ok (.ireturn, 1) := by decide +kernel
theorem dX7_readLot_93 : decode cX7_readLot 93 = .ok (.aload_n 0, 1) := by decide +kernel
theorem dX7_readLot_94 : decode cX7_readLot 94 = .ok (.getfield 67, 3) := by decide +kernel
theorem dX7_readLot_97 : decode cX7_readLot 97 = .ok (.iconst 3, 1) := by decide +kernel
theorem dX7_readLot_98 : decode cX7_readLot 98 = .ok (.dup2, 1) := by decide +kernel
theorem dX7_readLot_99 : decode cX7_readLot 99 = .ok (.iaload, 1) := by decide +kernel
theorem dX7_readLot_100 : decode cX7_readLot 100 = .ok (.iconst 1, 1) := by decide +kernel
theorem dX7_readLot_101 : decode cX7_readLot 101 = .ok (.iadd, 1) := by decide +kernel
theorem dX7_readLot_102 : decode cX7_readLot 102 = .ok (.iastore, 1) := by decide +kernel
theorem dX7_readLot_103 : decode cX7_readLot 103 = .ok (.aload_n 0, 1) := by decide +kernel
theorem dX7_readLot_104 : decode cX7_readLot 104 = .ok (.invokevirtual 125, 3) := by decide +kernel
theorem dX7_readLot_107 : decode cX7_readLot 107 = .ok (.ireturn, 1) := by decide +kernel
theorem dX7_isAskedFor_0 : decode cX7_isAskedFor 0 = .ok (.iconst 0, 1) := by decide +kernel
theorem dX7_isAskedFor_1 : decode cX7_isAskedFor 1 = .ok (.istore 4, 2) := by decide +kernel
theorem dX7_isAskedFor_3 : decode cX7_isAskedFor 3 = .ok (.iload 4, 2) := by decide +kernel
theorem dX7_isAskedFor_5 : decode cX7_isAskedFor 5 = .ok (.aload_n 1, 1) := by decide +kernel
theorem dX7_isAskedFor_6 : decode cX7_isAskedFor 6 = .ok (.iconst 4, 1) := by decide +kernel
theorem dX7_isAskedFor_7 : decode cX7_isAskedFor 7 = .ok (.iaload, 1) := by decide +kernel
theorem dX7_isAskedFor_8 : decode cX7_isAskedFor 8 = .ok (.if_icmp .ge 61, 3) := by decide +kernel
theorem dX7_isAskedFor_11 : decode cX7_isAskedFor 11 = .ok (.aload_n 1, 1) := by decide +kernel
theorem dX7_isAskedFor_12 : decode cX7_isAskedFor 12 = .ok (.sipush 133, 3) := by decide +kernel
theorem dX7_isAskedFor_15 : decode cX7_isAskedFor 15 = .ok (.bipush 6, 2) := by decide +kernel
theorem dX7_isAskedFor_17 : decode cX7_isAskedFor 17 = .ok (.iload 4, 2) := by decide +kernel
theorem dX7_isAskedFor_19 : decode cX7_isAskedFor 19 = .ok (.imul, 1) := by decide +kernel
theorem dX7_isAskedFor_20 : decode cX7_isAskedFor 20 = .ok (.iadd, 1) := by decide +kernel
theorem dX7_isAskedFor_21 : decode cX7_isAskedFor 21 = .ok (.iconst 0, 1) := by decide +kernel
theorem dX7_isAskedFor_22 : decode cX7_isAskedFor 22 = .ok (.iadd, 1) := by decide +kernel
theorem dX7_isAskedFor_23 : decode cX7_isAskedFor 23 = .ok (.iaload, 1) := by decide +kernel
theorem dX7_isAskedFor_24 : decode cX7_isAskedFor 24 = .ok (.iload_n 2, 1) := by decide +kernel
theorem dX7_isAskedFor_25 : decode cX7_isAskedFor 25 = .ok (.if_icmp .ne 38, 3) := by decide +kernel
theorem dX7_isAskedFor_28 : decode cX7_isAskedFor 28 = .ok (.aload_n 1, 1) := by decide +kernel
theorem dX7_isAskedFor_29 : decode cX7_isAskedFor 29 = .ok (.sipush 133, 3) := by decide +kernel
theorem dX7_isAskedFor_32 : decode cX7_isAskedFor 32 = .ok (.bipush 6, 2) := by decide +kernel
theorem dX7_isAskedFor_34 : decode cX7_isAskedFor 34 = .ok (.iload 4, 2) := by decide +kernel
theorem dX7_isAskedFor_36 : decode cX7_isAskedFor 36 = .ok (.imul, 1) := by decide +kernel
theorem dX7_isAskedFor_37 : decode cX7_isAskedFor 37 = .ok (.iadd, 1) := by decide +kernel
theorem dX7_isAskedFor_38 : decode cX7_isAskedFor 38 = .ok (.iconst 1, 1) := by decide +kernel
theorem dX7_isAskedFor_39 : decode cX7_isAskedFor 39 = .ok (.iadd, 1) := by decide +kernel
theorem dX7_isAskedFor_40 : decode cX7_isAskedFor 40 = .ok (.iaload, 1) := by decide +kernel
theorem dX7_isAskedFor_41 : decode cX7_isAskedFor 41 = .ok (.iload_n 3, 1) := by decide +kernel
theorem dX7_isAskedFor_42 : decode cX7_isAskedFor 42 = .ok (.if_icmp .ne 21, 3) := by decide +kernel
theorem dX7_isAskedFor_45 : decode cX7_isAskedFor 45 = .ok (.aload_n 1, 1) := by decide +kernel
theorem dX7_isAskedFor_46 : decode cX7_isAskedFor 46 = .ok (.sipush 133, 3) := by decide +kernel
theorem dX7_isAskedFor_49 : decode cX7_isAskedFor 49 = .ok (.bipush 6, 2) := by decide +kernel
theorem dX7_isAskedFor_51 : decode cX7_isAskedFor 51 = .ok (.iload 4, 2) := by decide +kernel
theorem dX7_isAskedFor_53 : decode cX7_isAskedFor 53 = .ok (.imul, 1) := by decide +kernel
theorem dX7_isAskedFor_54 : decode cX7_isAskedFor 54 = .ok (.iadd, 1) := by decide +kernel
theorem dX7_isAskedFor_55 : decode cX7_isAskedFor 55 = .ok (.iconst 4, 1) := by decide +kernel
theorem dX7_isAskedFor_56 : decode cX7_isAskedFor 56 = .ok (.iadd, 1) := by decide +kernel
theorem dX7_isAskedFor_57 : decode cX7_isAskedFor 57 = .ok (.iaload, 1) := by decide +kernel
theorem dX7_isAskedFor_58 : decode cX7_isAskedFor 58 = .ok (.ifCond .ne 5, 3) := by decide +kernel
theorem dX7_isAskedFor_61 : decode cX7_isAskedFor 61 = .ok (.iconst 1, 1) := by decide +kernel
theorem dX7_isAskedFor_62 : decode cX7_isAskedFor 62 = .ok (.ireturn, 1) := by decide +kernel
theorem dX7_isAskedFor_63 : decode cX7_isAskedFor 63 = .ok (.iinc 4 1, 3) := by decide +kernel
theorem dX7_isAskedFor_66 : decode cX7_isAskedFor 66 = .ok (.goto (-63), 3) := by decide +kernel
theorem dX7_isAskedFor_69 : decode cX7_isAskedFor 69 = .ok (.iconst 0, 1) := by decide +kernel
theorem dX7_isAskedFor_70 : decode cX7_isAskedFor 70 = .ok (.ireturn, 1) := by decide +kernel
theorem dX7_readOrder_0 : decode cX7_readOrder 0 = .ok (.aload_n 0, 1) := by decide +kernel
theorem dX7_readOrder_1 : decode cX7_readOrder 1 = .ok (.getfield 67, 3) := by decide +kernel
theorem dX7_readOrder_4 : decode cX7_readOrder 4 = .ok (.iconst 4, 1) := by decide +kernel
theorem dX7_readOrder_5 : decode cX7_readOrder 5 = .ok (.iaload, 1) := by decide +kernel
theorem dX7_readOrder_6 : decode cX7_readOrder 6 = .ok (.bipush 12, 2) := by decide +kernel
theorem dX7_readOrder_8 : decode cX7_readOrder 8 = .ok (.if_icmp .ne 9, 3) := by decide +kernel
theorem dX7_readOrder_11 : decode cX7_readOrder 11 = .ok (.aload_n 0, 1) := by decide +kernel
theorem dX7_readOrder_12 : decode cX7_readOrder 12 = .ok (.iconst 3, 1) := by decide +kernel
theorem dX7_readOrder_13 : decode cX7_readOrder 13 = .ok (.invokevirtual 98, 3) := by decide +kernel
theorem dX7_readOrder_16 : decode cX7_readOrder 16 = .ok (.ireturn, 1) := by decide +kernel
theorem dX7_readOrder_17 : decode cX7_readOrder 17 = .ok (.aload_n 0, 1) := by decide +kernel
theorem dX7_readOrder_18 : decode cX7_readOrder 18 = .ok (.invokevirtual 105, 3) := by decide +kernel
theorem dX7_readOrder_21 : decode cX7_readOrder 21 = .ok (.sipush 133, 3) := by decide +kernel
theorem dX7_readOrder_24 : decode cX7_readOrder 24 = .ok (.bipush 6, 2) := by decide +kernel
theorem dX7_readOrder_26 : decode cX7_readOrder 26 = .ok (.aload_n 0, 1) := by decide +kernel
theorem dX7_readOrder_27 : decode cX7_readOrder 27 = .ok (.getfield 67, 3) := by decide +kernel
theorem dX7_readOrder_30 : decode cX7_readOrder 30 = .ok (.iconst 4, 1) := by decide +kernel
theorem dX7_readOrder_31 : decode cX7_readOrder 31 = .ok (.iaload, 1) := by decide +kernel
theorem dX7_readOrder_32 : decode cX7_readOrder 32 = .ok (.imul, 1) := by decide +kernel
theorem dX7_readOrder_33 : decode cX7_readOrder 33 = .ok (.iadd, 1) := by decide +kernel
theorem dX7_readOrder_34 : decode cX7_readOrder 34 = .ok (.istore_n 1, 1) := by decide +kernel
theorem dX7_readOrder_35 : decode cX7_readOrder 35 = .ok (.aload_n 0, 1) := by decide +kernel
theorem dX7_readOrder_36 : decode cX7_readOrder 36 = .ok (.iload_n 1, 1) := by decide +kernel
theorem dX7_readOrder_37 : decode cX7_readOrder 37 = .ok (.iconst 0, 1) := by decide +kernel
theorem dX7_readOrder_38 : decode cX7_readOrder 38 = .ok (.iadd, 1) := by decide +kernel
theorem dX7_readOrder_39 : decode cX7_readOrder 39 = .ok (.iconst 0, 1) := by decide +kernel
theorem dX7_readOrder_40 : decode cX7_readOrder 40 = .ok (.aload_n 0, 1) := by decide +kernel
theorem dX7_readOrder_41 : decode cX7_readOrder 41 = .ok (.getfield 67, 3) := by decide +kernel
theorem dX7_readOrder_44 : decode cX7_readOrder 44 = .ok (.iconst 2, 1) := by decide +kernel
theorem dX7_readOrder_45 : decode cX7_readOrder 45 = .ok (.iaload, 1) := by decide +kernel
theorem dX7_readOrder_46 : decode cX7_readOrder 46 = .ok (.iconst 1, 1) := by decide +kernel
theorem dX7_readOrder_47 : decode cX7_readOrder 47 = .ok (.isub, 1) := by decide +kernel
theorem dX7_readOrder_48 : decode cX7_readOrder 48 = .ok (.invokevirtual 122, 3) := by decide +kernel
theorem dX7_readOrder_51 : decode cX7_readOrder 51 = .ok (.ifCond .ne 5, 3) := by decide +kernel
theorem dX7_readOrder_54 : decode cX7_readOrder 54 = .ok (.iconst 0, 1) := by decide +kernel
theorem dX7_readOrder_55 : decode cX7_readOrder 55 = .ok (.ireturn, 1) := by decide +kernel
theorem dX7_readOrder_56 : decode cX7_readOrder 56 = .ok (.aload_n 0, 1) := by decide +kernel
theorem dX7_readOrder_57 : decode cX7_readOrder 57 = .ok (.getfield 27, 3) := by decide +kernel
theorem dX7_readOrder_60 : decode cX7_readOrder 60 = .ok (.iconst 3, 1) := by decide +kernel
theorem dX7_readOrder_61 : decode cX7_readOrder 61 = .ok (.if_icmp .eq 9, 3) := by decide +kernel
theorem dX7_readOrder_64 : decode cX7_readOrder 64 = .ok (.aload_n 0, 1) := by decide +kernel
theorem dX7_readOrder_65 : decode cX7_readOrder 65 = .ok (.iconst 1, 1) := by decide +kernel
theorem dX7_readOrder_66 : decode cX7_readOrder 66 = .ok (.invokevirtual 98, 3) := by decide +kernel
theorem dX7_readOrder_69 : decode cX7_readOrder 69 = .ok (.ireturn, 1) := by decide +kernel
theorem dX7_readOrder_70 : decode cX7_readOrder 70 = .ok (.aload_n 0, 1) := by decide +kernel
theorem dX7_readOrder_71 : decode cX7_readOrder 71 = .ok (.getfield 41, 3) := by decide +kernel
theorem dX7_readOrder_74 : decode cX7_readOrder 74 = .ok (.aload_n 0, 1) := by decide +kernel
theorem dX7_readOrder_75 : decode cX7_readOrder 75 = .ok (.getfield 67, 3) := by decide +kernel
theorem dX7_readOrder_78 : decode cX7_readOrder 78 = .ok (.iconst 1, 1) := by decide +kernel
theorem dX7_readOrder_79 : decode cX7_readOrder 79 = .ok (.iaload, 1) := by decide +kernel
theorem dX7_readOrder_80 : decode cX7_readOrder 80 = .ok (.if_icmp .ge 26, 3) := by decide +kernel
theorem dX7_readOrder_83 : decode cX7_readOrder 83 = .ok (.aload_n 0, 1) := by decide +kernel
theorem dX7_readOrder_84 : decode cX7_readOrder 84 = .ok (.aload_n 0, 1) := by decide +kernel
theorem dX7_readOrder_85 : decode cX7_readOrder 85 = .ok (.getfield 67, 3) := by decide +kernel
theorem dX7_readOrder_88 : decode cX7_readOrder 88 = .ok (.aload_n 0, 1) := by decide +kernel
theorem dX7_readOrder_89 : decode cX7_readOrder 89 = .ok (.getfield 67, 3) := by decide +kernel
theorem dX7_readOrder_92 : decode cX7_readOrder 92 = .ok (.iload_n 1, 1) := by decide +kernel
theorem dX7_readOrder_93 : decode cX7_readOrder 93 = .ok (.iconst 0, 1) := by decide +kernel
theorem dX7_readOrder_94 : decode cX7_readOrder 94 = .ok (.iadd, 1) := by decide +kernel
theorem dX7_readOrder_95 : decode cX7_readOrder 95 = .ok (.iaload, 1) := by decide +kernel
theorem dX7_readOrder_96 : decode cX7_readOrder 96 = .ok (.aload_n 0, 1) := by decide +kernel
theorem dX7_readOrder_97 : decode cX7_readOrder 97 = .ok (.getfield 41, 3) := by decide +kernel
theorem dX7_readOrder_100 : decode cX7_readOrder 100 = .ok (.invokevirtual 129, 3) := by decide +kernel
theorem dX7_readOrder_103 : decode cX7_readOrder 103 = .ok (.ifCond .eq 9, 3) := by decide +kernel
theorem dX7_readOrder_106 : decode cX7_readOrder 106 = .ok (.aload_n 0, 1) := by decide +kernel
theorem dX7_readOrder_107 : decode cX7_readOrder 107 = .ok (.iconst 2, 1) := by decide +kernel
theorem dX7_readOrder_108 : decode cX7_readOrder 108 = .ok (.invokevirtual 98, 3) := by decide +kernel
theorem dX7_readOrder_111 : decode cX7_readOrder 111 = .ok (.ireturn, 1) := by decide +kernel
theorem dX7_readOrder_112 : decode cX7_readOrder 112 = .ok (.aload_n 0, 1) := by decide +kernel
theorem dX7_readOrder_113 : decode cX7_readOrder 113 = .ok (.getfield 67, 3) := by decide +kernel
theorem dX7_readOrder_116 : decode cX7_readOrder 116 = .ok (.iload_n 1, 1) := by decide +kernel
theorem dX7_readOrder_117 : decode cX7_readOrder 117 = .ok (.iconst 1, 1) := by decide +kernel
theorem dX7_readOrder_118 : decode cX7_readOrder 118 = .ok (.iadd, 1) := by decide +kernel
theorem dX7_readOrder_119 : decode cX7_readOrder 119 = .ok (.aload_n 0, 1) := by decide +kernel
theorem dX7_readOrder_120 : decode cX7_readOrder 120 = .ok (.getfield 41, 3) := by decide +kernel
theorem dX7_readOrder_123 : decode cX7_readOrder 123 = .ok (.iastore, 1) := by decide +kernel
theorem dX7_readOrder_124 : decode cX7_readOrder 124 = .ok (.aload_n 0, 1) := by decide +kernel
theorem dX7_readOrder_125 : decode cX7_readOrder 125 = .ok (.invokevirtual 105, 3) := by decide +kernel
theorem dX7_readOrder_128 : decode cX7_readOrder 128 = .ok (.aload_n 0, 1) := by decide +kernel
theorem dX7_readOrder_129 : decode cX7_readOrder 129 = .ok (.iload_n 1, 1) := by decide +kernel
theorem dX7_readOrder_130 : decode cX7_readOrder 130 = .ok (.iconst 2, 1) := by decide +kernel
theorem dX7_readOrder_131 : decode cX7_readOrder 131 = .ok (.iadd, 1) := by decide +kernel
theorem dX7_readOrder_132 : decode cX7_readOrder 132 = .ok (.iconst 1, 1) := by decide +kernel
theorem dX7_readOrder_133 : decode cX7_readOrder 133 = .ok (.bipush 99, 2) := by decide +kernel
theorem dX7_readOrder_135 : decode cX7_readOrder 135 = .ok (.invokevirtual 122, 3) := by decide +kernel
theorem dX7_readOrder_138 : decode cX7_readOrder 138 = .ok (.ifCond .eq 16, 3) := by decide +kernel
theorem dX7_readOrder_141 : decode cX7_readOrder 141 = .ok (.aload_n 0, 1) := by decide +kernel
theorem dX7_readOrder_142 : decode cX7_readOrder 142 = .ok (.iload_n 1, 1) := by decide +kernel
theorem dX7_readOrder_143 : decode cX7_readOrder 143 = .ok (.iconst 3, 1) := by decide +kernel
theorem dX7_readOrder_144 : decode cX7_readOrder 144 = .ok (.iadd, 1) := by decide +kernel
theorem dX7_readOrder_145 : decode cX7_readOrder 145 = .ok (.iconst 0, 1) := by decide +kernel
theorem dX7_readOrder_146 : decode cX7_readOrder 146 = .ok (.bipush 99, 2) := by decide +kernel
theorem dX7_readOrder_148 : decode cX7_readOrder 148 = .ok (.invokevirtual 122, 3) := by decide +kernel
theorem dX7_readOrder_151 : decode cX7_readOrder 151 = .ok (.ifCond .ne 5, 3) := by decide +kernel
theorem dX7_readOrder_154 : decode cX7_readOrder 154 = .ok (.iconst 0, 1) := by decide +kernel
theorem dX7_readOrder_155 : decode cX7_readOrder 155 = .ok (.ireturn, 1) := by decide +kernel
theorem dX7_readOrder_156 : decode cX7_readOrder 156 = .ok (.aload_n 0, 1) := by decide +kernel
theorem dX7_readOrder_157 : decode cX7_readOrder 157 = .ok (.getfield 67, 3) := by decide +kernel
theorem dX7_readOrder_160 : decode cX7_readOrder 160 = .ok (.iconst 4, 1) := by decide +kernel
theorem dX7_readOrder_161 : decode cX7_readOrder 161 = .ok (.dup2, 1) := by decide +kernel
theorem dX7_readOrder_162 : decode cX7_readOrder 162 = .ok (.iaload, 1) := by decide +kernel
theorem dX7_readOrder_163 : decode cX7_readOrder 163 = .ok (.iconst 1, 1) := by decide +kernel
theorem dX7_readOrder_164 : decode cX7_readOrder 164 = .ok (.iadd, 1) := by decide +kernel
theorem dX7_readOrder_165 : decode cX7_readOrder 165 = .ok (.iastore, 1) := by decide +kernel
theorem dX7_readOrder_166 : decode cX7_readOrder 166 = .ok (.aload_n 0, 1) := by decide +kernel
theorem dX7_readOrder_167 : decode cX7_readOrder 167 = .ok (.invokevirtual 125, 3) := by decide +kernel
theorem dX7_readOrder_170 : decode cX7_readOrder 170 = .ok (.ireturn, 1) := by decide +kernel
theorem dX7_isSort_0 : decode cX7_isSort 0 = .ok (.iload_n 1, 1) := by decide +kernel
theorem dX7_isSort_1 : decode cX7_isSort 1 = .ok (.ifCond .ne 43, 3) := by decide +kernel
theorem dX7_isSort_4 : decode cX7_isSort 4 = .ok (.aload_n 0, 1) := by decide +kernel
theorem dX7_isSort_5 : decode cX7_isSort 5 = .ok (.ldc2_w 133, 3) := by decide +kernel
theorem dX7_isSort_8 : decode cX7_isSort 8 = .ok (.bipush 99, 2) := by decide +kernel
theorem dX7_isSort_10 : decode cX7_isSort 10 = .ok (.bipush 117, 2) := by decide +kernel
theorem dX7_isSort_12 : decode cX7_isSort 12 = .ok (.bipush 115, 2) := by decide +kernel
theorem dX7_isSort_14 : decode cX7_isSort 14 = .ok (.invokestatic 110, 3) := by decide +kernel
theorem dX7_isSort_17 : decode cX7_isSort 17 = .ok (.lmul, 1) := by decide +kernel
theorem dX7_isSort_18 : decode cX7_isSort 18 = .ok (.ldc2_w 108, 3) := by decide +kernel
theorem dX7_isSort_21 : decode cX7_isSort 21 = .ok (.bipush 116, 2) := by decide +kernel
theorem dX7_isSort_23 : decode cX7_isSort 23 = .ok (.bipush 111, 2) := by decide +kernel
theorem dX7_isSort_25 : decode cX7_isSort 25 = .ok (.bipush 109, 2) := by decide +kernel
theorem dX7_isSort_27 : decode cX7_isSort 27 = .ok (.invokestatic 110, 3) := by decide +kernel
theorem dX7_isSort_30 : decode cX7_isSort 30 = .ok (.lmul, 1) := by decide +kernel
theorem dX7_isSort_31 : decode cX7_isSort 31 = .ok (.ladd, 1) := by decide +kernel
theorem dX7_isSort_32 : decode cX7_isSort 32 = .ok (.ldc2_w 135, 3) := by decide +kernel
theorem dX7_isSort_35 : decode cX7_isSort 35 = .ok (.ladd, 1) := by decide +kernel
theorem dX7_isSort_36 : decode cX7_isSort 36 = .ok (.ldc2_w 137, 3) := by decide +kernel
theorem dX7_isSort_39 : decode cX7_isSort 39 = .ok (.ladd, 1) := by decide +kernel
theorem dX7_isSort_40 : decode cX7_isSort 40 = .ok (.invokevirtual 118, 3) := by decide +kernel
theorem dX7_isSort_43 : decode cX7_isSort 43 = .ok (.ireturn, 1) := by decide +kernel
theorem dX7_isSort_44 : decode cX7_isSort 44 = .ok (.iload_n 1, 1) := by decide +kernel
theorem dX7_isSort_45 : decode cX7_isSort 45 = .ok (.iconst 1, 1) := by decide +kernel
theorem dX7_isSort_46 : decode cX7_isSort 46 = .ok (.if_icmp .ne 19, 3) := by decide +kernel
theorem dX7_isSort_49 : decode cX7_isSort 49 = .ok (.aload_n 0, 1) := by decide +kernel
theorem dX7_isSort_50 : decode cX7_isSort 50 = .ok (.bipush 108, 2) := by decide +kernel
theorem dX7_isSort_52 : decode cX7_isSort 52 = .ok (.bipush 111, 2) := by decide +kernel
theorem dX7_isSort_54 : decode cX7_isSort 54 = .ok (.bipush 116, 2) := by decide +kernel
theorem dX7_isSort_56 : decode cX7_isSort 56 = .ok (.invokestatic 110, 3) := by decide +kernel
theorem dX7_isSort_59 : decode cX7_isSort 59 = .ok (.invokevirtual 118, 3) := by decide +kernel
theorem dX7_isSort_62 : decode cX7_isSort 62 = .ok (.goto 28, 3) := by decide +kernel
theorem dX7_isSort_65 : decode cX7_isSort 65 = .ok (.aload_n 0, 1) := by decide +kernel
theorem dX7_isSort_66 : decode cX7_isSort 66 = .ok (.ldc2_w 108, 3) := by decide +kernel
theorem dX7_isSort_69 : decode cX7_isSort 69 = .ok (.bipush 111, 2) := by decide +kernel
theorem dX7_isSort_71 : decode cX7_isSort 71 = .ok (.bipush 114, 2) := by decide +kernel
theorem dX7_isSort_73 : decode cX7_isSort 73 = .ok (.bipush 100, 2) := by decide +kernel
theorem dX7_isSort_75 : decode cX7_isSort 75 = .ok (.invokestatic 110, 3) := by decide +kernel
theorem dX7_isSort_78 : decode cX7_isSort 78 = .ok (.lmul, 1) := by decide +kernel
theorem dX7_isSort_79 : decode cX7_isSort 79 = .ok (.ldc2_w 135, 3) := by decide +kernel
theorem dX7_isSort_82 : decode cX7_isSort 82 = .ok (.ladd, 1) := by decide +kernel
theorem dX7_isSort_83 : decode cX7_isSort 83 = .ok (.ldc2_w 137, 3) := by decide +kernel
theorem dX7_isSort_86 : decode cX7_isSort 86 = .ok (.ladd, 1) := by decide +kernel
theorem dX7_isSort_87 : decode cX7_isSort 87 = .ok (.invokevirtual 118, 3) := by decide +kernel
theorem dX7_isSort_90 : decode cX7_isSort 90 = .ok (.ireturn, 1) := by decide +kernel
theorem dX7_readAll_0 : decode cX7_readAll 0 = .ok (.aload_n 0, 1) := by decide +kernel
theorem dX7_readAll_1 : decode cX7_readAll 1 = .ok (.iload_n 1, 1) := by decide +kernel
theorem dX7_readAll_2 : decode cX7_readAll 2 = .ok (.invokevirtual 139, 3) := by decide +kernel
theorem dX7_readAll_5 : decode cX7_readAll 5 = .ok (.ifCond .eq 54, 3) := by decide +kernel
theorem dX7_readAll_8 : decode cX7_readAll 8 = .ok (.iload_n 1, 1) := by decide +kernel
theorem dX7_readAll_9 : decode cX7_readAll 9 = .ok (.ifCond .ne 13, 3) := by decide +kernel
theorem dX7_readAll_12 : decode cX7_readAll 12 = .ok (.aload_n 0, 1) := by decide +kernel
theorem dX7_readAll_13 : decode cX7_readAll 13 = .ok (.invokevirtual 142, 3) := by decide +kernel
theorem dX7_readAll_16 : decode cX7_readAll 16 = .ok (.ifCond .eq 28, 3) := by decide +kernel
theorem dX7_readAll_19 : decode cX7_readAll 19 = .ok (.goto 27, 3) := by decide +kernel
theorem dX7_readAll_22 : decode cX7_readAll 22 = .ok (.iload_n 1, 1) := by decide +kernel
theorem dX7_readAll_23 : decode cX7_readAll 23 = .ok (.iconst 1, 1) := by decide +kernel
theorem dX7_readAll_24 : decode cX7_readAll 24 = .ok (.if_icmp .ne 13, 3) := by decide +kernel
theorem dX7_readAll_27 : decode cX7_readAll 27 = .ok (.aload_n 0, 1) := by decide +kernel
theorem dX7_readAll_28 : decode cX7_readAll 28 = .ok (.invokevirtual 145, 3) := by decide +kernel
theorem dX7_readAll_31 : decode cX7_readAll 31 = .ok (.ifCond .eq 13, 3) := by decide +kernel
theorem dX7_readAll_34 : decode cX7_readAll 34 = .ok (.goto 12, 3) := by decide +kernel
theorem dX7_readAll_37 : decode cX7_readAll 37 = .ok (.aload_n 0, 1) := by decide +kernel
theorem dX7_readAll_38 : decode cX7_readAll 38 = .ok (.invokevirtual 148, 3) := by decide +kernel
theorem dX7_readAll_41 : decode cX7_readAll 41 = .ok (.ifCond .ne 5, 3) := by decide +kernel
theorem dX7_readAll_44 : decode cX7_readAll 44 = .ok (.iconst 0, 1) := by decide +kernel
theorem dX7_readAll_45 : decode cX7_readAll 45 = .ok (.ireturn, 1) := by decide +kernel
theorem dX7_readAll_46 : decode cX7_readAll 46 = .ok (.aload_n 0, 1) := by decide +kernel
theorem dX7_readAll_47 : decode cX7_readAll 47 = .ok (.dup, 1) := by decide +kernel
theorem dX7_readAll_48 : decode cX7_readAll 48 = .ok (.getfield 151, 3) := by decide +kernel
theorem dX7_readAll_51 : decode cX7_readAll 51 = .ok (.iconst 1, 1) := by decide +kernel
theorem dX7_readAll_52 : decode cX7_readAll 52 = .ok (.iadd, 1) := by decide +kernel
theorem dX7_readAll_53 : decode cX7_readAll 53 = .ok (.putfield 151, 3) := by decide +kernel
theorem dX7_readAll_56 : decode cX7_readAll 56 = .ok (.goto (-56), 3) := by decide +kernel
theorem dX7_readAll_59 : decode cX7_readAll 59 = .ok (.iconst 1, 1) := by decide +kernel
theorem dX7_readAll_60 : decode cX7_readAll 60 = .ok (.ireturn, 1) := by decide +kernel
theorem dX7_readWhole_0 : decode cX7_readWhole 0 = .ok (.aload_n 0, 1) := by decide +kernel
theorem dX7_readWhole_1 : decode cX7_readWhole 1 = .ok (.invokevirtual 154, 3) := by decide +kernel
theorem dX7_readWhole_4 : decode cX7_readWhole 4 = .ok (.ifCond .ne 5, 3) := by decide +kernel
theorem dX7_readWhole_7 : decode cX7_readWhole 7 = .ok (.iconst 0, 1) := by decide +kernel
theorem dX7_readWhole_8 : decode cX7_readWhole 8 = .ok (.ireturn, 1) := by decide +kernel
theorem dX7_readWhole_9 : decode cX7_readWhole 9 = .ok (.aload_n 0, 1) := by decide +kernel
theorem dX7_readWhole_10 : decode cX7_readWhole 10 = .ok (.dup, 1) := by decide +kernel
theorem dX7_readWhole_11 : decode cX7_readWhole 11 = .ok (.getfield 151, 3) := by decide +kernel
theorem dX7_readWhole_14 : decode cX7_readWhole 14 = .ok (.iconst 1, 1) := by decide +kernel
theorem dX7_readWhole_15 : decode cX7_readWhole 15 = .ok (.iadd, 1) := by decide +kernel
theorem dX7_readWhole_16 : decode cX7_readWhole 16 = .ok (.putfield 151, 3) := by decide +kernel
theorem dX7_readWhole_19 : decode cX7_readWhole 19 = .ok (.aload_n 0, 1) := by decide +kernel
theorem dX7_readWhole_20 : decode cX7_readWhole 20 = .ok (.iconst 0, 1) := by decide +kernel
theorem dX7_readWhole_21 : decode cX7_readWhole 21 = .ok (.invokevirtual 157, 3) := by decide +kernel
theorem dX7_readWhole_24 : decode cX7_readWhole 24 = .ok (.ifCond .eq 38, 3) := by decide +kernel
theorem dX7_readWhole_27 : decode cX7_readWhole 27 = .ok (.aload_n 0, 1) := by decide +kernel
theorem dX7_readWhole_28 : decode cX7_readWhole 28 = .ok (.iconst 1, 1) := by decide +kernel
theorem dX7_readWhole_29 : decode cX7_readWhole 29 = .ok (.invokevirtual 157, 3) := by decide +kernel
theorem dX7_readWhole_32 : decode cX7_readWhole 32 = .ok (.ifCond .eq 30, 3) := by decide +kernel
theorem dX7_readWhole_35 : decode cX7_readWhole 35 = .ok (.aload_n 0, 1) := by decide +kernel
theorem dX7_readWhole_36 : decode cX7_readWhole 36 = .ok (.iconst 2, 1) := by decide +kernel
theorem dX7_readWhole_37 : decode cX7_readWhole 37 = .ok (.invokevirtual 157, 3) := by decide +kernel
theorem dX7_readWhole_40 : decode cX7_readWhole 40 = .ok (.ifCond .eq 22, 3) := by decide +kernel
theorem dX7_readWhole_43 : decode cX7_readWhole 43 = .ok (.aload_n 0, 1) := by decide +kernel
theorem dX7_readWhole_44 : decode cX7_readWhole 44 = .ok (.getfield 27, 3) := by decide +kernel
theorem dX7_readWhole_47 : decode cX7_readWhole 47 = .ok (.ifCond .eq 11, 3) := by decide +kernel
theorem dX7_readWhole_50 : decode cX7_readWhole 50 = .ok (.aload_n 0, 1) := by decide +kernel
theorem dX7_readWhole_51 : decode cX7_readWhole 51 = .ok (.iconst 1, 1) := by decide +kernel
theorem dX7_readWhole_52 : decode cX7_readWhole 52 = .ok (.invokevirtual 98, 3) := by decide +kernel
theorem dX7_readWhole_55 : decode cX7_readWhole 55 = .ok (.ifCond .eq 7, 3) := by decide +kernel
theorem dX7_readWhole_58 : decode cX7_readWhole 58 = .ok (.iconst 1, 1) := by decide +kernel
theorem dX7_readWhole_59 : decode cX7_readWhole 59 = .ok (.goto 4, 3) := by decide +kernel
theorem dX7_readWhole_62 : decode cX7_readWhole 62 = .ok (.iconst 0, 1) := by decide +kernel
theorem dX7_readWhole_63 : decode cX7_readWhole 63 = .ok (.ireturn, 1) := by decide +kernel
theorem dX7_text_0 : decode cX7_text 0 = .ok (.aload_n 0, 1) := by decide +kernel
theorem dX7_text_1 : decode cX7_text 1 = .ok (.iconst 0, 1) := by decide +kernel
theorem dX7_text_2 : decode cX7_text 2 = .ok (.putfield 1, 3) := by decide +kernel
theorem dX7_text_5 : decode cX7_text 5 = .ok (.aload_n 0, 1) := by decide +kernel
theorem dX7_text_6 : decode cX7_text 6 = .ok (.aload_n 0, 1) := by decide +kernel
theorem dX7_text_7 : decode cX7_text 7 = .ok (.getfield 11, 3) := by decide +kernel
theorem dX7_text_10 : decode cX7_text 10 = .ok (.putfield 18, 3) := by decide +kernel
theorem dX7_text_13 : decode cX7_text 13 = .ok (.aload_n 0, 1) := by decide +kernel
theorem dX7_text_14 : decode cX7_text 14 = .ok (.iconst 0, 1) := by decide +kernel
theorem dX7_text_15 : decode cX7_text 15 = .ok (.putfield 11, 3) := by decide +kernel
theorem dX7_text_18 : decode cX7_text 18 = .ok (.aload_n 0, 1) := by decide +kernel
theorem dX7_text_19 : decode cX7_text 19 = .ok (.iconst 0, 1) := by decide +kernel
theorem dX7_text_20 : decode cX7_text 20 = .ok (.putfield 52, 3) := by decide +kernel
theorem dX7_text_23 : decode cX7_text 23 = .ok (.aload_n 0, 1) := by decide +kernel
theorem dX7_text_24 : decode cX7_text 24 = .ok (.iconst 0, 1) := by decide +kernel
theorem dX7_text_25 : decode cX7_text 25 = .ok (.putfield 21, 3) := by decide +kernel
theorem dX7_text_28 : decode cX7_text 28 = .ok (.aload_n 0, 1) := by decide +kernel
theorem dX7_text_29 : decode cX7_text 29 = .ok (.iconst 0, 1) := by decide +kernel
theorem dX7_text_30 : decode cX7_text 30 = .ok (.putfield 151, 3) := by decide +kernel
theorem dX7_text_33 : decode cX7_text 33 = .ok (.iconst 0, 1) := by decide +kernel
theorem dX7_text_34 : decode cX7_text 34 = .ok (.istore_n 1, 1) := by decide +kernel
theorem dX7_text_35 : decode cX7_text 35 = .ok (.iload_n 1, 1) := by decide +kernel
theorem dX7_text_36 : decode cX7_text 36 = .ok (.sipush 1333, 3) := by decide +kernel
theorem dX7_text_39 : decode cX7_text 39 = .ok (.if_icmp .ge 16, 3) := by decide +kernel
theorem dX7_text_42 : decode cX7_text 42 = .ok (.aload_n 0, 1) := by decide +kernel
theorem dX7_text_43 : decode cX7_text 43 = .ok (.getfield 67, 3) := by decide +kernel
theorem dX7_text_46 : decode cX7_text 46 = .ok (.iload_n 1, 1) := by decide +kernel
theorem dX7_text_47 : decode cX7_text 47 = .ok (.iconst 0, 1) := by decide +kernel
theorem dX7_text_48 : decode cX7_text 48 = .ok (.iastore, 1) := by decide +kernel
theorem dX7_text_49 : decode cX7_text 49 = .ok (.iinc 1 1, 3) := by decide +kernel
theorem dX7_text_52 : decode cX7_text 52 = .ok (.goto (-17), 3) := by decide +kernel
theorem dX7_text_55 : decode cX7_text 55 = .ok (.aload_n 0, 1) := by decide +kernel
theorem dX7_text_56 : decode cX7_text 56 = .ok (.invokevirtual 105, 3) := by decide +kernel
theorem dX7_text_59 : decode cX7_text 59 = .ok (.aload_n 0, 1) := by decide +kernel
theorem dX7_text_60 : decode cX7_text 60 = .ok (.invokevirtual 160, 3) := by decide +kernel
theorem dX7_text_63 : decode cX7_text 63 = .ok (.ifCond .ne 10, 3) := by decide +kernel
theorem dX7_text_66 : decode cX7_text 66 = .ok (.iconst (-1), 1) := by decide +kernel
theorem dX7_text_67 : decode cX7_text 67 = .ok (.aload_n 0, 1) := by decide +kernel
theorem dX7_text_68 : decode cX7_text 68 = .ok (.getfield 55, 3) := by decide +kernel
theorem dX7_text_71 : decode cX7_text 71 = .ok (.isub, 1) := by decide +kernel
theorem dX7_text_72 : decode cX7_text 72 = .ok (.ireturn, 1) := by decide +kernel
theorem dX7_text_73 : decode cX7_text 73 = .ok (.iconst 0, 1) := by decide +kernel
theorem dX7_text_74 : decode cX7_text 74 = .ok (.istore_n 1, 1) := by decide +kernel
theorem dX7_text_75 : decode cX7_text 75 = .ok (.iload_n 1, 1) := by decide +kernel
theorem dX7_text_76 : decode cX7_text 76 = .ok (.sipush 1333, 3) := by decide +kernel
theorem dX7_text_79 : decode cX7_text 79 = .ok (.if_icmp .ge 21, 3) := by decide +kernel
theorem dX7_text_82 : decode cX7_text 82 = .ok (.aload_n 0, 1) := by decide +kernel
theorem dX7_text_83 : decode cX7_text 83 = .ok (.getfield 64, 3) := by decide +kernel
theorem dX7_text_86 : decode cX7_text 86 = .ok (.iload_n 1, 1) := by decide +kernel
theorem dX7_text_87 : decode cX7_text 87 = .ok (.aload_n 0, 1) := by decide +kernel
theorem dX7_text_88 : decode cX7_text 88 = .ok (.getfield 67, 3) := by decide +kernel
theorem dX7_text_91 : decode cX7_text 91 = .ok (.iload_n 1, 1) := by decide +kernel
theorem dX7_text_92 : decode cX7_text 92 = .ok (.iaload, 1) := by decide +kernel
theorem dX7_text_93 : decode cX7_text 93 = .ok (.iastore, 1) := by decide +kernel
theorem dX7_text_94 : decode cX7_text 94 = .ok (.iinc 1 1, 3) := by decide +kernel
theorem dX7_text_97 : decode cX7_text 97 = .ok (.goto (-22), 3) := by decide +kernel
theorem dX7_text_100 : decode cX7_text 100 = .ok (.aload_n 0, 1) := by decide +kernel
theorem dX7_text_101 : decode cX7_text 101 = .ok (.iconst 0, 1) := by decide +kernel
theorem dX7_text_102 : decode cX7_text 102 = .ok (.putfield 163, 3) := by decide +kernel
theorem dX7_text_105 : decode cX7_text 105 = .ok (.aload_n 0, 1) := by decide +kernel
theorem dX7_text_106 : decode cX7_text 106 = .ok (.getfield 151, 3) := by decide +kernel
theorem dX7_text_109 : decode cX7_text 109 = .ok (.ireturn, 1) := by decide +kernel
theorem dX7_fault_0 : decode cX7_fault 0 = .ok (.aload_n 0, 1) := by decide +kernel
theorem dX7_fault_1 : decode cX7_fault 1 = .ok (.iconst 0, 1) := by decide +kernel
theorem dX7_fault_2 : decode cX7_fault 2 = .ok (.putfield 1, 3) := by decide +kernel
theorem dX7_fault_5 : decode cX7_fault 5 = .ok (.aload_n 0, 1) := by decide +kernel
theorem dX7_fault_6 : decode cX7_fault 6 = .ok (.getfield 52, 3) := by decide +kernel
theorem dX7_fault_9 : decode cX7_fault 9 = .ok (.ireturn, 1) := by decide +kernel
theorem dX7_today_0 : decode cX7_today 0 = .ok (.aload_n 0, 1) := by decide +kernel
theorem dX7_today_1 : decode cX7_today 1 = .ok (.getfield 64, 3) := by decide +kernel
theorem dX7_today_4 : decode cX7_today 4 = .ok (.iconst 0, 1) := by decide +kernel
theorem dX7_today_5 : decode cX7_today 5 = .ok (.iaload, 1) := by decide +kernel
theorem dX7_today_6 : decode cX7_today 6 = .ok (.ireturn, 1) := by decide +kernel
theorem dX7_isGood_0 : decode cX7_isGood 0 = .ok (.iload_n 1, 1) := by decide +kernel
theorem dX7_isGood_1 : decode cX7_isGood 1 = .ok (.iconst 0, 1) := by decide +kernel
theorem dX7_isGood_2 : decode cX7_isGood 2 = .ok (.aload_n 0, 1) := by decide +kernel
theorem dX7_isGood_3 : decode cX7_isGood 3 = .ok (.getfield 64, 3) := by decide +kernel
theorem dX7_isGood_6 : decode cX7_isGood 6 = .ok (.iconst 1, 1) := by decide +kernel
theorem dX7_isGood_7 : decode cX7_isGood 7 = .ok (.iaload, 1) := by decide +kernel
theorem dX7_isGood_8 : decode cX7_isGood 8 = .ok (.iconst 1, 1) := by decide +kernel
theorem dX7_isGood_9 : decode cX7_isGood 9 = .ok (.isub, 1) := by decide +kernel
theorem dX7_isGood_10 : decode cX7_isGood 10 = .ok (.invokestatic 101, 3) := by decide +kernel
theorem dX7_isGood_13 : decode cX7_isGood 13 = .ok (.ireturn, 1) := by decide +kernel
theorem dX7_isLot_0 : decode cX7_isLot 0 = .ok (.iload_n 1, 1) := by decide +kernel
theorem dX7_isLot_1 : decode cX7_isLot 1 = .ok (.iconst 0, 1) := by decide +kernel
theorem dX7_isLot_2 : decode cX7_isLot 2 = .ok (.aload_n 0, 1) := by decide +kernel
theorem dX7_isLot_3 : decode cX7_isLot 3 = .ok (.getfield 64, 3) := by decide +kernel
theorem dX7_isLot_6 : decode cX7_isLot 6 = .ok (.iconst 3, 1) := by decide +kernel
theorem dX7_isLot_7 : decode cX7_isLot 7 = .ok (.iaload, 1) := by decide +kernel
theorem dX7_isLot_8 : decode cX7_isLot 8 = .ok (.iconst 1, 1) := by decide +kernel
theorem dX7_isLot_9 : decode cX7_isLot 9 = .ok (.isub, 1) := by decide +kernel
theorem dX7_isLot_10 : decode cX7_isLot 10 = .ok (.invokestatic 101, 3) := by decide +kernel
theorem dX7_isLot_13 : decode cX7_isLot 13 = .ok (.ireturn, 1) := by decide +kernel
theorem dX7_isOrder_0 : decode cX7_isOrder 0 = .ok (.iload_n 1, 1) := by decide +kernel
theorem dX7_isOrder_1 : decode cX7_isOrder 1 = .ok (.iconst 0, 1) := by decide +kernel
theorem dX7_isOrder_2 : decode cX7_isOrder 2 = .ok (.aload_n 0, 1) := by decide +kernel
theorem dX7_isOrder_3 : decode cX7_isOrder 3 = .ok (.getfield 64, 3) := by decide +kernel
theorem dX7_isOrder_6 : decode cX7_isOrder 6 = .ok (.iconst 4, 1) := by decide +kernel
theorem dX7_isOrder_7 : decode cX7_isOrder 7 = .ok (.iaload, 1) := by decide +kernel
theorem dX7_isOrder_8 : decode cX7_isOrder 8 = .ok (.iconst 1, 1) := by decide +kernel
theorem dX7_isOrder_9 : decode cX7_isOrder 9 = .ok (.isub, 1) := by decide +kernel
theorem dX7_isOrder_10 : decode cX7_isOrder 10 = .ok (.invokestatic 101, 3) := by decide +kernel
theorem dX7_isOrder_13 : decode cX7_isOrder 13 = .ok (.ireturn, 1) := by decide +kernel
theorem dX7_isOpen_0 : decode cX7_isOpen 0 = .ok (.aload_n 0, 1) := by decide +kernel
theorem dX7_isOpen_1 : decode cX7_isOpen 1 = .ok (.iload_n 1, 1) := by decide +kernel
theorem dX7_isOpen_2 : decode cX7_isOpen 2 = .ok (.invokevirtual 166, 3) := by decide +kernel
theorem dX7_isOpen_5 : decode cX7_isOpen 5 = .ok (.ifCond .eq 16, 3) := by decide +kernel
theorem dX7_isOpen_8 : decode cX7_isOpen 8 = .ok (.aload_n 0, 1) := by decide +kernel
theorem dX7_isOpen_9 : decode cX7_isOpen 9 = .ok (.iload_n 1, 1) := by decide +kernel
theorem dX7_isOpen_10 : decode cX7_isOpen 10 = .ok (.iconst 4, 1) := by decide +kernel
theorem dX7_isOpen_11 : decode cX7_isOpen 11 = .ok (.invokevirtual 169, 3) := by decide +kernel
theorem dX7_isOpen_14 : decode cX7_isOpen 14 = .ok (.ifCond .ne 7, 3) := by decide +kernel
theorem dX7_isOpen_17 : decode cX7_isOpen 17 = .ok (.iconst 1, 1) := by decide +kernel
theorem dX7_isOpen_18 : decode cX7_isOpen 18 = .ok (.goto 4, 3) := by decide +kernel
theorem dX7_isOpen_21 : decode cX7_isOpen 21 = .ok (.iconst 0, 1) := by decide +kernel
theorem dX7_isOpen_22 : decode cX7_isOpen 22 = .ok (.ireturn, 1) := by decide +kernel
theorem dX7_isCustomerThere_0 : decode cX7_isCustomerThere 0 = .ok (.iload_n 1, 1) := by decide +kernel
theorem dX7_isCustomerThere_1 : decode cX7_isCustomerThere 1 = .ok (.iconst 0, 1) := by decide +kernel
theorem dX7_isCustomerThere_2 : decode cX7_isCustomerThere 2 = .ok (.aload_n 0, 1) := by decide +kernel
theorem dX7_isCustomerThere_3 : decode cX7_isCustomerThere 3 = .ok (.getfield 64, 3) := by decide +kernel
theorem dX7_isCustomerThere_6 : decode cX7_isCustomerThere 6 = .ok (.iconst 2, 1) := by decide +kernel
theorem dX7_isCustomerThere_7 : decode cX7_isCustomerThere 7 = .ok (.iaload, 1) := by decide +kernel
theorem dX7_isCustomerThere_8 : decode cX7_isCustomerThere 8 = .ok (.iconst 1, 1) := by decide +kernel
theorem dX7_isCustomerThere_9 : decode cX7_isCustomerThere 9 = .ok (.isub, 1) := by decide +kernel
theorem dX7_isCustomerThere_10 : decode cX7_isCustomerThere 10 = .ok (.invokestatic 101, 3) := by decide +kernel
theorem dX7_isCustomerThere_13 : decode cX7_isCustomerThere 13 = .ok (.ireturn, 1) := by decide +kernel
theorem dX7_lies_0 : decode cX7_lies 0 = .ok (.aload_n 0, 1) := by decide +kernel
theorem dX7_lies_1 : decode cX7_lies 1 = .ok (.getfield 64, 3) := by decide +kernel
theorem dX7_lies_4 : decode cX7_lies 4 = .ok (.bipush 37, 2) := by decide +kernel
theorem dX7_lies_6 : decode cX7_lies 6 = .ok (.iconst 4, 1) := by decide +kernel
theorem dX7_lies_7 : decode cX7_lies 7 = .ok (.iload_n 1, 1) := by decide +kernel
theorem dX7_lies_8 : decode cX7_lies 8 = .ok (.imul, 1) := by decide +kernel
theorem dX7_lies_9 : decode cX7_lies 9 = .ok (.iadd, 1) := by decide +kernel
theorem dX7_lies_10 : decode cX7_lies 10 = .ok (.iload_n 2, 1) := by decide +kernel
theorem dX7_lies_11 : decode cX7_lies 11 = .ok (.iadd, 1) := by decide +kernel
theorem dX7_lies_12 : decode cX7_lies 12 = .ok (.iaload, 1) := by decide +kernel
theorem dX7_lies_13 : decode cX7_lies 13 = .ok (.ireturn, 1) := by decide +kernel
theorem dX7_ordered_0 : decode cX7_ordered 0 = .ok (.aload_n 0, 1) := by decide +kernel
theorem dX7_ordered_1 : decode cX7_ordered 1 = .ok (.getfield 64, 3) := by decide +kernel
theorem dX7_ordered_4 : decode cX7_ordered 4 = .ok (.sipush 133, 3) := by decide +kernel
theorem dX7_ordered_7 : decode cX7_ordered 7 = .ok (.bipush 6, 2) := by decide +kernel
theorem dX7_ordered_9 : decode cX7_ordered 9 = .ok (.iload_n 1, 1) := by decide +kernel
theorem dX7_ordered_10 : decode cX7_ordered 10 = .ok (.imul, 1) := by decide +kernel
theorem dX7_ordered_11 : decode cX7_ordered 11 = .ok (.iadd, 1) := by decide +kernel
theorem dX7_ordered_12 : decode cX7_ordered 12 = .ok (.iload_n 2, 1) := by decide +kernel
theorem dX7_ordered_13 : decode cX7_ordered 13 = .ok (.iadd, 1) := by decide +kernel
theorem dX7_ordered_14 : decode cX7_ordered 14 = .ok (.iaload, 1) := by decide +kernel
theorem dX7_ordered_15 : decode cX7_ordered 15 = .ok (.ireturn, 1) := by decide +kernel
theorem dX7_cell_0 : decode cX7_cell 0 = .ok (.aload_n 0, 1) := by decide +kernel
theorem dX7_cell_1 : decode cX7_cell 1 = .ok (.getfield 64, 3) := by decide +kernel
theorem dX7_cell_4 : decode cX7_cell 4 = .ok (.sipush 373, 3) := by decide +kernel
theorem dX7_cell_7 : decode cX7_cell 7 = .ok (.bipush 40, 2) := by decide +kernel
theorem dX7_cell_9 : decode cX7_cell 9 = .ok (.iload_n 1, 1) := by decide +kernel
theorem dX7_cell_10 : decode cX7_cell 10 = .ok (.imul, 1) := by decide +kernel
theorem dX7_cell_11 : decode cX7_cell 11 = .ok (.iadd, 1) := by decide +kernel
theorem dX7_cell_12 : decode cX7_cell 12 = .ok (.iload_n 2, 1) := by decide +kernel
theorem dX7_cell_13 : decode cX7_cell 13 = .ok (.iadd, 1) := by decide +kernel
theorem dX7_cell_14 : decode cX7_cell 14 = .ok (.iaload, 1) := by decide +kernel
theorem dX7_cell_15 : decode cX7_cell 15 = .ok (.ireturn, 1) := by decide +kernel
theorem dX7_ofLot_0 : decode cX7_ofLot 0 = .ok (.iconst 0, 1) := by decide +kernel
theorem dX7_ofLot_1 : decode cX7_ofLot 1 = .ok (.istore_n 2, 1) := by decide +kernel
theorem dX7_ofLot_2 : decode cX7_ofLot 2 = .ok (.iconst 0, 1) := by decide +kernel
theorem dX7_ofLot_3 : decode cX7_ofLot 3 = .ok (.istore_n 3, 1) := by decide +kernel
theorem dX7_ofLot_4 : decode cX7_ofLot 4 = .ok (.iload_n 3, 1) := by decide +kernel
theorem dX7_ofLot_5 : decode cX7_ofLot 5 = .ok (.aload_n 0, 1) := by decide +kernel
theorem dX7_ofLot_6 : decode cX7_ofLot 6 = .ok (.getfield 64, 3) := by decide +kernel
theorem dX7_ofLot_9 : decode cX7_ofLot 9 = .ok (.iconst 4, 1) := by decide +kernel
theorem dX7_ofLot_10 : decode cX7_ofLot 10 = .ok (.iaload, 1) := by decide +kernel
theorem dX7_ofLot_11 : decode cX7_ofLot 11 = .ok (.if_icmp .ge 18, 3) := by decide +kernel
theorem dX7_ofLot_14 : decode cX7_ofLot 14 = .ok (.iload_n 2, 1) := by decide +kernel
theorem dX7_ofLot_15 : decode cX7_ofLot 15 = .ok (.aload_n 0, 1) := by decide +kernel
theorem dX7_ofLot_16 : decode cX7_ofLot 16 = .ok (.iload_n 1, 1) := by decide +kernel
theorem dX7_ofLot_17 : decode cX7_ofLot 17 = .ok (.iload_n 3, 1) := by decide +kernel
theorem dX7_ofLot_18 : decode cX7_ofLot 18 = .ok (.invokevirtual 173, 3) := by decide +kernel
theorem dX7_ofLot_21 : decode cX7_ofLot 21 = .ok (.iadd, 1) := by decide +kernel
theorem dX7_ofLot_22 : decode cX7_ofLot 22 = .ok (.istore_n 2, 1) := by decide +kernel
theorem dX7_ofLot_23 : decode cX7_ofLot 23 = .ok (.iinc 3 1, 3) := by decide +kernel
theorem dX7_ofLot_26 : decode cX7_ofLot 26 = .ok (.goto (-22), 3) := by decide +kernel
theorem dX7_ofLot_29 : decode cX7_ofLot 29 = .ok (.iload_n 2, 1) := by decide +kernel
theorem dX7_ofLot_30 : decode cX7_ofLot 30 = .ok (.ireturn, 1) := by decide +kernel
theorem dX7_forOrder_0 : decode cX7_forOrder 0 = .ok (.iconst 0, 1) := by decide +kernel
theorem dX7_forOrder_1 : decode cX7_forOrder 1 = .ok (.istore_n 2, 1) := by decide +kernel
theorem dX7_forOrder_2 : decode cX7_forOrder 2 = .ok (.iconst 0, 1) := by decide +kernel
theorem dX7_forOrder_3 : decode cX7_forOrder 3 = .ok (.istore_n 3, 1) := by decide +kernel
theorem dX7_forOrder_4 : decode cX7_forOrder 4 = .ok (.iload_n 3, 1) := by decide +kernel
theorem dX7_forOrder_5 : decode cX7_forOrder 5 = .ok (.aload_n 0, 1) := by decide +kernel
theorem dX7_forOrder_6 : decode cX7_forOrder 6 = .ok (.getfield 64, 3) := by decide +kernel
theorem dX7_forOrder_9 : decode cX7_forOrder 9 = .ok (.iconst 3, 1) := by decide +kernel
theorem dX7_forOrder_10 : decode cX7_forOrder 10 = .ok (.iaload, 1) := by decide +kernel
theorem dX7_forOrder_11 : decode cX7_forOrder 11 = .ok (.if_icmp .ge 18, 3) := by decide +kernel
theorem dX7_forOrder_14 : decode cX7_forOrder 14 = .ok (.iload_n 2, 1) := by decide +kernel
theorem dX7_forOrder_15 : decode cX7_forOrder 15 = .ok (.aload_n 0, 1) := by decide +kernel
theorem dX7_forOrder_16 : decode cX7_forOrder 16 = .ok (.iload_n 3, 1) := by decide +kernel
theorem dX7_forOrder_17 : decode cX7_forOrder 17 = .ok (.iload_n 1, 1) := by decide +kernel
theorem dX7_forOrder_18 : decode cX7_forOrder 18 = .ok (.invokevirtual 173, 3) := by decide +kernel
theorem dX7_forOrder_21 : decode cX7_forOrder 21 = .ok (.iadd, 1) := by decide +kernel
theorem dX7_forOrder_22 : decode cX7_forOrder 22 = .ok (.istore_n 2, 1) := by decide +kernel
theorem dX7_forOrder_23 : decode cX7_forOrder 23 = .ok (.iinc 3 1, 3) := by decide +kernel
theorem dX7_forOrder_26 : decode cX7_forOrder 26 = .ok (.goto (-22), 3) := by decide +kernel
theorem dX7_forOrder_29 : decode cX7_forOrder 29 = .ok (.iload_n 2, 1) := by decide +kernel
theorem dX7_forOrder_30 : decode cX7_forOrder 30 = .ok (.ireturn, 1) := by decide +kernel
theorem dX7_isFor_0 : decode cX7_isFor 0 = .ok (.aload_n 0, 1) := by decide +kernel
theorem dX7_isFor_1 : decode cX7_isFor 1 = .ok (.iload_n 1, 1) := by decide +kernel
theorem dX7_isFor_2 : decode cX7_isFor 2 = .ok (.iconst 0, 1) := by decide +kernel
theorem dX7_isFor_3 : decode cX7_isFor 3 = .ok (.invokevirtual 176, 3) := by decide +kernel
theorem dX7_isFor_6 : decode cX7_isFor 6 = .ok (.iload_n 3, 1) := by decide +kernel
theorem dX7_isFor_7 : decode cX7_isFor 7 = .ok (.if_icmp .ne 58, 3) := by decide +kernel
theorem dX7_isFor_10 : decode cX7_isFor 10 = .ok (.aload_n 0, 1) := by decide +kernel
theorem dX7_isFor_11 : decode cX7_isFor 11 = .ok (.iload_n 1, 1) := by decide +kernel
theorem dX7_isFor_12 : decode cX7_isFor 12 = .ok (.iconst 1, 1) := by decide +kernel
theorem dX7_isFor_13 : decode cX7_isFor 13 = .ok (.invokevirtual 176, 3) := by decide +kernel
theorem dX7_isFor_16 : decode cX7_isFor 16 = .ok (.iload 4, 2) := by decide +kernel
theorem dX7_isFor_18 : decode cX7_isFor 18 = .ok (.isub, 1) := by decide +kernel
theorem dX7_isFor_19 : decode cX7_isFor 19 = .ok (.iload 5, 2) := by decide +kernel
theorem dX7_isFor_21 : decode cX7_isFor 21 = .ok (.if_icmp .lt 44, 3) := by decide +kernel
theorem dX7_isFor_24 : decode cX7_isFor 24 = .ok (.aload_n 0, 1) := by decide +kernel
theorem dX7_isFor_25 : decode cX7_isFor 25 = .ok (.iload_n 1, 1) := by decide +kernel
theorem dX7_isFor_26 : decode cX7_isFor 26 = .ok (.iconst 1, 1) := by decide +kernel
theorem dX7_isFor_27 : decode cX7_isFor 27 = .ok (.invokevirtual 176, 3) := by decide +kernel
theorem dX7_isFor_30 : decode cX7_isFor 30 = .ok (.aload_n 0, 1) := by decide +kernel
theorem dX7_isFor_31 : decode cX7_isFor 31 = .ok (.getfield 64, 3) := by decide +kernel
theorem dX7_isFor_34 : decode cX7_isFor 34 = .ok (.bipush 7, 2) := by decide +kernel
theorem dX7_isFor_36 : decode cX7_isFor 36 = .ok (.iconst 5, 1) := by decide +kernel
theorem dX7_isFor_37 : decode cX7_isFor 37 = .ok (.iload_n 2, 1) := by decide +kernel
theorem dX7_isFor_38 : decode cX7_isFor 38 = .ok (.imul, 1) := by decide +kernel
theorem dX7_isFor_39 : decode cX7_isFor 39 = .ok (.iadd, 1) := by decide +kernel
theorem dX7_isFor_40 : decode cX7_isFor 40 = .ok (.iconst 1, 1) := by decide +kernel
theorem dX7_isFor_41 : decode cX7_isFor 41 = .ok (.iadd, 1) := by decide +kernel
theorem dX7_isFor_42 : decode cX7_isFor 42 = .ok (.iload_n 3, 1) := by decide +kernel
theorem dX7_isFor_43 : decode cX7_isFor 43 = .ok (.iadd, 1) := by decide +kernel
theorem dX7_isFor_44 : decode cX7_isFor 44 = .ok (.iaload, 1) := by decide +kernel
theorem dX7_isFor_45 : decode cX7_isFor 45 = .ok (.iconst 1, 1) := by decide +kernel
theorem dX7_isFor_46 : decode cX7_isFor 46 = .ok (.isub, 1) := by decide +kernel
theorem dX7_isFor_47 : decode cX7_isFor 47 = .ok (.if_icmp .lt 18, 3) := by decide +kernel
theorem dX7_isFor_50 : decode cX7_isFor 50 = .ok (.aload_n 0, 1) := by decide +kernel
theorem dX7_isFor_51 : decode cX7_isFor 51 = .ok (.iload_n 1, 1) := by decide +kernel
theorem dX7_isFor_52 : decode cX7_isFor 52 = .ok (.iconst 3, 1) := by decide +kernel
theorem dX7_isFor_53 : decode cX7_isFor 53 = .ok (.invokevirtual 176, 3) := by decide +kernel
theorem dX7_isFor_56 : decode cX7_isFor 56 = .ok (.iload 4, 2) := by decide +kernel
theorem dX7_isFor_58 : decode cX7_isFor 58 = .ok (.if_icmp .gt 7, 3) := by decide +kernel
theorem dX7_isFor_61 : decode cX7_isFor 61 = .ok (.iconst 1, 1) := by decide +kernel
theorem dX7_isFor_62 : decode cX7_isFor 62 = .ok (.goto 4, 3) := by decide +kernel
theorem dX7_isFor_65 : decode cX7_isFor 65 = .ok (.iconst 0, 1) := by decide +kernel
theorem dX7_isFor_66 : decode cX7_isFor 66 = .ok (.ireturn, 1) := by decide +kernel
theorem dX7_lifeOf_0 : decode cX7_lifeOf 0 = .ok (.aload_n 0, 1) := by decide +kernel
theorem dX7_lifeOf_1 : decode cX7_lifeOf 1 = .ok (.getfield 64, 3) := by decide +kernel
theorem dX7_lifeOf_4 : decode cX7_lifeOf 4 = .ok (.bipush 7, 2) := by decide +kernel
theorem dX7_lifeOf_6 : decode cX7_lifeOf 6 = .ok (.iconst 5, 1) := by decide +kernel
theorem dX7_lifeOf_7 : decode cX7_lifeOf 7 = .ok (.iload_n 1, 1) := by decide +kernel
theorem dX7_lifeOf_8 : decode cX7_lifeOf 8 = .ok (.imul, 1) := by decide +kernel
theorem dX7_lifeOf_9 : decode cX7_lifeOf 9 = .ok (.iadd, 1) := by decide +kernel
theorem dX7_lifeOf_10 : decode cX7_lifeOf 10 = .ok (.iaload, 1) := by decide +kernel
theorem dX7_lifeOf_11 : decode cX7_lifeOf 11 = .ok (.ireturn, 1) := by decide +kernel
theorem dX7_isFit_0 : decode cX7_isFit 0 = .ok (.aload_n 0, 1) := by decide +kernel
theorem dX7_isFit_1 : decode cX7_isFit 1 = .ok (.iload_n 1, 1) := by decide +kernel
theorem dX7_isFit_2 : decode cX7_isFit 2 = .ok (.aload_n 0, 1) := by decide +kernel
theorem dX7_isFit_3 : decode cX7_isFit 3 = .ok (.iload_n 2, 1) := by decide +kernel
theorem dX7_isFit_4 : decode cX7_isFit 4 = .ok (.iconst 0, 1) := by decide +kernel
theorem dX7_isFit_5 : decode cX7_isFit 5 = .ok (.invokevirtual 169, 3) := by decide +kernel
theorem dX7_isFit_8 : decode cX7_isFit 8 = .ok (.aload_n 0, 1) := by decide +kernel
theorem dX7_isFit_9 : decode cX7_isFit 9 = .ok (.iload_n 2, 1) := by decide +kernel
theorem dX7_isFit_10 : decode cX7_isFit 10 = .ok (.iconst 1, 1) := by decide +kernel
theorem dX7_isFit_11 : decode cX7_isFit 11 = .ok (.invokevirtual 169, 3) := by decide +kernel
theorem dX7_isFit_14 : decode cX7_isFit 14 = .ok (.aload_n 0, 1) := by decide +kernel
theorem dX7_isFit_15 : decode cX7_isFit 15 = .ok (.iload_n 2, 1) := by decide +kernel
theorem dX7_isFit_16 : decode cX7_isFit 16 = .ok (.iconst 3, 1) := by decide +kernel
theorem dX7_isFit_17 : decode cX7_isFit 17 = .ok (.invokevirtual 169, 3) := by decide +kernel
theorem dX7_isFit_20 : decode cX7_isFit 20 = .ok (.aload_n 0, 1) := by decide +kernel
theorem dX7_isFit_21 : decode cX7_isFit 21 = .ok (.aload_n 0, 1) := by decide +kernel
theorem dX7_isFit_22 : decode cX7_isFit 22 = .ok (.iload_n 2, 1) := by decide +kernel
theorem dX7_isFit_23 : decode cX7_isFit 23 = .ok (.iconst 0, 1) := by decide +kernel
theorem dX7_isFit_24 : decode cX7_isFit 24 = .ok (.invokevirtual 169, 3) := by decide +kernel
theorem dX7_isFit_27 : decode cX7_isFit 27 = .ok (.invokevirtual 179, 3) := by decide +kernel
theorem dX7_isFit_30 : decode cX7_isFit 30 = .ok (.invokevirtual 182, 3) := by decide +kernel
theorem dX7_isFit_33 : decode cX7_isFit 33 = .ok (.ireturn, 1) := by decide +kernel
theorem dX7_sumOf_0 : decode cX7_sumOf 0 = .ok (.iconst 0, 1) := by decide +kernel
theorem dX7_sumOf_1 : decode cX7_sumOf 1 = .ok (.istore_n 2, 1) := by decide +kernel
theorem dX7_sumOf_2 : decode cX7_sumOf 2 = .ok (.iconst 0, 1) := by decide +kernel
theorem dX7_sumOf_3 : decode cX7_sumOf 3 = .ok (.istore_n 3, 1) := by decide +kernel
theorem dX7_sumOf_4 : decode cX7_sumOf 4 = .ok (.iload_n 3, 1) := by decide +kernel
theorem dX7_sumOf_5 : decode cX7_sumOf 5 = .ok (.aload_n 0, 1) := by decide +kernel
theorem dX7_sumOf_6 : decode cX7_sumOf 6 = .ok (.getfield 64, 3) := by decide +kernel
theorem dX7_sumOf_9 : decode cX7_sumOf 9 = .ok (.iconst 3, 1) := by decide +kernel
theorem dX7_sumOf_10 : decode cX7_sumOf 10 = .ok (.iaload, 1) := by decide +kernel
theorem dX7_sumOf_11 : decode cX7_sumOf 11 = .ok (.if_icmp .ge 31, 3) := by decide +kernel
theorem dX7_sumOf_14 : decode cX7_sumOf 14 = .ok (.iload_n 2, 1) := by decide +kernel
theorem dX7_sumOf_15 : decode cX7_sumOf 15 = .ok (.iload_n 1, 1) := by decide +kernel
theorem dX7_sumOf_16 : decode cX7_sumOf 16 = .ok (.iconst 2, 1) := by decide +kernel
theorem dX7_sumOf_17 : decode cX7_sumOf 17 = .ok (.if_icmp .ne 12, 3) := by decide +kernel
theorem dX7_sumOf_20 : decode cX7_sumOf 20 = .ok (.aload_n 0, 1) := by decide +kernel
theorem dX7_sumOf_21 : decode cX7_sumOf 21 = .ok (.iload_n 3, 1) := by decide +kernel
theorem dX7_sumOf_22 : decode cX7_sumOf 22 = .ok (.iconst 2, 1) := by decide +kernel
theorem dX7_sumOf_23 : decode cX7_sumOf 23 = .ok (.invokevirtual 176, 3) := by decide +kernel
theorem dX7_sumOf_26 : decode cX7_sumOf 26 = .ok (.goto 8, 3) := by decide +kernel
theorem dX7_sumOf_29 : decode cX7_sumOf 29 = .ok (.aload_n 0, 1) := by decide +kernel
theorem dX7_sumOf_30 : decode cX7_sumOf 30 = .ok (.iload_n 3, 1) := by decide +kernel
theorem dX7_sumOf_31 : decode cX7_sumOf 31 = .ok (.invokevirtual 186, 3) := by decide +kernel
theorem dX7_sumOf_34 : decode cX7_sumOf 34 = .ok (.iadd, 1) := by decide +kernel
theorem dX7_sumOf_35 : decode cX7_sumOf 35 = .ok (.istore_n 2, 1) := by decide +kernel
theorem dX7_sumOf_36 : decode cX7_sumOf 36 = .ok (.iinc 3 1, 3) := by decide +kernel
theorem dX7_sumOf_39 : decode cX7_sumOf 39 = .ok (.goto (-35), 3) := by decide +kernel
theorem dX7_sumOf_42 : decode cX7_sumOf 42 = .ok (.iload_n 2, 1) := by decide +kernel
theorem dX7_sumOf_43 : decode cX7_sumOf 43 = .ok (.ireturn, 1) := by decide +kernel
theorem dX7_openMany_0 : decode cX7_openMany 0 = .ok (.iconst 0, 1) := by decide +kernel
theorem dX7_openMany_1 : decode cX7_openMany 1 = .ok (.istore_n 1, 1) := by decide +kernel
theorem dX7_openMany_2 : decode cX7_openMany 2 = .ok (.iconst 0, 1) := by decide +kernel
theorem dX7_openMany_3 : decode cX7_openMany 3 = .ok (.istore_n 2, 1) := by decide +kernel
theorem dX7_openMany_4 : decode cX7_openMany 4 = .ok (.iload_n 2, 1) := by decide +kernel
theorem dX7_openMany_5 : decode cX7_openMany 5 = .ok (.aload_n 0, 1) := by decide +kernel
theorem dX7_openMany_6 : decode cX7_openMany 6 = .ok (.getfield 64, 3) := by decide +kernel
theorem dX7_openMany_9 : decode cX7_openMany 9 = .ok (.iconst 4, 1) := by decide +kernel
theorem dX7_openMany_10 : decode cX7_openMany 10 = .ok (.iaload, 1) := by decide +kernel
theorem dX7_openMany_11 : decode cX7_openMany 11 = .ok (.if_icmp .ge 20, 3) := by decide +kernel
theorem dX7_openMany_14 : decode cX7_openMany 14 = .ok (.aload_n 0, 1) := by decide +kernel
theorem dX7_openMany_15 : decode cX7_openMany 15 = .ok (.iload_n 2, 1) := by decide +kernel
theorem dX7_openMany_16 : decode cX7_openMany 16 = .ok (.invokevirtual 189, 3) := by decide +kernel
theorem dX7_openMany_19 : decode cX7_openMany 19 = .ok (.ifCond .eq 6, 3) := by decide +kernel
theorem dX7_openMany_22 : decode cX7_openMany 22 = .ok (.iinc 1 1, 3) := by decide +kernel
theorem dX7_openMany_25 : decode cX7_openMany 25 = .ok (.iinc 2 1, 3) := by decide +kernel
theorem dX7_openMany_28 : decode cX7_openMany 28 = .ok (.goto (-24), 3) := by decide +kernel
theorem dX7_openMany_31 : decode cX7_openMany 31 = .ok (.iload_n 1, 1) := by decide +kernel
theorem dX7_openMany_32 : decode cX7_openMany 32 = .ok (.ireturn, 1) := by decide +kernel
theorem dX7_now_0 : decode cX7_now 0 = .ok (.aload_n 0, 1) := by decide +kernel
theorem dX7_now_1 : decode cX7_now 1 = .ok (.iconst 0, 1) := by decide +kernel
theorem dX7_now_2 : decode cX7_now 2 = .ok (.putfield 1, 3) := by decide +kernel
theorem dX7_now_5 : decode cX7_now 5 = .ok (.iload_n 1, 1) := by decide +kernel
theorem dX7_now_6 : decode cX7_now 6 = .ok (.tableswitch 139 0 11 #[62, 67, 74, 81, 88, 95, 100, 106, 114, 121, 129, 134], 62) := by decide +kernel
theorem dX7_now_68 : decode cX7_now 68 = .ok (.aload_n 0, 1) := by decide +kernel
theorem dX7_now_69 : decode cX7_now 69 = .ok (.invokevirtual 192, 3) := by decide +kernel
theorem dX7_now_72 : decode cX7_now 72 = .ok (.ireturn, 1) := by decide +kernel
theorem dX7_now_73 : decode cX7_now 73 = .ok (.aload_n 0, 1) := by decide +kernel
theorem dX7_now_74 : decode cX7_now 74 = .ok (.getfield 64, 3) := by decide +kernel
theorem dX7_now_77 : decode cX7_now 77 = .ok (.iconst 1, 1) := by decide +kernel
theorem dX7_now_78 : decode cX7_now 78 = .ok (.iaload, 1) := by decide +kernel
theorem dX7_now_79 : decode cX7_now 79 = .ok (.ireturn, 1) := by decide +kernel
theorem dX7_now_80 : decode cX7_now 80 = .ok (.aload_n 0, 1) := by decide +kernel
theorem dX7_now_81 : decode cX7_now 81 = .ok (.getfield 64, 3) := by decide +kernel
theorem dX7_now_84 : decode cX7_now 84 = .ok (.iconst 2, 1) := by decide +kernel
theorem dX7_now_85 : decode cX7_now 85 = .ok (.iaload, 1) := by decide +kernel
theorem dX7_now_86 : decode cX7_now 86 = .ok (.ireturn, 1) := by decide +kernel
theorem dX7_now_87 : decode cX7_now 87 = .ok (.aload_n 0, 1) := by decide +kernel
theorem dX7_now_88 : decode cX7_now 88 = .ok (.getfield 64, 3) := by decide +kernel
theorem dX7_now_91 : decode cX7_now 91 = .ok (.iconst 3, 1) := by decide +kernel
theorem dX7_now_92 : decode cX7_now 92 = .ok (.iaload, 1) := by decide +kernel
theorem dX7_now_93 : decode cX7_now 93 = .ok (.ireturn, 1) := by decide +kernel
theorem dX7_now_94 : decode cX7_now 94 = .ok (.aload_n 0, 1) := by decide +kernel
theorem dX7_now_95 : decode cX7_now 95 = .ok (.getfield 64, 3) := by decide +kernel
theorem dX7_now_98 : decode cX7_now 98 = .ok (.iconst 4, 1) := by decide +kernel
theorem dX7_now_99 : decode cX7_now 99 = .ok (.iaload, 1) := by decide +kernel
theorem dX7_now_100 : decode cX7_now 100 = .ok (.ireturn, 1) := by decide +kernel
theorem dX7_now_101 : decode cX7_now 101 = .ok (.aload_n 0, 1) := by decide +kernel
theorem dX7_now_102 : decode cX7_now 102 = .ok (.invokevirtual 196, 3) := by decide +kernel
theorem dX7_now_105 : decode cX7_now 105 = .ok (.ireturn, 1) := by decide +kernel
theorem dX7_now_106 : decode cX7_now 106 = .ok (.aload_n 0, 1) := by decide +kernel
theorem dX7_now_107 : decode cX7_now 107 = .ok (.iconst 2, 1) := by decide +kernel
theorem dX7_now_108 : decode cX7_now 108 = .ok (.invokevirtual 199, 3) := by decide +kernel
theorem dX7_now_111 : decode cX7_now 111 = .ok (.ireturn, 1) := by decide +kernel
theorem dX7_now_112 : decode cX7_now 112 = .ok (.aload_n 0, 1) := by decide +kernel
theorem dX7_now_113 : decode cX7_now 113 = .ok (.sipush 373, 3) := by decide +kernel
theorem dX7_now_116 : decode cX7_now 116 = .ok (.invokevirtual 199, 3) := by decide +kernel
theorem dX7_now_119 : decode cX7_now 119 = .ok (.ireturn, 1) := by decide +kernel
theorem dX7_now_120 : decode cX7_now 120 = .ok (.aload_n 0, 1) := by decide +kernel
theorem dX7_now_121 : decode cX7_now 121 = .ok (.getfield 64, 3) := by decide +kernel
theorem dX7_now_124 : decode cX7_now 124 = .ok (.iconst 5, 1) := by decide +kernel
theorem dX7_now_125 : decode cX7_now 125 = .ok (.iaload, 1) := by decide +kernel
theorem dX7_now_126 : decode cX7_now 126 = .ok (.ireturn, 1) := by decide +kernel
theorem dX7_now_127 : decode cX7_now 127 = .ok (.aload_n 0, 1) := by decide +kernel
theorem dX7_now_128 : decode cX7_now 128 = .ok (.getfield 64, 3) := by decide +kernel
theorem dX7_now_131 : decode cX7_now 131 = .ok (.bipush 6, 2) := by decide +kernel
theorem dX7_now_133 : decode cX7_now 133 = .ok (.iaload, 1) := by decide +kernel
theorem dX7_now_134 : decode cX7_now 134 = .ok (.ireturn, 1) := by decide +kernel
theorem dX7_now_135 : decode cX7_now 135 = .ok (.aload_n 0, 1) := by decide +kernel
theorem dX7_now_136 : decode cX7_now 136 = .ok (.getfield 163, 3) := by decide +kernel
theorem dX7_now_139 : decode cX7_now 139 = .ok (.ireturn, 1) := by decide +kernel
theorem dX7_now_140 : decode cX7_now 140 = .ok (.aload_n 0, 1) := by decide +kernel
theorem dX7_now_141 : decode cX7_now 141 = .ok (.getfield 11, 3) := by decide +kernel
theorem dX7_now_144 : decode cX7_now 144 = .ok (.ireturn, 1) := by decide +kernel
theorem dX7_now_145 : decode cX7_now 145 = .ok (.iconst (-1), 1) := by decide +kernel
theorem dX7_now_146 : decode cX7_now 146 = .ok (.ireturn, 1) := by decide +kernel
theorem dX7_lot_0 : decode cX7_lot 0 = .ok (.aload_n 0, 1) := by decide +kernel
theorem dX7_lot_1 : decode cX7_lot 1 = .ok (.iconst 0, 1) := by decide +kernel
theorem dX7_lot_2 : decode cX7_lot 2 = .ok (.putfield 1, 3) := by decide +kernel
theorem dX7_lot_5 : decode cX7_lot 5 = .ok (.aload_n 0, 1) := by decide +kernel
theorem dX7_lot_6 : decode cX7_lot 6 = .ok (.iload_n 1, 1) := by decide +kernel
theorem dX7_lot_7 : decode cX7_lot 7 = .ok (.invokevirtual 202, 3) := by decide +kernel
theorem dX7_lot_10 : decode cX7_lot 10 = .ok (.ifCond .eq 12, 3) := by decide +kernel
theorem dX7_lot_13 : decode cX7_lot 13 = .ok (.iload_n 2, 1) := by decide +kernel
theorem dX7_lot_14 : decode cX7_lot 14 = .ok (.iconst 0, 1) := by decide +kernel
theorem dX7_lot_15 : decode cX7_lot 15 = .ok (.iconst 4, 1) := by decide +kernel
theorem dX7_lot_16 : decode cX7_lot 16 = .ok (.invokestatic 101, 3) := by decide +kernel
theorem dX7_lot_19 : decode cX7_lot 19 = .ok (.ifCond .ne 8, 3) := by decide +kernel
theorem dX7_lot_22 : decode cX7_lot 22 = .ok (.aload_n 0, 1) := by decide +kernel
theorem dX7_lot_23 : decode cX7_lot 23 = .ok (.invokevirtual 205, 3) := by decide +kernel
theorem dX7_lot_26 : decode cX7_lot 26 = .ok (.ireturn, 1) := by decide +kernel
theorem dX7_lot_27 : decode cX7_lot 27 = .ok (.iload_n 2, 1) := by decide +kernel
theorem dX7_lot_28 : decode cX7_lot 28 = .ok (.iconst 4, 1) := by decide +kernel
theorem dX7_lot_29 : decode cX7_lot 29 = .ok (.if_icmp .ge 12, 3) := by decide +kernel
theorem dX7_lot_32 : decode cX7_lot 32 = .ok (.aload_n 0, 1) := by decide +kernel
theorem dX7_lot_33 : decode cX7_lot 33 = .ok (.iload_n 1, 1) := by decide +kernel
theorem dX7_lot_34 : decode cX7_lot 34 = .ok (.iload_n 2, 1) := by decide +kernel
theorem dX7_lot_35 : decode cX7_lot 35 = .ok (.invokevirtual 176, 3) := by decide +kernel
theorem dX7_lot_38 : decode cX7_lot 38 = .ok (.goto 8, 3) := by decide +kernel
theorem dX7_lot_41 : decode cX7_lot 41 = .ok (.aload_n 0, 1) := by decide +kernel
theorem dX7_lot_42 : decode cX7_lot 42 = .ok (.iload_n 1, 1) := by decide +kernel
theorem dX7_lot_43 : decode cX7_lot 43 = .ok (.invokevirtual 186, 3) := by decide +kernel
theorem dX7_lot_46 : decode cX7_lot 46 = .ok (.ireturn, 1) := by decide +kernel
theorem dX7_order_0 : decode cX7_order 0 = .ok (.aload_n 0, 1) := by decide +kernel
theorem dX7_order_1 : decode cX7_order 1 = .ok (.iconst 0, 1) := by decide +kernel
theorem dX7_order_2 : decode cX7_order 2 = .ok (.putfield 1, 3) := by decide +kernel
theorem dX7_order_5 : decode cX7_order 5 = .ok (.aload_n 0, 1) := by decide +kernel
theorem dX7_order_6 : decode cX7_order 6 = .ok (.iload_n 1, 1) := by decide +kernel
theorem dX7_order_7 : decode cX7_order 7 = .ok (.invokevirtual 166, 3) := by decide +kernel
theorem dX7_order_10 : decode cX7_order 10 = .ok (.ifCond .eq 13, 3) := by decide +kernel
theorem dX7_order_13 : decode cX7_order 13 = .ok (.iload_n 2, 1) := by decide +kernel
theorem dX7_order_14 : decode cX7_order 14 = .ok (.iconst 0, 1) := by decide +kernel
theorem dX7_order_15 : decode cX7_order 15 = .ok (.bipush 6, 2) := by decide +kernel
theorem dX7_order_17 : decode cX7_order 17 = .ok (.invokestatic 101, 3) := by decide +kernel
theorem dX7_order_20 : decode cX7_order 20 = .ok (.ifCond .ne 8, 3) := by decide +kernel
theorem dX7_order_23 : decode cX7_order 23 = .ok (.aload_n 0, 1) := by decide +kernel
theorem dX7_order_24 : decode cX7_order 24 = .ok (.invokevirtual 205, 3) := by decide +kernel
theorem dX7_order_27 : decode cX7_order 27 = .ok (.ireturn, 1) := by decide +kernel
theorem dX7_order_28 : decode cX7_order 28 = .ok (.iload_n 2, 1) := by decide +kernel
theorem dX7_order_29 : decode cX7_order 29 = .ok (.iconst 5, 1) := by decide +kernel
theorem dX7_order_30 : decode cX7_order 30 = .ok (.if_icmp .ge 12, 3) := by decide +kernel
theorem dX7_order_33 : decode cX7_order 33 = .ok (.aload_n 0, 1) := by decide +kernel
theorem dX7_order_34 : decode cX7_order 34 = .ok (.iload_n 1, 1) := by decide +kernel
theorem dX7_order_35 : decode cX7_order 35 = .ok (.iload_n 2, 1) := by decide +kernel
theorem dX7_order_36 : decode cX7_order 36 = .ok (.invokevirtual 169, 3) := by decide +kernel
theorem dX7_order_39 : decode cX7_order 39 = .ok (.goto 22, 3) := by decide +kernel
theorem dX7_order_42 : decode cX7_order 42 = .ok (.iload_n 2, 1) := by decide +kernel
theorem dX7_order_43 : decode cX7_order 43 = .ok (.iconst 5, 1) := by decide +kernel
theorem dX7_order_44 : decode cX7_order 44 = .ok (.if_icmp .ne 11, 3) := by decide +kernel
theorem dX7_order_47 : decode cX7_order 47 = .ok (.aload_n 0, 1) := by decide +kernel
theorem dX7_order_48 : decode cX7_order 48 = .ok (.iload_n 1, 1) := by decide +kernel
theorem dX7_order_49 : decode cX7_order 49 = .ok (.invokevirtual 208, 3) := by decide +kernel
theorem dX7_order_52 : decode cX7_order 52 = .ok (.goto 9, 3) := by decide +kernel
theorem dX7_order_55 : decode cX7_order 55 = .ok (.aload_n 0, 1) := by decide +kernel
theorem dX7_order_56 : decode cX7_order 56 = .ok (.iload_n 1, 1) := by decide +kernel
theorem dX7_order_57 : decode cX7_order 57 = .ok (.iconst 5, 1) := by decide +kernel
theorem dX7_order_58 : decode cX7_order 58 = .ok (.invokevirtual 169, 3) := by decide +kernel
theorem dX7_order_61 : decode cX7_order 61 = .ok (.ireturn, 1) := by decide +kernel
theorem dX7_reserved_0 : decode cX7_reserved 0 = .ok (.aload_n 0, 1) := by decide +kernel
theorem dX7_reserved_1 : decode cX7_reserved 1 = .ok (.iconst 0, 1) := by decide +kernel
theorem dX7_reserved_2 : decode cX7_reserved 2 = .ok (.putfield 1, 3) := by decide +kernel
theorem dX7_reserved_5 : decode cX7_reserved 5 = .ok (.aload_n 0, 1) := by decide +kernel
theorem dX7_reserved_6 : decode cX7_reserved 6 = .ok (.iload_n 1, 1) := by decide +kernel
theorem dX7_reserved_7 : decode cX7_reserved 7 = .ok (.invokevirtual 202, 3) := by decide +kernel
theorem dX7_reserved_10 : decode cX7_reserved 10 = .ok (.ifCond .eq 20, 3) := by decide +kernel
theorem dX7_reserved_13 : decode cX7_reserved 13 = .ok (.aload_n 0, 1) := by decide +kernel
theorem dX7_reserved_14 : decode cX7_reserved 14 = .ok (.iload_n 2, 1) := by decide +kernel
theorem dX7_reserved_15 : decode cX7_reserved 15 = .ok (.invokevirtual 166, 3) := by decide +kernel
theorem dX7_reserved_18 : decode cX7_reserved 18 = .ok (.ifCond .eq 12, 3) := by decide +kernel
theorem dX7_reserved_21 : decode cX7_reserved 21 = .ok (.aload_n 0, 1) := by decide +kernel
theorem dX7_reserved_22 : decode cX7_reserved 22 = .ok (.iload_n 1, 1) := by decide +kernel
theorem dX7_reserved_23 : decode cX7_reserved 23 = .ok (.iload_n 2, 1) := by decide +kernel
theorem dX7_reserved_24 : decode cX7_reserved 24 = .ok (.invokevirtual 173, 3) := by decide +kernel
theorem dX7_reserved_27 : decode cX7_reserved 27 = .ok (.goto 4, 3) := by decide +kernel
theorem dX7_reserved_30 : decode cX7_reserved 30 = .ok (.iconst (-1), 1) := by decide +kernel
theorem dX7_reserved_31 : decode cX7_reserved 31 = .ok (.ireturn, 1) := by decide +kernel
theorem dX7_customer_0 : decode cX7_customer 0 = .ok (.aload_n 0, 1) := by decide +kernel
theorem dX7_customer_1 : decode cX7_customer 1 = .ok (.iconst 0, 1) := by decide +kernel
theorem dX7_customer_2 : decode cX7_customer 2 = .ok (.putfield 1, 3) := by decide +kernel
theorem dX7_customer_5 : decode cX7_customer 5 = .ok (.aload_n 0, 1) := by decide +kernel
theorem dX7_customer_6 : decode cX7_customer 6 = .ok (.iload_n 1, 1) := by decide +kernel
theorem dX7_customer_7 : decode cX7_customer 7 = .ok (.invokevirtual 211, 3) := by decide +kernel
theorem dX7_customer_10 : decode cX7_customer 10 = .ok (.ifCond .ne 5, 3) := by decide +kernel
theorem dX7_customer_13 : decode cX7_customer 13 = .ok (.iconst (-1), 1) := by decide +kernel
theorem dX7_customer_14 : decode cX7_customer 14 = .ok (.ireturn, 1) := by decide +kernel
theorem dX7_customer_15 : decode cX7_customer 15 = .ok (.iload_n 2, 1) := by decide +kernel
theorem dX7_customer_16 : decode cX7_customer 16 = .ok (.iconst (-1), 1) := by decide +kernel
theorem dX7_customer_17 : decode cX7_customer 17 = .ok (.if_icmp .ne 11, 3) := by decide +kernel
theorem dX7_customer_20 : decode cX7_customer 20 = .ok (.aload_n 0, 1) := by decide +kernel
theorem dX7_customer_21 : decode cX7_customer 21 = .ok (.iload_n 1, 1) := by decide +kernel
theorem dX7_customer_22 : decode cX7_customer 22 = .ok (.invokevirtual 179, 3) := by decide +kernel
theorem dX7_customer_25 : decode cX7_customer 25 = .ok (.goto 32, 3) := by decide +kernel
theorem dX7_customer_28 : decode cX7_customer 28 = .ok (.aload_n 0, 1) := by decide +kernel
theorem dX7_customer_29 : decode cX7_customer 29 = .ok (.iload_n 2, 1) := by decide +kernel
theorem dX7_customer_30 : decode cX7_customer 30 = .ok (.invokevirtual 214, 3) := by decide +kernel
theorem dX7_customer_33 : decode cX7_customer 33 = .ok (.ifCond .eq 23, 3) := by decide +kernel
theorem dX7_customer_36 : decode cX7_customer 36 = .ok (.aload_n 0, 1) := by decide +kernel
theorem dX7_customer_37 : decode cX7_customer 37 = .ok (.getfield 64, 3) := by decide +kernel
theorem dX7_customer_40 : decode cX7_customer 40 = .ok (.bipush 7, 2) := by decide +kernel
theorem dX7_customer_42 : decode cX7_customer 42 = .ok (.iconst 5, 1) := by decide +kernel
theorem dX7_customer_43 : decode cX7_customer 43 = .ok (.iload_n 1, 1) := by decide +kernel
theorem dX7_customer_44 : decode cX7_customer 44 = .ok (.imul, 1) := by decide +kernel
theorem dX7_customer_45 : decode cX7_customer 45 = .ok (.iadd, 1) := by decide +kernel
theorem dX7_customer_46 : decode cX7_customer 46 = .ok (.iconst 1, 1) := by decide +kernel
theorem dX7_customer_47 : decode cX7_customer 47 = .ok (.iadd, 1) := by decide +kernel
theorem dX7_customer_48 : decode cX7_customer 48 = .ok (.iload_n 2, 1) := by decide +kernel
theorem dX7_customer_49 : decode cX7_customer 49 = .ok (.iadd, 1) := by decide +kernel
theorem dX7_customer_50 : decode cX7_customer 50 = .ok (.iaload, 1) := by decide +kernel
theorem dX7_customer_51 : decode cX7_customer 51 = .ok (.iconst 1, 1) := by decide +kernel
theorem dX7_customer_52 : decode cX7_customer 52 = .ok (.isub, 1) := by decide +kernel
theorem dX7_customer_53 : decode cX7_customer 53 = .ok (.goto 4, 3) := by decide +kernel
theorem dX7_customer_56 : decode cX7_customer 56 = .ok (.iconst (-1), 1) := by decide +kernel
theorem dX7_customer_57 : decode cX7_customer 57 = .ok (.ireturn, 1) := by decide +kernel
theorem dX7_suits_0 : decode cX7_suits 0 = .ok (.aload_n 0, 1) := by decide +kernel
theorem dX7_suits_1 : decode cX7_suits 1 = .ok (.iconst 0, 1) := by decide +kernel
theorem dX7_suits_2 : decode cX7_suits 2 = .ok (.putfield 1, 3) := by decide +kernel
theorem dX7_suits_5 : decode cX7_suits 5 = .ok (.aload_n 0, 1) := by decide +kernel
theorem dX7_suits_6 : decode cX7_suits 6 = .ok (.iload_n 1, 1) := by decide +kernel
theorem dX7_suits_7 : decode cX7_suits 7 = .ok (.invokevirtual 202, 3) := by decide +kernel
theorem dX7_suits_10 : decode cX7_suits 10 = .ok (.ifCond .eq 24, 3) := by decide +kernel
theorem dX7_suits_13 : decode cX7_suits 13 = .ok (.aload_n 0, 1) := by decide +kernel
theorem dX7_suits_14 : decode cX7_suits 14 = .ok (.iload_n 2, 1) := by decide +kernel
theorem dX7_suits_15 : decode cX7_suits 15 = .ok (.invokevirtual 189, 3) := by decide +kernel
theorem dX7_suits_18 : decode cX7_suits 18 = .ok (.ifCond .eq 16, 3) := by decide +kernel
theorem dX7_suits_21 : decode cX7_suits 21 = .ok (.aload_n 0, 1) := by decide +kernel
theorem dX7_suits_22 : decode cX7_suits 22 = .ok (.iload_n 1, 1) := by decide +kernel
theorem dX7_suits_23 : decode cX7_suits 23 = .ok (.iload_n 2, 1) := by decide +kernel
theorem dX7_suits_24 : decode cX7_suits 24 = .ok (.invokevirtual 217, 3) := by decide +kernel
theorem dX7_suits_27 : decode cX7_suits 27 = .ok (.ifCond .eq 7, 3) := by decide +kernel
theorem dX7_suits_30 : decode cX7_suits 30 = .ok (.iconst 1, 1) := by decide +kernel
theorem dX7_suits_31 : decode cX7_suits 31 = .ok (.goto 4, 3) := by decide +kernel
theorem dX7_suits_34 : decode cX7_suits 34 = .ok (.iconst 0, 1) := by decide +kernel
theorem dX7_suits_35 : decode cX7_suits 35 = .ok (.ireturn, 1) := by decide +kernel
theorem dX7_laysRows_0 : decode cX7_laysRows 0 = .ok (.aload_n 0, 1) := by decide +kernel
theorem dX7_laysRows_1 : decode cX7_laysRows 1 = .ok (.iconst 0, 1) := by decide +kernel
theorem dX7_laysRows_2 : decode cX7_laysRows 2 = .ok (.putfield 221, 3) := by decide +kernel
theorem dX7_laysRows_5 : decode cX7_laysRows 5 = .ok (.aload_n 0, 1) := by decide +kernel
theorem dX7_laysRows_6 : decode cX7_laysRows 6 = .ok (.iconst 0, 1) := by decide +kernel
theorem dX7_laysRows_7 : decode cX7_laysRows 7 = .ok (.putfield 224, 3) := by decide +kernel
theorem dX7_laysRows_10 : decode cX7_laysRows 10 = .ok (.iconst 0, 1) := by decide +kernel
theorem dX7_laysRows_11 : decode cX7_laysRows 11 = .ok (.istore 8, 2) := by decide +kernel
theorem dX7_laysRows_13 : decode cX7_laysRows 13 = .ok (.iload 8, 2) := by decide +kernel
theorem dX7_laysRows_15 : decode cX7_laysRows 15 = .ok (.aload_n 0, 1) := by decide +kernel
theorem dX7_laysRows_16 : decode cX7_laysRows 16 = .ok (.getfield 64, 3) := by decide +kernel
theorem dX7_laysRows_19 : decode cX7_laysRows 19 = .ok (.iconst 4, 1) := by decide +kernel
theorem dX7_laysRows_20 : decode cX7_laysRows 20 = .ok (.iaload, 1) := by decide +kernel
theorem dX7_laysRows_21 : decode cX7_laysRows 21 = .ok (.if_icmp .ge 42, 3) := by decide +kernel
theorem dX7_laysRows_24 : decode cX7_laysRows 24 = .ok (.aload_n 0, 1) := by decide +kernel
theorem dX7_laysRows_25 : decode cX7_laysRows 25 = .ok (.iload 8, 2) := by decide +kernel
theorem dX7_laysRows_27 : decode cX7_laysRows 27 = .ok (.invokevirtual 189, 3) := by decide +kernel
theorem dX7_laysRows_30 : decode cX7_laysRows 30 = .ok (.ifCond .eq 27, 3) := by decide +kernel
theorem dX7_laysRows_33 : decode cX7_laysRows 33 = .ok (.aload_n 0, 1) := by decide +kernel
theorem dX7_laysRows_34 : decode cX7_laysRows 34 = .ok (.iload 8, 2) := by decide +kernel
theorem dX7_laysRows_36 : decode cX7_laysRows 36 = .ok (.iconst 1, 1) := by decide +kernel
theorem dX7_laysRows_37 : decode cX7_laysRows 37 = .ok (.invokevirtual 169, 3) := by decide +kernel
theorem dX7_laysRows_40 : decode cX7_laysRows 40 = .ok (.iload_n 1, 1) := by decide +kernel
theorem dX7_laysRows_41 : decode cX7_laysRows 41 = .ok (.if_icmp .ne 16, 3) := by decide +kernel
theorem dX7_laysRows_44 : decode cX7_laysRows 44 = .ok (.aload_n 0, 1) := by decide +kernel
theorem dX7_laysRows_45 : decode cX7_laysRows 45 = .ok (.iload 8, 2) := by decide +kernel
theorem dX7_laysRows_47 : decode cX7_laysRows 47 = .ok (.aload_n 0, 1) := by decide +kernel
theorem dX7_laysRows_48 : decode cX7_laysRows 48 = .ok (.iload 8, 2) := by decide +kernel
theorem dX7_laysRows_50 : decode cX7_laysRows 50 = .ok (.iconst 3, 1) := by decide +kernel
theorem dX7_laysRows_51 : decode cX7_laysRows 51 = .ok (.invokevirtual 169, 3) := by decide +kernel
theorem dX7_laysRows_54 : decode cX7_laysRows 54 = .ok (.invokevirtual 227, 3) := by decide +kernel
theorem dX7_laysRows_57 : decode cX7_laysRows 57 = .ok (.iinc 8 1, 3) := by decide +kernel
theorem dX7_laysRows_60 : decode cX7_laysRows 60 = .ok (.goto (-47), 3) := by decide +kernel
theorem dX7_laysRows_63 : decode cX7_laysRows 63 = .ok (.iload 4, 2) := by decide +kernel
theorem dX7_laysRows_65 : decode cX7_laysRows 65 = .ok (.ifCond .eq 11, 3) := by decide +kernel
theorem dX7_laysRows_68 : decode cX7_laysRows 68 = .ok (.aload_n 0, 1) := by decide +kernel
theorem dX7_laysRows_69 : decode cX7_laysRows 69 = .ok (.bipush 40, 2) := by decide +kernel
theorem dX7_laysRows_71 : decode cX7_laysRows 71 = .ok (.iload 7, 2) := by decide +kernel
theorem dX7_laysRows_73 : decode cX7_laysRows 73 = .ok (.invokevirtual 227, 3) := by decide +kernel
theorem dX7_laysRows_76 : decode cX7_laysRows 76 = .ok (.iconst 0, 1) := by decide +kernel
theorem dX7_laysRows_77 : decode cX7_laysRows 77 = .ok (.istore 8, 2) := by decide +kernel
theorem dX7_laysRows_79 : decode cX7_laysRows 79 = .ok (.iload 8, 2) := by decide +kernel
theorem dX7_laysRows_81 : decode cX7_laysRows 81 = .ok (.aload_n 0, 1) := by decide +kernel
theorem dX7_laysRows_82 : decode cX7_laysRows 82 = .ok (.getfield 64, 3) := by decide +kernel
theorem dX7_laysRows_85 : decode cX7_laysRows 85 = .ok (.iconst 3, 1) := by decide +kernel
theorem dX7_laysRows_86 : decode cX7_laysRows 86 = .ok (.iaload, 1) := by decide +kernel
theorem dX7_laysRows_87 : decode cX7_laysRows 87 = .ok (.if_icmp .ge 26, 3) := by decide +kernel
theorem dX7_laysRows_90 : decode cX7_laysRows 90 = .ok (.aload_n 0, 1) := by decide +kernel
theorem dX7_laysRows_91 : decode cX7_laysRows 91 = .ok (.iload 8, 2) := by decide +kernel
theorem dX7_laysRows_93 : decode cX7_laysRows 93 = .ok (.iconst 0, 1) := by decide +kernel
theorem dX7_laysRows_94 : decode cX7_laysRows 94 = .ok (.invokevirtual 176, 3) := by decide +kernel
theorem dX7_laysRows_97 : decode cX7_laysRows 97 = .ok (.iload_n 1, 1) := by decide +kernel
theorem dX7_laysRows_98 : decode cX7_laysRows 98 = .ok (.if_icmp .ne 9, 3) := by decide +kernel
theorem dX7_laysRows_101 : decode cX7_laysRows 101 = .ok (.aload_n 0, 1) := by decide +kernel
theorem dX7_laysRows_102 : decode cX7_laysRows 102 = .ok (.iload 8, 2) := by decide +kernel
theorem dX7_laysRows_104 : decode cX7_laysRows 104 = .ok (.invokevirtual 231, 3) := by decide +kernel
theorem dX7_laysRows_107 : decode cX7_laysRows 107 = .ok (.iinc 8 1, 3) := by decide +kernel
theorem dX7_laysRows_110 : decode cX7_laysRows 110 = .ok (.goto (-31), 3) := by decide +kernel
theorem dX7_laysRows_113 : decode cX7_laysRows 113 = .ok (.iconst 0, 1) := by decide +kernel
theorem dX7_laysRows_114 : decode cX7_laysRows 114 = .ok (.istore 8, 2) := by decide +kernel
theorem dX7_laysRows_116 : decode cX7_laysRows 116 = .ok (.iload 8, 2) := by decide +kernel
theorem dX7_laysRows_118 : decode cX7_laysRows 118 = .ok (.aload_n 0, 1) := by decide +kernel
theorem dX7_laysRows_119 : decode cX7_laysRows 119 = .ok (.getfield 221, 3) := by decide +kernel
theorem dX7_laysRows_122 : decode cX7_laysRows 122 = .ok (.if_icmp .ge 170, 3) := by decide +kernel
theorem dX7_laysRows_125 : decode cX7_laysRows 125 = .ok (.aload_n 0, 1) := by decide +kernel
theorem dX7_laysRows_126 : decode cX7_laysRows 126 = .ok (.getfield 73, 3) := by decide +kernel
theorem dX7_laysRows_129 : decode cX7_laysRows 129 = .ok (.iload 8, 2) := by decide +kernel
theorem dX7_laysRows_131 : decode cX7_laysRows 131 = .ok (.iaload, 1) := by decide +kernel
theorem dX7_laysRows_132 : decode cX7_laysRows 132 = .ok (.istore 9, 2) := by decide +kernel
theorem dX7_laysRows_134 : decode cX7_laysRows 134 = .ok (.aload_n 0, 1) := by decide +kernel
theorem dX7_laysRows_135 : decode cX7_laysRows 135 = .ok (.getfield 79, 3) := by decide +kernel
theorem dX7_laysRows_138 : decode cX7_laysRows 138 = .ok (.iload 8, 2) := by decide +kernel
theorem dX7_laysRows_140 : decode cX7_laysRows 140 = .ok (.iload 9, 2) := by decide +kernel
theorem dX7_laysRows_142 : decode cX7_laysRows 142 = .ok (.bipush 40, 2) := by decide +kernel
theorem dX7_laysRows_144 : decode cX7_laysRows 144 = .ok (.if_icmp .ne 8, 3) := by decide +kernel
theorem dX7_laysRows_147 : decode cX7_laysRows 147 = .ok (.iload 6, 2) := by decide +kernel
theorem dX7_laysRows_149 : decode cX7_laysRows 149 = .ok (.goto 10, 3) := by decide +kernel
theorem dX7_laysRows_152 : decode cX7_laysRows 152 = .ok (.aload_n 0, 1) := by decide +kernel
theorem dX7_laysRows_153 : decode cX7_laysRows 153 = .ok (.iload 9, 2) := by decide +kernel
theorem dX7_laysRows_155 : decode cX7_laysRows 155 = .ok (.iconst 2, 1) := by decide +kernel
theorem dX7_laysRows_156 : decode cX7_laysRows 156 = .ok (.invokevirtual 169, 3) := by decide +kernel
theorem dX7_laysRows_159 : decode cX7_laysRows 159 = .ok (.iastore, 1) := by decide +kernel
theorem dX7_laysRows_160 : decode cX7_laysRows 160 = .ok (.iconst 0, 1) := by decide +kernel
theorem dX7_laysRows_161 : decode cX7_laysRows 161 = .ok (.istore 10, 2) := by decide +kernel
theorem dX7_laysRows_163 : decode cX7_laysRows 163 = .ok (.iload 10, 2) := by decide +kernel
theorem dX7_laysRows_165 : decode cX7_laysRows 165 = .ok (.aload_n 0, 1) := by decide +kernel
theorem dX7_laysRows_166 : decode cX7_laysRows 166 = .ok (.getfield 224, 3) := by decide +kernel
theorem dX7_laysRows_169 : decode cX7_laysRows 169 = .ok (.if_icmp .ge 117, 3) := by decide +kernel
theorem dX7_laysRows_172 : decode cX7_laysRows 172 = .ok (.aload_n 0, 1) := by decide +kernel
theorem dX7_laysRows_173 : decode cX7_laysRows 173 = .ok (.getfield 82, 3) := by decide +kernel
theorem dX7_laysRows_176 : decode cX7_laysRows 176 = .ok (.bipush 8, 2) := by decide +kernel
theorem dX7_laysRows_178 : decode cX7_laysRows 178 = .ok (.iload 10, 2) := by decide +kernel
theorem dX7_laysRows_180 : decode cX7_laysRows 180 = .ok (.imul, 1) := by decide +kernel
theorem dX7_laysRows_181 : decode cX7_laysRows 181 = .ok (.iload 8, 2) := by decide +kernel
theorem dX7_laysRows_183 : decode cX7_laysRows 183 = .ok (.iadd, 1) := by decide +kernel
theorem dX7_laysRows_184 : decode cX7_laysRows 184 = .ok (.iconst 0, 1) := by decide +kernel
theorem dX7_laysRows_185 : decode cX7_laysRows 185 = .ok (.iastore, 1) := by decide +kernel
theorem dX7_laysRows_186 : decode cX7_laysRows 186 = .ok (.aload_n 0, 1) := by decide +kernel
theorem dX7_laysRows_187 : decode cX7_laysRows 187 = .ok (.getfield 94, 3) := by decide +kernel
theorem dX7_laysRows_190 : decode cX7_laysRows 190 = .ok (.bipush 8, 2) := by decide +kernel
theorem dX7_laysRows_192 : decode cX7_laysRows 192 = .ok (.iload 10, 2) := by decide +kernel
theorem dX7_laysRows_194 : decode cX7_laysRows 194 = .ok (.imul, 1) := by decide +kernel
theorem dX7_laysRows_195 : decode cX7_laysRows 195 = .ok (.iload 8, 2) := by decide +kernel
theorem dX7_laysRows_197 : decode cX7_laysRows 197 = .ok (.iadd, 1) := by decide +kernel
theorem dX7_laysRows_198 : decode cX7_laysRows 198 = .ok (.iload 9, 2) := by decide +kernel
theorem dX7_laysRows_200 : decode cX7_laysRows 200 = .ok (.bipush 40, 2) := by decide +kernel
theorem dX7_laysRows_202 : decode cX7_laysRows 202 = .ok (.if_icmp .ne 28, 3) := by decide +kernel
theorem dX7_laysRows_205 : decode cX7_laysRows 205 = .ok (.aload_n 0, 1) := by decide +kernel
theorem dX7_laysRows_206 : decode cX7_laysRows 206 = .ok (.aload_n 0, 1) := by decide +kernel
theorem dX7_laysRows_207 : decode cX7_laysRows 207 = .ok (.getfield 76, 3) := by decide +kernel
theorem dX7_laysRows_210 : decode cX7_laysRows 210 = .ok (.iload 10, 2) := by decide +kernel
theorem dX7_laysRows_212 : decode cX7_laysRows 212 = .ok (.iaload, 1) := by decide +kernel
theorem dX7_laysRows_213 : decode cX7_laysRows 213 = .ok (.iload 5, 2) := by decide +kernel
theorem dX7_laysRows_215 : decode cX7_laysRows 215 = .ok (.iload_n 1, 1) := by decide +kernel
theorem dX7_laysRows_216 : decode cX7_laysRows 216 = .ok (.iload 7, 2) := by decide +kernel
theorem dX7_laysRows_218 : decode cX7_laysRows 218 = .ok (.aload_n 0, 1) := by decide +kernel
theorem dX7_laysRows_219 : decode cX7_laysRows 219 = .ok (.iload 5, 2) := by decide +kernel
theorem dX7_laysRows_221 : decode cX7_laysRows 221 = .ok (.invokevirtual 179, 3) := by decide +kernel
theorem dX7_laysRows_224 : decode cX7_laysRows 224 = .ok (.invokevirtual 182, 3) := by decide +kernel
theorem dX7_laysRows_227 : decode cX7_laysRows 227 = .ok (.goto 52, 3) := by decide +kernel
theorem dX7_laysRows_230 : decode cX7_laysRows 230 = .ok (.iload 9, 2) := by decide +kernel
theorem dX7_laysRows_232 : decode cX7_laysRows 232 = .ok (.iload_n 2, 1) := by decide +kernel
theorem dX7_laysRows_233 : decode cX7_laysRows 233 = .ok (.if_icmp .ne 33, 3) := by decide +kernel
theorem dX7_laysRows_236 : decode cX7_laysRows 236 = .ok (.aload_n 0, 1) := by decide +kernel
theorem dX7_laysRows_237 : decode cX7_laysRows 237 = .ok (.aload_n 0, 1) := by decide +kernel
theorem dX7_laysRows_238 : decode cX7_laysRows 238 = .ok (.getfield 76, 3) := by decide +kernel
theorem dX7_laysRows_241 : decode cX7_laysRows 241 = .ok (.iload 10, 2) := by decide +kernel
theorem dX7_laysRows_243 : decode cX7_laysRows 243 = .ok (.iaload, 1) := by decide +kernel
theorem dX7_laysRows_244 : decode cX7_laysRows 244 = .ok (.aload_n 0, 1) := by decide +kernel
theorem dX7_laysRows_245 : decode cX7_laysRows 245 = .ok (.iload 9, 2) := by decide +kernel
theorem dX7_laysRows_247 : decode cX7_laysRows 247 = .ok (.iconst 0, 1) := by decide +kernel
theorem dX7_laysRows_248 : decode cX7_laysRows 248 = .ok (.invokevirtual 169, 3) := by decide +kernel
theorem dX7_laysRows_251 : decode cX7_laysRows 251 = .ok (.iload_n 1, 1) := by decide +kernel
theorem dX7_laysRows_252 : decode cX7_laysRows 252 = .ok (.aload_n 0, 1) := by decide +kernel
theorem dX7_laysRows_253 : decode cX7_laysRows 253 = .ok (.iload 9, 2) := by decide +kernel
theorem dX7_laysRows_255 : decode cX7_laysRows 255 = .ok (.iconst 3, 1) := by decide +kernel
theorem dX7_laysRows_256 : decode cX7_laysRows 256 = .ok (.invokevirtual 169, 3) := by decide +kernel
theorem dX7_laysRows_259 : decode cX7_laysRows 259 = .ok (.iload_n 3, 1) := by decide +kernel
theorem dX7_laysRows_260 : decode cX7_laysRows 260 = .ok (.invokevirtual 182, 3) := by decide +kernel
theorem dX7_laysRows_263 : decode cX7_laysRows 263 = .ok (.goto 16, 3) := by decide +kernel
theorem dX7_laysRows_266 : decode cX7_laysRows 266 = .ok (.aload_n 0, 1) := by decide +kernel
theorem dX7_laysRows_267 : decode cX7_laysRows 267 = .ok (.aload_n 0, 1) := by decide +kernel
theorem dX7_laysRows_268 : decode cX7_laysRows 268 = .ok (.getfield 76, 3) := by decide +kernel
theorem dX7_laysRows_271 : decode cX7_laysRows 271 = .ok (.iload 10, 2) := by decide +kernel
theorem dX7_laysRows_273 : decode cX7_laysRows 273 = .ok (.iaload, 1) := by decide +kernel
theorem dX7_laysRows_274 : decode cX7_laysRows 274 = .ok (.iload 9, 2) := by decide +kernel
theorem dX7_laysRows_276 : decode cX7_laysRows 276 = .ok (.invokevirtual 217, 3) := by decide +kernel
theorem dX7_laysRows_279 : decode cX7_laysRows 279 = .ok (.bastore, 1) := by decide +kernel
theorem dX7_laysRows_280 : decode cX7_laysRows 280 = .ok (.iinc 10 1, 3) := by decide +kernel
theorem dX7_laysRows_283 : decode cX7_laysRows 283 = .ok (.goto (-120), 3) := by decide +kernel
theorem dX7_laysRows_286 : decode cX7_laysRows 286 = .ok (.iinc 8 1, 3) := by decide +kernel
theorem dX7_laysRows_289 : decode cX7_laysRows 289 = .ok (.goto (-173), 3) := by decide +kernel
theorem dX7_laysRows_292 : decode cX7_laysRows 292 = .ok (.return_, 1) := by decide +kernel
theorem dX7_dayOf_0 : decode cX7_dayOf 0 = .ok (.iload_n 1, 1) := by decide +kernel
theorem dX7_dayOf_1 : decode cX7_dayOf 1 = .ok (.bipush 40, 2) := by decide +kernel
theorem dX7_dayOf_3 : decode cX7_dayOf 3 = .ok (.if_icmp .ne 10, 3) := by decide +kernel
theorem dX7_dayOf_6 : decode cX7_dayOf 6 = .ok (.aload_n 0, 1) := by decide +kernel
theorem dX7_dayOf_7 : decode cX7_dayOf 7 = .ok (.getfield 234, 3) := by decide +kernel
theorem dX7_dayOf_10 : decode cX7_dayOf 10 = .ok (.goto 9, 3) := by decide +kernel
theorem dX7_dayOf_13 : decode cX7_dayOf 13 = .ok (.aload_n 0, 1) := by decide +kernel
theorem dX7_dayOf_14 : decode cX7_dayOf 14 = .ok (.iload_n 1, 1) := by decide +kernel
theorem dX7_dayOf_15 : decode cX7_dayOf 15 = .ok (.iconst 3, 1) := by decide +kernel
theorem dX7_dayOf_16 : decode cX7_dayOf 16 = .ok (.invokevirtual 169, 3) := by decide +kernel
theorem dX7_dayOf_19 : decode cX7_dayOf 19 = .ok (.ireturn, 1) := by decide +kernel
theorem dX7_puts_0 : decode cX7_puts 0 = .ok (.iload_n 1, 1) := by decide +kernel
theorem dX7_puts_1 : decode cX7_puts 1 = .ok (.bipush 40, 2) := by decide +kernel
theorem dX7_puts_3 : decode cX7_puts 3 = .ok (.if_icmp .ne 8, 3) := by decide +kernel
theorem dX7_puts_6 : decode cX7_puts 6 = .ok (.aload_n 0, 1) := by decide +kernel
theorem dX7_puts_7 : decode cX7_puts 7 = .ok (.iload_n 2, 1) := by decide +kernel
theorem dX7_puts_8 : decode cX7_puts 8 = .ok (.putfield 234, 3) := by decide +kernel
theorem dX7_puts_11 : decode cX7_puts 11 = .ok (.aload_n 0, 1) := by decide +kernel
theorem dX7_puts_12 : decode cX7_puts 12 = .ok (.getfield 221, 3) := by decide +kernel
theorem dX7_puts_15 : decode cX7_puts 15 = .ok (.istore_n 3, 1) := by decide +kernel
theorem dX7_puts_16 : decode cX7_puts 16 = .ok (.iload_n 3, 1) := by decide +kernel
theorem dX7_puts_17 : decode cX7_puts 17 = .ok (.ifCond .le 39, 3) := by decide +kernel
theorem dX7_puts_20 : decode cX7_puts 20 = .ok (.aload_n 0, 1) := by decide +kernel
theorem dX7_puts_21 : decode cX7_puts 21 = .ok (.aload_n 0, 1) := by decide +kernel
theorem dX7_puts_22 : decode cX7_puts 22 = .ok (.getfield 73, 3) := by decide +kernel
theorem dX7_puts_25 : decode cX7_puts 25 = .ok (.iload_n 3, 1) := by decide +kernel
theorem dX7_puts_26 : decode cX7_puts 26 = .ok (.iconst 1, 1) := by decide +kernel
theorem dX7_puts_27 : decode cX7_puts 27 = .ok (.isub, 1) := by decide +kernel
theorem dX7_puts_28 : decode cX7_puts 28 = .ok (.iaload, 1) := by decide +kernel
theorem dX7_puts_29 : decode cX7_puts 29 = .ok (.invokevirtual 237, 3) := by decide +kernel
theorem dX7_puts_32 : decode cX7_puts 32 = .ok (.iload_n 2, 1) := by decide +kernel
theorem dX7_puts_33 : decode cX7_puts 33 = .ok (.if_icmp .le 23, 3) := by decide +kernel
theorem dX7_puts_36 : decode cX7_puts 36 = .ok (.aload_n 0, 1) := by decide +kernel
theorem dX7_puts_37 : decode cX7_puts 37 = .ok (.getfield 73, 3) := by decide +kernel
theorem dX7_puts_40 : decode cX7_puts 40 = .ok (.iload_n 3, 1) := by decide +kernel
theorem dX7_puts_41 : decode cX7_puts 41 = .ok (.aload_n 0, 1) := by decide +kernel
theorem dX7_puts_42 : decode cX7_puts 42 = .ok (.getfield 73, 3) := by decide +kernel
theorem dX7_puts_45 : decode cX7_puts 45 = .ok (.iload_n 3, 1) := by decide +kernel
theorem dX7_puts_46 : decode cX7_puts 46 = .ok (.iconst 1, 1) := by decide +kernel
theorem dX7_puts_47 : decode cX7_puts 47 = .ok (.isub, 1) := by decide +kernel
theorem dX7_puts_48 : decode cX7_puts 48 = .ok (.iaload, 1) := by decide +kernel
theorem dX7_puts_49 : decode cX7_puts 49 = .ok (.iastore, 1) := by decide +kernel
theorem dX7_puts_50 : decode cX7_puts 50 = .ok (.iinc 3 (-1), 3) := by decide +kernel
theorem dX7_puts_53 : decode cX7_puts 53 = .ok (.goto (-37), 3) := by decide +kernel
theorem dX7_puts_56 : decode cX7_puts 56 = .ok (.aload_n 0, 1) := by decide +kernel
theorem dX7_puts_57 : decode cX7_puts 57 = .ok (.getfield 73, 3) := by decide +kernel
theorem dX7_puts_60 : decode cX7_puts 60 = .ok (.iload_n 3, 1) := by decide +kernel
theorem dX7_puts_61 : decode cX7_puts 61 = .ok (.iload_n 1, 1) := by decide +kernel
theorem dX7_puts_62 : decode cX7_puts 62 = .ok (.iastore, 1) := by decide +kernel
theorem dX7_puts_63 : decode cX7_puts 63 = .ok (.aload_n 0, 1) := by decide +kernel
theorem dX7_puts_64 : decode cX7_puts 64 = .ok (.dup, 1) := by decide +kernel
theorem dX7_puts_65 : decode cX7_puts 65 = .ok (.getfield 221, 3) := by decide +kernel
theorem dX7_puts_68 : decode cX7_puts 68 = .ok (.iconst 1, 1) := by decide +kernel
theorem dX7_puts_69 : decode cX7_puts 69 = .ok (.iadd, 1) := by decide +kernel
theorem dX7_puts_70 : decode cX7_puts 70 = .ok (.putfield 221, 3) := by decide +kernel
theorem dX7_puts_73 : decode cX7_puts 73 = .ok (.return_, 1) := by decide +kernel
theorem dX7_putsLot_0 : decode cX7_putsLot 0 = .ok (.aload_n 0, 1) := by decide +kernel
theorem dX7_putsLot_1 : decode cX7_putsLot 1 = .ok (.getfield 224, 3) := by decide +kernel
theorem dX7_putsLot_4 : decode cX7_putsLot 4 = .ok (.istore_n 2, 1) := by decide +kernel
theorem dX7_putsLot_5 : decode cX7_putsLot 5 = .ok (.iload_n 2, 1) := by decide +kernel
theorem dX7_putsLot_6 : decode cX7_putsLot 6 = .ok (.ifCond .le 45, 3) := by decide +kernel
theorem dX7_putsLot_9 : decode cX7_putsLot 9 = .ok (.aload_n 0, 1) := by decide +kernel
theorem dX7_putsLot_10 : decode cX7_putsLot 10 = .ok (.aload_n 0, 1) := by decide +kernel
theorem dX7_putsLot_11 : decode cX7_putsLot 11 = .ok (.getfield 76, 3) := by decide +kernel
theorem dX7_putsLot_14 : decode cX7_putsLot 14 = .ok (.iload_n 2, 1) := by decide +kernel
theorem dX7_putsLot_15 : decode cX7_putsLot 15 = .ok (.iconst 1, 1) := by decide +kernel
theorem dX7_putsLot_16 : decode cX7_putsLot 16 = .ok (.isub, 1) := by decide +kernel
theorem dX7_putsLot_17 : decode cX7_putsLot 17 = .ok (.iaload, 1) := by decide +kernel
theorem dX7_putsLot_18 : decode cX7_putsLot 18 = .ok (.iconst 1, 1) := by decide +kernel
theorem dX7_putsLot_19 : decode cX7_putsLot 19 = .ok (.invokevirtual 176, 3) := by decide +kernel
theorem dX7_putsLot_22 : decode cX7_putsLot 22 = .ok (.aload_n 0, 1) := by decide +kernel
theorem dX7_putsLot_23 : decode cX7_putsLot 23 = .ok (.iload_n 1, 1) := by decide +kernel
theorem dX7_putsLot_24 : decode cX7_putsLot 24 = .ok (.iconst 1, 1) := by decide +kernel
theorem dX7_putsLot_25 : decode cX7_putsLot 25 = .ok (.invokevirtual 176, 3) := by decide +kernel
theorem dX7_putsLot_28 : decode cX7_putsLot 28 = .ok (.if_icmp .le 23, 3) := by decide +kernel
theorem dX7_putsLot_31 : decode cX7_putsLot 31 = .ok (.aload_n 0, 1) := by decide +kernel
theorem dX7_putsLot_32 : decode cX7_putsLot 32 = .ok (.getfield 76, 3) := by decide +kernel
theorem dX7_putsLot_35 : decode cX7_putsLot 35 = .ok (.iload_n 2, 1) := by decide +kernel
theorem dX7_putsLot_36 : decode cX7_putsLot 36 = .ok (.aload_n 0, 1) := by decide +kernel
theorem dX7_putsLot_37 : decode cX7_putsLot 37 = .ok (.getfield 76, 3) := by decide +kernel
theorem dX7_putsLot_40 : decode cX7_putsLot 40 = .ok (.iload_n 2, 1) := by decide +kernel
theorem dX7_putsLot_41 : decode cX7_putsLot 41 = .ok (.iconst 1, 1) := by decide +kernel
theorem dX7_putsLot_42 : decode cX7_putsLot 42 = .ok (.isub, 1) := by decide +kernel
theorem dX7_putsLot_43 : decode cX7_putsLot 43 = .ok (.iaload, 1) := by decide +kernel
theorem dX7_putsLot_44 : decode cX7_putsLot 44 = .ok (.iastore, 1) := by decide +kernel
theorem dX7_putsLot_45 : decode cX7_putsLot 45 = .ok (.iinc 2 (-1), 3) := by decide +kernel
theorem dX7_putsLot_48 : decode cX7_putsLot 48 = .ok (.goto (-43), 3) := by decide +kernel
theorem dX7_putsLot_51 : decode cX7_putsLot 51 = .ok (.aload_n 0, 1) := by decide +kernel
theorem dX7_putsLot_52 : decode cX7_putsLot 52 = .ok (.getfield 76, 3) := by decide +kernel
theorem dX7_putsLot_55 : decode cX7_putsLot 55 = .ok (.iload_n 2, 1) := by decide +kernel
theorem dX7_putsLot_56 : decode cX7_putsLot 56 = .ok (.iload_n 1, 1) := by decide +kernel
theorem dX7_putsLot_57 : decode cX7_putsLot 57 = .ok (.iastore, 1) := by decide +kernel
theorem dX7_putsLot_58 : decode cX7_putsLot 58 = .ok (.aload_n 0, 1) := by decide +kernel
theorem dX7_putsLot_59 : decode cX7_putsLot 59 = .ok (.dup, 1) := by decide +kernel
theorem dX7_putsLot_60 : decode cX7_putsLot 60 = .ok (.getfield 224, 3) := by decide +kernel
theorem dX7_putsLot_63 : decode cX7_putsLot 63 = .ok (.iconst 1, 1) := by decide +kernel
theorem dX7_putsLot_64 : decode cX7_putsLot 64 = .ok (.iadd, 1) := by decide +kernel
theorem dX7_putsLot_65 : decode cX7_putsLot 65 = .ok (.putfield 224, 3) := by decide +kernel
theorem dX7_putsLot_68 : decode cX7_putsLot 68 = .ok (.return_, 1) := by decide +kernel
theorem dX7_usedOf_0 : decode cX7_usedOf 0 = .ok (.iconst 0, 1) := by decide +kernel
theorem dX7_usedOf_1 : decode cX7_usedOf 1 = .ok (.istore_n 2, 1) := by decide +kernel
theorem dX7_usedOf_2 : decode cX7_usedOf 2 = .ok (.iconst 0, 1) := by decide +kernel
theorem dX7_usedOf_3 : decode cX7_usedOf 3 = .ok (.istore_n 3, 1) := by decide +kernel
theorem dX7_usedOf_4 : decode cX7_usedOf 4 = .ok (.iload_n 3, 1) := by decide +kernel
theorem dX7_usedOf_5 : decode cX7_usedOf 5 = .ok (.aload_n 0, 1) := by decide +kernel
theorem dX7_usedOf_6 : decode cX7_usedOf 6 = .ok (.getfield 221, 3) := by decide +kernel
theorem dX7_usedOf_9 : decode cX7_usedOf 9 = .ok (.if_icmp .ge 23, 3) := by decide +kernel
theorem dX7_usedOf_12 : decode cX7_usedOf 12 = .ok (.iload_n 2, 1) := by decide +kernel
theorem dX7_usedOf_13 : decode cX7_usedOf 13 = .ok (.aload_n 0, 1) := by decide +kernel
theorem dX7_usedOf_14 : decode cX7_usedOf 14 = .ok (.getfield 82, 3) := by decide +kernel
theorem dX7_usedOf_17 : decode cX7_usedOf 17 = .ok (.bipush 8, 2) := by decide +kernel
theorem dX7_usedOf_19 : decode cX7_usedOf 19 = .ok (.iload_n 1, 1) := by decide +kernel
theorem dX7_usedOf_20 : decode cX7_usedOf 20 = .ok (.imul, 1) := by decide +kernel
theorem dX7_usedOf_21 : decode cX7_usedOf 21 = .ok (.iload_n 3, 1) := by decide +kernel
theorem dX7_usedOf_22 : decode cX7_usedOf 22 = .ok (.iadd, 1) := by decide +kernel
theorem dX7_usedOf_23 : decode cX7_usedOf 23 = .ok (.iaload, 1) := by decide +kernel
theorem dX7_usedOf_24 : decode cX7_usedOf 24 = .ok (.iadd, 1) := by decide +kernel
theorem dX7_usedOf_25 : decode cX7_usedOf 25 = .ok (.istore_n 2, 1) := by decide +kernel
theorem dX7_usedOf_26 : decode cX7_usedOf 26 = .ok (.iinc 3 1, 3) := by decide +kernel
theorem dX7_usedOf_29 : decode cX7_usedOf 29 = .ok (.goto (-25), 3) := by decide +kernel
theorem dX7_usedOf_32 : decode cX7_usedOf 32 = .ok (.iload_n 2, 1) := by decide +kernel
theorem dX7_usedOf_33 : decode cX7_usedOf 33 = .ok (.ireturn, 1) := by decide +kernel
theorem dX7_hasGot_0 : decode cX7_hasGot 0 = .ok (.iconst 0, 1) := by decide +kernel
theorem dX7_hasGot_1 : decode cX7_hasGot 1 = .ok (.istore_n 2, 1) := by decide +kernel
theorem dX7_hasGot_2 : decode cX7_hasGot 2 = .ok (.iconst 0, 1) := by decide +kernel
theorem dX7_hasGot_3 : decode cX7_hasGot 3 = .ok (.istore_n 3, 1) := by decide +kernel
theorem dX7_hasGot_4 : decode cX7_hasGot 4 = .ok (.iload_n 3, 1) := by decide +kernel
theorem dX7_hasGot_5 : decode cX7_hasGot 5 = .ok (.aload_n 0, 1) := by decide +kernel
theorem dX7_hasGot_6 : decode cX7_hasGot 6 = .ok (.getfield 224, 3) := by decide +kernel
theorem dX7_hasGot_9 : decode cX7_hasGot 9 = .ok (.if_icmp .ge 23, 3) := by decide +kernel
theorem dX7_hasGot_12 : decode cX7_hasGot 12 = .ok (.iload_n 2, 1) := by decide +kernel
theorem dX7_hasGot_13 : decode cX7_hasGot 13 = .ok (.aload_n 0, 1) := by decide +kernel
theorem dX7_hasGot_14 : decode cX7_hasGot 14 = .ok (.getfield 82, 3) := by decide +kernel
theorem dX7_hasGot_17 : decode cX7_hasGot 17 = .ok (.bipush 8, 2) := by decide +kernel
theorem dX7_hasGot_19 : decode cX7_hasGot 19 = .ok (.iload_n 3, 1) := by decide +kernel
theorem dX7_hasGot_20 : decode cX7_hasGot 20 = .ok (.imul, 1) := by decide +kernel
theorem dX7_hasGot_21 : decode cX7_hasGot 21 = .ok (.iload_n 1, 1) := by decide +kernel
theorem dX7_hasGot_22 : decode cX7_hasGot 22 = .ok (.iadd, 1) := by decide +kernel
theorem dX7_hasGot_23 : decode cX7_hasGot 23 = .ok (.iaload, 1) := by decide +kernel
theorem dX7_hasGot_24 : decode cX7_hasGot 24 = .ok (.iadd, 1) := by decide +kernel
theorem dX7_hasGot_25 : decode cX7_hasGot 25 = .ok (.istore_n 2, 1) := by decide +kernel
theorem dX7_hasGot_26 : decode cX7_hasGot 26 = .ok (.iinc 3 1, 3) := by decide +kernel
theorem dX7_hasGot_29 : decode cX7_hasGot 29 = .ok (.goto (-25), 3) := by decide +kernel
theorem dX7_hasGot_32 : decode cX7_hasGot 32 = .ok (.iload_n 2, 1) := by decide +kernel
theorem dX7_hasGot_33 : decode cX7_hasGot 33 = .ok (.ireturn, 1) := by decide +kernel
theorem dX7_spareOf_0 : decode cX7_spareOf 0 = .ok (.aload_n 0, 1) := by decide +kernel
theorem dX7_spareOf_1 : decode cX7_spareOf 1 = .ok (.aload_n 0, 1) := by decide +kernel
theorem dX7_spareOf_2 : decode cX7_spareOf 2 = .ok (.getfield 76, 3) := by decide +kernel
theorem dX7_spareOf_5 : decode cX7_spareOf 5 = .ok (.iload_n 1, 1) := by decide +kernel
theorem dX7_spareOf_6 : decode cX7_spareOf 6 = .ok (.iaload, 1) := by decide +kernel
theorem dX7_spareOf_7 : decode cX7_spareOf 7 = .ok (.iconst 2, 1) := by decide +kernel
theorem dX7_spareOf_8 : decode cX7_spareOf 8 = .ok (.invokevirtual 176, 3) := by decide +kernel
theorem dX7_spareOf_11 : decode cX7_spareOf 11 = .ok (.aload_n 0, 1) := by decide +kernel
theorem dX7_spareOf_12 : decode cX7_spareOf 12 = .ok (.iload_n 1, 1) := by decide +kernel
theorem dX7_spareOf_13 : decode cX7_spareOf 13 = .ok (.invokevirtual 240, 3) := by decide +kernel
theorem dX7_spareOf_16 : decode cX7_spareOf 16 = .ok (.isub, 1) := by decide +kernel
theorem dX7_spareOf_17 : decode cX7_spareOf 17 = .ok (.ireturn, 1) := by decide +kernel
theorem dX7_starts_0 : decode cX7_starts 0 = .ok (.aload_n 0, 1) := by decide +kernel
theorem dX7_starts_1 : decode cX7_starts 1 = .ok (.iconst 0, 1) := by decide +kernel
theorem dX7_starts_2 : decode cX7_starts 2 = .ok (.putfield 243, 3) := by decide +kernel
theorem dX7_starts_5 : decode cX7_starts 5 = .ok (.iconst 0, 1) := by decide +kernel
theorem dX7_starts_6 : decode cX7_starts 6 = .ok (.istore_n 1, 1) := by decide +kernel
theorem dX7_starts_7 : decode cX7_starts 7 = .ok (.iload_n 1, 1) := by decide +kernel
theorem dX7_starts_8 : decode cX7_starts 8 = .ok (.aload_n 0, 1) := by decide +kernel
theorem dX7_starts_9 : decode cX7_starts 9 = .ok (.getfield 224, 3) := by decide +kernel
theorem dX7_starts_12 : decode cX7_starts 12 = .ok (.if_icmp .ge 16, 3) := by decide +kernel
theorem dX7_starts_15 : decode cX7_starts 15 = .ok (.aload_n 0, 1) := by decide +kernel
theorem dX7_starts_16 : decode cX7_starts 16 = .ok (.getfield 85, 3) := by decide +kernel
theorem dX7_starts_19 : decode cX7_starts 19 = .ok (.iload_n 1, 1) := by decide +kernel
theorem dX7_starts_20 : decode cX7_starts 20 = .ok (.iconst (-1), 1) := by decide +kernel
theorem dX7_starts_21 : decode cX7_starts 21 = .ok (.iastore, 1) := by decide +kernel
theorem dX7_starts_22 : decode cX7_starts 22 = .ok (.iinc 1 1, 3) := by decide +kernel
theorem dX7_starts_25 : decode cX7_starts 25 = .ok (.goto (-18), 3) := by decide +kernel
theorem dX7_starts_28 : decode cX7_starts 28 = .ok (.iconst 0, 1) := by decide +kernel
theorem dX7_starts_29 : decode cX7_starts 29 = .ok (.istore_n 1, 1) := by decide +kernel
theorem dX7_starts_30 : decode cX7_starts 30 = .ok (.iload_n 1, 1) := by decide +kernel
theorem dX7_starts_31 : decode cX7_starts 31 = .ok (.aload_n 0, 1) := by decide +kernel
theorem dX7_starts_32 : decode cX7_starts 32 = .ok (.getfield 221, 3) := by decide +kernel
theorem dX7_starts_35 : decode cX7_starts 35 = .ok (.if_icmp .ge 16, 3) := by decide +kernel
theorem dX7_starts_38 : decode cX7_starts 38 = .ok (.aload_n 0, 1) := by decide +kernel
theorem dX7_starts_39 : decode cX7_starts 39 = .ok (.getfield 88, 3) := by decide +kernel
theorem dX7_starts_42 : decode cX7_starts 42 = .ok (.iload_n 1, 1) := by decide +kernel
theorem dX7_starts_43 : decode cX7_starts 43 = .ok (.iconst (-1), 1) := by decide +kernel
theorem dX7_starts_44 : decode cX7_starts 44 = .ok (.iastore, 1) := by decide +kernel
theorem dX7_starts_45 : decode cX7_starts 45 = .ok (.iinc 1 1, 3) := by decide +kernel
theorem dX7_starts_48 : decode cX7_starts 48 = .ok (.goto (-18), 3) := by decide +kernel
theorem dX7_starts_51 : decode cX7_starts 51 = .ok (.return_, 1) := by decide +kernel
theorem dX7_reachesLots_0 : decode cX7_reachesLots 0 = .ok (.iconst 0, 1) := by decide +kernel
theorem dX7_reachesLots_1 : decode cX7_reachesLots 1 = .ok (.istore_n 2, 1) := by decide +kernel
theorem dX7_reachesLots_2 : decode cX7_reachesLots 2 = .ok (.iload_n 2, 1) := by decide +kernel
theorem dX7_reachesLots_3 : decode cX7_reachesLots 3 = .ok (.aload_n 0, 1) := by decide +kernel
theorem dX7_reachesLots_4 : decode cX7_reachesLots 4 = .ok (.getfield 224, 3) := by decide +kernel
theorem dX7_reachesLots_7 : decode cX7_reachesLots 7 = .ok (.if_icmp .ge 63, 3) := by decide +kernel
theorem dX7_reachesLots_10 : decode cX7_reachesLots 10 = .ok (.aload_n 0, 1) := by decide +kernel
theorem dX7_reachesLots_11 : decode cX7_reachesLots 11 = .ok (.getfield 94, 3) := by decide +kernel
theorem dX7_reachesLots_14 : decode cX7_reachesLots 14 = .ok (.bipush 8, 2) := by decide +kernel
theorem dX7_reachesLots_16 : decode cX7_reachesLots 16 = .ok (.iload_n 2, 1) := by decide +kernel
theorem dX7_reachesLots_17 : decode cX7_reachesLots 17 = .ok (.imul, 1) := by decide +kernel
theorem dX7_reachesLots_18 : decode cX7_reachesLots 18 = .ok (.iload_n 1, 1) := by decide +kernel
theorem dX7_reachesLots_19 : decode cX7_reachesLots 19 = .ok (.iadd, 1) := by decide +kernel
theorem dX7_reachesLots_20 : decode cX7_reachesLots 20 = .ok (.baload, 1) := by decide +kernel
theorem dX7_reachesLots_21 : decode cX7_reachesLots 21 = .ok (.ifCond .eq 43, 3) := by decide +kernel
theorem dX7_reachesLots_24 : decode cX7_reachesLots 24 = .ok (.aload_n 0, 1) := by decide +kernel
theorem dX7_reachesLots_25 : decode cX7_reachesLots 25 = .ok (.getfield 85, 3) := by decide +kernel
theorem dX7_reachesLots_28 : decode cX7_reachesLots 28 = .ok (.iload_n 2, 1) := by decide +kernel
theorem dX7_reachesLots_29 : decode cX7_reachesLots 29 = .ok (.iaload, 1) := by decide +kernel
theorem dX7_reachesLots_30 : decode cX7_reachesLots 30 = .ok (.iconst (-1), 1) := by decide +kernel
theorem dX7_reachesLots_31 : decode cX7_reachesLots 31 = .ok (.if_icmp .eq 6, 3) := by decide +kernel
theorem dX7_reachesLots_34 : decode cX7_reachesLots 34 = .ok (.goto 30, 3) := by decide +kernel
theorem dX7_reachesLots_37 : decode cX7_reachesLots 37 = .ok (.aload_n 0, 1) := by decide +kernel
theorem dX7_reachesLots_38 : decode cX7_reachesLots 38 = .ok (.getfield 85, 3) := by decide +kernel
theorem dX7_reachesLots_41 : decode cX7_reachesLots 41 = .ok (.iload_n 2, 1) := by decide +kernel
theorem dX7_reachesLots_42 : decode cX7_reachesLots 42 = .ok (.iload_n 1, 1) := by decide +kernel
theorem dX7_reachesLots_43 : decode cX7_reachesLots 43 = .ok (.iastore, 1) := by decide +kernel
theorem dX7_reachesLots_44 : decode cX7_reachesLots 44 = .ok (.aload_n 0, 1) := by decide +kernel
theorem dX7_reachesLots_45 : decode cX7_reachesLots 45 = .ok (.getfield 91, 3) := by decide +kernel
theorem dX7_reachesLots_48 : decode cX7_reachesLots 48 = .ok (.aload_n 0, 1) := by decide +kernel
theorem dX7_reachesLots_49 : decode cX7_reachesLots 49 = .ok (.getfield 243, 3) := by decide +kernel
theorem dX7_reachesLots_52 : decode cX7_reachesLots 52 = .ok (.iload_n 2, 1) := by decide +kernel
theorem dX7_reachesLots_53 : decode cX7_reachesLots 53 = .ok (.iastore, 1) := by decide +kernel
theorem dX7_reachesLots_54 : decode cX7_reachesLots 54 = .ok (.aload_n 0, 1) := by decide +kernel
theorem dX7_reachesLots_55 : decode cX7_reachesLots 55 = .ok (.dup, 1) := by decide +kernel
theorem dX7_reachesLots_56 : decode cX7_reachesLots 56 = .ok (.getfield 243, 3) := by decide +kernel
theorem dX7_reachesLots_59 : decode cX7_reachesLots 59 = .ok (.iconst 1, 1) := by decide +kernel
theorem dX7_reachesLots_60 : decode cX7_reachesLots 60 = .ok (.iadd, 1) := by decide +kernel
theorem dX7_reachesLots_61 : decode cX7_reachesLots 61 = .ok (.putfield 243, 3) := by decide +kernel
theorem dX7_reachesLots_64 : decode cX7_reachesLots 64 = .ok (.iinc 2 1, 3) := by decide +kernel
theorem dX7_reachesLots_67 : decode cX7_reachesLots 67 = .ok (.goto (-65), 3) := by decide +kernel
theorem dX7_reachesLots_70 : decode cX7_reachesLots 70 = .ok (.return_, 1) := by decide +kernel
theorem dX7_getsOne_0 : decode cX7_getsOne 0 = .ok (.aload_n 0, 1) := by decide +kernel
theorem dX7_getsOne_1 : decode cX7_getsOne 1 = .ok (.invokevirtual 246, 3) := by decide +kernel
theorem dX7_getsOne_4 : decode cX7_getsOne 4 = .ok (.aload_n 0, 1) := by decide +kernel
theorem dX7_getsOne_5 : decode cX7_getsOne 5 = .ok (.getfield 88, 3) := by decide +kernel
theorem dX7_getsOne_8 : decode cX7_getsOne 8 = .ok (.iload_n 1, 1) := by decide +kernel
theorem dX7_getsOne_9 : decode cX7_getsOne 9 = .ok (.aload_n 0, 1) := by decide +kernel
theorem dX7_getsOne_10 : decode cX7_getsOne 10 = .ok (.getfield 224, 3) := by decide +kernel
theorem dX7_getsOne_13 : decode cX7_getsOne 13 = .ok (.iastore, 1) := by decide +kernel
theorem dX7_getsOne_14 : decode cX7_getsOne 14 = .ok (.aload_n 0, 1) := by decide +kernel
theorem dX7_getsOne_15 : decode cX7_getsOne 15 = .ok (.iload_n 1, 1) := by decide +kernel
theorem dX7_getsOne_16 : decode cX7_getsOne 16 = .ok (.invokevirtual 249, 3) := by decide +kernel
theorem dX7_getsOne_19 : decode cX7_getsOne 19 = .ok (.iconst 0, 1) := by decide +kernel
theorem dX7_getsOne_20 : decode cX7_getsOne 20 = .ok (.istore_n 2, 1) := by decide +kernel
theorem dX7_getsOne_21 : decode cX7_getsOne 21 = .ok (.iload_n 2, 1) := by decide +kernel
theorem dX7_getsOne_22 : decode cX7_getsOne 22 = .ok (.aload_n 0, 1) := by decide +kernel
theorem dX7_getsOne_23 : decode cX7_getsOne 23 = .ok (.getfield 243, 3) := by decide +kernel
theorem dX7_getsOne_26 : decode cX7_getsOne 26 = .ok (.if_icmp .ge 93, 3) := by decide +kernel
theorem dX7_getsOne_29 : decode cX7_getsOne 29 = .ok (.aload_n 0, 1) := by decide +kernel
theorem dX7_getsOne_30 : decode cX7_getsOne 30 = .ok (.getfield 91, 3) := by decide +kernel
theorem dX7_getsOne_33 : decode cX7_getsOne 33 = .ok (.iload_n 2, 1) := by decide +kernel
theorem dX7_getsOne_34 : decode cX7_getsOne 34 = .ok (.iaload, 1) := by decide +kernel
theorem dX7_getsOne_35 : decode cX7_getsOne 35 = .ok (.istore_n 3, 1) := by decide +kernel
theorem dX7_getsOne_36 : decode cX7_getsOne 36 = .ok (.aload_n 0, 1) := by decide +kernel
theorem dX7_getsOne_37 : decode cX7_getsOne 37 = .ok (.iload_n 3, 1) := by decide +kernel
theorem dX7_getsOne_38 : decode cX7_getsOne 38 = .ok (.invokevirtual 252, 3) := by decide +kernel
theorem dX7_getsOne_41 : decode cX7_getsOne 41 = .ok (.ifCond .le 11, 3) := by decide +kernel
theorem dX7_getsOne_44 : decode cX7_getsOne 44 = .ok (.aload_n 0, 1) := by decide +kernel
theorem dX7_getsOne_45 : decode cX7_getsOne 45 = .ok (.iload_n 1, 1) := by decide +kernel
theorem dX7_getsOne_46 : decode cX7_getsOne 46 = .ok (.iload_n 3, 1) := by decide +kernel
theorem dX7_getsOne_47 : decode cX7_getsOne 47 = .ok (.invokevirtual 255, 3) := by decide +kernel
theorem dX7_getsOne_50 : decode cX7_getsOne 50 = .ok (.iconst 1, 1) := by decide +kernel
theorem dX7_getsOne_51 : decode cX7_getsOne 51 = .ok (.ireturn, 1) := by decide +kernel
theorem dX7_getsOne_52 : decode cX7_getsOne 52 = .ok (.iconst 0, 1) := by decide +kernel
theorem dX7_getsOne_53 : decode cX7_getsOne 53 = .ok (.istore 4, 2) := by decide +kernel
theorem dX7_getsOne_55 : decode cX7_getsOne 55 = .ok (.iload 4, 2) := by decide +kernel
theorem dX7_getsOne_57 : decode cX7_getsOne 57 = .ok (.aload_n 0, 1) := by decide +kernel
theorem dX7_getsOne_58 : decode cX7_getsOne 58 = .ok (.getfield 221, 3) := by decide +kernel
theorem dX7_getsOne_61 : decode cX7_getsOne 61 = .ok (.if_icmp .ge 52, 3) := by decide +kernel
theorem dX7_getsOne_64 : decode cX7_getsOne 64 = .ok (.aload_n 0, 1) := by decide +kernel
theorem dX7_getsOne_65 : decode cX7_getsOne 65 = .ok (.getfield 82, 3) := by decide +kernel
theorem dX7_getsOne_68 : decode cX7_getsOne 68 = .ok (.bipush 8, 2) := by decide +kernel
theorem dX7_getsOne_70 : decode cX7_getsOne 70 = .ok (.iload_n 3, 1) := by decide +kernel
theorem dX7_getsOne_71 : decode cX7_getsOne 71 = .ok (.imul, 1) := by decide +kernel
theorem dX7_getsOne_72 : decode cX7_getsOne 72 = .ok (.iload 4, 2) := by decide +kernel
theorem dX7_getsOne_74 : decode cX7_getsOne 74 = .ok (.iadd, 1) := by decide +kernel
theorem dX7_getsOne_75 : decode cX7_getsOne 75 = .ok (.iaload, 1) := by decide +kernel
theorem dX7_getsOne_76 : decode cX7_getsOne 76 = .ok (.ifCond .eq 31, 3) := by decide +kernel
theorem dX7_getsOne_79 : decode cX7_getsOne 79 = .ok (.aload_n 0, 1) := by decide +kernel
theorem dX7_getsOne_80 : decode cX7_getsOne 80 = .ok (.getfield 88, 3) := by decide +kernel
theorem dX7_getsOne_83 : decode cX7_getsOne 83 = .ok (.iload 4, 2) := by decide +kernel
theorem dX7_getsOne_85 : decode cX7_getsOne 85 = .ok (.iaload, 1) := by decide +kernel
theorem dX7_getsOne_86 : decode cX7_getsOne 86 = .ok (.iconst (-1), 1) := by decide +kernel
theorem dX7_getsOne_87 : decode cX7_getsOne 87 = .ok (.if_icmp .eq 6, 3) := by decide +kernel
theorem dX7_getsOne_90 : decode cX7_getsOne 90 = .ok (.goto 17, 3) := by decide +kernel
theorem dX7_getsOne_93 : decode cX7_getsOne 93 = .ok (.aload_n 0, 1) := by decide +kernel
theorem dX7_getsOne_94 : decode cX7_getsOne 94 = .ok (.getfield 88, 3) := by decide +kernel
theorem dX7_getsOne_97 : decode cX7_getsOne 97 = .ok (.iload 4, 2) := by decide +kernel
theorem dX7_getsOne_99 : decode cX7_getsOne 99 = .ok (.iload_n 3, 1) := by decide +kernel
theorem dX7_getsOne_100 : decode cX7_getsOne 100 = .ok (.iastore, 1) := by decide +kernel
theorem dX7_getsOne_101 : decode cX7_getsOne 101 = .ok (.aload_n 0, 1) := by decide +kernel
theorem dX7_getsOne_102 : decode cX7_getsOne 102 = .ok (.iload 4, 2) := by decide +kernel
theorem dX7_getsOne_104 : decode cX7_getsOne 104 = .ok (.invokevirtual 249, 3) := by decide +kernel
theorem dX7_getsOne_107 : decode cX7_getsOne 107 = .ok (.iinc 4 1, 3) := by decide +kernel
theorem dX7_getsOne_110 : decode cX7_getsOne 110 = .ok (.goto (-55), 3) := by decide +kernel
theorem dX7_getsOne_113 : decode cX7_getsOne 113 = .ok (.iinc 2 1, 3) := by decide +kernel
theorem dX7_getsOne_116 : decode cX7_getsOne 116 = .ok (.goto (-95), 3) := by decide +kernel
theorem dX7_getsOne_119 : decode cX7_getsOne 119 = .ok (.iconst 0, 1) := by decide +kernel
theorem dX7_getsOne_120 : decode cX7_getsOne 120 = .ok (.ireturn, 1) := by decide +kernel
theorem dX7_passesOn_0 : decode cX7_passesOn 0 = .ok (.iload_n 2, 1) := by decide +kernel
theorem dX7_passesOn_1 : decode cX7_passesOn 1 = .ok (.istore_n 3, 1) := by decide +kernel
theorem dX7_passesOn_2 : decode cX7_passesOn 2 = .ok (.aload_n 0, 1) := by decide +kernel
theorem dX7_passesOn_3 : decode cX7_passesOn 3 = .ok (.getfield 85, 3) := by decide +kernel
theorem dX7_passesOn_6 : decode cX7_passesOn 6 = .ok (.iload_n 2, 1) := by decide +kernel
theorem dX7_passesOn_7 : decode cX7_passesOn 7 = .ok (.iaload, 1) := by decide +kernel
theorem dX7_passesOn_8 : decode cX7_passesOn 8 = .ok (.istore 4, 2) := by decide +kernel
theorem dX7_passesOn_10 : decode cX7_passesOn 10 = .ok (.iload 4, 2) := by decide +kernel
theorem dX7_passesOn_12 : decode cX7_passesOn 12 = .ok (.iload_n 1, 1) := by decide +kernel
theorem dX7_passesOn_13 : decode cX7_passesOn 13 = .ok (.if_icmp .eq 54, 3) := by decide +kernel
theorem dX7_passesOn_16 : decode cX7_passesOn 16 = .ok (.aload_n 0, 1) := by decide +kernel
theorem dX7_passesOn_17 : decode cX7_passesOn 17 = .ok (.getfield 82, 3) := by decide +kernel
theorem dX7_passesOn_20 : decode cX7_passesOn 20 = .ok (.bipush 8, 2) := by decide +kernel
theorem dX7_passesOn_22 : decode cX7_passesOn 22 = .ok (.iload_n 3, 1) := by decide +kernel
theorem dX7_passesOn_23 : decode cX7_passesOn 23 = .ok (.imul, 1) := by decide +kernel
theorem dX7_passesOn_24 : decode cX7_passesOn 24 = .ok (.iload 4, 2) := by decide +kernel
theorem dX7_passesOn_26 : decode cX7_passesOn 26 = .ok (.iadd, 1) := by decide +kernel
theorem dX7_passesOn_27 : decode cX7_passesOn 27 = .ok (.dup2, 1) := by decide +kernel
theorem dX7_passesOn_28 : decode cX7_passesOn 28 = .ok (.iaload, 1) := by decide +kernel
theorem dX7_passesOn_29 : decode cX7_passesOn 29 = .ok (.iconst 1, 1) := by decide +kernel
theorem dX7_passesOn_30 : decode cX7_passesOn 30 = .ok (.iadd, 1) := by decide +kernel
theorem dX7_passesOn_31 : decode cX7_passesOn 31 = .ok (.iastore, 1) := by decide +kernel
theorem dX7_passesOn_32 : decode cX7_passesOn 32 = .ok (.aload_n 0, 1) := by decide +kernel
theorem dX7_passesOn_33 : decode cX7_passesOn 33 = .ok (.getfield 88, 3) := by decide +kernel
theorem dX7_passesOn_36 : decode cX7_passesOn 36 = .ok (.iload 4, 2) := by decide +kernel
theorem dX7_passesOn_38 : decode cX7_passesOn 38 = .ok (.iaload, 1) := by decide +kernel
theorem dX7_passesOn_39 : decode cX7_passesOn 39 = .ok (.istore_n 3, 1) := by decide +kernel
theorem dX7_passesOn_40 : decode cX7_passesOn 40 = .ok (.aload_n 0, 1) := by decide +kernel
theorem dX7_passesOn_41 : decode cX7_passesOn 41 = .ok (.getfield 82, 3) := by decide +kernel
theorem dX7_passesOn_44 : decode cX7_passesOn 44 = .ok (.bipush 8, 2) := by decide +kernel
theorem dX7_passesOn_46 : decode cX7_passesOn 46 = .ok (.iload_n 3, 1) := by decide +kernel
theorem dX7_passesOn_47 : decode cX7_passesOn 47 = .ok (.imul, 1) := by decide +kernel
theorem dX7_passesOn_48 : decode cX7_passesOn 48 = .ok (.iload 4, 2) := by decide +kernel
theorem dX7_passesOn_50 : decode cX7_passesOn 50 = .ok (.iadd, 1) := by decide +kernel
theorem dX7_passesOn_51 : decode cX7_passesOn 51 = .ok (.dup2, 1) := by decide +kernel
theorem dX7_passesOn_52 : decode cX7_passesOn 52 = .ok (.iaload, 1) := by decide +kernel
theorem dX7_passesOn_53 : decode cX7_passesOn 53 = .ok (.iconst 1, 1) := by decide +kernel
theorem dX7_passesOn_54 : decode cX7_passesOn 54 = .ok (.isub, 1) := by decide +kernel
theorem dX7_passesOn_55 : decode cX7_passesOn 55 = .ok (.iastore, 1) := by decide +kernel
theorem dX7_passesOn_56 : decode cX7_passesOn 56 = .ok (.aload_n 0, 1) := by decide +kernel
theorem dX7_passesOn_57 : decode cX7_passesOn 57 = .ok (.getfield 85, 3) := by decide +kernel
theorem dX7_passesOn_60 : decode cX7_passesOn 60 = .ok (.iload_n 3, 1) := by decide +kernel
theorem dX7_passesOn_61 : decode cX7_passesOn 61 = .ok (.iaload, 1) := by decide +kernel
theorem dX7_passesOn_62 : decode cX7_passesOn 62 = .ok (.istore 4, 2) := by decide +kernel
theorem dX7_passesOn_64 : decode cX7_passesOn 64 = .ok (.goto (-54), 3) := by decide +kernel
theorem dX7_passesOn_67 : decode cX7_passesOn 67 = .ok (.aload_n 0, 1) := by decide +kernel
theorem dX7_passesOn_68 : decode cX7_passesOn 68 = .ok (.getfield 82, 3) := by decide +kernel
theorem dX7_passesOn_71 : decode cX7_passesOn 71 = .ok (.bipush 8, 2) := by decide +kernel
theorem dX7_passesOn_73 : decode cX7_passesOn 73 = .ok (.iload_n 3, 1) := by decide +kernel
theorem dX7_passesOn_74 : decode cX7_passesOn 74 = .ok (.imul, 1) := by decide +kernel
theorem dX7_passesOn_75 : decode cX7_passesOn 75 = .ok (.iload_n 1, 1) := by decide +kernel
theorem dX7_passesOn_76 : decode cX7_passesOn 76 = .ok (.iadd, 1) := by decide +kernel
theorem dX7_passesOn_77 : decode cX7_passesOn 77 = .ok (.dup2, 1) := by decide +kernel
theorem dX7_passesOn_78 : decode cX7_passesOn 78 = .ok (.iaload, 1) := by decide +kernel
theorem dX7_passesOn_79 : decode cX7_passesOn 79 = .ok (.iconst 1, 1) := by decide +kernel
theorem dX7_passesOn_80 : decode cX7_passesOn 80 = .ok (.iadd, 1) := by decide +kernel
theorem dX7_passesOn_81 : decode cX7_passesOn 81 = .ok (.iastore, 1) := by decide +kernel
theorem dX7_passesOn_82 : decode cX7_passesOn 82 = .ok (.return_, 1) := by decide +kernel
theorem dX7_usesOne_0 : decode cX7_usesOne 0 = .ok (.aload_n 0, 1) := by decide +kernel
theorem dX7_usesOne_1 : decode cX7_usesOne 1 = .ok (.iload_n 1, 1) := by decide +kernel
theorem dX7_usesOne_2 : decode cX7_usesOne 2 = .ok (.invokevirtual 252, 3) := by decide +kernel
theorem dX7_usesOne_5 : decode cX7_usesOne 5 = .ok (.ifCond .ne 5, 3) := by decide +kernel
theorem dX7_usesOne_8 : decode cX7_usesOne 8 = .ok (.iconst 0, 1) := by decide +kernel
theorem dX7_usesOne_9 : decode cX7_usesOne 9 = .ok (.ireturn, 1) := by decide +kernel
theorem dX7_usesOne_10 : decode cX7_usesOne 10 = .ok (.aload_n 0, 1) := by decide +kernel
theorem dX7_usesOne_11 : decode cX7_usesOne 11 = .ok (.invokevirtual 246, 3) := by decide +kernel
theorem dX7_usesOne_14 : decode cX7_usesOne 14 = .ok (.aload_n 0, 1) := by decide +kernel
theorem dX7_usesOne_15 : decode cX7_usesOne 15 = .ok (.getfield 85, 3) := by decide +kernel
theorem dX7_usesOne_18 : decode cX7_usesOne 18 = .ok (.iload_n 1, 1) := by decide +kernel
theorem dX7_usesOne_19 : decode cX7_usesOne 19 = .ok (.aload_n 0, 1) := by decide +kernel
theorem dX7_usesOne_20 : decode cX7_usesOne 20 = .ok (.getfield 221, 3) := by decide +kernel
theorem dX7_usesOne_23 : decode cX7_usesOne 23 = .ok (.iastore, 1) := by decide +kernel
theorem dX7_usesOne_24 : decode cX7_usesOne 24 = .ok (.aload_n 0, 1) := by decide +kernel
theorem dX7_usesOne_25 : decode cX7_usesOne 25 = .ok (.getfield 91, 3) := by decide +kernel
theorem dX7_usesOne_28 : decode cX7_usesOne 28 = .ok (.iconst 0, 1) := by decide +kernel
theorem dX7_usesOne_29 : decode cX7_usesOne 29 = .ok (.iload_n 1, 1) := by decide +kernel
theorem dX7_usesOne_30 : decode cX7_usesOne 30 = .ok (.iastore, 1) := by decide +kernel
theorem dX7_usesOne_31 : decode cX7_usesOne 31 = .ok (.aload_n 0, 1) := by decide +kernel
theorem dX7_usesOne_32 : decode cX7_usesOne 32 = .ok (.iconst 1, 1) := by decide +kernel
theorem dX7_usesOne_33 : decode cX7_usesOne 33 = .ok (.putfield 243, 3) := by decide +kernel
theorem dX7_usesOne_36 : decode cX7_usesOne 36 = .ok (.iconst 0, 1) := by decide +kernel
theorem dX7_usesOne_37 : decode cX7_usesOne 37 = .ok (.istore_n 2, 1) := by decide +kernel
theorem dX7_usesOne_38 : decode cX7_usesOne 38 = .ok (.iload_n 2, 1) := by decide +kernel
theorem dX7_usesOne_39 : decode cX7_usesOne 39 = .ok (.aload_n 0, 1) := by decide +kernel
theorem dX7_usesOne_40 : decode cX7_usesOne 40 = .ok (.getfield 243, 3) := by decide +kernel
theorem dX7_usesOne_43 : decode cX7_usesOne 43 = .ok (.if_icmp .ge 164, 3) := by decide +kernel
theorem dX7_usesOne_46 : decode cX7_usesOne 46 = .ok (.aload_n 0, 1) := by decide +kernel
theorem dX7_usesOne_47 : decode cX7_usesOne 47 = .ok (.getfield 91, 3) := by decide +kernel
theorem dX7_usesOne_50 : decode cX7_usesOne 50 = .ok (.iload_n 2, 1) := by decide +kernel
theorem dX7_usesOne_51 : decode cX7_usesOne 51 = .ok (.iaload, 1) := by decide +kernel
theorem dX7_usesOne_52 : decode cX7_usesOne 52 = .ok (.istore_n 3, 1) := by decide +kernel
theorem dX7_usesOne_53 : decode cX7_usesOne 53 = .ok (.iconst 0, 1) := by decide +kernel
theorem dX7_usesOne_54 : decode cX7_usesOne 54 = .ok (.istore 4, 2) := by decide +kernel
theorem dX7_usesOne_56 : decode cX7_usesOne 56 = .ok (.iload 4, 2) := by decide +kernel
theorem dX7_usesOne_58 : decode cX7_usesOne 58 = .ok (.aload_n 0, 1) := by decide +kernel
theorem dX7_usesOne_59 : decode cX7_usesOne 59 = .ok (.getfield 221, 3) := by decide +kernel
theorem dX7_usesOne_62 : decode cX7_usesOne 62 = .ok (.if_icmp .ge 139, 3) := by decide +kernel
theorem dX7_usesOne_65 : decode cX7_usesOne 65 = .ok (.aload_n 0, 1) := by decide +kernel
theorem dX7_usesOne_66 : decode cX7_usesOne 66 = .ok (.getfield 94, 3) := by decide +kernel
theorem dX7_usesOne_69 : decode cX7_usesOne 69 = .ok (.bipush 8, 2) := by decide +kernel
theorem dX7_usesOne_71 : decode cX7_usesOne 71 = .ok (.iload_n 3, 1) := by decide +kernel
theorem dX7_usesOne_72 : decode cX7_usesOne 72 = .ok (.imul, 1) := by decide +kernel
theorem dX7_usesOne_73 : decode cX7_usesOne 73 = .ok (.iload 4, 2) := by decide +kernel
theorem dX7_usesOne_75 : decode cX7_usesOne 75 = .ok (.iadd, 1) := by decide +kernel
theorem dX7_usesOne_76 : decode cX7_usesOne 76 = .ok (.baload, 1) := by decide +kernel
theorem dX7_usesOne_77 : decode cX7_usesOne 77 = .ok (.ifCond .eq 118, 3) := by decide +kernel
theorem dX7_usesOne_80 : decode cX7_usesOne 80 = .ok (.aload_n 0, 1) := by decide +kernel
theorem dX7_usesOne_81 : decode cX7_usesOne 81 = .ok (.getfield 88, 3) := by decide +kernel
theorem dX7_usesOne_84 : decode cX7_usesOne 84 = .ok (.iload 4, 2) := by decide +kernel
theorem dX7_usesOne_86 : decode cX7_usesOne 86 = .ok (.iaload, 1) := by decide +kernel
theorem dX7_usesOne_87 : decode cX7_usesOne 87 = .ok (.iconst (-1), 1) := by decide +kernel
theorem dX7_usesOne_88 : decode cX7_usesOne 88 = .ok (.if_icmp .eq 6, 3) := by decide +kernel
theorem dX7_usesOne_91 : decode cX7_usesOne 91 = .ok (.goto 104, 3) := by decide +kernel
theorem dX7_usesOne_94 : decode cX7_usesOne 94 = .ok (.aload_n 0, 1) := by decide +kernel
theorem dX7_usesOne_95 : decode cX7_usesOne 95 = .ok (.getfield 88, 3) := by decide +kernel
theorem dX7_usesOne_98 : decode cX7_usesOne 98 = .ok (.iload 4, 2) := by decide +kernel
theorem dX7_usesOne_100 : decode cX7_usesOne 100 = .ok (.iload_n 3, 1) := by decide +kernel
theorem dX7_usesOne_101 : decode cX7_usesOne 101 = .ok (.iastore, 1) := by decide +kernel
theorem dX7_usesOne_102 : decode cX7_usesOne 102 = .ok (.iconst 0, 1) := by decide +kernel
theorem dX7_usesOne_103 : decode cX7_usesOne 103 = .ok (.istore 5, 2) := by decide +kernel
theorem dX7_usesOne_105 : decode cX7_usesOne 105 = .ok (.iload 5, 2) := by decide +kernel
theorem dX7_usesOne_107 : decode cX7_usesOne 107 = .ok (.aload_n 0, 1) := by decide +kernel
theorem dX7_usesOne_108 : decode cX7_usesOne 108 = .ok (.getfield 224, 3) := by decide +kernel
theorem dX7_usesOne_111 : decode cX7_usesOne 111 = .ok (.if_icmp .ge 84, 3) := by decide +kernel
theorem dX7_usesOne_114 : decode cX7_usesOne 114 = .ok (.aload_n 0, 1) := by decide +kernel
theorem dX7_usesOne_115 : decode cX7_usesOne 115 = .ok (.getfield 82, 3) := by decide +kernel
theorem dX7_usesOne_118 : decode cX7_usesOne 118 = .ok (.bipush 8, 2) := by decide +kernel
theorem dX7_usesOne_120 : decode cX7_usesOne 120 = .ok (.iload 5, 2) := by decide +kernel
theorem dX7_usesOne_122 : decode cX7_usesOne 122 = .ok (.imul, 1) := by decide +kernel
theorem dX7_usesOne_123 : decode cX7_usesOne 123 = .ok (.iload 4, 2) := by decide +kernel
theorem dX7_usesOne_125 : decode cX7_usesOne 125 = .ok (.iadd, 1) := by decide +kernel
theorem dX7_usesOne_126 : decode cX7_usesOne 126 = .ok (.iaload, 1) := by decide +kernel
theorem dX7_usesOne_127 : decode cX7_usesOne 127 = .ok (.ifCond .eq 62, 3) := by decide +kernel
theorem dX7_usesOne_130 : decode cX7_usesOne 130 = .ok (.aload_n 0, 1) := by decide +kernel
theorem dX7_usesOne_131 : decode cX7_usesOne 131 = .ok (.getfield 85, 3) := by decide +kernel
theorem dX7_usesOne_134 : decode cX7_usesOne 134 = .ok (.iload 5, 2) := by decide +kernel
theorem dX7_usesOne_136 : decode cX7_usesOne 136 = .ok (.iaload, 1) := by decide +kernel
theorem dX7_usesOne_137 : decode cX7_usesOne 137 = .ok (.iconst (-1), 1) := by decide +kernel
theorem dX7_usesOne_138 : decode cX7_usesOne 138 = .ok (.if_icmp .eq 6, 3) := by decide +kernel
theorem dX7_usesOne_141 : decode cX7_usesOne 141 = .ok (.goto 48, 3) := by decide +kernel
theorem dX7_usesOne_144 : decode cX7_usesOne 144 = .ok (.aload_n 0, 1) := by decide +kernel
theorem dX7_usesOne_145 : decode cX7_usesOne 145 = .ok (.getfield 85, 3) := by decide +kernel
theorem dX7_usesOne_148 : decode cX7_usesOne 148 = .ok (.iload 5, 2) := by decide +kernel
theorem dX7_usesOne_150 : decode cX7_usesOne 150 = .ok (.iload 4, 2) := by decide +kernel
theorem dX7_usesOne_152 : decode cX7_usesOne 152 = .ok (.iastore, 1) := by decide +kernel
theorem dX7_usesOne_153 : decode cX7_usesOne 153 = .ok (.iload 5, 2) := by decide +kernel
theorem dX7_usesOne_155 : decode cX7_usesOne 155 = .ok (.iload_n 1, 1) := by decide +kernel
theorem dX7_usesOne_156 : decode cX7_usesOne 156 = .ok (.if_icmp .le 12, 3) := by decide +kernel
theorem dX7_usesOne_159 : decode cX7_usesOne 159 = .ok (.aload_n 0, 1) := by decide +kernel
theorem dX7_usesOne_160 : decode cX7_usesOne 160 = .ok (.iload_n 1, 1) := by decide +kernel
theorem dX7_usesOne_161 : decode cX7_usesOne 161 = .ok (.iload 5, 2) := by decide +kernel
theorem dX7_usesOne_163 : decode cX7_usesOne 163 = .ok (.invokevirtual 258, 3) := by decide +kernel
theorem dX7_usesOne_166 : decode cX7_usesOne 166 = .ok (.iconst 1, 1) := by decide +kernel
theorem dX7_usesOne_167 : decode cX7_usesOne 167 = .ok (.ireturn, 1) := by decide +kernel
theorem dX7_usesOne_168 : decode cX7_usesOne 168 = .ok (.aload_n 0, 1) := by decide +kernel
theorem dX7_usesOne_169 : decode cX7_usesOne 169 = .ok (.getfield 91, 3) := by decide +kernel
theorem dX7_usesOne_172 : decode cX7_usesOne 172 = .ok (.aload_n 0, 1) := by decide +kernel
theorem dX7_usesOne_173 : decode cX7_usesOne 173 = .ok (.getfield 243, 3) := by decide +kernel
theorem dX7_usesOne_176 : decode cX7_usesOne 176 = .ok (.iload 5, 2) := by decide +kernel
theorem dX7_usesOne_178 : decode cX7_usesOne 178 = .ok (.iastore, 1) := by decide +kernel
theorem dX7_usesOne_179 : decode cX7_usesOne 179 = .ok (.aload_n 0, 1) := by decide +kernel
theorem dX7_usesOne_180 : decode cX7_usesOne 180 = .ok (.dup, 1) := by decide +kernel
theorem dX7_usesOne_181 : decode cX7_usesOne 181 = .ok (.getfield 243, 3) := by decide +kernel
theorem dX7_usesOne_184 : decode cX7_usesOne 184 = .ok (.iconst 1, 1) := by decide +kernel
theorem dX7_usesOne_185 : decode cX7_usesOne 185 = .ok (.iadd, 1) := by decide +kernel
theorem dX7_usesOne_186 : decode cX7_usesOne 186 = .ok (.putfield 243, 3) := by decide +kernel
theorem dX7_usesOne_189 : decode cX7_usesOne 189 = .ok (.iinc 5 1, 3) := by decide +kernel
theorem dX7_usesOne_192 : decode cX7_usesOne 192 = .ok (.goto (-87), 3) := by decide +kernel
theorem dX7_usesOne_195 : decode cX7_usesOne 195 = .ok (.iinc 4 1, 3) := by decide +kernel
theorem dX7_usesOne_198 : decode cX7_usesOne 198 = .ok (.goto (-142), 3) := by decide +kernel
theorem dX7_usesOne_201 : decode cX7_usesOne 201 = .ok (.iinc 2 1, 3) := by decide +kernel
theorem dX7_usesOne_204 : decode cX7_usesOne 204 = .ok (.goto (-166), 3) := by decide +kernel
theorem dX7_usesOne_207 : decode cX7_usesOne 207 = .ok (.iconst 0, 1) := by decide +kernel
theorem dX7_usesOne_208 : decode cX7_usesOne 208 = .ok (.ireturn, 1) := by decide +kernel
theorem dX7_givesUp_0 : decode cX7_givesUp 0 = .ok (.iload_n 2, 1) := by decide +kernel
theorem dX7_givesUp_1 : decode cX7_givesUp 1 = .ok (.istore_n 3, 1) := by decide +kernel
theorem dX7_givesUp_2 : decode cX7_givesUp 2 = .ok (.iload_n 3, 1) := by decide +kernel
theorem dX7_givesUp_3 : decode cX7_givesUp 3 = .ok (.iload_n 1, 1) := by decide +kernel
theorem dX7_givesUp_4 : decode cX7_givesUp 4 = .ok (.if_icmp .eq 54, 3) := by decide +kernel
theorem dX7_givesUp_7 : decode cX7_givesUp 7 = .ok (.aload_n 0, 1) := by decide +kernel
theorem dX7_givesUp_8 : decode cX7_givesUp 8 = .ok (.getfield 85, 3) := by decide +kernel
theorem dX7_givesUp_11 : decode cX7_givesUp 11 = .ok (.iload_n 3, 1) := by decide +kernel
theorem dX7_givesUp_12 : decode cX7_givesUp 12 = .ok (.iaload, 1) := by decide +kernel
theorem dX7_givesUp_13 : decode cX7_givesUp 13 = .ok (.istore 4, 2) := by decide +kernel
theorem dX7_givesUp_15 : decode cX7_givesUp 15 = .ok (.aload_n 0, 1) := by decide +kernel
theorem dX7_givesUp_16 : decode cX7_givesUp 16 = .ok (.getfield 82, 3) := by decide +kernel
theorem dX7_givesUp_19 : decode cX7_givesUp 19 = .ok (.bipush 8, 2) := by decide +kernel
theorem dX7_givesUp_21 : decode cX7_givesUp 21 = .ok (.iload_n 3, 1) := by decide +kernel
theorem dX7_givesUp_22 : decode cX7_givesUp 22 = .ok (.imul, 1) := by decide +kernel
theorem dX7_givesUp_23 : decode cX7_givesUp 23 = .ok (.iload 4, 2) := by decide +kernel
theorem dX7_givesUp_25 : decode cX7_givesUp 25 = .ok (.iadd, 1) := by decide +kernel
theorem dX7_givesUp_26 : decode cX7_givesUp 26 = .ok (.dup2, 1) := by decide +kernel
theorem dX7_givesUp_27 : decode cX7_givesUp 27 = .ok (.iaload, 1) := by decide +kernel
theorem dX7_givesUp_28 : decode cX7_givesUp 28 = .ok (.iconst 1, 1) := by decide +kernel
theorem dX7_givesUp_29 : decode cX7_givesUp 29 = .ok (.isub, 1) := by decide +kernel
theorem dX7_givesUp_30 : decode cX7_givesUp 30 = .ok (.iastore, 1) := by decide +kernel
theorem dX7_givesUp_31 : decode cX7_givesUp 31 = .ok (.aload_n 0, 1) := by decide +kernel
theorem dX7_givesUp_32 : decode cX7_givesUp 32 = .ok (.getfield 88, 3) := by decide +kernel
theorem dX7_givesUp_35 : decode cX7_givesUp 35 = .ok (.iload 4, 2) := by decide +kernel
theorem dX7_givesUp_37 : decode cX7_givesUp 37 = .ok (.iaload, 1) := by decide +kernel
theorem dX7_givesUp_38 : decode cX7_givesUp 38 = .ok (.istore_n 3, 1) := by decide +kernel
theorem dX7_givesUp_39 : decode cX7_givesUp 39 = .ok (.aload_n 0, 1) := by decide +kernel
theorem dX7_givesUp_40 : decode cX7_givesUp 40 = .ok (.getfield 82, 3) := by decide +kernel
theorem dX7_givesUp_43 : decode cX7_givesUp 43 = .ok (.bipush 8, 2) := by decide +kernel
theorem dX7_givesUp_45 : decode cX7_givesUp 45 = .ok (.iload_n 3, 1) := by decide +kernel
theorem dX7_givesUp_46 : decode cX7_givesUp 46 = .ok (.imul, 1) := by decide +kernel
theorem dX7_givesUp_47 : decode cX7_givesUp 47 = .ok (.iload 4, 2) := by decide +kernel
theorem dX7_givesUp_49 : decode cX7_givesUp 49 = .ok (.iadd, 1) := by decide +kernel
theorem dX7_givesUp_50 : decode cX7_givesUp 50 = .ok (.dup2, 1) := by decide +kernel
theorem dX7_givesUp_51 : decode cX7_givesUp 51 = .ok (.iaload, 1) := by decide +kernel
theorem dX7_givesUp_52 : decode cX7_givesUp 52 = .ok (.iconst 1, 1) := by decide +kernel
theorem dX7_givesUp_53 : decode cX7_givesUp 53 = .ok (.iadd, 1) := by decide +kernel
theorem dX7_givesUp_54 : decode cX7_givesUp 54 = .ok (.iastore, 1) := by decide +kernel
theorem dX7_givesUp_55 : decode cX7_givesUp 55 = .ok (.goto (-53), 3) := by decide +kernel
theorem dX7_givesUp_58 : decode cX7_givesUp 58 = .ok (.return_, 1) := by decide +kernel
theorem dX7_turnsOne_0 : decode cX7_turnsOne 0 = .ok (.aload_n 0, 1) := by decide +kernel
theorem dX7_turnsOne_1 : decode cX7_turnsOne 1 = .ok (.getfield 94, 3) := by decide +kernel
theorem dX7_turnsOne_4 : decode cX7_turnsOne 4 = .ok (.bipush 8, 2) := by decide +kernel
theorem dX7_turnsOne_6 : decode cX7_turnsOne 6 = .ok (.iload_n 1, 1) := by decide +kernel
theorem dX7_turnsOne_7 : decode cX7_turnsOne 7 = .ok (.imul, 1) := by decide +kernel
theorem dX7_turnsOne_8 : decode cX7_turnsOne 8 = .ok (.iload_n 2, 1) := by decide +kernel
theorem dX7_turnsOne_9 : decode cX7_turnsOne 9 = .ok (.iadd, 1) := by decide +kernel
theorem dX7_turnsOne_10 : decode cX7_turnsOne 10 = .ok (.baload, 1) := by decide +kernel
theorem dX7_turnsOne_11 : decode cX7_turnsOne 11 = .ok (.ifCond .ne 5, 3) := by decide +kernel
theorem dX7_turnsOne_14 : decode cX7_turnsOne 14 = .ok (.iconst 0, 1) := by decide +kernel
theorem dX7_turnsOne_15 : decode cX7_turnsOne 15 = .ok (.ireturn, 1) := by decide +kernel
theorem dX7_turnsOne_16 : decode cX7_turnsOne 16 = .ok (.aload_n 0, 1) := by decide +kernel
theorem dX7_turnsOne_17 : decode cX7_turnsOne 17 = .ok (.invokevirtual 246, 3) := by decide +kernel
theorem dX7_turnsOne_20 : decode cX7_turnsOne 20 = .ok (.iload_n 1, 1) := by decide +kernel
theorem dX7_turnsOne_21 : decode cX7_turnsOne 21 = .ok (.iconst 1, 1) := by decide +kernel
theorem dX7_turnsOne_22 : decode cX7_turnsOne 22 = .ok (.iadd, 1) := by decide +kernel
theorem dX7_turnsOne_23 : decode cX7_turnsOne 23 = .ok (.istore_n 3, 1) := by decide +kernel
theorem dX7_turnsOne_24 : decode cX7_turnsOne 24 = .ok (.iload_n 3, 1) := by decide +kernel
theorem dX7_turnsOne_25 : decode cX7_turnsOne 25 = .ok (.aload_n 0, 1) := by decide +kernel
theorem dX7_turnsOne_26 : decode cX7_turnsOne 26 = .ok (.getfield 224, 3) := by decide +kernel
theorem dX7_turnsOne_29 : decode cX7_turnsOne 29 = .ok (.if_icmp .ge 56, 3) := by decide +kernel
theorem dX7_turnsOne_32 : decode cX7_turnsOne 32 = .ok (.aload_n 0, 1) := by decide +kernel
theorem dX7_turnsOne_33 : decode cX7_turnsOne 33 = .ok (.getfield 82, 3) := by decide +kernel
theorem dX7_turnsOne_36 : decode cX7_turnsOne 36 = .ok (.bipush 8, 2) := by decide +kernel
theorem dX7_turnsOne_38 : decode cX7_turnsOne 38 = .ok (.iload_n 3, 1) := by decide +kernel
theorem dX7_turnsOne_39 : decode cX7_turnsOne 39 = .ok (.imul, 1) := by decide +kernel
theorem dX7_turnsOne_40 : decode cX7_turnsOne 40 = .ok (.iload_n 2, 1) := by decide +kernel
theorem dX7_turnsOne_41 : decode cX7_turnsOne 41 = .ok (.iadd, 1) := by decide +kernel
theorem dX7_turnsOne_42 : decode cX7_turnsOne 42 = .ok (.iaload, 1) := by decide +kernel
theorem dX7_turnsOne_43 : decode cX7_turnsOne 43 = .ok (.ifCond .ne 6, 3) := by decide +kernel
theorem dX7_turnsOne_46 : decode cX7_turnsOne 46 = .ok (.goto 33, 3) := by decide +kernel
theorem dX7_turnsOne_49 : decode cX7_turnsOne 49 = .ok (.aload_n 0, 1) := by decide +kernel
theorem dX7_turnsOne_50 : decode cX7_turnsOne 50 = .ok (.getfield 85, 3) := by decide +kernel
theorem dX7_turnsOne_53 : decode cX7_turnsOne 53 = .ok (.iload_n 3, 1) := by decide +kernel
theorem dX7_turnsOne_54 : decode cX7_turnsOne 54 = .ok (.aload_n 0, 1) := by decide +kernel
theorem dX7_turnsOne_55 : decode cX7_turnsOne 55 = .ok (.getfield 221, 3) := by decide +kernel
theorem dX7_turnsOne_58 : decode cX7_turnsOne 58 = .ok (.iastore, 1) := by decide +kernel
theorem dX7_turnsOne_59 : decode cX7_turnsOne 59 = .ok (.aload_n 0, 1) := by decide +kernel
theorem dX7_turnsOne_60 : decode cX7_turnsOne 60 = .ok (.getfield 91, 3) := by decide +kernel
theorem dX7_turnsOne_63 : decode cX7_turnsOne 63 = .ok (.aload_n 0, 1) := by decide +kernel
theorem dX7_turnsOne_64 : decode cX7_turnsOne 64 = .ok (.getfield 243, 3) := by decide +kernel
theorem dX7_turnsOne_67 : decode cX7_turnsOne 67 = .ok (.iload_n 3, 1) := by decide +kernel
theorem dX7_turnsOne_68 : decode cX7_turnsOne 68 = .ok (.iastore, 1) := by decide +kernel
theorem dX7_turnsOne_69 : decode cX7_turnsOne 69 = .ok (.aload_n 0, 1) := by decide +kernel
theorem dX7_turnsOne_70 : decode cX7_turnsOne 70 = .ok (.dup, 1) := by decide +kernel
theorem dX7_turnsOne_71 : decode cX7_turnsOne 71 = .ok (.getfield 243, 3) := by decide +kernel
theorem dX7_turnsOne_74 : decode cX7_turnsOne 74 = .ok (.iconst 1, 1) := by decide +kernel
theorem dX7_turnsOne_75 : decode cX7_turnsOne 75 = .ok (.iadd, 1) := by decide +kernel
theorem dX7_turnsOne_76 : decode cX7_turnsOne 76 = .ok (.putfield 243, 3) := by decide +kernel
theorem dX7_turnsOne_79 : decode cX7_turnsOne 79 = .ok (.iinc 3 1, 3) := by decide +kernel
theorem dX7_turnsOne_82 : decode cX7_turnsOne 82 = .ok (.goto (-58), 3) := by decide +kernel
theorem dX7_turnsOne_85 : decode cX7_turnsOne 85 = .ok (.iconst 0, 1) := by decide +kernel
theorem dX7_turnsOne_86 : decode cX7_turnsOne 86 = .ok (.istore_n 3, 1) := by decide +kernel
theorem dX7_turnsOne_87 : decode cX7_turnsOne 87 = .ok (.iload_n 3, 1) := by decide +kernel
theorem dX7_turnsOne_88 : decode cX7_turnsOne 88 = .ok (.aload_n 0, 1) := by decide +kernel
theorem dX7_turnsOne_89 : decode cX7_turnsOne 89 = .ok (.getfield 243, 3) := by decide +kernel
theorem dX7_turnsOne_92 : decode cX7_turnsOne 92 = .ok (.if_icmp .ge 168, 3) := by decide +kernel
theorem dX7_turnsOne_95 : decode cX7_turnsOne 95 = .ok (.aload_n 0, 1) := by decide +kernel
theorem dX7_turnsOne_96 : decode cX7_turnsOne 96 = .ok (.getfield 91, 3) := by decide +kernel
theorem dX7_turnsOne_99 : decode cX7_turnsOne 99 = .ok (.iload_n 3, 1) := by decide +kernel
theorem dX7_turnsOne_100 : decode cX7_turnsOne 100 = .ok (.iaload, 1) := by decide +kernel
theorem dX7_turnsOne_101 : decode cX7_turnsOne 101 = .ok (.istore 4, 2) := by decide +kernel
theorem dX7_turnsOne_103 : decode cX7_turnsOne 103 = .ok (.iload_n 2, 1) := by decide +kernel
theorem dX7_turnsOne_104 : decode cX7_turnsOne 104 = .ok (.iconst 1, 1) := by decide +kernel
theorem dX7_turnsOne_105 : decode cX7_turnsOne 105 = .ok (.iadd, 1) := by decide +kernel
theorem dX7_turnsOne_106 : decode cX7_turnsOne 106 = .ok (.istore 5, 2) := by decide +kernel
theorem dX7_turnsOne_108 : decode cX7_turnsOne 108 = .ok (.iload 5, 2) := by decide +kernel
theorem dX7_turnsOne_110 : decode cX7_turnsOne 110 = .ok (.aload_n 0, 1) := by decide +kernel
theorem dX7_turnsOne_111 : decode cX7_turnsOne 111 = .ok (.getfield 221, 3) := by decide +kernel
theorem dX7_turnsOne_114 : decode cX7_turnsOne 114 = .ok (.if_icmp .ge 140, 3) := by decide +kernel
theorem dX7_turnsOne_117 : decode cX7_turnsOne 117 = .ok (.aload_n 0, 1) := by decide +kernel
theorem dX7_turnsOne_118 : decode cX7_turnsOne 118 = .ok (.getfield 94, 3) := by decide +kernel
theorem dX7_turnsOne_121 : decode cX7_turnsOne 121 = .ok (.bipush 8, 2) := by decide +kernel
theorem dX7_turnsOne_123 : decode cX7_turnsOne 123 = .ok (.iload 4, 2) := by decide +kernel
theorem dX7_turnsOne_125 : decode cX7_turnsOne 125 = .ok (.imul, 1) := by decide +kernel
theorem dX7_turnsOne_126 : decode cX7_turnsOne 126 = .ok (.iload 5, 2) := by decide +kernel
theorem dX7_turnsOne_128 : decode cX7_turnsOne 128 = .ok (.iadd, 1) := by decide +kernel
theorem dX7_turnsOne_129 : decode cX7_turnsOne 129 = .ok (.baload, 1) := by decide +kernel
theorem dX7_turnsOne_130 : decode cX7_turnsOne 130 = .ok (.ifCond .eq 118, 3) := by decide +kernel
theorem dX7_turnsOne_133 : decode cX7_turnsOne 133 = .ok (.aload_n 0, 1) := by decide +kernel
theorem dX7_turnsOne_134 : decode cX7_turnsOne 134 = .ok (.getfield 88, 3) := by decide +kernel
theorem dX7_turnsOne_137 : decode cX7_turnsOne 137 = .ok (.iload 5, 2) := by decide +kernel
theorem dX7_turnsOne_139 : decode cX7_turnsOne 139 = .ok (.iaload, 1) := by decide +kernel
theorem dX7_turnsOne_140 : decode cX7_turnsOne 140 = .ok (.iconst (-1), 1) := by decide +kernel
theorem dX7_turnsOne_141 : decode cX7_turnsOne 141 = .ok (.if_icmp .eq 6, 3) := by decide +kernel
theorem dX7_turnsOne_144 : decode cX7_turnsOne 144 = .ok (.goto 104, 3) := by decide +kernel
theorem dX7_turnsOne_147 : decode cX7_turnsOne 147 = .ok (.aload_n 0, 1) := by decide +kernel
theorem dX7_turnsOne_148 : decode cX7_turnsOne 148 = .ok (.getfield 88, 3) := by decide +kernel
theorem dX7_turnsOne_151 : decode cX7_turnsOne 151 = .ok (.iload 5, 2) := by decide +kernel
theorem dX7_turnsOne_153 : decode cX7_turnsOne 153 = .ok (.iload 4, 2) := by decide +kernel
theorem dX7_turnsOne_155 : decode cX7_turnsOne 155 = .ok (.iastore, 1) := by decide +kernel
theorem dX7_turnsOne_156 : decode cX7_turnsOne 156 = .ok (.iconst 0, 1) := by decide +kernel
theorem dX7_turnsOne_157 : decode cX7_turnsOne 157 = .ok (.istore 6, 2) := by decide +kernel
theorem dX7_turnsOne_159 : decode cX7_turnsOne 159 = .ok (.iload 6, 2) := by decide +kernel
theorem dX7_turnsOne_161 : decode cX7_turnsOne 161 = .ok (.aload_n 0, 1) := by decide +kernel
theorem dX7_turnsOne_162 : decode cX7_turnsOne 162 = .ok (.getfield 224, 3) := by decide +kernel
theorem dX7_turnsOne_165 : decode cX7_turnsOne 165 = .ok (.if_icmp .ge 83, 3) := by decide +kernel
theorem dX7_turnsOne_168 : decode cX7_turnsOne 168 = .ok (.aload_n 0, 1) := by decide +kernel
theorem dX7_turnsOne_169 : decode cX7_turnsOne 169 = .ok (.getfield 82, 3) := by decide +kernel
theorem dX7_turnsOne_172 : decode cX7_turnsOne 172 = .ok (.bipush 8, 2) := by decide +kernel
theorem dX7_turnsOne_174 : decode cX7_turnsOne 174 = .ok (.iload 6, 2) := by decide +kernel
theorem dX7_turnsOne_176 : decode cX7_turnsOne 176 = .ok (.imul, 1) := by decide +kernel
theorem dX7_turnsOne_177 : decode cX7_turnsOne 177 = .ok (.iload 5, 2) := by decide +kernel
theorem dX7_turnsOne_179 : decode cX7_turnsOne 179 = .ok (.iadd, 1) := by decide +kernel
theorem dX7_turnsOne_180 : decode cX7_turnsOne 180 = .ok (.iaload, 1) := by decide +kernel
theorem dX7_turnsOne_181 : decode cX7_turnsOne 181 = .ok (.ifCond .eq 61, 3) := by decide +kernel
theorem dX7_turnsOne_184 : decode cX7_turnsOne 184 = .ok (.aload_n 0, 1) := by decide +kernel
theorem dX7_turnsOne_185 : decode cX7_turnsOne 185 = .ok (.getfield 85, 3) := by decide +kernel
theorem dX7_turnsOne_188 : decode cX7_turnsOne 188 = .ok (.iload 6, 2) := by decide +kernel
theorem dX7_turnsOne_190 : decode cX7_turnsOne 190 = .ok (.iaload, 1) := by decide +kernel
theorem dX7_turnsOne_191 : decode cX7_turnsOne 191 = .ok (.iconst (-1), 1) := by decide +kernel
theorem dX7_turnsOne_192 : decode cX7_turnsOne 192 = .ok (.if_icmp .eq 6, 3) := by decide +kernel
theorem dX7_turnsOne_195 : decode cX7_turnsOne 195 = .ok (.goto 47, 3) := by decide +kernel
theorem dX7_turnsOne_198 : decode cX7_turnsOne 198 = .ok (.aload_n 0, 1) := by decide +kernel
theorem dX7_turnsOne_199 : decode cX7_turnsOne 199 = .ok (.getfield 85, 3) := by decide +kernel
theorem dX7_turnsOne_202 : decode cX7_turnsOne 202 = .ok (.iload 6, 2) := by decide +kernel
theorem dX7_turnsOne_204 : decode cX7_turnsOne 204 = .ok (.iload 5, 2) := by decide +kernel
theorem dX7_turnsOne_206 : decode cX7_turnsOne 206 = .ok (.iastore, 1) := by decide +kernel
theorem dX7_turnsOne_207 : decode cX7_turnsOne 207 = .ok (.iload 6, 2) := by decide +kernel
theorem dX7_turnsOne_209 : decode cX7_turnsOne 209 = .ok (.iload_n 1, 1) := by decide +kernel
theorem dX7_turnsOne_210 : decode cX7_turnsOne 210 = .ok (.if_icmp .ne 11, 3) := by decide +kernel
theorem dX7_turnsOne_213 : decode cX7_turnsOne 213 = .ok (.aload_n 0, 1) := by decide +kernel
theorem dX7_turnsOne_214 : decode cX7_turnsOne 214 = .ok (.iload_n 1, 1) := by decide +kernel
theorem dX7_turnsOne_215 : decode cX7_turnsOne 215 = .ok (.iload_n 2, 1) := by decide +kernel
theorem dX7_turnsOne_216 : decode cX7_turnsOne 216 = .ok (.invokevirtual 261, 3) := by decide +kernel
theorem dX7_turnsOne_219 : decode cX7_turnsOne 219 = .ok (.iconst 1, 1) := by decide +kernel
theorem dX7_turnsOne_220 : decode cX7_turnsOne 220 = .ok (.ireturn, 1) := by decide +kernel
theorem dX7_turnsOne_221 : decode cX7_turnsOne 221 = .ok (.aload_n 0, 1) := by decide +kernel
theorem dX7_turnsOne_222 : decode cX7_turnsOne 222 = .ok (.getfield 91, 3) := by decide +kernel
theorem dX7_turnsOne_225 : decode cX7_turnsOne 225 = .ok (.aload_n 0, 1) := by decide +kernel
theorem dX7_turnsOne_226 : decode cX7_turnsOne 226 = .ok (.getfield 243, 3) := by decide +kernel
theorem dX7_turnsOne_229 : decode cX7_turnsOne 229 = .ok (.iload 6, 2) := by decide +kernel
theorem dX7_turnsOne_231 : decode cX7_turnsOne 231 = .ok (.iastore, 1) := by decide +kernel
theorem dX7_turnsOne_232 : decode cX7_turnsOne 232 = .ok (.aload_n 0, 1) := by decide +kernel
theorem dX7_turnsOne_233 : decode cX7_turnsOne 233 = .ok (.dup, 1) := by decide +kernel
theorem dX7_turnsOne_234 : decode cX7_turnsOne 234 = .ok (.getfield 243, 3) := by decide +kernel
theorem dX7_turnsOne_237 : decode cX7_turnsOne 237 = .ok (.iconst 1, 1) := by decide +kernel
theorem dX7_turnsOne_238 : decode cX7_turnsOne 238 = .ok (.iadd, 1) := by decide +kernel
theorem dX7_turnsOne_239 : decode cX7_turnsOne 239 = .ok (.putfield 243, 3) := by decide +kernel
theorem dX7_turnsOne_242 : decode cX7_turnsOne 242 = .ok (.iinc 6 1, 3) := by decide +kernel
theorem dX7_turnsOne_245 : decode cX7_turnsOne 245 = .ok (.goto (-86), 3) := by decide +kernel
theorem dX7_turnsOne_248 : decode cX7_turnsOne 248 = .ok (.iinc 5 1, 3) := by decide +kernel
theorem dX7_turnsOne_251 : decode cX7_turnsOne 251 = .ok (.goto (-143), 3) := by decide +kernel
theorem dX7_turnsOne_254 : decode cX7_turnsOne 254 = .ok (.iinc 3 1, 3) := by decide +kernel
theorem dX7_turnsOne_257 : decode cX7_turnsOne 257 = .ok (.goto (-170), 3) := by decide +kernel
theorem dX7_turnsOne_260 : decode cX7_turnsOne 260 = .ok (.iconst 0, 1) := by decide +kernel
theorem dX7_turnsOne_261 : decode cX7_turnsOne 261 = .ok (.ireturn, 1) := by decide +kernel
theorem dX7_closes_0 : decode cX7_closes 0 = .ok (.iload_n 1, 1) := by decide +kernel
theorem dX7_closes_1 : decode cX7_closes 1 = .ok (.istore_n 3, 1) := by decide +kernel
theorem dX7_closes_2 : decode cX7_closes 2 = .ok (.aload_n 0, 1) := by decide +kernel
theorem dX7_closes_3 : decode cX7_closes 3 = .ok (.getfield 85, 3) := by decide +kernel
theorem dX7_closes_6 : decode cX7_closes 6 = .ok (.iload_n 3, 1) := by decide +kernel
theorem dX7_closes_7 : decode cX7_closes 7 = .ok (.iaload, 1) := by decide +kernel
theorem dX7_closes_8 : decode cX7_closes 8 = .ok (.aload_n 0, 1) := by decide +kernel
theorem dX7_closes_9 : decode cX7_closes 9 = .ok (.getfield 221, 3) := by decide +kernel
theorem dX7_closes_12 : decode cX7_closes 12 = .ok (.if_icmp .eq 54, 3) := by decide +kernel
theorem dX7_closes_15 : decode cX7_closes 15 = .ok (.aload_n 0, 1) := by decide +kernel
theorem dX7_closes_16 : decode cX7_closes 16 = .ok (.getfield 85, 3) := by decide +kernel
theorem dX7_closes_19 : decode cX7_closes 19 = .ok (.iload_n 3, 1) := by decide +kernel
theorem dX7_closes_20 : decode cX7_closes 20 = .ok (.iaload, 1) := by decide +kernel
theorem dX7_closes_21 : decode cX7_closes 21 = .ok (.istore 4, 2) := by decide +kernel
theorem dX7_closes_23 : decode cX7_closes 23 = .ok (.aload_n 0, 1) := by decide +kernel
theorem dX7_closes_24 : decode cX7_closes 24 = .ok (.getfield 82, 3) := by decide +kernel
theorem dX7_closes_27 : decode cX7_closes 27 = .ok (.bipush 8, 2) := by decide +kernel
theorem dX7_closes_29 : decode cX7_closes 29 = .ok (.iload_n 3, 1) := by decide +kernel
theorem dX7_closes_30 : decode cX7_closes 30 = .ok (.imul, 1) := by decide +kernel
theorem dX7_closes_31 : decode cX7_closes 31 = .ok (.iload 4, 2) := by decide +kernel
theorem dX7_closes_33 : decode cX7_closes 33 = .ok (.iadd, 1) := by decide +kernel
theorem dX7_closes_34 : decode cX7_closes 34 = .ok (.dup2, 1) := by decide +kernel
theorem dX7_closes_35 : decode cX7_closes 35 = .ok (.iaload, 1) := by decide +kernel
theorem dX7_closes_36 : decode cX7_closes 36 = .ok (.iconst 1, 1) := by decide +kernel
theorem dX7_closes_37 : decode cX7_closes 37 = .ok (.isub, 1) := by decide +kernel
theorem dX7_closes_38 : decode cX7_closes 38 = .ok (.iastore, 1) := by decide +kernel
theorem dX7_closes_39 : decode cX7_closes 39 = .ok (.aload_n 0, 1) := by decide +kernel
theorem dX7_closes_40 : decode cX7_closes 40 = .ok (.getfield 88, 3) := by decide +kernel
theorem dX7_closes_43 : decode cX7_closes 43 = .ok (.iload 4, 2) := by decide +kernel
theorem dX7_closes_45 : decode cX7_closes 45 = .ok (.iaload, 1) := by decide +kernel
theorem dX7_closes_46 : decode cX7_closes 46 = .ok (.istore_n 3, 1) := by decide +kernel
theorem dX7_closes_47 : decode cX7_closes 47 = .ok (.aload_n 0, 1) := by decide +kernel
theorem dX7_closes_48 : decode cX7_closes 48 = .ok (.getfield 82, 3) := by decide +kernel
theorem dX7_closes_51 : decode cX7_closes 51 = .ok (.bipush 8, 2) := by decide +kernel
theorem dX7_closes_53 : decode cX7_closes 53 = .ok (.iload_n 3, 1) := by decide +kernel
theorem dX7_closes_54 : decode cX7_closes 54 = .ok (.imul, 1) := by decide +kernel
theorem dX7_closes_55 : decode cX7_closes 55 = .ok (.iload 4, 2) := by decide +kernel
theorem dX7_closes_57 : decode cX7_closes 57 = .ok (.iadd, 1) := by decide +kernel
theorem dX7_closes_58 : decode cX7_closes 58 = .ok (.dup2, 1) := by decide +kernel
theorem dX7_closes_59 : decode cX7_closes 59 = .ok (.iaload, 1) := by decide +kernel
theorem dX7_closes_60 : decode cX7_closes 60 = .ok (.iconst 1, 1) := by decide +kernel
theorem dX7_closes_61 : decode cX7_closes 61 = .ok (.iadd, 1) := by decide +kernel
theorem dX7_closes_62 : decode cX7_closes 62 = .ok (.iastore, 1) := by decide +kernel
theorem dX7_closes_63 : decode cX7_closes 63 = .ok (.goto (-61), 3) := by decide +kernel
theorem dX7_closes_66 : decode cX7_closes 66 = .ok (.aload_n 0, 1) := by decide +kernel
theorem dX7_closes_67 : decode cX7_closes 67 = .ok (.getfield 82, 3) := by decide +kernel
theorem dX7_closes_70 : decode cX7_closes 70 = .ok (.bipush 8, 2) := by decide +kernel
theorem dX7_closes_72 : decode cX7_closes 72 = .ok (.iload_n 3, 1) := by decide +kernel
theorem dX7_closes_73 : decode cX7_closes 73 = .ok (.imul, 1) := by decide +kernel
theorem dX7_closes_74 : decode cX7_closes 74 = .ok (.iload_n 2, 1) := by decide +kernel
theorem dX7_closes_75 : decode cX7_closes 75 = .ok (.iadd, 1) := by decide +kernel
theorem dX7_closes_76 : decode cX7_closes 76 = .ok (.dup2, 1) := by decide +kernel
theorem dX7_closes_77 : decode cX7_closes 77 = .ok (.iaload, 1) := by decide +kernel
theorem dX7_closes_78 : decode cX7_closes 78 = .ok (.iconst 1, 1) := by decide +kernel
theorem dX7_closes_79 : decode cX7_closes 79 = .ok (.isub, 1) := by decide +kernel
theorem dX7_closes_80 : decode cX7_closes 80 = .ok (.iastore, 1) := by decide +kernel
theorem dX7_closes_81 : decode cX7_closes 81 = .ok (.aload_n 0, 1) := by decide +kernel
theorem dX7_closes_82 : decode cX7_closes 82 = .ok (.getfield 82, 3) := by decide +kernel
theorem dX7_closes_85 : decode cX7_closes 85 = .ok (.bipush 8, 2) := by decide +kernel
theorem dX7_closes_87 : decode cX7_closes 87 = .ok (.iload_n 1, 1) := by decide +kernel
theorem dX7_closes_88 : decode cX7_closes 88 = .ok (.imul, 1) := by decide +kernel
theorem dX7_closes_89 : decode cX7_closes 89 = .ok (.iload_n 2, 1) := by decide +kernel
theorem dX7_closes_90 : decode cX7_closes 90 = .ok (.iadd, 1) := by decide +kernel
theorem dX7_closes_91 : decode cX7_closes 91 = .ok (.dup2, 1) := by decide +kernel
theorem dX7_closes_92 : decode cX7_closes 92 = .ok (.iaload, 1) := by decide +kernel
theorem dX7_closes_93 : decode cX7_closes 93 = .ok (.iconst 1, 1) := by decide +kernel
theorem dX7_closes_94 : decode cX7_closes 94 = .ok (.iadd, 1) := by decide +kernel
theorem dX7_closes_95 : decode cX7_closes 95 = .ok (.iastore, 1) := by decide +kernel
theorem dX7_closes_96 : decode cX7_closes 96 = .ok (.return_, 1) := by decide +kernel
theorem dX7_laysGots_0 : decode cX7_laysGots 0 = .ok (.aload_n 0, 1) := by decide +kernel
theorem dX7_laysGots_1 : decode cX7_laysGots 1 = .ok (.iload_n 1, 1) := by decide +kernel
theorem dX7_laysGots_2 : decode cX7_laysGots 2 = .ok (.iload_n 2, 1) := by decide +kernel
theorem dX7_laysGots_3 : decode cX7_laysGots 3 = .ok (.iload_n 3, 1) := by decide +kernel
theorem dX7_laysGots_4 : decode cX7_laysGots 4 = .ok (.iload 4, 2) := by decide +kernel
theorem dX7_laysGots_6 : decode cX7_laysGots 6 = .ok (.iload 5, 2) := by decide +kernel
theorem dX7_laysGots_8 : decode cX7_laysGots 8 = .ok (.iload 6, 2) := by decide +kernel
theorem dX7_laysGots_10 : decode cX7_laysGots 10 = .ok (.iload 7, 2) := by decide +kernel
theorem dX7_laysGots_12 : decode cX7_laysGots 12 = .ok (.invokevirtual 264, 3) := by decide +kernel
theorem dX7_laysGots_15 : decode cX7_laysGots 15 = .ok (.iconst 0, 1) := by decide +kernel
theorem dX7_laysGots_16 : decode cX7_laysGots 16 = .ok (.istore 8, 2) := by decide +kernel
theorem dX7_laysGots_18 : decode cX7_laysGots 18 = .ok (.iload 8, 2) := by decide +kernel
theorem dX7_laysGots_20 : decode cX7_laysGots 20 = .ok (.aload_n 0, 1) := by decide +kernel
theorem dX7_laysGots_21 : decode cX7_laysGots 21 = .ok (.getfield 221, 3) := by decide +kernel
theorem dX7_laysGots_24 : decode cX7_laysGots 24 = .ok (.if_icmp .ge 44, 3) := by decide +kernel
theorem dX7_laysGots_27 : decode cX7_laysGots 27 = .ok (.iconst 1, 1) := by decide +kernel
theorem dX7_laysGots_28 : decode cX7_laysGots 28 = .ok (.istore 9, 2) := by decide +kernel
theorem dX7_laysGots_30 : decode cX7_laysGots 30 = .ok (.iload 9, 2) := by decide +kernel
theorem dX7_laysGots_32 : decode cX7_laysGots 32 = .ok (.ifCond .eq 30, 3) := by decide +kernel
theorem dX7_laysGots_35 : decode cX7_laysGots 35 = .ok (.aload_n 0, 1) := by decide +kernel
theorem dX7_laysGots_36 : decode cX7_laysGots 36 = .ok (.iload 8, 2) := by decide +kernel
theorem dX7_laysGots_38 : decode cX7_laysGots 38 = .ok (.invokevirtual 268, 3) := by decide +kernel
theorem dX7_laysGots_41 : decode cX7_laysGots 41 = .ok (.aload_n 0, 1) := by decide +kernel
theorem dX7_laysGots_42 : decode cX7_laysGots 42 = .ok (.getfield 79, 3) := by decide +kernel
theorem dX7_laysGots_45 : decode cX7_laysGots 45 = .ok (.iload 8, 2) := by decide +kernel
theorem dX7_laysGots_47 : decode cX7_laysGots 47 = .ok (.iaload, 1) := by decide +kernel
theorem dX7_laysGots_48 : decode cX7_laysGots 48 = .ok (.if_icmp .ge 14, 3) := by decide +kernel
theorem dX7_laysGots_51 : decode cX7_laysGots 51 = .ok (.aload_n 0, 1) := by decide +kernel
theorem dX7_laysGots_52 : decode cX7_laysGots 52 = .ok (.iload 8, 2) := by decide +kernel
theorem dX7_laysGots_54 : decode cX7_laysGots 54 = .ok (.invokevirtual 271, 3) := by decide +kernel
theorem dX7_laysGots_57 : decode cX7_laysGots 57 = .ok (.istore 9, 2) := by decide +kernel
theorem dX7_laysGots_59 : decode cX7_laysGots 59 = .ok (.goto (-29), 3) := by decide +kernel
theorem dX7_laysGots_62 : decode cX7_laysGots 62 = .ok (.iinc 8 1, 3) := by decide +kernel
theorem dX7_laysGots_65 : decode cX7_laysGots 65 = .ok (.goto (-47), 3) := by decide +kernel
theorem dX7_laysGots_68 : decode cX7_laysGots 68 = .ok (.return_, 1) := by decide +kernel
theorem dX7_plansNow_0 : decode cX7_plansNow 0 = .ok (.aload_n 0, 1) := by decide +kernel
theorem dX7_plansNow_1 : decode cX7_plansNow 1 = .ok (.iload_n 1, 1) := by decide +kernel
theorem dX7_plansNow_2 : decode cX7_plansNow 2 = .ok (.iconst (-1), 1) := by decide +kernel
theorem dX7_plansNow_3 : decode cX7_plansNow 3 = .ok (.iconst 0, 1) := by decide +kernel
theorem dX7_plansNow_4 : decode cX7_plansNow 4 = .ok (.iconst 0, 1) := by decide +kernel
theorem dX7_plansNow_5 : decode cX7_plansNow 5 = .ok (.iconst 0, 1) := by decide +kernel
theorem dX7_plansNow_6 : decode cX7_plansNow 6 = .ok (.iconst 0, 1) := by decide +kernel
theorem dX7_plansNow_7 : decode cX7_plansNow 7 = .ok (.iconst 0, 1) := by decide +kernel
theorem dX7_plansNow_8 : decode cX7_plansNow 8 = .ok (.invokevirtual 274, 3) := by decide +kernel
theorem dX7_plansNow_11 : decode cX7_plansNow 11 = .ok (.iconst 0, 1) := by decide +kernel
theorem dX7_plansNow_12 : decode cX7_plansNow 12 = .ok (.istore_n 2, 1) := by decide +kernel
theorem dX7_plansNow_13 : decode cX7_plansNow 13 = .ok (.iload_n 2, 1) := by decide +kernel
theorem dX7_plansNow_14 : decode cX7_plansNow 14 = .ok (.aload_n 0, 1) := by decide +kernel
theorem dX7_plansNow_15 : decode cX7_plansNow 15 = .ok (.getfield 224, 3) := by decide +kernel
theorem dX7_plansNow_18 : decode cX7_plansNow 18 = .ok (.if_icmp .ge 24, 3) := by decide +kernel
theorem dX7_plansNow_21 : decode cX7_plansNow 21 = .ok (.iconst 1, 1) := by decide +kernel
theorem dX7_plansNow_22 : decode cX7_plansNow 22 = .ok (.istore_n 3, 1) := by decide +kernel
theorem dX7_plansNow_23 : decode cX7_plansNow 23 = .ok (.iload_n 3, 1) := by decide +kernel
theorem dX7_plansNow_24 : decode cX7_plansNow 24 = .ok (.ifCond .eq 12, 3) := by decide +kernel
theorem dX7_plansNow_27 : decode cX7_plansNow 27 = .ok (.aload_n 0, 1) := by decide +kernel
theorem dX7_plansNow_28 : decode cX7_plansNow 28 = .ok (.iload_n 2, 1) := by decide +kernel
theorem dX7_plansNow_29 : decode cX7_plansNow 29 = .ok (.invokevirtual 277, 3) := by decide +kernel
theorem dX7_plansNow_32 : decode cX7_plansNow 32 = .ok (.istore_n 3, 1) := by decide +kernel
theorem dX7_plansNow_33 : decode cX7_plansNow 33 = .ok (.goto (-10), 3) := by decide +kernel
theorem dX7_plansNow_36 : decode cX7_plansNow 36 = .ok (.iinc 2 1, 3) := by decide +kernel
theorem dX7_plansNow_39 : decode cX7_plansNow 39 = .ok (.goto (-26), 3) := by decide +kernel
theorem dX7_plansNow_42 : decode cX7_plansNow 42 = .ok (.iconst 0, 1) := by decide +kernel
theorem dX7_plansNow_43 : decode cX7_plansNow 43 = .ok (.istore_n 2, 1) := by decide +kernel
theorem dX7_plansNow_44 : decode cX7_plansNow 44 = .ok (.iload_n 2, 1) := by decide +kernel
theorem dX7_plansNow_45 : decode cX7_plansNow 45 = .ok (.aload_n 0, 1) := by decide +kernel
theorem dX7_plansNow_46 : decode cX7_plansNow 46 = .ok (.getfield 221, 3) := by decide +kernel
theorem dX7_plansNow_49 : decode cX7_plansNow 49 = .ok (.if_icmp .ge 44, 3) := by decide +kernel
theorem dX7_plansNow_52 : decode cX7_plansNow 52 = .ok (.iconst 0, 1) := by decide +kernel
theorem dX7_plansNow_53 : decode cX7_plansNow 53 = .ok (.istore_n 3, 1) := by decide +kernel
theorem dX7_plansNow_54 : decode cX7_plansNow 54 = .ok (.iload_n 3, 1) := by decide +kernel
theorem dX7_plansNow_55 : decode cX7_plansNow 55 = .ok (.aload_n 0, 1) := by decide +kernel
theorem dX7_plansNow_56 : decode cX7_plansNow 56 = .ok (.getfield 224, 3) := by decide +kernel
theorem dX7_plansNow_59 : decode cX7_plansNow 59 = .ok (.if_icmp .ge 28, 3) := by decide +kernel
theorem dX7_plansNow_62 : decode cX7_plansNow 62 = .ok (.iconst 1, 1) := by decide +kernel
theorem dX7_plansNow_63 : decode cX7_plansNow 63 = .ok (.istore 4, 2) := by decide +kernel
theorem dX7_plansNow_65 : decode cX7_plansNow 65 = .ok (.iload 4, 2) := by decide +kernel
theorem dX7_plansNow_67 : decode cX7_plansNow 67 = .ok (.ifCond .eq 14, 3) := by decide +kernel
theorem dX7_plansNow_70 : decode cX7_plansNow 70 = .ok (.aload_n 0, 1) := by decide +kernel
theorem dX7_plansNow_71 : decode cX7_plansNow 71 = .ok (.iload_n 3, 1) := by decide +kernel
theorem dX7_plansNow_72 : decode cX7_plansNow 72 = .ok (.iload_n 2, 1) := by decide +kernel
theorem dX7_plansNow_73 : decode cX7_plansNow 73 = .ok (.invokevirtual 280, 3) := by decide +kernel
theorem dX7_plansNow_76 : decode cX7_plansNow 76 = .ok (.istore 4, 2) := by decide +kernel
theorem dX7_plansNow_78 : decode cX7_plansNow 78 = .ok (.goto (-13), 3) := by decide +kernel
theorem dX7_plansNow_81 : decode cX7_plansNow 81 = .ok (.iinc 3 1, 3) := by decide +kernel
theorem dX7_plansNow_84 : decode cX7_plansNow 84 = .ok (.goto (-30), 3) := by decide +kernel
theorem dX7_plansNow_87 : decode cX7_plansNow 87 = .ok (.iinc 2 1, 3) := by decide +kernel
theorem dX7_plansNow_90 : decode cX7_plansNow 90 = .ok (.goto (-46), 3) := by decide +kernel
theorem dX7_plansNow_93 : decode cX7_plansNow 93 = .ok (.return_, 1) := by decide +kernel
theorem dX7_turnOf_0 : decode cX7_turnOf 0 = .ok (.iconst 0, 1) := by decide +kernel
theorem dX7_turnOf_1 : decode cX7_turnOf 1 = .ok (.istore_n 2, 1) := by decide +kernel
theorem dX7_turnOf_2 : decode cX7_turnOf 2 = .ok (.iload_n 2, 1) := by decide +kernel
theorem dX7_turnOf_3 : decode cX7_turnOf 3 = .ok (.aload_n 0, 1) := by decide +kernel
theorem dX7_turnOf_4 : decode cX7_turnOf 4 = .ok (.getfield 221, 3) := by decide +kernel
theorem dX7_turnOf_7 : decode cX7_turnOf 7 = .ok (.if_icmp .ge 19, 3) := by decide +kernel
theorem dX7_turnOf_10 : decode cX7_turnOf 10 = .ok (.aload_n 0, 1) := by decide +kernel
theorem dX7_turnOf_11 : decode cX7_turnOf 11 = .ok (.getfield 73, 3) := by decide +kernel
theorem dX7_turnOf_14 : decode cX7_turnOf 14 = .ok (.iload_n 2, 1) := by decide +kernel
theorem dX7_turnOf_15 : decode cX7_turnOf 15 = .ok (.iaload, 1) := by decide +kernel
theorem dX7_turnOf_16 : decode cX7_turnOf 16 = .ok (.iload_n 1, 1) := by decide +kernel
theorem dX7_turnOf_17 : decode cX7_turnOf 17 = .ok (.if_icmp .eq 9, 3) := by decide +kernel
theorem dX7_turnOf_20 : decode cX7_turnOf 20 = .ok (.iinc 2 1, 3) := by decide +kernel
theorem dX7_turnOf_23 : decode cX7_turnOf 23 = .ok (.goto (-21), 3) := by decide +kernel
theorem dX7_turnOf_26 : decode cX7_turnOf 26 = .ok (.iload_n 2, 1) := by decide +kernel
theorem dX7_turnOf_27 : decode cX7_turnOf 27 = .ok (.ireturn, 1) := by decide +kernel
theorem dX7_ageOf_0 : decode cX7_ageOf 0 = .ok (.iconst 0, 1) := by decide +kernel
theorem dX7_ageOf_1 : decode cX7_ageOf 1 = .ok (.istore_n 2, 1) := by decide +kernel
theorem dX7_ageOf_2 : decode cX7_ageOf 2 = .ok (.iload_n 2, 1) := by decide +kernel
theorem dX7_ageOf_3 : decode cX7_ageOf 3 = .ok (.aload_n 0, 1) := by decide +kernel
theorem dX7_ageOf_4 : decode cX7_ageOf 4 = .ok (.getfield 224, 3) := by decide +kernel
theorem dX7_ageOf_7 : decode cX7_ageOf 7 = .ok (.if_icmp .ge 19, 3) := by decide +kernel
theorem dX7_ageOf_10 : decode cX7_ageOf 10 = .ok (.aload_n 0, 1) := by decide +kernel
theorem dX7_ageOf_11 : decode cX7_ageOf 11 = .ok (.getfield 76, 3) := by decide +kernel
theorem dX7_ageOf_14 : decode cX7_ageOf 14 = .ok (.iload_n 2, 1) := by decide +kernel
theorem dX7_ageOf_15 : decode cX7_ageOf 15 = .ok (.iaload, 1) := by decide +kernel
theorem dX7_ageOf_16 : decode cX7_ageOf 16 = .ok (.iload_n 1, 1) := by decide +kernel
theorem dX7_ageOf_17 : decode cX7_ageOf 17 = .ok (.if_icmp .eq 9, 3) := by decide +kernel
theorem dX7_ageOf_20 : decode cX7_ageOf 20 = .ok (.iinc 2 1, 3) := by decide +kernel
theorem dX7_ageOf_23 : decode cX7_ageOf 23 = .ok (.goto (-21), 3) := by decide +kernel
theorem dX7_ageOf_26 : decode cX7_ageOf 26 = .ok (.iload_n 2, 1) := by decide +kernel
theorem dX7_ageOf_27 : decode cX7_ageOf 27 = .ok (.ireturn, 1) := by decide +kernel
theorem dX7_plan_0 : decode cX7_plan 0 = .ok (.aload_n 0, 1) := by decide +kernel
theorem dX7_plan_1 : decode cX7_plan 1 = .ok (.iconst 0, 1) := by decide +kernel
theorem dX7_plan_2 : decode cX7_plan 2 = .ok (.putfield 1, 3) := by decide +kernel
theorem dX7_plan_5 : decode cX7_plan 5 = .ok (.iload_n 1, 1) := by decide +kernel
theorem dX7_plan_6 : decode cX7_plan 6 = .ok (.iconst (-1), 1) := by decide +kernel
theorem dX7_plan_7 : decode cX7_plan 7 = .ok (.if_icmp .eq 11, 3) := by decide +kernel
theorem dX7_plan_10 : decode cX7_plan 10 = .ok (.aload_n 0, 1) := by decide +kernel
theorem dX7_plan_11 : decode cX7_plan 11 = .ok (.iload_n 1, 1) := by decide +kernel
theorem dX7_plan_12 : decode cX7_plan 12 = .ok (.invokevirtual 202, 3) := by decide +kernel
theorem dX7_plan_15 : decode cX7_plan 15 = .ok (.ifCond .eq 11, 3) := by decide +kernel
theorem dX7_plan_18 : decode cX7_plan 18 = .ok (.aload_n 0, 1) := by decide +kernel
theorem dX7_plan_19 : decode cX7_plan 19 = .ok (.iload_n 2, 1) := by decide +kernel
theorem dX7_plan_20 : decode cX7_plan 20 = .ok (.invokevirtual 189, 3) := by decide +kernel
theorem dX7_plan_23 : decode cX7_plan 23 = .ok (.ifCond .ne 5, 3) := by decide +kernel
theorem dX7_plan_26 : decode cX7_plan 26 = .ok (.iconst (-1), 1) := by decide +kernel
theorem dX7_plan_27 : decode cX7_plan 27 = .ok (.ireturn, 1) := by decide +kernel
theorem dX7_plan_28 : decode cX7_plan 28 = .ok (.aload_n 0, 1) := by decide +kernel
theorem dX7_plan_29 : decode cX7_plan 29 = .ok (.aload_n 0, 1) := by decide +kernel
theorem dX7_plan_30 : decode cX7_plan 30 = .ok (.iload_n 2, 1) := by decide +kernel
theorem dX7_plan_31 : decode cX7_plan 31 = .ok (.iconst 1, 1) := by decide +kernel
theorem dX7_plan_32 : decode cX7_plan 32 = .ok (.invokevirtual 169, 3) := by decide +kernel
theorem dX7_plan_35 : decode cX7_plan 35 = .ok (.invokevirtual 283, 3) := by decide +kernel
theorem dX7_plan_38 : decode cX7_plan 38 = .ok (.iload_n 1, 1) := by decide +kernel
theorem dX7_plan_39 : decode cX7_plan 39 = .ok (.iconst (-1), 1) := by decide +kernel
theorem dX7_plan_40 : decode cX7_plan 40 = .ok (.if_icmp .ne 13, 3) := by decide +kernel
theorem dX7_plan_43 : decode cX7_plan 43 = .ok (.aload_n 0, 1) := by decide +kernel
theorem dX7_plan_44 : decode cX7_plan 44 = .ok (.aload_n 0, 1) := by decide +kernel
theorem dX7_plan_45 : decode cX7_plan 45 = .ok (.iload_n 2, 1) := by decide +kernel
theorem dX7_plan_46 : decode cX7_plan 46 = .ok (.invokevirtual 286, 3) := by decide +kernel
theorem dX7_plan_49 : decode cX7_plan 49 = .ok (.invokevirtual 268, 3) := by decide +kernel
theorem dX7_plan_52 : decode cX7_plan 52 = .ok (.ireturn, 1) := by decide +kernel
theorem dX7_plan_53 : decode cX7_plan 53 = .ok (.aload_n 0, 1) := by decide +kernel
theorem dX7_plan_54 : decode cX7_plan 54 = .ok (.iload_n 1, 1) := by decide +kernel
theorem dX7_plan_55 : decode cX7_plan 55 = .ok (.invokevirtual 289, 3) := by decide +kernel
theorem dX7_plan_58 : decode cX7_plan 58 = .ok (.aload_n 0, 1) := by decide +kernel
theorem dX7_plan_59 : decode cX7_plan 59 = .ok (.getfield 224, 3) := by decide +kernel
theorem dX7_plan_62 : decode cX7_plan 62 = .ok (.if_icmp .ge 25, 3) := by decide +kernel
theorem dX7_plan_65 : decode cX7_plan 65 = .ok (.aload_n 0, 1) := by decide +kernel
theorem dX7_plan_66 : decode cX7_plan 66 = .ok (.getfield 82, 3) := by decide +kernel
theorem dX7_plan_69 : decode cX7_plan 69 = .ok (.bipush 8, 2) := by decide +kernel
theorem dX7_plan_71 : decode cX7_plan 71 = .ok (.aload_n 0, 1) := by decide +kernel
theorem dX7_plan_72 : decode cX7_plan 72 = .ok (.iload_n 1, 1) := by decide +kernel
theorem dX7_plan_73 : decode cX7_plan 73 = .ok (.invokevirtual 289, 3) := by decide +kernel
theorem dX7_plan_76 : decode cX7_plan 76 = .ok (.imul, 1) := by decide +kernel
theorem dX7_plan_77 : decode cX7_plan 77 = .ok (.aload_n 0, 1) := by decide +kernel
theorem dX7_plan_78 : decode cX7_plan 78 = .ok (.iload_n 2, 1) := by decide +kernel
theorem dX7_plan_79 : decode cX7_plan 79 = .ok (.invokevirtual 286, 3) := by decide +kernel
theorem dX7_plan_82 : decode cX7_plan 82 = .ok (.iadd, 1) := by decide +kernel
theorem dX7_plan_83 : decode cX7_plan 83 = .ok (.iaload, 1) := by decide +kernel
theorem dX7_plan_84 : decode cX7_plan 84 = .ok (.goto 4, 3) := by decide +kernel
theorem dX7_plan_87 : decode cX7_plan 87 = .ok (.iconst 0, 1) := by decide +kernel
theorem dX7_plan_88 : decode cX7_plan 88 = .ok (.ireturn, 1) := by decide +kernel
theorem dX7_canWaste_0 : decode cX7_canWaste 0 = .ok (.aload_n 0, 1) := by decide +kernel
theorem dX7_canWaste_1 : decode cX7_canWaste 1 = .ok (.iload_n 1, 1) := by decide +kernel
theorem dX7_canWaste_2 : decode cX7_canWaste 2 = .ok (.invokevirtual 214, 3) := by decide +kernel
theorem dX7_canWaste_5 : decode cX7_canWaste 5 = .ok (.ifCond .eq 25, 3) := by decide +kernel
theorem dX7_canWaste_8 : decode cX7_canWaste 8 = .ok (.iload_n 2, 1) := by decide +kernel
theorem dX7_canWaste_9 : decode cX7_canWaste 9 = .ok (.aload_n 0, 1) := by decide +kernel
theorem dX7_canWaste_10 : decode cX7_canWaste 10 = .ok (.invokevirtual 192, 3) := by decide +kernel
theorem dX7_canWaste_13 : decode cX7_canWaste 13 = .ok (.aload_n 0, 1) := by decide +kernel
theorem dX7_canWaste_14 : decode cX7_canWaste 14 = .ok (.invokevirtual 192, 3) := by decide +kernel
theorem dX7_canWaste_17 : decode cX7_canWaste 17 = .ok (.bipush 99, 2) := by decide +kernel
theorem dX7_canWaste_19 : decode cX7_canWaste 19 = .ok (.iadd, 1) := by decide +kernel
theorem dX7_canWaste_20 : decode cX7_canWaste 20 = .ok (.invokestatic 101, 3) := by decide +kernel
theorem dX7_canWaste_23 : decode cX7_canWaste 23 = .ok (.ifCond .eq 7, 3) := by decide +kernel
theorem dX7_canWaste_26 : decode cX7_canWaste 26 = .ok (.iconst 1, 1) := by decide +kernel
theorem dX7_canWaste_27 : decode cX7_canWaste 27 = .ok (.goto 4, 3) := by decide +kernel
theorem dX7_canWaste_30 : decode cX7_canWaste 30 = .ok (.iconst 0, 1) := by decide +kernel
theorem dX7_canWaste_31 : decode cX7_canWaste 31 = .ok (.ireturn, 1) := by decide +kernel
theorem dX7_waste_0 : decode cX7_waste 0 = .ok (.aload_n 0, 1) := by decide +kernel
theorem dX7_waste_1 : decode cX7_waste 1 = .ok (.iconst 0, 1) := by decide +kernel
theorem dX7_waste_2 : decode cX7_waste 2 = .ok (.putfield 1, 3) := by decide +kernel
theorem dX7_waste_5 : decode cX7_waste 5 = .ok (.aload_n 0, 1) := by decide +kernel
theorem dX7_waste_6 : decode cX7_waste 6 = .ok (.iload_n 1, 1) := by decide +kernel
theorem dX7_waste_7 : decode cX7_waste 7 = .ok (.iload_n 2, 1) := by decide +kernel
theorem dX7_waste_8 : decode cX7_waste 8 = .ok (.invokevirtual 292, 3) := by decide +kernel
theorem dX7_waste_11 : decode cX7_waste 11 = .ok (.ifCond .ne 5, 3) := by decide +kernel
theorem dX7_waste_14 : decode cX7_waste 14 = .ok (.iconst (-1), 1) := by decide +kernel
theorem dX7_waste_15 : decode cX7_waste 15 = .ok (.ireturn, 1) := by decide +kernel
theorem dX7_waste_16 : decode cX7_waste 16 = .ok (.iconst 0, 1) := by decide +kernel
theorem dX7_waste_17 : decode cX7_waste 17 = .ok (.istore_n 3, 1) := by decide +kernel
theorem dX7_waste_18 : decode cX7_waste 18 = .ok (.iconst 0, 1) := by decide +kernel
theorem dX7_waste_19 : decode cX7_waste 19 = .ok (.istore 4, 2) := by decide +kernel
theorem dX7_waste_21 : decode cX7_waste 21 = .ok (.iload 4, 2) := by decide +kernel
theorem dX7_waste_23 : decode cX7_waste 23 = .ok (.aload_n 0, 1) := by decide +kernel
theorem dX7_waste_24 : decode cX7_waste 24 = .ok (.getfield 64, 3) := by decide +kernel
theorem dX7_waste_27 : decode cX7_waste 27 = .ok (.iconst 3, 1) := by decide +kernel
theorem dX7_waste_28 : decode cX7_waste 28 = .ok (.iaload, 1) := by decide +kernel
theorem dX7_waste_29 : decode cX7_waste 29 = .ok (.if_icmp .ge 48, 3) := by decide +kernel
theorem dX7_waste_32 : decode cX7_waste 32 = .ok (.aload_n 0, 1) := by decide +kernel
theorem dX7_waste_33 : decode cX7_waste 33 = .ok (.iload 4, 2) := by decide +kernel
theorem dX7_waste_35 : decode cX7_waste 35 = .ok (.iconst 0, 1) := by decide +kernel
theorem dX7_waste_36 : decode cX7_waste 36 = .ok (.invokevirtual 176, 3) := by decide +kernel
theorem dX7_waste_39 : decode cX7_waste 39 = .ok (.iload_n 1, 1) := by decide +kernel
theorem dX7_waste_40 : decode cX7_waste 40 = .ok (.if_icmp .ne 31, 3) := by decide +kernel
theorem dX7_waste_43 : decode cX7_waste 43 = .ok (.aload_n 0, 1) := by decide +kernel
theorem dX7_waste_44 : decode cX7_waste 44 = .ok (.iload 4, 2) := by decide +kernel
theorem dX7_waste_46 : decode cX7_waste 46 = .ok (.iconst 1, 1) := by decide +kernel
theorem dX7_waste_47 : decode cX7_waste 47 = .ok (.invokevirtual 176, 3) := by decide +kernel
theorem dX7_waste_50 : decode cX7_waste 50 = .ok (.iload_n 2, 1) := by decide +kernel
theorem dX7_waste_51 : decode cX7_waste 51 = .ok (.if_icmp .gt 20, 3) := by decide +kernel
theorem dX7_waste_54 : decode cX7_waste 54 = .ok (.iload_n 3, 1) := by decide +kernel
theorem dX7_waste_55 : decode cX7_waste 55 = .ok (.aload_n 0, 1) := by decide +kernel
theorem dX7_waste_56 : decode cX7_waste 56 = .ok (.iload 4, 2) := by decide +kernel
theorem dX7_waste_58 : decode cX7_waste 58 = .ok (.iconst 2, 1) := by decide +kernel
theorem dX7_waste_59 : decode cX7_waste 59 = .ok (.invokevirtual 176, 3) := by decide +kernel
theorem dX7_waste_62 : decode cX7_waste 62 = .ok (.aload_n 0, 1) := by decide +kernel
theorem dX7_waste_63 : decode cX7_waste 63 = .ok (.iload 4, 2) := by decide +kernel
theorem dX7_waste_65 : decode cX7_waste 65 = .ok (.invokevirtual 186, 3) := by decide +kernel
theorem dX7_waste_68 : decode cX7_waste 68 = .ok (.isub, 1) := by decide +kernel
theorem dX7_waste_69 : decode cX7_waste 69 = .ok (.iadd, 1) := by decide +kernel
theorem dX7_waste_70 : decode cX7_waste 70 = .ok (.istore_n 3, 1) := by decide +kernel
theorem dX7_waste_71 : decode cX7_waste 71 = .ok (.iinc 4 1, 3) := by decide +kernel
theorem dX7_waste_74 : decode cX7_waste 74 = .ok (.goto (-53), 3) := by decide +kernel
theorem dX7_waste_77 : decode cX7_waste 77 = .ok (.iload_n 3, 1) := by decide +kernel
theorem dX7_waste_78 : decode cX7_waste 78 = .ok (.ireturn, 1) := by decide +kernel
theorem dX7_least_0 : decode cX7_least 0 = .ok (.aload_n 0, 1) := by decide +kernel
theorem dX7_least_1 : decode cX7_least 1 = .ok (.iconst 0, 1) := by decide +kernel
theorem dX7_least_2 : decode cX7_least 2 = .ok (.putfield 1, 3) := by decide +kernel
theorem dX7_least_5 : decode cX7_least 5 = .ok (.aload_n 0, 1) := by decide +kernel
theorem dX7_least_6 : decode cX7_least 6 = .ok (.iload_n 1, 1) := by decide +kernel
theorem dX7_least_7 : decode cX7_least 7 = .ok (.iload_n 2, 1) := by decide +kernel
theorem dX7_least_8 : decode cX7_least 8 = .ok (.invokevirtual 292, 3) := by decide +kernel
theorem dX7_least_11 : decode cX7_least 11 = .ok (.ifCond .ne 5, 3) := by decide +kernel
theorem dX7_least_14 : decode cX7_least 14 = .ok (.iconst (-1), 1) := by decide +kernel
theorem dX7_least_15 : decode cX7_least 15 = .ok (.ireturn, 1) := by decide +kernel
theorem dX7_least_16 : decode cX7_least 16 = .ok (.aload_n 0, 1) := by decide +kernel
theorem dX7_least_17 : decode cX7_least 17 = .ok (.iload_n 1, 1) := by decide +kernel
theorem dX7_least_18 : decode cX7_least 18 = .ok (.invokevirtual 283, 3) := by decide +kernel
theorem dX7_least_21 : decode cX7_least 21 = .ok (.iconst 0, 1) := by decide +kernel
theorem dX7_least_22 : decode cX7_least 22 = .ok (.istore_n 3, 1) := by decide +kernel
theorem dX7_least_23 : decode cX7_least 23 = .ok (.iconst 0, 1) := by decide +kernel
theorem dX7_least_24 : decode cX7_least 24 = .ok (.istore 4, 2) := by decide +kernel
theorem dX7_least_26 : decode cX7_least 26 = .ok (.iload 4, 2) := by decide +kernel
theorem dX7_least_28 : decode cX7_least 28 = .ok (.aload_n 0, 1) := by decide +kernel
theorem dX7_least_29 : decode cX7_least 29 = .ok (.getfield 224, 3) := by decide +kernel
theorem dX7_least_32 : decode cX7_least 32 = .ok (.if_icmp .ge 34, 3) := by decide +kernel
theorem dX7_least_35 : decode cX7_least 35 = .ok (.aload_n 0, 1) := by decide +kernel
theorem dX7_least_36 : decode cX7_least 36 = .ok (.aload_n 0, 1) := by decide +kernel
theorem dX7_least_37 : decode cX7_least 37 = .ok (.getfield 76, 3) := by decide +kernel
theorem dX7_least_40 : decode cX7_least 40 = .ok (.iload 4, 2) := by decide +kernel
theorem dX7_least_42 : decode cX7_least 42 = .ok (.iaload, 1) := by decide +kernel
theorem dX7_least_43 : decode cX7_least 43 = .ok (.iconst 1, 1) := by decide +kernel
theorem dX7_least_44 : decode cX7_least 44 = .ok (.invokevirtual 176, 3) := by decide +kernel
theorem dX7_least_47 : decode cX7_least 47 = .ok (.iload_n 2, 1) := by decide +kernel
theorem dX7_least_48 : decode cX7_least 48 = .ok (.if_icmp .gt 12, 3) := by decide +kernel
theorem dX7_least_51 : decode cX7_least 51 = .ok (.iload_n 3, 1) := by decide +kernel
theorem dX7_least_52 : decode cX7_least 52 = .ok (.aload_n 0, 1) := by decide +kernel
theorem dX7_least_53 : decode cX7_least 53 = .ok (.iload 4, 2) := by decide +kernel
theorem dX7_least_55 : decode cX7_least 55 = .ok (.invokevirtual 252, 3) := by decide +kernel
theorem dX7_least_58 : decode cX7_least 58 = .ok (.iadd, 1) := by decide +kernel
theorem dX7_least_59 : decode cX7_least 59 = .ok (.istore_n 3, 1) := by decide +kernel
theorem dX7_least_60 : decode cX7_least 60 = .ok (.iinc 4 1, 3) := by decide +kernel
theorem dX7_least_63 : decode cX7_least 63 = .ok (.goto (-37), 3) := by decide +kernel
theorem dX7_least_66 : decode cX7_least 66 = .ok (.iload_n 3, 1) := by decide +kernel
theorem dX7_least_67 : decode cX7_least 67 = .ok (.ireturn, 1) := by decide +kernel
theorem dX7_canAsk_0 : decode cX7_canAsk 0 = .ok (.aload_n 0, 1) := by decide +kernel
theorem dX7_canAsk_1 : decode cX7_canAsk 1 = .ok (.iload_n 1, 1) := by decide +kernel
theorem dX7_canAsk_2 : decode cX7_canAsk 2 = .ok (.invokevirtual 211, 3) := by decide +kernel
theorem dX7_canAsk_5 : decode cX7_canAsk 5 = .ok (.ifCond .eq 44, 3) := by decide +kernel
theorem dX7_canAsk_8 : decode cX7_canAsk 8 = .ok (.aload_n 0, 1) := by decide +kernel
theorem dX7_canAsk_9 : decode cX7_canAsk 9 = .ok (.iload_n 2, 1) := by decide +kernel
theorem dX7_canAsk_10 : decode cX7_canAsk 10 = .ok (.invokevirtual 214, 3) := by decide +kernel
theorem dX7_canAsk_13 : decode cX7_canAsk 13 = .ok (.ifCond .eq 36, 3) := by decide +kernel
theorem dX7_canAsk_16 : decode cX7_canAsk 16 = .ok (.iload_n 3, 1) := by decide +kernel
theorem dX7_canAsk_17 : decode cX7_canAsk 17 = .ok (.iconst 1, 1) := by decide +kernel
theorem dX7_canAsk_18 : decode cX7_canAsk 18 = .ok (.bipush 99, 2) := by decide +kernel
theorem dX7_canAsk_20 : decode cX7_canAsk 20 = .ok (.invokestatic 101, 3) := by decide +kernel
theorem dX7_canAsk_23 : decode cX7_canAsk 23 = .ok (.ifCond .eq 26, 3) := by decide +kernel
theorem dX7_canAsk_26 : decode cX7_canAsk 26 = .ok (.iload 4, 2) := by decide +kernel
theorem dX7_canAsk_28 : decode cX7_canAsk 28 = .ok (.aload_n 0, 1) := by decide +kernel
theorem dX7_canAsk_29 : decode cX7_canAsk 29 = .ok (.invokevirtual 192, 3) := by decide +kernel
theorem dX7_canAsk_32 : decode cX7_canAsk 32 = .ok (.aload_n 0, 1) := by decide +kernel
theorem dX7_canAsk_33 : decode cX7_canAsk 33 = .ok (.invokevirtual 192, 3) := by decide +kernel
theorem dX7_canAsk_36 : decode cX7_canAsk 36 = .ok (.bipush 99, 2) := by decide +kernel
theorem dX7_canAsk_38 : decode cX7_canAsk 38 = .ok (.iadd, 1) := by decide +kernel
theorem dX7_canAsk_39 : decode cX7_canAsk 39 = .ok (.invokestatic 101, 3) := by decide +kernel
theorem dX7_canAsk_42 : decode cX7_canAsk 42 = .ok (.ifCond .eq 7, 3) := by decide +kernel
theorem dX7_canAsk_45 : decode cX7_canAsk 45 = .ok (.iconst 1, 1) := by decide +kernel
theorem dX7_canAsk_46 : decode cX7_canAsk 46 = .ok (.goto 4, 3) := by decide +kernel
theorem dX7_canAsk_49 : decode cX7_canAsk 49 = .ok (.iconst 0, 1) := by decide +kernel
theorem dX7_canAsk_50 : decode cX7_canAsk 50 = .ok (.ireturn, 1) := by decide +kernel
theorem dX7_would_0 : decode cX7_would 0 = .ok (.aload_n 0, 1) := by decide +kernel
theorem dX7_would_1 : decode cX7_would 1 = .ok (.iconst 0, 1) := by decide +kernel
theorem dX7_would_2 : decode cX7_would 2 = .ok (.putfield 1, 3) := by decide +kernel
theorem dX7_would_5 : decode cX7_would 5 = .ok (.aload_n 0, 1) := by decide +kernel
theorem dX7_would_6 : decode cX7_would 6 = .ok (.iload_n 1, 1) := by decide +kernel
theorem dX7_would_7 : decode cX7_would 7 = .ok (.iload_n 2, 1) := by decide +kernel
theorem dX7_would_8 : decode cX7_would 8 = .ok (.iload_n 3, 1) := by decide +kernel
theorem dX7_would_9 : decode cX7_would 9 = .ok (.iload 4, 2) := by decide +kernel
theorem dX7_would_11 : decode cX7_would 11 = .ok (.invokevirtual 295, 3) := by decide +kernel
theorem dX7_would_14 : decode cX7_would 14 = .ok (.ifCond .ne 5, 3) := by decide +kernel
theorem dX7_would_17 : decode cX7_would 17 = .ok (.iconst (-1), 1) := by decide +kernel
theorem dX7_would_18 : decode cX7_would 18 = .ok (.ireturn, 1) := by decide +kernel
theorem dX7_would_19 : decode cX7_would 19 = .ok (.aload_n 0, 1) := by decide +kernel
theorem dX7_would_20 : decode cX7_would 20 = .ok (.aload_n 0, 1) := by decide +kernel
theorem dX7_would_21 : decode cX7_would 21 = .ok (.getfield 64, 3) := by decide +kernel
theorem dX7_would_24 : decode cX7_would 24 = .ok (.iload_n 1, 1) := by decide +kernel
theorem dX7_would_25 : decode cX7_would 25 = .ok (.iload_n 2, 1) := by decide +kernel
theorem dX7_would_26 : decode cX7_would 26 = .ok (.invokevirtual 129, 3) := by decide +kernel
theorem dX7_would_29 : decode cX7_would 29 = .ok (.ifCond .eq 6, 3) := by decide +kernel
theorem dX7_would_32 : decode cX7_would 32 = .ok (.bipush (-2), 2) := by decide +kernel
theorem dX7_would_34 : decode cX7_would 34 = .ok (.ireturn, 1) := by decide +kernel
theorem dX7_would_35 : decode cX7_would 35 = .ok (.aload_n 0, 1) := by decide +kernel
theorem dX7_would_36 : decode cX7_would 36 = .ok (.iload_n 2, 1) := by decide +kernel
theorem dX7_would_37 : decode cX7_would 37 = .ok (.iconst (-1), 1) := by decide +kernel
theorem dX7_would_38 : decode cX7_would 38 = .ok (.iconst 0, 1) := by decide +kernel
theorem dX7_would_39 : decode cX7_would 39 = .ok (.iconst 1, 1) := by decide +kernel
theorem dX7_would_40 : decode cX7_would 40 = .ok (.iload_n 1, 1) := by decide +kernel
theorem dX7_would_41 : decode cX7_would 41 = .ok (.iload_n 3, 1) := by decide +kernel
theorem dX7_would_42 : decode cX7_would 42 = .ok (.iload 4, 2) := by decide +kernel
theorem dX7_would_44 : decode cX7_would 44 = .ok (.invokevirtual 274, 3) := by decide +kernel
theorem dX7_would_47 : decode cX7_would 47 = .ok (.aload_n 0, 1) := by decide +kernel
theorem dX7_would_48 : decode cX7_would 48 = .ok (.aload_n 0, 1) := by decide +kernel
theorem dX7_would_49 : decode cX7_would 49 = .ok (.bipush 40, 2) := by decide +kernel
theorem dX7_would_51 : decode cX7_would 51 = .ok (.invokevirtual 286, 3) := by decide +kernel
theorem dX7_would_54 : decode cX7_would 54 = .ok (.invokevirtual 268, 3) := by decide +kernel
theorem dX7_would_57 : decode cX7_would 57 = .ok (.ireturn, 1) := by decide +kernel
theorem dX7_slack_0 : decode cX7_slack 0 = .ok (.aload_n 0, 1) := by decide +kernel
theorem dX7_slack_1 : decode cX7_slack 1 = .ok (.iconst 0, 1) := by decide +kernel
theorem dX7_slack_2 : decode cX7_slack 2 = .ok (.putfield 1, 3) := by decide +kernel
theorem dX7_slack_5 : decode cX7_slack 5 = .ok (.aload_n 0, 1) := by decide +kernel
theorem dX7_slack_6 : decode cX7_slack 6 = .ok (.iload_n 1, 1) := by decide +kernel
theorem dX7_slack_7 : decode cX7_slack 7 = .ok (.invokevirtual 189, 3) := by decide +kernel
theorem dX7_slack_10 : decode cX7_slack 10 = .ok (.ifCond .ne 5, 3) := by decide +kernel
theorem dX7_slack_13 : decode cX7_slack 13 = .ok (.iconst (-1), 1) := by decide +kernel
theorem dX7_slack_14 : decode cX7_slack 14 = .ok (.ireturn, 1) := by decide +kernel
theorem dX7_slack_15 : decode cX7_slack 15 = .ok (.aload_n 0, 1) := by decide +kernel
theorem dX7_slack_16 : decode cX7_slack 16 = .ok (.aload_n 0, 1) := by decide +kernel
theorem dX7_slack_17 : decode cX7_slack 17 = .ok (.iload_n 1, 1) := by decide +kernel
theorem dX7_slack_18 : decode cX7_slack 18 = .ok (.iconst 0, 1) := by decide +kernel
theorem dX7_slack_19 : decode cX7_slack 19 = .ok (.invokevirtual 169, 3) := by decide +kernel
theorem dX7_slack_22 : decode cX7_slack 22 = .ok (.invokevirtual 179, 3) := by decide +kernel
theorem dX7_slack_25 : decode cX7_slack 25 = .ok (.istore_n 2, 1) := by decide +kernel
theorem dX7_slack_26 : decode cX7_slack 26 = .ok (.iconst 0, 1) := by decide +kernel
theorem dX7_slack_27 : decode cX7_slack 27 = .ok (.istore_n 3, 1) := by decide +kernel
theorem dX7_slack_28 : decode cX7_slack 28 = .ok (.iload_n 3, 1) := by decide +kernel
theorem dX7_slack_29 : decode cX7_slack 29 = .ok (.iload_n 2, 1) := by decide +kernel
theorem dX7_slack_30 : decode cX7_slack 30 = .ok (.if_icmp .gt 47, 3) := by decide +kernel
theorem dX7_slack_33 : decode cX7_slack 33 = .ok (.aload_n 0, 1) := by decide +kernel
theorem dX7_slack_34 : decode cX7_slack 34 = .ok (.aload_n 0, 1) := by decide +kernel
theorem dX7_slack_35 : decode cX7_slack 35 = .ok (.iload_n 1, 1) := by decide +kernel
theorem dX7_slack_36 : decode cX7_slack 36 = .ok (.iconst 1, 1) := by decide +kernel
theorem dX7_slack_37 : decode cX7_slack 37 = .ok (.invokevirtual 169, 3) := by decide +kernel
theorem dX7_slack_40 : decode cX7_slack 40 = .ok (.iload_n 1, 1) := by decide +kernel
theorem dX7_slack_41 : decode cX7_slack 41 = .ok (.iload_n 2, 1) := by decide +kernel
theorem dX7_slack_42 : decode cX7_slack 42 = .ok (.iload_n 3, 1) := by decide +kernel
theorem dX7_slack_43 : decode cX7_slack 43 = .ok (.isub, 1) := by decide +kernel
theorem dX7_slack_44 : decode cX7_slack 44 = .ok (.iconst 0, 1) := by decide +kernel
theorem dX7_slack_45 : decode cX7_slack 45 = .ok (.iconst 0, 1) := by decide +kernel
theorem dX7_slack_46 : decode cX7_slack 46 = .ok (.iconst 0, 1) := by decide +kernel
theorem dX7_slack_47 : decode cX7_slack 47 = .ok (.iconst 0, 1) := by decide +kernel
theorem dX7_slack_48 : decode cX7_slack 48 = .ok (.invokevirtual 274, 3) := by decide +kernel
theorem dX7_slack_51 : decode cX7_slack 51 = .ok (.aload_n 0, 1) := by decide +kernel
theorem dX7_slack_52 : decode cX7_slack 52 = .ok (.aload_n 0, 1) := by decide +kernel
theorem dX7_slack_53 : decode cX7_slack 53 = .ok (.iload_n 1, 1) := by decide +kernel
theorem dX7_slack_54 : decode cX7_slack 54 = .ok (.invokevirtual 286, 3) := by decide +kernel
theorem dX7_slack_57 : decode cX7_slack 57 = .ok (.invokevirtual 268, 3) := by decide +kernel
theorem dX7_slack_60 : decode cX7_slack 60 = .ok (.aload_n 0, 1) := by decide +kernel
theorem dX7_slack_61 : decode cX7_slack 61 = .ok (.iload_n 1, 1) := by decide +kernel
theorem dX7_slack_62 : decode cX7_slack 62 = .ok (.iconst 2, 1) := by decide +kernel
theorem dX7_slack_63 : decode cX7_slack 63 = .ok (.invokevirtual 169, 3) := by decide +kernel
theorem dX7_slack_66 : decode cX7_slack 66 = .ok (.if_icmp .ne 5, 3) := by decide +kernel
theorem dX7_slack_69 : decode cX7_slack 69 = .ok (.iload_n 3, 1) := by decide +kernel
theorem dX7_slack_70 : decode cX7_slack 70 = .ok (.ireturn, 1) := by decide +kernel
theorem dX7_slack_71 : decode cX7_slack 71 = .ok (.iinc 3 1, 3) := by decide +kernel
theorem dX7_slack_74 : decode cX7_slack 74 = .ok (.goto (-46), 3) := by decide +kernel
theorem dX7_slack_77 : decode cX7_slack 77 = .ok (.bipush (-2), 2) := by decide +kernel
theorem dX7_slack_79 : decode cX7_slack 79 = .ok (.ireturn, 1) := by decide +kernel
theorem dX7_snap_0 : decode cX7_snap 0 = .ok (.aload_n 0, 1) := by decide +kernel
theorem dX7_snap_1 : decode cX7_snap 1 = .ok (.getfield 163, 3) := by decide +kernel
theorem dX7_snap_4 : decode cX7_snap 4 = .ok (.bipush 10, 2) := by decide +kernel
theorem dX7_snap_6 : decode cX7_snap 6 = .ok (.if_icmp .ne 44, 3) := by decide +kernel
theorem dX7_snap_9 : decode cX7_snap 9 = .ok (.iconst 0, 1) := by decide +kernel
theorem dX7_snap_10 : decode cX7_snap 10 = .ok (.istore_n 1, 1) := by decide +kernel
theorem dX7_snap_11 : decode cX7_snap 11 = .ok (.iload_n 1, 1) := by decide +kernel
theorem dX7_snap_12 : decode cX7_snap 12 = .ok (.sipush 11997, 3) := by decide +kernel
theorem dX7_snap_15 : decode cX7_snap 15 = .ok (.if_icmp .ge 25, 3) := by decide +kernel
theorem dX7_snap_18 : decode cX7_snap 18 = .ok (.aload_n 0, 1) := by decide +kernel
theorem dX7_snap_19 : decode cX7_snap 19 = .ok (.getfield 70, 3) := by decide +kernel
theorem dX7_snap_22 : decode cX7_snap 22 = .ok (.iload_n 1, 1) := by decide +kernel
theorem dX7_snap_23 : decode cX7_snap 23 = .ok (.aload_n 0, 1) := by decide +kernel
theorem dX7_snap_24 : decode cX7_snap 24 = .ok (.getfield 70, 3) := by decide +kernel
theorem dX7_snap_27 : decode cX7_snap 27 = .ok (.iload_n 1, 1) := by decide +kernel
theorem dX7_snap_28 : decode cX7_snap 28 = .ok (.sipush 1333, 3) := by decide +kernel
theorem dX7_snap_31 : decode cX7_snap 31 = .ok (.iadd, 1) := by decide +kernel
theorem dX7_snap_32 : decode cX7_snap 32 = .ok (.iaload, 1) := by decide +kernel
theorem dX7_snap_33 : decode cX7_snap 33 = .ok (.iastore, 1) := by decide +kernel
theorem dX7_snap_34 : decode cX7_snap 34 = .ok (.iinc 1 1, 3) := by decide +kernel
theorem dX7_snap_37 : decode cX7_snap 37 = .ok (.goto (-26), 3) := by decide +kernel
theorem dX7_snap_40 : decode cX7_snap 40 = .ok (.aload_n 0, 1) := by decide +kernel
theorem dX7_snap_41 : decode cX7_snap 41 = .ok (.dup, 1) := by decide +kernel
theorem dX7_snap_42 : decode cX7_snap 42 = .ok (.getfield 163, 3) := by decide +kernel
theorem dX7_snap_45 : decode cX7_snap 45 = .ok (.iconst 1, 1) := by decide +kernel
theorem dX7_snap_46 : decode cX7_snap 46 = .ok (.isub, 1) := by decide +kernel
theorem dX7_snap_47 : decode cX7_snap 47 = .ok (.putfield 163, 3) := by decide +kernel
theorem dX7_snap_50 : decode cX7_snap 50 = .ok (.iconst 0, 1) := by decide +kernel
theorem dX7_snap_51 : decode cX7_snap 51 = .ok (.istore_n 1, 1) := by decide +kernel
theorem dX7_snap_52 : decode cX7_snap 52 = .ok (.iload_n 1, 1) := by decide +kernel
theorem dX7_snap_53 : decode cX7_snap 53 = .ok (.sipush 1333, 3) := by decide +kernel
theorem dX7_snap_56 : decode cX7_snap 56 = .ok (.if_icmp .ge 30, 3) := by decide +kernel
theorem dX7_snap_59 : decode cX7_snap 59 = .ok (.aload_n 0, 1) := by decide +kernel
theorem dX7_snap_60 : decode cX7_snap 60 = .ok (.getfield 70, 3) := by decide +kernel
theorem dX7_snap_63 : decode cX7_snap 63 = .ok (.sipush 1333, 3) := by decide +kernel
theorem dX7_snap_66 : decode cX7_snap 66 = .ok (.aload_n 0, 1) := by decide +kernel
theorem dX7_snap_67 : decode cX7_snap 67 = .ok (.getfield 163, 3) := by decide +kernel
theorem dX7_snap_70 : decode cX7_snap 70 = .ok (.imul, 1) := by decide +kernel
theorem dX7_snap_71 : decode cX7_snap 71 = .ok (.iload_n 1, 1) := by decide +kernel
theorem dX7_snap_72 : decode cX7_snap 72 = .ok (.iadd, 1) := by decide +kernel
theorem dX7_snap_73 : decode cX7_snap 73 = .ok (.aload_n 0, 1) := by decide +kernel
theorem dX7_snap_74 : decode cX7_snap 74 = .ok (.getfield 64, 3) := by decide +kernel
theorem dX7_snap_77 : decode cX7_snap 77 = .ok (.iload_n 1, 1) := by decide +kernel
theorem dX7_snap_78 : decode cX7_snap 78 = .ok (.iaload, 1) := by decide +kernel
theorem dX7_snap_79 : decode cX7_snap 79 = .ok (.iastore, 1) := by decide +kernel
theorem dX7_snap_80 : decode cX7_snap 80 = .ok (.iinc 1 1, 3) := by decide +kernel
theorem dX7_snap_83 : decode cX7_snap 83 = .ok (.goto (-31), 3) := by decide +kernel
theorem dX7_snap_86 : decode cX7_snap 86 = .ok (.aload_n 0, 1) := by decide +kernel
theorem dX7_snap_87 : decode cX7_snap 87 = .ok (.dup, 1) := by decide +kernel
theorem dX7_snap_88 : decode cX7_snap 88 = .ok (.getfield 163, 3) := by decide +kernel
theorem dX7_snap_91 : decode cX7_snap 91 = .ok (.iconst 1, 1) := by decide +kernel
theorem dX7_snap_92 : decode cX7_snap 92 = .ok (.iadd, 1) := by decide +kernel
theorem dX7_snap_93 : decode cX7_snap 93 = .ok (.putfield 163, 3) := by decide +kernel
theorem dX7_snap_96 : decode cX7_snap 96 = .ok (.return_, 1) := by decide +kernel
theorem dX7_comes_0 : decode cX7_comes 0 = .ok (.aload_n 0, 1) := by decide +kernel
theorem dX7_comes_1 : decode cX7_comes 1 = .ok (.iconst 0, 1) := by decide +kernel
theorem dX7_comes_2 : decode cX7_comes 2 = .ok (.putfield 1, 3) := by decide +kernel
theorem dX7_comes_5 : decode cX7_comes 5 = .ok (.aload_n 0, 1) := by decide +kernel
theorem dX7_comes_6 : decode cX7_comes 6 = .ok (.iload_n 1, 1) := by decide +kernel
theorem dX7_comes_7 : decode cX7_comes 7 = .ok (.invokevirtual 214, 3) := by decide +kernel
theorem dX7_comes_10 : decode cX7_comes 10 = .ok (.ifCond .eq 43, 3) := by decide +kernel
theorem dX7_comes_13 : decode cX7_comes 13 = .ok (.iload_n 2, 1) := by decide +kernel
theorem dX7_comes_14 : decode cX7_comes 14 = .ok (.aload_n 0, 1) := by decide +kernel
theorem dX7_comes_15 : decode cX7_comes 15 = .ok (.invokevirtual 192, 3) := by decide +kernel
theorem dX7_comes_18 : decode cX7_comes 18 = .ok (.aload_n 0, 1) := by decide +kernel
theorem dX7_comes_19 : decode cX7_comes 19 = .ok (.invokevirtual 192, 3) := by decide +kernel
theorem dX7_comes_22 : decode cX7_comes 22 = .ok (.bipush 99, 2) := by decide +kernel
theorem dX7_comes_24 : decode cX7_comes 24 = .ok (.iadd, 1) := by decide +kernel
theorem dX7_comes_25 : decode cX7_comes 25 = .ok (.invokestatic 101, 3) := by decide +kernel
theorem dX7_comes_28 : decode cX7_comes 28 = .ok (.ifCond .eq 25, 3) := by decide +kernel
theorem dX7_comes_31 : decode cX7_comes 31 = .ok (.iload_n 3, 1) := by decide +kernel
theorem dX7_comes_32 : decode cX7_comes 32 = .ok (.iconst 1, 1) := by decide +kernel
theorem dX7_comes_33 : decode cX7_comes 33 = .ok (.bipush 99, 2) := by decide +kernel
theorem dX7_comes_35 : decode cX7_comes 35 = .ok (.invokestatic 101, 3) := by decide +kernel
theorem dX7_comes_38 : decode cX7_comes 38 = .ok (.ifCond .eq 15, 3) := by decide +kernel
theorem dX7_comes_41 : decode cX7_comes 41 = .ok (.iload 4, 2) := by decide +kernel
theorem dX7_comes_43 : decode cX7_comes 43 = .ok (.iconst 0, 1) := by decide +kernel
theorem dX7_comes_44 : decode cX7_comes 44 = .ok (.sipush 999, 3) := by decide +kernel
theorem dX7_comes_47 : decode cX7_comes 47 = .ok (.invokestatic 101, 3) := by decide +kernel
theorem dX7_comes_50 : decode cX7_comes 50 = .ok (.ifCond .ne 5, 3) := by decide +kernel
theorem dX7_comes_53 : decode cX7_comes 53 = .ok (.iconst (-1), 1) := by decide +kernel
theorem dX7_comes_54 : decode cX7_comes 54 = .ok (.ireturn, 1) := by decide +kernel
theorem dX7_comes_55 : decode cX7_comes 55 = .ok (.aload_n 0, 1) := by decide +kernel
theorem dX7_comes_56 : decode cX7_comes 56 = .ok (.getfield 64, 3) := by decide +kernel
theorem dX7_comes_59 : decode cX7_comes 59 = .ok (.iconst 3, 1) := by decide +kernel
theorem dX7_comes_60 : decode cX7_comes 60 = .ok (.iaload, 1) := by decide +kernel
theorem dX7_comes_61 : decode cX7_comes 61 = .ok (.bipush 24, 2) := by decide +kernel
theorem dX7_comes_63 : decode cX7_comes 63 = .ok (.if_icmp .ne 6, 3) := by decide +kernel
theorem dX7_comes_66 : decode cX7_comes 66 = .ok (.bipush (-2), 2) := by decide +kernel
theorem dX7_comes_68 : decode cX7_comes 68 = .ok (.ireturn, 1) := by decide +kernel
theorem dX7_comes_69 : decode cX7_comes 69 = .ok (.aload_n 0, 1) := by decide +kernel
theorem dX7_comes_70 : decode cX7_comes 70 = .ok (.invokevirtual 299, 3) := by decide +kernel
theorem dX7_comes_73 : decode cX7_comes 73 = .ok (.bipush 37, 2) := by decide +kernel
theorem dX7_comes_75 : decode cX7_comes 75 = .ok (.iconst 4, 1) := by decide +kernel
theorem dX7_comes_76 : decode cX7_comes 76 = .ok (.aload_n 0, 1) := by decide +kernel
theorem dX7_comes_77 : decode cX7_comes 77 = .ok (.getfield 64, 3) := by decide +kernel
theorem dX7_comes_80 : decode cX7_comes 80 = .ok (.iconst 3, 1) := by decide +kernel
theorem dX7_comes_81 : decode cX7_comes 81 = .ok (.iaload, 1) := by decide +kernel
theorem dX7_comes_82 : decode cX7_comes 82 = .ok (.imul, 1) := by decide +kernel
theorem dX7_comes_83 : decode cX7_comes 83 = .ok (.iadd, 1) := by decide +kernel
theorem dX7_comes_84 : decode cX7_comes 84 = .ok (.istore 5, 2) := by decide +kernel
theorem dX7_comes_86 : decode cX7_comes 86 = .ok (.aload_n 0, 1) := by decide +kernel
theorem dX7_comes_87 : decode cX7_comes 87 = .ok (.getfield 64, 3) := by decide +kernel
theorem dX7_comes_90 : decode cX7_comes 90 = .ok (.iload 5, 2) := by decide +kernel
theorem dX7_comes_92 : decode cX7_comes 92 = .ok (.iconst 0, 1) := by decide +kernel
theorem dX7_comes_93 : decode cX7_comes 93 = .ok (.iadd, 1) := by decide +kernel
theorem dX7_comes_94 : decode cX7_comes 94 = .ok (.iload_n 1, 1) := by decide +kernel
theorem dX7_comes_95 : decode cX7_comes 95 = .ok (.iastore, 1) := by decide +kernel
theorem dX7_comes_96 : decode cX7_comes 96 = .ok (.aload_n 0, 1) := by decide +kernel
theorem dX7_comes_97 : decode cX7_comes 97 = .ok (.getfield 64, 3) := by decide +kernel
theorem dX7_comes_100 : decode cX7_comes 100 = .ok (.iload 5, 2) := by decide +kernel
theorem dX7_comes_102 : decode cX7_comes 102 = .ok (.iconst 1, 1) := by decide +kernel
theorem dX7_comes_103 : decode cX7_comes 103 = .ok (.iadd, 1) := by decide +kernel
theorem dX7_comes_104 : decode cX7_comes 104 = .ok (.iload_n 2, 1) := by decide +kernel
theorem dX7_comes_105 : decode cX7_comes 105 = .ok (.iastore, 1) := by decide +kernel
theorem dX7_comes_106 : decode cX7_comes 106 = .ok (.aload_n 0, 1) := by decide +kernel
theorem dX7_comes_107 : decode cX7_comes 107 = .ok (.getfield 64, 3) := by decide +kernel
theorem dX7_comes_110 : decode cX7_comes 110 = .ok (.iload 5, 2) := by decide +kernel
theorem dX7_comes_112 : decode cX7_comes 112 = .ok (.iconst 2, 1) := by decide +kernel
theorem dX7_comes_113 : decode cX7_comes 113 = .ok (.iadd, 1) := by decide +kernel
theorem dX7_comes_114 : decode cX7_comes 114 = .ok (.iload_n 3, 1) := by decide +kernel
theorem dX7_comes_115 : decode cX7_comes 115 = .ok (.iastore, 1) := by decide +kernel
theorem dX7_comes_116 : decode cX7_comes 116 = .ok (.aload_n 0, 1) := by decide +kernel
theorem dX7_comes_117 : decode cX7_comes 117 = .ok (.getfield 64, 3) := by decide +kernel
theorem dX7_comes_120 : decode cX7_comes 120 = .ok (.iload 5, 2) := by decide +kernel
theorem dX7_comes_122 : decode cX7_comes 122 = .ok (.iconst 3, 1) := by decide +kernel
theorem dX7_comes_123 : decode cX7_comes 123 = .ok (.iadd, 1) := by decide +kernel
theorem dX7_comes_124 : decode cX7_comes 124 = .ok (.iload 4, 2) := by decide +kernel
theorem dX7_comes_126 : decode cX7_comes 126 = .ok (.iastore, 1) := by decide +kernel
theorem dX7_comes_127 : decode cX7_comes 127 = .ok (.aload_n 0, 1) := by decide +kernel
theorem dX7_comes_128 : decode cX7_comes 128 = .ok (.getfield 64, 3) := by decide +kernel
theorem dX7_comes_131 : decode cX7_comes 131 = .ok (.iconst 3, 1) := by decide +kernel
theorem dX7_comes_132 : decode cX7_comes 132 = .ok (.dup2, 1) := by decide +kernel
theorem dX7_comes_133 : decode cX7_comes 133 = .ok (.iaload, 1) := by decide +kernel
theorem dX7_comes_134 : decode cX7_comes 134 = .ok (.iconst 1, 1) := by decide +kernel
theorem dX7_comes_135 : decode cX7_comes 135 = .ok (.iadd, 1) := by decide +kernel
theorem dX7_comes_136 : decode cX7_comes 136 = .ok (.iastore, 1) := by decide +kernel
theorem dX7_comes_137 : decode cX7_comes 137 = .ok (.aload_n 0, 1) := by decide +kernel
theorem dX7_comes_138 : decode cX7_comes 138 = .ok (.getfield 64, 3) := by decide +kernel
theorem dX7_comes_141 : decode cX7_comes 141 = .ok (.iconst 3, 1) := by decide +kernel
theorem dX7_comes_142 : decode cX7_comes 142 = .ok (.iaload, 1) := by decide +kernel
theorem dX7_comes_143 : decode cX7_comes 143 = .ok (.iconst 1, 1) := by decide +kernel
theorem dX7_comes_144 : decode cX7_comes 144 = .ok (.isub, 1) := by decide +kernel
theorem dX7_comes_145 : decode cX7_comes 145 = .ok (.ireturn, 1) := by decide +kernel
theorem dX7_asks_0 : decode cX7_asks 0 = .ok (.aload_n 0, 1) := by decide +kernel
theorem dX7_asks_1 : decode cX7_asks 1 = .ok (.iconst 0, 1) := by decide +kernel
theorem dX7_asks_2 : decode cX7_asks 2 = .ok (.putfield 1, 3) := by decide +kernel
theorem dX7_asks_5 : decode cX7_asks 5 = .ok (.aload_n 0, 1) := by decide +kernel
theorem dX7_asks_6 : decode cX7_asks 6 = .ok (.iload_n 1, 1) := by decide +kernel
theorem dX7_asks_7 : decode cX7_asks 7 = .ok (.iload_n 2, 1) := by decide +kernel
theorem dX7_asks_8 : decode cX7_asks 8 = .ok (.iload_n 3, 1) := by decide +kernel
theorem dX7_asks_9 : decode cX7_asks 9 = .ok (.iload 4, 2) := by decide +kernel
theorem dX7_asks_11 : decode cX7_asks 11 = .ok (.invokevirtual 295, 3) := by decide +kernel
theorem dX7_asks_14 : decode cX7_asks 14 = .ok (.ifCond .ne 5, 3) := by decide +kernel
theorem dX7_asks_17 : decode cX7_asks 17 = .ok (.iconst (-1), 1) := by decide +kernel
theorem dX7_asks_18 : decode cX7_asks 18 = .ok (.ireturn, 1) := by decide +kernel
theorem dX7_asks_19 : decode cX7_asks 19 = .ok (.aload_n 0, 1) := by decide +kernel
theorem dX7_asks_20 : decode cX7_asks 20 = .ok (.aload_n 0, 1) := by decide +kernel
theorem dX7_asks_21 : decode cX7_asks 21 = .ok (.getfield 64, 3) := by decide +kernel
theorem dX7_asks_24 : decode cX7_asks 24 = .ok (.iload_n 1, 1) := by decide +kernel
theorem dX7_asks_25 : decode cX7_asks 25 = .ok (.iload_n 2, 1) := by decide +kernel
theorem dX7_asks_26 : decode cX7_asks 26 = .ok (.invokevirtual 129, 3) := by decide +kernel
theorem dX7_asks_29 : decode cX7_asks 29 = .ok (.ifCond .eq 6, 3) := by decide +kernel
theorem dX7_asks_32 : decode cX7_asks 32 = .ok (.bipush (-2), 2) := by decide +kernel
theorem dX7_asks_34 : decode cX7_asks 34 = .ok (.ireturn, 1) := by decide +kernel
theorem dX7_asks_35 : decode cX7_asks 35 = .ok (.aload_n 0, 1) := by decide +kernel
theorem dX7_asks_36 : decode cX7_asks 36 = .ok (.getfield 64, 3) := by decide +kernel
theorem dX7_asks_39 : decode cX7_asks 39 = .ok (.iconst 4, 1) := by decide +kernel
theorem dX7_asks_40 : decode cX7_asks 40 = .ok (.iaload, 1) := by decide +kernel
theorem dX7_asks_41 : decode cX7_asks 41 = .ok (.bipush 40, 2) := by decide +kernel
theorem dX7_asks_43 : decode cX7_asks 43 = .ok (.if_icmp .ne 6, 3) := by decide +kernel
theorem dX7_asks_46 : decode cX7_asks 46 = .ok (.bipush (-3), 2) := by decide +kernel
theorem dX7_asks_48 : decode cX7_asks 48 = .ok (.ireturn, 1) := by decide +kernel
theorem dX7_asks_49 : decode cX7_asks 49 = .ok (.aload_n 0, 1) := by decide +kernel
theorem dX7_asks_50 : decode cX7_asks 50 = .ok (.invokevirtual 299, 3) := by decide +kernel
theorem dX7_asks_53 : decode cX7_asks 53 = .ok (.sipush 133, 3) := by decide +kernel
theorem dX7_asks_56 : decode cX7_asks 56 = .ok (.bipush 6, 2) := by decide +kernel
theorem dX7_asks_58 : decode cX7_asks 58 = .ok (.aload_n 0, 1) := by decide +kernel
theorem dX7_asks_59 : decode cX7_asks 59 = .ok (.getfield 64, 3) := by decide +kernel
theorem dX7_asks_62 : decode cX7_asks 62 = .ok (.iconst 4, 1) := by decide +kernel
theorem dX7_asks_63 : decode cX7_asks 63 = .ok (.iaload, 1) := by decide +kernel
theorem dX7_asks_64 : decode cX7_asks 64 = .ok (.imul, 1) := by decide +kernel
theorem dX7_asks_65 : decode cX7_asks 65 = .ok (.iadd, 1) := by decide +kernel
theorem dX7_asks_66 : decode cX7_asks 66 = .ok (.istore 5, 2) := by decide +kernel
theorem dX7_asks_68 : decode cX7_asks 68 = .ok (.aload_n 0, 1) := by decide +kernel
theorem dX7_asks_69 : decode cX7_asks 69 = .ok (.getfield 64, 3) := by decide +kernel
theorem dX7_asks_72 : decode cX7_asks 72 = .ok (.iload 5, 2) := by decide +kernel
theorem dX7_asks_74 : decode cX7_asks 74 = .ok (.iconst 0, 1) := by decide +kernel
theorem dX7_asks_75 : decode cX7_asks 75 = .ok (.iadd, 1) := by decide +kernel
theorem dX7_asks_76 : decode cX7_asks 76 = .ok (.iload_n 1, 1) := by decide +kernel
theorem dX7_asks_77 : decode cX7_asks 77 = .ok (.iastore, 1) := by decide +kernel
theorem dX7_asks_78 : decode cX7_asks 78 = .ok (.aload_n 0, 1) := by decide +kernel
theorem dX7_asks_79 : decode cX7_asks 79 = .ok (.getfield 64, 3) := by decide +kernel
theorem dX7_asks_82 : decode cX7_asks 82 = .ok (.iload 5, 2) := by decide +kernel
theorem dX7_asks_84 : decode cX7_asks 84 = .ok (.iconst 1, 1) := by decide +kernel
theorem dX7_asks_85 : decode cX7_asks 85 = .ok (.iadd, 1) := by decide +kernel
theorem dX7_asks_86 : decode cX7_asks 86 = .ok (.iload_n 2, 1) := by decide +kernel
theorem dX7_asks_87 : decode cX7_asks 87 = .ok (.iastore, 1) := by decide +kernel
theorem dX7_asks_88 : decode cX7_asks 88 = .ok (.aload_n 0, 1) := by decide +kernel
theorem dX7_asks_89 : decode cX7_asks 89 = .ok (.getfield 64, 3) := by decide +kernel
theorem dX7_asks_92 : decode cX7_asks 92 = .ok (.iload 5, 2) := by decide +kernel
theorem dX7_asks_94 : decode cX7_asks 94 = .ok (.iconst 2, 1) := by decide +kernel
theorem dX7_asks_95 : decode cX7_asks 95 = .ok (.iadd, 1) := by decide +kernel
theorem dX7_asks_96 : decode cX7_asks 96 = .ok (.iload_n 3, 1) := by decide +kernel
theorem dX7_asks_97 : decode cX7_asks 97 = .ok (.iastore, 1) := by decide +kernel
theorem dX7_asks_98 : decode cX7_asks 98 = .ok (.aload_n 0, 1) := by decide +kernel
theorem dX7_asks_99 : decode cX7_asks 99 = .ok (.getfield 64, 3) := by decide +kernel
theorem dX7_asks_102 : decode cX7_asks 102 = .ok (.iload 5, 2) := by decide +kernel
theorem dX7_asks_104 : decode cX7_asks 104 = .ok (.iconst 3, 1) := by decide +kernel
theorem dX7_asks_105 : decode cX7_asks 105 = .ok (.iadd, 1) := by decide +kernel
theorem dX7_asks_106 : decode cX7_asks 106 = .ok (.iload 4, 2) := by decide +kernel
theorem dX7_asks_108 : decode cX7_asks 108 = .ok (.iastore, 1) := by decide +kernel
theorem dX7_asks_109 : decode cX7_asks 109 = .ok (.aload_n 0, 1) := by decide +kernel
theorem dX7_asks_110 : decode cX7_asks 110 = .ok (.getfield 64, 3) := by decide +kernel
theorem dX7_asks_113 : decode cX7_asks 113 = .ok (.iload 5, 2) := by decide +kernel
theorem dX7_asks_115 : decode cX7_asks 115 = .ok (.iconst 4, 1) := by decide +kernel
theorem dX7_asks_116 : decode cX7_asks 116 = .ok (.iadd, 1) := by decide +kernel
theorem dX7_asks_117 : decode cX7_asks 117 = .ok (.iconst 0, 1) := by decide +kernel
theorem dX7_asks_118 : decode cX7_asks 118 = .ok (.iastore, 1) := by decide +kernel
theorem dX7_asks_119 : decode cX7_asks 119 = .ok (.aload_n 0, 1) := by decide +kernel
theorem dX7_asks_120 : decode cX7_asks 120 = .ok (.getfield 64, 3) := by decide +kernel
theorem dX7_asks_123 : decode cX7_asks 123 = .ok (.iload 5, 2) := by decide +kernel
theorem dX7_asks_125 : decode cX7_asks 125 = .ok (.iconst 5, 1) := by decide +kernel
theorem dX7_asks_126 : decode cX7_asks 126 = .ok (.iadd, 1) := by decide +kernel
theorem dX7_asks_127 : decode cX7_asks 127 = .ok (.iconst 0, 1) := by decide +kernel
theorem dX7_asks_128 : decode cX7_asks 128 = .ok (.iastore, 1) := by decide +kernel
theorem dX7_asks_129 : decode cX7_asks 129 = .ok (.aload_n 0, 1) := by decide +kernel
theorem dX7_asks_130 : decode cX7_asks 130 = .ok (.getfield 64, 3) := by decide +kernel
theorem dX7_asks_133 : decode cX7_asks 133 = .ok (.iconst 4, 1) := by decide +kernel
theorem dX7_asks_134 : decode cX7_asks 134 = .ok (.dup2, 1) := by decide +kernel
theorem dX7_asks_135 : decode cX7_asks 135 = .ok (.iaload, 1) := by decide +kernel
theorem dX7_asks_136 : decode cX7_asks 136 = .ok (.iconst 1, 1) := by decide +kernel
theorem dX7_asks_137 : decode cX7_asks 137 = .ok (.iadd, 1) := by decide +kernel
theorem dX7_asks_138 : decode cX7_asks 138 = .ok (.iastore, 1) := by decide +kernel
theorem dX7_asks_139 : decode cX7_asks 139 = .ok (.aload_n 0, 1) := by decide +kernel
theorem dX7_asks_140 : decode cX7_asks 140 = .ok (.getfield 64, 3) := by decide +kernel
theorem dX7_asks_143 : decode cX7_asks 143 = .ok (.iconst 4, 1) := by decide +kernel
theorem dX7_asks_144 : decode cX7_asks 144 = .ok (.iaload, 1) := by decide +kernel
theorem dX7_asks_145 : decode cX7_asks 145 = .ok (.iconst 1, 1) := by decide +kernel
theorem dX7_asks_146 : decode cX7_asks 146 = .ok (.isub, 1) := by decide +kernel
theorem dX7_asks_147 : decode cX7_asks 147 = .ok (.ireturn, 1) := by decide +kernel
theorem dX7_reserve_0 : decode cX7_reserve 0 = .ok (.aload_n 0, 1) := by decide +kernel
theorem dX7_reserve_1 : decode cX7_reserve 1 = .ok (.iconst 0, 1) := by decide +kernel
theorem dX7_reserve_2 : decode cX7_reserve 2 = .ok (.putfield 1, 3) := by decide +kernel
theorem dX7_reserve_5 : decode cX7_reserve 5 = .ok (.aload_n 0, 1) := by decide +kernel
theorem dX7_reserve_6 : decode cX7_reserve 6 = .ok (.iload_n 1, 1) := by decide +kernel
theorem dX7_reserve_7 : decode cX7_reserve 7 = .ok (.invokevirtual 214, 3) := by decide +kernel
theorem dX7_reserve_10 : decode cX7_reserve 10 = .ok (.ifCond .ne 5, 3) := by decide +kernel
theorem dX7_reserve_13 : decode cX7_reserve 13 = .ok (.iconst (-1), 1) := by decide +kernel
theorem dX7_reserve_14 : decode cX7_reserve 14 = .ok (.ireturn, 1) := by decide +kernel
theorem dX7_reserve_15 : decode cX7_reserve 15 = .ok (.aload_n 0, 1) := by decide +kernel
theorem dX7_reserve_16 : decode cX7_reserve 16 = .ok (.iload_n 1, 1) := by decide +kernel
theorem dX7_reserve_17 : decode cX7_reserve 17 = .ok (.invokevirtual 283, 3) := by decide +kernel
theorem dX7_reserve_20 : decode cX7_reserve 20 = .ok (.aload_n 0, 1) := by decide +kernel
theorem dX7_reserve_21 : decode cX7_reserve 21 = .ok (.invokevirtual 299, 3) := by decide +kernel
theorem dX7_reserve_24 : decode cX7_reserve 24 = .ok (.iconst 0, 1) := by decide +kernel
theorem dX7_reserve_25 : decode cX7_reserve 25 = .ok (.istore_n 2, 1) := by decide +kernel
theorem dX7_reserve_26 : decode cX7_reserve 26 = .ok (.iconst 0, 1) := by decide +kernel
theorem dX7_reserve_27 : decode cX7_reserve 27 = .ok (.istore_n 3, 1) := by decide +kernel
theorem dX7_reserve_28 : decode cX7_reserve 28 = .ok (.iload_n 3, 1) := by decide +kernel
theorem dX7_reserve_29 : decode cX7_reserve 29 = .ok (.aload_n 0, 1) := by decide +kernel
theorem dX7_reserve_30 : decode cX7_reserve 30 = .ok (.getfield 224, 3) := by decide +kernel
theorem dX7_reserve_33 : decode cX7_reserve 33 = .ok (.if_icmp .ge 98, 3) := by decide +kernel
theorem dX7_reserve_36 : decode cX7_reserve 36 = .ok (.iconst 0, 1) := by decide +kernel
theorem dX7_reserve_37 : decode cX7_reserve 37 = .ok (.istore 4, 2) := by decide +kernel
theorem dX7_reserve_39 : decode cX7_reserve 39 = .ok (.iload 4, 2) := by decide +kernel
theorem dX7_reserve_41 : decode cX7_reserve 41 = .ok (.aload_n 0, 1) := by decide +kernel
theorem dX7_reserve_42 : decode cX7_reserve 42 = .ok (.getfield 221, 3) := by decide +kernel
theorem dX7_reserve_45 : decode cX7_reserve 45 = .ok (.if_icmp .ge 80, 3) := by decide +kernel
theorem dX7_reserve_48 : decode cX7_reserve 48 = .ok (.sipush 373, 3) := by decide +kernel
theorem dX7_reserve_51 : decode cX7_reserve 51 = .ok (.bipush 40, 2) := by decide +kernel
theorem dX7_reserve_53 : decode cX7_reserve 53 = .ok (.aload_n 0, 1) := by decide +kernel
theorem dX7_reserve_54 : decode cX7_reserve 54 = .ok (.getfield 76, 3) := by decide +kernel
theorem dX7_reserve_57 : decode cX7_reserve 57 = .ok (.iload_n 3, 1) := by decide +kernel
theorem dX7_reserve_58 : decode cX7_reserve 58 = .ok (.iaload, 1) := by decide +kernel
theorem dX7_reserve_59 : decode cX7_reserve 59 = .ok (.imul, 1) := by decide +kernel
theorem dX7_reserve_60 : decode cX7_reserve 60 = .ok (.iadd, 1) := by decide +kernel
theorem dX7_reserve_61 : decode cX7_reserve 61 = .ok (.aload_n 0, 1) := by decide +kernel
theorem dX7_reserve_62 : decode cX7_reserve 62 = .ok (.getfield 73, 3) := by decide +kernel
theorem dX7_reserve_65 : decode cX7_reserve 65 = .ok (.iload 4, 2) := by decide +kernel
theorem dX7_reserve_67 : decode cX7_reserve 67 = .ok (.iaload, 1) := by decide +kernel
theorem dX7_reserve_68 : decode cX7_reserve 68 = .ok (.iadd, 1) := by decide +kernel
theorem dX7_reserve_69 : decode cX7_reserve 69 = .ok (.istore 5, 2) := by decide +kernel
theorem dX7_reserve_71 : decode cX7_reserve 71 = .ok (.aload_n 0, 1) := by decide +kernel
theorem dX7_reserve_72 : decode cX7_reserve 72 = .ok (.getfield 82, 3) := by decide +kernel
theorem dX7_reserve_75 : decode cX7_reserve 75 = .ok (.bipush 8, 2) := by decide +kernel
theorem dX7_reserve_77 : decode cX7_reserve 77 = .ok (.iload_n 3, 1) := by decide +kernel
theorem dX7_reserve_78 : decode cX7_reserve 78 = .ok (.imul, 1) := by decide +kernel
theorem dX7_reserve_79 : decode cX7_reserve 79 = .ok (.iload 4, 2) := by decide +kernel
theorem dX7_reserve_81 : decode cX7_reserve 81 = .ok (.iadd, 1) := by decide +kernel
theorem dX7_reserve_82 : decode cX7_reserve 82 = .ok (.iaload, 1) := by decide +kernel
theorem dX7_reserve_83 : decode cX7_reserve 83 = .ok (.istore 6, 2) := by decide +kernel
theorem dX7_reserve_85 : decode cX7_reserve 85 = .ok (.aload_n 0, 1) := by decide +kernel
theorem dX7_reserve_86 : decode cX7_reserve 86 = .ok (.getfield 64, 3) := by decide +kernel
theorem dX7_reserve_89 : decode cX7_reserve 89 = .ok (.iload 5, 2) := by decide +kernel
theorem dX7_reserve_91 : decode cX7_reserve 91 = .ok (.iaload, 1) := by decide +kernel
theorem dX7_reserve_92 : decode cX7_reserve 92 = .ok (.iload 6, 2) := by decide +kernel
theorem dX7_reserve_94 : decode cX7_reserve 94 = .ok (.if_icmp .le 16, 3) := by decide +kernel
theorem dX7_reserve_97 : decode cX7_reserve 97 = .ok (.iload_n 2, 1) := by decide +kernel
theorem dX7_reserve_98 : decode cX7_reserve 98 = .ok (.aload_n 0, 1) := by decide +kernel
theorem dX7_reserve_99 : decode cX7_reserve 99 = .ok (.getfield 64, 3) := by decide +kernel
theorem dX7_reserve_102 : decode cX7_reserve 102 = .ok (.iload 5, 2) := by decide +kernel
theorem dX7_reserve_104 : decode cX7_reserve 104 = .ok (.iaload, 1) := by decide +kernel
theorem dX7_reserve_105 : decode cX7_reserve 105 = .ok (.iload 6, 2) := by decide +kernel
theorem dX7_reserve_107 : decode cX7_reserve 107 = .ok (.isub, 1) := by decide +kernel
theorem dX7_reserve_108 : decode cX7_reserve 108 = .ok (.iadd, 1) := by decide +kernel
theorem dX7_reserve_109 : decode cX7_reserve 109 = .ok (.istore_n 2, 1) := by decide +kernel
theorem dX7_reserve_110 : decode cX7_reserve 110 = .ok (.aload_n 0, 1) := by decide +kernel
theorem dX7_reserve_111 : decode cX7_reserve 111 = .ok (.getfield 64, 3) := by decide +kernel
theorem dX7_reserve_114 : decode cX7_reserve 114 = .ok (.iload 5, 2) := by decide +kernel
theorem dX7_reserve_116 : decode cX7_reserve 116 = .ok (.iload 6, 2) := by decide +kernel
theorem dX7_reserve_118 : decode cX7_reserve 118 = .ok (.iastore, 1) := by decide +kernel
theorem dX7_reserve_119 : decode cX7_reserve 119 = .ok (.iinc 4 1, 3) := by decide +kernel
theorem dX7_reserve_122 : decode cX7_reserve 122 = .ok (.goto (-83), 3) := by decide +kernel
theorem dX7_reserve_125 : decode cX7_reserve 125 = .ok (.iinc 3 1, 3) := by decide +kernel
theorem dX7_reserve_128 : decode cX7_reserve 128 = .ok (.goto (-100), 3) := by decide +kernel
theorem dX7_reserve_131 : decode cX7_reserve 131 = .ok (.iload_n 2, 1) := by decide +kernel
theorem dX7_reserve_132 : decode cX7_reserve 132 = .ok (.ireturn, 1) := by decide +kernel
theorem dX7_frees_0 : decode cX7_frees 0 = .ok (.aload_n 0, 1) := by decide +kernel
theorem dX7_frees_1 : decode cX7_frees 1 = .ok (.iload_n 1, 1) := by decide +kernel
theorem dX7_frees_2 : decode cX7_frees 2 = .ok (.invokevirtual 208, 3) := by decide +kernel
theorem dX7_frees_5 : decode cX7_frees 5 = .ok (.istore_n 2, 1) := by decide +kernel
theorem dX7_frees_6 : decode cX7_frees 6 = .ok (.iconst 0, 1) := by decide +kernel
theorem dX7_frees_7 : decode cX7_frees 7 = .ok (.istore_n 3, 1) := by decide +kernel
theorem dX7_frees_8 : decode cX7_frees 8 = .ok (.iload_n 3, 1) := by decide +kernel
theorem dX7_frees_9 : decode cX7_frees 9 = .ok (.aload_n 0, 1) := by decide +kernel
theorem dX7_frees_10 : decode cX7_frees 10 = .ok (.getfield 64, 3) := by decide +kernel
theorem dX7_frees_13 : decode cX7_frees 13 = .ok (.iconst 3, 1) := by decide +kernel
theorem dX7_frees_14 : decode cX7_frees 14 = .ok (.iaload, 1) := by decide +kernel
theorem dX7_frees_15 : decode cX7_frees 15 = .ok (.if_icmp .ge 25, 3) := by decide +kernel
theorem dX7_frees_18 : decode cX7_frees 18 = .ok (.aload_n 0, 1) := by decide +kernel
theorem dX7_frees_19 : decode cX7_frees 19 = .ok (.getfield 64, 3) := by decide +kernel
theorem dX7_frees_22 : decode cX7_frees 22 = .ok (.sipush 373, 3) := by decide +kernel
theorem dX7_frees_25 : decode cX7_frees 25 = .ok (.bipush 40, 2) := by decide +kernel
theorem dX7_frees_27 : decode cX7_frees 27 = .ok (.iload_n 3, 1) := by decide +kernel
theorem dX7_frees_28 : decode cX7_frees 28 = .ok (.imul, 1) := by decide +kernel
theorem dX7_frees_29 : decode cX7_frees 29 = .ok (.iadd, 1) := by decide +kernel
theorem dX7_frees_30 : decode cX7_frees 30 = .ok (.iload_n 1, 1) := by decide +kernel
theorem dX7_frees_31 : decode cX7_frees 31 = .ok (.iadd, 1) := by decide +kernel
theorem dX7_frees_32 : decode cX7_frees 32 = .ok (.iconst 0, 1) := by decide +kernel
theorem dX7_frees_33 : decode cX7_frees 33 = .ok (.iastore, 1) := by decide +kernel
theorem dX7_frees_34 : decode cX7_frees 34 = .ok (.iinc 3 1, 3) := by decide +kernel
theorem dX7_frees_37 : decode cX7_frees 37 = .ok (.goto (-29), 3) := by decide +kernel
theorem dX7_frees_40 : decode cX7_frees 40 = .ok (.iload_n 2, 1) := by decide +kernel
theorem dX7_frees_41 : decode cX7_frees 41 = .ok (.ireturn, 1) := by decide +kernel
theorem dX7_cancel_0 : decode cX7_cancel 0 = .ok (.aload_n 0, 1) := by decide +kernel
theorem dX7_cancel_1 : decode cX7_cancel 1 = .ok (.iconst 0, 1) := by decide +kernel
theorem dX7_cancel_2 : decode cX7_cancel 2 = .ok (.putfield 1, 3) := by decide +kernel
theorem dX7_cancel_5 : decode cX7_cancel 5 = .ok (.aload_n 0, 1) := by decide +kernel
theorem dX7_cancel_6 : decode cX7_cancel 6 = .ok (.iload_n 1, 1) := by decide +kernel
theorem dX7_cancel_7 : decode cX7_cancel 7 = .ok (.invokevirtual 189, 3) := by decide +kernel
theorem dX7_cancel_10 : decode cX7_cancel 10 = .ok (.ifCond .ne 5, 3) := by decide +kernel
theorem dX7_cancel_13 : decode cX7_cancel 13 = .ok (.iconst (-1), 1) := by decide +kernel
theorem dX7_cancel_14 : decode cX7_cancel 14 = .ok (.ireturn, 1) := by decide +kernel
theorem dX7_cancel_15 : decode cX7_cancel 15 = .ok (.aload_n 0, 1) := by decide +kernel
theorem dX7_cancel_16 : decode cX7_cancel 16 = .ok (.invokevirtual 299, 3) := by decide +kernel
theorem dX7_cancel_19 : decode cX7_cancel 19 = .ok (.aload_n 0, 1) := by decide +kernel
theorem dX7_cancel_20 : decode cX7_cancel 20 = .ok (.getfield 64, 3) := by decide +kernel
theorem dX7_cancel_23 : decode cX7_cancel 23 = .ok (.sipush 133, 3) := by decide +kernel
theorem dX7_cancel_26 : decode cX7_cancel 26 = .ok (.bipush 6, 2) := by decide +kernel
theorem dX7_cancel_28 : decode cX7_cancel 28 = .ok (.iload_n 1, 1) := by decide +kernel
theorem dX7_cancel_29 : decode cX7_cancel 29 = .ok (.imul, 1) := by decide +kernel
theorem dX7_cancel_30 : decode cX7_cancel 30 = .ok (.iadd, 1) := by decide +kernel
theorem dX7_cancel_31 : decode cX7_cancel 31 = .ok (.iconst 4, 1) := by decide +kernel
theorem dX7_cancel_32 : decode cX7_cancel 32 = .ok (.iadd, 1) := by decide +kernel
theorem dX7_cancel_33 : decode cX7_cancel 33 = .ok (.iconst 2, 1) := by decide +kernel
theorem dX7_cancel_34 : decode cX7_cancel 34 = .ok (.iastore, 1) := by decide +kernel
theorem dX7_cancel_35 : decode cX7_cancel 35 = .ok (.aload_n 0, 1) := by decide +kernel
theorem dX7_cancel_36 : decode cX7_cancel 36 = .ok (.iload_n 1, 1) := by decide +kernel
theorem dX7_cancel_37 : decode cX7_cancel 37 = .ok (.invokevirtual 302, 3) := by decide +kernel
theorem dX7_cancel_40 : decode cX7_cancel 40 = .ok (.ireturn, 1) := by decide +kernel
theorem dX7_hold_0 : decode cX7_hold 0 = .ok (.aload_n 0, 1) := by decide +kernel
theorem dX7_hold_1 : decode cX7_hold 1 = .ok (.iconst 0, 1) := by decide +kernel
theorem dX7_hold_2 : decode cX7_hold 2 = .ok (.putfield 1, 3) := by decide +kernel
theorem dX7_hold_5 : decode cX7_hold 5 = .ok (.aload_n 0, 1) := by decide +kernel
theorem dX7_hold_6 : decode cX7_hold 6 = .ok (.iload_n 1, 1) := by decide +kernel
theorem dX7_hold_7 : decode cX7_hold 7 = .ok (.invokevirtual 202, 3) := by decide +kernel
theorem dX7_hold_10 : decode cX7_hold 10 = .ok (.ifCond .eq 14, 3) := by decide +kernel
theorem dX7_hold_13 : decode cX7_hold 13 = .ok (.iload_n 2, 1) := by decide +kernel
theorem dX7_hold_14 : decode cX7_hold 14 = .ok (.iconst 0, 1) := by decide +kernel
theorem dX7_hold_15 : decode cX7_hold 15 = .ok (.sipush 999, 3) := by decide +kernel
theorem dX7_hold_18 : decode cX7_hold 18 = .ok (.invokestatic 101, 3) := by decide +kernel
theorem dX7_hold_21 : decode cX7_hold 21 = .ok (.ifCond .ne 5, 3) := by decide +kernel
theorem dX7_hold_24 : decode cX7_hold 24 = .ok (.iconst (-1), 1) := by decide +kernel
theorem dX7_hold_25 : decode cX7_hold 25 = .ok (.ireturn, 1) := by decide +kernel
theorem dX7_hold_26 : decode cX7_hold 26 = .ok (.aload_n 0, 1) := by decide +kernel
theorem dX7_hold_27 : decode cX7_hold 27 = .ok (.invokevirtual 299, 3) := by decide +kernel
theorem dX7_hold_30 : decode cX7_hold 30 = .ok (.aload_n 0, 1) := by decide +kernel
theorem dX7_hold_31 : decode cX7_hold 31 = .ok (.getfield 64, 3) := by decide +kernel
theorem dX7_hold_34 : decode cX7_hold 34 = .ok (.bipush 37, 2) := by decide +kernel
theorem dX7_hold_36 : decode cX7_hold 36 = .ok (.iconst 4, 1) := by decide +kernel
theorem dX7_hold_37 : decode cX7_hold 37 = .ok (.iload_n 1, 1) := by decide +kernel
theorem dX7_hold_38 : decode cX7_hold 38 = .ok (.imul, 1) := by decide +kernel
theorem dX7_hold_39 : decode cX7_hold 39 = .ok (.iadd, 1) := by decide +kernel
theorem dX7_hold_40 : decode cX7_hold 40 = .ok (.iconst 3, 1) := by decide +kernel
theorem dX7_hold_41 : decode cX7_hold 41 = .ok (.iadd, 1) := by decide +kernel
theorem dX7_hold_42 : decode cX7_hold 42 = .ok (.iload_n 2, 1) := by decide +kernel
theorem dX7_hold_43 : decode cX7_hold 43 = .ok (.iastore, 1) := by decide +kernel
theorem dX7_hold_44 : decode cX7_hold 44 = .ok (.iconst 0, 1) := by decide +kernel
theorem dX7_hold_45 : decode cX7_hold 45 = .ok (.istore_n 3, 1) := by decide +kernel
theorem dX7_hold_46 : decode cX7_hold 46 = .ok (.iconst 0, 1) := by decide +kernel
theorem dX7_hold_47 : decode cX7_hold 47 = .ok (.istore 4, 2) := by decide +kernel
theorem dX7_hold_49 : decode cX7_hold 49 = .ok (.iload 4, 2) := by decide +kernel
theorem dX7_hold_51 : decode cX7_hold 51 = .ok (.aload_n 0, 1) := by decide +kernel
theorem dX7_hold_52 : decode cX7_hold 52 = .ok (.getfield 64, 3) := by decide +kernel
theorem dX7_hold_55 : decode cX7_hold 55 = .ok (.iconst 4, 1) := by decide +kernel
theorem dX7_hold_56 : decode cX7_hold 56 = .ok (.iaload, 1) := by decide +kernel
theorem dX7_hold_57 : decode cX7_hold 57 = .ok (.if_icmp .ge 59, 3) := by decide +kernel
theorem dX7_hold_60 : decode cX7_hold 60 = .ok (.aload_n 0, 1) := by decide +kernel
theorem dX7_hold_61 : decode cX7_hold 61 = .ok (.iload_n 1, 1) := by decide +kernel
theorem dX7_hold_62 : decode cX7_hold 62 = .ok (.iload 4, 2) := by decide +kernel
theorem dX7_hold_64 : decode cX7_hold 64 = .ok (.invokevirtual 173, 3) := by decide +kernel
theorem dX7_hold_67 : decode cX7_hold 67 = .ok (.ifCond .eq 43, 3) := by decide +kernel
theorem dX7_hold_70 : decode cX7_hold 70 = .ok (.aload_n 0, 1) := by decide +kernel
theorem dX7_hold_71 : decode cX7_hold 71 = .ok (.iload_n 1, 1) := by decide +kernel
theorem dX7_hold_72 : decode cX7_hold 72 = .ok (.iload 4, 2) := by decide +kernel
theorem dX7_hold_74 : decode cX7_hold 74 = .ok (.invokevirtual 217, 3) := by decide +kernel
theorem dX7_hold_77 : decode cX7_hold 77 = .ok (.ifCond .eq 6, 3) := by decide +kernel
theorem dX7_hold_80 : decode cX7_hold 80 = .ok (.goto 30, 3) := by decide +kernel
theorem dX7_hold_83 : decode cX7_hold 83 = .ok (.iload_n 3, 1) := by decide +kernel
theorem dX7_hold_84 : decode cX7_hold 84 = .ok (.aload_n 0, 1) := by decide +kernel
theorem dX7_hold_85 : decode cX7_hold 85 = .ok (.iload_n 1, 1) := by decide +kernel
theorem dX7_hold_86 : decode cX7_hold 86 = .ok (.iload 4, 2) := by decide +kernel
theorem dX7_hold_88 : decode cX7_hold 88 = .ok (.invokevirtual 173, 3) := by decide +kernel
theorem dX7_hold_91 : decode cX7_hold 91 = .ok (.iadd, 1) := by decide +kernel
theorem dX7_hold_92 : decode cX7_hold 92 = .ok (.istore_n 3, 1) := by decide +kernel
theorem dX7_hold_93 : decode cX7_hold 93 = .ok (.aload_n 0, 1) := by decide +kernel
theorem dX7_hold_94 : decode cX7_hold 94 = .ok (.getfield 64, 3) := by decide +kernel
theorem dX7_hold_97 : decode cX7_hold 97 = .ok (.sipush 373, 3) := by decide +kernel
theorem dX7_hold_100 : decode cX7_hold 100 = .ok (.bipush 40, 2) := by decide +kernel
theorem dX7_hold_102 : decode cX7_hold 102 = .ok (.iload_n 1, 1) := by decide +kernel
theorem dX7_hold_103 : decode cX7_hold 103 = .ok (.imul, 1) := by decide +kernel
theorem dX7_hold_104 : decode cX7_hold 104 = .ok (.iadd, 1) := by decide +kernel
theorem dX7_hold_105 : decode cX7_hold 105 = .ok (.iload 4, 2) := by decide +kernel
theorem dX7_hold_107 : decode cX7_hold 107 = .ok (.iadd, 1) := by decide +kernel
theorem dX7_hold_108 : decode cX7_hold 108 = .ok (.iconst 0, 1) := by decide +kernel
theorem dX7_hold_109 : decode cX7_hold 109 = .ok (.iastore, 1) := by decide +kernel
theorem dX7_hold_110 : decode cX7_hold 110 = .ok (.iinc 4 1, 3) := by decide +kernel
theorem dX7_hold_113 : decode cX7_hold 113 = .ok (.goto (-64), 3) := by decide +kernel
theorem dX7_hold_116 : decode cX7_hold 116 = .ok (.iload_n 3, 1) := by decide +kernel
theorem dX7_hold_117 : decode cX7_hold 117 = .ok (.ireturn, 1) := by decide +kernel
theorem dX7_deliver_0 : decode cX7_deliver 0 = .ok (.aload_n 0, 1) := by decide +kernel
theorem dX7_deliver_1 : decode cX7_deliver 1 = .ok (.iconst 0, 1) := by decide +kernel
theorem dX7_deliver_2 : decode cX7_deliver 2 = .ok (.putfield 1, 3) := by decide +kernel
theorem dX7_deliver_5 : decode cX7_deliver 5 = .ok (.aload_n 0, 1) := by decide +kernel
theorem dX7_deliver_6 : decode cX7_deliver 6 = .ok (.iload_n 1, 1) := by decide +kernel
theorem dX7_deliver_7 : decode cX7_deliver 7 = .ok (.invokevirtual 189, 3) := by decide +kernel
theorem dX7_deliver_10 : decode cX7_deliver 10 = .ok (.ifCond .eq 24, 3) := by decide +kernel
theorem dX7_deliver_13 : decode cX7_deliver 13 = .ok (.aload_n 0, 1) := by decide +kernel
theorem dX7_deliver_14 : decode cX7_deliver 14 = .ok (.iload_n 1, 1) := by decide +kernel
theorem dX7_deliver_15 : decode cX7_deliver 15 = .ok (.iconst 3, 1) := by decide +kernel
theorem dX7_deliver_16 : decode cX7_deliver 16 = .ok (.invokevirtual 169, 3) := by decide +kernel
theorem dX7_deliver_19 : decode cX7_deliver 19 = .ok (.aload_n 0, 1) := by decide +kernel
theorem dX7_deliver_20 : decode cX7_deliver 20 = .ok (.invokevirtual 192, 3) := by decide +kernel
theorem dX7_deliver_23 : decode cX7_deliver 23 = .ok (.if_icmp .ne 11, 3) := by decide +kernel
theorem dX7_deliver_26 : decode cX7_deliver 26 = .ok (.aload_n 0, 1) := by decide +kernel
theorem dX7_deliver_27 : decode cX7_deliver 27 = .ok (.iload_n 1, 1) := by decide +kernel
theorem dX7_deliver_28 : decode cX7_deliver 28 = .ok (.invokevirtual 208, 3) := by decide +kernel
theorem dX7_deliver_31 : decode cX7_deliver 31 = .ok (.ifCond .ne 5, 3) := by decide +kernel
theorem dX7_deliver_34 : decode cX7_deliver 34 = .ok (.iconst (-1), 1) := by decide +kernel
theorem dX7_deliver_35 : decode cX7_deliver 35 = .ok (.ireturn, 1) := by decide +kernel
theorem dX7_deliver_36 : decode cX7_deliver 36 = .ok (.aload_n 0, 1) := by decide +kernel
theorem dX7_deliver_37 : decode cX7_deliver 37 = .ok (.invokevirtual 299, 3) := by decide +kernel
theorem dX7_deliver_40 : decode cX7_deliver 40 = .ok (.iconst 0, 1) := by decide +kernel
theorem dX7_deliver_41 : decode cX7_deliver 41 = .ok (.istore_n 2, 1) := by decide +kernel
theorem dX7_deliver_42 : decode cX7_deliver 42 = .ok (.iconst 0, 1) := by decide +kernel
theorem dX7_deliver_43 : decode cX7_deliver 43 = .ok (.istore_n 3, 1) := by decide +kernel
theorem dX7_deliver_44 : decode cX7_deliver 44 = .ok (.iload_n 3, 1) := by decide +kernel
theorem dX7_deliver_45 : decode cX7_deliver 45 = .ok (.aload_n 0, 1) := by decide +kernel
theorem dX7_deliver_46 : decode cX7_deliver 46 = .ok (.getfield 64, 3) := by decide +kernel
theorem dX7_deliver_49 : decode cX7_deliver 49 = .ok (.iconst 3, 1) := by decide +kernel
theorem dX7_deliver_50 : decode cX7_deliver 50 = .ok (.iaload, 1) := by decide +kernel
theorem dX7_deliver_51 : decode cX7_deliver 51 = .ok (.if_icmp .ge 60, 3) := by decide +kernel
theorem dX7_deliver_54 : decode cX7_deliver 54 = .ok (.aload_n 0, 1) := by decide +kernel
theorem dX7_deliver_55 : decode cX7_deliver 55 = .ok (.iload_n 3, 1) := by decide +kernel
theorem dX7_deliver_56 : decode cX7_deliver 56 = .ok (.iload_n 1, 1) := by decide +kernel
theorem dX7_deliver_57 : decode cX7_deliver 57 = .ok (.invokevirtual 173, 3) := by decide +kernel
theorem dX7_deliver_60 : decode cX7_deliver 60 = .ok (.ifCond .ne 6, 3) := by decide +kernel
theorem dX7_deliver_63 : decode cX7_deliver 63 = .ok (.goto 42, 3) := by decide +kernel
theorem dX7_deliver_66 : decode cX7_deliver 66 = .ok (.aload_n 0, 1) := by decide +kernel
theorem dX7_deliver_67 : decode cX7_deliver 67 = .ok (.getfield 64, 3) := by decide +kernel
theorem dX7_deliver_70 : decode cX7_deliver 70 = .ok (.bipush 37, 2) := by decide +kernel
theorem dX7_deliver_72 : decode cX7_deliver 72 = .ok (.iconst 4, 1) := by decide +kernel
theorem dX7_deliver_73 : decode cX7_deliver 73 = .ok (.iload_n 3, 1) := by decide +kernel
theorem dX7_deliver_74 : decode cX7_deliver 74 = .ok (.imul, 1) := by decide +kernel
theorem dX7_deliver_75 : decode cX7_deliver 75 = .ok (.iadd, 1) := by decide +kernel
theorem dX7_deliver_76 : decode cX7_deliver 76 = .ok (.iconst 2, 1) := by decide +kernel
theorem dX7_deliver_77 : decode cX7_deliver 77 = .ok (.iadd, 1) := by decide +kernel
theorem dX7_deliver_78 : decode cX7_deliver 78 = .ok (.dup2, 1) := by decide +kernel
theorem dX7_deliver_79 : decode cX7_deliver 79 = .ok (.iaload, 1) := by decide +kernel
theorem dX7_deliver_80 : decode cX7_deliver 80 = .ok (.aload_n 0, 1) := by decide +kernel
theorem dX7_deliver_81 : decode cX7_deliver 81 = .ok (.iload_n 3, 1) := by decide +kernel
theorem dX7_deliver_82 : decode cX7_deliver 82 = .ok (.iload_n 1, 1) := by decide +kernel
theorem dX7_deliver_83 : decode cX7_deliver 83 = .ok (.invokevirtual 173, 3) := by decide +kernel
theorem dX7_deliver_86 : decode cX7_deliver 86 = .ok (.isub, 1) := by decide +kernel
theorem dX7_deliver_87 : decode cX7_deliver 87 = .ok (.iastore, 1) := by decide +kernel
theorem dX7_deliver_88 : decode cX7_deliver 88 = .ok (.aload_n 0, 1) := by decide +kernel
theorem dX7_deliver_89 : decode cX7_deliver 89 = .ok (.iload_n 3, 1) := by decide +kernel
theorem dX7_deliver_90 : decode cX7_deliver 90 = .ok (.iconst 1, 1) := by decide +kernel
theorem dX7_deliver_91 : decode cX7_deliver 91 = .ok (.invokevirtual 176, 3) := by decide +kernel
theorem dX7_deliver_94 : decode cX7_deliver 94 = .ok (.iload_n 2, 1) := by decide +kernel
theorem dX7_deliver_95 : decode cX7_deliver 95 = .ok (.if_icmp .le 10, 3) := by decide +kernel
theorem dX7_deliver_98 : decode cX7_deliver 98 = .ok (.aload_n 0, 1) := by decide +kernel
theorem dX7_deliver_99 : decode cX7_deliver 99 = .ok (.iload_n 3, 1) := by decide +kernel
theorem dX7_deliver_100 : decode cX7_deliver 100 = .ok (.iconst 1, 1) := by decide +kernel
theorem dX7_deliver_101 : decode cX7_deliver 101 = .ok (.invokevirtual 176, 3) := by decide +kernel
theorem dX7_deliver_104 : decode cX7_deliver 104 = .ok (.istore_n 2, 1) := by decide +kernel
theorem dX7_deliver_105 : decode cX7_deliver 105 = .ok (.iinc 3 1, 3) := by decide +kernel
theorem dX7_deliver_108 : decode cX7_deliver 108 = .ok (.goto (-64), 3) := by decide +kernel
theorem dX7_deliver_111 : decode cX7_deliver 111 = .ok (.aload_n 0, 1) := by decide +kernel
theorem dX7_deliver_112 : decode cX7_deliver 112 = .ok (.iload_n 1, 1) := by decide +kernel
theorem dX7_deliver_113 : decode cX7_deliver 113 = .ok (.invokevirtual 302, 3) := by decide +kernel
theorem dX7_deliver_116 : decode cX7_deliver 116 = .ok (.istore_n 3, 1) := by decide +kernel
theorem dX7_deliver_117 : decode cX7_deliver 117 = .ok (.aload_n 0, 1) := by decide +kernel
theorem dX7_deliver_118 : decode cX7_deliver 118 = .ok (.getfield 64, 3) := by decide +kernel
theorem dX7_deliver_121 : decode cX7_deliver 121 = .ok (.sipush 133, 3) := by decide +kernel
theorem dX7_deliver_124 : decode cX7_deliver 124 = .ok (.bipush 6, 2) := by decide +kernel
theorem dX7_deliver_126 : decode cX7_deliver 126 = .ok (.iload_n 1, 1) := by decide +kernel
theorem dX7_deliver_127 : decode cX7_deliver 127 = .ok (.imul, 1) := by decide +kernel
theorem dX7_deliver_128 : decode cX7_deliver 128 = .ok (.iadd, 1) := by decide +kernel
theorem dX7_deliver_129 : decode cX7_deliver 129 = .ok (.iconst 4, 1) := by decide +kernel
theorem dX7_deliver_130 : decode cX7_deliver 130 = .ok (.iadd, 1) := by decide +kernel
theorem dX7_deliver_131 : decode cX7_deliver 131 = .ok (.iconst 1, 1) := by decide +kernel
theorem dX7_deliver_132 : decode cX7_deliver 132 = .ok (.iastore, 1) := by decide +kernel
theorem dX7_deliver_133 : decode cX7_deliver 133 = .ok (.aload_n 0, 1) := by decide +kernel
theorem dX7_deliver_134 : decode cX7_deliver 134 = .ok (.getfield 64, 3) := by decide +kernel
theorem dX7_deliver_137 : decode cX7_deliver 137 = .ok (.sipush 133, 3) := by decide +kernel
theorem dX7_deliver_140 : decode cX7_deliver 140 = .ok (.bipush 6, 2) := by decide +kernel
theorem dX7_deliver_142 : decode cX7_deliver 142 = .ok (.iload_n 1, 1) := by decide +kernel
theorem dX7_deliver_143 : decode cX7_deliver 143 = .ok (.imul, 1) := by decide +kernel
theorem dX7_deliver_144 : decode cX7_deliver 144 = .ok (.iadd, 1) := by decide +kernel
theorem dX7_deliver_145 : decode cX7_deliver 145 = .ok (.iconst 5, 1) := by decide +kernel
theorem dX7_deliver_146 : decode cX7_deliver 146 = .ok (.iadd, 1) := by decide +kernel
theorem dX7_deliver_147 : decode cX7_deliver 147 = .ok (.iload_n 3, 1) := by decide +kernel
theorem dX7_deliver_148 : decode cX7_deliver 148 = .ok (.iastore, 1) := by decide +kernel
theorem dX7_deliver_149 : decode cX7_deliver 149 = .ok (.aload_n 0, 1) := by decide +kernel
theorem dX7_deliver_150 : decode cX7_deliver 150 = .ok (.getfield 64, 3) := by decide +kernel
theorem dX7_deliver_153 : decode cX7_deliver 153 = .ok (.bipush 7, 2) := by decide +kernel
theorem dX7_deliver_155 : decode cX7_deliver 155 = .ok (.iconst 5, 1) := by decide +kernel
theorem dX7_deliver_156 : decode cX7_deliver 156 = .ok (.aload_n 0, 1) := by decide +kernel
theorem dX7_deliver_157 : decode cX7_deliver 157 = .ok (.iload_n 1, 1) := by decide +kernel
theorem dX7_deliver_158 : decode cX7_deliver 158 = .ok (.iconst 0, 1) := by decide +kernel
theorem dX7_deliver_159 : decode cX7_deliver 159 = .ok (.invokevirtual 169, 3) := by decide +kernel
theorem dX7_deliver_162 : decode cX7_deliver 162 = .ok (.imul, 1) := by decide +kernel
theorem dX7_deliver_163 : decode cX7_deliver 163 = .ok (.iadd, 1) := by decide +kernel
theorem dX7_deliver_164 : decode cX7_deliver 164 = .ok (.iconst 1, 1) := by decide +kernel
theorem dX7_deliver_165 : decode cX7_deliver 165 = .ok (.iadd, 1) := by decide +kernel
theorem dX7_deliver_166 : decode cX7_deliver 166 = .ok (.aload_n 0, 1) := by decide +kernel
theorem dX7_deliver_167 : decode cX7_deliver 167 = .ok (.iload_n 1, 1) := by decide +kernel
theorem dX7_deliver_168 : decode cX7_deliver 168 = .ok (.iconst 1, 1) := by decide +kernel
theorem dX7_deliver_169 : decode cX7_deliver 169 = .ok (.invokevirtual 169, 3) := by decide +kernel
theorem dX7_deliver_172 : decode cX7_deliver 172 = .ok (.iadd, 1) := by decide +kernel
theorem dX7_deliver_173 : decode cX7_deliver 173 = .ok (.iload_n 2, 1) := by decide +kernel
theorem dX7_deliver_174 : decode cX7_deliver 174 = .ok (.iconst 1, 1) := by decide +kernel
theorem dX7_deliver_175 : decode cX7_deliver 175 = .ok (.iadd, 1) := by decide +kernel
theorem dX7_deliver_176 : decode cX7_deliver 176 = .ok (.iastore, 1) := by decide +kernel
theorem dX7_deliver_177 : decode cX7_deliver 177 = .ok (.aload_n 0, 1) := by decide +kernel
theorem dX7_deliver_178 : decode cX7_deliver 178 = .ok (.getfield 64, 3) := by decide +kernel
theorem dX7_deliver_181 : decode cX7_deliver 181 = .ok (.bipush 6, 2) := by decide +kernel
theorem dX7_deliver_183 : decode cX7_deliver 183 = .ok (.dup2, 1) := by decide +kernel
theorem dX7_deliver_184 : decode cX7_deliver 184 = .ok (.iaload, 1) := by decide +kernel
theorem dX7_deliver_185 : decode cX7_deliver 185 = .ok (.iload_n 3, 1) := by decide +kernel
theorem dX7_deliver_186 : decode cX7_deliver 186 = .ok (.iadd, 1) := by decide +kernel
theorem dX7_deliver_187 : decode cX7_deliver 187 = .ok (.iastore, 1) := by decide +kernel
theorem dX7_deliver_188 : decode cX7_deliver 188 = .ok (.iload_n 3, 1) := by decide +kernel
theorem dX7_deliver_189 : decode cX7_deliver 189 = .ok (.ireturn, 1) := by decide +kernel
theorem dX7_ends_0 : decode cX7_ends 0 = .ok (.iconst 0, 1) := by decide +kernel
theorem dX7_ends_1 : decode cX7_ends 1 = .ok (.istore_n 1, 1) := by decide +kernel
theorem dX7_ends_2 : decode cX7_ends 2 = .ok (.iload_n 1, 1) := by decide +kernel
theorem dX7_ends_3 : decode cX7_ends 3 = .ok (.aload_n 0, 1) := by decide +kernel
theorem dX7_ends_4 : decode cX7_ends 4 = .ok (.getfield 64, 3) := by decide +kernel
theorem dX7_ends_7 : decode cX7_ends 7 = .ok (.iconst 4, 1) := by decide +kernel
theorem dX7_ends_8 : decode cX7_ends 8 = .ok (.iaload, 1) := by decide +kernel
theorem dX7_ends_9 : decode cX7_ends 9 = .ok (.if_icmp .ge 55, 3) := by decide +kernel
theorem dX7_ends_12 : decode cX7_ends 12 = .ok (.aload_n 0, 1) := by decide +kernel
theorem dX7_ends_13 : decode cX7_ends 13 = .ok (.iload_n 1, 1) := by decide +kernel
theorem dX7_ends_14 : decode cX7_ends 14 = .ok (.invokevirtual 189, 3) := by decide +kernel
theorem dX7_ends_17 : decode cX7_ends 17 = .ok (.ifCond .eq 41, 3) := by decide +kernel
theorem dX7_ends_20 : decode cX7_ends 20 = .ok (.aload_n 0, 1) := by decide +kernel
theorem dX7_ends_21 : decode cX7_ends 21 = .ok (.iload_n 1, 1) := by decide +kernel
theorem dX7_ends_22 : decode cX7_ends 22 = .ok (.iconst 3, 1) := by decide +kernel
theorem dX7_ends_23 : decode cX7_ends 23 = .ok (.invokevirtual 169, 3) := by decide +kernel
theorem dX7_ends_26 : decode cX7_ends 26 = .ok (.aload_n 0, 1) := by decide +kernel
theorem dX7_ends_27 : decode cX7_ends 27 = .ok (.invokevirtual 192, 3) := by decide +kernel
theorem dX7_ends_30 : decode cX7_ends 30 = .ok (.if_icmp .eq 6, 3) := by decide +kernel
theorem dX7_ends_33 : decode cX7_ends 33 = .ok (.goto 25, 3) := by decide +kernel
theorem dX7_ends_36 : decode cX7_ends 36 = .ok (.aload_n 0, 1) := by decide +kernel
theorem dX7_ends_37 : decode cX7_ends 37 = .ok (.getfield 64, 3) := by decide +kernel
theorem dX7_ends_40 : decode cX7_ends 40 = .ok (.sipush 133, 3) := by decide +kernel
theorem dX7_ends_43 : decode cX7_ends 43 = .ok (.bipush 6, 2) := by decide +kernel
theorem dX7_ends_45 : decode cX7_ends 45 = .ok (.iload_n 1, 1) := by decide +kernel
theorem dX7_ends_46 : decode cX7_ends 46 = .ok (.imul, 1) := by decide +kernel
theorem dX7_ends_47 : decode cX7_ends 47 = .ok (.iadd, 1) := by decide +kernel
theorem dX7_ends_48 : decode cX7_ends 48 = .ok (.iconst 4, 1) := by decide +kernel
theorem dX7_ends_49 : decode cX7_ends 49 = .ok (.iadd, 1) := by decide +kernel
theorem dX7_ends_50 : decode cX7_ends 50 = .ok (.iconst 3, 1) := by decide +kernel
theorem dX7_ends_51 : decode cX7_ends 51 = .ok (.iastore, 1) := by decide +kernel
theorem dX7_ends_52 : decode cX7_ends 52 = .ok (.aload_n 0, 1) := by decide +kernel
theorem dX7_ends_53 : decode cX7_ends 53 = .ok (.iload_n 1, 1) := by decide +kernel
theorem dX7_ends_54 : decode cX7_ends 54 = .ok (.invokevirtual 302, 3) := by decide +kernel
theorem dX7_ends_57 : decode cX7_ends 57 = .ok (.pop, 1) := by decide +kernel
theorem dX7_ends_58 : decode cX7_ends 58 = .ok (.iinc 1 1, 3) := by decide +kernel
theorem dX7_ends_61 : decode cX7_ends 61 = .ok (.goto (-59), 3) := by decide +kernel
theorem dX7_ends_64 : decode cX7_ends 64 = .ok (.iconst 0, 1) := by decide +kernel
theorem dX7_ends_65 : decode cX7_ends 65 = .ok (.istore_n 1, 1) := by decide +kernel
theorem dX7_ends_66 : decode cX7_ends 66 = .ok (.iload_n 1, 1) := by decide +kernel
theorem dX7_ends_67 : decode cX7_ends 67 = .ok (.aload_n 0, 1) := by decide +kernel
theorem dX7_ends_68 : decode cX7_ends 68 = .ok (.getfield 64, 3) := by decide +kernel
theorem dX7_ends_71 : decode cX7_ends 71 = .ok (.iconst 3, 1) := by decide +kernel
theorem dX7_ends_72 : decode cX7_ends 72 = .ok (.iaload, 1) := by decide +kernel
theorem dX7_ends_73 : decode cX7_ends 73 = .ok (.if_icmp .ge 88, 3) := by decide +kernel
theorem dX7_ends_76 : decode cX7_ends 76 = .ok (.aload_n 0, 1) := by decide +kernel
theorem dX7_ends_77 : decode cX7_ends 77 = .ok (.iload_n 1, 1) := by decide +kernel
theorem dX7_ends_78 : decode cX7_ends 78 = .ok (.iconst 1, 1) := by decide +kernel
theorem dX7_ends_79 : decode cX7_ends 79 = .ok (.invokevirtual 176, 3) := by decide +kernel
theorem dX7_ends_82 : decode cX7_ends 82 = .ok (.aload_n 0, 1) := by decide +kernel
theorem dX7_ends_83 : decode cX7_ends 83 = .ok (.invokevirtual 192, 3) := by decide +kernel
theorem dX7_ends_86 : decode cX7_ends 86 = .ok (.if_icmp .eq 6, 3) := by decide +kernel
theorem dX7_ends_89 : decode cX7_ends 89 = .ok (.goto 66, 3) := by decide +kernel
theorem dX7_ends_92 : decode cX7_ends 92 = .ok (.aload_n 0, 1) := by decide +kernel
theorem dX7_ends_93 : decode cX7_ends 93 = .ok (.getfield 64, 3) := by decide +kernel
theorem dX7_ends_96 : decode cX7_ends 96 = .ok (.iconst 5, 1) := by decide +kernel
theorem dX7_ends_97 : decode cX7_ends 97 = .ok (.dup2, 1) := by decide +kernel
theorem dX7_ends_98 : decode cX7_ends 98 = .ok (.iaload, 1) := by decide +kernel
theorem dX7_ends_99 : decode cX7_ends 99 = .ok (.aload_n 0, 1) := by decide +kernel
theorem dX7_ends_100 : decode cX7_ends 100 = .ok (.iload_n 1, 1) := by decide +kernel
theorem dX7_ends_101 : decode cX7_ends 101 = .ok (.iconst 2, 1) := by decide +kernel
theorem dX7_ends_102 : decode cX7_ends 102 = .ok (.invokevirtual 176, 3) := by decide +kernel
theorem dX7_ends_105 : decode cX7_ends 105 = .ok (.iadd, 1) := by decide +kernel
theorem dX7_ends_106 : decode cX7_ends 106 = .ok (.iastore, 1) := by decide +kernel
theorem dX7_ends_107 : decode cX7_ends 107 = .ok (.aload_n 0, 1) := by decide +kernel
theorem dX7_ends_108 : decode cX7_ends 108 = .ok (.getfield 64, 3) := by decide +kernel
theorem dX7_ends_111 : decode cX7_ends 111 = .ok (.bipush 37, 2) := by decide +kernel
theorem dX7_ends_113 : decode cX7_ends 113 = .ok (.iconst 4, 1) := by decide +kernel
theorem dX7_ends_114 : decode cX7_ends 114 = .ok (.iload_n 1, 1) := by decide +kernel
theorem dX7_ends_115 : decode cX7_ends 115 = .ok (.imul, 1) := by decide +kernel
theorem dX7_ends_116 : decode cX7_ends 116 = .ok (.iadd, 1) := by decide +kernel
theorem dX7_ends_117 : decode cX7_ends 117 = .ok (.iconst 2, 1) := by decide +kernel
theorem dX7_ends_118 : decode cX7_ends 118 = .ok (.iadd, 1) := by decide +kernel
theorem dX7_ends_119 : decode cX7_ends 119 = .ok (.iconst 0, 1) := by decide +kernel
theorem dX7_ends_120 : decode cX7_ends 120 = .ok (.iastore, 1) := by decide +kernel
theorem dX7_ends_121 : decode cX7_ends 121 = .ok (.iconst 0, 1) := by decide +kernel
theorem dX7_ends_122 : decode cX7_ends 122 = .ok (.istore_n 2, 1) := by decide +kernel
theorem dX7_ends_123 : decode cX7_ends 123 = .ok (.iload_n 2, 1) := by decide +kernel
theorem dX7_ends_124 : decode cX7_ends 124 = .ok (.aload_n 0, 1) := by decide +kernel
theorem dX7_ends_125 : decode cX7_ends 125 = .ok (.getfield 64, 3) := by decide +kernel
theorem dX7_ends_128 : decode cX7_ends 128 = .ok (.iconst 4, 1) := by decide +kernel
theorem dX7_ends_129 : decode cX7_ends 129 = .ok (.iaload, 1) := by decide +kernel
theorem dX7_ends_130 : decode cX7_ends 130 = .ok (.if_icmp .ge 25, 3) := by decide +kernel
theorem dX7_ends_133 : decode cX7_ends 133 = .ok (.aload_n 0, 1) := by decide +kernel
theorem dX7_ends_134 : decode cX7_ends 134 = .ok (.getfield 64, 3) := by decide +kernel
theorem dX7_ends_137 : decode cX7_ends 137 = .ok (.sipush 373, 3) := by decide +kernel
theorem dX7_ends_140 : decode cX7_ends 140 = .ok (.bipush 40, 2) := by decide +kernel
theorem dX7_ends_142 : decode cX7_ends 142 = .ok (.iload_n 1, 1) := by decide +kernel
theorem dX7_ends_143 : decode cX7_ends 143 = .ok (.imul, 1) := by decide +kernel
theorem dX7_ends_144 : decode cX7_ends 144 = .ok (.iadd, 1) := by decide +kernel
theorem dX7_ends_145 : decode cX7_ends 145 = .ok (.iload_n 2, 1) := by decide +kernel
theorem dX7_ends_146 : decode cX7_ends 146 = .ok (.iadd, 1) := by decide +kernel
theorem dX7_ends_147 : decode cX7_ends 147 = .ok (.iconst 0, 1) := by decide +kernel
theorem dX7_ends_148 : decode cX7_ends 148 = .ok (.iastore, 1) := by decide +kernel
theorem dX7_ends_149 : decode cX7_ends 149 = .ok (.iinc 2 1, 3) := by decide +kernel
theorem dX7_ends_152 : decode cX7_ends 152 = .ok (.goto (-29), 3) := by decide +kernel
theorem dX7_ends_155 : decode cX7_ends 155 = .ok (.iinc 1 1, 3) := by decide +kernel
theorem dX7_ends_158 : decode cX7_ends 158 = .ok (.goto (-92), 3) := by decide +kernel
theorem dX7_ends_161 : decode cX7_ends 161 = .ok (.aload_n 0, 1) := by decide +kernel
theorem dX7_ends_162 : decode cX7_ends 162 = .ok (.getfield 64, 3) := by decide +kernel
theorem dX7_ends_165 : decode cX7_ends 165 = .ok (.iconst 0, 1) := by decide +kernel
theorem dX7_ends_166 : decode cX7_ends 166 = .ok (.dup2, 1) := by decide +kernel
theorem dX7_ends_167 : decode cX7_ends 167 = .ok (.iaload, 1) := by decide +kernel
theorem dX7_ends_168 : decode cX7_ends 168 = .ok (.iconst 1, 1) := by decide +kernel
theorem dX7_ends_169 : decode cX7_ends 169 = .ok (.iadd, 1) := by decide +kernel
theorem dX7_ends_170 : decode cX7_ends 170 = .ok (.iastore, 1) := by decide +kernel
theorem dX7_ends_171 : decode cX7_ends 171 = .ok (.return_, 1) := by decide +kernel
theorem dX7_pass_0 : decode cX7_pass 0 = .ok (.aload_n 0, 1) := by decide +kernel
theorem dX7_pass_1 : decode cX7_pass 1 = .ok (.iconst 0, 1) := by decide +kernel
theorem dX7_pass_2 : decode cX7_pass 2 = .ok (.putfield 1, 3) := by decide +kernel
theorem dX7_pass_5 : decode cX7_pass 5 = .ok (.iload_n 1, 1) := by decide +kernel
theorem dX7_pass_6 : decode cX7_pass 6 = .ok (.iconst 1, 1) := by decide +kernel
theorem dX7_pass_7 : decode cX7_pass 7 = .ok (.bipush 99, 2) := by decide +kernel
theorem dX7_pass_9 : decode cX7_pass 9 = .ok (.invokestatic 101, 3) := by decide +kernel
theorem dX7_pass_12 : decode cX7_pass 12 = .ok (.ifCond .eq 15, 3) := by decide +kernel
theorem dX7_pass_15 : decode cX7_pass 15 = .ok (.aload_n 0, 1) := by decide +kernel
theorem dX7_pass_16 : decode cX7_pass 16 = .ok (.invokevirtual 192, 3) := by decide +kernel
theorem dX7_pass_19 : decode cX7_pass 19 = .ok (.iload_n 1, 1) := by decide +kernel
theorem dX7_pass_20 : decode cX7_pass 20 = .ok (.iadd, 1) := by decide +kernel
theorem dX7_pass_21 : decode cX7_pass 21 = .ok (.sipush 900, 3) := by decide +kernel
theorem dX7_pass_24 : decode cX7_pass 24 = .ok (.if_icmp .le 5, 3) := by decide +kernel
theorem dX7_pass_27 : decode cX7_pass 27 = .ok (.iconst (-1), 1) := by decide +kernel
theorem dX7_pass_28 : decode cX7_pass 28 = .ok (.ireturn, 1) := by decide +kernel
theorem dX7_pass_29 : decode cX7_pass 29 = .ok (.aload_n 0, 1) := by decide +kernel
theorem dX7_pass_30 : decode cX7_pass 30 = .ok (.invokevirtual 299, 3) := by decide +kernel
theorem dX7_pass_33 : decode cX7_pass 33 = .ok (.iconst 0, 1) := by decide +kernel
theorem dX7_pass_34 : decode cX7_pass 34 = .ok (.istore_n 2, 1) := by decide +kernel
theorem dX7_pass_35 : decode cX7_pass 35 = .ok (.iload_n 2, 1) := by decide +kernel
theorem dX7_pass_36 : decode cX7_pass 36 = .ok (.iload_n 1, 1) := by decide +kernel
theorem dX7_pass_37 : decode cX7_pass 37 = .ok (.if_icmp .ge 13, 3) := by decide +kernel
theorem dX7_pass_40 : decode cX7_pass 40 = .ok (.aload_n 0, 1) := by decide +kernel
theorem dX7_pass_41 : decode cX7_pass 41 = .ok (.invokevirtual 305, 3) := by decide +kernel
theorem dX7_pass_44 : decode cX7_pass 44 = .ok (.iinc 2 1, 3) := by decide +kernel
theorem dX7_pass_47 : decode cX7_pass 47 = .ok (.goto (-12), 3) := by decide +kernel
theorem dX7_pass_50 : decode cX7_pass 50 = .ok (.aload_n 0, 1) := by decide +kernel
theorem dX7_pass_51 : decode cX7_pass 51 = .ok (.invokevirtual 192, 3) := by decide +kernel
theorem dX7_pass_54 : decode cX7_pass 54 = .ok (.ireturn, 1) := by decide +kernel
theorem dX7_undo_0 : decode cX7_undo 0 = .ok (.aload_n 0, 1) := by decide +kernel
theorem dX7_undo_1 : decode cX7_undo 1 = .ok (.iconst 0, 1) := by decide +kernel
theorem dX7_undo_2 : decode cX7_undo 2 = .ok (.putfield 1, 3) := by decide +kernel
theorem dX7_undo_5 : decode cX7_undo 5 = .ok (.aload_n 0, 1) := by decide +kernel
theorem dX7_undo_6 : decode cX7_undo 6 = .ok (.getfield 163, 3) := by decide +kernel
theorem dX7_undo_9 : decode cX7_undo 9 = .ok (.ifCond .ne 5, 3) := by decide +kernel
theorem dX7_undo_12 : decode cX7_undo 12 = .ok (.iconst (-1), 1) := by decide +kernel
theorem dX7_undo_13 : decode cX7_undo 13 = .ok (.ireturn, 1) := by decide +kernel
theorem dX7_undo_14 : decode cX7_undo 14 = .ok (.aload_n 0, 1) := by decide +kernel
theorem dX7_undo_15 : decode cX7_undo 15 = .ok (.dup, 1) := by decide +kernel
theorem dX7_undo_16 : decode cX7_undo 16 = .ok (.getfield 163, 3) := by decide +kernel
theorem dX7_undo_19 : decode cX7_undo 19 = .ok (.iconst 1, 1) := by decide +kernel
theorem dX7_undo_20 : decode cX7_undo 20 = .ok (.isub, 1) := by decide +kernel
theorem dX7_undo_21 : decode cX7_undo 21 = .ok (.putfield 163, 3) := by decide +kernel
theorem dX7_undo_24 : decode cX7_undo 24 = .ok (.iconst 0, 1) := by decide +kernel
theorem dX7_undo_25 : decode cX7_undo 25 = .ok (.istore_n 1, 1) := by decide +kernel
theorem dX7_undo_26 : decode cX7_undo 26 = .ok (.iload_n 1, 1) := by decide +kernel
theorem dX7_undo_27 : decode cX7_undo 27 = .ok (.sipush 1333, 3) := by decide +kernel
theorem dX7_undo_30 : decode cX7_undo 30 = .ok (.if_icmp .ge 30, 3) := by decide +kernel
theorem dX7_undo_33 : decode cX7_undo 33 = .ok (.aload_n 0, 1) := by decide +kernel
theorem dX7_undo_34 : decode cX7_undo 34 = .ok (.getfield 64, 3) := by decide +kernel
theorem dX7_undo_37 : decode cX7_undo 37 = .ok (.iload_n 1, 1) := by decide +kernel
theorem dX7_undo_38 : decode cX7_undo 38 = .ok (.aload_n 0, 1) := by decide +kernel
theorem dX7_undo_39 : decode cX7_undo 39 = .ok (.getfield 70, 3) := by decide +kernel
theorem dX7_undo_42 : decode cX7_undo 42 = .ok (.sipush 1333, 3) := by decide +kernel
theorem dX7_undo_45 : decode cX7_undo 45 = .ok (.aload_n 0, 1) := by decide +kernel
theorem dX7_undo_46 : decode cX7_undo 46 = .ok (.getfield 163, 3) := by decide +kernel
theorem dX7_undo_49 : decode cX7_undo 49 = .ok (.imul, 1) := by decide +kernel
theorem dX7_undo_50 : decode cX7_undo 50 = .ok (.iload_n 1, 1) := by decide +kernel
theorem dX7_undo_51 : decode cX7_undo 51 = .ok (.iadd, 1) := by decide +kernel
theorem dX7_undo_52 : decode cX7_undo 52 = .ok (.iaload, 1) := by decide +kernel
theorem dX7_undo_53 : decode cX7_undo 53 = .ok (.iastore, 1) := by decide +kernel
theorem dX7_undo_54 : decode cX7_undo 54 = .ok (.iinc 1 1, 3) := by decide +kernel
theorem dX7_undo_57 : decode cX7_undo 57 = .ok (.goto (-31), 3) := by decide +kernel
theorem dX7_undo_60 : decode cX7_undo 60 = .ok (.aload_n 0, 1) := by decide +kernel
theorem dX7_undo_61 : decode cX7_undo 61 = .ok (.getfield 163, 3) := by decide +kernel
theorem dX7_undo_64 : decode cX7_undo 64 = .ok (.ireturn, 1) := by decide +kernel
