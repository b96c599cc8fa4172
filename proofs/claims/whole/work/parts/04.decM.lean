theorem dX6_init_0 : decode cX6_init 0 = .ok (.aload_n 0, 1) := by decide +kernel
theorem dX6_init_1 : decode cX6_init 1 = .ok (.invokespecial 1, 3) := by decide +kernel
theorem dX6_init_4 : decode cX6_init 4 = .ok (.aload_n 0, 1) := by decide +kernel
theorem dX6_init_5 : decode cX6_init 5 = .ok (.iconst 1, 1) := by decide +kernel
theorem dX6_init_6 : decode cX6_init 6 = .ok (.putfield 7, 3) := by decide +kernel
theorem dX6_init_9 : decode cX6_init 9 = .ok (.aload_n 0, 1) := by decide +kernel
theorem dX6_init_10 : decode cX6_init 10 = .ok (.bipush 12, 2) := by decide +kernel
theorem dX6_init_12 : decode cX6_init 12 = .ok (.newarray .int, 2) := by decide +kernel
theorem dX6_init_14 : decode cX6_init 14 = .ok (.putfield 13, 3) := by decide +kernel
theorem dX6_init_17 : decode cX6_init 17 = .ok (.aload_n 0, 1) := by decide +kernel
theorem dX6_init_18 : decode cX6_init 18 = .ok (.bipush 12, 2) := by decide +kernel
theorem dX6_init_20 : decode cX6_init 20 = .ok (.newarray .int, 2) := by decide +kernel
theorem dX6_init_22 : decode cX6_init 22 = .ok (.putfield 17, 3) := by decide +kernel
theorem dX6_init_25 : decode cX6_init 25 = .ok (.aload_n 0, 1) := by decide +kernel
theorem dX6_init_26 : decode cX6_init 26 = .ok (.bipush 12, 2) := by decide +kernel
theorem dX6_init_28 : decode cX6_init 28 = .ok (.newarray .int, 2) := by decide +kernel
theorem dX6_init_30 : decode cX6_init 30 = .ok (.putfield 20, 3) := by decide +kernel
theorem dX6_init_33 : decode cX6_init 33 = .ok (.aload_n 0, 1) := by decide +kernel
theorem dX6_init_34 : decode cX6_init 34 = .ok (.bipush 12, 2) := by decide +kernel
theorem dX6_init_36 : decode cX6_init 36 = .ok (.newarray .int, 2) := by decide +kernel
theorem dX6_init_38 : decode cX6_init 38 = .ok (.putfield 23, 3) := by decide +kernel
theorem dX6_init_41 : decode cX6_init 41 = .ok (.aload_n 0, 1) := by decide +kernel
theorem dX6_init_42 : decode cX6_init 42 = .ok (.bipush 12, 2) := by decide +kernel
theorem dX6_init_44 : decode cX6_init 44 = .ok (.newarray .int, 2) := by decide +kernel
theorem dX6_init_46 : decode cX6_init 46 = .ok (.putfield 26, 3) := by decide +kernel
theorem dX6_init_49 : decode cX6_init 49 = .ok (.aload_n 0, 1) := by decide +kernel
theorem dX6_init_50 : decode cX6_init 50 = .ok (.bipush 12, 2) := by decide +kernel
theorem dX6_init_52 : decode cX6_init 52 = .ok (.newarray .int, 2) := by decide +kernel
theorem dX6_init_54 : decode cX6_init 54 = .ok (.putfield 29, 3) := by decide +kernel
theorem dX6_init_57 : decode cX6_init 57 = .ok (.aload_n 0, 1) := by decide +kernel
theorem dX6_init_58 : decode cX6_init 58 = .ok (.bipush 12, 2) := by decide +kernel
theorem dX6_init_60 : decode cX6_init 60 = .ok (.newarray .int, 2) := by decide +kernel
theorem dX6_init_62 : decode cX6_init 62 = .ok (.putfield 32, 3) := by decide +kernel
theorem dX6_init_65 : decode cX6_init 65 = .ok (.aload_n 0, 1) := by decide +kernel
theorem dX6_init_66 : decode cX6_init 66 = .ok (.bipush 12, 2) := by decide +kernel
theorem dX6_init_68 : decode cX6_init 68 = .ok (.newarray .int, 2) := by decide +kernel
theorem dX6_init_70 : decode cX6_init 70 = .ok (.putfield 35, 3) := by decide +kernel
theorem dX6_init_73 : decode cX6_init 73 = .ok (.aload_n 0, 1) := by decide +kernel
theorem dX6_init_74 : decode cX6_init 74 = .ok (.bipush 48, 2) := by decide +kernel
theorem dX6_init_76 : decode cX6_init 76 = .ok (.newarray .int, 2) := by decide +kernel
theorem dX6_init_78 : decode cX6_init 78 = .ok (.putfield 38, 3) := by decide +kernel
theorem dX6_init_81 : decode cX6_init 81 = .ok (.aload_n 0, 1) := by decide +kernel
theorem dX6_init_82 : decode cX6_init 82 = .ok (.bipush 12, 2) := by decide +kernel
theorem dX6_init_84 : decode cX6_init 84 = .ok (.newarray .int, 2) := by decide +kernel
theorem dX6_init_86 : decode cX6_init 86 = .ok (.putfield 41, 3) := by decide +kernel
theorem dX6_init_89 : decode cX6_init 89 = .ok (.aload_n 0, 1) := by decide +kernel
theorem dX6_init_90 : decode cX6_init 90 = .ok (.bipush 12, 2) := by decide +kernel
theorem dX6_init_92 : decode cX6_init 92 = .ok (.newarray .int, 2) := by decide +kernel
theorem dX6_init_94 : decode cX6_init 94 = .ok (.putfield 44, 3) := by decide +kernel
theorem dX6_init_97 : decode cX6_init 97 = .ok (.aload_n 0, 1) := by decide +kernel
theorem dX6_init_98 : decode cX6_init 98 = .ok (.bipush 12, 2) := by decide +kernel
theorem dX6_init_100 : decode cX6_init 100 = .ok (.newarray .int, 2) := by decide +kernel
theorem dX6_init_102 : decode cX6_init 102 = .ok (.putfield 47, 3) := by decide +kernel
theorem dX6_init_105 : decode cX6_init 105 = .ok (.aload_n 0, 1) := by decide +kernel
theorem dX6_init_106 : decode cX6_init 106 = .ok (.bipush 12, 2) := by decide +kernel
theorem dX6_init_108 : decode cX6_init 108 = .ok (.newarray .int, 2) := by decide +kernel
theorem dX6_init_110 : decode cX6_init 110 = .ok (.putfield 50, 3) := by decide +kernel
theorem dX6_init_113 : decode cX6_init 113 = .ok (.aload_n 0, 1) := by decide +kernel
theorem dX6_init_114 : decode cX6_init 114 = .ok (.sipush 500, 3) := by decide +kernel
theorem dX6_init_117 : decode cX6_init 117 = .ok (.newarray .int, 2) := by decide +kernel
theorem dX6_init_119 : decode cX6_init 119 = .ok (.putfield 53, 3) := by decide +kernel
theorem dX6_init_122 : decode cX6_init 122 = .ok (.aload_n 0, 1) := by decide +kernel
theorem dX6_init_123 : decode cX6_init 123 = .ok (.sipush 500, 3) := by decide +kernel
theorem dX6_init_126 : decode cX6_init 126 = .ok (.newarray .int, 2) := by decide +kernel
theorem dX6_init_128 : decode cX6_init 128 = .ok (.putfield 56, 3) := by decide +kernel
theorem dX6_init_131 : decode cX6_init 131 = .ok (.aload_n 0, 1) := by decide +kernel
theorem dX6_init_132 : decode cX6_init 132 = .ok (.sipush 500, 3) := by decide +kernel
theorem dX6_init_135 : decode cX6_init 135 = .ok (.newarray .int, 2) := by decide +kernel
theorem dX6_init_137 : decode cX6_init 137 = .ok (.putfield 59, 3) := by decide +kernel
theorem dX6_init_140 : decode cX6_init 140 = .ok (.aload_n 0, 1) := by decide +kernel
theorem dX6_init_141 : decode cX6_init 141 = .ok (.sipush 500, 3) := by decide +kernel
theorem dX6_init_144 : decode cX6_init 144 = .ok (.newarray .int, 2) := by decide +kernel
theorem dX6_init_146 : decode cX6_init 146 = .ok (.putfield 62, 3) := by decide +kernel
theorem dX6_init_149 : decode cX6_init 149 = .ok (.aload_n 0, 1) := by decide +kernel
theorem dX6_init_150 : decode cX6_init 150 = .ok (.sipush 500, 3) := by decide +kernel
theorem dX6_init_153 : decode cX6_init 153 = .ok (.newarray .boolean, 2) := by decide +kernel
theorem dX6_init_155 : decode cX6_init 155 = .ok (.putfield 65, 3) := by decide +kernel
theorem dX6_init_158 : decode cX6_init 158 = .ok (.aload_n 0, 1) := by decide +kernel
theorem dX6_init_159 : decode cX6_init 159 = .ok (.sipush 500, 3) := by decide +kernel
theorem dX6_init_162 : decode cX6_init 162 = .ok (.newarray .int, 2) := by decide +kernel
theorem dX6_init_164 : decode cX6_init 164 = .ok (.putfield 69, 3) := by decide +kernel
theorem dX6_init_167 : decode cX6_init 167 = .ok (.aload_n 0, 1) := by decide +kernel
theorem dX6_init_168 : decode cX6_init 168 = .ok (.sipush 500, 3) := by decide +kernel
theorem dX6_init_171 : decode cX6_init 171 = .ok (.newarray .int, 2) := by decide +kernel
theorem dX6_init_173 : decode cX6_init 173 = .ok (.putfield 72, 3) := by decide +kernel
theorem dX6_init_176 : decode cX6_init 176 = .ok (.aload_n 0, 1) := by decide +kernel
theorem dX6_init_177 : decode cX6_init 177 = .ok (.sipush 500, 3) := by decide +kernel
theorem dX6_init_180 : decode cX6_init 180 = .ok (.newarray .int, 2) := by decide +kernel
theorem dX6_init_182 : decode cX6_init 182 = .ok (.putfield 75, 3) := by decide +kernel
theorem dX6_init_185 : decode cX6_init 185 = .ok (.aload_n 0, 1) := by decide +kernel
theorem dX6_init_186 : decode cX6_init 186 = .ok (.sipush 500, 3) := by decide +kernel
theorem dX6_init_189 : decode cX6_init 189 = .ok (.newarray .int, 2) := by decide +kernel
theorem dX6_init_191 : decode cX6_init 191 = .ok (.putfield 78, 3) := by decide +kernel
theorem dX6_init_194 : decode cX6_init 194 = .ok (.aload_n 0, 1) := by decide +kernel
theorem dX6_init_195 : decode cX6_init 195 = .ok (.sipush 500, 3) := by decide +kernel
theorem dX6_init_198 : decode cX6_init 198 = .ok (.newarray .int, 2) := by decide +kernel
theorem dX6_init_200 : decode cX6_init 200 = .ok (.putfield 81, 3) := by decide +kernel
theorem dX6_init_203 : decode cX6_init 203 = .ok (.aload_n 0, 1) := by decide +kernel
theorem dX6_init_204 : decode cX6_init 204 = .ok (.sipush 500, 3) := by decide +kernel
theorem dX6_init_207 : decode cX6_init 207 = .ok (.newarray .int, 2) := by decide +kernel
theorem dX6_init_209 : decode cX6_init 209 = .ok (.putfield 84, 3) := by decide +kernel
theorem dX6_init_212 : decode cX6_init 212 = .ok (.aload_n 0, 1) := by decide +kernel
theorem dX6_init_213 : decode cX6_init 213 = .ok (.bipush 12, 2) := by decide +kernel
theorem dX6_init_215 : decode cX6_init 215 = .ok (.newarray .int, 2) := by decide +kernel
theorem dX6_init_217 : decode cX6_init 217 = .ok (.putfield 87, 3) := by decide +kernel
theorem dX6_init_220 : decode cX6_init 220 = .ok (.aload_n 0, 1) := by decide +kernel
theorem dX6_init_221 : decode cX6_init 221 = .ok (.bipush (-9), 2) := by decide +kernel
theorem dX6_init_223 : decode cX6_init 223 = .ok (.putfield 90, 3) := by decide +kernel
theorem dX6_init_226 : decode cX6_init 226 = .ok (.aload_n 0, 1) := by decide +kernel
theorem dX6_init_227 : decode cX6_init 227 = .ok (.sipush 5000, 3) := by decide +kernel
theorem dX6_init_230 : decode cX6_init 230 = .ok (.putfield 94, 3) := by decide +kernel
theorem dX6_init_233 : decode cX6_init 233 = .ok (.return_, 1) := by decide +kernel
theorem dX6_in_0 : decode cX6_in 0 = .ok (.lload_n 0, 1) := by decide +kernel
theorem dX6_in_1 : decode cX6_in 1 = .ok (.lload_n 2, 1) := by decide +kernel
theorem dX6_in_2 : decode cX6_in 2 = .ok (.lcmp, 1) := by decide +kernel
theorem dX6_in_3 : decode cX6_in 3 = .ok (.ifCond .lt 14, 3) := by decide +kernel
theorem dX6_in_6 : decode cX6_in 6 = .ok (.lload_n 0, 1) := by decide +kernel
theorem dX6_in_7 : decode cX6_in 7 = .ok (.lload 4, 2) := by decide +kernel
theorem dX6_in_9 : decode cX6_in 9 = .ok (.lcmp, 1) := by decide +kernel
theorem dX6_in_10 : decode cX6_in 10 = .ok (.ifCond .gt 7, 3) := by decide +kernel
theorem dX6_in_13 : decode cX6_in 13 = .ok (.iconst 1, 1) := by decide +kernel
theorem dX6_in_14 : decode cX6_in 14 = .ok (.goto 4, 3) := by decide +kernel
theorem dX6_in_17 : decode cX6_in 17 = .ok (.iconst 0, 1) := by decide +kernel
theorem dX6_in_18 : decode cX6_in 18 = .ok (.ireturn, 1) := by decide +kernel
theorem dX6_noCow_0 : decode cX6_noCow 0 = .ok (.iload_n 1, 1) := by decide +kernel
theorem dX6_noCow_1 : decode cX6_noCow 1 = .ok (.i2l, 1) := by decide +kernel
theorem dX6_noCow_2 : decode cX6_noCow 2 = .ok (.lconst 0, 1) := by decide +kernel
theorem dX6_noCow_3 : decode cX6_noCow 3 = .ok (.aload_n 0, 1) := by decide +kernel
theorem dX6_noCow_4 : decode cX6_noCow 4 = .ok (.getfield 100, 3) := by decide +kernel
theorem dX6_noCow_7 : decode cX6_noCow 7 = .ok (.iconst 1, 1) := by decide +kernel
theorem dX6_noCow_8 : decode cX6_noCow 8 = .ok (.isub, 1) := by decide +kernel
theorem dX6_noCow_9 : decode cX6_noCow 9 = .ok (.i2l, 1) := by decide +kernel
theorem dX6_noCow_10 : decode cX6_noCow 10 = .ok (.invokestatic 103, 3) := by decide +kernel
theorem dX6_noCow_13 : decode cX6_noCow 13 = .ok (.ifCond .ne 7, 3) := by decide +kernel
theorem dX6_noCow_16 : decode cX6_noCow 16 = .ok (.iconst 1, 1) := by decide +kernel
theorem dX6_noCow_17 : decode cX6_noCow 17 = .ok (.goto 4, 3) := by decide +kernel
theorem dX6_noCow_20 : decode cX6_noCow 20 = .ok (.iconst 0, 1) := by decide +kernel
theorem dX6_noCow_21 : decode cX6_noCow 21 = .ok (.ireturn, 1) := by decide +kernel
theorem dX6_cowInBox_0 : decode cX6_cowInBox 0 = .ok (.aload_n 0, 1) := by decide +kernel
theorem dX6_cowInBox_1 : decode cX6_cowInBox 1 = .ok (.getfield 90, 3) := by decide +kernel
theorem dX6_cowInBox_4 : decode cX6_cowInBox 4 = .ok (.bipush (-9), 2) := by decide +kernel
theorem dX6_cowInBox_6 : decode cX6_cowInBox 6 = .ok (.if_icmp .ne 8, 3) := by decide +kernel
theorem dX6_cowInBox_9 : decode cX6_cowInBox 9 = .ok (.bipush (-9), 2) := by decide +kernel
theorem dX6_cowInBox_11 : decode cX6_cowInBox 11 = .ok (.goto 12, 3) := by decide +kernel
theorem dX6_cowInBox_14 : decode cX6_cowInBox 14 = .ok (.aload_n 0, 1) := by decide +kernel
theorem dX6_cowInBox_15 : decode cX6_cowInBox 15 = .ok (.getfield 56, 3) := by decide +kernel
theorem dX6_cowInBox_18 : decode cX6_cowInBox 18 = .ok (.aload_n 0, 1) := by decide +kernel
theorem dX6_cowInBox_19 : decode cX6_cowInBox 19 = .ok (.getfield 90, 3) := by decide +kernel
theorem dX6_cowInBox_22 : decode cX6_cowInBox 22 = .ok (.iaload, 1) := by decide +kernel
theorem dX6_cowInBox_23 : decode cX6_cowInBox 23 = .ok (.ireturn, 1) := by decide +kernel
theorem dX6_has_0 : decode cX6_has 0 = .ok (.aload_n 0, 1) := by decide +kernel
theorem dX6_has_1 : decode cX6_has 1 = .ok (.getfield 29, 3) := by decide +kernel
theorem dX6_has_4 : decode cX6_has 4 = .ok (.iload_n 1, 1) := by decide +kernel
theorem dX6_has_5 : decode cX6_has 5 = .ok (.iaload, 1) := by decide +kernel
theorem dX6_has_6 : decode cX6_has 6 = .ok (.aload_n 0, 1) := by decide +kernel
theorem dX6_has_7 : decode cX6_has 7 = .ok (.getfield 17, 3) := by decide +kernel
theorem dX6_has_10 : decode cX6_has 10 = .ok (.iload_n 1, 1) := by decide +kernel
theorem dX6_has_11 : decode cX6_has 11 = .ok (.iaload, 1) := by decide +kernel
theorem dX6_has_12 : decode cX6_has 12 = .ok (.aload_n 0, 1) := by decide +kernel
theorem dX6_has_13 : decode cX6_has 13 = .ok (.getfield 107, 3) := by decide +kernel
theorem dX6_has_16 : decode cX6_has 16 = .ok (.aload_n 0, 1) := by decide +kernel
theorem dX6_has_17 : decode cX6_has 17 = .ok (.getfield 26, 3) := by decide +kernel
theorem dX6_has_20 : decode cX6_has 20 = .ok (.iload_n 1, 1) := by decide +kernel
theorem dX6_has_21 : decode cX6_has 21 = .ok (.iaload, 1) := by decide +kernel
theorem dX6_has_22 : decode cX6_has 22 = .ok (.isub, 1) := by decide +kernel
theorem dX6_has_23 : decode cX6_has 23 = .ok (.imul, 1) := by decide +kernel
theorem dX6_has_24 : decode cX6_has 24 = .ok (.bipush 60, 2) := by decide +kernel
theorem dX6_has_26 : decode cX6_has 26 = .ok (.idiv, 1) := by decide +kernel
theorem dX6_has_27 : decode cX6_has 27 = .ok (.iadd, 1) := by decide +kernel
theorem dX6_has_28 : decode cX6_has 28 = .ok (.istore_n 2, 1) := by decide +kernel
theorem dX6_has_29 : decode cX6_has 29 = .ok (.iload_n 2, 1) := by decide +kernel
theorem dX6_has_30 : decode cX6_has 30 = .ok (.sipush 400, 3) := by decide +kernel
theorem dX6_has_33 : decode cX6_has 33 = .ok (.if_icmp .le 9, 3) := by decide +kernel
theorem dX6_has_36 : decode cX6_has 36 = .ok (.sipush 400, 3) := by decide +kernel
theorem dX6_has_39 : decode cX6_has 39 = .ok (.goto 4, 3) := by decide +kernel
theorem dX6_has_42 : decode cX6_has 42 = .ok (.iload_n 2, 1) := by decide +kernel
theorem dX6_has_43 : decode cX6_has 43 = .ok (.ireturn, 1) := by decide +kernel
theorem dX6_hasRight_0 : decode cX6_hasRight 0 = .ok (.aload_n 0, 1) := by decide +kernel
theorem dX6_hasRight_1 : decode cX6_hasRight 1 = .ok (.getfield 32, 3) := by decide +kernel
theorem dX6_hasRight_4 : decode cX6_hasRight 4 = .ok (.iload_n 1, 1) := by decide +kernel
theorem dX6_hasRight_5 : decode cX6_hasRight 5 = .ok (.iaload, 1) := by decide +kernel
theorem dX6_hasRight_6 : decode cX6_hasRight 6 = .ok (.bipush (-9), 2) := by decide +kernel
theorem dX6_hasRight_8 : decode cX6_hasRight 8 = .ok (.if_icmp .eq 23, 3) := by decide +kernel
theorem dX6_hasRight_11 : decode cX6_hasRight 11 = .ok (.aload_n 0, 1) := by decide +kernel
theorem dX6_hasRight_12 : decode cX6_hasRight 12 = .ok (.getfield 107, 3) := by decide +kernel
theorem dX6_hasRight_15 : decode cX6_hasRight 15 = .ok (.aload_n 0, 1) := by decide +kernel
theorem dX6_hasRight_16 : decode cX6_hasRight 16 = .ok (.getfield 32, 3) := by decide +kernel
theorem dX6_hasRight_19 : decode cX6_hasRight 19 = .ok (.iload_n 1, 1) := by decide +kernel
theorem dX6_hasRight_20 : decode cX6_hasRight 20 = .ok (.iaload, 1) := by decide +kernel
theorem dX6_hasRight_21 : decode cX6_hasRight 21 = .ok (.isub, 1) := by decide +kernel
theorem dX6_hasRight_22 : decode cX6_hasRight 22 = .ok (.aload_n 0, 1) := by decide +kernel
theorem dX6_hasRight_23 : decode cX6_hasRight 23 = .ok (.getfield 20, 3) := by decide +kernel
theorem dX6_hasRight_26 : decode cX6_hasRight 26 = .ok (.iload_n 1, 1) := by decide +kernel
theorem dX6_hasRight_27 : decode cX6_hasRight 27 = .ok (.iaload, 1) := by decide +kernel
theorem dX6_hasRight_28 : decode cX6_hasRight 28 = .ok (.if_icmp .lt 7, 3) := by decide +kernel
theorem dX6_hasRight_31 : decode cX6_hasRight 31 = .ok (.iconst 1, 1) := by decide +kernel
theorem dX6_hasRight_32 : decode cX6_hasRight 32 = .ok (.goto 4, 3) := by decide +kernel
theorem dX6_hasRight_35 : decode cX6_hasRight 35 = .ok (.iconst 0, 1) := by decide +kernel
theorem dX6_hasRight_36 : decode cX6_hasRight 36 = .ok (.ireturn, 1) := by decide +kernel
theorem dX6_fedToday_0 : decode cX6_fedToday 0 = .ok (.aload_n 0, 1) := by decide +kernel
theorem dX6_fedToday_1 : decode cX6_fedToday 1 = .ok (.getfield 41, 3) := by decide +kernel
theorem dX6_fedToday_4 : decode cX6_fedToday 4 = .ok (.iload_n 1, 1) := by decide +kernel
theorem dX6_fedToday_5 : decode cX6_fedToday 5 = .ok (.iaload, 1) := by decide +kernel
theorem dX6_fedToday_6 : decode cX6_fedToday 6 = .ok (.aload_n 0, 1) := by decide +kernel
theorem dX6_fedToday_7 : decode cX6_fedToday 7 = .ok (.getfield 107, 3) := by decide +kernel
theorem dX6_fedToday_10 : decode cX6_fedToday 10 = .ok (.sipush 1440, 3) := by decide +kernel
theorem dX6_fedToday_13 : decode cX6_fedToday 13 = .ok (.idiv, 1) := by decide +kernel
theorem dX6_fedToday_14 : decode cX6_fedToday 14 = .ok (.if_icmp .ne 12, 3) := by decide +kernel
theorem dX6_fedToday_17 : decode cX6_fedToday 17 = .ok (.aload_n 0, 1) := by decide +kernel
theorem dX6_fedToday_18 : decode cX6_fedToday 18 = .ok (.getfield 44, 3) := by decide +kernel
theorem dX6_fedToday_21 : decode cX6_fedToday 21 = .ok (.iload_n 1, 1) := by decide +kernel
theorem dX6_fedToday_22 : decode cX6_fedToday 22 = .ok (.iaload, 1) := by decide +kernel
theorem dX6_fedToday_23 : decode cX6_fedToday 23 = .ok (.goto 4, 3) := by decide +kernel
theorem dX6_fedToday_26 : decode cX6_fedToday 26 = .ok (.iconst 0, 1) := by decide +kernel
theorem dX6_fedToday_27 : decode cX6_fedToday 27 = .ok (.ireturn, 1) := by decide +kernel
theorem dX6_enter_0 : decode cX6_enter 0 = .ok (.aload_n 0, 1) := by decide +kernel
theorem dX6_enter_1 : decode cX6_enter 1 = .ok (.getfield 90, 3) := by decide +kernel
theorem dX6_enter_4 : decode cX6_enter 4 = .ok (.bipush (-9), 2) := by decide +kernel
theorem dX6_enter_6 : decode cX6_enter 6 = .ok (.if_icmp .ne 17, 3) := by decide +kernel
theorem dX6_enter_9 : decode cX6_enter 9 = .ok (.aload_n 0, 1) := by decide +kernel
theorem dX6_enter_10 : decode cX6_enter 10 = .ok (.getfield 7, 3) := by decide +kernel
theorem dX6_enter_13 : decode cX6_enter 13 = .ok (.ifCond .eq 10, 3) := by decide +kernel
theorem dX6_enter_16 : decode cX6_enter 16 = .ok (.aload_n 0, 1) := by decide +kernel
theorem dX6_enter_17 : decode cX6_enter 17 = .ok (.getfield 110, 3) := by decide +kernel
theorem dX6_enter_20 : decode cX6_enter 20 = .ok (.ifCond .ne 4, 3) := by decide +kernel
theorem dX6_enter_23 : decode cX6_enter 23 = .ok (.return_, 1) := by decide +kernel
theorem dX6_enter_24 : decode cX6_enter 24 = .ok (.iconst 0, 1) := by decide +kernel
theorem dX6_enter_25 : decode cX6_enter 25 = .ok (.istore_n 1, 1) := by decide +kernel
theorem dX6_enter_26 : decode cX6_enter 26 = .ok (.iconst 0, 1) := by decide +kernel
theorem dX6_enter_27 : decode cX6_enter 27 = .ok (.istore_n 2, 1) := by decide +kernel
theorem dX6_enter_28 : decode cX6_enter 28 = .ok (.iconst 0, 1) := by decide +kernel
theorem dX6_enter_29 : decode cX6_enter 29 = .ok (.istore_n 3, 1) := by decide +kernel
theorem dX6_enter_30 : decode cX6_enter 30 = .ok (.iload_n 3, 1) := by decide +kernel
theorem dX6_enter_31 : decode cX6_enter 31 = .ok (.aload_n 0, 1) := by decide +kernel
theorem dX6_enter_32 : decode cX6_enter 32 = .ok (.getfield 110, 3) := by decide +kernel
theorem dX6_enter_35 : decode cX6_enter 35 = .ok (.if_icmp .ge 58, 3) := by decide +kernel
theorem dX6_enter_38 : decode cX6_enter 38 = .ok (.aload_n 0, 1) := by decide +kernel
theorem dX6_enter_39 : decode cX6_enter 39 = .ok (.getfield 87, 3) := by decide +kernel
theorem dX6_enter_42 : decode cX6_enter 42 = .ok (.iload_n 3, 1) := by decide +kernel
theorem dX6_enter_43 : decode cX6_enter 43 = .ok (.iaload, 1) := by decide +kernel
theorem dX6_enter_44 : decode cX6_enter 44 = .ok (.istore 4, 2) := by decide +kernel
theorem dX6_enter_46 : decode cX6_enter 46 = .ok (.iload_n 2, 1) := by decide +kernel
theorem dX6_enter_47 : decode cX6_enter 47 = .ok (.ifCond .ne 40, 3) := by decide +kernel
theorem dX6_enter_50 : decode cX6_enter 50 = .ok (.aload_n 0, 1) := by decide +kernel
theorem dX6_enter_51 : decode cX6_enter 51 = .ok (.getfield 13, 3) := by decide +kernel
theorem dX6_enter_54 : decode cX6_enter 54 = .ok (.aload_n 0, 1) := by decide +kernel
theorem dX6_enter_55 : decode cX6_enter 55 = .ok (.getfield 56, 3) := by decide +kernel
theorem dX6_enter_58 : decode cX6_enter 58 = .ok (.iload 4, 2) := by decide +kernel
theorem dX6_enter_60 : decode cX6_enter 60 = .ok (.iaload, 1) := by decide +kernel
theorem dX6_enter_61 : decode cX6_enter 61 = .ok (.iaload, 1) := by decide +kernel
theorem dX6_enter_62 : decode cX6_enter 62 = .ok (.iconst 1, 1) := by decide +kernel
theorem dX6_enter_63 : decode cX6_enter 63 = .ok (.if_icmp .ne 24, 3) := by decide +kernel
theorem dX6_enter_66 : decode cX6_enter 66 = .ok (.aload_n 0, 1) := by decide +kernel
theorem dX6_enter_67 : decode cX6_enter 67 = .ok (.getfield 107, 3) := by decide +kernel
theorem dX6_enter_70 : decode cX6_enter 70 = .ok (.aload_n 0, 1) := by decide +kernel
theorem dX6_enter_71 : decode cX6_enter 71 = .ok (.getfield 59, 3) := by decide +kernel
theorem dX6_enter_74 : decode cX6_enter 74 = .ok (.iload 4, 2) := by decide +kernel
theorem dX6_enter_76 : decode cX6_enter 76 = .ok (.iaload, 1) := by decide +kernel
theorem dX6_enter_77 : decode cX6_enter 77 = .ok (.isub, 1) := by decide +kernel
theorem dX6_enter_78 : decode cX6_enter 78 = .ok (.bipush 30, 2) := by decide +kernel
theorem dX6_enter_80 : decode cX6_enter 80 = .ok (.if_icmp .lt 7, 3) := by decide +kernel
theorem dX6_enter_83 : decode cX6_enter 83 = .ok (.iload_n 3, 1) := by decide +kernel
theorem dX6_enter_84 : decode cX6_enter 84 = .ok (.istore_n 1, 1) := by decide +kernel
theorem dX6_enter_85 : decode cX6_enter 85 = .ok (.iconst 1, 1) := by decide +kernel
theorem dX6_enter_86 : decode cX6_enter 86 = .ok (.istore_n 2, 1) := by decide +kernel
theorem dX6_enter_87 : decode cX6_enter 87 = .ok (.iinc 3 1, 3) := by decide +kernel
theorem dX6_enter_90 : decode cX6_enter 90 = .ok (.goto (-60), 3) := by decide +kernel
theorem dX6_enter_93 : decode cX6_enter 93 = .ok (.aload_n 0, 1) := by decide +kernel
theorem dX6_enter_94 : decode cX6_enter 94 = .ok (.aload_n 0, 1) := by decide +kernel
theorem dX6_enter_95 : decode cX6_enter 95 = .ok (.getfield 87, 3) := by decide +kernel
theorem dX6_enter_98 : decode cX6_enter 98 = .ok (.iload_n 1, 1) := by decide +kernel
theorem dX6_enter_99 : decode cX6_enter 99 = .ok (.iaload, 1) := by decide +kernel
theorem dX6_enter_100 : decode cX6_enter 100 = .ok (.invokevirtual 113, 3) := by decide +kernel
theorem dX6_enter_103 : decode cX6_enter 103 = .ok (.aload_n 0, 1) := by decide +kernel
theorem dX6_enter_104 : decode cX6_enter 104 = .ok (.dup, 1) := by decide +kernel
theorem dX6_enter_105 : decode cX6_enter 105 = .ok (.getfield 110, 3) := by decide +kernel
theorem dX6_enter_108 : decode cX6_enter 108 = .ok (.iconst 1, 1) := by decide +kernel
theorem dX6_enter_109 : decode cX6_enter 109 = .ok (.isub, 1) := by decide +kernel
theorem dX6_enter_110 : decode cX6_enter 110 = .ok (.putfield 110, 3) := by decide +kernel
theorem dX6_enter_113 : decode cX6_enter 113 = .ok (.iload_n 1, 1) := by decide +kernel
theorem dX6_enter_114 : decode cX6_enter 114 = .ok (.istore_n 3, 1) := by decide +kernel
theorem dX6_enter_115 : decode cX6_enter 115 = .ok (.iload_n 3, 1) := by decide +kernel
theorem dX6_enter_116 : decode cX6_enter 116 = .ok (.aload_n 0, 1) := by decide +kernel
theorem dX6_enter_117 : decode cX6_enter 117 = .ok (.getfield 110, 3) := by decide +kernel
theorem dX6_enter_120 : decode cX6_enter 120 = .ok (.if_icmp .ge 23, 3) := by decide +kernel
theorem dX6_enter_123 : decode cX6_enter 123 = .ok (.aload_n 0, 1) := by decide +kernel
theorem dX6_enter_124 : decode cX6_enter 124 = .ok (.getfield 87, 3) := by decide +kernel
theorem dX6_enter_127 : decode cX6_enter 127 = .ok (.iload_n 3, 1) := by decide +kernel
theorem dX6_enter_128 : decode cX6_enter 128 = .ok (.aload_n 0, 1) := by decide +kernel
theorem dX6_enter_129 : decode cX6_enter 129 = .ok (.getfield 87, 3) := by decide +kernel
theorem dX6_enter_132 : decode cX6_enter 132 = .ok (.iload_n 3, 1) := by decide +kernel
theorem dX6_enter_133 : decode cX6_enter 133 = .ok (.iconst 1, 1) := by decide +kernel
theorem dX6_enter_134 : decode cX6_enter 134 = .ok (.iadd, 1) := by decide +kernel
theorem dX6_enter_135 : decode cX6_enter 135 = .ok (.iaload, 1) := by decide +kernel
theorem dX6_enter_136 : decode cX6_enter 136 = .ok (.iastore, 1) := by decide +kernel
theorem dX6_enter_137 : decode cX6_enter 137 = .ok (.iinc 3 1, 3) := by decide +kernel
theorem dX6_enter_140 : decode cX6_enter 140 = .ok (.goto (-25), 3) := by decide +kernel
theorem dX6_enter_143 : decode cX6_enter 143 = .ok (.return_, 1) := by decide +kernel
theorem dX6_begin_0 : decode cX6_begin 0 = .ok (.aload_n 0, 1) := by decide +kernel
theorem dX6_begin_1 : decode cX6_begin 1 = .ok (.getfield 56, 3) := by decide +kernel
theorem dX6_begin_4 : decode cX6_begin 4 = .ok (.iload_n 1, 1) := by decide +kernel
theorem dX6_begin_5 : decode cX6_begin 5 = .ok (.iaload, 1) := by decide +kernel
theorem dX6_begin_6 : decode cX6_begin 6 = .ok (.istore_n 2, 1) := by decide +kernel
theorem dX6_begin_7 : decode cX6_begin 7 = .ok (.aload_n 0, 1) := by decide +kernel
theorem dX6_begin_8 : decode cX6_begin 8 = .ok (.iload_n 1, 1) := by decide +kernel
theorem dX6_begin_9 : decode cX6_begin 9 = .ok (.putfield 90, 3) := by decide +kernel
theorem dX6_begin_12 : decode cX6_begin 12 = .ok (.aload_n 0, 1) := by decide +kernel
theorem dX6_begin_13 : decode cX6_begin 13 = .ok (.aload_n 0, 1) := by decide +kernel
theorem dX6_begin_14 : decode cX6_begin 14 = .ok (.iload_n 2, 1) := by decide +kernel
theorem dX6_begin_15 : decode cX6_begin 15 = .ok (.invokevirtual 117, 3) := by decide +kernel
theorem dX6_begin_18 : decode cX6_begin 18 = .ok (.putfield 121, 3) := by decide +kernel
theorem dX6_begin_21 : decode cX6_begin 21 = .ok (.aload_n 0, 1) := by decide +kernel
theorem dX6_begin_22 : decode cX6_begin 22 = .ok (.iconst 0, 1) := by decide +kernel
theorem dX6_begin_23 : decode cX6_begin 23 = .ok (.putfield 124, 3) := by decide +kernel
theorem dX6_begin_26 : decode cX6_begin 26 = .ok (.aload_n 0, 1) := by decide +kernel
theorem dX6_begin_27 : decode cX6_begin 27 = .ok (.iconst 2, 1) := by decide +kernel
theorem dX6_begin_28 : decode cX6_begin 28 = .ok (.putfield 127, 3) := by decide +kernel
theorem dX6_begin_31 : decode cX6_begin 31 = .ok (.iconst 0, 1) := by decide +kernel
theorem dX6_begin_32 : decode cX6_begin 32 = .ok (.istore_n 3, 1) := by decide +kernel
theorem dX6_begin_33 : decode cX6_begin 33 = .ok (.iconst 0, 1) := by decide +kernel
theorem dX6_begin_34 : decode cX6_begin 34 = .ok (.istore 4, 2) := by decide +kernel
theorem dX6_begin_36 : decode cX6_begin 36 = .ok (.iload 4, 2) := by decide +kernel
theorem dX6_begin_38 : decode cX6_begin 38 = .ok (.iconst 4, 1) := by decide +kernel
theorem dX6_begin_39 : decode cX6_begin 39 = .ok (.if_icmp .ge 119, 3) := by decide +kernel
theorem dX6_begin_42 : decode cX6_begin 42 = .ok (.iload 4, 2) := by decide +kernel
theorem dX6_begin_44 : decode cX6_begin 44 = .ok (.ifCond .ne 19, 3) := by decide +kernel
theorem dX6_begin_47 : decode cX6_begin 47 = .ok (.aload_n 0, 1) := by decide +kernel
theorem dX6_begin_48 : decode cX6_begin 48 = .ok (.getfield 121, 3) := by decide +kernel
theorem dX6_begin_51 : decode cX6_begin 51 = .ok (.iconst 3, 1) := by decide +kernel
theorem dX6_begin_52 : decode cX6_begin 52 = .ok (.aload_n 0, 1) := by decide +kernel
theorem dX6_begin_53 : decode cX6_begin 53 = .ok (.getfield 121, 3) := by decide +kernel
theorem dX6_begin_56 : decode cX6_begin 56 = .ok (.iconst 4, 1) := by decide +kernel
theorem dX6_begin_57 : decode cX6_begin 57 = .ok (.idiv, 1) := by decide +kernel
theorem dX6_begin_58 : decode cX6_begin 58 = .ok (.imul, 1) := by decide +kernel
theorem dX6_begin_59 : decode cX6_begin 59 = .ok (.isub, 1) := by decide +kernel
theorem dX6_begin_60 : decode cX6_begin 60 = .ok (.goto 9, 3) := by decide +kernel
theorem dX6_begin_63 : decode cX6_begin 63 = .ok (.aload_n 0, 1) := by decide +kernel
theorem dX6_begin_64 : decode cX6_begin 64 = .ok (.getfield 121, 3) := by decide +kernel
theorem dX6_begin_67 : decode cX6_begin 67 = .ok (.iconst 4, 1) := by decide +kernel
theorem dX6_begin_68 : decode cX6_begin 68 = .ok (.idiv, 1) := by decide +kernel
theorem dX6_begin_69 : decode cX6_begin 69 = .ok (.istore 5, 2) := by decide +kernel
theorem dX6_begin_71 : decode cX6_begin 71 = .ok (.aload_n 0, 1) := by decide +kernel
theorem dX6_begin_72 : decode cX6_begin 72 = .ok (.getfield 38, 3) := by decide +kernel
theorem dX6_begin_75 : decode cX6_begin 75 = .ok (.iconst 4, 1) := by decide +kernel
theorem dX6_begin_76 : decode cX6_begin 76 = .ok (.iload_n 2, 1) := by decide +kernel
theorem dX6_begin_77 : decode cX6_begin 77 = .ok (.imul, 1) := by decide +kernel
theorem dX6_begin_78 : decode cX6_begin 78 = .ok (.iload 4, 2) := by decide +kernel
theorem dX6_begin_80 : decode cX6_begin 80 = .ok (.iadd, 1) := by decide +kernel
theorem dX6_begin_81 : decode cX6_begin 81 = .ok (.iaload, 1) := by decide +kernel
theorem dX6_begin_82 : decode cX6_begin 82 = .ok (.istore 6, 2) := by decide +kernel
theorem dX6_begin_84 : decode cX6_begin 84 = .ok (.aload_n 0, 1) := by decide +kernel
theorem dX6_begin_85 : decode cX6_begin 85 = .ok (.dup, 1) := by decide +kernel
theorem dX6_begin_86 : decode cX6_begin 86 = .ok (.getfield 127, 3) := by decide +kernel
theorem dX6_begin_89 : decode cX6_begin 89 = .ok (.iload 6, 2) := by decide +kernel
theorem dX6_begin_91 : decode cX6_begin 91 = .ok (.iconst 3, 1) := by decide +kernel
theorem dX6_begin_92 : decode cX6_begin 92 = .ok (.if_icmp .le 7, 3) := by decide +kernel
theorem dX6_begin_95 : decode cX6_begin 95 = .ok (.iconst 3, 1) := by decide +kernel
theorem dX6_begin_96 : decode cX6_begin 96 = .ok (.goto 5, 3) := by decide +kernel
theorem dX6_begin_99 : decode cX6_begin 99 = .ok (.iload 6, 2) := by decide +kernel
theorem dX6_begin_101 : decode cX6_begin 101 = .ok (.iadd, 1) := by decide +kernel
theorem dX6_begin_102 : decode cX6_begin 102 = .ok (.putfield 127, 3) := by decide +kernel
theorem dX6_begin_105 : decode cX6_begin 105 = .ok (.iload_n 3, 1) := by decide +kernel
theorem dX6_begin_106 : decode cX6_begin 106 = .ok (.iload 6, 2) := by decide +kernel
theorem dX6_begin_108 : decode cX6_begin 108 = .ok (.iconst 3, 1) := by decide +kernel
theorem dX6_begin_109 : decode cX6_begin 109 = .ok (.if_icmp .le 7, 3) := by decide +kernel
theorem dX6_begin_112 : decode cX6_begin 112 = .ok (.iconst 1, 1) := by decide +kernel
theorem dX6_begin_113 : decode cX6_begin 113 = .ok (.goto 4, 3) := by decide +kernel
theorem dX6_begin_116 : decode cX6_begin 116 = .ok (.iconst 0, 1) := by decide +kernel
theorem dX6_begin_117 : decode cX6_begin 117 = .ok (.iadd, 1) := by decide +kernel
theorem dX6_begin_118 : decode cX6_begin 118 = .ok (.istore_n 3, 1) := by decide +kernel
theorem dX6_begin_119 : decode cX6_begin 119 = .ok (.aload_n 0, 1) := by decide +kernel
theorem dX6_begin_120 : decode cX6_begin 120 = .ok (.dup, 1) := by decide +kernel
theorem dX6_begin_121 : decode cX6_begin 121 = .ok (.getfield 124, 3) := by decide +kernel
theorem dX6_begin_124 : decode cX6_begin 124 = .ok (.iload 6, 2) := by decide +kernel
theorem dX6_begin_126 : decode cX6_begin 126 = .ok (.iconst 3, 1) := by decide +kernel
theorem dX6_begin_127 : decode cX6_begin 127 = .ok (.if_icmp .le 7, 3) := by decide +kernel
theorem dX6_begin_130 : decode cX6_begin 130 = .ok (.iconst 0, 1) := by decide +kernel
theorem dX6_begin_131 : decode cX6_begin 131 = .ok (.goto 5, 3) := by decide +kernel
theorem dX6_begin_134 : decode cX6_begin 134 = .ok (.iload 5, 2) := by decide +kernel
theorem dX6_begin_136 : decode cX6_begin 136 = .ok (.iadd, 1) := by decide +kernel
theorem dX6_begin_137 : decode cX6_begin 137 = .ok (.putfield 124, 3) := by decide +kernel
theorem dX6_begin_140 : decode cX6_begin 140 = .ok (.aload_n 0, 1) := by decide +kernel
theorem dX6_begin_141 : decode cX6_begin 141 = .ok (.getfield 38, 3) := by decide +kernel
theorem dX6_begin_144 : decode cX6_begin 144 = .ok (.iconst 4, 1) := by decide +kernel
theorem dX6_begin_145 : decode cX6_begin 145 = .ok (.iload_n 2, 1) := by decide +kernel
theorem dX6_begin_146 : decode cX6_begin 146 = .ok (.imul, 1) := by decide +kernel
theorem dX6_begin_147 : decode cX6_begin 147 = .ok (.iload 4, 2) := by decide +kernel
theorem dX6_begin_149 : decode cX6_begin 149 = .ok (.iadd, 1) := by decide +kernel
theorem dX6_begin_150 : decode cX6_begin 150 = .ok (.iconst 0, 1) := by decide +kernel
theorem dX6_begin_151 : decode cX6_begin 151 = .ok (.iastore, 1) := by decide +kernel
theorem dX6_begin_152 : decode cX6_begin 152 = .ok (.iinc 4 1, 3) := by decide +kernel
theorem dX6_begin_155 : decode cX6_begin 155 = .ok (.goto (-119), 3) := by decide +kernel
theorem dX6_begin_158 : decode cX6_begin 158 = .ok (.aload_n 0, 1) := by decide +kernel
theorem dX6_begin_159 : decode cX6_begin 159 = .ok (.aload_n 0, 1) := by decide +kernel
theorem dX6_begin_160 : decode cX6_begin 160 = .ok (.getfield 107, 3) := by decide +kernel
theorem dX6_begin_163 : decode cX6_begin 163 = .ok (.aload_n 0, 1) := by decide +kernel
theorem dX6_begin_164 : decode cX6_begin 164 = .ok (.getfield 127, 3) := by decide +kernel
theorem dX6_begin_167 : decode cX6_begin 167 = .ok (.iadd, 1) := by decide +kernel
theorem dX6_begin_168 : decode cX6_begin 168 = .ok (.aload_n 0, 1) := by decide +kernel
theorem dX6_begin_169 : decode cX6_begin 169 = .ok (.getfield 124, 3) := by decide +kernel
theorem dX6_begin_172 : decode cX6_begin 172 = .ok (.bipush 19, 2) := by decide +kernel
theorem dX6_begin_174 : decode cX6_begin 174 = .ok (.iadd, 1) := by decide +kernel
theorem dX6_begin_175 : decode cX6_begin 175 = .ok (.bipush 20, 2) := by decide +kernel
theorem dX6_begin_177 : decode cX6_begin 177 = .ok (.idiv, 1) := by decide +kernel
theorem dX6_begin_178 : decode cX6_begin 178 = .ok (.iadd, 1) := by decide +kernel
theorem dX6_begin_179 : decode cX6_begin 179 = .ok (.putfield 130, 3) := by decide +kernel
theorem dX6_begin_182 : decode cX6_begin 182 = .ok (.aload_n 0, 1) := by decide +kernel
theorem dX6_begin_183 : decode cX6_begin 183 = .ok (.getfield 69, 3) := by decide +kernel
theorem dX6_begin_186 : decode cX6_begin 186 = .ok (.iload_n 1, 1) := by decide +kernel
theorem dX6_begin_187 : decode cX6_begin 187 = .ok (.aload_n 0, 1) := by decide +kernel
theorem dX6_begin_188 : decode cX6_begin 188 = .ok (.getfield 107, 3) := by decide +kernel
theorem dX6_begin_191 : decode cX6_begin 191 = .ok (.iastore, 1) := by decide +kernel
theorem dX6_begin_192 : decode cX6_begin 192 = .ok (.aload_n 0, 1) := by decide +kernel
theorem dX6_begin_193 : decode cX6_begin 193 = .ok (.getfield 81, 3) := by decide +kernel
theorem dX6_begin_196 : decode cX6_begin 196 = .ok (.iload_n 1, 1) := by decide +kernel
theorem dX6_begin_197 : decode cX6_begin 197 = .ok (.iload_n 3, 1) := by decide +kernel
theorem dX6_begin_198 : decode cX6_begin 198 = .ok (.iastore, 1) := by decide +kernel
theorem dX6_begin_199 : decode cX6_begin 199 = .ok (.aload_n 0, 1) := by decide +kernel
theorem dX6_begin_200 : decode cX6_begin 200 = .ok (.getfield 32, 3) := by decide +kernel
theorem dX6_begin_203 : decode cX6_begin 203 = .ok (.iload_n 2, 1) := by decide +kernel
theorem dX6_begin_204 : decode cX6_begin 204 = .ok (.aload_n 0, 1) := by decide +kernel
theorem dX6_begin_205 : decode cX6_begin 205 = .ok (.getfield 107, 3) := by decide +kernel
theorem dX6_begin_208 : decode cX6_begin 208 = .ok (.iastore, 1) := by decide +kernel
theorem dX6_begin_209 : decode cX6_begin 209 = .ok (.aload_n 0, 1) := by decide +kernel
theorem dX6_begin_210 : decode cX6_begin 210 = .ok (.getfield 26, 3) := by decide +kernel
theorem dX6_begin_213 : decode cX6_begin 213 = .ok (.iload_n 2, 1) := by decide +kernel
theorem dX6_begin_214 : decode cX6_begin 214 = .ok (.aload_n 0, 1) := by decide +kernel
theorem dX6_begin_215 : decode cX6_begin 215 = .ok (.getfield 107, 3) := by decide +kernel
theorem dX6_begin_218 : decode cX6_begin 218 = .ok (.iastore, 1) := by decide +kernel
theorem dX6_begin_219 : decode cX6_begin 219 = .ok (.aload_n 0, 1) := by decide +kernel
theorem dX6_begin_220 : decode cX6_begin 220 = .ok (.getfield 29, 3) := by decide +kernel
theorem dX6_begin_223 : decode cX6_begin 223 = .ok (.iload_n 2, 1) := by decide +kernel
theorem dX6_begin_224 : decode cX6_begin 224 = .ok (.iconst 0, 1) := by decide +kernel
theorem dX6_begin_225 : decode cX6_begin 225 = .ok (.iastore, 1) := by decide +kernel
theorem dX6_begin_226 : decode cX6_begin 226 = .ok (.return_, 1) := by decide +kernel
theorem dX6_finish_0 : decode cX6_finish 0 = .ok (.aload_n 0, 1) := by decide +kernel
theorem dX6_finish_1 : decode cX6_finish 1 = .ok (.getfield 90, 3) := by decide +kernel
theorem dX6_finish_4 : decode cX6_finish 4 = .ok (.istore_n 2, 1) := by decide +kernel
theorem dX6_finish_5 : decode cX6_finish 5 = .ok (.aload_n 0, 1) := by decide +kernel
theorem dX6_finish_6 : decode cX6_finish 6 = .ok (.getfield 56, 3) := by decide +kernel
theorem dX6_finish_9 : decode cX6_finish 9 = .ok (.iload_n 2, 1) := by decide +kernel
theorem dX6_finish_10 : decode cX6_finish 10 = .ok (.iaload, 1) := by decide +kernel
theorem dX6_finish_11 : decode cX6_finish 11 = .ok (.istore_n 3, 1) := by decide +kernel
theorem dX6_finish_12 : decode cX6_finish 12 = .ok (.aload_n 0, 1) := by decide +kernel
theorem dX6_finish_13 : decode cX6_finish 13 = .ok (.bipush (-9), 2) := by decide +kernel
theorem dX6_finish_15 : decode cX6_finish 15 = .ok (.putfield 90, 3) := by decide +kernel
theorem dX6_finish_18 : decode cX6_finish 18 = .ok (.aload_n 0, 1) := by decide +kernel
theorem dX6_finish_19 : decode cX6_finish 19 = .ok (.getfield 29, 3) := by decide +kernel
theorem dX6_finish_22 : decode cX6_finish 22 = .ok (.iload_n 3, 1) := by decide +kernel
theorem dX6_finish_23 : decode cX6_finish 23 = .ok (.aload_n 0, 1) := by decide +kernel
theorem dX6_finish_24 : decode cX6_finish 24 = .ok (.getfield 121, 3) := by decide +kernel
theorem dX6_finish_27 : decode cX6_finish 27 = .ok (.iload_n 1, 1) := by decide +kernel
theorem dX6_finish_28 : decode cX6_finish 28 = .ok (.isub, 1) := by decide +kernel
theorem dX6_finish_29 : decode cX6_finish 29 = .ok (.iastore, 1) := by decide +kernel
theorem dX6_finish_30 : decode cX6_finish 30 = .ok (.aload_n 0, 1) := by decide +kernel
theorem dX6_finish_31 : decode cX6_finish 31 = .ok (.getfield 13, 3) := by decide +kernel
theorem dX6_finish_34 : decode cX6_finish 34 = .ok (.iload_n 3, 1) := by decide +kernel
theorem dX6_finish_35 : decode cX6_finish 35 = .ok (.iaload, 1) := by decide +kernel
theorem dX6_finish_36 : decode cX6_finish 36 = .ok (.iconst 2, 1) := by decide +kernel
theorem dX6_finish_37 : decode cX6_finish 37 = .ok (.if_icmp .eq 16, 3) := by decide +kernel
theorem dX6_finish_40 : decode cX6_finish 40 = .ok (.aload_n 0, 1) := by decide +kernel
theorem dX6_finish_41 : decode cX6_finish 41 = .ok (.getfield 35, 3) := by decide +kernel
theorem dX6_finish_44 : decode cX6_finish 44 = .ok (.iload_n 3, 1) := by decide +kernel
theorem dX6_finish_45 : decode cX6_finish 45 = .ok (.iaload, 1) := by decide +kernel
theorem dX6_finish_46 : decode cX6_finish 46 = .ok (.aload_n 0, 1) := by decide +kernel
theorem dX6_finish_47 : decode cX6_finish 47 = .ok (.getfield 107, 3) := by decide +kernel
theorem dX6_finish_50 : decode cX6_finish 50 = .ok (.if_icmp .le 7, 3) := by decide +kernel
theorem dX6_finish_53 : decode cX6_finish 53 = .ok (.iconst 1, 1) := by decide +kernel
theorem dX6_finish_54 : decode cX6_finish 54 = .ok (.goto 21, 3) := by decide +kernel
theorem dX6_finish_57 : decode cX6_finish 57 = .ok (.aload_n 0, 1) := by decide +kernel
theorem dX6_finish_58 : decode cX6_finish 58 = .ok (.getfield 133, 3) := by decide +kernel
theorem dX6_finish_61 : decode cX6_finish 61 = .ok (.iload_n 1, 1) := by decide +kernel
theorem dX6_finish_62 : decode cX6_finish 62 = .ok (.iadd, 1) := by decide +kernel
theorem dX6_finish_63 : decode cX6_finish 63 = .ok (.aload_n 0, 1) := by decide +kernel
theorem dX6_finish_64 : decode cX6_finish 64 = .ok (.getfield 94, 3) := by decide +kernel
theorem dX6_finish_67 : decode cX6_finish 67 = .ok (.if_icmp .gt 7, 3) := by decide +kernel
theorem dX6_finish_70 : decode cX6_finish 70 = .ok (.iconst 0, 1) := by decide +kernel
theorem dX6_finish_71 : decode cX6_finish 71 = .ok (.goto 4, 3) := by decide +kernel
theorem dX6_finish_74 : decode cX6_finish 74 = .ok (.iconst 2, 1) := by decide +kernel
theorem dX6_finish_75 : decode cX6_finish 75 = .ok (.istore 4, 2) := by decide +kernel
theorem dX6_finish_77 : decode cX6_finish 77 = .ok (.aload_n 0, 1) := by decide +kernel
theorem dX6_finish_78 : decode cX6_finish 78 = .ok (.dup, 1) := by decide +kernel
theorem dX6_finish_79 : decode cX6_finish 79 = .ok (.getfield 133, 3) := by decide +kernel
theorem dX6_finish_82 : decode cX6_finish 82 = .ok (.iload 4, 2) := by decide +kernel
theorem dX6_finish_84 : decode cX6_finish 84 = .ok (.ifCond .ne 7, 3) := by decide +kernel
theorem dX6_finish_87 : decode cX6_finish 87 = .ok (.iload_n 1, 1) := by decide +kernel
theorem dX6_finish_88 : decode cX6_finish 88 = .ok (.goto 4, 3) := by decide +kernel
theorem dX6_finish_91 : decode cX6_finish 91 = .ok (.iconst 0, 1) := by decide +kernel
theorem dX6_finish_92 : decode cX6_finish 92 = .ok (.iadd, 1) := by decide +kernel
theorem dX6_finish_93 : decode cX6_finish 93 = .ok (.putfield 133, 3) := by decide +kernel
theorem dX6_finish_96 : decode cX6_finish 96 = .ok (.aload_n 0, 1) := by decide +kernel
theorem dX6_finish_97 : decode cX6_finish 97 = .ok (.dup, 1) := by decide +kernel
theorem dX6_finish_98 : decode cX6_finish 98 = .ok (.getfield 136, 3) := by decide +kernel
theorem dX6_finish_101 : decode cX6_finish 101 = .ok (.iload 4, 2) := by decide +kernel
theorem dX6_finish_103 : decode cX6_finish 103 = .ok (.iconst 1, 1) := by decide +kernel
theorem dX6_finish_104 : decode cX6_finish 104 = .ok (.if_icmp .ne 7, 3) := by decide +kernel
theorem dX6_finish_107 : decode cX6_finish 107 = .ok (.iload_n 1, 1) := by decide +kernel
theorem dX6_finish_108 : decode cX6_finish 108 = .ok (.goto 4, 3) := by decide +kernel
theorem dX6_finish_111 : decode cX6_finish 111 = .ok (.iconst 0, 1) := by decide +kernel
theorem dX6_finish_112 : decode cX6_finish 112 = .ok (.iadd, 1) := by decide +kernel
theorem dX6_finish_113 : decode cX6_finish 113 = .ok (.putfield 136, 3) := by decide +kernel
theorem dX6_finish_116 : decode cX6_finish 116 = .ok (.aload_n 0, 1) := by decide +kernel
theorem dX6_finish_117 : decode cX6_finish 117 = .ok (.dup, 1) := by decide +kernel
theorem dX6_finish_118 : decode cX6_finish 118 = .ok (.getfield 139, 3) := by decide +kernel
theorem dX6_finish_121 : decode cX6_finish 121 = .ok (.iload 4, 2) := by decide +kernel
theorem dX6_finish_123 : decode cX6_finish 123 = .ok (.iconst 2, 1) := by decide +kernel
theorem dX6_finish_124 : decode cX6_finish 124 = .ok (.if_icmp .ne 7, 3) := by decide +kernel
theorem dX6_finish_127 : decode cX6_finish 127 = .ok (.iload_n 1, 1) := by decide +kernel
theorem dX6_finish_128 : decode cX6_finish 128 = .ok (.goto 4, 3) := by decide +kernel
theorem dX6_finish_131 : decode cX6_finish 131 = .ok (.iconst 0, 1) := by decide +kernel
theorem dX6_finish_132 : decode cX6_finish 132 = .ok (.iadd, 1) := by decide +kernel
theorem dX6_finish_133 : decode cX6_finish 133 = .ok (.putfield 139, 3) := by decide +kernel
theorem dX6_finish_136 : decode cX6_finish 136 = .ok (.aload_n 0, 1) := by decide +kernel
theorem dX6_finish_137 : decode cX6_finish 137 = .ok (.getfield 23, 3) := by decide +kernel
theorem dX6_finish_140 : decode cX6_finish 140 = .ok (.iload_n 3, 1) := by decide +kernel
theorem dX6_finish_141 : decode cX6_finish 141 = .ok (.iaload, 1) := by decide +kernel
theorem dX6_finish_142 : decode cX6_finish 142 = .ok (.aload_n 0, 1) := by decide +kernel
theorem dX6_finish_143 : decode cX6_finish 143 = .ok (.iload_n 3, 1) := by decide +kernel
theorem dX6_finish_144 : decode cX6_finish 144 = .ok (.invokevirtual 142, 3) := by decide +kernel
theorem dX6_finish_147 : decode cX6_finish 147 = .ok (.isub, 1) := by decide +kernel
theorem dX6_finish_148 : decode cX6_finish 148 = .ok (.istore 5, 2) := by decide +kernel
theorem dX6_finish_150 : decode cX6_finish 150 = .ok (.bipush 10, 2) := by decide +kernel
theorem dX6_finish_152 : decode cX6_finish 152 = .ok (.iload_n 1, 1) := by decide +kernel
theorem dX6_finish_153 : decode cX6_finish 153 = .ok (.imul, 1) := by decide +kernel
theorem dX6_finish_154 : decode cX6_finish 154 = .ok (.iload 5, 2) := by decide +kernel
theorem dX6_finish_156 : decode cX6_finish 156 = .ok (.if_icmp .ge 10, 3) := by decide +kernel
theorem dX6_finish_159 : decode cX6_finish 159 = .ok (.bipush 10, 2) := by decide +kernel
theorem dX6_finish_161 : decode cX6_finish 161 = .ok (.iload_n 1, 1) := by decide +kernel
theorem dX6_finish_162 : decode cX6_finish 162 = .ok (.imul, 1) := by decide +kernel
theorem dX6_finish_163 : decode cX6_finish 163 = .ok (.goto 5, 3) := by decide +kernel
theorem dX6_finish_166 : decode cX6_finish 166 = .ok (.iload 5, 2) := by decide +kernel
theorem dX6_finish_168 : decode cX6_finish 168 = .ok (.istore 6, 2) := by decide +kernel
theorem dX6_finish_170 : decode cX6_finish 170 = .ok (.aload_n 0, 1) := by decide +kernel
theorem dX6_finish_171 : decode cX6_finish 171 = .ok (.getfield 44, 3) := by decide +kernel
theorem dX6_finish_174 : decode cX6_finish 174 = .ok (.iload_n 3, 1) := by decide +kernel
theorem dX6_finish_175 : decode cX6_finish 175 = .ok (.aload_n 0, 1) := by decide +kernel
theorem dX6_finish_176 : decode cX6_finish 176 = .ok (.iload_n 3, 1) := by decide +kernel
theorem dX6_finish_177 : decode cX6_finish 177 = .ok (.invokevirtual 142, 3) := by decide +kernel
theorem dX6_finish_180 : decode cX6_finish 180 = .ok (.iload 6, 2) := by decide +kernel
theorem dX6_finish_182 : decode cX6_finish 182 = .ok (.iadd, 1) := by decide +kernel
theorem dX6_finish_183 : decode cX6_finish 183 = .ok (.iastore, 1) := by decide +kernel
theorem dX6_finish_184 : decode cX6_finish 184 = .ok (.aload_n 0, 1) := by decide +kernel
theorem dX6_finish_185 : decode cX6_finish 185 = .ok (.getfield 41, 3) := by decide +kernel
theorem dX6_finish_188 : decode cX6_finish 188 = .ok (.iload_n 3, 1) := by decide +kernel
theorem dX6_finish_189 : decode cX6_finish 189 = .ok (.aload_n 0, 1) := by decide +kernel
theorem dX6_finish_190 : decode cX6_finish 190 = .ok (.getfield 107, 3) := by decide +kernel
theorem dX6_finish_193 : decode cX6_finish 193 = .ok (.sipush 1440, 3) := by decide +kernel
theorem dX6_finish_196 : decode cX6_finish 196 = .ok (.idiv, 1) := by decide +kernel
theorem dX6_finish_197 : decode cX6_finish 197 = .ok (.iastore, 1) := by decide +kernel
theorem dX6_finish_198 : decode cX6_finish 198 = .ok (.aload_n 0, 1) := by decide +kernel
theorem dX6_finish_199 : decode cX6_finish 199 = .ok (.dup, 1) := by decide +kernel
theorem dX6_finish_200 : decode cX6_finish 200 = .ok (.getfield 145, 3) := by decide +kernel
theorem dX6_finish_203 : decode cX6_finish 203 = .ok (.iload 6, 2) := by decide +kernel
theorem dX6_finish_205 : decode cX6_finish 205 = .ok (.iadd, 1) := by decide +kernel
theorem dX6_finish_206 : decode cX6_finish 206 = .ok (.putfield 145, 3) := by decide +kernel
theorem dX6_finish_209 : decode cX6_finish 209 = .ok (.aload_n 0, 1) := by decide +kernel
theorem dX6_finish_210 : decode cX6_finish 210 = .ok (.dup, 1) := by decide +kernel
theorem dX6_finish_211 : decode cX6_finish 211 = .ok (.getfield 148, 3) := by decide +kernel
theorem dX6_finish_214 : decode cX6_finish 214 = .ok (.iload_n 1, 1) := by decide +kernel
theorem dX6_finish_215 : decode cX6_finish 215 = .ok (.iadd, 1) := by decide +kernel
theorem dX6_finish_216 : decode cX6_finish 216 = .ok (.putfield 148, 3) := by decide +kernel
theorem dX6_finish_219 : decode cX6_finish 219 = .ok (.aload_n 0, 1) := by decide +kernel
theorem dX6_finish_220 : decode cX6_finish 220 = .ok (.getfield 47, 3) := by decide +kernel
theorem dX6_finish_223 : decode cX6_finish 223 = .ok (.iload_n 3, 1) := by decide +kernel
theorem dX6_finish_224 : decode cX6_finish 224 = .ok (.dup2, 1) := by decide +kernel
theorem dX6_finish_225 : decode cX6_finish 225 = .ok (.iaload, 1) := by decide +kernel
theorem dX6_finish_226 : decode cX6_finish 226 = .ok (.iload_n 1, 1) := by decide +kernel
theorem dX6_finish_227 : decode cX6_finish 227 = .ok (.iadd, 1) := by decide +kernel
theorem dX6_finish_228 : decode cX6_finish 228 = .ok (.iastore, 1) := by decide +kernel
theorem dX6_finish_229 : decode cX6_finish 229 = .ok (.aload_n 0, 1) := by decide +kernel
theorem dX6_finish_230 : decode cX6_finish 230 = .ok (.getfield 72, 3) := by decide +kernel
theorem dX6_finish_233 : decode cX6_finish 233 = .ok (.iload_n 2, 1) := by decide +kernel
theorem dX6_finish_234 : decode cX6_finish 234 = .ok (.aload_n 0, 1) := by decide +kernel
theorem dX6_finish_235 : decode cX6_finish 235 = .ok (.getfield 107, 3) := by decide +kernel
theorem dX6_finish_238 : decode cX6_finish 238 = .ok (.iastore, 1) := by decide +kernel
theorem dX6_finish_239 : decode cX6_finish 239 = .ok (.aload_n 0, 1) := by decide +kernel
theorem dX6_finish_240 : decode cX6_finish 240 = .ok (.getfield 75, 3) := by decide +kernel
theorem dX6_finish_243 : decode cX6_finish 243 = .ok (.iload_n 2, 1) := by decide +kernel
theorem dX6_finish_244 : decode cX6_finish 244 = .ok (.iload_n 1, 1) := by decide +kernel
theorem dX6_finish_245 : decode cX6_finish 245 = .ok (.iastore, 1) := by decide +kernel
theorem dX6_finish_246 : decode cX6_finish 246 = .ok (.aload_n 0, 1) := by decide +kernel
theorem dX6_finish_247 : decode cX6_finish 247 = .ok (.getfield 78, 3) := by decide +kernel
theorem dX6_finish_250 : decode cX6_finish 250 = .ok (.iload_n 2, 1) := by decide +kernel
theorem dX6_finish_251 : decode cX6_finish 251 = .ok (.iload 4, 2) := by decide +kernel
theorem dX6_finish_253 : decode cX6_finish 253 = .ok (.iastore, 1) := by decide +kernel
theorem dX6_finish_254 : decode cX6_finish 254 = .ok (.aload_n 0, 1) := by decide +kernel
theorem dX6_finish_255 : decode cX6_finish 255 = .ok (.getfield 84, 3) := by decide +kernel
theorem dX6_finish_258 : decode cX6_finish 258 = .ok (.iload_n 2, 1) := by decide +kernel
theorem dX6_finish_259 : decode cX6_finish 259 = .ok (.iload 6, 2) := by decide +kernel
theorem dX6_finish_261 : decode cX6_finish 261 = .ok (.iastore, 1) := by decide +kernel
theorem dX6_finish_262 : decode cX6_finish 262 = .ok (.return_, 1) := by decide +kernel
theorem dX6_cow_0 : decode cX6_cow 0 = .ok (.aload_n 0, 1) := by decide +kernel
theorem dX6_cow_1 : decode cX6_cow 1 = .ok (.iconst 0, 1) := by decide +kernel
theorem dX6_cow_2 : decode cX6_cow 2 = .ok (.putfield 97, 3) := by decide +kernel
theorem dX6_cow_5 : decode cX6_cow 5 = .ok (.iload_n 1, 1) := by decide +kernel
theorem dX6_cow_6 : decode cX6_cow 6 = .ok (.i2l, 1) := by decide +kernel
theorem dX6_cow_7 : decode cX6_cow 7 = .ok (.lconst 0, 1) := by decide +kernel
theorem dX6_cow_8 : decode cX6_cow 8 = .ok (.ldc2_w 151, 3) := by decide +kernel
theorem dX6_cow_11 : decode cX6_cow 11 = .ok (.invokestatic 103, 3) := by decide +kernel
theorem dX6_cow_14 : decode cX6_cow 14 = .ok (.ifCond .eq 40, 3) := by decide +kernel
theorem dX6_cow_17 : decode cX6_cow 17 = .ok (.iload_n 2, 1) := by decide +kernel
theorem dX6_cow_18 : decode cX6_cow 18 = .ok (.i2l, 1) := by decide +kernel
theorem dX6_cow_19 : decode cX6_cow 19 = .ok (.lconst 1, 1) := by decide +kernel
theorem dX6_cow_20 : decode cX6_cow 20 = .ok (.ldc2_w 153, 3) := by decide +kernel
theorem dX6_cow_23 : decode cX6_cow 23 = .ok (.invokestatic 103, 3) := by decide +kernel
theorem dX6_cow_26 : decode cX6_cow 26 = .ok (.ifCond .eq 28, 3) := by decide +kernel
theorem dX6_cow_29 : decode cX6_cow 29 = .ok (.iload_n 3, 1) := by decide +kernel
theorem dX6_cow_30 : decode cX6_cow 30 = .ok (.i2l, 1) := by decide +kernel
theorem dX6_cow_31 : decode cX6_cow 31 = .ok (.lconst 0, 1) := by decide +kernel
theorem dX6_cow_32 : decode cX6_cow 32 = .ok (.ldc2_w 155, 3) := by decide +kernel
theorem dX6_cow_35 : decode cX6_cow 35 = .ok (.invokestatic 103, 3) := by decide +kernel
theorem dX6_cow_38 : decode cX6_cow 38 = .ok (.ifCond .eq 16, 3) := by decide +kernel
theorem dX6_cow_41 : decode cX6_cow 41 = .ok (.iload 4, 2) := by decide +kernel
theorem dX6_cow_43 : decode cX6_cow 43 = .ok (.i2l, 1) := by decide +kernel
theorem dX6_cow_44 : decode cX6_cow 44 = .ok (.lconst 0, 1) := by decide +kernel
theorem dX6_cow_45 : decode cX6_cow 45 = .ok (.ldc2_w 157, 3) := by decide +kernel
theorem dX6_cow_48 : decode cX6_cow 48 = .ok (.invokestatic 103, 3) := by decide +kernel
theorem dX6_cow_51 : decode cX6_cow 51 = .ok (.ifCond .ne 6, 3) := by decide +kernel
theorem dX6_cow_54 : decode cX6_cow 54 = .ok (.bipush (-2), 2) := by decide +kernel
theorem dX6_cow_56 : decode cX6_cow 56 = .ok (.ireturn, 1) := by decide +kernel
theorem dX6_cow_57 : decode cX6_cow 57 = .ok (.aload_n 0, 1) := by decide +kernel
theorem dX6_cow_58 : decode cX6_cow 58 = .ok (.getfield 100, 3) := by decide +kernel
theorem dX6_cow_61 : decode cX6_cow 61 = .ok (.bipush 12, 2) := by decide +kernel
theorem dX6_cow_63 : decode cX6_cow 63 = .ok (.if_icmp .ne 6, 3) := by decide +kernel
theorem dX6_cow_66 : decode cX6_cow 66 = .ok (.bipush (-4), 2) := by decide +kernel
theorem dX6_cow_68 : decode cX6_cow 68 = .ok (.ireturn, 1) := by decide +kernel
theorem dX6_cow_69 : decode cX6_cow 69 = .ok (.aload_n 0, 1) := by decide +kernel
theorem dX6_cow_70 : decode cX6_cow 70 = .ok (.getfield 13, 3) := by decide +kernel
theorem dX6_cow_73 : decode cX6_cow 73 = .ok (.aload_n 0, 1) := by decide +kernel
theorem dX6_cow_74 : decode cX6_cow 74 = .ok (.getfield 100, 3) := by decide +kernel
theorem dX6_cow_77 : decode cX6_cow 77 = .ok (.iload_n 1, 1) := by decide +kernel
theorem dX6_cow_78 : decode cX6_cow 78 = .ok (.iastore, 1) := by decide +kernel
theorem dX6_cow_79 : decode cX6_cow 79 = .ok (.aload_n 0, 1) := by decide +kernel
theorem dX6_cow_80 : decode cX6_cow 80 = .ok (.getfield 17, 3) := by decide +kernel
theorem dX6_cow_83 : decode cX6_cow 83 = .ok (.aload_n 0, 1) := by decide +kernel
theorem dX6_cow_84 : decode cX6_cow 84 = .ok (.getfield 100, 3) := by decide +kernel
theorem dX6_cow_87 : decode cX6_cow 87 = .ok (.iload_n 2, 1) := by decide +kernel
theorem dX6_cow_88 : decode cX6_cow 88 = .ok (.iastore, 1) := by decide +kernel
theorem dX6_cow_89 : decode cX6_cow 89 = .ok (.aload_n 0, 1) := by decide +kernel
theorem dX6_cow_90 : decode cX6_cow 90 = .ok (.getfield 20, 3) := by decide +kernel
theorem dX6_cow_93 : decode cX6_cow 93 = .ok (.aload_n 0, 1) := by decide +kernel
theorem dX6_cow_94 : decode cX6_cow 94 = .ok (.getfield 100, 3) := by decide +kernel
theorem dX6_cow_97 : decode cX6_cow 97 = .ok (.iload_n 3, 1) := by decide +kernel
theorem dX6_cow_98 : decode cX6_cow 98 = .ok (.iastore, 1) := by decide +kernel
theorem dX6_cow_99 : decode cX6_cow 99 = .ok (.aload_n 0, 1) := by decide +kernel
theorem dX6_cow_100 : decode cX6_cow 100 = .ok (.getfield 23, 3) := by decide +kernel
theorem dX6_cow_103 : decode cX6_cow 103 = .ok (.aload_n 0, 1) := by decide +kernel
theorem dX6_cow_104 : decode cX6_cow 104 = .ok (.getfield 100, 3) := by decide +kernel
theorem dX6_cow_107 : decode cX6_cow 107 = .ok (.iload 4, 2) := by decide +kernel
theorem dX6_cow_109 : decode cX6_cow 109 = .ok (.iastore, 1) := by decide +kernel
theorem dX6_cow_110 : decode cX6_cow 110 = .ok (.aload_n 0, 1) := by decide +kernel
theorem dX6_cow_111 : decode cX6_cow 111 = .ok (.getfield 26, 3) := by decide +kernel
theorem dX6_cow_114 : decode cX6_cow 114 = .ok (.aload_n 0, 1) := by decide +kernel
theorem dX6_cow_115 : decode cX6_cow 115 = .ok (.getfield 100, 3) := by decide +kernel
theorem dX6_cow_118 : decode cX6_cow 118 = .ok (.aload_n 0, 1) := by decide +kernel
theorem dX6_cow_119 : decode cX6_cow 119 = .ok (.getfield 107, 3) := by decide +kernel
theorem dX6_cow_122 : decode cX6_cow 122 = .ok (.iastore, 1) := by decide +kernel
theorem dX6_cow_123 : decode cX6_cow 123 = .ok (.aload_n 0, 1) := by decide +kernel
theorem dX6_cow_124 : decode cX6_cow 124 = .ok (.getfield 32, 3) := by decide +kernel
theorem dX6_cow_127 : decode cX6_cow 127 = .ok (.aload_n 0, 1) := by decide +kernel
theorem dX6_cow_128 : decode cX6_cow 128 = .ok (.getfield 100, 3) := by decide +kernel
theorem dX6_cow_131 : decode cX6_cow 131 = .ok (.bipush (-9), 2) := by decide +kernel
theorem dX6_cow_133 : decode cX6_cow 133 = .ok (.iastore, 1) := by decide +kernel
theorem dX6_cow_134 : decode cX6_cow 134 = .ok (.aload_n 0, 1) := by decide +kernel
theorem dX6_cow_135 : decode cX6_cow 135 = .ok (.getfield 41, 3) := by decide +kernel
theorem dX6_cow_138 : decode cX6_cow 138 = .ok (.aload_n 0, 1) := by decide +kernel
theorem dX6_cow_139 : decode cX6_cow 139 = .ok (.getfield 100, 3) := by decide +kernel
theorem dX6_cow_142 : decode cX6_cow 142 = .ok (.bipush (-9), 2) := by decide +kernel
theorem dX6_cow_144 : decode cX6_cow 144 = .ok (.iastore, 1) := by decide +kernel
theorem dX6_cow_145 : decode cX6_cow 145 = .ok (.aload_n 0, 1) := by decide +kernel
theorem dX6_cow_146 : decode cX6_cow 146 = .ok (.dup, 1) := by decide +kernel
theorem dX6_cow_147 : decode cX6_cow 147 = .ok (.getfield 100, 3) := by decide +kernel
theorem dX6_cow_150 : decode cX6_cow 150 = .ok (.iconst 1, 1) := by decide +kernel
theorem dX6_cow_151 : decode cX6_cow 151 = .ok (.iadd, 1) := by decide +kernel
theorem dX6_cow_152 : decode cX6_cow 152 = .ok (.putfield 100, 3) := by decide +kernel
theorem dX6_cow_155 : decode cX6_cow 155 = .ok (.aload_n 0, 1) := by decide +kernel
theorem dX6_cow_156 : decode cX6_cow 156 = .ok (.getfield 100, 3) := by decide +kernel
theorem dX6_cow_159 : decode cX6_cow 159 = .ok (.iconst 1, 1) := by decide +kernel
theorem dX6_cow_160 : decode cX6_cow 160 = .ok (.isub, 1) := by decide +kernel
theorem dX6_cow_161 : decode cX6_cow 161 = .ok (.ireturn, 1) := by decide +kernel
theorem dX6_taken_0 : decode cX6_taken 0 = .ok (.aload_n 0, 1) := by decide +kernel
theorem dX6_taken_1 : decode cX6_taken 1 = .ok (.iconst 0, 1) := by decide +kernel
theorem dX6_taken_2 : decode cX6_taken 2 = .ok (.putfield 97, 3) := by decide +kernel
theorem dX6_taken_5 : decode cX6_taken 5 = .ok (.aload_n 0, 1) := by decide +kernel
theorem dX6_taken_6 : decode cX6_taken 6 = .ok (.iload_n 1, 1) := by decide +kernel
theorem dX6_taken_7 : decode cX6_taken 7 = .ok (.invokevirtual 159, 3) := by decide +kernel
theorem dX6_taken_10 : decode cX6_taken 10 = .ok (.ifCond .eq 5, 3) := by decide +kernel
theorem dX6_taken_13 : decode cX6_taken 13 = .ok (.iconst (-1), 1) := by decide +kernel
theorem dX6_taken_14 : decode cX6_taken 14 = .ok (.ireturn, 1) := by decide +kernel
theorem dX6_taken_15 : decode cX6_taken 15 = .ok (.iload_n 2, 1) := by decide +kernel
theorem dX6_taken_16 : decode cX6_taken 16 = .ok (.i2l, 1) := by decide +kernel
theorem dX6_taken_17 : decode cX6_taken 17 = .ok (.lconst 0, 1) := by decide +kernel
theorem dX6_taken_18 : decode cX6_taken 18 = .ok (.ldc2_w 151, 3) := by decide +kernel
theorem dX6_taken_21 : decode cX6_taken 21 = .ok (.invokestatic 103, 3) := by decide +kernel
theorem dX6_taken_24 : decode cX6_taken 24 = .ok (.ifCond .eq 15, 3) := by decide +kernel
theorem dX6_taken_27 : decode cX6_taken 27 = .ok (.iload_n 3, 1) := by decide +kernel
theorem dX6_taken_28 : decode cX6_taken 28 = .ok (.i2l, 1) := by decide +kernel
theorem dX6_taken_29 : decode cX6_taken 29 = .ok (.lconst 0, 1) := by decide +kernel
theorem dX6_taken_30 : decode cX6_taken 30 = .ok (.ldc2_w 163, 3) := by decide +kernel
theorem dX6_taken_33 : decode cX6_taken 33 = .ok (.invokestatic 103, 3) := by decide +kernel
theorem dX6_taken_36 : decode cX6_taken 36 = .ok (.ifCond .ne 6, 3) := by decide +kernel
theorem dX6_taken_39 : decode cX6_taken 39 = .ok (.bipush (-2), 2) := by decide +kernel
theorem dX6_taken_41 : decode cX6_taken 41 = .ok (.ireturn, 1) := by decide +kernel
theorem dX6_taken_42 : decode cX6_taken 42 = .ok (.iload_n 2, 1) := by decide +kernel
theorem dX6_taken_43 : decode cX6_taken 43 = .ok (.ifCond .eq 16, 3) := by decide +kernel
theorem dX6_taken_46 : decode cX6_taken 46 = .ok (.aload_n 0, 1) := by decide +kernel
theorem dX6_taken_47 : decode cX6_taken 47 = .ok (.getfield 13, 3) := by decide +kernel
theorem dX6_taken_50 : decode cX6_taken 50 = .ok (.iload_n 1, 1) := by decide +kernel
theorem dX6_taken_51 : decode cX6_taken 51 = .ok (.iaload, 1) := by decide +kernel
theorem dX6_taken_52 : decode cX6_taken 52 = .ok (.iload_n 2, 1) := by decide +kernel
theorem dX6_taken_53 : decode cX6_taken 53 = .ok (.if_icmp .eq 6, 3) := by decide +kernel
theorem dX6_taken_56 : decode cX6_taken 56 = .ok (.bipush (-13), 2) := by decide +kernel
theorem dX6_taken_58 : decode cX6_taken 58 = .ok (.ireturn, 1) := by decide +kernel
theorem dX6_taken_59 : decode cX6_taken 59 = .ok (.iload_n 3, 1) := by decide +kernel
theorem dX6_taken_60 : decode cX6_taken 60 = .ok (.ifCond .ne 12, 3) := by decide +kernel
theorem dX6_taken_63 : decode cX6_taken 63 = .ok (.aload_n 0, 1) := by decide +kernel
theorem dX6_taken_64 : decode cX6_taken 64 = .ok (.getfield 13, 3) := by decide +kernel
theorem dX6_taken_67 : decode cX6_taken 67 = .ok (.iload_n 1, 1) := by decide +kernel
theorem dX6_taken_68 : decode cX6_taken 68 = .ok (.iaload, 1) := by decide +kernel
theorem dX6_taken_69 : decode cX6_taken 69 = .ok (.goto 37, 3) := by decide +kernel
theorem dX6_taken_72 : decode cX6_taken 72 = .ok (.iload_n 3, 1) := by decide +kernel
theorem dX6_taken_73 : decode cX6_taken 73 = .ok (.iconst 1, 1) := by decide +kernel
theorem dX6_taken_74 : decode cX6_taken 74 = .ok (.if_icmp .ne 12, 3) := by decide +kernel
theorem dX6_taken_77 : decode cX6_taken 77 = .ok (.aload_n 0, 1) := by decide +kernel
theorem dX6_taken_78 : decode cX6_taken 78 = .ok (.getfield 17, 3) := by decide +kernel
theorem dX6_taken_81 : decode cX6_taken 81 = .ok (.iload_n 1, 1) := by decide +kernel
theorem dX6_taken_82 : decode cX6_taken 82 = .ok (.iaload, 1) := by decide +kernel
theorem dX6_taken_83 : decode cX6_taken 83 = .ok (.goto 23, 3) := by decide +kernel
theorem dX6_taken_86 : decode cX6_taken 86 = .ok (.iload_n 3, 1) := by decide +kernel
theorem dX6_taken_87 : decode cX6_taken 87 = .ok (.iconst 2, 1) := by decide +kernel
theorem dX6_taken_88 : decode cX6_taken 88 = .ok (.if_icmp .ne 12, 3) := by decide +kernel
theorem dX6_taken_91 : decode cX6_taken 91 = .ok (.aload_n 0, 1) := by decide +kernel
theorem dX6_taken_92 : decode cX6_taken 92 = .ok (.getfield 20, 3) := by decide +kernel
theorem dX6_taken_95 : decode cX6_taken 95 = .ok (.iload_n 1, 1) := by decide +kernel
theorem dX6_taken_96 : decode cX6_taken 96 = .ok (.iaload, 1) := by decide +kernel
theorem dX6_taken_97 : decode cX6_taken 97 = .ok (.goto 9, 3) := by decide +kernel
theorem dX6_taken_100 : decode cX6_taken 100 = .ok (.aload_n 0, 1) := by decide +kernel
theorem dX6_taken_101 : decode cX6_taken 101 = .ok (.getfield 23, 3) := by decide +kernel
theorem dX6_taken_104 : decode cX6_taken 104 = .ok (.iload_n 1, 1) := by decide +kernel
theorem dX6_taken_105 : decode cX6_taken 105 = .ok (.iaload, 1) := by decide +kernel
theorem dX6_taken_106 : decode cX6_taken 106 = .ok (.ireturn, 1) := by decide +kernel
theorem dX6_withhold_0 : decode cX6_withhold 0 = .ok (.aload_n 0, 1) := by decide +kernel
theorem dX6_withhold_1 : decode cX6_withhold 1 = .ok (.iconst 0, 1) := by decide +kernel
theorem dX6_withhold_2 : decode cX6_withhold 2 = .ok (.putfield 97, 3) := by decide +kernel
theorem dX6_withhold_5 : decode cX6_withhold 5 = .ok (.aload_n 0, 1) := by decide +kernel
theorem dX6_withhold_6 : decode cX6_withhold 6 = .ok (.iload_n 1, 1) := by decide +kernel
theorem dX6_withhold_7 : decode cX6_withhold 7 = .ok (.invokevirtual 159, 3) := by decide +kernel
theorem dX6_withhold_10 : decode cX6_withhold 10 = .ok (.ifCond .eq 5, 3) := by decide +kernel
theorem dX6_withhold_13 : decode cX6_withhold 13 = .ok (.iconst (-1), 1) := by decide +kernel
theorem dX6_withhold_14 : decode cX6_withhold 14 = .ok (.ireturn, 1) := by decide +kernel
theorem dX6_withhold_15 : decode cX6_withhold 15 = .ok (.iload_n 2, 1) := by decide +kernel
theorem dX6_withhold_16 : decode cX6_withhold 16 = .ok (.i2l, 1) := by decide +kernel
theorem dX6_withhold_17 : decode cX6_withhold 17 = .ok (.lconst 0, 1) := by decide +kernel
theorem dX6_withhold_18 : decode cX6_withhold 18 = .ok (.ldc2_w 165, 3) := by decide +kernel
theorem dX6_withhold_21 : decode cX6_withhold 21 = .ok (.invokestatic 103, 3) := by decide +kernel
theorem dX6_withhold_24 : decode cX6_withhold 24 = .ok (.ifCond .ne 6, 3) := by decide +kernel
theorem dX6_withhold_27 : decode cX6_withhold 27 = .ok (.bipush (-2), 2) := by decide +kernel
theorem dX6_withhold_29 : decode cX6_withhold 29 = .ok (.ireturn, 1) := by decide +kernel
theorem dX6_withhold_30 : decode cX6_withhold 30 = .ok (.aload_n 0, 1) := by decide +kernel
theorem dX6_withhold_31 : decode cX6_withhold 31 = .ok (.getfield 35, 3) := by decide +kernel
theorem dX6_withhold_34 : decode cX6_withhold 34 = .ok (.iload_n 1, 1) := by decide +kernel
theorem dX6_withhold_35 : decode cX6_withhold 35 = .ok (.iaload, 1) := by decide +kernel
theorem dX6_withhold_36 : decode cX6_withhold 36 = .ok (.istore_n 3, 1) := by decide +kernel
theorem dX6_withhold_37 : decode cX6_withhold 37 = .ok (.aload_n 0, 1) := by decide +kernel
theorem dX6_withhold_38 : decode cX6_withhold 38 = .ok (.getfield 35, 3) := by decide +kernel
theorem dX6_withhold_41 : decode cX6_withhold 41 = .ok (.iload_n 1, 1) := by decide +kernel
theorem dX6_withhold_42 : decode cX6_withhold 42 = .ok (.iload_n 2, 1) := by decide +kernel
theorem dX6_withhold_43 : decode cX6_withhold 43 = .ok (.iastore, 1) := by decide +kernel
theorem dX6_withhold_44 : decode cX6_withhold 44 = .ok (.iload_n 3, 1) := by decide +kernel
theorem dX6_withhold_45 : decode cX6_withhold 45 = .ok (.ireturn, 1) := by decide +kernel
theorem dX6_trouble_0 : decode cX6_trouble 0 = .ok (.aload_n 0, 1) := by decide +kernel
theorem dX6_trouble_1 : decode cX6_trouble 1 = .ok (.iconst 0, 1) := by decide +kernel
theorem dX6_trouble_2 : decode cX6_trouble 2 = .ok (.putfield 97, 3) := by decide +kernel
theorem dX6_trouble_5 : decode cX6_trouble 5 = .ok (.aload_n 0, 1) := by decide +kernel
theorem dX6_trouble_6 : decode cX6_trouble 6 = .ok (.iload_n 1, 1) := by decide +kernel
theorem dX6_trouble_7 : decode cX6_trouble 7 = .ok (.invokevirtual 159, 3) := by decide +kernel
theorem dX6_trouble_10 : decode cX6_trouble 10 = .ok (.ifCond .ne 15, 3) := by decide +kernel
theorem dX6_trouble_13 : decode cX6_trouble 13 = .ok (.iload_n 2, 1) := by decide +kernel
theorem dX6_trouble_14 : decode cX6_trouble 14 = .ok (.i2l, 1) := by decide +kernel
theorem dX6_trouble_15 : decode cX6_trouble 15 = .ok (.lconst 0, 1) := by decide +kernel
theorem dX6_trouble_16 : decode cX6_trouble 16 = .ok (.ldc2_w 163, 3) := by decide +kernel
theorem dX6_trouble_19 : decode cX6_trouble 19 = .ok (.invokestatic 103, 3) := by decide +kernel
theorem dX6_trouble_22 : decode cX6_trouble 22 = .ok (.ifCond .ne 5, 3) := by decide +kernel
theorem dX6_trouble_25 : decode cX6_trouble 25 = .ok (.iconst (-1), 1) := by decide +kernel
theorem dX6_trouble_26 : decode cX6_trouble 26 = .ok (.ireturn, 1) := by decide +kernel
theorem dX6_trouble_27 : decode cX6_trouble 27 = .ok (.iload_n 3, 1) := by decide +kernel
theorem dX6_trouble_28 : decode cX6_trouble 28 = .ok (.i2l, 1) := by decide +kernel
theorem dX6_trouble_29 : decode cX6_trouble 29 = .ok (.lconst 0, 1) := by decide +kernel
theorem dX6_trouble_30 : decode cX6_trouble 30 = .ok (.ldc2_w 167, 3) := by decide +kernel
theorem dX6_trouble_33 : decode cX6_trouble 33 = .ok (.invokestatic 103, 3) := by decide +kernel
theorem dX6_trouble_36 : decode cX6_trouble 36 = .ok (.ifCond .ne 6, 3) := by decide +kernel
theorem dX6_trouble_39 : decode cX6_trouble 39 = .ok (.bipush (-2), 2) := by decide +kernel
theorem dX6_trouble_41 : decode cX6_trouble 41 = .ok (.ireturn, 1) := by decide +kernel
theorem dX6_trouble_42 : decode cX6_trouble 42 = .ok (.aload_n 0, 1) := by decide +kernel
theorem dX6_trouble_43 : decode cX6_trouble 43 = .ok (.getfield 38, 3) := by decide +kernel
theorem dX6_trouble_46 : decode cX6_trouble 46 = .ok (.iconst 4, 1) := by decide +kernel
theorem dX6_trouble_47 : decode cX6_trouble 47 = .ok (.iload_n 1, 1) := by decide +kernel
theorem dX6_trouble_48 : decode cX6_trouble 48 = .ok (.imul, 1) := by decide +kernel
theorem dX6_trouble_49 : decode cX6_trouble 49 = .ok (.iload_n 2, 1) := by decide +kernel
theorem dX6_trouble_50 : decode cX6_trouble 50 = .ok (.iadd, 1) := by decide +kernel
theorem dX6_trouble_51 : decode cX6_trouble 51 = .ok (.iaload, 1) := by decide +kernel
theorem dX6_trouble_52 : decode cX6_trouble 52 = .ok (.istore 4, 2) := by decide +kernel
theorem dX6_trouble_54 : decode cX6_trouble 54 = .ok (.aload_n 0, 1) := by decide +kernel
theorem dX6_trouble_55 : decode cX6_trouble 55 = .ok (.getfield 38, 3) := by decide +kernel
theorem dX6_trouble_58 : decode cX6_trouble 58 = .ok (.iconst 4, 1) := by decide +kernel
theorem dX6_trouble_59 : decode cX6_trouble 59 = .ok (.iload_n 1, 1) := by decide +kernel
theorem dX6_trouble_60 : decode cX6_trouble 60 = .ok (.imul, 1) := by decide +kernel
theorem dX6_trouble_61 : decode cX6_trouble 61 = .ok (.iload_n 2, 1) := by decide +kernel
theorem dX6_trouble_62 : decode cX6_trouble 62 = .ok (.iadd, 1) := by decide +kernel
theorem dX6_trouble_63 : decode cX6_trouble 63 = .ok (.iload_n 3, 1) := by decide +kernel
theorem dX6_trouble_64 : decode cX6_trouble 64 = .ok (.iastore, 1) := by decide +kernel
theorem dX6_trouble_65 : decode cX6_trouble 65 = .ok (.iload 4, 2) := by decide +kernel
theorem dX6_trouble_67 : decode cX6_trouble 67 = .ok (.ireturn, 1) := by decide +kernel
theorem dX6_placeOf_0 : decode cX6_placeOf 0 = .ok (.iconst 0, 1) := by decide +kernel
theorem dX6_placeOf_1 : decode cX6_placeOf 1 = .ok (.istore_n 2, 1) := by decide +kernel
theorem dX6_placeOf_2 : decode cX6_placeOf 2 = .ok (.iload_n 2, 1) := by decide +kernel
theorem dX6_placeOf_3 : decode cX6_placeOf 3 = .ok (.aload_n 0, 1) := by decide +kernel
theorem dX6_placeOf_4 : decode cX6_placeOf 4 = .ok (.getfield 110, 3) := by decide +kernel
theorem dX6_placeOf_7 : decode cX6_placeOf 7 = .ok (.if_icmp .ge 26, 3) := by decide +kernel
theorem dX6_placeOf_10 : decode cX6_placeOf 10 = .ok (.aload_n 0, 1) := by decide +kernel
theorem dX6_placeOf_11 : decode cX6_placeOf 11 = .ok (.getfield 56, 3) := by decide +kernel
theorem dX6_placeOf_14 : decode cX6_placeOf 14 = .ok (.aload_n 0, 1) := by decide +kernel
theorem dX6_placeOf_15 : decode cX6_placeOf 15 = .ok (.getfield 87, 3) := by decide +kernel
theorem dX6_placeOf_18 : decode cX6_placeOf 18 = .ok (.iload_n 2, 1) := by decide +kernel
theorem dX6_placeOf_19 : decode cX6_placeOf 19 = .ok (.iaload, 1) := by decide +kernel
theorem dX6_placeOf_20 : decode cX6_placeOf 20 = .ok (.iaload, 1) := by decide +kernel
theorem dX6_placeOf_21 : decode cX6_placeOf 21 = .ok (.iload_n 1, 1) := by decide +kernel
theorem dX6_placeOf_22 : decode cX6_placeOf 22 = .ok (.if_icmp .ne 5, 3) := by decide +kernel
theorem dX6_placeOf_25 : decode cX6_placeOf 25 = .ok (.iload_n 2, 1) := by decide +kernel
theorem dX6_placeOf_26 : decode cX6_placeOf 26 = .ok (.ireturn, 1) := by decide +kernel
theorem dX6_placeOf_27 : decode cX6_placeOf 27 = .ok (.iinc 2 1, 3) := by decide +kernel
theorem dX6_placeOf_30 : decode cX6_placeOf 30 = .ok (.goto (-28), 3) := by decide +kernel
theorem dX6_placeOf_33 : decode cX6_placeOf 33 = .ok (.bipush (-9), 2) := by decide +kernel
theorem dX6_placeOf_35 : decode cX6_placeOf 35 = .ok (.ireturn, 1) := by decide +kernel
theorem dX6_about_0 : decode cX6_about 0 = .ok (.aload_n 0, 1) := by decide +kernel
theorem dX6_about_1 : decode cX6_about 1 = .ok (.iconst 0, 1) := by decide +kernel
theorem dX6_about_2 : decode cX6_about 2 = .ok (.putfield 97, 3) := by decide +kernel
theorem dX6_about_5 : decode cX6_about 5 = .ok (.aload_n 0, 1) := by decide +kernel
theorem dX6_about_6 : decode cX6_about 6 = .ok (.iload_n 1, 1) := by decide +kernel
theorem dX6_about_7 : decode cX6_about 7 = .ok (.invokevirtual 159, 3) := by decide +kernel
theorem dX6_about_10 : decode cX6_about 10 = .ok (.ifCond .eq 5, 3) := by decide +kernel
theorem dX6_about_13 : decode cX6_about 13 = .ok (.iconst (-1), 1) := by decide +kernel
theorem dX6_about_14 : decode cX6_about 14 = .ok (.ireturn, 1) := by decide +kernel
theorem dX6_about_15 : decode cX6_about 15 = .ok (.iload_n 2, 1) := by decide +kernel
theorem dX6_about_16 : decode cX6_about 16 = .ok (.tableswitch 97 0 6 #[44, 50, 57, 71, 77, 83, 90], 44) := by decide +kernel
theorem dX6_about_60 : decode cX6_about 60 = .ok (.aload_n 0, 1) := by decide +kernel
theorem dX6_about_61 : decode cX6_about 61 = .ok (.iload_n 1, 1) := by decide +kernel
theorem dX6_about_62 : decode cX6_about 62 = .ok (.invokevirtual 117, 3) := by decide +kernel
theorem dX6_about_65 : decode cX6_about 65 = .ok (.ireturn, 1) := by decide +kernel
theorem dX6_about_66 : decode cX6_about 66 = .ok (.aload_n 0, 1) := by decide +kernel
theorem dX6_about_67 : decode cX6_about 67 = .ok (.getfield 32, 3) := by decide +kernel
theorem dX6_about_70 : decode cX6_about 70 = .ok (.iload_n 1, 1) := by decide +kernel
theorem dX6_about_71 : decode cX6_about 71 = .ok (.iaload, 1) := by decide +kernel
theorem dX6_about_72 : decode cX6_about 72 = .ok (.ireturn, 1) := by decide +kernel
theorem dX6_about_73 : decode cX6_about 73 = .ok (.aload_n 0, 1) := by decide +kernel
theorem dX6_about_74 : decode cX6_about 74 = .ok (.iload_n 1, 1) := by decide +kernel
theorem dX6_about_75 : decode cX6_about 75 = .ok (.invokevirtual 169, 3) := by decide +kernel
theorem dX6_about_78 : decode cX6_about 78 = .ok (.ifCond .eq 7, 3) := by decide +kernel
theorem dX6_about_81 : decode cX6_about 81 = .ok (.iconst 1, 1) := by decide +kernel
theorem dX6_about_82 : decode cX6_about 82 = .ok (.goto 4, 3) := by decide +kernel
theorem dX6_about_85 : decode cX6_about 85 = .ok (.iconst 0, 1) := by decide +kernel
theorem dX6_about_86 : decode cX6_about 86 = .ok (.ireturn, 1) := by decide +kernel
theorem dX6_about_87 : decode cX6_about 87 = .ok (.aload_n 0, 1) := by decide +kernel
theorem dX6_about_88 : decode cX6_about 88 = .ok (.iload_n 1, 1) := by decide +kernel
theorem dX6_about_89 : decode cX6_about 89 = .ok (.invokevirtual 142, 3) := by decide +kernel
theorem dX6_about_92 : decode cX6_about 92 = .ok (.ireturn, 1) := by decide +kernel
theorem dX6_about_93 : decode cX6_about 93 = .ok (.aload_n 0, 1) := by decide +kernel
theorem dX6_about_94 : decode cX6_about 94 = .ok (.iload_n 1, 1) := by decide +kernel
theorem dX6_about_95 : decode cX6_about 95 = .ok (.invokevirtual 172, 3) := by decide +kernel
theorem dX6_about_98 : decode cX6_about 98 = .ok (.ireturn, 1) := by decide +kernel
theorem dX6_about_99 : decode cX6_about 99 = .ok (.aload_n 0, 1) := by decide +kernel
theorem dX6_about_100 : decode cX6_about 100 = .ok (.getfield 47, 3) := by decide +kernel
theorem dX6_about_103 : decode cX6_about 103 = .ok (.iload_n 1, 1) := by decide +kernel
theorem dX6_about_104 : decode cX6_about 104 = .ok (.iaload, 1) := by decide +kernel
theorem dX6_about_105 : decode cX6_about 105 = .ok (.ireturn, 1) := by decide +kernel
theorem dX6_about_106 : decode cX6_about 106 = .ok (.aload_n 0, 1) := by decide +kernel
theorem dX6_about_107 : decode cX6_about 107 = .ok (.getfield 50, 3) := by decide +kernel
theorem dX6_about_110 : decode cX6_about 110 = .ok (.iload_n 1, 1) := by decide +kernel
theorem dX6_about_111 : decode cX6_about 111 = .ok (.iaload, 1) := by decide +kernel
theorem dX6_about_112 : decode cX6_about 112 = .ok (.ireturn, 1) := by decide +kernel
theorem dX6_about_113 : decode cX6_about 113 = .ok (.bipush (-2), 2) := by decide +kernel
theorem dX6_about_115 : decode cX6_about 115 = .ok (.ireturn, 1) := by decide +kernel
theorem dX6_pass_0 : decode cX6_pass 0 = .ok (.aload_n 0, 1) := by decide +kernel
theorem dX6_pass_1 : decode cX6_pass 1 = .ok (.iconst 0, 1) := by decide +kernel
theorem dX6_pass_2 : decode cX6_pass 2 = .ok (.putfield 97, 3) := by decide +kernel
theorem dX6_pass_5 : decode cX6_pass 5 = .ok (.iload_n 1, 1) := by decide +kernel
theorem dX6_pass_6 : decode cX6_pass 6 = .ok (.i2l, 1) := by decide +kernel
theorem dX6_pass_7 : decode cX6_pass 7 = .ok (.lconst 1, 1) := by decide +kernel
theorem dX6_pass_8 : decode cX6_pass 8 = .ok (.ldc2_w 175, 3) := by decide +kernel
theorem dX6_pass_11 : decode cX6_pass 11 = .ok (.invokestatic 103, 3) := by decide +kernel
theorem dX6_pass_14 : decode cX6_pass 14 = .ok (.ifCond .ne 6, 3) := by decide +kernel
theorem dX6_pass_17 : decode cX6_pass 17 = .ok (.bipush (-2), 2) := by decide +kernel
theorem dX6_pass_19 : decode cX6_pass 19 = .ok (.ireturn, 1) := by decide +kernel
theorem dX6_pass_20 : decode cX6_pass 20 = .ok (.aload_n 0, 1) := by decide +kernel
theorem dX6_pass_21 : decode cX6_pass 21 = .ok (.getfield 107, 3) := by decide +kernel
theorem dX6_pass_24 : decode cX6_pass 24 = .ok (.iload_n 1, 1) := by decide +kernel
theorem dX6_pass_25 : decode cX6_pass 25 = .ok (.iadd, 1) := by decide +kernel
theorem dX6_pass_26 : decode cX6_pass 26 = .ok (.ldc 177, 2) := by decide +kernel
theorem dX6_pass_28 : decode cX6_pass 28 = .ok (.if_icmp .le 6, 3) := by decide +kernel
theorem dX6_pass_31 : decode cX6_pass 31 = .ok (.bipush (-4), 2) := by decide +kernel
theorem dX6_pass_33 : decode cX6_pass 33 = .ok (.ireturn, 1) := by decide +kernel
theorem dX6_pass_34 : decode cX6_pass 34 = .ok (.aload_n 0, 1) := by decide +kernel
theorem dX6_pass_35 : decode cX6_pass 35 = .ok (.getfield 107, 3) := by decide +kernel
theorem dX6_pass_38 : decode cX6_pass 38 = .ok (.iload_n 1, 1) := by decide +kernel
theorem dX6_pass_39 : decode cX6_pass 39 = .ok (.iadd, 1) := by decide +kernel
theorem dX6_pass_40 : decode cX6_pass 40 = .ok (.istore_n 2, 1) := by decide +kernel
theorem dX6_pass_41 : decode cX6_pass 41 = .ok (.aload_n 0, 1) := by decide +kernel
theorem dX6_pass_42 : decode cX6_pass 42 = .ok (.getfield 90, 3) := by decide +kernel
theorem dX6_pass_45 : decode cX6_pass 45 = .ok (.bipush (-9), 2) := by decide +kernel
theorem dX6_pass_47 : decode cX6_pass 47 = .ok (.if_icmp .eq 34, 3) := by decide +kernel
theorem dX6_pass_50 : decode cX6_pass 50 = .ok (.aload_n 0, 1) := by decide +kernel
theorem dX6_pass_51 : decode cX6_pass 51 = .ok (.getfield 130, 3) := by decide +kernel
theorem dX6_pass_54 : decode cX6_pass 54 = .ok (.iload_n 2, 1) := by decide +kernel
theorem dX6_pass_55 : decode cX6_pass 55 = .ok (.if_icmp .gt 26, 3) := by decide +kernel
theorem dX6_pass_58 : decode cX6_pass 58 = .ok (.aload_n 0, 1) := by decide +kernel
theorem dX6_pass_59 : decode cX6_pass 59 = .ok (.aload_n 0, 1) := by decide +kernel
theorem dX6_pass_60 : decode cX6_pass 60 = .ok (.getfield 130, 3) := by decide +kernel
theorem dX6_pass_63 : decode cX6_pass 63 = .ok (.putfield 107, 3) := by decide +kernel
theorem dX6_pass_66 : decode cX6_pass 66 = .ok (.aload_n 0, 1) := by decide +kernel
theorem dX6_pass_67 : decode cX6_pass 67 = .ok (.aload_n 0, 1) := by decide +kernel
theorem dX6_pass_68 : decode cX6_pass 68 = .ok (.getfield 124, 3) := by decide +kernel
theorem dX6_pass_71 : decode cX6_pass 71 = .ok (.invokevirtual 178, 3) := by decide +kernel
theorem dX6_pass_74 : decode cX6_pass 74 = .ok (.aload_n 0, 1) := by decide +kernel
theorem dX6_pass_75 : decode cX6_pass 75 = .ok (.invokevirtual 181, 3) := by decide +kernel
theorem dX6_pass_78 : decode cX6_pass 78 = .ok (.goto (-37), 3) := by decide +kernel
theorem dX6_pass_81 : decode cX6_pass 81 = .ok (.aload_n 0, 1) := by decide +kernel
theorem dX6_pass_82 : decode cX6_pass 82 = .ok (.iload_n 2, 1) := by decide +kernel
theorem dX6_pass_83 : decode cX6_pass 83 = .ok (.putfield 107, 3) := by decide +kernel
theorem dX6_pass_86 : decode cX6_pass 86 = .ok (.aload_n 0, 1) := by decide +kernel
theorem dX6_pass_87 : decode cX6_pass 87 = .ok (.getfield 107, 3) := by decide +kernel
theorem dX6_pass_90 : decode cX6_pass 90 = .ok (.ireturn, 1) := by decide +kernel
theorem dX6_isAlarm_0 : decode cX6_isAlarm 0 = .ok (.iconst 0, 1) := by decide +kernel
theorem dX6_isAlarm_1 : decode cX6_isAlarm 1 = .ok (.istore_n 3, 1) := by decide +kernel
theorem dX6_isAlarm_2 : decode cX6_isAlarm 2 = .ok (.iconst 0, 1) := by decide +kernel
theorem dX6_isAlarm_3 : decode cX6_isAlarm 3 = .ok (.istore 4, 2) := by decide +kernel
theorem dX6_isAlarm_5 : decode cX6_isAlarm 5 = .ok (.aload_n 0, 1) := by decide +kernel
theorem dX6_isAlarm_6 : decode cX6_isAlarm 6 = .ok (.getfield 184, 3) := by decide +kernel
theorem dX6_isAlarm_9 : decode cX6_isAlarm 9 = .ok (.iconst 1, 1) := by decide +kernel
theorem dX6_isAlarm_10 : decode cX6_isAlarm 10 = .ok (.isub, 1) := by decide +kernel
theorem dX6_isAlarm_11 : decode cX6_isAlarm 11 = .ok (.istore 5, 2) := by decide +kernel
theorem dX6_isAlarm_13 : decode cX6_isAlarm 13 = .ok (.iload 5, 2) := by decide +kernel
theorem dX6_isAlarm_15 : decode cX6_isAlarm 15 = .ok (.ifCond .lt 40, 3) := by decide +kernel
theorem dX6_isAlarm_18 : decode cX6_isAlarm 18 = .ok (.iload_n 3, 1) := by decide +kernel
theorem dX6_isAlarm_19 : decode cX6_isAlarm 19 = .ok (.iconst 5, 1) := by decide +kernel
theorem dX6_isAlarm_20 : decode cX6_isAlarm 20 = .ok (.if_icmp .ge 35, 3) := by decide +kernel
theorem dX6_isAlarm_23 : decode cX6_isAlarm 23 = .ok (.aload_n 0, 1) := by decide +kernel
theorem dX6_isAlarm_24 : decode cX6_isAlarm 24 = .ok (.getfield 56, 3) := by decide +kernel
theorem dX6_isAlarm_27 : decode cX6_isAlarm 27 = .ok (.iload 5, 2) := by decide +kernel
theorem dX6_isAlarm_29 : decode cX6_isAlarm 29 = .ok (.iaload, 1) := by decide +kernel
theorem dX6_isAlarm_30 : decode cX6_isAlarm 30 = .ok (.iload_n 1, 1) := by decide +kernel
theorem dX6_isAlarm_31 : decode cX6_isAlarm 31 = .ok (.if_icmp .ne 18, 3) := by decide +kernel
theorem dX6_isAlarm_34 : decode cX6_isAlarm 34 = .ok (.iload 4, 2) := by decide +kernel
theorem dX6_isAlarm_36 : decode cX6_isAlarm 36 = .ok (.aload_n 0, 1) := by decide +kernel
theorem dX6_isAlarm_37 : decode cX6_isAlarm 37 = .ok (.getfield 62, 3) := by decide +kernel
theorem dX6_isAlarm_40 : decode cX6_isAlarm 40 = .ok (.iload 5, 2) := by decide +kernel
theorem dX6_isAlarm_42 : decode cX6_isAlarm 42 = .ok (.iaload, 1) := by decide +kernel
theorem dX6_isAlarm_43 : decode cX6_isAlarm 43 = .ok (.iadd, 1) := by decide +kernel
theorem dX6_isAlarm_44 : decode cX6_isAlarm 44 = .ok (.istore 4, 2) := by decide +kernel
theorem dX6_isAlarm_46 : decode cX6_isAlarm 46 = .ok (.iinc 3 1, 3) := by decide +kernel
theorem dX6_isAlarm_49 : decode cX6_isAlarm 49 = .ok (.iinc 5 (-1), 3) := by decide +kernel
theorem dX6_isAlarm_52 : decode cX6_isAlarm 52 = .ok (.goto (-39), 3) := by decide +kernel
theorem dX6_isAlarm_55 : decode cX6_isAlarm 55 = .ok (.iload_n 3, 1) := by decide +kernel
theorem dX6_isAlarm_56 : decode cX6_isAlarm 56 = .ok (.iconst 3, 1) := by decide +kernel
theorem dX6_isAlarm_57 : decode cX6_isAlarm 57 = .ok (.if_icmp .lt 21, 3) := by decide +kernel
theorem dX6_isAlarm_60 : decode cX6_isAlarm 60 = .ok (.bipush 10, 2) := by decide +kernel
theorem dX6_isAlarm_62 : decode cX6_isAlarm 62 = .ok (.iload_n 2, 1) := by decide +kernel
theorem dX6_isAlarm_63 : decode cX6_isAlarm 63 = .ok (.imul, 1) := by decide +kernel
theorem dX6_isAlarm_64 : decode cX6_isAlarm 64 = .ok (.iload_n 3, 1) := by decide +kernel
theorem dX6_isAlarm_65 : decode cX6_isAlarm 65 = .ok (.imul, 1) := by decide +kernel
theorem dX6_isAlarm_66 : decode cX6_isAlarm 66 = .ok (.bipush 12, 2) := by decide +kernel
theorem dX6_isAlarm_68 : decode cX6_isAlarm 68 = .ok (.iload 4, 2) := by decide +kernel
theorem dX6_isAlarm_70 : decode cX6_isAlarm 70 = .ok (.imul, 1) := by decide +kernel
theorem dX6_isAlarm_71 : decode cX6_isAlarm 71 = .ok (.if_icmp .le 7, 3) := by decide +kernel
theorem dX6_isAlarm_74 : decode cX6_isAlarm 74 = .ok (.iconst 1, 1) := by decide +kernel
theorem dX6_isAlarm_75 : decode cX6_isAlarm 75 = .ok (.goto 4, 3) := by decide +kernel
theorem dX6_isAlarm_78 : decode cX6_isAlarm 78 = .ok (.iconst 0, 1) := by decide +kernel
theorem dX6_isAlarm_79 : decode cX6_isAlarm 79 = .ok (.ireturn, 1) := by decide +kernel
theorem dX6_come_0 : decode cX6_come 0 = .ok (.aload_n 0, 1) := by decide +kernel
theorem dX6_come_1 : decode cX6_come 1 = .ok (.iconst 0, 1) := by decide +kernel
theorem dX6_come_2 : decode cX6_come 2 = .ok (.putfield 97, 3) := by decide +kernel
theorem dX6_come_5 : decode cX6_come 5 = .ok (.aload_n 0, 1) := by decide +kernel
theorem dX6_come_6 : decode cX6_come 6 = .ok (.iload_n 1, 1) := by decide +kernel
theorem dX6_come_7 : decode cX6_come 7 = .ok (.invokevirtual 159, 3) := by decide +kernel
theorem dX6_come_10 : decode cX6_come 10 = .ok (.ifCond .eq 5, 3) := by decide +kernel
theorem dX6_come_13 : decode cX6_come 13 = .ok (.iconst (-1), 1) := by decide +kernel
theorem dX6_come_14 : decode cX6_come 14 = .ok (.ireturn, 1) := by decide +kernel
theorem dX6_come_15 : decode cX6_come 15 = .ok (.iload_n 2, 1) := by decide +kernel
theorem dX6_come_16 : decode cX6_come 16 = .ok (.i2l, 1) := by decide +kernel
theorem dX6_come_17 : decode cX6_come 17 = .ok (.lconst 0, 1) := by decide +kernel
theorem dX6_come_18 : decode cX6_come 18 = .ok (.ldc2_w 187, 3) := by decide +kernel
theorem dX6_come_21 : decode cX6_come 21 = .ok (.invokestatic 103, 3) := by decide +kernel
theorem dX6_come_24 : decode cX6_come 24 = .ok (.ifCond .ne 6, 3) := by decide +kernel
theorem dX6_come_27 : decode cX6_come 27 = .ok (.bipush (-2), 2) := by decide +kernel
theorem dX6_come_29 : decode cX6_come 29 = .ok (.ireturn, 1) := by decide +kernel
theorem dX6_come_30 : decode cX6_come 30 = .ok (.aload_n 0, 1) := by decide +kernel
theorem dX6_come_31 : decode cX6_come 31 = .ok (.invokevirtual 189, 3) := by decide +kernel
theorem dX6_come_34 : decode cX6_come 34 = .ok (.iload_n 1, 1) := by decide +kernel
theorem dX6_come_35 : decode cX6_come 35 = .ok (.if_icmp .eq 13, 3) := by decide +kernel
theorem dX6_come_38 : decode cX6_come 38 = .ok (.aload_n 0, 1) := by decide +kernel
theorem dX6_come_39 : decode cX6_come 39 = .ok (.iload_n 1, 1) := by decide +kernel
theorem dX6_come_40 : decode cX6_come 40 = .ok (.invokevirtual 172, 3) := by decide +kernel
theorem dX6_come_43 : decode cX6_come 43 = .ok (.bipush (-9), 2) := by decide +kernel
theorem dX6_come_45 : decode cX6_come 45 = .ok (.if_icmp .eq 6, 3) := by decide +kernel
theorem dX6_come_48 : decode cX6_come 48 = .ok (.bipush (-3), 2) := by decide +kernel
theorem dX6_come_50 : decode cX6_come 50 = .ok (.ireturn, 1) := by decide +kernel
theorem dX6_come_51 : decode cX6_come 51 = .ok (.aload_n 0, 1) := by decide +kernel
theorem dX6_come_52 : decode cX6_come 52 = .ok (.getfield 184, 3) := by decide +kernel
theorem dX6_come_55 : decode cX6_come 55 = .ok (.sipush 500, 3) := by decide +kernel
theorem dX6_come_58 : decode cX6_come 58 = .ok (.if_icmp .ne 6, 3) := by decide +kernel
theorem dX6_come_61 : decode cX6_come 61 = .ok (.bipush (-4), 2) := by decide +kernel
theorem dX6_come_63 : decode cX6_come 63 = .ok (.ireturn, 1) := by decide +kernel
theorem dX6_come_64 : decode cX6_come 64 = .ok (.aload_n 0, 1) := by decide +kernel
theorem dX6_come_65 : decode cX6_come 65 = .ok (.getfield 184, 3) := by decide +kernel
theorem dX6_come_68 : decode cX6_come 68 = .ok (.istore_n 3, 1) := by decide +kernel
theorem dX6_come_69 : decode cX6_come 69 = .ok (.aload_n 0, 1) := by decide +kernel
theorem dX6_come_70 : decode cX6_come 70 = .ok (.getfield 65, 3) := by decide +kernel
theorem dX6_come_73 : decode cX6_come 73 = .ok (.iload_n 3, 1) := by decide +kernel
theorem dX6_come_74 : decode cX6_come 74 = .ok (.aload_n 0, 1) := by decide +kernel
theorem dX6_come_75 : decode cX6_come 75 = .ok (.iload_n 1, 1) := by decide +kernel
theorem dX6_come_76 : decode cX6_come 76 = .ok (.iload_n 2, 1) := by decide +kernel
theorem dX6_come_77 : decode cX6_come 77 = .ok (.invokevirtual 193, 3) := by decide +kernel
theorem dX6_come_80 : decode cX6_come 80 = .ok (.bastore, 1) := by decide +kernel
theorem dX6_come_81 : decode cX6_come 81 = .ok (.aload_n 0, 1) := by decide +kernel
theorem dX6_come_82 : decode cX6_come 82 = .ok (.getfield 56, 3) := by decide +kernel
theorem dX6_come_85 : decode cX6_come 85 = .ok (.iload_n 3, 1) := by decide +kernel
theorem dX6_come_86 : decode cX6_come 86 = .ok (.iload_n 1, 1) := by decide +kernel
theorem dX6_come_87 : decode cX6_come 87 = .ok (.iastore, 1) := by decide +kernel
theorem dX6_come_88 : decode cX6_come 88 = .ok (.aload_n 0, 1) := by decide +kernel
theorem dX6_come_89 : decode cX6_come 89 = .ok (.getfield 59, 3) := by decide +kernel
theorem dX6_come_92 : decode cX6_come 92 = .ok (.iload_n 3, 1) := by decide +kernel
theorem dX6_come_93 : decode cX6_come 93 = .ok (.aload_n 0, 1) := by decide +kernel
theorem dX6_come_94 : decode cX6_come 94 = .ok (.getfield 107, 3) := by decide +kernel
theorem dX6_come_97 : decode cX6_come 97 = .ok (.iastore, 1) := by decide +kernel
theorem dX6_come_98 : decode cX6_come 98 = .ok (.aload_n 0, 1) := by decide +kernel
theorem dX6_come_99 : decode cX6_come 99 = .ok (.getfield 62, 3) := by decide +kernel
theorem dX6_come_102 : decode cX6_come 102 = .ok (.iload_n 3, 1) := by decide +kernel
theorem dX6_come_103 : decode cX6_come 103 = .ok (.iload_n 2, 1) := by decide +kernel
theorem dX6_come_104 : decode cX6_come 104 = .ok (.iastore, 1) := by decide +kernel
theorem dX6_come_105 : decode cX6_come 105 = .ok (.aload_n 0, 1) := by decide +kernel
theorem dX6_come_106 : decode cX6_come 106 = .ok (.getfield 53, 3) := by decide +kernel
theorem dX6_come_109 : decode cX6_come 109 = .ok (.iload_n 3, 1) := by decide +kernel
theorem dX6_come_110 : decode cX6_come 110 = .ok (.aload_n 0, 1) := by decide +kernel
theorem dX6_come_111 : decode cX6_come 111 = .ok (.iload_n 1, 1) := by decide +kernel
theorem dX6_come_112 : decode cX6_come 112 = .ok (.invokevirtual 169, 3) := by decide +kernel
theorem dX6_come_115 : decode cX6_come 115 = .ok (.ifCond .eq 7, 3) := by decide +kernel
theorem dX6_come_118 : decode cX6_come 118 = .ok (.iconst 1, 1) := by decide +kernel
theorem dX6_come_119 : decode cX6_come 119 = .ok (.goto 4, 3) := by decide +kernel
theorem dX6_come_122 : decode cX6_come 122 = .ok (.iconst 0, 1) := by decide +kernel
theorem dX6_come_123 : decode cX6_come 123 = .ok (.iastore, 1) := by decide +kernel
theorem dX6_come_124 : decode cX6_come 124 = .ok (.aload_n 0, 1) := by decide +kernel
theorem dX6_come_125 : decode cX6_come 125 = .ok (.getfield 69, 3) := by decide +kernel
theorem dX6_come_128 : decode cX6_come 128 = .ok (.iload_n 3, 1) := by decide +kernel
theorem dX6_come_129 : decode cX6_come 129 = .ok (.bipush (-9), 2) := by decide +kernel
theorem dX6_come_131 : decode cX6_come 131 = .ok (.iastore, 1) := by decide +kernel
theorem dX6_come_132 : decode cX6_come 132 = .ok (.aload_n 0, 1) := by decide +kernel
theorem dX6_come_133 : decode cX6_come 133 = .ok (.getfield 72, 3) := by decide +kernel
theorem dX6_come_136 : decode cX6_come 136 = .ok (.iload_n 3, 1) := by decide +kernel
theorem dX6_come_137 : decode cX6_come 137 = .ok (.bipush (-9), 2) := by decide +kernel
theorem dX6_come_139 : decode cX6_come 139 = .ok (.iastore, 1) := by decide +kernel
theorem dX6_come_140 : decode cX6_come 140 = .ok (.aload_n 0, 1) := by decide +kernel
theorem dX6_come_141 : decode cX6_come 141 = .ok (.getfield 75, 3) := by decide +kernel
theorem dX6_come_144 : decode cX6_come 144 = .ok (.iload_n 3, 1) := by decide +kernel
theorem dX6_come_145 : decode cX6_come 145 = .ok (.bipush (-9), 2) := by decide +kernel
theorem dX6_come_147 : decode cX6_come 147 = .ok (.iastore, 1) := by decide +kernel
theorem dX6_come_148 : decode cX6_come 148 = .ok (.aload_n 0, 1) := by decide +kernel
theorem dX6_come_149 : decode cX6_come 149 = .ok (.getfield 78, 3) := by decide +kernel
theorem dX6_come_152 : decode cX6_come 152 = .ok (.iload_n 3, 1) := by decide +kernel
theorem dX6_come_153 : decode cX6_come 153 = .ok (.bipush (-9), 2) := by decide +kernel
theorem dX6_come_155 : decode cX6_come 155 = .ok (.iastore, 1) := by decide +kernel
theorem dX6_come_156 : decode cX6_come 156 = .ok (.aload_n 0, 1) := by decide +kernel
theorem dX6_come_157 : decode cX6_come 157 = .ok (.getfield 81, 3) := by decide +kernel
theorem dX6_come_160 : decode cX6_come 160 = .ok (.iload_n 3, 1) := by decide +kernel
theorem dX6_come_161 : decode cX6_come 161 = .ok (.bipush (-9), 2) := by decide +kernel
theorem dX6_come_163 : decode cX6_come 163 = .ok (.iastore, 1) := by decide +kernel
theorem dX6_come_164 : decode cX6_come 164 = .ok (.aload_n 0, 1) := by decide +kernel
theorem dX6_come_165 : decode cX6_come 165 = .ok (.getfield 84, 3) := by decide +kernel
theorem dX6_come_168 : decode cX6_come 168 = .ok (.iload_n 3, 1) := by decide +kernel
theorem dX6_come_169 : decode cX6_come 169 = .ok (.bipush (-9), 2) := by decide +kernel
theorem dX6_come_171 : decode cX6_come 171 = .ok (.iastore, 1) := by decide +kernel
theorem dX6_come_172 : decode cX6_come 172 = .ok (.aload_n 0, 1) := by decide +kernel
theorem dX6_come_173 : decode cX6_come 173 = .ok (.dup, 1) := by decide +kernel
theorem dX6_come_174 : decode cX6_come 174 = .ok (.getfield 184, 3) := by decide +kernel
theorem dX6_come_177 : decode cX6_come 177 = .ok (.iconst 1, 1) := by decide +kernel
theorem dX6_come_178 : decode cX6_come 178 = .ok (.iadd, 1) := by decide +kernel
theorem dX6_come_179 : decode cX6_come 179 = .ok (.putfield 184, 3) := by decide +kernel
theorem dX6_come_182 : decode cX6_come 182 = .ok (.aload_n 0, 1) := by decide +kernel
theorem dX6_come_183 : decode cX6_come 183 = .ok (.getfield 50, 3) := by decide +kernel
theorem dX6_come_186 : decode cX6_come 186 = .ok (.iload_n 1, 1) := by decide +kernel
theorem dX6_come_187 : decode cX6_come 187 = .ok (.dup2, 1) := by decide +kernel
theorem dX6_come_188 : decode cX6_come 188 = .ok (.iaload, 1) := by decide +kernel
theorem dX6_come_189 : decode cX6_come 189 = .ok (.iconst 1, 1) := by decide +kernel
theorem dX6_come_190 : decode cX6_come 190 = .ok (.iadd, 1) := by decide +kernel
theorem dX6_come_191 : decode cX6_come 191 = .ok (.iastore, 1) := by decide +kernel
theorem dX6_come_192 : decode cX6_come 192 = .ok (.aload_n 0, 1) := by decide +kernel
theorem dX6_come_193 : decode cX6_come 193 = .ok (.getfield 53, 3) := by decide +kernel
theorem dX6_come_196 : decode cX6_come 196 = .ok (.iload_n 3, 1) := by decide +kernel
theorem dX6_come_197 : decode cX6_come 197 = .ok (.iaload, 1) := by decide +kernel
theorem dX6_come_198 : decode cX6_come 198 = .ok (.iconst 1, 1) := by decide +kernel
theorem dX6_come_199 : decode cX6_come 199 = .ok (.if_icmp .ne 27, 3) := by decide +kernel
theorem dX6_come_202 : decode cX6_come 202 = .ok (.aload_n 0, 1) := by decide +kernel
theorem dX6_come_203 : decode cX6_come 203 = .ok (.getfield 87, 3) := by decide +kernel
theorem dX6_come_206 : decode cX6_come 206 = .ok (.aload_n 0, 1) := by decide +kernel
theorem dX6_come_207 : decode cX6_come 207 = .ok (.getfield 110, 3) := by decide +kernel
theorem dX6_come_210 : decode cX6_come 210 = .ok (.iload_n 3, 1) := by decide +kernel
theorem dX6_come_211 : decode cX6_come 211 = .ok (.iastore, 1) := by decide +kernel
theorem dX6_come_212 : decode cX6_come 212 = .ok (.aload_n 0, 1) := by decide +kernel
theorem dX6_come_213 : decode cX6_come 213 = .ok (.dup, 1) := by decide +kernel
theorem dX6_come_214 : decode cX6_come 214 = .ok (.getfield 110, 3) := by decide +kernel
theorem dX6_come_217 : decode cX6_come 217 = .ok (.iconst 1, 1) := by decide +kernel
theorem dX6_come_218 : decode cX6_come 218 = .ok (.iadd, 1) := by decide +kernel
theorem dX6_come_219 : decode cX6_come 219 = .ok (.putfield 110, 3) := by decide +kernel
theorem dX6_come_222 : decode cX6_come 222 = .ok (.aload_n 0, 1) := by decide +kernel
theorem dX6_come_223 : decode cX6_come 223 = .ok (.invokevirtual 181, 3) := by decide +kernel
theorem dX6_come_226 : decode cX6_come 226 = .ok (.iload_n 3, 1) := by decide +kernel
theorem dX6_come_227 : decode cX6_come 227 = .ok (.ireturn, 1) := by decide +kernel
theorem dX6_power_0 : decode cX6_power 0 = .ok (.aload_n 0, 1) := by decide +kernel
theorem dX6_power_1 : decode cX6_power 1 = .ok (.iconst 0, 1) := by decide +kernel
theorem dX6_power_2 : decode cX6_power 2 = .ok (.putfield 97, 3) := by decide +kernel
theorem dX6_power_5 : decode cX6_power 5 = .ok (.aload_n 0, 1) := by decide +kernel
theorem dX6_power_6 : decode cX6_power 6 = .ok (.getfield 7, 3) := by decide +kernel
theorem dX6_power_9 : decode cX6_power 9 = .ok (.ifCond .eq 7, 3) := by decide +kernel
theorem dX6_power_12 : decode cX6_power 12 = .ok (.iconst 1, 1) := by decide +kernel
theorem dX6_power_13 : decode cX6_power 13 = .ok (.goto 4, 3) := by decide +kernel
theorem dX6_power_16 : decode cX6_power 16 = .ok (.iconst 0, 1) := by decide +kernel
theorem dX6_power_17 : decode cX6_power 17 = .ok (.istore_n 2, 1) := by decide +kernel
theorem dX6_power_18 : decode cX6_power 18 = .ok (.aload_n 0, 1) := by decide +kernel
theorem dX6_power_19 : decode cX6_power 19 = .ok (.iload_n 1, 1) := by decide +kernel
theorem dX6_power_20 : decode cX6_power 20 = .ok (.putfield 7, 3) := by decide +kernel
theorem dX6_power_23 : decode cX6_power 23 = .ok (.iload_n 1, 1) := by decide +kernel
theorem dX6_power_24 : decode cX6_power 24 = .ok (.ifCond .ne 78, 3) := by decide +kernel
theorem dX6_power_27 : decode cX6_power 27 = .ok (.aload_n 0, 1) := by decide +kernel
theorem dX6_power_28 : decode cX6_power 28 = .ok (.getfield 90, 3) := by decide +kernel
theorem dX6_power_31 : decode cX6_power 31 = .ok (.bipush (-9), 2) := by decide +kernel
theorem dX6_power_33 : decode cX6_power 33 = .ok (.if_icmp .eq 69, 3) := by decide +kernel
theorem dX6_power_36 : decode cX6_power 36 = .ok (.aload_n 0, 1) := by decide +kernel
theorem dX6_power_37 : decode cX6_power 37 = .ok (.getfield 107, 3) := by decide +kernel
theorem dX6_power_40 : decode cX6_power 40 = .ok (.aload_n 0, 1) := by decide +kernel
theorem dX6_power_41 : decode cX6_power 41 = .ok (.getfield 69, 3) := by decide +kernel
theorem dX6_power_44 : decode cX6_power 44 = .ok (.aload_n 0, 1) := by decide +kernel
theorem dX6_power_45 : decode cX6_power 45 = .ok (.getfield 90, 3) := by decide +kernel
theorem dX6_power_48 : decode cX6_power 48 = .ok (.iaload, 1) := by decide +kernel
theorem dX6_power_49 : decode cX6_power 49 = .ok (.isub, 1) := by decide +kernel
theorem dX6_power_50 : decode cX6_power 50 = .ok (.aload_n 0, 1) := by decide +kernel
theorem dX6_power_51 : decode cX6_power 51 = .ok (.getfield 127, 3) := by decide +kernel
theorem dX6_power_54 : decode cX6_power 54 = .ok (.isub, 1) := by decide +kernel
theorem dX6_power_55 : decode cX6_power 55 = .ok (.istore_n 3, 1) := by decide +kernel
theorem dX6_power_56 : decode cX6_power 56 = .ok (.iload_n 3, 1) := by decide +kernel
theorem dX6_power_57 : decode cX6_power 57 = .ok (.ifCond .le 10, 3) := by decide +kernel
theorem dX6_power_60 : decode cX6_power 60 = .ok (.bipush 20, 2) := by decide +kernel
theorem dX6_power_62 : decode cX6_power 62 = .ok (.iload_n 3, 1) := by decide +kernel
theorem dX6_power_63 : decode cX6_power 63 = .ok (.imul, 1) := by decide +kernel
theorem dX6_power_64 : decode cX6_power 64 = .ok (.goto 4, 3) := by decide +kernel
theorem dX6_power_67 : decode cX6_power 67 = .ok (.iconst 0, 1) := by decide +kernel
theorem dX6_power_68 : decode cX6_power 68 = .ok (.istore 4, 2) := by decide +kernel
theorem dX6_power_70 : decode cX6_power 70 = .ok (.aload_n 0, 1) := by decide +kernel
theorem dX6_power_71 : decode cX6_power 71 = .ok (.getfield 53, 3) := by decide +kernel
theorem dX6_power_74 : decode cX6_power 74 = .ok (.aload_n 0, 1) := by decide +kernel
theorem dX6_power_75 : decode cX6_power 75 = .ok (.getfield 90, 3) := by decide +kernel
theorem dX6_power_78 : decode cX6_power 78 = .ok (.iconst 2, 1) := by decide +kernel
theorem dX6_power_79 : decode cX6_power 79 = .ok (.iastore, 1) := by decide +kernel
theorem dX6_power_80 : decode cX6_power 80 = .ok (.aload_n 0, 1) := by decide +kernel
theorem dX6_power_81 : decode cX6_power 81 = .ok (.iload 4, 2) := by decide +kernel
theorem dX6_power_83 : decode cX6_power 83 = .ok (.aload_n 0, 1) := by decide +kernel
theorem dX6_power_84 : decode cX6_power 84 = .ok (.getfield 124, 3) := by decide +kernel
theorem dX6_power_87 : decode cX6_power 87 = .ok (.if_icmp .ge 8, 3) := by decide +kernel
theorem dX6_power_90 : decode cX6_power 90 = .ok (.iload 4, 2) := by decide +kernel
theorem dX6_power_92 : decode cX6_power 92 = .ok (.goto 7, 3) := by decide +kernel
theorem dX6_power_95 : decode cX6_power 95 = .ok (.aload_n 0, 1) := by decide +kernel
theorem dX6_power_96 : decode cX6_power 96 = .ok (.getfield 124, 3) := by decide +kernel
theorem dX6_power_99 : decode cX6_power 99 = .ok (.invokevirtual 178, 3) := by decide +kernel
theorem dX6_power_102 : decode cX6_power 102 = .ok (.aload_n 0, 1) := by decide +kernel
theorem dX6_power_103 : decode cX6_power 103 = .ok (.invokevirtual 181, 3) := by decide +kernel
theorem dX6_power_106 : decode cX6_power 106 = .ok (.iload_n 2, 1) := by decide +kernel
theorem dX6_power_107 : decode cX6_power 107 = .ok (.ireturn, 1) := by decide +kernel
theorem dX6_box_0 : decode cX6_box 0 = .ok (.aload_n 0, 1) := by decide +kernel
theorem dX6_box_1 : decode cX6_box 1 = .ok (.iconst 0, 1) := by decide +kernel
theorem dX6_box_2 : decode cX6_box 2 = .ok (.putfield 97, 3) := by decide +kernel
theorem dX6_box_5 : decode cX6_box 5 = .ok (.aload_n 0, 1) := by decide +kernel
theorem dX6_box_6 : decode cX6_box 6 = .ok (.invokevirtual 189, 3) := by decide +kernel
theorem dX6_box_9 : decode cX6_box 9 = .ok (.ireturn, 1) := by decide +kernel
theorem dX6_queue_0 : decode cX6_queue 0 = .ok (.aload_n 0, 1) := by decide +kernel
theorem dX6_queue_1 : decode cX6_queue 1 = .ok (.iconst 0, 1) := by decide +kernel
theorem dX6_queue_2 : decode cX6_queue 2 = .ok (.putfield 97, 3) := by decide +kernel
theorem dX6_queue_5 : decode cX6_queue 5 = .ok (.iload_n 1, 1) := by decide +kernel
theorem dX6_queue_6 : decode cX6_queue 6 = .ok (.i2l, 1) := by decide +kernel
theorem dX6_queue_7 : decode cX6_queue 7 = .ok (.lconst 0, 1) := by decide +kernel
theorem dX6_queue_8 : decode cX6_queue 8 = .ok (.aload_n 0, 1) := by decide +kernel
theorem dX6_queue_9 : decode cX6_queue 9 = .ok (.getfield 110, 3) := by decide +kernel
theorem dX6_queue_12 : decode cX6_queue 12 = .ok (.iconst 1, 1) := by decide +kernel
theorem dX6_queue_13 : decode cX6_queue 13 = .ok (.isub, 1) := by decide +kernel
theorem dX6_queue_14 : decode cX6_queue 14 = .ok (.i2l, 1) := by decide +kernel
theorem dX6_queue_15 : decode cX6_queue 15 = .ok (.invokestatic 103, 3) := by decide +kernel
theorem dX6_queue_18 : decode cX6_queue 18 = .ok (.ifCond .eq 17, 3) := by decide +kernel
theorem dX6_queue_21 : decode cX6_queue 21 = .ok (.aload_n 0, 1) := by decide +kernel
theorem dX6_queue_22 : decode cX6_queue 22 = .ok (.getfield 56, 3) := by decide +kernel
theorem dX6_queue_25 : decode cX6_queue 25 = .ok (.aload_n 0, 1) := by decide +kernel
theorem dX6_queue_26 : decode cX6_queue 26 = .ok (.getfield 87, 3) := by decide +kernel
theorem dX6_queue_29 : decode cX6_queue 29 = .ok (.iload_n 1, 1) := by decide +kernel
theorem dX6_queue_30 : decode cX6_queue 30 = .ok (.iaload, 1) := by decide +kernel
theorem dX6_queue_31 : decode cX6_queue 31 = .ok (.iaload, 1) := by decide +kernel
theorem dX6_queue_32 : decode cX6_queue 32 = .ok (.goto 5, 3) := by decide +kernel
theorem dX6_queue_35 : decode cX6_queue 35 = .ok (.bipush (-9), 2) := by decide +kernel
theorem dX6_queue_37 : decode cX6_queue 37 = .ok (.ireturn, 1) := by decide +kernel
theorem dX6_ends_0 : decode cX6_ends 0 = .ok (.aload_n 0, 1) := by decide +kernel
theorem dX6_ends_1 : decode cX6_ends 1 = .ok (.iconst 0, 1) := by decide +kernel
theorem dX6_ends_2 : decode cX6_ends 2 = .ok (.putfield 97, 3) := by decide +kernel
theorem dX6_ends_5 : decode cX6_ends 5 = .ok (.aload_n 0, 1) := by decide +kernel
theorem dX6_ends_6 : decode cX6_ends 6 = .ok (.getfield 90, 3) := by decide +kernel
theorem dX6_ends_9 : decode cX6_ends 9 = .ok (.bipush (-9), 2) := by decide +kernel
theorem dX6_ends_11 : decode cX6_ends 11 = .ok (.if_icmp .ne 8, 3) := by decide +kernel
theorem dX6_ends_14 : decode cX6_ends 14 = .ok (.bipush (-9), 2) := by decide +kernel
theorem dX6_ends_16 : decode cX6_ends 16 = .ok (.goto 7, 3) := by decide +kernel
theorem dX6_ends_19 : decode cX6_ends 19 = .ok (.aload_n 0, 1) := by decide +kernel
theorem dX6_ends_20 : decode cX6_ends 20 = .ok (.getfield 130, 3) := by decide +kernel
theorem dX6_ends_23 : decode cX6_ends 23 = .ok (.ireturn, 1) := by decide +kernel
theorem dX6_room_0 : decode cX6_room 0 = .ok (.aload_n 0, 1) := by decide +kernel
theorem dX6_room_1 : decode cX6_room 1 = .ok (.iconst 0, 1) := by decide +kernel
theorem dX6_room_2 : decode cX6_room 2 = .ok (.putfield 97, 3) := by decide +kernel
theorem dX6_room_5 : decode cX6_room 5 = .ok (.iload_n 1, 1) := by decide +kernel
theorem dX6_room_6 : decode cX6_room 6 = .ok (.i2l, 1) := by decide +kernel
theorem dX6_room_7 : decode cX6_room 7 = .ok (.lconst 1, 1) := by decide +kernel
theorem dX6_room_8 : decode cX6_room 8 = .ok (.ldc2_w 197, 3) := by decide +kernel
theorem dX6_room_11 : decode cX6_room 11 = .ok (.invokestatic 103, 3) := by decide +kernel
theorem dX6_room_14 : decode cX6_room 14 = .ok (.ifCond .ne 6, 3) := by decide +kernel
theorem dX6_room_17 : decode cX6_room 17 = .ok (.bipush (-2), 2) := by decide +kernel
theorem dX6_room_19 : decode cX6_room 19 = .ok (.ireturn, 1) := by decide +kernel
theorem dX6_room_20 : decode cX6_room 20 = .ok (.aload_n 0, 1) := by decide +kernel
theorem dX6_room_21 : decode cX6_room 21 = .ok (.getfield 133, 3) := by decide +kernel
theorem dX6_room_24 : decode cX6_room 24 = .ok (.iload_n 1, 1) := by decide +kernel
theorem dX6_room_25 : decode cX6_room 25 = .ok (.if_icmp .le 6, 3) := by decide +kernel
theorem dX6_room_28 : decode cX6_room 28 = .ok (.bipush (-3), 2) := by decide +kernel
theorem dX6_room_30 : decode cX6_room 30 = .ok (.ireturn, 1) := by decide +kernel
theorem dX6_room_31 : decode cX6_room 31 = .ok (.aload_n 0, 1) := by decide +kernel
theorem dX6_room_32 : decode cX6_room 32 = .ok (.getfield 94, 3) := by decide +kernel
theorem dX6_room_35 : decode cX6_room 35 = .ok (.istore_n 2, 1) := by decide +kernel
theorem dX6_room_36 : decode cX6_room 36 = .ok (.aload_n 0, 1) := by decide +kernel
theorem dX6_room_37 : decode cX6_room 37 = .ok (.iload_n 1, 1) := by decide +kernel
theorem dX6_room_38 : decode cX6_room 38 = .ok (.putfield 94, 3) := by decide +kernel
theorem dX6_room_41 : decode cX6_room 41 = .ok (.iload_n 2, 1) := by decide +kernel
theorem dX6_room_42 : decode cX6_room 42 = .ok (.ireturn, 1) := by decide +kernel
theorem dX6_pick_0 : decode cX6_pick 0 = .ok (.aload_n 0, 1) := by decide +kernel
theorem dX6_pick_1 : decode cX6_pick 1 = .ok (.iconst 0, 1) := by decide +kernel
theorem dX6_pick_2 : decode cX6_pick 2 = .ok (.putfield 97, 3) := by decide +kernel
theorem dX6_pick_5 : decode cX6_pick 5 = .ok (.iload_n 1, 1) := by decide +kernel
theorem dX6_pick_6 : decode cX6_pick 6 = .ok (.i2l, 1) := by decide +kernel
theorem dX6_pick_7 : decode cX6_pick 7 = .ok (.lconst 1, 1) := by decide +kernel
theorem dX6_pick_8 : decode cX6_pick 8 = .ok (.ldc2_w 197, 3) := by decide +kernel
theorem dX6_pick_11 : decode cX6_pick 11 = .ok (.invokestatic 103, 3) := by decide +kernel
theorem dX6_pick_14 : decode cX6_pick 14 = .ok (.ifCond .ne 6, 3) := by decide +kernel
theorem dX6_pick_17 : decode cX6_pick 17 = .ok (.bipush (-2), 2) := by decide +kernel
theorem dX6_pick_19 : decode cX6_pick 19 = .ok (.ireturn, 1) := by decide +kernel
theorem dX6_pick_20 : decode cX6_pick 20 = .ok (.iload_n 1, 1) := by decide +kernel
theorem dX6_pick_21 : decode cX6_pick 21 = .ok (.aload_n 0, 1) := by decide +kernel
theorem dX6_pick_22 : decode cX6_pick 22 = .ok (.getfield 133, 3) := by decide +kernel
theorem dX6_pick_25 : decode cX6_pick 25 = .ok (.if_icmp .ge 7, 3) := by decide +kernel
theorem dX6_pick_28 : decode cX6_pick 28 = .ok (.iload_n 1, 1) := by decide +kernel
theorem dX6_pick_29 : decode cX6_pick 29 = .ok (.goto 7, 3) := by decide +kernel
theorem dX6_pick_32 : decode cX6_pick 32 = .ok (.aload_n 0, 1) := by decide +kernel
theorem dX6_pick_33 : decode cX6_pick 33 = .ok (.getfield 133, 3) := by decide +kernel
theorem dX6_pick_36 : decode cX6_pick 36 = .ok (.istore_n 2, 1) := by decide +kernel
theorem dX6_pick_37 : decode cX6_pick 37 = .ok (.aload_n 0, 1) := by decide +kernel
theorem dX6_pick_38 : decode cX6_pick 38 = .ok (.dup, 1) := by decide +kernel
theorem dX6_pick_39 : decode cX6_pick 39 = .ok (.getfield 133, 3) := by decide +kernel
theorem dX6_pick_42 : decode cX6_pick 42 = .ok (.iload_n 2, 1) := by decide +kernel
theorem dX6_pick_43 : decode cX6_pick 43 = .ok (.isub, 1) := by decide +kernel
theorem dX6_pick_44 : decode cX6_pick 44 = .ok (.putfield 133, 3) := by decide +kernel
theorem dX6_pick_47 : decode cX6_pick 47 = .ok (.aload_n 0, 1) := by decide +kernel
theorem dX6_pick_48 : decode cX6_pick 48 = .ok (.dup, 1) := by decide +kernel
theorem dX6_pick_49 : decode cX6_pick 49 = .ok (.getfield 199, 3) := by decide +kernel
theorem dX6_pick_52 : decode cX6_pick 52 = .ok (.iload_n 2, 1) := by decide +kernel
theorem dX6_pick_53 : decode cX6_pick 53 = .ok (.iadd, 1) := by decide +kernel
theorem dX6_pick_54 : decode cX6_pick 54 = .ok (.putfield 199, 3) := by decide +kernel
theorem dX6_pick_57 : decode cX6_pick 57 = .ok (.iload_n 2, 1) := by decide +kernel
theorem dX6_pick_58 : decode cX6_pick 58 = .ok (.ireturn, 1) := by decide +kernel
theorem dX6_total_0 : decode cX6_total 0 = .ok (.aload_n 0, 1) := by decide +kernel
theorem dX6_total_1 : decode cX6_total 1 = .ok (.iconst 0, 1) := by decide +kernel
theorem dX6_total_2 : decode cX6_total 2 = .ok (.putfield 97, 3) := by decide +kernel
theorem dX6_total_5 : decode cX6_total 5 = .ok (.iconst 0, 1) := by decide +kernel
theorem dX6_total_6 : decode cX6_total 6 = .ok (.istore_n 2, 1) := by decide +kernel
theorem dX6_total_7 : decode cX6_total 7 = .ok (.iload_n 1, 1) := by decide +kernel
theorem dX6_total_8 : decode cX6_total 8 = .ok (.tableswitch 201 0 12 #[68, 73, 78, 83, 88, 93, 98, 103, 108, 113, 118, 153, 166], 68) := by decide +kernel
theorem dX6_total_76 : decode cX6_total 76 = .ok (.aload_n 0, 1) := by decide +kernel
theorem dX6_total_77 : decode cX6_total 77 = .ok (.getfield 133, 3) := by decide +kernel
theorem dX6_total_80 : decode cX6_total 80 = .ok (.ireturn, 1) := by decide +kernel
theorem dX6_total_81 : decode cX6_total 81 = .ok (.aload_n 0, 1) := by decide +kernel
theorem dX6_total_82 : decode cX6_total 82 = .ok (.getfield 136, 3) := by decide +kernel
theorem dX6_total_85 : decode cX6_total 85 = .ok (.ireturn, 1) := by decide +kernel
theorem dX6_total_86 : decode cX6_total 86 = .ok (.aload_n 0, 1) := by decide +kernel
theorem dX6_total_87 : decode cX6_total 87 = .ok (.getfield 139, 3) := by decide +kernel
theorem dX6_total_90 : decode cX6_total 90 = .ok (.ireturn, 1) := by decide +kernel
theorem dX6_total_91 : decode cX6_total 91 = .ok (.aload_n 0, 1) := by decide +kernel
theorem dX6_total_92 : decode cX6_total 92 = .ok (.getfield 199, 3) := by decide +kernel
theorem dX6_total_95 : decode cX6_total 95 = .ok (.ireturn, 1) := by decide +kernel
theorem dX6_total_96 : decode cX6_total 96 = .ok (.aload_n 0, 1) := by decide +kernel
theorem dX6_total_97 : decode cX6_total 97 = .ok (.getfield 148, 3) := by decide +kernel
theorem dX6_total_100 : decode cX6_total 100 = .ok (.ireturn, 1) := by decide +kernel
theorem dX6_total_101 : decode cX6_total 101 = .ok (.aload_n 0, 1) := by decide +kernel
theorem dX6_total_102 : decode cX6_total 102 = .ok (.getfield 145, 3) := by decide +kernel
theorem dX6_total_105 : decode cX6_total 105 = .ok (.ireturn, 1) := by decide +kernel
theorem dX6_total_106 : decode cX6_total 106 = .ok (.aload_n 0, 1) := by decide +kernel
theorem dX6_total_107 : decode cX6_total 107 = .ok (.getfield 107, 3) := by decide +kernel
theorem dX6_total_110 : decode cX6_total 110 = .ok (.ireturn, 1) := by decide +kernel
theorem dX6_total_111 : decode cX6_total 111 = .ok (.aload_n 0, 1) := by decide +kernel
theorem dX6_total_112 : decode cX6_total 112 = .ok (.getfield 100, 3) := by decide +kernel
theorem dX6_total_115 : decode cX6_total 115 = .ok (.ireturn, 1) := by decide +kernel
theorem dX6_total_116 : decode cX6_total 116 = .ok (.aload_n 0, 1) := by decide +kernel
theorem dX6_total_117 : decode cX6_total 117 = .ok (.getfield 184, 3) := by decide +kernel
theorem dX6_total_120 : decode cX6_total 120 = .ok (.ireturn, 1) := by decide +kernel
theorem dX6_total_121 : decode cX6_total 121 = .ok (.aload_n 0, 1) := by decide +kernel
theorem dX6_total_122 : decode cX6_total 122 = .ok (.getfield 110, 3) := by decide +kernel
theorem dX6_total_125 : decode cX6_total 125 = .ok (.ireturn, 1) := by decide +kernel
theorem dX6_total_126 : decode cX6_total 126 = .ok (.iconst 0, 1) := by decide +kernel
theorem dX6_total_127 : decode cX6_total 127 = .ok (.istore_n 3, 1) := by decide +kernel
theorem dX6_total_128 : decode cX6_total 128 = .ok (.iload_n 3, 1) := by decide +kernel
theorem dX6_total_129 : decode cX6_total 129 = .ok (.aload_n 0, 1) := by decide +kernel
theorem dX6_total_130 : decode cX6_total 130 = .ok (.getfield 184, 3) := by decide +kernel
theorem dX6_total_133 : decode cX6_total 133 = .ok (.if_icmp .ge 26, 3) := by decide +kernel
theorem dX6_total_136 : decode cX6_total 136 = .ok (.iload_n 2, 1) := by decide +kernel
theorem dX6_total_137 : decode cX6_total 137 = .ok (.aload_n 0, 1) := by decide +kernel
theorem dX6_total_138 : decode cX6_total 138 = .ok (.getfield 65, 3) := by decide +kernel
theorem dX6_total_141 : decode cX6_total 141 = .ok (.iload_n 3, 1) := by decide +kernel
theorem dX6_total_142 : decode cX6_total 142 = .ok (.baload, 1) := by decide +kernel
theorem dX6_total_143 : decode cX6_total 143 = .ok (.ifCond .eq 7, 3) := by decide +kernel
theorem dX6_total_146 : decode cX6_total 146 = .ok (.iconst 1, 1) := by decide +kernel
theorem dX6_total_147 : decode cX6_total 147 = .ok (.goto 4, 3) := by decide +kernel
theorem dX6_total_150 : decode cX6_total 150 = .ok (.iconst 0, 1) := by decide +kernel
theorem dX6_total_151 : decode cX6_total 151 = .ok (.iadd, 1) := by decide +kernel
theorem dX6_total_152 : decode cX6_total 152 = .ok (.istore_n 2, 1) := by decide +kernel
theorem dX6_total_153 : decode cX6_total 153 = .ok (.iinc 3 1, 3) := by decide +kernel
theorem dX6_total_156 : decode cX6_total 156 = .ok (.goto (-28), 3) := by decide +kernel
theorem dX6_total_159 : decode cX6_total 159 = .ok (.iload_n 2, 1) := by decide +kernel
theorem dX6_total_160 : decode cX6_total 160 = .ok (.ireturn, 1) := by decide +kernel
theorem dX6_total_161 : decode cX6_total 161 = .ok (.aload_n 0, 1) := by decide +kernel
theorem dX6_total_162 : decode cX6_total 162 = .ok (.getfield 7, 3) := by decide +kernel
theorem dX6_total_165 : decode cX6_total 165 = .ok (.ifCond .eq 7, 3) := by decide +kernel
theorem dX6_total_168 : decode cX6_total 168 = .ok (.iconst 1, 1) := by decide +kernel
theorem dX6_total_169 : decode cX6_total 169 = .ok (.goto 4, 3) := by decide +kernel
theorem dX6_total_172 : decode cX6_total 172 = .ok (.iconst 0, 1) := by decide +kernel
theorem dX6_total_173 : decode cX6_total 173 = .ok (.ireturn, 1) := by decide +kernel
theorem dX6_total_174 : decode cX6_total 174 = .ok (.iconst 0, 1) := by decide +kernel
theorem dX6_total_175 : decode cX6_total 175 = .ok (.istore_n 3, 1) := by decide +kernel
theorem dX6_total_176 : decode cX6_total 176 = .ok (.iload_n 3, 1) := by decide +kernel
theorem dX6_total_177 : decode cX6_total 177 = .ok (.aload_n 0, 1) := by decide +kernel
theorem dX6_total_178 : decode cX6_total 178 = .ok (.getfield 184, 3) := by decide +kernel
theorem dX6_total_181 : decode cX6_total 181 = .ok (.if_icmp .ge 26, 3) := by decide +kernel
theorem dX6_total_184 : decode cX6_total 184 = .ok (.iload_n 2, 1) := by decide +kernel
theorem dX6_total_185 : decode cX6_total 185 = .ok (.aload_n 0, 1) := by decide +kernel
theorem dX6_total_186 : decode cX6_total 186 = .ok (.getfield 53, 3) := by decide +kernel
theorem dX6_total_189 : decode cX6_total 189 = .ok (.iload_n 3, 1) := by decide +kernel
theorem dX6_total_190 : decode cX6_total 190 = .ok (.iaload, 1) := by decide +kernel
theorem dX6_total_191 : decode cX6_total 191 = .ok (.ifCond .ne 7, 3) := by decide +kernel
theorem dX6_total_194 : decode cX6_total 194 = .ok (.iconst 1, 1) := by decide +kernel
theorem dX6_total_195 : decode cX6_total 195 = .ok (.goto 4, 3) := by decide +kernel
theorem dX6_total_198 : decode cX6_total 198 = .ok (.iconst 0, 1) := by decide +kernel
theorem dX6_total_199 : decode cX6_total 199 = .ok (.iadd, 1) := by decide +kernel
theorem dX6_total_200 : decode cX6_total 200 = .ok (.istore_n 2, 1) := by decide +kernel
theorem dX6_total_201 : decode cX6_total 201 = .ok (.iinc 3 1, 3) := by decide +kernel
theorem dX6_total_204 : decode cX6_total 204 = .ok (.goto (-28), 3) := by decide +kernel
theorem dX6_total_207 : decode cX6_total 207 = .ok (.iload_n 2, 1) := by decide +kernel
theorem dX6_total_208 : decode cX6_total 208 = .ok (.ireturn, 1) := by decide +kernel
theorem dX6_total_209 : decode cX6_total 209 = .ok (.bipush (-2), 2) := by decide +kernel
theorem dX6_total_211 : decode cX6_total 211 = .ok (.ireturn, 1) := by decide +kernel
theorem dX6_visit_0 : decode cX6_visit 0 = .ok (.aload_n 0, 1) := by decide +kernel
theorem dX6_visit_1 : decode cX6_visit 1 = .ok (.iconst 0, 1) := by decide +kernel
theorem dX6_visit_2 : decode cX6_visit 2 = .ok (.putfield 97, 3) := by decide +kernel
theorem dX6_visit_5 : decode cX6_visit 5 = .ok (.iload_n 1, 1) := by decide +kernel
theorem dX6_visit_6 : decode cX6_visit 6 = .ok (.i2l, 1) := by decide +kernel
theorem dX6_visit_7 : decode cX6_visit 7 = .ok (.lconst 0, 1) := by decide +kernel
theorem dX6_visit_8 : decode cX6_visit 8 = .ok (.aload_n 0, 1) := by decide +kernel
theorem dX6_visit_9 : decode cX6_visit 9 = .ok (.getfield 184, 3) := by decide +kernel
theorem dX6_visit_12 : decode cX6_visit 12 = .ok (.iconst 1, 1) := by decide +kernel
theorem dX6_visit_13 : decode cX6_visit 13 = .ok (.isub, 1) := by decide +kernel
theorem dX6_visit_14 : decode cX6_visit 14 = .ok (.i2l, 1) := by decide +kernel
theorem dX6_visit_15 : decode cX6_visit 15 = .ok (.invokestatic 103, 3) := by decide +kernel
theorem dX6_visit_18 : decode cX6_visit 18 = .ok (.ifCond .ne 5, 3) := by decide +kernel
theorem dX6_visit_21 : decode cX6_visit 21 = .ok (.iconst (-1), 1) := by decide +kernel
theorem dX6_visit_22 : decode cX6_visit 22 = .ok (.ireturn, 1) := by decide +kernel
theorem dX6_visit_23 : decode cX6_visit 23 = .ok (.iload_n 2, 1) := by decide +kernel
theorem dX6_visit_24 : decode cX6_visit 24 = .ok (.i2l, 1) := by decide +kernel
theorem dX6_visit_25 : decode cX6_visit 25 = .ok (.lconst 0, 1) := by decide +kernel
theorem dX6_visit_26 : decode cX6_visit 26 = .ok (.ldc2_w 163, 3) := by decide +kernel
theorem dX6_visit_29 : decode cX6_visit 29 = .ok (.invokestatic 103, 3) := by decide +kernel
theorem dX6_visit_32 : decode cX6_visit 32 = .ok (.ifCond .eq 15, 3) := by decide +kernel
theorem dX6_visit_35 : decode cX6_visit 35 = .ok (.iload_n 3, 1) := by decide +kernel
theorem dX6_visit_36 : decode cX6_visit 36 = .ok (.i2l, 1) := by decide +kernel
theorem dX6_visit_37 : decode cX6_visit 37 = .ok (.lconst 0, 1) := by decide +kernel
theorem dX6_visit_38 : decode cX6_visit 38 = .ok (.ldc2_w 202, 3) := by decide +kernel
theorem dX6_visit_41 : decode cX6_visit 41 = .ok (.invokestatic 103, 3) := by decide +kernel
theorem dX6_visit_44 : decode cX6_visit 44 = .ok (.ifCond .ne 6, 3) := by decide +kernel
theorem dX6_visit_47 : decode cX6_visit 47 = .ok (.bipush (-2), 2) := by decide +kernel
theorem dX6_visit_49 : decode cX6_visit 49 = .ok (.ireturn, 1) := by decide +kernel
theorem dX6_visit_50 : decode cX6_visit 50 = .ok (.iload_n 2, 1) := by decide +kernel
theorem dX6_visit_51 : decode cX6_visit 51 = .ok (.iconst 3, 1) := by decide +kernel
theorem dX6_visit_52 : decode cX6_visit 52 = .ok (.if_icmp .ge 31, 3) := by decide +kernel
theorem dX6_visit_55 : decode cX6_visit 55 = .ok (.aload_n 0, 1) := by decide +kernel
theorem dX6_visit_56 : decode cX6_visit 56 = .ok (.getfield 53, 3) := by decide +kernel
theorem dX6_visit_59 : decode cX6_visit 59 = .ok (.iload_n 1, 1) := by decide +kernel
theorem dX6_visit_60 : decode cX6_visit 60 = .ok (.iaload, 1) := by decide +kernel
theorem dX6_visit_61 : decode cX6_visit 61 = .ok (.iload_n 2, 1) := by decide +kernel
theorem dX6_visit_62 : decode cX6_visit 62 = .ok (.if_icmp .eq 21, 3) := by decide +kernel
theorem dX6_visit_65 : decode cX6_visit 65 = .ok (.iload_n 2, 1) := by decide +kernel
theorem dX6_visit_66 : decode cX6_visit 66 = .ok (.iconst 1, 1) := by decide +kernel
theorem dX6_visit_67 : decode cX6_visit 67 = .ok (.if_icmp .ne 13, 3) := by decide +kernel
theorem dX6_visit_70 : decode cX6_visit 70 = .ok (.aload_n 0, 1) := by decide +kernel
theorem dX6_visit_71 : decode cX6_visit 71 = .ok (.getfield 53, 3) := by decide +kernel
theorem dX6_visit_74 : decode cX6_visit 74 = .ok (.iload_n 1, 1) := by decide +kernel
theorem dX6_visit_75 : decode cX6_visit 75 = .ok (.iaload, 1) := by decide +kernel
theorem dX6_visit_76 : decode cX6_visit 76 = .ok (.iconst 2, 1) := by decide +kernel
theorem dX6_visit_77 : decode cX6_visit 77 = .ok (.if_icmp .eq 6, 3) := by decide +kernel
theorem dX6_visit_80 : decode cX6_visit 80 = .ok (.bipush (-13), 2) := by decide +kernel
theorem dX6_visit_82 : decode cX6_visit 82 = .ok (.ireturn, 1) := by decide +kernel
theorem dX6_visit_83 : decode cX6_visit 83 = .ok (.iload_n 3, 1) := by decide +kernel
theorem dX6_visit_84 : decode cX6_visit 84 = .ok (.tableswitch 134 0 9 #[56, 63, 70, 77, 84, 99, 106, 113, 120, 127], 56) := by decide +kernel
theorem dX6_visit_140 : decode cX6_visit 140 = .ok (.aload_n 0, 1) := by decide +kernel
theorem dX6_visit_141 : decode cX6_visit 141 = .ok (.getfield 53, 3) := by decide +kernel
theorem dX6_visit_144 : decode cX6_visit 144 = .ok (.iload_n 1, 1) := by decide +kernel
theorem dX6_visit_145 : decode cX6_visit 145 = .ok (.iaload, 1) := by decide +kernel
theorem dX6_visit_146 : decode cX6_visit 146 = .ok (.ireturn, 1) := by decide +kernel
theorem dX6_visit_147 : decode cX6_visit 147 = .ok (.aload_n 0, 1) := by decide +kernel
theorem dX6_visit_148 : decode cX6_visit 148 = .ok (.getfield 56, 3) := by decide +kernel
theorem dX6_visit_151 : decode cX6_visit 151 = .ok (.iload_n 1, 1) := by decide +kernel
theorem dX6_visit_152 : decode cX6_visit 152 = .ok (.iaload, 1) := by decide +kernel
theorem dX6_visit_153 : decode cX6_visit 153 = .ok (.ireturn, 1) := by decide +kernel
theorem dX6_visit_154 : decode cX6_visit 154 = .ok (.aload_n 0, 1) := by decide +kernel
theorem dX6_visit_155 : decode cX6_visit 155 = .ok (.getfield 59, 3) := by decide +kernel
theorem dX6_visit_158 : decode cX6_visit 158 = .ok (.iload_n 1, 1) := by decide +kernel
theorem dX6_visit_159 : decode cX6_visit 159 = .ok (.iaload, 1) := by decide +kernel
theorem dX6_visit_160 : decode cX6_visit 160 = .ok (.ireturn, 1) := by decide +kernel
theorem dX6_visit_161 : decode cX6_visit 161 = .ok (.aload_n 0, 1) := by decide +kernel
theorem dX6_visit_162 : decode cX6_visit 162 = .ok (.getfield 62, 3) := by decide +kernel
theorem dX6_visit_165 : decode cX6_visit 165 = .ok (.iload_n 1, 1) := by decide +kernel
theorem dX6_visit_166 : decode cX6_visit 166 = .ok (.iaload, 1) := by decide +kernel
theorem dX6_visit_167 : decode cX6_visit 167 = .ok (.ireturn, 1) := by decide +kernel
theorem dX6_visit_168 : decode cX6_visit 168 = .ok (.aload_n 0, 1) := by decide +kernel
theorem dX6_visit_169 : decode cX6_visit 169 = .ok (.getfield 65, 3) := by decide +kernel
theorem dX6_visit_172 : decode cX6_visit 172 = .ok (.iload_n 1, 1) := by decide +kernel
theorem dX6_visit_173 : decode cX6_visit 173 = .ok (.baload, 1) := by decide +kernel
theorem dX6_visit_174 : decode cX6_visit 174 = .ok (.ifCond .eq 7, 3) := by decide +kernel
theorem dX6_visit_177 : decode cX6_visit 177 = .ok (.iconst 1, 1) := by decide +kernel
theorem dX6_visit_178 : decode cX6_visit 178 = .ok (.goto 4, 3) := by decide +kernel
theorem dX6_visit_181 : decode cX6_visit 181 = .ok (.iconst 0, 1) := by decide +kernel
theorem dX6_visit_182 : decode cX6_visit 182 = .ok (.ireturn, 1) := by decide +kernel
theorem dX6_visit_183 : decode cX6_visit 183 = .ok (.aload_n 0, 1) := by decide +kernel
theorem dX6_visit_184 : decode cX6_visit 184 = .ok (.getfield 69, 3) := by decide +kernel
theorem dX6_visit_187 : decode cX6_visit 187 = .ok (.iload_n 1, 1) := by decide +kernel
theorem dX6_visit_188 : decode cX6_visit 188 = .ok (.iaload, 1) := by decide +kernel
theorem dX6_visit_189 : decode cX6_visit 189 = .ok (.ireturn, 1) := by decide +kernel
theorem dX6_visit_190 : decode cX6_visit 190 = .ok (.aload_n 0, 1) := by decide +kernel
theorem dX6_visit_191 : decode cX6_visit 191 = .ok (.getfield 72, 3) := by decide +kernel
theorem dX6_visit_194 : decode cX6_visit 194 = .ok (.iload_n 1, 1) := by decide +kernel
theorem dX6_visit_195 : decode cX6_visit 195 = .ok (.iaload, 1) := by decide +kernel
theorem dX6_visit_196 : decode cX6_visit 196 = .ok (.ireturn, 1) := by decide +kernel
theorem dX6_visit_197 : decode cX6_visit 197 = .ok (.aload_n 0, 1) := by decide +kernel
theorem dX6_visit_198 : decode cX6_visit 198 = .ok (.getfield 75, 3) := by decide +kernel
theorem dX6_visit_201 : decode cX6_visit 201 = .ok (.iload_n 1, 1) := by decide +kernel
theorem dX6_visit_202 : decode cX6_visit 202 = .ok (.iaload, 1) := by decide +kernel
theorem dX6_visit_203 : decode cX6_visit 203 = .ok (.ireturn, 1) := by decide +kernel
theorem dX6_visit_204 : decode cX6_visit 204 = .ok (.aload_n 0, 1) := by decide +kernel
theorem dX6_visit_205 : decode cX6_visit 205 = .ok (.getfield 78, 3) := by decide +kernel
theorem dX6_visit_208 : decode cX6_visit 208 = .ok (.iload_n 1, 1) := by decide +kernel
theorem dX6_visit_209 : decode cX6_visit 209 = .ok (.iaload, 1) := by decide +kernel
theorem dX6_visit_210 : decode cX6_visit 210 = .ok (.ireturn, 1) := by decide +kernel
theorem dX6_visit_211 : decode cX6_visit 211 = .ok (.aload_n 0, 1) := by decide +kernel
theorem dX6_visit_212 : decode cX6_visit 212 = .ok (.getfield 81, 3) := by decide +kernel
theorem dX6_visit_215 : decode cX6_visit 215 = .ok (.iload_n 1, 1) := by decide +kernel
theorem dX6_visit_216 : decode cX6_visit 216 = .ok (.iaload, 1) := by decide +kernel
theorem dX6_visit_217 : decode cX6_visit 217 = .ok (.ireturn, 1) := by decide +kernel
theorem dX6_visit_218 : decode cX6_visit 218 = .ok (.aload_n 0, 1) := by decide +kernel
theorem dX6_visit_219 : decode cX6_visit 219 = .ok (.getfield 84, 3) := by decide +kernel
theorem dX6_visit_222 : decode cX6_visit 222 = .ok (.iload_n 1, 1) := by decide +kernel
theorem dX6_visit_223 : decode cX6_visit 223 = .ok (.iaload, 1) := by decide +kernel
theorem dX6_visit_224 : decode cX6_visit 224 = .ok (.ireturn, 1) := by decide +kernel
theorem dX6_visitOf_0 : decode cX6_visitOf 0 = .ok (.aload_n 0, 1) := by decide +kernel
theorem dX6_visitOf_1 : decode cX6_visitOf 1 = .ok (.iconst 0, 1) := by decide +kernel
theorem dX6_visitOf_2 : decode cX6_visitOf 2 = .ok (.putfield 97, 3) := by decide +kernel
theorem dX6_visitOf_5 : decode cX6_visitOf 5 = .ok (.aload_n 0, 1) := by decide +kernel
theorem dX6_visitOf_6 : decode cX6_visitOf 6 = .ok (.iload_n 1, 1) := by decide +kernel
theorem dX6_visitOf_7 : decode cX6_visitOf 7 = .ok (.invokevirtual 159, 3) := by decide +kernel
theorem dX6_visitOf_10 : decode cX6_visitOf 10 = .ok (.ifCond .eq 5, 3) := by decide +kernel
theorem dX6_visitOf_13 : decode cX6_visitOf 13 = .ok (.iconst (-1), 1) := by decide +kernel
theorem dX6_visitOf_14 : decode cX6_visitOf 14 = .ok (.ireturn, 1) := by decide +kernel
theorem dX6_visitOf_15 : decode cX6_visitOf 15 = .ok (.iconst 0, 1) := by decide +kernel
theorem dX6_visitOf_16 : decode cX6_visitOf 16 = .ok (.istore_n 3, 1) := by decide +kernel
theorem dX6_visitOf_17 : decode cX6_visitOf 17 = .ok (.iconst 0, 1) := by decide +kernel
theorem dX6_visitOf_18 : decode cX6_visitOf 18 = .ok (.istore 4, 2) := by decide +kernel
theorem dX6_visitOf_20 : decode cX6_visitOf 20 = .ok (.iload 4, 2) := by decide +kernel
theorem dX6_visitOf_22 : decode cX6_visitOf 22 = .ok (.aload_n 0, 1) := by decide +kernel
theorem dX6_visitOf_23 : decode cX6_visitOf 23 = .ok (.getfield 184, 3) := by decide +kernel
theorem dX6_visitOf_26 : decode cX6_visitOf 26 = .ok (.if_icmp .ge 31, 3) := by decide +kernel
theorem dX6_visitOf_29 : decode cX6_visitOf 29 = .ok (.aload_n 0, 1) := by decide +kernel
theorem dX6_visitOf_30 : decode cX6_visitOf 30 = .ok (.getfield 56, 3) := by decide +kernel
theorem dX6_visitOf_33 : decode cX6_visitOf 33 = .ok (.iload 4, 2) := by decide +kernel
theorem dX6_visitOf_35 : decode cX6_visitOf 35 = .ok (.iaload, 1) := by decide +kernel
theorem dX6_visitOf_36 : decode cX6_visitOf 36 = .ok (.iload_n 1, 1) := by decide +kernel
theorem dX6_visitOf_37 : decode cX6_visitOf 37 = .ok (.if_icmp .ne 14, 3) := by decide +kernel
theorem dX6_visitOf_40 : decode cX6_visitOf 40 = .ok (.iload_n 3, 1) := by decide +kernel
theorem dX6_visitOf_41 : decode cX6_visitOf 41 = .ok (.iload_n 2, 1) := by decide +kernel
theorem dX6_visitOf_42 : decode cX6_visitOf 42 = .ok (.if_icmp .ne 6, 3) := by decide +kernel
theorem dX6_visitOf_45 : decode cX6_visitOf 45 = .ok (.iload 4, 2) := by decide +kernel
theorem dX6_visitOf_47 : decode cX6_visitOf 47 = .ok (.ireturn, 1) := by decide +kernel
theorem dX6_visitOf_48 : decode cX6_visitOf 48 = .ok (.iinc 3 1, 3) := by decide +kernel
theorem dX6_visitOf_51 : decode cX6_visitOf 51 = .ok (.iinc 4 1, 3) := by decide +kernel
theorem dX6_visitOf_54 : decode cX6_visitOf 54 = .ok (.goto (-34), 3) := by decide +kernel
theorem dX6_visitOf_57 : decode cX6_visitOf 57 = .ok (.bipush (-9), 2) := by decide +kernel
theorem dX6_visitOf_59 : decode cX6_visitOf 59 = .ok (.ireturn, 1) := by decide +kernel
theorem dX6_gave_0 : decode cX6_gave 0 = .ok (.aload_n 0, 1) := by decide +kernel
theorem dX6_gave_1 : decode cX6_gave 1 = .ok (.iconst 0, 1) := by decide +kernel
theorem dX6_gave_2 : decode cX6_gave 2 = .ok (.putfield 97, 3) := by decide +kernel
theorem dX6_gave_5 : decode cX6_gave 5 = .ok (.aload_n 0, 1) := by decide +kernel
theorem dX6_gave_6 : decode cX6_gave 6 = .ok (.iload_n 1, 1) := by decide +kernel
theorem dX6_gave_7 : decode cX6_gave 7 = .ok (.invokevirtual 159, 3) := by decide +kernel
theorem dX6_gave_10 : decode cX6_gave 10 = .ok (.ifCond .eq 5, 3) := by decide +kernel
theorem dX6_gave_13 : decode cX6_gave 13 = .ok (.iconst (-1), 1) := by decide +kernel
theorem dX6_gave_14 : decode cX6_gave 14 = .ok (.ireturn, 1) := by decide +kernel
theorem dX6_gave_15 : decode cX6_gave 15 = .ok (.iload_n 2, 1) := by decide +kernel
theorem dX6_gave_16 : decode cX6_gave 16 = .ok (.ifCond .ge 6, 3) := by decide +kernel
theorem dX6_gave_19 : decode cX6_gave 19 = .ok (.bipush (-2), 2) := by decide +kernel
theorem dX6_gave_21 : decode cX6_gave 21 = .ok (.ireturn, 1) := by decide +kernel
theorem dX6_gave_22 : decode cX6_gave 22 = .ok (.iconst 0, 1) := by decide +kernel
theorem dX6_gave_23 : decode cX6_gave 23 = .ok (.istore_n 3, 1) := by decide +kernel
theorem dX6_gave_24 : decode cX6_gave 24 = .ok (.iconst 0, 1) := by decide +kernel
theorem dX6_gave_25 : decode cX6_gave 25 = .ok (.istore 4, 2) := by decide +kernel
theorem dX6_gave_27 : decode cX6_gave 27 = .ok (.iload 4, 2) := by decide +kernel
theorem dX6_gave_29 : decode cX6_gave 29 = .ok (.aload_n 0, 1) := by decide +kernel
theorem dX6_gave_30 : decode cX6_gave 30 = .ok (.getfield 184, 3) := by decide +kernel
theorem dX6_gave_33 : decode cX6_gave 33 = .ok (.if_icmp .ge 61, 3) := by decide +kernel
theorem dX6_gave_36 : decode cX6_gave 36 = .ok (.iload_n 3, 1) := by decide +kernel
theorem dX6_gave_37 : decode cX6_gave 37 = .ok (.aload_n 0, 1) := by decide +kernel
theorem dX6_gave_38 : decode cX6_gave 38 = .ok (.getfield 56, 3) := by decide +kernel
theorem dX6_gave_41 : decode cX6_gave 41 = .ok (.iload 4, 2) := by decide +kernel
theorem dX6_gave_43 : decode cX6_gave 43 = .ok (.iaload, 1) := by decide +kernel
theorem dX6_gave_44 : decode cX6_gave 44 = .ok (.iload_n 1, 1) := by decide +kernel
theorem dX6_gave_45 : decode cX6_gave 45 = .ok (.if_icmp .ne 40, 3) := by decide +kernel
theorem dX6_gave_48 : decode cX6_gave 48 = .ok (.aload_n 0, 1) := by decide +kernel
theorem dX6_gave_49 : decode cX6_gave 49 = .ok (.getfield 72, 3) := by decide +kernel
theorem dX6_gave_52 : decode cX6_gave 52 = .ok (.iload 4, 2) := by decide +kernel
theorem dX6_gave_54 : decode cX6_gave 54 = .ok (.iaload, 1) := by decide +kernel
theorem dX6_gave_55 : decode cX6_gave 55 = .ok (.bipush (-9), 2) := by decide +kernel
theorem dX6_gave_57 : decode cX6_gave 57 = .ok (.if_icmp .eq 28, 3) := by decide +kernel
theorem dX6_gave_60 : decode cX6_gave 60 = .ok (.aload_n 0, 1) := by decide +kernel
theorem dX6_gave_61 : decode cX6_gave 61 = .ok (.getfield 72, 3) := by decide +kernel
theorem dX6_gave_64 : decode cX6_gave 64 = .ok (.iload 4, 2) := by decide +kernel
theorem dX6_gave_66 : decode cX6_gave 66 = .ok (.iaload, 1) := by decide +kernel
theorem dX6_gave_67 : decode cX6_gave 67 = .ok (.sipush 1440, 3) := by decide +kernel
theorem dX6_gave_70 : decode cX6_gave 70 = .ok (.idiv, 1) := by decide +kernel
theorem dX6_gave_71 : decode cX6_gave 71 = .ok (.iload_n 2, 1) := by decide +kernel
theorem dX6_gave_72 : decode cX6_gave 72 = .ok (.if_icmp .ne 13, 3) := by decide +kernel
theorem dX6_gave_75 : decode cX6_gave 75 = .ok (.aload_n 0, 1) := by decide +kernel
theorem dX6_gave_76 : decode cX6_gave 76 = .ok (.getfield 75, 3) := by decide +kernel
theorem dX6_gave_79 : decode cX6_gave 79 = .ok (.iload 4, 2) := by decide +kernel
theorem dX6_gave_81 : decode cX6_gave 81 = .ok (.iaload, 1) := by decide +kernel
theorem dX6_gave_82 : decode cX6_gave 82 = .ok (.goto 4, 3) := by decide +kernel
theorem dX6_gave_85 : decode cX6_gave 85 = .ok (.iconst 0, 1) := by decide +kernel
theorem dX6_gave_86 : decode cX6_gave 86 = .ok (.iadd, 1) := by decide +kernel
theorem dX6_gave_87 : decode cX6_gave 87 = .ok (.istore_n 3, 1) := by decide +kernel
theorem dX6_gave_88 : decode cX6_gave 88 = .ok (.iinc 4 1, 3) := by decide +kernel
theorem dX6_gave_91 : decode cX6_gave 91 = .ok (.goto (-64), 3) := by decide +kernel
theorem dX6_gave_94 : decode cX6_gave 94 = .ok (.iload_n 3, 1) := by decide +kernel
theorem dX6_gave_95 : decode cX6_gave 95 = .ok (.ireturn, 1) := by decide +kernel
theorem dX6_longest_0 : decode cX6_longest 0 = .ok (.aload_n 0, 1) := by decide +kernel
theorem dX6_longest_1 : decode cX6_longest 1 = .ok (.iconst 0, 1) := by decide +kernel
theorem dX6_longest_2 : decode cX6_longest 2 = .ok (.putfield 97, 3) := by decide +kernel
theorem dX6_longest_5 : decode cX6_longest 5 = .ok (.iconst 0, 1) := by decide +kernel
theorem dX6_longest_6 : decode cX6_longest 6 = .ok (.istore_n 1, 1) := by decide +kernel
theorem dX6_longest_7 : decode cX6_longest 7 = .ok (.iconst 0, 1) := by decide +kernel
theorem dX6_longest_8 : decode cX6_longest 8 = .ok (.istore_n 2, 1) := by decide +kernel
theorem dX6_longest_9 : decode cX6_longest 9 = .ok (.iload_n 2, 1) := by decide +kernel
theorem dX6_longest_10 : decode cX6_longest 10 = .ok (.aload_n 0, 1) := by decide +kernel
theorem dX6_longest_11 : decode cX6_longest 11 = .ok (.getfield 184, 3) := by decide +kernel
theorem dX6_longest_14 : decode cX6_longest 14 = .ok (.if_icmp .ge 49, 3) := by decide +kernel
theorem dX6_longest_17 : decode cX6_longest 17 = .ok (.aload_n 0, 1) := by decide +kernel
theorem dX6_longest_18 : decode cX6_longest 18 = .ok (.getfield 69, 3) := by decide +kernel
theorem dX6_longest_21 : decode cX6_longest 21 = .ok (.iload_n 2, 1) := by decide +kernel
theorem dX6_longest_22 : decode cX6_longest 22 = .ok (.iaload, 1) := by decide +kernel
theorem dX6_longest_23 : decode cX6_longest 23 = .ok (.bipush (-9), 2) := by decide +kernel
theorem dX6_longest_25 : decode cX6_longest 25 = .ok (.if_icmp .ne 7, 3) := by decide +kernel
theorem dX6_longest_28 : decode cX6_longest 28 = .ok (.iconst 0, 1) := by decide +kernel
theorem dX6_longest_29 : decode cX6_longest 29 = .ok (.goto 16, 3) := by decide +kernel
theorem dX6_longest_32 : decode cX6_longest 32 = .ok (.aload_n 0, 1) := by decide +kernel
theorem dX6_longest_33 : decode cX6_longest 33 = .ok (.getfield 69, 3) := by decide +kernel
theorem dX6_longest_36 : decode cX6_longest 36 = .ok (.iload_n 2, 1) := by decide +kernel
theorem dX6_longest_37 : decode cX6_longest 37 = .ok (.iaload, 1) := by decide +kernel
theorem dX6_longest_38 : decode cX6_longest 38 = .ok (.aload_n 0, 1) := by decide +kernel
theorem dX6_longest_39 : decode cX6_longest 39 = .ok (.getfield 59, 3) := by decide +kernel
theorem dX6_longest_42 : decode cX6_longest 42 = .ok (.iload_n 2, 1) := by decide +kernel
theorem dX6_longest_43 : decode cX6_longest 43 = .ok (.iaload, 1) := by decide +kernel
theorem dX6_longest_44 : decode cX6_longest 44 = .ok (.isub, 1) := by decide +kernel
theorem dX6_longest_45 : decode cX6_longest 45 = .ok (.istore_n 3, 1) := by decide +kernel
theorem dX6_longest_46 : decode cX6_longest 46 = .ok (.iload_n 3, 1) := by decide +kernel
theorem dX6_longest_47 : decode cX6_longest 47 = .ok (.iload_n 1, 1) := by decide +kernel
theorem dX6_longest_48 : decode cX6_longest 48 = .ok (.if_icmp .le 7, 3) := by decide +kernel
theorem dX6_longest_51 : decode cX6_longest 51 = .ok (.iload_n 3, 1) := by decide +kernel
theorem dX6_longest_52 : decode cX6_longest 52 = .ok (.goto 4, 3) := by decide +kernel
theorem dX6_longest_55 : decode cX6_longest 55 = .ok (.iload_n 1, 1) := by decide +kernel
theorem dX6_longest_56 : decode cX6_longest 56 = .ok (.istore_n 1, 1) := by decide +kernel
theorem dX6_longest_57 : decode cX6_longest 57 = .ok (.iinc 2 1, 3) := by decide +kernel
theorem dX6_longest_60 : decode cX6_longest 60 = .ok (.goto (-51), 3) := by decide +kernel
theorem dX6_longest_63 : decode cX6_longest 63 = .ok (.iload_n 1, 1) := by decide +kernel
theorem dX6_longest_64 : decode cX6_longest 64 = .ok (.ireturn, 1) := by decide +kernel
theorem dX6_rank_0 : decode cX6_rank 0 = .ok (.aload_n 0, 1) := by decide +kernel
theorem dX6_rank_1 : decode cX6_rank 1 = .ok (.iconst 0, 1) := by decide +kernel
theorem dX6_rank_2 : decode cX6_rank 2 = .ok (.putfield 97, 3) := by decide +kernel
theorem dX6_rank_5 : decode cX6_rank 5 = .ok (.iconst 0, 1) := by decide +kernel
theorem dX6_rank_6 : decode cX6_rank 6 = .ok (.istore_n 2, 1) := by decide +kernel
theorem dX6_rank_7 : decode cX6_rank 7 = .ok (.iload_n 2, 1) := by decide +kernel
theorem dX6_rank_8 : decode cX6_rank 8 = .ok (.aload_n 0, 1) := by decide +kernel
theorem dX6_rank_9 : decode cX6_rank 9 = .ok (.getfield 100, 3) := by decide +kernel
theorem dX6_rank_12 : decode cX6_rank 12 = .ok (.if_icmp .ge 82, 3) := by decide +kernel
theorem dX6_rank_15 : decode cX6_rank 15 = .ok (.iconst 0, 1) := by decide +kernel
theorem dX6_rank_16 : decode cX6_rank 16 = .ok (.istore_n 3, 1) := by decide +kernel
theorem dX6_rank_17 : decode cX6_rank 17 = .ok (.iconst 0, 1) := by decide +kernel
theorem dX6_rank_18 : decode cX6_rank 18 = .ok (.istore 4, 2) := by decide +kernel
theorem dX6_rank_20 : decode cX6_rank 20 = .ok (.iload 4, 2) := by decide +kernel
theorem dX6_rank_22 : decode cX6_rank 22 = .ok (.aload_n 0, 1) := by decide +kernel
theorem dX6_rank_23 : decode cX6_rank 23 = .ok (.getfield 100, 3) := by decide +kernel
theorem dX6_rank_26 : decode cX6_rank 26 = .ok (.if_icmp .ge 55, 3) := by decide +kernel
theorem dX6_rank_29 : decode cX6_rank 29 = .ok (.iload_n 3, 1) := by decide +kernel
theorem dX6_rank_30 : decode cX6_rank 30 = .ok (.aload_n 0, 1) := by decide +kernel
theorem dX6_rank_31 : decode cX6_rank 31 = .ok (.getfield 47, 3) := by decide +kernel
theorem dX6_rank_34 : decode cX6_rank 34 = .ok (.iload 4, 2) := by decide +kernel
theorem dX6_rank_36 : decode cX6_rank 36 = .ok (.iaload, 1) := by decide +kernel
theorem dX6_rank_37 : decode cX6_rank 37 = .ok (.aload_n 0, 1) := by decide +kernel
theorem dX6_rank_38 : decode cX6_rank 38 = .ok (.getfield 47, 3) := by decide +kernel
theorem dX6_rank_41 : decode cX6_rank 41 = .ok (.iload_n 2, 1) := by decide +kernel
theorem dX6_rank_42 : decode cX6_rank 42 = .ok (.iaload, 1) := by decide +kernel
theorem dX6_rank_43 : decode cX6_rank 43 = .ok (.if_icmp .gt 25, 3) := by decide +kernel
theorem dX6_rank_46 : decode cX6_rank 46 = .ok (.aload_n 0, 1) := by decide +kernel
theorem dX6_rank_47 : decode cX6_rank 47 = .ok (.getfield 47, 3) := by decide +kernel
theorem dX6_rank_50 : decode cX6_rank 50 = .ok (.iload 4, 2) := by decide +kernel
theorem dX6_rank_52 : decode cX6_rank 52 = .ok (.iaload, 1) := by decide +kernel
theorem dX6_rank_53 : decode cX6_rank 53 = .ok (.aload_n 0, 1) := by decide +kernel
theorem dX6_rank_54 : decode cX6_rank 54 = .ok (.getfield 47, 3) := by decide +kernel
theorem dX6_rank_57 : decode cX6_rank 57 = .ok (.iload_n 2, 1) := by decide +kernel
theorem dX6_rank_58 : decode cX6_rank 58 = .ok (.iaload, 1) := by decide +kernel
theorem dX6_rank_59 : decode cX6_rank 59 = .ok (.if_icmp .ne 13, 3) := by decide +kernel
theorem dX6_rank_62 : decode cX6_rank 62 = .ok (.iload 4, 2) := by decide +kernel
theorem dX6_rank_64 : decode cX6_rank 64 = .ok (.iload_n 2, 1) := by decide +kernel
theorem dX6_rank_65 : decode cX6_rank 65 = .ok (.if_icmp .ge 7, 3) := by decide +kernel
theorem dX6_rank_68 : decode cX6_rank 68 = .ok (.iconst 1, 1) := by decide +kernel
theorem dX6_rank_69 : decode cX6_rank 69 = .ok (.goto 4, 3) := by decide +kernel
theorem dX6_rank_72 : decode cX6_rank 72 = .ok (.iconst 0, 1) := by decide +kernel
theorem dX6_rank_73 : decode cX6_rank 73 = .ok (.iadd, 1) := by decide +kernel
theorem dX6_rank_74 : decode cX6_rank 74 = .ok (.istore_n 3, 1) := by decide +kernel
theorem dX6_rank_75 : decode cX6_rank 75 = .ok (.iinc 4 1, 3) := by decide +kernel
theorem dX6_rank_78 : decode cX6_rank 78 = .ok (.goto (-58), 3) := by decide +kernel
theorem dX6_rank_81 : decode cX6_rank 81 = .ok (.iload_n 3, 1) := by decide +kernel
theorem dX6_rank_82 : decode cX6_rank 82 = .ok (.iload_n 1, 1) := by decide +kernel
theorem dX6_rank_83 : decode cX6_rank 83 = .ok (.if_icmp .ne 5, 3) := by decide +kernel
theorem dX6_rank_86 : decode cX6_rank 86 = .ok (.iload_n 2, 1) := by decide +kernel
theorem dX6_rank_87 : decode cX6_rank 87 = .ok (.ireturn, 1) := by decide +kernel
theorem dX6_rank_88 : decode cX6_rank 88 = .ok (.iinc 2 1, 3) := by decide +kernel
theorem dX6_rank_91 : decode cX6_rank 91 = .ok (.goto (-84), 3) := by decide +kernel
theorem dX6_rank_94 : decode cX6_rank 94 = .ok (.bipush (-9), 2) := by decide +kernel
theorem dX6_rank_96 : decode cX6_rank 96 = .ok (.ireturn, 1) := by decide +kernel
theorem dX6_until_0 : decode cX6_until 0 = .ok (.aload_n 0, 1) := by decide +kernel
theorem dX6_until_1 : decode cX6_until 1 = .ok (.iconst 0, 1) := by decide +kernel
theorem dX6_until_2 : decode cX6_until 2 = .ok (.putfield 97, 3) := by decide +kernel
theorem dX6_until_5 : decode cX6_until 5 = .ok (.aload_n 0, 1) := by decide +kernel
theorem dX6_until_6 : decode cX6_until 6 = .ok (.iload_n 1, 1) := by decide +kernel
theorem dX6_until_7 : decode cX6_until 7 = .ok (.invokevirtual 159, 3) := by decide +kernel
theorem dX6_until_10 : decode cX6_until 10 = .ok (.ifCond .eq 5, 3) := by decide +kernel
theorem dX6_until_13 : decode cX6_until 13 = .ok (.iconst (-1), 1) := by decide +kernel
theorem dX6_until_14 : decode cX6_until 14 = .ok (.ireturn, 1) := by decide +kernel
theorem dX6_until_15 : decode cX6_until 15 = .ok (.iload_n 2, 1) := by decide +kernel
theorem dX6_until_16 : decode cX6_until 16 = .ok (.i2l, 1) := by decide +kernel
theorem dX6_until_17 : decode cX6_until 17 = .ok (.lconst 1, 1) := by decide +kernel
theorem dX6_until_18 : decode cX6_until 18 = .ok (.ldc2_w 204, 3) := by decide +kernel
theorem dX6_until_21 : decode cX6_until 21 = .ok (.invokestatic 103, 3) := by decide +kernel
theorem dX6_until_24 : decode cX6_until 24 = .ok (.ifCond .ne 6, 3) := by decide +kernel
theorem dX6_until_27 : decode cX6_until 27 = .ok (.bipush (-2), 2) := by decide +kernel
theorem dX6_until_29 : decode cX6_until 29 = .ok (.ireturn, 1) := by decide +kernel
theorem dX6_until_30 : decode cX6_until 30 = .ok (.aload_n 0, 1) := by decide +kernel
theorem dX6_until_31 : decode cX6_until 31 = .ok (.invokevirtual 189, 3) := by decide +kernel
theorem dX6_until_34 : decode cX6_until 34 = .ok (.iload_n 1, 1) := by decide +kernel
theorem dX6_until_35 : decode cX6_until 35 = .ok (.if_icmp .ne 6, 3) := by decide +kernel
theorem dX6_until_38 : decode cX6_until 38 = .ok (.bipush (-9), 2) := by decide +kernel
theorem dX6_until_40 : decode cX6_until 40 = .ok (.ireturn, 1) := by decide +kernel
theorem dX6_until_41 : decode cX6_until 41 = .ok (.iload_n 2, 1) := by decide +kernel
theorem dX6_until_42 : decode cX6_until 42 = .ok (.aload_n 0, 1) := by decide +kernel
theorem dX6_until_43 : decode cX6_until 43 = .ok (.getfield 29, 3) := by decide +kernel
theorem dX6_until_46 : decode cX6_until 46 = .ok (.iload_n 1, 1) := by decide +kernel
theorem dX6_until_47 : decode cX6_until 47 = .ok (.iaload, 1) := by decide +kernel
theorem dX6_until_48 : decode cX6_until 48 = .ok (.isub, 1) := by decide +kernel
theorem dX6_until_49 : decode cX6_until 49 = .ok (.istore_n 3, 1) := by decide +kernel
theorem dX6_until_50 : decode cX6_until 50 = .ok (.iload_n 3, 1) := by decide +kernel
theorem dX6_until_51 : decode cX6_until 51 = .ok (.ifCond .gt 7, 3) := by decide +kernel
theorem dX6_until_54 : decode cX6_until 54 = .ok (.iconst 0, 1) := by decide +kernel
theorem dX6_until_55 : decode cX6_until 55 = .ok (.goto 23, 3) := by decide +kernel
theorem dX6_until_58 : decode cX6_until 58 = .ok (.bipush 60, 2) := by decide +kernel
theorem dX6_until_60 : decode cX6_until 60 = .ok (.iload_n 3, 1) := by decide +kernel
theorem dX6_until_61 : decode cX6_until 61 = .ok (.imul, 1) := by decide +kernel
theorem dX6_until_62 : decode cX6_until 62 = .ok (.aload_n 0, 1) := by decide +kernel
theorem dX6_until_63 : decode cX6_until 63 = .ok (.getfield 17, 3) := by decide +kernel
theorem dX6_until_66 : decode cX6_until 66 = .ok (.iload_n 1, 1) := by decide +kernel
theorem dX6_until_67 : decode cX6_until 67 = .ok (.iaload, 1) := by decide +kernel
theorem dX6_until_68 : decode cX6_until 68 = .ok (.iadd, 1) := by decide +kernel
theorem dX6_until_69 : decode cX6_until 69 = .ok (.iconst 1, 1) := by decide +kernel
theorem dX6_until_70 : decode cX6_until 70 = .ok (.isub, 1) := by decide +kernel
theorem dX6_until_71 : decode cX6_until 71 = .ok (.aload_n 0, 1) := by decide +kernel
theorem dX6_until_72 : decode cX6_until 72 = .ok (.getfield 17, 3) := by decide +kernel
theorem dX6_until_75 : decode cX6_until 75 = .ok (.iload_n 1, 1) := by decide +kernel
theorem dX6_until_76 : decode cX6_until 76 = .ok (.iaload, 1) := by decide +kernel
theorem dX6_until_77 : decode cX6_until 77 = .ok (.idiv, 1) := by decide +kernel
theorem dX6_until_78 : decode cX6_until 78 = .ok (.istore 4, 2) := by decide +kernel
theorem dX6_until_80 : decode cX6_until 80 = .ok (.aload_n 0, 1) := by decide +kernel
theorem dX6_until_81 : decode cX6_until 81 = .ok (.getfield 107, 3) := by decide +kernel
theorem dX6_until_84 : decode cX6_until 84 = .ok (.aload_n 0, 1) := by decide +kernel
theorem dX6_until_85 : decode cX6_until 85 = .ok (.getfield 26, 3) := by decide +kernel
theorem dX6_until_88 : decode cX6_until 88 = .ok (.iload_n 1, 1) := by decide +kernel
theorem dX6_until_89 : decode cX6_until 89 = .ok (.iaload, 1) := by decide +kernel
theorem dX6_until_90 : decode cX6_until 90 = .ok (.isub, 1) := by decide +kernel
theorem dX6_until_91 : decode cX6_until 91 = .ok (.istore 5, 2) := by decide +kernel
theorem dX6_until_93 : decode cX6_until 93 = .ok (.iload 4, 2) := by decide +kernel
theorem dX6_until_95 : decode cX6_until 95 = .ok (.iload 5, 2) := by decide +kernel
theorem dX6_until_97 : decode cX6_until 97 = .ok (.if_icmp .le 11, 3) := by decide +kernel
theorem dX6_until_100 : decode cX6_until 100 = .ok (.iload 4, 2) := by decide +kernel
theorem dX6_until_102 : decode cX6_until 102 = .ok (.iload 5, 2) := by decide +kernel
theorem dX6_until_104 : decode cX6_until 104 = .ok (.isub, 1) := by decide +kernel
theorem dX6_until_105 : decode cX6_until 105 = .ok (.goto 4, 3) := by decide +kernel
theorem dX6_until_108 : decode cX6_until 108 = .ok (.iconst 0, 1) := by decide +kernel
theorem dX6_until_109 : decode cX6_until 109 = .ok (.ireturn, 1) := by decide +kernel
