theorem dX7_init_0 : decode cX7_init 0 = .ok (.aload_n 0, 1) := by decide +kernel
theorem dX7_init_1 : decode cX7_init 1 = .ok (.invokespecial 1, 3) := by decide +kernel
theorem dX7_init_4 : decode cX7_init 4 = .ok (.aload_n 0, 1) := by decide +kernel
theorem dX7_init_5 : decode cX7_init 5 = .ok (.iconst 3, 1) := by decide +kernel
theorem dX7_init_6 : decode cX7_init 6 = .ok (.putfield 7, 3) := by decide +kernel
theorem dX7_init_9 : decode cX7_init 9 = .ok (.aload_n 0, 1) := by decide +kernel
theorem dX7_init_10 : decode cX7_init 10 = .ok (.sipush 2000, 3) := by decide +kernel
theorem dX7_init_13 : decode cX7_init 13 = .ok (.putfield 13, 3) := by decide +kernel
theorem dX7_init_16 : decode cX7_init 16 = .ok (.aload_n 0, 1) := by decide +kernel
theorem dX7_init_17 : decode cX7_init 17 = .ok (.bipush 100, 2) := by decide +kernel
theorem dX7_init_19 : decode cX7_init 19 = .ok (.newarray .int, 2) := by decide +kernel
theorem dX7_init_21 : decode cX7_init 21 = .ok (.putfield 16, 3) := by decide +kernel
theorem dX7_init_24 : decode cX7_init 24 = .ok (.aload_n 0, 1) := by decide +kernel
theorem dX7_init_25 : decode cX7_init 25 = .ok (.bipush 10, 2) := by decide +kernel
theorem dX7_init_27 : decode cX7_init 27 = .ok (.newarray .int, 2) := by decide +kernel
theorem dX7_init_29 : decode cX7_init 29 = .ok (.putfield 20, 3) := by decide +kernel
theorem dX7_init_32 : decode cX7_init 32 = .ok (.aload_n 0, 1) := by decide +kernel
theorem dX7_init_33 : decode cX7_init 33 = .ok (.bipush 10, 2) := by decide +kernel
theorem dX7_init_35 : decode cX7_init 35 = .ok (.newarray .int, 2) := by decide +kernel
theorem dX7_init_37 : decode cX7_init 37 = .ok (.putfield 23, 3) := by decide +kernel
theorem dX7_init_40 : decode cX7_init 40 = .ok (.aload_n 0, 1) := by decide +kernel
theorem dX7_init_41 : decode cX7_init 41 = .ok (.bipush 10, 2) := by decide +kernel
theorem dX7_init_43 : decode cX7_init 43 = .ok (.newarray .int, 2) := by decide +kernel
theorem dX7_init_45 : decode cX7_init 45 = .ok (.putfield 26, 3) := by decide +kernel
theorem dX7_init_48 : decode cX7_init 48 = .ok (.aload_n 0, 1) := by decide +kernel
theorem dX7_init_49 : decode cX7_init 49 = .ok (.sipush 1024, 3) := by decide +kernel
theorem dX7_init_52 : decode cX7_init 52 = .ok (.newarray .boolean, 2) := by decide +kernel
theorem dX7_init_54 : decode cX7_init 54 = .ok (.putfield 29, 3) := by decide +kernel
theorem dX7_init_57 : decode cX7_init 57 = .ok (.aload_n 0, 1) := by decide +kernel
theorem dX7_init_58 : decode cX7_init 58 = .ok (.bipush 10, 2) := by decide +kernel
theorem dX7_init_60 : decode cX7_init 60 = .ok (.newarray .boolean, 2) := by decide +kernel
theorem dX7_init_62 : decode cX7_init 62 = .ok (.putfield 33, 3) := by decide +kernel
theorem dX7_init_65 : decode cX7_init 65 = .ok (.aload_n 0, 1) := by decide +kernel
theorem dX7_init_66 : decode cX7_init 66 = .ok (.bipush 10, 2) := by decide +kernel
theorem dX7_init_68 : decode cX7_init 68 = .ok (.newarray .int, 2) := by decide +kernel
theorem dX7_init_70 : decode cX7_init 70 = .ok (.putfield 36, 3) := by decide +kernel
theorem dX7_init_73 : decode cX7_init 73 = .ok (.aload_n 0, 1) := by decide +kernel
theorem dX7_init_74 : decode cX7_init 74 = .ok (.bipush 10, 2) := by decide +kernel
theorem dX7_init_76 : decode cX7_init 76 = .ok (.newarray .int, 2) := by decide +kernel
theorem dX7_init_78 : decode cX7_init 78 = .ok (.putfield 39, 3) := by decide +kernel
theorem dX7_init_81 : decode cX7_init 81 = .ok (.aload_n 0, 1) := by decide +kernel
theorem dX7_init_82 : decode cX7_init 82 = .ok (.bipush 100, 2) := by decide +kernel
theorem dX7_init_84 : decode cX7_init 84 = .ok (.putfield 42, 3) := by decide +kernel
theorem dX7_init_87 : decode cX7_init 87 = .ok (.aload_n 0, 1) := by decide +kernel
theorem dX7_init_88 : decode cX7_init 88 = .ok (.bipush 10, 2) := by decide +kernel
theorem dX7_init_90 : decode cX7_init 90 = .ok (.putfield 45, 3) := by decide +kernel
theorem dX7_init_93 : decode cX7_init 93 = .ok (.aload_n 0, 1) := by decide +kernel
theorem dX7_init_94 : decode cX7_init 94 = .ok (.bipush 10, 2) := by decide +kernel
theorem dX7_init_96 : decode cX7_init 96 = .ok (.newarray .int, 2) := by decide +kernel
theorem dX7_init_98 : decode cX7_init 98 = .ok (.putfield 48, 3) := by decide +kernel
theorem dX7_init_101 : decode cX7_init 101 = .ok (.aload_n 0, 1) := by decide +kernel
theorem dX7_init_102 : decode cX7_init 102 = .ok (.bipush 10, 2) := by decide +kernel
theorem dX7_init_104 : decode cX7_init 104 = .ok (.newarray .int, 2) := by decide +kernel
theorem dX7_init_106 : decode cX7_init 106 = .ok (.putfield 51, 3) := by decide +kernel
theorem dX7_init_109 : decode cX7_init 109 = .ok (.aload_n 0, 1) := by decide +kernel
theorem dX7_init_110 : decode cX7_init 110 = .ok (.bipush 6, 2) := by decide +kernel
theorem dX7_init_112 : decode cX7_init 112 = .ok (.newarray .int, 2) := by decide +kernel
theorem dX7_init_114 : decode cX7_init 114 = .ok (.putfield 54, 3) := by decide +kernel
theorem dX7_init_117 : decode cX7_init 117 = .ok (.aload_n 0, 1) := by decide +kernel
theorem dX7_init_118 : decode cX7_init 118 = .ok (.bipush 24, 2) := by decide +kernel
theorem dX7_init_120 : decode cX7_init 120 = .ok (.newarray .int, 2) := by decide +kernel
theorem dX7_init_122 : decode cX7_init 122 = .ok (.putfield 57, 3) := by decide +kernel
theorem dX7_init_125 : decode cX7_init 125 = .ok (.aload_n 0, 1) := by decide +kernel
theorem dX7_init_126 : decode cX7_init 126 = .ok (.bipush 24, 2) := by decide +kernel
theorem dX7_init_128 : decode cX7_init 128 = .ok (.newarray .int, 2) := by decide +kernel
theorem dX7_init_130 : decode cX7_init 130 = .ok (.putfield 60, 3) := by decide +kernel
theorem dX7_init_133 : decode cX7_init 133 = .ok (.aload_n 0, 1) := by decide +kernel
theorem dX7_init_134 : decode cX7_init 134 = .ok (.bipush 24, 2) := by decide +kernel
theorem dX7_init_136 : decode cX7_init 136 = .ok (.newarray .int, 2) := by decide +kernel
theorem dX7_init_138 : decode cX7_init 138 = .ok (.putfield 63, 3) := by decide +kernel
theorem dX7_init_141 : decode cX7_init 141 = .ok (.aload_n 0, 1) := by decide +kernel
theorem dX7_init_142 : decode cX7_init 142 = .ok (.bipush 6, 2) := by decide +kernel
theorem dX7_init_144 : decode cX7_init 144 = .ok (.newarray .int, 2) := by decide +kernel
theorem dX7_init_146 : decode cX7_init 146 = .ok (.putfield 66, 3) := by decide +kernel
theorem dX7_init_149 : decode cX7_init 149 = .ok (.aload_n 0, 1) := by decide +kernel
theorem dX7_init_150 : decode cX7_init 150 = .ok (.bipush 6, 2) := by decide +kernel
theorem dX7_init_152 : decode cX7_init 152 = .ok (.newarray .int, 2) := by decide +kernel
theorem dX7_init_154 : decode cX7_init 154 = .ok (.putfield 69, 3) := by decide +kernel
theorem dX7_init_157 : decode cX7_init 157 = .ok (.aload_n 0, 1) := by decide +kernel
theorem dX7_init_158 : decode cX7_init 158 = .ok (.sipush 448, 3) := by decide +kernel
theorem dX7_init_161 : decode cX7_init 161 = .ok (.newarray .int, 2) := by decide +kernel
theorem dX7_init_163 : decode cX7_init 163 = .ok (.putfield 72, 3) := by decide +kernel
theorem dX7_init_166 : decode cX7_init 166 = .ok (.aload_n 0, 1) := by decide +kernel
theorem dX7_init_167 : decode cX7_init 167 = .ok (.bipush 10, 2) := by decide +kernel
theorem dX7_init_169 : decode cX7_init 169 = .ok (.newarray .int, 2) := by decide +kernel
theorem dX7_init_171 : decode cX7_init 171 = .ok (.putfield 75, 3) := by decide +kernel
theorem dX7_init_174 : decode cX7_init 174 = .ok (.aload_n 0, 1) := by decide +kernel
theorem dX7_init_175 : decode cX7_init 175 = .ok (.bipush 10, 2) := by decide +kernel
theorem dX7_init_177 : decode cX7_init 177 = .ok (.newarray .int, 2) := by decide +kernel
theorem dX7_init_179 : decode cX7_init 179 = .ok (.putfield 78, 3) := by decide +kernel
theorem dX7_init_182 : decode cX7_init 182 = .ok (.aload_n 0, 1) := by decide +kernel
theorem dX7_init_183 : decode cX7_init 183 = .ok (.sipush 1024, 3) := by decide +kernel
theorem dX7_init_186 : decode cX7_init 186 = .ok (.newarray .int, 2) := by decide +kernel
theorem dX7_init_188 : decode cX7_init 188 = .ok (.putfield 81, 3) := by decide +kernel
theorem dX7_init_191 : decode cX7_init 191 = .ok (.aload_n 0, 1) := by decide +kernel
theorem dX7_init_192 : decode cX7_init 192 = .ok (.bipush 16, 2) := by decide +kernel
theorem dX7_init_194 : decode cX7_init 194 = .ok (.newarray .int, 2) := by decide +kernel
theorem dX7_init_196 : decode cX7_init 196 = .ok (.putfield 84, 3) := by decide +kernel
theorem dX7_init_199 : decode cX7_init 199 = .ok (.iconst 0, 1) := by decide +kernel
theorem dX7_init_200 : decode cX7_init 200 = .ok (.istore_n 1, 1) := by decide +kernel
theorem dX7_init_201 : decode cX7_init 201 = .ok (.iload_n 1, 1) := by decide +kernel
theorem dX7_init_202 : decode cX7_init 202 = .ok (.bipush 10, 2) := by decide +kernel
theorem dX7_init_204 : decode cX7_init 204 = .ok (.if_icmp .ge 23, 3) := by decide +kernel
theorem dX7_init_207 : decode cX7_init 207 = .ok (.aload_n 0, 1) := by decide +kernel
theorem dX7_init_208 : decode cX7_init 208 = .ok (.getfield 75, 3) := by decide +kernel
theorem dX7_init_211 : decode cX7_init 211 = .ok (.iload_n 1, 1) := by decide +kernel
theorem dX7_init_212 : decode cX7_init 212 = .ok (.iconst (-1), 1) := by decide +kernel
theorem dX7_init_213 : decode cX7_init 213 = .ok (.iastore, 1) := by decide +kernel
theorem dX7_init_214 : decode cX7_init 214 = .ok (.aload_n 0, 1) := by decide +kernel
theorem dX7_init_215 : decode cX7_init 215 = .ok (.getfield 78, 3) := by decide +kernel
theorem dX7_init_218 : decode cX7_init 218 = .ok (.iload_n 1, 1) := by decide +kernel
theorem dX7_init_219 : decode cX7_init 219 = .ok (.iconst (-1), 1) := by decide +kernel
theorem dX7_init_220 : decode cX7_init 220 = .ok (.iastore, 1) := by decide +kernel
theorem dX7_init_221 : decode cX7_init 221 = .ok (.iinc 1 1, 3) := by decide +kernel
theorem dX7_init_224 : decode cX7_init 224 = .ok (.goto (-23), 3) := by decide +kernel
theorem dX7_init_227 : decode cX7_init 227 = .ok (.return_, 1) := by decide +kernel
theorem dX7_in_0 : decode cX7_in 0 = .ok (.lload_n 0, 1) := by decide +kernel
theorem dX7_in_1 : decode cX7_in 1 = .ok (.lload_n 2, 1) := by decide +kernel
theorem dX7_in_2 : decode cX7_in 2 = .ok (.lcmp, 1) := by decide +kernel
theorem dX7_in_3 : decode cX7_in 3 = .ok (.ifCond .lt 14, 3) := by decide +kernel
theorem dX7_in_6 : decode cX7_in 6 = .ok (.lload_n 0, 1) := by decide +kernel
theorem dX7_in_7 : decode cX7_in 7 = .ok (.lload 4, 2) := by decide +kernel
theorem dX7_in_9 : decode cX7_in 9 = .ok (.lcmp, 1) := by decide +kernel
theorem dX7_in_10 : decode cX7_in 10 = .ok (.ifCond .gt 7, 3) := by decide +kernel
theorem dX7_in_13 : decode cX7_in 13 = .ok (.iconst 1, 1) := by decide +kernel
theorem dX7_in_14 : decode cX7_in 14 = .ok (.goto 4, 3) := by decide +kernel
theorem dX7_in_17 : decode cX7_in 17 = .ok (.iconst 0, 1) := by decide +kernel
theorem dX7_in_18 : decode cX7_in 18 = .ok (.ireturn, 1) := by decide +kernel
theorem dX7_one_0 : decode cX7_one 0 = .ok (.iload_n 0, 1) := by decide +kernel
theorem dX7_one_1 : decode cX7_one 1 = .ok (.ifCond .eq 7, 3) := by decide +kernel
theorem dX7_one_4 : decode cX7_one 4 = .ok (.iconst 1, 1) := by decide +kernel
theorem dX7_one_5 : decode cX7_one 5 = .ok (.goto 4, 3) := by decide +kernel
theorem dX7_one_8 : decode cX7_one 8 = .ok (.iconst 0, 1) := by decide +kernel
theorem dX7_one_9 : decode cX7_one 9 = .ok (.ireturn, 1) := by decide +kernel
theorem dX7_noMast_0 : decode cX7_noMast 0 = .ok (.iload_n 1, 1) := by decide +kernel
theorem dX7_noMast_1 : decode cX7_noMast 1 = .ok (.i2l, 1) := by decide +kernel
theorem dX7_noMast_2 : decode cX7_noMast 2 = .ok (.lconst 0, 1) := by decide +kernel
theorem dX7_noMast_3 : decode cX7_noMast 3 = .ok (.aload_n 0, 1) := by decide +kernel
theorem dX7_noMast_4 : decode cX7_noMast 4 = .ok (.getfield 87, 3) := by decide +kernel
theorem dX7_noMast_7 : decode cX7_noMast 7 = .ok (.iconst 1, 1) := by decide +kernel
theorem dX7_noMast_8 : decode cX7_noMast 8 = .ok (.isub, 1) := by decide +kernel
theorem dX7_noMast_9 : decode cX7_noMast 9 = .ok (.i2l, 1) := by decide +kernel
theorem dX7_noMast_10 : decode cX7_noMast 10 = .ok (.invokestatic 90, 3) := by decide +kernel
theorem dX7_noMast_13 : decode cX7_noMast 13 = .ok (.ifCond .ne 7, 3) := by decide +kernel
theorem dX7_noMast_16 : decode cX7_noMast 16 = .ok (.iconst 1, 1) := by decide +kernel
theorem dX7_noMast_17 : decode cX7_noMast 17 = .ok (.goto 4, 3) := by decide +kernel
theorem dX7_noMast_20 : decode cX7_noMast 20 = .ok (.iconst 0, 1) := by decide +kernel
theorem dX7_noMast_21 : decode cX7_noMast 21 = .ok (.ireturn, 1) := by decide +kernel
theorem dX7_noSet_0 : decode cX7_noSet 0 = .ok (.iload_n 1, 1) := by decide +kernel
theorem dX7_noSet_1 : decode cX7_noSet 1 = .ok (.ifCond .lt 12, 3) := by decide +kernel
theorem dX7_noSet_4 : decode cX7_noSet 4 = .ok (.iload_n 1, 1) := by decide +kernel
theorem dX7_noSet_5 : decode cX7_noSet 5 = .ok (.aload_n 0, 1) := by decide +kernel
theorem dX7_noSet_6 : decode cX7_noSet 6 = .ok (.getfield 87, 3) := by decide +kernel
theorem dX7_noSet_9 : decode cX7_noSet 9 = .ok (.ishr, 1) := by decide +kernel
theorem dX7_noSet_10 : decode cX7_noSet 10 = .ok (.ifCond .eq 7, 3) := by decide +kernel
theorem dX7_noSet_13 : decode cX7_noSet 13 = .ok (.iconst 1, 1) := by decide +kernel
theorem dX7_noSet_14 : decode cX7_noSet 14 = .ok (.goto 4, 3) := by decide +kernel
theorem dX7_noSet_17 : decode cX7_noSet 17 = .ok (.iconst 0, 1) := by decide +kernel
theorem dX7_noSet_18 : decode cX7_noSet 18 = .ok (.ireturn, 1) := by decide +kernel
theorem dX7_mast_0 : decode cX7_mast 0 = .ok (.aload_n 0, 1) := by decide +kernel
theorem dX7_mast_1 : decode cX7_mast 1 = .ok (.getfield 87, 3) := by decide +kernel
theorem dX7_mast_4 : decode cX7_mast 4 = .ok (.bipush 10, 2) := by decide +kernel
theorem dX7_mast_6 : decode cX7_mast 6 = .ok (.if_icmp .ne 6, 3) := by decide +kernel
theorem dX7_mast_9 : decode cX7_mast 9 = .ok (.bipush (-4), 2) := by decide +kernel
theorem dX7_mast_11 : decode cX7_mast 11 = .ok (.ireturn, 1) := by decide +kernel
theorem dX7_mast_12 : decode cX7_mast 12 = .ok (.aload_n 0, 1) := by decide +kernel
theorem dX7_mast_13 : decode cX7_mast 13 = .ok (.dup, 1) := by decide +kernel
theorem dX7_mast_14 : decode cX7_mast 14 = .ok (.getfield 87, 3) := by decide +kernel
theorem dX7_mast_17 : decode cX7_mast 17 = .ok (.iconst 1, 1) := by decide +kernel
theorem dX7_mast_18 : decode cX7_mast 18 = .ok (.iadd, 1) := by decide +kernel
theorem dX7_mast_19 : decode cX7_mast 19 = .ok (.putfield 87, 3) := by decide +kernel
theorem dX7_mast_22 : decode cX7_mast 22 = .ok (.aload_n 0, 1) := by decide +kernel
theorem dX7_mast_23 : decode cX7_mast 23 = .ok (.getfield 87, 3) := by decide +kernel
theorem dX7_mast_26 : decode cX7_mast 26 = .ok (.iconst 1, 1) := by decide +kernel
theorem dX7_mast_27 : decode cX7_mast 27 = .ok (.isub, 1) := by decide +kernel
theorem dX7_mast_28 : decode cX7_mast 28 = .ok (.ireturn, 1) := by decide +kernel
theorem dX7_channels_0 : decode cX7_channels 0 = .ok (.iload_n 1, 1) := by decide +kernel
theorem dX7_channels_1 : decode cX7_channels 1 = .ok (.i2l, 1) := by decide +kernel
theorem dX7_channels_2 : decode cX7_channels 2 = .ok (.lconst 1, 1) := by decide +kernel
theorem dX7_channels_3 : decode cX7_channels 3 = .ok (.ldc2_w 94, 3) := by decide +kernel
theorem dX7_channels_6 : decode cX7_channels 6 = .ok (.invokestatic 90, 3) := by decide +kernel
theorem dX7_channels_9 : decode cX7_channels 9 = .ok (.ifCond .ne 6, 3) := by decide +kernel
theorem dX7_channels_12 : decode cX7_channels 12 = .ok (.bipush (-2), 2) := by decide +kernel
theorem dX7_channels_14 : decode cX7_channels 14 = .ok (.ireturn, 1) := by decide +kernel
theorem dX7_channels_15 : decode cX7_channels 15 = .ok (.aload_n 0, 1) := by decide +kernel
theorem dX7_channels_16 : decode cX7_channels 16 = .ok (.getfield 7, 3) := by decide +kernel
theorem dX7_channels_19 : decode cX7_channels 19 = .ok (.istore_n 2, 1) := by decide +kernel
theorem dX7_channels_20 : decode cX7_channels 20 = .ok (.aload_n 0, 1) := by decide +kernel
theorem dX7_channels_21 : decode cX7_channels 21 = .ok (.iload_n 1, 1) := by decide +kernel
theorem dX7_channels_22 : decode cX7_channels 22 = .ok (.putfield 7, 3) := by decide +kernel
theorem dX7_channels_25 : decode cX7_channels 25 = .ok (.iload_n 2, 1) := by decide +kernel
theorem dX7_channels_26 : decode cX7_channels 26 = .ok (.ireturn, 1) := by decide +kernel
theorem dX7_pair_0 : decode cX7_pair 0 = .ok (.aload_n 0, 1) := by decide +kernel
theorem dX7_pair_1 : decode cX7_pair 1 = .ok (.iload_n 1, 1) := by decide +kernel
theorem dX7_pair_2 : decode cX7_pair 2 = .ok (.invokevirtual 96, 3) := by decide +kernel
theorem dX7_pair_5 : decode cX7_pair 5 = .ok (.ifCond .ne 28, 3) := by decide +kernel
theorem dX7_pair_8 : decode cX7_pair 8 = .ok (.aload_n 0, 1) := by decide +kernel
theorem dX7_pair_9 : decode cX7_pair 9 = .ok (.iload_n 2, 1) := by decide +kernel
theorem dX7_pair_10 : decode cX7_pair 10 = .ok (.invokevirtual 96, 3) := by decide +kernel
theorem dX7_pair_13 : decode cX7_pair 13 = .ok (.ifCond .ne 20, 3) := by decide +kernel
theorem dX7_pair_16 : decode cX7_pair 16 = .ok (.iload_n 1, 1) := by decide +kernel
theorem dX7_pair_17 : decode cX7_pair 17 = .ok (.iload_n 2, 1) := by decide +kernel
theorem dX7_pair_18 : decode cX7_pair 18 = .ok (.if_icmp .eq 15, 3) := by decide +kernel
theorem dX7_pair_21 : decode cX7_pair 21 = .ok (.iload_n 3, 1) := by decide +kernel
theorem dX7_pair_22 : decode cX7_pair 22 = .ok (.i2l, 1) := by decide +kernel
theorem dX7_pair_23 : decode cX7_pair 23 = .ok (.lconst 0, 1) := by decide +kernel
theorem dX7_pair_24 : decode cX7_pair 24 = .ok (.ldc2_w 100, 3) := by decide +kernel
theorem dX7_pair_27 : decode cX7_pair 27 = .ok (.invokestatic 90, 3) := by decide +kernel
theorem dX7_pair_30 : decode cX7_pair 30 = .ok (.ifCond .ne 6, 3) := by decide +kernel
theorem dX7_pair_33 : decode cX7_pair 33 = .ok (.bipush (-2), 2) := by decide +kernel
theorem dX7_pair_35 : decode cX7_pair 35 = .ok (.ireturn, 1) := by decide +kernel
theorem dX7_pair_36 : decode cX7_pair 36 = .ok (.aload_n 0, 1) := by decide +kernel
theorem dX7_pair_37 : decode cX7_pair 37 = .ok (.getfield 16, 3) := by decide +kernel
theorem dX7_pair_40 : decode cX7_pair 40 = .ok (.bipush 10, 2) := by decide +kernel
theorem dX7_pair_42 : decode cX7_pair 42 = .ok (.iload_n 1, 1) := by decide +kernel
theorem dX7_pair_43 : decode cX7_pair 43 = .ok (.imul, 1) := by decide +kernel
theorem dX7_pair_44 : decode cX7_pair 44 = .ok (.iload_n 2, 1) := by decide +kernel
theorem dX7_pair_45 : decode cX7_pair 45 = .ok (.iadd, 1) := by decide +kernel
theorem dX7_pair_46 : decode cX7_pair 46 = .ok (.iaload, 1) := by decide +kernel
theorem dX7_pair_47 : decode cX7_pair 47 = .ok (.istore 4, 2) := by decide +kernel
theorem dX7_pair_49 : decode cX7_pair 49 = .ok (.aload_n 0, 1) := by decide +kernel
theorem dX7_pair_50 : decode cX7_pair 50 = .ok (.getfield 16, 3) := by decide +kernel
theorem dX7_pair_53 : decode cX7_pair 53 = .ok (.bipush 10, 2) := by decide +kernel
theorem dX7_pair_55 : decode cX7_pair 55 = .ok (.iload_n 1, 1) := by decide +kernel
theorem dX7_pair_56 : decode cX7_pair 56 = .ok (.imul, 1) := by decide +kernel
theorem dX7_pair_57 : decode cX7_pair 57 = .ok (.iload_n 2, 1) := by decide +kernel
theorem dX7_pair_58 : decode cX7_pair 58 = .ok (.iadd, 1) := by decide +kernel
theorem dX7_pair_59 : decode cX7_pair 59 = .ok (.iload_n 3, 1) := by decide +kernel
theorem dX7_pair_60 : decode cX7_pair 60 = .ok (.iastore, 1) := by decide +kernel
theorem dX7_pair_61 : decode cX7_pair 61 = .ok (.aload_n 0, 1) := by decide +kernel
theorem dX7_pair_62 : decode cX7_pair 62 = .ok (.getfield 16, 3) := by decide +kernel
theorem dX7_pair_65 : decode cX7_pair 65 = .ok (.bipush 10, 2) := by decide +kernel
theorem dX7_pair_67 : decode cX7_pair 67 = .ok (.iload_n 2, 1) := by decide +kernel
theorem dX7_pair_68 : decode cX7_pair 68 = .ok (.imul, 1) := by decide +kernel
theorem dX7_pair_69 : decode cX7_pair 69 = .ok (.iload_n 1, 1) := by decide +kernel
theorem dX7_pair_70 : decode cX7_pair 70 = .ok (.iadd, 1) := by decide +kernel
theorem dX7_pair_71 : decode cX7_pair 71 = .ok (.iload_n 3, 1) := by decide +kernel
theorem dX7_pair_72 : decode cX7_pair 72 = .ok (.iastore, 1) := by decide +kernel
theorem dX7_pair_73 : decode cX7_pair 73 = .ok (.iload 4, 2) := by decide +kernel
theorem dX7_pair_75 : decode cX7_pair 75 = .ok (.ireturn, 1) := by decide +kernel
theorem dX7_bar_0 : decode cX7_bar 0 = .ok (.aload_n 0, 1) := by decide +kernel
theorem dX7_bar_1 : decode cX7_bar 1 = .ok (.iload_n 1, 1) := by decide +kernel
theorem dX7_bar_2 : decode cX7_bar 2 = .ok (.invokevirtual 96, 3) := by decide +kernel
theorem dX7_bar_5 : decode cX7_bar 5 = .ok (.ifCond .ne 15, 3) := by decide +kernel
theorem dX7_bar_8 : decode cX7_bar 8 = .ok (.iload_n 2, 1) := by decide +kernel
theorem dX7_bar_9 : decode cX7_bar 9 = .ok (.i2l, 1) := by decide +kernel
theorem dX7_bar_10 : decode cX7_bar 10 = .ok (.lconst 0, 1) := by decide +kernel
theorem dX7_bar_11 : decode cX7_bar 11 = .ok (.ldc2_w 102, 3) := by decide +kernel
theorem dX7_bar_14 : decode cX7_bar 14 = .ok (.invokestatic 90, 3) := by decide +kernel
theorem dX7_bar_17 : decode cX7_bar 17 = .ok (.ifCond .ne 6, 3) := by decide +kernel
theorem dX7_bar_20 : decode cX7_bar 20 = .ok (.bipush (-2), 2) := by decide +kernel
theorem dX7_bar_22 : decode cX7_bar 22 = .ok (.ireturn, 1) := by decide +kernel
theorem dX7_bar_23 : decode cX7_bar 23 = .ok (.aload_n 0, 1) := by decide +kernel
theorem dX7_bar_24 : decode cX7_bar 24 = .ok (.getfield 20, 3) := by decide +kernel
theorem dX7_bar_27 : decode cX7_bar 27 = .ok (.iload_n 1, 1) := by decide +kernel
theorem dX7_bar_28 : decode cX7_bar 28 = .ok (.iaload, 1) := by decide +kernel
theorem dX7_bar_29 : decode cX7_bar 29 = .ok (.istore_n 3, 1) := by decide +kernel
theorem dX7_bar_30 : decode cX7_bar 30 = .ok (.aload_n 0, 1) := by decide +kernel
theorem dX7_bar_31 : decode cX7_bar 31 = .ok (.getfield 20, 3) := by decide +kernel
theorem dX7_bar_34 : decode cX7_bar 34 = .ok (.iload_n 1, 1) := by decide +kernel
theorem dX7_bar_35 : decode cX7_bar 35 = .ok (.iload_n 2, 1) := by decide +kernel
theorem dX7_bar_36 : decode cX7_bar 36 = .ok (.iastore, 1) := by decide +kernel
theorem dX7_bar_37 : decode cX7_bar 37 = .ok (.iload_n 3, 1) := by decide +kernel
theorem dX7_bar_38 : decode cX7_bar 38 = .ok (.ireturn, 1) := by decide +kernel
theorem dX7_limit_0 : decode cX7_limit 0 = .ok (.iload_n 1, 1) := by decide +kernel
theorem dX7_limit_1 : decode cX7_limit 1 = .ok (.i2l, 1) := by decide +kernel
theorem dX7_limit_2 : decode cX7_limit 2 = .ok (.lconst 1, 1) := by decide +kernel
theorem dX7_limit_3 : decode cX7_limit 3 = .ok (.ldc2_w 104, 3) := by decide +kernel
theorem dX7_limit_6 : decode cX7_limit 6 = .ok (.invokestatic 90, 3) := by decide +kernel
theorem dX7_limit_9 : decode cX7_limit 9 = .ok (.ifCond .ne 6, 3) := by decide +kernel
theorem dX7_limit_12 : decode cX7_limit 12 = .ok (.bipush (-2), 2) := by decide +kernel
theorem dX7_limit_14 : decode cX7_limit 14 = .ok (.ireturn, 1) := by decide +kernel
theorem dX7_limit_15 : decode cX7_limit 15 = .ok (.aload_n 0, 1) := by decide +kernel
theorem dX7_limit_16 : decode cX7_limit 16 = .ok (.getfield 13, 3) := by decide +kernel
theorem dX7_limit_19 : decode cX7_limit 19 = .ok (.istore_n 2, 1) := by decide +kernel
theorem dX7_limit_20 : decode cX7_limit 20 = .ok (.aload_n 0, 1) := by decide +kernel
theorem dX7_limit_21 : decode cX7_limit 21 = .ok (.iload_n 1, 1) := by decide +kernel
theorem dX7_limit_22 : decode cX7_limit 22 = .ok (.putfield 13, 3) := by decide +kernel
theorem dX7_limit_25 : decode cX7_limit 25 = .ok (.iload_n 2, 1) := by decide +kernel
theorem dX7_limit_26 : decode cX7_limit 26 = .ok (.ireturn, 1) := by decide +kernel
theorem dX7_breaks_0 : decode cX7_breaks 0 = .ok (.iload_n 3, 1) := by decide +kernel
theorem dX7_breaks_1 : decode cX7_breaks 1 = .ok (.iload 4, 2) := by decide +kernel
theorem dX7_breaks_3 : decode cX7_breaks 3 = .ok (.if_icmp .le 10, 3) := by decide +kernel
theorem dX7_breaks_6 : decode cX7_breaks 6 = .ok (.iload_n 3, 1) := by decide +kernel
theorem dX7_breaks_7 : decode cX7_breaks 7 = .ok (.iload 4, 2) := by decide +kernel
theorem dX7_breaks_9 : decode cX7_breaks 9 = .ok (.isub, 1) := by decide +kernel
theorem dX7_breaks_10 : decode cX7_breaks 10 = .ok (.goto 7, 3) := by decide +kernel
theorem dX7_breaks_13 : decode cX7_breaks 13 = .ok (.iload 4, 2) := by decide +kernel
theorem dX7_breaks_15 : decode cX7_breaks 15 = .ok (.iload_n 3, 1) := by decide +kernel
theorem dX7_breaks_16 : decode cX7_breaks 16 = .ok (.isub, 1) := by decide +kernel
theorem dX7_breaks_17 : decode cX7_breaks 17 = .ok (.istore 5, 2) := by decide +kernel
theorem dX7_breaks_19 : decode cX7_breaks 19 = .ok (.iload 5, 2) := by decide +kernel
theorem dX7_breaks_21 : decode cX7_breaks 21 = .ok (.aload_n 0, 1) := by decide +kernel
theorem dX7_breaks_22 : decode cX7_breaks 22 = .ok (.getfield 16, 3) := by decide +kernel
theorem dX7_breaks_25 : decode cX7_breaks 25 = .ok (.bipush 10, 2) := by decide +kernel
theorem dX7_breaks_27 : decode cX7_breaks 27 = .ok (.iload_n 1, 1) := by decide +kernel
theorem dX7_breaks_28 : decode cX7_breaks 28 = .ok (.imul, 1) := by decide +kernel
theorem dX7_breaks_29 : decode cX7_breaks 29 = .ok (.iload_n 2, 1) := by decide +kernel
theorem dX7_breaks_30 : decode cX7_breaks 30 = .ok (.iadd, 1) := by decide +kernel
theorem dX7_breaks_31 : decode cX7_breaks 31 = .ok (.iaload, 1) := by decide +kernel
theorem dX7_breaks_32 : decode cX7_breaks 32 = .ok (.if_icmp .ge 7, 3) := by decide +kernel
theorem dX7_breaks_35 : decode cX7_breaks 35 = .ok (.iconst 1, 1) := by decide +kernel
theorem dX7_breaks_36 : decode cX7_breaks 36 = .ok (.goto 4, 3) := by decide +kernel
theorem dX7_breaks_39 : decode cX7_breaks 39 = .ok (.iconst 0, 1) := by decide +kernel
theorem dX7_breaks_40 : decode cX7_breaks 40 = .ok (.ireturn, 1) := by decide +kernel
theorem dX7_layRow_0 : decode cX7_layRow 0 = .ok (.aload_n 0, 1) := by decide +kernel
theorem dX7_layRow_1 : decode cX7_layRow 1 = .ok (.iconst 0, 1) := by decide +kernel
theorem dX7_layRow_2 : decode cX7_layRow 2 = .ok (.putfield 106, 3) := by decide +kernel
theorem dX7_layRow_5 : decode cX7_layRow 5 = .ok (.iconst 0, 1) := by decide +kernel
theorem dX7_layRow_6 : decode cX7_layRow 6 = .ok (.istore_n 2, 1) := by decide +kernel
theorem dX7_layRow_7 : decode cX7_layRow 7 = .ok (.iload_n 2, 1) := by decide +kernel
theorem dX7_layRow_8 : decode cX7_layRow 8 = .ok (.aload_n 0, 1) := by decide +kernel
theorem dX7_layRow_9 : decode cX7_layRow 9 = .ok (.getfield 87, 3) := by decide +kernel
theorem dX7_layRow_12 : decode cX7_layRow 12 = .ok (.if_icmp .ge 38, 3) := by decide +kernel
theorem dX7_layRow_15 : decode cX7_layRow 15 = .ok (.iload_n 1, 1) := by decide +kernel
theorem dX7_layRow_16 : decode cX7_layRow 16 = .ok (.iload_n 2, 1) := by decide +kernel
theorem dX7_layRow_17 : decode cX7_layRow 17 = .ok (.ishr, 1) := by decide +kernel
theorem dX7_layRow_18 : decode cX7_layRow 18 = .ok (.iconst 1, 1) := by decide +kernel
theorem dX7_layRow_19 : decode cX7_layRow 19 = .ok (.iand, 1) := by decide +kernel
theorem dX7_layRow_20 : decode cX7_layRow 20 = .ok (.iconst 1, 1) := by decide +kernel
theorem dX7_layRow_21 : decode cX7_layRow 21 = .ok (.if_icmp .ne 23, 3) := by decide +kernel
theorem dX7_layRow_24 : decode cX7_layRow 24 = .ok (.aload_n 0, 1) := by decide +kernel
theorem dX7_layRow_25 : decode cX7_layRow 25 = .ok (.getfield 23, 3) := by decide +kernel
theorem dX7_layRow_28 : decode cX7_layRow 28 = .ok (.aload_n 0, 1) := by decide +kernel
theorem dX7_layRow_29 : decode cX7_layRow 29 = .ok (.getfield 106, 3) := by decide +kernel
theorem dX7_layRow_32 : decode cX7_layRow 32 = .ok (.iload_n 2, 1) := by decide +kernel
theorem dX7_layRow_33 : decode cX7_layRow 33 = .ok (.iastore, 1) := by decide +kernel
theorem dX7_layRow_34 : decode cX7_layRow 34 = .ok (.aload_n 0, 1) := by decide +kernel
theorem dX7_layRow_35 : decode cX7_layRow 35 = .ok (.dup, 1) := by decide +kernel
theorem dX7_layRow_36 : decode cX7_layRow 36 = .ok (.getfield 106, 3) := by decide +kernel
theorem dX7_layRow_39 : decode cX7_layRow 39 = .ok (.iconst 1, 1) := by decide +kernel
theorem dX7_layRow_40 : decode cX7_layRow 40 = .ok (.iadd, 1) := by decide +kernel
theorem dX7_layRow_41 : decode cX7_layRow 41 = .ok (.putfield 106, 3) := by decide +kernel
theorem dX7_layRow_44 : decode cX7_layRow 44 = .ok (.iinc 2 1, 3) := by decide +kernel
theorem dX7_layRow_47 : decode cX7_layRow 47 = .ok (.goto (-40), 3) := by decide +kernel
theorem dX7_layRow_50 : decode cX7_layRow 50 = .ok (.return_, 1) := by decide +kernel
theorem dX7_mayHave_0 : decode cX7_mayHave 0 = .ok (.aload_n 0, 1) := by decide +kernel
theorem dX7_mayHave_1 : decode cX7_mayHave 1 = .ok (.getfield 20, 3) := by decide +kernel
theorem dX7_mayHave_4 : decode cX7_mayHave 4 = .ok (.aload_n 0, 1) := by decide +kernel
theorem dX7_mayHave_5 : decode cX7_mayHave 5 = .ok (.getfield 23, 3) := by decide +kernel
theorem dX7_mayHave_8 : decode cX7_mayHave 8 = .ok (.iload_n 1, 1) := by decide +kernel
theorem dX7_mayHave_9 : decode cX7_mayHave 9 = .ok (.iaload, 1) := by decide +kernel
theorem dX7_mayHave_10 : decode cX7_mayHave 10 = .ok (.iaload, 1) := by decide +kernel
theorem dX7_mayHave_11 : decode cX7_mayHave 11 = .ok (.iload_n 2, 1) := by decide +kernel
theorem dX7_mayHave_12 : decode cX7_mayHave 12 = .ok (.ishr, 1) := by decide +kernel
theorem dX7_mayHave_13 : decode cX7_mayHave 13 = .ok (.iconst 1, 1) := by decide +kernel
theorem dX7_mayHave_14 : decode cX7_mayHave 14 = .ok (.iand, 1) := by decide +kernel
theorem dX7_mayHave_15 : decode cX7_mayHave 15 = .ok (.ifCond .ne 7, 3) := by decide +kernel
theorem dX7_mayHave_18 : decode cX7_mayHave 18 = .ok (.iconst 1, 1) := by decide +kernel
theorem dX7_mayHave_19 : decode cX7_mayHave 19 = .ok (.goto 4, 3) := by decide +kernel
theorem dX7_mayHave_22 : decode cX7_mayHave 22 = .ok (.iconst 0, 1) := by decide +kernel
theorem dX7_mayHave_23 : decode cX7_mayHave 23 = .ok (.istore_n 3, 1) := by decide +kernel
theorem dX7_mayHave_24 : decode cX7_mayHave 24 = .ok (.iconst 0, 1) := by decide +kernel
theorem dX7_mayHave_25 : decode cX7_mayHave 25 = .ok (.istore 4, 2) := by decide +kernel
theorem dX7_mayHave_27 : decode cX7_mayHave 27 = .ok (.iload 4, 2) := by decide +kernel
theorem dX7_mayHave_29 : decode cX7_mayHave 29 = .ok (.iload_n 1, 1) := by decide +kernel
theorem dX7_mayHave_30 : decode cX7_mayHave 30 = .ok (.if_icmp .ge 47, 3) := by decide +kernel
theorem dX7_mayHave_33 : decode cX7_mayHave 33 = .ok (.iload_n 3, 1) := by decide +kernel
theorem dX7_mayHave_34 : decode cX7_mayHave 34 = .ok (.ifCond .eq 43, 3) := by decide +kernel
theorem dX7_mayHave_37 : decode cX7_mayHave 37 = .ok (.aload_n 0, 1) := by decide +kernel
theorem dX7_mayHave_38 : decode cX7_mayHave 38 = .ok (.aload_n 0, 1) := by decide +kernel
theorem dX7_mayHave_39 : decode cX7_mayHave 39 = .ok (.getfield 23, 3) := by decide +kernel
theorem dX7_mayHave_42 : decode cX7_mayHave 42 = .ok (.iload_n 1, 1) := by decide +kernel
theorem dX7_mayHave_43 : decode cX7_mayHave 43 = .ok (.iaload, 1) := by decide +kernel
theorem dX7_mayHave_44 : decode cX7_mayHave 44 = .ok (.aload_n 0, 1) := by decide +kernel
theorem dX7_mayHave_45 : decode cX7_mayHave 45 = .ok (.getfield 23, 3) := by decide +kernel
theorem dX7_mayHave_48 : decode cX7_mayHave 48 = .ok (.iload 4, 2) := by decide +kernel
theorem dX7_mayHave_50 : decode cX7_mayHave 50 = .ok (.iaload, 1) := by decide +kernel
theorem dX7_mayHave_51 : decode cX7_mayHave 51 = .ok (.iload_n 2, 1) := by decide +kernel
theorem dX7_mayHave_52 : decode cX7_mayHave 52 = .ok (.aload_n 0, 1) := by decide +kernel
theorem dX7_mayHave_53 : decode cX7_mayHave 53 = .ok (.getfield 26, 3) := by decide +kernel
theorem dX7_mayHave_56 : decode cX7_mayHave 56 = .ok (.iload 4, 2) := by decide +kernel
theorem dX7_mayHave_58 : decode cX7_mayHave 58 = .ok (.iaload, 1) := by decide +kernel
theorem dX7_mayHave_59 : decode cX7_mayHave 59 = .ok (.invokevirtual 109, 3) := by decide +kernel
theorem dX7_mayHave_62 : decode cX7_mayHave 62 = .ok (.ifCond .ne 7, 3) := by decide +kernel
theorem dX7_mayHave_65 : decode cX7_mayHave 65 = .ok (.iconst 1, 1) := by decide +kernel
theorem dX7_mayHave_66 : decode cX7_mayHave 66 = .ok (.goto 4, 3) := by decide +kernel
theorem dX7_mayHave_69 : decode cX7_mayHave 69 = .ok (.iconst 0, 1) := by decide +kernel
theorem dX7_mayHave_70 : decode cX7_mayHave 70 = .ok (.istore_n 3, 1) := by decide +kernel
theorem dX7_mayHave_71 : decode cX7_mayHave 71 = .ok (.iinc 4 1, 3) := by decide +kernel
theorem dX7_mayHave_74 : decode cX7_mayHave 74 = .ok (.goto (-47), 3) := by decide +kernel
theorem dX7_mayHave_77 : decode cX7_mayHave 77 = .ok (.iload_n 3, 1) := by decide +kernel
theorem dX7_mayHave_78 : decode cX7_mayHave 78 = .ok (.ireturn, 1) := by decide +kernel
theorem dX7_search_0 : decode cX7_search 0 = .ok (.aload_n 0, 1) := by decide +kernel
theorem dX7_search_1 : decode cX7_search 1 = .ok (.iload_n 1, 1) := by decide +kernel
theorem dX7_search_2 : decode cX7_search 2 = .ok (.invokevirtual 113, 3) := by decide +kernel
theorem dX7_search_5 : decode cX7_search 5 = .ok (.aload_n 0, 1) := by decide +kernel
theorem dX7_search_6 : decode cX7_search 6 = .ok (.iconst 0, 1) := by decide +kernel
theorem dX7_search_7 : decode cX7_search 7 = .ok (.putfield 117, 3) := by decide +kernel
theorem dX7_search_10 : decode cX7_search 10 = .ok (.iconst 0, 1) := by decide +kernel
theorem dX7_search_11 : decode cX7_search 11 = .ok (.istore_n 2, 1) := by decide +kernel
theorem dX7_search_12 : decode cX7_search 12 = .ok (.aload_n 0, 1) := by decide +kernel
theorem dX7_search_13 : decode cX7_search 13 = .ok (.getfield 106, 3) := by decide +kernel
theorem dX7_search_16 : decode cX7_search 16 = .ok (.ifCond .le 10, 3) := by decide +kernel
theorem dX7_search_19 : decode cX7_search 19 = .ok (.aload_n 0, 1) := by decide +kernel
theorem dX7_search_20 : decode cX7_search 20 = .ok (.getfield 26, 3) := by decide +kernel
theorem dX7_search_23 : decode cX7_search 23 = .ok (.iconst 0, 1) := by decide +kernel
theorem dX7_search_24 : decode cX7_search 24 = .ok (.iconst (-1), 1) := by decide +kernel
theorem dX7_search_25 : decode cX7_search 25 = .ok (.iastore, 1) := by decide +kernel
theorem dX7_search_26 : decode cX7_search 26 = .ok (.iload_n 2, 1) := by decide +kernel
theorem dX7_search_27 : decode cX7_search 27 = .ok (.ifCond .lt 99, 3) := by decide +kernel
theorem dX7_search_30 : decode cX7_search 30 = .ok (.iload_n 2, 1) := by decide +kernel
theorem dX7_search_31 : decode cX7_search 31 = .ok (.aload_n 0, 1) := by decide +kernel
theorem dX7_search_32 : decode cX7_search 32 = .ok (.getfield 106, 3) := by decide +kernel
theorem dX7_search_35 : decode cX7_search 35 = .ok (.if_icmp .ge 91, 3) := by decide +kernel
theorem dX7_search_38 : decode cX7_search 38 = .ok (.aload_n 0, 1) := by decide +kernel
theorem dX7_search_39 : decode cX7_search 39 = .ok (.getfield 26, 3) := by decide +kernel
theorem dX7_search_42 : decode cX7_search 42 = .ok (.iload_n 2, 1) := by decide +kernel
theorem dX7_search_43 : decode cX7_search 43 = .ok (.dup2, 1) := by decide +kernel
theorem dX7_search_44 : decode cX7_search 44 = .ok (.iaload, 1) := by decide +kernel
theorem dX7_search_45 : decode cX7_search 45 = .ok (.iconst 1, 1) := by decide +kernel
theorem dX7_search_46 : decode cX7_search 46 = .ok (.iadd, 1) := by decide +kernel
theorem dX7_search_47 : decode cX7_search 47 = .ok (.iastore, 1) := by decide +kernel
theorem dX7_search_48 : decode cX7_search 48 = .ok (.aload_n 0, 1) := by decide +kernel
theorem dX7_search_49 : decode cX7_search 49 = .ok (.getfield 26, 3) := by decide +kernel
theorem dX7_search_52 : decode cX7_search 52 = .ok (.iload_n 2, 1) := by decide +kernel
theorem dX7_search_53 : decode cX7_search 53 = .ok (.iaload, 1) := by decide +kernel
theorem dX7_search_54 : decode cX7_search 54 = .ok (.aload_n 0, 1) := by decide +kernel
theorem dX7_search_55 : decode cX7_search 55 = .ok (.getfield 7, 3) := by decide +kernel
theorem dX7_search_58 : decode cX7_search 58 = .ok (.if_icmp .ne 9, 3) := by decide +kernel
theorem dX7_search_61 : decode cX7_search 61 = .ok (.iinc 2 (-1), 3) := by decide +kernel
theorem dX7_search_64 : decode cX7_search 64 = .ok (.goto (-38), 3) := by decide +kernel
theorem dX7_search_67 : decode cX7_search 67 = .ok (.aload_n 0, 1) := by decide +kernel
theorem dX7_search_68 : decode cX7_search 68 = .ok (.getfield 117, 3) := by decide +kernel
theorem dX7_search_71 : decode cX7_search 71 = .ok (.aload_n 0, 1) := by decide +kernel
theorem dX7_search_72 : decode cX7_search 72 = .ok (.getfield 13, 3) := by decide +kernel
theorem dX7_search_75 : decode cX7_search 75 = .ok (.if_icmp .ne 6, 3) := by decide +kernel
theorem dX7_search_78 : decode cX7_search 78 = .ok (.bipush (-5), 2) := by decide +kernel
theorem dX7_search_80 : decode cX7_search 80 = .ok (.ireturn, 1) := by decide +kernel
theorem dX7_search_81 : decode cX7_search 81 = .ok (.aload_n 0, 1) := by decide +kernel
theorem dX7_search_82 : decode cX7_search 82 = .ok (.dup, 1) := by decide +kernel
theorem dX7_search_83 : decode cX7_search 83 = .ok (.getfield 117, 3) := by decide +kernel
theorem dX7_search_86 : decode cX7_search 86 = .ok (.iconst 1, 1) := by decide +kernel
theorem dX7_search_87 : decode cX7_search 87 = .ok (.iadd, 1) := by decide +kernel
theorem dX7_search_88 : decode cX7_search 88 = .ok (.putfield 117, 3) := by decide +kernel
theorem dX7_search_91 : decode cX7_search 91 = .ok (.aload_n 0, 1) := by decide +kernel
theorem dX7_search_92 : decode cX7_search 92 = .ok (.iload_n 2, 1) := by decide +kernel
theorem dX7_search_93 : decode cX7_search 93 = .ok (.aload_n 0, 1) := by decide +kernel
theorem dX7_search_94 : decode cX7_search 94 = .ok (.getfield 26, 3) := by decide +kernel
theorem dX7_search_97 : decode cX7_search 97 = .ok (.iload_n 2, 1) := by decide +kernel
theorem dX7_search_98 : decode cX7_search 98 = .ok (.iaload, 1) := by decide +kernel
theorem dX7_search_99 : decode cX7_search 99 = .ok (.invokevirtual 120, 3) := by decide +kernel
theorem dX7_search_102 : decode cX7_search 102 = .ok (.ifCond .eq (-76), 3) := by decide +kernel
theorem dX7_search_105 : decode cX7_search 105 = .ok (.iinc 2 1, 3) := by decide +kernel
theorem dX7_search_108 : decode cX7_search 108 = .ok (.iload_n 2, 1) := by decide +kernel
theorem dX7_search_109 : decode cX7_search 109 = .ok (.aload_n 0, 1) := by decide +kernel
theorem dX7_search_110 : decode cX7_search 110 = .ok (.getfield 106, 3) := by decide +kernel
theorem dX7_search_113 : decode cX7_search 113 = .ok (.if_icmp .ge (-87), 3) := by decide +kernel
theorem dX7_search_116 : decode cX7_search 116 = .ok (.aload_n 0, 1) := by decide +kernel
theorem dX7_search_117 : decode cX7_search 117 = .ok (.getfield 26, 3) := by decide +kernel
theorem dX7_search_120 : decode cX7_search 120 = .ok (.iload_n 2, 1) := by decide +kernel
theorem dX7_search_121 : decode cX7_search 121 = .ok (.iconst (-1), 1) := by decide +kernel
theorem dX7_search_122 : decode cX7_search 122 = .ok (.iastore, 1) := by decide +kernel
theorem dX7_search_123 : decode cX7_search 123 = .ok (.goto (-97), 3) := by decide +kernel
theorem dX7_search_126 : decode cX7_search 126 = .ok (.iload_n 2, 1) := by decide +kernel
theorem dX7_search_127 : decode cX7_search 127 = .ok (.aload_n 0, 1) := by decide +kernel
theorem dX7_search_128 : decode cX7_search 128 = .ok (.getfield 106, 3) := by decide +kernel
theorem dX7_search_131 : decode cX7_search 131 = .ok (.if_icmp .ne 7, 3) := by decide +kernel
theorem dX7_search_134 : decode cX7_search 134 = .ok (.iconst 1, 1) := by decide +kernel
theorem dX7_search_135 : decode cX7_search 135 = .ok (.goto 4, 3) := by decide +kernel
theorem dX7_search_138 : decode cX7_search 138 = .ok (.iconst 0, 1) := by decide +kernel
theorem dX7_search_139 : decode cX7_search 139 = .ok (.invokestatic 124, 3) := by decide +kernel
theorem dX7_search_142 : decode cX7_search 142 = .ok (.ireturn, 1) := by decide +kernel
theorem dX7_looksGood_0 : decode cX7_looksGood 0 = .ok (.iload_n 1, 1) := by decide +kernel
theorem dX7_looksGood_1 : decode cX7_looksGood 1 = .ok (.iconst 1, 1) := by decide +kernel
theorem dX7_looksGood_2 : decode cX7_looksGood 2 = .ok (.iadd, 1) := by decide +kernel
theorem dX7_looksGood_3 : decode cX7_looksGood 3 = .ok (.istore_n 2, 1) := by decide +kernel
theorem dX7_looksGood_4 : decode cX7_looksGood 4 = .ok (.iload_n 2, 1) := by decide +kernel
theorem dX7_looksGood_5 : decode cX7_looksGood 5 = .ok (.aload_n 0, 1) := by decide +kernel
theorem dX7_looksGood_6 : decode cX7_looksGood 6 = .ok (.getfield 106, 3) := by decide +kernel
theorem dX7_looksGood_9 : decode cX7_looksGood 9 = .ok (.if_icmp .ge 124, 3) := by decide +kernel
theorem dX7_looksGood_12 : decode cX7_looksGood 12 = .ok (.iconst 0, 1) := by decide +kernel
theorem dX7_looksGood_13 : decode cX7_looksGood 13 = .ok (.istore_n 3, 1) := by decide +kernel
theorem dX7_looksGood_14 : decode cX7_looksGood 14 = .ok (.iconst 0, 1) := by decide +kernel
theorem dX7_looksGood_15 : decode cX7_looksGood 15 = .ok (.istore 4, 2) := by decide +kernel
theorem dX7_looksGood_17 : decode cX7_looksGood 17 = .ok (.iload 4, 2) := by decide +kernel
theorem dX7_looksGood_19 : decode cX7_looksGood 19 = .ok (.aload_n 0, 1) := by decide +kernel
theorem dX7_looksGood_20 : decode cX7_looksGood 20 = .ok (.getfield 7, 3) := by decide +kernel
theorem dX7_looksGood_23 : decode cX7_looksGood 23 = .ok (.if_icmp .ge 98, 3) := by decide +kernel
theorem dX7_looksGood_26 : decode cX7_looksGood 26 = .ok (.iload_n 3, 1) := by decide +kernel
theorem dX7_looksGood_27 : decode cX7_looksGood 27 = .ok (.ifCond .ne 94, 3) := by decide +kernel
theorem dX7_looksGood_30 : decode cX7_looksGood 30 = .ok (.aload_n 0, 1) := by decide +kernel
theorem dX7_looksGood_31 : decode cX7_looksGood 31 = .ok (.getfield 20, 3) := by decide +kernel
theorem dX7_looksGood_34 : decode cX7_looksGood 34 = .ok (.aload_n 0, 1) := by decide +kernel
theorem dX7_looksGood_35 : decode cX7_looksGood 35 = .ok (.getfield 23, 3) := by decide +kernel
theorem dX7_looksGood_38 : decode cX7_looksGood 38 = .ok (.iload_n 2, 1) := by decide +kernel
theorem dX7_looksGood_39 : decode cX7_looksGood 39 = .ok (.iaload, 1) := by decide +kernel
theorem dX7_looksGood_40 : decode cX7_looksGood 40 = .ok (.iaload, 1) := by decide +kernel
theorem dX7_looksGood_41 : decode cX7_looksGood 41 = .ok (.iload 4, 2) := by decide +kernel
theorem dX7_looksGood_43 : decode cX7_looksGood 43 = .ok (.ishr, 1) := by decide +kernel
theorem dX7_looksGood_44 : decode cX7_looksGood 44 = .ok (.iconst 1, 1) := by decide +kernel
theorem dX7_looksGood_45 : decode cX7_looksGood 45 = .ok (.iand, 1) := by decide +kernel
theorem dX7_looksGood_46 : decode cX7_looksGood 46 = .ok (.ifCond .ne 7, 3) := by decide +kernel
theorem dX7_looksGood_49 : decode cX7_looksGood 49 = .ok (.iconst 1, 1) := by decide +kernel
theorem dX7_looksGood_50 : decode cX7_looksGood 50 = .ok (.goto 4, 3) := by decide +kernel
theorem dX7_looksGood_53 : decode cX7_looksGood 53 = .ok (.iconst 0, 1) := by decide +kernel
theorem dX7_looksGood_54 : decode cX7_looksGood 54 = .ok (.istore 5, 2) := by decide +kernel
theorem dX7_looksGood_56 : decode cX7_looksGood 56 = .ok (.iconst 0, 1) := by decide +kernel
theorem dX7_looksGood_57 : decode cX7_looksGood 57 = .ok (.istore 6, 2) := by decide +kernel
theorem dX7_looksGood_59 : decode cX7_looksGood 59 = .ok (.iload 6, 2) := by decide +kernel
theorem dX7_looksGood_61 : decode cX7_looksGood 61 = .ok (.iload_n 1, 1) := by decide +kernel
theorem dX7_looksGood_62 : decode cX7_looksGood 62 = .ok (.if_icmp .gt 50, 3) := by decide +kernel
theorem dX7_looksGood_65 : decode cX7_looksGood 65 = .ok (.iload 5, 2) := by decide +kernel
theorem dX7_looksGood_67 : decode cX7_looksGood 67 = .ok (.ifCond .eq 45, 3) := by decide +kernel
theorem dX7_looksGood_70 : decode cX7_looksGood 70 = .ok (.aload_n 0, 1) := by decide +kernel
theorem dX7_looksGood_71 : decode cX7_looksGood 71 = .ok (.aload_n 0, 1) := by decide +kernel
theorem dX7_looksGood_72 : decode cX7_looksGood 72 = .ok (.getfield 23, 3) := by decide +kernel
theorem dX7_looksGood_75 : decode cX7_looksGood 75 = .ok (.iload_n 2, 1) := by decide +kernel
theorem dX7_looksGood_76 : decode cX7_looksGood 76 = .ok (.iaload, 1) := by decide +kernel
theorem dX7_looksGood_77 : decode cX7_looksGood 77 = .ok (.aload_n 0, 1) := by decide +kernel
theorem dX7_looksGood_78 : decode cX7_looksGood 78 = .ok (.getfield 23, 3) := by decide +kernel
theorem dX7_looksGood_81 : decode cX7_looksGood 81 = .ok (.iload 6, 2) := by decide +kernel
theorem dX7_looksGood_83 : decode cX7_looksGood 83 = .ok (.iaload, 1) := by decide +kernel
theorem dX7_looksGood_84 : decode cX7_looksGood 84 = .ok (.iload 4, 2) := by decide +kernel
theorem dX7_looksGood_86 : decode cX7_looksGood 86 = .ok (.aload_n 0, 1) := by decide +kernel
theorem dX7_looksGood_87 : decode cX7_looksGood 87 = .ok (.getfield 26, 3) := by decide +kernel
theorem dX7_looksGood_90 : decode cX7_looksGood 90 = .ok (.iload 6, 2) := by decide +kernel
theorem dX7_looksGood_92 : decode cX7_looksGood 92 = .ok (.iaload, 1) := by decide +kernel
theorem dX7_looksGood_93 : decode cX7_looksGood 93 = .ok (.invokevirtual 109, 3) := by decide +kernel
theorem dX7_looksGood_96 : decode cX7_looksGood 96 = .ok (.ifCond .ne 7, 3) := by decide +kernel
theorem dX7_looksGood_99 : decode cX7_looksGood 99 = .ok (.iconst 1, 1) := by decide +kernel
theorem dX7_looksGood_100 : decode cX7_looksGood 100 = .ok (.goto 4, 3) := by decide +kernel
theorem dX7_looksGood_103 : decode cX7_looksGood 103 = .ok (.iconst 0, 1) := by decide +kernel
theorem dX7_looksGood_104 : decode cX7_looksGood 104 = .ok (.istore 5, 2) := by decide +kernel
theorem dX7_looksGood_106 : decode cX7_looksGood 106 = .ok (.iinc 6 1, 3) := by decide +kernel
theorem dX7_looksGood_109 : decode cX7_looksGood 109 = .ok (.goto (-50), 3) := by decide +kernel
theorem dX7_looksGood_112 : decode cX7_looksGood 112 = .ok (.iload 5, 2) := by decide +kernel
theorem dX7_looksGood_114 : decode cX7_looksGood 114 = .ok (.istore_n 3, 1) := by decide +kernel
theorem dX7_looksGood_115 : decode cX7_looksGood 115 = .ok (.iinc 4 1, 3) := by decide +kernel
theorem dX7_looksGood_118 : decode cX7_looksGood 118 = .ok (.goto (-101), 3) := by decide +kernel
theorem dX7_looksGood_121 : decode cX7_looksGood 121 = .ok (.iload_n 3, 1) := by decide +kernel
theorem dX7_looksGood_122 : decode cX7_looksGood 122 = .ok (.ifCond .ne 5, 3) := by decide +kernel
theorem dX7_looksGood_125 : decode cX7_looksGood 125 = .ok (.iconst 0, 1) := by decide +kernel
theorem dX7_looksGood_126 : decode cX7_looksGood 126 = .ok (.ireturn, 1) := by decide +kernel
theorem dX7_looksGood_127 : decode cX7_looksGood 127 = .ok (.iinc 2 1, 3) := by decide +kernel
theorem dX7_looksGood_130 : decode cX7_looksGood 130 = .ok (.goto (-126), 3) := by decide +kernel
theorem dX7_looksGood_133 : decode cX7_looksGood 133 = .ok (.iconst 1, 1) := by decide +kernel
theorem dX7_looksGood_134 : decode cX7_looksGood 134 = .ok (.ireturn, 1) := by decide +kernel
theorem dX7_packs_0 : decode cX7_packs 0 = .ok (.aload_n 0, 1) := by decide +kernel
theorem dX7_packs_1 : decode cX7_packs 1 = .ok (.iload_n 1, 1) := by decide +kernel
theorem dX7_packs_2 : decode cX7_packs 2 = .ok (.invokevirtual 113, 3) := by decide +kernel
theorem dX7_packs_5 : decode cX7_packs 5 = .ok (.iconst 0, 1) := by decide +kernel
theorem dX7_packs_6 : decode cX7_packs 6 = .ok (.istore_n 2, 1) := by decide +kernel
theorem dX7_packs_7 : decode cX7_packs 7 = .ok (.aload_n 0, 1) := by decide +kernel
theorem dX7_packs_8 : decode cX7_packs 8 = .ok (.getfield 106, 3) := by decide +kernel
theorem dX7_packs_11 : decode cX7_packs 11 = .ok (.ifCond .le 10, 3) := by decide +kernel
theorem dX7_packs_14 : decode cX7_packs 14 = .ok (.aload_n 0, 1) := by decide +kernel
theorem dX7_packs_15 : decode cX7_packs 15 = .ok (.getfield 26, 3) := by decide +kernel
theorem dX7_packs_18 : decode cX7_packs 18 = .ok (.iconst 0, 1) := by decide +kernel
theorem dX7_packs_19 : decode cX7_packs 19 = .ok (.iconst (-1), 1) := by decide +kernel
theorem dX7_packs_20 : decode cX7_packs 20 = .ok (.iastore, 1) := by decide +kernel
theorem dX7_packs_21 : decode cX7_packs 21 = .ok (.iload_n 2, 1) := by decide +kernel
theorem dX7_packs_22 : decode cX7_packs 22 = .ok (.ifCond .lt 83, 3) := by decide +kernel
theorem dX7_packs_25 : decode cX7_packs 25 = .ok (.iload_n 2, 1) := by decide +kernel
theorem dX7_packs_26 : decode cX7_packs 26 = .ok (.aload_n 0, 1) := by decide +kernel
theorem dX7_packs_27 : decode cX7_packs 27 = .ok (.getfield 106, 3) := by decide +kernel
theorem dX7_packs_30 : decode cX7_packs 30 = .ok (.if_icmp .ge 75, 3) := by decide +kernel
theorem dX7_packs_33 : decode cX7_packs 33 = .ok (.aload_n 0, 1) := by decide +kernel
theorem dX7_packs_34 : decode cX7_packs 34 = .ok (.getfield 26, 3) := by decide +kernel
theorem dX7_packs_37 : decode cX7_packs 37 = .ok (.iload_n 2, 1) := by decide +kernel
theorem dX7_packs_38 : decode cX7_packs 38 = .ok (.dup2, 1) := by decide +kernel
theorem dX7_packs_39 : decode cX7_packs 39 = .ok (.iaload, 1) := by decide +kernel
theorem dX7_packs_40 : decode cX7_packs 40 = .ok (.iconst 1, 1) := by decide +kernel
theorem dX7_packs_41 : decode cX7_packs 41 = .ok (.iadd, 1) := by decide +kernel
theorem dX7_packs_42 : decode cX7_packs 42 = .ok (.iastore, 1) := by decide +kernel
theorem dX7_packs_43 : decode cX7_packs 43 = .ok (.aload_n 0, 1) := by decide +kernel
theorem dX7_packs_44 : decode cX7_packs 44 = .ok (.getfield 26, 3) := by decide +kernel
theorem dX7_packs_47 : decode cX7_packs 47 = .ok (.iload_n 2, 1) := by decide +kernel
theorem dX7_packs_48 : decode cX7_packs 48 = .ok (.iaload, 1) := by decide +kernel
theorem dX7_packs_49 : decode cX7_packs 49 = .ok (.aload_n 0, 1) := by decide +kernel
theorem dX7_packs_50 : decode cX7_packs 50 = .ok (.getfield 7, 3) := by decide +kernel
theorem dX7_packs_53 : decode cX7_packs 53 = .ok (.if_icmp .ne 9, 3) := by decide +kernel
theorem dX7_packs_56 : decode cX7_packs 56 = .ok (.iinc 2 (-1), 3) := by decide +kernel
theorem dX7_packs_59 : decode cX7_packs 59 = .ok (.goto (-38), 3) := by decide +kernel
theorem dX7_packs_62 : decode cX7_packs 62 = .ok (.aload_n 0, 1) := by decide +kernel
theorem dX7_packs_63 : decode cX7_packs 63 = .ok (.iload_n 2, 1) := by decide +kernel
theorem dX7_packs_64 : decode cX7_packs 64 = .ok (.aload_n 0, 1) := by decide +kernel
theorem dX7_packs_65 : decode cX7_packs 65 = .ok (.getfield 26, 3) := by decide +kernel
theorem dX7_packs_68 : decode cX7_packs 68 = .ok (.iload_n 2, 1) := by decide +kernel
theorem dX7_packs_69 : decode cX7_packs 69 = .ok (.iaload, 1) := by decide +kernel
theorem dX7_packs_70 : decode cX7_packs 70 = .ok (.invokevirtual 120, 3) := by decide +kernel
theorem dX7_packs_73 : decode cX7_packs 73 = .ok (.ifCond .eq (-52), 3) := by decide +kernel
theorem dX7_packs_76 : decode cX7_packs 76 = .ok (.aload_n 0, 1) := by decide +kernel
theorem dX7_packs_77 : decode cX7_packs 77 = .ok (.iload_n 2, 1) := by decide +kernel
theorem dX7_packs_78 : decode cX7_packs 78 = .ok (.invokevirtual 128, 3) := by decide +kernel
theorem dX7_packs_81 : decode cX7_packs 81 = .ok (.ifCond .eq (-60), 3) := by decide +kernel
theorem dX7_packs_84 : decode cX7_packs 84 = .ok (.iinc 2 1, 3) := by decide +kernel
theorem dX7_packs_87 : decode cX7_packs 87 = .ok (.iload_n 2, 1) := by decide +kernel
theorem dX7_packs_88 : decode cX7_packs 88 = .ok (.aload_n 0, 1) := by decide +kernel
theorem dX7_packs_89 : decode cX7_packs 89 = .ok (.getfield 106, 3) := by decide +kernel
theorem dX7_packs_92 : decode cX7_packs 92 = .ok (.if_icmp .ge (-71), 3) := by decide +kernel
theorem dX7_packs_95 : decode cX7_packs 95 = .ok (.aload_n 0, 1) := by decide +kernel
theorem dX7_packs_96 : decode cX7_packs 96 = .ok (.getfield 26, 3) := by decide +kernel
theorem dX7_packs_99 : decode cX7_packs 99 = .ok (.iload_n 2, 1) := by decide +kernel
theorem dX7_packs_100 : decode cX7_packs 100 = .ok (.iconst (-1), 1) := by decide +kernel
theorem dX7_packs_101 : decode cX7_packs 101 = .ok (.iastore, 1) := by decide +kernel
theorem dX7_packs_102 : decode cX7_packs 102 = .ok (.goto (-81), 3) := by decide +kernel
theorem dX7_packs_105 : decode cX7_packs 105 = .ok (.iload_n 2, 1) := by decide +kernel
theorem dX7_packs_106 : decode cX7_packs 106 = .ok (.aload_n 0, 1) := by decide +kernel
theorem dX7_packs_107 : decode cX7_packs 107 = .ok (.getfield 106, 3) := by decide +kernel
theorem dX7_packs_110 : decode cX7_packs 110 = .ok (.if_icmp .ne 7, 3) := by decide +kernel
theorem dX7_packs_113 : decode cX7_packs 113 = .ok (.iconst 1, 1) := by decide +kernel
theorem dX7_packs_114 : decode cX7_packs 114 = .ok (.goto 4, 3) := by decide +kernel
theorem dX7_packs_117 : decode cX7_packs 117 = .ok (.iconst 0, 1) := by decide +kernel
theorem dX7_packs_118 : decode cX7_packs 118 = .ok (.ireturn, 1) := by decide +kernel
theorem dX7_fits_0 : decode cX7_fits 0 = .ok (.aload_n 0, 1) := by decide +kernel
theorem dX7_fits_1 : decode cX7_fits 1 = .ok (.iload_n 1, 1) := by decide +kernel
theorem dX7_fits_2 : decode cX7_fits 2 = .ok (.invokevirtual 131, 3) := by decide +kernel
theorem dX7_fits_5 : decode cX7_fits 5 = .ok (.ifCond .eq 8, 3) := by decide +kernel
theorem dX7_fits_8 : decode cX7_fits 8 = .ok (.bipush (-2), 2) := by decide +kernel
theorem dX7_fits_10 : decode cX7_fits 10 = .ok (.goto 8, 3) := by decide +kernel
theorem dX7_fits_13 : decode cX7_fits 13 = .ok (.aload_n 0, 1) := by decide +kernel
theorem dX7_fits_14 : decode cX7_fits 14 = .ok (.iload_n 1, 1) := by decide +kernel
theorem dX7_fits_15 : decode cX7_fits 15 = .ok (.invokevirtual 134, 3) := by decide +kernel
theorem dX7_fits_18 : decode cX7_fits 18 = .ok (.ireturn, 1) := by decide +kernel
theorem dX7_tries_0 : decode cX7_tries 0 = .ok (.aload_n 0, 1) := by decide +kernel
theorem dX7_tries_1 : decode cX7_tries 1 = .ok (.iload_n 1, 1) := by decide +kernel
theorem dX7_tries_2 : decode cX7_tries 2 = .ok (.invokevirtual 131, 3) := by decide +kernel
theorem dX7_tries_5 : decode cX7_tries 5 = .ok (.ifCond .eq 6, 3) := by decide +kernel
theorem dX7_tries_8 : decode cX7_tries 8 = .ok (.bipush (-2), 2) := by decide +kernel
theorem dX7_tries_10 : decode cX7_tries 10 = .ok (.ireturn, 1) := by decide +kernel
theorem dX7_tries_11 : decode cX7_tries 11 = .ok (.aload_n 0, 1) := by decide +kernel
theorem dX7_tries_12 : decode cX7_tries 12 = .ok (.iload_n 1, 1) := by decide +kernel
theorem dX7_tries_13 : decode cX7_tries 13 = .ok (.invokevirtual 134, 3) := by decide +kernel
theorem dX7_tries_16 : decode cX7_tries 16 = .ok (.istore_n 2, 1) := by decide +kernel
theorem dX7_tries_17 : decode cX7_tries 17 = .ok (.aload_n 0, 1) := by decide +kernel
theorem dX7_tries_18 : decode cX7_tries 18 = .ok (.getfield 117, 3) := by decide +kernel
theorem dX7_tries_21 : decode cX7_tries 21 = .ok (.ireturn, 1) := by decide +kernel
theorem dX7_packing_0 : decode cX7_packing 0 = .ok (.aload_n 0, 1) := by decide +kernel
theorem dX7_packing_1 : decode cX7_packing 1 = .ok (.iload_n 1, 1) := by decide +kernel
theorem dX7_packing_2 : decode cX7_packing 2 = .ok (.invokevirtual 131, 3) := by decide +kernel
theorem dX7_packing_5 : decode cX7_packing 5 = .ok (.ifCond .ne 19, 3) := by decide +kernel
theorem dX7_packing_8 : decode cX7_packing 8 = .ok (.aload_n 0, 1) := by decide +kernel
theorem dX7_packing_9 : decode cX7_packing 9 = .ok (.iload_n 2, 1) := by decide +kernel
theorem dX7_packing_10 : decode cX7_packing 10 = .ok (.invokevirtual 96, 3) := by decide +kernel
theorem dX7_packing_13 : decode cX7_packing 13 = .ok (.ifCond .ne 11, 3) := by decide +kernel
theorem dX7_packing_16 : decode cX7_packing 16 = .ok (.iload_n 1, 1) := by decide +kernel
theorem dX7_packing_17 : decode cX7_packing 17 = .ok (.iload_n 2, 1) := by decide +kernel
theorem dX7_packing_18 : decode cX7_packing 18 = .ok (.ishr, 1) := by decide +kernel
theorem dX7_packing_19 : decode cX7_packing 19 = .ok (.iconst 1, 1) := by decide +kernel
theorem dX7_packing_20 : decode cX7_packing 20 = .ok (.iand, 1) := by decide +kernel
theorem dX7_packing_21 : decode cX7_packing 21 = .ok (.ifCond .ne 6, 3) := by decide +kernel
theorem dX7_packing_24 : decode cX7_packing 24 = .ok (.bipush (-2), 2) := by decide +kernel
theorem dX7_packing_26 : decode cX7_packing 26 = .ok (.ireturn, 1) := by decide +kernel
theorem dX7_packing_27 : decode cX7_packing 27 = .ok (.aload_n 0, 1) := by decide +kernel
theorem dX7_packing_28 : decode cX7_packing 28 = .ok (.iload_n 1, 1) := by decide +kernel
theorem dX7_packing_29 : decode cX7_packing 29 = .ok (.invokevirtual 138, 3) := by decide +kernel
theorem dX7_packing_32 : decode cX7_packing 32 = .ok (.ifCond .ne 5, 3) := by decide +kernel
theorem dX7_packing_35 : decode cX7_packing 35 = .ok (.iconst (-1), 1) := by decide +kernel
theorem dX7_packing_36 : decode cX7_packing 36 = .ok (.ireturn, 1) := by decide +kernel
theorem dX7_packing_37 : decode cX7_packing 37 = .ok (.iconst (-1), 1) := by decide +kernel
theorem dX7_packing_38 : decode cX7_packing 38 = .ok (.istore_n 3, 1) := by decide +kernel
theorem dX7_packing_39 : decode cX7_packing 39 = .ok (.iconst 0, 1) := by decide +kernel
theorem dX7_packing_40 : decode cX7_packing 40 = .ok (.istore 4, 2) := by decide +kernel
theorem dX7_packing_42 : decode cX7_packing 42 = .ok (.iload 4, 2) := by decide +kernel
theorem dX7_packing_44 : decode cX7_packing 44 = .ok (.aload_n 0, 1) := by decide +kernel
theorem dX7_packing_45 : decode cX7_packing 45 = .ok (.getfield 106, 3) := by decide +kernel
theorem dX7_packing_48 : decode cX7_packing 48 = .ok (.if_icmp .ge 32, 3) := by decide +kernel
theorem dX7_packing_51 : decode cX7_packing 51 = .ok (.aload_n 0, 1) := by decide +kernel
theorem dX7_packing_52 : decode cX7_packing 52 = .ok (.getfield 23, 3) := by decide +kernel
theorem dX7_packing_55 : decode cX7_packing 55 = .ok (.iload 4, 2) := by decide +kernel
theorem dX7_packing_57 : decode cX7_packing 57 = .ok (.iaload, 1) := by decide +kernel
theorem dX7_packing_58 : decode cX7_packing 58 = .ok (.iload_n 2, 1) := by decide +kernel
theorem dX7_packing_59 : decode cX7_packing 59 = .ok (.if_icmp .ne 13, 3) := by decide +kernel
theorem dX7_packing_62 : decode cX7_packing 62 = .ok (.aload_n 0, 1) := by decide +kernel
theorem dX7_packing_63 : decode cX7_packing 63 = .ok (.getfield 26, 3) := by decide +kernel
theorem dX7_packing_66 : decode cX7_packing 66 = .ok (.iload 4, 2) := by decide +kernel
theorem dX7_packing_68 : decode cX7_packing 68 = .ok (.iaload, 1) := by decide +kernel
theorem dX7_packing_69 : decode cX7_packing 69 = .ok (.goto 4, 3) := by decide +kernel
theorem dX7_packing_72 : decode cX7_packing 72 = .ok (.iload_n 3, 1) := by decide +kernel
theorem dX7_packing_73 : decode cX7_packing 73 = .ok (.istore_n 3, 1) := by decide +kernel
theorem dX7_packing_74 : decode cX7_packing 74 = .ok (.iinc 4 1, 3) := by decide +kernel
theorem dX7_packing_77 : decode cX7_packing 77 = .ok (.goto (-35), 3) := by decide +kernel
theorem dX7_packing_80 : decode cX7_packing 80 = .ok (.iload_n 3, 1) := by decide +kernel
theorem dX7_packing_81 : decode cX7_packing 81 = .ok (.ireturn, 1) := by decide +kernel
theorem dX7_ones_0 : decode cX7_ones 0 = .ok (.iconst 0, 1) := by decide +kernel
theorem dX7_ones_1 : decode cX7_ones 1 = .ok (.istore_n 1, 1) := by decide +kernel
theorem dX7_ones_2 : decode cX7_ones 2 = .ok (.iconst 0, 1) := by decide +kernel
theorem dX7_ones_3 : decode cX7_ones 3 = .ok (.istore_n 2, 1) := by decide +kernel
theorem dX7_ones_4 : decode cX7_ones 4 = .ok (.iload_n 2, 1) := by decide +kernel
theorem dX7_ones_5 : decode cX7_ones 5 = .ok (.bipush 16, 2) := by decide +kernel
theorem dX7_ones_7 : decode cX7_ones 7 = .ok (.if_icmp .ge 17, 3) := by decide +kernel
theorem dX7_ones_10 : decode cX7_ones 10 = .ok (.iload_n 1, 1) := by decide +kernel
theorem dX7_ones_11 : decode cX7_ones 11 = .ok (.iload_n 0, 1) := by decide +kernel
theorem dX7_ones_12 : decode cX7_ones 12 = .ok (.iload_n 2, 1) := by decide +kernel
theorem dX7_ones_13 : decode cX7_ones 13 = .ok (.ishr, 1) := by decide +kernel
theorem dX7_ones_14 : decode cX7_ones 14 = .ok (.iconst 1, 1) := by decide +kernel
theorem dX7_ones_15 : decode cX7_ones 15 = .ok (.iand, 1) := by decide +kernel
theorem dX7_ones_16 : decode cX7_ones 16 = .ok (.iadd, 1) := by decide +kernel
theorem dX7_ones_17 : decode cX7_ones 17 = .ok (.istore_n 1, 1) := by decide +kernel
theorem dX7_ones_18 : decode cX7_ones 18 = .ok (.iinc 2 1, 3) := by decide +kernel
theorem dX7_ones_21 : decode cX7_ones 21 = .ok (.goto (-17), 3) := by decide +kernel
theorem dX7_ones_24 : decode cX7_ones 24 = .ok (.iload_n 1, 1) := by decide +kernel
theorem dX7_ones_25 : decode cX7_ones 25 = .ok (.ireturn, 1) := by decide +kernel
theorem dX7_findGood_0 : decode cX7_findGood 0 = .ok (.iconst 0, 1) := by decide +kernel
theorem dX7_findGood_1 : decode cX7_findGood 1 = .ok (.istore_n 2, 1) := by decide +kernel
theorem dX7_findGood_2 : decode cX7_findGood 2 = .ok (.iload_n 2, 1) := by decide +kernel
theorem dX7_findGood_3 : decode cX7_findGood 3 = .ok (.iload_n 1, 1) := by decide +kernel
theorem dX7_findGood_4 : decode cX7_findGood 4 = .ok (.if_icmp .gt 95, 3) := by decide +kernel
theorem dX7_findGood_7 : decode cX7_findGood 7 = .ok (.iload_n 2, 1) := by decide +kernel
theorem dX7_findGood_8 : decode cX7_findGood 8 = .ok (.iload_n 1, 1) := by decide +kernel
theorem dX7_findGood_9 : decode cX7_findGood 9 = .ok (.iconst (-1), 1) := by decide +kernel
theorem dX7_findGood_10 : decode cX7_findGood 10 = .ok (.ixor, 1) := by decide +kernel
theorem dX7_findGood_11 : decode cX7_findGood 11 = .ok (.iand, 1) := by decide +kernel
theorem dX7_findGood_12 : decode cX7_findGood 12 = .ok (.ifCond .ne 81, 3) := by decide +kernel
theorem dX7_findGood_15 : decode cX7_findGood 15 = .ok (.iconst 1, 1) := by decide +kernel
theorem dX7_findGood_16 : decode cX7_findGood 16 = .ok (.istore_n 3, 1) := by decide +kernel
theorem dX7_findGood_17 : decode cX7_findGood 17 = .ok (.iconst 0, 1) := by decide +kernel
theorem dX7_findGood_18 : decode cX7_findGood 18 = .ok (.istore 4, 2) := by decide +kernel
theorem dX7_findGood_20 : decode cX7_findGood 20 = .ok (.iload 4, 2) := by decide +kernel
theorem dX7_findGood_22 : decode cX7_findGood 22 = .ok (.aload_n 0, 1) := by decide +kernel
theorem dX7_findGood_23 : decode cX7_findGood 23 = .ok (.getfield 87, 3) := by decide +kernel
theorem dX7_findGood_26 : decode cX7_findGood 26 = .ok (.if_icmp .ge 44, 3) := by decide +kernel
theorem dX7_findGood_29 : decode cX7_findGood 29 = .ok (.iload_n 3, 1) := by decide +kernel
theorem dX7_findGood_30 : decode cX7_findGood 30 = .ok (.ifCond .eq 40, 3) := by decide +kernel
theorem dX7_findGood_33 : decode cX7_findGood 33 = .ok (.iload_n 2, 1) := by decide +kernel
theorem dX7_findGood_34 : decode cX7_findGood 34 = .ok (.iload 4, 2) := by decide +kernel
theorem dX7_findGood_36 : decode cX7_findGood 36 = .ok (.ishr, 1) := by decide +kernel
theorem dX7_findGood_37 : decode cX7_findGood 37 = .ok (.iconst 1, 1) := by decide +kernel
theorem dX7_findGood_38 : decode cX7_findGood 38 = .ok (.iand, 1) := by decide +kernel
theorem dX7_findGood_39 : decode cX7_findGood 39 = .ok (.ifCond .eq 19, 3) := by decide +kernel
theorem dX7_findGood_42 : decode cX7_findGood 42 = .ok (.aload_n 0, 1) := by decide +kernel
theorem dX7_findGood_43 : decode cX7_findGood 43 = .ok (.getfield 29, 3) := by decide +kernel
theorem dX7_findGood_46 : decode cX7_findGood 46 = .ok (.iload_n 2, 1) := by decide +kernel
theorem dX7_findGood_47 : decode cX7_findGood 47 = .ok (.iconst 1, 1) := by decide +kernel
theorem dX7_findGood_48 : decode cX7_findGood 48 = .ok (.iload 4, 2) := by decide +kernel
theorem dX7_findGood_50 : decode cX7_findGood 50 = .ok (.ishl, 1) := by decide +kernel
theorem dX7_findGood_51 : decode cX7_findGood 51 = .ok (.iconst (-1), 1) := by decide +kernel
theorem dX7_findGood_52 : decode cX7_findGood 52 = .ok (.ixor, 1) := by decide +kernel
theorem dX7_findGood_53 : decode cX7_findGood 53 = .ok (.iand, 1) := by decide +kernel
theorem dX7_findGood_54 : decode cX7_findGood 54 = .ok (.baload, 1) := by decide +kernel
theorem dX7_findGood_55 : decode cX7_findGood 55 = .ok (.ifCond .eq 7, 3) := by decide +kernel
theorem dX7_findGood_58 : decode cX7_findGood 58 = .ok (.iconst 1, 1) := by decide +kernel
theorem dX7_findGood_59 : decode cX7_findGood 59 = .ok (.goto 4, 3) := by decide +kernel
theorem dX7_findGood_62 : decode cX7_findGood 62 = .ok (.iconst 0, 1) := by decide +kernel
theorem dX7_findGood_63 : decode cX7_findGood 63 = .ok (.istore_n 3, 1) := by decide +kernel
theorem dX7_findGood_64 : decode cX7_findGood 64 = .ok (.iinc 4 1, 3) := by decide +kernel
theorem dX7_findGood_67 : decode cX7_findGood 67 = .ok (.goto (-47), 3) := by decide +kernel
theorem dX7_findGood_70 : decode cX7_findGood 70 = .ok (.aload_n 0, 1) := by decide +kernel
theorem dX7_findGood_71 : decode cX7_findGood 71 = .ok (.getfield 29, 3) := by decide +kernel
theorem dX7_findGood_74 : decode cX7_findGood 74 = .ok (.iload_n 2, 1) := by decide +kernel
theorem dX7_findGood_75 : decode cX7_findGood 75 = .ok (.iload_n 3, 1) := by decide +kernel
theorem dX7_findGood_76 : decode cX7_findGood 76 = .ok (.ifCond .eq 15, 3) := by decide +kernel
theorem dX7_findGood_79 : decode cX7_findGood 79 = .ok (.aload_n 0, 1) := by decide +kernel
theorem dX7_findGood_80 : decode cX7_findGood 80 = .ok (.iload_n 2, 1) := by decide +kernel
theorem dX7_findGood_81 : decode cX7_findGood 81 = .ok (.invokevirtual 138, 3) := by decide +kernel
theorem dX7_findGood_84 : decode cX7_findGood 84 = .ok (.ifCond .eq 7, 3) := by decide +kernel
theorem dX7_findGood_87 : decode cX7_findGood 87 = .ok (.iconst 1, 1) := by decide +kernel
theorem dX7_findGood_88 : decode cX7_findGood 88 = .ok (.goto 4, 3) := by decide +kernel
theorem dX7_findGood_91 : decode cX7_findGood 91 = .ok (.iconst 0, 1) := by decide +kernel
theorem dX7_findGood_92 : decode cX7_findGood 92 = .ok (.bastore, 1) := by decide +kernel
theorem dX7_findGood_93 : decode cX7_findGood 93 = .ok (.iinc 2 1, 3) := by decide +kernel
theorem dX7_findGood_96 : decode cX7_findGood 96 = .ok (.goto (-94), 3) := by decide +kernel
theorem dX7_findGood_99 : decode cX7_findGood 99 = .ok (.return_, 1) := by decide +kernel
theorem dX7_reason_0 : decode cX7_reason 0 = .ok (.aload_n 0, 1) := by decide +kernel
theorem dX7_reason_1 : decode cX7_reason 1 = .ok (.iload_n 1, 1) := by decide +kernel
theorem dX7_reason_2 : decode cX7_reason 2 = .ok (.invokevirtual 131, 3) := by decide +kernel
theorem dX7_reason_5 : decode cX7_reason 5 = .ok (.ifCond .eq 6, 3) := by decide +kernel
theorem dX7_reason_8 : decode cX7_reason 8 = .ok (.bipush (-2), 2) := by decide +kernel
theorem dX7_reason_10 : decode cX7_reason 10 = .ok (.ireturn, 1) := by decide +kernel
theorem dX7_reason_11 : decode cX7_reason 11 = .ok (.aload_n 0, 1) := by decide +kernel
theorem dX7_reason_12 : decode cX7_reason 12 = .ok (.iload_n 1, 1) := by decide +kernel
theorem dX7_reason_13 : decode cX7_reason 13 = .ok (.invokevirtual 138, 3) := by decide +kernel
theorem dX7_reason_16 : decode cX7_reason 16 = .ok (.ifCond .eq 6, 3) := by decide +kernel
theorem dX7_reason_19 : decode cX7_reason 19 = .ok (.bipush (-3), 2) := by decide +kernel
theorem dX7_reason_21 : decode cX7_reason 21 = .ok (.ireturn, 1) := by decide +kernel
theorem dX7_reason_22 : decode cX7_reason 22 = .ok (.aload_n 0, 1) := by decide +kernel
theorem dX7_reason_23 : decode cX7_reason 23 = .ok (.iload_n 1, 1) := by decide +kernel
theorem dX7_reason_24 : decode cX7_reason 24 = .ok (.invokevirtual 141, 3) := by decide +kernel
theorem dX7_reason_27 : decode cX7_reason 27 = .ok (.iload_n 1, 1) := by decide +kernel
theorem dX7_reason_28 : decode cX7_reason 28 = .ok (.istore_n 2, 1) := by decide +kernel
theorem dX7_reason_29 : decode cX7_reason 29 = .ok (.iconst 0, 1) := by decide +kernel
theorem dX7_reason_30 : decode cX7_reason 30 = .ok (.istore_n 3, 1) := by decide +kernel
theorem dX7_reason_31 : decode cX7_reason 31 = .ok (.iload_n 3, 1) := by decide +kernel
theorem dX7_reason_32 : decode cX7_reason 32 = .ok (.iload_n 1, 1) := by decide +kernel
theorem dX7_reason_33 : decode cX7_reason 33 = .ok (.if_icmp .gt 71, 3) := by decide +kernel
theorem dX7_reason_36 : decode cX7_reason 36 = .ok (.iload_n 3, 1) := by decide +kernel
theorem dX7_reason_37 : decode cX7_reason 37 = .ok (.iload_n 1, 1) := by decide +kernel
theorem dX7_reason_38 : decode cX7_reason 38 = .ok (.iconst (-1), 1) := by decide +kernel
theorem dX7_reason_39 : decode cX7_reason 39 = .ok (.ixor, 1) := by decide +kernel
theorem dX7_reason_40 : decode cX7_reason 40 = .ok (.iand, 1) := by decide +kernel
theorem dX7_reason_41 : decode cX7_reason 41 = .ok (.ifCond .ne 16, 3) := by decide +kernel
theorem dX7_reason_44 : decode cX7_reason 44 = .ok (.aload_n 0, 1) := by decide +kernel
theorem dX7_reason_45 : decode cX7_reason 45 = .ok (.getfield 29, 3) := by decide +kernel
theorem dX7_reason_48 : decode cX7_reason 48 = .ok (.iload_n 3, 1) := by decide +kernel
theorem dX7_reason_49 : decode cX7_reason 49 = .ok (.baload, 1) := by decide +kernel
theorem dX7_reason_50 : decode cX7_reason 50 = .ok (.ifCond .ne 7, 3) := by decide +kernel
theorem dX7_reason_53 : decode cX7_reason 53 = .ok (.iconst 1, 1) := by decide +kernel
theorem dX7_reason_54 : decode cX7_reason 54 = .ok (.goto 4, 3) := by decide +kernel
theorem dX7_reason_57 : decode cX7_reason 57 = .ok (.iconst 0, 1) := by decide +kernel
theorem dX7_reason_58 : decode cX7_reason 58 = .ok (.istore 4, 2) := by decide +kernel
theorem dX7_reason_60 : decode cX7_reason 60 = .ok (.iload 4, 2) := by decide +kernel
theorem dX7_reason_62 : decode cX7_reason 62 = .ok (.ifCond .eq 34, 3) := by decide +kernel
theorem dX7_reason_65 : decode cX7_reason 65 = .ok (.iload_n 3, 1) := by decide +kernel
theorem dX7_reason_66 : decode cX7_reason 66 = .ok (.invokestatic 144, 3) := by decide +kernel
theorem dX7_reason_69 : decode cX7_reason 69 = .ok (.iload_n 2, 1) := by decide +kernel
theorem dX7_reason_70 : decode cX7_reason 70 = .ok (.invokestatic 144, 3) := by decide +kernel
theorem dX7_reason_73 : decode cX7_reason 73 = .ok (.if_icmp .lt 19, 3) := by decide +kernel
theorem dX7_reason_76 : decode cX7_reason 76 = .ok (.iload_n 3, 1) := by decide +kernel
theorem dX7_reason_77 : decode cX7_reason 77 = .ok (.invokestatic 144, 3) := by decide +kernel
theorem dX7_reason_80 : decode cX7_reason 80 = .ok (.iload_n 2, 1) := by decide +kernel
theorem dX7_reason_81 : decode cX7_reason 81 = .ok (.invokestatic 144, 3) := by decide +kernel
theorem dX7_reason_84 : decode cX7_reason 84 = .ok (.if_icmp .ne 12, 3) := by decide +kernel
theorem dX7_reason_87 : decode cX7_reason 87 = .ok (.iload_n 3, 1) := by decide +kernel
theorem dX7_reason_88 : decode cX7_reason 88 = .ok (.iload_n 2, 1) := by decide +kernel
theorem dX7_reason_89 : decode cX7_reason 89 = .ok (.if_icmp .ge 7, 3) := by decide +kernel
theorem dX7_reason_92 : decode cX7_reason 92 = .ok (.iload_n 3, 1) := by decide +kernel
theorem dX7_reason_93 : decode cX7_reason 93 = .ok (.goto 4, 3) := by decide +kernel
theorem dX7_reason_96 : decode cX7_reason 96 = .ok (.iload_n 2, 1) := by decide +kernel
theorem dX7_reason_97 : decode cX7_reason 97 = .ok (.istore_n 2, 1) := by decide +kernel
theorem dX7_reason_98 : decode cX7_reason 98 = .ok (.iinc 3 1, 3) := by decide +kernel
theorem dX7_reason_101 : decode cX7_reason 101 = .ok (.goto (-70), 3) := by decide +kernel
theorem dX7_reason_104 : decode cX7_reason 104 = .ok (.iload_n 2, 1) := by decide +kernel
theorem dX7_reason_105 : decode cX7_reason 105 = .ok (.ireturn, 1) := by decide +kernel
theorem dX7_spare_0 : decode cX7_spare 0 = .ok (.aload_n 0, 1) := by decide +kernel
theorem dX7_spare_1 : decode cX7_spare 1 = .ok (.iload_n 1, 1) := by decide +kernel
theorem dX7_spare_2 : decode cX7_spare 2 = .ok (.invokevirtual 131, 3) := by decide +kernel
theorem dX7_spare_5 : decode cX7_spare 5 = .ok (.ifCond .eq 6, 3) := by decide +kernel
theorem dX7_spare_8 : decode cX7_spare 8 = .ok (.bipush (-2), 2) := by decide +kernel
theorem dX7_spare_10 : decode cX7_spare 10 = .ok (.ireturn, 1) := by decide +kernel
theorem dX7_spare_11 : decode cX7_spare 11 = .ok (.aload_n 0, 1) := by decide +kernel
theorem dX7_spare_12 : decode cX7_spare 12 = .ok (.iload_n 1, 1) := by decide +kernel
theorem dX7_spare_13 : decode cX7_spare 13 = .ok (.invokevirtual 138, 3) := by decide +kernel
theorem dX7_spare_16 : decode cX7_spare 16 = .ok (.ifCond .ne 6, 3) := by decide +kernel
theorem dX7_spare_19 : decode cX7_spare 19 = .ok (.bipush (-3), 2) := by decide +kernel
theorem dX7_spare_21 : decode cX7_spare 21 = .ok (.ireturn, 1) := by decide +kernel
theorem dX7_spare_22 : decode cX7_spare 22 = .ok (.iconst 0, 1) := by decide +kernel
theorem dX7_spare_23 : decode cX7_spare 23 = .ok (.istore_n 2, 1) := by decide +kernel
theorem dX7_spare_24 : decode cX7_spare 24 = .ok (.iconst 0, 1) := by decide +kernel
theorem dX7_spare_25 : decode cX7_spare 25 = .ok (.istore_n 3, 1) := by decide +kernel
theorem dX7_spare_26 : decode cX7_spare 26 = .ok (.iload_n 3, 1) := by decide +kernel
theorem dX7_spare_27 : decode cX7_spare 27 = .ok (.aload_n 0, 1) := by decide +kernel
theorem dX7_spare_28 : decode cX7_spare 28 = .ok (.getfield 87, 3) := by decide +kernel
theorem dX7_spare_31 : decode cX7_spare 31 = .ok (.if_icmp .ge 39, 3) := by decide +kernel
theorem dX7_spare_34 : decode cX7_spare 34 = .ok (.iload_n 2, 1) := by decide +kernel
theorem dX7_spare_35 : decode cX7_spare 35 = .ok (.iload_n 1, 1) := by decide +kernel
theorem dX7_spare_36 : decode cX7_spare 36 = .ok (.iload_n 3, 1) := by decide +kernel
theorem dX7_spare_37 : decode cX7_spare 37 = .ok (.ishr, 1) := by decide +kernel
theorem dX7_spare_38 : decode cX7_spare 38 = .ok (.iconst 1, 1) := by decide +kernel
theorem dX7_spare_39 : decode cX7_spare 39 = .ok (.iand, 1) := by decide +kernel
theorem dX7_spare_40 : decode cX7_spare 40 = .ok (.ifCond .ne 21, 3) := by decide +kernel
theorem dX7_spare_43 : decode cX7_spare 43 = .ok (.aload_n 0, 1) := by decide +kernel
theorem dX7_spare_44 : decode cX7_spare 44 = .ok (.iload_n 1, 1) := by decide +kernel
theorem dX7_spare_45 : decode cX7_spare 45 = .ok (.iconst 1, 1) := by decide +kernel
theorem dX7_spare_46 : decode cX7_spare 46 = .ok (.iload_n 3, 1) := by decide +kernel
theorem dX7_spare_47 : decode cX7_spare 47 = .ok (.ishl, 1) := by decide +kernel
theorem dX7_spare_48 : decode cX7_spare 48 = .ok (.ior, 1) := by decide +kernel
theorem dX7_spare_49 : decode cX7_spare 49 = .ok (.invokevirtual 138, 3) := by decide +kernel
theorem dX7_spare_52 : decode cX7_spare 52 = .ok (.ifCond .eq 9, 3) := by decide +kernel
theorem dX7_spare_55 : decode cX7_spare 55 = .ok (.iconst 1, 1) := by decide +kernel
theorem dX7_spare_56 : decode cX7_spare 56 = .ok (.iload_n 3, 1) := by decide +kernel
theorem dX7_spare_57 : decode cX7_spare 57 = .ok (.ishl, 1) := by decide +kernel
theorem dX7_spare_58 : decode cX7_spare 58 = .ok (.goto 4, 3) := by decide +kernel
theorem dX7_spare_61 : decode cX7_spare 61 = .ok (.iconst 0, 1) := by decide +kernel
theorem dX7_spare_62 : decode cX7_spare 62 = .ok (.ior, 1) := by decide +kernel
theorem dX7_spare_63 : decode cX7_spare 63 = .ok (.istore_n 2, 1) := by decide +kernel
theorem dX7_spare_64 : decode cX7_spare 64 = .ok (.iinc 3 1, 3) := by decide +kernel
theorem dX7_spare_67 : decode cX7_spare 67 = .ok (.goto (-41), 3) := by decide +kernel
theorem dX7_spare_70 : decode cX7_spare 70 = .ok (.iload_n 2, 1) := by decide +kernel
theorem dX7_spare_71 : decode cX7_spare 71 = .ok (.ireturn, 1) := by decide +kernel
theorem dX7_old_0 : decode cX7_old 0 = .ok (.aload_n 0, 1) := by decide +kernel
theorem dX7_old_1 : decode cX7_old 1 = .ok (.iload_n 1, 1) := by decide +kernel
theorem dX7_old_2 : decode cX7_old 2 = .ok (.invokevirtual 96, 3) := by decide +kernel
theorem dX7_old_5 : decode cX7_old 5 = .ok (.ifCond .ne 27, 3) := by decide +kernel
theorem dX7_old_8 : decode cX7_old 8 = .ok (.iload_n 2, 1) := by decide +kernel
theorem dX7_old_9 : decode cX7_old 9 = .ok (.i2l, 1) := by decide +kernel
theorem dX7_old_10 : decode cX7_old 10 = .ok (.lconst 0, 1) := by decide +kernel
theorem dX7_old_11 : decode cX7_old 11 = .ok (.ldc2_w 147, 3) := by decide +kernel
theorem dX7_old_14 : decode cX7_old 14 = .ok (.invokestatic 90, 3) := by decide +kernel
theorem dX7_old_17 : decode cX7_old 17 = .ok (.ifCond .eq 15, 3) := by decide +kernel
theorem dX7_old_20 : decode cX7_old 20 = .ok (.iload_n 3, 1) := by decide +kernel
theorem dX7_old_21 : decode cX7_old 21 = .ok (.i2l, 1) := by decide +kernel
theorem dX7_old_22 : decode cX7_old 22 = .ok (.lconst 1, 1) := by decide +kernel
theorem dX7_old_23 : decode cX7_old 23 = .ok (.ldc2_w 149, 3) := by decide +kernel
theorem dX7_old_26 : decode cX7_old 26 = .ok (.invokestatic 90, 3) := by decide +kernel
theorem dX7_old_29 : decode cX7_old 29 = .ok (.ifCond .ne 6, 3) := by decide +kernel
theorem dX7_old_32 : decode cX7_old 32 = .ok (.bipush (-2), 2) := by decide +kernel
theorem dX7_old_34 : decode cX7_old 34 = .ok (.ireturn, 1) := by decide +kernel
theorem dX7_old_35 : decode cX7_old 35 = .ok (.aload_n 0, 1) := by decide +kernel
theorem dX7_old_36 : decode cX7_old 36 = .ok (.getfield 33, 3) := by decide +kernel
theorem dX7_old_39 : decode cX7_old 39 = .ok (.iload_n 1, 1) := by decide +kernel
theorem dX7_old_40 : decode cX7_old 40 = .ok (.baload, 1) := by decide +kernel
theorem dX7_old_41 : decode cX7_old 41 = .ok (.ifCond .eq 6, 3) := by decide +kernel
theorem dX7_old_44 : decode cX7_old 44 = .ok (.bipush (-3), 2) := by decide +kernel
theorem dX7_old_46 : decode cX7_old 46 = .ok (.ireturn, 1) := by decide +kernel
theorem dX7_old_47 : decode cX7_old 47 = .ok (.aload_n 0, 1) := by decide +kernel
theorem dX7_old_48 : decode cX7_old 48 = .ok (.getfield 33, 3) := by decide +kernel
theorem dX7_old_51 : decode cX7_old 51 = .ok (.iload_n 1, 1) := by decide +kernel
theorem dX7_old_52 : decode cX7_old 52 = .ok (.iconst 1, 1) := by decide +kernel
theorem dX7_old_53 : decode cX7_old 53 = .ok (.bastore, 1) := by decide +kernel
theorem dX7_old_54 : decode cX7_old 54 = .ok (.aload_n 0, 1) := by decide +kernel
theorem dX7_old_55 : decode cX7_old 55 = .ok (.getfield 36, 3) := by decide +kernel
theorem dX7_old_58 : decode cX7_old 58 = .ok (.iload_n 1, 1) := by decide +kernel
theorem dX7_old_59 : decode cX7_old 59 = .ok (.iload_n 2, 1) := by decide +kernel
theorem dX7_old_60 : decode cX7_old 60 = .ok (.iastore, 1) := by decide +kernel
theorem dX7_old_61 : decode cX7_old 61 = .ok (.aload_n 0, 1) := by decide +kernel
theorem dX7_old_62 : decode cX7_old 62 = .ok (.getfield 39, 3) := by decide +kernel
theorem dX7_old_65 : decode cX7_old 65 = .ok (.iload_n 1, 1) := by decide +kernel
theorem dX7_old_66 : decode cX7_old 66 = .ok (.iload_n 3, 1) := by decide +kernel
theorem dX7_old_67 : decode cX7_old 67 = .ok (.iastore, 1) := by decide +kernel
theorem dX7_old_68 : decode cX7_old 68 = .ok (.iconst 1, 1) := by decide +kernel
theorem dX7_old_69 : decode cX7_old 69 = .ok (.ireturn, 1) := by decide +kernel
theorem dX7_clock_0 : decode cX7_clock 0 = .ok (.iload_n 1, 1) := by decide +kernel
theorem dX7_clock_1 : decode cX7_clock 1 = .ok (.i2l, 1) := by decide +kernel
theorem dX7_clock_2 : decode cX7_clock 2 = .ok (.lconst 1, 1) := by decide +kernel
theorem dX7_clock_3 : decode cX7_clock 3 = .ok (.ldc2_w 147, 3) := by decide +kernel
theorem dX7_clock_6 : decode cX7_clock 6 = .ok (.invokestatic 90, 3) := by decide +kernel
theorem dX7_clock_9 : decode cX7_clock 9 = .ok (.ifCond .eq 23, 3) := by decide +kernel
theorem dX7_clock_12 : decode cX7_clock 12 = .ok (.iload_n 2, 1) := by decide +kernel
theorem dX7_clock_13 : decode cX7_clock 13 = .ok (.i2l, 1) := by decide +kernel
theorem dX7_clock_14 : decode cX7_clock 14 = .ok (.lconst 1, 1) := by decide +kernel
theorem dX7_clock_15 : decode cX7_clock 15 = .ok (.ldc2_w 151, 3) := by decide +kernel
theorem dX7_clock_18 : decode cX7_clock 18 = .ok (.invokestatic 90, 3) := by decide +kernel
theorem dX7_clock_21 : decode cX7_clock 21 = .ok (.ifCond .eq 11, 3) := by decide +kernel
theorem dX7_clock_24 : decode cX7_clock 24 = .ok (.iload_n 1, 1) := by decide +kernel
theorem dX7_clock_25 : decode cX7_clock 25 = .ok (.bipush 50, 2) := by decide +kernel
theorem dX7_clock_27 : decode cX7_clock 27 = .ok (.iload_n 2, 1) := by decide +kernel
theorem dX7_clock_28 : decode cX7_clock 28 = .ok (.imul, 1) := by decide +kernel
theorem dX7_clock_29 : decode cX7_clock 29 = .ok (.if_icmp .le 6, 3) := by decide +kernel
theorem dX7_clock_32 : decode cX7_clock 32 = .ok (.bipush (-2), 2) := by decide +kernel
theorem dX7_clock_34 : decode cX7_clock 34 = .ok (.ireturn, 1) := by decide +kernel
theorem dX7_clock_35 : decode cX7_clock 35 = .ok (.aload_n 0, 1) := by decide +kernel
theorem dX7_clock_36 : decode cX7_clock 36 = .ok (.iload_n 1, 1) := by decide +kernel
theorem dX7_clock_37 : decode cX7_clock 37 = .ok (.putfield 42, 3) := by decide +kernel
theorem dX7_clock_40 : decode cX7_clock 40 = .ok (.aload_n 0, 1) := by decide +kernel
theorem dX7_clock_41 : decode cX7_clock 41 = .ok (.iload_n 2, 1) := by decide +kernel
theorem dX7_clock_42 : decode cX7_clock 42 = .ok (.putfield 45, 3) := by decide +kernel
theorem dX7_clock_45 : decode cX7_clock 45 = .ok (.iconst 1, 1) := by decide +kernel
theorem dX7_clock_46 : decode cX7_clock 46 = .ok (.ireturn, 1) := by decide +kernel
theorem dX7_olds_0 : decode cX7_olds 0 = .ok (.iconst 0, 1) := by decide +kernel
theorem dX7_olds_1 : decode cX7_olds 1 = .ok (.istore_n 1, 1) := by decide +kernel
theorem dX7_olds_2 : decode cX7_olds 2 = .ok (.iconst 0, 1) := by decide +kernel
theorem dX7_olds_3 : decode cX7_olds 3 = .ok (.istore_n 2, 1) := by decide +kernel
theorem dX7_olds_4 : decode cX7_olds 4 = .ok (.iload_n 2, 1) := by decide +kernel
theorem dX7_olds_5 : decode cX7_olds 5 = .ok (.aload_n 0, 1) := by decide +kernel
theorem dX7_olds_6 : decode cX7_olds 6 = .ok (.getfield 87, 3) := by decide +kernel
theorem dX7_olds_9 : decode cX7_olds 9 = .ok (.if_icmp .ge 23, 3) := by decide +kernel
theorem dX7_olds_12 : decode cX7_olds 12 = .ok (.iload_n 1, 1) := by decide +kernel
theorem dX7_olds_13 : decode cX7_olds 13 = .ok (.aload_n 0, 1) := by decide +kernel
theorem dX7_olds_14 : decode cX7_olds 14 = .ok (.getfield 33, 3) := by decide +kernel
theorem dX7_olds_17 : decode cX7_olds 17 = .ok (.iload_n 2, 1) := by decide +kernel
theorem dX7_olds_18 : decode cX7_olds 18 = .ok (.baload, 1) := by decide +kernel
theorem dX7_olds_19 : decode cX7_olds 19 = .ok (.invokestatic 124, 3) := by decide +kernel
theorem dX7_olds_22 : decode cX7_olds 22 = .ok (.iload_n 2, 1) := by decide +kernel
theorem dX7_olds_23 : decode cX7_olds 23 = .ok (.ishl, 1) := by decide +kernel
theorem dX7_olds_24 : decode cX7_olds 24 = .ok (.ior, 1) := by decide +kernel
theorem dX7_olds_25 : decode cX7_olds 25 = .ok (.istore_n 1, 1) := by decide +kernel
theorem dX7_olds_26 : decode cX7_olds 26 = .ok (.iinc 2 1, 3) := by decide +kernel
theorem dX7_olds_29 : decode cX7_olds 29 = .ok (.goto (-25), 3) := by decide +kernel
theorem dX7_olds_32 : decode cX7_olds 32 = .ok (.iload_n 1, 1) := by decide +kernel
theorem dX7_olds_33 : decode cX7_olds 33 = .ok (.ireturn, 1) := by decide +kernel
theorem dX7_goDown_0 : decode cX7_goDown 0 = .ok (.aload_n 0, 1) := by decide +kernel
theorem dX7_goDown_1 : decode cX7_goDown 1 = .ok (.invokevirtual 153, 3) := by decide +kernel
theorem dX7_goDown_4 : decode cX7_goDown 4 = .ok (.istore_n 3, 1) := by decide +kernel
theorem dX7_goDown_5 : decode cX7_goDown 5 = .ok (.aload_n 0, 1) := by decide +kernel
theorem dX7_goDown_6 : decode cX7_goDown 6 = .ok (.iconst 0, 1) := by decide +kernel
theorem dX7_goDown_7 : decode cX7_goDown 7 = .ok (.putfield 157, 3) := by decide +kernel
theorem dX7_goDown_10 : decode cX7_goDown 10 = .ok (.aload_n 0, 1) := by decide +kernel
theorem dX7_goDown_11 : decode cX7_goDown 11 = .ok (.iconst 0, 1) := by decide +kernel
theorem dX7_goDown_12 : decode cX7_goDown 12 = .ok (.putfield 160, 3) := by decide +kernel
theorem dX7_goDown_15 : decode cX7_goDown 15 = .ok (.aload_n 0, 1) := by decide +kernel
theorem dX7_goDown_16 : decode cX7_goDown 16 = .ok (.iconst 0, 1) := by decide +kernel
theorem dX7_goDown_17 : decode cX7_goDown 17 = .ok (.putfield 163, 3) := by decide +kernel
theorem dX7_goDown_20 : decode cX7_goDown 20 = .ok (.aload_n 0, 1) := by decide +kernel
theorem dX7_goDown_21 : decode cX7_goDown 21 = .ok (.getfield 42, 3) := by decide +kernel
theorem dX7_goDown_24 : decode cX7_goDown 24 = .ok (.istore 4, 2) := by decide +kernel
theorem dX7_goDown_26 : decode cX7_goDown 26 = .ok (.aload_n 0, 1) := by decide +kernel
theorem dX7_goDown_27 : decode cX7_goDown 27 = .ok (.getfield 42, 3) := by decide +kernel
theorem dX7_goDown_30 : decode cX7_goDown 30 = .ok (.istore 5, 2) := by decide +kernel
theorem dX7_goDown_32 : decode cX7_goDown 32 = .ok (.aload_n 0, 1) := by decide +kernel
theorem dX7_goDown_33 : decode cX7_goDown 33 = .ok (.getfield 157, 3) := by decide +kernel
theorem dX7_goDown_36 : decode cX7_goDown 36 = .ok (.aload_n 0, 1) := by decide +kernel
theorem dX7_goDown_37 : decode cX7_goDown 37 = .ok (.getfield 160, 3) := by decide +kernel
theorem dX7_goDown_40 : decode cX7_goDown 40 = .ok (.ior, 1) := by decide +kernel
theorem dX7_goDown_41 : decode cX7_goDown 41 = .ok (.iload_n 3, 1) := by decide +kernel
theorem dX7_goDown_42 : decode cX7_goDown 42 = .ok (.if_icmp .eq 242, 3) := by decide +kernel
theorem dX7_goDown_45 : decode cX7_goDown 45 = .ok (.iconst 0, 1) := by decide +kernel
theorem dX7_goDown_46 : decode cX7_goDown 46 = .ok (.istore 6, 2) := by decide +kernel
theorem dX7_goDown_48 : decode cX7_goDown 48 = .ok (.iload 6, 2) := by decide +kernel
theorem dX7_goDown_50 : decode cX7_goDown 50 = .ok (.aload_n 0, 1) := by decide +kernel
theorem dX7_goDown_51 : decode cX7_goDown 51 = .ok (.getfield 87, 3) := by decide +kernel
theorem dX7_goDown_54 : decode cX7_goDown 54 = .ok (.if_icmp .ge 191, 3) := by decide +kernel
theorem dX7_goDown_57 : decode cX7_goDown 57 = .ok (.aload_n 0, 1) := by decide +kernel
theorem dX7_goDown_58 : decode cX7_goDown 58 = .ok (.getfield 48, 3) := by decide +kernel
theorem dX7_goDown_61 : decode cX7_goDown 61 = .ok (.iload 6, 2) := by decide +kernel
theorem dX7_goDown_63 : decode cX7_goDown 63 = .ok (.aload_n 0, 1) := by decide +kernel
theorem dX7_goDown_64 : decode cX7_goDown 64 = .ok (.getfield 160, 3) := by decide +kernel
theorem dX7_goDown_67 : decode cX7_goDown 67 = .ok (.iload 6, 2) := by decide +kernel
theorem dX7_goDown_69 : decode cX7_goDown 69 = .ok (.ishr, 1) := by decide +kernel
theorem dX7_goDown_70 : decode cX7_goDown 70 = .ok (.iconst 1, 1) := by decide +kernel
theorem dX7_goDown_71 : decode cX7_goDown 71 = .ok (.iand, 1) := by decide +kernel
theorem dX7_goDown_72 : decode cX7_goDown 72 = .ok (.iconst 1, 1) := by decide +kernel
theorem dX7_goDown_73 : decode cX7_goDown 73 = .ok (.if_icmp .ne 13, 3) := by decide +kernel
theorem dX7_goDown_76 : decode cX7_goDown 76 = .ok (.aload_n 0, 1) := by decide +kernel
theorem dX7_goDown_77 : decode cX7_goDown 77 = .ok (.getfield 48, 3) := by decide +kernel
theorem dX7_goDown_80 : decode cX7_goDown 80 = .ok (.iload 6, 2) := by decide +kernel
theorem dX7_goDown_82 : decode cX7_goDown 82 = .ok (.iaload, 1) := by decide +kernel
theorem dX7_goDown_83 : decode cX7_goDown 83 = .ok (.goto 4, 3) := by decide +kernel
theorem dX7_goDown_86 : decode cX7_goDown 86 = .ok (.iconst 0, 1) := by decide +kernel
theorem dX7_goDown_87 : decode cX7_goDown 87 = .ok (.iastore, 1) := by decide +kernel
theorem dX7_goDown_88 : decode cX7_goDown 88 = .ok (.iload_n 3, 1) := by decide +kernel
theorem dX7_goDown_89 : decode cX7_goDown 89 = .ok (.iload 6, 2) := by decide +kernel
theorem dX7_goDown_91 : decode cX7_goDown 91 = .ok (.ishr, 1) := by decide +kernel
theorem dX7_goDown_92 : decode cX7_goDown 92 = .ok (.iconst 1, 1) := by decide +kernel
theorem dX7_goDown_93 : decode cX7_goDown 93 = .ok (.iand, 1) := by decide +kernel
theorem dX7_goDown_94 : decode cX7_goDown 94 = .ok (.iconst 1, 1) := by decide +kernel
theorem dX7_goDown_95 : decode cX7_goDown 95 = .ok (.if_icmp .ne 144, 3) := by decide +kernel
theorem dX7_goDown_98 : decode cX7_goDown 98 = .ok (.aload_n 0, 1) := by decide +kernel
theorem dX7_goDown_99 : decode cX7_goDown 99 = .ok (.getfield 157, 3) := by decide +kernel
theorem dX7_goDown_102 : decode cX7_goDown 102 = .ok (.aload_n 0, 1) := by decide +kernel
theorem dX7_goDown_103 : decode cX7_goDown 103 = .ok (.getfield 160, 3) := by decide +kernel
theorem dX7_goDown_106 : decode cX7_goDown 106 = .ok (.ior, 1) := by decide +kernel
theorem dX7_goDown_107 : decode cX7_goDown 107 = .ok (.iload 6, 2) := by decide +kernel
theorem dX7_goDown_109 : decode cX7_goDown 109 = .ok (.ishr, 1) := by decide +kernel
theorem dX7_goDown_110 : decode cX7_goDown 110 = .ok (.iconst 1, 1) := by decide +kernel
theorem dX7_goDown_111 : decode cX7_goDown 111 = .ok (.iand, 1) := by decide +kernel
theorem dX7_goDown_112 : decode cX7_goDown 112 = .ok (.ifCond .ne 127, 3) := by decide +kernel
theorem dX7_goDown_115 : decode cX7_goDown 115 = .ok (.iload 6, 2) := by decide +kernel
theorem dX7_goDown_117 : decode cX7_goDown 117 = .ok (.iload_n 1, 1) := by decide +kernel
theorem dX7_goDown_118 : decode cX7_goDown 118 = .ok (.if_icmp .ne 7, 3) := by decide +kernel
theorem dX7_goDown_121 : decode cX7_goDown 121 = .ok (.iload_n 2, 1) := by decide +kernel
theorem dX7_goDown_122 : decode cX7_goDown 122 = .ok (.goto 10, 3) := by decide +kernel
theorem dX7_goDown_125 : decode cX7_goDown 125 = .ok (.aload_n 0, 1) := by decide +kernel
theorem dX7_goDown_126 : decode cX7_goDown 126 = .ok (.getfield 36, 3) := by decide +kernel
theorem dX7_goDown_129 : decode cX7_goDown 129 = .ok (.iload 6, 2) := by decide +kernel
theorem dX7_goDown_131 : decode cX7_goDown 131 = .ok (.iaload, 1) := by decide +kernel
theorem dX7_goDown_132 : decode cX7_goDown 132 = .ok (.istore 7, 2) := by decide +kernel
theorem dX7_goDown_134 : decode cX7_goDown 134 = .ok (.aload_n 0, 1) := by decide +kernel
theorem dX7_goDown_135 : decode cX7_goDown 135 = .ok (.aload_n 0, 1) := by decide +kernel
theorem dX7_goDown_136 : decode cX7_goDown 136 = .ok (.getfield 157, 3) := by decide +kernel
theorem dX7_goDown_139 : decode cX7_goDown 139 = .ok (.iconst 1, 1) := by decide +kernel
theorem dX7_goDown_140 : decode cX7_goDown 140 = .ok (.iload 6, 2) := by decide +kernel
theorem dX7_goDown_142 : decode cX7_goDown 142 = .ok (.ishl, 1) := by decide +kernel
theorem dX7_goDown_143 : decode cX7_goDown 143 = .ok (.ior, 1) := by decide +kernel
theorem dX7_goDown_144 : decode cX7_goDown 144 = .ok (.invokevirtual 134, 3) := by decide +kernel
theorem dX7_goDown_147 : decode cX7_goDown 147 = .ok (.iconst 1, 1) := by decide +kernel
theorem dX7_goDown_148 : decode cX7_goDown 148 = .ok (.if_icmp .eq 47, 3) := by decide +kernel
theorem dX7_goDown_151 : decode cX7_goDown 151 = .ok (.aload_n 0, 1) := by decide +kernel
theorem dX7_goDown_152 : decode cX7_goDown 152 = .ok (.dup, 1) := by decide +kernel
theorem dX7_goDown_153 : decode cX7_goDown 153 = .ok (.getfield 160, 3) := by decide +kernel
theorem dX7_goDown_156 : decode cX7_goDown 156 = .ok (.iconst 1, 1) := by decide +kernel
theorem dX7_goDown_157 : decode cX7_goDown 157 = .ok (.iload 6, 2) := by decide +kernel
theorem dX7_goDown_159 : decode cX7_goDown 159 = .ok (.ishl, 1) := by decide +kernel
theorem dX7_goDown_160 : decode cX7_goDown 160 = .ok (.ior, 1) := by decide +kernel
theorem dX7_goDown_161 : decode cX7_goDown 161 = .ok (.putfield 160, 3) := by decide +kernel
theorem dX7_goDown_164 : decode cX7_goDown 164 = .ok (.aload_n 0, 1) := by decide +kernel
theorem dX7_goDown_165 : decode cX7_goDown 165 = .ok (.getfield 48, 3) := by decide +kernel
theorem dX7_goDown_168 : decode cX7_goDown 168 = .ok (.iload 6, 2) := by decide +kernel
theorem dX7_goDown_170 : decode cX7_goDown 170 = .ok (.iload 5, 2) := by decide +kernel
theorem dX7_goDown_172 : decode cX7_goDown 172 = .ok (.aload_n 0, 1) := by decide +kernel
theorem dX7_goDown_173 : decode cX7_goDown 173 = .ok (.getfield 39, 3) := by decide +kernel
theorem dX7_goDown_176 : decode cX7_goDown 176 = .ok (.iload 6, 2) := by decide +kernel
theorem dX7_goDown_178 : decode cX7_goDown 178 = .ok (.iaload, 1) := by decide +kernel
theorem dX7_goDown_179 : decode cX7_goDown 179 = .ok (.imul, 1) := by decide +kernel
theorem dX7_goDown_180 : decode cX7_goDown 180 = .ok (.iastore, 1) := by decide +kernel
theorem dX7_goDown_181 : decode cX7_goDown 181 = .ok (.aload_n 0, 1) := by decide +kernel
theorem dX7_goDown_182 : decode cX7_goDown 182 = .ok (.getfield 51, 3) := by decide +kernel
theorem dX7_goDown_185 : decode cX7_goDown 185 = .ok (.iload 6, 2) := by decide +kernel
theorem dX7_goDown_187 : decode cX7_goDown 187 = .ok (.aload_n 0, 1) := by decide +kernel
theorem dX7_goDown_188 : decode cX7_goDown 188 = .ok (.getfield 163, 3) := by decide +kernel
theorem dX7_goDown_191 : decode cX7_goDown 191 = .ok (.iastore, 1) := by decide +kernel
theorem dX7_goDown_192 : decode cX7_goDown 192 = .ok (.goto 47, 3) := by decide +kernel
theorem dX7_goDown_195 : decode cX7_goDown 195 = .ok (.iload 4, 2) := by decide +kernel
theorem dX7_goDown_197 : decode cX7_goDown 197 = .ok (.aload_n 0, 1) := by decide +kernel
theorem dX7_goDown_198 : decode cX7_goDown 198 = .ok (.getfield 39, 3) := by decide +kernel
theorem dX7_goDown_201 : decode cX7_goDown 201 = .ok (.iload 6, 2) := by decide +kernel
theorem dX7_goDown_203 : decode cX7_goDown 203 = .ok (.iaload, 1) := by decide +kernel
theorem dX7_goDown_204 : decode cX7_goDown 204 = .ok (.imul, 1) := by decide +kernel
theorem dX7_goDown_205 : decode cX7_goDown 205 = .ok (.iload 7, 2) := by decide +kernel
theorem dX7_goDown_207 : decode cX7_goDown 207 = .ok (.if_icmp .lt 8, 3) := by decide +kernel
theorem dX7_goDown_210 : decode cX7_goDown 210 = .ok (.iload 4, 2) := by decide +kernel
theorem dX7_goDown_212 : decode cX7_goDown 212 = .ok (.ifCond .ne 27, 3) := by decide +kernel
theorem dX7_goDown_215 : decode cX7_goDown 215 = .ok (.aload_n 0, 1) := by decide +kernel
theorem dX7_goDown_216 : decode cX7_goDown 216 = .ok (.dup, 1) := by decide +kernel
theorem dX7_goDown_217 : decode cX7_goDown 217 = .ok (.getfield 157, 3) := by decide +kernel
theorem dX7_goDown_220 : decode cX7_goDown 220 = .ok (.iconst 1, 1) := by decide +kernel
theorem dX7_goDown_221 : decode cX7_goDown 221 = .ok (.iload 6, 2) := by decide +kernel
theorem dX7_goDown_223 : decode cX7_goDown 223 = .ok (.ishl, 1) := by decide +kernel
theorem dX7_goDown_224 : decode cX7_goDown 224 = .ok (.ior, 1) := by decide +kernel
theorem dX7_goDown_225 : decode cX7_goDown 225 = .ok (.putfield 157, 3) := by decide +kernel
theorem dX7_goDown_228 : decode cX7_goDown 228 = .ok (.aload_n 0, 1) := by decide +kernel
theorem dX7_goDown_229 : decode cX7_goDown 229 = .ok (.getfield 51, 3) := by decide +kernel
theorem dX7_goDown_232 : decode cX7_goDown 232 = .ok (.iload 6, 2) := by decide +kernel
theorem dX7_goDown_234 : decode cX7_goDown 234 = .ok (.aload_n 0, 1) := by decide +kernel
theorem dX7_goDown_235 : decode cX7_goDown 235 = .ok (.getfield 163, 3) := by decide +kernel
theorem dX7_goDown_238 : decode cX7_goDown 238 = .ok (.iastore, 1) := by decide +kernel
theorem dX7_goDown_239 : decode cX7_goDown 239 = .ok (.iinc 6 1, 3) := by decide +kernel
theorem dX7_goDown_242 : decode cX7_goDown 242 = .ok (.goto (-194), 3) := by decide +kernel
theorem dX7_goDown_245 : decode cX7_goDown 245 = .ok (.aload_n 0, 1) := by decide +kernel
theorem dX7_goDown_246 : decode cX7_goDown 246 = .ok (.dup, 1) := by decide +kernel
theorem dX7_goDown_247 : decode cX7_goDown 247 = .ok (.getfield 163, 3) := by decide +kernel
theorem dX7_goDown_250 : decode cX7_goDown 250 = .ok (.iconst 1, 1) := by decide +kernel
theorem dX7_goDown_251 : decode cX7_goDown 251 = .ok (.iadd, 1) := by decide +kernel
theorem dX7_goDown_252 : decode cX7_goDown 252 = .ok (.putfield 163, 3) := by decide +kernel
theorem dX7_goDown_255 : decode cX7_goDown 255 = .ok (.iload 4, 2) := by decide +kernel
theorem dX7_goDown_257 : decode cX7_goDown 257 = .ok (.istore 5, 2) := by decide +kernel
theorem dX7_goDown_259 : decode cX7_goDown 259 = .ok (.iload 4, 2) := by decide +kernel
theorem dX7_goDown_261 : decode cX7_goDown 261 = .ok (.aload_n 0, 1) := by decide +kernel
theorem dX7_goDown_262 : decode cX7_goDown 262 = .ok (.getfield 45, 3) := by decide +kernel
theorem dX7_goDown_265 : decode cX7_goDown 265 = .ok (.if_icmp .le 13, 3) := by decide +kernel
theorem dX7_goDown_268 : decode cX7_goDown 268 = .ok (.iload 4, 2) := by decide +kernel
theorem dX7_goDown_270 : decode cX7_goDown 270 = .ok (.aload_n 0, 1) := by decide +kernel
theorem dX7_goDown_271 : decode cX7_goDown 271 = .ok (.getfield 45, 3) := by decide +kernel
theorem dX7_goDown_274 : decode cX7_goDown 274 = .ok (.isub, 1) := by decide +kernel
theorem dX7_goDown_275 : decode cX7_goDown 275 = .ok (.goto 4, 3) := by decide +kernel
theorem dX7_goDown_278 : decode cX7_goDown 278 = .ok (.iconst 0, 1) := by decide +kernel
theorem dX7_goDown_279 : decode cX7_goDown 279 = .ok (.istore 4, 2) := by decide +kernel
theorem dX7_goDown_281 : decode cX7_goDown 281 = .ok (.goto (-249), 3) := by decide +kernel
theorem dX7_goDown_284 : decode cX7_goDown 284 = .ok (.return_, 1) := by decide +kernel
theorem dX7_paidAll_0 : decode cX7_paidAll 0 = .ok (.iconst 0, 1) := by decide +kernel
theorem dX7_paidAll_1 : decode cX7_paidAll 1 = .ok (.istore_n 1, 1) := by decide +kernel
theorem dX7_paidAll_2 : decode cX7_paidAll 2 = .ok (.iconst 0, 1) := by decide +kernel
theorem dX7_paidAll_3 : decode cX7_paidAll 3 = .ok (.istore_n 2, 1) := by decide +kernel
theorem dX7_paidAll_4 : decode cX7_paidAll 4 = .ok (.iload_n 2, 1) := by decide +kernel
theorem dX7_paidAll_5 : decode cX7_paidAll 5 = .ok (.aload_n 0, 1) := by decide +kernel
theorem dX7_paidAll_6 : decode cX7_paidAll 6 = .ok (.getfield 87, 3) := by decide +kernel
theorem dX7_paidAll_9 : decode cX7_paidAll 9 = .ok (.if_icmp .ge 34, 3) := by decide +kernel
theorem dX7_paidAll_12 : decode cX7_paidAll 12 = .ok (.iload_n 1, 1) := by decide +kernel
theorem dX7_paidAll_13 : decode cX7_paidAll 13 = .ok (.aload_n 0, 1) := by decide +kernel
theorem dX7_paidAll_14 : decode cX7_paidAll 14 = .ok (.getfield 160, 3) := by decide +kernel
theorem dX7_paidAll_17 : decode cX7_paidAll 17 = .ok (.iload_n 2, 1) := by decide +kernel
theorem dX7_paidAll_18 : decode cX7_paidAll 18 = .ok (.ishr, 1) := by decide +kernel
theorem dX7_paidAll_19 : decode cX7_paidAll 19 = .ok (.iconst 1, 1) := by decide +kernel
theorem dX7_paidAll_20 : decode cX7_paidAll 20 = .ok (.iand, 1) := by decide +kernel
theorem dX7_paidAll_21 : decode cX7_paidAll 21 = .ok (.iconst 1, 1) := by decide +kernel
theorem dX7_paidAll_22 : decode cX7_paidAll 22 = .ok (.if_icmp .ne 12, 3) := by decide +kernel
theorem dX7_paidAll_25 : decode cX7_paidAll 25 = .ok (.aload_n 0, 1) := by decide +kernel
theorem dX7_paidAll_26 : decode cX7_paidAll 26 = .ok (.getfield 48, 3) := by decide +kernel
theorem dX7_paidAll_29 : decode cX7_paidAll 29 = .ok (.iload_n 2, 1) := by decide +kernel
theorem dX7_paidAll_30 : decode cX7_paidAll 30 = .ok (.iaload, 1) := by decide +kernel
theorem dX7_paidAll_31 : decode cX7_paidAll 31 = .ok (.goto 4, 3) := by decide +kernel
theorem dX7_paidAll_34 : decode cX7_paidAll 34 = .ok (.iconst 0, 1) := by decide +kernel
theorem dX7_paidAll_35 : decode cX7_paidAll 35 = .ok (.iadd, 1) := by decide +kernel
theorem dX7_paidAll_36 : decode cX7_paidAll 36 = .ok (.istore_n 1, 1) := by decide +kernel
theorem dX7_paidAll_37 : decode cX7_paidAll 37 = .ok (.iinc 2 1, 3) := by decide +kernel
theorem dX7_paidAll_40 : decode cX7_paidAll 40 = .ok (.goto (-36), 3) := by decide +kernel
theorem dX7_paidAll_43 : decode cX7_paidAll 43 = .ok (.iload_n 1, 1) := by decide +kernel
theorem dX7_paidAll_44 : decode cX7_paidAll 44 = .ok (.ireturn, 1) := by decide +kernel
theorem dX7_run_0 : decode cX7_run 0 = .ok (.iload_n 1, 1) := by decide +kernel
theorem dX7_run_1 : decode cX7_run 1 = .ok (.i2l, 1) := by decide +kernel
theorem dX7_run_2 : decode cX7_run 2 = .ok (.lconst 0, 1) := by decide +kernel
theorem dX7_run_3 : decode cX7_run 3 = .ok (.ldc2_w 166, 3) := by decide +kernel
theorem dX7_run_6 : decode cX7_run 6 = .ok (.invokestatic 90, 3) := by decide +kernel
theorem dX7_run_9 : decode cX7_run 9 = .ok (.ifCond .ne 6, 3) := by decide +kernel
theorem dX7_run_12 : decode cX7_run 12 = .ok (.bipush (-2), 2) := by decide +kernel
theorem dX7_run_14 : decode cX7_run 14 = .ok (.ireturn, 1) := by decide +kernel
theorem dX7_run_15 : decode cX7_run 15 = .ok (.aload_n 0, 1) := by decide +kernel
theorem dX7_run_16 : decode cX7_run 16 = .ok (.iconst (-1), 1) := by decide +kernel
theorem dX7_run_17 : decode cX7_run 17 = .ok (.iconst 0, 1) := by decide +kernel
theorem dX7_run_18 : decode cX7_run 18 = .ok (.invokevirtual 168, 3) := by decide +kernel
theorem dX7_run_21 : decode cX7_run 21 = .ok (.iload_n 1, 1) := by decide +kernel
theorem dX7_run_22 : decode cX7_run 22 = .ok (.ifCond .ne 10, 3) := by decide +kernel
theorem dX7_run_25 : decode cX7_run 25 = .ok (.aload_n 0, 1) := by decide +kernel
theorem dX7_run_26 : decode cX7_run 26 = .ok (.getfield 157, 3) := by decide +kernel
theorem dX7_run_29 : decode cX7_run 29 = .ok (.goto 31, 3) := by decide +kernel
theorem dX7_run_32 : decode cX7_run 32 = .ok (.iload_n 1, 1) := by decide +kernel
theorem dX7_run_33 : decode cX7_run 33 = .ok (.iconst 1, 1) := by decide +kernel
theorem dX7_run_34 : decode cX7_run 34 = .ok (.if_icmp .ne 10, 3) := by decide +kernel
theorem dX7_run_37 : decode cX7_run 37 = .ok (.aload_n 0, 1) := by decide +kernel
theorem dX7_run_38 : decode cX7_run 38 = .ok (.getfield 160, 3) := by decide +kernel
theorem dX7_run_41 : decode cX7_run 41 = .ok (.goto 19, 3) := by decide +kernel
theorem dX7_run_44 : decode cX7_run 44 = .ok (.iload_n 1, 1) := by decide +kernel
theorem dX7_run_45 : decode cX7_run 45 = .ok (.iconst 2, 1) := by decide +kernel
theorem dX7_run_46 : decode cX7_run 46 = .ok (.if_icmp .ne 10, 3) := by decide +kernel
theorem dX7_run_49 : decode cX7_run 49 = .ok (.aload_n 0, 1) := by decide +kernel
theorem dX7_run_50 : decode cX7_run 50 = .ok (.getfield 163, 3) := by decide +kernel
theorem dX7_run_53 : decode cX7_run 53 = .ok (.goto 7, 3) := by decide +kernel
theorem dX7_run_56 : decode cX7_run 56 = .ok (.aload_n 0, 1) := by decide +kernel
theorem dX7_run_57 : decode cX7_run 57 = .ok (.invokevirtual 172, 3) := by decide +kernel
theorem dX7_run_60 : decode cX7_run 60 = .ok (.ireturn, 1) := by decide +kernel
theorem dX7_noOld_0 : decode cX7_noOld 0 = .ok (.aload_n 0, 1) := by decide +kernel
theorem dX7_noOld_1 : decode cX7_noOld 1 = .ok (.iload_n 1, 1) := by decide +kernel
theorem dX7_noOld_2 : decode cX7_noOld 2 = .ok (.invokevirtual 96, 3) := by decide +kernel
theorem dX7_noOld_5 : decode cX7_noOld 5 = .ok (.ifCond .ne 12, 3) := by decide +kernel
theorem dX7_noOld_8 : decode cX7_noOld 8 = .ok (.aload_n 0, 1) := by decide +kernel
theorem dX7_noOld_9 : decode cX7_noOld 9 = .ok (.getfield 33, 3) := by decide +kernel
theorem dX7_noOld_12 : decode cX7_noOld 12 = .ok (.iload_n 1, 1) := by decide +kernel
theorem dX7_noOld_13 : decode cX7_noOld 13 = .ok (.baload, 1) := by decide +kernel
theorem dX7_noOld_14 : decode cX7_noOld 14 = .ok (.ifCond .ne 7, 3) := by decide +kernel
theorem dX7_noOld_17 : decode cX7_noOld 17 = .ok (.iconst 1, 1) := by decide +kernel
theorem dX7_noOld_18 : decode cX7_noOld 18 = .ok (.goto 4, 3) := by decide +kernel
theorem dX7_noOld_21 : decode cX7_noOld 21 = .ok (.iconst 0, 1) := by decide +kernel
theorem dX7_noOld_22 : decode cX7_noOld 22 = .ok (.ireturn, 1) := by decide +kernel
theorem dX7_paid_0 : decode cX7_paid 0 = .ok (.aload_n 0, 1) := by decide +kernel
theorem dX7_paid_1 : decode cX7_paid 1 = .ok (.iload_n 1, 1) := by decide +kernel
theorem dX7_paid_2 : decode cX7_paid 2 = .ok (.invokevirtual 175, 3) := by decide +kernel
theorem dX7_paid_5 : decode cX7_paid 5 = .ok (.ifCond .eq 6, 3) := by decide +kernel
theorem dX7_paid_8 : decode cX7_paid 8 = .ok (.bipush (-2), 2) := by decide +kernel
theorem dX7_paid_10 : decode cX7_paid 10 = .ok (.ireturn, 1) := by decide +kernel
theorem dX7_paid_11 : decode cX7_paid 11 = .ok (.aload_n 0, 1) := by decide +kernel
theorem dX7_paid_12 : decode cX7_paid 12 = .ok (.iconst (-1), 1) := by decide +kernel
theorem dX7_paid_13 : decode cX7_paid 13 = .ok (.iconst 0, 1) := by decide +kernel
theorem dX7_paid_14 : decode cX7_paid 14 = .ok (.invokevirtual 168, 3) := by decide +kernel
theorem dX7_paid_17 : decode cX7_paid 17 = .ok (.aload_n 0, 1) := by decide +kernel
theorem dX7_paid_18 : decode cX7_paid 18 = .ok (.getfield 160, 3) := by decide +kernel
theorem dX7_paid_21 : decode cX7_paid 21 = .ok (.iload_n 1, 1) := by decide +kernel
theorem dX7_paid_22 : decode cX7_paid 22 = .ok (.ishr, 1) := by decide +kernel
theorem dX7_paid_23 : decode cX7_paid 23 = .ok (.iconst 1, 1) := by decide +kernel
theorem dX7_paid_24 : decode cX7_paid 24 = .ok (.iand, 1) := by decide +kernel
theorem dX7_paid_25 : decode cX7_paid 25 = .ok (.iconst 1, 1) := by decide +kernel
theorem dX7_paid_26 : decode cX7_paid 26 = .ok (.if_icmp .ne 12, 3) := by decide +kernel
theorem dX7_paid_29 : decode cX7_paid 29 = .ok (.aload_n 0, 1) := by decide +kernel
theorem dX7_paid_30 : decode cX7_paid 30 = .ok (.getfield 48, 3) := by decide +kernel
theorem dX7_paid_33 : decode cX7_paid 33 = .ok (.iload_n 1, 1) := by decide +kernel
theorem dX7_paid_34 : decode cX7_paid 34 = .ok (.iaload, 1) := by decide +kernel
theorem dX7_paid_35 : decode cX7_paid 35 = .ok (.goto 4, 3) := by decide +kernel
theorem dX7_paid_38 : decode cX7_paid 38 = .ok (.iconst 0, 1) := by decide +kernel
theorem dX7_paid_39 : decode cX7_paid 39 = .ok (.ireturn, 1) := by decide +kernel
theorem dX7_round_0 : decode cX7_round 0 = .ok (.aload_n 0, 1) := by decide +kernel
theorem dX7_round_1 : decode cX7_round 1 = .ok (.iload_n 1, 1) := by decide +kernel
theorem dX7_round_2 : decode cX7_round 2 = .ok (.invokevirtual 175, 3) := by decide +kernel
theorem dX7_round_5 : decode cX7_round 5 = .ok (.ifCond .eq 6, 3) := by decide +kernel
theorem dX7_round_8 : decode cX7_round 8 = .ok (.bipush (-2), 2) := by decide +kernel
theorem dX7_round_10 : decode cX7_round 10 = .ok (.ireturn, 1) := by decide +kernel
theorem dX7_round_11 : decode cX7_round 11 = .ok (.aload_n 0, 1) := by decide +kernel
theorem dX7_round_12 : decode cX7_round 12 = .ok (.iconst (-1), 1) := by decide +kernel
theorem dX7_round_13 : decode cX7_round 13 = .ok (.iconst 0, 1) := by decide +kernel
theorem dX7_round_14 : decode cX7_round 14 = .ok (.invokevirtual 168, 3) := by decide +kernel
theorem dX7_round_17 : decode cX7_round 17 = .ok (.aload_n 0, 1) := by decide +kernel
theorem dX7_round_18 : decode cX7_round 18 = .ok (.getfield 51, 3) := by decide +kernel
theorem dX7_round_21 : decode cX7_round 21 = .ok (.iload_n 1, 1) := by decide +kernel
theorem dX7_round_22 : decode cX7_round 22 = .ok (.iaload, 1) := by decide +kernel
theorem dX7_round_23 : decode cX7_round 23 = .ok (.ireturn, 1) := by decide +kernel
theorem dX7_wins_0 : decode cX7_wins 0 = .ok (.aload_n 0, 1) := by decide +kernel
theorem dX7_wins_1 : decode cX7_wins 1 = .ok (.iload_n 1, 1) := by decide +kernel
theorem dX7_wins_2 : decode cX7_wins 2 = .ok (.iload_n 2, 1) := by decide +kernel
theorem dX7_wins_3 : decode cX7_wins 3 = .ok (.invokevirtual 168, 3) := by decide +kernel
theorem dX7_wins_6 : decode cX7_wins 6 = .ok (.aload_n 0, 1) := by decide +kernel
theorem dX7_wins_7 : decode cX7_wins 7 = .ok (.getfield 160, 3) := by decide +kernel
theorem dX7_wins_10 : decode cX7_wins 10 = .ok (.iload_n 1, 1) := by decide +kernel
theorem dX7_wins_11 : decode cX7_wins 11 = .ok (.ishr, 1) := by decide +kernel
theorem dX7_wins_12 : decode cX7_wins 12 = .ok (.iconst 1, 1) := by decide +kernel
theorem dX7_wins_13 : decode cX7_wins 13 = .ok (.iand, 1) := by decide +kernel
theorem dX7_wins_14 : decode cX7_wins 14 = .ok (.iconst 1, 1) := by decide +kernel
theorem dX7_wins_15 : decode cX7_wins 15 = .ok (.if_icmp .ne 19, 3) := by decide +kernel
theorem dX7_wins_18 : decode cX7_wins 18 = .ok (.aload_n 0, 1) := by decide +kernel
theorem dX7_wins_19 : decode cX7_wins 19 = .ok (.getfield 48, 3) := by decide +kernel
theorem dX7_wins_22 : decode cX7_wins 22 = .ok (.iload_n 1, 1) := by decide +kernel
theorem dX7_wins_23 : decode cX7_wins 23 = .ok (.iaload, 1) := by decide +kernel
theorem dX7_wins_24 : decode cX7_wins 24 = .ok (.aload_n 0, 1) := by decide +kernel
theorem dX7_wins_25 : decode cX7_wins 25 = .ok (.getfield 36, 3) := by decide +kernel
theorem dX7_wins_28 : decode cX7_wins 28 = .ok (.iload_n 1, 1) := by decide +kernel
theorem dX7_wins_29 : decode cX7_wins 29 = .ok (.iaload, 1) := by decide +kernel
theorem dX7_wins_30 : decode cX7_wins 30 = .ok (.isub, 1) := by decide +kernel
theorem dX7_wins_31 : decode cX7_wins 31 = .ok (.goto 4, 3) := by decide +kernel
theorem dX7_wins_34 : decode cX7_wins 34 = .ok (.iconst 0, 1) := by decide +kernel
theorem dX7_wins_35 : decode cX7_wins 35 = .ok (.ireturn, 1) := by decide +kernel
theorem dX7_gain_0 : decode cX7_gain 0 = .ok (.aload_n 0, 1) := by decide +kernel
theorem dX7_gain_1 : decode cX7_gain 1 = .ok (.iload_n 1, 1) := by decide +kernel
theorem dX7_gain_2 : decode cX7_gain 2 = .ok (.invokevirtual 175, 3) := by decide +kernel
theorem dX7_gain_5 : decode cX7_gain 5 = .ok (.ifCond .ne 15, 3) := by decide +kernel
theorem dX7_gain_8 : decode cX7_gain 8 = .ok (.iload_n 2, 1) := by decide +kernel
theorem dX7_gain_9 : decode cX7_gain 9 = .ok (.i2l, 1) := by decide +kernel
theorem dX7_gain_10 : decode cX7_gain 10 = .ok (.lconst 0, 1) := by decide +kernel
theorem dX7_gain_11 : decode cX7_gain 11 = .ok (.ldc2_w 147, 3) := by decide +kernel
theorem dX7_gain_14 : decode cX7_gain 14 = .ok (.invokestatic 90, 3) := by decide +kernel
theorem dX7_gain_17 : decode cX7_gain 17 = .ok (.ifCond .ne 6, 3) := by decide +kernel
theorem dX7_gain_20 : decode cX7_gain 20 = .ok (.ldc 178, 2) := by decide +kernel
theorem dX7_gain_22 : decode cX7_gain 22 = .ok (.ireturn, 1) := by decide +kernel
theorem dX7_gain_23 : decode cX7_gain 23 = .ok (.aload_n 0, 1) := by decide +kernel
theorem dX7_gain_24 : decode cX7_gain 24 = .ok (.iload_n 1, 1) := by decide +kernel
theorem dX7_gain_25 : decode cX7_gain 25 = .ok (.iload_n 2, 1) := by decide +kernel
theorem dX7_gain_26 : decode cX7_gain 26 = .ok (.invokevirtual 179, 3) := by decide +kernel
theorem dX7_gain_29 : decode cX7_gain 29 = .ok (.aload_n 0, 1) := by decide +kernel
theorem dX7_gain_30 : decode cX7_gain 30 = .ok (.iload_n 1, 1) := by decide +kernel
theorem dX7_gain_31 : decode cX7_gain 31 = .ok (.aload_n 0, 1) := by decide +kernel
theorem dX7_gain_32 : decode cX7_gain 32 = .ok (.getfield 36, 3) := by decide +kernel
theorem dX7_gain_35 : decode cX7_gain 35 = .ok (.iload_n 1, 1) := by decide +kernel
theorem dX7_gain_36 : decode cX7_gain 36 = .ok (.iaload, 1) := by decide +kernel
theorem dX7_gain_37 : decode cX7_gain 37 = .ok (.invokevirtual 179, 3) := by decide +kernel
theorem dX7_gain_40 : decode cX7_gain 40 = .ok (.isub, 1) := by decide +kernel
theorem dX7_gain_41 : decode cX7_gain 41 = .ok (.ireturn, 1) := by decide +kernel
theorem dX7_most_0 : decode cX7_most 0 = .ok (.aload_n 0, 1) := by decide +kernel
theorem dX7_most_1 : decode cX7_most 1 = .ok (.iload_n 1, 1) := by decide +kernel
theorem dX7_most_2 : decode cX7_most 2 = .ok (.invokevirtual 175, 3) := by decide +kernel
theorem dX7_most_5 : decode cX7_most 5 = .ok (.ifCond .ne 46, 3) := by decide +kernel
theorem dX7_most_8 : decode cX7_most 8 = .ok (.iload_n 2, 1) := by decide +kernel
theorem dX7_most_9 : decode cX7_most 9 = .ok (.i2l, 1) := by decide +kernel
theorem dX7_most_10 : decode cX7_most 10 = .ok (.lconst 0, 1) := by decide +kernel
theorem dX7_most_11 : decode cX7_most 11 = .ok (.ldc2_w 147, 3) := by decide +kernel
theorem dX7_most_14 : decode cX7_most 14 = .ok (.invokestatic 90, 3) := by decide +kernel
theorem dX7_most_17 : decode cX7_most 17 = .ok (.ifCond .eq 34, 3) := by decide +kernel
theorem dX7_most_20 : decode cX7_most 20 = .ok (.iload_n 3, 1) := by decide +kernel
theorem dX7_most_21 : decode cX7_most 21 = .ok (.i2l, 1) := by decide +kernel
theorem dX7_most_22 : decode cX7_most 22 = .ok (.lconst 1, 1) := by decide +kernel
theorem dX7_most_23 : decode cX7_most 23 = .ok (.ldc2_w 147, 3) := by decide +kernel
theorem dX7_most_26 : decode cX7_most 26 = .ok (.invokestatic 90, 3) := by decide +kernel
theorem dX7_most_29 : decode cX7_most 29 = .ok (.ifCond .eq 22, 3) := by decide +kernel
theorem dX7_most_32 : decode cX7_most 32 = .ok (.iload_n 2, 1) := by decide +kernel
theorem dX7_most_33 : decode cX7_most 33 = .ok (.iload_n 3, 1) := by decide +kernel
theorem dX7_most_34 : decode cX7_most 34 = .ok (.idiv, 1) := by decide +kernel
theorem dX7_most_35 : decode cX7_most 35 = .ok (.bipush 20, 2) := by decide +kernel
theorem dX7_most_37 : decode cX7_most 37 = .ok (.if_icmp .gt 14, 3) := by decide +kernel
theorem dX7_most_40 : decode cX7_most 40 = .ok (.iload 4, 2) := by decide +kernel
theorem dX7_most_42 : decode cX7_most 42 = .ok (.i2l, 1) := by decide +kernel
theorem dX7_most_43 : decode cX7_most 43 = .ok (.lconst 0, 1) := by decide +kernel
theorem dX7_most_44 : decode cX7_most 44 = .ok (.lconst 1, 1) := by decide +kernel
theorem dX7_most_45 : decode cX7_most 45 = .ok (.invokestatic 90, 3) := by decide +kernel
theorem dX7_most_48 : decode cX7_most 48 = .ok (.ifCond .ne 6, 3) := by decide +kernel
theorem dX7_most_51 : decode cX7_most 51 = .ok (.ldc 178, 2) := by decide +kernel
theorem dX7_most_53 : decode cX7_most 53 = .ok (.ireturn, 1) := by decide +kernel
theorem dX7_most_54 : decode cX7_most 54 = .ok (.aload_n 0, 1) := by decide +kernel
theorem dX7_most_55 : decode cX7_most 55 = .ok (.iload_n 1, 1) := by decide +kernel
theorem dX7_most_56 : decode cX7_most 56 = .ok (.aload_n 0, 1) := by decide +kernel
theorem dX7_most_57 : decode cX7_most 57 = .ok (.getfield 36, 3) := by decide +kernel
theorem dX7_most_60 : decode cX7_most 60 = .ok (.iload_n 1, 1) := by decide +kernel
theorem dX7_most_61 : decode cX7_most 61 = .ok (.iaload, 1) := by decide +kernel
theorem dX7_most_62 : decode cX7_most 62 = .ok (.invokevirtual 179, 3) := by decide +kernel
theorem dX7_most_65 : decode cX7_most 65 = .ok (.istore 5, 2) := by decide +kernel
theorem dX7_most_67 : decode cX7_most 67 = .ok (.iconst (-1), 1) := by decide +kernel
theorem dX7_most_68 : decode cX7_most 68 = .ok (.istore 6, 2) := by decide +kernel
theorem dX7_most_70 : decode cX7_most 70 = .ok (.iconst 0, 1) := by decide +kernel
theorem dX7_most_71 : decode cX7_most 71 = .ok (.istore 7, 2) := by decide +kernel
theorem dX7_most_73 : decode cX7_most 73 = .ok (.iconst 0, 1) := by decide +kernel
theorem dX7_most_74 : decode cX7_most 74 = .ok (.istore 8, 2) := by decide +kernel
theorem dX7_most_76 : decode cX7_most 76 = .ok (.iload 8, 2) := by decide +kernel
theorem dX7_most_78 : decode cX7_most 78 = .ok (.iload_n 2, 1) := by decide +kernel
theorem dX7_most_79 : decode cX7_most 79 = .ok (.if_icmp .gt 44, 3) := by decide +kernel
theorem dX7_most_82 : decode cX7_most 82 = .ok (.aload_n 0, 1) := by decide +kernel
theorem dX7_most_83 : decode cX7_most 83 = .ok (.iload_n 1, 1) := by decide +kernel
theorem dX7_most_84 : decode cX7_most 84 = .ok (.iload 8, 2) := by decide +kernel
theorem dX7_most_86 : decode cX7_most 86 = .ok (.invokevirtual 179, 3) := by decide +kernel
theorem dX7_most_89 : decode cX7_most 89 = .ok (.iload 5, 2) := by decide +kernel
theorem dX7_most_91 : decode cX7_most 91 = .ok (.isub, 1) := by decide +kernel
theorem dX7_most_92 : decode cX7_most 92 = .ok (.istore 9, 2) := by decide +kernel
theorem dX7_most_94 : decode cX7_most 94 = .ok (.iload 6, 2) := by decide +kernel
theorem dX7_most_96 : decode cX7_most 96 = .ok (.ifCond .lt 10, 3) := by decide +kernel
theorem dX7_most_99 : decode cX7_most 99 = .ok (.iload 9, 2) := by decide +kernel
theorem dX7_most_101 : decode cX7_most 101 = .ok (.iload 7, 2) := by decide +kernel
theorem dX7_most_103 : decode cX7_most 103 = .ok (.if_icmp .le 11, 3) := by decide +kernel
theorem dX7_most_106 : decode cX7_most 106 = .ok (.iload 8, 2) := by decide +kernel
theorem dX7_most_108 : decode cX7_most 108 = .ok (.istore 6, 2) := by decide +kernel
theorem dX7_most_110 : decode cX7_most 110 = .ok (.iload 9, 2) := by decide +kernel
theorem dX7_most_112 : decode cX7_most 112 = .ok (.istore 7, 2) := by decide +kernel
theorem dX7_most_114 : decode cX7_most 114 = .ok (.iload 8, 2) := by decide +kernel
theorem dX7_most_116 : decode cX7_most 116 = .ok (.iload_n 3, 1) := by decide +kernel
theorem dX7_most_117 : decode cX7_most 117 = .ok (.iadd, 1) := by decide +kernel
theorem dX7_most_118 : decode cX7_most 118 = .ok (.istore 8, 2) := by decide +kernel
theorem dX7_most_120 : decode cX7_most 120 = .ok (.goto (-44), 3) := by decide +kernel
theorem dX7_most_123 : decode cX7_most 123 = .ok (.iload 4, 2) := by decide +kernel
theorem dX7_most_125 : decode cX7_most 125 = .ok (.ifCond .ne 8, 3) := by decide +kernel
theorem dX7_most_128 : decode cX7_most 128 = .ok (.iload 7, 2) := by decide +kernel
theorem dX7_most_130 : decode cX7_most 130 = .ok (.goto 5, 3) := by decide +kernel
theorem dX7_most_133 : decode cX7_most 133 = .ok (.iload 6, 2) := by decide +kernel
theorem dX7_most_135 : decode cX7_most 135 = .ok (.ireturn, 1) := by decide +kernel
theorem dX7_noHouse_0 : decode cX7_noHouse 0 = .ok (.iload_n 1, 1) := by decide +kernel
theorem dX7_noHouse_1 : decode cX7_noHouse 1 = .ok (.i2l, 1) := by decide +kernel
theorem dX7_noHouse_2 : decode cX7_noHouse 2 = .ok (.lconst 0, 1) := by decide +kernel
theorem dX7_noHouse_3 : decode cX7_noHouse 3 = .ok (.aload_n 0, 1) := by decide +kernel
theorem dX7_noHouse_4 : decode cX7_noHouse 4 = .ok (.getfield 183, 3) := by decide +kernel
theorem dX7_noHouse_7 : decode cX7_noHouse 7 = .ok (.iconst 1, 1) := by decide +kernel
theorem dX7_noHouse_8 : decode cX7_noHouse 8 = .ok (.isub, 1) := by decide +kernel
theorem dX7_noHouse_9 : decode cX7_noHouse 9 = .ok (.i2l, 1) := by decide +kernel
theorem dX7_noHouse_10 : decode cX7_noHouse 10 = .ok (.invokestatic 90, 3) := by decide +kernel
theorem dX7_noHouse_13 : decode cX7_noHouse 13 = .ok (.ifCond .ne 7, 3) := by decide +kernel
theorem dX7_noHouse_16 : decode cX7_noHouse 16 = .ok (.iconst 1, 1) := by decide +kernel
theorem dX7_noHouse_17 : decode cX7_noHouse 17 = .ok (.goto 4, 3) := by decide +kernel
theorem dX7_noHouse_20 : decode cX7_noHouse 20 = .ok (.iconst 0, 1) := by decide +kernel
theorem dX7_noHouse_21 : decode cX7_noHouse 21 = .ok (.ireturn, 1) := by decide +kernel
theorem dX7_noGroup_0 : decode cX7_noGroup 0 = .ok (.iload_n 1, 1) := by decide +kernel
theorem dX7_noGroup_1 : decode cX7_noGroup 1 = .ok (.ifCond .lt 12, 3) := by decide +kernel
theorem dX7_noGroup_4 : decode cX7_noGroup 4 = .ok (.iload_n 1, 1) := by decide +kernel
theorem dX7_noGroup_5 : decode cX7_noGroup 5 = .ok (.aload_n 0, 1) := by decide +kernel
theorem dX7_noGroup_6 : decode cX7_noGroup 6 = .ok (.getfield 183, 3) := by decide +kernel
theorem dX7_noGroup_9 : decode cX7_noGroup 9 = .ok (.ishr, 1) := by decide +kernel
theorem dX7_noGroup_10 : decode cX7_noGroup 10 = .ok (.ifCond .eq 7, 3) := by decide +kernel
theorem dX7_noGroup_13 : decode cX7_noGroup 13 = .ok (.iconst 1, 1) := by decide +kernel
theorem dX7_noGroup_14 : decode cX7_noGroup 14 = .ok (.goto 4, 3) := by decide +kernel
theorem dX7_noGroup_17 : decode cX7_noGroup 17 = .ok (.iconst 0, 1) := by decide +kernel
theorem dX7_noGroup_18 : decode cX7_noGroup 18 = .ok (.ireturn, 1) := by decide +kernel
theorem dX7_house_0 : decode cX7_house 0 = .ok (.aload_n 0, 1) := by decide +kernel
theorem dX7_house_1 : decode cX7_house 1 = .ok (.getfield 183, 3) := by decide +kernel
theorem dX7_house_4 : decode cX7_house 4 = .ok (.bipush 6, 2) := by decide +kernel
theorem dX7_house_6 : decode cX7_house 6 = .ok (.if_icmp .ne 6, 3) := by decide +kernel
theorem dX7_house_9 : decode cX7_house 9 = .ok (.bipush (-4), 2) := by decide +kernel
theorem dX7_house_11 : decode cX7_house 11 = .ok (.ireturn, 1) := by decide +kernel
theorem dX7_house_12 : decode cX7_house 12 = .ok (.aload_n 0, 1) := by decide +kernel
theorem dX7_house_13 : decode cX7_house 13 = .ok (.dup, 1) := by decide +kernel
theorem dX7_house_14 : decode cX7_house 14 = .ok (.getfield 183, 3) := by decide +kernel
theorem dX7_house_17 : decode cX7_house 17 = .ok (.iconst 1, 1) := by decide +kernel
theorem dX7_house_18 : decode cX7_house 18 = .ok (.iadd, 1) := by decide +kernel
theorem dX7_house_19 : decode cX7_house 19 = .ok (.putfield 183, 3) := by decide +kernel
theorem dX7_house_22 : decode cX7_house 22 = .ok (.aload_n 0, 1) := by decide +kernel
theorem dX7_house_23 : decode cX7_house 23 = .ok (.getfield 183, 3) := by decide +kernel
theorem dX7_house_26 : decode cX7_house 26 = .ok (.iconst 1, 1) := by decide +kernel
theorem dX7_house_27 : decode cX7_house 27 = .ok (.isub, 1) := by decide +kernel
theorem dX7_house_28 : decode cX7_house 28 = .ok (.ireturn, 1) := by decide +kernel
theorem dX7_ask_0 : decode cX7_ask 0 = .ok (.aload_n 0, 1) := by decide +kernel
theorem dX7_ask_1 : decode cX7_ask 1 = .ok (.iload_n 1, 1) := by decide +kernel
theorem dX7_ask_2 : decode cX7_ask 2 = .ok (.invokevirtual 186, 3) := by decide +kernel
theorem dX7_ask_5 : decode cX7_ask 5 = .ok (.ifCond .ne 27, 3) := by decide +kernel
theorem dX7_ask_8 : decode cX7_ask 8 = .ok (.iload_n 2, 1) := by decide +kernel
theorem dX7_ask_9 : decode cX7_ask 9 = .ok (.i2l, 1) := by decide +kernel
theorem dX7_ask_10 : decode cX7_ask 10 = .ok (.lconst 1, 1) := by decide +kernel
theorem dX7_ask_11 : decode cX7_ask 11 = .ok (.ldc2_w 102, 3) := by decide +kernel
theorem dX7_ask_14 : decode cX7_ask 14 = .ok (.invokestatic 90, 3) := by decide +kernel
theorem dX7_ask_17 : decode cX7_ask 17 = .ok (.ifCond .eq 15, 3) := by decide +kernel
theorem dX7_ask_20 : decode cX7_ask 20 = .ok (.iload_n 3, 1) := by decide +kernel
theorem dX7_ask_21 : decode cX7_ask 21 = .ok (.i2l, 1) := by decide +kernel
theorem dX7_ask_22 : decode cX7_ask 22 = .ok (.lconst 1, 1) := by decide +kernel
theorem dX7_ask_23 : decode cX7_ask 23 = .ok (.ldc2_w 189, 3) := by decide +kernel
theorem dX7_ask_26 : decode cX7_ask 26 = .ok (.invokestatic 90, 3) := by decide +kernel
theorem dX7_ask_29 : decode cX7_ask 29 = .ok (.ifCond .ne 6, 3) := by decide +kernel
theorem dX7_ask_32 : decode cX7_ask 32 = .ok (.bipush (-2), 2) := by decide +kernel
theorem dX7_ask_34 : decode cX7_ask 34 = .ok (.ireturn, 1) := by decide +kernel
theorem dX7_ask_35 : decode cX7_ask 35 = .ok (.aload_n 0, 1) := by decide +kernel
theorem dX7_ask_36 : decode cX7_ask 36 = .ok (.getfield 191, 3) := by decide +kernel
theorem dX7_ask_39 : decode cX7_ask 39 = .ok (.bipush 24, 2) := by decide +kernel
theorem dX7_ask_41 : decode cX7_ask 41 = .ok (.if_icmp .ne 6, 3) := by decide +kernel
theorem dX7_ask_44 : decode cX7_ask 44 = .ok (.bipush (-4), 2) := by decide +kernel
theorem dX7_ask_46 : decode cX7_ask 46 = .ok (.ireturn, 1) := by decide +kernel
theorem dX7_ask_47 : decode cX7_ask 47 = .ok (.aload_n 0, 1) := by decide +kernel
theorem dX7_ask_48 : decode cX7_ask 48 = .ok (.getfield 57, 3) := by decide +kernel
theorem dX7_ask_51 : decode cX7_ask 51 = .ok (.aload_n 0, 1) := by decide +kernel
theorem dX7_ask_52 : decode cX7_ask 52 = .ok (.getfield 191, 3) := by decide +kernel
theorem dX7_ask_55 : decode cX7_ask 55 = .ok (.iload_n 1, 1) := by decide +kernel
theorem dX7_ask_56 : decode cX7_ask 56 = .ok (.iastore, 1) := by decide +kernel
theorem dX7_ask_57 : decode cX7_ask 57 = .ok (.aload_n 0, 1) := by decide +kernel
theorem dX7_ask_58 : decode cX7_ask 58 = .ok (.getfield 60, 3) := by decide +kernel
theorem dX7_ask_61 : decode cX7_ask 61 = .ok (.aload_n 0, 1) := by decide +kernel
theorem dX7_ask_62 : decode cX7_ask 62 = .ok (.getfield 191, 3) := by decide +kernel
theorem dX7_ask_65 : decode cX7_ask 65 = .ok (.iload_n 2, 1) := by decide +kernel
theorem dX7_ask_66 : decode cX7_ask 66 = .ok (.iastore, 1) := by decide +kernel
theorem dX7_ask_67 : decode cX7_ask 67 = .ok (.aload_n 0, 1) := by decide +kernel
theorem dX7_ask_68 : decode cX7_ask 68 = .ok (.getfield 63, 3) := by decide +kernel
theorem dX7_ask_71 : decode cX7_ask 71 = .ok (.aload_n 0, 1) := by decide +kernel
theorem dX7_ask_72 : decode cX7_ask 72 = .ok (.getfield 191, 3) := by decide +kernel
theorem dX7_ask_75 : decode cX7_ask 75 = .ok (.iload_n 3, 1) := by decide +kernel
theorem dX7_ask_76 : decode cX7_ask 76 = .ok (.iastore, 1) := by decide +kernel
theorem dX7_ask_77 : decode cX7_ask 77 = .ok (.aload_n 0, 1) := by decide +kernel
theorem dX7_ask_78 : decode cX7_ask 78 = .ok (.dup, 1) := by decide +kernel
theorem dX7_ask_79 : decode cX7_ask 79 = .ok (.getfield 191, 3) := by decide +kernel
theorem dX7_ask_82 : decode cX7_ask 82 = .ok (.iconst 1, 1) := by decide +kernel
theorem dX7_ask_83 : decode cX7_ask 83 = .ok (.iadd, 1) := by decide +kernel
theorem dX7_ask_84 : decode cX7_ask 84 = .ok (.putfield 191, 3) := by decide +kernel
theorem dX7_ask_87 : decode cX7_ask 87 = .ok (.aload_n 0, 1) := by decide +kernel
theorem dX7_ask_88 : decode cX7_ask 88 = .ok (.getfield 191, 3) := by decide +kernel
theorem dX7_ask_91 : decode cX7_ask 91 = .ok (.iconst 1, 1) := by decide +kernel
theorem dX7_ask_92 : decode cX7_ask 92 = .ok (.isub, 1) := by decide +kernel
theorem dX7_ask_93 : decode cX7_ask 93 = .ok (.ireturn, 1) := by decide +kernel
theorem dX7_findWorths_0 : decode cX7_findWorths 0 = .ok (.iconst 0, 1) := by decide +kernel
theorem dX7_findWorths_1 : decode cX7_findWorths 1 = .ok (.istore_n 2, 1) := by decide +kernel
theorem dX7_findWorths_2 : decode cX7_findWorths 2 = .ok (.iload_n 2, 1) := by decide +kernel
theorem dX7_findWorths_3 : decode cX7_findWorths 3 = .ok (.bipush 64, 2) := by decide +kernel
theorem dX7_findWorths_5 : decode cX7_findWorths 5 = .ok (.if_icmp .ge 20, 3) := by decide +kernel
theorem dX7_findWorths_8 : decode cX7_findWorths 8 = .ok (.aload_n 0, 1) := by decide +kernel
theorem dX7_findWorths_9 : decode cX7_findWorths 9 = .ok (.getfield 72, 3) := by decide +kernel
theorem dX7_findWorths_12 : decode cX7_findWorths 12 = .ok (.sipush 384, 3) := by decide +kernel
theorem dX7_findWorths_15 : decode cX7_findWorths 15 = .ok (.iload_n 2, 1) := by decide +kernel
theorem dX7_findWorths_16 : decode cX7_findWorths 16 = .ok (.iadd, 1) := by decide +kernel
theorem dX7_findWorths_17 : decode cX7_findWorths 17 = .ok (.iconst 0, 1) := by decide +kernel
theorem dX7_findWorths_18 : decode cX7_findWorths 18 = .ok (.iastore, 1) := by decide +kernel
theorem dX7_findWorths_19 : decode cX7_findWorths 19 = .ok (.iinc 2 1, 3) := by decide +kernel
theorem dX7_findWorths_22 : decode cX7_findWorths 22 = .ok (.goto (-20), 3) := by decide +kernel
theorem dX7_findWorths_25 : decode cX7_findWorths 25 = .ok (.iconst 5, 1) := by decide +kernel
theorem dX7_findWorths_26 : decode cX7_findWorths 26 = .ok (.istore_n 2, 1) := by decide +kernel
theorem dX7_findWorths_27 : decode cX7_findWorths 27 = .ok (.iload_n 2, 1) := by decide +kernel
theorem dX7_findWorths_28 : decode cX7_findWorths 28 = .ok (.ifCond .lt 173, 3) := by decide +kernel
theorem dX7_findWorths_31 : decode cX7_findWorths 31 = .ok (.iconst 0, 1) := by decide +kernel
theorem dX7_findWorths_32 : decode cX7_findWorths 32 = .ok (.istore_n 3, 1) := by decide +kernel
theorem dX7_findWorths_33 : decode cX7_findWorths 33 = .ok (.iload_n 3, 1) := by decide +kernel
theorem dX7_findWorths_34 : decode cX7_findWorths 34 = .ok (.bipush 64, 2) := by decide +kernel
theorem dX7_findWorths_36 : decode cX7_findWorths 36 = .ok (.if_icmp .ge 159, 3) := by decide +kernel
theorem dX7_findWorths_39 : decode cX7_findWorths 39 = .ok (.aload_n 0, 1) := by decide +kernel
theorem dX7_findWorths_40 : decode cX7_findWorths 40 = .ok (.getfield 72, 3) := by decide +kernel
theorem dX7_findWorths_43 : decode cX7_findWorths 43 = .ok (.bipush 64, 2) := by decide +kernel
theorem dX7_findWorths_45 : decode cX7_findWorths 45 = .ok (.iload_n 2, 1) := by decide +kernel
theorem dX7_findWorths_46 : decode cX7_findWorths 46 = .ok (.iconst 1, 1) := by decide +kernel
theorem dX7_findWorths_47 : decode cX7_findWorths 47 = .ok (.iadd, 1) := by decide +kernel
theorem dX7_findWorths_48 : decode cX7_findWorths 48 = .ok (.imul, 1) := by decide +kernel
theorem dX7_findWorths_49 : decode cX7_findWorths 49 = .ok (.iload_n 3, 1) := by decide +kernel
theorem dX7_findWorths_50 : decode cX7_findWorths 50 = .ok (.iadd, 1) := by decide +kernel
theorem dX7_findWorths_51 : decode cX7_findWorths 51 = .ok (.iaload, 1) := by decide +kernel
theorem dX7_findWorths_52 : decode cX7_findWorths 52 = .ok (.istore 4, 2) := by decide +kernel
theorem dX7_findWorths_54 : decode cX7_findWorths 54 = .ok (.iconst 0, 1) := by decide +kernel
theorem dX7_findWorths_55 : decode cX7_findWorths 55 = .ok (.istore 5, 2) := by decide +kernel
theorem dX7_findWorths_57 : decode cX7_findWorths 57 = .ok (.iload 5, 2) := by decide +kernel
theorem dX7_findWorths_59 : decode cX7_findWorths 59 = .ok (.aload_n 0, 1) := by decide +kernel
theorem dX7_findWorths_60 : decode cX7_findWorths 60 = .ok (.getfield 191, 3) := by decide +kernel
theorem dX7_findWorths_63 : decode cX7_findWorths 63 = .ok (.if_icmp .ge 113, 3) := by decide +kernel
theorem dX7_findWorths_66 : decode cX7_findWorths 66 = .ok (.aload_n 0, 1) := by decide +kernel
theorem dX7_findWorths_67 : decode cX7_findWorths 67 = .ok (.getfield 57, 3) := by decide +kernel
theorem dX7_findWorths_70 : decode cX7_findWorths 70 = .ok (.iload 5, 2) := by decide +kernel
theorem dX7_findWorths_72 : decode cX7_findWorths 72 = .ok (.iaload, 1) := by decide +kernel
theorem dX7_findWorths_73 : decode cX7_findWorths 73 = .ok (.iload_n 2, 1) := by decide +kernel
theorem dX7_findWorths_74 : decode cX7_findWorths 74 = .ok (.if_icmp .ne 35, 3) := by decide +kernel
theorem dX7_findWorths_77 : decode cX7_findWorths 77 = .ok (.iload_n 1, 1) := by decide +kernel
theorem dX7_findWorths_78 : decode cX7_findWorths 78 = .ok (.iload_n 2, 1) := by decide +kernel
theorem dX7_findWorths_79 : decode cX7_findWorths 79 = .ok (.ishr, 1) := by decide +kernel
theorem dX7_findWorths_80 : decode cX7_findWorths 80 = .ok (.iconst 1, 1) := by decide +kernel
theorem dX7_findWorths_81 : decode cX7_findWorths 81 = .ok (.iand, 1) := by decide +kernel
theorem dX7_findWorths_82 : decode cX7_findWorths 82 = .ok (.iconst 1, 1) := by decide +kernel
theorem dX7_findWorths_83 : decode cX7_findWorths 83 = .ok (.if_icmp .ne 26, 3) := by decide +kernel
theorem dX7_findWorths_86 : decode cX7_findWorths 86 = .ok (.aload_n 0, 1) := by decide +kernel
theorem dX7_findWorths_87 : decode cX7_findWorths 87 = .ok (.getfield 60, 3) := by decide +kernel
theorem dX7_findWorths_90 : decode cX7_findWorths 90 = .ok (.iload 5, 2) := by decide +kernel
theorem dX7_findWorths_92 : decode cX7_findWorths 92 = .ok (.iaload, 1) := by decide +kernel
theorem dX7_findWorths_93 : decode cX7_findWorths 93 = .ok (.iload_n 3, 1) := by decide +kernel
theorem dX7_findWorths_94 : decode cX7_findWorths 94 = .ok (.iand, 1) := by decide +kernel
theorem dX7_findWorths_95 : decode cX7_findWorths 95 = .ok (.aload_n 0, 1) := by decide +kernel
theorem dX7_findWorths_96 : decode cX7_findWorths 96 = .ok (.getfield 60, 3) := by decide +kernel
theorem dX7_findWorths_99 : decode cX7_findWorths 99 = .ok (.iload 5, 2) := by decide +kernel
theorem dX7_findWorths_101 : decode cX7_findWorths 101 = .ok (.iaload, 1) := by decide +kernel
theorem dX7_findWorths_102 : decode cX7_findWorths 102 = .ok (.if_icmp .ne 7, 3) := by decide +kernel
theorem dX7_findWorths_105 : decode cX7_findWorths 105 = .ok (.iconst 1, 1) := by decide +kernel
theorem dX7_findWorths_106 : decode cX7_findWorths 106 = .ok (.goto 4, 3) := by decide +kernel
theorem dX7_findWorths_109 : decode cX7_findWorths 109 = .ok (.iconst 0, 1) := by decide +kernel
theorem dX7_findWorths_110 : decode cX7_findWorths 110 = .ok (.istore 6, 2) := by decide +kernel
theorem dX7_findWorths_112 : decode cX7_findWorths 112 = .ok (.iload 6, 2) := by decide +kernel
theorem dX7_findWorths_114 : decode cX7_findWorths 114 = .ok (.ifCond .eq 37, 3) := by decide +kernel
theorem dX7_findWorths_117 : decode cX7_findWorths 117 = .ok (.aload_n 0, 1) := by decide +kernel
theorem dX7_findWorths_118 : decode cX7_findWorths 118 = .ok (.getfield 63, 3) := by decide +kernel
theorem dX7_findWorths_121 : decode cX7_findWorths 121 = .ok (.iload 5, 2) := by decide +kernel
theorem dX7_findWorths_123 : decode cX7_findWorths 123 = .ok (.iaload, 1) := by decide +kernel
theorem dX7_findWorths_124 : decode cX7_findWorths 124 = .ok (.aload_n 0, 1) := by decide +kernel
theorem dX7_findWorths_125 : decode cX7_findWorths 125 = .ok (.getfield 72, 3) := by decide +kernel
theorem dX7_findWorths_128 : decode cX7_findWorths 128 = .ok (.bipush 64, 2) := by decide +kernel
theorem dX7_findWorths_130 : decode cX7_findWorths 130 = .ok (.iload_n 2, 1) := by decide +kernel
theorem dX7_findWorths_131 : decode cX7_findWorths 131 = .ok (.iconst 1, 1) := by decide +kernel
theorem dX7_findWorths_132 : decode cX7_findWorths 132 = .ok (.iadd, 1) := by decide +kernel
theorem dX7_findWorths_133 : decode cX7_findWorths 133 = .ok (.imul, 1) := by decide +kernel
theorem dX7_findWorths_134 : decode cX7_findWorths 134 = .ok (.iload_n 3, 1) := by decide +kernel
theorem dX7_findWorths_135 : decode cX7_findWorths 135 = .ok (.aload_n 0, 1) := by decide +kernel
theorem dX7_findWorths_136 : decode cX7_findWorths 136 = .ok (.getfield 60, 3) := by decide +kernel
theorem dX7_findWorths_139 : decode cX7_findWorths 139 = .ok (.iload 5, 2) := by decide +kernel
theorem dX7_findWorths_141 : decode cX7_findWorths 141 = .ok (.iaload, 1) := by decide +kernel
theorem dX7_findWorths_142 : decode cX7_findWorths 142 = .ok (.iconst (-1), 1) := by decide +kernel
theorem dX7_findWorths_143 : decode cX7_findWorths 143 = .ok (.ixor, 1) := by decide +kernel
theorem dX7_findWorths_144 : decode cX7_findWorths 144 = .ok (.iand, 1) := by decide +kernel
theorem dX7_findWorths_145 : decode cX7_findWorths 145 = .ok (.iadd, 1) := by decide +kernel
theorem dX7_findWorths_146 : decode cX7_findWorths 146 = .ok (.iaload, 1) := by decide +kernel
theorem dX7_findWorths_147 : decode cX7_findWorths 147 = .ok (.iadd, 1) := by decide +kernel
theorem dX7_findWorths_148 : decode cX7_findWorths 148 = .ok (.goto 4, 3) := by decide +kernel
theorem dX7_findWorths_151 : decode cX7_findWorths 151 = .ok (.iconst 0, 1) := by decide +kernel
theorem dX7_findWorths_152 : decode cX7_findWorths 152 = .ok (.istore 7, 2) := by decide +kernel
theorem dX7_findWorths_154 : decode cX7_findWorths 154 = .ok (.iload 7, 2) := by decide +kernel
theorem dX7_findWorths_156 : decode cX7_findWorths 156 = .ok (.iload 4, 2) := by decide +kernel
theorem dX7_findWorths_158 : decode cX7_findWorths 158 = .ok (.if_icmp .le 8, 3) := by decide +kernel
theorem dX7_findWorths_161 : decode cX7_findWorths 161 = .ok (.iload 7, 2) := by decide +kernel
theorem dX7_findWorths_163 : decode cX7_findWorths 163 = .ok (.goto 5, 3) := by decide +kernel
theorem dX7_findWorths_166 : decode cX7_findWorths 166 = .ok (.iload 4, 2) := by decide +kernel
theorem dX7_findWorths_168 : decode cX7_findWorths 168 = .ok (.istore 4, 2) := by decide +kernel
theorem dX7_findWorths_170 : decode cX7_findWorths 170 = .ok (.iinc 5 1, 3) := by decide +kernel
theorem dX7_findWorths_173 : decode cX7_findWorths 173 = .ok (.goto (-116), 3) := by decide +kernel
theorem dX7_findWorths_176 : decode cX7_findWorths 176 = .ok (.aload_n 0, 1) := by decide +kernel
theorem dX7_findWorths_177 : decode cX7_findWorths 177 = .ok (.getfield 72, 3) := by decide +kernel
theorem dX7_findWorths_180 : decode cX7_findWorths 180 = .ok (.bipush 64, 2) := by decide +kernel
theorem dX7_findWorths_182 : decode cX7_findWorths 182 = .ok (.iload_n 2, 1) := by decide +kernel
theorem dX7_findWorths_183 : decode cX7_findWorths 183 = .ok (.imul, 1) := by decide +kernel
theorem dX7_findWorths_184 : decode cX7_findWorths 184 = .ok (.iload_n 3, 1) := by decide +kernel
theorem dX7_findWorths_185 : decode cX7_findWorths 185 = .ok (.iadd, 1) := by decide +kernel
theorem dX7_findWorths_186 : decode cX7_findWorths 186 = .ok (.iload 4, 2) := by decide +kernel
theorem dX7_findWorths_188 : decode cX7_findWorths 188 = .ok (.iastore, 1) := by decide +kernel
theorem dX7_findWorths_189 : decode cX7_findWorths 189 = .ok (.iinc 3 1, 3) := by decide +kernel
theorem dX7_findWorths_192 : decode cX7_findWorths 192 = .ok (.goto (-159), 3) := by decide +kernel
theorem dX7_findWorths_195 : decode cX7_findWorths 195 = .ok (.iinc 2 (-1), 3) := by decide +kernel
theorem dX7_findWorths_198 : decode cX7_findWorths 198 = .ok (.goto (-171), 3) := by decide +kernel
theorem dX7_findWorths_201 : decode cX7_findWorths 201 = .ok (.return_, 1) := by decide +kernel
theorem dX7_findBest_0 : decode cX7_findBest 0 = .ok (.aload_n 0, 1) := by decide +kernel
theorem dX7_findBest_1 : decode cX7_findBest 1 = .ok (.iload_n 1, 1) := by decide +kernel
theorem dX7_findBest_2 : decode cX7_findBest 2 = .ok (.invokevirtual 194, 3) := by decide +kernel
theorem dX7_findBest_5 : decode cX7_findBest 5 = .ok (.aload_n 0, 1) := by decide +kernel
theorem dX7_findBest_6 : decode cX7_findBest 6 = .ok (.aload_n 0, 1) := by decide +kernel
theorem dX7_findBest_7 : decode cX7_findBest 7 = .ok (.getfield 72, 3) := by decide +kernel
theorem dX7_findBest_10 : decode cX7_findBest 10 = .ok (.bipush 63, 2) := by decide +kernel
theorem dX7_findBest_12 : decode cX7_findBest 12 = .ok (.iaload, 1) := by decide +kernel
theorem dX7_findBest_13 : decode cX7_findBest 13 = .ok (.putfield 197, 3) := by decide +kernel
theorem dX7_findBest_16 : decode cX7_findBest 16 = .ok (.bipush 63, 2) := by decide +kernel
theorem dX7_findBest_18 : decode cX7_findBest 18 = .ok (.istore_n 2, 1) := by decide +kernel
theorem dX7_findBest_19 : decode cX7_findBest 19 = .ok (.iconst 0, 1) := by decide +kernel
theorem dX7_findBest_20 : decode cX7_findBest 20 = .ok (.istore_n 3, 1) := by decide +kernel
theorem dX7_findBest_21 : decode cX7_findBest 21 = .ok (.iload_n 3, 1) := by decide +kernel
theorem dX7_findBest_22 : decode cX7_findBest 22 = .ok (.bipush 6, 2) := by decide +kernel
theorem dX7_findBest_24 : decode cX7_findBest 24 = .ok (.if_icmp .ge 200, 3) := by decide +kernel
theorem dX7_findBest_27 : decode cX7_findBest 27 = .ok (.aload_n 0, 1) := by decide +kernel
theorem dX7_findBest_28 : decode cX7_findBest 28 = .ok (.getfield 72, 3) := by decide +kernel
theorem dX7_findBest_31 : decode cX7_findBest 31 = .ok (.bipush 64, 2) := by decide +kernel
theorem dX7_findBest_33 : decode cX7_findBest 33 = .ok (.iload_n 3, 1) := by decide +kernel
theorem dX7_findBest_34 : decode cX7_findBest 34 = .ok (.imul, 1) := by decide +kernel
theorem dX7_findBest_35 : decode cX7_findBest 35 = .ok (.iload_n 2, 1) := by decide +kernel
theorem dX7_findBest_36 : decode cX7_findBest 36 = .ok (.iadd, 1) := by decide +kernel
theorem dX7_findBest_37 : decode cX7_findBest 37 = .ok (.iaload, 1) := by decide +kernel
theorem dX7_findBest_38 : decode cX7_findBest 38 = .ok (.istore 4, 2) := by decide +kernel
theorem dX7_findBest_40 : decode cX7_findBest 40 = .ok (.iconst (-1), 1) := by decide +kernel
theorem dX7_findBest_41 : decode cX7_findBest 41 = .ok (.istore 5, 2) := by decide +kernel
theorem dX7_findBest_43 : decode cX7_findBest 43 = .ok (.aload_n 0, 1) := by decide +kernel
theorem dX7_findBest_44 : decode cX7_findBest 44 = .ok (.getfield 72, 3) := by decide +kernel
theorem dX7_findBest_47 : decode cX7_findBest 47 = .ok (.bipush 64, 2) := by decide +kernel
theorem dX7_findBest_49 : decode cX7_findBest 49 = .ok (.iload_n 3, 1) := by decide +kernel
theorem dX7_findBest_50 : decode cX7_findBest 50 = .ok (.iconst 1, 1) := by decide +kernel
theorem dX7_findBest_51 : decode cX7_findBest 51 = .ok (.iadd, 1) := by decide +kernel
theorem dX7_findBest_52 : decode cX7_findBest 52 = .ok (.imul, 1) := by decide +kernel
theorem dX7_findBest_53 : decode cX7_findBest 53 = .ok (.iload_n 2, 1) := by decide +kernel
theorem dX7_findBest_54 : decode cX7_findBest 54 = .ok (.iadd, 1) := by decide +kernel
theorem dX7_findBest_55 : decode cX7_findBest 55 = .ok (.iaload, 1) := by decide +kernel
theorem dX7_findBest_56 : decode cX7_findBest 56 = .ok (.iload 4, 2) := by decide +kernel
theorem dX7_findBest_58 : decode cX7_findBest 58 = .ok (.if_icmp .ne 7, 3) := by decide +kernel
theorem dX7_findBest_61 : decode cX7_findBest 61 = .ok (.iconst 1, 1) := by decide +kernel
theorem dX7_findBest_62 : decode cX7_findBest 62 = .ok (.goto 4, 3) := by decide +kernel
theorem dX7_findBest_65 : decode cX7_findBest 65 = .ok (.iconst 0, 1) := by decide +kernel
theorem dX7_findBest_66 : decode cX7_findBest 66 = .ok (.istore 6, 2) := by decide +kernel
theorem dX7_findBest_68 : decode cX7_findBest 68 = .ok (.aload_n 0, 1) := by decide +kernel
theorem dX7_findBest_69 : decode cX7_findBest 69 = .ok (.getfield 191, 3) := by decide +kernel
theorem dX7_findBest_72 : decode cX7_findBest 72 = .ok (.iconst 1, 1) := by decide +kernel
theorem dX7_findBest_73 : decode cX7_findBest 73 = .ok (.isub, 1) := by decide +kernel
theorem dX7_findBest_74 : decode cX7_findBest 74 = .ok (.istore 7, 2) := by decide +kernel
theorem dX7_findBest_76 : decode cX7_findBest 76 = .ok (.iload 7, 2) := by decide +kernel
theorem dX7_findBest_78 : decode cX7_findBest 78 = .ok (.ifCond .lt 110, 3) := by decide +kernel
theorem dX7_findBest_81 : decode cX7_findBest 81 = .ok (.iload 6, 2) := by decide +kernel
theorem dX7_findBest_83 : decode cX7_findBest 83 = .ok (.ifCond .ne 105, 3) := by decide +kernel
theorem dX7_findBest_86 : decode cX7_findBest 86 = .ok (.aload_n 0, 1) := by decide +kernel
theorem dX7_findBest_87 : decode cX7_findBest 87 = .ok (.getfield 57, 3) := by decide +kernel
theorem dX7_findBest_90 : decode cX7_findBest 90 = .ok (.iload 7, 2) := by decide +kernel
theorem dX7_findBest_92 : decode cX7_findBest 92 = .ok (.iaload, 1) := by decide +kernel
theorem dX7_findBest_93 : decode cX7_findBest 93 = .ok (.iload_n 3, 1) := by decide +kernel
theorem dX7_findBest_94 : decode cX7_findBest 94 = .ok (.if_icmp .ne 35, 3) := by decide +kernel
theorem dX7_findBest_97 : decode cX7_findBest 97 = .ok (.iload_n 1, 1) := by decide +kernel
theorem dX7_findBest_98 : decode cX7_findBest 98 = .ok (.iload_n 3, 1) := by decide +kernel
theorem dX7_findBest_99 : decode cX7_findBest 99 = .ok (.ishr, 1) := by decide +kernel
theorem dX7_findBest_100 : decode cX7_findBest 100 = .ok (.iconst 1, 1) := by decide +kernel
theorem dX7_findBest_101 : decode cX7_findBest 101 = .ok (.iand, 1) := by decide +kernel
theorem dX7_findBest_102 : decode cX7_findBest 102 = .ok (.iconst 1, 1) := by decide +kernel
theorem dX7_findBest_103 : decode cX7_findBest 103 = .ok (.if_icmp .ne 26, 3) := by decide +kernel
theorem dX7_findBest_106 : decode cX7_findBest 106 = .ok (.aload_n 0, 1) := by decide +kernel
theorem dX7_findBest_107 : decode cX7_findBest 107 = .ok (.getfield 60, 3) := by decide +kernel
theorem dX7_findBest_110 : decode cX7_findBest 110 = .ok (.iload 7, 2) := by decide +kernel
theorem dX7_findBest_112 : decode cX7_findBest 112 = .ok (.iaload, 1) := by decide +kernel
theorem dX7_findBest_113 : decode cX7_findBest 113 = .ok (.iload_n 2, 1) := by decide +kernel
theorem dX7_findBest_114 : decode cX7_findBest 114 = .ok (.iand, 1) := by decide +kernel
theorem dX7_findBest_115 : decode cX7_findBest 115 = .ok (.aload_n 0, 1) := by decide +kernel
theorem dX7_findBest_116 : decode cX7_findBest 116 = .ok (.getfield 60, 3) := by decide +kernel
theorem dX7_findBest_119 : decode cX7_findBest 119 = .ok (.iload 7, 2) := by decide +kernel
theorem dX7_findBest_121 : decode cX7_findBest 121 = .ok (.iaload, 1) := by decide +kernel
theorem dX7_findBest_122 : decode cX7_findBest 122 = .ok (.if_icmp .ne 7, 3) := by decide +kernel
theorem dX7_findBest_125 : decode cX7_findBest 125 = .ok (.iconst 1, 1) := by decide +kernel
theorem dX7_findBest_126 : decode cX7_findBest 126 = .ok (.goto 4, 3) := by decide +kernel
theorem dX7_findBest_129 : decode cX7_findBest 129 = .ok (.iconst 0, 1) := by decide +kernel
theorem dX7_findBest_130 : decode cX7_findBest 130 = .ok (.istore 8, 2) := by decide +kernel
theorem dX7_findBest_132 : decode cX7_findBest 132 = .ok (.iload 8, 2) := by decide +kernel
theorem dX7_findBest_134 : decode cX7_findBest 134 = .ok (.ifCond .eq 44, 3) := by decide +kernel
theorem dX7_findBest_137 : decode cX7_findBest 137 = .ok (.aload_n 0, 1) := by decide +kernel
theorem dX7_findBest_138 : decode cX7_findBest 138 = .ok (.getfield 63, 3) := by decide +kernel
theorem dX7_findBest_141 : decode cX7_findBest 141 = .ok (.iload 7, 2) := by decide +kernel
theorem dX7_findBest_143 : decode cX7_findBest 143 = .ok (.iaload, 1) := by decide +kernel
theorem dX7_findBest_144 : decode cX7_findBest 144 = .ok (.aload_n 0, 1) := by decide +kernel
theorem dX7_findBest_145 : decode cX7_findBest 145 = .ok (.getfield 72, 3) := by decide +kernel
theorem dX7_findBest_148 : decode cX7_findBest 148 = .ok (.bipush 64, 2) := by decide +kernel
theorem dX7_findBest_150 : decode cX7_findBest 150 = .ok (.iload_n 3, 1) := by decide +kernel
theorem dX7_findBest_151 : decode cX7_findBest 151 = .ok (.iconst 1, 1) := by decide +kernel
theorem dX7_findBest_152 : decode cX7_findBest 152 = .ok (.iadd, 1) := by decide +kernel
theorem dX7_findBest_153 : decode cX7_findBest 153 = .ok (.imul, 1) := by decide +kernel
theorem dX7_findBest_154 : decode cX7_findBest 154 = .ok (.iload_n 2, 1) := by decide +kernel
theorem dX7_findBest_155 : decode cX7_findBest 155 = .ok (.aload_n 0, 1) := by decide +kernel
theorem dX7_findBest_156 : decode cX7_findBest 156 = .ok (.getfield 60, 3) := by decide +kernel
theorem dX7_findBest_159 : decode cX7_findBest 159 = .ok (.iload 7, 2) := by decide +kernel
theorem dX7_findBest_161 : decode cX7_findBest 161 = .ok (.iaload, 1) := by decide +kernel
theorem dX7_findBest_162 : decode cX7_findBest 162 = .ok (.iconst (-1), 1) := by decide +kernel
theorem dX7_findBest_163 : decode cX7_findBest 163 = .ok (.ixor, 1) := by decide +kernel
theorem dX7_findBest_164 : decode cX7_findBest 164 = .ok (.iand, 1) := by decide +kernel
theorem dX7_findBest_165 : decode cX7_findBest 165 = .ok (.iadd, 1) := by decide +kernel
theorem dX7_findBest_166 : decode cX7_findBest 166 = .ok (.iaload, 1) := by decide +kernel
theorem dX7_findBest_167 : decode cX7_findBest 167 = .ok (.iadd, 1) := by decide +kernel
theorem dX7_findBest_168 : decode cX7_findBest 168 = .ok (.iload 4, 2) := by decide +kernel
theorem dX7_findBest_170 : decode cX7_findBest 170 = .ok (.if_icmp .ne 8, 3) := by decide +kernel
theorem dX7_findBest_173 : decode cX7_findBest 173 = .ok (.iload 7, 2) := by decide +kernel
theorem dX7_findBest_175 : decode cX7_findBest 175 = .ok (.goto 5, 3) := by decide +kernel
theorem dX7_findBest_178 : decode cX7_findBest 178 = .ok (.iload 5, 2) := by decide +kernel
theorem dX7_findBest_180 : decode cX7_findBest 180 = .ok (.istore 5, 2) := by decide +kernel
theorem dX7_findBest_182 : decode cX7_findBest 182 = .ok (.iinc 7 (-1), 3) := by decide +kernel
theorem dX7_findBest_185 : decode cX7_findBest 185 = .ok (.goto (-109), 3) := by decide +kernel
theorem dX7_findBest_188 : decode cX7_findBest 188 = .ok (.aload_n 0, 1) := by decide +kernel
theorem dX7_findBest_189 : decode cX7_findBest 189 = .ok (.getfield 69, 3) := by decide +kernel
theorem dX7_findBest_192 : decode cX7_findBest 192 = .ok (.iload_n 3, 1) := by decide +kernel
theorem dX7_findBest_193 : decode cX7_findBest 193 = .ok (.iload 5, 2) := by decide +kernel
theorem dX7_findBest_195 : decode cX7_findBest 195 = .ok (.iastore, 1) := by decide +kernel
theorem dX7_findBest_196 : decode cX7_findBest 196 = .ok (.iload_n 2, 1) := by decide +kernel
theorem dX7_findBest_197 : decode cX7_findBest 197 = .ok (.iload 5, 2) := by decide +kernel
theorem dX7_findBest_199 : decode cX7_findBest 199 = .ok (.ifCond .ge 8, 3) := by decide +kernel
theorem dX7_findBest_202 : decode cX7_findBest 202 = .ok (.bipush 63, 2) := by decide +kernel
theorem dX7_findBest_204 : decode cX7_findBest 204 = .ok (.goto 12, 3) := by decide +kernel
theorem dX7_findBest_207 : decode cX7_findBest 207 = .ok (.aload_n 0, 1) := by decide +kernel
theorem dX7_findBest_208 : decode cX7_findBest 208 = .ok (.getfield 60, 3) := by decide +kernel
theorem dX7_findBest_211 : decode cX7_findBest 211 = .ok (.iload 5, 2) := by decide +kernel
theorem dX7_findBest_213 : decode cX7_findBest 213 = .ok (.iaload, 1) := by decide +kernel
theorem dX7_findBest_214 : decode cX7_findBest 214 = .ok (.iconst (-1), 1) := by decide +kernel
theorem dX7_findBest_215 : decode cX7_findBest 215 = .ok (.ixor, 1) := by decide +kernel
theorem dX7_findBest_216 : decode cX7_findBest 216 = .ok (.iand, 1) := by decide +kernel
theorem dX7_findBest_217 : decode cX7_findBest 217 = .ok (.istore_n 2, 1) := by decide +kernel
theorem dX7_findBest_218 : decode cX7_findBest 218 = .ok (.iinc 3 1, 3) := by decide +kernel
theorem dX7_findBest_221 : decode cX7_findBest 221 = .ok (.goto (-200), 3) := by decide +kernel
theorem dX7_findBest_224 : decode cX7_findBest 224 = .ok (.return_, 1) := by decide +kernel
theorem dX7_best_0 : decode cX7_best 0 = .ok (.aload_n 0, 1) := by decide +kernel
theorem dX7_best_1 : decode cX7_best 1 = .ok (.iload_n 1, 1) := by decide +kernel
theorem dX7_best_2 : decode cX7_best 2 = .ok (.invokevirtual 200, 3) := by decide +kernel
theorem dX7_best_5 : decode cX7_best 5 = .ok (.ifCond .ne 29, 3) := by decide +kernel
theorem dX7_best_8 : decode cX7_best 8 = .ok (.iload_n 2, 1) := by decide +kernel
theorem dX7_best_9 : decode cX7_best 9 = .ok (.iconst (-1), 1) := by decide +kernel
theorem dX7_best_10 : decode cX7_best 10 = .ok (.if_icmp .lt 24, 3) := by decide +kernel
theorem dX7_best_13 : decode cX7_best 13 = .ok (.iload_n 2, 1) := by decide +kernel
theorem dX7_best_14 : decode cX7_best 14 = .ok (.iconst (-1), 1) := by decide +kernel
theorem dX7_best_15 : decode cX7_best 15 = .ok (.if_icmp .eq 22, 3) := by decide +kernel
theorem dX7_best_18 : decode cX7_best 18 = .ok (.aload_n 0, 1) := by decide +kernel
theorem dX7_best_19 : decode cX7_best 19 = .ok (.iload_n 2, 1) := by decide +kernel
theorem dX7_best_20 : decode cX7_best 20 = .ok (.invokevirtual 186, 3) := by decide +kernel
theorem dX7_best_23 : decode cX7_best 23 = .ok (.ifCond .ne 11, 3) := by decide +kernel
theorem dX7_best_26 : decode cX7_best 26 = .ok (.iload_n 1, 1) := by decide +kernel
theorem dX7_best_27 : decode cX7_best 27 = .ok (.iload_n 2, 1) := by decide +kernel
theorem dX7_best_28 : decode cX7_best 28 = .ok (.ishr, 1) := by decide +kernel
theorem dX7_best_29 : decode cX7_best 29 = .ok (.iconst 1, 1) := by decide +kernel
theorem dX7_best_30 : decode cX7_best 30 = .ok (.iand, 1) := by decide +kernel
theorem dX7_best_31 : decode cX7_best 31 = .ok (.ifCond .ne 6, 3) := by decide +kernel
theorem dX7_best_34 : decode cX7_best 34 = .ok (.bipush (-10), 2) := by decide +kernel
theorem dX7_best_36 : decode cX7_best 36 = .ok (.ireturn, 1) := by decide +kernel
theorem dX7_best_37 : decode cX7_best 37 = .ok (.aload_n 0, 1) := by decide +kernel
theorem dX7_best_38 : decode cX7_best 38 = .ok (.iload_n 1, 1) := by decide +kernel
theorem dX7_best_39 : decode cX7_best 39 = .ok (.invokevirtual 203, 3) := by decide +kernel
theorem dX7_best_42 : decode cX7_best 42 = .ok (.iload_n 2, 1) := by decide +kernel
theorem dX7_best_43 : decode cX7_best 43 = .ok (.iconst (-1), 1) := by decide +kernel
theorem dX7_best_44 : decode cX7_best 44 = .ok (.if_icmp .ne 10, 3) := by decide +kernel
theorem dX7_best_47 : decode cX7_best 47 = .ok (.aload_n 0, 1) := by decide +kernel
theorem dX7_best_48 : decode cX7_best 48 = .ok (.getfield 197, 3) := by decide +kernel
theorem dX7_best_51 : decode cX7_best 51 = .ok (.goto 9, 3) := by decide +kernel
theorem dX7_best_54 : decode cX7_best 54 = .ok (.aload_n 0, 1) := by decide +kernel
theorem dX7_best_55 : decode cX7_best 55 = .ok (.getfield 69, 3) := by decide +kernel
theorem dX7_best_58 : decode cX7_best 58 = .ok (.iload_n 2, 1) := by decide +kernel
theorem dX7_best_59 : decode cX7_best 59 = .ok (.iaload, 1) := by decide +kernel
theorem dX7_best_60 : decode cX7_best 60 = .ok (.ireturn, 1) := by decide +kernel
theorem dX7_allHouses_0 : decode cX7_allHouses 0 = .ok (.iconst 1, 1) := by decide +kernel
theorem dX7_allHouses_1 : decode cX7_allHouses 1 = .ok (.aload_n 0, 1) := by decide +kernel
theorem dX7_allHouses_2 : decode cX7_allHouses 2 = .ok (.getfield 183, 3) := by decide +kernel
theorem dX7_allHouses_5 : decode cX7_allHouses 5 = .ok (.ishl, 1) := by decide +kernel
theorem dX7_allHouses_6 : decode cX7_allHouses 6 = .ok (.iconst 1, 1) := by decide +kernel
theorem dX7_allHouses_7 : decode cX7_allHouses 7 = .ok (.isub, 1) := by decide +kernel
theorem dX7_allHouses_8 : decode cX7_allHouses 8 = .ok (.ireturn, 1) := by decide +kernel
theorem dX7_wonBy_0 : decode cX7_wonBy 0 = .ok (.aload_n 0, 1) := by decide +kernel
theorem dX7_wonBy_1 : decode cX7_wonBy 1 = .ok (.getfield 69, 3) := by decide +kernel
theorem dX7_wonBy_4 : decode cX7_wonBy 4 = .ok (.iload_n 1, 1) := by decide +kernel
theorem dX7_wonBy_5 : decode cX7_wonBy 5 = .ok (.iaload, 1) := by decide +kernel
theorem dX7_wonBy_6 : decode cX7_wonBy 6 = .ok (.ifCond .ge 7, 3) := by decide +kernel
theorem dX7_wonBy_9 : decode cX7_wonBy 9 = .ok (.iconst 0, 1) := by decide +kernel
theorem dX7_wonBy_10 : decode cX7_wonBy 10 = .ok (.goto 14, 3) := by decide +kernel
theorem dX7_wonBy_13 : decode cX7_wonBy 13 = .ok (.aload_n 0, 1) := by decide +kernel
theorem dX7_wonBy_14 : decode cX7_wonBy 14 = .ok (.getfield 63, 3) := by decide +kernel
theorem dX7_wonBy_17 : decode cX7_wonBy 17 = .ok (.aload_n 0, 1) := by decide +kernel
theorem dX7_wonBy_18 : decode cX7_wonBy 18 = .ok (.getfield 69, 3) := by decide +kernel
theorem dX7_wonBy_21 : decode cX7_wonBy 21 = .ok (.iload_n 1, 1) := by decide +kernel
theorem dX7_wonBy_22 : decode cX7_wonBy 22 = .ok (.iaload, 1) := by decide +kernel
theorem dX7_wonBy_23 : decode cX7_wonBy 23 = .ok (.iaload, 1) := by decide +kernel
theorem dX7_wonBy_24 : decode cX7_wonBy 24 = .ok (.ireturn, 1) := by decide +kernel
theorem dX7_takes_0 : decode cX7_takes 0 = .ok (.aload_n 0, 1) := by decide +kernel
theorem dX7_takes_1 : decode cX7_takes 1 = .ok (.iload_n 1, 1) := by decide +kernel
theorem dX7_takes_2 : decode cX7_takes 2 = .ok (.invokevirtual 186, 3) := by decide +kernel
theorem dX7_takes_5 : decode cX7_takes 5 = .ok (.ifCond .eq 6, 3) := by decide +kernel
theorem dX7_takes_8 : decode cX7_takes 8 = .ok (.bipush (-2), 2) := by decide +kernel
theorem dX7_takes_10 : decode cX7_takes 10 = .ok (.ireturn, 1) := by decide +kernel
theorem dX7_takes_11 : decode cX7_takes 11 = .ok (.aload_n 0, 1) := by decide +kernel
theorem dX7_takes_12 : decode cX7_takes 12 = .ok (.aload_n 0, 1) := by decide +kernel
theorem dX7_takes_13 : decode cX7_takes 13 = .ok (.invokevirtual 206, 3) := by decide +kernel
theorem dX7_takes_16 : decode cX7_takes 16 = .ok (.iconst 1, 1) := by decide +kernel
theorem dX7_takes_17 : decode cX7_takes 17 = .ok (.iload_n 1, 1) := by decide +kernel
theorem dX7_takes_18 : decode cX7_takes 18 = .ok (.ishl, 1) := by decide +kernel
theorem dX7_takes_19 : decode cX7_takes 19 = .ok (.iconst (-1), 1) := by decide +kernel
theorem dX7_takes_20 : decode cX7_takes 20 = .ok (.ixor, 1) := by decide +kernel
theorem dX7_takes_21 : decode cX7_takes 21 = .ok (.iand, 1) := by decide +kernel
theorem dX7_takes_22 : decode cX7_takes 22 = .ok (.invokevirtual 203, 3) := by decide +kernel
theorem dX7_takes_25 : decode cX7_takes 25 = .ok (.aload_n 0, 1) := by decide +kernel
theorem dX7_takes_26 : decode cX7_takes 26 = .ok (.getfield 197, 3) := by decide +kernel
theorem dX7_takes_29 : decode cX7_takes 29 = .ok (.istore_n 2, 1) := by decide +kernel
theorem dX7_takes_30 : decode cX7_takes 30 = .ok (.aload_n 0, 1) := by decide +kernel
theorem dX7_takes_31 : decode cX7_takes 31 = .ok (.aload_n 0, 1) := by decide +kernel
theorem dX7_takes_32 : decode cX7_takes 32 = .ok (.invokevirtual 206, 3) := by decide +kernel
theorem dX7_takes_35 : decode cX7_takes 35 = .ok (.invokevirtual 203, 3) := by decide +kernel
theorem dX7_takes_38 : decode cX7_takes 38 = .ok (.iload_n 2, 1) := by decide +kernel
theorem dX7_takes_39 : decode cX7_takes 39 = .ok (.aload_n 0, 1) := by decide +kernel
theorem dX7_takes_40 : decode cX7_takes 40 = .ok (.getfield 197, 3) := by decide +kernel
theorem dX7_takes_43 : decode cX7_takes 43 = .ok (.aload_n 0, 1) := by decide +kernel
theorem dX7_takes_44 : decode cX7_takes 44 = .ok (.iload_n 1, 1) := by decide +kernel
theorem dX7_takes_45 : decode cX7_takes 45 = .ok (.invokevirtual 209, 3) := by decide +kernel
theorem dX7_takes_48 : decode cX7_takes 48 = .ok (.isub, 1) := by decide +kernel
theorem dX7_takes_49 : decode cX7_takes 49 = .ok (.isub, 1) := by decide +kernel
theorem dX7_takes_50 : decode cX7_takes 50 = .ok (.ireturn, 1) := by decide +kernel
theorem dX7_price_0 : decode cX7_price 0 = .ok (.aload_n 0, 1) := by decide +kernel
theorem dX7_price_1 : decode cX7_price 1 = .ok (.iload_n 1, 1) := by decide +kernel
theorem dX7_price_2 : decode cX7_price 2 = .ok (.invokevirtual 186, 3) := by decide +kernel
theorem dX7_price_5 : decode cX7_price 5 = .ok (.ifCond .ne 15, 3) := by decide +kernel
theorem dX7_price_8 : decode cX7_price 8 = .ok (.iload_n 2, 1) := by decide +kernel
theorem dX7_price_9 : decode cX7_price 9 = .ok (.i2l, 1) := by decide +kernel
theorem dX7_price_10 : decode cX7_price 10 = .ok (.lconst 0, 1) := by decide +kernel
theorem dX7_price_11 : decode cX7_price 11 = .ok (.ldc2_w 189, 3) := by decide +kernel
theorem dX7_price_14 : decode cX7_price 14 = .ok (.invokestatic 90, 3) := by decide +kernel
theorem dX7_price_17 : decode cX7_price 17 = .ok (.ifCond .ne 6, 3) := by decide +kernel
theorem dX7_price_20 : decode cX7_price 20 = .ok (.bipush (-2), 2) := by decide +kernel
theorem dX7_price_22 : decode cX7_price 22 = .ok (.ireturn, 1) := by decide +kernel
theorem dX7_price_23 : decode cX7_price 23 = .ok (.aload_n 0, 1) := by decide +kernel
theorem dX7_price_24 : decode cX7_price 24 = .ok (.getfield 54, 3) := by decide +kernel
theorem dX7_price_27 : decode cX7_price 27 = .ok (.iload_n 1, 1) := by decide +kernel
theorem dX7_price_28 : decode cX7_price 28 = .ok (.iaload, 1) := by decide +kernel
theorem dX7_price_29 : decode cX7_price 29 = .ok (.istore_n 3, 1) := by decide +kernel
theorem dX7_price_30 : decode cX7_price 30 = .ok (.aload_n 0, 1) := by decide +kernel
theorem dX7_price_31 : decode cX7_price 31 = .ok (.getfield 54, 3) := by decide +kernel
theorem dX7_price_34 : decode cX7_price 34 = .ok (.iload_n 1, 1) := by decide +kernel
theorem dX7_price_35 : decode cX7_price 35 = .ok (.iload_n 2, 1) := by decide +kernel
theorem dX7_price_36 : decode cX7_price 36 = .ok (.iastore, 1) := by decide +kernel
theorem dX7_price_37 : decode cX7_price 37 = .ok (.iload_n 3, 1) := by decide +kernel
theorem dX7_price_38 : decode cX7_price 38 = .ok (.ireturn, 1) := by decide +kernel
theorem dX7_isBlocking_0 : decode cX7_isBlocking 0 = .ok (.aload_n 0, 1) := by decide +kernel
theorem dX7_isBlocking_1 : decode cX7_isBlocking 1 = .ok (.iload_n 1, 1) := by decide +kernel
theorem dX7_isBlocking_2 : decode cX7_isBlocking 2 = .ok (.invokevirtual 203, 3) := by decide +kernel
theorem dX7_isBlocking_5 : decode cX7_isBlocking 5 = .ok (.aload_n 0, 1) := by decide +kernel
theorem dX7_isBlocking_6 : decode cX7_isBlocking 6 = .ok (.getfield 197, 3) := by decide +kernel
theorem dX7_isBlocking_9 : decode cX7_isBlocking 9 = .ok (.istore_n 2, 1) := by decide +kernel
theorem dX7_isBlocking_10 : decode cX7_isBlocking 10 = .ok (.aload_n 0, 1) := by decide +kernel
theorem dX7_isBlocking_11 : decode cX7_isBlocking 11 = .ok (.aload_n 0, 1) := by decide +kernel
theorem dX7_isBlocking_12 : decode cX7_isBlocking 12 = .ok (.invokevirtual 206, 3) := by decide +kernel
theorem dX7_isBlocking_15 : decode cX7_isBlocking 15 = .ok (.invokevirtual 203, 3) := by decide +kernel
theorem dX7_isBlocking_18 : decode cX7_isBlocking 18 = .ok (.iconst 0, 1) := by decide +kernel
theorem dX7_isBlocking_19 : decode cX7_isBlocking 19 = .ok (.istore_n 3, 1) := by decide +kernel
theorem dX7_isBlocking_20 : decode cX7_isBlocking 20 = .ok (.iconst 0, 1) := by decide +kernel
theorem dX7_isBlocking_21 : decode cX7_isBlocking 21 = .ok (.istore 4, 2) := by decide +kernel
theorem dX7_isBlocking_23 : decode cX7_isBlocking 23 = .ok (.iload 4, 2) := by decide +kernel
theorem dX7_isBlocking_25 : decode cX7_isBlocking 25 = .ok (.aload_n 0, 1) := by decide +kernel
theorem dX7_isBlocking_26 : decode cX7_isBlocking 26 = .ok (.getfield 183, 3) := by decide +kernel
theorem dX7_isBlocking_29 : decode cX7_isBlocking 29 = .ok (.if_icmp .ge 80, 3) := by decide +kernel
theorem dX7_isBlocking_32 : decode cX7_isBlocking 32 = .ok (.aload_n 0, 1) := by decide +kernel
theorem dX7_isBlocking_33 : decode cX7_isBlocking 33 = .ok (.iload 4, 2) := by decide +kernel
theorem dX7_isBlocking_35 : decode cX7_isBlocking 35 = .ok (.invokevirtual 209, 3) := by decide +kernel
theorem dX7_isBlocking_38 : decode cX7_isBlocking 38 = .ok (.istore 5, 2) := by decide +kernel
theorem dX7_isBlocking_40 : decode cX7_isBlocking 40 = .ok (.iload_n 3, 1) := by decide +kernel
theorem dX7_isBlocking_41 : decode cX7_isBlocking 41 = .ok (.aload_n 0, 1) := by decide +kernel
theorem dX7_isBlocking_42 : decode cX7_isBlocking 42 = .ok (.getfield 69, 3) := by decide +kernel
theorem dX7_isBlocking_45 : decode cX7_isBlocking 45 = .ok (.iload 4, 2) := by decide +kernel
theorem dX7_isBlocking_47 : decode cX7_isBlocking 47 = .ok (.iaload, 1) := by decide +kernel
theorem dX7_isBlocking_48 : decode cX7_isBlocking 48 = .ok (.ifCond .ge 7, 3) := by decide +kernel
theorem dX7_isBlocking_51 : decode cX7_isBlocking 51 = .ok (.iconst 0, 1) := by decide +kernel
theorem dX7_isBlocking_52 : decode cX7_isBlocking 52 = .ok (.goto 10, 3) := by decide +kernel
theorem dX7_isBlocking_55 : decode cX7_isBlocking 55 = .ok (.aload_n 0, 1) := by decide +kernel
theorem dX7_isBlocking_56 : decode cX7_isBlocking 56 = .ok (.getfield 54, 3) := by decide +kernel
theorem dX7_isBlocking_59 : decode cX7_isBlocking 59 = .ok (.iload 4, 2) := by decide +kernel
theorem dX7_isBlocking_61 : decode cX7_isBlocking 61 = .ok (.iaload, 1) := by decide +kernel
theorem dX7_isBlocking_62 : decode cX7_isBlocking 62 = .ok (.iadd, 1) := by decide +kernel
theorem dX7_isBlocking_63 : decode cX7_isBlocking 63 = .ok (.istore_n 3, 1) := by decide +kernel
theorem dX7_isBlocking_64 : decode cX7_isBlocking 64 = .ok (.iload_n 3, 1) := by decide +kernel
theorem dX7_isBlocking_65 : decode cX7_isBlocking 65 = .ok (.iload_n 1, 1) := by decide +kernel
theorem dX7_isBlocking_66 : decode cX7_isBlocking 66 = .ok (.iload 4, 2) := by decide +kernel
theorem dX7_isBlocking_68 : decode cX7_isBlocking 68 = .ok (.ishr, 1) := by decide +kernel
theorem dX7_isBlocking_69 : decode cX7_isBlocking 69 = .ok (.iconst 1, 1) := by decide +kernel
theorem dX7_isBlocking_70 : decode cX7_isBlocking 70 = .ok (.iand, 1) := by decide +kernel
theorem dX7_isBlocking_71 : decode cX7_isBlocking 71 = .ok (.iconst 1, 1) := by decide +kernel
theorem dX7_isBlocking_72 : decode cX7_isBlocking 72 = .ok (.if_icmp .ne 28, 3) := by decide +kernel
theorem dX7_isBlocking_75 : decode cX7_isBlocking 75 = .ok (.iload 5, 2) := by decide +kernel
theorem dX7_isBlocking_77 : decode cX7_isBlocking 77 = .ok (.aload_n 0, 1) := by decide +kernel
theorem dX7_isBlocking_78 : decode cX7_isBlocking 78 = .ok (.getfield 54, 3) := by decide +kernel
theorem dX7_isBlocking_81 : decode cX7_isBlocking 81 = .ok (.iload 4, 2) := by decide +kernel
theorem dX7_isBlocking_83 : decode cX7_isBlocking 83 = .ok (.iaload, 1) := by decide +kernel
theorem dX7_isBlocking_84 : decode cX7_isBlocking 84 = .ok (.if_icmp .le 16, 3) := by decide +kernel
theorem dX7_isBlocking_87 : decode cX7_isBlocking 87 = .ok (.iload 5, 2) := by decide +kernel
theorem dX7_isBlocking_89 : decode cX7_isBlocking 89 = .ok (.aload_n 0, 1) := by decide +kernel
theorem dX7_isBlocking_90 : decode cX7_isBlocking 90 = .ok (.getfield 54, 3) := by decide +kernel
theorem dX7_isBlocking_93 : decode cX7_isBlocking 93 = .ok (.iload 4, 2) := by decide +kernel
theorem dX7_isBlocking_95 : decode cX7_isBlocking 95 = .ok (.iaload, 1) := by decide +kernel
theorem dX7_isBlocking_96 : decode cX7_isBlocking 96 = .ok (.isub, 1) := by decide +kernel
theorem dX7_isBlocking_97 : decode cX7_isBlocking 97 = .ok (.goto 4, 3) := by decide +kernel
theorem dX7_isBlocking_100 : decode cX7_isBlocking 100 = .ok (.iconst 0, 1) := by decide +kernel
theorem dX7_isBlocking_101 : decode cX7_isBlocking 101 = .ok (.iadd, 1) := by decide +kernel
theorem dX7_isBlocking_102 : decode cX7_isBlocking 102 = .ok (.istore_n 3, 1) := by decide +kernel
theorem dX7_isBlocking_103 : decode cX7_isBlocking 103 = .ok (.iinc 4 1, 3) := by decide +kernel
theorem dX7_isBlocking_106 : decode cX7_isBlocking 106 = .ok (.goto (-83), 3) := by decide +kernel
theorem dX7_isBlocking_109 : decode cX7_isBlocking 109 = .ok (.iload_n 2, 1) := by decide +kernel
theorem dX7_isBlocking_110 : decode cX7_isBlocking 110 = .ok (.iload_n 3, 1) := by decide +kernel
theorem dX7_isBlocking_111 : decode cX7_isBlocking 111 = .ok (.if_icmp .le 7, 3) := by decide +kernel
theorem dX7_isBlocking_114 : decode cX7_isBlocking 114 = .ok (.iconst 1, 1) := by decide +kernel
theorem dX7_isBlocking_115 : decode cX7_isBlocking 115 = .ok (.goto 4, 3) := by decide +kernel
theorem dX7_isBlocking_118 : decode cX7_isBlocking 118 = .ok (.iconst 0, 1) := by decide +kernel
theorem dX7_isBlocking_119 : decode cX7_isBlocking 119 = .ok (.ireturn, 1) := by decide +kernel
theorem dX7_blocks_0 : decode cX7_blocks 0 = .ok (.aload_n 0, 1) := by decide +kernel
theorem dX7_blocks_1 : decode cX7_blocks 1 = .ok (.iload_n 1, 1) := by decide +kernel
theorem dX7_blocks_2 : decode cX7_blocks 2 = .ok (.invokevirtual 200, 3) := by decide +kernel
theorem dX7_blocks_5 : decode cX7_blocks 5 = .ok (.ifCond .eq 8, 3) := by decide +kernel
theorem dX7_blocks_8 : decode cX7_blocks 8 = .ok (.bipush (-2), 2) := by decide +kernel
theorem dX7_blocks_10 : decode cX7_blocks 10 = .ok (.goto 11, 3) := by decide +kernel
theorem dX7_blocks_13 : decode cX7_blocks 13 = .ok (.aload_n 0, 1) := by decide +kernel
theorem dX7_blocks_14 : decode cX7_blocks 14 = .ok (.iload_n 1, 1) := by decide +kernel
theorem dX7_blocks_15 : decode cX7_blocks 15 = .ok (.invokevirtual 212, 3) := by decide +kernel
theorem dX7_blocks_18 : decode cX7_blocks 18 = .ok (.invokestatic 124, 3) := by decide +kernel
theorem dX7_blocks_21 : decode cX7_blocks 21 = .ok (.ireturn, 1) := by decide +kernel
theorem dX7_alone_0 : decode cX7_alone 0 = .ok (.iconst 1, 1) := by decide +kernel
theorem dX7_alone_1 : decode cX7_alone 1 = .ok (.istore_n 1, 1) := by decide +kernel
theorem dX7_alone_2 : decode cX7_alone 2 = .ok (.iload_n 1, 1) := by decide +kernel
theorem dX7_alone_3 : decode cX7_alone 3 = .ok (.aload_n 0, 1) := by decide +kernel
theorem dX7_alone_4 : decode cX7_alone 4 = .ok (.invokevirtual 206, 3) := by decide +kernel
theorem dX7_alone_7 : decode cX7_alone 7 = .ok (.if_icmp .gt 19, 3) := by decide +kernel
theorem dX7_alone_10 : decode cX7_alone 10 = .ok (.aload_n 0, 1) := by decide +kernel
theorem dX7_alone_11 : decode cX7_alone 11 = .ok (.iload_n 1, 1) := by decide +kernel
theorem dX7_alone_12 : decode cX7_alone 12 = .ok (.invokevirtual 212, 3) := by decide +kernel
theorem dX7_alone_15 : decode cX7_alone 15 = .ok (.ifCond .eq 5, 3) := by decide +kernel
theorem dX7_alone_18 : decode cX7_alone 18 = .ok (.iload_n 1, 1) := by decide +kernel
theorem dX7_alone_19 : decode cX7_alone 19 = .ok (.ireturn, 1) := by decide +kernel
theorem dX7_alone_20 : decode cX7_alone 20 = .ok (.iinc 1 1, 3) := by decide +kernel
theorem dX7_alone_23 : decode cX7_alone 23 = .ok (.goto (-21), 3) := by decide +kernel
theorem dX7_alone_26 : decode cX7_alone 26 = .ok (.iconst (-1), 1) := by decide +kernel
theorem dX7_alone_27 : decode cX7_alone 27 = .ok (.ireturn, 1) := by decide +kernel
theorem dX7_tell_0 : decode cX7_tell 0 = .ok (.aload_n 0, 1) := by decide +kernel
theorem dX7_tell_1 : decode cX7_tell 1 = .ok (.iload_n 1, 1) := by decide +kernel
theorem dX7_tell_2 : decode cX7_tell 2 = .ok (.invokevirtual 96, 3) := by decide +kernel
theorem dX7_tell_5 : decode cX7_tell 5 = .ok (.ifCond .ne 27, 3) := by decide +kernel
theorem dX7_tell_8 : decode cX7_tell 8 = .ok (.iload_n 2, 1) := by decide +kernel
theorem dX7_tell_9 : decode cX7_tell 9 = .ok (.i2l, 1) := by decide +kernel
theorem dX7_tell_10 : decode cX7_tell 10 = .ok (.lconst 0, 1) := by decide +kernel
theorem dX7_tell_11 : decode cX7_tell 11 = .ok (.lconst 1, 1) := by decide +kernel
theorem dX7_tell_12 : decode cX7_tell 12 = .ok (.invokestatic 90, 3) := by decide +kernel
theorem dX7_tell_15 : decode cX7_tell 15 = .ok (.ifCond .eq 17, 3) := by decide +kernel
theorem dX7_tell_18 : decode cX7_tell 18 = .ok (.iload_n 3, 1) := by decide +kernel
theorem dX7_tell_19 : decode cX7_tell 19 = .ok (.i2l, 1) := by decide +kernel
theorem dX7_tell_20 : decode cX7_tell 20 = .ok (.ldc2_w 215, 3) := by decide +kernel
theorem dX7_tell_23 : decode cX7_tell 23 = .ok (.ldc2_w 217, 3) := by decide +kernel
theorem dX7_tell_26 : decode cX7_tell 26 = .ok (.invokestatic 90, 3) := by decide +kernel
theorem dX7_tell_29 : decode cX7_tell 29 = .ok (.ifCond .ne 6, 3) := by decide +kernel
theorem dX7_tell_32 : decode cX7_tell 32 = .ok (.bipush (-10), 2) := by decide +kernel
theorem dX7_tell_34 : decode cX7_tell 34 = .ok (.ireturn, 1) := by decide +kernel
theorem dX7_tell_35 : decode cX7_tell 35 = .ok (.iload_n 2, 1) := by decide +kernel
theorem dX7_tell_36 : decode cX7_tell 36 = .ok (.ifCond .ne 12, 3) := by decide +kernel
theorem dX7_tell_39 : decode cX7_tell 39 = .ok (.aload_n 0, 1) := by decide +kernel
theorem dX7_tell_40 : decode cX7_tell 40 = .ok (.getfield 75, 3) := by decide +kernel
theorem dX7_tell_43 : decode cX7_tell 43 = .ok (.iload_n 1, 1) := by decide +kernel
theorem dX7_tell_44 : decode cX7_tell 44 = .ok (.iaload, 1) := by decide +kernel
theorem dX7_tell_45 : decode cX7_tell 45 = .ok (.goto 9, 3) := by decide +kernel
theorem dX7_tell_48 : decode cX7_tell 48 = .ok (.aload_n 0, 1) := by decide +kernel
theorem dX7_tell_49 : decode cX7_tell 49 = .ok (.getfield 78, 3) := by decide +kernel
theorem dX7_tell_52 : decode cX7_tell 52 = .ok (.iload_n 1, 1) := by decide +kernel
theorem dX7_tell_53 : decode cX7_tell 53 = .ok (.iaload, 1) := by decide +kernel
theorem dX7_tell_54 : decode cX7_tell 54 = .ok (.istore 4, 2) := by decide +kernel
theorem dX7_tell_56 : decode cX7_tell 56 = .ok (.aload_n 0, 1) := by decide +kernel
theorem dX7_tell_57 : decode cX7_tell 57 = .ok (.getfield 75, 3) := by decide +kernel
theorem dX7_tell_60 : decode cX7_tell 60 = .ok (.iload_n 1, 1) := by decide +kernel
theorem dX7_tell_61 : decode cX7_tell 61 = .ok (.iload_n 2, 1) := by decide +kernel
theorem dX7_tell_62 : decode cX7_tell 62 = .ok (.ifCond .ne 7, 3) := by decide +kernel
theorem dX7_tell_65 : decode cX7_tell 65 = .ok (.iload_n 3, 1) := by decide +kernel
theorem dX7_tell_66 : decode cX7_tell 66 = .ok (.goto 9, 3) := by decide +kernel
theorem dX7_tell_69 : decode cX7_tell 69 = .ok (.aload_n 0, 1) := by decide +kernel
theorem dX7_tell_70 : decode cX7_tell 70 = .ok (.getfield 75, 3) := by decide +kernel
theorem dX7_tell_73 : decode cX7_tell 73 = .ok (.iload_n 1, 1) := by decide +kernel
theorem dX7_tell_74 : decode cX7_tell 74 = .ok (.iaload, 1) := by decide +kernel
theorem dX7_tell_75 : decode cX7_tell 75 = .ok (.iastore, 1) := by decide +kernel
theorem dX7_tell_76 : decode cX7_tell 76 = .ok (.aload_n 0, 1) := by decide +kernel
theorem dX7_tell_77 : decode cX7_tell 77 = .ok (.getfield 78, 3) := by decide +kernel
theorem dX7_tell_80 : decode cX7_tell 80 = .ok (.iload_n 1, 1) := by decide +kernel
theorem dX7_tell_81 : decode cX7_tell 81 = .ok (.iload_n 2, 1) := by decide +kernel
theorem dX7_tell_82 : decode cX7_tell 82 = .ok (.ifCond .ne 12, 3) := by decide +kernel
theorem dX7_tell_85 : decode cX7_tell 85 = .ok (.aload_n 0, 1) := by decide +kernel
theorem dX7_tell_86 : decode cX7_tell 86 = .ok (.getfield 78, 3) := by decide +kernel
theorem dX7_tell_89 : decode cX7_tell 89 = .ok (.iload_n 1, 1) := by decide +kernel
theorem dX7_tell_90 : decode cX7_tell 90 = .ok (.iaload, 1) := by decide +kernel
theorem dX7_tell_91 : decode cX7_tell 91 = .ok (.goto 4, 3) := by decide +kernel
theorem dX7_tell_94 : decode cX7_tell 94 = .ok (.iload_n 3, 1) := by decide +kernel
theorem dX7_tell_95 : decode cX7_tell 95 = .ok (.iastore, 1) := by decide +kernel
theorem dX7_tell_96 : decode cX7_tell 96 = .ok (.iload 4, 2) := by decide +kernel
theorem dX7_tell_98 : decode cX7_tell 98 = .ok (.ireturn, 1) := by decide +kernel
theorem dX7_at_0 : decode cX7_at 0 = .ok (.iload_n 2, 1) := by decide +kernel
theorem dX7_at_1 : decode cX7_at 1 = .ok (.iload_n 1, 1) := by decide +kernel
theorem dX7_at_2 : decode cX7_at 2 = .ok (.ishr, 1) := by decide +kernel
theorem dX7_at_3 : decode cX7_at 3 = .ok (.iconst 1, 1) := by decide +kernel
theorem dX7_at_4 : decode cX7_at 4 = .ok (.iand, 1) := by decide +kernel
theorem dX7_at_5 : decode cX7_at 5 = .ok (.iconst 1, 1) := by decide +kernel
theorem dX7_at_6 : decode cX7_at 6 = .ok (.if_icmp .ne 12, 3) := by decide +kernel
theorem dX7_at_9 : decode cX7_at 9 = .ok (.aload_n 0, 1) := by decide +kernel
theorem dX7_at_10 : decode cX7_at 10 = .ok (.getfield 78, 3) := by decide +kernel
theorem dX7_at_13 : decode cX7_at 13 = .ok (.iload_n 1, 1) := by decide +kernel
theorem dX7_at_14 : decode cX7_at 14 = .ok (.iaload, 1) := by decide +kernel
theorem dX7_at_15 : decode cX7_at 15 = .ok (.goto 9, 3) := by decide +kernel
theorem dX7_at_18 : decode cX7_at 18 = .ok (.aload_n 0, 1) := by decide +kernel
theorem dX7_at_19 : decode cX7_at 19 = .ok (.getfield 75, 3) := by decide +kernel
theorem dX7_at_22 : decode cX7_at 22 = .ok (.iload_n 1, 1) := by decide +kernel
theorem dX7_at_23 : decode cX7_at 23 = .ok (.iaload, 1) := by decide +kernel
theorem dX7_at_24 : decode cX7_at 24 = .ok (.ireturn, 1) := by decide +kernel
theorem dX7_isQuiet_0 : decode cX7_isQuiet 0 = .ok (.iconst 1, 1) := by decide +kernel
theorem dX7_isQuiet_1 : decode cX7_isQuiet 1 = .ok (.istore_n 2, 1) := by decide +kernel
theorem dX7_isQuiet_2 : decode cX7_isQuiet 2 = .ok (.iconst 0, 1) := by decide +kernel
theorem dX7_isQuiet_3 : decode cX7_isQuiet 3 = .ok (.istore_n 3, 1) := by decide +kernel
theorem dX7_isQuiet_4 : decode cX7_isQuiet 4 = .ok (.iload_n 3, 1) := by decide +kernel
theorem dX7_isQuiet_5 : decode cX7_isQuiet 5 = .ok (.aload_n 0, 1) := by decide +kernel
theorem dX7_isQuiet_6 : decode cX7_isQuiet 6 = .ok (.getfield 87, 3) := by decide +kernel
theorem dX7_isQuiet_9 : decode cX7_isQuiet 9 = .ok (.if_icmp .ge 79, 3) := by decide +kernel
theorem dX7_isQuiet_12 : decode cX7_isQuiet 12 = .ok (.iload_n 2, 1) := by decide +kernel
theorem dX7_isQuiet_13 : decode cX7_isQuiet 13 = .ok (.ifCond .eq 75, 3) := by decide +kernel
theorem dX7_isQuiet_16 : decode cX7_isQuiet 16 = .ok (.iconst 0, 1) := by decide +kernel
theorem dX7_isQuiet_17 : decode cX7_isQuiet 17 = .ok (.istore 4, 2) := by decide +kernel
theorem dX7_isQuiet_19 : decode cX7_isQuiet 19 = .ok (.iload 4, 2) := by decide +kernel
theorem dX7_isQuiet_21 : decode cX7_isQuiet 21 = .ok (.iload_n 3, 1) := by decide +kernel
theorem dX7_isQuiet_22 : decode cX7_isQuiet 22 = .ok (.if_icmp .ge 60, 3) := by decide +kernel
theorem dX7_isQuiet_25 : decode cX7_isQuiet 25 = .ok (.aload_n 0, 1) := by decide +kernel
theorem dX7_isQuiet_26 : decode cX7_isQuiet 26 = .ok (.iload_n 3, 1) := by decide +kernel
theorem dX7_isQuiet_27 : decode cX7_isQuiet 27 = .ok (.iload_n 1, 1) := by decide +kernel
theorem dX7_isQuiet_28 : decode cX7_isQuiet 28 = .ok (.invokevirtual 219, 3) := by decide +kernel
theorem dX7_isQuiet_31 : decode cX7_isQuiet 31 = .ok (.istore 5, 2) := by decide +kernel
theorem dX7_isQuiet_33 : decode cX7_isQuiet 33 = .ok (.aload_n 0, 1) := by decide +kernel
theorem dX7_isQuiet_34 : decode cX7_isQuiet 34 = .ok (.iload 4, 2) := by decide +kernel
theorem dX7_isQuiet_36 : decode cX7_isQuiet 36 = .ok (.iload_n 1, 1) := by decide +kernel
theorem dX7_isQuiet_37 : decode cX7_isQuiet 37 = .ok (.invokevirtual 219, 3) := by decide +kernel
theorem dX7_isQuiet_40 : decode cX7_isQuiet 40 = .ok (.istore 6, 2) := by decide +kernel
theorem dX7_isQuiet_42 : decode cX7_isQuiet 42 = .ok (.iload_n 2, 1) := by decide +kernel
theorem dX7_isQuiet_43 : decode cX7_isQuiet 43 = .ok (.ifCond .eq 31, 3) := by decide +kernel
theorem dX7_isQuiet_46 : decode cX7_isQuiet 46 = .ok (.iload 5, 2) := by decide +kernel
theorem dX7_isQuiet_48 : decode cX7_isQuiet 48 = .ok (.ifCond .lt 22, 3) := by decide +kernel
theorem dX7_isQuiet_51 : decode cX7_isQuiet 51 = .ok (.iload 6, 2) := by decide +kernel
theorem dX7_isQuiet_53 : decode cX7_isQuiet 53 = .ok (.ifCond .lt 17, 3) := by decide +kernel
theorem dX7_isQuiet_56 : decode cX7_isQuiet 56 = .ok (.aload_n 0, 1) := by decide +kernel
theorem dX7_isQuiet_57 : decode cX7_isQuiet 57 = .ok (.iload_n 3, 1) := by decide +kernel
theorem dX7_isQuiet_58 : decode cX7_isQuiet 58 = .ok (.iload 4, 2) := by decide +kernel
theorem dX7_isQuiet_60 : decode cX7_isQuiet 60 = .ok (.iload 5, 2) := by decide +kernel
theorem dX7_isQuiet_62 : decode cX7_isQuiet 62 = .ok (.iload 6, 2) := by decide +kernel
theorem dX7_isQuiet_64 : decode cX7_isQuiet 64 = .ok (.invokevirtual 109, 3) := by decide +kernel
theorem dX7_isQuiet_67 : decode cX7_isQuiet 67 = .ok (.ifCond .ne 7, 3) := by decide +kernel
theorem dX7_isQuiet_70 : decode cX7_isQuiet 70 = .ok (.iconst 1, 1) := by decide +kernel
theorem dX7_isQuiet_71 : decode cX7_isQuiet 71 = .ok (.goto 4, 3) := by decide +kernel
theorem dX7_isQuiet_74 : decode cX7_isQuiet 74 = .ok (.iconst 0, 1) := by decide +kernel
theorem dX7_isQuiet_75 : decode cX7_isQuiet 75 = .ok (.istore_n 2, 1) := by decide +kernel
theorem dX7_isQuiet_76 : decode cX7_isQuiet 76 = .ok (.iinc 4 1, 3) := by decide +kernel
theorem dX7_isQuiet_79 : decode cX7_isQuiet 79 = .ok (.goto (-60), 3) := by decide +kernel
theorem dX7_isQuiet_82 : decode cX7_isQuiet 82 = .ok (.iinc 3 1, 3) := by decide +kernel
theorem dX7_isQuiet_85 : decode cX7_isQuiet 85 = .ok (.goto (-81), 3) := by decide +kernel
theorem dX7_isQuiet_88 : decode cX7_isQuiet 88 = .ok (.iload_n 2, 1) := by decide +kernel
theorem dX7_isQuiet_89 : decode cX7_isQuiet 89 = .ok (.ireturn, 1) := by decide +kernel
theorem dX7_findFar_0 : decode cX7_findFar 0 = .ok (.iload_n 1, 1) := by decide +kernel
theorem dX7_findFar_1 : decode cX7_findFar 1 = .ok (.istore_n 3, 1) := by decide +kernel
theorem dX7_findFar_2 : decode cX7_findFar 2 = .ok (.iload_n 3, 1) := by decide +kernel
theorem dX7_findFar_3 : decode cX7_findFar 3 = .ok (.ifCond .lt 124, 3) := by decide +kernel
theorem dX7_findFar_6 : decode cX7_findFar 6 = .ok (.iload_n 3, 1) := by decide +kernel
theorem dX7_findFar_7 : decode cX7_findFar 7 = .ok (.iload_n 1, 1) := by decide +kernel
theorem dX7_findFar_8 : decode cX7_findFar 8 = .ok (.iconst (-1), 1) := by decide +kernel
theorem dX7_findFar_9 : decode cX7_findFar 9 = .ok (.ixor, 1) := by decide +kernel
theorem dX7_findFar_10 : decode cX7_findFar 10 = .ok (.iand, 1) := by decide +kernel
theorem dX7_findFar_11 : decode cX7_findFar 11 = .ok (.ifCond .ne 110, 3) := by decide +kernel
theorem dX7_findFar_14 : decode cX7_findFar 14 = .ok (.iload_n 3, 1) := by decide +kernel
theorem dX7_findFar_15 : decode cX7_findFar 15 = .ok (.iload_n 1, 1) := by decide +kernel
theorem dX7_findFar_16 : decode cX7_findFar 16 = .ok (.if_icmp .ne 7, 3) := by decide +kernel
theorem dX7_findFar_19 : decode cX7_findFar 19 = .ok (.iconst 0, 1) := by decide +kernel
theorem dX7_findFar_20 : decode cX7_findFar 20 = .ok (.goto 6, 3) := by decide +kernel
theorem dX7_findFar_23 : decode cX7_findFar 23 = .ok (.sipush 1000, 3) := by decide +kernel
theorem dX7_findFar_26 : decode cX7_findFar 26 = .ok (.istore 4, 2) := by decide +kernel
theorem dX7_findFar_28 : decode cX7_findFar 28 = .ok (.iload_n 1, 1) := by decide +kernel
theorem dX7_findFar_29 : decode cX7_findFar 29 = .ok (.iload_n 3, 1) := by decide +kernel
theorem dX7_findFar_30 : decode cX7_findFar 30 = .ok (.iconst (-1), 1) := by decide +kernel
theorem dX7_findFar_31 : decode cX7_findFar 31 = .ok (.ixor, 1) := by decide +kernel
theorem dX7_findFar_32 : decode cX7_findFar 32 = .ok (.iand, 1) := by decide +kernel
theorem dX7_findFar_33 : decode cX7_findFar 33 = .ok (.istore 5, 2) := by decide +kernel
theorem dX7_findFar_35 : decode cX7_findFar 35 = .ok (.iload 5, 2) := by decide +kernel
theorem dX7_findFar_37 : decode cX7_findFar 37 = .ok (.istore 6, 2) := by decide +kernel
theorem dX7_findFar_39 : decode cX7_findFar 39 = .ok (.iload 6, 2) := by decide +kernel
theorem dX7_findFar_41 : decode cX7_findFar 41 = .ok (.ifCond .le 58, 3) := by decide +kernel
theorem dX7_findFar_44 : decode cX7_findFar 44 = .ok (.iload 6, 2) := by decide +kernel
theorem dX7_findFar_46 : decode cX7_findFar 46 = .ok (.invokestatic 144, 3) := by decide +kernel
theorem dX7_findFar_49 : decode cX7_findFar 49 = .ok (.iload_n 2, 1) := by decide +kernel
theorem dX7_findFar_50 : decode cX7_findFar 50 = .ok (.if_icmp .gt 33, 3) := by decide +kernel
theorem dX7_findFar_53 : decode cX7_findFar 53 = .ok (.aload_n 0, 1) := by decide +kernel
theorem dX7_findFar_54 : decode cX7_findFar 54 = .ok (.getfield 81, 3) := by decide +kernel
theorem dX7_findFar_57 : decode cX7_findFar 57 = .ok (.iload_n 3, 1) := by decide +kernel
theorem dX7_findFar_58 : decode cX7_findFar 58 = .ok (.iload 6, 2) := by decide +kernel
theorem dX7_findFar_60 : decode cX7_findFar 60 = .ok (.ior, 1) := by decide +kernel
theorem dX7_findFar_61 : decode cX7_findFar 61 = .ok (.iaload, 1) := by decide +kernel
theorem dX7_findFar_62 : decode cX7_findFar 62 = .ok (.iconst 1, 1) := by decide +kernel
theorem dX7_findFar_63 : decode cX7_findFar 63 = .ok (.iadd, 1) := by decide +kernel
theorem dX7_findFar_64 : decode cX7_findFar 64 = .ok (.iload 4, 2) := by decide +kernel
theorem dX7_findFar_66 : decode cX7_findFar 66 = .ok (.if_icmp .ge 17, 3) := by decide +kernel
theorem dX7_findFar_69 : decode cX7_findFar 69 = .ok (.aload_n 0, 1) := by decide +kernel
theorem dX7_findFar_70 : decode cX7_findFar 70 = .ok (.getfield 81, 3) := by decide +kernel
theorem dX7_findFar_73 : decode cX7_findFar 73 = .ok (.iload_n 3, 1) := by decide +kernel
theorem dX7_findFar_74 : decode cX7_findFar 74 = .ok (.iload 6, 2) := by decide +kernel
theorem dX7_findFar_76 : decode cX7_findFar 76 = .ok (.ior, 1) := by decide +kernel
theorem dX7_findFar_77 : decode cX7_findFar 77 = .ok (.iaload, 1) := by decide +kernel
theorem dX7_findFar_78 : decode cX7_findFar 78 = .ok (.iconst 1, 1) := by decide +kernel
theorem dX7_findFar_79 : decode cX7_findFar 79 = .ok (.iadd, 1) := by decide +kernel
theorem dX7_findFar_80 : decode cX7_findFar 80 = .ok (.goto 5, 3) := by decide +kernel
theorem dX7_findFar_83 : decode cX7_findFar 83 = .ok (.iload 4, 2) := by decide +kernel
theorem dX7_findFar_85 : decode cX7_findFar 85 = .ok (.istore 4, 2) := by decide +kernel
theorem dX7_findFar_87 : decode cX7_findFar 87 = .ok (.iload 6, 2) := by decide +kernel
theorem dX7_findFar_89 : decode cX7_findFar 89 = .ok (.iconst 1, 1) := by decide +kernel
theorem dX7_findFar_90 : decode cX7_findFar 90 = .ok (.isub, 1) := by decide +kernel
theorem dX7_findFar_91 : decode cX7_findFar 91 = .ok (.iload 5, 2) := by decide +kernel
theorem dX7_findFar_93 : decode cX7_findFar 93 = .ok (.iand, 1) := by decide +kernel
theorem dX7_findFar_94 : decode cX7_findFar 94 = .ok (.istore 6, 2) := by decide +kernel
theorem dX7_findFar_96 : decode cX7_findFar 96 = .ok (.goto (-57), 3) := by decide +kernel
theorem dX7_findFar_99 : decode cX7_findFar 99 = .ok (.aload_n 0, 1) := by decide +kernel
theorem dX7_findFar_100 : decode cX7_findFar 100 = .ok (.getfield 81, 3) := by decide +kernel
theorem dX7_findFar_103 : decode cX7_findFar 103 = .ok (.iload_n 3, 1) := by decide +kernel
theorem dX7_findFar_104 : decode cX7_findFar 104 = .ok (.aload_n 0, 1) := by decide +kernel
theorem dX7_findFar_105 : decode cX7_findFar 105 = .ok (.iload_n 3, 1) := by decide +kernel
theorem dX7_findFar_106 : decode cX7_findFar 106 = .ok (.invokevirtual 222, 3) := by decide +kernel
theorem dX7_findFar_109 : decode cX7_findFar 109 = .ok (.ifCond .eq 8, 3) := by decide +kernel
theorem dX7_findFar_112 : decode cX7_findFar 112 = .ok (.iload 4, 2) := by decide +kernel
theorem dX7_findFar_114 : decode cX7_findFar 114 = .ok (.goto 6, 3) := by decide +kernel
theorem dX7_findFar_117 : decode cX7_findFar 117 = .ok (.sipush 1000, 3) := by decide +kernel
theorem dX7_findFar_120 : decode cX7_findFar 120 = .ok (.iastore, 1) := by decide +kernel
theorem dX7_findFar_121 : decode cX7_findFar 121 = .ok (.iinc 3 (-1), 3) := by decide +kernel
theorem dX7_findFar_124 : decode cX7_findFar 124 = .ok (.goto (-122), 3) := by decide +kernel
theorem dX7_findFar_127 : decode cX7_findFar 127 = .ok (.return_, 1) := by decide +kernel
theorem dX7_weeks_0 : decode cX7_weeks 0 = .ok (.iload_n 1, 1) := by decide +kernel
theorem dX7_weeks_1 : decode cX7_weeks 1 = .ok (.i2l, 1) := by decide +kernel
theorem dX7_weeks_2 : decode cX7_weeks 2 = .ok (.lconst 1, 1) := by decide +kernel
theorem dX7_weeks_3 : decode cX7_weeks 3 = .ok (.ldc2_w 149, 3) := by decide +kernel
theorem dX7_weeks_6 : decode cX7_weeks 6 = .ok (.invokestatic 90, 3) := by decide +kernel
theorem dX7_weeks_9 : decode cX7_weeks 9 = .ok (.ifCond .eq 8, 3) := by decide +kernel
theorem dX7_weeks_12 : decode cX7_weeks 12 = .ok (.iload_n 2, 1) := by decide +kernel
theorem dX7_weeks_13 : decode cX7_weeks 13 = .ok (.iconst (-1), 1) := by decide +kernel
theorem dX7_weeks_14 : decode cX7_weeks 14 = .ok (.if_icmp .ge 6, 3) := by decide +kernel
theorem dX7_weeks_17 : decode cX7_weeks 17 = .ok (.bipush (-10), 2) := by decide +kernel
theorem dX7_weeks_19 : decode cX7_weeks 19 = .ok (.ireturn, 1) := by decide +kernel
theorem dX7_weeks_20 : decode cX7_weeks 20 = .ok (.iconst 0, 1) := by decide +kernel
theorem dX7_weeks_21 : decode cX7_weeks 21 = .ok (.istore_n 3, 1) := by decide +kernel
theorem dX7_weeks_22 : decode cX7_weeks 22 = .ok (.iconst 0, 1) := by decide +kernel
theorem dX7_weeks_23 : decode cX7_weeks 23 = .ok (.istore 4, 2) := by decide +kernel
theorem dX7_weeks_25 : decode cX7_weeks 25 = .ok (.iload 4, 2) := by decide +kernel
theorem dX7_weeks_27 : decode cX7_weeks 27 = .ok (.aload_n 0, 1) := by decide +kernel
theorem dX7_weeks_28 : decode cX7_weeks 28 = .ok (.getfield 87, 3) := by decide +kernel
theorem dX7_weeks_31 : decode cX7_weeks 31 = .ok (.if_icmp .ge 40, 3) := by decide +kernel
theorem dX7_weeks_34 : decode cX7_weeks 34 = .ok (.iload_n 3, 1) := by decide +kernel
theorem dX7_weeks_35 : decode cX7_weeks 35 = .ok (.aload_n 0, 1) := by decide +kernel
theorem dX7_weeks_36 : decode cX7_weeks 36 = .ok (.getfield 75, 3) := by decide +kernel
theorem dX7_weeks_39 : decode cX7_weeks 39 = .ok (.iload 4, 2) := by decide +kernel
theorem dX7_weeks_41 : decode cX7_weeks 41 = .ok (.iaload, 1) := by decide +kernel
theorem dX7_weeks_42 : decode cX7_weeks 42 = .ok (.aload_n 0, 1) := by decide +kernel
theorem dX7_weeks_43 : decode cX7_weeks 43 = .ok (.getfield 78, 3) := by decide +kernel
theorem dX7_weeks_46 : decode cX7_weeks 46 = .ok (.iload 4, 2) := by decide +kernel
theorem dX7_weeks_48 : decode cX7_weeks 48 = .ok (.iaload, 1) := by decide +kernel
theorem dX7_weeks_49 : decode cX7_weeks 49 = .ok (.if_icmp .eq 7, 3) := by decide +kernel
theorem dX7_weeks_52 : decode cX7_weeks 52 = .ok (.iconst 1, 1) := by decide +kernel
theorem dX7_weeks_53 : decode cX7_weeks 53 = .ok (.goto 4, 3) := by decide +kernel
theorem dX7_weeks_56 : decode cX7_weeks 56 = .ok (.iconst 0, 1) := by decide +kernel
theorem dX7_weeks_57 : decode cX7_weeks 57 = .ok (.invokestatic 124, 3) := by decide +kernel
theorem dX7_weeks_60 : decode cX7_weeks 60 = .ok (.iload 4, 2) := by decide +kernel
theorem dX7_weeks_62 : decode cX7_weeks 62 = .ok (.ishl, 1) := by decide +kernel
theorem dX7_weeks_63 : decode cX7_weeks 63 = .ok (.ior, 1) := by decide +kernel
theorem dX7_weeks_64 : decode cX7_weeks 64 = .ok (.istore_n 3, 1) := by decide +kernel
theorem dX7_weeks_65 : decode cX7_weeks 65 = .ok (.iinc 4 1, 3) := by decide +kernel
theorem dX7_weeks_68 : decode cX7_weeks 68 = .ok (.goto (-43), 3) := by decide +kernel
theorem dX7_weeks_71 : decode cX7_weeks 71 = .ok (.aload_n 0, 1) := by decide +kernel
theorem dX7_weeks_72 : decode cX7_weeks 72 = .ok (.iload_n 3, 1) := by decide +kernel
theorem dX7_weeks_73 : decode cX7_weeks 73 = .ok (.iload_n 1, 1) := by decide +kernel
theorem dX7_weeks_74 : decode cX7_weeks 74 = .ok (.invokevirtual 225, 3) := by decide +kernel
theorem dX7_weeks_77 : decode cX7_weeks 77 = .ok (.aload_n 0, 1) := by decide +kernel
theorem dX7_weeks_78 : decode cX7_weeks 78 = .ok (.getfield 81, 3) := by decide +kernel
theorem dX7_weeks_81 : decode cX7_weeks 81 = .ok (.iconst 0, 1) := by decide +kernel
theorem dX7_weeks_82 : decode cX7_weeks 82 = .ok (.iaload, 1) := by decide +kernel
theorem dX7_weeks_83 : decode cX7_weeks 83 = .ok (.sipush 1000, 3) := by decide +kernel
theorem dX7_weeks_86 : decode cX7_weeks 86 = .ok (.if_icmp .lt 6, 3) := by decide +kernel
theorem dX7_weeks_89 : decode cX7_weeks 89 = .ok (.bipush (-5), 2) := by decide +kernel
theorem dX7_weeks_91 : decode cX7_weeks 91 = .ok (.ireturn, 1) := by decide +kernel
theorem dX7_weeks_92 : decode cX7_weeks 92 = .ok (.iload_n 2, 1) := by decide +kernel
theorem dX7_weeks_93 : decode cX7_weeks 93 = .ok (.iconst (-1), 1) := by decide +kernel
theorem dX7_weeks_94 : decode cX7_weeks 94 = .ok (.if_icmp .ne 10, 3) := by decide +kernel
theorem dX7_weeks_97 : decode cX7_weeks 97 = .ok (.aload_n 0, 1) := by decide +kernel
theorem dX7_weeks_98 : decode cX7_weeks 98 = .ok (.getfield 81, 3) := by decide +kernel
theorem dX7_weeks_101 : decode cX7_weeks 101 = .ok (.iconst 0, 1) := by decide +kernel
theorem dX7_weeks_102 : decode cX7_weeks 102 = .ok (.iaload, 1) := by decide +kernel
theorem dX7_weeks_103 : decode cX7_weeks 103 = .ok (.ireturn, 1) := by decide +kernel
theorem dX7_weeks_104 : decode cX7_weeks 104 = .ok (.iconst 0, 1) := by decide +kernel
theorem dX7_weeks_105 : decode cX7_weeks 105 = .ok (.istore 4, 2) := by decide +kernel
theorem dX7_weeks_107 : decode cX7_weeks 107 = .ok (.iconst 0, 1) := by decide +kernel
theorem dX7_weeks_108 : decode cX7_weeks 108 = .ok (.istore 5, 2) := by decide +kernel
theorem dX7_weeks_110 : decode cX7_weeks 110 = .ok (.iload 4, 2) := by decide +kernel
theorem dX7_weeks_112 : decode cX7_weeks 112 = .ok (.iload_n 3, 1) := by decide +kernel
theorem dX7_weeks_113 : decode cX7_weeks 113 = .ok (.if_icmp .eq 97, 3) := by decide +kernel
theorem dX7_weeks_116 : decode cX7_weeks 116 = .ok (.iconst 0, 1) := by decide +kernel
theorem dX7_weeks_117 : decode cX7_weeks 117 = .ok (.istore 6, 2) := by decide +kernel
theorem dX7_weeks_119 : decode cX7_weeks 119 = .ok (.iload_n 3, 1) := by decide +kernel
theorem dX7_weeks_120 : decode cX7_weeks 120 = .ok (.iload 4, 2) := by decide +kernel
theorem dX7_weeks_122 : decode cX7_weeks 122 = .ok (.iconst (-1), 1) := by decide +kernel
theorem dX7_weeks_123 : decode cX7_weeks 123 = .ok (.ixor, 1) := by decide +kernel
theorem dX7_weeks_124 : decode cX7_weeks 124 = .ok (.iand, 1) := by decide +kernel
theorem dX7_weeks_125 : decode cX7_weeks 125 = .ok (.istore 7, 2) := by decide +kernel
theorem dX7_weeks_127 : decode cX7_weeks 127 = .ok (.iload 7, 2) := by decide +kernel
theorem dX7_weeks_129 : decode cX7_weeks 129 = .ok (.istore 8, 2) := by decide +kernel
theorem dX7_weeks_131 : decode cX7_weeks 131 = .ok (.iload 8, 2) := by decide +kernel
theorem dX7_weeks_133 : decode cX7_weeks 133 = .ok (.ifCond .le 55, 3) := by decide +kernel
theorem dX7_weeks_136 : decode cX7_weeks 136 = .ok (.iload 8, 2) := by decide +kernel
theorem dX7_weeks_138 : decode cX7_weeks 138 = .ok (.invokestatic 144, 3) := by decide +kernel
theorem dX7_weeks_141 : decode cX7_weeks 141 = .ok (.iload_n 1, 1) := by decide +kernel
theorem dX7_weeks_142 : decode cX7_weeks 142 = .ok (.if_icmp .gt 30, 3) := by decide +kernel
theorem dX7_weeks_145 : decode cX7_weeks 145 = .ok (.aload_n 0, 1) := by decide +kernel
theorem dX7_weeks_146 : decode cX7_weeks 146 = .ok (.getfield 81, 3) := by decide +kernel
theorem dX7_weeks_149 : decode cX7_weeks 149 = .ok (.iload 4, 2) := by decide +kernel
theorem dX7_weeks_151 : decode cX7_weeks 151 = .ok (.iload 8, 2) := by decide +kernel
theorem dX7_weeks_153 : decode cX7_weeks 153 = .ok (.ior, 1) := by decide +kernel
theorem dX7_weeks_154 : decode cX7_weeks 154 = .ok (.iaload, 1) := by decide +kernel
theorem dX7_weeks_155 : decode cX7_weeks 155 = .ok (.iconst 1, 1) := by decide +kernel
theorem dX7_weeks_156 : decode cX7_weeks 156 = .ok (.iadd, 1) := by decide +kernel
theorem dX7_weeks_157 : decode cX7_weeks 157 = .ok (.aload_n 0, 1) := by decide +kernel
theorem dX7_weeks_158 : decode cX7_weeks 158 = .ok (.getfield 81, 3) := by decide +kernel
theorem dX7_weeks_161 : decode cX7_weeks 161 = .ok (.iload 4, 2) := by decide +kernel
theorem dX7_weeks_163 : decode cX7_weeks 163 = .ok (.iaload, 1) := by decide +kernel
theorem dX7_weeks_164 : decode cX7_weeks 164 = .ok (.if_icmp .ne 8, 3) := by decide +kernel
theorem dX7_weeks_167 : decode cX7_weeks 167 = .ok (.iload 8, 2) := by decide +kernel
theorem dX7_weeks_169 : decode cX7_weeks 169 = .ok (.goto 5, 3) := by decide +kernel
theorem dX7_weeks_172 : decode cX7_weeks 172 = .ok (.iload 6, 2) := by decide +kernel
theorem dX7_weeks_174 : decode cX7_weeks 174 = .ok (.istore 6, 2) := by decide +kernel
theorem dX7_weeks_176 : decode cX7_weeks 176 = .ok (.iload 8, 2) := by decide +kernel
theorem dX7_weeks_178 : decode cX7_weeks 178 = .ok (.iconst 1, 1) := by decide +kernel
theorem dX7_weeks_179 : decode cX7_weeks 179 = .ok (.isub, 1) := by decide +kernel
theorem dX7_weeks_180 : decode cX7_weeks 180 = .ok (.iload 7, 2) := by decide +kernel
theorem dX7_weeks_182 : decode cX7_weeks 182 = .ok (.iand, 1) := by decide +kernel
theorem dX7_weeks_183 : decode cX7_weeks 183 = .ok (.istore 8, 2) := by decide +kernel
theorem dX7_weeks_185 : decode cX7_weeks 185 = .ok (.goto (-54), 3) := by decide +kernel
theorem dX7_weeks_188 : decode cX7_weeks 188 = .ok (.iload 5, 2) := by decide +kernel
theorem dX7_weeks_190 : decode cX7_weeks 190 = .ok (.iload_n 2, 1) := by decide +kernel
theorem dX7_weeks_191 : decode cX7_weeks 191 = .ok (.if_icmp .ne 6, 3) := by decide +kernel
theorem dX7_weeks_194 : decode cX7_weeks 194 = .ok (.iload 6, 2) := by decide +kernel
theorem dX7_weeks_196 : decode cX7_weeks 196 = .ok (.ireturn, 1) := by decide +kernel
theorem dX7_weeks_197 : decode cX7_weeks 197 = .ok (.iload 4, 2) := by decide +kernel
theorem dX7_weeks_199 : decode cX7_weeks 199 = .ok (.iload 6, 2) := by decide +kernel
theorem dX7_weeks_201 : decode cX7_weeks 201 = .ok (.ior, 1) := by decide +kernel
theorem dX7_weeks_202 : decode cX7_weeks 202 = .ok (.istore 4, 2) := by decide +kernel
theorem dX7_weeks_204 : decode cX7_weeks 204 = .ok (.iinc 5 1, 3) := by decide +kernel
theorem dX7_weeks_207 : decode cX7_weeks 207 = .ok (.goto (-97), 3) := by decide +kernel
theorem dX7_weeks_210 : decode cX7_weeks 210 = .ok (.iconst (-1), 1) := by decide +kernel
theorem dX7_weeks_211 : decode cX7_weeks 211 = .ok (.ireturn, 1) := by decide +kernel
theorem dX7_broken_0 : decode cX7_broken 0 = .ok (.iconst 0, 1) := by decide +kernel
theorem dX7_broken_1 : decode cX7_broken 1 = .ok (.istore_n 3, 1) := by decide +kernel
theorem dX7_broken_2 : decode cX7_broken 2 = .ok (.iconst 0, 1) := by decide +kernel
theorem dX7_broken_3 : decode cX7_broken 3 = .ok (.istore 4, 2) := by decide +kernel
theorem dX7_broken_5 : decode cX7_broken 5 = .ok (.iload 4, 2) := by decide +kernel
theorem dX7_broken_7 : decode cX7_broken 7 = .ok (.aload_n 0, 1) := by decide +kernel
theorem dX7_broken_8 : decode cX7_broken 8 = .ok (.getfield 87, 3) := by decide +kernel
theorem dX7_broken_11 : decode cX7_broken 11 = .ok (.if_icmp .ge 54, 3) := by decide +kernel
theorem dX7_broken_14 : decode cX7_broken 14 = .ok (.iload_n 3, 1) := by decide +kernel
theorem dX7_broken_15 : decode cX7_broken 15 = .ok (.iload 4, 2) := by decide +kernel
theorem dX7_broken_17 : decode cX7_broken 17 = .ok (.iload_n 1, 1) := by decide +kernel
theorem dX7_broken_18 : decode cX7_broken 18 = .ok (.if_icmp .eq 38, 3) := by decide +kernel
theorem dX7_broken_21 : decode cX7_broken 21 = .ok (.aload_n 0, 1) := by decide +kernel
theorem dX7_broken_22 : decode cX7_broken 22 = .ok (.getfield 78, 3) := by decide +kernel
theorem dX7_broken_25 : decode cX7_broken 25 = .ok (.iload 4, 2) := by decide +kernel
theorem dX7_broken_27 : decode cX7_broken 27 = .ok (.iaload, 1) := by decide +kernel
theorem dX7_broken_28 : decode cX7_broken 28 = .ok (.ifCond .lt 28, 3) := by decide +kernel
theorem dX7_broken_31 : decode cX7_broken 31 = .ok (.aload_n 0, 1) := by decide +kernel
theorem dX7_broken_32 : decode cX7_broken 32 = .ok (.iload_n 1, 1) := by decide +kernel
theorem dX7_broken_33 : decode cX7_broken 33 = .ok (.iload 4, 2) := by decide +kernel
theorem dX7_broken_35 : decode cX7_broken 35 = .ok (.iload_n 2, 1) := by decide +kernel
theorem dX7_broken_36 : decode cX7_broken 36 = .ok (.aload_n 0, 1) := by decide +kernel
theorem dX7_broken_37 : decode cX7_broken 37 = .ok (.getfield 78, 3) := by decide +kernel
theorem dX7_broken_40 : decode cX7_broken 40 = .ok (.iload 4, 2) := by decide +kernel
theorem dX7_broken_42 : decode cX7_broken 42 = .ok (.iaload, 1) := by decide +kernel
theorem dX7_broken_43 : decode cX7_broken 43 = .ok (.invokevirtual 109, 3) := by decide +kernel
theorem dX7_broken_46 : decode cX7_broken 46 = .ok (.ifCond .eq 10, 3) := by decide +kernel
theorem dX7_broken_49 : decode cX7_broken 49 = .ok (.iconst 1, 1) := by decide +kernel
theorem dX7_broken_50 : decode cX7_broken 50 = .ok (.iload 4, 2) := by decide +kernel
theorem dX7_broken_52 : decode cX7_broken 52 = .ok (.ishl, 1) := by decide +kernel
theorem dX7_broken_53 : decode cX7_broken 53 = .ok (.goto 4, 3) := by decide +kernel
theorem dX7_broken_56 : decode cX7_broken 56 = .ok (.iconst 0, 1) := by decide +kernel
theorem dX7_broken_57 : decode cX7_broken 57 = .ok (.ior, 1) := by decide +kernel
theorem dX7_broken_58 : decode cX7_broken 58 = .ok (.istore_n 3, 1) := by decide +kernel
theorem dX7_broken_59 : decode cX7_broken 59 = .ok (.iinc 4 1, 3) := by decide +kernel
theorem dX7_broken_62 : decode cX7_broken 62 = .ok (.goto (-57), 3) := by decide +kernel
theorem dX7_broken_65 : decode cX7_broken 65 = .ok (.iload_n 3, 1) := by decide +kernel
theorem dX7_broken_66 : decode cX7_broken 66 = .ok (.ireturn, 1) := by decide +kernel
theorem dX7_tower_0 : decode cX7_tower 0 = .ok (.aload_n 0, 1) := by decide +kernel
theorem dX7_tower_1 : decode cX7_tower 1 = .ok (.iload_n 1, 1) := by decide +kernel
theorem dX7_tower_2 : decode cX7_tower 2 = .ok (.invokevirtual 96, 3) := by decide +kernel
theorem dX7_tower_5 : decode cX7_tower 5 = .ok (.ifCond .ne 15, 3) := by decide +kernel
theorem dX7_tower_8 : decode cX7_tower 8 = .ok (.iload_n 2, 1) := by decide +kernel
theorem dX7_tower_9 : decode cX7_tower 9 = .ok (.i2l, 1) := by decide +kernel
theorem dX7_tower_10 : decode cX7_tower 10 = .ok (.lconst 0, 1) := by decide +kernel
theorem dX7_tower_11 : decode cX7_tower 11 = .ok (.ldc2_w 217, 3) := by decide +kernel
theorem dX7_tower_14 : decode cX7_tower 14 = .ok (.invokestatic 90, 3) := by decide +kernel
theorem dX7_tower_17 : decode cX7_tower 17 = .ok (.ifCond .ne 8, 3) := by decide +kernel
theorem dX7_tower_20 : decode cX7_tower 20 = .ok (.bipush (-2), 2) := by decide +kernel
theorem dX7_tower_22 : decode cX7_tower 22 = .ok (.goto 9, 3) := by decide +kernel
theorem dX7_tower_25 : decode cX7_tower 25 = .ok (.aload_n 0, 1) := by decide +kernel
theorem dX7_tower_26 : decode cX7_tower 26 = .ok (.iload_n 1, 1) := by decide +kernel
theorem dX7_tower_27 : decode cX7_tower 27 = .ok (.iload_n 2, 1) := by decide +kernel
theorem dX7_tower_28 : decode cX7_tower 28 = .ok (.invokevirtual 228, 3) := by decide +kernel
theorem dX7_tower_31 : decode cX7_tower 31 = .ok (.ireturn, 1) := by decide +kernel
theorem dX7_free_0 : decode cX7_free 0 = .ok (.aload_n 0, 1) := by decide +kernel
theorem dX7_free_1 : decode cX7_free 1 = .ok (.iload_n 1, 1) := by decide +kernel
theorem dX7_free_2 : decode cX7_free 2 = .ok (.invokevirtual 96, 3) := by decide +kernel
theorem dX7_free_5 : decode cX7_free 5 = .ok (.ifCond .eq 6, 3) := by decide +kernel
theorem dX7_free_8 : decode cX7_free 8 = .ok (.bipush (-2), 2) := by decide +kernel
theorem dX7_free_10 : decode cX7_free 10 = .ok (.ireturn, 1) := by decide +kernel
theorem dX7_free_11 : decode cX7_free 11 = .ok (.iconst 0, 1) := by decide +kernel
theorem dX7_free_12 : decode cX7_free 12 = .ok (.istore_n 2, 1) := by decide +kernel
theorem dX7_free_13 : decode cX7_free 13 = .ok (.iconst 0, 1) := by decide +kernel
theorem dX7_free_14 : decode cX7_free 14 = .ok (.istore_n 3, 1) := by decide +kernel
theorem dX7_free_15 : decode cX7_free 15 = .ok (.iload_n 3, 1) := by decide +kernel
theorem dX7_free_16 : decode cX7_free 16 = .ok (.aload_n 0, 1) := by decide +kernel
theorem dX7_free_17 : decode cX7_free 17 = .ok (.getfield 7, 3) := by decide +kernel
theorem dX7_free_20 : decode cX7_free 20 = .ok (.if_icmp .ge 41, 3) := by decide +kernel
theorem dX7_free_23 : decode cX7_free 23 = .ok (.iload_n 2, 1) := by decide +kernel
theorem dX7_free_24 : decode cX7_free 24 = .ok (.aload_n 0, 1) := by decide +kernel
theorem dX7_free_25 : decode cX7_free 25 = .ok (.getfield 20, 3) := by decide +kernel
theorem dX7_free_28 : decode cX7_free 28 = .ok (.iload_n 1, 1) := by decide +kernel
theorem dX7_free_29 : decode cX7_free 29 = .ok (.iaload, 1) := by decide +kernel
theorem dX7_free_30 : decode cX7_free 30 = .ok (.iload_n 3, 1) := by decide +kernel
theorem dX7_free_31 : decode cX7_free 31 = .ok (.ishr, 1) := by decide +kernel
theorem dX7_free_32 : decode cX7_free 32 = .ok (.iconst 1, 1) := by decide +kernel
theorem dX7_free_33 : decode cX7_free 33 = .ok (.iand, 1) := by decide +kernel
theorem dX7_free_34 : decode cX7_free 34 = .ok (.ifCond .ne 18, 3) := by decide +kernel
theorem dX7_free_37 : decode cX7_free 37 = .ok (.aload_n 0, 1) := by decide +kernel
theorem dX7_free_38 : decode cX7_free 38 = .ok (.iload_n 1, 1) := by decide +kernel
theorem dX7_free_39 : decode cX7_free 39 = .ok (.iload_n 3, 1) := by decide +kernel
theorem dX7_free_40 : decode cX7_free 40 = .ok (.invokevirtual 228, 3) := by decide +kernel
theorem dX7_free_43 : decode cX7_free 43 = .ok (.ifCond .ne 9, 3) := by decide +kernel
theorem dX7_free_46 : decode cX7_free 46 = .ok (.iconst 1, 1) := by decide +kernel
theorem dX7_free_47 : decode cX7_free 47 = .ok (.iload_n 3, 1) := by decide +kernel
theorem dX7_free_48 : decode cX7_free 48 = .ok (.ishl, 1) := by decide +kernel
theorem dX7_free_49 : decode cX7_free 49 = .ok (.goto 4, 3) := by decide +kernel
theorem dX7_free_52 : decode cX7_free 52 = .ok (.iconst 0, 1) := by decide +kernel
theorem dX7_free_53 : decode cX7_free 53 = .ok (.ior, 1) := by decide +kernel
theorem dX7_free_54 : decode cX7_free 54 = .ok (.istore_n 2, 1) := by decide +kernel
theorem dX7_free_55 : decode cX7_free 55 = .ok (.iinc 3 1, 3) := by decide +kernel
theorem dX7_free_58 : decode cX7_free 58 = .ok (.goto (-43), 3) := by decide +kernel
theorem dX7_free_61 : decode cX7_free 61 = .ok (.iload_n 2, 1) := by decide +kernel
theorem dX7_free_62 : decode cX7_free 62 = .ok (.ireturn, 1) := by decide +kernel
theorem dX7_heard_0 : decode cX7_heard 0 = .ok (.iload_n 1, 1) := by decide +kernel
theorem dX7_heard_1 : decode cX7_heard 1 = .ok (.i2l, 1) := by decide +kernel
theorem dX7_heard_2 : decode cX7_heard 2 = .ok (.lconst 0, 1) := by decide +kernel
theorem dX7_heard_3 : decode cX7_heard 3 = .ok (.ldc2_w 231, 3) := by decide +kernel
theorem dX7_heard_6 : decode cX7_heard 6 = .ok (.invokestatic 90, 3) := by decide +kernel
theorem dX7_heard_9 : decode cX7_heard 9 = .ok (.ifCond .eq 11, 3) := by decide +kernel
theorem dX7_heard_12 : decode cX7_heard 12 = .ok (.aload_n 0, 1) := by decide +kernel
theorem dX7_heard_13 : decode cX7_heard 13 = .ok (.iload_n 2, 1) := by decide +kernel
theorem dX7_heard_14 : decode cX7_heard 14 = .ok (.invokevirtual 131, 3) := by decide +kernel
theorem dX7_heard_17 : decode cX7_heard 17 = .ok (.ifCond .eq 6, 3) := by decide +kernel
theorem dX7_heard_20 : decode cX7_heard 20 = .ok (.bipush (-2), 2) := by decide +kernel
theorem dX7_heard_22 : decode cX7_heard 22 = .ok (.ireturn, 1) := by decide +kernel
theorem dX7_heard_23 : decode cX7_heard 23 = .ok (.aload_n 0, 1) := by decide +kernel
theorem dX7_heard_24 : decode cX7_heard 24 = .ok (.getfield 84, 3) := by decide +kernel
theorem dX7_heard_27 : decode cX7_heard 27 = .ok (.iload_n 1, 1) := by decide +kernel
theorem dX7_heard_28 : decode cX7_heard 28 = .ok (.iaload, 1) := by decide +kernel
theorem dX7_heard_29 : decode cX7_heard 29 = .ok (.istore_n 3, 1) := by decide +kernel
theorem dX7_heard_30 : decode cX7_heard 30 = .ok (.aload_n 0, 1) := by decide +kernel
theorem dX7_heard_31 : decode cX7_heard 31 = .ok (.getfield 84, 3) := by decide +kernel
theorem dX7_heard_34 : decode cX7_heard 34 = .ok (.iload_n 1, 1) := by decide +kernel
theorem dX7_heard_35 : decode cX7_heard 35 = .ok (.iload_n 2, 1) := by decide +kernel
theorem dX7_heard_36 : decode cX7_heard 36 = .ok (.iastore, 1) := by decide +kernel
theorem dX7_heard_37 : decode cX7_heard 37 = .ok (.iload_n 3, 1) := by decide +kernel
theorem dX7_heard_38 : decode cX7_heard 38 = .ok (.ireturn, 1) := by decide +kernel
theorem dX7_could_0 : decode cX7_could 0 = .ok (.aload_n 0, 1) := by decide +kernel
theorem dX7_could_1 : decode cX7_could 1 = .ok (.iload_n 1, 1) := by decide +kernel
theorem dX7_could_2 : decode cX7_could 2 = .ok (.invokevirtual 131, 3) := by decide +kernel
theorem dX7_could_5 : decode cX7_could 5 = .ok (.ifCond .ne 19, 3) := by decide +kernel
theorem dX7_could_8 : decode cX7_could 8 = .ok (.aload_n 0, 1) := by decide +kernel
theorem dX7_could_9 : decode cX7_could 9 = .ok (.iload_n 2, 1) := by decide +kernel
theorem dX7_could_10 : decode cX7_could 10 = .ok (.invokevirtual 131, 3) := by decide +kernel
theorem dX7_could_13 : decode cX7_could 13 = .ok (.ifCond .ne 11, 3) := by decide +kernel
theorem dX7_could_16 : decode cX7_could 16 = .ok (.iload_n 2, 1) := by decide +kernel
theorem dX7_could_17 : decode cX7_could 17 = .ok (.iload_n 1, 1) := by decide +kernel
theorem dX7_could_18 : decode cX7_could 18 = .ok (.iconst (-1), 1) := by decide +kernel
theorem dX7_could_19 : decode cX7_could 19 = .ok (.ixor, 1) := by decide +kernel
theorem dX7_could_20 : decode cX7_could 20 = .ok (.iand, 1) := by decide +kernel
theorem dX7_could_21 : decode cX7_could 21 = .ok (.ifCond .eq 6, 3) := by decide +kernel
theorem dX7_could_24 : decode cX7_could 24 = .ok (.bipush (-2), 2) := by decide +kernel
theorem dX7_could_26 : decode cX7_could 26 = .ok (.ireturn, 1) := by decide +kernel
theorem dX7_could_27 : decode cX7_could 27 = .ok (.iconst 0, 1) := by decide +kernel
theorem dX7_could_28 : decode cX7_could 28 = .ok (.istore_n 3, 1) := by decide +kernel
theorem dX7_could_29 : decode cX7_could 29 = .ok (.iconst 0, 1) := by decide +kernel
theorem dX7_could_30 : decode cX7_could 30 = .ok (.istore 4, 2) := by decide +kernel
theorem dX7_could_32 : decode cX7_could 32 = .ok (.iload 4, 2) := by decide +kernel
theorem dX7_could_34 : decode cX7_could 34 = .ok (.bipush 16, 2) := by decide +kernel
theorem dX7_could_36 : decode cX7_could 36 = .ok (.if_icmp .ge 33, 3) := by decide +kernel
theorem dX7_could_39 : decode cX7_could 39 = .ok (.iload_n 3, 1) := by decide +kernel
theorem dX7_could_40 : decode cX7_could 40 = .ok (.aload_n 0, 1) := by decide +kernel
theorem dX7_could_41 : decode cX7_could 41 = .ok (.getfield 84, 3) := by decide +kernel
theorem dX7_could_44 : decode cX7_could 44 = .ok (.iload 4, 2) := by decide +kernel
theorem dX7_could_46 : decode cX7_could 46 = .ok (.iaload, 1) := by decide +kernel
theorem dX7_could_47 : decode cX7_could 47 = .ok (.iload_n 1, 1) := by decide +kernel
theorem dX7_could_48 : decode cX7_could 48 = .ok (.iand, 1) := by decide +kernel
theorem dX7_could_49 : decode cX7_could 49 = .ok (.iload_n 2, 1) := by decide +kernel
theorem dX7_could_50 : decode cX7_could 50 = .ok (.if_icmp .ne 10, 3) := by decide +kernel
theorem dX7_could_53 : decode cX7_could 53 = .ok (.iconst 1, 1) := by decide +kernel
theorem dX7_could_54 : decode cX7_could 54 = .ok (.iload 4, 2) := by decide +kernel
theorem dX7_could_56 : decode cX7_could 56 = .ok (.ishl, 1) := by decide +kernel
theorem dX7_could_57 : decode cX7_could 57 = .ok (.goto 4, 3) := by decide +kernel
theorem dX7_could_60 : decode cX7_could 60 = .ok (.iconst 0, 1) := by decide +kernel
theorem dX7_could_61 : decode cX7_could 61 = .ok (.ior, 1) := by decide +kernel
theorem dX7_could_62 : decode cX7_could 62 = .ok (.istore_n 3, 1) := by decide +kernel
theorem dX7_could_63 : decode cX7_could 63 = .ok (.iinc 4 1, 3) := by decide +kernel
theorem dX7_could_66 : decode cX7_could 66 = .ok (.goto (-34), 3) := by decide +kernel
theorem dX7_could_69 : decode cX7_could 69 = .ok (.iload_n 3, 1) := by decide +kernel
theorem dX7_could_70 : decode cX7_could 70 = .ok (.ireturn, 1) := by decide +kernel
theorem dX7_count_0 : decode cX7_count 0 = .ok (.iload_n 1, 1) := by decide +kernel
theorem dX7_count_1 : decode cX7_count 1 = .ok (.tableswitch 54 0 3 #[31, 36, 44, 49], 31) := by decide +kernel
theorem dX7_count_32 : decode cX7_count 32 = .ok (.aload_n 0, 1) := by decide +kernel
theorem dX7_count_33 : decode cX7_count 33 = .ok (.getfield 87, 3) := by decide +kernel
theorem dX7_count_36 : decode cX7_count 36 = .ok (.ireturn, 1) := by decide +kernel
theorem dX7_count_37 : decode cX7_count 37 = .ok (.aload_n 0, 1) := by decide +kernel
theorem dX7_count_38 : decode cX7_count 38 = .ok (.invokevirtual 153, 3) := by decide +kernel
theorem dX7_count_41 : decode cX7_count 41 = .ok (.invokestatic 144, 3) := by decide +kernel
theorem dX7_count_44 : decode cX7_count 44 = .ok (.ireturn, 1) := by decide +kernel
theorem dX7_count_45 : decode cX7_count 45 = .ok (.aload_n 0, 1) := by decide +kernel
theorem dX7_count_46 : decode cX7_count 46 = .ok (.getfield 183, 3) := by decide +kernel
theorem dX7_count_49 : decode cX7_count 49 = .ok (.ireturn, 1) := by decide +kernel
theorem dX7_count_50 : decode cX7_count 50 = .ok (.aload_n 0, 1) := by decide +kernel
theorem dX7_count_51 : decode cX7_count 51 = .ok (.getfield 191, 3) := by decide +kernel
theorem dX7_count_54 : decode cX7_count 54 = .ok (.ireturn, 1) := by decide +kernel
theorem dX7_count_55 : decode cX7_count 55 = .ok (.bipush (-2), 2) := by decide +kernel
theorem dX7_count_57 : decode cX7_count 57 = .ok (.ireturn, 1) := by decide +kernel
theorem dX7_add_0 : decode cX7_add 0 = .ok (.aload_n 0, 1) := by decide +kernel
theorem dX7_add_1 : decode cX7_add 1 = .ok (.ldc2_w 233, 3) := by decide +kernel
theorem dX7_add_4 : decode cX7_add 4 = .ok (.aload_n 0, 1) := by decide +kernel
theorem dX7_add_5 : decode cX7_add 5 = .ok (.getfield 235, 3) := by decide +kernel
theorem dX7_add_8 : decode cX7_add 8 = .ok (.lmul, 1) := by decide +kernel
theorem dX7_add_9 : decode cX7_add 9 = .ok (.iload_n 1, 1) := by decide +kernel
theorem dX7_add_10 : decode cX7_add 10 = .ok (.i2l, 1) := by decide +kernel
theorem dX7_add_11 : decode cX7_add 11 = .ok (.ladd, 1) := by decide +kernel
theorem dX7_add_12 : decode cX7_add 12 = .ok (.putfield 235, 3) := by decide +kernel
theorem dX7_add_15 : decode cX7_add 15 = .ok (.return_, 1) := by decide +kernel
theorem dX7_digest_0 : decode cX7_digest 0 = .ok (.aload_n 0, 1) := by decide +kernel
theorem dX7_digest_1 : decode cX7_digest 1 = .ok (.ldc2_w 239, 3) := by decide +kernel
theorem dX7_digest_4 : decode cX7_digest 4 = .ok (.putfield 235, 3) := by decide +kernel
theorem dX7_digest_7 : decode cX7_digest 7 = .ok (.iconst 0, 1) := by decide +kernel
theorem dX7_digest_8 : decode cX7_digest 8 = .ok (.istore_n 1, 1) := by decide +kernel
theorem dX7_digest_9 : decode cX7_digest 9 = .ok (.iload_n 1, 1) := by decide +kernel
theorem dX7_digest_10 : decode cX7_digest 10 = .ok (.iconst 4, 1) := by decide +kernel
theorem dX7_digest_11 : decode cX7_digest 11 = .ok (.if_icmp .ge 18, 3) := by decide +kernel
theorem dX7_digest_14 : decode cX7_digest 14 = .ok (.aload_n 0, 1) := by decide +kernel
theorem dX7_digest_15 : decode cX7_digest 15 = .ok (.aload_n 0, 1) := by decide +kernel
theorem dX7_digest_16 : decode cX7_digest 16 = .ok (.iload_n 1, 1) := by decide +kernel
theorem dX7_digest_17 : decode cX7_digest 17 = .ok (.invokevirtual 241, 3) := by decide +kernel
theorem dX7_digest_20 : decode cX7_digest 20 = .ok (.invokevirtual 244, 3) := by decide +kernel
theorem dX7_digest_23 : decode cX7_digest 23 = .ok (.iinc 1 1, 3) := by decide +kernel
theorem dX7_digest_26 : decode cX7_digest 26 = .ok (.goto (-17), 3) := by decide +kernel
theorem dX7_digest_29 : decode cX7_digest 29 = .ok (.aload_n 0, 1) := by decide +kernel
theorem dX7_digest_30 : decode cX7_digest 30 = .ok (.aload_n 0, 1) := by decide +kernel
theorem dX7_digest_31 : decode cX7_digest 31 = .ok (.getfield 7, 3) := by decide +kernel
theorem dX7_digest_34 : decode cX7_digest 34 = .ok (.invokevirtual 244, 3) := by decide +kernel
theorem dX7_digest_37 : decode cX7_digest 37 = .ok (.aload_n 0, 1) := by decide +kernel
theorem dX7_digest_38 : decode cX7_digest 38 = .ok (.aload_n 0, 1) := by decide +kernel
theorem dX7_digest_39 : decode cX7_digest 39 = .ok (.getfield 13, 3) := by decide +kernel
theorem dX7_digest_42 : decode cX7_digest 42 = .ok (.invokevirtual 244, 3) := by decide +kernel
theorem dX7_digest_45 : decode cX7_digest 45 = .ok (.aload_n 0, 1) := by decide +kernel
theorem dX7_digest_46 : decode cX7_digest 46 = .ok (.aload_n 0, 1) := by decide +kernel
theorem dX7_digest_47 : decode cX7_digest 47 = .ok (.getfield 42, 3) := by decide +kernel
theorem dX7_digest_50 : decode cX7_digest 50 = .ok (.invokevirtual 244, 3) := by decide +kernel
theorem dX7_digest_53 : decode cX7_digest 53 = .ok (.aload_n 0, 1) := by decide +kernel
theorem dX7_digest_54 : decode cX7_digest 54 = .ok (.aload_n 0, 1) := by decide +kernel
theorem dX7_digest_55 : decode cX7_digest 55 = .ok (.getfield 45, 3) := by decide +kernel
theorem dX7_digest_58 : decode cX7_digest 58 = .ok (.invokevirtual 244, 3) := by decide +kernel
theorem dX7_digest_61 : decode cX7_digest 61 = .ok (.iconst 0, 1) := by decide +kernel
theorem dX7_digest_62 : decode cX7_digest 62 = .ok (.istore_n 1, 1) := by decide +kernel
theorem dX7_digest_63 : decode cX7_digest 63 = .ok (.iload_n 1, 1) := by decide +kernel
theorem dX7_digest_64 : decode cX7_digest 64 = .ok (.aload_n 0, 1) := by decide +kernel
theorem dX7_digest_65 : decode cX7_digest 65 = .ok (.getfield 87, 3) := by decide +kernel
theorem dX7_digest_68 : decode cX7_digest 68 = .ok (.if_icmp .ge 121, 3) := by decide +kernel
theorem dX7_digest_71 : decode cX7_digest 71 = .ok (.aload_n 0, 1) := by decide +kernel
theorem dX7_digest_72 : decode cX7_digest 72 = .ok (.aload_n 0, 1) := by decide +kernel
theorem dX7_digest_73 : decode cX7_digest 73 = .ok (.getfield 20, 3) := by decide +kernel
theorem dX7_digest_76 : decode cX7_digest 76 = .ok (.iload_n 1, 1) := by decide +kernel
theorem dX7_digest_77 : decode cX7_digest 77 = .ok (.iaload, 1) := by decide +kernel
theorem dX7_digest_78 : decode cX7_digest 78 = .ok (.invokevirtual 244, 3) := by decide +kernel
theorem dX7_digest_81 : decode cX7_digest 81 = .ok (.iconst 0, 1) := by decide +kernel
theorem dX7_digest_82 : decode cX7_digest 82 = .ok (.istore_n 2, 1) := by decide +kernel
theorem dX7_digest_83 : decode cX7_digest 83 = .ok (.iload_n 2, 1) := by decide +kernel
theorem dX7_digest_84 : decode cX7_digest 84 = .ok (.aload_n 0, 1) := by decide +kernel
theorem dX7_digest_85 : decode cX7_digest 85 = .ok (.getfield 87, 3) := by decide +kernel
theorem dX7_digest_88 : decode cX7_digest 88 = .ok (.if_icmp .ge 29, 3) := by decide +kernel
theorem dX7_digest_91 : decode cX7_digest 91 = .ok (.iload_n 2, 1) := by decide +kernel
theorem dX7_digest_92 : decode cX7_digest 92 = .ok (.iload_n 1, 1) := by decide +kernel
theorem dX7_digest_93 : decode cX7_digest 93 = .ok (.if_icmp .eq 18, 3) := by decide +kernel
theorem dX7_digest_96 : decode cX7_digest 96 = .ok (.aload_n 0, 1) := by decide +kernel
theorem dX7_digest_97 : decode cX7_digest 97 = .ok (.aload_n 0, 1) := by decide +kernel
theorem dX7_digest_98 : decode cX7_digest 98 = .ok (.getfield 16, 3) := by decide +kernel
theorem dX7_digest_101 : decode cX7_digest 101 = .ok (.bipush 10, 2) := by decide +kernel
theorem dX7_digest_103 : decode cX7_digest 103 = .ok (.iload_n 1, 1) := by decide +kernel
theorem dX7_digest_104 : decode cX7_digest 104 = .ok (.imul, 1) := by decide +kernel
theorem dX7_digest_105 : decode cX7_digest 105 = .ok (.iload_n 2, 1) := by decide +kernel
theorem dX7_digest_106 : decode cX7_digest 106 = .ok (.iadd, 1) := by decide +kernel
theorem dX7_digest_107 : decode cX7_digest 107 = .ok (.iaload, 1) := by decide +kernel
theorem dX7_digest_108 : decode cX7_digest 108 = .ok (.invokevirtual 244, 3) := by decide +kernel
theorem dX7_digest_111 : decode cX7_digest 111 = .ok (.iinc 2 1, 3) := by decide +kernel
theorem dX7_digest_114 : decode cX7_digest 114 = .ok (.goto (-31), 3) := by decide +kernel
theorem dX7_digest_117 : decode cX7_digest 117 = .ok (.aload_n 0, 1) := by decide +kernel
theorem dX7_digest_118 : decode cX7_digest 118 = .ok (.aload_n 0, 1) := by decide +kernel
theorem dX7_digest_119 : decode cX7_digest 119 = .ok (.getfield 33, 3) := by decide +kernel
theorem dX7_digest_122 : decode cX7_digest 122 = .ok (.iload_n 1, 1) := by decide +kernel
theorem dX7_digest_123 : decode cX7_digest 123 = .ok (.baload, 1) := by decide +kernel
theorem dX7_digest_124 : decode cX7_digest 124 = .ok (.ifCond .eq 12, 3) := by decide +kernel
theorem dX7_digest_127 : decode cX7_digest 127 = .ok (.aload_n 0, 1) := by decide +kernel
theorem dX7_digest_128 : decode cX7_digest 128 = .ok (.getfield 36, 3) := by decide +kernel
theorem dX7_digest_131 : decode cX7_digest 131 = .ok (.iload_n 1, 1) := by decide +kernel
theorem dX7_digest_132 : decode cX7_digest 132 = .ok (.iaload, 1) := by decide +kernel
theorem dX7_digest_133 : decode cX7_digest 133 = .ok (.goto 4, 3) := by decide +kernel
theorem dX7_digest_136 : decode cX7_digest 136 = .ok (.iconst 0, 1) := by decide +kernel
theorem dX7_digest_137 : decode cX7_digest 137 = .ok (.invokevirtual 244, 3) := by decide +kernel
theorem dX7_digest_140 : decode cX7_digest 140 = .ok (.aload_n 0, 1) := by decide +kernel
theorem dX7_digest_141 : decode cX7_digest 141 = .ok (.aload_n 0, 1) := by decide +kernel
theorem dX7_digest_142 : decode cX7_digest 142 = .ok (.getfield 33, 3) := by decide +kernel
theorem dX7_digest_145 : decode cX7_digest 145 = .ok (.iload_n 1, 1) := by decide +kernel
theorem dX7_digest_146 : decode cX7_digest 146 = .ok (.baload, 1) := by decide +kernel
theorem dX7_digest_147 : decode cX7_digest 147 = .ok (.ifCond .eq 12, 3) := by decide +kernel
theorem dX7_digest_150 : decode cX7_digest 150 = .ok (.aload_n 0, 1) := by decide +kernel
theorem dX7_digest_151 : decode cX7_digest 151 = .ok (.getfield 39, 3) := by decide +kernel
theorem dX7_digest_154 : decode cX7_digest 154 = .ok (.iload_n 1, 1) := by decide +kernel
theorem dX7_digest_155 : decode cX7_digest 155 = .ok (.iaload, 1) := by decide +kernel
theorem dX7_digest_156 : decode cX7_digest 156 = .ok (.goto 4, 3) := by decide +kernel
theorem dX7_digest_159 : decode cX7_digest 159 = .ok (.iconst 0, 1) := by decide +kernel
theorem dX7_digest_160 : decode cX7_digest 160 = .ok (.invokevirtual 244, 3) := by decide +kernel
theorem dX7_digest_163 : decode cX7_digest 163 = .ok (.aload_n 0, 1) := by decide +kernel
theorem dX7_digest_164 : decode cX7_digest 164 = .ok (.aload_n 0, 1) := by decide +kernel
theorem dX7_digest_165 : decode cX7_digest 165 = .ok (.getfield 75, 3) := by decide +kernel
theorem dX7_digest_168 : decode cX7_digest 168 = .ok (.iload_n 1, 1) := by decide +kernel
theorem dX7_digest_169 : decode cX7_digest 169 = .ok (.iaload, 1) := by decide +kernel
theorem dX7_digest_170 : decode cX7_digest 170 = .ok (.invokevirtual 244, 3) := by decide +kernel
theorem dX7_digest_173 : decode cX7_digest 173 = .ok (.aload_n 0, 1) := by decide +kernel
theorem dX7_digest_174 : decode cX7_digest 174 = .ok (.aload_n 0, 1) := by decide +kernel
theorem dX7_digest_175 : decode cX7_digest 175 = .ok (.getfield 78, 3) := by decide +kernel
theorem dX7_digest_178 : decode cX7_digest 178 = .ok (.iload_n 1, 1) := by decide +kernel
theorem dX7_digest_179 : decode cX7_digest 179 = .ok (.iaload, 1) := by decide +kernel
theorem dX7_digest_180 : decode cX7_digest 180 = .ok (.invokevirtual 244, 3) := by decide +kernel
theorem dX7_digest_183 : decode cX7_digest 183 = .ok (.iinc 1 1, 3) := by decide +kernel
theorem dX7_digest_186 : decode cX7_digest 186 = .ok (.goto (-123), 3) := by decide +kernel
theorem dX7_digest_189 : decode cX7_digest 189 = .ok (.iconst 0, 1) := by decide +kernel
theorem dX7_digest_190 : decode cX7_digest 190 = .ok (.istore_n 1, 1) := by decide +kernel
theorem dX7_digest_191 : decode cX7_digest 191 = .ok (.iload_n 1, 1) := by decide +kernel
theorem dX7_digest_192 : decode cX7_digest 192 = .ok (.aload_n 0, 1) := by decide +kernel
theorem dX7_digest_193 : decode cX7_digest 193 = .ok (.getfield 191, 3) := by decide +kernel
theorem dX7_digest_196 : decode cX7_digest 196 = .ok (.if_icmp .ge 39, 3) := by decide +kernel
theorem dX7_digest_199 : decode cX7_digest 199 = .ok (.aload_n 0, 1) := by decide +kernel
theorem dX7_digest_200 : decode cX7_digest 200 = .ok (.aload_n 0, 1) := by decide +kernel
theorem dX7_digest_201 : decode cX7_digest 201 = .ok (.getfield 57, 3) := by decide +kernel
theorem dX7_digest_204 : decode cX7_digest 204 = .ok (.iload_n 1, 1) := by decide +kernel
theorem dX7_digest_205 : decode cX7_digest 205 = .ok (.iaload, 1) := by decide +kernel
theorem dX7_digest_206 : decode cX7_digest 206 = .ok (.invokevirtual 244, 3) := by decide +kernel
theorem dX7_digest_209 : decode cX7_digest 209 = .ok (.aload_n 0, 1) := by decide +kernel
theorem dX7_digest_210 : decode cX7_digest 210 = .ok (.aload_n 0, 1) := by decide +kernel
theorem dX7_digest_211 : decode cX7_digest 211 = .ok (.getfield 60, 3) := by decide +kernel
theorem dX7_digest_214 : decode cX7_digest 214 = .ok (.iload_n 1, 1) := by decide +kernel
theorem dX7_digest_215 : decode cX7_digest 215 = .ok (.iaload, 1) := by decide +kernel
theorem dX7_digest_216 : decode cX7_digest 216 = .ok (.invokevirtual 244, 3) := by decide +kernel
theorem dX7_digest_219 : decode cX7_digest 219 = .ok (.aload_n 0, 1) := by decide +kernel
theorem dX7_digest_220 : decode cX7_digest 220 = .ok (.aload_n 0, 1) := by decide +kernel
theorem dX7_digest_221 : decode cX7_digest 221 = .ok (.getfield 63, 3) := by decide +kernel
theorem dX7_digest_224 : decode cX7_digest 224 = .ok (.iload_n 1, 1) := by decide +kernel
theorem dX7_digest_225 : decode cX7_digest 225 = .ok (.iaload, 1) := by decide +kernel
theorem dX7_digest_226 : decode cX7_digest 226 = .ok (.invokevirtual 244, 3) := by decide +kernel
theorem dX7_digest_229 : decode cX7_digest 229 = .ok (.iinc 1 1, 3) := by decide +kernel
theorem dX7_digest_232 : decode cX7_digest 232 = .ok (.goto (-41), 3) := by decide +kernel
theorem dX7_digest_235 : decode cX7_digest 235 = .ok (.iconst 0, 1) := by decide +kernel
theorem dX7_digest_236 : decode cX7_digest 236 = .ok (.istore_n 1, 1) := by decide +kernel
theorem dX7_digest_237 : decode cX7_digest 237 = .ok (.iload_n 1, 1) := by decide +kernel
theorem dX7_digest_238 : decode cX7_digest 238 = .ok (.aload_n 0, 1) := by decide +kernel
theorem dX7_digest_239 : decode cX7_digest 239 = .ok (.getfield 183, 3) := by decide +kernel
theorem dX7_digest_242 : decode cX7_digest 242 = .ok (.if_icmp .ge 19, 3) := by decide +kernel
theorem dX7_digest_245 : decode cX7_digest 245 = .ok (.aload_n 0, 1) := by decide +kernel
theorem dX7_digest_246 : decode cX7_digest 246 = .ok (.aload_n 0, 1) := by decide +kernel
theorem dX7_digest_247 : decode cX7_digest 247 = .ok (.getfield 54, 3) := by decide +kernel
theorem dX7_digest_250 : decode cX7_digest 250 = .ok (.iload_n 1, 1) := by decide +kernel
theorem dX7_digest_251 : decode cX7_digest 251 = .ok (.iaload, 1) := by decide +kernel
theorem dX7_digest_252 : decode cX7_digest 252 = .ok (.invokevirtual 244, 3) := by decide +kernel
theorem dX7_digest_255 : decode cX7_digest 255 = .ok (.iinc 1 1, 3) := by decide +kernel
theorem dX7_digest_258 : decode cX7_digest 258 = .ok (.goto (-21), 3) := by decide +kernel
theorem dX7_digest_261 : decode cX7_digest 261 = .ok (.iconst 0, 1) := by decide +kernel
theorem dX7_digest_262 : decode cX7_digest 262 = .ok (.istore_n 1, 1) := by decide +kernel
theorem dX7_digest_263 : decode cX7_digest 263 = .ok (.iload_n 1, 1) := by decide +kernel
theorem dX7_digest_264 : decode cX7_digest 264 = .ok (.bipush 16, 2) := by decide +kernel
theorem dX7_digest_266 : decode cX7_digest 266 = .ok (.if_icmp .ge 19, 3) := by decide +kernel
theorem dX7_digest_269 : decode cX7_digest 269 = .ok (.aload_n 0, 1) := by decide +kernel
theorem dX7_digest_270 : decode cX7_digest 270 = .ok (.aload_n 0, 1) := by decide +kernel
theorem dX7_digest_271 : decode cX7_digest 271 = .ok (.getfield 84, 3) := by decide +kernel
theorem dX7_digest_274 : decode cX7_digest 274 = .ok (.iload_n 1, 1) := by decide +kernel
theorem dX7_digest_275 : decode cX7_digest 275 = .ok (.iaload, 1) := by decide +kernel
theorem dX7_digest_276 : decode cX7_digest 276 = .ok (.invokevirtual 244, 3) := by decide +kernel
theorem dX7_digest_279 : decode cX7_digest 279 = .ok (.iinc 1 1, 3) := by decide +kernel
theorem dX7_digest_282 : decode cX7_digest 282 = .ok (.goto (-19), 3) := by decide +kernel
theorem dX7_digest_285 : decode cX7_digest 285 = .ok (.iconst 0, 1) := by decide +kernel
theorem dX7_digest_286 : decode cX7_digest 286 = .ok (.istore_n 1, 1) := by decide +kernel
theorem dX7_digest_287 : decode cX7_digest 287 = .ok (.iload_n 1, 1) := by decide +kernel
theorem dX7_digest_288 : decode cX7_digest 288 = .ok (.iconst 4, 1) := by decide +kernel
theorem dX7_digest_289 : decode cX7_digest 289 = .ok (.if_icmp .ge 18, 3) := by decide +kernel
theorem dX7_digest_292 : decode cX7_digest 292 = .ok (.aload_n 0, 1) := by decide +kernel
theorem dX7_digest_293 : decode cX7_digest 293 = .ok (.aload_n 0, 1) := by decide +kernel
theorem dX7_digest_294 : decode cX7_digest 294 = .ok (.iload_n 1, 1) := by decide +kernel
theorem dX7_digest_295 : decode cX7_digest 295 = .ok (.invokevirtual 247, 3) := by decide +kernel
theorem dX7_digest_298 : decode cX7_digest 298 = .ok (.invokevirtual 244, 3) := by decide +kernel
theorem dX7_digest_301 : decode cX7_digest 301 = .ok (.iinc 1 1, 3) := by decide +kernel
theorem dX7_digest_304 : decode cX7_digest 304 = .ok (.goto (-17), 3) := by decide +kernel
theorem dX7_digest_307 : decode cX7_digest 307 = .ok (.aload_n 0, 1) := by decide +kernel
theorem dX7_digest_308 : decode cX7_digest 308 = .ok (.getfield 235, 3) := by decide +kernel
theorem dX7_digest_311 : decode cX7_digest 311 = .ok (.lreturn, 1) := by decide +kernel
