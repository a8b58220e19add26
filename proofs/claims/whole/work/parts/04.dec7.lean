theorem dX7_in_0 : decode cX7_in 0 = .ok (.lload_n 0, 1) := by decide +kernel
theorem dX7_in_1 : decode cX7_in 1 = .ok (.lload_n 2, 1) := by decide +kernel
theorem dX7_in_2 : decode cX7_in 2 = .ok (.lcmp, 1) := by decide +kernel
theorem dX7_in_3 : decode cX7_in 3 = .ok (.ifCond .lt 14, 3) := by decide +kernel
theorem dX7_in_6 : decode cX7_in 6 = .ok (.lload_n 0, 1) := by decide +kernel
theorem dX7_in_7 : decode cX7_in 7 = .ok (.lload 4, 2) := by decide +kernel
theorem dX7_in_9 : decode cX7_in 9 = .ok (.lcmp, 1) := by decide +kernel
theorem dX7_in_10 : decode cX7_in 10 = .ok (.ifCond .gt 7, 3) := by decide +kernel
theorem dX7_in_13 : decode cX7_in 13 = .ok (.iconst 1, 1) := by decide +kernel
theorem dX7_in_14 : decode cX7_in 14 = .ok (.goto 4, 3) := by decide +kernel
theorem dX7_in_17 : decode cX7_in 17 = .ok (.iconst 0, 1) := by decide +kernel
theorem dX7_in_18 : decode cX7_in 18 = .ok (.ireturn, 1) := by decide +kernel
theorem dX7_init_0 : decode cX7_init 0 = .ok (.aload_n 0, 1) := by decide +kernel
theorem dX7_init_1 : decode cX7_init 1 = .ok (.invokespecial 1, 3) := by decide +kernel
theorem dX7_init_4 : decode cX7_init 4 = .ok (.aload_n 0, 1) := by decide +kernel
theorem dX7_init_5 : decode cX7_init 5 = .ok (.bipush 62, 2) := by decide +kernel
theorem dX7_init_7 : decode cX7_init 7 = .ok (.newarray .int, 2) := by decide +kernel
theorem dX7_init_9 : decode cX7_init 9 = .ok (.putfield 7, 3) := by decide +kernel
theorem dX7_init_12 : decode cX7_init 12 = .ok (.aload_n 0, 1) := by decide +kernel
theorem dX7_init_13 : decode cX7_init 13 = .ok (.bipush 32, 2) := by decide +kernel
theorem dX7_init_15 : decode cX7_init 15 = .ok (.newarray .int, 2) := by decide +kernel
theorem dX7_init_17 : decode cX7_init 17 = .ok (.putfield 13, 3) := by decide +kernel
theorem dX7_init_20 : decode cX7_init 20 = .ok (.aload_n 0, 1) := by decide +kernel
theorem dX7_init_21 : decode cX7_init 21 = .ok (.bipush 48, 2) := by decide +kernel
theorem dX7_init_23 : decode cX7_init 23 = .ok (.newarray .int, 2) := by decide +kernel
theorem dX7_init_25 : decode cX7_init 25 = .ok (.putfield 16, 3) := by decide +kernel
theorem dX7_init_28 : decode cX7_init 28 = .ok (.aload_n 0, 1) := by decide +kernel
theorem dX7_init_29 : decode cX7_init 29 = .ok (.bipush 48, 2) := by decide +kernel
theorem dX7_init_31 : decode cX7_init 31 = .ok (.newarray .int, 2) := by decide +kernel
theorem dX7_init_33 : decode cX7_init 33 = .ok (.putfield 19, 3) := by decide +kernel
theorem dX7_init_36 : decode cX7_init 36 = .ok (.aload_n 0, 1) := by decide +kernel
theorem dX7_init_37 : decode cX7_init 37 = .ok (.sipush 372, 3) := by decide +kernel
theorem dX7_init_40 : decode cX7_init 40 = .ok (.newarray .int, 2) := by decide +kernel
theorem dX7_init_42 : decode cX7_init 42 = .ok (.putfield 22, 3) := by decide +kernel
theorem dX7_init_45 : decode cX7_init 45 = .ok (.aload_n 0, 1) := by decide +kernel
theorem dX7_init_46 : decode cX7_init 46 = .ok (.bipush 48, 2) := by decide +kernel
theorem dX7_init_48 : decode cX7_init 48 = .ok (.newarray .int, 2) := by decide +kernel
theorem dX7_init_50 : decode cX7_init 50 = .ok (.putfield 25, 3) := by decide +kernel
theorem dX7_init_53 : decode cX7_init 53 = .ok (.aload_n 0, 1) := by decide +kernel
theorem dX7_init_54 : decode cX7_init 54 = .ok (.bipush 100, 2) := by decide +kernel
theorem dX7_init_56 : decode cX7_init 56 = .ok (.newarray .int, 2) := by decide +kernel
theorem dX7_init_58 : decode cX7_init 58 = .ok (.putfield 28, 3) := by decide +kernel
theorem dX7_init_61 : decode cX7_init 61 = .ok (.aload_n 0, 1) := by decide +kernel
theorem dX7_init_62 : decode cX7_init 62 = .ok (.bipush 48, 2) := by decide +kernel
theorem dX7_init_64 : decode cX7_init 64 = .ok (.newarray .int, 2) := by decide +kernel
theorem dX7_init_66 : decode cX7_init 66 = .ok (.putfield 31, 3) := by decide +kernel
theorem dX7_init_69 : decode cX7_init 69 = .ok (.aload_n 0, 1) := by decide +kernel
theorem dX7_init_70 : decode cX7_init 70 = .ok (.bipush 62, 2) := by decide +kernel
theorem dX7_init_72 : decode cX7_init 72 = .ok (.newarray .int, 2) := by decide +kernel
theorem dX7_init_74 : decode cX7_init 74 = .ok (.putfield 34, 3) := by decide +kernel
theorem dX7_init_77 : decode cX7_init 77 = .ok (.aload_n 0, 1) := by decide +kernel
theorem dX7_init_78 : decode cX7_init 78 = .ok (.sipush 372, 3) := by decide +kernel
theorem dX7_init_81 : decode cX7_init 81 = .ok (.newarray .int, 2) := by decide +kernel
theorem dX7_init_83 : decode cX7_init 83 = .ok (.putfield 37, 3) := by decide +kernel
theorem dX7_init_86 : decode cX7_init 86 = .ok (.aload_n 0, 1) := by decide +kernel
theorem dX7_init_87 : decode cX7_init 87 = .ok (.iconst (-1), 1) := by decide +kernel
theorem dX7_init_88 : decode cX7_init 88 = .ok (.putfield 40, 3) := by decide +kernel
theorem dX7_init_91 : decode cX7_init 91 = .ok (.aload_n 0, 1) := by decide +kernel
theorem dX7_init_92 : decode cX7_init 92 = .ok (.iconst 4, 1) := by decide +kernel
theorem dX7_init_93 : decode cX7_init 93 = .ok (.newarray .int, 2) := by decide +kernel
theorem dX7_init_95 : decode cX7_init 95 = .ok (.putfield 44, 3) := by decide +kernel
theorem dX7_init_98 : decode cX7_init 98 = .ok (.aload_n 0, 1) := by decide +kernel
theorem dX7_init_99 : decode cX7_init 99 = .ok (.iconst 4, 1) := by decide +kernel
theorem dX7_init_100 : decode cX7_init 100 = .ok (.newarray .int, 2) := by decide +kernel
theorem dX7_init_102 : decode cX7_init 102 = .ok (.putfield 47, 3) := by decide +kernel
theorem dX7_init_105 : decode cX7_init 105 = .ok (.aload_n 0, 1) := by decide +kernel
theorem dX7_init_106 : decode cX7_init 106 = .ok (.bipush 96, 2) := by decide +kernel
theorem dX7_init_108 : decode cX7_init 108 = .ok (.newarray .long, 2) := by decide +kernel
theorem dX7_init_110 : decode cX7_init 110 = .ok (.putfield 50, 3) := by decide +kernel
theorem dX7_init_113 : decode cX7_init 113 = .ok (.aload_n 0, 1) := by decide +kernel
theorem dX7_init_114 : decode cX7_init 114 = .ok (.bipush 24, 2) := by decide +kernel
theorem dX7_init_116 : decode cX7_init 116 = .ok (.newarray .long, 2) := by decide +kernel
theorem dX7_init_118 : decode cX7_init 118 = .ok (.putfield 54, 3) := by decide +kernel
theorem dX7_init_121 : decode cX7_init 121 = .ok (.aload_n 0, 1) := by decide +kernel
theorem dX7_init_122 : decode cX7_init 122 = .ok (.getfield 7, 3) := by decide +kernel
theorem dX7_init_125 : decode cX7_init 125 = .ok (.iconst 0, 1) := by decide +kernel
theorem dX7_init_126 : decode cX7_init 126 = .ok (.iconst 4, 1) := by decide +kernel
theorem dX7_init_127 : decode cX7_init 127 = .ok (.iastore, 1) := by decide +kernel
theorem dX7_init_128 : decode cX7_init 128 = .ok (.aload_n 0, 1) := by decide +kernel
theorem dX7_init_129 : decode cX7_init 129 = .ok (.getfield 7, 3) := by decide +kernel
theorem dX7_init_132 : decode cX7_init 132 = .ok (.iconst 1, 1) := by decide +kernel
theorem dX7_init_133 : decode cX7_init 133 = .ok (.iconst 3, 1) := by decide +kernel
theorem dX7_init_134 : decode cX7_init 134 = .ok (.iastore, 1) := by decide +kernel
theorem dX7_init_135 : decode cX7_init 135 = .ok (.aload_n 0, 1) := by decide +kernel
theorem dX7_init_136 : decode cX7_init 136 = .ok (.getfield 7, 3) := by decide +kernel
theorem dX7_init_139 : decode cX7_init 139 = .ok (.iconst 2, 1) := by decide +kernel
theorem dX7_init_140 : decode cX7_init 140 = .ok (.iconst 1, 1) := by decide +kernel
theorem dX7_init_141 : decode cX7_init 141 = .ok (.iastore, 1) := by decide +kernel
theorem dX7_init_142 : decode cX7_init 142 = .ok (.aload_n 0, 1) := by decide +kernel
theorem dX7_init_143 : decode cX7_init 143 = .ok (.getfield 7, 3) := by decide +kernel
theorem dX7_init_146 : decode cX7_init 146 = .ok (.iconst 3, 1) := by decide +kernel
theorem dX7_init_147 : decode cX7_init 147 = .ok (.sipush 1234, 3) := by decide +kernel
theorem dX7_init_150 : decode cX7_init 150 = .ok (.iastore, 1) := by decide +kernel
theorem dX7_init_151 : decode cX7_init 151 = .ok (.aload_n 0, 1) := by decide +kernel
theorem dX7_init_152 : decode cX7_init 152 = .ok (.getfield 7, 3) := by decide +kernel
theorem dX7_init_155 : decode cX7_init 155 = .ok (.bipush 9, 2) := by decide +kernel
theorem dX7_init_157 : decode cX7_init 157 = .ok (.sipush 4080, 3) := by decide +kernel
theorem dX7_init_160 : decode cX7_init 160 = .ok (.iastore, 1) := by decide +kernel
theorem dX7_init_161 : decode cX7_init 161 = .ok (.aload_n 0, 1) := by decide +kernel
theorem dX7_init_162 : decode cX7_init 162 = .ok (.getfield 7, 3) := by decide +kernel
theorem dX7_init_165 : decode cX7_init 165 = .ok (.bipush 10, 2) := by decide +kernel
theorem dX7_init_167 : decode cX7_init 167 = .ok (.sipush 3855, 3) := by decide +kernel
theorem dX7_init_170 : decode cX7_init 170 = .ok (.iastore, 1) := by decide +kernel
theorem dX7_init_171 : decode cX7_init 171 = .ok (.aload_n 0, 1) := by decide +kernel
theorem dX7_init_172 : decode cX7_init 172 = .ok (.getfield 7, 3) := by decide +kernel
theorem dX7_init_175 : decode cX7_init 175 = .ok (.bipush 11, 2) := by decide +kernel
theorem dX7_init_177 : decode cX7_init 177 = .ok (.sipush 255, 3) := by decide +kernel
theorem dX7_init_180 : decode cX7_init 180 = .ok (.iastore, 1) := by decide +kernel
theorem dX7_init_181 : decode cX7_init 181 = .ok (.aload_n 0, 1) := by decide +kernel
theorem dX7_init_182 : decode cX7_init 182 = .ok (.getfield 7, 3) := by decide +kernel
theorem dX7_init_185 : decode cX7_init 185 = .ok (.bipush 12, 2) := by decide +kernel
theorem dX7_init_187 : decode cX7_init 187 = .ok (.sipush 2184, 3) := by decide +kernel
theorem dX7_init_190 : decode cX7_init 190 = .ok (.iastore, 1) := by decide +kernel
theorem dX7_init_191 : decode cX7_init 191 = .ok (.aload_n 0, 1) := by decide +kernel
theorem dX7_init_192 : decode cX7_init 192 = .ok (.getfield 7, 3) := by decide +kernel
theorem dX7_init_195 : decode cX7_init 195 = .ok (.bipush 13, 2) := by decide +kernel
theorem dX7_init_197 : decode cX7_init 197 = .ok (.sipush 1092, 3) := by decide +kernel
theorem dX7_init_200 : decode cX7_init 200 = .ok (.iastore, 1) := by decide +kernel
theorem dX7_init_201 : decode cX7_init 201 = .ok (.iconst 0, 1) := by decide +kernel
theorem dX7_init_202 : decode cX7_init 202 = .ok (.istore_n 1, 1) := by decide +kernel
theorem dX7_init_203 : decode cX7_init 203 = .ok (.iload_n 1, 1) := by decide +kernel
theorem dX7_init_204 : decode cX7_init 204 = .ok (.iconst 4, 1) := by decide +kernel
theorem dX7_init_205 : decode cX7_init 205 = .ok (.if_icmp .ge 16, 3) := by decide +kernel
theorem dX7_init_208 : decode cX7_init 208 = .ok (.aload_n 0, 1) := by decide +kernel
theorem dX7_init_209 : decode cX7_init 209 = .ok (.getfield 44, 3) := by decide +kernel
theorem dX7_init_212 : decode cX7_init 212 = .ok (.iload_n 1, 1) := by decide +kernel
theorem dX7_init_213 : decode cX7_init 213 = .ok (.iconst (-1), 1) := by decide +kernel
theorem dX7_init_214 : decode cX7_init 214 = .ok (.iastore, 1) := by decide +kernel
theorem dX7_init_215 : decode cX7_init 215 = .ok (.iinc 1 1, 3) := by decide +kernel
theorem dX7_init_218 : decode cX7_init 218 = .ok (.goto (-15), 3) := by decide +kernel
theorem dX7_init_221 : decode cX7_init 221 = .ok (.return_, 1) := by decide +kernel
theorem dX7_isInk_0 : decode cX7_isInk 0 = .ok (.iload_n 0, 1) := by decide +kernel
theorem dX7_isInk_1 : decode cX7_isInk 1 = .ok (.i2l, 1) := by decide +kernel
theorem dX7_isInk_2 : decode cX7_isInk 2 = .ok (.lconst 0, 1) := by decide +kernel
theorem dX7_isInk_3 : decode cX7_isInk 3 = .ok (.ldc2_w 57, 3) := by decide +kernel
theorem dX7_isInk_6 : decode cX7_isInk 6 = .ok (.invokestatic 59, 3) := by decide +kernel
theorem dX7_isInk_9 : decode cX7_isInk 9 = .ok (.ireturn, 1) := by decide +kernel
theorem dX7_isSet_0 : decode cX7_isSet 0 = .ok (.lload_n 0, 1) := by decide +kernel
theorem dX7_isSet_1 : decode cX7_isSet 1 = .ok (.lconst 0, 1) := by decide +kernel
theorem dX7_isSet_2 : decode cX7_isSet 2 = .ok (.ldc2_w 63, 3) := by decide +kernel
theorem dX7_isSet_5 : decode cX7_isSet 5 = .ok (.invokestatic 59, 3) := by decide +kernel
theorem dX7_isSet_8 : decode cX7_isSet 8 = .ok (.ireturn, 1) := by decide +kernel
theorem dX7_hasInk_0 : decode cX7_hasInk 0 = .ok (.iload_n 0, 1) := by decide +kernel
theorem dX7_hasInk_1 : decode cX7_hasInk 1 = .ok (.iload_n 1, 1) := by decide +kernel
theorem dX7_hasInk_2 : decode cX7_hasInk 2 = .ok (.ishr, 1) := by decide +kernel
theorem dX7_hasInk_3 : decode cX7_hasInk 3 = .ok (.iconst 1, 1) := by decide +kernel
theorem dX7_hasInk_4 : decode cX7_hasInk 4 = .ok (.iand, 1) := by decide +kernel
theorem dX7_hasInk_5 : decode cX7_hasInk 5 = .ok (.iconst 1, 1) := by decide +kernel
theorem dX7_hasInk_6 : decode cX7_hasInk 6 = .ok (.if_icmp .ne 7, 3) := by decide +kernel
theorem dX7_hasInk_9 : decode cX7_hasInk 9 = .ok (.iconst 1, 1) := by decide +kernel
theorem dX7_hasInk_10 : decode cX7_hasInk 10 = .ok (.goto 4, 3) := by decide +kernel
theorem dX7_hasInk_13 : decode cX7_hasInk 13 = .ok (.iconst 0, 1) := by decide +kernel
theorem dX7_hasInk_14 : decode cX7_hasInk 14 = .ok (.ireturn, 1) := by decide +kernel
theorem dX7_bits_0 : decode cX7_bits 0 = .ok (.iconst 0, 1) := by decide +kernel
theorem dX7_bits_1 : decode cX7_bits 1 = .ok (.istore_n 1, 1) := by decide +kernel
theorem dX7_bits_2 : decode cX7_bits 2 = .ok (.iconst 0, 1) := by decide +kernel
theorem dX7_bits_3 : decode cX7_bits 3 = .ok (.istore_n 2, 1) := by decide +kernel
theorem dX7_bits_4 : decode cX7_bits 4 = .ok (.iload_n 2, 1) := by decide +kernel
theorem dX7_bits_5 : decode cX7_bits 5 = .ok (.iconst 5, 1) := by decide +kernel
theorem dX7_bits_6 : decode cX7_bits 6 = .ok (.if_icmp .ge 17, 3) := by decide +kernel
theorem dX7_bits_9 : decode cX7_bits 9 = .ok (.iload_n 1, 1) := by decide +kernel
theorem dX7_bits_10 : decode cX7_bits 10 = .ok (.iload_n 0, 1) := by decide +kernel
theorem dX7_bits_11 : decode cX7_bits 11 = .ok (.iload_n 2, 1) := by decide +kernel
theorem dX7_bits_12 : decode cX7_bits 12 = .ok (.ishr, 1) := by decide +kernel
theorem dX7_bits_13 : decode cX7_bits 13 = .ok (.iconst 1, 1) := by decide +kernel
theorem dX7_bits_14 : decode cX7_bits 14 = .ok (.iand, 1) := by decide +kernel
theorem dX7_bits_15 : decode cX7_bits 15 = .ok (.iadd, 1) := by decide +kernel
theorem dX7_bits_16 : decode cX7_bits 16 = .ok (.istore_n 1, 1) := by decide +kernel
theorem dX7_bits_17 : decode cX7_bits 17 = .ok (.iinc 2 1, 3) := by decide +kernel
theorem dX7_bits_20 : decode cX7_bits 20 = .ok (.goto (-16), 3) := by decide +kernel
theorem dX7_bits_23 : decode cX7_bits 23 = .ok (.iload_n 1, 1) := by decide +kernel
theorem dX7_bits_24 : decode cX7_bits 24 = .ok (.ireturn, 1) := by decide +kernel
theorem dX7_isPlace_0 : decode cX7_isPlace 0 = .ok (.iload_n 1, 1) := by decide +kernel
theorem dX7_isPlace_1 : decode cX7_isPlace 1 = .ok (.i2l, 1) := by decide +kernel
theorem dX7_isPlace_2 : decode cX7_isPlace 2 = .ok (.lconst 0, 1) := by decide +kernel
theorem dX7_isPlace_3 : decode cX7_isPlace 3 = .ok (.aload_n 0, 1) := by decide +kernel
theorem dX7_isPlace_4 : decode cX7_isPlace 4 = .ok (.getfield 7, 3) := by decide +kernel
theorem dX7_isPlace_7 : decode cX7_isPlace 7 = .ok (.iconst 0, 1) := by decide +kernel
theorem dX7_isPlace_8 : decode cX7_isPlace 8 = .ok (.iaload, 1) := by decide +kernel
theorem dX7_isPlace_9 : decode cX7_isPlace 9 = .ok (.iconst 1, 1) := by decide +kernel
theorem dX7_isPlace_10 : decode cX7_isPlace 10 = .ok (.isub, 1) := by decide +kernel
theorem dX7_isPlace_11 : decode cX7_isPlace 11 = .ok (.i2l, 1) := by decide +kernel
theorem dX7_isPlace_12 : decode cX7_isPlace 12 = .ok (.invokestatic 59, 3) := by decide +kernel
theorem dX7_isPlace_15 : decode cX7_isPlace 15 = .ok (.ifCond .eq 25, 3) := by decide +kernel
theorem dX7_isPlace_18 : decode cX7_isPlace 18 = .ok (.iload_n 2, 1) := by decide +kernel
theorem dX7_isPlace_19 : decode cX7_isPlace 19 = .ok (.i2l, 1) := by decide +kernel
theorem dX7_isPlace_20 : decode cX7_isPlace 20 = .ok (.lconst 0, 1) := by decide +kernel
theorem dX7_isPlace_21 : decode cX7_isPlace 21 = .ok (.aload_n 0, 1) := by decide +kernel
theorem dX7_isPlace_22 : decode cX7_isPlace 22 = .ok (.getfield 7, 3) := by decide +kernel
theorem dX7_isPlace_25 : decode cX7_isPlace 25 = .ok (.iconst 1, 1) := by decide +kernel
theorem dX7_isPlace_26 : decode cX7_isPlace 26 = .ok (.iaload, 1) := by decide +kernel
theorem dX7_isPlace_27 : decode cX7_isPlace 27 = .ok (.iconst 1, 1) := by decide +kernel
theorem dX7_isPlace_28 : decode cX7_isPlace 28 = .ok (.isub, 1) := by decide +kernel
theorem dX7_isPlace_29 : decode cX7_isPlace 29 = .ok (.i2l, 1) := by decide +kernel
theorem dX7_isPlace_30 : decode cX7_isPlace 30 = .ok (.invokestatic 59, 3) := by decide +kernel
theorem dX7_isPlace_33 : decode cX7_isPlace 33 = .ok (.ifCond .eq 7, 3) := by decide +kernel
theorem dX7_isPlace_36 : decode cX7_isPlace 36 = .ok (.iconst 1, 1) := by decide +kernel
theorem dX7_isPlace_37 : decode cX7_isPlace 37 = .ok (.goto 4, 3) := by decide +kernel
theorem dX7_isPlace_40 : decode cX7_isPlace 40 = .ok (.iconst 0, 1) := by decide +kernel
theorem dX7_isPlace_41 : decode cX7_isPlace 41 = .ok (.ireturn, 1) := by decide +kernel
theorem dX7_setAt_0 : decode cX7_setAt 0 = .ok (.aload_n 0, 1) := by decide +kernel
theorem dX7_setAt_1 : decode cX7_setAt 1 = .ok (.getfield 7, 3) := by decide +kernel
theorem dX7_setAt_4 : decode cX7_setAt 4 = .ok (.bipush 14, 2) := by decide +kernel
theorem dX7_setAt_6 : decode cX7_setAt 6 = .ok (.iload_n 1, 1) := by decide +kernel
theorem dX7_setAt_7 : decode cX7_setAt 7 = .ok (.iadd, 1) := by decide +kernel
theorem dX7_setAt_8 : decode cX7_setAt 8 = .ok (.iaload, 1) := by decide +kernel
theorem dX7_setAt_9 : decode cX7_setAt 9 = .ok (.ireturn, 1) := by decide +kernel
theorem dX7_isIn_0 : decode cX7_isIn 0 = .ok (.aload_n 0, 1) := by decide +kernel
theorem dX7_isIn_1 : decode cX7_isIn 1 = .ok (.iload_n 1, 1) := by decide +kernel
theorem dX7_isIn_2 : decode cX7_isIn 2 = .ok (.bipush 8, 2) := by decide +kernel
theorem dX7_isIn_4 : decode cX7_isIn 4 = .ok (.irem, 1) := by decide +kernel
theorem dX7_isIn_5 : decode cX7_isIn 5 = .ok (.iload_n 1, 1) := by decide +kernel
theorem dX7_isIn_6 : decode cX7_isIn 6 = .ok (.bipush 8, 2) := by decide +kernel
theorem dX7_isIn_8 : decode cX7_isIn 8 = .ok (.idiv, 1) := by decide +kernel
theorem dX7_isIn_9 : decode cX7_isIn 9 = .ok (.invokevirtual 65, 3) := by decide +kernel
theorem dX7_isIn_12 : decode cX7_isIn 12 = .ok (.ireturn, 1) := by decide +kernel
theorem dX7_over_0 : decode cX7_over 0 = .ok (.iload_n 0, 1) := by decide +kernel
theorem dX7_over_1 : decode cX7_over 1 = .ok (.iload_n 1, 1) := by decide +kernel
theorem dX7_over_2 : decode cX7_over 2 = .ok (.imul, 1) := by decide +kernel
theorem dX7_over_3 : decode cX7_over 3 = .ok (.bipush 15, 2) := by decide +kernel
theorem dX7_over_5 : decode cX7_over 5 = .ok (.idiv, 1) := by decide +kernel
theorem dX7_over_6 : decode cX7_over 6 = .ok (.istore_n 3, 1) := by decide +kernel
theorem dX7_over_7 : decode cX7_over 7 = .ok (.iload_n 2, 1) := by decide +kernel
theorem dX7_over_8 : decode cX7_over 8 = .ok (.tableswitch 38 0 2 #[28, 30, 32], 28) := by decide +kernel
theorem dX7_over_36 : decode cX7_over 36 = .ok (.iload_n 3, 1) := by decide +kernel
theorem dX7_over_37 : decode cX7_over 37 = .ok (.ireturn, 1) := by decide +kernel
theorem dX7_over_38 : decode cX7_over 38 = .ok (.iload_n 1, 1) := by decide +kernel
theorem dX7_over_39 : decode cX7_over 39 = .ok (.ireturn, 1) := by decide +kernel
theorem dX7_over_40 : decode cX7_over 40 = .ok (.iload_n 3, 1) := by decide +kernel
theorem dX7_over_41 : decode cX7_over 41 = .ok (.iload_n 1, 1) := by decide +kernel
theorem dX7_over_42 : decode cX7_over 42 = .ok (.iadd, 1) := by decide +kernel
theorem dX7_over_43 : decode cX7_over 43 = .ok (.iconst 2, 1) := by decide +kernel
theorem dX7_over_44 : decode cX7_over 44 = .ok (.idiv, 1) := by decide +kernel
theorem dX7_over_45 : decode cX7_over 45 = .ok (.ireturn, 1) := by decide +kernel
theorem dX7_over_46 : decode cX7_over 46 = .ok (.iload_n 1, 1) := by decide +kernel
theorem dX7_over_47 : decode cX7_over 47 = .ok (.bipush 15, 2) := by decide +kernel
theorem dX7_over_49 : decode cX7_over 49 = .ok (.if_icmp .ge 9, 3) := by decide +kernel
theorem dX7_over_52 : decode cX7_over 52 = .ok (.iload_n 1, 1) := by decide +kernel
theorem dX7_over_53 : decode cX7_over 53 = .ok (.iconst 1, 1) := by decide +kernel
theorem dX7_over_54 : decode cX7_over 54 = .ok (.iadd, 1) := by decide +kernel
theorem dX7_over_55 : decode cX7_over 55 = .ok (.goto 5, 3) := by decide +kernel
theorem dX7_over_58 : decode cX7_over 58 = .ok (.bipush 15, 2) := by decide +kernel
theorem dX7_over_60 : decode cX7_over 60 = .ok (.ireturn, 1) := by decide +kernel
theorem dX7_number_0 : decode cX7_number 0 = .ok (.bipush 15, 2) := by decide +kernel
theorem dX7_number_2 : decode cX7_number 2 = .ok (.istore 6, 2) := by decide +kernel
theorem dX7_number_4 : decode cX7_number 4 = .ok (.sipush 10000, 3) := by decide +kernel
theorem dX7_number_7 : decode cX7_number 7 = .ok (.istore 7, 2) := by decide +kernel
theorem dX7_number_9 : decode cX7_number 9 = .ok (.iload 7, 2) := by decide +kernel
theorem dX7_number_11 : decode cX7_number 11 = .ok (.ifCond .le 74, 3) := by decide +kernel
theorem dX7_number_14 : decode cX7_number 14 = .ok (.iload_n 3, 1) := by decide +kernel
theorem dX7_number_15 : decode cX7_number 15 = .ok (.iload 7, 2) := by decide +kernel
theorem dX7_number_17 : decode cX7_number 17 = .ok (.idiv, 1) := by decide +kernel
theorem dX7_number_18 : decode cX7_number 18 = .ok (.bipush 10, 2) := by decide +kernel
theorem dX7_number_20 : decode cX7_number 20 = .ok (.irem, 1) := by decide +kernel
theorem dX7_number_21 : decode cX7_number 21 = .ok (.istore 8, 2) := by decide +kernel
theorem dX7_number_23 : decode cX7_number 23 = .ok (.iload_n 1, 1) := by decide +kernel
theorem dX7_number_24 : decode cX7_number 24 = .ok (.iload 8, 2) := by decide +kernel
theorem dX7_number_26 : decode cX7_number 26 = .ok (.invokestatic 69, 3) := by decide +kernel
theorem dX7_number_29 : decode cX7_number 29 = .ok (.ifCond .eq 46, 3) := by decide +kernel
theorem dX7_number_32 : decode cX7_number 32 = .ok (.iload 6, 2) := by decide +kernel
theorem dX7_number_34 : decode cX7_number 34 = .ok (.aload_n 0, 1) := by decide +kernel
theorem dX7_number_35 : decode cX7_number 35 = .ok (.getfield 7, 3) := by decide +kernel
theorem dX7_number_38 : decode cX7_number 38 = .ok (.bipush 9, 2) := by decide +kernel
theorem dX7_number_40 : decode cX7_number 40 = .ok (.iload 8, 2) := by decide +kernel
theorem dX7_number_42 : decode cX7_number 42 = .ok (.iadd, 1) := by decide +kernel
theorem dX7_number_43 : decode cX7_number 43 = .ok (.iaload, 1) := by decide +kernel
theorem dX7_number_44 : decode cX7_number 44 = .ok (.iload_n 2, 1) := by decide +kernel
theorem dX7_number_45 : decode cX7_number 45 = .ok (.ishr, 1) := by decide +kernel
theorem dX7_number_46 : decode cX7_number 46 = .ok (.bipush 15, 2) := by decide +kernel
theorem dX7_number_48 : decode cX7_number 48 = .ok (.iand, 1) := by decide +kernel
theorem dX7_number_49 : decode cX7_number 49 = .ok (.iload 8, 2) := by decide +kernel
theorem dX7_number_51 : decode cX7_number 51 = .ok (.iload 4, 2) := by decide +kernel
theorem dX7_number_53 : decode cX7_number 53 = .ok (.if_icmp .ne 8, 3) := by decide +kernel
theorem dX7_number_56 : decode cX7_number 56 = .ok (.iload 5, 2) := by decide +kernel
theorem dX7_number_58 : decode cX7_number 58 = .ok (.goto 12, 3) := by decide +kernel
theorem dX7_number_61 : decode cX7_number 61 = .ok (.aload_n 0, 1) := by decide +kernel
theorem dX7_number_62 : decode cX7_number 62 = .ok (.getfield 7, 3) := by decide +kernel
theorem dX7_number_65 : decode cX7_number 65 = .ok (.iconst 4, 1) := by decide +kernel
theorem dX7_number_66 : decode cX7_number 66 = .ok (.iload 8, 2) := by decide +kernel
theorem dX7_number_68 : decode cX7_number 68 = .ok (.iadd, 1) := by decide +kernel
theorem dX7_number_69 : decode cX7_number 69 = .ok (.iaload, 1) := by decide +kernel
theorem dX7_number_70 : decode cX7_number 70 = .ok (.invokestatic 72, 3) := by decide +kernel
theorem dX7_number_73 : decode cX7_number 73 = .ok (.istore 6, 2) := by decide +kernel
theorem dX7_number_75 : decode cX7_number 75 = .ok (.iload 7, 2) := by decide +kernel
theorem dX7_number_77 : decode cX7_number 77 = .ok (.bipush 10, 2) := by decide +kernel
theorem dX7_number_79 : decode cX7_number 79 = .ok (.idiv, 1) := by decide +kernel
theorem dX7_number_80 : decode cX7_number 80 = .ok (.istore 7, 2) := by decide +kernel
theorem dX7_number_82 : decode cX7_number 82 = .ok (.goto (-73), 3) := by decide +kernel
theorem dX7_number_85 : decode cX7_number 85 = .ok (.iload 6, 2) := by decide +kernel
theorem dX7_number_87 : decode cX7_number 87 = .ok (.ireturn, 1) := by decide +kernel
theorem dX7_lookBy_0 : decode cX7_lookBy 0 = .ok (.sipush 256, 3) := by decide +kernel
theorem dX7_lookBy_3 : decode cX7_lookBy 3 = .ok (.aload_n 0, 1) := by decide +kernel
theorem dX7_lookBy_4 : decode cX7_lookBy 4 = .ok (.iload_n 1, 1) := by decide +kernel
theorem dX7_lookBy_5 : decode cX7_lookBy 5 = .ok (.bipush 8, 2) := by decide +kernel
theorem dX7_lookBy_7 : decode cX7_lookBy 7 = .ok (.iload_n 2, 1) := by decide +kernel
theorem dX7_lookBy_8 : decode cX7_lookBy 8 = .ok (.iload_n 3, 1) := by decide +kernel
theorem dX7_lookBy_9 : decode cX7_lookBy 9 = .ok (.iload 4, 2) := by decide +kernel
theorem dX7_lookBy_11 : decode cX7_lookBy 11 = .ok (.invokevirtual 76, 3) := by decide +kernel
theorem dX7_lookBy_14 : decode cX7_lookBy 14 = .ok (.imul, 1) := by decide +kernel
theorem dX7_lookBy_15 : decode cX7_lookBy 15 = .ok (.bipush 16, 2) := by decide +kernel
theorem dX7_lookBy_17 : decode cX7_lookBy 17 = .ok (.aload_n 0, 1) := by decide +kernel
theorem dX7_lookBy_18 : decode cX7_lookBy 18 = .ok (.iload_n 1, 1) := by decide +kernel
theorem dX7_lookBy_19 : decode cX7_lookBy 19 = .ok (.iconst 4, 1) := by decide +kernel
theorem dX7_lookBy_20 : decode cX7_lookBy 20 = .ok (.iload_n 2, 1) := by decide +kernel
theorem dX7_lookBy_21 : decode cX7_lookBy 21 = .ok (.iload_n 3, 1) := by decide +kernel
theorem dX7_lookBy_22 : decode cX7_lookBy 22 = .ok (.iload 4, 2) := by decide +kernel
theorem dX7_lookBy_24 : decode cX7_lookBy 24 = .ok (.invokevirtual 76, 3) := by decide +kernel
theorem dX7_lookBy_27 : decode cX7_lookBy 27 = .ok (.imul, 1) := by decide +kernel
theorem dX7_lookBy_28 : decode cX7_lookBy 28 = .ok (.iadd, 1) := by decide +kernel
theorem dX7_lookBy_29 : decode cX7_lookBy 29 = .ok (.aload_n 0, 1) := by decide +kernel
theorem dX7_lookBy_30 : decode cX7_lookBy 30 = .ok (.iload_n 1, 1) := by decide +kernel
theorem dX7_lookBy_31 : decode cX7_lookBy 31 = .ok (.iconst 0, 1) := by decide +kernel
theorem dX7_lookBy_32 : decode cX7_lookBy 32 = .ok (.iload_n 2, 1) := by decide +kernel
theorem dX7_lookBy_33 : decode cX7_lookBy 33 = .ok (.iload_n 3, 1) := by decide +kernel
theorem dX7_lookBy_34 : decode cX7_lookBy 34 = .ok (.iload 4, 2) := by decide +kernel
theorem dX7_lookBy_36 : decode cX7_lookBy 36 = .ok (.invokevirtual 76, 3) := by decide +kernel
theorem dX7_lookBy_39 : decode cX7_lookBy 39 = .ok (.iadd, 1) := by decide +kernel
theorem dX7_lookBy_40 : decode cX7_lookBy 40 = .ok (.ireturn, 1) := by decide +kernel
theorem dX7_lookOf_0 : decode cX7_lookOf 0 = .ok (.aload_n 0, 1) := by decide +kernel
theorem dX7_lookOf_1 : decode cX7_lookOf 1 = .ok (.iload_n 1, 1) := by decide +kernel
theorem dX7_lookOf_2 : decode cX7_lookOf 2 = .ok (.aload_n 0, 1) := by decide +kernel
theorem dX7_lookOf_3 : decode cX7_lookOf 3 = .ok (.getfield 7, 3) := by decide +kernel
theorem dX7_lookOf_6 : decode cX7_lookOf 6 = .ok (.iconst 3, 1) := by decide +kernel
theorem dX7_lookOf_7 : decode cX7_lookOf 7 = .ok (.iaload, 1) := by decide +kernel
theorem dX7_lookOf_8 : decode cX7_lookOf 8 = .ok (.iconst (-1), 1) := by decide +kernel
theorem dX7_lookOf_9 : decode cX7_lookOf 9 = .ok (.iconst 0, 1) := by decide +kernel
theorem dX7_lookOf_10 : decode cX7_lookOf 10 = .ok (.invokevirtual 80, 3) := by decide +kernel
theorem dX7_lookOf_13 : decode cX7_lookOf 13 = .ok (.ireturn, 1) := by decide +kernel
theorem dX7_dark_0 : decode cX7_dark 0 = .ok (.aload_n 0, 1) := by decide +kernel
theorem dX7_dark_1 : decode cX7_dark 1 = .ok (.iload_n 1, 1) := by decide +kernel
theorem dX7_dark_2 : decode cX7_dark 2 = .ok (.invokevirtual 84, 3) := by decide +kernel
theorem dX7_dark_5 : decode cX7_dark 5 = .ok (.istore_n 2, 1) := by decide +kernel
theorem dX7_dark_6 : decode cX7_dark 6 = .ok (.bipush 45, 2) := by decide +kernel
theorem dX7_dark_8 : decode cX7_dark 8 = .ok (.iload_n 2, 1) := by decide +kernel
theorem dX7_dark_9 : decode cX7_dark 9 = .ok (.bipush 8, 2) := by decide +kernel
theorem dX7_dark_11 : decode cX7_dark 11 = .ok (.ishr, 1) := by decide +kernel
theorem dX7_dark_12 : decode cX7_dark 12 = .ok (.isub, 1) := by decide +kernel
theorem dX7_dark_13 : decode cX7_dark 13 = .ok (.iload_n 2, 1) := by decide +kernel
theorem dX7_dark_14 : decode cX7_dark 14 = .ok (.iconst 4, 1) := by decide +kernel
theorem dX7_dark_15 : decode cX7_dark 15 = .ok (.ishr, 1) := by decide +kernel
theorem dX7_dark_16 : decode cX7_dark 16 = .ok (.bipush 15, 2) := by decide +kernel
theorem dX7_dark_18 : decode cX7_dark 18 = .ok (.iand, 1) := by decide +kernel
theorem dX7_dark_19 : decode cX7_dark 19 = .ok (.isub, 1) := by decide +kernel
theorem dX7_dark_20 : decode cX7_dark 20 = .ok (.iload_n 2, 1) := by decide +kernel
theorem dX7_dark_21 : decode cX7_dark 21 = .ok (.bipush 15, 2) := by decide +kernel
theorem dX7_dark_23 : decode cX7_dark 23 = .ok (.iand, 1) := by decide +kernel
theorem dX7_dark_24 : decode cX7_dark 24 = .ok (.isub, 1) := by decide +kernel
theorem dX7_dark_25 : decode cX7_dark 25 = .ok (.ireturn, 1) := by decide +kernel
theorem dX7_looksOfAll_0 : decode cX7_looksOfAll 0 = .ok (.iconst 0, 1) := by decide +kernel
theorem dX7_looksOfAll_1 : decode cX7_looksOfAll 1 = .ok (.istore_n 1, 1) := by decide +kernel
theorem dX7_looksOfAll_2 : decode cX7_looksOfAll 2 = .ok (.iload_n 1, 1) := by decide +kernel
theorem dX7_looksOfAll_3 : decode cX7_looksOfAll 3 = .ok (.bipush 32, 2) := by decide +kernel
theorem dX7_looksOfAll_5 : decode cX7_looksOfAll 5 = .ok (.if_icmp .ge 20, 3) := by decide +kernel
theorem dX7_looksOfAll_8 : decode cX7_looksOfAll 8 = .ok (.aload_n 0, 1) := by decide +kernel
theorem dX7_looksOfAll_9 : decode cX7_looksOfAll 9 = .ok (.getfield 13, 3) := by decide +kernel
theorem dX7_looksOfAll_12 : decode cX7_looksOfAll 12 = .ok (.iload_n 1, 1) := by decide +kernel
theorem dX7_looksOfAll_13 : decode cX7_looksOfAll 13 = .ok (.aload_n 0, 1) := by decide +kernel
theorem dX7_looksOfAll_14 : decode cX7_looksOfAll 14 = .ok (.iload_n 1, 1) := by decide +kernel
theorem dX7_looksOfAll_15 : decode cX7_looksOfAll 15 = .ok (.invokevirtual 84, 3) := by decide +kernel
theorem dX7_looksOfAll_18 : decode cX7_looksOfAll 18 = .ok (.iastore, 1) := by decide +kernel
theorem dX7_looksOfAll_19 : decode cX7_looksOfAll 19 = .ok (.iinc 1 1, 3) := by decide +kernel
theorem dX7_looksOfAll_22 : decode cX7_looksOfAll 22 = .ok (.goto (-20), 3) := by decide +kernel
theorem dX7_looksOfAll_25 : decode cX7_looksOfAll 25 = .ok (.return_, 1) := by decide +kernel
theorem dX7_alike_0 : decode cX7_alike 0 = .ok (.iconst 0, 1) := by decide +kernel
theorem dX7_alike_1 : decode cX7_alike 1 = .ok (.istore_n 2, 1) := by decide +kernel
theorem dX7_alike_2 : decode cX7_alike 2 = .ok (.iconst 0, 1) := by decide +kernel
theorem dX7_alike_3 : decode cX7_alike 3 = .ok (.istore_n 3, 1) := by decide +kernel
theorem dX7_alike_4 : decode cX7_alike 4 = .ok (.iload_n 3, 1) := by decide +kernel
theorem dX7_alike_5 : decode cX7_alike 5 = .ok (.bipush 32, 2) := by decide +kernel
theorem dX7_alike_7 : decode cX7_alike 7 = .ok (.if_icmp .ge 30, 3) := by decide +kernel
theorem dX7_alike_10 : decode cX7_alike 10 = .ok (.iload_n 2, 1) := by decide +kernel
theorem dX7_alike_11 : decode cX7_alike 11 = .ok (.aload_n 0, 1) := by decide +kernel
theorem dX7_alike_12 : decode cX7_alike 12 = .ok (.iload_n 3, 1) := by decide +kernel
theorem dX7_alike_13 : decode cX7_alike 13 = .ok (.invokevirtual 84, 3) := by decide +kernel
theorem dX7_alike_16 : decode cX7_alike 16 = .ok (.aload_n 0, 1) := by decide +kernel
theorem dX7_alike_17 : decode cX7_alike 17 = .ok (.iload_n 1, 1) := by decide +kernel
theorem dX7_alike_18 : decode cX7_alike 18 = .ok (.invokevirtual 84, 3) := by decide +kernel
theorem dX7_alike_21 : decode cX7_alike 21 = .ok (.if_icmp .ne 7, 3) := by decide +kernel
theorem dX7_alike_24 : decode cX7_alike 24 = .ok (.iconst 1, 1) := by decide +kernel
theorem dX7_alike_25 : decode cX7_alike 25 = .ok (.goto 4, 3) := by decide +kernel
theorem dX7_alike_28 : decode cX7_alike 28 = .ok (.iconst 0, 1) := by decide +kernel
theorem dX7_alike_29 : decode cX7_alike 29 = .ok (.iadd, 1) := by decide +kernel
theorem dX7_alike_30 : decode cX7_alike 30 = .ok (.istore_n 2, 1) := by decide +kernel
theorem dX7_alike_31 : decode cX7_alike 31 = .ok (.iinc 3 1, 3) := by decide +kernel
theorem dX7_alike_34 : decode cX7_alike 34 = .ok (.goto (-30), 3) := by decide +kernel
theorem dX7_alike_37 : decode cX7_alike 37 = .ok (.iload_n 2, 1) := by decide +kernel
theorem dX7_alike_38 : decode cX7_alike 38 = .ok (.ireturn, 1) := by decide +kernel
theorem dX7_placesOf_0 : decode cX7_placesOf 0 = .ok (.iconst 0, 1) := by decide +kernel
theorem dX7_placesOf_1 : decode cX7_placesOf 1 = .ok (.istore_n 2, 1) := by decide +kernel
theorem dX7_placesOf_2 : decode cX7_placesOf 2 = .ok (.iconst 0, 1) := by decide +kernel
theorem dX7_placesOf_3 : decode cX7_placesOf 3 = .ok (.istore_n 3, 1) := by decide +kernel
theorem dX7_placesOf_4 : decode cX7_placesOf 4 = .ok (.iload_n 3, 1) := by decide +kernel
theorem dX7_placesOf_5 : decode cX7_placesOf 5 = .ok (.bipush 48, 2) := by decide +kernel
theorem dX7_placesOf_7 : decode cX7_placesOf 7 = .ok (.if_icmp .ge 34, 3) := by decide +kernel
theorem dX7_placesOf_10 : decode cX7_placesOf 10 = .ok (.iload_n 2, 1) := by decide +kernel
theorem dX7_placesOf_11 : decode cX7_placesOf 11 = .ok (.aload_n 0, 1) := by decide +kernel
theorem dX7_placesOf_12 : decode cX7_placesOf 12 = .ok (.iload_n 3, 1) := by decide +kernel
theorem dX7_placesOf_13 : decode cX7_placesOf 13 = .ok (.invokevirtual 88, 3) := by decide +kernel
theorem dX7_placesOf_16 : decode cX7_placesOf 16 = .ok (.ifCond .eq 16, 3) := by decide +kernel
theorem dX7_placesOf_19 : decode cX7_placesOf 19 = .ok (.aload_n 0, 1) := by decide +kernel
theorem dX7_placesOf_20 : decode cX7_placesOf 20 = .ok (.iload_n 3, 1) := by decide +kernel
theorem dX7_placesOf_21 : decode cX7_placesOf 21 = .ok (.invokevirtual 92, 3) := by decide +kernel
theorem dX7_placesOf_24 : decode cX7_placesOf 24 = .ok (.iload_n 1, 1) := by decide +kernel
theorem dX7_placesOf_25 : decode cX7_placesOf 25 = .ok (.if_icmp .ne 7, 3) := by decide +kernel
theorem dX7_placesOf_28 : decode cX7_placesOf 28 = .ok (.iconst 1, 1) := by decide +kernel
theorem dX7_placesOf_29 : decode cX7_placesOf 29 = .ok (.goto 4, 3) := by decide +kernel
theorem dX7_placesOf_32 : decode cX7_placesOf 32 = .ok (.iconst 0, 1) := by decide +kernel
theorem dX7_placesOf_33 : decode cX7_placesOf 33 = .ok (.iadd, 1) := by decide +kernel
theorem dX7_placesOf_34 : decode cX7_placesOf 34 = .ok (.istore_n 2, 1) := by decide +kernel
theorem dX7_placesOf_35 : decode cX7_placesOf 35 = .ok (.iinc 3 1, 3) := by decide +kernel
theorem dX7_placesOf_38 : decode cX7_placesOf 38 = .ok (.goto (-34), 3) := by decide +kernel
theorem dX7_placesOf_41 : decode cX7_placesOf 41 = .ok (.iload_n 2, 1) := by decide +kernel
theorem dX7_placesOf_42 : decode cX7_placesOf 42 = .ok (.ireturn, 1) := by decide +kernel
theorem dX7_placesWith_0 : decode cX7_placesWith 0 = .ok (.iconst 0, 1) := by decide +kernel
theorem dX7_placesWith_1 : decode cX7_placesWith 1 = .ok (.istore_n 2, 1) := by decide +kernel
theorem dX7_placesWith_2 : decode cX7_placesWith 2 = .ok (.iconst 0, 1) := by decide +kernel
theorem dX7_placesWith_3 : decode cX7_placesWith 3 = .ok (.istore_n 3, 1) := by decide +kernel
theorem dX7_placesWith_4 : decode cX7_placesWith 4 = .ok (.iload_n 3, 1) := by decide +kernel
theorem dX7_placesWith_5 : decode cX7_placesWith 5 = .ok (.bipush 48, 2) := by decide +kernel
theorem dX7_placesWith_7 : decode cX7_placesWith 7 = .ok (.if_icmp .ge 37, 3) := by decide +kernel
theorem dX7_placesWith_10 : decode cX7_placesWith 10 = .ok (.iload_n 2, 1) := by decide +kernel
theorem dX7_placesWith_11 : decode cX7_placesWith 11 = .ok (.aload_n 0, 1) := by decide +kernel
theorem dX7_placesWith_12 : decode cX7_placesWith 12 = .ok (.iload_n 3, 1) := by decide +kernel
theorem dX7_placesWith_13 : decode cX7_placesWith 13 = .ok (.invokevirtual 88, 3) := by decide +kernel
theorem dX7_placesWith_16 : decode cX7_placesWith 16 = .ok (.ifCond .eq 19, 3) := by decide +kernel
theorem dX7_placesWith_19 : decode cX7_placesWith 19 = .ok (.aload_n 0, 1) := by decide +kernel
theorem dX7_placesWith_20 : decode cX7_placesWith 20 = .ok (.iload_n 3, 1) := by decide +kernel
theorem dX7_placesWith_21 : decode cX7_placesWith 21 = .ok (.invokevirtual 92, 3) := by decide +kernel
theorem dX7_placesWith_24 : decode cX7_placesWith 24 = .ok (.iload_n 1, 1) := by decide +kernel
theorem dX7_placesWith_25 : decode cX7_placesWith 25 = .ok (.invokestatic 69, 3) := by decide +kernel
theorem dX7_placesWith_28 : decode cX7_placesWith 28 = .ok (.ifCond .eq 7, 3) := by decide +kernel
theorem dX7_placesWith_31 : decode cX7_placesWith 31 = .ok (.iconst 1, 1) := by decide +kernel
theorem dX7_placesWith_32 : decode cX7_placesWith 32 = .ok (.goto 4, 3) := by decide +kernel
theorem dX7_placesWith_35 : decode cX7_placesWith 35 = .ok (.iconst 0, 1) := by decide +kernel
theorem dX7_placesWith_36 : decode cX7_placesWith 36 = .ok (.iadd, 1) := by decide +kernel
theorem dX7_placesWith_37 : decode cX7_placesWith 37 = .ok (.istore_n 2, 1) := by decide +kernel
theorem dX7_placesWith_38 : decode cX7_placesWith 38 = .ok (.iinc 3 1, 3) := by decide +kernel
theorem dX7_placesWith_41 : decode cX7_placesWith 41 = .ok (.goto (-37), 3) := by decide +kernel
theorem dX7_placesWith_44 : decode cX7_placesWith 44 = .ok (.iload_n 2, 1) := by decide +kernel
theorem dX7_placesWith_45 : decode cX7_placesWith 45 = .ok (.ireturn, 1) := by decide +kernel
theorem dX7_drawn_0 : decode cX7_drawn 0 = .ok (.iconst 0, 1) := by decide +kernel
theorem dX7_drawn_1 : decode cX7_drawn 1 = .ok (.istore_n 1, 1) := by decide +kernel
theorem dX7_drawn_2 : decode cX7_drawn 2 = .ok (.iconst 0, 1) := by decide +kernel
theorem dX7_drawn_3 : decode cX7_drawn 3 = .ok (.istore_n 2, 1) := by decide +kernel
theorem dX7_drawn_4 : decode cX7_drawn 4 = .ok (.iload_n 2, 1) := by decide +kernel
theorem dX7_drawn_5 : decode cX7_drawn 5 = .ok (.bipush 48, 2) := by decide +kernel
theorem dX7_drawn_7 : decode cX7_drawn 7 = .ok (.if_icmp .ge 29, 3) := by decide +kernel
theorem dX7_drawn_10 : decode cX7_drawn 10 = .ok (.iload_n 1, 1) := by decide +kernel
theorem dX7_drawn_11 : decode cX7_drawn 11 = .ok (.aload_n 0, 1) := by decide +kernel
theorem dX7_drawn_12 : decode cX7_drawn 12 = .ok (.iload_n 2, 1) := by decide +kernel
theorem dX7_drawn_13 : decode cX7_drawn 13 = .ok (.invokevirtual 88, 3) := by decide +kernel
theorem dX7_drawn_16 : decode cX7_drawn 16 = .ok (.ifCond .eq 11, 3) := by decide +kernel
theorem dX7_drawn_19 : decode cX7_drawn 19 = .ok (.aload_n 0, 1) := by decide +kernel
theorem dX7_drawn_20 : decode cX7_drawn 20 = .ok (.iload_n 2, 1) := by decide +kernel
theorem dX7_drawn_21 : decode cX7_drawn 21 = .ok (.invokevirtual 92, 3) := by decide +kernel
theorem dX7_drawn_24 : decode cX7_drawn 24 = .ok (.goto 4, 3) := by decide +kernel
theorem dX7_drawn_27 : decode cX7_drawn 27 = .ok (.iconst 0, 1) := by decide +kernel
theorem dX7_drawn_28 : decode cX7_drawn 28 = .ok (.ior, 1) := by decide +kernel
theorem dX7_drawn_29 : decode cX7_drawn 29 = .ok (.istore_n 1, 1) := by decide +kernel
theorem dX7_drawn_30 : decode cX7_drawn 30 = .ok (.iinc 2 1, 3) := by decide +kernel
theorem dX7_drawn_33 : decode cX7_drawn 33 = .ok (.goto (-29), 3) := by decide +kernel
theorem dX7_drawn_36 : decode cX7_drawn 36 = .ok (.iload_n 1, 1) := by decide +kernel
theorem dX7_drawn_37 : decode cX7_drawn 37 = .ok (.ireturn, 1) := by decide +kernel
theorem dX7_unlike_0 : decode cX7_unlike 0 = .ok (.iconst 0, 1) := by decide +kernel
theorem dX7_unlike_1 : decode cX7_unlike 1 = .ok (.istore_n 1, 1) := by decide +kernel
theorem dX7_unlike_2 : decode cX7_unlike 2 = .ok (.iconst 0, 1) := by decide +kernel
theorem dX7_unlike_3 : decode cX7_unlike 3 = .ok (.istore_n 2, 1) := by decide +kernel
theorem dX7_unlike_4 : decode cX7_unlike 4 = .ok (.iload_n 2, 1) := by decide +kernel
theorem dX7_unlike_5 : decode cX7_unlike 5 = .ok (.bipush 48, 2) := by decide +kernel
theorem dX7_unlike_7 : decode cX7_unlike 7 = .ok (.if_icmp .ge 85, 3) := by decide +kernel
theorem dX7_unlike_10 : decode cX7_unlike 10 = .ok (.aload_n 0, 1) := by decide +kernel
theorem dX7_unlike_11 : decode cX7_unlike 11 = .ok (.iload_n 2, 1) := by decide +kernel
theorem dX7_unlike_12 : decode cX7_unlike 12 = .ok (.invokevirtual 88, 3) := by decide +kernel
theorem dX7_unlike_15 : decode cX7_unlike 15 = .ok (.istore_n 3, 1) := by decide +kernel
theorem dX7_unlike_16 : decode cX7_unlike 16 = .ok (.iconst 0, 1) := by decide +kernel
theorem dX7_unlike_17 : decode cX7_unlike 17 = .ok (.istore 4, 2) := by decide +kernel
theorem dX7_unlike_19 : decode cX7_unlike 19 = .ok (.iload 4, 2) := by decide +kernel
theorem dX7_unlike_21 : decode cX7_unlike 21 = .ok (.iload_n 2, 1) := by decide +kernel
theorem dX7_unlike_22 : decode cX7_unlike 22 = .ok (.if_icmp .ge 52, 3) := by decide +kernel
theorem dX7_unlike_25 : decode cX7_unlike 25 = .ok (.iload_n 3, 1) := by decide +kernel
theorem dX7_unlike_26 : decode cX7_unlike 26 = .ok (.ifCond .eq 40, 3) := by decide +kernel
theorem dX7_unlike_29 : decode cX7_unlike 29 = .ok (.aload_n 0, 1) := by decide +kernel
theorem dX7_unlike_30 : decode cX7_unlike 30 = .ok (.iload 4, 2) := by decide +kernel
theorem dX7_unlike_32 : decode cX7_unlike 32 = .ok (.invokevirtual 88, 3) := by decide +kernel
theorem dX7_unlike_35 : decode cX7_unlike 35 = .ok (.ifCond .eq 27, 3) := by decide +kernel
theorem dX7_unlike_38 : decode cX7_unlike 38 = .ok (.aload_n 0, 1) := by decide +kernel
theorem dX7_unlike_39 : decode cX7_unlike 39 = .ok (.getfield 13, 3) := by decide +kernel
theorem dX7_unlike_42 : decode cX7_unlike 42 = .ok (.aload_n 0, 1) := by decide +kernel
theorem dX7_unlike_43 : decode cX7_unlike 43 = .ok (.iload 4, 2) := by decide +kernel
theorem dX7_unlike_45 : decode cX7_unlike 45 = .ok (.invokevirtual 92, 3) := by decide +kernel
theorem dX7_unlike_48 : decode cX7_unlike 48 = .ok (.iaload, 1) := by decide +kernel
theorem dX7_unlike_49 : decode cX7_unlike 49 = .ok (.aload_n 0, 1) := by decide +kernel
theorem dX7_unlike_50 : decode cX7_unlike 50 = .ok (.getfield 13, 3) := by decide +kernel
theorem dX7_unlike_53 : decode cX7_unlike 53 = .ok (.aload_n 0, 1) := by decide +kernel
theorem dX7_unlike_54 : decode cX7_unlike 54 = .ok (.iload_n 2, 1) := by decide +kernel
theorem dX7_unlike_55 : decode cX7_unlike 55 = .ok (.invokevirtual 92, 3) := by decide +kernel
theorem dX7_unlike_58 : decode cX7_unlike 58 = .ok (.iaload, 1) := by decide +kernel
theorem dX7_unlike_59 : decode cX7_unlike 59 = .ok (.if_icmp .eq 7, 3) := by decide +kernel
theorem dX7_unlike_62 : decode cX7_unlike 62 = .ok (.iconst 1, 1) := by decide +kernel
theorem dX7_unlike_63 : decode cX7_unlike 63 = .ok (.goto 4, 3) := by decide +kernel
theorem dX7_unlike_66 : decode cX7_unlike 66 = .ok (.iconst 0, 1) := by decide +kernel
theorem dX7_unlike_67 : decode cX7_unlike 67 = .ok (.istore_n 3, 1) := by decide +kernel
theorem dX7_unlike_68 : decode cX7_unlike 68 = .ok (.iinc 4 1, 3) := by decide +kernel
theorem dX7_unlike_71 : decode cX7_unlike 71 = .ok (.goto (-52), 3) := by decide +kernel
theorem dX7_unlike_74 : decode cX7_unlike 74 = .ok (.iload_n 1, 1) := by decide +kernel
theorem dX7_unlike_75 : decode cX7_unlike 75 = .ok (.iload_n 3, 1) := by decide +kernel
theorem dX7_unlike_76 : decode cX7_unlike 76 = .ok (.ifCond .eq 7, 3) := by decide +kernel
theorem dX7_unlike_79 : decode cX7_unlike 79 = .ok (.iconst 1, 1) := by decide +kernel
theorem dX7_unlike_80 : decode cX7_unlike 80 = .ok (.goto 4, 3) := by decide +kernel
theorem dX7_unlike_83 : decode cX7_unlike 83 = .ok (.iconst 0, 1) := by decide +kernel
theorem dX7_unlike_84 : decode cX7_unlike 84 = .ok (.iadd, 1) := by decide +kernel
theorem dX7_unlike_85 : decode cX7_unlike 85 = .ok (.istore_n 1, 1) := by decide +kernel
theorem dX7_unlike_86 : decode cX7_unlike 86 = .ok (.iinc 2 1, 3) := by decide +kernel
theorem dX7_unlike_89 : decode cX7_unlike 89 = .ok (.goto (-85), 3) := by decide +kernel
theorem dX7_unlike_92 : decode cX7_unlike 92 = .ok (.iload_n 1, 1) := by decide +kernel
theorem dX7_unlike_93 : decode cX7_unlike 93 = .ok (.ireturn, 1) := by decide +kernel
theorem dX7_canLook_0 : decode cX7_canLook 0 = .ok (.iconst 0, 1) := by decide +kernel
theorem dX7_canLook_1 : decode cX7_canLook 1 = .ok (.istore_n 3, 1) := by decide +kernel
theorem dX7_canLook_2 : decode cX7_canLook 2 = .ok (.iconst 0, 1) := by decide +kernel
theorem dX7_canLook_3 : decode cX7_canLook 3 = .ok (.istore 4, 2) := by decide +kernel
theorem dX7_canLook_5 : decode cX7_canLook 5 = .ok (.iload 4, 2) := by decide +kernel
theorem dX7_canLook_7 : decode cX7_canLook 7 = .ok (.bipush 32, 2) := by decide +kernel
theorem dX7_canLook_9 : decode cX7_canLook 9 = .ok (.if_icmp .ge 39, 3) := by decide +kernel
theorem dX7_canLook_12 : decode cX7_canLook 12 = .ok (.iload_n 3, 1) := by decide +kernel
theorem dX7_canLook_13 : decode cX7_canLook 13 = .ok (.ifCond .ne 23, 3) := by decide +kernel
theorem dX7_canLook_16 : decode cX7_canLook 16 = .ok (.iload 4, 2) := by decide +kernel
theorem dX7_canLook_18 : decode cX7_canLook 18 = .ok (.iload_n 1, 1) := by decide +kernel
theorem dX7_canLook_19 : decode cX7_canLook 19 = .ok (.iconst (-1), 1) := by decide +kernel
theorem dX7_canLook_20 : decode cX7_canLook 20 = .ok (.ixor, 1) := by decide +kernel
theorem dX7_canLook_21 : decode cX7_canLook 21 = .ok (.iand, 1) := by decide +kernel
theorem dX7_canLook_22 : decode cX7_canLook 22 = .ok (.ifCond .ne 18, 3) := by decide +kernel
theorem dX7_canLook_25 : decode cX7_canLook 25 = .ok (.aload_n 0, 1) := by decide +kernel
theorem dX7_canLook_26 : decode cX7_canLook 26 = .ok (.getfield 13, 3) := by decide +kernel
theorem dX7_canLook_29 : decode cX7_canLook 29 = .ok (.iload 4, 2) := by decide +kernel
theorem dX7_canLook_31 : decode cX7_canLook 31 = .ok (.iaload, 1) := by decide +kernel
theorem dX7_canLook_32 : decode cX7_canLook 32 = .ok (.iload_n 2, 1) := by decide +kernel
theorem dX7_canLook_33 : decode cX7_canLook 33 = .ok (.if_icmp .ne 7, 3) := by decide +kernel
theorem dX7_canLook_36 : decode cX7_canLook 36 = .ok (.iconst 1, 1) := by decide +kernel
theorem dX7_canLook_37 : decode cX7_canLook 37 = .ok (.goto 4, 3) := by decide +kernel
theorem dX7_canLook_40 : decode cX7_canLook 40 = .ok (.iconst 0, 1) := by decide +kernel
theorem dX7_canLook_41 : decode cX7_canLook 41 = .ok (.istore_n 3, 1) := by decide +kernel
theorem dX7_canLook_42 : decode cX7_canLook 42 = .ok (.iinc 4 1, 3) := by decide +kernel
theorem dX7_canLook_45 : decode cX7_canLook 45 = .ok (.goto (-40), 3) := by decide +kernel
theorem dX7_canLook_48 : decode cX7_canLook 48 = .ok (.iload_n 3, 1) := by decide +kernel
theorem dX7_canLook_49 : decode cX7_canLook 49 = .ok (.ireturn, 1) := by decide +kernel
theorem dX7_canAll_0 : decode cX7_canAll 0 = .ok (.iconst 1, 1) := by decide +kernel
theorem dX7_canAll_1 : decode cX7_canAll 1 = .ok (.istore_n 2, 1) := by decide +kernel
theorem dX7_canAll_2 : decode cX7_canAll 2 = .ok (.iconst 0, 1) := by decide +kernel
theorem dX7_canAll_3 : decode cX7_canAll 3 = .ok (.istore_n 3, 1) := by decide +kernel
theorem dX7_canAll_4 : decode cX7_canAll 4 = .ok (.iload_n 3, 1) := by decide +kernel
theorem dX7_canAll_5 : decode cX7_canAll 5 = .ok (.bipush 48, 2) := by decide +kernel
theorem dX7_canAll_7 : decode cX7_canAll 7 = .ok (.if_icmp .ge 45, 3) := by decide +kernel
theorem dX7_canAll_10 : decode cX7_canAll 10 = .ok (.iload_n 2, 1) := by decide +kernel
theorem dX7_canAll_11 : decode cX7_canAll 11 = .ok (.ifCond .eq 41, 3) := by decide +kernel
theorem dX7_canAll_14 : decode cX7_canAll 14 = .ok (.aload_n 0, 1) := by decide +kernel
theorem dX7_canAll_15 : decode cX7_canAll 15 = .ok (.iload_n 3, 1) := by decide +kernel
theorem dX7_canAll_16 : decode cX7_canAll 16 = .ok (.invokevirtual 88, 3) := by decide +kernel
theorem dX7_canAll_19 : decode cX7_canAll 19 = .ok (.ifCond .eq 21, 3) := by decide +kernel
theorem dX7_canAll_22 : decode cX7_canAll 22 = .ok (.aload_n 0, 1) := by decide +kernel
theorem dX7_canAll_23 : decode cX7_canAll 23 = .ok (.iload_n 1, 1) := by decide +kernel
theorem dX7_canAll_24 : decode cX7_canAll 24 = .ok (.aload_n 0, 1) := by decide +kernel
theorem dX7_canAll_25 : decode cX7_canAll 25 = .ok (.getfield 13, 3) := by decide +kernel
theorem dX7_canAll_28 : decode cX7_canAll 28 = .ok (.aload_n 0, 1) := by decide +kernel
theorem dX7_canAll_29 : decode cX7_canAll 29 = .ok (.iload_n 3, 1) := by decide +kernel
theorem dX7_canAll_30 : decode cX7_canAll 30 = .ok (.invokevirtual 92, 3) := by decide +kernel
theorem dX7_canAll_33 : decode cX7_canAll 33 = .ok (.iaload, 1) := by decide +kernel
theorem dX7_canAll_34 : decode cX7_canAll 34 = .ok (.invokevirtual 95, 3) := by decide +kernel
theorem dX7_canAll_37 : decode cX7_canAll 37 = .ok (.ifCond .eq 7, 3) := by decide +kernel
theorem dX7_canAll_40 : decode cX7_canAll 40 = .ok (.iconst 1, 1) := by decide +kernel
theorem dX7_canAll_41 : decode cX7_canAll 41 = .ok (.goto 4, 3) := by decide +kernel
theorem dX7_canAll_44 : decode cX7_canAll 44 = .ok (.iconst 0, 1) := by decide +kernel
theorem dX7_canAll_45 : decode cX7_canAll 45 = .ok (.istore_n 2, 1) := by decide +kernel
theorem dX7_canAll_46 : decode cX7_canAll 46 = .ok (.iinc 3 1, 3) := by decide +kernel
theorem dX7_canAll_49 : decode cX7_canAll 49 = .ok (.goto (-45), 3) := by decide +kernel
theorem dX7_canAll_52 : decode cX7_canAll 52 = .ok (.iload_n 2, 1) := by decide +kernel
theorem dX7_canAll_53 : decode cX7_canAll 53 = .ok (.ireturn, 1) := by decide +kernel
theorem dX7_few_0 : decode cX7_few 0 = .ok (.iconst 0, 1) := by decide +kernel
theorem dX7_few_1 : decode cX7_few 1 = .ok (.istore_n 1, 1) := by decide +kernel
theorem dX7_few_2 : decode cX7_few 2 = .ok (.iload_n 1, 1) := by decide +kernel
theorem dX7_few_3 : decode cX7_few 3 = .ok (.iconst 5, 1) := by decide +kernel
theorem dX7_few_4 : decode cX7_few 4 = .ok (.if_icmp .ge 41, 3) := by decide +kernel
theorem dX7_few_7 : decode cX7_few 7 = .ok (.iconst 0, 1) := by decide +kernel
theorem dX7_few_8 : decode cX7_few 8 = .ok (.istore_n 2, 1) := by decide +kernel
theorem dX7_few_9 : decode cX7_few 9 = .ok (.iload_n 2, 1) := by decide +kernel
theorem dX7_few_10 : decode cX7_few 10 = .ok (.bipush 32, 2) := by decide +kernel
theorem dX7_few_12 : decode cX7_few 12 = .ok (.if_icmp .ge 27, 3) := by decide +kernel
theorem dX7_few_15 : decode cX7_few 15 = .ok (.iload_n 2, 1) := by decide +kernel
theorem dX7_few_16 : decode cX7_few 16 = .ok (.invokestatic 98, 3) := by decide +kernel
theorem dX7_few_19 : decode cX7_few 19 = .ok (.iload_n 1, 1) := by decide +kernel
theorem dX7_few_20 : decode cX7_few 20 = .ok (.if_icmp .ne 13, 3) := by decide +kernel
theorem dX7_few_23 : decode cX7_few 23 = .ok (.aload_n 0, 1) := by decide +kernel
theorem dX7_few_24 : decode cX7_few 24 = .ok (.iload_n 2, 1) := by decide +kernel
theorem dX7_few_25 : decode cX7_few 25 = .ok (.invokevirtual 101, 3) := by decide +kernel
theorem dX7_few_28 : decode cX7_few 28 = .ok (.ifCond .eq 5, 3) := by decide +kernel
theorem dX7_few_31 : decode cX7_few 31 = .ok (.iload_n 2, 1) := by decide +kernel
theorem dX7_few_32 : decode cX7_few 32 = .ok (.ireturn, 1) := by decide +kernel
theorem dX7_few_33 : decode cX7_few 33 = .ok (.iinc 2 1, 3) := by decide +kernel
theorem dX7_few_36 : decode cX7_few 36 = .ok (.goto (-27), 3) := by decide +kernel
theorem dX7_few_39 : decode cX7_few 39 = .ok (.iinc 1 1, 3) := by decide +kernel
theorem dX7_few_42 : decode cX7_few 42 = .ok (.goto (-40), 3) := by decide +kernel
theorem dX7_few_45 : decode cX7_few 45 = .ok (.bipush 31, 2) := by decide +kernel
theorem dX7_few_47 : decode cX7_few 47 = .ok (.ireturn, 1) := by decide +kernel
theorem dX7_beside_0 : decode cX7_beside 0 = .ok (.iload_n 1, 1) := by decide +kernel
theorem dX7_beside_1 : decode cX7_beside 1 = .ok (.bipush 8, 2) := by decide +kernel
theorem dX7_beside_3 : decode cX7_beside 3 = .ok (.irem, 1) := by decide +kernel
theorem dX7_beside_4 : decode cX7_beside 4 = .ok (.iload_n 2, 1) := by decide +kernel
theorem dX7_beside_5 : decode cX7_beside 5 = .ok (.iconst 1, 1) := by decide +kernel
theorem dX7_beside_6 : decode cX7_beside 6 = .ok (.if_icmp .ne 7, 3) := by decide +kernel
theorem dX7_beside_9 : decode cX7_beside 9 = .ok (.iconst (-1), 1) := by decide +kernel
theorem dX7_beside_10 : decode cX7_beside 10 = .ok (.goto 13, 3) := by decide +kernel
theorem dX7_beside_13 : decode cX7_beside 13 = .ok (.iload_n 2, 1) := by decide +kernel
theorem dX7_beside_14 : decode cX7_beside 14 = .ok (.iconst 2, 1) := by decide +kernel
theorem dX7_beside_15 : decode cX7_beside 15 = .ok (.if_icmp .ne 7, 3) := by decide +kernel
theorem dX7_beside_18 : decode cX7_beside 18 = .ok (.iconst 1, 1) := by decide +kernel
theorem dX7_beside_19 : decode cX7_beside 19 = .ok (.goto 4, 3) := by decide +kernel
theorem dX7_beside_22 : decode cX7_beside 22 = .ok (.iconst 0, 1) := by decide +kernel
theorem dX7_beside_23 : decode cX7_beside 23 = .ok (.iadd, 1) := by decide +kernel
theorem dX7_beside_24 : decode cX7_beside 24 = .ok (.istore_n 3, 1) := by decide +kernel
theorem dX7_beside_25 : decode cX7_beside 25 = .ok (.iload_n 1, 1) := by decide +kernel
theorem dX7_beside_26 : decode cX7_beside 26 = .ok (.bipush 8, 2) := by decide +kernel
theorem dX7_beside_28 : decode cX7_beside 28 = .ok (.idiv, 1) := by decide +kernel
theorem dX7_beside_29 : decode cX7_beside 29 = .ok (.iload_n 2, 1) := by decide +kernel
theorem dX7_beside_30 : decode cX7_beside 30 = .ok (.ifCond .ne 7, 3) := by decide +kernel
theorem dX7_beside_33 : decode cX7_beside 33 = .ok (.iconst (-1), 1) := by decide +kernel
theorem dX7_beside_34 : decode cX7_beside 34 = .ok (.goto 13, 3) := by decide +kernel
theorem dX7_beside_37 : decode cX7_beside 37 = .ok (.iload_n 2, 1) := by decide +kernel
theorem dX7_beside_38 : decode cX7_beside 38 = .ok (.iconst 3, 1) := by decide +kernel
theorem dX7_beside_39 : decode cX7_beside 39 = .ok (.if_icmp .ne 7, 3) := by decide +kernel
theorem dX7_beside_42 : decode cX7_beside 42 = .ok (.iconst 1, 1) := by decide +kernel
theorem dX7_beside_43 : decode cX7_beside 43 = .ok (.goto 4, 3) := by decide +kernel
theorem dX7_beside_46 : decode cX7_beside 46 = .ok (.iconst 0, 1) := by decide +kernel
theorem dX7_beside_47 : decode cX7_beside 47 = .ok (.iadd, 1) := by decide +kernel
theorem dX7_beside_48 : decode cX7_beside 48 = .ok (.istore 4, 2) := by decide +kernel
theorem dX7_beside_50 : decode cX7_beside 50 = .ok (.aload_n 0, 1) := by decide +kernel
theorem dX7_beside_51 : decode cX7_beside 51 = .ok (.iload_n 3, 1) := by decide +kernel
theorem dX7_beside_52 : decode cX7_beside 52 = .ok (.iload 4, 2) := by decide +kernel
theorem dX7_beside_54 : decode cX7_beside 54 = .ok (.invokevirtual 65, 3) := by decide +kernel
theorem dX7_beside_57 : decode cX7_beside 57 = .ok (.ifCond .eq 13, 3) := by decide +kernel
theorem dX7_beside_60 : decode cX7_beside 60 = .ok (.bipush 8, 2) := by decide +kernel
theorem dX7_beside_62 : decode cX7_beside 62 = .ok (.iload 4, 2) := by decide +kernel
theorem dX7_beside_64 : decode cX7_beside 64 = .ok (.imul, 1) := by decide +kernel
theorem dX7_beside_65 : decode cX7_beside 65 = .ok (.iload_n 3, 1) := by decide +kernel
theorem dX7_beside_66 : decode cX7_beside 66 = .ok (.iadd, 1) := by decide +kernel
theorem dX7_beside_67 : decode cX7_beside 67 = .ok (.goto 4, 3) := by decide +kernel
theorem dX7_beside_70 : decode cX7_beside 70 = .ok (.iconst (-1), 1) := by decide +kernel
theorem dX7_beside_71 : decode cX7_beside 71 = .ok (.ireturn, 1) := by decide +kernel
theorem dX7_leastBeside_0 : decode cX7_leastBeside 0 = .ok (.aload_n 0, 1) := by decide +kernel
theorem dX7_leastBeside_1 : decode cX7_leastBeside 1 = .ok (.getfield 16, 3) := by decide +kernel
theorem dX7_leastBeside_4 : decode cX7_leastBeside 4 = .ok (.iload_n 1, 1) := by decide +kernel
theorem dX7_leastBeside_5 : decode cX7_leastBeside 5 = .ok (.iaload, 1) := by decide +kernel
theorem dX7_leastBeside_6 : decode cX7_leastBeside 6 = .ok (.istore_n 2, 1) := by decide +kernel
theorem dX7_leastBeside_7 : decode cX7_leastBeside 7 = .ok (.iconst 0, 1) := by decide +kernel
theorem dX7_leastBeside_8 : decode cX7_leastBeside 8 = .ok (.istore_n 3, 1) := by decide +kernel
theorem dX7_leastBeside_9 : decode cX7_leastBeside 9 = .ok (.iload_n 3, 1) := by decide +kernel
theorem dX7_leastBeside_10 : decode cX7_leastBeside 10 = .ok (.iconst 4, 1) := by decide +kernel
theorem dX7_leastBeside_11 : decode cX7_leastBeside 11 = .ok (.if_icmp .ge 59, 3) := by decide +kernel
theorem dX7_leastBeside_14 : decode cX7_leastBeside 14 = .ok (.aload_n 0, 1) := by decide +kernel
theorem dX7_leastBeside_15 : decode cX7_leastBeside 15 = .ok (.iload_n 1, 1) := by decide +kernel
theorem dX7_leastBeside_16 : decode cX7_leastBeside 16 = .ok (.iload_n 3, 1) := by decide +kernel
theorem dX7_leastBeside_17 : decode cX7_leastBeside 17 = .ok (.invokevirtual 104, 3) := by decide +kernel
theorem dX7_leastBeside_20 : decode cX7_leastBeside 20 = .ok (.istore 4, 2) := by decide +kernel
theorem dX7_leastBeside_22 : decode cX7_leastBeside 22 = .ok (.iload 4, 2) := by decide +kernel
theorem dX7_leastBeside_24 : decode cX7_leastBeside 24 = .ok (.ifCond .lt 38, 3) := by decide +kernel
theorem dX7_leastBeside_27 : decode cX7_leastBeside 27 = .ok (.aload_n 0, 1) := by decide +kernel
theorem dX7_leastBeside_28 : decode cX7_leastBeside 28 = .ok (.iload 4, 2) := by decide +kernel
theorem dX7_leastBeside_30 : decode cX7_leastBeside 30 = .ok (.invokevirtual 92, 3) := by decide +kernel
theorem dX7_leastBeside_33 : decode cX7_leastBeside 33 = .ok (.aload_n 0, 1) := by decide +kernel
theorem dX7_leastBeside_34 : decode cX7_leastBeside 34 = .ok (.iload_n 1, 1) := by decide +kernel
theorem dX7_leastBeside_35 : decode cX7_leastBeside 35 = .ok (.invokevirtual 92, 3) := by decide +kernel
theorem dX7_leastBeside_38 : decode cX7_leastBeside 38 = .ok (.if_icmp .ne 24, 3) := by decide +kernel
theorem dX7_leastBeside_41 : decode cX7_leastBeside 41 = .ok (.aload_n 0, 1) := by decide +kernel
theorem dX7_leastBeside_42 : decode cX7_leastBeside 42 = .ok (.getfield 16, 3) := by decide +kernel
theorem dX7_leastBeside_45 : decode cX7_leastBeside 45 = .ok (.iload 4, 2) := by decide +kernel
theorem dX7_leastBeside_47 : decode cX7_leastBeside 47 = .ok (.iaload, 1) := by decide +kernel
theorem dX7_leastBeside_48 : decode cX7_leastBeside 48 = .ok (.iload_n 2, 1) := by decide +kernel
theorem dX7_leastBeside_49 : decode cX7_leastBeside 49 = .ok (.if_icmp .ge 13, 3) := by decide +kernel
theorem dX7_leastBeside_52 : decode cX7_leastBeside 52 = .ok (.aload_n 0, 1) := by decide +kernel
theorem dX7_leastBeside_53 : decode cX7_leastBeside 53 = .ok (.getfield 16, 3) := by decide +kernel
theorem dX7_leastBeside_56 : decode cX7_leastBeside 56 = .ok (.iload 4, 2) := by decide +kernel
theorem dX7_leastBeside_58 : decode cX7_leastBeside 58 = .ok (.iaload, 1) := by decide +kernel
theorem dX7_leastBeside_59 : decode cX7_leastBeside 59 = .ok (.goto 4, 3) := by decide +kernel
theorem dX7_leastBeside_62 : decode cX7_leastBeside 62 = .ok (.iload_n 2, 1) := by decide +kernel
theorem dX7_leastBeside_63 : decode cX7_leastBeside 63 = .ok (.istore_n 2, 1) := by decide +kernel
theorem dX7_leastBeside_64 : decode cX7_leastBeside 64 = .ok (.iinc 3 1, 3) := by decide +kernel
theorem dX7_leastBeside_67 : decode cX7_leastBeside 67 = .ok (.goto (-58), 3) := by decide +kernel
theorem dX7_leastBeside_70 : decode cX7_leastBeside 70 = .ok (.iload_n 2, 1) := by decide +kernel
theorem dX7_leastBeside_71 : decode cX7_leastBeside 71 = .ok (.ireturn, 1) := by decide +kernel
theorem dX7_areas_0 : decode cX7_areas 0 = .ok (.iconst 0, 1) := by decide +kernel
theorem dX7_areas_1 : decode cX7_areas 1 = .ok (.istore_n 1, 1) := by decide +kernel
theorem dX7_areas_2 : decode cX7_areas 2 = .ok (.iload_n 1, 1) := by decide +kernel
theorem dX7_areas_3 : decode cX7_areas 3 = .ok (.bipush 48, 2) := by decide +kernel
theorem dX7_areas_5 : decode cX7_areas 5 = .ok (.if_icmp .ge 16, 3) := by decide +kernel
theorem dX7_areas_8 : decode cX7_areas 8 = .ok (.aload_n 0, 1) := by decide +kernel
theorem dX7_areas_9 : decode cX7_areas 9 = .ok (.getfield 16, 3) := by decide +kernel
theorem dX7_areas_12 : decode cX7_areas 12 = .ok (.iload_n 1, 1) := by decide +kernel
theorem dX7_areas_13 : decode cX7_areas 13 = .ok (.iload_n 1, 1) := by decide +kernel
theorem dX7_areas_14 : decode cX7_areas 14 = .ok (.iastore, 1) := by decide +kernel
theorem dX7_areas_15 : decode cX7_areas 15 = .ok (.iinc 1 1, 3) := by decide +kernel
theorem dX7_areas_18 : decode cX7_areas 18 = .ok (.goto (-16), 3) := by decide +kernel
theorem dX7_areas_21 : decode cX7_areas 21 = .ok (.iconst 1, 1) := by decide +kernel
theorem dX7_areas_22 : decode cX7_areas 22 = .ok (.istore_n 1, 1) := by decide +kernel
theorem dX7_areas_23 : decode cX7_areas 23 = .ok (.iconst 0, 1) := by decide +kernel
theorem dX7_areas_24 : decode cX7_areas 24 = .ok (.istore_n 2, 1) := by decide +kernel
theorem dX7_areas_25 : decode cX7_areas 25 = .ok (.iload_n 2, 1) := by decide +kernel
theorem dX7_areas_26 : decode cX7_areas 26 = .ok (.bipush 50, 2) := by decide +kernel
theorem dX7_areas_28 : decode cX7_areas 28 = .ok (.if_icmp .ge 77, 3) := by decide +kernel
theorem dX7_areas_31 : decode cX7_areas 31 = .ok (.iload_n 1, 1) := by decide +kernel
theorem dX7_areas_32 : decode cX7_areas 32 = .ok (.ifCond .eq 73, 3) := by decide +kernel
theorem dX7_areas_35 : decode cX7_areas 35 = .ok (.iconst 0, 1) := by decide +kernel
theorem dX7_areas_36 : decode cX7_areas 36 = .ok (.istore_n 1, 1) := by decide +kernel
theorem dX7_areas_37 : decode cX7_areas 37 = .ok (.iconst 0, 1) := by decide +kernel
theorem dX7_areas_38 : decode cX7_areas 38 = .ok (.istore_n 3, 1) := by decide +kernel
theorem dX7_areas_39 : decode cX7_areas 39 = .ok (.iload_n 3, 1) := by decide +kernel
theorem dX7_areas_40 : decode cX7_areas 40 = .ok (.bipush 48, 2) := by decide +kernel
theorem dX7_areas_42 : decode cX7_areas 42 = .ok (.if_icmp .ge 57, 3) := by decide +kernel
theorem dX7_areas_45 : decode cX7_areas 45 = .ok (.aload_n 0, 1) := by decide +kernel
theorem dX7_areas_46 : decode cX7_areas 46 = .ok (.iload_n 3, 1) := by decide +kernel
theorem dX7_areas_47 : decode cX7_areas 47 = .ok (.invokevirtual 88, 3) := by decide +kernel
theorem dX7_areas_50 : decode cX7_areas 50 = .ok (.ifCond .eq 11, 3) := by decide +kernel
theorem dX7_areas_53 : decode cX7_areas 53 = .ok (.aload_n 0, 1) := by decide +kernel
theorem dX7_areas_54 : decode cX7_areas 54 = .ok (.iload_n 3, 1) := by decide +kernel
theorem dX7_areas_55 : decode cX7_areas 55 = .ok (.invokevirtual 108, 3) := by decide +kernel
theorem dX7_areas_58 : decode cX7_areas 58 = .ok (.goto 4, 3) := by decide +kernel
theorem dX7_areas_61 : decode cX7_areas 61 = .ok (.iload_n 3, 1) := by decide +kernel
theorem dX7_areas_62 : decode cX7_areas 62 = .ok (.istore 4, 2) := by decide +kernel
theorem dX7_areas_64 : decode cX7_areas 64 = .ok (.iload_n 1, 1) := by decide +kernel
theorem dX7_areas_65 : decode cX7_areas 65 = .ok (.ifCond .ne 14, 3) := by decide +kernel
theorem dX7_areas_68 : decode cX7_areas 68 = .ok (.iload 4, 2) := by decide +kernel
theorem dX7_areas_70 : decode cX7_areas 70 = .ok (.aload_n 0, 1) := by decide +kernel
theorem dX7_areas_71 : decode cX7_areas 71 = .ok (.getfield 16, 3) := by decide +kernel
theorem dX7_areas_74 : decode cX7_areas 74 = .ok (.iload_n 3, 1) := by decide +kernel
theorem dX7_areas_75 : decode cX7_areas 75 = .ok (.iaload, 1) := by decide +kernel
theorem dX7_areas_76 : decode cX7_areas 76 = .ok (.if_icmp .eq 7, 3) := by decide +kernel
theorem dX7_areas_79 : decode cX7_areas 79 = .ok (.iconst 1, 1) := by decide +kernel
theorem dX7_areas_80 : decode cX7_areas 80 = .ok (.goto 4, 3) := by decide +kernel
theorem dX7_areas_83 : decode cX7_areas 83 = .ok (.iconst 0, 1) := by decide +kernel
theorem dX7_areas_84 : decode cX7_areas 84 = .ok (.istore_n 1, 1) := by decide +kernel
theorem dX7_areas_85 : decode cX7_areas 85 = .ok (.aload_n 0, 1) := by decide +kernel
theorem dX7_areas_86 : decode cX7_areas 86 = .ok (.getfield 16, 3) := by decide +kernel
theorem dX7_areas_89 : decode cX7_areas 89 = .ok (.iload_n 3, 1) := by decide +kernel
theorem dX7_areas_90 : decode cX7_areas 90 = .ok (.iload 4, 2) := by decide +kernel
theorem dX7_areas_92 : decode cX7_areas 92 = .ok (.iastore, 1) := by decide +kernel
theorem dX7_areas_93 : decode cX7_areas 93 = .ok (.iinc 3 1, 3) := by decide +kernel
theorem dX7_areas_96 : decode cX7_areas 96 = .ok (.goto (-57), 3) := by decide +kernel
theorem dX7_areas_99 : decode cX7_areas 99 = .ok (.iinc 2 1, 3) := by decide +kernel
theorem dX7_areas_102 : decode cX7_areas 102 = .ok (.goto (-77), 3) := by decide +kernel
theorem dX7_areas_105 : decode cX7_areas 105 = .ok (.iconst 0, 1) := by decide +kernel
theorem dX7_areas_106 : decode cX7_areas 106 = .ok (.istore_n 2, 1) := by decide +kernel
theorem dX7_areas_107 : decode cX7_areas 107 = .ok (.iconst 0, 1) := by decide +kernel
theorem dX7_areas_108 : decode cX7_areas 108 = .ok (.istore_n 3, 1) := by decide +kernel
theorem dX7_areas_109 : decode cX7_areas 109 = .ok (.iload_n 3, 1) := by decide +kernel
theorem dX7_areas_110 : decode cX7_areas 110 = .ok (.bipush 48, 2) := by decide +kernel
theorem dX7_areas_112 : decode cX7_areas 112 = .ok (.if_icmp .ge 37, 3) := by decide +kernel
theorem dX7_areas_115 : decode cX7_areas 115 = .ok (.aload_n 0, 1) := by decide +kernel
theorem dX7_areas_116 : decode cX7_areas 116 = .ok (.iload_n 3, 1) := by decide +kernel
theorem dX7_areas_117 : decode cX7_areas 117 = .ok (.invokevirtual 88, 3) := by decide +kernel
theorem dX7_areas_120 : decode cX7_areas 120 = .ok (.ifCond .eq 23, 3) := by decide +kernel
theorem dX7_areas_123 : decode cX7_areas 123 = .ok (.aload_n 0, 1) := by decide +kernel
theorem dX7_areas_124 : decode cX7_areas 124 = .ok (.getfield 16, 3) := by decide +kernel
theorem dX7_areas_127 : decode cX7_areas 127 = .ok (.iload_n 3, 1) := by decide +kernel
theorem dX7_areas_128 : decode cX7_areas 128 = .ok (.iaload, 1) := by decide +kernel
theorem dX7_areas_129 : decode cX7_areas 129 = .ok (.iload_n 3, 1) := by decide +kernel
theorem dX7_areas_130 : decode cX7_areas 130 = .ok (.if_icmp .ne 13, 3) := by decide +kernel
theorem dX7_areas_133 : decode cX7_areas 133 = .ok (.aload_n 0, 1) := by decide +kernel
theorem dX7_areas_134 : decode cX7_areas 134 = .ok (.getfield 19, 3) := by decide +kernel
theorem dX7_areas_137 : decode cX7_areas 137 = .ok (.iload_n 2, 1) := by decide +kernel
theorem dX7_areas_138 : decode cX7_areas 138 = .ok (.iload_n 3, 1) := by decide +kernel
theorem dX7_areas_139 : decode cX7_areas 139 = .ok (.iastore, 1) := by decide +kernel
theorem dX7_areas_140 : decode cX7_areas 140 = .ok (.iinc 2 1, 3) := by decide +kernel
theorem dX7_areas_143 : decode cX7_areas 143 = .ok (.iinc 3 1, 3) := by decide +kernel
theorem dX7_areas_146 : decode cX7_areas 146 = .ok (.goto (-37), 3) := by decide +kernel
theorem dX7_areas_149 : decode cX7_areas 149 = .ok (.iload_n 2, 1) := by decide +kernel
theorem dX7_areas_150 : decode cX7_areas 150 = .ok (.ireturn, 1) := by decide +kernel
theorem dX7_areaOf_0 : decode cX7_areaOf 0 = .ok (.iconst 0, 1) := by decide +kernel
theorem dX7_areaOf_1 : decode cX7_areaOf 1 = .ok (.istore_n 2, 1) := by decide +kernel
theorem dX7_areaOf_2 : decode cX7_areaOf 2 = .ok (.iload_n 2, 1) := by decide +kernel
theorem dX7_areaOf_3 : decode cX7_areaOf 3 = .ok (.bipush 47, 2) := by decide +kernel
theorem dX7_areaOf_5 : decode cX7_areaOf 5 = .ok (.if_icmp .ge 24, 3) := by decide +kernel
theorem dX7_areaOf_8 : decode cX7_areaOf 8 = .ok (.aload_n 0, 1) := by decide +kernel
theorem dX7_areaOf_9 : decode cX7_areaOf 9 = .ok (.getfield 19, 3) := by decide +kernel
theorem dX7_areaOf_12 : decode cX7_areaOf 12 = .ok (.iload_n 2, 1) := by decide +kernel
theorem dX7_areaOf_13 : decode cX7_areaOf 13 = .ok (.iaload, 1) := by decide +kernel
theorem dX7_areaOf_14 : decode cX7_areaOf 14 = .ok (.aload_n 0, 1) := by decide +kernel
theorem dX7_areaOf_15 : decode cX7_areaOf 15 = .ok (.getfield 16, 3) := by decide +kernel
theorem dX7_areaOf_18 : decode cX7_areaOf 18 = .ok (.iload_n 1, 1) := by decide +kernel
theorem dX7_areaOf_19 : decode cX7_areaOf 19 = .ok (.iaload, 1) := by decide +kernel
theorem dX7_areaOf_20 : decode cX7_areaOf 20 = .ok (.if_icmp .eq 9, 3) := by decide +kernel
theorem dX7_areaOf_23 : decode cX7_areaOf 23 = .ok (.iinc 2 1, 3) := by decide +kernel
theorem dX7_areaOf_26 : decode cX7_areaOf 26 = .ok (.goto (-24), 3) := by decide +kernel
theorem dX7_areaOf_29 : decode cX7_areaOf 29 = .ok (.iload_n 2, 1) := by decide +kernel
theorem dX7_areaOf_30 : decode cX7_areaOf 30 = .ok (.ireturn, 1) := by decide +kernel
theorem dX7_isOf_0 : decode cX7_isOf 0 = .ok (.aload_n 0, 1) := by decide +kernel
theorem dX7_isOf_1 : decode cX7_isOf 1 = .ok (.iload_n 1, 1) := by decide +kernel
theorem dX7_isOf_2 : decode cX7_isOf 2 = .ok (.invokevirtual 88, 3) := by decide +kernel
theorem dX7_isOf_5 : decode cX7_isOf 5 = .ok (.ifCond .eq 22, 3) := by decide +kernel
theorem dX7_isOf_8 : decode cX7_isOf 8 = .ok (.aload_n 0, 1) := by decide +kernel
theorem dX7_isOf_9 : decode cX7_isOf 9 = .ok (.getfield 16, 3) := by decide +kernel
theorem dX7_isOf_12 : decode cX7_isOf 12 = .ok (.iload_n 1, 1) := by decide +kernel
theorem dX7_isOf_13 : decode cX7_isOf 13 = .ok (.iaload, 1) := by decide +kernel
theorem dX7_isOf_14 : decode cX7_isOf 14 = .ok (.aload_n 0, 1) := by decide +kernel
theorem dX7_isOf_15 : decode cX7_isOf 15 = .ok (.getfield 19, 3) := by decide +kernel
theorem dX7_isOf_18 : decode cX7_isOf 18 = .ok (.iload_n 2, 1) := by decide +kernel
theorem dX7_isOf_19 : decode cX7_isOf 19 = .ok (.iaload, 1) := by decide +kernel
theorem dX7_isOf_20 : decode cX7_isOf 20 = .ok (.if_icmp .ne 7, 3) := by decide +kernel
theorem dX7_isOf_23 : decode cX7_isOf 23 = .ok (.iconst 1, 1) := by decide +kernel
theorem dX7_isOf_24 : decode cX7_isOf 24 = .ok (.goto 4, 3) := by decide +kernel
theorem dX7_isOf_27 : decode cX7_isOf 27 = .ok (.iconst 0, 1) := by decide +kernel
theorem dX7_isOf_28 : decode cX7_isOf 28 = .ok (.ireturn, 1) := by decide +kernel
theorem dX7_placesOfArea_0 : decode cX7_placesOfArea 0 = .ok (.iconst 0, 1) := by decide +kernel
theorem dX7_placesOfArea_1 : decode cX7_placesOfArea 1 = .ok (.istore_n 2, 1) := by decide +kernel
theorem dX7_placesOfArea_2 : decode cX7_placesOfArea 2 = .ok (.iconst 0, 1) := by decide +kernel
theorem dX7_placesOfArea_3 : decode cX7_placesOfArea 3 = .ok (.istore_n 3, 1) := by decide +kernel
theorem dX7_placesOfArea_4 : decode cX7_placesOfArea 4 = .ok (.iload_n 3, 1) := by decide +kernel
theorem dX7_placesOfArea_5 : decode cX7_placesOfArea 5 = .ok (.bipush 48, 2) := by decide +kernel
theorem dX7_placesOfArea_7 : decode cX7_placesOfArea 7 = .ok (.if_icmp .ge 26, 3) := by decide +kernel
theorem dX7_placesOfArea_10 : decode cX7_placesOfArea 10 = .ok (.iload_n 2, 1) := by decide +kernel
theorem dX7_placesOfArea_11 : decode cX7_placesOfArea 11 = .ok (.aload_n 0, 1) := by decide +kernel
theorem dX7_placesOfArea_12 : decode cX7_placesOfArea 12 = .ok (.iload_n 3, 1) := by decide +kernel
theorem dX7_placesOfArea_13 : decode cX7_placesOfArea 13 = .ok (.iload_n 1, 1) := by decide +kernel
theorem dX7_placesOfArea_14 : decode cX7_placesOfArea 14 = .ok (.invokevirtual 111, 3) := by decide +kernel
theorem dX7_placesOfArea_17 : decode cX7_placesOfArea 17 = .ok (.ifCond .eq 7, 3) := by decide +kernel
theorem dX7_placesOfArea_20 : decode cX7_placesOfArea 20 = .ok (.iconst 1, 1) := by decide +kernel
theorem dX7_placesOfArea_21 : decode cX7_placesOfArea 21 = .ok (.goto 4, 3) := by decide +kernel
theorem dX7_placesOfArea_24 : decode cX7_placesOfArea 24 = .ok (.iconst 0, 1) := by decide +kernel
theorem dX7_placesOfArea_25 : decode cX7_placesOfArea 25 = .ok (.iadd, 1) := by decide +kernel
theorem dX7_placesOfArea_26 : decode cX7_placesOfArea 26 = .ok (.istore_n 2, 1) := by decide +kernel
theorem dX7_placesOfArea_27 : decode cX7_placesOfArea 27 = .ok (.iinc 3 1, 3) := by decide +kernel
theorem dX7_placesOfArea_30 : decode cX7_placesOfArea 30 = .ok (.goto (-26), 3) := by decide +kernel
theorem dX7_placesOfArea_33 : decode cX7_placesOfArea 33 = .ok (.iload_n 2, 1) := by decide +kernel
theorem dX7_placesOfArea_34 : decode cX7_placesOfArea 34 = .ok (.ireturn, 1) := by decide +kernel
theorem dX7_isBeside_0 : decode cX7_isBeside 0 = .ok (.iconst 0, 1) := by decide +kernel
theorem dX7_isBeside_1 : decode cX7_isBeside 1 = .ok (.istore_n 3, 1) := by decide +kernel
theorem dX7_isBeside_2 : decode cX7_isBeside 2 = .ok (.iconst 0, 1) := by decide +kernel
theorem dX7_isBeside_3 : decode cX7_isBeside 3 = .ok (.istore 4, 2) := by decide +kernel
theorem dX7_isBeside_5 : decode cX7_isBeside 5 = .ok (.iload 4, 2) := by decide +kernel
theorem dX7_isBeside_7 : decode cX7_isBeside 7 = .ok (.bipush 48, 2) := by decide +kernel
theorem dX7_isBeside_9 : decode cX7_isBeside 9 = .ok (.if_icmp .ge 69, 3) := by decide +kernel
theorem dX7_isBeside_12 : decode cX7_isBeside 12 = .ok (.iconst 0, 1) := by decide +kernel
theorem dX7_isBeside_13 : decode cX7_isBeside 13 = .ok (.istore 5, 2) := by decide +kernel
theorem dX7_isBeside_15 : decode cX7_isBeside 15 = .ok (.iload 5, 2) := by decide +kernel
theorem dX7_isBeside_17 : decode cX7_isBeside 17 = .ok (.iconst 4, 1) := by decide +kernel
theorem dX7_isBeside_18 : decode cX7_isBeside 18 = .ok (.if_icmp .ge 54, 3) := by decide +kernel
theorem dX7_isBeside_21 : decode cX7_isBeside 21 = .ok (.aload_n 0, 1) := by decide +kernel
theorem dX7_isBeside_22 : decode cX7_isBeside 22 = .ok (.iload 4, 2) := by decide +kernel
theorem dX7_isBeside_24 : decode cX7_isBeside 24 = .ok (.iload_n 1, 1) := by decide +kernel
theorem dX7_isBeside_25 : decode cX7_isBeside 25 = .ok (.invokevirtual 111, 3) := by decide +kernel
theorem dX7_isBeside_28 : decode cX7_isBeside 28 = .ok (.ifCond .eq 44, 3) := by decide +kernel
theorem dX7_isBeside_31 : decode cX7_isBeside 31 = .ok (.aload_n 0, 1) := by decide +kernel
theorem dX7_isBeside_32 : decode cX7_isBeside 32 = .ok (.iload 4, 2) := by decide +kernel
theorem dX7_isBeside_34 : decode cX7_isBeside 34 = .ok (.iload 5, 2) := by decide +kernel
theorem dX7_isBeside_36 : decode cX7_isBeside 36 = .ok (.invokevirtual 104, 3) := by decide +kernel
theorem dX7_isBeside_39 : decode cX7_isBeside 39 = .ok (.istore 6, 2) := by decide +kernel
theorem dX7_isBeside_41 : decode cX7_isBeside 41 = .ok (.iload_n 3, 1) := by decide +kernel
theorem dX7_isBeside_42 : decode cX7_isBeside 42 = .ok (.ifCond .ne 18, 3) := by decide +kernel
theorem dX7_isBeside_45 : decode cX7_isBeside 45 = .ok (.iload 6, 2) := by decide +kernel
theorem dX7_isBeside_47 : decode cX7_isBeside 47 = .ok (.ifCond .lt 17, 3) := by decide +kernel
theorem dX7_isBeside_50 : decode cX7_isBeside 50 = .ok (.aload_n 0, 1) := by decide +kernel
theorem dX7_isBeside_51 : decode cX7_isBeside 51 = .ok (.iload 6, 2) := by decide +kernel
theorem dX7_isBeside_53 : decode cX7_isBeside 53 = .ok (.iload_n 2, 1) := by decide +kernel
theorem dX7_isBeside_54 : decode cX7_isBeside 54 = .ok (.invokevirtual 111, 3) := by decide +kernel
theorem dX7_isBeside_57 : decode cX7_isBeside 57 = .ok (.ifCond .eq 7, 3) := by decide +kernel
theorem dX7_isBeside_60 : decode cX7_isBeside 60 = .ok (.iconst 1, 1) := by decide +kernel
theorem dX7_isBeside_61 : decode cX7_isBeside 61 = .ok (.goto 4, 3) := by decide +kernel
theorem dX7_isBeside_64 : decode cX7_isBeside 64 = .ok (.iconst 0, 1) := by decide +kernel
theorem dX7_isBeside_65 : decode cX7_isBeside 65 = .ok (.istore_n 3, 1) := by decide +kernel
theorem dX7_isBeside_66 : decode cX7_isBeside 66 = .ok (.iinc 5 1, 3) := by decide +kernel
theorem dX7_isBeside_69 : decode cX7_isBeside 69 = .ok (.goto (-54), 3) := by decide +kernel
theorem dX7_isBeside_72 : decode cX7_isBeside 72 = .ok (.iinc 4 1, 3) := by decide +kernel
theorem dX7_isBeside_75 : decode cX7_isBeside 75 = .ok (.goto (-70), 3) := by decide +kernel
theorem dX7_isBeside_78 : decode cX7_isBeside 78 = .ok (.iload_n 3, 1) := by decide +kernel
theorem dX7_isBeside_79 : decode cX7_isBeside 79 = .ok (.ireturn, 1) := by decide +kernel
theorem dX7_neighbours_0 : decode cX7_neighbours 0 = .ok (.iconst 0, 1) := by decide +kernel
theorem dX7_neighbours_1 : decode cX7_neighbours 1 = .ok (.istore_n 3, 1) := by decide +kernel
theorem dX7_neighbours_2 : decode cX7_neighbours 2 = .ok (.iconst 0, 1) := by decide +kernel
theorem dX7_neighbours_3 : decode cX7_neighbours 3 = .ok (.istore 4, 2) := by decide +kernel
theorem dX7_neighbours_5 : decode cX7_neighbours 5 = .ok (.iload 4, 2) := by decide +kernel
theorem dX7_neighbours_7 : decode cX7_neighbours 7 = .ok (.iload_n 2, 1) := by decide +kernel
theorem dX7_neighbours_8 : decode cX7_neighbours 8 = .ok (.if_icmp .ge 33, 3) := by decide +kernel
theorem dX7_neighbours_11 : decode cX7_neighbours 11 = .ok (.iload_n 3, 1) := by decide +kernel
theorem dX7_neighbours_12 : decode cX7_neighbours 12 = .ok (.iload 4, 2) := by decide +kernel
theorem dX7_neighbours_14 : decode cX7_neighbours 14 = .ok (.iload_n 1, 1) := by decide +kernel
theorem dX7_neighbours_15 : decode cX7_neighbours 15 = .ok (.if_icmp .eq 17, 3) := by decide +kernel
theorem dX7_neighbours_18 : decode cX7_neighbours 18 = .ok (.aload_n 0, 1) := by decide +kernel
theorem dX7_neighbours_19 : decode cX7_neighbours 19 = .ok (.iload_n 1, 1) := by decide +kernel
theorem dX7_neighbours_20 : decode cX7_neighbours 20 = .ok (.iload 4, 2) := by decide +kernel
theorem dX7_neighbours_22 : decode cX7_neighbours 22 = .ok (.invokevirtual 114, 3) := by decide +kernel
theorem dX7_neighbours_25 : decode cX7_neighbours 25 = .ok (.ifCond .eq 7, 3) := by decide +kernel
theorem dX7_neighbours_28 : decode cX7_neighbours 28 = .ok (.iconst 1, 1) := by decide +kernel
theorem dX7_neighbours_29 : decode cX7_neighbours 29 = .ok (.goto 4, 3) := by decide +kernel
theorem dX7_neighbours_32 : decode cX7_neighbours 32 = .ok (.iconst 0, 1) := by decide +kernel
theorem dX7_neighbours_33 : decode cX7_neighbours 33 = .ok (.iadd, 1) := by decide +kernel
theorem dX7_neighbours_34 : decode cX7_neighbours 34 = .ok (.istore_n 3, 1) := by decide +kernel
theorem dX7_neighbours_35 : decode cX7_neighbours 35 = .ok (.iinc 4 1, 3) := by decide +kernel
theorem dX7_neighbours_38 : decode cX7_neighbours 38 = .ok (.goto (-33), 3) := by decide +kernel
theorem dX7_neighbours_41 : decode cX7_neighbours 41 = .ok (.iload_n 3, 1) := by decide +kernel
theorem dX7_neighbours_42 : decode cX7_neighbours 42 = .ok (.ireturn, 1) := by decide +kernel
theorem dX7_greater_0 : decode cX7_greater 0 = .ok (.aload_n 0, 1) := by decide +kernel
theorem dX7_greater_1 : decode cX7_greater 1 = .ok (.iload_n 1, 1) := by decide +kernel
theorem dX7_greater_2 : decode cX7_greater 2 = .ok (.invokevirtual 117, 3) := by decide +kernel
theorem dX7_greater_5 : decode cX7_greater 5 = .ok (.istore_n 3, 1) := by decide +kernel
theorem dX7_greater_6 : decode cX7_greater 6 = .ok (.iconst 0, 1) := by decide +kernel
theorem dX7_greater_7 : decode cX7_greater 7 = .ok (.istore 4, 2) := by decide +kernel
theorem dX7_greater_9 : decode cX7_greater 9 = .ok (.iconst 0, 1) := by decide +kernel
theorem dX7_greater_10 : decode cX7_greater 10 = .ok (.istore 5, 2) := by decide +kernel
theorem dX7_greater_12 : decode cX7_greater 12 = .ok (.iload 5, 2) := by decide +kernel
theorem dX7_greater_14 : decode cX7_greater 14 = .ok (.iload_n 2, 1) := by decide +kernel
theorem dX7_greater_15 : decode cX7_greater 15 = .ok (.if_icmp .ge 45, 3) := by decide +kernel
theorem dX7_greater_18 : decode cX7_greater 18 = .ok (.aload_n 0, 1) := by decide +kernel
theorem dX7_greater_19 : decode cX7_greater 19 = .ok (.iload 5, 2) := by decide +kernel
theorem dX7_greater_21 : decode cX7_greater 21 = .ok (.invokevirtual 117, 3) := by decide +kernel
theorem dX7_greater_24 : decode cX7_greater 24 = .ok (.istore 6, 2) := by decide +kernel
theorem dX7_greater_26 : decode cX7_greater 26 = .ok (.iload 4, 2) := by decide +kernel
theorem dX7_greater_28 : decode cX7_greater 28 = .ok (.iload 6, 2) := by decide +kernel
theorem dX7_greater_30 : decode cX7_greater 30 = .ok (.iload_n 3, 1) := by decide +kernel
theorem dX7_greater_31 : decode cX7_greater 31 = .ok (.if_icmp .gt 15, 3) := by decide +kernel
theorem dX7_greater_34 : decode cX7_greater 34 = .ok (.iload 6, 2) := by decide +kernel
theorem dX7_greater_36 : decode cX7_greater 36 = .ok (.iload_n 3, 1) := by decide +kernel
theorem dX7_greater_37 : decode cX7_greater 37 = .ok (.if_icmp .ne 13, 3) := by decide +kernel
theorem dX7_greater_40 : decode cX7_greater 40 = .ok (.iload 5, 2) := by decide +kernel
theorem dX7_greater_42 : decode cX7_greater 42 = .ok (.iload_n 1, 1) := by decide +kernel
theorem dX7_greater_43 : decode cX7_greater 43 = .ok (.if_icmp .ge 7, 3) := by decide +kernel
theorem dX7_greater_46 : decode cX7_greater 46 = .ok (.iconst 1, 1) := by decide +kernel
theorem dX7_greater_47 : decode cX7_greater 47 = .ok (.goto 4, 3) := by decide +kernel
theorem dX7_greater_50 : decode cX7_greater 50 = .ok (.iconst 0, 1) := by decide +kernel
theorem dX7_greater_51 : decode cX7_greater 51 = .ok (.iadd, 1) := by decide +kernel
theorem dX7_greater_52 : decode cX7_greater 52 = .ok (.istore 4, 2) := by decide +kernel
theorem dX7_greater_54 : decode cX7_greater 54 = .ok (.iinc 5 1, 3) := by decide +kernel
theorem dX7_greater_57 : decode cX7_greater 57 = .ok (.goto (-45), 3) := by decide +kernel
theorem dX7_greater_60 : decode cX7_greater 60 = .ok (.iload 4, 2) := by decide +kernel
theorem dX7_greater_62 : decode cX7_greater 62 = .ok (.ireturn, 1) := by decide +kernel
theorem dX7_area_0 : decode cX7_area 0 = .ok (.aload_n 0, 1) := by decide +kernel
theorem dX7_area_1 : decode cX7_area 1 = .ok (.invokevirtual 120, 3) := by decide +kernel
theorem dX7_area_4 : decode cX7_area 4 = .ok (.istore_n 3, 1) := by decide +kernel
theorem dX7_area_5 : decode cX7_area 5 = .ok (.iload_n 1, 1) := by decide +kernel
theorem dX7_area_6 : decode cX7_area 6 = .ok (.i2l, 1) := by decide +kernel
theorem dX7_area_7 : decode cX7_area 7 = .ok (.lconst 0, 1) := by decide +kernel
theorem dX7_area_8 : decode cX7_area 8 = .ok (.iload_n 3, 1) := by decide +kernel
theorem dX7_area_9 : decode cX7_area 9 = .ok (.iconst 1, 1) := by decide +kernel
theorem dX7_area_10 : decode cX7_area 10 = .ok (.isub, 1) := by decide +kernel
theorem dX7_area_11 : decode cX7_area 11 = .ok (.i2l, 1) := by decide +kernel
theorem dX7_area_12 : decode cX7_area 12 = .ok (.invokestatic 59, 3) := by decide +kernel
theorem dX7_area_15 : decode cX7_area 15 = .ok (.ifCond .ne 5, 3) := by decide +kernel
theorem dX7_area_18 : decode cX7_area 18 = .ok (.iconst (-1), 1) := by decide +kernel
theorem dX7_area_19 : decode cX7_area 19 = .ok (.ireturn, 1) := by decide +kernel
theorem dX7_area_20 : decode cX7_area 20 = .ok (.iload_n 2, 1) := by decide +kernel
theorem dX7_area_21 : decode cX7_area 21 = .ok (.tableswitch 90 0 5 #[39, 50, 56, 63, 73, 83], 39) := by decide +kernel
theorem dX7_area_60 : decode cX7_area 60 = .ok (.aload_n 0, 1) := by decide +kernel
theorem dX7_area_61 : decode cX7_area 61 = .ok (.aload_n 0, 1) := by decide +kernel
theorem dX7_area_62 : decode cX7_area 62 = .ok (.getfield 19, 3) := by decide +kernel
theorem dX7_area_65 : decode cX7_area 65 = .ok (.iload_n 1, 1) := by decide +kernel
theorem dX7_area_66 : decode cX7_area 66 = .ok (.iaload, 1) := by decide +kernel
theorem dX7_area_67 : decode cX7_area 67 = .ok (.invokevirtual 92, 3) := by decide +kernel
theorem dX7_area_70 : decode cX7_area 70 = .ok (.ireturn, 1) := by decide +kernel
theorem dX7_area_71 : decode cX7_area 71 = .ok (.aload_n 0, 1) := by decide +kernel
theorem dX7_area_72 : decode cX7_area 72 = .ok (.iload_n 1, 1) := by decide +kernel
theorem dX7_area_73 : decode cX7_area 73 = .ok (.invokevirtual 117, 3) := by decide +kernel
theorem dX7_area_76 : decode cX7_area 76 = .ok (.ireturn, 1) := by decide +kernel
theorem dX7_area_77 : decode cX7_area 77 = .ok (.aload_n 0, 1) := by decide +kernel
theorem dX7_area_78 : decode cX7_area 78 = .ok (.iload_n 1, 1) := by decide +kernel
theorem dX7_area_79 : decode cX7_area 79 = .ok (.iload_n 3, 1) := by decide +kernel
theorem dX7_area_80 : decode cX7_area 80 = .ok (.invokevirtual 124, 3) := by decide +kernel
theorem dX7_area_83 : decode cX7_area 83 = .ok (.ireturn, 1) := by decide +kernel
theorem dX7_area_84 : decode cX7_area 84 = .ok (.aload_n 0, 1) := by decide +kernel
theorem dX7_area_85 : decode cX7_area 85 = .ok (.getfield 19, 3) := by decide +kernel
theorem dX7_area_88 : decode cX7_area 88 = .ok (.iload_n 1, 1) := by decide +kernel
theorem dX7_area_89 : decode cX7_area 89 = .ok (.iaload, 1) := by decide +kernel
theorem dX7_area_90 : decode cX7_area 90 = .ok (.bipush 8, 2) := by decide +kernel
theorem dX7_area_92 : decode cX7_area 92 = .ok (.irem, 1) := by decide +kernel
theorem dX7_area_93 : decode cX7_area 93 = .ok (.ireturn, 1) := by decide +kernel
theorem dX7_area_94 : decode cX7_area 94 = .ok (.aload_n 0, 1) := by decide +kernel
theorem dX7_area_95 : decode cX7_area 95 = .ok (.getfield 19, 3) := by decide +kernel
theorem dX7_area_98 : decode cX7_area 98 = .ok (.iload_n 1, 1) := by decide +kernel
theorem dX7_area_99 : decode cX7_area 99 = .ok (.iaload, 1) := by decide +kernel
theorem dX7_area_100 : decode cX7_area 100 = .ok (.bipush 8, 2) := by decide +kernel
theorem dX7_area_102 : decode cX7_area 102 = .ok (.idiv, 1) := by decide +kernel
theorem dX7_area_103 : decode cX7_area 103 = .ok (.ireturn, 1) := by decide +kernel
theorem dX7_area_104 : decode cX7_area 104 = .ok (.aload_n 0, 1) := by decide +kernel
theorem dX7_area_105 : decode cX7_area 105 = .ok (.iload_n 1, 1) := by decide +kernel
theorem dX7_area_106 : decode cX7_area 106 = .ok (.iload_n 3, 1) := by decide +kernel
theorem dX7_area_107 : decode cX7_area 107 = .ok (.invokevirtual 127, 3) := by decide +kernel
theorem dX7_area_110 : decode cX7_area 110 = .ok (.ireturn, 1) := by decide +kernel
theorem dX7_area_111 : decode cX7_area 111 = .ok (.iconst (-1), 1) := by decide +kernel
theorem dX7_area_112 : decode cX7_area 112 = .ok (.ireturn, 1) := by decide +kernel
theorem dX7_rankIn_0 : decode cX7_rankIn 0 = .ok (.iconst 0, 1) := by decide +kernel
theorem dX7_rankIn_1 : decode cX7_rankIn 1 = .ok (.istore_n 2, 1) := by decide +kernel
theorem dX7_rankIn_2 : decode cX7_rankIn 2 = .ok (.iload_n 0, 1) := by decide +kernel
theorem dX7_rankIn_3 : decode cX7_rankIn 3 = .ok (.istore_n 3, 1) := by decide +kernel
theorem dX7_rankIn_4 : decode cX7_rankIn 4 = .ok (.iconst 4, 1) := by decide +kernel
theorem dX7_rankIn_5 : decode cX7_rankIn 5 = .ok (.istore 4, 2) := by decide +kernel
theorem dX7_rankIn_7 : decode cX7_rankIn 7 = .ok (.iload 4, 2) := by decide +kernel
theorem dX7_rankIn_9 : decode cX7_rankIn 9 = .ok (.ifCond .lt 29, 3) := by decide +kernel
theorem dX7_rankIn_12 : decode cX7_rankIn 12 = .ok (.iload_n 3, 1) := by decide +kernel
theorem dX7_rankIn_13 : decode cX7_rankIn 13 = .ok (.bipush 10, 2) := by decide +kernel
theorem dX7_rankIn_15 : decode cX7_rankIn 15 = .ok (.irem, 1) := by decide +kernel
theorem dX7_rankIn_16 : decode cX7_rankIn 16 = .ok (.iload_n 1, 1) := by decide +kernel
theorem dX7_rankIn_17 : decode cX7_rankIn 17 = .ok (.if_icmp .ne 8, 3) := by decide +kernel
theorem dX7_rankIn_20 : decode cX7_rankIn 20 = .ok (.iload 4, 2) := by decide +kernel
theorem dX7_rankIn_22 : decode cX7_rankIn 22 = .ok (.goto 4, 3) := by decide +kernel
theorem dX7_rankIn_25 : decode cX7_rankIn 25 = .ok (.iload_n 2, 1) := by decide +kernel
theorem dX7_rankIn_26 : decode cX7_rankIn 26 = .ok (.istore_n 2, 1) := by decide +kernel
theorem dX7_rankIn_27 : decode cX7_rankIn 27 = .ok (.iload_n 3, 1) := by decide +kernel
theorem dX7_rankIn_28 : decode cX7_rankIn 28 = .ok (.bipush 10, 2) := by decide +kernel
theorem dX7_rankIn_30 : decode cX7_rankIn 30 = .ok (.idiv, 1) := by decide +kernel
theorem dX7_rankIn_31 : decode cX7_rankIn 31 = .ok (.istore_n 3, 1) := by decide +kernel
theorem dX7_rankIn_32 : decode cX7_rankIn 32 = .ok (.iinc 4 (-1), 3) := by decide +kernel
theorem dX7_rankIn_35 : decode cX7_rankIn 35 = .ok (.goto (-28), 3) := by decide +kernel
theorem dX7_rankIn_38 : decode cX7_rankIn 38 = .ok (.iload_n 2, 1) := by decide +kernel
theorem dX7_rankIn_39 : decode cX7_rankIn 39 = .ok (.ireturn, 1) := by decide +kernel
theorem dX7_ink_0 : decode cX7_ink 0 = .ok (.iload_n 1, 1) := by decide +kernel
theorem dX7_ink_1 : decode cX7_ink 1 = .ok (.invokestatic 130, 3) := by decide +kernel
theorem dX7_ink_4 : decode cX7_ink 4 = .ok (.ifCond .ne 5, 3) := by decide +kernel
theorem dX7_ink_7 : decode cX7_ink 7 = .ok (.iconst (-1), 1) := by decide +kernel
theorem dX7_ink_8 : decode cX7_ink 8 = .ok (.ireturn, 1) := by decide +kernel
theorem dX7_ink_9 : decode cX7_ink 9 = .ok (.iload_n 2, 1) := by decide +kernel
theorem dX7_ink_10 : decode cX7_ink 10 = .ok (.tableswitch 78 0 4 #[34, 43, 53, 64, 72], 34) := by decide +kernel
theorem dX7_ink_44 : decode cX7_ink 44 = .ok (.aload_n 0, 1) := by decide +kernel
theorem dX7_ink_45 : decode cX7_ink 45 = .ok (.getfield 7, 3) := by decide +kernel
theorem dX7_ink_48 : decode cX7_ink 48 = .ok (.iconst 4, 1) := by decide +kernel
theorem dX7_ink_49 : decode cX7_ink 49 = .ok (.iload_n 1, 1) := by decide +kernel
theorem dX7_ink_50 : decode cX7_ink 50 = .ok (.iadd, 1) := by decide +kernel
theorem dX7_ink_51 : decode cX7_ink 51 = .ok (.iaload, 1) := by decide +kernel
theorem dX7_ink_52 : decode cX7_ink 52 = .ok (.ireturn, 1) := by decide +kernel
theorem dX7_ink_53 : decode cX7_ink 53 = .ok (.aload_n 0, 1) := by decide +kernel
theorem dX7_ink_54 : decode cX7_ink 54 = .ok (.getfield 7, 3) := by decide +kernel
theorem dX7_ink_57 : decode cX7_ink 57 = .ok (.bipush 9, 2) := by decide +kernel
theorem dX7_ink_59 : decode cX7_ink 59 = .ok (.iload_n 1, 1) := by decide +kernel
theorem dX7_ink_60 : decode cX7_ink 60 = .ok (.iadd, 1) := by decide +kernel
theorem dX7_ink_61 : decode cX7_ink 61 = .ok (.iaload, 1) := by decide +kernel
theorem dX7_ink_62 : decode cX7_ink 62 = .ok (.ireturn, 1) := by decide +kernel
theorem dX7_ink_63 : decode cX7_ink 63 = .ok (.aload_n 0, 1) := by decide +kernel
theorem dX7_ink_64 : decode cX7_ink 64 = .ok (.getfield 7, 3) := by decide +kernel
theorem dX7_ink_67 : decode cX7_ink 67 = .ok (.iconst 3, 1) := by decide +kernel
theorem dX7_ink_68 : decode cX7_ink 68 = .ok (.iaload, 1) := by decide +kernel
theorem dX7_ink_69 : decode cX7_ink 69 = .ok (.iload_n 1, 1) := by decide +kernel
theorem dX7_ink_70 : decode cX7_ink 70 = .ok (.invokestatic 133, 3) := by decide +kernel
theorem dX7_ink_73 : decode cX7_ink 73 = .ok (.ireturn, 1) := by decide +kernel
theorem dX7_ink_74 : decode cX7_ink 74 = .ok (.aload_n 0, 1) := by decide +kernel
theorem dX7_ink_75 : decode cX7_ink 75 = .ok (.iconst 1, 1) := by decide +kernel
theorem dX7_ink_76 : decode cX7_ink 76 = .ok (.iload_n 1, 1) := by decide +kernel
theorem dX7_ink_77 : decode cX7_ink 77 = .ok (.ishl, 1) := by decide +kernel
theorem dX7_ink_78 : decode cX7_ink 78 = .ok (.invokevirtual 136, 3) := by decide +kernel
theorem dX7_ink_81 : decode cX7_ink 81 = .ok (.ireturn, 1) := by decide +kernel
theorem dX7_ink_82 : decode cX7_ink 82 = .ok (.aload_n 0, 1) := by decide +kernel
theorem dX7_ink_83 : decode cX7_ink 83 = .ok (.iload_n 1, 1) := by decide +kernel
theorem dX7_ink_84 : decode cX7_ink 84 = .ok (.invokevirtual 139, 3) := by decide +kernel
theorem dX7_ink_87 : decode cX7_ink 87 = .ok (.ireturn, 1) := by decide +kernel
theorem dX7_ink_88 : decode cX7_ink 88 = .ok (.iconst (-1), 1) := by decide +kernel
theorem dX7_ink_89 : decode cX7_ink 89 = .ok (.ireturn, 1) := by decide +kernel
theorem dX7_set_0 : decode cX7_set 0 = .ok (.iload_n 1, 1) := by decide +kernel
theorem dX7_set_1 : decode cX7_set 1 = .ok (.i2l, 1) := by decide +kernel
theorem dX7_set_2 : decode cX7_set 2 = .ok (.invokestatic 142, 3) := by decide +kernel
theorem dX7_set_5 : decode cX7_set 5 = .ok (.ifCond .ne 5, 3) := by decide +kernel
theorem dX7_set_8 : decode cX7_set 8 = .ok (.iconst (-1), 1) := by decide +kernel
theorem dX7_set_9 : decode cX7_set 9 = .ok (.ireturn, 1) := by decide +kernel
theorem dX7_set_10 : decode cX7_set 10 = .ok (.iload_n 2, 1) := by decide +kernel
theorem dX7_set_11 : decode cX7_set 11 = .ok (.tableswitch 53 0 3 #[29, 35, 41, 47], 29) := by decide +kernel
theorem dX7_set_40 : decode cX7_set 40 = .ok (.aload_n 0, 1) := by decide +kernel
theorem dX7_set_41 : decode cX7_set 41 = .ok (.iload_n 1, 1) := by decide +kernel
theorem dX7_set_42 : decode cX7_set 42 = .ok (.invokevirtual 84, 3) := by decide +kernel
theorem dX7_set_45 : decode cX7_set 45 = .ok (.ireturn, 1) := by decide +kernel
theorem dX7_set_46 : decode cX7_set 46 = .ok (.aload_n 0, 1) := by decide +kernel
theorem dX7_set_47 : decode cX7_set 47 = .ok (.iload_n 1, 1) := by decide +kernel
theorem dX7_set_48 : decode cX7_set 48 = .ok (.invokevirtual 136, 3) := by decide +kernel
theorem dX7_set_51 : decode cX7_set 51 = .ok (.ireturn, 1) := by decide +kernel
theorem dX7_set_52 : decode cX7_set 52 = .ok (.aload_n 0, 1) := by decide +kernel
theorem dX7_set_53 : decode cX7_set 53 = .ok (.iload_n 1, 1) := by decide +kernel
theorem dX7_set_54 : decode cX7_set 54 = .ok (.invokevirtual 146, 3) := by decide +kernel
theorem dX7_set_57 : decode cX7_set 57 = .ok (.ireturn, 1) := by decide +kernel
theorem dX7_set_58 : decode cX7_set 58 = .ok (.aload_n 0, 1) := by decide +kernel
theorem dX7_set_59 : decode cX7_set 59 = .ok (.iload_n 1, 1) := by decide +kernel
theorem dX7_set_60 : decode cX7_set 60 = .ok (.invokevirtual 149, 3) := by decide +kernel
theorem dX7_set_63 : decode cX7_set 63 = .ok (.ireturn, 1) := by decide +kernel
theorem dX7_set_64 : decode cX7_set 64 = .ok (.iconst (-1), 1) := by decide +kernel
theorem dX7_set_65 : decode cX7_set 65 = .ok (.ireturn, 1) := by decide +kernel
theorem dX7_place_0 : decode cX7_place 0 = .ok (.aload_n 0, 1) := by decide +kernel
theorem dX7_place_1 : decode cX7_place 1 = .ok (.iload_n 1, 1) := by decide +kernel
theorem dX7_place_2 : decode cX7_place 2 = .ok (.iload_n 2, 1) := by decide +kernel
theorem dX7_place_3 : decode cX7_place 3 = .ok (.invokevirtual 65, 3) := by decide +kernel
theorem dX7_place_6 : decode cX7_place 6 = .ok (.ifCond .eq 15, 3) := by decide +kernel
theorem dX7_place_9 : decode cX7_place 9 = .ok (.iload_n 3, 1) := by decide +kernel
theorem dX7_place_10 : decode cX7_place 10 = .ok (.i2l, 1) := by decide +kernel
theorem dX7_place_11 : decode cX7_place 11 = .ok (.lconst 0, 1) := by decide +kernel
theorem dX7_place_12 : decode cX7_place 12 = .ok (.ldc2_w 152, 3) := by decide +kernel
theorem dX7_place_15 : decode cX7_place 15 = .ok (.invokestatic 59, 3) := by decide +kernel
theorem dX7_place_18 : decode cX7_place 18 = .ok (.ifCond .ne 5, 3) := by decide +kernel
theorem dX7_place_21 : decode cX7_place 21 = .ok (.iconst (-1), 1) := by decide +kernel
theorem dX7_place_22 : decode cX7_place 22 = .ok (.ireturn, 1) := by decide +kernel
theorem dX7_place_23 : decode cX7_place 23 = .ok (.bipush 8, 2) := by decide +kernel
theorem dX7_place_25 : decode cX7_place 25 = .ok (.iload_n 2, 1) := by decide +kernel
theorem dX7_place_26 : decode cX7_place 26 = .ok (.imul, 1) := by decide +kernel
theorem dX7_place_27 : decode cX7_place 27 = .ok (.iload_n 1, 1) := by decide +kernel
theorem dX7_place_28 : decode cX7_place 28 = .ok (.iadd, 1) := by decide +kernel
theorem dX7_place_29 : decode cX7_place 29 = .ok (.istore 4, 2) := by decide +kernel
theorem dX7_place_31 : decode cX7_place 31 = .ok (.iload_n 3, 1) := by decide +kernel
theorem dX7_place_32 : decode cX7_place 32 = .ok (.iconst 2, 1) := by decide +kernel
theorem dX7_place_33 : decode cX7_place 33 = .ok (.if_icmp .ge 27, 3) := by decide +kernel
theorem dX7_place_36 : decode cX7_place 36 = .ok (.iload_n 3, 1) := by decide +kernel
theorem dX7_place_37 : decode cX7_place 37 = .ok (.ifCond .ne 12, 3) := by decide +kernel
theorem dX7_place_40 : decode cX7_place 40 = .ok (.aload_n 0, 1) := by decide +kernel
theorem dX7_place_41 : decode cX7_place 41 = .ok (.iload 4, 2) := by decide +kernel
theorem dX7_place_43 : decode cX7_place 43 = .ok (.invokevirtual 92, 3) := by decide +kernel
theorem dX7_place_46 : decode cX7_place 46 = .ok (.goto 13, 3) := by decide +kernel
theorem dX7_place_49 : decode cX7_place 49 = .ok (.aload_n 0, 1) := by decide +kernel
theorem dX7_place_50 : decode cX7_place 50 = .ok (.aload_n 0, 1) := by decide +kernel
theorem dX7_place_51 : decode cX7_place 51 = .ok (.iload 4, 2) := by decide +kernel
theorem dX7_place_53 : decode cX7_place 53 = .ok (.invokevirtual 92, 3) := by decide +kernel
theorem dX7_place_56 : decode cX7_place 56 = .ok (.invokevirtual 84, 3) := by decide +kernel
theorem dX7_place_59 : decode cX7_place 59 = .ok (.ireturn, 1) := by decide +kernel
theorem dX7_place_60 : decode cX7_place 60 = .ok (.aload_n 0, 1) := by decide +kernel
theorem dX7_place_61 : decode cX7_place 61 = .ok (.invokevirtual 120, 3) := by decide +kernel
theorem dX7_place_64 : decode cX7_place 64 = .ok (.pop, 1) := by decide +kernel
theorem dX7_place_65 : decode cX7_place 65 = .ok (.aload_n 0, 1) := by decide +kernel
theorem dX7_place_66 : decode cX7_place 66 = .ok (.iload 4, 2) := by decide +kernel
theorem dX7_place_68 : decode cX7_place 68 = .ok (.invokevirtual 154, 3) := by decide +kernel
theorem dX7_place_71 : decode cX7_place 71 = .ok (.ireturn, 1) := by decide +kernel
theorem dX7_printed_0 : decode cX7_printed 0 = .ok (.aload_n 0, 1) := by decide +kernel
theorem dX7_printed_1 : decode cX7_printed 1 = .ok (.iload 4, 2) := by decide +kernel
theorem dX7_printed_3 : decode cX7_printed 3 = .ok (.invokevirtual 92, 3) := by decide +kernel
theorem dX7_printed_6 : decode cX7_printed 6 = .ok (.iconst 1, 1) := by decide +kernel
theorem dX7_printed_7 : decode cX7_printed 7 = .ok (.iload_n 1, 1) := by decide +kernel
theorem dX7_printed_8 : decode cX7_printed 8 = .ok (.ishl, 1) := by decide +kernel
theorem dX7_printed_9 : decode cX7_printed 9 = .ok (.iconst (-1), 1) := by decide +kernel
theorem dX7_printed_10 : decode cX7_printed 10 = .ok (.ixor, 1) := by decide +kernel
theorem dX7_printed_11 : decode cX7_printed 11 = .ok (.iand, 1) := by decide +kernel
theorem dX7_printed_12 : decode cX7_printed 12 = .ok (.istore 5, 2) := by decide +kernel
theorem dX7_printed_14 : decode cX7_printed 14 = .ok (.iload 4, 2) := by decide +kernel
theorem dX7_printed_16 : decode cX7_printed 16 = .ok (.bipush 8, 2) := by decide +kernel
theorem dX7_printed_18 : decode cX7_printed 18 = .ok (.irem, 1) := by decide +kernel
theorem dX7_printed_19 : decode cX7_printed 19 = .ok (.iload_n 2, 1) := by decide +kernel
theorem dX7_printed_20 : decode cX7_printed 20 = .ok (.isub, 1) := by decide +kernel
theorem dX7_printed_21 : decode cX7_printed 21 = .ok (.istore 6, 2) := by decide +kernel
theorem dX7_printed_23 : decode cX7_printed 23 = .ok (.iload 4, 2) := by decide +kernel
theorem dX7_printed_25 : decode cX7_printed 25 = .ok (.bipush 8, 2) := by decide +kernel
theorem dX7_printed_27 : decode cX7_printed 27 = .ok (.idiv, 1) := by decide +kernel
theorem dX7_printed_28 : decode cX7_printed 28 = .ok (.iload_n 3, 1) := by decide +kernel
theorem dX7_printed_29 : decode cX7_printed 29 = .ok (.isub, 1) := by decide +kernel
theorem dX7_printed_30 : decode cX7_printed 30 = .ok (.istore 7, 2) := by decide +kernel
theorem dX7_printed_32 : decode cX7_printed 32 = .ok (.aload_n 0, 1) := by decide +kernel
theorem dX7_printed_33 : decode cX7_printed 33 = .ok (.iload 6, 2) := by decide +kernel
theorem dX7_printed_35 : decode cX7_printed 35 = .ok (.iload 7, 2) := by decide +kernel
theorem dX7_printed_37 : decode cX7_printed 37 = .ok (.invokevirtual 65, 3) := by decide +kernel
theorem dX7_printed_40 : decode cX7_printed 40 = .ok (.ifCond .eq 31, 3) := by decide +kernel
theorem dX7_printed_43 : decode cX7_printed 43 = .ok (.aload_n 0, 1) := by decide +kernel
theorem dX7_printed_44 : decode cX7_printed 44 = .ok (.bipush 8, 2) := by decide +kernel
theorem dX7_printed_46 : decode cX7_printed 46 = .ok (.iload 7, 2) := by decide +kernel
theorem dX7_printed_48 : decode cX7_printed 48 = .ok (.imul, 1) := by decide +kernel
theorem dX7_printed_49 : decode cX7_printed 49 = .ok (.iload 6, 2) := by decide +kernel
theorem dX7_printed_51 : decode cX7_printed 51 = .ok (.iadd, 1) := by decide +kernel
theorem dX7_printed_52 : decode cX7_printed 52 = .ok (.invokevirtual 92, 3) := by decide +kernel
theorem dX7_printed_55 : decode cX7_printed 55 = .ok (.iload_n 1, 1) := by decide +kernel
theorem dX7_printed_56 : decode cX7_printed 56 = .ok (.invokestatic 69, 3) := by decide +kernel
theorem dX7_printed_59 : decode cX7_printed 59 = .ok (.ifCond .eq 12, 3) := by decide +kernel
theorem dX7_printed_62 : decode cX7_printed 62 = .ok (.iload 5, 2) := by decide +kernel
theorem dX7_printed_64 : decode cX7_printed 64 = .ok (.iconst 1, 1) := by decide +kernel
theorem dX7_printed_65 : decode cX7_printed 65 = .ok (.iload_n 1, 1) := by decide +kernel
theorem dX7_printed_66 : decode cX7_printed 66 = .ok (.ishl, 1) := by decide +kernel
theorem dX7_printed_67 : decode cX7_printed 67 = .ok (.ior, 1) := by decide +kernel
theorem dX7_printed_68 : decode cX7_printed 68 = .ok (.goto 5, 3) := by decide +kernel
theorem dX7_printed_71 : decode cX7_printed 71 = .ok (.iload 5, 2) := by decide +kernel
theorem dX7_printed_73 : decode cX7_printed 73 = .ok (.ireturn, 1) := by decide +kernel
theorem dX7_gapsBy_0 : decode cX7_gapsBy 0 = .ok (.iconst 0, 1) := by decide +kernel
theorem dX7_gapsBy_1 : decode cX7_gapsBy 1 = .ok (.istore 4, 2) := by decide +kernel
theorem dX7_gapsBy_3 : decode cX7_gapsBy 3 = .ok (.iconst 0, 1) := by decide +kernel
theorem dX7_gapsBy_4 : decode cX7_gapsBy 4 = .ok (.istore 5, 2) := by decide +kernel
theorem dX7_gapsBy_6 : decode cX7_gapsBy 6 = .ok (.iload 5, 2) := by decide +kernel
theorem dX7_gapsBy_8 : decode cX7_gapsBy 8 = .ok (.bipush 48, 2) := by decide +kernel
theorem dX7_gapsBy_10 : decode cX7_gapsBy 10 = .ok (.if_icmp .ge 49, 3) := by decide +kernel
theorem dX7_gapsBy_13 : decode cX7_gapsBy 13 = .ok (.iload 4, 2) := by decide +kernel
theorem dX7_gapsBy_15 : decode cX7_gapsBy 15 = .ok (.aload_n 0, 1) := by decide +kernel
theorem dX7_gapsBy_16 : decode cX7_gapsBy 16 = .ok (.iload 5, 2) := by decide +kernel
theorem dX7_gapsBy_18 : decode cX7_gapsBy 18 = .ok (.invokevirtual 88, 3) := by decide +kernel
theorem dX7_gapsBy_21 : decode cX7_gapsBy 21 = .ok (.ifCond .eq 28, 3) := by decide +kernel
theorem dX7_gapsBy_24 : decode cX7_gapsBy 24 = .ok (.aload_n 0, 1) := by decide +kernel
theorem dX7_gapsBy_25 : decode cX7_gapsBy 25 = .ok (.iload 5, 2) := by decide +kernel
theorem dX7_gapsBy_27 : decode cX7_gapsBy 27 = .ok (.invokevirtual 92, 3) := by decide +kernel
theorem dX7_gapsBy_30 : decode cX7_gapsBy 30 = .ok (.ifCond .eq 19, 3) := by decide +kernel
theorem dX7_gapsBy_33 : decode cX7_gapsBy 33 = .ok (.aload_n 0, 1) := by decide +kernel
theorem dX7_gapsBy_34 : decode cX7_gapsBy 34 = .ok (.iload_n 1, 1) := by decide +kernel
theorem dX7_gapsBy_35 : decode cX7_gapsBy 35 = .ok (.iload_n 2, 1) := by decide +kernel
theorem dX7_gapsBy_36 : decode cX7_gapsBy 36 = .ok (.iload_n 3, 1) := by decide +kernel
theorem dX7_gapsBy_37 : decode cX7_gapsBy 37 = .ok (.iload 5, 2) := by decide +kernel
theorem dX7_gapsBy_39 : decode cX7_gapsBy 39 = .ok (.invokevirtual 157, 3) := by decide +kernel
theorem dX7_gapsBy_42 : decode cX7_gapsBy 42 = .ok (.ifCond .ne 7, 3) := by decide +kernel
theorem dX7_gapsBy_45 : decode cX7_gapsBy 45 = .ok (.iconst 1, 1) := by decide +kernel
theorem dX7_gapsBy_46 : decode cX7_gapsBy 46 = .ok (.goto 4, 3) := by decide +kernel
theorem dX7_gapsBy_49 : decode cX7_gapsBy 49 = .ok (.iconst 0, 1) := by decide +kernel
theorem dX7_gapsBy_50 : decode cX7_gapsBy 50 = .ok (.iadd, 1) := by decide +kernel
theorem dX7_gapsBy_51 : decode cX7_gapsBy 51 = .ok (.istore 4, 2) := by decide +kernel
theorem dX7_gapsBy_53 : decode cX7_gapsBy 53 = .ok (.iinc 5 1, 3) := by decide +kernel
theorem dX7_gapsBy_56 : decode cX7_gapsBy 56 = .ok (.goto (-50), 3) := by decide +kernel
theorem dX7_gapsBy_59 : decode cX7_gapsBy 59 = .ok (.iload 4, 2) := by decide +kernel
theorem dX7_gapsBy_61 : decode cX7_gapsBy 61 = .ok (.ireturn, 1) := by decide +kernel
theorem dX7_isAside_0 : decode cX7_isAside 0 = .ok (.iload_n 0, 1) := by decide +kernel
theorem dX7_isAside_1 : decode cX7_isAside 1 = .ok (.invokestatic 130, 3) := by decide +kernel
theorem dX7_isAside_4 : decode cX7_isAside 4 = .ok (.ifCond .eq 31, 3) := by decide +kernel
theorem dX7_isAside_7 : decode cX7_isAside 7 = .ok (.iload_n 1, 1) := by decide +kernel
theorem dX7_isAside_8 : decode cX7_isAside 8 = .ok (.i2l, 1) := by decide +kernel
theorem dX7_isAside_9 : decode cX7_isAside 9 = .ok (.ldc2_w 160, 3) := by decide +kernel
theorem dX7_isAside_12 : decode cX7_isAside 12 = .ok (.lconst 1, 1) := by decide +kernel
theorem dX7_isAside_13 : decode cX7_isAside 13 = .ok (.invokestatic 59, 3) := by decide +kernel
theorem dX7_isAside_16 : decode cX7_isAside 16 = .ok (.ifCond .eq 19, 3) := by decide +kernel
theorem dX7_isAside_19 : decode cX7_isAside 19 = .ok (.iload_n 2, 1) := by decide +kernel
theorem dX7_isAside_20 : decode cX7_isAside 20 = .ok (.i2l, 1) := by decide +kernel
theorem dX7_isAside_21 : decode cX7_isAside 21 = .ok (.ldc2_w 160, 3) := by decide +kernel
theorem dX7_isAside_24 : decode cX7_isAside 24 = .ok (.lconst 1, 1) := by decide +kernel
theorem dX7_isAside_25 : decode cX7_isAside 25 = .ok (.invokestatic 59, 3) := by decide +kernel
theorem dX7_isAside_28 : decode cX7_isAside 28 = .ok (.ifCond .eq 7, 3) := by decide +kernel
theorem dX7_isAside_31 : decode cX7_isAside 31 = .ok (.iconst 1, 1) := by decide +kernel
theorem dX7_isAside_32 : decode cX7_isAside 32 = .ok (.goto 4, 3) := by decide +kernel
theorem dX7_isAside_35 : decode cX7_isAside 35 = .ok (.iconst 0, 1) := by decide +kernel
theorem dX7_isAside_36 : decode cX7_isAside 36 = .ok (.ireturn, 1) := by decide +kernel
theorem dX7_gaps_0 : decode cX7_gaps 0 = .ok (.iload_n 1, 1) := by decide +kernel
theorem dX7_gaps_1 : decode cX7_gaps 1 = .ok (.iload_n 2, 1) := by decide +kernel
theorem dX7_gaps_2 : decode cX7_gaps 2 = .ok (.iload_n 3, 1) := by decide +kernel
theorem dX7_gaps_3 : decode cX7_gaps 3 = .ok (.invokestatic 162, 3) := by decide +kernel
theorem dX7_gaps_6 : decode cX7_gaps 6 = .ok (.ifCond .eq 13, 3) := by decide +kernel
theorem dX7_gaps_9 : decode cX7_gaps 9 = .ok (.aload_n 0, 1) := by decide +kernel
theorem dX7_gaps_10 : decode cX7_gaps 10 = .ok (.iload_n 1, 1) := by decide +kernel
theorem dX7_gaps_11 : decode cX7_gaps 11 = .ok (.iload_n 2, 1) := by decide +kernel
theorem dX7_gaps_12 : decode cX7_gaps 12 = .ok (.iload_n 3, 1) := by decide +kernel
theorem dX7_gaps_13 : decode cX7_gaps 13 = .ok (.invokevirtual 166, 3) := by decide +kernel
theorem dX7_gaps_16 : decode cX7_gaps 16 = .ok (.goto 4, 3) := by decide +kernel
theorem dX7_gaps_19 : decode cX7_gaps 19 = .ok (.iconst (-1), 1) := by decide +kernel
theorem dX7_gaps_20 : decode cX7_gaps 20 = .ok (.ireturn, 1) := by decide +kernel
theorem dX7_aside_0 : decode cX7_aside 0 = .ok (.iload_n 1, 1) := by decide +kernel
theorem dX7_aside_1 : decode cX7_aside 1 = .ok (.iload_n 2, 1) := by decide +kernel
theorem dX7_aside_2 : decode cX7_aside 2 = .ok (.iload_n 3, 1) := by decide +kernel
theorem dX7_aside_3 : decode cX7_aside 3 = .ok (.invokestatic 162, 3) := by decide +kernel
theorem dX7_aside_6 : decode cX7_aside 6 = .ok (.ifCond .eq 32, 3) := by decide +kernel
theorem dX7_aside_9 : decode cX7_aside 9 = .ok (.aload_n 0, 1) := by decide +kernel
theorem dX7_aside_10 : decode cX7_aside 10 = .ok (.iload 4, 2) := by decide +kernel
theorem dX7_aside_12 : decode cX7_aside 12 = .ok (.iload 5, 2) := by decide +kernel
theorem dX7_aside_14 : decode cX7_aside 14 = .ok (.invokevirtual 65, 3) := by decide +kernel
theorem dX7_aside_17 : decode cX7_aside 17 = .ok (.ifCond .eq 21, 3) := by decide +kernel
theorem dX7_aside_20 : decode cX7_aside 20 = .ok (.aload_n 0, 1) := by decide +kernel
theorem dX7_aside_21 : decode cX7_aside 21 = .ok (.iload_n 1, 1) := by decide +kernel
theorem dX7_aside_22 : decode cX7_aside 22 = .ok (.iload_n 2, 1) := by decide +kernel
theorem dX7_aside_23 : decode cX7_aside 23 = .ok (.iload_n 3, 1) := by decide +kernel
theorem dX7_aside_24 : decode cX7_aside 24 = .ok (.bipush 8, 2) := by decide +kernel
theorem dX7_aside_26 : decode cX7_aside 26 = .ok (.iload 5, 2) := by decide +kernel
theorem dX7_aside_28 : decode cX7_aside 28 = .ok (.imul, 1) := by decide +kernel
theorem dX7_aside_29 : decode cX7_aside 29 = .ok (.iload 4, 2) := by decide +kernel
theorem dX7_aside_31 : decode cX7_aside 31 = .ok (.iadd, 1) := by decide +kernel
theorem dX7_aside_32 : decode cX7_aside 32 = .ok (.invokevirtual 157, 3) := by decide +kernel
theorem dX7_aside_35 : decode cX7_aside 35 = .ok (.goto 4, 3) := by decide +kernel
theorem dX7_aside_38 : decode cX7_aside 38 = .ok (.iconst (-1), 1) := by decide +kernel
theorem dX7_aside_39 : decode cX7_aside 39 = .ok (.ireturn, 1) := by decide +kernel
theorem dX7_worst_0 : decode cX7_worst 0 = .ok (.iconst 1, 1) := by decide +kernel
theorem dX7_worst_1 : decode cX7_worst 1 = .ok (.istore_n 2, 1) := by decide +kernel
theorem dX7_worst_2 : decode cX7_worst 2 = .ok (.bipush (-4), 2) := by decide +kernel
theorem dX7_worst_4 : decode cX7_worst 4 = .ok (.istore_n 3, 1) := by decide +kernel
theorem dX7_worst_5 : decode cX7_worst 5 = .ok (.bipush 44, 2) := by decide +kernel
theorem dX7_worst_7 : decode cX7_worst 7 = .ok (.istore 4, 2) := by decide +kernel
theorem dX7_worst_9 : decode cX7_worst 9 = .ok (.iload 4, 2) := by decide +kernel
theorem dX7_worst_11 : decode cX7_worst 11 = .ok (.ifCond .lt 67, 3) := by decide +kernel
theorem dX7_worst_14 : decode cX7_worst 14 = .ok (.aload_n 0, 1) := by decide +kernel
theorem dX7_worst_15 : decode cX7_worst 15 = .ok (.iload 4, 2) := by decide +kernel
theorem dX7_worst_17 : decode cX7_worst 17 = .ok (.bipush 9, 2) := by decide +kernel
theorem dX7_worst_19 : decode cX7_worst 19 = .ok (.idiv, 1) := by decide +kernel
theorem dX7_worst_20 : decode cX7_worst 20 = .ok (.iload 4, 2) := by decide +kernel
theorem dX7_worst_22 : decode cX7_worst 22 = .ok (.iconst 3, 1) := by decide +kernel
theorem dX7_worst_23 : decode cX7_worst 23 = .ok (.irem, 1) := by decide +kernel
theorem dX7_worst_24 : decode cX7_worst 24 = .ok (.iconst 1, 1) := by decide +kernel
theorem dX7_worst_25 : decode cX7_worst 25 = .ok (.isub, 1) := by decide +kernel
theorem dX7_worst_26 : decode cX7_worst 26 = .ok (.iload 4, 2) := by decide +kernel
theorem dX7_worst_28 : decode cX7_worst 28 = .ok (.iconst 3, 1) := by decide +kernel
theorem dX7_worst_29 : decode cX7_worst 29 = .ok (.idiv, 1) := by decide +kernel
theorem dX7_worst_30 : decode cX7_worst 30 = .ok (.iconst 3, 1) := by decide +kernel
theorem dX7_worst_31 : decode cX7_worst 31 = .ok (.irem, 1) := by decide +kernel
theorem dX7_worst_32 : decode cX7_worst 32 = .ok (.iconst 1, 1) := by decide +kernel
theorem dX7_worst_33 : decode cX7_worst 33 = .ok (.isub, 1) := by decide +kernel
theorem dX7_worst_34 : decode cX7_worst 34 = .ok (.invokevirtual 166, 3) := by decide +kernel
theorem dX7_worst_37 : decode cX7_worst 37 = .ok (.istore 5, 2) := by decide +kernel
theorem dX7_worst_39 : decode cX7_worst 39 = .ok (.iload 5, 2) := by decide +kernel
theorem dX7_worst_41 : decode cX7_worst 41 = .ok (.iload_n 2, 1) := by decide +kernel
theorem dX7_worst_42 : decode cX7_worst 42 = .ok (.if_icmp .lt 30, 3) := by decide +kernel
theorem dX7_worst_45 : decode cX7_worst 45 = .ok (.iload 5, 2) := by decide +kernel
theorem dX7_worst_47 : decode cX7_worst 47 = .ok (.istore_n 2, 1) := by decide +kernel
theorem dX7_worst_48 : decode cX7_worst 48 = .ok (.bipush 100, 2) := by decide +kernel
theorem dX7_worst_50 : decode cX7_worst 50 = .ok (.iload 4, 2) := by decide +kernel
theorem dX7_worst_52 : decode cX7_worst 52 = .ok (.bipush 9, 2) := by decide +kernel
theorem dX7_worst_54 : decode cX7_worst 54 = .ok (.idiv, 1) := by decide +kernel
theorem dX7_worst_55 : decode cX7_worst 55 = .ok (.imul, 1) := by decide +kernel
theorem dX7_worst_56 : decode cX7_worst 56 = .ok (.bipush 10, 2) := by decide +kernel
theorem dX7_worst_58 : decode cX7_worst 58 = .ok (.iload 4, 2) := by decide +kernel
theorem dX7_worst_60 : decode cX7_worst 60 = .ok (.iconst 3, 1) := by decide +kernel
theorem dX7_worst_61 : decode cX7_worst 61 = .ok (.idiv, 1) := by decide +kernel
theorem dX7_worst_62 : decode cX7_worst 62 = .ok (.iconst 3, 1) := by decide +kernel
theorem dX7_worst_63 : decode cX7_worst 63 = .ok (.irem, 1) := by decide +kernel
theorem dX7_worst_64 : decode cX7_worst 64 = .ok (.imul, 1) := by decide +kernel
theorem dX7_worst_65 : decode cX7_worst 65 = .ok (.iadd, 1) := by decide +kernel
theorem dX7_worst_66 : decode cX7_worst 66 = .ok (.iload 4, 2) := by decide +kernel
theorem dX7_worst_68 : decode cX7_worst 68 = .ok (.iconst 3, 1) := by decide +kernel
theorem dX7_worst_69 : decode cX7_worst 69 = .ok (.irem, 1) := by decide +kernel
theorem dX7_worst_70 : decode cX7_worst 70 = .ok (.iadd, 1) := by decide +kernel
theorem dX7_worst_71 : decode cX7_worst 71 = .ok (.istore_n 3, 1) := by decide +kernel
theorem dX7_worst_72 : decode cX7_worst 72 = .ok (.iinc 4 (-1), 3) := by decide +kernel
theorem dX7_worst_75 : decode cX7_worst 75 = .ok (.goto (-66), 3) := by decide +kernel
theorem dX7_worst_78 : decode cX7_worst 78 = .ok (.iload_n 1, 1) := by decide +kernel
theorem dX7_worst_79 : decode cX7_worst 79 = .ok (.ifCond .ne 7, 3) := by decide +kernel
theorem dX7_worst_82 : decode cX7_worst 82 = .ok (.iload_n 3, 1) := by decide +kernel
theorem dX7_worst_83 : decode cX7_worst 83 = .ok (.goto 14, 3) := by decide +kernel
theorem dX7_worst_86 : decode cX7_worst 86 = .ok (.iload_n 3, 1) := by decide +kernel
theorem dX7_worst_87 : decode cX7_worst 87 = .ok (.bipush (-4), 2) := by decide +kernel
theorem dX7_worst_89 : decode cX7_worst 89 = .ok (.if_icmp .ne 7, 3) := by decide +kernel
theorem dX7_worst_92 : decode cX7_worst 92 = .ok (.iconst 0, 1) := by decide +kernel
theorem dX7_worst_93 : decode cX7_worst 93 = .ok (.goto 4, 3) := by decide +kernel
theorem dX7_worst_96 : decode cX7_worst 96 = .ok (.iload_n 2, 1) := by decide +kernel
theorem dX7_worst_97 : decode cX7_worst 97 = .ok (.ireturn, 1) := by decide +kernel
theorem dX7_isOrder_0 : decode cX7_isOrder 0 = .ok (.iload_n 0, 1) := by decide +kernel
theorem dX7_isOrder_1 : decode cX7_isOrder 1 = .ok (.i2l, 1) := by decide +kernel
theorem dX7_isOrder_2 : decode cX7_isOrder 2 = .ok (.lconst 0, 1) := by decide +kernel
theorem dX7_isOrder_3 : decode cX7_isOrder 3 = .ok (.ldc2_w 169, 3) := by decide +kernel
theorem dX7_isOrder_6 : decode cX7_isOrder 6 = .ok (.invokestatic 59, 3) := by decide +kernel
theorem dX7_isOrder_9 : decode cX7_isOrder 9 = .ok (.ifCond .ne 5, 3) := by decide +kernel
theorem dX7_isOrder_12 : decode cX7_isOrder 12 = .ok (.iconst 0, 1) := by decide +kernel
theorem dX7_isOrder_13 : decode cX7_isOrder 13 = .ok (.ireturn, 1) := by decide +kernel
theorem dX7_isOrder_14 : decode cX7_isOrder 14 = .ok (.iconst 0, 1) := by decide +kernel
theorem dX7_isOrder_15 : decode cX7_isOrder 15 = .ok (.istore_n 1, 1) := by decide +kernel
theorem dX7_isOrder_16 : decode cX7_isOrder 16 = .ok (.iload_n 0, 1) := by decide +kernel
theorem dX7_isOrder_17 : decode cX7_isOrder 17 = .ok (.istore_n 2, 1) := by decide +kernel
theorem dX7_isOrder_18 : decode cX7_isOrder 18 = .ok (.iconst 0, 1) := by decide +kernel
theorem dX7_isOrder_19 : decode cX7_isOrder 19 = .ok (.istore_n 3, 1) := by decide +kernel
theorem dX7_isOrder_20 : decode cX7_isOrder 20 = .ok (.iload_n 3, 1) := by decide +kernel
theorem dX7_isOrder_21 : decode cX7_isOrder 21 = .ok (.iconst 5, 1) := by decide +kernel
theorem dX7_isOrder_22 : decode cX7_isOrder 22 = .ok (.if_icmp .ge 23, 3) := by decide +kernel
theorem dX7_isOrder_25 : decode cX7_isOrder 25 = .ok (.iload_n 1, 1) := by decide +kernel
theorem dX7_isOrder_26 : decode cX7_isOrder 26 = .ok (.iconst 1, 1) := by decide +kernel
theorem dX7_isOrder_27 : decode cX7_isOrder 27 = .ok (.iload_n 2, 1) := by decide +kernel
theorem dX7_isOrder_28 : decode cX7_isOrder 28 = .ok (.bipush 10, 2) := by decide +kernel
theorem dX7_isOrder_30 : decode cX7_isOrder 30 = .ok (.irem, 1) := by decide +kernel
theorem dX7_isOrder_31 : decode cX7_isOrder 31 = .ok (.ishl, 1) := by decide +kernel
theorem dX7_isOrder_32 : decode cX7_isOrder 32 = .ok (.ior, 1) := by decide +kernel
theorem dX7_isOrder_33 : decode cX7_isOrder 33 = .ok (.istore_n 1, 1) := by decide +kernel
theorem dX7_isOrder_34 : decode cX7_isOrder 34 = .ok (.iload_n 2, 1) := by decide +kernel
theorem dX7_isOrder_35 : decode cX7_isOrder 35 = .ok (.bipush 10, 2) := by decide +kernel
theorem dX7_isOrder_37 : decode cX7_isOrder 37 = .ok (.idiv, 1) := by decide +kernel
theorem dX7_isOrder_38 : decode cX7_isOrder 38 = .ok (.istore_n 2, 1) := by decide +kernel
theorem dX7_isOrder_39 : decode cX7_isOrder 39 = .ok (.iinc 3 1, 3) := by decide +kernel
theorem dX7_isOrder_42 : decode cX7_isOrder 42 = .ok (.goto (-22), 3) := by decide +kernel
theorem dX7_isOrder_45 : decode cX7_isOrder 45 = .ok (.iload_n 1, 1) := by decide +kernel
theorem dX7_isOrder_46 : decode cX7_isOrder 46 = .ok (.bipush 31, 2) := by decide +kernel
theorem dX7_isOrder_48 : decode cX7_isOrder 48 = .ok (.if_icmp .ne 7, 3) := by decide +kernel
theorem dX7_isOrder_51 : decode cX7_isOrder 51 = .ok (.iconst 1, 1) := by decide +kernel
theorem dX7_isOrder_52 : decode cX7_isOrder 52 = .ok (.goto 4, 3) := by decide +kernel
theorem dX7_isOrder_55 : decode cX7_isOrder 55 = .ok (.iconst 0, 1) := by decide +kernel
theorem dX7_isOrder_56 : decode cX7_isOrder 56 = .ok (.ireturn, 1) := by decide +kernel
theorem dX7_leaves_0 : decode cX7_leaves 0 = .ok (.iconst 1, 1) := by decide +kernel
theorem dX7_leaves_1 : decode cX7_leaves 1 = .ok (.istore_n 2, 1) := by decide +kernel
theorem dX7_leaves_2 : decode cX7_leaves 2 = .ok (.iconst 0, 1) := by decide +kernel
theorem dX7_leaves_3 : decode cX7_leaves 3 = .ok (.istore_n 3, 1) := by decide +kernel
theorem dX7_leaves_4 : decode cX7_leaves 4 = .ok (.iload_n 3, 1) := by decide +kernel
theorem dX7_leaves_5 : decode cX7_leaves 5 = .ok (.bipush 32, 2) := by decide +kernel
theorem dX7_leaves_7 : decode cX7_leaves 7 = .ok (.if_icmp .ge 44, 3) := by decide +kernel
theorem dX7_leaves_10 : decode cX7_leaves 10 = .ok (.iload_n 2, 1) := by decide +kernel
theorem dX7_leaves_11 : decode cX7_leaves 11 = .ok (.ifCond .eq 40, 3) := by decide +kernel
theorem dX7_leaves_14 : decode cX7_leaves 14 = .ok (.aload_n 0, 1) := by decide +kernel
theorem dX7_leaves_15 : decode cX7_leaves 15 = .ok (.iload_n 3, 1) := by decide +kernel
theorem dX7_leaves_16 : decode cX7_leaves 16 = .ok (.iload_n 1, 1) := by decide +kernel
theorem dX7_leaves_17 : decode cX7_leaves 17 = .ok (.iconst (-1), 1) := by decide +kernel
theorem dX7_leaves_18 : decode cX7_leaves 18 = .ok (.iconst 0, 1) := by decide +kernel
theorem dX7_leaves_19 : decode cX7_leaves 19 = .ok (.invokevirtual 80, 3) := by decide +kernel
theorem dX7_leaves_22 : decode cX7_leaves 22 = .ok (.aload_n 0, 1) := by decide +kernel
theorem dX7_leaves_23 : decode cX7_leaves 23 = .ok (.getfield 13, 3) := by decide +kernel
theorem dX7_leaves_26 : decode cX7_leaves 26 = .ok (.iload_n 3, 1) := by decide +kernel
theorem dX7_leaves_27 : decode cX7_leaves 27 = .ok (.iaload, 1) := by decide +kernel
theorem dX7_leaves_28 : decode cX7_leaves 28 = .ok (.if_icmp .eq 11, 3) := by decide +kernel
theorem dX7_leaves_31 : decode cX7_leaves 31 = .ok (.aload_n 0, 1) := by decide +kernel
theorem dX7_leaves_32 : decode cX7_leaves 32 = .ok (.iload_n 3, 1) := by decide +kernel
theorem dX7_leaves_33 : decode cX7_leaves 33 = .ok (.invokevirtual 149, 3) := by decide +kernel
theorem dX7_leaves_36 : decode cX7_leaves 36 = .ok (.ifCond .ne 7, 3) := by decide +kernel
theorem dX7_leaves_39 : decode cX7_leaves 39 = .ok (.iconst 1, 1) := by decide +kernel
theorem dX7_leaves_40 : decode cX7_leaves 40 = .ok (.goto 4, 3) := by decide +kernel
theorem dX7_leaves_43 : decode cX7_leaves 43 = .ok (.iconst 0, 1) := by decide +kernel
theorem dX7_leaves_44 : decode cX7_leaves 44 = .ok (.istore_n 2, 1) := by decide +kernel
theorem dX7_leaves_45 : decode cX7_leaves 45 = .ok (.iinc 3 1, 3) := by decide +kernel
theorem dX7_leaves_48 : decode cX7_leaves 48 = .ok (.goto (-44), 3) := by decide +kernel
theorem dX7_leaves_51 : decode cX7_leaves 51 = .ok (.iload_n 2, 1) := by decide +kernel
theorem dX7_leaves_52 : decode cX7_leaves 52 = .ok (.ireturn, 1) := by decide +kernel
theorem dX7_orders_0 : decode cX7_orders 0 = .ok (.iconst 0, 1) := by decide +kernel
theorem dX7_orders_1 : decode cX7_orders 1 = .ok (.istore_n 2, 1) := by decide +kernel
theorem dX7_orders_2 : decode cX7_orders 2 = .ok (.bipush (-4), 2) := by decide +kernel
theorem dX7_orders_4 : decode cX7_orders 4 = .ok (.istore_n 3, 1) := by decide +kernel
theorem dX7_orders_5 : decode cX7_orders 5 = .ok (.ldc 171, 2) := by decide +kernel
theorem dX7_orders_7 : decode cX7_orders 7 = .ok (.istore 4, 2) := by decide +kernel
theorem dX7_orders_9 : decode cX7_orders 9 = .ok (.iload 4, 2) := by decide +kernel
theorem dX7_orders_11 : decode cX7_orders 11 = .ok (.sipush 1234, 3) := by decide +kernel
theorem dX7_orders_14 : decode cX7_orders 14 = .ok (.if_icmp .lt 32, 3) := by decide +kernel
theorem dX7_orders_17 : decode cX7_orders 17 = .ok (.iload 4, 2) := by decide +kernel
theorem dX7_orders_19 : decode cX7_orders 19 = .ok (.invokestatic 172, 3) := by decide +kernel
theorem dX7_orders_22 : decode cX7_orders 22 = .ok (.ifCond .eq 18, 3) := by decide +kernel
theorem dX7_orders_25 : decode cX7_orders 25 = .ok (.aload_n 0, 1) := by decide +kernel
theorem dX7_orders_26 : decode cX7_orders 26 = .ok (.iload 4, 2) := by decide +kernel
theorem dX7_orders_28 : decode cX7_orders 28 = .ok (.invokevirtual 175, 3) := by decide +kernel
theorem dX7_orders_31 : decode cX7_orders 31 = .ok (.ifCond .eq 9, 3) := by decide +kernel
theorem dX7_orders_34 : decode cX7_orders 34 = .ok (.iinc 2 1, 3) := by decide +kernel
theorem dX7_orders_37 : decode cX7_orders 37 = .ok (.iload 4, 2) := by decide +kernel
theorem dX7_orders_39 : decode cX7_orders 39 = .ok (.istore_n 3, 1) := by decide +kernel
theorem dX7_orders_40 : decode cX7_orders 40 = .ok (.iinc 4 (-1), 3) := by decide +kernel
theorem dX7_orders_43 : decode cX7_orders 43 = .ok (.goto (-34), 3) := by decide +kernel
theorem dX7_orders_46 : decode cX7_orders 46 = .ok (.iload_n 1, 1) := by decide +kernel
theorem dX7_orders_47 : decode cX7_orders 47 = .ok (.ifCond .ne 7, 3) := by decide +kernel
theorem dX7_orders_50 : decode cX7_orders 50 = .ok (.iload_n 2, 1) := by decide +kernel
theorem dX7_orders_51 : decode cX7_orders 51 = .ok (.goto 4, 3) := by decide +kernel
theorem dX7_orders_54 : decode cX7_orders 54 = .ok (.iload_n 3, 1) := by decide +kernel
theorem dX7_orders_55 : decode cX7_orders 55 = .ok (.ireturn, 1) := by decide +kernel
theorem dX7_byDark_0 : decode cX7_byDark 0 = .ok (.iconst 0, 1) := by decide +kernel
theorem dX7_byDark_1 : decode cX7_byDark 1 = .ok (.istore_n 1, 1) := by decide +kernel
theorem dX7_byDark_2 : decode cX7_byDark 2 = .ok (.iconst 0, 1) := by decide +kernel
theorem dX7_byDark_3 : decode cX7_byDark 3 = .ok (.istore_n 2, 1) := by decide +kernel
theorem dX7_byDark_4 : decode cX7_byDark 4 = .ok (.iconst 0, 1) := by decide +kernel
theorem dX7_byDark_5 : decode cX7_byDark 5 = .ok (.istore_n 3, 1) := by decide +kernel
theorem dX7_byDark_6 : decode cX7_byDark 6 = .ok (.iload_n 3, 1) := by decide +kernel
theorem dX7_byDark_7 : decode cX7_byDark 7 = .ok (.iconst 5, 1) := by decide +kernel
theorem dX7_byDark_8 : decode cX7_byDark 8 = .ok (.if_icmp .ge 78, 3) := by decide +kernel
theorem dX7_byDark_11 : decode cX7_byDark 11 = .ok (.iconst (-1), 1) := by decide +kernel
theorem dX7_byDark_12 : decode cX7_byDark 12 = .ok (.istore 4, 2) := by decide +kernel
theorem dX7_byDark_14 : decode cX7_byDark 14 = .ok (.iconst 4, 1) := by decide +kernel
theorem dX7_byDark_15 : decode cX7_byDark 15 = .ok (.istore 5, 2) := by decide +kernel
theorem dX7_byDark_17 : decode cX7_byDark 17 = .ok (.iload 5, 2) := by decide +kernel
theorem dX7_byDark_19 : decode cX7_byDark 19 = .ok (.ifCond .lt 46, 3) := by decide +kernel
theorem dX7_byDark_22 : decode cX7_byDark 22 = .ok (.iload_n 2, 1) := by decide +kernel
theorem dX7_byDark_23 : decode cX7_byDark 23 = .ok (.iload 5, 2) := by decide +kernel
theorem dX7_byDark_25 : decode cX7_byDark 25 = .ok (.invokestatic 69, 3) := by decide +kernel
theorem dX7_byDark_28 : decode cX7_byDark 28 = .ok (.ifCond .ne 31, 3) := by decide +kernel
theorem dX7_byDark_31 : decode cX7_byDark 31 = .ok (.iload 4, 2) := by decide +kernel
theorem dX7_byDark_33 : decode cX7_byDark 33 = .ok (.ifCond .lt 22, 3) := by decide +kernel
theorem dX7_byDark_36 : decode cX7_byDark 36 = .ok (.aload_n 0, 1) := by decide +kernel
theorem dX7_byDark_37 : decode cX7_byDark 37 = .ok (.iconst 1, 1) := by decide +kernel
theorem dX7_byDark_38 : decode cX7_byDark 38 = .ok (.iload 5, 2) := by decide +kernel
theorem dX7_byDark_40 : decode cX7_byDark 40 = .ok (.ishl, 1) := by decide +kernel
theorem dX7_byDark_41 : decode cX7_byDark 41 = .ok (.invokevirtual 136, 3) := by decide +kernel
theorem dX7_byDark_44 : decode cX7_byDark 44 = .ok (.aload_n 0, 1) := by decide +kernel
theorem dX7_byDark_45 : decode cX7_byDark 45 = .ok (.iconst 1, 1) := by decide +kernel
theorem dX7_byDark_46 : decode cX7_byDark 46 = .ok (.iload 4, 2) := by decide +kernel
theorem dX7_byDark_48 : decode cX7_byDark 48 = .ok (.ishl, 1) := by decide +kernel
theorem dX7_byDark_49 : decode cX7_byDark 49 = .ok (.invokevirtual 136, 3) := by decide +kernel
theorem dX7_byDark_52 : decode cX7_byDark 52 = .ok (.if_icmp .gt 7, 3) := by decide +kernel
theorem dX7_byDark_55 : decode cX7_byDark 55 = .ok (.iload 5, 2) := by decide +kernel
theorem dX7_byDark_57 : decode cX7_byDark 57 = .ok (.istore 4, 2) := by decide +kernel
theorem dX7_byDark_59 : decode cX7_byDark 59 = .ok (.iinc 5 (-1), 3) := by decide +kernel
theorem dX7_byDark_62 : decode cX7_byDark 62 = .ok (.goto (-45), 3) := by decide +kernel
theorem dX7_byDark_65 : decode cX7_byDark 65 = .ok (.iload_n 2, 1) := by decide +kernel
theorem dX7_byDark_66 : decode cX7_byDark 66 = .ok (.iconst 1, 1) := by decide +kernel
theorem dX7_byDark_67 : decode cX7_byDark 67 = .ok (.iload 4, 2) := by decide +kernel
theorem dX7_byDark_69 : decode cX7_byDark 69 = .ok (.ishl, 1) := by decide +kernel
theorem dX7_byDark_70 : decode cX7_byDark 70 = .ok (.ior, 1) := by decide +kernel
theorem dX7_byDark_71 : decode cX7_byDark 71 = .ok (.istore_n 2, 1) := by decide +kernel
theorem dX7_byDark_72 : decode cX7_byDark 72 = .ok (.bipush 10, 2) := by decide +kernel
theorem dX7_byDark_74 : decode cX7_byDark 74 = .ok (.iload_n 1, 1) := by decide +kernel
theorem dX7_byDark_75 : decode cX7_byDark 75 = .ok (.imul, 1) := by decide +kernel
theorem dX7_byDark_76 : decode cX7_byDark 76 = .ok (.iload 4, 2) := by decide +kernel
theorem dX7_byDark_78 : decode cX7_byDark 78 = .ok (.iadd, 1) := by decide +kernel
theorem dX7_byDark_79 : decode cX7_byDark 79 = .ok (.istore_n 1, 1) := by decide +kernel
theorem dX7_byDark_80 : decode cX7_byDark 80 = .ok (.iinc 3 1, 3) := by decide +kernel
theorem dX7_byDark_83 : decode cX7_byDark 83 = .ok (.goto (-77), 3) := by decide +kernel
theorem dX7_byDark_86 : decode cX7_byDark 86 = .ok (.iload_n 1, 1) := by decide +kernel
theorem dX7_byDark_87 : decode cX7_byDark 87 = .ok (.ireturn, 1) := by decide +kernel
theorem dX7_count_0 : decode cX7_count 0 = .ok (.aload_n 0, 1) := by decide +kernel
theorem dX7_count_1 : decode cX7_count 1 = .ok (.invokevirtual 178, 3) := by decide +kernel
theorem dX7_count_4 : decode cX7_count 4 = .ok (.iload_n 1, 1) := by decide +kernel
theorem dX7_count_5 : decode cX7_count 5 = .ok (.tableswitch 136 0 12 #[67, 74, 81, 88, 93, 98, 103, 103, 112, 112, 121, 126, 131], 67) := by decide +kernel
theorem dX7_count_72 : decode cX7_count 72 = .ok (.aload_n 0, 1) := by decide +kernel
theorem dX7_count_73 : decode cX7_count 73 = .ok (.getfield 7, 3) := by decide +kernel
theorem dX7_count_76 : decode cX7_count 76 = .ok (.iconst 0, 1) := by decide +kernel
theorem dX7_count_77 : decode cX7_count 77 = .ok (.iaload, 1) := by decide +kernel
theorem dX7_count_78 : decode cX7_count 78 = .ok (.ireturn, 1) := by decide +kernel
theorem dX7_count_79 : decode cX7_count 79 = .ok (.aload_n 0, 1) := by decide +kernel
theorem dX7_count_80 : decode cX7_count 80 = .ok (.getfield 7, 3) := by decide +kernel
theorem dX7_count_83 : decode cX7_count 83 = .ok (.iconst 1, 1) := by decide +kernel
theorem dX7_count_84 : decode cX7_count 84 = .ok (.iaload, 1) := by decide +kernel
theorem dX7_count_85 : decode cX7_count 85 = .ok (.ireturn, 1) := by decide +kernel
theorem dX7_count_86 : decode cX7_count 86 = .ok (.aload_n 0, 1) := by decide +kernel
theorem dX7_count_87 : decode cX7_count 87 = .ok (.getfield 7, 3) := by decide +kernel
theorem dX7_count_90 : decode cX7_count 90 = .ok (.iconst 3, 1) := by decide +kernel
theorem dX7_count_91 : decode cX7_count 91 = .ok (.iaload, 1) := by decide +kernel
theorem dX7_count_92 : decode cX7_count 92 = .ok (.ireturn, 1) := by decide +kernel
theorem dX7_count_93 : decode cX7_count 93 = .ok (.aload_n 0, 1) := by decide +kernel
theorem dX7_count_94 : decode cX7_count 94 = .ok (.invokevirtual 120, 3) := by decide +kernel
theorem dX7_count_97 : decode cX7_count 97 = .ok (.ireturn, 1) := by decide +kernel
theorem dX7_count_98 : decode cX7_count 98 = .ok (.aload_n 0, 1) := by decide +kernel
theorem dX7_count_99 : decode cX7_count 99 = .ok (.invokevirtual 181, 3) := by decide +kernel
theorem dX7_count_102 : decode cX7_count 102 = .ok (.ireturn, 1) := by decide +kernel
theorem dX7_count_103 : decode cX7_count 103 = .ok (.aload_n 0, 1) := by decide +kernel
theorem dX7_count_104 : decode cX7_count 104 = .ok (.invokevirtual 184, 3) := by decide +kernel
theorem dX7_count_107 : decode cX7_count 107 = .ok (.ireturn, 1) := by decide +kernel
theorem dX7_count_108 : decode cX7_count 108 = .ok (.aload_n 0, 1) := by decide +kernel
theorem dX7_count_109 : decode cX7_count 109 = .ok (.iload_n 1, 1) := by decide +kernel
theorem dX7_count_110 : decode cX7_count 110 = .ok (.bipush 6, 2) := by decide +kernel
theorem dX7_count_112 : decode cX7_count 112 = .ok (.isub, 1) := by decide +kernel
theorem dX7_count_113 : decode cX7_count 113 = .ok (.invokevirtual 187, 3) := by decide +kernel
theorem dX7_count_116 : decode cX7_count 116 = .ok (.ireturn, 1) := by decide +kernel
theorem dX7_count_117 : decode cX7_count 117 = .ok (.aload_n 0, 1) := by decide +kernel
theorem dX7_count_118 : decode cX7_count 118 = .ok (.iload_n 1, 1) := by decide +kernel
theorem dX7_count_119 : decode cX7_count 119 = .ok (.bipush 8, 2) := by decide +kernel
theorem dX7_count_121 : decode cX7_count 121 = .ok (.isub, 1) := by decide +kernel
theorem dX7_count_122 : decode cX7_count 122 = .ok (.invokevirtual 190, 3) := by decide +kernel
theorem dX7_count_125 : decode cX7_count 125 = .ok (.ireturn, 1) := by decide +kernel
theorem dX7_count_126 : decode cX7_count 126 = .ok (.aload_n 0, 1) := by decide +kernel
theorem dX7_count_127 : decode cX7_count 127 = .ok (.invokevirtual 193, 3) := by decide +kernel
theorem dX7_count_130 : decode cX7_count 130 = .ok (.ireturn, 1) := by decide +kernel
theorem dX7_count_131 : decode cX7_count 131 = .ok (.aload_n 0, 1) := by decide +kernel
theorem dX7_count_132 : decode cX7_count 132 = .ok (.invokevirtual 196, 3) := by decide +kernel
theorem dX7_count_135 : decode cX7_count 135 = .ok (.ireturn, 1) := by decide +kernel
theorem dX7_count_136 : decode cX7_count 136 = .ok (.aload_n 0, 1) := by decide +kernel
theorem dX7_count_137 : decode cX7_count 137 = .ok (.getfield 199, 3) := by decide +kernel
theorem dX7_count_140 : decode cX7_count 140 = .ok (.ireturn, 1) := by decide +kernel
theorem dX7_count_141 : decode cX7_count 141 = .ok (.iconst (-1), 1) := by decide +kernel
theorem dX7_count_142 : decode cX7_count 142 = .ok (.ireturn, 1) := by decide +kernel
theorem dX7_isWhole_0 : decode cX7_isWhole 0 = .ok (.iconst 1, 1) := by decide +kernel
theorem dX7_isWhole_1 : decode cX7_isWhole 1 = .ok (.istore_n 2, 1) := by decide +kernel
theorem dX7_isWhole_2 : decode cX7_isWhole 2 = .ok (.iconst 0, 1) := by decide +kernel
theorem dX7_isWhole_3 : decode cX7_isWhole 3 = .ok (.istore_n 3, 1) := by decide +kernel
theorem dX7_isWhole_4 : decode cX7_isWhole 4 = .ok (.iload_n 3, 1) := by decide +kernel
theorem dX7_isWhole_5 : decode cX7_isWhole 5 = .ok (.bipush 48, 2) := by decide +kernel
theorem dX7_isWhole_7 : decode cX7_isWhole 7 = .ok (.if_icmp .ge 45, 3) := by decide +kernel
theorem dX7_isWhole_10 : decode cX7_isWhole 10 = .ok (.iload_n 2, 1) := by decide +kernel
theorem dX7_isWhole_11 : decode cX7_isWhole 11 = .ok (.ifCond .eq 33, 3) := by decide +kernel
theorem dX7_isWhole_14 : decode cX7_isWhole 14 = .ok (.aload_n 0, 1) := by decide +kernel
theorem dX7_isWhole_15 : decode cX7_isWhole 15 = .ok (.iload_n 3, 1) := by decide +kernel
theorem dX7_isWhole_16 : decode cX7_isWhole 16 = .ok (.invokevirtual 88, 3) := by decide +kernel
theorem dX7_isWhole_19 : decode cX7_isWhole 19 = .ok (.ifCond .eq 21, 3) := by decide +kernel
theorem dX7_isWhole_22 : decode cX7_isWhole 22 = .ok (.aload_n 0, 1) := by decide +kernel
theorem dX7_isWhole_23 : decode cX7_isWhole 23 = .ok (.iload_n 3, 1) := by decide +kernel
theorem dX7_isWhole_24 : decode cX7_isWhole 24 = .ok (.invokevirtual 92, 3) := by decide +kernel
theorem dX7_isWhole_27 : decode cX7_isWhole 27 = .ok (.ifCond .eq 13, 3) := by decide +kernel
theorem dX7_isWhole_30 : decode cX7_isWhole 30 = .ok (.aload_n 0, 1) := by decide +kernel
theorem dX7_isWhole_31 : decode cX7_isWhole 31 = .ok (.iload_n 3, 1) := by decide +kernel
theorem dX7_isWhole_32 : decode cX7_isWhole 32 = .ok (.invokevirtual 92, 3) := by decide +kernel
theorem dX7_isWhole_35 : decode cX7_isWhole 35 = .ok (.iload_n 1, 1) := by decide +kernel
theorem dX7_isWhole_36 : decode cX7_isWhole 36 = .ok (.iand, 1) := by decide +kernel
theorem dX7_isWhole_37 : decode cX7_isWhole 37 = .ok (.ifCond .eq 7, 3) := by decide +kernel
theorem dX7_isWhole_40 : decode cX7_isWhole 40 = .ok (.iconst 1, 1) := by decide +kernel
theorem dX7_isWhole_41 : decode cX7_isWhole 41 = .ok (.goto 4, 3) := by decide +kernel
theorem dX7_isWhole_44 : decode cX7_isWhole 44 = .ok (.iconst 0, 1) := by decide +kernel
theorem dX7_isWhole_45 : decode cX7_isWhole 45 = .ok (.istore_n 2, 1) := by decide +kernel
theorem dX7_isWhole_46 : decode cX7_isWhole 46 = .ok (.iinc 3 1, 3) := by decide +kernel
theorem dX7_isWhole_49 : decode cX7_isWhole 49 = .ok (.goto (-45), 3) := by decide +kernel
theorem dX7_isWhole_52 : decode cX7_isWhole 52 = .ok (.iload_n 2, 1) := by decide +kernel
theorem dX7_isWhole_53 : decode cX7_isWhole 53 = .ok (.ireturn, 1) := by decide +kernel
theorem dX7_parts_0 : decode cX7_parts 0 = .ok (.iconst 1, 1) := by decide +kernel
theorem dX7_parts_1 : decode cX7_parts 1 = .ok (.istore_n 3, 1) := by decide +kernel
theorem dX7_parts_2 : decode cX7_parts 2 = .ok (.iconst 0, 1) := by decide +kernel
theorem dX7_parts_3 : decode cX7_parts 3 = .ok (.istore 4, 2) := by decide +kernel
theorem dX7_parts_5 : decode cX7_parts 5 = .ok (.iload 4, 2) := by decide +kernel
theorem dX7_parts_7 : decode cX7_parts 7 = .ok (.iconst 5, 1) := by decide +kernel
theorem dX7_parts_8 : decode cX7_parts 8 = .ok (.if_icmp .ge 42, 3) := by decide +kernel
theorem dX7_parts_11 : decode cX7_parts 11 = .ok (.iload_n 3, 1) := by decide +kernel
theorem dX7_parts_12 : decode cX7_parts 12 = .ok (.iload_n 1, 1) := by decide +kernel
theorem dX7_parts_13 : decode cX7_parts 13 = .ok (.iload 4, 2) := by decide +kernel
theorem dX7_parts_15 : decode cX7_parts 15 = .ok (.invokestatic 69, 3) := by decide +kernel
theorem dX7_parts_18 : decode cX7_parts 18 = .ok (.ifCond .ne 7, 3) := by decide +kernel
theorem dX7_parts_21 : decode cX7_parts 21 = .ok (.iconst 1, 1) := by decide +kernel
theorem dX7_parts_22 : decode cX7_parts 22 = .ok (.goto 20, 3) := by decide +kernel
theorem dX7_parts_25 : decode cX7_parts 25 = .ok (.iload_n 0, 1) := by decide +kernel
theorem dX7_parts_26 : decode cX7_parts 26 = .ok (.iload 4, 2) := by decide +kernel
theorem dX7_parts_28 : decode cX7_parts 28 = .ok (.invokestatic 69, 3) := by decide +kernel
theorem dX7_parts_31 : decode cX7_parts 31 = .ok (.ifCond .eq 10, 3) := by decide +kernel
theorem dX7_parts_34 : decode cX7_parts 34 = .ok (.bipush 10, 2) := by decide +kernel
theorem dX7_parts_36 : decode cX7_parts 36 = .ok (.iload_n 2, 1) := by decide +kernel
theorem dX7_parts_37 : decode cX7_parts 37 = .ok (.isub, 1) := by decide +kernel
theorem dX7_parts_38 : decode cX7_parts 38 = .ok (.goto 4, 3) := by decide +kernel
theorem dX7_parts_41 : decode cX7_parts 41 = .ok (.iload_n 2, 1) := by decide +kernel
theorem dX7_parts_42 : decode cX7_parts 42 = .ok (.imul, 1) := by decide +kernel
theorem dX7_parts_43 : decode cX7_parts 43 = .ok (.istore_n 3, 1) := by decide +kernel
theorem dX7_parts_44 : decode cX7_parts 44 = .ok (.iinc 4 1, 3) := by decide +kernel
theorem dX7_parts_47 : decode cX7_parts 47 = .ok (.goto (-42), 3) := by decide +kernel
theorem dX7_parts_50 : decode cX7_parts 50 = .ok (.iload_n 3, 1) := by decide +kernel
theorem dX7_parts_51 : decode cX7_parts 51 = .ok (.ireturn, 1) := by decide +kernel
theorem dX7_fail_0 : decode cX7_fail 0 = .ok (.iload_n 1, 1) := by decide +kernel
theorem dX7_fail_1 : decode cX7_fail 1 = .ok (.i2l, 1) := by decide +kernel
theorem dX7_fail_2 : decode cX7_fail 2 = .ok (.lconst 0, 1) := by decide +kernel
theorem dX7_fail_3 : decode cX7_fail 3 = .ok (.ldc2_w 202, 3) := by decide +kernel
theorem dX7_fail_6 : decode cX7_fail 6 = .ok (.invokestatic 59, 3) := by decide +kernel
theorem dX7_fail_9 : decode cX7_fail 9 = .ok (.ifCond .eq 13, 3) := by decide +kernel
theorem dX7_fail_12 : decode cX7_fail 12 = .ok (.iload_n 2, 1) := by decide +kernel
theorem dX7_fail_13 : decode cX7_fail 13 = .ok (.i2l, 1) := by decide +kernel
theorem dX7_fail_14 : decode cX7_fail 14 = .ok (.lconst 0, 1) := by decide +kernel
theorem dX7_fail_15 : decode cX7_fail 15 = .ok (.lconst 1, 1) := by decide +kernel
theorem dX7_fail_16 : decode cX7_fail 16 = .ok (.invokestatic 59, 3) := by decide +kernel
theorem dX7_fail_19 : decode cX7_fail 19 = .ok (.ifCond .ne 5, 3) := by decide +kernel
theorem dX7_fail_22 : decode cX7_fail 22 = .ok (.iconst (-1), 1) := by decide +kernel
theorem dX7_fail_23 : decode cX7_fail 23 = .ok (.ireturn, 1) := by decide +kernel
theorem dX7_fail_24 : decode cX7_fail 24 = .ok (.aload_n 0, 1) := by decide +kernel
theorem dX7_fail_25 : decode cX7_fail 25 = .ok (.invokevirtual 196, 3) := by decide +kernel
theorem dX7_fail_28 : decode cX7_fail 28 = .ok (.istore_n 3, 1) := by decide +kernel
theorem dX7_fail_29 : decode cX7_fail 29 = .ok (.iconst 0, 1) := by decide +kernel
theorem dX7_fail_30 : decode cX7_fail 30 = .ok (.istore 4, 2) := by decide +kernel
theorem dX7_fail_32 : decode cX7_fail 32 = .ok (.iconst 1, 1) := by decide +kernel
theorem dX7_fail_33 : decode cX7_fail 33 = .ok (.istore 5, 2) := by decide +kernel
theorem dX7_fail_35 : decode cX7_fail 35 = .ok (.iconst 0, 1) := by decide +kernel
theorem dX7_fail_36 : decode cX7_fail 36 = .ok (.istore 6, 2) := by decide +kernel
theorem dX7_fail_38 : decode cX7_fail 38 = .ok (.iload 6, 2) := by decide +kernel
theorem dX7_fail_40 : decode cX7_fail 40 = .ok (.iload_n 3, 1) := by decide +kernel
theorem dX7_fail_41 : decode cX7_fail 41 = .ok (.invokestatic 98, 3) := by decide +kernel
theorem dX7_fail_44 : decode cX7_fail 44 = .ok (.if_icmp .ge 16, 3) := by decide +kernel
theorem dX7_fail_47 : decode cX7_fail 47 = .ok (.iload 5, 2) := by decide +kernel
theorem dX7_fail_49 : decode cX7_fail 49 = .ok (.bipush 10, 2) := by decide +kernel
theorem dX7_fail_51 : decode cX7_fail 51 = .ok (.imul, 1) := by decide +kernel
theorem dX7_fail_52 : decode cX7_fail 52 = .ok (.istore 5, 2) := by decide +kernel
theorem dX7_fail_54 : decode cX7_fail 54 = .ok (.iinc 6 1, 3) := by decide +kernel
theorem dX7_fail_57 : decode cX7_fail 57 = .ok (.goto (-19), 3) := by decide +kernel
theorem dX7_fail_60 : decode cX7_fail 60 = .ok (.iconst 0, 1) := by decide +kernel
theorem dX7_fail_61 : decode cX7_fail 61 = .ok (.istore 6, 2) := by decide +kernel
theorem dX7_fail_63 : decode cX7_fail 63 = .ok (.iload 6, 2) := by decide +kernel
theorem dX7_fail_65 : decode cX7_fail 65 = .ok (.bipush 32, 2) := by decide +kernel
theorem dX7_fail_67 : decode cX7_fail 67 = .ok (.if_icmp .ge 43, 3) := by decide +kernel
theorem dX7_fail_70 : decode cX7_fail 70 = .ok (.iload 4, 2) := by decide +kernel
theorem dX7_fail_72 : decode cX7_fail 72 = .ok (.iload 6, 2) := by decide +kernel
theorem dX7_fail_74 : decode cX7_fail 74 = .ok (.iload_n 3, 1) := by decide +kernel
theorem dX7_fail_75 : decode cX7_fail 75 = .ok (.iconst (-1), 1) := by decide +kernel
theorem dX7_fail_76 : decode cX7_fail 76 = .ok (.ixor, 1) := by decide +kernel
theorem dX7_fail_77 : decode cX7_fail 77 = .ok (.iand, 1) := by decide +kernel
theorem dX7_fail_78 : decode cX7_fail 78 = .ok (.ifCond .ne 22, 3) := by decide +kernel
theorem dX7_fail_81 : decode cX7_fail 81 = .ok (.aload_n 0, 1) := by decide +kernel
theorem dX7_fail_82 : decode cX7_fail 82 = .ok (.iload 6, 2) := by decide +kernel
theorem dX7_fail_84 : decode cX7_fail 84 = .ok (.invokevirtual 204, 3) := by decide +kernel
theorem dX7_fail_87 : decode cX7_fail 87 = .ok (.ifCond .eq 13, 3) := by decide +kernel
theorem dX7_fail_90 : decode cX7_fail 90 = .ok (.iload 6, 2) := by decide +kernel
theorem dX7_fail_92 : decode cX7_fail 92 = .ok (.iload_n 3, 1) := by decide +kernel
theorem dX7_fail_93 : decode cX7_fail 93 = .ok (.iload_n 1, 1) := by decide +kernel
theorem dX7_fail_94 : decode cX7_fail 94 = .ok (.invokestatic 207, 3) := by decide +kernel
theorem dX7_fail_97 : decode cX7_fail 97 = .ok (.goto 4, 3) := by decide +kernel
theorem dX7_fail_100 : decode cX7_fail 100 = .ok (.iconst 0, 1) := by decide +kernel
theorem dX7_fail_101 : decode cX7_fail 101 = .ok (.iadd, 1) := by decide +kernel
theorem dX7_fail_102 : decode cX7_fail 102 = .ok (.istore 4, 2) := by decide +kernel
theorem dX7_fail_104 : decode cX7_fail 104 = .ok (.iinc 6 1, 3) := by decide +kernel
theorem dX7_fail_107 : decode cX7_fail 107 = .ok (.goto (-44), 3) := by decide +kernel
theorem dX7_fail_110 : decode cX7_fail 110 = .ok (.iload 4, 2) := by decide +kernel
theorem dX7_fail_112 : decode cX7_fail 112 = .ok (.istore 6, 2) := by decide +kernel
theorem dX7_fail_114 : decode cX7_fail 114 = .ok (.iload 5, 2) := by decide +kernel
theorem dX7_fail_116 : decode cX7_fail 116 = .ok (.istore 7, 2) := by decide +kernel
theorem dX7_fail_118 : decode cX7_fail 118 = .ok (.iload 7, 2) := by decide +kernel
theorem dX7_fail_120 : decode cX7_fail 120 = .ok (.ifCond .eq 21, 3) := by decide +kernel
theorem dX7_fail_123 : decode cX7_fail 123 = .ok (.iload 6, 2) := by decide +kernel
theorem dX7_fail_125 : decode cX7_fail 125 = .ok (.iload 7, 2) := by decide +kernel
theorem dX7_fail_127 : decode cX7_fail 127 = .ok (.irem, 1) := by decide +kernel
theorem dX7_fail_128 : decode cX7_fail 128 = .ok (.istore 8, 2) := by decide +kernel
theorem dX7_fail_130 : decode cX7_fail 130 = .ok (.iload 7, 2) := by decide +kernel
theorem dX7_fail_132 : decode cX7_fail 132 = .ok (.istore 6, 2) := by decide +kernel
theorem dX7_fail_134 : decode cX7_fail 134 = .ok (.iload 8, 2) := by decide +kernel
theorem dX7_fail_136 : decode cX7_fail 136 = .ok (.istore 7, 2) := by decide +kernel
theorem dX7_fail_138 : decode cX7_fail 138 = .ok (.goto (-20), 3) := by decide +kernel
theorem dX7_fail_141 : decode cX7_fail 141 = .ok (.iload_n 2, 1) := by decide +kernel
theorem dX7_fail_142 : decode cX7_fail 142 = .ok (.ifCond .ne 8, 3) := by decide +kernel
theorem dX7_fail_145 : decode cX7_fail 145 = .ok (.iload 4, 2) := by decide +kernel
theorem dX7_fail_147 : decode cX7_fail 147 = .ok (.goto 5, 3) := by decide +kernel
theorem dX7_fail_150 : decode cX7_fail 150 = .ok (.iload 5, 2) := by decide +kernel
theorem dX7_fail_152 : decode cX7_fail 152 = .ok (.iload 6, 2) := by decide +kernel
theorem dX7_fail_154 : decode cX7_fail 154 = .ok (.idiv, 1) := by decide +kernel
theorem dX7_fail_155 : decode cX7_fail 155 = .ok (.ireturn, 1) := by decide +kernel
theorem dX7_notes_0 : decode cX7_notes 0 = .ok (.aload_n 0, 1) := by decide +kernel
theorem dX7_notes_1 : decode cX7_notes 1 = .ok (.getfield 199, 3) := by decide +kernel
theorem dX7_notes_4 : decode cX7_notes 4 = .ok (.bipush 6, 2) := by decide +kernel
theorem dX7_notes_6 : decode cX7_notes 6 = .ok (.if_icmp .ne 39, 3) := by decide +kernel
theorem dX7_notes_9 : decode cX7_notes 9 = .ok (.bipush 62, 2) := by decide +kernel
theorem dX7_notes_11 : decode cX7_notes 11 = .ok (.istore_n 1, 1) := by decide +kernel
theorem dX7_notes_12 : decode cX7_notes 12 = .ok (.iload_n 1, 1) := by decide +kernel
theorem dX7_notes_13 : decode cX7_notes 13 = .ok (.sipush 372, 3) := by decide +kernel
theorem dX7_notes_16 : decode cX7_notes 16 = .ok (.if_icmp .ge 24, 3) := by decide +kernel
theorem dX7_notes_19 : decode cX7_notes 19 = .ok (.aload_n 0, 1) := by decide +kernel
theorem dX7_notes_20 : decode cX7_notes 20 = .ok (.getfield 22, 3) := by decide +kernel
theorem dX7_notes_23 : decode cX7_notes 23 = .ok (.iload_n 1, 1) := by decide +kernel
theorem dX7_notes_24 : decode cX7_notes 24 = .ok (.bipush 62, 2) := by decide +kernel
theorem dX7_notes_26 : decode cX7_notes 26 = .ok (.isub, 1) := by decide +kernel
theorem dX7_notes_27 : decode cX7_notes 27 = .ok (.aload_n 0, 1) := by decide +kernel
theorem dX7_notes_28 : decode cX7_notes 28 = .ok (.getfield 22, 3) := by decide +kernel
theorem dX7_notes_31 : decode cX7_notes 31 = .ok (.iload_n 1, 1) := by decide +kernel
theorem dX7_notes_32 : decode cX7_notes 32 = .ok (.iaload, 1) := by decide +kernel
theorem dX7_notes_33 : decode cX7_notes 33 = .ok (.iastore, 1) := by decide +kernel
theorem dX7_notes_34 : decode cX7_notes 34 = .ok (.iinc 1 1, 3) := by decide +kernel
theorem dX7_notes_37 : decode cX7_notes 37 = .ok (.goto (-25), 3) := by decide +kernel
theorem dX7_notes_40 : decode cX7_notes 40 = .ok (.aload_n 0, 1) := by decide +kernel
theorem dX7_notes_41 : decode cX7_notes 41 = .ok (.iconst 5, 1) := by decide +kernel
theorem dX7_notes_42 : decode cX7_notes 42 = .ok (.putfield 199, 3) := by decide +kernel
theorem dX7_notes_45 : decode cX7_notes 45 = .ok (.iconst 0, 1) := by decide +kernel
theorem dX7_notes_46 : decode cX7_notes 46 = .ok (.istore_n 1, 1) := by decide +kernel
theorem dX7_notes_47 : decode cX7_notes 47 = .ok (.iload_n 1, 1) := by decide +kernel
theorem dX7_notes_48 : decode cX7_notes 48 = .ok (.bipush 62, 2) := by decide +kernel
theorem dX7_notes_50 : decode cX7_notes 50 = .ok (.if_icmp .ge 29, 3) := by decide +kernel
theorem dX7_notes_53 : decode cX7_notes 53 = .ok (.aload_n 0, 1) := by decide +kernel
theorem dX7_notes_54 : decode cX7_notes 54 = .ok (.getfield 22, 3) := by decide +kernel
theorem dX7_notes_57 : decode cX7_notes 57 = .ok (.bipush 62, 2) := by decide +kernel
theorem dX7_notes_59 : decode cX7_notes 59 = .ok (.aload_n 0, 1) := by decide +kernel
theorem dX7_notes_60 : decode cX7_notes 60 = .ok (.getfield 199, 3) := by decide +kernel
theorem dX7_notes_63 : decode cX7_notes 63 = .ok (.imul, 1) := by decide +kernel
theorem dX7_notes_64 : decode cX7_notes 64 = .ok (.iload_n 1, 1) := by decide +kernel
theorem dX7_notes_65 : decode cX7_notes 65 = .ok (.iadd, 1) := by decide +kernel
theorem dX7_notes_66 : decode cX7_notes 66 = .ok (.aload_n 0, 1) := by decide +kernel
theorem dX7_notes_67 : decode cX7_notes 67 = .ok (.getfield 7, 3) := by decide +kernel
theorem dX7_notes_70 : decode cX7_notes 70 = .ok (.iload_n 1, 1) := by decide +kernel
theorem dX7_notes_71 : decode cX7_notes 71 = .ok (.iaload, 1) := by decide +kernel
theorem dX7_notes_72 : decode cX7_notes 72 = .ok (.iastore, 1) := by decide +kernel
theorem dX7_notes_73 : decode cX7_notes 73 = .ok (.iinc 1 1, 3) := by decide +kernel
theorem dX7_notes_76 : decode cX7_notes 76 = .ok (.goto (-29), 3) := by decide +kernel
theorem dX7_notes_79 : decode cX7_notes 79 = .ok (.aload_n 0, 1) := by decide +kernel
theorem dX7_notes_80 : decode cX7_notes 80 = .ok (.dup, 1) := by decide +kernel
theorem dX7_notes_81 : decode cX7_notes 81 = .ok (.getfield 199, 3) := by decide +kernel
theorem dX7_notes_84 : decode cX7_notes 84 = .ok (.iconst 1, 1) := by decide +kernel
theorem dX7_notes_85 : decode cX7_notes 85 = .ok (.iadd, 1) := by decide +kernel
theorem dX7_notes_86 : decode cX7_notes 86 = .ok (.putfield 199, 3) := by decide +kernel
theorem dX7_notes_89 : decode cX7_notes 89 = .ok (.return_, 1) := by decide +kernel
theorem dX7_undo_0 : decode cX7_undo 0 = .ok (.aload_n 0, 1) := by decide +kernel
theorem dX7_undo_1 : decode cX7_undo 1 = .ok (.getfield 199, 3) := by decide +kernel
theorem dX7_undo_4 : decode cX7_undo 4 = .ok (.ifCond .ne 6, 3) := by decide +kernel
theorem dX7_undo_7 : decode cX7_undo 7 = .ok (.bipush (-4), 2) := by decide +kernel
theorem dX7_undo_9 : decode cX7_undo 9 = .ok (.ireturn, 1) := by decide +kernel
theorem dX7_undo_10 : decode cX7_undo 10 = .ok (.aload_n 0, 1) := by decide +kernel
theorem dX7_undo_11 : decode cX7_undo 11 = .ok (.dup, 1) := by decide +kernel
theorem dX7_undo_12 : decode cX7_undo 12 = .ok (.getfield 199, 3) := by decide +kernel
theorem dX7_undo_15 : decode cX7_undo 15 = .ok (.iconst 1, 1) := by decide +kernel
theorem dX7_undo_16 : decode cX7_undo 16 = .ok (.isub, 1) := by decide +kernel
theorem dX7_undo_17 : decode cX7_undo 17 = .ok (.putfield 199, 3) := by decide +kernel
theorem dX7_undo_20 : decode cX7_undo 20 = .ok (.iconst 0, 1) := by decide +kernel
theorem dX7_undo_21 : decode cX7_undo 21 = .ok (.istore_n 1, 1) := by decide +kernel
theorem dX7_undo_22 : decode cX7_undo 22 = .ok (.iload_n 1, 1) := by decide +kernel
theorem dX7_undo_23 : decode cX7_undo 23 = .ok (.bipush 62, 2) := by decide +kernel
theorem dX7_undo_25 : decode cX7_undo 25 = .ok (.if_icmp .ge 29, 3) := by decide +kernel
theorem dX7_undo_28 : decode cX7_undo 28 = .ok (.aload_n 0, 1) := by decide +kernel
theorem dX7_undo_29 : decode cX7_undo 29 = .ok (.getfield 7, 3) := by decide +kernel
theorem dX7_undo_32 : decode cX7_undo 32 = .ok (.iload_n 1, 1) := by decide +kernel
theorem dX7_undo_33 : decode cX7_undo 33 = .ok (.aload_n 0, 1) := by decide +kernel
theorem dX7_undo_34 : decode cX7_undo 34 = .ok (.getfield 22, 3) := by decide +kernel
theorem dX7_undo_37 : decode cX7_undo 37 = .ok (.bipush 62, 2) := by decide +kernel
theorem dX7_undo_39 : decode cX7_undo 39 = .ok (.aload_n 0, 1) := by decide +kernel
theorem dX7_undo_40 : decode cX7_undo 40 = .ok (.getfield 199, 3) := by decide +kernel
theorem dX7_undo_43 : decode cX7_undo 43 = .ok (.imul, 1) := by decide +kernel
theorem dX7_undo_44 : decode cX7_undo 44 = .ok (.iload_n 1, 1) := by decide +kernel
theorem dX7_undo_45 : decode cX7_undo 45 = .ok (.iadd, 1) := by decide +kernel
theorem dX7_undo_46 : decode cX7_undo 46 = .ok (.iaload, 1) := by decide +kernel
theorem dX7_undo_47 : decode cX7_undo 47 = .ok (.iastore, 1) := by decide +kernel
theorem dX7_undo_48 : decode cX7_undo 48 = .ok (.iinc 1 1, 3) := by decide +kernel
theorem dX7_undo_51 : decode cX7_undo 51 = .ok (.goto (-29), 3) := by decide +kernel
theorem dX7_undo_54 : decode cX7_undo 54 = .ok (.aload_n 0, 1) := by decide +kernel
theorem dX7_undo_55 : decode cX7_undo 55 = .ok (.getfield 199, 3) := by decide +kernel
theorem dX7_undo_58 : decode cX7_undo 58 = .ok (.ireturn, 1) := by decide +kernel
theorem dX7_tell_0 : decode cX7_tell 0 = .ok (.iload_n 1, 1) := by decide +kernel
theorem dX7_tell_1 : decode cX7_tell 1 = .ok (.invokestatic 130, 3) := by decide +kernel
theorem dX7_tell_4 : decode cX7_tell 4 = .ok (.ifCond .eq 27, 3) := by decide +kernel
theorem dX7_tell_7 : decode cX7_tell 7 = .ok (.iload_n 2, 1) := by decide +kernel
theorem dX7_tell_8 : decode cX7_tell 8 = .ok (.i2l, 1) := by decide +kernel
theorem dX7_tell_9 : decode cX7_tell 9 = .ok (.lconst 0, 1) := by decide +kernel
theorem dX7_tell_10 : decode cX7_tell 10 = .ok (.ldc2_w 210, 3) := by decide +kernel
theorem dX7_tell_13 : decode cX7_tell 13 = .ok (.invokestatic 59, 3) := by decide +kernel
theorem dX7_tell_16 : decode cX7_tell 16 = .ok (.ifCond .eq 15, 3) := by decide +kernel
theorem dX7_tell_19 : decode cX7_tell 19 = .ok (.iload_n 3, 1) := by decide +kernel
theorem dX7_tell_20 : decode cX7_tell 20 = .ok (.i2l, 1) := by decide +kernel
theorem dX7_tell_21 : decode cX7_tell 21 = .ok (.lconst 0, 1) := by decide +kernel
theorem dX7_tell_22 : decode cX7_tell 22 = .ok (.ldc2_w 212, 3) := by decide +kernel
theorem dX7_tell_25 : decode cX7_tell 25 = .ok (.invokestatic 59, 3) := by decide +kernel
theorem dX7_tell_28 : decode cX7_tell 28 = .ok (.ifCond .ne 5, 3) := by decide +kernel
theorem dX7_tell_31 : decode cX7_tell 31 = .ok (.iconst (-1), 1) := by decide +kernel
theorem dX7_tell_32 : decode cX7_tell 32 = .ok (.ireturn, 1) := by decide +kernel
theorem dX7_tell_33 : decode cX7_tell 33 = .ok (.aload_n 0, 1) := by decide +kernel
theorem dX7_tell_34 : decode cX7_tell 34 = .ok (.getfield 7, 3) := by decide +kernel
theorem dX7_tell_37 : decode cX7_tell 37 = .ok (.iconst 4, 1) := by decide +kernel
theorem dX7_tell_38 : decode cX7_tell 38 = .ok (.iload_n 1, 1) := by decide +kernel
theorem dX7_tell_39 : decode cX7_tell 39 = .ok (.iadd, 1) := by decide +kernel
theorem dX7_tell_40 : decode cX7_tell 40 = .ok (.iaload, 1) := by decide +kernel
theorem dX7_tell_41 : decode cX7_tell 41 = .ok (.iload_n 2, 1) := by decide +kernel
theorem dX7_tell_42 : decode cX7_tell 42 = .ok (.if_icmp .ne 19, 3) := by decide +kernel
theorem dX7_tell_45 : decode cX7_tell 45 = .ok (.aload_n 0, 1) := by decide +kernel
theorem dX7_tell_46 : decode cX7_tell 46 = .ok (.getfield 7, 3) := by decide +kernel
theorem dX7_tell_49 : decode cX7_tell 49 = .ok (.bipush 9, 2) := by decide +kernel
theorem dX7_tell_51 : decode cX7_tell 51 = .ok (.iload_n 1, 1) := by decide +kernel
theorem dX7_tell_52 : decode cX7_tell 52 = .ok (.iadd, 1) := by decide +kernel
theorem dX7_tell_53 : decode cX7_tell 53 = .ok (.iaload, 1) := by decide +kernel
theorem dX7_tell_54 : decode cX7_tell 54 = .ok (.iload_n 3, 1) := by decide +kernel
theorem dX7_tell_55 : decode cX7_tell 55 = .ok (.if_icmp .ne 6, 3) := by decide +kernel
theorem dX7_tell_58 : decode cX7_tell 58 = .ok (.bipush (-2), 2) := by decide +kernel
theorem dX7_tell_60 : decode cX7_tell 60 = .ok (.ireturn, 1) := by decide +kernel
theorem dX7_tell_61 : decode cX7_tell 61 = .ok (.aload_n 0, 1) := by decide +kernel
theorem dX7_tell_62 : decode cX7_tell 62 = .ok (.invokevirtual 214, 3) := by decide +kernel
theorem dX7_tell_65 : decode cX7_tell 65 = .ok (.aload_n 0, 1) := by decide +kernel
theorem dX7_tell_66 : decode cX7_tell 66 = .ok (.getfield 7, 3) := by decide +kernel
theorem dX7_tell_69 : decode cX7_tell 69 = .ok (.iconst 4, 1) := by decide +kernel
theorem dX7_tell_70 : decode cX7_tell 70 = .ok (.iload_n 1, 1) := by decide +kernel
theorem dX7_tell_71 : decode cX7_tell 71 = .ok (.iadd, 1) := by decide +kernel
theorem dX7_tell_72 : decode cX7_tell 72 = .ok (.iload_n 2, 1) := by decide +kernel
theorem dX7_tell_73 : decode cX7_tell 73 = .ok (.iastore, 1) := by decide +kernel
theorem dX7_tell_74 : decode cX7_tell 74 = .ok (.aload_n 0, 1) := by decide +kernel
theorem dX7_tell_75 : decode cX7_tell 75 = .ok (.getfield 7, 3) := by decide +kernel
theorem dX7_tell_78 : decode cX7_tell 78 = .ok (.bipush 9, 2) := by decide +kernel
theorem dX7_tell_80 : decode cX7_tell 80 = .ok (.iload_n 1, 1) := by decide +kernel
theorem dX7_tell_81 : decode cX7_tell 81 = .ok (.iadd, 1) := by decide +kernel
theorem dX7_tell_82 : decode cX7_tell 82 = .ok (.iload_n 3, 1) := by decide +kernel
theorem dX7_tell_83 : decode cX7_tell 83 = .ok (.iastore, 1) := by decide +kernel
theorem dX7_tell_84 : decode cX7_tell 84 = .ok (.iconst 1, 1) := by decide +kernel
theorem dX7_tell_85 : decode cX7_tell 85 = .ok (.ireturn, 1) := by decide +kernel
theorem dX7_order_0 : decode cX7_order 0 = .ok (.iload_n 1, 1) := by decide +kernel
theorem dX7_order_1 : decode cX7_order 1 = .ok (.invokestatic 172, 3) := by decide +kernel
theorem dX7_order_4 : decode cX7_order 4 = .ok (.ifCond .ne 5, 3) := by decide +kernel
theorem dX7_order_7 : decode cX7_order 7 = .ok (.iconst (-1), 1) := by decide +kernel
theorem dX7_order_8 : decode cX7_order 8 = .ok (.ireturn, 1) := by decide +kernel
theorem dX7_order_9 : decode cX7_order 9 = .ok (.aload_n 0, 1) := by decide +kernel
theorem dX7_order_10 : decode cX7_order 10 = .ok (.getfield 7, 3) := by decide +kernel
theorem dX7_order_13 : decode cX7_order 13 = .ok (.iconst 3, 1) := by decide +kernel
theorem dX7_order_14 : decode cX7_order 14 = .ok (.iaload, 1) := by decide +kernel
theorem dX7_order_15 : decode cX7_order 15 = .ok (.istore_n 2, 1) := by decide +kernel
theorem dX7_order_16 : decode cX7_order 16 = .ok (.iload_n 2, 1) := by decide +kernel
theorem dX7_order_17 : decode cX7_order 17 = .ok (.iload_n 1, 1) := by decide +kernel
theorem dX7_order_18 : decode cX7_order 18 = .ok (.if_icmp .ne 6, 3) := by decide +kernel
theorem dX7_order_21 : decode cX7_order 21 = .ok (.bipush (-2), 2) := by decide +kernel
theorem dX7_order_23 : decode cX7_order 23 = .ok (.ireturn, 1) := by decide +kernel
theorem dX7_order_24 : decode cX7_order 24 = .ok (.aload_n 0, 1) := by decide +kernel
theorem dX7_order_25 : decode cX7_order 25 = .ok (.invokevirtual 214, 3) := by decide +kernel
theorem dX7_order_28 : decode cX7_order 28 = .ok (.aload_n 0, 1) := by decide +kernel
theorem dX7_order_29 : decode cX7_order 29 = .ok (.getfield 7, 3) := by decide +kernel
theorem dX7_order_32 : decode cX7_order 32 = .ok (.iconst 3, 1) := by decide +kernel
theorem dX7_order_33 : decode cX7_order 33 = .ok (.iload_n 1, 1) := by decide +kernel
theorem dX7_order_34 : decode cX7_order 34 = .ok (.iastore, 1) := by decide +kernel
theorem dX7_order_35 : decode cX7_order 35 = .ok (.iload_n 2, 1) := by decide +kernel
theorem dX7_order_36 : decode cX7_order 36 = .ok (.ireturn, 1) := by decide +kernel
theorem dX7_put_0 : decode cX7_put 0 = .ok (.aload_n 0, 1) := by decide +kernel
theorem dX7_put_1 : decode cX7_put 1 = .ok (.iload_n 1, 1) := by decide +kernel
theorem dX7_put_2 : decode cX7_put 2 = .ok (.iload_n 2, 1) := by decide +kernel
theorem dX7_put_3 : decode cX7_put 3 = .ok (.invokevirtual 65, 3) := by decide +kernel
theorem dX7_put_6 : decode cX7_put 6 = .ok (.ifCond .eq 11, 3) := by decide +kernel
theorem dX7_put_9 : decode cX7_put 9 = .ok (.iload_n 3, 1) := by decide +kernel
theorem dX7_put_10 : decode cX7_put 10 = .ok (.i2l, 1) := by decide +kernel
theorem dX7_put_11 : decode cX7_put 11 = .ok (.invokestatic 142, 3) := by decide +kernel
theorem dX7_put_14 : decode cX7_put 14 = .ok (.ifCond .ne 5, 3) := by decide +kernel
theorem dX7_put_17 : decode cX7_put 17 = .ok (.iconst (-1), 1) := by decide +kernel
theorem dX7_put_18 : decode cX7_put 18 = .ok (.ireturn, 1) := by decide +kernel
theorem dX7_put_19 : decode cX7_put 19 = .ok (.aload_n 0, 1) := by decide +kernel
theorem dX7_put_20 : decode cX7_put 20 = .ok (.bipush 8, 2) := by decide +kernel
theorem dX7_put_22 : decode cX7_put 22 = .ok (.iload_n 2, 1) := by decide +kernel
theorem dX7_put_23 : decode cX7_put 23 = .ok (.imul, 1) := by decide +kernel
theorem dX7_put_24 : decode cX7_put 24 = .ok (.iload_n 1, 1) := by decide +kernel
theorem dX7_put_25 : decode cX7_put 25 = .ok (.iadd, 1) := by decide +kernel
theorem dX7_put_26 : decode cX7_put 26 = .ok (.invokevirtual 92, 3) := by decide +kernel
theorem dX7_put_29 : decode cX7_put 29 = .ok (.istore 4, 2) := by decide +kernel
theorem dX7_put_31 : decode cX7_put 31 = .ok (.iload 4, 2) := by decide +kernel
theorem dX7_put_33 : decode cX7_put 33 = .ok (.iload_n 3, 1) := by decide +kernel
theorem dX7_put_34 : decode cX7_put 34 = .ok (.if_icmp .ne 6, 3) := by decide +kernel
theorem dX7_put_37 : decode cX7_put 37 = .ok (.bipush (-2), 2) := by decide +kernel
theorem dX7_put_39 : decode cX7_put 39 = .ok (.ireturn, 1) := by decide +kernel
theorem dX7_put_40 : decode cX7_put 40 = .ok (.aload_n 0, 1) := by decide +kernel
theorem dX7_put_41 : decode cX7_put 41 = .ok (.invokevirtual 214, 3) := by decide +kernel
theorem dX7_put_44 : decode cX7_put 44 = .ok (.aload_n 0, 1) := by decide +kernel
theorem dX7_put_45 : decode cX7_put 45 = .ok (.getfield 7, 3) := by decide +kernel
theorem dX7_put_48 : decode cX7_put 48 = .ok (.bipush 14, 2) := by decide +kernel
theorem dX7_put_50 : decode cX7_put 50 = .ok (.bipush 8, 2) := by decide +kernel
theorem dX7_put_52 : decode cX7_put 52 = .ok (.iload_n 2, 1) := by decide +kernel
theorem dX7_put_53 : decode cX7_put 53 = .ok (.imul, 1) := by decide +kernel
theorem dX7_put_54 : decode cX7_put 54 = .ok (.iadd, 1) := by decide +kernel
theorem dX7_put_55 : decode cX7_put 55 = .ok (.iload_n 1, 1) := by decide +kernel
theorem dX7_put_56 : decode cX7_put 56 = .ok (.iadd, 1) := by decide +kernel
theorem dX7_put_57 : decode cX7_put 57 = .ok (.iload_n 3, 1) := by decide +kernel
theorem dX7_put_58 : decode cX7_put 58 = .ok (.iastore, 1) := by decide +kernel
theorem dX7_put_59 : decode cX7_put 59 = .ok (.iload 4, 2) := by decide +kernel
theorem dX7_put_61 : decode cX7_put 61 = .ok (.ireturn, 1) := by decide +kernel
theorem dX7_fill_0 : decode cX7_fill 0 = .ok (.aload_n 0, 1) := by decide +kernel
theorem dX7_fill_1 : decode cX7_fill 1 = .ok (.invokevirtual 120, 3) := by decide +kernel
theorem dX7_fill_4 : decode cX7_fill 4 = .ok (.istore_n 3, 1) := by decide +kernel
theorem dX7_fill_5 : decode cX7_fill 5 = .ok (.iload_n 1, 1) := by decide +kernel
theorem dX7_fill_6 : decode cX7_fill 6 = .ok (.i2l, 1) := by decide +kernel
theorem dX7_fill_7 : decode cX7_fill 7 = .ok (.lconst 0, 1) := by decide +kernel
theorem dX7_fill_8 : decode cX7_fill 8 = .ok (.iload_n 3, 1) := by decide +kernel
theorem dX7_fill_9 : decode cX7_fill 9 = .ok (.iconst 1, 1) := by decide +kernel
theorem dX7_fill_10 : decode cX7_fill 10 = .ok (.isub, 1) := by decide +kernel
theorem dX7_fill_11 : decode cX7_fill 11 = .ok (.i2l, 1) := by decide +kernel
theorem dX7_fill_12 : decode cX7_fill 12 = .ok (.invokestatic 59, 3) := by decide +kernel
theorem dX7_fill_15 : decode cX7_fill 15 = .ok (.ifCond .eq 11, 3) := by decide +kernel
theorem dX7_fill_18 : decode cX7_fill 18 = .ok (.iload_n 2, 1) := by decide +kernel
theorem dX7_fill_19 : decode cX7_fill 19 = .ok (.i2l, 1) := by decide +kernel
theorem dX7_fill_20 : decode cX7_fill 20 = .ok (.invokestatic 142, 3) := by decide +kernel
theorem dX7_fill_23 : decode cX7_fill 23 = .ok (.ifCond .ne 5, 3) := by decide +kernel
theorem dX7_fill_26 : decode cX7_fill 26 = .ok (.iconst (-1), 1) := by decide +kernel
theorem dX7_fill_27 : decode cX7_fill 27 = .ok (.ireturn, 1) := by decide +kernel
theorem dX7_fill_28 : decode cX7_fill 28 = .ok (.aload_n 0, 1) := by decide +kernel
theorem dX7_fill_29 : decode cX7_fill 29 = .ok (.aload_n 0, 1) := by decide +kernel
theorem dX7_fill_30 : decode cX7_fill 30 = .ok (.getfield 19, 3) := by decide +kernel
theorem dX7_fill_33 : decode cX7_fill 33 = .ok (.iload_n 1, 1) := by decide +kernel
theorem dX7_fill_34 : decode cX7_fill 34 = .ok (.iaload, 1) := by decide +kernel
theorem dX7_fill_35 : decode cX7_fill 35 = .ok (.invokevirtual 92, 3) := by decide +kernel
theorem dX7_fill_38 : decode cX7_fill 38 = .ok (.iload_n 2, 1) := by decide +kernel
theorem dX7_fill_39 : decode cX7_fill 39 = .ok (.if_icmp .ne 6, 3) := by decide +kernel
theorem dX7_fill_42 : decode cX7_fill 42 = .ok (.bipush (-2), 2) := by decide +kernel
theorem dX7_fill_44 : decode cX7_fill 44 = .ok (.ireturn, 1) := by decide +kernel
theorem dX7_fill_45 : decode cX7_fill 45 = .ok (.aload_n 0, 1) := by decide +kernel
theorem dX7_fill_46 : decode cX7_fill 46 = .ok (.invokevirtual 214, 3) := by decide +kernel
theorem dX7_fill_49 : decode cX7_fill 49 = .ok (.iconst 0, 1) := by decide +kernel
theorem dX7_fill_50 : decode cX7_fill 50 = .ok (.istore 4, 2) := by decide +kernel
theorem dX7_fill_52 : decode cX7_fill 52 = .ok (.iconst 0, 1) := by decide +kernel
theorem dX7_fill_53 : decode cX7_fill 53 = .ok (.istore 5, 2) := by decide +kernel
theorem dX7_fill_55 : decode cX7_fill 55 = .ok (.iload 5, 2) := by decide +kernel
theorem dX7_fill_57 : decode cX7_fill 57 = .ok (.bipush 48, 2) := by decide +kernel
theorem dX7_fill_59 : decode cX7_fill 59 = .ok (.if_icmp .ge 33, 3) := by decide +kernel
theorem dX7_fill_62 : decode cX7_fill 62 = .ok (.aload_n 0, 1) := by decide +kernel
theorem dX7_fill_63 : decode cX7_fill 63 = .ok (.iload 5, 2) := by decide +kernel
theorem dX7_fill_65 : decode cX7_fill 65 = .ok (.iload_n 1, 1) := by decide +kernel
theorem dX7_fill_66 : decode cX7_fill 66 = .ok (.invokevirtual 111, 3) := by decide +kernel
theorem dX7_fill_69 : decode cX7_fill 69 = .ok (.ifCond .eq 17, 3) := by decide +kernel
theorem dX7_fill_72 : decode cX7_fill 72 = .ok (.aload_n 0, 1) := by decide +kernel
theorem dX7_fill_73 : decode cX7_fill 73 = .ok (.getfield 7, 3) := by decide +kernel
theorem dX7_fill_76 : decode cX7_fill 76 = .ok (.bipush 14, 2) := by decide +kernel
theorem dX7_fill_78 : decode cX7_fill 78 = .ok (.iload 5, 2) := by decide +kernel
theorem dX7_fill_80 : decode cX7_fill 80 = .ok (.iadd, 1) := by decide +kernel
theorem dX7_fill_81 : decode cX7_fill 81 = .ok (.iload_n 2, 1) := by decide +kernel
theorem dX7_fill_82 : decode cX7_fill 82 = .ok (.iastore, 1) := by decide +kernel
theorem dX7_fill_83 : decode cX7_fill 83 = .ok (.iinc 4 1, 3) := by decide +kernel
theorem dX7_fill_86 : decode cX7_fill 86 = .ok (.iinc 5 1, 3) := by decide +kernel
theorem dX7_fill_89 : decode cX7_fill 89 = .ok (.goto (-34), 3) := by decide +kernel
theorem dX7_fill_92 : decode cX7_fill 92 = .ok (.iload 4, 2) := by decide +kernel
theorem dX7_fill_94 : decode cX7_fill 94 = .ok (.ireturn, 1) := by decide +kernel
theorem dX7_comesTo_0 : decode cX7_comesTo 0 = .ok (.aload_n 0, 1) := by decide +kernel
theorem dX7_comesTo_1 : decode cX7_comesTo 1 = .ok (.iload_n 1, 1) := by decide +kernel
theorem dX7_comesTo_2 : decode cX7_comesTo 2 = .ok (.invokevirtual 92, 3) := by decide +kernel
theorem dX7_comesTo_5 : decode cX7_comesTo 5 = .ok (.istore_n 3, 1) := by decide +kernel
theorem dX7_comesTo_6 : decode cX7_comesTo 6 = .ok (.aload_n 0, 1) := by decide +kernel
theorem dX7_comesTo_7 : decode cX7_comesTo 7 = .ok (.iload_n 2, 1) := by decide +kernel
theorem dX7_comesTo_8 : decode cX7_comesTo 8 = .ok (.invokevirtual 92, 3) := by decide +kernel
theorem dX7_comesTo_11 : decode cX7_comesTo 11 = .ok (.istore 4, 2) := by decide +kernel
theorem dX7_comesTo_13 : decode cX7_comesTo 13 = .ok (.iload_n 3, 1) := by decide +kernel
theorem dX7_comesTo_14 : decode cX7_comesTo 14 = .ok (.ifCond .eq 15, 3) := by decide +kernel
theorem dX7_comesTo_17 : decode cX7_comesTo 17 = .ok (.iload 4, 2) := by decide +kernel
theorem dX7_comesTo_19 : decode cX7_comesTo 19 = .ok (.ifCond .eq 10, 3) := by decide +kernel
theorem dX7_comesTo_22 : decode cX7_comesTo 22 = .ok (.iload_n 3, 1) := by decide +kernel
theorem dX7_comesTo_23 : decode cX7_comesTo 23 = .ok (.iload 4, 2) := by decide +kernel
theorem dX7_comesTo_25 : decode cX7_comesTo 25 = .ok (.iand, 1) := by decide +kernel
theorem dX7_comesTo_26 : decode cX7_comesTo 26 = .ok (.ifCond .eq 5, 3) := by decide +kernel
theorem dX7_comesTo_29 : decode cX7_comesTo 29 = .ok (.iconst 0, 1) := by decide +kernel
theorem dX7_comesTo_30 : decode cX7_comesTo 30 = .ok (.ireturn, 1) := by decide +kernel
theorem dX7_comesTo_31 : decode cX7_comesTo 31 = .ok (.aload_n 0, 1) := by decide +kernel
theorem dX7_comesTo_32 : decode cX7_comesTo 32 = .ok (.iload 4, 2) := by decide +kernel
theorem dX7_comesTo_34 : decode cX7_comesTo 34 = .ok (.invokevirtual 136, 3) := by decide +kernel
theorem dX7_comesTo_37 : decode cX7_comesTo 37 = .ok (.aload_n 0, 1) := by decide +kernel
theorem dX7_comesTo_38 : decode cX7_comesTo 38 = .ok (.iload_n 3, 1) := by decide +kernel
theorem dX7_comesTo_39 : decode cX7_comesTo 39 = .ok (.invokevirtual 136, 3) := by decide +kernel
theorem dX7_comesTo_42 : decode cX7_comesTo 42 = .ok (.isub, 1) := by decide +kernel
theorem dX7_comesTo_43 : decode cX7_comesTo 43 = .ok (.istore 5, 2) := by decide +kernel
theorem dX7_comesTo_45 : decode cX7_comesTo 45 = .ok (.iload 5, 2) := by decide +kernel
theorem dX7_comesTo_47 : decode cX7_comesTo 47 = .ok (.ifCond .lt 13, 3) := by decide +kernel
theorem dX7_comesTo_50 : decode cX7_comesTo 50 = .ok (.iload 5, 2) := by decide +kernel
theorem dX7_comesTo_52 : decode cX7_comesTo 52 = .ok (.ifCond .ne 13, 3) := by decide +kernel
theorem dX7_comesTo_55 : decode cX7_comesTo 55 = .ok (.iload_n 2, 1) := by decide +kernel
theorem dX7_comesTo_56 : decode cX7_comesTo 56 = .ok (.iload_n 1, 1) := by decide +kernel
theorem dX7_comesTo_57 : decode cX7_comesTo 57 = .ok (.if_icmp .ge 8, 3) := by decide +kernel
theorem dX7_comesTo_60 : decode cX7_comesTo 60 = .ok (.iload 4, 2) := by decide +kernel
theorem dX7_comesTo_62 : decode cX7_comesTo 62 = .ok (.goto 4, 3) := by decide +kernel
theorem dX7_comesTo_65 : decode cX7_comesTo 65 = .ok (.iconst 0, 1) := by decide +kernel
theorem dX7_comesTo_66 : decode cX7_comesTo 66 = .ok (.ireturn, 1) := by decide +kernel
theorem dX7_grow_0 : decode cX7_grow 0 = .ok (.iconst 0, 1) := by decide +kernel
theorem dX7_grow_1 : decode cX7_grow 1 = .ok (.istore_n 1, 1) := by decide +kernel
theorem dX7_grow_2 : decode cX7_grow 2 = .ok (.iconst 0, 1) := by decide +kernel
theorem dX7_grow_3 : decode cX7_grow 3 = .ok (.istore_n 2, 1) := by decide +kernel
theorem dX7_grow_4 : decode cX7_grow 4 = .ok (.iload_n 2, 1) := by decide +kernel
theorem dX7_grow_5 : decode cX7_grow 5 = .ok (.bipush 48, 2) := by decide +kernel
theorem dX7_grow_7 : decode cX7_grow 7 = .ok (.if_icmp .ge 96, 3) := by decide +kernel
theorem dX7_grow_10 : decode cX7_grow 10 = .ok (.aload_n 0, 1) := by decide +kernel
theorem dX7_grow_11 : decode cX7_grow 11 = .ok (.getfield 25, 3) := by decide +kernel
theorem dX7_grow_14 : decode cX7_grow 14 = .ok (.iload_n 2, 1) := by decide +kernel
theorem dX7_grow_15 : decode cX7_grow 15 = .ok (.aload_n 0, 1) := by decide +kernel
theorem dX7_grow_16 : decode cX7_grow 16 = .ok (.iload_n 2, 1) := by decide +kernel
theorem dX7_grow_17 : decode cX7_grow 17 = .ok (.invokevirtual 92, 3) := by decide +kernel
theorem dX7_grow_20 : decode cX7_grow 20 = .ok (.iastore, 1) := by decide +kernel
theorem dX7_grow_21 : decode cX7_grow 21 = .ok (.iconst 0, 1) := by decide +kernel
theorem dX7_grow_22 : decode cX7_grow 22 = .ok (.istore_n 3, 1) := by decide +kernel
theorem dX7_grow_23 : decode cX7_grow 23 = .ok (.iload_n 3, 1) := by decide +kernel
theorem dX7_grow_24 : decode cX7_grow 24 = .ok (.iconst 4, 1) := by decide +kernel
theorem dX7_grow_25 : decode cX7_grow 25 = .ok (.if_icmp .ge 50, 3) := by decide +kernel
theorem dX7_grow_28 : decode cX7_grow 28 = .ok (.aload_n 0, 1) := by decide +kernel
theorem dX7_grow_29 : decode cX7_grow 29 = .ok (.iload_n 2, 1) := by decide +kernel
theorem dX7_grow_30 : decode cX7_grow 30 = .ok (.invokevirtual 88, 3) := by decide +kernel
theorem dX7_grow_33 : decode cX7_grow 33 = .ok (.ifCond .eq 42, 3) := by decide +kernel
theorem dX7_grow_36 : decode cX7_grow 36 = .ok (.aload_n 0, 1) := by decide +kernel
theorem dX7_grow_37 : decode cX7_grow 37 = .ok (.iload_n 2, 1) := by decide +kernel
theorem dX7_grow_38 : decode cX7_grow 38 = .ok (.iload_n 3, 1) := by decide +kernel
theorem dX7_grow_39 : decode cX7_grow 39 = .ok (.invokevirtual 104, 3) := by decide +kernel
theorem dX7_grow_42 : decode cX7_grow 42 = .ok (.istore 4, 2) := by decide +kernel
theorem dX7_grow_44 : decode cX7_grow 44 = .ok (.aload_n 0, 1) := by decide +kernel
theorem dX7_grow_45 : decode cX7_grow 45 = .ok (.getfield 25, 3) := by decide +kernel
theorem dX7_grow_48 : decode cX7_grow 48 = .ok (.iload_n 2, 1) := by decide +kernel
theorem dX7_grow_49 : decode cX7_grow 49 = .ok (.dup2, 1) := by decide +kernel
theorem dX7_grow_50 : decode cX7_grow 50 = .ok (.iaload, 1) := by decide +kernel
theorem dX7_grow_51 : decode cX7_grow 51 = .ok (.iload 4, 2) := by decide +kernel
theorem dX7_grow_53 : decode cX7_grow 53 = .ok (.ifCond .lt 13, 3) := by decide +kernel
theorem dX7_grow_56 : decode cX7_grow 56 = .ok (.aload_n 0, 1) := by decide +kernel
theorem dX7_grow_57 : decode cX7_grow 57 = .ok (.iload_n 2, 1) := by decide +kernel
theorem dX7_grow_58 : decode cX7_grow 58 = .ok (.iload 4, 2) := by decide +kernel
theorem dX7_grow_60 : decode cX7_grow 60 = .ok (.invokevirtual 217, 3) := by decide +kernel
theorem dX7_grow_63 : decode cX7_grow 63 = .ok (.goto 4, 3) := by decide +kernel
theorem dX7_grow_66 : decode cX7_grow 66 = .ok (.iconst 0, 1) := by decide +kernel
theorem dX7_grow_67 : decode cX7_grow 67 = .ok (.ior, 1) := by decide +kernel
theorem dX7_grow_68 : decode cX7_grow 68 = .ok (.iastore, 1) := by decide +kernel
theorem dX7_grow_69 : decode cX7_grow 69 = .ok (.iinc 3 1, 3) := by decide +kernel
theorem dX7_grow_72 : decode cX7_grow 72 = .ok (.goto (-49), 3) := by decide +kernel
theorem dX7_grow_75 : decode cX7_grow 75 = .ok (.iload_n 1, 1) := by decide +kernel
theorem dX7_grow_76 : decode cX7_grow 76 = .ok (.aload_n 0, 1) := by decide +kernel
theorem dX7_grow_77 : decode cX7_grow 77 = .ok (.getfield 25, 3) := by decide +kernel
theorem dX7_grow_80 : decode cX7_grow 80 = .ok (.iload_n 2, 1) := by decide +kernel
theorem dX7_grow_81 : decode cX7_grow 81 = .ok (.iaload, 1) := by decide +kernel
theorem dX7_grow_82 : decode cX7_grow 82 = .ok (.aload_n 0, 1) := by decide +kernel
theorem dX7_grow_83 : decode cX7_grow 83 = .ok (.iload_n 2, 1) := by decide +kernel
theorem dX7_grow_84 : decode cX7_grow 84 = .ok (.invokevirtual 92, 3) := by decide +kernel
theorem dX7_grow_87 : decode cX7_grow 87 = .ok (.if_icmp .eq 7, 3) := by decide +kernel
theorem dX7_grow_90 : decode cX7_grow 90 = .ok (.iconst 1, 1) := by decide +kernel
theorem dX7_grow_91 : decode cX7_grow 91 = .ok (.goto 4, 3) := by decide +kernel
theorem dX7_grow_94 : decode cX7_grow 94 = .ok (.iconst 0, 1) := by decide +kernel
theorem dX7_grow_95 : decode cX7_grow 95 = .ok (.iadd, 1) := by decide +kernel
theorem dX7_grow_96 : decode cX7_grow 96 = .ok (.istore_n 1, 1) := by decide +kernel
theorem dX7_grow_97 : decode cX7_grow 97 = .ok (.iinc 2 1, 3) := by decide +kernel
theorem dX7_grow_100 : decode cX7_grow 100 = .ok (.goto (-96), 3) := by decide +kernel
theorem dX7_grow_103 : decode cX7_grow 103 = .ok (.iload_n 1, 1) := by decide +kernel
theorem dX7_grow_104 : decode cX7_grow 104 = .ok (.ifCond .ne 6, 3) := by decide +kernel
theorem dX7_grow_107 : decode cX7_grow 107 = .ok (.bipush (-2), 2) := by decide +kernel
theorem dX7_grow_109 : decode cX7_grow 109 = .ok (.ireturn, 1) := by decide +kernel
theorem dX7_grow_110 : decode cX7_grow 110 = .ok (.aload_n 0, 1) := by decide +kernel
theorem dX7_grow_111 : decode cX7_grow 111 = .ok (.invokevirtual 214, 3) := by decide +kernel
theorem dX7_grow_114 : decode cX7_grow 114 = .ok (.iconst 0, 1) := by decide +kernel
theorem dX7_grow_115 : decode cX7_grow 115 = .ok (.istore_n 2, 1) := by decide +kernel
theorem dX7_grow_116 : decode cX7_grow 116 = .ok (.iload_n 2, 1) := by decide +kernel
theorem dX7_grow_117 : decode cX7_grow 117 = .ok (.bipush 48, 2) := by decide +kernel
theorem dX7_grow_119 : decode cX7_grow 119 = .ok (.if_icmp .ge 24, 3) := by decide +kernel
theorem dX7_grow_122 : decode cX7_grow 122 = .ok (.aload_n 0, 1) := by decide +kernel
theorem dX7_grow_123 : decode cX7_grow 123 = .ok (.getfield 7, 3) := by decide +kernel
theorem dX7_grow_126 : decode cX7_grow 126 = .ok (.bipush 14, 2) := by decide +kernel
theorem dX7_grow_128 : decode cX7_grow 128 = .ok (.iload_n 2, 1) := by decide +kernel
theorem dX7_grow_129 : decode cX7_grow 129 = .ok (.iadd, 1) := by decide +kernel
theorem dX7_grow_130 : decode cX7_grow 130 = .ok (.aload_n 0, 1) := by decide +kernel
theorem dX7_grow_131 : decode cX7_grow 131 = .ok (.getfield 25, 3) := by decide +kernel
theorem dX7_grow_134 : decode cX7_grow 134 = .ok (.iload_n 2, 1) := by decide +kernel
theorem dX7_grow_135 : decode cX7_grow 135 = .ok (.iaload, 1) := by decide +kernel
theorem dX7_grow_136 : decode cX7_grow 136 = .ok (.iastore, 1) := by decide +kernel
theorem dX7_grow_137 : decode cX7_grow 137 = .ok (.iinc 2 1, 3) := by decide +kernel
theorem dX7_grow_140 : decode cX7_grow 140 = .ok (.goto (-24), 3) := by decide +kernel
theorem dX7_grow_143 : decode cX7_grow 143 = .ok (.iload_n 1, 1) := by decide +kernel
theorem dX7_grow_144 : decode cX7_grow 144 = .ok (.ireturn, 1) := by decide +kernel
theorem dX7_size_0 : decode cX7_size 0 = .ok (.iload_n 1, 1) := by decide +kernel
theorem dX7_size_1 : decode cX7_size 1 = .ok (.i2l, 1) := by decide +kernel
theorem dX7_size_2 : decode cX7_size 2 = .ok (.lconst 0, 1) := by decide +kernel
theorem dX7_size_3 : decode cX7_size 3 = .ok (.lconst 1, 1) := by decide +kernel
theorem dX7_size_4 : decode cX7_size 4 = .ok (.invokestatic 59, 3) := by decide +kernel
theorem dX7_size_7 : decode cX7_size 7 = .ok (.ifCond .eq 25, 3) := by decide +kernel
theorem dX7_size_10 : decode cX7_size 10 = .ok (.iload_n 2, 1) := by decide +kernel
theorem dX7_size_11 : decode cX7_size 11 = .ok (.i2l, 1) := by decide +kernel
theorem dX7_size_12 : decode cX7_size 12 = .ok (.lconst 1, 1) := by decide +kernel
theorem dX7_size_13 : decode cX7_size 13 = .ok (.iload_n 1, 1) := by decide +kernel
theorem dX7_size_14 : decode cX7_size 14 = .ok (.ifCond .ne 9, 3) := by decide +kernel
theorem dX7_size_17 : decode cX7_size 17 = .ok (.ldc2_w 220, 3) := by decide +kernel
theorem dX7_size_20 : decode cX7_size 20 = .ok (.goto 6, 3) := by decide +kernel
theorem dX7_size_23 : decode cX7_size 23 = .ok (.ldc2_w 222, 3) := by decide +kernel
theorem dX7_size_26 : decode cX7_size 26 = .ok (.invokestatic 59, 3) := by decide +kernel
theorem dX7_size_29 : decode cX7_size 29 = .ok (.ifCond .ne 5, 3) := by decide +kernel
theorem dX7_size_32 : decode cX7_size 32 = .ok (.iconst (-1), 1) := by decide +kernel
theorem dX7_size_33 : decode cX7_size 33 = .ok (.ireturn, 1) := by decide +kernel
theorem dX7_size_34 : decode cX7_size 34 = .ok (.aload_n 0, 1) := by decide +kernel
theorem dX7_size_35 : decode cX7_size 35 = .ok (.getfield 7, 3) := by decide +kernel
theorem dX7_size_38 : decode cX7_size 38 = .ok (.iload_n 1, 1) := by decide +kernel
theorem dX7_size_39 : decode cX7_size 39 = .ok (.iaload, 1) := by decide +kernel
theorem dX7_size_40 : decode cX7_size 40 = .ok (.istore_n 3, 1) := by decide +kernel
theorem dX7_size_41 : decode cX7_size 41 = .ok (.iload_n 3, 1) := by decide +kernel
theorem dX7_size_42 : decode cX7_size 42 = .ok (.iload_n 2, 1) := by decide +kernel
theorem dX7_size_43 : decode cX7_size 43 = .ok (.if_icmp .ne 6, 3) := by decide +kernel
theorem dX7_size_46 : decode cX7_size 46 = .ok (.bipush (-2), 2) := by decide +kernel
theorem dX7_size_48 : decode cX7_size 48 = .ok (.ireturn, 1) := by decide +kernel
theorem dX7_size_49 : decode cX7_size 49 = .ok (.aload_n 0, 1) := by decide +kernel
theorem dX7_size_50 : decode cX7_size 50 = .ok (.invokevirtual 214, 3) := by decide +kernel
theorem dX7_size_53 : decode cX7_size 53 = .ok (.aload_n 0, 1) := by decide +kernel
theorem dX7_size_54 : decode cX7_size 54 = .ok (.getfield 7, 3) := by decide +kernel
theorem dX7_size_57 : decode cX7_size 57 = .ok (.iload_n 1, 1) := by decide +kernel
theorem dX7_size_58 : decode cX7_size 58 = .ok (.iload_n 2, 1) := by decide +kernel
theorem dX7_size_59 : decode cX7_size 59 = .ok (.iastore, 1) := by decide +kernel
theorem dX7_size_60 : decode cX7_size 60 = .ok (.iconst 0, 1) := by decide +kernel
theorem dX7_size_61 : decode cX7_size 61 = .ok (.istore 4, 2) := by decide +kernel
theorem dX7_size_63 : decode cX7_size 63 = .ok (.iload 4, 2) := by decide +kernel
theorem dX7_size_65 : decode cX7_size 65 = .ok (.bipush 48, 2) := by decide +kernel
theorem dX7_size_67 : decode cX7_size 67 = .ok (.if_icmp .ge 38, 3) := by decide +kernel
theorem dX7_size_70 : decode cX7_size 70 = .ok (.aload_n 0, 1) := by decide +kernel
theorem dX7_size_71 : decode cX7_size 71 = .ok (.getfield 7, 3) := by decide +kernel
theorem dX7_size_74 : decode cX7_size 74 = .ok (.bipush 14, 2) := by decide +kernel
theorem dX7_size_76 : decode cX7_size 76 = .ok (.iload 4, 2) := by decide +kernel
theorem dX7_size_78 : decode cX7_size 78 = .ok (.iadd, 1) := by decide +kernel
theorem dX7_size_79 : decode cX7_size 79 = .ok (.aload_n 0, 1) := by decide +kernel
theorem dX7_size_80 : decode cX7_size 80 = .ok (.iload 4, 2) := by decide +kernel
theorem dX7_size_82 : decode cX7_size 82 = .ok (.invokevirtual 88, 3) := by decide +kernel
theorem dX7_size_85 : decode cX7_size 85 = .ok (.ifCond .eq 12, 3) := by decide +kernel
theorem dX7_size_88 : decode cX7_size 88 = .ok (.aload_n 0, 1) := by decide +kernel
theorem dX7_size_89 : decode cX7_size 89 = .ok (.iload 4, 2) := by decide +kernel
theorem dX7_size_91 : decode cX7_size 91 = .ok (.invokevirtual 92, 3) := by decide +kernel
theorem dX7_size_94 : decode cX7_size 94 = .ok (.goto 4, 3) := by decide +kernel
theorem dX7_size_97 : decode cX7_size 97 = .ok (.iconst 0, 1) := by decide +kernel
theorem dX7_size_98 : decode cX7_size 98 = .ok (.iastore, 1) := by decide +kernel
theorem dX7_size_99 : decode cX7_size 99 = .ok (.iinc 4 1, 3) := by decide +kernel
theorem dX7_size_102 : decode cX7_size 102 = .ok (.goto (-39), 3) := by decide +kernel
theorem dX7_size_105 : decode cX7_size 105 = .ok (.iload_n 3, 1) := by decide +kernel
theorem dX7_size_106 : decode cX7_size 106 = .ok (.ireturn, 1) := by decide +kernel
theorem dX7_drift_0 : decode cX7_drift 0 = .ok (.iload_n 1, 1) := by decide +kernel
theorem dX7_drift_1 : decode cX7_drift 1 = .ok (.i2l, 1) := by decide +kernel
theorem dX7_drift_2 : decode cX7_drift 2 = .ok (.lconst 1, 1) := by decide +kernel
theorem dX7_drift_3 : decode cX7_drift 3 = .ok (.ldc2_w 224, 3) := by decide +kernel
theorem dX7_drift_6 : decode cX7_drift 6 = .ok (.invokestatic 59, 3) := by decide +kernel
theorem dX7_drift_9 : decode cX7_drift 9 = .ok (.ifCond .ne 5, 3) := by decide +kernel
theorem dX7_drift_12 : decode cX7_drift 12 = .ok (.iconst (-1), 1) := by decide +kernel
theorem dX7_drift_13 : decode cX7_drift 13 = .ok (.ireturn, 1) := by decide +kernel
theorem dX7_drift_14 : decode cX7_drift 14 = .ok (.iconst 0, 1) := by decide +kernel
theorem dX7_drift_15 : decode cX7_drift 15 = .ok (.istore_n 2, 1) := by decide +kernel
theorem dX7_drift_16 : decode cX7_drift 16 = .ok (.iload_n 2, 1) := by decide +kernel
theorem dX7_drift_17 : decode cX7_drift 17 = .ok (.iload_n 1, 1) := by decide +kernel
theorem dX7_drift_18 : decode cX7_drift 18 = .ok (.if_icmp .ge 90, 3) := by decide +kernel
theorem dX7_drift_21 : decode cX7_drift 21 = .ok (.aload_n 0, 1) := by decide +kernel
theorem dX7_drift_22 : decode cX7_drift 22 = .ok (.invokevirtual 214, 3) := by decide +kernel
theorem dX7_drift_25 : decode cX7_drift 25 = .ok (.aload_n 0, 1) := by decide +kernel
theorem dX7_drift_26 : decode cX7_drift 26 = .ok (.getfield 7, 3) := by decide +kernel
theorem dX7_drift_29 : decode cX7_drift 29 = .ok (.iconst 2, 1) := by decide +kernel
theorem dX7_drift_30 : decode cX7_drift 30 = .ok (.iaload, 1) := by decide +kernel
theorem dX7_drift_31 : decode cX7_drift 31 = .ok (.i2l, 1) := by decide +kernel
theorem dX7_drift_32 : decode cX7_drift 32 = .ok (.ldc2_w 226, 3) := by decide +kernel
theorem dX7_drift_35 : decode cX7_drift 35 = .ok (.lmul, 1) := by decide +kernel
theorem dX7_drift_36 : decode cX7_drift 36 = .ok (.ldc2_w 228, 3) := by decide +kernel
theorem dX7_drift_39 : decode cX7_drift 39 = .ok (.ladd, 1) := by decide +kernel
theorem dX7_drift_40 : decode cX7_drift 40 = .ok (.ldc2_w 230, 3) := by decide +kernel
theorem dX7_drift_43 : decode cX7_drift 43 = .ok (.lrem, 1) := by decide +kernel
theorem dX7_drift_44 : decode cX7_drift 44 = .ok (.lstore_n 3, 1) := by decide +kernel
theorem dX7_drift_45 : decode cX7_drift 45 = .ok (.lload_n 3, 1) := by decide +kernel
theorem dX7_drift_46 : decode cX7_drift 46 = .ok (.ldc2_w 232, 3) := by decide +kernel
theorem dX7_drift_49 : decode cX7_drift 49 = .ok (.ldiv, 1) := by decide +kernel
theorem dX7_drift_50 : decode cX7_drift 50 = .ok (.l2i, 1) := by decide +kernel
theorem dX7_drift_51 : decode cX7_drift 51 = .ok (.istore 5, 2) := by decide +kernel
theorem dX7_drift_53 : decode cX7_drift 53 = .ok (.aload_n 0, 1) := by decide +kernel
theorem dX7_drift_54 : decode cX7_drift 54 = .ok (.getfield 7, 3) := by decide +kernel
theorem dX7_drift_57 : decode cX7_drift 57 = .ok (.iconst 2, 1) := by decide +kernel
theorem dX7_drift_58 : decode cX7_drift 58 = .ok (.lload_n 3, 1) := by decide +kernel
theorem dX7_drift_59 : decode cX7_drift 59 = .ok (.l2i, 1) := by decide +kernel
theorem dX7_drift_60 : decode cX7_drift 60 = .ok (.iastore, 1) := by decide +kernel
theorem dX7_drift_61 : decode cX7_drift 61 = .ok (.aload_n 0, 1) := by decide +kernel
theorem dX7_drift_62 : decode cX7_drift 62 = .ok (.getfield 7, 3) := by decide +kernel
theorem dX7_drift_65 : decode cX7_drift 65 = .ok (.bipush 14, 2) := by decide +kernel
theorem dX7_drift_67 : decode cX7_drift 67 = .ok (.bipush 8, 2) := by decide +kernel
theorem dX7_drift_69 : decode cX7_drift 69 = .ok (.iload 5, 2) := by decide +kernel
theorem dX7_drift_71 : decode cX7_drift 71 = .ok (.bipush 8, 2) := by decide +kernel
theorem dX7_drift_73 : decode cX7_drift 73 = .ok (.idiv, 1) := by decide +kernel
theorem dX7_drift_74 : decode cX7_drift 74 = .ok (.aload_n 0, 1) := by decide +kernel
theorem dX7_drift_75 : decode cX7_drift 75 = .ok (.getfield 7, 3) := by decide +kernel
theorem dX7_drift_78 : decode cX7_drift 78 = .ok (.iconst 1, 1) := by decide +kernel
theorem dX7_drift_79 : decode cX7_drift 79 = .ok (.iaload, 1) := by decide +kernel
theorem dX7_drift_80 : decode cX7_drift 80 = .ok (.irem, 1) := by decide +kernel
theorem dX7_drift_81 : decode cX7_drift 81 = .ok (.imul, 1) := by decide +kernel
theorem dX7_drift_82 : decode cX7_drift 82 = .ok (.iadd, 1) := by decide +kernel
theorem dX7_drift_83 : decode cX7_drift 83 = .ok (.iload 5, 2) := by decide +kernel
theorem dX7_drift_85 : decode cX7_drift 85 = .ok (.aload_n 0, 1) := by decide +kernel
theorem dX7_drift_86 : decode cX7_drift 86 = .ok (.getfield 7, 3) := by decide +kernel
theorem dX7_drift_89 : decode cX7_drift 89 = .ok (.iconst 0, 1) := by decide +kernel
theorem dX7_drift_90 : decode cX7_drift 90 = .ok (.iaload, 1) := by decide +kernel
theorem dX7_drift_91 : decode cX7_drift 91 = .ok (.irem, 1) := by decide +kernel
theorem dX7_drift_92 : decode cX7_drift 92 = .ok (.iadd, 1) := by decide +kernel
theorem dX7_drift_93 : decode cX7_drift 93 = .ok (.iload 5, 2) := by decide +kernel
theorem dX7_drift_95 : decode cX7_drift 95 = .ok (.bipush 64, 2) := by decide +kernel
theorem dX7_drift_97 : decode cX7_drift 97 = .ok (.idiv, 1) := by decide +kernel
theorem dX7_drift_98 : decode cX7_drift 98 = .ok (.bipush 32, 2) := by decide +kernel
theorem dX7_drift_100 : decode cX7_drift 100 = .ok (.irem, 1) := by decide +kernel
theorem dX7_drift_101 : decode cX7_drift 101 = .ok (.iastore, 1) := by decide +kernel
theorem dX7_drift_102 : decode cX7_drift 102 = .ok (.iinc 2 1, 3) := by decide +kernel
theorem dX7_drift_105 : decode cX7_drift 105 = .ok (.goto (-89), 3) := by decide +kernel
theorem dX7_drift_108 : decode cX7_drift 108 = .ok (.aload_n 0, 1) := by decide +kernel
theorem dX7_drift_109 : decode cX7_drift 109 = .ok (.invokevirtual 120, 3) := by decide +kernel
theorem dX7_drift_112 : decode cX7_drift 112 = .ok (.ireturn, 1) := by decide +kernel
theorem dX7_seed_0 : decode cX7_seed 0 = .ok (.iload_n 1, 1) := by decide +kernel
theorem dX7_seed_1 : decode cX7_seed 1 = .ok (.ifCond .ge 5, 3) := by decide +kernel
theorem dX7_seed_4 : decode cX7_seed 4 = .ok (.iconst (-1), 1) := by decide +kernel
theorem dX7_seed_5 : decode cX7_seed 5 = .ok (.ireturn, 1) := by decide +kernel
theorem dX7_seed_6 : decode cX7_seed 6 = .ok (.aload_n 0, 1) := by decide +kernel
theorem dX7_seed_7 : decode cX7_seed 7 = .ok (.getfield 7, 3) := by decide +kernel
theorem dX7_seed_10 : decode cX7_seed 10 = .ok (.iconst 2, 1) := by decide +kernel
theorem dX7_seed_11 : decode cX7_seed 11 = .ok (.iaload, 1) := by decide +kernel
theorem dX7_seed_12 : decode cX7_seed 12 = .ok (.istore_n 2, 1) := by decide +kernel
theorem dX7_seed_13 : decode cX7_seed 13 = .ok (.aload_n 0, 1) := by decide +kernel
theorem dX7_seed_14 : decode cX7_seed 14 = .ok (.getfield 7, 3) := by decide +kernel
theorem dX7_seed_17 : decode cX7_seed 17 = .ok (.iconst 2, 1) := by decide +kernel
theorem dX7_seed_18 : decode cX7_seed 18 = .ok (.iload_n 1, 1) := by decide +kernel
theorem dX7_seed_19 : decode cX7_seed 19 = .ok (.iastore, 1) := by decide +kernel
theorem dX7_seed_20 : decode cX7_seed 20 = .ok (.iload_n 2, 1) := by decide +kernel
theorem dX7_seed_21 : decode cX7_seed 21 = .ok (.ireturn, 1) := by decide +kernel
theorem dX7_type_0 : decode cX7_type 0 = .ok (.iload_n 1, 1) := by decide +kernel
theorem dX7_type_1 : decode cX7_type 1 = .ok (.i2l, 1) := by decide +kernel
theorem dX7_type_2 : decode cX7_type 2 = .ok (.ldc2_w 234, 3) := by decide +kernel
theorem dX7_type_5 : decode cX7_type 5 = .ok (.ldc2_w 236, 3) := by decide +kernel
theorem dX7_type_8 : decode cX7_type 8 = .ok (.invokestatic 59, 3) := by decide +kernel
theorem dX7_type_11 : decode cX7_type 11 = .ok (.ifCond .ne 5, 3) := by decide +kernel
theorem dX7_type_14 : decode cX7_type 14 = .ok (.iconst (-1), 1) := by decide +kernel
theorem dX7_type_15 : decode cX7_type 15 = .ok (.ireturn, 1) := by decide +kernel
theorem dX7_type_16 : decode cX7_type 16 = .ok (.aload_n 0, 1) := by decide +kernel
theorem dX7_type_17 : decode cX7_type 17 = .ok (.getfield 238, 3) := by decide +kernel
theorem dX7_type_20 : decode cX7_type 20 = .ok (.bipush 100, 2) := by decide +kernel
theorem dX7_type_22 : decode cX7_type 22 = .ok (.if_icmp .ne 6, 3) := by decide +kernel
theorem dX7_type_25 : decode cX7_type 25 = .ok (.bipush (-3), 2) := by decide +kernel
theorem dX7_type_27 : decode cX7_type 27 = .ok (.ireturn, 1) := by decide +kernel
theorem dX7_type_28 : decode cX7_type 28 = .ok (.aload_n 0, 1) := by decide +kernel
theorem dX7_type_29 : decode cX7_type 29 = .ok (.getfield 28, 3) := by decide +kernel
theorem dX7_type_32 : decode cX7_type 32 = .ok (.aload_n 0, 1) := by decide +kernel
theorem dX7_type_33 : decode cX7_type 33 = .ok (.getfield 238, 3) := by decide +kernel
theorem dX7_type_36 : decode cX7_type 36 = .ok (.iload_n 1, 1) := by decide +kernel
theorem dX7_type_37 : decode cX7_type 37 = .ok (.iastore, 1) := by decide +kernel
theorem dX7_type_38 : decode cX7_type 38 = .ok (.aload_n 0, 1) := by decide +kernel
theorem dX7_type_39 : decode cX7_type 39 = .ok (.dup, 1) := by decide +kernel
theorem dX7_type_40 : decode cX7_type 40 = .ok (.getfield 238, 3) := by decide +kernel
theorem dX7_type_43 : decode cX7_type 43 = .ok (.iconst 1, 1) := by decide +kernel
theorem dX7_type_44 : decode cX7_type 44 = .ok (.iadd, 1) := by decide +kernel
theorem dX7_type_45 : decode cX7_type 45 = .ok (.putfield 238, 3) := by decide +kernel
theorem dX7_type_48 : decode cX7_type 48 = .ok (.aload_n 0, 1) := by decide +kernel
theorem dX7_type_49 : decode cX7_type 49 = .ok (.getfield 238, 3) := by decide +kernel
theorem dX7_type_52 : decode cX7_type 52 = .ok (.ireturn, 1) := by decide +kernel
theorem dX7_here_0 : decode cX7_here 0 = .ok (.aload_n 0, 1) := by decide +kernel
theorem dX7_here_1 : decode cX7_here 1 = .ok (.getfield 241, 3) := by decide +kernel
theorem dX7_here_4 : decode cX7_here 4 = .ok (.aload_n 0, 1) := by decide +kernel
theorem dX7_here_5 : decode cX7_here 5 = .ok (.getfield 238, 3) := by decide +kernel
theorem dX7_here_8 : decode cX7_here 8 = .ok (.if_icmp .ge 30, 3) := by decide +kernel
theorem dX7_here_11 : decode cX7_here 11 = .ok (.aload_n 0, 1) := by decide +kernel
theorem dX7_here_12 : decode cX7_here 12 = .ok (.getfield 28, 3) := by decide +kernel
theorem dX7_here_15 : decode cX7_here 15 = .ok (.aload_n 0, 1) := by decide +kernel
theorem dX7_here_16 : decode cX7_here 16 = .ok (.getfield 241, 3) := by decide +kernel
theorem dX7_here_19 : decode cX7_here 19 = .ok (.iaload, 1) := by decide +kernel
theorem dX7_here_20 : decode cX7_here 20 = .ok (.bipush 32, 2) := by decide +kernel
theorem dX7_here_22 : decode cX7_here 22 = .ok (.if_icmp .ne 16, 3) := by decide +kernel
theorem dX7_here_25 : decode cX7_here 25 = .ok (.aload_n 0, 1) := by decide +kernel
theorem dX7_here_26 : decode cX7_here 26 = .ok (.dup, 1) := by decide +kernel
theorem dX7_here_27 : decode cX7_here 27 = .ok (.getfield 241, 3) := by decide +kernel
theorem dX7_here_30 : decode cX7_here 30 = .ok (.iconst 1, 1) := by decide +kernel
theorem dX7_here_31 : decode cX7_here 31 = .ok (.iadd, 1) := by decide +kernel
theorem dX7_here_32 : decode cX7_here 32 = .ok (.putfield 241, 3) := by decide +kernel
theorem dX7_here_35 : decode cX7_here 35 = .ok (.goto (-35), 3) := by decide +kernel
theorem dX7_here_38 : decode cX7_here 38 = .ok (.aload_n 0, 1) := by decide +kernel
theorem dX7_here_39 : decode cX7_here 39 = .ok (.getfield 241, 3) := by decide +kernel
theorem dX7_here_42 : decode cX7_here 42 = .ok (.aload_n 0, 1) := by decide +kernel
theorem dX7_here_43 : decode cX7_here 43 = .ok (.getfield 238, 3) := by decide +kernel
theorem dX7_here_46 : decode cX7_here 46 = .ok (.if_icmp .ge 15, 3) := by decide +kernel
theorem dX7_here_49 : decode cX7_here 49 = .ok (.aload_n 0, 1) := by decide +kernel
theorem dX7_here_50 : decode cX7_here 50 = .ok (.getfield 28, 3) := by decide +kernel
theorem dX7_here_53 : decode cX7_here 53 = .ok (.aload_n 0, 1) := by decide +kernel
theorem dX7_here_54 : decode cX7_here 54 = .ok (.getfield 241, 3) := by decide +kernel
theorem dX7_here_57 : decode cX7_here 57 = .ok (.iaload, 1) := by decide +kernel
theorem dX7_here_58 : decode cX7_here 58 = .ok (.goto 4, 3) := by decide +kernel
theorem dX7_here_61 : decode cX7_here 61 = .ok (.iconst 0, 1) := by decide +kernel
theorem dX7_here_62 : decode cX7_here 62 = .ok (.ireturn, 1) := by decide +kernel
theorem dX7_isRun_0 : decode cX7_isRun 0 = .ok (.aload_n 0, 1) := by decide +kernel
theorem dX7_isRun_1 : decode cX7_isRun 1 = .ok (.invokevirtual 244, 3) := by decide +kernel
theorem dX7_isRun_4 : decode cX7_isRun 4 = .ok (.i2l, 1) := by decide +kernel
theorem dX7_isRun_5 : decode cX7_isRun 5 = .ok (.ldc2_w 247, 3) := by decide +kernel
theorem dX7_isRun_8 : decode cX7_isRun 8 = .ok (.ldc2_w 249, 3) := by decide +kernel
theorem dX7_isRun_11 : decode cX7_isRun 11 = .ok (.invokestatic 59, 3) := by decide +kernel
theorem dX7_isRun_14 : decode cX7_isRun 14 = .ok (.ifCond .ne 38, 3) := by decide +kernel
theorem dX7_isRun_17 : decode cX7_isRun 17 = .ok (.aload_n 0, 1) := by decide +kernel
theorem dX7_isRun_18 : decode cX7_isRun 18 = .ok (.invokevirtual 244, 3) := by decide +kernel
theorem dX7_isRun_21 : decode cX7_isRun 21 = .ok (.bipush 46, 2) := by decide +kernel
theorem dX7_isRun_23 : decode cX7_isRun 23 = .ok (.if_icmp .eq 29, 3) := by decide +kernel
theorem dX7_isRun_26 : decode cX7_isRun 26 = .ok (.aload_n 0, 1) := by decide +kernel
theorem dX7_isRun_27 : decode cX7_isRun 27 = .ok (.invokevirtual 244, 3) := by decide +kernel
theorem dX7_isRun_30 : decode cX7_isRun 30 = .ok (.bipush 40, 2) := by decide +kernel
theorem dX7_isRun_32 : decode cX7_isRun 32 = .ok (.if_icmp .eq 20, 3) := by decide +kernel
theorem dX7_isRun_35 : decode cX7_isRun 35 = .ok (.aload_n 0, 1) := by decide +kernel
theorem dX7_isRun_36 : decode cX7_isRun 36 = .ok (.invokevirtual 244, 3) := by decide +kernel
theorem dX7_isRun_39 : decode cX7_isRun 39 = .ok (.i2l, 1) := by decide +kernel
theorem dX7_isRun_40 : decode cX7_isRun 40 = .ok (.ldc2_w 251, 3) := by decide +kernel
theorem dX7_isRun_43 : decode cX7_isRun 43 = .ok (.ldc2_w 253, 3) := by decide +kernel
theorem dX7_isRun_46 : decode cX7_isRun 46 = .ok (.invokestatic 59, 3) := by decide +kernel
theorem dX7_isRun_49 : decode cX7_isRun 49 = .ok (.ifCond .eq 7, 3) := by decide +kernel
theorem dX7_isRun_52 : decode cX7_isRun 52 = .ok (.iconst 1, 1) := by decide +kernel
theorem dX7_isRun_53 : decode cX7_isRun 53 = .ok (.goto 4, 3) := by decide +kernel
theorem dX7_isRun_56 : decode cX7_isRun 56 = .ok (.iconst 0, 1) := by decide +kernel
theorem dX7_isRun_57 : decode cX7_isRun 57 = .ok (.ireturn, 1) := by decide +kernel
theorem dX7_readsSet_0 : decode cX7_readsSet 0 = .ok (.aload_n 0, 1) := by decide +kernel
theorem dX7_readsSet_1 : decode cX7_readsSet 1 = .ok (.invokevirtual 244, 3) := by decide +kernel
theorem dX7_readsSet_4 : decode cX7_readsSet 4 = .ok (.istore_n 1, 1) := by decide +kernel
theorem dX7_readsSet_5 : decode cX7_readsSet 5 = .ok (.iload_n 1, 1) := by decide +kernel
theorem dX7_readsSet_6 : decode cX7_readsSet 6 = .ok (.bipush 46, 2) := by decide +kernel
theorem dX7_readsSet_8 : decode cX7_readsSet 8 = .ok (.if_icmp .eq 25, 3) := by decide +kernel
theorem dX7_readsSet_11 : decode cX7_readsSet 11 = .ok (.iload_n 1, 1) := by decide +kernel
theorem dX7_readsSet_12 : decode cX7_readsSet 12 = .ok (.bipush 40, 2) := by decide +kernel
theorem dX7_readsSet_14 : decode cX7_readsSet 14 = .ok (.if_icmp .eq 19, 3) := by decide +kernel
theorem dX7_readsSet_17 : decode cX7_readsSet 17 = .ok (.iload_n 1, 1) := by decide +kernel
theorem dX7_readsSet_18 : decode cX7_readsSet 18 = .ok (.i2l, 1) := by decide +kernel
theorem dX7_readsSet_19 : decode cX7_readsSet 19 = .ok (.ldc2_w 251, 3) := by decide +kernel
theorem dX7_readsSet_22 : decode cX7_readsSet 22 = .ok (.ldc2_w 253, 3) := by decide +kernel
theorem dX7_readsSet_25 : decode cX7_readsSet 25 = .ok (.invokestatic 59, 3) := by decide +kernel
theorem dX7_readsSet_28 : decode cX7_readsSet 28 = .ok (.ifCond .ne 5, 3) := by decide +kernel
theorem dX7_readsSet_31 : decode cX7_readsSet 31 = .ok (.iconst (-1), 1) := by decide +kernel
theorem dX7_readsSet_32 : decode cX7_readsSet 32 = .ok (.ireturn, 1) := by decide +kernel
theorem dX7_readsSet_33 : decode cX7_readsSet 33 = .ok (.aload_n 0, 1) := by decide +kernel
theorem dX7_readsSet_34 : decode cX7_readsSet 34 = .ok (.dup, 1) := by decide +kernel
theorem dX7_readsSet_35 : decode cX7_readsSet 35 = .ok (.getfield 241, 3) := by decide +kernel
theorem dX7_readsSet_38 : decode cX7_readsSet 38 = .ok (.iconst 1, 1) := by decide +kernel
theorem dX7_readsSet_39 : decode cX7_readsSet 39 = .ok (.iadd, 1) := by decide +kernel
theorem dX7_readsSet_40 : decode cX7_readsSet 40 = .ok (.putfield 241, 3) := by decide +kernel
theorem dX7_readsSet_43 : decode cX7_readsSet 43 = .ok (.iload_n 1, 1) := by decide +kernel
theorem dX7_readsSet_44 : decode cX7_readsSet 44 = .ok (.bipush 40, 2) := by decide +kernel
theorem dX7_readsSet_46 : decode cX7_readsSet 46 = .ok (.if_icmp .eq 20, 3) := by decide +kernel
theorem dX7_readsSet_49 : decode cX7_readsSet 49 = .ok (.iload_n 1, 1) := by decide +kernel
theorem dX7_readsSet_50 : decode cX7_readsSet 50 = .ok (.bipush 46, 2) := by decide +kernel
theorem dX7_readsSet_52 : decode cX7_readsSet 52 = .ok (.if_icmp .ne 7, 3) := by decide +kernel
theorem dX7_readsSet_55 : decode cX7_readsSet 55 = .ok (.iconst 0, 1) := by decide +kernel
theorem dX7_readsSet_56 : decode cX7_readsSet 56 = .ok (.goto 9, 3) := by decide +kernel
theorem dX7_readsSet_59 : decode cX7_readsSet 59 = .ok (.iconst 1, 1) := by decide +kernel
theorem dX7_readsSet_60 : decode cX7_readsSet 60 = .ok (.iload_n 1, 1) := by decide +kernel
theorem dX7_readsSet_61 : decode cX7_readsSet 61 = .ok (.bipush 97, 2) := by decide +kernel
theorem dX7_readsSet_63 : decode cX7_readsSet 63 = .ok (.isub, 1) := by decide +kernel
theorem dX7_readsSet_64 : decode cX7_readsSet 64 = .ok (.ishl, 1) := by decide +kernel
theorem dX7_readsSet_65 : decode cX7_readsSet 65 = .ok (.ireturn, 1) := by decide +kernel
theorem dX7_readsSet_66 : decode cX7_readsSet 66 = .ok (.iconst 0, 1) := by decide +kernel
theorem dX7_readsSet_67 : decode cX7_readsSet 67 = .ok (.istore_n 2, 1) := by decide +kernel
theorem dX7_readsSet_68 : decode cX7_readsSet 68 = .ok (.aload_n 0, 1) := by decide +kernel
theorem dX7_readsSet_69 : decode cX7_readsSet 69 = .ok (.invokevirtual 244, 3) := by decide +kernel
theorem dX7_readsSet_72 : decode cX7_readsSet 72 = .ok (.i2l, 1) := by decide +kernel
theorem dX7_readsSet_73 : decode cX7_readsSet 73 = .ok (.ldc2_w 251, 3) := by decide +kernel
theorem dX7_readsSet_76 : decode cX7_readsSet 76 = .ok (.ldc2_w 253, 3) := by decide +kernel
theorem dX7_readsSet_79 : decode cX7_readsSet 79 = .ok (.invokestatic 59, 3) := by decide +kernel
theorem dX7_readsSet_82 : decode cX7_readsSet 82 = .ok (.ifCond .eq 28, 3) := by decide +kernel
theorem dX7_readsSet_85 : decode cX7_readsSet 85 = .ok (.iload_n 2, 1) := by decide +kernel
theorem dX7_readsSet_86 : decode cX7_readsSet 86 = .ok (.iconst 1, 1) := by decide +kernel
theorem dX7_readsSet_87 : decode cX7_readsSet 87 = .ok (.aload_n 0, 1) := by decide +kernel
theorem dX7_readsSet_88 : decode cX7_readsSet 88 = .ok (.invokevirtual 244, 3) := by decide +kernel
theorem dX7_readsSet_91 : decode cX7_readsSet 91 = .ok (.bipush 97, 2) := by decide +kernel
theorem dX7_readsSet_93 : decode cX7_readsSet 93 = .ok (.isub, 1) := by decide +kernel
theorem dX7_readsSet_94 : decode cX7_readsSet 94 = .ok (.ishl, 1) := by decide +kernel
theorem dX7_readsSet_95 : decode cX7_readsSet 95 = .ok (.ior, 1) := by decide +kernel
theorem dX7_readsSet_96 : decode cX7_readsSet 96 = .ok (.istore_n 2, 1) := by decide +kernel
theorem dX7_readsSet_97 : decode cX7_readsSet 97 = .ok (.aload_n 0, 1) := by decide +kernel
theorem dX7_readsSet_98 : decode cX7_readsSet 98 = .ok (.dup, 1) := by decide +kernel
theorem dX7_readsSet_99 : decode cX7_readsSet 99 = .ok (.getfield 241, 3) := by decide +kernel
theorem dX7_readsSet_102 : decode cX7_readsSet 102 = .ok (.iconst 1, 1) := by decide +kernel
theorem dX7_readsSet_103 : decode cX7_readsSet 103 = .ok (.iadd, 1) := by decide +kernel
theorem dX7_readsSet_104 : decode cX7_readsSet 104 = .ok (.putfield 241, 3) := by decide +kernel
theorem dX7_readsSet_107 : decode cX7_readsSet 107 = .ok (.goto (-39), 3) := by decide +kernel
theorem dX7_readsSet_110 : decode cX7_readsSet 110 = .ok (.iload_n 2, 1) := by decide +kernel
theorem dX7_readsSet_111 : decode cX7_readsSet 111 = .ok (.ifCond .eq 12, 3) := by decide +kernel
theorem dX7_readsSet_114 : decode cX7_readsSet 114 = .ok (.aload_n 0, 1) := by decide +kernel
theorem dX7_readsSet_115 : decode cX7_readsSet 115 = .ok (.invokevirtual 244, 3) := by decide +kernel
theorem dX7_readsSet_118 : decode cX7_readsSet 118 = .ok (.bipush 41, 2) := by decide +kernel
theorem dX7_readsSet_120 : decode cX7_readsSet 120 = .ok (.if_icmp .eq 5, 3) := by decide +kernel
theorem dX7_readsSet_123 : decode cX7_readsSet 123 = .ok (.iconst (-1), 1) := by decide +kernel
theorem dX7_readsSet_124 : decode cX7_readsSet 124 = .ok (.ireturn, 1) := by decide +kernel
theorem dX7_readsSet_125 : decode cX7_readsSet 125 = .ok (.aload_n 0, 1) := by decide +kernel
theorem dX7_readsSet_126 : decode cX7_readsSet 126 = .ok (.dup, 1) := by decide +kernel
theorem dX7_readsSet_127 : decode cX7_readsSet 127 = .ok (.getfield 241, 3) := by decide +kernel
theorem dX7_readsSet_130 : decode cX7_readsSet 130 = .ok (.iconst 1, 1) := by decide +kernel
theorem dX7_readsSet_131 : decode cX7_readsSet 131 = .ok (.iadd, 1) := by decide +kernel
theorem dX7_readsSet_132 : decode cX7_readsSet 132 = .ok (.putfield 241, 3) := by decide +kernel
theorem dX7_readsSet_135 : decode cX7_readsSet 135 = .ok (.iload_n 2, 1) := by decide +kernel
theorem dX7_readsSet_136 : decode cX7_readsSet 136 = .ok (.ireturn, 1) := by decide +kernel
theorem dX7_readsRun_0 : decode cX7_readsRun 0 = .ok (.aload_n 0, 1) := by decide +kernel
theorem dX7_readsRun_1 : decode cX7_readsRun 1 = .ok (.invokevirtual 244, 3) := by decide +kernel
theorem dX7_readsRun_4 : decode cX7_readsRun 4 = .ok (.istore_n 2, 1) := by decide +kernel
theorem dX7_readsRun_5 : decode cX7_readsRun 5 = .ok (.iload_n 2, 1) := by decide +kernel
theorem dX7_readsRun_6 : decode cX7_readsRun 6 = .ok (.i2l, 1) := by decide +kernel
theorem dX7_readsRun_7 : decode cX7_readsRun 7 = .ok (.ldc2_w 247, 3) := by decide +kernel
theorem dX7_readsRun_10 : decode cX7_readsRun 10 = .ok (.ldc2_w 249, 3) := by decide +kernel
theorem dX7_readsRun_13 : decode cX7_readsRun 13 = .ok (.invokestatic 59, 3) := by decide +kernel
theorem dX7_readsRun_16 : decode cX7_readsRun 16 = .ok (.ifCond .eq 10, 3) := by decide +kernel
theorem dX7_readsRun_19 : decode cX7_readsRun 19 = .ok (.iload_n 2, 1) := by decide +kernel
theorem dX7_readsRun_20 : decode cX7_readsRun 20 = .ok (.bipush 48, 2) := by decide +kernel
theorem dX7_readsRun_22 : decode cX7_readsRun 22 = .ok (.isub, 1) := by decide +kernel
theorem dX7_readsRun_23 : decode cX7_readsRun 23 = .ok (.goto 4, 3) := by decide +kernel
theorem dX7_readsRun_26 : decode cX7_readsRun 26 = .ok (.iconst 1, 1) := by decide +kernel
theorem dX7_readsRun_27 : decode cX7_readsRun 27 = .ok (.istore_n 3, 1) := by decide +kernel
theorem dX7_readsRun_28 : decode cX7_readsRun 28 = .ok (.iload_n 3, 1) := by decide +kernel
theorem dX7_readsRun_29 : decode cX7_readsRun 29 = .ok (.iload_n 1, 1) := by decide +kernel
theorem dX7_readsRun_30 : decode cX7_readsRun 30 = .ok (.if_icmp .le 5, 3) := by decide +kernel
theorem dX7_readsRun_33 : decode cX7_readsRun 33 = .ok (.iconst 0, 1) := by decide +kernel
theorem dX7_readsRun_34 : decode cX7_readsRun 34 = .ok (.ireturn, 1) := by decide +kernel
theorem dX7_readsRun_35 : decode cX7_readsRun 35 = .ok (.aload_n 0, 1) := by decide +kernel
theorem dX7_readsRun_36 : decode cX7_readsRun 36 = .ok (.dup, 1) := by decide +kernel
theorem dX7_readsRun_37 : decode cX7_readsRun 37 = .ok (.getfield 241, 3) := by decide +kernel
theorem dX7_readsRun_40 : decode cX7_readsRun 40 = .ok (.iload_n 2, 1) := by decide +kernel
theorem dX7_readsRun_41 : decode cX7_readsRun 41 = .ok (.i2l, 1) := by decide +kernel
theorem dX7_readsRun_42 : decode cX7_readsRun 42 = .ok (.ldc2_w 247, 3) := by decide +kernel
theorem dX7_readsRun_45 : decode cX7_readsRun 45 = .ok (.ldc2_w 249, 3) := by decide +kernel
theorem dX7_readsRun_48 : decode cX7_readsRun 48 = .ok (.invokestatic 59, 3) := by decide +kernel
theorem dX7_readsRun_51 : decode cX7_readsRun 51 = .ok (.ifCond .eq 7, 3) := by decide +kernel
theorem dX7_readsRun_54 : decode cX7_readsRun 54 = .ok (.iconst 1, 1) := by decide +kernel
theorem dX7_readsRun_55 : decode cX7_readsRun 55 = .ok (.goto 4, 3) := by decide +kernel
theorem dX7_readsRun_58 : decode cX7_readsRun 58 = .ok (.iconst 0, 1) := by decide +kernel
theorem dX7_readsRun_59 : decode cX7_readsRun 59 = .ok (.iadd, 1) := by decide +kernel
theorem dX7_readsRun_60 : decode cX7_readsRun 60 = .ok (.putfield 241, 3) := by decide +kernel
theorem dX7_readsRun_63 : decode cX7_readsRun 63 = .ok (.aload_n 0, 1) := by decide +kernel
theorem dX7_readsRun_64 : decode cX7_readsRun 64 = .ok (.invokevirtual 255, 3) := by decide +kernel
theorem dX7_readsRun_67 : decode cX7_readsRun 67 = .ok (.istore 4, 2) := by decide +kernel
theorem dX7_readsRun_69 : decode cX7_readsRun 69 = .ok (.iconst 0, 1) := by decide +kernel
theorem dX7_readsRun_70 : decode cX7_readsRun 70 = .ok (.istore 5, 2) := by decide +kernel
theorem dX7_readsRun_72 : decode cX7_readsRun 72 = .ok (.iload 5, 2) := by decide +kernel
theorem dX7_readsRun_74 : decode cX7_readsRun 74 = .ok (.iload_n 3, 1) := by decide +kernel
theorem dX7_readsRun_75 : decode cX7_readsRun 75 = .ok (.if_icmp .ge 43, 3) := by decide +kernel
theorem dX7_readsRun_78 : decode cX7_readsRun 78 = .ok (.iload 4, 2) := by decide +kernel
theorem dX7_readsRun_80 : decode cX7_readsRun 80 = .ok (.ifCond .lt 38, 3) := by decide +kernel
theorem dX7_readsRun_83 : decode cX7_readsRun 83 = .ok (.aload_n 0, 1) := by decide +kernel
theorem dX7_readsRun_84 : decode cX7_readsRun 84 = .ok (.getfield 31, 3) := by decide +kernel
theorem dX7_readsRun_87 : decode cX7_readsRun 87 = .ok (.bipush 8, 2) := by decide +kernel
theorem dX7_readsRun_89 : decode cX7_readsRun 89 = .ok (.aload_n 0, 1) := by decide +kernel
theorem dX7_readsRun_90 : decode cX7_readsRun 90 = .ok (.getfield 258, 3) := by decide +kernel
theorem dX7_readsRun_93 : decode cX7_readsRun 93 = .ok (.imul, 1) := by decide +kernel
theorem dX7_readsRun_94 : decode cX7_readsRun 94 = .ok (.aload_n 0, 1) := by decide +kernel
theorem dX7_readsRun_95 : decode cX7_readsRun 95 = .ok (.getfield 261, 3) := by decide +kernel
theorem dX7_readsRun_98 : decode cX7_readsRun 98 = .ok (.iadd, 1) := by decide +kernel
theorem dX7_readsRun_99 : decode cX7_readsRun 99 = .ok (.iload 4, 2) := by decide +kernel
theorem dX7_readsRun_101 : decode cX7_readsRun 101 = .ok (.iastore, 1) := by decide +kernel
theorem dX7_readsRun_102 : decode cX7_readsRun 102 = .ok (.aload_n 0, 1) := by decide +kernel
theorem dX7_readsRun_103 : decode cX7_readsRun 103 = .ok (.dup, 1) := by decide +kernel
theorem dX7_readsRun_104 : decode cX7_readsRun 104 = .ok (.getfield 261, 3) := by decide +kernel
theorem dX7_readsRun_107 : decode cX7_readsRun 107 = .ok (.iconst 1, 1) := by decide +kernel
theorem dX7_readsRun_108 : decode cX7_readsRun 108 = .ok (.iadd, 1) := by decide +kernel
theorem dX7_readsRun_109 : decode cX7_readsRun 109 = .ok (.putfield 261, 3) := by decide +kernel
theorem dX7_readsRun_112 : decode cX7_readsRun 112 = .ok (.iinc 5 1, 3) := by decide +kernel
theorem dX7_readsRun_115 : decode cX7_readsRun 115 = .ok (.goto (-43), 3) := by decide +kernel
theorem dX7_readsRun_118 : decode cX7_readsRun 118 = .ok (.iload 4, 2) := by decide +kernel
theorem dX7_readsRun_120 : decode cX7_readsRun 120 = .ok (.ifCond .lt 7, 3) := by decide +kernel
theorem dX7_readsRun_123 : decode cX7_readsRun 123 = .ok (.iconst 1, 1) := by decide +kernel
theorem dX7_readsRun_124 : decode cX7_readsRun 124 = .ok (.goto 4, 3) := by decide +kernel
theorem dX7_readsRun_127 : decode cX7_readsRun 127 = .ok (.iconst 0, 1) := by decide +kernel
theorem dX7_readsRun_128 : decode cX7_readsRun 128 = .ok (.ireturn, 1) := by decide +kernel
theorem dX7_readsLine_0 : decode cX7_readsLine 0 = .ok (.aload_n 0, 1) := by decide +kernel
theorem dX7_readsLine_1 : decode cX7_readsLine 1 = .ok (.getfield 258, 3) := by decide +kernel
theorem dX7_readsLine_4 : decode cX7_readsLine 4 = .ok (.ifCond .ne 8, 3) := by decide +kernel
theorem dX7_readsLine_7 : decode cX7_readsLine 7 = .ok (.bipush 8, 2) := by decide +kernel
theorem dX7_readsLine_9 : decode cX7_readsLine 9 = .ok (.goto 7, 3) := by decide +kernel
theorem dX7_readsLine_12 : decode cX7_readsLine 12 = .ok (.aload_n 0, 1) := by decide +kernel
theorem dX7_readsLine_13 : decode cX7_readsLine 13 = .ok (.getfield 264, 3) := by decide +kernel
theorem dX7_readsLine_16 : decode cX7_readsLine 16 = .ok (.istore_n 1, 1) := by decide +kernel
theorem dX7_readsLine_17 : decode cX7_readsLine 17 = .ok (.iconst 1, 1) := by decide +kernel
theorem dX7_readsLine_18 : decode cX7_readsLine 18 = .ok (.istore_n 2, 1) := by decide +kernel
theorem dX7_readsLine_19 : decode cX7_readsLine 19 = .ok (.aload_n 0, 1) := by decide +kernel
theorem dX7_readsLine_20 : decode cX7_readsLine 20 = .ok (.iconst 0, 1) := by decide +kernel
theorem dX7_readsLine_21 : decode cX7_readsLine 21 = .ok (.putfield 261, 3) := by decide +kernel
theorem dX7_readsLine_24 : decode cX7_readsLine 24 = .ok (.iload_n 2, 1) := by decide +kernel
theorem dX7_readsLine_25 : decode cX7_readsLine 25 = .ok (.ifCond .eq 24, 3) := by decide +kernel
theorem dX7_readsLine_28 : decode cX7_readsLine 28 = .ok (.aload_n 0, 1) := by decide +kernel
theorem dX7_readsLine_29 : decode cX7_readsLine 29 = .ok (.invokevirtual 267, 3) := by decide +kernel
theorem dX7_readsLine_32 : decode cX7_readsLine 32 = .ok (.ifCond .eq 17, 3) := by decide +kernel
theorem dX7_readsLine_35 : decode cX7_readsLine 35 = .ok (.aload_n 0, 1) := by decide +kernel
theorem dX7_readsLine_36 : decode cX7_readsLine 36 = .ok (.iload_n 1, 1) := by decide +kernel
theorem dX7_readsLine_37 : decode cX7_readsLine 37 = .ok (.aload_n 0, 1) := by decide +kernel
theorem dX7_readsLine_38 : decode cX7_readsLine 38 = .ok (.getfield 261, 3) := by decide +kernel
theorem dX7_readsLine_41 : decode cX7_readsLine 41 = .ok (.isub, 1) := by decide +kernel
theorem dX7_readsLine_42 : decode cX7_readsLine 42 = .ok (.invokevirtual 271, 3) := by decide +kernel
theorem dX7_readsLine_45 : decode cX7_readsLine 45 = .ok (.istore_n 2, 1) := by decide +kernel
theorem dX7_readsLine_46 : decode cX7_readsLine 46 = .ok (.goto (-22), 3) := by decide +kernel
theorem dX7_readsLine_49 : decode cX7_readsLine 49 = .ok (.iload_n 2, 1) := by decide +kernel
theorem dX7_readsLine_50 : decode cX7_readsLine 50 = .ok (.ifCond .eq 32, 3) := by decide +kernel
theorem dX7_readsLine_53 : decode cX7_readsLine 53 = .ok (.aload_n 0, 1) := by decide +kernel
theorem dX7_readsLine_54 : decode cX7_readsLine 54 = .ok (.getfield 261, 3) := by decide +kernel
theorem dX7_readsLine_57 : decode cX7_readsLine 57 = .ok (.ifCond .le 25, 3) := by decide +kernel
theorem dX7_readsLine_60 : decode cX7_readsLine 60 = .ok (.aload_n 0, 1) := by decide +kernel
theorem dX7_readsLine_61 : decode cX7_readsLine 61 = .ok (.getfield 258, 3) := by decide +kernel
theorem dX7_readsLine_64 : decode cX7_readsLine 64 = .ok (.ifCond .eq 14, 3) := by decide +kernel
theorem dX7_readsLine_67 : decode cX7_readsLine 67 = .ok (.aload_n 0, 1) := by decide +kernel
theorem dX7_readsLine_68 : decode cX7_readsLine 68 = .ok (.getfield 261, 3) := by decide +kernel
theorem dX7_readsLine_71 : decode cX7_readsLine 71 = .ok (.aload_n 0, 1) := by decide +kernel
theorem dX7_readsLine_72 : decode cX7_readsLine 72 = .ok (.getfield 264, 3) := by decide +kernel
theorem dX7_readsLine_75 : decode cX7_readsLine 75 = .ok (.if_icmp .ne 7, 3) := by decide +kernel
theorem dX7_readsLine_78 : decode cX7_readsLine 78 = .ok (.iconst 1, 1) := by decide +kernel
theorem dX7_readsLine_79 : decode cX7_readsLine 79 = .ok (.goto 4, 3) := by decide +kernel
theorem dX7_readsLine_82 : decode cX7_readsLine 82 = .ok (.iconst 0, 1) := by decide +kernel
theorem dX7_readsLine_83 : decode cX7_readsLine 83 = .ok (.istore_n 2, 1) := by decide +kernel
theorem dX7_readsLine_84 : decode cX7_readsLine 84 = .ok (.aload_n 0, 1) := by decide +kernel
theorem dX7_readsLine_85 : decode cX7_readsLine 85 = .ok (.aload_n 0, 1) := by decide +kernel
theorem dX7_readsLine_86 : decode cX7_readsLine 86 = .ok (.getfield 261, 3) := by decide +kernel
theorem dX7_readsLine_89 : decode cX7_readsLine 89 = .ok (.putfield 264, 3) := by decide +kernel
theorem dX7_readsLine_92 : decode cX7_readsLine 92 = .ok (.aload_n 0, 1) := by decide +kernel
theorem dX7_readsLine_93 : decode cX7_readsLine 93 = .ok (.dup, 1) := by decide +kernel
theorem dX7_readsLine_94 : decode cX7_readsLine 94 = .ok (.getfield 258, 3) := by decide +kernel
theorem dX7_readsLine_97 : decode cX7_readsLine 97 = .ok (.iconst 1, 1) := by decide +kernel
theorem dX7_readsLine_98 : decode cX7_readsLine 98 = .ok (.iadd, 1) := by decide +kernel
theorem dX7_readsLine_99 : decode cX7_readsLine 99 = .ok (.putfield 258, 3) := by decide +kernel
theorem dX7_readsLine_102 : decode cX7_readsLine 102 = .ok (.iload_n 2, 1) := by decide +kernel
theorem dX7_readsLine_103 : decode cX7_readsLine 103 = .ok (.ireturn, 1) := by decide +kernel
theorem dX7_isText_0 : decode cX7_isText 0 = .ok (.aload_n 0, 1) := by decide +kernel
theorem dX7_isText_1 : decode cX7_isText 1 = .ok (.iconst 0, 1) := by decide +kernel
theorem dX7_isText_2 : decode cX7_isText 2 = .ok (.putfield 241, 3) := by decide +kernel
theorem dX7_isText_5 : decode cX7_isText 5 = .ok (.aload_n 0, 1) := by decide +kernel
theorem dX7_isText_6 : decode cX7_isText 6 = .ok (.iconst 0, 1) := by decide +kernel
theorem dX7_isText_7 : decode cX7_isText 7 = .ok (.putfield 258, 3) := by decide +kernel
theorem dX7_isText_10 : decode cX7_isText 10 = .ok (.aload_n 0, 1) := by decide +kernel
theorem dX7_isText_11 : decode cX7_isText 11 = .ok (.invokevirtual 274, 3) := by decide +kernel
theorem dX7_isText_14 : decode cX7_isText 14 = .ok (.istore_n 1, 1) := by decide +kernel
theorem dX7_isText_15 : decode cX7_isText 15 = .ok (.iload_n 1, 1) := by decide +kernel
theorem dX7_isText_16 : decode cX7_isText 16 = .ok (.ifCond .eq 39, 3) := by decide +kernel
theorem dX7_isText_19 : decode cX7_isText 19 = .ok (.aload_n 0, 1) := by decide +kernel
theorem dX7_isText_20 : decode cX7_isText 20 = .ok (.getfield 258, 3) := by decide +kernel
theorem dX7_isText_23 : decode cX7_isText 23 = .ok (.bipush 6, 2) := by decide +kernel
theorem dX7_isText_25 : decode cX7_isText 25 = .ok (.if_icmp .ge 30, 3) := by decide +kernel
theorem dX7_isText_28 : decode cX7_isText 28 = .ok (.aload_n 0, 1) := by decide +kernel
theorem dX7_isText_29 : decode cX7_isText 29 = .ok (.invokevirtual 244, 3) := by decide +kernel
theorem dX7_isText_32 : decode cX7_isText 32 = .ok (.bipush 47, 2) := by decide +kernel
theorem dX7_isText_34 : decode cX7_isText 34 = .ok (.if_icmp .ne 21, 3) := by decide +kernel
theorem dX7_isText_37 : decode cX7_isText 37 = .ok (.aload_n 0, 1) := by decide +kernel
theorem dX7_isText_38 : decode cX7_isText 38 = .ok (.dup, 1) := by decide +kernel
theorem dX7_isText_39 : decode cX7_isText 39 = .ok (.getfield 241, 3) := by decide +kernel
theorem dX7_isText_42 : decode cX7_isText 42 = .ok (.iconst 1, 1) := by decide +kernel
theorem dX7_isText_43 : decode cX7_isText 43 = .ok (.iadd, 1) := by decide +kernel
theorem dX7_isText_44 : decode cX7_isText 44 = .ok (.putfield 241, 3) := by decide +kernel
theorem dX7_isText_47 : decode cX7_isText 47 = .ok (.aload_n 0, 1) := by decide +kernel
theorem dX7_isText_48 : decode cX7_isText 48 = .ok (.invokevirtual 274, 3) := by decide +kernel
theorem dX7_isText_51 : decode cX7_isText 51 = .ok (.istore_n 1, 1) := by decide +kernel
theorem dX7_isText_52 : decode cX7_isText 52 = .ok (.goto (-37), 3) := by decide +kernel
theorem dX7_isText_55 : decode cX7_isText 55 = .ok (.iload_n 1, 1) := by decide +kernel
theorem dX7_isText_56 : decode cX7_isText 56 = .ok (.ifCond .eq 14, 3) := by decide +kernel
theorem dX7_isText_59 : decode cX7_isText 59 = .ok (.aload_n 0, 1) := by decide +kernel
theorem dX7_isText_60 : decode cX7_isText 60 = .ok (.invokevirtual 244, 3) := by decide +kernel
theorem dX7_isText_63 : decode cX7_isText 63 = .ok (.ifCond .ne 7, 3) := by decide +kernel
theorem dX7_isText_66 : decode cX7_isText 66 = .ok (.iconst 1, 1) := by decide +kernel
theorem dX7_isText_67 : decode cX7_isText 67 = .ok (.goto 4, 3) := by decide +kernel
theorem dX7_isText_70 : decode cX7_isText 70 = .ok (.iconst 0, 1) := by decide +kernel
theorem dX7_isText_71 : decode cX7_isText 71 = .ok (.ireturn, 1) := by decide +kernel
theorem dX7_draw_0 : decode cX7_draw 0 = .ok (.aload_n 0, 1) := by decide +kernel
theorem dX7_draw_1 : decode cX7_draw 1 = .ok (.invokevirtual 277, 3) := by decide +kernel
theorem dX7_draw_4 : decode cX7_draw 4 = .ok (.istore_n 1, 1) := by decide +kernel
theorem dX7_draw_5 : decode cX7_draw 5 = .ok (.aload_n 0, 1) := by decide +kernel
theorem dX7_draw_6 : decode cX7_draw 6 = .ok (.invokevirtual 244, 3) := by decide +kernel
theorem dX7_draw_9 : decode cX7_draw 9 = .ok (.ifCond .ne 10, 3) := by decide +kernel
theorem dX7_draw_12 : decode cX7_draw 12 = .ok (.aload_n 0, 1) := by decide +kernel
theorem dX7_draw_13 : decode cX7_draw 13 = .ok (.getfield 238, 3) := by decide +kernel
theorem dX7_draw_16 : decode cX7_draw 16 = .ok (.goto 7, 3) := by decide +kernel
theorem dX7_draw_19 : decode cX7_draw 19 = .ok (.aload_n 0, 1) := by decide +kernel
theorem dX7_draw_20 : decode cX7_draw 20 = .ok (.getfield 241, 3) := by decide +kernel
theorem dX7_draw_23 : decode cX7_draw 23 = .ok (.istore_n 2, 1) := by decide +kernel
theorem dX7_draw_24 : decode cX7_draw 24 = .ok (.aload_n 0, 1) := by decide +kernel
theorem dX7_draw_25 : decode cX7_draw 25 = .ok (.iconst 0, 1) := by decide +kernel
theorem dX7_draw_26 : decode cX7_draw 26 = .ok (.putfield 238, 3) := by decide +kernel
theorem dX7_draw_29 : decode cX7_draw 29 = .ok (.iload_n 1, 1) := by decide +kernel
theorem dX7_draw_30 : decode cX7_draw 30 = .ok (.ifCond .ne 8, 3) := by decide +kernel
theorem dX7_draw_33 : decode cX7_draw 33 = .ok (.bipush (-20), 2) := by decide +kernel
theorem dX7_draw_35 : decode cX7_draw 35 = .ok (.iload_n 2, 1) := by decide +kernel
theorem dX7_draw_36 : decode cX7_draw 36 = .ok (.isub, 1) := by decide +kernel
theorem dX7_draw_37 : decode cX7_draw 37 = .ok (.ireturn, 1) := by decide +kernel
theorem dX7_draw_38 : decode cX7_draw 38 = .ok (.aload_n 0, 1) := by decide +kernel
theorem dX7_draw_39 : decode cX7_draw 39 = .ok (.getfield 7, 3) := by decide +kernel
theorem dX7_draw_42 : decode cX7_draw 42 = .ok (.iconst 0, 1) := by decide +kernel
theorem dX7_draw_43 : decode cX7_draw 43 = .ok (.aload_n 0, 1) := by decide +kernel
theorem dX7_draw_44 : decode cX7_draw 44 = .ok (.getfield 264, 3) := by decide +kernel
theorem dX7_draw_47 : decode cX7_draw 47 = .ok (.iastore, 1) := by decide +kernel
theorem dX7_draw_48 : decode cX7_draw 48 = .ok (.aload_n 0, 1) := by decide +kernel
theorem dX7_draw_49 : decode cX7_draw 49 = .ok (.getfield 7, 3) := by decide +kernel
theorem dX7_draw_52 : decode cX7_draw 52 = .ok (.iconst 1, 1) := by decide +kernel
theorem dX7_draw_53 : decode cX7_draw 53 = .ok (.aload_n 0, 1) := by decide +kernel
theorem dX7_draw_54 : decode cX7_draw 54 = .ok (.getfield 258, 3) := by decide +kernel
theorem dX7_draw_57 : decode cX7_draw 57 = .ok (.iastore, 1) := by decide +kernel
theorem dX7_draw_58 : decode cX7_draw 58 = .ok (.aload_n 0, 1) := by decide +kernel
theorem dX7_draw_59 : decode cX7_draw 59 = .ok (.iconst 0, 1) := by decide +kernel
theorem dX7_draw_60 : decode cX7_draw 60 = .ok (.putfield 199, 3) := by decide +kernel
theorem dX7_draw_63 : decode cX7_draw 63 = .ok (.iconst 0, 1) := by decide +kernel
theorem dX7_draw_64 : decode cX7_draw 64 = .ok (.istore_n 3, 1) := by decide +kernel
theorem dX7_draw_65 : decode cX7_draw 65 = .ok (.iload_n 3, 1) := by decide +kernel
theorem dX7_draw_66 : decode cX7_draw 66 = .ok (.bipush 48, 2) := by decide +kernel
theorem dX7_draw_68 : decode cX7_draw 68 = .ok (.if_icmp .ge 36, 3) := by decide +kernel
theorem dX7_draw_71 : decode cX7_draw 71 = .ok (.aload_n 0, 1) := by decide +kernel
theorem dX7_draw_72 : decode cX7_draw 72 = .ok (.getfield 7, 3) := by decide +kernel
theorem dX7_draw_75 : decode cX7_draw 75 = .ok (.bipush 14, 2) := by decide +kernel
theorem dX7_draw_77 : decode cX7_draw 77 = .ok (.iload_n 3, 1) := by decide +kernel
theorem dX7_draw_78 : decode cX7_draw 78 = .ok (.iadd, 1) := by decide +kernel
theorem dX7_draw_79 : decode cX7_draw 79 = .ok (.aload_n 0, 1) := by decide +kernel
theorem dX7_draw_80 : decode cX7_draw 80 = .ok (.iload_n 3, 1) := by decide +kernel
theorem dX7_draw_81 : decode cX7_draw 81 = .ok (.invokevirtual 88, 3) := by decide +kernel
theorem dX7_draw_84 : decode cX7_draw 84 = .ok (.ifCond .eq 12, 3) := by decide +kernel
theorem dX7_draw_87 : decode cX7_draw 87 = .ok (.aload_n 0, 1) := by decide +kernel
theorem dX7_draw_88 : decode cX7_draw 88 = .ok (.getfield 31, 3) := by decide +kernel
theorem dX7_draw_91 : decode cX7_draw 91 = .ok (.iload_n 3, 1) := by decide +kernel
theorem dX7_draw_92 : decode cX7_draw 92 = .ok (.iaload, 1) := by decide +kernel
theorem dX7_draw_93 : decode cX7_draw 93 = .ok (.goto 4, 3) := by decide +kernel
theorem dX7_draw_96 : decode cX7_draw 96 = .ok (.iconst 0, 1) := by decide +kernel
theorem dX7_draw_97 : decode cX7_draw 97 = .ok (.iastore, 1) := by decide +kernel
theorem dX7_draw_98 : decode cX7_draw 98 = .ok (.iinc 3 1, 3) := by decide +kernel
theorem dX7_draw_101 : decode cX7_draw 101 = .ok (.goto (-36), 3) := by decide +kernel
theorem dX7_draw_104 : decode cX7_draw 104 = .ok (.aload_n 0, 1) := by decide +kernel
theorem dX7_draw_105 : decode cX7_draw 105 = .ok (.getfield 264, 3) := by decide +kernel
theorem dX7_draw_108 : decode cX7_draw 108 = .ok (.aload_n 0, 1) := by decide +kernel
theorem dX7_draw_109 : decode cX7_draw 109 = .ok (.getfield 258, 3) := by decide +kernel
theorem dX7_draw_112 : decode cX7_draw 112 = .ok (.imul, 1) := by decide +kernel
theorem dX7_draw_113 : decode cX7_draw 113 = .ok (.ireturn, 1) := by decide +kernel
theorem dX7_image_0 : decode cX7_image 0 = .ok (.iconst 0, 1) := by decide +kernel
theorem dX7_image_1 : decode cX7_image 1 = .ok (.istore_n 1, 1) := by decide +kernel
theorem dX7_image_2 : decode cX7_image 2 = .ok (.iload_n 1, 1) := by decide +kernel
theorem dX7_image_3 : decode cX7_image 3 = .ok (.bipush 62, 2) := by decide +kernel
theorem dX7_image_5 : decode cX7_image 5 = .ok (.if_icmp .ge 21, 3) := by decide +kernel
theorem dX7_image_8 : decode cX7_image 8 = .ok (.aload_n 0, 1) := by decide +kernel
theorem dX7_image_9 : decode cX7_image 9 = .ok (.getfield 34, 3) := by decide +kernel
theorem dX7_image_12 : decode cX7_image 12 = .ok (.iload_n 1, 1) := by decide +kernel
theorem dX7_image_13 : decode cX7_image 13 = .ok (.aload_n 0, 1) := by decide +kernel
theorem dX7_image_14 : decode cX7_image 14 = .ok (.getfield 7, 3) := by decide +kernel
theorem dX7_image_17 : decode cX7_image 17 = .ok (.iload_n 1, 1) := by decide +kernel
theorem dX7_image_18 : decode cX7_image 18 = .ok (.iaload, 1) := by decide +kernel
theorem dX7_image_19 : decode cX7_image 19 = .ok (.iastore, 1) := by decide +kernel
theorem dX7_image_20 : decode cX7_image 20 = .ok (.iinc 1 1, 3) := by decide +kernel
theorem dX7_image_23 : decode cX7_image 23 = .ok (.goto (-21), 3) := by decide +kernel
theorem dX7_image_26 : decode cX7_image 26 = .ok (.iconst 0, 1) := by decide +kernel
theorem dX7_image_27 : decode cX7_image 27 = .ok (.istore_n 1, 1) := by decide +kernel
theorem dX7_image_28 : decode cX7_image 28 = .ok (.iload_n 1, 1) := by decide +kernel
theorem dX7_image_29 : decode cX7_image 29 = .ok (.sipush 372, 3) := by decide +kernel
theorem dX7_image_32 : decode cX7_image 32 = .ok (.if_icmp .ge 21, 3) := by decide +kernel
theorem dX7_image_35 : decode cX7_image 35 = .ok (.aload_n 0, 1) := by decide +kernel
theorem dX7_image_36 : decode cX7_image 36 = .ok (.getfield 37, 3) := by decide +kernel
theorem dX7_image_39 : decode cX7_image 39 = .ok (.iload_n 1, 1) := by decide +kernel
theorem dX7_image_40 : decode cX7_image 40 = .ok (.aload_n 0, 1) := by decide +kernel
theorem dX7_image_41 : decode cX7_image 41 = .ok (.getfield 22, 3) := by decide +kernel
theorem dX7_image_44 : decode cX7_image 44 = .ok (.iload_n 1, 1) := by decide +kernel
theorem dX7_image_45 : decode cX7_image 45 = .ok (.iaload, 1) := by decide +kernel
theorem dX7_image_46 : decode cX7_image 46 = .ok (.iastore, 1) := by decide +kernel
theorem dX7_image_47 : decode cX7_image 47 = .ok (.iinc 1 1, 3) := by decide +kernel
theorem dX7_image_50 : decode cX7_image 50 = .ok (.goto (-22), 3) := by decide +kernel
theorem dX7_image_53 : decode cX7_image 53 = .ok (.aload_n 0, 1) := by decide +kernel
theorem dX7_image_54 : decode cX7_image 54 = .ok (.aload_n 0, 1) := by decide +kernel
theorem dX7_image_55 : decode cX7_image 55 = .ok (.getfield 199, 3) := by decide +kernel
theorem dX7_image_58 : decode cX7_image 58 = .ok (.putfield 40, 3) := by decide +kernel
theorem dX7_image_61 : decode cX7_image 61 = .ok (.iconst 1, 1) := by decide +kernel
theorem dX7_image_62 : decode cX7_image 62 = .ok (.ireturn, 1) := by decide +kernel
theorem dX7_restore_0 : decode cX7_restore 0 = .ok (.aload_n 0, 1) := by decide +kernel
theorem dX7_restore_1 : decode cX7_restore 1 = .ok (.getfield 40, 3) := by decide +kernel
theorem dX7_restore_4 : decode cX7_restore 4 = .ok (.ifCond .ge 6, 3) := by decide +kernel
theorem dX7_restore_7 : decode cX7_restore 7 = .ok (.bipush (-4), 2) := by decide +kernel
theorem dX7_restore_9 : decode cX7_restore 9 = .ok (.ireturn, 1) := by decide +kernel
theorem dX7_restore_10 : decode cX7_restore 10 = .ok (.iconst 0, 1) := by decide +kernel
theorem dX7_restore_11 : decode cX7_restore 11 = .ok (.istore_n 1, 1) := by decide +kernel
theorem dX7_restore_12 : decode cX7_restore 12 = .ok (.iload_n 1, 1) := by decide +kernel
theorem dX7_restore_13 : decode cX7_restore 13 = .ok (.bipush 62, 2) := by decide +kernel
theorem dX7_restore_15 : decode cX7_restore 15 = .ok (.if_icmp .ge 21, 3) := by decide +kernel
theorem dX7_restore_18 : decode cX7_restore 18 = .ok (.aload_n 0, 1) := by decide +kernel
theorem dX7_restore_19 : decode cX7_restore 19 = .ok (.getfield 7, 3) := by decide +kernel
theorem dX7_restore_22 : decode cX7_restore 22 = .ok (.iload_n 1, 1) := by decide +kernel
theorem dX7_restore_23 : decode cX7_restore 23 = .ok (.aload_n 0, 1) := by decide +kernel
theorem dX7_restore_24 : decode cX7_restore 24 = .ok (.getfield 34, 3) := by decide +kernel
theorem dX7_restore_27 : decode cX7_restore 27 = .ok (.iload_n 1, 1) := by decide +kernel
theorem dX7_restore_28 : decode cX7_restore 28 = .ok (.iaload, 1) := by decide +kernel
theorem dX7_restore_29 : decode cX7_restore 29 = .ok (.iastore, 1) := by decide +kernel
theorem dX7_restore_30 : decode cX7_restore 30 = .ok (.iinc 1 1, 3) := by decide +kernel
theorem dX7_restore_33 : decode cX7_restore 33 = .ok (.goto (-21), 3) := by decide +kernel
theorem dX7_restore_36 : decode cX7_restore 36 = .ok (.iconst 0, 1) := by decide +kernel
theorem dX7_restore_37 : decode cX7_restore 37 = .ok (.istore_n 1, 1) := by decide +kernel
theorem dX7_restore_38 : decode cX7_restore 38 = .ok (.iload_n 1, 1) := by decide +kernel
theorem dX7_restore_39 : decode cX7_restore 39 = .ok (.sipush 372, 3) := by decide +kernel
theorem dX7_restore_42 : decode cX7_restore 42 = .ok (.if_icmp .ge 21, 3) := by decide +kernel
theorem dX7_restore_45 : decode cX7_restore 45 = .ok (.aload_n 0, 1) := by decide +kernel
theorem dX7_restore_46 : decode cX7_restore 46 = .ok (.getfield 22, 3) := by decide +kernel
theorem dX7_restore_49 : decode cX7_restore 49 = .ok (.iload_n 1, 1) := by decide +kernel
theorem dX7_restore_50 : decode cX7_restore 50 = .ok (.aload_n 0, 1) := by decide +kernel
theorem dX7_restore_51 : decode cX7_restore 51 = .ok (.getfield 37, 3) := by decide +kernel
theorem dX7_restore_54 : decode cX7_restore 54 = .ok (.iload_n 1, 1) := by decide +kernel
theorem dX7_restore_55 : decode cX7_restore 55 = .ok (.iaload, 1) := by decide +kernel
theorem dX7_restore_56 : decode cX7_restore 56 = .ok (.iastore, 1) := by decide +kernel
theorem dX7_restore_57 : decode cX7_restore 57 = .ok (.iinc 1 1, 3) := by decide +kernel
theorem dX7_restore_60 : decode cX7_restore 60 = .ok (.goto (-22), 3) := by decide +kernel
theorem dX7_restore_63 : decode cX7_restore 63 = .ok (.aload_n 0, 1) := by decide +kernel
theorem dX7_restore_64 : decode cX7_restore 64 = .ok (.aload_n 0, 1) := by decide +kernel
theorem dX7_restore_65 : decode cX7_restore 65 = .ok (.getfield 40, 3) := by decide +kernel
theorem dX7_restore_68 : decode cX7_restore 68 = .ok (.putfield 199, 3) := by decide +kernel
theorem dX7_restore_71 : decode cX7_restore 71 = .ok (.iconst 1, 1) := by decide +kernel
theorem dX7_restore_72 : decode cX7_restore 72 = .ok (.ireturn, 1) := by decide +kernel
theorem dX7_isSheet_0 : decode cX7_isSheet 0 = .ok (.iload_n 0, 1) := by decide +kernel
theorem dX7_isSheet_1 : decode cX7_isSheet 1 = .ok (.i2l, 1) := by decide +kernel
theorem dX7_isSheet_2 : decode cX7_isSheet 2 = .ok (.lconst 0, 1) := by decide +kernel
theorem dX7_isSheet_3 : decode cX7_isSheet 3 = .ok (.ldc2_w 210, 3) := by decide +kernel
theorem dX7_isSheet_6 : decode cX7_isSheet 6 = .ok (.invokestatic 59, 3) := by decide +kernel
theorem dX7_isSheet_9 : decode cX7_isSheet 9 = .ok (.ireturn, 1) := by decide +kernel
theorem dX7_cut_0 : decode cX7_cut 0 = .ok (.iload_n 2, 1) := by decide +kernel
theorem dX7_cut_1 : decode cX7_cut 1 = .ok (.ifCond .ne 10, 3) := by decide +kernel
theorem dX7_cut_4 : decode cX7_cut 4 = .ok (.lload_n 0, 1) := by decide +kernel
theorem dX7_cut_5 : decode cX7_cut 5 = .ok (.l2i, 1) := by decide +kernel
theorem dX7_cut_6 : decode cX7_cut 6 = .ok (.i2b, 1) := by decide +kernel
theorem dX7_cut_7 : decode cX7_cut 7 = .ok (.i2l, 1) := by decide +kernel
theorem dX7_cut_8 : decode cX7_cut 8 = .ok (.goto 27, 3) := by decide +kernel
theorem dX7_cut_11 : decode cX7_cut 11 = .ok (.iload_n 2, 1) := by decide +kernel
theorem dX7_cut_12 : decode cX7_cut 12 = .ok (.iconst 1, 1) := by decide +kernel
theorem dX7_cut_13 : decode cX7_cut 13 = .ok (.if_icmp .ne 10, 3) := by decide +kernel
theorem dX7_cut_16 : decode cX7_cut 16 = .ok (.lload_n 0, 1) := by decide +kernel
theorem dX7_cut_17 : decode cX7_cut 17 = .ok (.l2i, 1) := by decide +kernel
theorem dX7_cut_18 : decode cX7_cut 18 = .ok (.i2s, 1) := by decide +kernel
theorem dX7_cut_19 : decode cX7_cut 19 = .ok (.i2l, 1) := by decide +kernel
theorem dX7_cut_20 : decode cX7_cut 20 = .ok (.goto 15, 3) := by decide +kernel
theorem dX7_cut_23 : decode cX7_cut 23 = .ok (.iload_n 2, 1) := by decide +kernel
theorem dX7_cut_24 : decode cX7_cut 24 = .ok (.iconst 2, 1) := by decide +kernel
theorem dX7_cut_25 : decode cX7_cut 25 = .ok (.if_icmp .ne 9, 3) := by decide +kernel
theorem dX7_cut_28 : decode cX7_cut 28 = .ok (.lload_n 0, 1) := by decide +kernel
theorem dX7_cut_29 : decode cX7_cut 29 = .ok (.l2i, 1) := by decide +kernel
theorem dX7_cut_30 : decode cX7_cut 30 = .ok (.i2l, 1) := by decide +kernel
theorem dX7_cut_31 : decode cX7_cut 31 = .ok (.goto 4, 3) := by decide +kernel
theorem dX7_cut_34 : decode cX7_cut 34 = .ok (.lload_n 0, 1) := by decide +kernel
theorem dX7_cut_35 : decode cX7_cut 35 = .ok (.lreturn, 1) := by decide +kernel
theorem dX7_sheet_0 : decode cX7_sheet 0 = .ok (.iload_n 1, 1) := by decide +kernel
theorem dX7_sheet_1 : decode cX7_sheet 1 = .ok (.invokestatic 280, 3) := by decide +kernel
theorem dX7_sheet_4 : decode cX7_sheet 4 = .ok (.ifCond .eq 21, 3) := by decide +kernel
theorem dX7_sheet_7 : decode cX7_sheet 7 = .ok (.iload_n 2, 1) := by decide +kernel
theorem dX7_sheet_8 : decode cX7_sheet 8 = .ok (.i2l, 1) := by decide +kernel
theorem dX7_sheet_9 : decode cX7_sheet 9 = .ok (.lconst 0, 1) := by decide +kernel
theorem dX7_sheet_10 : decode cX7_sheet 10 = .ok (.ldc2_w 210, 3) := by decide +kernel
theorem dX7_sheet_13 : decode cX7_sheet 13 = .ok (.invokestatic 59, 3) := by decide +kernel
theorem dX7_sheet_16 : decode cX7_sheet 16 = .ok (.ifCond .eq 9, 3) := by decide +kernel
theorem dX7_sheet_19 : decode cX7_sheet 19 = .ok (.iload_n 3, 1) := by decide +kernel
theorem dX7_sheet_20 : decode cX7_sheet 20 = .ok (.bipush 24, 2) := by decide +kernel
theorem dX7_sheet_22 : decode cX7_sheet 22 = .ok (.if_icmp .le 5, 3) := by decide +kernel
theorem dX7_sheet_25 : decode cX7_sheet 25 = .ok (.iconst (-1), 1) := by decide +kernel
theorem dX7_sheet_26 : decode cX7_sheet 26 = .ok (.ireturn, 1) := by decide +kernel
theorem dX7_sheet_27 : decode cX7_sheet 27 = .ok (.iload_n 3, 1) := by decide +kernel
theorem dX7_sheet_28 : decode cX7_sheet 28 = .ok (.ifCond .ge 6, 3) := by decide +kernel
theorem dX7_sheet_31 : decode cX7_sheet 31 = .ok (.bipush (-14), 2) := by decide +kernel
theorem dX7_sheet_33 : decode cX7_sheet 33 = .ok (.ireturn, 1) := by decide +kernel
theorem dX7_sheet_34 : decode cX7_sheet 34 = .ok (.aload_n 0, 1) := by decide +kernel
theorem dX7_sheet_35 : decode cX7_sheet 35 = .ok (.getfield 44, 3) := by decide +kernel
theorem dX7_sheet_38 : decode cX7_sheet 38 = .ok (.iload_n 1, 1) := by decide +kernel
theorem dX7_sheet_39 : decode cX7_sheet 39 = .ok (.iload_n 2, 1) := by decide +kernel
theorem dX7_sheet_40 : decode cX7_sheet 40 = .ok (.iastore, 1) := by decide +kernel
theorem dX7_sheet_41 : decode cX7_sheet 41 = .ok (.aload_n 0, 1) := by decide +kernel
theorem dX7_sheet_42 : decode cX7_sheet 42 = .ok (.getfield 47, 3) := by decide +kernel
theorem dX7_sheet_45 : decode cX7_sheet 45 = .ok (.iload_n 1, 1) := by decide +kernel
theorem dX7_sheet_46 : decode cX7_sheet 46 = .ok (.iload_n 3, 1) := by decide +kernel
theorem dX7_sheet_47 : decode cX7_sheet 47 = .ok (.iastore, 1) := by decide +kernel
theorem dX7_sheet_48 : decode cX7_sheet 48 = .ok (.iconst 0, 1) := by decide +kernel
theorem dX7_sheet_49 : decode cX7_sheet 49 = .ok (.istore 4, 2) := by decide +kernel
theorem dX7_sheet_51 : decode cX7_sheet 51 = .ok (.iload 4, 2) := by decide +kernel
theorem dX7_sheet_53 : decode cX7_sheet 53 = .ok (.bipush 24, 2) := by decide +kernel
theorem dX7_sheet_55 : decode cX7_sheet 55 = .ok (.if_icmp .ge 22, 3) := by decide +kernel
theorem dX7_sheet_58 : decode cX7_sheet 58 = .ok (.aload_n 0, 1) := by decide +kernel
theorem dX7_sheet_59 : decode cX7_sheet 59 = .ok (.getfield 50, 3) := by decide +kernel
theorem dX7_sheet_62 : decode cX7_sheet 62 = .ok (.bipush 24, 2) := by decide +kernel
theorem dX7_sheet_64 : decode cX7_sheet 64 = .ok (.iload_n 1, 1) := by decide +kernel
theorem dX7_sheet_65 : decode cX7_sheet 65 = .ok (.imul, 1) := by decide +kernel
theorem dX7_sheet_66 : decode cX7_sheet 66 = .ok (.iload 4, 2) := by decide +kernel
theorem dX7_sheet_68 : decode cX7_sheet 68 = .ok (.iadd, 1) := by decide +kernel
theorem dX7_sheet_69 : decode cX7_sheet 69 = .ok (.lconst 0, 1) := by decide +kernel
theorem dX7_sheet_70 : decode cX7_sheet 70 = .ok (.lastore, 1) := by decide +kernel
theorem dX7_sheet_71 : decode cX7_sheet 71 = .ok (.iinc 4 1, 3) := by decide +kernel
theorem dX7_sheet_74 : decode cX7_sheet 74 = .ok (.goto (-23), 3) := by decide +kernel
theorem dX7_sheet_77 : decode cX7_sheet 77 = .ok (.iload_n 3, 1) := by decide +kernel
theorem dX7_sheet_78 : decode cX7_sheet 78 = .ok (.ireturn, 1) := by decide +kernel
theorem dX7_drop_0 : decode cX7_drop 0 = .ok (.iload_n 1, 1) := by decide +kernel
theorem dX7_drop_1 : decode cX7_drop 1 = .ok (.invokestatic 280, 3) := by decide +kernel
theorem dX7_drop_4 : decode cX7_drop 4 = .ok (.ifCond .ne 5, 3) := by decide +kernel
theorem dX7_drop_7 : decode cX7_drop 7 = .ok (.iconst (-1), 1) := by decide +kernel
theorem dX7_drop_8 : decode cX7_drop 8 = .ok (.ireturn, 1) := by decide +kernel
theorem dX7_drop_9 : decode cX7_drop 9 = .ok (.aload_n 0, 1) := by decide +kernel
theorem dX7_drop_10 : decode cX7_drop 10 = .ok (.getfield 44, 3) := by decide +kernel
theorem dX7_drop_13 : decode cX7_drop 13 = .ok (.iload_n 1, 1) := by decide +kernel
theorem dX7_drop_14 : decode cX7_drop 14 = .ok (.iaload, 1) := by decide +kernel
theorem dX7_drop_15 : decode cX7_drop 15 = .ok (.ifCond .ge 6, 3) := by decide +kernel
theorem dX7_drop_18 : decode cX7_drop 18 = .ok (.bipush (-11), 2) := by decide +kernel
theorem dX7_drop_20 : decode cX7_drop 20 = .ok (.ireturn, 1) := by decide +kernel
theorem dX7_drop_21 : decode cX7_drop 21 = .ok (.aload_n 0, 1) := by decide +kernel
theorem dX7_drop_22 : decode cX7_drop 22 = .ok (.getfield 44, 3) := by decide +kernel
theorem dX7_drop_25 : decode cX7_drop 25 = .ok (.iload_n 1, 1) := by decide +kernel
theorem dX7_drop_26 : decode cX7_drop 26 = .ok (.iconst (-1), 1) := by decide +kernel
theorem dX7_drop_27 : decode cX7_drop 27 = .ok (.iastore, 1) := by decide +kernel
theorem dX7_drop_28 : decode cX7_drop 28 = .ok (.aload_n 0, 1) := by decide +kernel
theorem dX7_drop_29 : decode cX7_drop 29 = .ok (.getfield 47, 3) := by decide +kernel
theorem dX7_drop_32 : decode cX7_drop 32 = .ok (.iload_n 1, 1) := by decide +kernel
theorem dX7_drop_33 : decode cX7_drop 33 = .ok (.iaload, 1) := by decide +kernel
theorem dX7_drop_34 : decode cX7_drop 34 = .ok (.ireturn, 1) := by decide +kernel
theorem dX7_why_0 : decode cX7_why 0 = .ok (.aload_n 0, 1) := by decide +kernel
theorem dX7_why_1 : decode cX7_why 1 = .ok (.getfield 44, 3) := by decide +kernel
theorem dX7_why_4 : decode cX7_why 4 = .ok (.iload_n 1, 1) := by decide +kernel
theorem dX7_why_5 : decode cX7_why 5 = .ok (.iaload, 1) := by decide +kernel
theorem dX7_why_6 : decode cX7_why 6 = .ok (.ifCond .ge 6, 3) := by decide +kernel
theorem dX7_why_9 : decode cX7_why 9 = .ok (.bipush (-11), 2) := by decide +kernel
theorem dX7_why_11 : decode cX7_why 11 = .ok (.ireturn, 1) := by decide +kernel
theorem dX7_why_12 : decode cX7_why 12 = .ok (.aload_n 0, 1) := by decide +kernel
theorem dX7_why_13 : decode cX7_why 13 = .ok (.getfield 44, 3) := by decide +kernel
theorem dX7_why_16 : decode cX7_why 16 = .ok (.iload_n 1, 1) := by decide +kernel
theorem dX7_why_17 : decode cX7_why 17 = .ok (.iaload, 1) := by decide +kernel
theorem dX7_why_18 : decode cX7_why 18 = .ok (.iload_n 2, 1) := by decide +kernel
theorem dX7_why_19 : decode cX7_why 19 = .ok (.if_icmp .eq 6, 3) := by decide +kernel
theorem dX7_why_22 : decode cX7_why 22 = .ok (.bipush (-12), 2) := by decide +kernel
theorem dX7_why_24 : decode cX7_why 24 = .ok (.ireturn, 1) := by decide +kernel
theorem dX7_why_25 : decode cX7_why 25 = .ok (.iload_n 3, 1) := by decide +kernel
theorem dX7_why_26 : decode cX7_why 26 = .ok (.ifCond .lt 16, 3) := by decide +kernel
theorem dX7_why_29 : decode cX7_why 29 = .ok (.iload 4, 2) := by decide +kernel
theorem dX7_why_31 : decode cX7_why 31 = .ok (.aload_n 0, 1) := by decide +kernel
theorem dX7_why_32 : decode cX7_why 32 = .ok (.getfield 47, 3) := by decide +kernel
theorem dX7_why_35 : decode cX7_why 35 = .ok (.iload_n 1, 1) := by decide +kernel
theorem dX7_why_36 : decode cX7_why 36 = .ok (.iaload, 1) := by decide +kernel
theorem dX7_why_37 : decode cX7_why 37 = .ok (.iload_n 3, 1) := by decide +kernel
theorem dX7_why_38 : decode cX7_why 38 = .ok (.isub, 1) := by decide +kernel
theorem dX7_why_39 : decode cX7_why 39 = .ok (.if_icmp .le 8, 3) := by decide +kernel
theorem dX7_why_42 : decode cX7_why 42 = .ok (.bipush (-13), 2) := by decide +kernel
theorem dX7_why_44 : decode cX7_why 44 = .ok (.goto 4, 3) := by decide +kernel
theorem dX7_why_47 : decode cX7_why 47 = .ok (.iconst 0, 1) := by decide +kernel
theorem dX7_why_48 : decode cX7_why 48 = .ok (.ireturn, 1) := by decide +kernel
theorem dX7_item_0 : decode cX7_item 0 = .ok (.iload_n 1, 1) := by decide +kernel
theorem dX7_item_1 : decode cX7_item 1 = .ok (.invokestatic 280, 3) := by decide +kernel
theorem dX7_item_4 : decode cX7_item 4 = .ok (.ifCond .eq 15, 3) := by decide +kernel
theorem dX7_item_7 : decode cX7_item 7 = .ok (.iload_n 2, 1) := by decide +kernel
theorem dX7_item_8 : decode cX7_item 8 = .ok (.i2l, 1) := by decide +kernel
theorem dX7_item_9 : decode cX7_item 9 = .ok (.lconst 0, 1) := by decide +kernel
theorem dX7_item_10 : decode cX7_item 10 = .ok (.ldc2_w 210, 3) := by decide +kernel
theorem dX7_item_13 : decode cX7_item 13 = .ok (.invokestatic 59, 3) := by decide +kernel
theorem dX7_item_16 : decode cX7_item 16 = .ok (.ifCond .ne 5, 3) := by decide +kernel
theorem dX7_item_19 : decode cX7_item 19 = .ok (.iconst (-1), 1) := by decide +kernel
theorem dX7_item_20 : decode cX7_item 20 = .ok (.ireturn, 1) := by decide +kernel
theorem dX7_item_21 : decode cX7_item 21 = .ok (.aload_n 0, 1) := by decide +kernel
theorem dX7_item_22 : decode cX7_item 22 = .ok (.iload_n 1, 1) := by decide +kernel
theorem dX7_item_23 : decode cX7_item 23 = .ok (.iload_n 2, 1) := by decide +kernel
theorem dX7_item_24 : decode cX7_item 24 = .ok (.iload_n 3, 1) := by decide +kernel
theorem dX7_item_25 : decode cX7_item 25 = .ok (.iconst 1, 1) := by decide +kernel
theorem dX7_item_26 : decode cX7_item 26 = .ok (.invokevirtual 283, 3) := by decide +kernel
theorem dX7_item_29 : decode cX7_item 29 = .ok (.istore 6, 2) := by decide +kernel
theorem dX7_item_31 : decode cX7_item 31 = .ok (.iload 6, 2) := by decide +kernel
theorem dX7_item_33 : decode cX7_item 33 = .ok (.ifCond .ge 6, 3) := by decide +kernel
theorem dX7_item_36 : decode cX7_item 36 = .ok (.iload 6, 2) := by decide +kernel
theorem dX7_item_38 : decode cX7_item 38 = .ok (.ireturn, 1) := by decide +kernel
theorem dX7_item_39 : decode cX7_item 39 = .ok (.aload_n 0, 1) := by decide +kernel
theorem dX7_item_40 : decode cX7_item 40 = .ok (.getfield 50, 3) := by decide +kernel
theorem dX7_item_43 : decode cX7_item 43 = .ok (.bipush 24, 2) := by decide +kernel
theorem dX7_item_45 : decode cX7_item 45 = .ok (.iload_n 1, 1) := by decide +kernel
theorem dX7_item_46 : decode cX7_item 46 = .ok (.imul, 1) := by decide +kernel
theorem dX7_item_47 : decode cX7_item 47 = .ok (.iload_n 3, 1) := by decide +kernel
theorem dX7_item_48 : decode cX7_item 48 = .ok (.iadd, 1) := by decide +kernel
theorem dX7_item_49 : decode cX7_item 49 = .ok (.lload 4, 2) := by decide +kernel
theorem dX7_item_51 : decode cX7_item 51 = .ok (.iload_n 2, 1) := by decide +kernel
theorem dX7_item_52 : decode cX7_item 52 = .ok (.invokestatic 286, 3) := by decide +kernel
theorem dX7_item_55 : decode cX7_item 55 = .ok (.lastore, 1) := by decide +kernel
theorem dX7_item_56 : decode cX7_item 56 = .ok (.iconst 1, 1) := by decide +kernel
theorem dX7_item_57 : decode cX7_item 57 = .ok (.ireturn, 1) := by decide +kernel
theorem dX7_copy_0 : decode cX7_copy 0 = .ok (.iload_n 1, 1) := by decide +kernel
theorem dX7_copy_1 : decode cX7_copy 1 = .ok (.invokestatic 280, 3) := by decide +kernel
theorem dX7_copy_4 : decode cX7_copy 4 = .ok (.ifCond .eq 10, 3) := by decide +kernel
theorem dX7_copy_7 : decode cX7_copy 7 = .ok (.iload_n 3, 1) := by decide +kernel
theorem dX7_copy_8 : decode cX7_copy 8 = .ok (.invokestatic 280, 3) := by decide +kernel
theorem dX7_copy_11 : decode cX7_copy 11 = .ok (.ifCond .ne 5, 3) := by decide +kernel
theorem dX7_copy_14 : decode cX7_copy 14 = .ok (.iconst (-1), 1) := by decide +kernel
theorem dX7_copy_15 : decode cX7_copy 15 = .ok (.ireturn, 1) := by decide +kernel
theorem dX7_copy_16 : decode cX7_copy 16 = .ok (.aload_n 0, 1) := by decide +kernel
theorem dX7_copy_17 : decode cX7_copy 17 = .ok (.getfield 44, 3) := by decide +kernel
theorem dX7_copy_20 : decode cX7_copy 20 = .ok (.iload_n 1, 1) := by decide +kernel
theorem dX7_copy_21 : decode cX7_copy 21 = .ok (.iaload, 1) := by decide +kernel
theorem dX7_copy_22 : decode cX7_copy 22 = .ok (.ifCond .lt 12, 3) := by decide +kernel
theorem dX7_copy_25 : decode cX7_copy 25 = .ok (.aload_n 0, 1) := by decide +kernel
theorem dX7_copy_26 : decode cX7_copy 26 = .ok (.getfield 44, 3) := by decide +kernel
theorem dX7_copy_29 : decode cX7_copy 29 = .ok (.iload_n 3, 1) := by decide +kernel
theorem dX7_copy_30 : decode cX7_copy 30 = .ok (.iaload, 1) := by decide +kernel
theorem dX7_copy_31 : decode cX7_copy 31 = .ok (.ifCond .ge 6, 3) := by decide +kernel
theorem dX7_copy_34 : decode cX7_copy 34 = .ok (.bipush (-11), 2) := by decide +kernel
theorem dX7_copy_36 : decode cX7_copy 36 = .ok (.ireturn, 1) := by decide +kernel
theorem dX7_copy_37 : decode cX7_copy 37 = .ok (.aload_n 0, 1) := by decide +kernel
theorem dX7_copy_38 : decode cX7_copy 38 = .ok (.getfield 44, 3) := by decide +kernel
theorem dX7_copy_41 : decode cX7_copy 41 = .ok (.iload_n 1, 1) := by decide +kernel
theorem dX7_copy_42 : decode cX7_copy 42 = .ok (.iaload, 1) := by decide +kernel
theorem dX7_copy_43 : decode cX7_copy 43 = .ok (.aload_n 0, 1) := by decide +kernel
theorem dX7_copy_44 : decode cX7_copy 44 = .ok (.getfield 44, 3) := by decide +kernel
theorem dX7_copy_47 : decode cX7_copy 47 = .ok (.iload_n 3, 1) := by decide +kernel
theorem dX7_copy_48 : decode cX7_copy 48 = .ok (.iaload, 1) := by decide +kernel
theorem dX7_copy_49 : decode cX7_copy 49 = .ok (.if_icmp .eq 6, 3) := by decide +kernel
theorem dX7_copy_52 : decode cX7_copy 52 = .ok (.bipush (-12), 2) := by decide +kernel
theorem dX7_copy_54 : decode cX7_copy 54 = .ok (.ireturn, 1) := by decide +kernel
theorem dX7_copy_55 : decode cX7_copy 55 = .ok (.iload 5, 2) := by decide +kernel
theorem dX7_copy_57 : decode cX7_copy 57 = .ok (.ifCond .lt 47, 3) := by decide +kernel
theorem dX7_copy_60 : decode cX7_copy 60 = .ok (.iload_n 2, 1) := by decide +kernel
theorem dX7_copy_61 : decode cX7_copy 61 = .ok (.ifCond .lt 43, 3) := by decide +kernel
theorem dX7_copy_64 : decode cX7_copy 64 = .ok (.iload 4, 2) := by decide +kernel
theorem dX7_copy_66 : decode cX7_copy 66 = .ok (.ifCond .lt 38, 3) := by decide +kernel
theorem dX7_copy_69 : decode cX7_copy 69 = .ok (.iload_n 2, 1) := by decide +kernel
theorem dX7_copy_70 : decode cX7_copy 70 = .ok (.i2l, 1) := by decide +kernel
theorem dX7_copy_71 : decode cX7_copy 71 = .ok (.iload 5, 2) := by decide +kernel
theorem dX7_copy_73 : decode cX7_copy 73 = .ok (.i2l, 1) := by decide +kernel
theorem dX7_copy_74 : decode cX7_copy 74 = .ok (.ladd, 1) := by decide +kernel
theorem dX7_copy_75 : decode cX7_copy 75 = .ok (.aload_n 0, 1) := by decide +kernel
theorem dX7_copy_76 : decode cX7_copy 76 = .ok (.getfield 47, 3) := by decide +kernel
theorem dX7_copy_79 : decode cX7_copy 79 = .ok (.iload_n 1, 1) := by decide +kernel
theorem dX7_copy_80 : decode cX7_copy 80 = .ok (.iaload, 1) := by decide +kernel
theorem dX7_copy_81 : decode cX7_copy 81 = .ok (.i2l, 1) := by decide +kernel
theorem dX7_copy_82 : decode cX7_copy 82 = .ok (.lcmp, 1) := by decide +kernel
theorem dX7_copy_83 : decode cX7_copy 83 = .ok (.ifCond .gt 21, 3) := by decide +kernel
theorem dX7_copy_86 : decode cX7_copy 86 = .ok (.iload 4, 2) := by decide +kernel
theorem dX7_copy_88 : decode cX7_copy 88 = .ok (.i2l, 1) := by decide +kernel
theorem dX7_copy_89 : decode cX7_copy 89 = .ok (.iload 5, 2) := by decide +kernel
theorem dX7_copy_91 : decode cX7_copy 91 = .ok (.i2l, 1) := by decide +kernel
theorem dX7_copy_92 : decode cX7_copy 92 = .ok (.ladd, 1) := by decide +kernel
theorem dX7_copy_93 : decode cX7_copy 93 = .ok (.aload_n 0, 1) := by decide +kernel
theorem dX7_copy_94 : decode cX7_copy 94 = .ok (.getfield 47, 3) := by decide +kernel
theorem dX7_copy_97 : decode cX7_copy 97 = .ok (.iload_n 3, 1) := by decide +kernel
theorem dX7_copy_98 : decode cX7_copy 98 = .ok (.iaload, 1) := by decide +kernel
theorem dX7_copy_99 : decode cX7_copy 99 = .ok (.i2l, 1) := by decide +kernel
theorem dX7_copy_100 : decode cX7_copy 100 = .ok (.lcmp, 1) := by decide +kernel
theorem dX7_copy_101 : decode cX7_copy 101 = .ok (.ifCond .le 6, 3) := by decide +kernel
theorem dX7_copy_104 : decode cX7_copy 104 = .ok (.bipush (-13), 2) := by decide +kernel
theorem dX7_copy_106 : decode cX7_copy 106 = .ok (.ireturn, 1) := by decide +kernel
theorem dX7_copy_107 : decode cX7_copy 107 = .ok (.iconst 0, 1) := by decide +kernel
theorem dX7_copy_108 : decode cX7_copy 108 = .ok (.istore 6, 2) := by decide +kernel
theorem dX7_copy_110 : decode cX7_copy 110 = .ok (.iload 6, 2) := by decide +kernel
theorem dX7_copy_112 : decode cX7_copy 112 = .ok (.iload 5, 2) := by decide +kernel
theorem dX7_copy_114 : decode cX7_copy 114 = .ok (.if_icmp .ge 30, 3) := by decide +kernel
theorem dX7_copy_117 : decode cX7_copy 117 = .ok (.aload_n 0, 1) := by decide +kernel
theorem dX7_copy_118 : decode cX7_copy 118 = .ok (.getfield 54, 3) := by decide +kernel
theorem dX7_copy_121 : decode cX7_copy 121 = .ok (.iload 6, 2) := by decide +kernel
theorem dX7_copy_123 : decode cX7_copy 123 = .ok (.aload_n 0, 1) := by decide +kernel
theorem dX7_copy_124 : decode cX7_copy 124 = .ok (.getfield 50, 3) := by decide +kernel
theorem dX7_copy_127 : decode cX7_copy 127 = .ok (.bipush 24, 2) := by decide +kernel
theorem dX7_copy_129 : decode cX7_copy 129 = .ok (.iload_n 1, 1) := by decide +kernel
theorem dX7_copy_130 : decode cX7_copy 130 = .ok (.imul, 1) := by decide +kernel
theorem dX7_copy_131 : decode cX7_copy 131 = .ok (.iload_n 2, 1) := by decide +kernel
theorem dX7_copy_132 : decode cX7_copy 132 = .ok (.iadd, 1) := by decide +kernel
theorem dX7_copy_133 : decode cX7_copy 133 = .ok (.iload 6, 2) := by decide +kernel
theorem dX7_copy_135 : decode cX7_copy 135 = .ok (.iadd, 1) := by decide +kernel
theorem dX7_copy_136 : decode cX7_copy 136 = .ok (.laload, 1) := by decide +kernel
theorem dX7_copy_137 : decode cX7_copy 137 = .ok (.lastore, 1) := by decide +kernel
theorem dX7_copy_138 : decode cX7_copy 138 = .ok (.iinc 6 1, 3) := by decide +kernel
theorem dX7_copy_141 : decode cX7_copy 141 = .ok (.goto (-31), 3) := by decide +kernel
theorem dX7_copy_144 : decode cX7_copy 144 = .ok (.iconst 0, 1) := by decide +kernel
theorem dX7_copy_145 : decode cX7_copy 145 = .ok (.istore 6, 2) := by decide +kernel
theorem dX7_copy_147 : decode cX7_copy 147 = .ok (.iload 6, 2) := by decide +kernel
theorem dX7_copy_149 : decode cX7_copy 149 = .ok (.iload 5, 2) := by decide +kernel
theorem dX7_copy_151 : decode cX7_copy 151 = .ok (.if_icmp .ge 31, 3) := by decide +kernel
theorem dX7_copy_154 : decode cX7_copy 154 = .ok (.aload_n 0, 1) := by decide +kernel
theorem dX7_copy_155 : decode cX7_copy 155 = .ok (.getfield 50, 3) := by decide +kernel
theorem dX7_copy_158 : decode cX7_copy 158 = .ok (.bipush 24, 2) := by decide +kernel
theorem dX7_copy_160 : decode cX7_copy 160 = .ok (.iload_n 3, 1) := by decide +kernel
theorem dX7_copy_161 : decode cX7_copy 161 = .ok (.imul, 1) := by decide +kernel
theorem dX7_copy_162 : decode cX7_copy 162 = .ok (.iload 4, 2) := by decide +kernel
theorem dX7_copy_164 : decode cX7_copy 164 = .ok (.iadd, 1) := by decide +kernel
theorem dX7_copy_165 : decode cX7_copy 165 = .ok (.iload 6, 2) := by decide +kernel
theorem dX7_copy_167 : decode cX7_copy 167 = .ok (.iadd, 1) := by decide +kernel
theorem dX7_copy_168 : decode cX7_copy 168 = .ok (.aload_n 0, 1) := by decide +kernel
theorem dX7_copy_169 : decode cX7_copy 169 = .ok (.getfield 54, 3) := by decide +kernel
theorem dX7_copy_172 : decode cX7_copy 172 = .ok (.iload 6, 2) := by decide +kernel
theorem dX7_copy_174 : decode cX7_copy 174 = .ok (.laload, 1) := by decide +kernel
theorem dX7_copy_175 : decode cX7_copy 175 = .ok (.lastore, 1) := by decide +kernel
theorem dX7_copy_176 : decode cX7_copy 176 = .ok (.iinc 6 1, 3) := by decide +kernel
theorem dX7_copy_179 : decode cX7_copy 179 = .ok (.goto (-32), 3) := by decide +kernel
theorem dX7_copy_182 : decode cX7_copy 182 = .ok (.iload 5, 2) := by decide +kernel
theorem dX7_copy_184 : decode cX7_copy 184 = .ok (.ireturn, 1) := by decide +kernel
theorem dX7_isSo_0 : decode cX7_isSo 0 = .ok (.iconst 1, 1) := by decide +kernel
theorem dX7_isSo_1 : decode cX7_isSo 1 = .ok (.istore 5, 2) := by decide +kernel
theorem dX7_isSo_3 : decode cX7_isSo 3 = .ok (.iconst 0, 1) := by decide +kernel
theorem dX7_isSo_4 : decode cX7_isSo 4 = .ok (.istore 6, 2) := by decide +kernel
theorem dX7_isSo_6 : decode cX7_isSo 6 = .ok (.iload 6, 2) := by decide +kernel
theorem dX7_isSo_8 : decode cX7_isSo 8 = .ok (.iload 4, 2) := by decide +kernel
theorem dX7_isSo_10 : decode cX7_isSo 10 = .ok (.if_icmp .ge 63, 3) := by decide +kernel
theorem dX7_isSo_13 : decode cX7_isSo 13 = .ok (.iload 5, 2) := by decide +kernel
theorem dX7_isSo_15 : decode cX7_isSo 15 = .ok (.ifCond .eq 58, 3) := by decide +kernel
theorem dX7_isSo_18 : decode cX7_isSo 18 = .ok (.aload_n 0, 1) := by decide +kernel
theorem dX7_isSo_19 : decode cX7_isSo 19 = .ok (.aload_n 0, 1) := by decide +kernel
theorem dX7_isSo_20 : decode cX7_isSo 20 = .ok (.getfield 50, 3) := by decide +kernel
theorem dX7_isSo_23 : decode cX7_isSo 23 = .ok (.iload_n 3, 1) := by decide +kernel
theorem dX7_isSo_24 : decode cX7_isSo 24 = .ok (.iconst 2, 1) := by decide +kernel
theorem dX7_isSo_25 : decode cX7_isSo 25 = .ok (.iload 6, 2) := by decide +kernel
theorem dX7_isSo_27 : decode cX7_isSo 27 = .ok (.imul, 1) := by decide +kernel
theorem dX7_isSo_28 : decode cX7_isSo 28 = .ok (.iadd, 1) := by decide +kernel
theorem dX7_isSo_29 : decode cX7_isSo 29 = .ok (.laload, 1) := by decide +kernel
theorem dX7_isSo_30 : decode cX7_isSo 30 = .ok (.l2i, 1) := by decide +kernel
theorem dX7_isSo_31 : decode cX7_isSo 31 = .ok (.aload_n 0, 1) := by decide +kernel
theorem dX7_isSo_32 : decode cX7_isSo 32 = .ok (.getfield 7, 3) := by decide +kernel
theorem dX7_isSo_35 : decode cX7_isSo 35 = .ok (.iconst 3, 1) := by decide +kernel
theorem dX7_isSo_36 : decode cX7_isSo 36 = .ok (.iaload, 1) := by decide +kernel
theorem dX7_isSo_37 : decode cX7_isSo 37 = .ok (.iload_n 1, 1) := by decide +kernel
theorem dX7_isSo_38 : decode cX7_isSo 38 = .ok (.iload_n 2, 1) := by decide +kernel
theorem dX7_isSo_39 : decode cX7_isSo 39 = .ok (.invokevirtual 80, 3) := by decide +kernel
theorem dX7_isSo_42 : decode cX7_isSo 42 = .ok (.i2l, 1) := by decide +kernel
theorem dX7_isSo_43 : decode cX7_isSo 43 = .ok (.aload_n 0, 1) := by decide +kernel
theorem dX7_isSo_44 : decode cX7_isSo 44 = .ok (.getfield 50, 3) := by decide +kernel
theorem dX7_isSo_47 : decode cX7_isSo 47 = .ok (.iload_n 3, 1) := by decide +kernel
theorem dX7_isSo_48 : decode cX7_isSo 48 = .ok (.iconst 2, 1) := by decide +kernel
theorem dX7_isSo_49 : decode cX7_isSo 49 = .ok (.iload 6, 2) := by decide +kernel
theorem dX7_isSo_51 : decode cX7_isSo 51 = .ok (.imul, 1) := by decide +kernel
theorem dX7_isSo_52 : decode cX7_isSo 52 = .ok (.iadd, 1) := by decide +kernel
theorem dX7_isSo_53 : decode cX7_isSo 53 = .ok (.iconst 1, 1) := by decide +kernel
theorem dX7_isSo_54 : decode cX7_isSo 54 = .ok (.iadd, 1) := by decide +kernel
theorem dX7_isSo_55 : decode cX7_isSo 55 = .ok (.laload, 1) := by decide +kernel
theorem dX7_isSo_56 : decode cX7_isSo 56 = .ok (.lcmp, 1) := by decide +kernel
theorem dX7_isSo_57 : decode cX7_isSo 57 = .ok (.ifCond .ne 7, 3) := by decide +kernel
theorem dX7_isSo_60 : decode cX7_isSo 60 = .ok (.iconst 1, 1) := by decide +kernel
theorem dX7_isSo_61 : decode cX7_isSo 61 = .ok (.goto 4, 3) := by decide +kernel
theorem dX7_isSo_64 : decode cX7_isSo 64 = .ok (.iconst 0, 1) := by decide +kernel
theorem dX7_isSo_65 : decode cX7_isSo 65 = .ok (.istore 5, 2) := by decide +kernel
theorem dX7_isSo_67 : decode cX7_isSo 67 = .ok (.iinc 6 1, 3) := by decide +kernel
theorem dX7_isSo_70 : decode cX7_isSo 70 = .ok (.goto (-64), 3) := by decide +kernel
theorem dX7_isSo_73 : decode cX7_isSo 73 = .ok (.iload 5, 2) := by decide +kernel
theorem dX7_isSo_75 : decode cX7_isSo 75 = .ok (.ireturn, 1) := by decide +kernel
theorem dX7_seen_0 : decode cX7_seen 0 = .ok (.iload_n 1, 1) := by decide +kernel
theorem dX7_seen_1 : decode cX7_seen 1 = .ok (.invokestatic 130, 3) := by decide +kernel
theorem dX7_seen_4 : decode cX7_seen 4 = .ok (.ifCond .eq 35, 3) := by decide +kernel
theorem dX7_seen_7 : decode cX7_seen 7 = .ok (.iload_n 2, 1) := by decide +kernel
theorem dX7_seen_8 : decode cX7_seen 8 = .ok (.invokestatic 280, 3) := by decide +kernel
theorem dX7_seen_11 : decode cX7_seen 11 = .ok (.ifCond .eq 28, 3) := by decide +kernel
theorem dX7_seen_14 : decode cX7_seen 14 = .ok (.iload_n 3, 1) := by decide +kernel
theorem dX7_seen_15 : decode cX7_seen 15 = .ok (.i2l, 1) := by decide +kernel
theorem dX7_seen_16 : decode cX7_seen 16 = .ok (.lconst 0, 1) := by decide +kernel
theorem dX7_seen_17 : decode cX7_seen 17 = .ok (.ldc2_w 210, 3) := by decide +kernel
theorem dX7_seen_20 : decode cX7_seen 20 = .ok (.invokestatic 59, 3) := by decide +kernel
theorem dX7_seen_23 : decode cX7_seen 23 = .ok (.ifCond .eq 16, 3) := by decide +kernel
theorem dX7_seen_26 : decode cX7_seen 26 = .ok (.iload 5, 2) := by decide +kernel
theorem dX7_seen_28 : decode cX7_seen 28 = .ok (.i2l, 1) := by decide +kernel
theorem dX7_seen_29 : decode cX7_seen 29 = .ok (.lconst 1, 1) := by decide +kernel
theorem dX7_seen_30 : decode cX7_seen 30 = .ok (.ldc2_w 222, 3) := by decide +kernel
theorem dX7_seen_33 : decode cX7_seen 33 = .ok (.invokestatic 59, 3) := by decide +kernel
theorem dX7_seen_36 : decode cX7_seen 36 = .ok (.ifCond .ne 5, 3) := by decide +kernel
theorem dX7_seen_39 : decode cX7_seen 39 = .ok (.iconst (-1), 1) := by decide +kernel
theorem dX7_seen_40 : decode cX7_seen 40 = .ok (.ireturn, 1) := by decide +kernel
theorem dX7_seen_41 : decode cX7_seen 41 = .ok (.aload_n 0, 1) := by decide +kernel
theorem dX7_seen_42 : decode cX7_seen 42 = .ok (.iload_n 2, 1) := by decide +kernel
theorem dX7_seen_43 : decode cX7_seen 43 = .ok (.iload_n 3, 1) := by decide +kernel
theorem dX7_seen_44 : decode cX7_seen 44 = .ok (.iload 4, 2) := by decide +kernel
theorem dX7_seen_46 : decode cX7_seen 46 = .ok (.iconst 2, 1) := by decide +kernel
theorem dX7_seen_47 : decode cX7_seen 47 = .ok (.iload 5, 2) := by decide +kernel
theorem dX7_seen_49 : decode cX7_seen 49 = .ok (.imul, 1) := by decide +kernel
theorem dX7_seen_50 : decode cX7_seen 50 = .ok (.invokevirtual 283, 3) := by decide +kernel
theorem dX7_seen_53 : decode cX7_seen 53 = .ok (.istore 6, 2) := by decide +kernel
theorem dX7_seen_55 : decode cX7_seen 55 = .ok (.iload 6, 2) := by decide +kernel
theorem dX7_seen_57 : decode cX7_seen 57 = .ok (.ifCond .ge 6, 3) := by decide +kernel
theorem dX7_seen_60 : decode cX7_seen 60 = .ok (.iload 6, 2) := by decide +kernel
theorem dX7_seen_62 : decode cX7_seen 62 = .ok (.ireturn, 1) := by decide +kernel
theorem dX7_seen_63 : decode cX7_seen 63 = .ok (.bipush 24, 2) := by decide +kernel
theorem dX7_seen_65 : decode cX7_seen 65 = .ok (.iload_n 2, 1) := by decide +kernel
theorem dX7_seen_66 : decode cX7_seen 66 = .ok (.imul, 1) := by decide +kernel
theorem dX7_seen_67 : decode cX7_seen 67 = .ok (.iload 4, 2) := by decide +kernel
theorem dX7_seen_69 : decode cX7_seen 69 = .ok (.iadd, 1) := by decide +kernel
theorem dX7_seen_70 : decode cX7_seen 70 = .ok (.istore 7, 2) := by decide +kernel
theorem dX7_seen_72 : decode cX7_seen 72 = .ok (.iconst 0, 1) := by decide +kernel
theorem dX7_seen_73 : decode cX7_seen 73 = .ok (.istore 8, 2) := by decide +kernel
theorem dX7_seen_75 : decode cX7_seen 75 = .ok (.iload 8, 2) := by decide +kernel
theorem dX7_seen_77 : decode cX7_seen 77 = .ok (.iload 5, 2) := by decide +kernel
theorem dX7_seen_79 : decode cX7_seen 79 = .ok (.if_icmp .ge 30, 3) := by decide +kernel
theorem dX7_seen_82 : decode cX7_seen 82 = .ok (.aload_n 0, 1) := by decide +kernel
theorem dX7_seen_83 : decode cX7_seen 83 = .ok (.getfield 50, 3) := by decide +kernel
theorem dX7_seen_86 : decode cX7_seen 86 = .ok (.iload 7, 2) := by decide +kernel
theorem dX7_seen_88 : decode cX7_seen 88 = .ok (.iconst 2, 1) := by decide +kernel
theorem dX7_seen_89 : decode cX7_seen 89 = .ok (.iload 8, 2) := by decide +kernel
theorem dX7_seen_91 : decode cX7_seen 91 = .ok (.imul, 1) := by decide +kernel
theorem dX7_seen_92 : decode cX7_seen 92 = .ok (.iadd, 1) := by decide +kernel
theorem dX7_seen_93 : decode cX7_seen 93 = .ok (.laload, 1) := by decide +kernel
theorem dX7_seen_94 : decode cX7_seen 94 = .ok (.invokestatic 142, 3) := by decide +kernel
theorem dX7_seen_97 : decode cX7_seen 97 = .ok (.ifCond .ne 6, 3) := by decide +kernel
theorem dX7_seen_100 : decode cX7_seen 100 = .ok (.bipush (-2), 2) := by decide +kernel
theorem dX7_seen_102 : decode cX7_seen 102 = .ok (.ireturn, 1) := by decide +kernel
theorem dX7_seen_103 : decode cX7_seen 103 = .ok (.iinc 8 1, 3) := by decide +kernel
theorem dX7_seen_106 : decode cX7_seen 106 = .ok (.goto (-31), 3) := by decide +kernel
theorem dX7_seen_109 : decode cX7_seen 109 = .ok (.iconst 0, 1) := by decide +kernel
theorem dX7_seen_110 : decode cX7_seen 110 = .ok (.istore 8, 2) := by decide +kernel
theorem dX7_seen_112 : decode cX7_seen 112 = .ok (.iconst 0, 1) := by decide +kernel
theorem dX7_seen_113 : decode cX7_seen 113 = .ok (.istore 9, 2) := by decide +kernel
theorem dX7_seen_115 : decode cX7_seen 115 = .ok (.iload 9, 2) := by decide +kernel
theorem dX7_seen_117 : decode cX7_seen 117 = .ok (.iconst 4, 1) := by decide +kernel
theorem dX7_seen_118 : decode cX7_seen 118 = .ok (.if_icmp .ge 36, 3) := by decide +kernel
theorem dX7_seen_121 : decode cX7_seen 121 = .ok (.iload 8, 2) := by decide +kernel
theorem dX7_seen_123 : decode cX7_seen 123 = .ok (.aload_n 0, 1) := by decide +kernel
theorem dX7_seen_124 : decode cX7_seen 124 = .ok (.iload_n 1, 1) := by decide +kernel
theorem dX7_seen_125 : decode cX7_seen 125 = .ok (.iload 9, 2) := by decide +kernel
theorem dX7_seen_127 : decode cX7_seen 127 = .ok (.iload 7, 2) := by decide +kernel
theorem dX7_seen_129 : decode cX7_seen 129 = .ok (.iload 5, 2) := by decide +kernel
theorem dX7_seen_131 : decode cX7_seen 131 = .ok (.invokevirtual 290, 3) := by decide +kernel
theorem dX7_seen_134 : decode cX7_seen 134 = .ok (.ifCond .eq 10, 3) := by decide +kernel
theorem dX7_seen_137 : decode cX7_seen 137 = .ok (.iconst 1, 1) := by decide +kernel
theorem dX7_seen_138 : decode cX7_seen 138 = .ok (.iload 9, 2) := by decide +kernel
theorem dX7_seen_140 : decode cX7_seen 140 = .ok (.ishl, 1) := by decide +kernel
theorem dX7_seen_141 : decode cX7_seen 141 = .ok (.goto 4, 3) := by decide +kernel
theorem dX7_seen_144 : decode cX7_seen 144 = .ok (.iconst 0, 1) := by decide +kernel
theorem dX7_seen_145 : decode cX7_seen 145 = .ok (.ior, 1) := by decide +kernel
theorem dX7_seen_146 : decode cX7_seen 146 = .ok (.istore 8, 2) := by decide +kernel
theorem dX7_seen_148 : decode cX7_seen 148 = .ok (.iinc 9 1, 3) := by decide +kernel
theorem dX7_seen_151 : decode cX7_seen 151 = .ok (.goto (-36), 3) := by decide +kernel
theorem dX7_seen_154 : decode cX7_seen 154 = .ok (.iload 8, 2) := by decide +kernel
theorem dX7_seen_156 : decode cX7_seen 156 = .ok (.ireturn, 1) := by decide +kernel
theorem dX7_film_0 : decode cX7_film 0 = .ok (.iload_n 1, 1) := by decide +kernel
theorem dX7_film_1 : decode cX7_film 1 = .ok (.i2l, 1) := by decide +kernel
theorem dX7_film_2 : decode cX7_film 2 = .ok (.lconst 0, 1) := by decide +kernel
theorem dX7_film_3 : decode cX7_film 3 = .ok (.aload_n 0, 1) := by decide +kernel
theorem dX7_film_4 : decode cX7_film 4 = .ok (.getfield 7, 3) := by decide +kernel
theorem dX7_film_7 : decode cX7_film 7 = .ok (.iconst 1, 1) := by decide +kernel
theorem dX7_film_8 : decode cX7_film 8 = .ok (.iaload, 1) := by decide +kernel
theorem dX7_film_9 : decode cX7_film 9 = .ok (.iconst 1, 1) := by decide +kernel
theorem dX7_film_10 : decode cX7_film 10 = .ok (.isub, 1) := by decide +kernel
theorem dX7_film_11 : decode cX7_film 11 = .ok (.i2l, 1) := by decide +kernel
theorem dX7_film_12 : decode cX7_film 12 = .ok (.invokestatic 59, 3) := by decide +kernel
theorem dX7_film_15 : decode cX7_film 15 = .ok (.ifCond .eq 22, 3) := by decide +kernel
theorem dX7_film_18 : decode cX7_film 18 = .ok (.iload_n 2, 1) := by decide +kernel
theorem dX7_film_19 : decode cX7_film 19 = .ok (.invokestatic 280, 3) := by decide +kernel
theorem dX7_film_22 : decode cX7_film 22 = .ok (.ifCond .eq 15, 3) := by decide +kernel
theorem dX7_film_25 : decode cX7_film 25 = .ok (.iload_n 3, 1) := by decide +kernel
theorem dX7_film_26 : decode cX7_film 26 = .ok (.i2l, 1) := by decide +kernel
theorem dX7_film_27 : decode cX7_film 27 = .ok (.lconst 0, 1) := by decide +kernel
theorem dX7_film_28 : decode cX7_film 28 = .ok (.ldc2_w 210, 3) := by decide +kernel
theorem dX7_film_31 : decode cX7_film 31 = .ok (.invokestatic 59, 3) := by decide +kernel
theorem dX7_film_34 : decode cX7_film 34 = .ok (.ifCond .ne 5, 3) := by decide +kernel
theorem dX7_film_37 : decode cX7_film 37 = .ok (.iconst (-1), 1) := by decide +kernel
theorem dX7_film_38 : decode cX7_film 38 = .ok (.ireturn, 1) := by decide +kernel
theorem dX7_film_39 : decode cX7_film 39 = .ok (.aload_n 0, 1) := by decide +kernel
theorem dX7_film_40 : decode cX7_film 40 = .ok (.iload_n 2, 1) := by decide +kernel
theorem dX7_film_41 : decode cX7_film 41 = .ok (.iload_n 3, 1) := by decide +kernel
theorem dX7_film_42 : decode cX7_film 42 = .ok (.iload 4, 2) := by decide +kernel
theorem dX7_film_44 : decode cX7_film 44 = .ok (.aload_n 0, 1) := by decide +kernel
theorem dX7_film_45 : decode cX7_film 45 = .ok (.getfield 7, 3) := by decide +kernel
theorem dX7_film_48 : decode cX7_film 48 = .ok (.iconst 0, 1) := by decide +kernel
theorem dX7_film_49 : decode cX7_film 49 = .ok (.iaload, 1) := by decide +kernel
theorem dX7_film_50 : decode cX7_film 50 = .ok (.invokevirtual 283, 3) := by decide +kernel
theorem dX7_film_53 : decode cX7_film 53 = .ok (.istore 5, 2) := by decide +kernel
theorem dX7_film_55 : decode cX7_film 55 = .ok (.iload 5, 2) := by decide +kernel
theorem dX7_film_57 : decode cX7_film 57 = .ok (.ifCond .ge 6, 3) := by decide +kernel
theorem dX7_film_60 : decode cX7_film 60 = .ok (.iload 5, 2) := by decide +kernel
theorem dX7_film_62 : decode cX7_film 62 = .ok (.ireturn, 1) := by decide +kernel
theorem dX7_film_63 : decode cX7_film 63 = .ok (.iconst 0, 1) := by decide +kernel
theorem dX7_film_64 : decode cX7_film 64 = .ok (.istore 6, 2) := by decide +kernel
theorem dX7_film_66 : decode cX7_film 66 = .ok (.iload 6, 2) := by decide +kernel
theorem dX7_film_68 : decode cX7_film 68 = .ok (.aload_n 0, 1) := by decide +kernel
theorem dX7_film_69 : decode cX7_film 69 = .ok (.getfield 7, 3) := by decide +kernel
theorem dX7_film_72 : decode cX7_film 72 = .ok (.iconst 0, 1) := by decide +kernel
theorem dX7_film_73 : decode cX7_film 73 = .ok (.iaload, 1) := by decide +kernel
theorem dX7_film_74 : decode cX7_film 74 = .ok (.if_icmp .ge 44, 3) := by decide +kernel
theorem dX7_film_77 : decode cX7_film 77 = .ok (.aload_n 0, 1) := by decide +kernel
theorem dX7_film_78 : decode cX7_film 78 = .ok (.getfield 50, 3) := by decide +kernel
theorem dX7_film_81 : decode cX7_film 81 = .ok (.bipush 24, 2) := by decide +kernel
theorem dX7_film_83 : decode cX7_film 83 = .ok (.iload_n 2, 1) := by decide +kernel
theorem dX7_film_84 : decode cX7_film 84 = .ok (.imul, 1) := by decide +kernel
theorem dX7_film_85 : decode cX7_film 85 = .ok (.iload 4, 2) := by decide +kernel
theorem dX7_film_87 : decode cX7_film 87 = .ok (.iadd, 1) := by decide +kernel
theorem dX7_film_88 : decode cX7_film 88 = .ok (.iload 6, 2) := by decide +kernel
theorem dX7_film_90 : decode cX7_film 90 = .ok (.iadd, 1) := by decide +kernel
theorem dX7_film_91 : decode cX7_film 91 = .ok (.aload_n 0, 1) := by decide +kernel
theorem dX7_film_92 : decode cX7_film 92 = .ok (.aload_n 0, 1) := by decide +kernel
theorem dX7_film_93 : decode cX7_film 93 = .ok (.bipush 8, 2) := by decide +kernel
theorem dX7_film_95 : decode cX7_film 95 = .ok (.iload_n 1, 1) := by decide +kernel
theorem dX7_film_96 : decode cX7_film 96 = .ok (.imul, 1) := by decide +kernel
theorem dX7_film_97 : decode cX7_film 97 = .ok (.iload 6, 2) := by decide +kernel
theorem dX7_film_99 : decode cX7_film 99 = .ok (.iadd, 1) := by decide +kernel
theorem dX7_film_100 : decode cX7_film 100 = .ok (.invokevirtual 92, 3) := by decide +kernel
theorem dX7_film_103 : decode cX7_film 103 = .ok (.invokevirtual 84, 3) := by decide +kernel
theorem dX7_film_106 : decode cX7_film 106 = .ok (.i2l, 1) := by decide +kernel
theorem dX7_film_107 : decode cX7_film 107 = .ok (.iload_n 3, 1) := by decide +kernel
theorem dX7_film_108 : decode cX7_film 108 = .ok (.invokestatic 286, 3) := by decide +kernel
theorem dX7_film_111 : decode cX7_film 111 = .ok (.lastore, 1) := by decide +kernel
theorem dX7_film_112 : decode cX7_film 112 = .ok (.iinc 6 1, 3) := by decide +kernel
theorem dX7_film_115 : decode cX7_film 115 = .ok (.goto (-49), 3) := by decide +kernel
theorem dX7_film_118 : decode cX7_film 118 = .ok (.aload_n 0, 1) := by decide +kernel
theorem dX7_film_119 : decode cX7_film 119 = .ok (.getfield 7, 3) := by decide +kernel
theorem dX7_film_122 : decode cX7_film 122 = .ok (.iconst 0, 1) := by decide +kernel
theorem dX7_film_123 : decode cX7_film 123 = .ok (.iaload, 1) := by decide +kernel
theorem dX7_film_124 : decode cX7_film 124 = .ok (.ireturn, 1) := by decide +kernel
