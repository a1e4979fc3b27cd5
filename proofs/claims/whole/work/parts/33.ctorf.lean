theorem dX10_init_0 : decode cX10_init 0 = .ok (.aload_n 0, 1) := by decide +kernel
theorem dX10_init_1 : decode cX10_init 1 = .ok (.invokespecial 3, 3) := by decide +kernel
theorem dX10_init_4 : decode cX10_init 4 = .ok (.aload_n 0, 1) := by decide +kernel
theorem dX10_init_5 : decode cX10_init 5 = .ok (.iconst 0, 1) := by decide +kernel
theorem dX10_init_6 : decode cX10_init 6 = .ok (.putfield 9, 3) := by decide +kernel
theorem dX10_init_9 : decode cX10_init 9 = .ok (.aload_n 0, 1) := by decide +kernel
theorem dX10_init_10 : decode cX10_init 10 = .ok (.lconst 0, 1) := by decide +kernel
theorem dX10_init_11 : decode cX10_init 11 = .ok (.putfield 13, 3) := by decide +kernel
theorem dX10_init_14 : decode cX10_init 14 = .ok (.aload_n 0, 1) := by decide +kernel
theorem dX10_init_15 : decode cX10_init 15 = .ok (.lconst 1, 1) := by decide +kernel
theorem dX10_init_16 : decode cX10_init 16 = .ok (.putfield 17, 3) := by decide +kernel
theorem dX10_init_19 : decode cX10_init 19 = .ok (.aload_n 0, 1) := by decide +kernel
theorem dX10_init_20 : decode cX10_init 20 = .ok (.iconst 4, 1) := by decide +kernel
theorem dX10_init_21 : decode cX10_init 21 = .ok (.anewarray 20, 3) := by decide +kernel
theorem dX10_init_24 : decode cX10_init 24 = .ok (.putfield 22, 3) := by decide +kernel
theorem dX10_init_27 : decode cX10_init 27 = .ok (.aload_n 0, 1) := by decide +kernel
theorem dX10_init_28 : decode cX10_init 28 = .ok (.new 26, 3) := by decide +kernel
theorem dX10_init_31 : decode cX10_init 31 = .ok (.dup, 1) := by decide +kernel
theorem dX10_init_32 : decode cX10_init 32 = .ok (.invokespecial 28, 3) := by decide +kernel
theorem dX10_init_35 : decode cX10_init 35 = .ok (.putfield 29, 3) := by decide +kernel
theorem dX10_init_38 : decode cX10_init 38 = .ok (.aload_n 0, 1) := by decide +kernel
theorem dX10_init_39 : decode cX10_init 39 = .ok (.new 33, 3) := by decide +kernel
theorem dX10_init_42 : decode cX10_init 42 = .ok (.dup, 1) := by decide +kernel
theorem dX10_init_43 : decode cX10_init 43 = .ok (.invokespecial 35, 3) := by decide +kernel
theorem dX10_init_46 : decode cX10_init 46 = .ok (.putfield 36, 3) := by decide +kernel
theorem dX10_init_49 : decode cX10_init 49 = .ok (.aload_n 0, 1) := by decide +kernel
theorem dX10_init_50 : decode cX10_init 50 = .ok (.new 40, 3) := by decide +kernel
theorem dX10_init_53 : decode cX10_init 53 = .ok (.dup, 1) := by decide +kernel
theorem dX10_init_54 : decode cX10_init 54 = .ok (.invokespecial 42, 3) := by decide +kernel
theorem dX10_init_57 : decode cX10_init 57 = .ok (.putfield 43, 3) := by decide +kernel
theorem dX10_init_60 : decode cX10_init 60 = .ok (.aload_n 0, 1) := by decide +kernel
theorem dX10_init_61 : decode cX10_init 61 = .ok (.new 47, 3) := by decide +kernel
theorem dX10_init_64 : decode cX10_init 64 = .ok (.dup, 1) := by decide +kernel
theorem dX10_init_65 : decode cX10_init 65 = .ok (.invokespecial 49, 3) := by decide +kernel
theorem dX10_init_68 : decode cX10_init 68 = .ok (.putfield 50, 3) := by decide +kernel
theorem dX10_init_71 : decode cX10_init 71 = .ok (.aload_n 0, 1) := by decide +kernel
theorem dX10_init_72 : decode cX10_init 72 = .ok (.new 47, 3) := by decide +kernel
theorem dX10_init_75 : decode cX10_init 75 = .ok (.dup, 1) := by decide +kernel
theorem dX10_init_76 : decode cX10_init 76 = .ok (.invokespecial 49, 3) := by decide +kernel
theorem dX10_init_79 : decode cX10_init 79 = .ok (.putfield 54, 3) := by decide +kernel
theorem dX10_init_82 : decode cX10_init 82 = .ok (.aload_n 0, 1) := by decide +kernel
theorem dX10_init_83 : decode cX10_init 83 = .ok (.new 57, 3) := by decide +kernel
theorem dX10_init_86 : decode cX10_init 86 = .ok (.dup, 1) := by decide +kernel
theorem dX10_init_87 : decode cX10_init 87 = .ok (.invokespecial 59, 3) := by decide +kernel
theorem dX10_init_90 : decode cX10_init 90 = .ok (.putfield 60, 3) := by decide +kernel
theorem dX10_init_93 : decode cX10_init 93 = .ok (.aload_n 0, 1) := by decide +kernel
theorem dX10_init_94 : decode cX10_init 94 = .ok (.new 57, 3) := by decide +kernel
theorem dX10_init_97 : decode cX10_init 97 = .ok (.dup, 1) := by decide +kernel
theorem dX10_init_98 : decode cX10_init 98 = .ok (.invokespecial 59, 3) := by decide +kernel
theorem dX10_init_101 : decode cX10_init 101 = .ok (.putfield 64, 3) := by decide +kernel
theorem dX10_init_104 : decode cX10_init 104 = .ok (.aload_n 0, 1) := by decide +kernel
theorem dX10_init_105 : decode cX10_init 105 = .ok (.iconst 3, 1) := by decide +kernel
theorem dX10_init_106 : decode cX10_init 106 = .ok (.anewarray 47, 3) := by decide +kernel
theorem dX10_init_109 : decode cX10_init 109 = .ok (.putfield 67, 3) := by decide +kernel
theorem dX10_init_112 : decode cX10_init 112 = .ok (.aload_n 0, 1) := by decide +kernel
theorem dX10_init_113 : decode cX10_init 113 = .ok (.iconst 3, 1) := by decide +kernel
theorem dX10_init_114 : decode cX10_init 114 = .ok (.anewarray 57, 3) := by decide +kernel
theorem dX10_init_117 : decode cX10_init 117 = .ok (.putfield 71, 3) := by decide +kernel
theorem dX10_init_120 : decode cX10_init 120 = .ok (.aload_n 0, 1) := by decide +kernel
theorem dX10_init_121 : decode cX10_init 121 = .ok (.iconst 0, 1) := by decide +kernel
theorem dX10_init_122 : decode cX10_init 122 = .ok (.putfield 75, 3) := by decide +kernel
theorem dX10_init_125 : decode cX10_init 125 = .ok (.aload_n 0, 1) := by decide +kernel
theorem dX10_init_126 : decode cX10_init 126 = .ok (.new 78, 3) := by decide +kernel
theorem dX10_init_129 : decode cX10_init 129 = .ok (.dup, 1) := by decide +kernel
theorem dX10_init_130 : decode cX10_init 130 = .ok (.invokespecial 80, 3) := by decide +kernel
theorem dX10_init_133 : decode cX10_init 133 = .ok (.putfield 81, 3) := by decide +kernel
theorem dX10_init_136 : decode cX10_init 136 = .ok (.aload_n 0, 1) := by decide +kernel
theorem dX10_init_137 : decode cX10_init 137 = .ok (.new 85, 3) := by decide +kernel
theorem dX10_init_140 : decode cX10_init 140 = .ok (.dup, 1) := by decide +kernel
theorem dX10_init_141 : decode cX10_init 141 = .ok (.invokespecial 87, 3) := by decide +kernel
theorem dX10_init_144 : decode cX10_init 144 = .ok (.putfield 88, 3) := by decide +kernel
theorem dX10_init_147 : decode cX10_init 147 = .ok (.aload_n 0, 1) := by decide +kernel
theorem dX10_init_148 : decode cX10_init 148 = .ok (.new 92, 3) := by decide +kernel
theorem dX10_init_151 : decode cX10_init 151 = .ok (.dup, 1) := by decide +kernel
theorem dX10_init_152 : decode cX10_init 152 = .ok (.invokespecial 94, 3) := by decide +kernel
theorem dX10_init_155 : decode cX10_init 155 = .ok (.putfield 95, 3) := by decide +kernel
theorem dX10_init_158 : decode cX10_init 158 = .ok (.aload_n 0, 1) := by decide +kernel
theorem dX10_init_159 : decode cX10_init 159 = .ok (.new 99, 3) := by decide +kernel
theorem dX10_init_162 : decode cX10_init 162 = .ok (.dup, 1) := by decide +kernel
theorem dX10_init_163 : decode cX10_init 163 = .ok (.invokespecial 101, 3) := by decide +kernel
theorem dX10_init_166 : decode cX10_init 166 = .ok (.putfield 102, 3) := by decide +kernel
theorem dX10_init_169 : decode cX10_init 169 = .ok (.aload_n 0, 1) := by decide +kernel
theorem dX10_init_170 : decode cX10_init 170 = .ok (.new 99, 3) := by decide +kernel
theorem dX10_init_173 : decode cX10_init 173 = .ok (.dup, 1) := by decide +kernel
theorem dX10_init_174 : decode cX10_init 174 = .ok (.invokespecial 101, 3) := by decide +kernel
theorem dX10_init_177 : decode cX10_init 177 = .ok (.putfield 106, 3) := by decide +kernel
theorem dX10_init_180 : decode cX10_init 180 = .ok (.iconst 0, 1) := by decide +kernel
theorem dX10_init_181 : decode cX10_init 181 = .ok (.istore_n 1, 1) := by decide +kernel
theorem dX10_init_182 : decode cX10_init 182 = .ok (.iload_n 1, 1) := by decide +kernel
theorem dX10_init_183 : decode cX10_init 183 = .ok (.iconst 4, 1) := by decide +kernel
theorem dX10_init_184 : decode cX10_init 184 = .ok (.if_icmp .ge 22, 3) := by decide +kernel
theorem dX10_init_187 : decode cX10_init 187 = .ok (.aload_n 0, 1) := by decide +kernel
theorem dX10_init_188 : decode cX10_init 188 = .ok (.getfield 22, 3) := by decide +kernel
theorem dX10_init_191 : decode cX10_init 191 = .ok (.iload_n 1, 1) := by decide +kernel
theorem dX10_init_192 : decode cX10_init 192 = .ok (.new 20, 3) := by decide +kernel
theorem dX10_init_195 : decode cX10_init 195 = .ok (.dup, 1) := by decide +kernel
theorem dX10_init_196 : decode cX10_init 196 = .ok (.invokespecial 109, 3) := by decide +kernel
theorem dX10_init_199 : decode cX10_init 199 = .ok (.aastore, 1) := by decide +kernel
theorem dX10_init_200 : decode cX10_init 200 = .ok (.iinc 1 1, 3) := by decide +kernel
theorem dX10_init_203 : decode cX10_init 203 = .ok (.goto (-21), 3) := by decide +kernel
theorem dX10_init_206 : decode cX10_init 206 = .ok (.iconst 0, 1) := by decide +kernel
theorem dX10_init_207 : decode cX10_init 207 = .ok (.istore_n 1, 1) := by decide +kernel
theorem dX10_init_208 : decode cX10_init 208 = .ok (.iload_n 1, 1) := by decide +kernel
theorem dX10_init_209 : decode cX10_init 209 = .ok (.iconst 3, 1) := by decide +kernel
theorem dX10_init_210 : decode cX10_init 210 = .ok (.if_icmp .ge 35, 3) := by decide +kernel
theorem dX10_init_213 : decode cX10_init 213 = .ok (.aload_n 0, 1) := by decide +kernel
theorem dX10_init_214 : decode cX10_init 214 = .ok (.getfield 67, 3) := by decide +kernel
theorem dX10_init_217 : decode cX10_init 217 = .ok (.iload_n 1, 1) := by decide +kernel
theorem dX10_init_218 : decode cX10_init 218 = .ok (.new 47, 3) := by decide +kernel
theorem dX10_init_221 : decode cX10_init 221 = .ok (.dup, 1) := by decide +kernel
theorem dX10_init_222 : decode cX10_init 222 = .ok (.invokespecial 49, 3) := by decide +kernel
theorem dX10_init_225 : decode cX10_init 225 = .ok (.aastore, 1) := by decide +kernel
theorem dX10_init_226 : decode cX10_init 226 = .ok (.aload_n 0, 1) := by decide +kernel
theorem dX10_init_227 : decode cX10_init 227 = .ok (.getfield 71, 3) := by decide +kernel
theorem dX10_init_230 : decode cX10_init 230 = .ok (.iload_n 1, 1) := by decide +kernel
theorem dX10_init_231 : decode cX10_init 231 = .ok (.new 57, 3) := by decide +kernel
theorem dX10_init_234 : decode cX10_init 234 = .ok (.dup, 1) := by decide +kernel
theorem dX10_init_235 : decode cX10_init 235 = .ok (.invokespecial 59, 3) := by decide +kernel
theorem dX10_init_238 : decode cX10_init 238 = .ok (.aastore, 1) := by decide +kernel
theorem dX10_init_239 : decode cX10_init 239 = .ok (.iinc 1 1, 3) := by decide +kernel
theorem dX10_init_242 : decode cX10_init 242 = .ok (.goto (-34), 3) := by decide +kernel
theorem dX10_init_245 : decode cX10_init 245 = .ok (.return_, 1) := by decide +kernel
theorem dX0_init_0 : decode cX0_init 0 = .ok (.aload_n 0, 1) := by decide +kernel
theorem dX0_init_1 : decode cX0_init 1 = .ok (.invokespecial 3, 3) := by decide +kernel
theorem dX0_init_4 : decode cX0_init 4 = .ok (.aload_n 0, 1) := by decide +kernel
theorem dX0_init_5 : decode cX0_init 5 = .ok (.new 9, 3) := by decide +kernel
theorem dX0_init_8 : decode cX0_init 8 = .ok (.dup, 1) := by decide +kernel
theorem dX0_init_9 : decode cX0_init 9 = .ok (.invokespecial 11, 3) := by decide +kernel
theorem dX0_init_12 : decode cX0_init 12 = .ok (.putfield 12, 3) := by decide +kernel
theorem dX0_init_15 : decode cX0_init 15 = .ok (.aload_n 0, 1) := by decide +kernel
theorem dX0_init_16 : decode cX0_init 16 = .ok (.iconst 1, 1) := by decide +kernel
theorem dX0_init_17 : decode cX0_init 17 = .ok (.putfield 18, 3) := by decide +kernel
theorem dX0_init_20 : decode cX0_init 20 = .ok (.aload_n 0, 1) := by decide +kernel
theorem dX0_init_21 : decode cX0_init 21 = .ok (.iconst 0, 1) := by decide +kernel
theorem dX0_init_22 : decode cX0_init 22 = .ok (.putfield 22, 3) := by decide +kernel
theorem dX0_init_25 : decode cX0_init 25 = .ok (.aload_n 0, 1) := by decide +kernel
theorem dX0_init_26 : decode cX0_init 26 = .ok (.bipush 6, 2) := by decide +kernel
theorem dX0_init_28 : decode cX0_init 28 = .ok (.newarray .int, 2) := by decide +kernel
theorem dX0_init_30 : decode cX0_init 30 = .ok (.putfield 26, 3) := by decide +kernel
theorem dX0_init_33 : decode cX0_init 33 = .ok (.aload_n 0, 1) := by decide +kernel
theorem dX0_init_34 : decode cX0_init 34 = .ok (.bipush 6, 2) := by decide +kernel
theorem dX0_init_36 : decode cX0_init 36 = .ok (.newarray .int, 2) := by decide +kernel
theorem dX0_init_38 : decode cX0_init 38 = .ok (.putfield 30, 3) := by decide +kernel
theorem dX0_init_41 : decode cX0_init 41 = .ok (.aload_n 0, 1) := by decide +kernel
theorem dX0_init_42 : decode cX0_init 42 = .ok (.bipush 6, 2) := by decide +kernel
theorem dX0_init_44 : decode cX0_init 44 = .ok (.newarray .int, 2) := by decide +kernel
theorem dX0_init_46 : decode cX0_init 46 = .ok (.putfield 33, 3) := by decide +kernel
theorem dX0_init_49 : decode cX0_init 49 = .ok (.aload_n 0, 1) := by decide +kernel
theorem dX0_init_50 : decode cX0_init 50 = .ok (.iconst 0, 1) := by decide +kernel
theorem dX0_init_51 : decode cX0_init 51 = .ok (.putfield 36, 3) := by decide +kernel
theorem dX0_init_54 : decode cX0_init 54 = .ok (.aload_n 0, 1) := by decide +kernel
theorem dX0_init_55 : decode cX0_init 55 = .ok (.iconst 0, 1) := by decide +kernel
theorem dX0_init_56 : decode cX0_init 56 = .ok (.putfield 39, 3) := by decide +kernel
theorem dX0_init_59 : decode cX0_init 59 = .ok (.aload_n 0, 1) := by decide +kernel
theorem dX0_init_60 : decode cX0_init 60 = .ok (.bipush 6, 2) := by decide +kernel
theorem dX0_init_62 : decode cX0_init 62 = .ok (.newarray .int, 2) := by decide +kernel
theorem dX0_init_64 : decode cX0_init 64 = .ok (.putfield 42, 3) := by decide +kernel
theorem dX0_init_67 : decode cX0_init 67 = .ok (.aload_n 0, 1) := by decide +kernel
theorem dX0_init_68 : decode cX0_init 68 = .ok (.bipush 72, 2) := by decide +kernel
theorem dX0_init_70 : decode cX0_init 70 = .ok (.newarray .int, 2) := by decide +kernel
theorem dX0_init_72 : decode cX0_init 72 = .ok (.putfield 45, 3) := by decide +kernel
theorem dX0_init_75 : decode cX0_init 75 = .ok (.aload_n 0, 1) := by decide +kernel
theorem dX0_init_76 : decode cX0_init 76 = .ok (.bipush 72, 2) := by decide +kernel
theorem dX0_init_78 : decode cX0_init 78 = .ok (.newarray .int, 2) := by decide +kernel
theorem dX0_init_80 : decode cX0_init 80 = .ok (.putfield 48, 3) := by decide +kernel
theorem dX0_init_83 : decode cX0_init 83 = .ok (.aload_n 0, 1) := by decide +kernel
theorem dX0_init_84 : decode cX0_init 84 = .ok (.bipush 72, 2) := by decide +kernel
theorem dX0_init_86 : decode cX0_init 86 = .ok (.newarray .int, 2) := by decide +kernel
theorem dX0_init_88 : decode cX0_init 88 = .ok (.putfield 51, 3) := by decide +kernel
theorem dX0_init_91 : decode cX0_init 91 = .ok (.aload_n 0, 1) := by decide +kernel
theorem dX0_init_92 : decode cX0_init 92 = .ok (.sipush 432, 3) := by decide +kernel
theorem dX0_init_95 : decode cX0_init 95 = .ok (.newarray .int, 2) := by decide +kernel
theorem dX0_init_97 : decode cX0_init 97 = .ok (.putfield 54, 3) := by decide +kernel
theorem dX0_init_100 : decode cX0_init 100 = .ok (.aload_n 0, 1) := by decide +kernel
theorem dX0_init_101 : decode cX0_init 101 = .ok (.iconst 1, 1) := by decide +kernel
theorem dX0_init_102 : decode cX0_init 102 = .ok (.putfield 57, 3) := by decide +kernel
theorem dX0_init_105 : decode cX0_init 105 = .ok (.aload_n 0, 1) := by decide +kernel
theorem dX0_init_106 : decode cX0_init 106 = .ok (.iconst 0, 1) := by decide +kernel
theorem dX0_init_107 : decode cX0_init 107 = .ok (.putfield 60, 3) := by decide +kernel
theorem dX0_init_110 : decode cX0_init 110 = .ok (.aload_n 0, 1) := by decide +kernel
theorem dX0_init_111 : decode cX0_init 111 = .ok (.bipush 72, 2) := by decide +kernel
theorem dX0_init_113 : decode cX0_init 113 = .ok (.newarray .int, 2) := by decide +kernel
theorem dX0_init_115 : decode cX0_init 115 = .ok (.putfield 63, 3) := by decide +kernel
theorem dX0_init_118 : decode cX0_init 118 = .ok (.aload_n 0, 1) := by decide +kernel
theorem dX0_init_119 : decode cX0_init 119 = .ok (.bipush 72, 2) := by decide +kernel
theorem dX0_init_121 : decode cX0_init 121 = .ok (.newarray .boolean, 2) := by decide +kernel
theorem dX0_init_123 : decode cX0_init 123 = .ok (.putfield 66, 3) := by decide +kernel
theorem dX0_init_126 : decode cX0_init 126 = .ok (.return_, 1) := by decide +kernel
theorem dX1_init_0 : decode cX1_init 0 = .ok (.aload_n 0, 1) := by decide +kernel
theorem dX1_init_1 : decode cX1_init 1 = .ok (.invokespecial 3, 3) := by decide +kernel
theorem dX1_init_4 : decode cX1_init 4 = .ok (.aload_n 0, 1) := by decide +kernel
theorem dX1_init_5 : decode cX1_init 5 = .ok (.iconst 4, 1) := by decide +kernel
theorem dX1_init_6 : decode cX1_init 6 = .ok (.newarray .int, 2) := by decide +kernel
theorem dX1_init_8 : decode cX1_init 8 = .ok (.putfield 9, 3) := by decide +kernel
theorem dX1_init_11 : decode cX1_init 11 = .ok (.aload_n 0, 1) := by decide +kernel
theorem dX1_init_12 : decode cX1_init 12 = .ok (.aconst_null, 1) := by decide +kernel
theorem dX1_init_13 : decode cX1_init 13 = .ok (.putfield 15, 3) := by decide +kernel
theorem dX1_init_16 : decode cX1_init 16 = .ok (.aload_n 0, 1) := by decide +kernel
theorem dX1_init_17 : decode cX1_init 17 = .ok (.aconst_null, 1) := by decide +kernel
theorem dX1_init_18 : decode cX1_init 18 = .ok (.putfield 19, 3) := by decide +kernel
theorem dX1_init_21 : decode cX1_init 21 = .ok (.return_, 1) := by decide +kernel
theorem dX2_init_0 : decode cX2_init 0 = .ok (.aload_n 0, 1) := by decide +kernel
theorem dX2_init_1 : decode cX2_init 1 = .ok (.invokespecial 3, 3) := by decide +kernel
theorem dX2_init_4 : decode cX2_init 4 = .ok (.aload_n 0, 1) := by decide +kernel
theorem dX2_init_5 : decode cX2_init 5 = .ok (.iconst 0, 1) := by decide +kernel
theorem dX2_init_6 : decode cX2_init 6 = .ok (.putfield 9, 3) := by decide +kernel
theorem dX2_init_9 : decode cX2_init 9 = .ok (.aload_n 0, 1) := by decide +kernel
theorem dX2_init_10 : decode cX2_init 10 = .ok (.bipush 8, 2) := by decide +kernel
theorem dX2_init_12 : decode cX2_init 12 = .ok (.newarray .long, 2) := by decide +kernel
theorem dX2_init_14 : decode cX2_init 14 = .ok (.putfield 15, 3) := by decide +kernel
theorem dX2_init_17 : decode cX2_init 17 = .ok (.aload_n 0, 1) := by decide +kernel
theorem dX2_init_18 : decode cX2_init 18 = .ok (.bipush 8, 2) := by decide +kernel
theorem dX2_init_20 : decode cX2_init 20 = .ok (.newarray .int, 2) := by decide +kernel
theorem dX2_init_22 : decode cX2_init 22 = .ok (.putfield 19, 3) := by decide +kernel
theorem dX2_init_25 : decode cX2_init 25 = .ok (.aload_n 0, 1) := by decide +kernel
theorem dX2_init_26 : decode cX2_init 26 = .ok (.bipush 64, 2) := by decide +kernel
theorem dX2_init_28 : decode cX2_init 28 = .ok (.newarray .int, 2) := by decide +kernel
theorem dX2_init_30 : decode cX2_init 30 = .ok (.putfield 23, 3) := by decide +kernel
theorem dX2_init_33 : decode cX2_init 33 = .ok (.aload_n 0, 1) := by decide +kernel
theorem dX2_init_34 : decode cX2_init 34 = .ok (.iconst 0, 1) := by decide +kernel
theorem dX2_init_35 : decode cX2_init 35 = .ok (.putfield 26, 3) := by decide +kernel
theorem dX2_init_38 : decode cX2_init 38 = .ok (.aload_n 0, 1) := by decide +kernel
theorem dX2_init_39 : decode cX2_init 39 = .ok (.bipush 6, 2) := by decide +kernel
theorem dX2_init_41 : decode cX2_init 41 = .ok (.newarray .long, 2) := by decide +kernel
theorem dX2_init_43 : decode cX2_init 43 = .ok (.putfield 29, 3) := by decide +kernel
theorem dX2_init_46 : decode cX2_init 46 = .ok (.aload_n 0, 1) := by decide +kernel
theorem dX2_init_47 : decode cX2_init 47 = .ok (.bipush 6, 2) := by decide +kernel
theorem dX2_init_49 : decode cX2_init 49 = .ok (.newarray .int, 2) := by decide +kernel
theorem dX2_init_51 : decode cX2_init 51 = .ok (.putfield 32, 3) := by decide +kernel
theorem dX2_init_54 : decode cX2_init 54 = .ok (.aload_n 0, 1) := by decide +kernel
theorem dX2_init_55 : decode cX2_init 55 = .ok (.bipush 6, 2) := by decide +kernel
theorem dX2_init_57 : decode cX2_init 57 = .ok (.newarray .int, 2) := by decide +kernel
theorem dX2_init_59 : decode cX2_init 59 = .ok (.putfield 35, 3) := by decide +kernel
theorem dX2_init_62 : decode cX2_init 62 = .ok (.aload_n 0, 1) := by decide +kernel
theorem dX2_init_63 : decode cX2_init 63 = .ok (.bipush 6, 2) := by decide +kernel
theorem dX2_init_65 : decode cX2_init 65 = .ok (.newarray .int, 2) := by decide +kernel
theorem dX2_init_67 : decode cX2_init 67 = .ok (.putfield 38, 3) := by decide +kernel
theorem dX2_init_70 : decode cX2_init 70 = .ok (.aload_n 0, 1) := by decide +kernel
theorem dX2_init_71 : decode cX2_init 71 = .ok (.bipush 72, 2) := by decide +kernel
theorem dX2_init_73 : decode cX2_init 73 = .ok (.newarray .int, 2) := by decide +kernel
theorem dX2_init_75 : decode cX2_init 75 = .ok (.putfield 41, 3) := by decide +kernel
theorem dX2_init_78 : decode cX2_init 78 = .ok (.aload_n 0, 1) := by decide +kernel
theorem dX2_init_79 : decode cX2_init 79 = .ok (.bipush 72, 2) := by decide +kernel
theorem dX2_init_81 : decode cX2_init 81 = .ok (.newarray .int, 2) := by decide +kernel
theorem dX2_init_83 : decode cX2_init 83 = .ok (.putfield 44, 3) := by decide +kernel
theorem dX2_init_86 : decode cX2_init 86 = .ok (.aload_n 0, 1) := by decide +kernel
theorem dX2_init_87 : decode cX2_init 87 = .ok (.iconst 0, 1) := by decide +kernel
theorem dX2_init_88 : decode cX2_init 88 = .ok (.putfield 47, 3) := by decide +kernel
theorem dX2_init_91 : decode cX2_init 91 = .ok (.aload_n 0, 1) := by decide +kernel
theorem dX2_init_92 : decode cX2_init 92 = .ok (.bipush 24, 2) := by decide +kernel
theorem dX2_init_94 : decode cX2_init 94 = .ok (.newarray .int, 2) := by decide +kernel
theorem dX2_init_96 : decode cX2_init 96 = .ok (.putfield 50, 3) := by decide +kernel
theorem dX2_init_99 : decode cX2_init 99 = .ok (.aload_n 0, 1) := by decide +kernel
theorem dX2_init_100 : decode cX2_init 100 = .ok (.iconst 0, 1) := by decide +kernel
theorem dX2_init_101 : decode cX2_init 101 = .ok (.putfield 53, 3) := by decide +kernel
theorem dX2_init_104 : decode cX2_init 104 = .ok (.aload_n 0, 1) := by decide +kernel
theorem dX2_init_105 : decode cX2_init 105 = .ok (.iconst 2, 1) := by decide +kernel
theorem dX2_init_106 : decode cX2_init 106 = .ok (.newarray .long, 2) := by decide +kernel
theorem dX2_init_108 : decode cX2_init 108 = .ok (.putfield 56, 3) := by decide +kernel
theorem dX2_init_111 : decode cX2_init 111 = .ok (.aload_n 0, 1) := by decide +kernel
theorem dX2_init_112 : decode cX2_init 112 = .ok (.bipush 8, 2) := by decide +kernel
theorem dX2_init_114 : decode cX2_init 114 = .ok (.newarray .int, 2) := by decide +kernel
theorem dX2_init_116 : decode cX2_init 116 = .ok (.putfield 59, 3) := by decide +kernel
theorem dX2_init_119 : decode cX2_init 119 = .ok (.aload_n 0, 1) := by decide +kernel
theorem dX2_init_120 : decode cX2_init 120 = .ok (.iconst 2, 1) := by decide +kernel
theorem dX2_init_121 : decode cX2_init 121 = .ok (.newarray .int, 2) := by decide +kernel
theorem dX2_init_123 : decode cX2_init 123 = .ok (.putfield 62, 3) := by decide +kernel
theorem dX2_init_126 : decode cX2_init 126 = .ok (.return_, 1) := by decide +kernel
theorem dX3_init_0 : decode cX3_init 0 = .ok (.aload_n 0, 1) := by decide +kernel
theorem dX3_init_1 : decode cX3_init 1 = .ok (.invokespecial 3, 3) := by decide +kernel
theorem dX3_init_4 : decode cX3_init 4 = .ok (.aload_n 0, 1) := by decide +kernel
theorem dX3_init_5 : decode cX3_init 5 = .ok (.bipush 60, 2) := by decide +kernel
theorem dX3_init_7 : decode cX3_init 7 = .ok (.newarray .int, 2) := by decide +kernel
theorem dX3_init_9 : decode cX3_init 9 = .ok (.putfield 11, 3) := by decide +kernel
theorem dX3_init_12 : decode cX3_init 12 = .ok (.aload_n 0, 1) := by decide +kernel
theorem dX3_init_13 : decode cX3_init 13 = .ok (.iconst 0, 1) := by decide +kernel
theorem dX3_init_14 : decode cX3_init 14 = .ok (.putfield 17, 3) := by decide +kernel
theorem dX3_init_17 : decode cX3_init 17 = .ok (.aload_n 0, 1) := by decide +kernel
theorem dX3_init_18 : decode cX3_init 18 = .ok (.iconst 0, 1) := by decide +kernel
theorem dX3_init_19 : decode cX3_init 19 = .ok (.putfield 21, 3) := by decide +kernel
theorem dX3_init_22 : decode cX3_init 22 = .ok (.aload_n 0, 1) := by decide +kernel
theorem dX3_init_23 : decode cX3_init 23 = .ok (.iconst 0, 1) := by decide +kernel
theorem dX3_init_24 : decode cX3_init 24 = .ok (.putfield 25, 3) := by decide +kernel
theorem dX3_init_27 : decode cX3_init 27 = .ok (.aload_n 0, 1) := by decide +kernel
theorem dX3_init_28 : decode cX3_init 28 = .ok (.iconst 0, 1) := by decide +kernel
theorem dX3_init_29 : decode cX3_init 29 = .ok (.putfield 28, 3) := by decide +kernel
theorem dX3_init_32 : decode cX3_init 32 = .ok (.aload_n 0, 1) := by decide +kernel
theorem dX3_init_33 : decode cX3_init 33 = .ok (.iconst 0, 1) := by decide +kernel
theorem dX3_init_34 : decode cX3_init 34 = .ok (.putfield 31, 3) := by decide +kernel
theorem dX3_init_37 : decode cX3_init 37 = .ok (.aload_n 0, 1) := by decide +kernel
theorem dX3_init_38 : decode cX3_init 38 = .ok (.iconst 0, 1) := by decide +kernel
theorem dX3_init_39 : decode cX3_init 39 = .ok (.putfield 34, 3) := by decide +kernel
theorem dX3_init_42 : decode cX3_init 42 = .ok (.aload_n 0, 1) := by decide +kernel
theorem dX3_init_43 : decode cX3_init 43 = .ok (.iconst 0, 1) := by decide +kernel
theorem dX3_init_44 : decode cX3_init 44 = .ok (.putfield 37, 3) := by decide +kernel
theorem dX3_init_47 : decode cX3_init 47 = .ok (.return_, 1) := by decide +kernel
theorem dX4_init_0 : decode cX4_init 0 = .ok (.aload_n 0, 1) := by decide +kernel
theorem dX4_init_1 : decode cX4_init 1 = .ok (.invokespecial 3, 3) := by decide +kernel
theorem dX4_init_4 : decode cX4_init 4 = .ok (.aload_n 0, 1) := by decide +kernel
theorem dX4_init_5 : decode cX4_init 5 = .ok (.bipush 60, 2) := by decide +kernel
theorem dX4_init_7 : decode cX4_init 7 = .ok (.newarray .int, 2) := by decide +kernel
theorem dX4_init_9 : decode cX4_init 9 = .ok (.putfield 9, 3) := by decide +kernel
theorem dX4_init_12 : decode cX4_init 12 = .ok (.aload_n 0, 1) := by decide +kernel
theorem dX4_init_13 : decode cX4_init 13 = .ok (.iconst 0, 1) := by decide +kernel
theorem dX4_init_14 : decode cX4_init 14 = .ok (.putfield 15, 3) := by decide +kernel
theorem dX4_init_17 : decode cX4_init 17 = .ok (.aload_n 0, 1) := by decide +kernel
theorem dX4_init_18 : decode cX4_init 18 = .ok (.bipush 80, 2) := by decide +kernel
theorem dX4_init_20 : decode cX4_init 20 = .ok (.newarray .int, 2) := by decide +kernel
theorem dX4_init_22 : decode cX4_init 22 = .ok (.putfield 19, 3) := by decide +kernel
theorem dX4_init_25 : decode cX4_init 25 = .ok (.return_, 1) := by decide +kernel
theorem dX5_init_0 : decode cX5_init 0 = .ok (.aload_n 0, 1) := by decide +kernel
theorem dX5_init_1 : decode cX5_init 1 = .ok (.invokespecial 3, 3) := by decide +kernel
theorem dX5_init_4 : decode cX5_init 4 = .ok (.aload_n 0, 1) := by decide +kernel
theorem dX5_init_5 : decode cX5_init 5 = .ok (.sipush 169, 3) := by decide +kernel
theorem dX5_init_8 : decode cX5_init 8 = .ok (.newarray .int, 2) := by decide +kernel
theorem dX5_init_10 : decode cX5_init 10 = .ok (.putfield 11, 3) := by decide +kernel
theorem dX5_init_13 : decode cX5_init 13 = .ok (.aload_n 0, 1) := by decide +kernel
theorem dX5_init_14 : decode cX5_init 14 = .ok (.bipush 12, 2) := by decide +kernel
theorem dX5_init_16 : decode cX5_init 16 = .ok (.newarray .int, 2) := by decide +kernel
theorem dX5_init_18 : decode cX5_init 18 = .ok (.putfield 15, 3) := by decide +kernel
theorem dX5_init_21 : decode cX5_init 21 = .ok (.aload_n 0, 1) := by decide +kernel
theorem dX5_init_22 : decode cX5_init 22 = .ok (.iconst (-1), 1) := by decide +kernel
theorem dX5_init_23 : decode cX5_init 23 = .ok (.putfield 18, 3) := by decide +kernel
theorem dX5_init_26 : decode cX5_init 26 = .ok (.aload_n 0, 1) := by decide +kernel
theorem dX5_init_27 : decode cX5_init 27 = .ok (.iconst 0, 1) := by decide +kernel
theorem dX5_init_28 : decode cX5_init 28 = .ok (.putfield 22, 3) := by decide +kernel
theorem dX5_init_31 : decode cX5_init 31 = .ok (.return_, 1) := by decide +kernel
theorem dX6_init_0 : decode cX6_init 0 = .ok (.aload_n 0, 1) := by decide +kernel
theorem dX6_init_1 : decode cX6_init 1 = .ok (.invokespecial 3, 3) := by decide +kernel
theorem dX6_init_4 : decode cX6_init 4 = .ok (.aload_n 0, 1) := by decide +kernel
theorem dX6_init_5 : decode cX6_init 5 = .ok (.sipush 900, 3) := by decide +kernel
theorem dX6_init_8 : decode cX6_init 8 = .ok (.newarray .byte, 2) := by decide +kernel
theorem dX6_init_10 : decode cX6_init 10 = .ok (.putfield 9, 3) := by decide +kernel
theorem dX6_init_13 : decode cX6_init 13 = .ok (.aload_n 0, 1) := by decide +kernel
theorem dX6_init_14 : decode cX6_init 14 = .ok (.iconst 0, 1) := by decide +kernel
theorem dX6_init_15 : decode cX6_init 15 = .ok (.putfield 15, 3) := by decide +kernel
theorem dX6_init_18 : decode cX6_init 18 = .ok (.aload_n 0, 1) := by decide +kernel
theorem dX6_init_19 : decode cX6_init 19 = .ok (.sipush 901, 3) := by decide +kernel
theorem dX6_init_22 : decode cX6_init 22 = .ok (.newarray .int, 2) := by decide +kernel
theorem dX6_init_24 : decode cX6_init 24 = .ok (.putfield 19, 3) := by decide +kernel
theorem dX6_init_27 : decode cX6_init 27 = .ok (.aload_n 0, 1) := by decide +kernel
theorem dX6_init_28 : decode cX6_init 28 = .ok (.sipush 901, 3) := by decide +kernel
theorem dX6_init_31 : decode cX6_init 31 = .ok (.newarray .int, 2) := by decide +kernel
theorem dX6_init_33 : decode cX6_init 33 = .ok (.putfield 23, 3) := by decide +kernel
theorem dX6_init_36 : decode cX6_init 36 = .ok (.aload_n 0, 1) := by decide +kernel
theorem dX6_init_37 : decode cX6_init 37 = .ok (.sipush 901, 3) := by decide +kernel
theorem dX6_init_40 : decode cX6_init 40 = .ok (.newarray .int, 2) := by decide +kernel
theorem dX6_init_42 : decode cX6_init 42 = .ok (.putfield 26, 3) := by decide +kernel
theorem dX6_init_45 : decode cX6_init 45 = .ok (.aload_n 0, 1) := by decide +kernel
theorem dX6_init_46 : decode cX6_init 46 = .ok (.sipush 901, 3) := by decide +kernel
theorem dX6_init_49 : decode cX6_init 49 = .ok (.newarray .long, 2) := by decide +kernel
theorem dX6_init_51 : decode cX6_init 51 = .ok (.putfield 29, 3) := by decide +kernel
theorem dX6_init_54 : decode cX6_init 54 = .ok (.aload_n 0, 1) := by decide +kernel
theorem dX6_init_55 : decode cX6_init 55 = .ok (.iconst 0, 1) := by decide +kernel
theorem dX6_init_56 : decode cX6_init 56 = .ok (.putfield 33, 3) := by decide +kernel
theorem dX6_init_59 : decode cX6_init 59 = .ok (.aload_n 0, 1) := by decide +kernel
theorem dX6_init_60 : decode cX6_init 60 = .ok (.iconst 0, 1) := by decide +kernel
theorem dX6_init_61 : decode cX6_init 61 = .ok (.putfield 36, 3) := by decide +kernel
theorem dX6_init_64 : decode cX6_init 64 = .ok (.aload_n 0, 1) := by decide +kernel
theorem dX6_init_65 : decode cX6_init 65 = .ok (.iconst 0, 1) := by decide +kernel
theorem dX6_init_66 : decode cX6_init 66 = .ok (.putfield 39, 3) := by decide +kernel
theorem dX6_init_69 : decode cX6_init 69 = .ok (.aload_n 0, 1) := by decide +kernel
theorem dX6_init_70 : decode cX6_init 70 = .ok (.iconst 0, 1) := by decide +kernel
theorem dX6_init_71 : decode cX6_init 71 = .ok (.putfield 43, 3) := by decide +kernel
theorem dX6_init_74 : decode cX6_init 74 = .ok (.aload_n 0, 1) := by decide +kernel
theorem dX6_init_75 : decode cX6_init 75 = .ok (.iconst (-1), 1) := by decide +kernel
theorem dX6_init_76 : decode cX6_init 76 = .ok (.putfield 46, 3) := by decide +kernel
theorem dX6_init_79 : decode cX6_init 79 = .ok (.return_, 1) := by decide +kernel
theorem dX7_init_0 : decode cX7_init 0 = .ok (.aload_n 0, 1) := by decide +kernel
theorem dX7_init_1 : decode cX7_init 1 = .ok (.invokespecial 3, 3) := by decide +kernel
theorem dX7_init_4 : decode cX7_init 4 = .ok (.aload_n 0, 1) := by decide +kernel
theorem dX7_init_5 : decode cX7_init 5 = .ok (.bipush 60, 2) := by decide +kernel
theorem dX7_init_7 : decode cX7_init 7 = .ok (.newarray .long, 2) := by decide +kernel
theorem dX7_init_9 : decode cX7_init 9 = .ok (.putfield 9, 3) := by decide +kernel
theorem dX7_init_12 : decode cX7_init 12 = .ok (.aload_n 0, 1) := by decide +kernel
theorem dX7_init_13 : decode cX7_init 13 = .ok (.iconst 0, 1) := by decide +kernel
theorem dX7_init_14 : decode cX7_init 14 = .ok (.putfield 15, 3) := by decide +kernel
theorem dX7_init_17 : decode cX7_init 17 = .ok (.aload_n 0, 1) := by decide +kernel
theorem dX7_init_18 : decode cX7_init 18 = .ok (.iconst (-1), 1) := by decide +kernel
theorem dX7_init_19 : decode cX7_init 19 = .ok (.putfield 19, 3) := by decide +kernel
theorem dX7_init_22 : decode cX7_init 22 = .ok (.return_, 1) := by decide +kernel
theorem dX8_init_0 : decode cX8_init 0 = .ok (.aload_n 0, 1) := by decide +kernel
theorem dX8_init_1 : decode cX8_init 1 = .ok (.invokespecial 5, 3) := by decide +kernel
theorem dX8_init_4 : decode cX8_init 4 = .ok (.aload_n 0, 1) := by decide +kernel
theorem dX8_init_5 : decode cX8_init 5 = .ok (.iconst 0, 1) := by decide +kernel
theorem dX8_init_6 : decode cX8_init 6 = .ok (.putfield 11, 3) := by decide +kernel
theorem dX8_init_9 : decode cX8_init 9 = .ok (.aload_n 0, 1) := by decide +kernel
theorem dX8_init_10 : decode cX8_init 10 = .ok (.iconst 0, 1) := by decide +kernel
theorem dX8_init_11 : decode cX8_init 11 = .ok (.putfield 15, 3) := by decide +kernel
theorem dX8_init_14 : decode cX8_init 14 = .ok (.aload_n 0, 1) := by decide +kernel
theorem dX8_init_15 : decode cX8_init 15 = .ok (.iconst 0, 1) := by decide +kernel
theorem dX8_init_16 : decode cX8_init 16 = .ok (.putfield 19, 3) := by decide +kernel
theorem dX8_init_19 : decode cX8_init 19 = .ok (.aload_n 0, 1) := by decide +kernel
theorem dX8_init_20 : decode cX8_init 20 = .ok (.bipush 60, 2) := by decide +kernel
theorem dX8_init_22 : decode cX8_init 22 = .ok (.newarray .int, 2) := by decide +kernel
theorem dX8_init_24 : decode cX8_init 24 = .ok (.putfield 22, 3) := by decide +kernel
theorem dX8_init_27 : decode cX8_init 27 = .ok (.aload_n 0, 1) := by decide +kernel
theorem dX8_init_28 : decode cX8_init 28 = .ok (.bipush 60, 2) := by decide +kernel
theorem dX8_init_30 : decode cX8_init 30 = .ok (.newarray .int, 2) := by decide +kernel
theorem dX8_init_32 : decode cX8_init 32 = .ok (.putfield 26, 3) := by decide +kernel
theorem dX8_init_35 : decode cX8_init 35 = .ok (.aload_n 0, 1) := by decide +kernel
theorem dX8_init_36 : decode cX8_init 36 = .ok (.bipush 60, 2) := by decide +kernel
theorem dX8_init_38 : decode cX8_init 38 = .ok (.newarray .int, 2) := by decide +kernel
theorem dX8_init_40 : decode cX8_init 40 = .ok (.putfield 29, 3) := by decide +kernel
theorem dX8_init_43 : decode cX8_init 43 = .ok (.aload_n 0, 1) := by decide +kernel
theorem dX8_init_44 : decode cX8_init 44 = .ok (.bipush 60, 2) := by decide +kernel
theorem dX8_init_46 : decode cX8_init 46 = .ok (.newarray .int, 2) := by decide +kernel
theorem dX8_init_48 : decode cX8_init 48 = .ok (.putfield 32, 3) := by decide +kernel
theorem dX8_init_51 : decode cX8_init 51 = .ok (.aload_n 0, 1) := by decide +kernel
theorem dX8_init_52 : decode cX8_init 52 = .ok (.bipush 60, 2) := by decide +kernel
theorem dX8_init_54 : decode cX8_init 54 = .ok (.newarray .int, 2) := by decide +kernel
theorem dX8_init_56 : decode cX8_init 56 = .ok (.putfield 35, 3) := by decide +kernel
theorem dX8_init_59 : decode cX8_init 59 = .ok (.return_, 1) := by decide +kernel
theorem dX9_init_0 : decode cX9_init 0 = .ok (.aload_n 0, 1) := by decide +kernel
theorem dX9_init_1 : decode cX9_init 1 = .ok (.invokespecial 3, 3) := by decide +kernel
theorem dX9_init_4 : decode cX9_init 4 = .ok (.aload_n 0, 1) := by decide +kernel
theorem dX9_init_5 : decode cX9_init 5 = .ok (.iconst 3, 1) := by decide +kernel
theorem dX9_init_6 : decode cX9_init 6 = .ok (.newarray .int, 2) := by decide +kernel
theorem dX9_init_8 : decode cX9_init 8 = .ok (.putfield 11, 3) := by decide +kernel
theorem dX9_init_11 : decode cX9_init 11 = .ok (.aload_n 0, 1) := by decide +kernel
theorem dX9_init_12 : decode cX9_init 12 = .ok (.iconst 0, 1) := by decide +kernel
theorem dX9_init_13 : decode cX9_init 13 = .ok (.putfield 15, 3) := by decide +kernel
theorem dX9_init_16 : decode cX9_init 16 = .ok (.aload_n 0, 1) := by decide +kernel
theorem dX9_init_17 : decode cX9_init 17 = .ok (.aconst_null, 1) := by decide +kernel
theorem dX9_init_18 : decode cX9_init 18 = .ok (.putfield 19, 3) := by decide +kernel
theorem dX9_init_21 : decode cX9_init 21 = .ok (.aload_n 0, 1) := by decide +kernel
theorem dX9_init_22 : decode cX9_init 22 = .ok (.aconst_null, 1) := by decide +kernel
theorem dX9_init_23 : decode cX9_init 23 = .ok (.putfield 23, 3) := by decide +kernel
theorem dX9_init_26 : decode cX9_init 26 = .ok (.aload_n 0, 1) := by decide +kernel
theorem dX9_init_27 : decode cX9_init 27 = .ok (.aconst_null, 1) := by decide +kernel
theorem dX9_init_28 : decode cX9_init 28 = .ok (.putfield 27, 3) := by decide +kernel
theorem dX9_init_31 : decode cX9_init 31 = .ok (.return_, 1) := by decide +kernel
theorem dX11_init_0 : decode cX11_init 0 = .ok (.aload_n 0, 1) := by decide +kernel
theorem dX11_init_1 : decode cX11_init 1 = .ok (.invokespecial 1, 3) := by decide +kernel
theorem dX11_init_4 : decode cX11_init 4 = .ok (.aload_n 0, 1) := by decide +kernel
theorem dX11_init_5 : decode cX11_init 5 = .ok (.sipush 3900, 3) := by decide +kernel
theorem dX11_init_8 : decode cX11_init 8 = .ok (.newarray .int, 2) := by decide +kernel
theorem dX11_init_10 : decode cX11_init 10 = .ok (.putfield 7, 3) := by decide +kernel
theorem dX11_init_13 : decode cX11_init 13 = .ok (.aload_n 0, 1) := by decide +kernel
theorem dX11_init_14 : decode cX11_init 14 = .ok (.bipush 90, 2) := by decide +kernel
theorem dX11_init_16 : decode cX11_init 16 = .ok (.newarray .long, 2) := by decide +kernel
theorem dX11_init_18 : decode cX11_init 18 = .ok (.putfield 13, 3) := by decide +kernel
theorem dX11_init_21 : decode cX11_init 21 = .ok (.aload_n 0, 1) := by decide +kernel
theorem dX11_init_22 : decode cX11_init 22 = .ok (.lconst 1, 1) := by decide +kernel
theorem dX11_init_23 : decode cX11_init 23 = .ok (.putfield 17, 3) := by decide +kernel
theorem dX11_init_26 : decode cX11_init 26 = .ok (.aload_n 0, 1) := by decide +kernel
theorem dX11_init_27 : decode cX11_init 27 = .ok (.iconst 4, 1) := by decide +kernel
theorem dX11_init_28 : decode cX11_init 28 = .ok (.newarray .int, 2) := by decide +kernel
theorem dX11_init_30 : decode cX11_init 30 = .ok (.putfield 21, 3) := by decide +kernel
theorem dX11_init_33 : decode cX11_init 33 = .ok (.aload_n 0, 1) := by decide +kernel
theorem dX11_init_34 : decode cX11_init 34 = .ok (.iconst 4, 1) := by decide +kernel
theorem dX11_init_35 : decode cX11_init 35 = .ok (.newarray .int, 2) := by decide +kernel
theorem dX11_init_37 : decode cX11_init 37 = .ok (.dup, 1) := by decide +kernel
theorem dX11_init_38 : decode cX11_init 38 = .ok (.iconst 0, 1) := by decide +kernel
theorem dX11_init_39 : decode cX11_init 39 = .ok (.iconst (-1), 1) := by decide +kernel
theorem dX11_init_40 : decode cX11_init 40 = .ok (.iastore, 1) := by decide +kernel
theorem dX11_init_41 : decode cX11_init 41 = .ok (.dup, 1) := by decide +kernel
theorem dX11_init_42 : decode cX11_init 42 = .ok (.iconst 1, 1) := by decide +kernel
theorem dX11_init_43 : decode cX11_init 43 = .ok (.iconst (-1), 1) := by decide +kernel
theorem dX11_init_44 : decode cX11_init 44 = .ok (.iastore, 1) := by decide +kernel
theorem dX11_init_45 : decode cX11_init 45 = .ok (.dup, 1) := by decide +kernel
theorem dX11_init_46 : decode cX11_init 46 = .ok (.iconst 2, 1) := by decide +kernel
theorem dX11_init_47 : decode cX11_init 47 = .ok (.iconst (-1), 1) := by decide +kernel
theorem dX11_init_48 : decode cX11_init 48 = .ok (.iastore, 1) := by decide +kernel
theorem dX11_init_49 : decode cX11_init 49 = .ok (.dup, 1) := by decide +kernel
theorem dX11_init_50 : decode cX11_init 50 = .ok (.iconst 3, 1) := by decide +kernel
theorem dX11_init_51 : decode cX11_init 51 = .ok (.iconst (-1), 1) := by decide +kernel
theorem dX11_init_52 : decode cX11_init 52 = .ok (.iastore, 1) := by decide +kernel
theorem dX11_init_53 : decode cX11_init 53 = .ok (.putfield 24, 3) := by decide +kernel
theorem dX11_init_56 : decode cX11_init 56 = .ok (.aload_n 0, 1) := by decide +kernel
theorem dX11_init_57 : decode cX11_init 57 = .ok (.sipush 240, 3) := by decide +kernel
theorem dX11_init_60 : decode cX11_init 60 = .ok (.newarray .long, 2) := by decide +kernel
theorem dX11_init_62 : decode cX11_init 62 = .ok (.putfield 27, 3) := by decide +kernel
theorem dX11_init_65 : decode cX11_init 65 = .ok (.aload_n 0, 1) := by decide +kernel
theorem dX11_init_66 : decode cX11_init 66 = .ok (.sipush 900, 3) := by decide +kernel
theorem dX11_init_69 : decode cX11_init 69 = .ok (.newarray .byte, 2) := by decide +kernel
theorem dX11_init_71 : decode cX11_init 71 = .ok (.putfield 30, 3) := by decide +kernel
theorem dX11_init_74 : decode cX11_init 74 = .ok (.aload_n 0, 1) := by decide +kernel
theorem dX11_init_75 : decode cX11_init 75 = .ok (.sipush 900, 3) := by decide +kernel
theorem dX11_init_78 : decode cX11_init 78 = .ok (.newarray .byte, 2) := by decide +kernel
theorem dX11_init_80 : decode cX11_init 80 = .ok (.putfield 34, 3) := by decide +kernel
theorem dX11_init_83 : decode cX11_init 83 = .ok (.aload_n 0, 1) := by decide +kernel
theorem dX11_init_84 : decode cX11_init 84 = .ok (.iconst (-1), 1) := by decide +kernel
theorem dX11_init_85 : decode cX11_init 85 = .ok (.putfield 37, 3) := by decide +kernel
theorem dX11_init_88 : decode cX11_init 88 = .ok (.aload_n 0, 1) := by decide +kernel
theorem dX11_init_89 : decode cX11_init 89 = .ok (.iconst (-1), 1) := by decide +kernel
theorem dX11_init_90 : decode cX11_init 90 = .ok (.putfield 41, 3) := by decide +kernel
theorem dX11_init_93 : decode cX11_init 93 = .ok (.aload_n 0, 1) := by decide +kernel
theorem dX11_init_94 : decode cX11_init 94 = .ok (.iconst 3, 1) := by decide +kernel
theorem dX11_init_95 : decode cX11_init 95 = .ok (.newarray .int, 2) := by decide +kernel
theorem dX11_init_97 : decode cX11_init 97 = .ok (.putfield 44, 3) := by decide +kernel
theorem dX11_init_100 : decode cX11_init 100 = .ok (.aload_n 0, 1) := by decide +kernel
theorem dX11_init_101 : decode cX11_init 101 = .ok (.sipush 169, 3) := by decide +kernel
theorem dX11_init_104 : decode cX11_init 104 = .ok (.newarray .int, 2) := by decide +kernel
theorem dX11_init_106 : decode cX11_init 106 = .ok (.putfield 47, 3) := by decide +kernel
theorem dX11_init_109 : decode cX11_init 109 = .ok (.aload_n 0, 1) := by decide +kernel
theorem dX11_init_110 : decode cX11_init 110 = .ok (.bipush 12, 2) := by decide +kernel
theorem dX11_init_112 : decode cX11_init 112 = .ok (.newarray .int, 2) := by decide +kernel
theorem dX11_init_114 : decode cX11_init 114 = .ok (.putfield 50, 3) := by decide +kernel
theorem dX11_init_117 : decode cX11_init 117 = .ok (.aload_n 0, 1) := by decide +kernel
theorem dX11_init_118 : decode cX11_init 118 = .ok (.bipush 12, 2) := by decide +kernel
theorem dX11_init_120 : decode cX11_init 120 = .ok (.newarray .int, 2) := by decide +kernel
theorem dX11_init_122 : decode cX11_init 122 = .ok (.putfield 53, 3) := by decide +kernel
theorem dX11_init_125 : decode cX11_init 125 = .ok (.aload_n 0, 1) := by decide +kernel
theorem dX11_init_126 : decode cX11_init 126 = .ok (.iconst (-1), 1) := by decide +kernel
theorem dX11_init_127 : decode cX11_init 127 = .ok (.putfield 56, 3) := by decide +kernel
theorem dX11_init_130 : decode cX11_init 130 = .ok (.aload_n 0, 1) := by decide +kernel
theorem dX11_init_131 : decode cX11_init 131 = .ok (.bipush 6, 2) := by decide +kernel
theorem dX11_init_133 : decode cX11_init 133 = .ok (.newarray .int, 2) := by decide +kernel
theorem dX11_init_135 : decode cX11_init 135 = .ok (.putfield 59, 3) := by decide +kernel
theorem dX11_init_138 : decode cX11_init 138 = .ok (.aload_n 0, 1) := by decide +kernel
theorem dX11_init_139 : decode cX11_init 139 = .ok (.bipush 6, 2) := by decide +kernel
theorem dX11_init_141 : decode cX11_init 141 = .ok (.newarray .int, 2) := by decide +kernel
theorem dX11_init_143 : decode cX11_init 143 = .ok (.putfield 62, 3) := by decide +kernel
theorem dX11_init_146 : decode cX11_init 146 = .ok (.aload_n 0, 1) := by decide +kernel
theorem dX11_init_147 : decode cX11_init 147 = .ok (.bipush 6, 2) := by decide +kernel
theorem dX11_init_149 : decode cX11_init 149 = .ok (.newarray .int, 2) := by decide +kernel
theorem dX11_init_151 : decode cX11_init 151 = .ok (.putfield 65, 3) := by decide +kernel
theorem dX11_init_154 : decode cX11_init 154 = .ok (.aload_n 0, 1) := by decide +kernel
theorem dX11_init_155 : decode cX11_init 155 = .ok (.bipush 72, 2) := by decide +kernel
theorem dX11_init_157 : decode cX11_init 157 = .ok (.newarray .int, 2) := by decide +kernel
theorem dX11_init_159 : decode cX11_init 159 = .ok (.putfield 68, 3) := by decide +kernel
theorem dX11_init_162 : decode cX11_init 162 = .ok (.aload_n 0, 1) := by decide +kernel
theorem dX11_init_163 : decode cX11_init 163 = .ok (.bipush 72, 2) := by decide +kernel
theorem dX11_init_165 : decode cX11_init 165 = .ok (.newarray .boolean, 2) := by decide +kernel
theorem dX11_init_167 : decode cX11_init 167 = .ok (.putfield 71, 3) := by decide +kernel
theorem dX11_init_170 : decode cX11_init 170 = .ok (.aload_n 0, 1) := by decide +kernel
theorem dX11_init_171 : decode cX11_init 171 = .ok (.bipush 72, 2) := by decide +kernel
theorem dX11_init_173 : decode cX11_init 173 = .ok (.newarray .int, 2) := by decide +kernel
theorem dX11_init_175 : decode cX11_init 175 = .ok (.putfield 75, 3) := by decide +kernel
theorem dX11_init_178 : decode cX11_init 178 = .ok (.aload_n 0, 1) := by decide +kernel
theorem dX11_init_179 : decode cX11_init 179 = .ok (.iconst 3, 1) := by decide +kernel
theorem dX11_init_180 : decode cX11_init 180 = .ok (.newarray .long, 2) := by decide +kernel
theorem dX11_init_182 : decode cX11_init 182 = .ok (.putfield 78, 3) := by decide +kernel
theorem dX11_init_185 : decode cX11_init 185 = .ok (.aload_n 0, 1) := by decide +kernel
theorem dX11_init_186 : decode cX11_init 186 = .ok (.iconst 3, 1) := by decide +kernel
theorem dX11_init_187 : decode cX11_init 187 = .ok (.newarray .long, 2) := by decide +kernel
theorem dX11_init_189 : decode cX11_init 189 = .ok (.putfield 81, 3) := by decide +kernel
theorem dX11_init_192 : decode cX11_init 192 = .ok (.aload_n 0, 1) := by decide +kernel
theorem dX11_init_193 : decode cX11_init 193 = .ok (.bipush 60, 2) := by decide +kernel
theorem dX11_init_195 : decode cX11_init 195 = .ok (.newarray .int, 2) := by decide +kernel
theorem dX11_init_197 : decode cX11_init 197 = .ok (.putfield 84, 3) := by decide +kernel
theorem dX11_init_200 : decode cX11_init 200 = .ok (.aload_n 0, 1) := by decide +kernel
theorem dX11_init_201 : decode cX11_init 201 = .ok (.bipush 80, 2) := by decide +kernel
theorem dX11_init_203 : decode cX11_init 203 = .ok (.newarray .int, 2) := by decide +kernel
theorem dX11_init_205 : decode cX11_init 205 = .ok (.putfield 87, 3) := by decide +kernel
theorem dX11_init_208 : decode cX11_init 208 = .ok (.aload_n 0, 1) := by decide +kernel
theorem dX11_init_209 : decode cX11_init 209 = .ok (.iconst 4, 1) := by decide +kernel
theorem dX11_init_210 : decode cX11_init 210 = .ok (.newarray .int, 2) := by decide +kernel
theorem dX11_init_212 : decode cX11_init 212 = .ok (.putfield 90, 3) := by decide +kernel
theorem dX11_init_215 : decode cX11_init 215 = .ok (.aload_n 0, 1) := by decide +kernel
theorem dX11_init_216 : decode cX11_init 216 = .ok (.iconst 4, 1) := by decide +kernel
theorem dX11_init_217 : decode cX11_init 217 = .ok (.newarray .int, 2) := by decide +kernel
theorem dX11_init_219 : decode cX11_init 219 = .ok (.putfield 93, 3) := by decide +kernel
theorem dX11_init_222 : decode cX11_init 222 = .ok (.aload_n 0, 1) := by decide +kernel
theorem dX11_init_223 : decode cX11_init 223 = .ok (.getfield 7, 3) := by decide +kernel
theorem dX11_init_226 : decode cX11_init 226 = .ok (.iconst 4, 1) := by decide +kernel
theorem dX11_init_227 : decode cX11_init 227 = .ok (.iconst (-1), 1) := by decide +kernel
theorem dX11_init_228 : decode cX11_init 228 = .ok (.iastore, 1) := by decide +kernel
theorem dX11_init_229 : decode cX11_init 229 = .ok (.return_, 1) := by decide +kernel
theorem ok_oin : Cond.instanceMethod objectInit ∈ okT := ok_mem (tb_at1 26 rfl) rfl
theorem ok_oco : Cond.code objectInit ⟨#[0xb1]⟩ 1 none ∈ okT := ok_mem (tb_at1 27 rfl) rfl
theorem okA_boolean : Cond.arrayClass .boolean ∈ okT := ok_mem (tb_at2 97 rfl) rfl
theorem okA_byte : Cond.arrayClass .byte ∈ okT := ok_mem (tb_at1 74 rfl) rfl
theorem okA_int : Cond.arrayClass .int ∈ okT := ok_mem (tb_at1 75 rfl) rfl
theorem okA_long : Cond.arrayClass .long ∈ okT := ok_mem (tb_at1 76 rfl) rfl
theorem cl_RX10_20 : Cond.classLink RX10 20 "BoreDesk$Tray" ∈ okT := ok_mem (tb_at1 28 rfl) rfl
theorem cl_RX10_26 : Cond.classLink RX10 26 "BoreDesk$Reader" ∈ okT := ok_mem (tb_at1 30 rfl) rfl
theorem cl_RX10_33 : Cond.classLink RX10 33 "BoreDesk$FieldText" ∈ okT := ok_mem (tb_at1 77 rfl) rfl
theorem cl_RX10_40 : Cond.classLink RX10 40 "BoreDesk$YearsText" ∈ okT := ok_mem (tb_at1 93 rfl) rfl
theorem cl_RX10_47 : Cond.classLink RX10 47 "BoreDesk$Ground" ∈ okT := ok_mem (tb_at1 115 rfl) rfl
theorem cl_RX10_57 : Cond.classLink RX10 57 "BoreDesk$Years" ∈ okT := ok_mem (tb_at1 201 rfl) rfl
theorem cl_RX10_78 : Cond.classLink RX10 78 "BoreDesk$Match" ∈ okT := ok_mem (tb_at2 7 rfl) rfl
theorem cl_RX10_85 : Cond.classLink RX10 85 "BoreDesk$Beds" ∈ okT := ok_mem (tb_at2 29 rfl) rfl
theorem cl_RX10_92 : Cond.classLink RX10 92 "BoreDesk$Logs" ∈ okT := ok_mem (tb_at2 98 rfl) rfl
theorem cl_RX10_99 : Cond.classLink RX10 99 "BoreDesk$Life" ∈ okT := ok_mem (tb_at2 116 rfl) rfl
theorem cl_RX0_9 : Cond.classLink RX0 9 "BoreDesk$Match" ∈ okT := ok_mem (tb_at2 35 rfl) rfl
theorem cl_RL_7 : Cond.classLink RL 7 "BoreDesk" ∈ okT := ok_mem (tb_at1 20 rfl) rfl
theorem cl_RL_10 : Cond.classLink RL 10 "BoreDeskModel" ∈ okT := ok_mem (tb_at7 3 rfl) rfl
theorem ins_0 : Cond.instantiable RX0 (nfs 0) ∈ okT := ok_mem (tb_at2 30 rfl) rfl
theorem ini_0 : Cond.initialized RX0 ∈ okT := ok_mem (tb_at1 8 rfl) rfl
theorem bl_0 : ∀ j, j < nfs 0 → defaultValue (tyX0 j) = vp_V [.null, .int 0, .int 0, .null, .null, .null, .int 0, .int 0, .null, .null, .null, .null, .null, .int 0, .int 0, .null, .null] j := by decide +kernel
theorem mvI_0 : MV yX0_init cX0_init 1 none 0 := ⟨ok_mem (tb_at2 33 rfl) rfl, ok_mem (tb_at1 8 rfl) rfl, ⟨by decide +kernel, by decide +kernel⟩, by decide +kernel⟩
theorem imI_0 : Cond.instanceMethod yX0_init ∈ okT := ok_mem (tb_at2 32 rfl) rfl
theorem ins_1 : Cond.instantiable RX1 (nfs 1) ∈ okT := ok_mem (tb_at1 78 rfl) rfl
theorem ini_1 : Cond.initialized RX1 ∈ okT := ok_mem (tb_at1 3 rfl) rfl
theorem bl_1 : ∀ j, j < nfs 1 → defaultValue (tyX1 j) = vp_V [.null, .null, .null] j := by decide +kernel
theorem mvI_1 : MV yX1_init cX1_init 1 none 0 := ⟨ok_mem (tb_at1 81 rfl) rfl, ok_mem (tb_at1 3 rfl) rfl, ⟨by decide +kernel, by decide +kernel⟩, by decide +kernel⟩
theorem imI_1 : Cond.instanceMethod yX1_init ∈ okT := ok_mem (tb_at1 80 rfl) rfl
theorem ins_2 : Cond.instantiable RX2 (nfs 2) ∈ okT := ok_mem (tb_at1 116 rfl) rfl
theorem ini_2 : Cond.initialized RX2 ∈ okT := ok_mem (tb_at1 5 rfl) rfl
theorem bl_2 : ∀ j, j < nfs 2 → defaultValue (tyX2 j) = vp_V [.int 0, .null, .null, .null, .int 0, .null, .null, .null, .null, .null, .null, .int 0, .null, .int 0, .null, .null, .null] j := by decide +kernel
theorem mvI_2 : MV yX2_init cX2_init 1 none 0 := ⟨ok_mem (tb_at1 119 rfl) rfl, ok_mem (tb_at1 5 rfl) rfl, ⟨by decide +kernel, by decide +kernel⟩, by decide +kernel⟩
theorem imI_2 : Cond.instanceMethod yX2_init ∈ okT := ok_mem (tb_at1 118 rfl) rfl
theorem ins_3 : Cond.instantiable RX3 (nfs 3) ∈ okT := ok_mem (tb_at2 117 rfl) rfl
theorem ini_3 : Cond.initialized RX3 ∈ okT := ok_mem (tb_at1 10 rfl) rfl
theorem bl_3 : ∀ j, j < nfs 3 → defaultValue (tyX3 j) = vp_V [.null, .int 0, .int 0, .int 0, .int 0, .int 0, .int 0, .int 0] j := by decide +kernel
theorem mvI_3 : MV yX3_init cX3_init 1 none 0 := ⟨ok_mem (tb_at2 120 rfl) rfl, ok_mem (tb_at1 10 rfl) rfl, ⟨by decide +kernel, by decide +kernel⟩, by decide +kernel⟩
theorem imI_3 : Cond.instanceMethod yX3_init ∈ okT := ok_mem (tb_at2 119 rfl) rfl
theorem ins_4 : Cond.instantiable RX4 (nfs 4) ∈ okT := ok_mem (tb_at2 99 rfl) rfl
theorem ini_4 : Cond.initialized RX4 ∈ okT := ok_mem (tb_at1 9 rfl) rfl
theorem bl_4 : ∀ j, j < nfs 4 → defaultValue (tyX4 j) = vp_V [.null, .int 0, .null] j := by decide +kernel
theorem mvI_4 : MV yX4_init cX4_init 1 none 0 := ⟨ok_mem (tb_at2 102 rfl) rfl, ok_mem (tb_at1 9 rfl) rfl, ⟨by decide +kernel, by decide +kernel⟩, by decide +kernel⟩
theorem imI_4 : Cond.instanceMethod yX4_init ∈ okT := ok_mem (tb_at2 101 rfl) rfl
theorem ins_5 : Cond.instantiable RX5 (nfs 5) ∈ okT := ok_mem (tb_at2 8 rfl) rfl
theorem ini_5 : Cond.initialized RX5 ∈ okT := ok_mem (tb_at1 7 rfl) rfl
theorem bl_5 : ∀ j, j < nfs 5 → defaultValue (tyX5 j) = vp_V [.null, .null, .int 0, .int 0] j := by decide +kernel
theorem mvI_5 : MV yX5_init cX5_init 1 none 0 := ⟨ok_mem (tb_at2 11 rfl) rfl, ok_mem (tb_at1 7 rfl) rfl, ⟨by decide +kernel, by decide +kernel⟩, by decide +kernel⟩
theorem imI_5 : Cond.instanceMethod yX5_init ∈ okT := ok_mem (tb_at2 10 rfl) rfl
theorem ins_6 : Cond.instantiable RX6 (nfs 6) ∈ okT := ok_mem (tb_at1 31 rfl) rfl
theorem ini_6 : Cond.initialized RX6 ∈ okT := ok_mem (tb_at1 2 rfl) rfl
theorem bl_6 : ∀ j, j < nfs 6 → defaultValue (tyX6 j) = vp_V [.null, .int 0, .null, .null, .null, .null, .int 0, .int 0, .int 0, .int 0, .int 0] j := by decide +kernel
theorem mvI_6 : MV yX6_init cX6_init 1 none 0 := ⟨ok_mem (tb_at1 34 rfl) rfl, ok_mem (tb_at1 2 rfl) rfl, ⟨by decide +kernel, by decide +kernel⟩, by decide +kernel⟩
theorem imI_6 : Cond.instanceMethod yX6_init ∈ okT := ok_mem (tb_at1 33 rfl) rfl
theorem ins_7 : Cond.instantiable RX7 (nfs 7) ∈ okT := ok_mem (tb_at2 153 rfl) rfl
theorem ini_7 : Cond.initialized RX7 ∈ okT := ok_mem (tb_at1 11 rfl) rfl
theorem bl_7 : ∀ j, j < nfs 7 → defaultValue (tyX7 j) = vp_V [.null, .int 0, .int 0] j := by decide +kernel
theorem mvI_7 : MV yX7_init cX7_init 1 none 0 := ⟨ok_mem (tb_at2 156 rfl) rfl, ok_mem (tb_at1 11 rfl) rfl, ⟨by decide +kernel, by decide +kernel⟩, by decide +kernel⟩
theorem imI_7 : Cond.instanceMethod yX7_init ∈ okT := ok_mem (tb_at2 155 rfl) rfl
theorem ins_8 : Cond.instantiable RX8 (nfs 8) ∈ okT := ok_mem (tb_at1 202 rfl) rfl
theorem ini_8 : Cond.initialized RX8 ∈ okT := ok_mem (tb_at1 6 rfl) rfl
theorem bl_8 : ∀ j, j < nfs 8 → defaultValue (tyX8 j) = vp_V [.int 0, .int 0, .int 0, .null, .null, .null, .null, .null] j := by decide +kernel
theorem mvI_8 : MV yX8_init cX8_init 1 none 0 := ⟨ok_mem (tb_at1 205 rfl) rfl, ok_mem (tb_at1 6 rfl) rfl, ⟨by decide +kernel, by decide +kernel⟩, by decide +kernel⟩
theorem imI_8 : Cond.instanceMethod yX8_init ∈ okT := ok_mem (tb_at1 204 rfl) rfl
theorem ins_9 : Cond.instantiable RX9 (nfs 9) ∈ okT := ok_mem (tb_at1 94 rfl) rfl
theorem ini_9 : Cond.initialized RX9 ∈ okT := ok_mem (tb_at1 4 rfl) rfl
theorem bl_9 : ∀ j, j < nfs 9 → defaultValue (tyX9 j) = vp_V [.null, .int 0, .null, .null, .null] j := by decide +kernel
theorem mvI_9 : MV yX9_init cX9_init 1 none 0 := ⟨ok_mem (tb_at1 97 rfl) rfl, ok_mem (tb_at1 4 rfl) rfl, ⟨by decide +kernel, by decide +kernel⟩, by decide +kernel⟩
theorem imI_9 : Cond.instanceMethod yX9_init ∈ okT := ok_mem (tb_at1 96 rfl) rfl
theorem ins_10 : Cond.instantiable RX10 (nfs 10) ∈ okT := ok_mem (tb_at1 21 rfl) rfl
theorem ini_10 : Cond.initialized RX10 ∈ okT := ok_mem (tb_at1 1 rfl) rfl
theorem bl_10 : ∀ j, j < nfs 10 → defaultValue (tyX10 j) = vp_V [.int 0, .long 0, .long 0, .null, .null, .null, .null, .null, .null, .null, .null, .null, .null, .int 0, .null, .null, .null, .null, .null] j := by decide +kernel
theorem mvI_10 : MV yX10_init cX10_init 2 none 0 := ⟨ok_mem (tb_at1 24 rfl) rfl, ok_mem (tb_at1 1 rfl) rfl, ⟨by decide +kernel, by decide +kernel⟩, by decide +kernel⟩
theorem imI_10 : Cond.instanceMethod yX10_init ∈ okT := ok_mem (tb_at1 23 rfl) rfl
theorem ins_11 : Cond.instantiable RX11 (nfs 11) ∈ okT := ok_mem (tb_at7 4 rfl) rfl
theorem ini_11 : Cond.initialized RX11 ∈ okT := ok_mem (tb_at1 12 rfl) rfl
theorem bl_11 : ∀ j, j < nfs 11 → defaultValue (tyX11 j) = vp_V [.null, .null, .int 0, .long 0, .long 0, .null, .null, .null, .null, .null, .int 0, .int 0, .int 0, .int 0, .int 0, .int 0, .int 0, .int 0, .int 0, .int 0, .null, .int 0, .int 0, .null, .null, .null, .int 0, .null, .null, .null, .int 0, .null, .int 0, .null, .null, .null, .null, .null, .int 0, .int 0, .int 0, .null, .null, .null, .int 0, .int 0] j := by decide +kernel
theorem mvI_11 : MV yX11_init cX11_init 1 none 0 := ⟨ok_mem (tb_at7 7 rfl) rfl, ok_mem (tb_at1 12 rfl) rfl, ⟨by decide +kernel, by decide +kernel⟩, by decide +kernel⟩
theorem imI_11 : Cond.instanceMethod yX11_init ∈ okT := ok_mem (tb_at7 6 rfl) rfl
theorem lo_RX10_3 : Cond.methodLink RX10 3 objectInit ∈ okT := ok_mem (tb_at1 25 rfl) rfl
theorem lki_RX10_28 : Cond.methodLink RX10 28 yX6_init ∈ okT ∨ ∃ host, Cond.methodLinkNest RX10 28 yX6_init host ∈ nestW := Or.inr ⟨"BoreDesk", nest_mem (tb_at1 32 rfl) rfl⟩
theorem lki_RX10_35 : Cond.methodLink RX10 35 yX1_init ∈ okT ∨ ∃ host, Cond.methodLinkNest RX10 35 yX1_init host ∈ nestW := Or.inr ⟨"BoreDesk", nest_mem (tb_at1 79 rfl) rfl⟩
theorem lki_RX10_42 : Cond.methodLink RX10 42 yX9_init ∈ okT ∨ ∃ host, Cond.methodLinkNest RX10 42 yX9_init host ∈ nestW := Or.inr ⟨"BoreDesk", nest_mem (tb_at1 95 rfl) rfl⟩
theorem lki_RX10_49 : Cond.methodLink RX10 49 yX2_init ∈ okT ∨ ∃ host, Cond.methodLinkNest RX10 49 yX2_init host ∈ nestW := Or.inr ⟨"BoreDesk", nest_mem (tb_at1 117 rfl) rfl⟩
theorem lki_RX10_59 : Cond.methodLink RX10 59 yX8_init ∈ okT ∨ ∃ host, Cond.methodLinkNest RX10 59 yX8_init host ∈ nestW := Or.inr ⟨"BoreDesk", nest_mem (tb_at1 203 rfl) rfl⟩
theorem lki_RX10_80 : Cond.methodLink RX10 80 yX5_init ∈ okT ∨ ∃ host, Cond.methodLinkNest RX10 80 yX5_init host ∈ nestW := Or.inr ⟨"BoreDesk", nest_mem (tb_at2 9 rfl) rfl⟩
theorem lki_RX10_87 : Cond.methodLink RX10 87 yX0_init ∈ okT ∨ ∃ host, Cond.methodLinkNest RX10 87 yX0_init host ∈ nestW := Or.inr ⟨"BoreDesk", nest_mem (tb_at2 31 rfl) rfl⟩
theorem lki_RX10_94 : Cond.methodLink RX10 94 yX4_init ∈ okT ∨ ∃ host, Cond.methodLinkNest RX10 94 yX4_init host ∈ nestW := Or.inr ⟨"BoreDesk", nest_mem (tb_at2 100 rfl) rfl⟩
theorem lki_RX10_101 : Cond.methodLink RX10 101 yX3_init ∈ okT ∨ ∃ host, Cond.methodLinkNest RX10 101 yX3_init host ∈ nestW := Or.inr ⟨"BoreDesk", nest_mem (tb_at2 118 rfl) rfl⟩
theorem lki_RX10_109 : Cond.methodLink RX10 109 yX7_init ∈ okT ∨ ∃ host, Cond.methodLinkNest RX10 109 yX7_init host ∈ nestW := Or.inr ⟨"BoreDesk", nest_mem (tb_at2 154 rfl) rfl⟩
theorem lo_RX0_3 : Cond.methodLink RX0 3 objectInit ∈ okT := ok_mem (tb_at2 34 rfl) rfl
theorem lki_RX0_11 : Cond.methodLink RX0 11 yX5_init ∈ okT ∨ ∃ host, Cond.methodLinkNest RX0 11 yX5_init host ∈ nestW := Or.inr ⟨"BoreDesk", nest_mem (tb_at2 36 rfl) rfl⟩
theorem lo_RX1_3 : Cond.methodLink RX1 3 objectInit ∈ okT := ok_mem (tb_at1 82 rfl) rfl
theorem lo_RX2_3 : Cond.methodLink RX2 3 objectInit ∈ okT := ok_mem (tb_at1 120 rfl) rfl
theorem lo_RX3_3 : Cond.methodLink RX3 3 objectInit ∈ okT := ok_mem (tb_at2 121 rfl) rfl
theorem lo_RX4_3 : Cond.methodLink RX4 3 objectInit ∈ okT := ok_mem (tb_at2 103 rfl) rfl
theorem lo_RX5_3 : Cond.methodLink RX5 3 objectInit ∈ okT := ok_mem (tb_at2 12 rfl) rfl
theorem lo_RX6_3 : Cond.methodLink RX6 3 objectInit ∈ okT := ok_mem (tb_at1 35 rfl) rfl
theorem lo_RX7_3 : Cond.methodLink RX7 3 objectInit ∈ okT := ok_mem (tb_at2 157 rfl) rfl
theorem lo_RX8_5 : Cond.methodLink RX8 5 objectInit ∈ okT := ok_mem (tb_at1 206 rfl) rfl
theorem lo_RX9_3 : Cond.methodLink RX9 3 objectInit ∈ okT := ok_mem (tb_at1 98 rfl) rfl
theorem lki_RL_9 : Cond.methodLink RL 9 yX10_init ∈ okT ∨ ∃ host, Cond.methodLinkNest RL 9 yX10_init host ∈ nestW := Or.inl (ok_mem (tb_at1 22 rfl) rfl)
theorem lki_RL_12 : Cond.methodLink RL 12 yX11_init ∈ okT ∨ ∃ host, Cond.methodLinkNest RL 12 yX11_init host ∈ nestW := Or.inl (ok_mem (tb_at7 5 rfl) rfl)
theorem lo_RX11_1 : Cond.methodLink RX11 1 objectInit ∈ okT := ok_mem (tb_at7 8 rfl) rfl
theorem fy_RX10_9 : FY RX10 9 10 0 .int false := ⟨TX10, tyX10, cls10, Nat.le_of_ble_eq_true rfl, rfl, rfl, rfl, ok_mem (tb_at2 172 rfl) rfl⟩
theorem fy_RX10_13 : FY RX10 13 10 1 .long false := ⟨TX10, tyX10, cls10, Nat.le_of_ble_eq_true rfl, rfl, rfl, rfl, ok_mem (tb_at2 173 rfl) rfl⟩
theorem fy_RX10_17 : FY RX10 17 10 2 .long false := ⟨TX10, tyX10, cls10, Nat.le_of_ble_eq_true rfl, rfl, rfl, rfl, ok_mem (tb_at2 174 rfl) rfl⟩
theorem fy_RX10_22 : FY RX10 22 10 3 (.array (.object "BoreDesk$Tray")) true := ⟨TX10, tyX10, cls10, Nat.le_of_ble_eq_true rfl, rfl, rfl, rfl, ok_mem (tb_at2 175 rfl) rfl⟩
theorem fy_RX10_29 : FY RX10 29 10 4 (.object "BoreDesk$Reader") true := ⟨TX10, tyX10, cls10, Nat.le_of_ble_eq_true rfl, rfl, rfl, rfl, ok_mem (tb_at2 176 rfl) rfl⟩
theorem fy_RX10_36 : FY RX10 36 10 5 (.object "BoreDesk$FieldText") true := ⟨TX10, tyX10, cls10, Nat.le_of_ble_eq_true rfl, rfl, rfl, rfl, ok_mem (tb_at2 177 rfl) rfl⟩
theorem fy_RX10_43 : FY RX10 43 10 6 (.object "BoreDesk$YearsText") true := ⟨TX10, tyX10, cls10, Nat.le_of_ble_eq_true rfl, rfl, rfl, rfl, ok_mem (tb_at2 178 rfl) rfl⟩
theorem fy_RX10_50 : FY RX10 50 10 7 (.object "BoreDesk$Ground") false := ⟨TX10, tyX10, cls10, Nat.le_of_ble_eq_true rfl, rfl, rfl, rfl, ok_mem (tb_at2 179 rfl) rfl⟩
theorem fy_RX10_54 : FY RX10 54 10 8 (.object "BoreDesk$Ground") false := ⟨TX10, tyX10, cls10, Nat.le_of_ble_eq_true rfl, rfl, rfl, rfl, ok_mem (tb_at2 180 rfl) rfl⟩
theorem fy_RX10_60 : FY RX10 60 10 9 (.object "BoreDesk$Years") false := ⟨TX10, tyX10, cls10, Nat.le_of_ble_eq_true rfl, rfl, rfl, rfl, ok_mem (tb_at2 181 rfl) rfl⟩
theorem fy_RX10_64 : FY RX10 64 10 10 (.object "BoreDesk$Years") false := ⟨TX10, tyX10, cls10, Nat.le_of_ble_eq_true rfl, rfl, rfl, rfl, ok_mem (tb_at2 182 rfl) rfl⟩
theorem fy_RX10_67 : FY RX10 67 10 11 (.array (.object "BoreDesk$Ground")) true := ⟨TX10, tyX10, cls10, Nat.le_of_ble_eq_true rfl, rfl, rfl, rfl, ok_mem (tb_at2 183 rfl) rfl⟩
theorem fy_RX10_71 : FY RX10 71 10 12 (.array (.object "BoreDesk$Years")) true := ⟨TX10, tyX10, cls10, Nat.le_of_ble_eq_true rfl, rfl, rfl, rfl, ok_mem (tb_at2 184 rfl) rfl⟩
theorem fy_RX10_75 : FY RX10 75 10 13 .int false := ⟨TX10, tyX10, cls10, Nat.le_of_ble_eq_true rfl, rfl, rfl, rfl, ok_mem (tb_at2 185 rfl) rfl⟩
theorem fy_RX10_81 : FY RX10 81 10 14 (.object "BoreDesk$Match") true := ⟨TX10, tyX10, cls10, Nat.le_of_ble_eq_true rfl, rfl, rfl, rfl, ok_mem (tb_at2 186 rfl) rfl⟩
theorem fy_RX10_88 : FY RX10 88 10 15 (.object "BoreDesk$Beds") true := ⟨TX10, tyX10, cls10, Nat.le_of_ble_eq_true rfl, rfl, rfl, rfl, ok_mem (tb_at2 187 rfl) rfl⟩
theorem fy_RX10_95 : FY RX10 95 10 16 (.object "BoreDesk$Logs") true := ⟨TX10, tyX10, cls10, Nat.le_of_ble_eq_true rfl, rfl, rfl, rfl, ok_mem (tb_at2 188 rfl) rfl⟩
theorem fy_RX10_102 : FY RX10 102 10 17 (.object "BoreDesk$Life") true := ⟨TX10, tyX10, cls10, Nat.le_of_ble_eq_true rfl, rfl, rfl, rfl, ok_mem (tb_at2 189 rfl) rfl⟩
theorem fy_RX10_106 : FY RX10 106 10 18 (.object "BoreDesk$Life") true := ⟨TX10, tyX10, cls10, Nat.le_of_ble_eq_true rfl, rfl, rfl, rfl, ok_mem (tb_at2 190 rfl) rfl⟩
theorem fy_RX0_12 : FY RX0 12 0 0 (.object "BoreDesk$Match") true := ⟨TX0, tyX0, cls0, Nat.le_of_ble_eq_true rfl, rfl, rfl, rfl, ok_mem (tb_at2 37 rfl) rfl⟩
theorem fy_RX0_18 : FY RX0 18 0 1 .boolean false := ⟨TX0, tyX0, cls0, Nat.le_of_ble_eq_true rfl, rfl, rfl, rfl, ok_mem (tb_at2 38 rfl) rfl⟩
theorem fy_RX0_22 : FY RX0 22 0 2 .int false := ⟨TX0, tyX0, cls0, Nat.le_of_ble_eq_true rfl, rfl, rfl, rfl, ok_mem (tb_at2 39 rfl) rfl⟩
theorem fy_RX0_26 : FY RX0 26 0 3 (.array .int) true := ⟨TX0, tyX0, cls0, Nat.le_of_ble_eq_true rfl, rfl, rfl, rfl, ok_mem (tb_at2 41 rfl) rfl⟩
theorem fy_RX0_30 : FY RX0 30 0 4 (.array .int) true := ⟨TX0, tyX0, cls0, Nat.le_of_ble_eq_true rfl, rfl, rfl, rfl, ok_mem (tb_at2 43 rfl) rfl⟩
theorem fy_RX0_33 : FY RX0 33 0 5 (.array .int) true := ⟨TX0, tyX0, cls0, Nat.le_of_ble_eq_true rfl, rfl, rfl, rfl, ok_mem (tb_at2 45 rfl) rfl⟩
theorem fy_RX0_36 : FY RX0 36 0 6 .int false := ⟨TX0, tyX0, cls0, Nat.le_of_ble_eq_true rfl, rfl, rfl, rfl, ok_mem (tb_at2 47 rfl) rfl⟩
theorem fy_RX0_39 : FY RX0 39 0 7 .int false := ⟨TX0, tyX0, cls0, Nat.le_of_ble_eq_true rfl, rfl, rfl, rfl, ok_mem (tb_at2 49 rfl) rfl⟩
theorem fy_RX0_42 : FY RX0 42 0 8 (.array .int) true := ⟨TX0, tyX0, cls0, Nat.le_of_ble_eq_true rfl, rfl, rfl, rfl, ok_mem (tb_at2 51 rfl) rfl⟩
theorem fy_RX0_45 : FY RX0 45 0 9 (.array .int) true := ⟨TX0, tyX0, cls0, Nat.le_of_ble_eq_true rfl, rfl, rfl, rfl, ok_mem (tb_at2 52 rfl) rfl⟩
theorem fy_RX0_48 : FY RX0 48 0 10 (.array .int) true := ⟨TX0, tyX0, cls0, Nat.le_of_ble_eq_true rfl, rfl, rfl, rfl, ok_mem (tb_at2 53 rfl) rfl⟩
theorem fy_RX0_51 : FY RX0 51 0 11 (.array .int) true := ⟨TX0, tyX0, cls0, Nat.le_of_ble_eq_true rfl, rfl, rfl, rfl, ok_mem (tb_at2 55 rfl) rfl⟩
theorem fy_RX0_54 : FY RX0 54 0 12 (.array .int) true := ⟨TX0, tyX0, cls0, Nat.le_of_ble_eq_true rfl, rfl, rfl, rfl, ok_mem (tb_at2 56 rfl) rfl⟩
theorem fy_RX0_57 : FY RX0 57 0 13 .boolean false := ⟨TX0, tyX0, cls0, Nat.le_of_ble_eq_true rfl, rfl, rfl, rfl, ok_mem (tb_at2 57 rfl) rfl⟩
theorem fy_RX0_60 : FY RX0 60 0 14 .boolean false := ⟨TX0, tyX0, cls0, Nat.le_of_ble_eq_true rfl, rfl, rfl, rfl, ok_mem (tb_at2 58 rfl) rfl⟩
theorem fy_RX0_63 : FY RX0 63 0 15 (.array .int) true := ⟨TX0, tyX0, cls0, Nat.le_of_ble_eq_true rfl, rfl, rfl, rfl, ok_mem (tb_at2 59 rfl) rfl⟩
theorem fy_RX0_66 : FY RX0 66 0 16 (.array .boolean) true := ⟨TX0, tyX0, cls0, Nat.le_of_ble_eq_true rfl, rfl, rfl, rfl, ok_mem (tb_at2 61 rfl) rfl⟩
theorem fy_RX1_9 : FY RX1 9 1 0 (.array .int) true := ⟨TX1, tyX1, cls1, Nat.le_of_ble_eq_true rfl, rfl, rfl, rfl, ok_mem (tb_at1 83 rfl) rfl⟩
theorem fy_RX1_15 : FY RX1 15 1 1 (.object "BoreDesk$Reader") false := ⟨TX1, tyX1, cls1, Nat.le_of_ble_eq_true rfl, rfl, rfl, rfl, ok_mem (tb_at1 84 rfl) rfl⟩
theorem fy_RX1_19 : FY RX1 19 1 2 (.object "BoreDesk$Ground") false := ⟨TX1, tyX1, cls1, Nat.le_of_ble_eq_true rfl, rfl, rfl, rfl, ok_mem (tb_at1 85 rfl) rfl⟩
theorem fy_RX2_9 : FY RX2 9 2 0 .int false := ⟨TX2, tyX2, cls2, Nat.le_of_ble_eq_true rfl, rfl, rfl, rfl, ok_mem (tb_at1 121 rfl) rfl⟩
theorem fy_RX2_15 : FY RX2 15 2 1 (.array .long) true := ⟨TX2, tyX2, cls2, Nat.le_of_ble_eq_true rfl, rfl, rfl, rfl, ok_mem (tb_at1 124 rfl) rfl⟩
theorem fy_RX2_19 : FY RX2 19 2 2 (.array .int) true := ⟨TX2, tyX2, cls2, Nat.le_of_ble_eq_true rfl, rfl, rfl, rfl, ok_mem (tb_at1 125 rfl) rfl⟩
theorem fy_RX2_23 : FY RX2 23 2 3 (.array .int) true := ⟨TX2, tyX2, cls2, Nat.le_of_ble_eq_true rfl, rfl, rfl, rfl, ok_mem (tb_at1 128 rfl) rfl⟩
theorem fy_RX2_26 : FY RX2 26 2 4 .int false := ⟨TX2, tyX2, cls2, Nat.le_of_ble_eq_true rfl, rfl, rfl, rfl, ok_mem (tb_at1 129 rfl) rfl⟩
theorem fy_RX2_29 : FY RX2 29 2 5 (.array .long) true := ⟨TX2, tyX2, cls2, Nat.le_of_ble_eq_true rfl, rfl, rfl, rfl, ok_mem (tb_at1 134 rfl) rfl⟩
theorem fy_RX2_32 : FY RX2 32 2 6 (.array .int) true := ⟨TX2, tyX2, cls2, Nat.le_of_ble_eq_true rfl, rfl, rfl, rfl, ok_mem (tb_at1 135 rfl) rfl⟩
theorem fy_RX2_35 : FY RX2 35 2 7 (.array .int) true := ⟨TX2, tyX2, cls2, Nat.le_of_ble_eq_true rfl, rfl, rfl, rfl, ok_mem (tb_at1 138 rfl) rfl⟩
theorem fy_RX2_38 : FY RX2 38 2 8 (.array .int) true := ⟨TX2, tyX2, cls2, Nat.le_of_ble_eq_true rfl, rfl, rfl, rfl, ok_mem (tb_at1 141 rfl) rfl⟩
theorem fy_RX2_41 : FY RX2 41 2 9 (.array .int) true := ⟨TX2, tyX2, cls2, Nat.le_of_ble_eq_true rfl, rfl, rfl, rfl, ok_mem (tb_at1 146 rfl) rfl⟩
theorem fy_RX2_44 : FY RX2 44 2 10 (.array .int) true := ⟨TX2, tyX2, cls2, Nat.le_of_ble_eq_true rfl, rfl, rfl, rfl, ok_mem (tb_at1 150 rfl) rfl⟩
theorem fy_RX2_47 : FY RX2 47 2 11 .int false := ⟨TX2, tyX2, cls2, Nat.le_of_ble_eq_true rfl, rfl, rfl, rfl, ok_mem (tb_at1 154 rfl) rfl⟩
theorem fy_RX2_50 : FY RX2 50 2 12 (.array .int) true := ⟨TX2, tyX2, cls2, Nat.le_of_ble_eq_true rfl, rfl, rfl, rfl, ok_mem (tb_at1 157 rfl) rfl⟩
theorem fy_RX2_53 : FY RX2 53 2 13 .int false := ⟨TX2, tyX2, cls2, Nat.le_of_ble_eq_true rfl, rfl, rfl, rfl, ok_mem (tb_at1 158 rfl) rfl⟩
theorem fy_RX2_56 : FY RX2 56 2 14 (.array .long) true := ⟨TX2, tyX2, cls2, Nat.le_of_ble_eq_true rfl, rfl, rfl, rfl, ok_mem (tb_at1 161 rfl) rfl⟩
theorem fy_RX2_59 : FY RX2 59 2 15 (.array .int) true := ⟨TX2, tyX2, cls2, Nat.le_of_ble_eq_true rfl, rfl, rfl, rfl, ok_mem (tb_at1 162 rfl) rfl⟩
theorem fy_RX2_62 : FY RX2 62 2 16 (.array .int) true := ⟨TX2, tyX2, cls2, Nat.le_of_ble_eq_true rfl, rfl, rfl, rfl, ok_mem (tb_at1 163 rfl) rfl⟩
theorem fy_RX3_11 : FY RX3 11 3 0 (.array .int) true := ⟨TX3, tyX3, cls3, Nat.le_of_ble_eq_true rfl, rfl, rfl, rfl, ok_mem (tb_at2 122 rfl) rfl⟩
theorem fy_RX3_17 : FY RX3 17 3 1 .boolean false := ⟨TX3, tyX3, cls3, Nat.le_of_ble_eq_true rfl, rfl, rfl, rfl, ok_mem (tb_at2 123 rfl) rfl⟩
theorem fy_RX3_21 : FY RX3 21 3 2 .int false := ⟨TX3, tyX3, cls3, Nat.le_of_ble_eq_true rfl, rfl, rfl, rfl, ok_mem (tb_at2 125 rfl) rfl⟩
theorem fy_RX3_25 : FY RX3 25 3 3 .int false := ⟨TX3, tyX3, cls3, Nat.le_of_ble_eq_true rfl, rfl, rfl, rfl, ok_mem (tb_at2 127 rfl) rfl⟩
theorem fy_RX3_28 : FY RX3 28 3 4 .int false := ⟨TX3, tyX3, cls3, Nat.le_of_ble_eq_true rfl, rfl, rfl, rfl, ok_mem (tb_at2 129 rfl) rfl⟩
theorem fy_RX3_31 : FY RX3 31 3 5 .int false := ⟨TX3, tyX3, cls3, Nat.le_of_ble_eq_true rfl, rfl, rfl, rfl, ok_mem (tb_at2 131 rfl) rfl⟩
theorem fy_RX3_34 : FY RX3 34 3 6 .boolean false := ⟨TX3, tyX3, cls3, Nat.le_of_ble_eq_true rfl, rfl, rfl, rfl, ok_mem (tb_at2 133 rfl) rfl⟩
theorem fy_RX3_37 : FY RX3 37 3 7 .int false := ⟨TX3, tyX3, cls3, Nat.le_of_ble_eq_true rfl, rfl, rfl, rfl, ok_mem (tb_at2 135 rfl) rfl⟩
theorem fy_RX4_9 : FY RX4 9 4 0 (.array .int) true := ⟨TX4, tyX4, cls4, Nat.le_of_ble_eq_true rfl, rfl, rfl, rfl, ok_mem (tb_at2 104 rfl) rfl⟩
theorem fy_RX4_15 : FY RX4 15 4 1 .int false := ⟨TX4, tyX4, cls4, Nat.le_of_ble_eq_true rfl, rfl, rfl, rfl, ok_mem (tb_at2 106 rfl) rfl⟩
theorem fy_RX4_19 : FY RX4 19 4 2 (.array .int) true := ⟨TX4, tyX4, cls4, Nat.le_of_ble_eq_true rfl, rfl, rfl, rfl, ok_mem (tb_at2 108 rfl) rfl⟩
theorem fy_RX5_11 : FY RX5 11 5 0 (.array .int) true := ⟨TX5, tyX5, cls5, Nat.le_of_ble_eq_true rfl, rfl, rfl, rfl, ok_mem (tb_at2 13 rfl) rfl⟩
theorem fy_RX5_15 : FY RX5 15 5 1 (.array .int) true := ⟨TX5, tyX5, cls5, Nat.le_of_ble_eq_true rfl, rfl, rfl, rfl, ok_mem (tb_at2 14 rfl) rfl⟩
theorem fy_RX5_18 : FY RX5 18 5 2 .int false := ⟨TX5, tyX5, cls5, Nat.le_of_ble_eq_true rfl, rfl, rfl, rfl, ok_mem (tb_at2 15 rfl) rfl⟩
theorem fy_RX5_22 : FY RX5 22 5 3 .int false := ⟨TX5, tyX5, cls5, Nat.le_of_ble_eq_true rfl, rfl, rfl, rfl, ok_mem (tb_at2 18 rfl) rfl⟩
theorem fy_RX6_9 : FY RX6 9 6 0 (.array .byte) true := ⟨TX6, tyX6, cls6, Nat.le_of_ble_eq_true rfl, rfl, rfl, rfl, ok_mem (tb_at1 36 rfl) rfl⟩
theorem fy_RX6_15 : FY RX6 15 6 1 .int false := ⟨TX6, tyX6, cls6, Nat.le_of_ble_eq_true rfl, rfl, rfl, rfl, ok_mem (tb_at1 37 rfl) rfl⟩
theorem fy_RX6_19 : FY RX6 19 6 2 (.array .int) true := ⟨TX6, tyX6, cls6, Nat.le_of_ble_eq_true rfl, rfl, rfl, rfl, ok_mem (tb_at1 39 rfl) rfl⟩
theorem fy_RX6_23 : FY RX6 23 6 3 (.array .int) true := ⟨TX6, tyX6, cls6, Nat.le_of_ble_eq_true rfl, rfl, rfl, rfl, ok_mem (tb_at1 40 rfl) rfl⟩
theorem fy_RX6_26 : FY RX6 26 6 4 (.array .int) true := ⟨TX6, tyX6, cls6, Nat.le_of_ble_eq_true rfl, rfl, rfl, rfl, ok_mem (tb_at1 41 rfl) rfl⟩
theorem fy_RX6_29 : FY RX6 29 6 5 (.array .long) true := ⟨TX6, tyX6, cls6, Nat.le_of_ble_eq_true rfl, rfl, rfl, rfl, ok_mem (tb_at1 42 rfl) rfl⟩
theorem fy_RX6_33 : FY RX6 33 6 6 .int false := ⟨TX6, tyX6, cls6, Nat.le_of_ble_eq_true rfl, rfl, rfl, rfl, ok_mem (tb_at1 43 rfl) rfl⟩
theorem fy_RX6_36 : FY RX6 36 6 7 .int false := ⟨TX6, tyX6, cls6, Nat.le_of_ble_eq_true rfl, rfl, rfl, rfl, ok_mem (tb_at1 44 rfl) rfl⟩
theorem fy_RX6_39 : FY RX6 39 6 8 .boolean false := ⟨TX6, tyX6, cls6, Nat.le_of_ble_eq_true rfl, rfl, rfl, rfl, ok_mem (tb_at1 45 rfl) rfl⟩
theorem fy_RX6_43 : FY RX6 43 6 9 .int false := ⟨TX6, tyX6, cls6, Nat.le_of_ble_eq_true rfl, rfl, rfl, rfl, ok_mem (tb_at1 47 rfl) rfl⟩
theorem fy_RX6_46 : FY RX6 46 6 10 .int false := ⟨TX6, tyX6, cls6, Nat.le_of_ble_eq_true rfl, rfl, rfl, rfl, ok_mem (tb_at1 49 rfl) rfl⟩
theorem fy_RX7_9 : FY RX7 9 7 0 (.array .long) true := ⟨TX7, tyX7, cls7, Nat.le_of_ble_eq_true rfl, rfl, rfl, rfl, ok_mem (tb_at2 158 rfl) rfl⟩
theorem fy_RX7_15 : FY RX7 15 7 1 .int false := ⟨TX7, tyX7, cls7, Nat.le_of_ble_eq_true rfl, rfl, rfl, rfl, ok_mem (tb_at2 161 rfl) rfl⟩
theorem fy_RX7_19 : FY RX7 19 7 2 .int false := ⟨TX7, tyX7, cls7, Nat.le_of_ble_eq_true rfl, rfl, rfl, rfl, ok_mem (tb_at2 163 rfl) rfl⟩
theorem fy_RX8_11 : FY RX8 11 8 0 .boolean false := ⟨TX8, tyX8, cls8, Nat.le_of_ble_eq_true rfl, rfl, rfl, rfl, ok_mem (tb_at1 207 rfl) rfl⟩
theorem fy_RX8_15 : FY RX8 15 8 1 .int false := ⟨TX8, tyX8, cls8, Nat.le_of_ble_eq_true rfl, rfl, rfl, rfl, ok_mem (tb_at1 210 rfl) rfl⟩
theorem fy_RX8_19 : FY RX8 19 8 2 .int false := ⟨TX8, tyX8, cls8, Nat.le_of_ble_eq_true rfl, rfl, rfl, rfl, ok_mem (tb_at1 212 rfl) rfl⟩
theorem fy_RX8_22 : FY RX8 22 8 3 (.array .int) true := ⟨TX8, tyX8, cls8, Nat.le_of_ble_eq_true rfl, rfl, rfl, rfl, ok_mem (tb_at1 214 rfl) rfl⟩
theorem fy_RX8_26 : FY RX8 26 8 4 (.array .int) true := ⟨TX8, tyX8, cls8, Nat.le_of_ble_eq_true rfl, rfl, rfl, rfl, ok_mem (tb_at1 216 rfl) rfl⟩
theorem fy_RX8_29 : FY RX8 29 8 5 (.array .int) true := ⟨TX8, tyX8, cls8, Nat.le_of_ble_eq_true rfl, rfl, rfl, rfl, ok_mem (tb_at1 219 rfl) rfl⟩
theorem fy_RX8_32 : FY RX8 32 8 6 (.array .int) true := ⟨TX8, tyX8, cls8, Nat.le_of_ble_eq_true rfl, rfl, rfl, rfl, ok_mem (tb_at1 222 rfl) rfl⟩
theorem fy_RX8_35 : FY RX8 35 8 7 (.array .int) true := ⟨TX8, tyX8, cls8, Nat.le_of_ble_eq_true rfl, rfl, rfl, rfl, ok_mem (tb_at1 225 rfl) rfl⟩
theorem fy_RX9_11 : FY RX9 11 9 0 (.array .int) true := ⟨TX9, tyX9, cls9, Nat.le_of_ble_eq_true rfl, rfl, rfl, rfl, ok_mem (tb_at1 99 rfl) rfl⟩
theorem fy_RX9_15 : FY RX9 15 9 1 .int false := ⟨TX9, tyX9, cls9, Nat.le_of_ble_eq_true rfl, rfl, rfl, rfl, ok_mem (tb_at1 100 rfl) rfl⟩
theorem fy_RX9_19 : FY RX9 19 9 2 (.object "BoreDesk$Reader") false := ⟨TX9, tyX9, cls9, Nat.le_of_ble_eq_true rfl, rfl, rfl, rfl, ok_mem (tb_at1 101 rfl) rfl⟩
theorem fy_RX9_23 : FY RX9 23 9 3 (.object "BoreDesk$Ground") false := ⟨TX9, tyX9, cls9, Nat.le_of_ble_eq_true rfl, rfl, rfl, rfl, ok_mem (tb_at1 102 rfl) rfl⟩
theorem fy_RX9_27 : FY RX9 27 9 4 (.object "BoreDesk$Years") false := ⟨TX9, tyX9, cls9, Nat.le_of_ble_eq_true rfl, rfl, rfl, rfl, ok_mem (tb_at1 103 rfl) rfl⟩
theorem fy_RX11_7 : FY RX11 7 11 0 (.array .int) true := ⟨TX11, tyX11, cls11, Nat.le_of_ble_eq_true rfl, rfl, rfl, rfl, ok_mem (tb_at7 9 rfl) rfl⟩
theorem fy_RX11_13 : FY RX11 13 11 1 (.array .long) true := ⟨TX11, tyX11, cls11, Nat.le_of_ble_eq_true rfl, rfl, rfl, rfl, ok_mem (tb_at7 10 rfl) rfl⟩
theorem fy_RX11_17 : FY RX11 17 11 4 .long false := ⟨TX11, tyX11, cls11, Nat.le_of_ble_eq_true rfl, rfl, rfl, rfl, ok_mem (tb_at7 13 rfl) rfl⟩
theorem fy_RX11_21 : FY RX11 21 11 5 (.array .int) true := ⟨TX11, tyX11, cls11, Nat.le_of_ble_eq_true rfl, rfl, rfl, rfl, ok_mem (tb_at7 14 rfl) rfl⟩
theorem fy_RX11_24 : FY RX11 24 11 6 (.array .int) true := ⟨TX11, tyX11, cls11, Nat.le_of_ble_eq_true rfl, rfl, rfl, rfl, ok_mem (tb_at7 15 rfl) rfl⟩
theorem fy_RX11_27 : FY RX11 27 11 7 (.array .long) true := ⟨TX11, tyX11, cls11, Nat.le_of_ble_eq_true rfl, rfl, rfl, rfl, ok_mem (tb_at7 16 rfl) rfl⟩
theorem fy_RX11_30 : FY RX11 30 11 8 (.array .byte) true := ⟨TX11, tyX11, cls11, Nat.le_of_ble_eq_true rfl, rfl, rfl, rfl, ok_mem (tb_at7 17 rfl) rfl⟩
theorem fy_RX11_34 : FY RX11 34 11 9 (.array .byte) true := ⟨TX11, tyX11, cls11, Nat.le_of_ble_eq_true rfl, rfl, rfl, rfl, ok_mem (tb_at7 18 rfl) rfl⟩
theorem fy_RX11_37 : FY RX11 37 11 16 .int false := ⟨TX11, tyX11, cls11, Nat.le_of_ble_eq_true rfl, rfl, rfl, rfl, ok_mem (tb_at7 25 rfl) rfl⟩
theorem fy_RX11_41 : FY RX11 41 11 17 .int false := ⟨TX11, tyX11, cls11, Nat.le_of_ble_eq_true rfl, rfl, rfl, rfl, ok_mem (tb_at7 26 rfl) rfl⟩
theorem fy_RX11_44 : FY RX11 44 11 20 (.array .int) true := ⟨TX11, tyX11, cls11, Nat.le_of_ble_eq_true rfl, rfl, rfl, rfl, ok_mem (tb_at7 29 rfl) rfl⟩
theorem fy_RX11_47 : FY RX11 47 11 23 (.array .int) true := ⟨TX11, tyX11, cls11, Nat.le_of_ble_eq_true rfl, rfl, rfl, rfl, ok_mem (tb_at7 32 rfl) rfl⟩
theorem fy_RX11_50 : FY RX11 50 11 24 (.array .int) true := ⟨TX11, tyX11, cls11, Nat.le_of_ble_eq_true rfl, rfl, rfl, rfl, ok_mem (tb_at7 33 rfl) rfl⟩
theorem fy_RX11_53 : FY RX11 53 11 25 (.array .int) true := ⟨TX11, tyX11, cls11, Nat.le_of_ble_eq_true rfl, rfl, rfl, rfl, ok_mem (tb_at7 34 rfl) rfl⟩
theorem fy_RX11_56 : FY RX11 56 11 26 .int false := ⟨TX11, tyX11, cls11, Nat.le_of_ble_eq_true rfl, rfl, rfl, rfl, ok_mem (tb_at7 35 rfl) rfl⟩
theorem fy_RX11_59 : FY RX11 59 11 27 (.array .int) true := ⟨TX11, tyX11, cls11, Nat.le_of_ble_eq_true rfl, rfl, rfl, rfl, ok_mem (tb_at7 36 rfl) rfl⟩
theorem fy_RX11_62 : FY RX11 62 11 28 (.array .int) true := ⟨TX11, tyX11, cls11, Nat.le_of_ble_eq_true rfl, rfl, rfl, rfl, ok_mem (tb_at7 37 rfl) rfl⟩
theorem fy_RX11_65 : FY RX11 65 11 29 (.array .int) true := ⟨TX11, tyX11, cls11, Nat.le_of_ble_eq_true rfl, rfl, rfl, rfl, ok_mem (tb_at7 38 rfl) rfl⟩
theorem fy_RX11_68 : FY RX11 68 11 31 (.array .int) true := ⟨TX11, tyX11, cls11, Nat.le_of_ble_eq_true rfl, rfl, rfl, rfl, ok_mem (tb_at7 40 rfl) rfl⟩
theorem fy_RX11_71 : FY RX11 71 11 33 (.array .boolean) true := ⟨TX11, tyX11, cls11, Nat.le_of_ble_eq_true rfl, rfl, rfl, rfl, ok_mem (tb_at7 42 rfl) rfl⟩
theorem fy_RX11_75 : FY RX11 75 11 34 (.array .int) true := ⟨TX11, tyX11, cls11, Nat.le_of_ble_eq_true rfl, rfl, rfl, rfl, ok_mem (tb_at7 43 rfl) rfl⟩
theorem fy_RX11_78 : FY RX11 78 11 35 (.array .long) true := ⟨TX11, tyX11, cls11, Nat.le_of_ble_eq_true rfl, rfl, rfl, rfl, ok_mem (tb_at7 44 rfl) rfl⟩
theorem fy_RX11_81 : FY RX11 81 11 36 (.array .long) true := ⟨TX11, tyX11, cls11, Nat.le_of_ble_eq_true rfl, rfl, rfl, rfl, ok_mem (tb_at7 45 rfl) rfl⟩
theorem fy_RX11_84 : FY RX11 84 11 37 (.array .int) true := ⟨TX11, tyX11, cls11, Nat.le_of_ble_eq_true rfl, rfl, rfl, rfl, ok_mem (tb_at7 46 rfl) rfl⟩
theorem fy_RX11_87 : FY RX11 87 11 41 (.array .int) true := ⟨TX11, tyX11, cls11, Nat.le_of_ble_eq_true rfl, rfl, rfl, rfl, ok_mem (tb_at7 50 rfl) rfl⟩
theorem fy_RX11_90 : FY RX11 90 11 42 (.array .int) true := ⟨TX11, tyX11, cls11, Nat.le_of_ble_eq_true rfl, rfl, rfl, rfl, ok_mem (tb_at7 51 rfl) rfl⟩
theorem fy_RX11_93 : FY RX11 93 11 43 (.array .int) true := ⟨TX11, tyX11, cls11, Nat.le_of_ble_eq_true rfl, rfl, rfl, rfl, ok_mem (tb_at7 52 rfl) rfl⟩
