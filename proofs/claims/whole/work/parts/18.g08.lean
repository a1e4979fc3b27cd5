theorem dX11_yearOrder_0 : decode cX11_yearOrder 0 = .ok (.iload_n 1, 1) := by decide +kernel
theorem dX11_yearOrder_1 : decode cX11_yearOrder 1 = .ok (.tableswitch 161 13 18 #[39, 78, 107, 118, 155, 107], 39) := by decide +kernel
theorem dX11_yearOrder_40 : decode cX11_yearOrder 40 = .ok (.aload_n 0, 1) := by decide +kernel
theorem dX11_yearOrder_41 : decode cX11_yearOrder 41 = .ok (.iload_n 2, 1) := by decide +kernel
theorem dX11_yearOrder_42 : decode cX11_yearOrder 42 = .ok (.iconst 1, 1) := by decide +kernel
theorem dX11_yearOrder_43 : decode cX11_yearOrder 43 = .ok (.iadd, 1) := by decide +kernel
theorem dX11_yearOrder_44 : decode cX11_yearOrder 44 = .ok (.invokevirtual 259, 3) := by decide +kernel
theorem dX11_yearOrder_47 : decode cX11_yearOrder 47 = .ok (.ifCond .eq 30, 3) := by decide +kernel
theorem dX11_yearOrder_50 : decode cX11_yearOrder 50 = .ok (.aload_n 0, 1) := by decide +kernel
theorem dX11_yearOrder_51 : decode cX11_yearOrder 51 = .ok (.iload_n 2, 1) := by decide +kernel
theorem dX11_yearOrder_52 : decode cX11_yearOrder 52 = .ok (.iconst 2, 1) := by decide +kernel
theorem dX11_yearOrder_53 : decode cX11_yearOrder 53 = .ok (.iadd, 1) := by decide +kernel
theorem dX11_yearOrder_54 : decode cX11_yearOrder 54 = .ok (.invokevirtual 262, 3) := by decide +kernel
theorem dX11_yearOrder_57 : decode cX11_yearOrder 57 = .ok (.ifCond .eq 20, 3) := by decide +kernel
theorem dX11_yearOrder_60 : decode cX11_yearOrder 60 = .ok (.aload_n 0, 1) := by decide +kernel
theorem dX11_yearOrder_61 : decode cX11_yearOrder 61 = .ok (.iload_n 2, 1) := by decide +kernel
theorem dX11_yearOrder_62 : decode cX11_yearOrder 62 = .ok (.iconst 3, 1) := by decide +kernel
theorem dX11_yearOrder_63 : decode cX11_yearOrder 63 = .ok (.iadd, 1) := by decide +kernel
theorem dX11_yearOrder_64 : decode cX11_yearOrder 64 = .ok (.iconst 1, 1) := by decide +kernel
theorem dX11_yearOrder_65 : decode cX11_yearOrder 65 = .ok (.bipush 99, 2) := by decide +kernel
theorem dX11_yearOrder_67 : decode cX11_yearOrder 67 = .ok (.invokevirtual 212, 3) := by decide +kernel
theorem dX11_yearOrder_70 : decode cX11_yearOrder 70 = .ok (.ifCond .eq 7, 3) := by decide +kernel
theorem dX11_yearOrder_73 : decode cX11_yearOrder 73 = .ok (.iconst 1, 1) := by decide +kernel
theorem dX11_yearOrder_74 : decode cX11_yearOrder 74 = .ok (.goto 4, 3) := by decide +kernel
theorem dX11_yearOrder_77 : decode cX11_yearOrder 77 = .ok (.iconst 0, 1) := by decide +kernel
theorem dX11_yearOrder_78 : decode cX11_yearOrder 78 = .ok (.ireturn, 1) := by decide +kernel
theorem dX11_yearOrder_79 : decode cX11_yearOrder 79 = .ok (.aload_n 0, 1) := by decide +kernel
theorem dX11_yearOrder_80 : decode cX11_yearOrder 80 = .ok (.iload_n 2, 1) := by decide +kernel
theorem dX11_yearOrder_81 : decode cX11_yearOrder 81 = .ok (.iconst 1, 1) := by decide +kernel
theorem dX11_yearOrder_82 : decode cX11_yearOrder 82 = .ok (.iadd, 1) := by decide +kernel
theorem dX11_yearOrder_83 : decode cX11_yearOrder 83 = .ok (.invokevirtual 259, 3) := by decide +kernel
theorem dX11_yearOrder_86 : decode cX11_yearOrder 86 = .ok (.ifCond .eq 20, 3) := by decide +kernel
theorem dX11_yearOrder_89 : decode cX11_yearOrder 89 = .ok (.aload_n 0, 1) := by decide +kernel
theorem dX11_yearOrder_90 : decode cX11_yearOrder 90 = .ok (.iload_n 2, 1) := by decide +kernel
theorem dX11_yearOrder_91 : decode cX11_yearOrder 91 = .ok (.iconst 2, 1) := by decide +kernel
theorem dX11_yearOrder_92 : decode cX11_yearOrder 92 = .ok (.iadd, 1) := by decide +kernel
theorem dX11_yearOrder_93 : decode cX11_yearOrder 93 = .ok (.iconst 1, 1) := by decide +kernel
theorem dX11_yearOrder_94 : decode cX11_yearOrder 94 = .ok (.bipush 99, 2) := by decide +kernel
theorem dX11_yearOrder_96 : decode cX11_yearOrder 96 = .ok (.invokevirtual 212, 3) := by decide +kernel
theorem dX11_yearOrder_99 : decode cX11_yearOrder 99 = .ok (.ifCond .eq 7, 3) := by decide +kernel
theorem dX11_yearOrder_102 : decode cX11_yearOrder 102 = .ok (.iconst 1, 1) := by decide +kernel
theorem dX11_yearOrder_103 : decode cX11_yearOrder 103 = .ok (.goto 4, 3) := by decide +kernel
theorem dX11_yearOrder_106 : decode cX11_yearOrder 106 = .ok (.iconst 0, 1) := by decide +kernel
theorem dX11_yearOrder_107 : decode cX11_yearOrder 107 = .ok (.ireturn, 1) := by decide +kernel
theorem dX11_yearOrder_108 : decode cX11_yearOrder 108 = .ok (.aload_n 0, 1) := by decide +kernel
theorem dX11_yearOrder_109 : decode cX11_yearOrder 109 = .ok (.iload_n 2, 1) := by decide +kernel
theorem dX11_yearOrder_110 : decode cX11_yearOrder 110 = .ok (.iconst 1, 1) := by decide +kernel
theorem dX11_yearOrder_111 : decode cX11_yearOrder 111 = .ok (.iadd, 1) := by decide +kernel
theorem dX11_yearOrder_112 : decode cX11_yearOrder 112 = .ok (.iconst 1, 1) := by decide +kernel
theorem dX11_yearOrder_113 : decode cX11_yearOrder 113 = .ok (.bipush 99, 2) := by decide +kernel
theorem dX11_yearOrder_115 : decode cX11_yearOrder 115 = .ok (.invokevirtual 212, 3) := by decide +kernel
theorem dX11_yearOrder_118 : decode cX11_yearOrder 118 = .ok (.ireturn, 1) := by decide +kernel
theorem dX11_yearOrder_119 : decode cX11_yearOrder 119 = .ok (.aload_n 0, 1) := by decide +kernel
theorem dX11_yearOrder_120 : decode cX11_yearOrder 120 = .ok (.bipush 14, 2) := by decide +kernel
theorem dX11_yearOrder_122 : decode cX11_yearOrder 122 = .ok (.aload_n 0, 1) := by decide +kernel
theorem dX11_yearOrder_123 : decode cX11_yearOrder 123 = .ok (.getfield 7, 3) := by decide +kernel
theorem dX11_yearOrder_126 : decode cX11_yearOrder 126 = .ok (.iconst 3, 1) := by decide +kernel
theorem dX11_yearOrder_127 : decode cX11_yearOrder 127 = .ok (.iaload, 1) := by decide +kernel
theorem dX11_yearOrder_128 : decode cX11_yearOrder 128 = .ok (.iload_n 2, 1) := by decide +kernel
theorem dX11_yearOrder_129 : decode cX11_yearOrder 129 = .ok (.iconst 1, 1) := by decide +kernel
theorem dX11_yearOrder_130 : decode cX11_yearOrder 130 = .ok (.iadd, 1) := by decide +kernel
theorem dX11_yearOrder_131 : decode cX11_yearOrder 131 = .ok (.invokevirtual 215, 3) := by decide +kernel
theorem dX11_yearOrder_134 : decode cX11_yearOrder 134 = .ok (.ifCond .eq 20, 3) := by decide +kernel
theorem dX11_yearOrder_137 : decode cX11_yearOrder 137 = .ok (.aload_n 0, 1) := by decide +kernel
theorem dX11_yearOrder_138 : decode cX11_yearOrder 138 = .ok (.iload_n 2, 1) := by decide +kernel
theorem dX11_yearOrder_139 : decode cX11_yearOrder 139 = .ok (.iconst 2, 1) := by decide +kernel
theorem dX11_yearOrder_140 : decode cX11_yearOrder 140 = .ok (.iadd, 1) := by decide +kernel
theorem dX11_yearOrder_141 : decode cX11_yearOrder 141 = .ok (.iconst 1, 1) := by decide +kernel
theorem dX11_yearOrder_142 : decode cX11_yearOrder 142 = .ok (.bipush 99, 2) := by decide +kernel
theorem dX11_yearOrder_144 : decode cX11_yearOrder 144 = .ok (.invokevirtual 212, 3) := by decide +kernel
theorem dX11_yearOrder_147 : decode cX11_yearOrder 147 = .ok (.ifCond .eq 7, 3) := by decide +kernel
theorem dX11_yearOrder_150 : decode cX11_yearOrder 150 = .ok (.iconst 1, 1) := by decide +kernel
theorem dX11_yearOrder_151 : decode cX11_yearOrder 151 = .ok (.goto 4, 3) := by decide +kernel
theorem dX11_yearOrder_154 : decode cX11_yearOrder 154 = .ok (.iconst 0, 1) := by decide +kernel
theorem dX11_yearOrder_155 : decode cX11_yearOrder 155 = .ok (.ireturn, 1) := by decide +kernel
theorem dX11_yearOrder_156 : decode cX11_yearOrder 156 = .ok (.aload_n 0, 1) := by decide +kernel
theorem dX11_yearOrder_157 : decode cX11_yearOrder 157 = .ok (.iload_n 2, 1) := by decide +kernel
theorem dX11_yearOrder_158 : decode cX11_yearOrder 158 = .ok (.invokevirtual 265, 3) := by decide +kernel
theorem dX11_yearOrder_161 : decode cX11_yearOrder 161 = .ok (.ireturn, 1) := by decide +kernel
theorem dX11_yearOrder_162 : decode cX11_yearOrder 162 = .ok (.iconst 1, 1) := by decide +kernel
theorem dX11_yearOrder_163 : decode cX11_yearOrder 163 = .ok (.ireturn, 1) := by decide +kernel
theorem dX11_step_0 : decode cX11_step 0 = .ok (.aload_n 0, 1) := by decide +kernel
theorem dX11_step_1 : decode cX11_step 1 = .ok (.ldc 196, 2) := by decide +kernel
theorem dX11_step_3 : decode cX11_step 3 = .ok (.invokevirtual 188, 3) := by decide +kernel
theorem dX11_step_6 : decode cX11_step 6 = .ok (.istore_n 1, 1) := by decide +kernel
theorem dX11_step_7 : decode cX11_step 7 = .ok (.aload_n 0, 1) := by decide +kernel
theorem dX11_step_8 : decode cX11_step 8 = .ok (.getfield 7, 3) := by decide +kernel
theorem dX11_step_11 : decode cX11_step 11 = .ok (.sipush 2604, 3) := by decide +kernel
theorem dX11_step_14 : decode cX11_step 14 = .ok (.iaload, 1) := by decide +kernel
theorem dX11_step_15 : decode cX11_step 15 = .ok (.istore_n 2, 1) := by decide +kernel
theorem dX11_step_16 : decode cX11_step 16 = .ok (.sipush 2880, 3) := by decide +kernel
theorem dX11_step_19 : decode cX11_step 19 = .ok (.bipush 6, 2) := by decide +kernel
theorem dX11_step_21 : decode cX11_step 21 = .ok (.iload_n 2, 1) := by decide +kernel
theorem dX11_step_22 : decode cX11_step 22 = .ok (.imul, 1) := by decide +kernel
theorem dX11_step_23 : decode cX11_step 23 = .ok (.iadd, 1) := by decide +kernel
theorem dX11_step_24 : decode cX11_step 24 = .ok (.istore_n 3, 1) := by decide +kernel
theorem dX11_step_25 : decode cX11_step 25 = .ok (.iload_n 1, 1) := by decide +kernel
theorem dX11_step_26 : decode cX11_step 26 = .ok (.bipush 17, 2) := by decide +kernel
theorem dX11_step_28 : decode cX11_step 28 = .ok (.if_icmp .eq 9, 3) := by decide +kernel
theorem dX11_step_31 : decode cX11_step 31 = .ok (.iload_n 1, 1) := by decide +kernel
theorem dX11_step_32 : decode cX11_step 32 = .ok (.bipush 18, 2) := by decide +kernel
theorem dX11_step_34 : decode cX11_step 34 = .ok (.if_icmp .ne 7, 3) := by decide +kernel
theorem dX11_step_37 : decode cX11_step 37 = .ok (.iconst 1, 1) := by decide +kernel
theorem dX11_step_38 : decode cX11_step 38 = .ok (.goto 4, 3) := by decide +kernel
theorem dX11_step_41 : decode cX11_step 41 = .ok (.iconst 0, 1) := by decide +kernel
theorem dX11_step_42 : decode cX11_step 42 = .ok (.istore 4, 2) := by decide +kernel
theorem dX11_step_44 : decode cX11_step 44 = .ok (.iload_n 1, 1) := by decide +kernel
theorem dX11_step_45 : decode cX11_step 45 = .ok (.bipush 13, 2) := by decide +kernel
theorem dX11_step_47 : decode cX11_step 47 = .ok (.if_icmp .lt 22, 3) := by decide +kernel
theorem dX11_step_50 : decode cX11_step 50 = .ok (.iload_n 1, 1) := by decide +kernel
theorem dX11_step_51 : decode cX11_step 51 = .ok (.bipush 20, 2) := by decide +kernel
theorem dX11_step_53 : decode cX11_step 53 = .ok (.if_icmp .gt 16, 3) := by decide +kernel
theorem dX11_step_56 : decode cX11_step 56 = .ok (.iload_n 1, 1) := by decide +kernel
theorem dX11_step_57 : decode cX11_step 57 = .ok (.bipush 19, 2) := by decide +kernel
theorem dX11_step_59 : decode cX11_step 59 = .ok (.if_icmp .ne 16, 3) := by decide +kernel
theorem dX11_step_62 : decode cX11_step 62 = .ok (.aload_n 0, 1) := by decide +kernel
theorem dX11_step_63 : decode cX11_step 63 = .ok (.getfield 268, 3) := by decide +kernel
theorem dX11_step_66 : decode cX11_step 66 = .ok (.ifCond .ne 9, 3) := by decide +kernel
theorem dX11_step_69 : decode cX11_step 69 = .ok (.aload_n 0, 1) := by decide +kernel
theorem dX11_step_70 : decode cX11_step 70 = .ok (.iconst 2, 1) := by decide +kernel
theorem dX11_step_71 : decode cX11_step 71 = .ok (.invokevirtual 185, 3) := by decide +kernel
theorem dX11_step_74 : decode cX11_step 74 = .ok (.ireturn, 1) := by decide +kernel
theorem dX11_step_75 : decode cX11_step 75 = .ok (.iload_n 1, 1) := by decide +kernel
theorem dX11_step_76 : decode cX11_step 76 = .ok (.bipush 19, 2) := by decide +kernel
theorem dX11_step_78 : decode cX11_step 78 = .ok (.if_icmp .eq 19, 3) := by decide +kernel
theorem dX11_step_81 : decode cX11_step 81 = .ok (.aload_n 0, 1) := by decide +kernel
theorem dX11_step_82 : decode cX11_step 82 = .ok (.getfield 271, 3) := by decide +kernel
theorem dX11_step_85 : decode cX11_step 85 = .ok (.bipush 30, 2) := by decide +kernel
theorem dX11_step_87 : decode cX11_step 87 = .ok (.if_icmp .ne 10, 3) := by decide +kernel
theorem dX11_step_90 : decode cX11_step 90 = .ok (.aload_n 0, 1) := by decide +kernel
theorem dX11_step_91 : decode cX11_step 91 = .ok (.bipush 6, 2) := by decide +kernel
theorem dX11_step_93 : decode cX11_step 93 = .ok (.invokevirtual 185, 3) := by decide +kernel
theorem dX11_step_96 : decode cX11_step 96 = .ok (.ireturn, 1) := by decide +kernel
theorem dX11_step_97 : decode cX11_step 97 = .ok (.iload 4, 2) := by decide +kernel
theorem dX11_step_99 : decode cX11_step 99 = .ok (.ifCond .eq 18, 3) := by decide +kernel
theorem dX11_step_102 : decode cX11_step 102 = .ok (.aload_n 0, 1) := by decide +kernel
theorem dX11_step_103 : decode cX11_step 103 = .ok (.getfield 268, 3) := by decide +kernel
theorem dX11_step_106 : decode cX11_step 106 = .ok (.iconst 3, 1) := by decide +kernel
theorem dX11_step_107 : decode cX11_step 107 = .ok (.if_icmp .ne 10, 3) := by decide +kernel
theorem dX11_step_110 : decode cX11_step 110 = .ok (.aload_n 0, 1) := by decide +kernel
theorem dX11_step_111 : decode cX11_step 111 = .ok (.bipush 7, 2) := by decide +kernel
theorem dX11_step_113 : decode cX11_step 113 = .ok (.invokevirtual 185, 3) := by decide +kernel
theorem dX11_step_116 : decode cX11_step 116 = .ok (.ireturn, 1) := by decide +kernel
theorem dX11_step_117 : decode cX11_step 117 = .ok (.aload_n 0, 1) := by decide +kernel
theorem dX11_step_118 : decode cX11_step 118 = .ok (.dup, 1) := by decide +kernel
theorem dX11_step_119 : decode cX11_step 119 = .ok (.getfield 271, 3) := by decide +kernel
theorem dX11_step_122 : decode cX11_step 122 = .ok (.iload_n 1, 1) := by decide +kernel
theorem dX11_step_123 : decode cX11_step 123 = .ok (.bipush 19, 2) := by decide +kernel
theorem dX11_step_125 : decode cX11_step 125 = .ok (.if_icmp .ne 7, 3) := by decide +kernel
theorem dX11_step_128 : decode cX11_step 128 = .ok (.iconst 0, 1) := by decide +kernel
theorem dX11_step_129 : decode cX11_step 129 = .ok (.goto 4, 3) := by decide +kernel
theorem dX11_step_132 : decode cX11_step 132 = .ok (.iconst 1, 1) := by decide +kernel
theorem dX11_step_133 : decode cX11_step 133 = .ok (.iadd, 1) := by decide +kernel
theorem dX11_step_134 : decode cX11_step 134 = .ok (.putfield 271, 3) := by decide +kernel
theorem dX11_step_137 : decode cX11_step 137 = .ok (.aload_n 0, 1) := by decide +kernel
theorem dX11_step_138 : decode cX11_step 138 = .ok (.getfield 7, 3) := by decide +kernel
theorem dX11_step_141 : decode cX11_step 141 = .ok (.iload_n 3, 1) := by decide +kernel
theorem dX11_step_142 : decode cX11_step 142 = .ok (.iload_n 1, 1) := by decide +kernel
theorem dX11_step_143 : decode cX11_step 143 = .ok (.iastore, 1) := by decide +kernel
theorem dX11_step_144 : decode cX11_step 144 = .ok (.iconst 1, 1) := by decide +kernel
theorem dX11_step_145 : decode cX11_step 145 = .ok (.istore 5, 2) := by decide +kernel
theorem dX11_step_147 : decode cX11_step 147 = .ok (.iload 5, 2) := by decide +kernel
theorem dX11_step_149 : decode cX11_step 149 = .ok (.bipush 6, 2) := by decide +kernel
theorem dX11_step_151 : decode cX11_step 151 = .ok (.if_icmp .ge 19, 3) := by decide +kernel
theorem dX11_step_154 : decode cX11_step 154 = .ok (.aload_n 0, 1) := by decide +kernel
theorem dX11_step_155 : decode cX11_step 155 = .ok (.getfield 7, 3) := by decide +kernel
theorem dX11_step_158 : decode cX11_step 158 = .ok (.iload_n 3, 1) := by decide +kernel
theorem dX11_step_159 : decode cX11_step 159 = .ok (.iload 5, 2) := by decide +kernel
theorem dX11_step_161 : decode cX11_step 161 = .ok (.iadd, 1) := by decide +kernel
theorem dX11_step_162 : decode cX11_step 162 = .ok (.iconst 0, 1) := by decide +kernel
theorem dX11_step_163 : decode cX11_step 163 = .ok (.iastore, 1) := by decide +kernel
theorem dX11_step_164 : decode cX11_step 164 = .ok (.iinc 5 1, 3) := by decide +kernel
theorem dX11_step_167 : decode cX11_step 167 = .ok (.goto (-20), 3) := by decide +kernel
theorem dX11_step_170 : decode cX11_step 170 = .ok (.aload_n 0, 1) := by decide +kernel
theorem dX11_step_171 : decode cX11_step 171 = .ok (.getfield 7, 3) := by decide +kernel
theorem dX11_step_174 : decode cX11_step 174 = .ok (.sipush 2604, 3) := by decide +kernel
theorem dX11_step_177 : decode cX11_step 177 = .ok (.dup2, 1) := by decide +kernel
theorem dX11_step_178 : decode cX11_step 178 = .ok (.iaload, 1) := by decide +kernel
theorem dX11_step_179 : decode cX11_step 179 = .ok (.iconst 1, 1) := by decide +kernel
theorem dX11_step_180 : decode cX11_step 180 = .ok (.iadd, 1) := by decide +kernel
theorem dX11_step_181 : decode cX11_step 181 = .ok (.iastore, 1) := by decide +kernel
theorem dX11_step_182 : decode cX11_step 182 = .ok (.aload_n 0, 1) := by decide +kernel
theorem dX11_step_183 : decode cX11_step 183 = .ok (.invokevirtual 179, 3) := by decide +kernel
theorem dX11_step_186 : decode cX11_step 186 = .ok (.aload_n 0, 1) := by decide +kernel
theorem dX11_step_187 : decode cX11_step 187 = .ok (.iload_n 1, 1) := by decide +kernel
theorem dX11_step_188 : decode cX11_step 188 = .ok (.iload_n 3, 1) := by decide +kernel
theorem dX11_step_189 : decode cX11_step 189 = .ok (.invokevirtual 274, 3) := by decide +kernel
theorem dX11_step_192 : decode cX11_step 192 = .ok (.ifCond .ne 5, 3) := by decide +kernel
theorem dX11_step_195 : decode cX11_step 195 = .ok (.iconst 0, 1) := by decide +kernel
theorem dX11_step_196 : decode cX11_step 196 = .ok (.ireturn, 1) := by decide +kernel
theorem dX11_step_197 : decode cX11_step 197 = .ok (.iload 4, 2) := by decide +kernel
theorem dX11_step_199 : decode cX11_step 199 = .ok (.ifCond .eq 23, 3) := by decide +kernel
theorem dX11_step_202 : decode cX11_step 202 = .ok (.aload_n 0, 1) := by decide +kernel
theorem dX11_step_203 : decode cX11_step 203 = .ok (.getfield 44, 3) := by decide +kernel
theorem dX11_step_206 : decode cX11_step 206 = .ok (.aload_n 0, 1) := by decide +kernel
theorem dX11_step_207 : decode cX11_step 207 = .ok (.getfield 268, 3) := by decide +kernel
theorem dX11_step_210 : decode cX11_step 210 = .ok (.iload_n 2, 1) := by decide +kernel
theorem dX11_step_211 : decode cX11_step 211 = .ok (.iastore, 1) := by decide +kernel
theorem dX11_step_212 : decode cX11_step 212 = .ok (.aload_n 0, 1) := by decide +kernel
theorem dX11_step_213 : decode cX11_step 213 = .ok (.dup, 1) := by decide +kernel
theorem dX11_step_214 : decode cX11_step 214 = .ok (.getfield 268, 3) := by decide +kernel
theorem dX11_step_217 : decode cX11_step 217 = .ok (.iconst 1, 1) := by decide +kernel
theorem dX11_step_218 : decode cX11_step 218 = .ok (.iadd, 1) := by decide +kernel
theorem dX11_step_219 : decode cX11_step 219 = .ok (.putfield 268, 3) := by decide +kernel
theorem dX11_step_222 : decode cX11_step 222 = .ok (.iload_n 1, 1) := by decide +kernel
theorem dX11_step_223 : decode cX11_step 223 = .ok (.bipush 19, 2) := by decide +kernel
theorem dX11_step_225 : decode cX11_step 225 = .ok (.if_icmp .ne 54, 3) := by decide +kernel
theorem dX11_step_228 : decode cX11_step 228 = .ok (.aload_n 0, 1) := by decide +kernel
theorem dX11_step_229 : decode cX11_step 229 = .ok (.dup, 1) := by decide +kernel
theorem dX11_step_230 : decode cX11_step 230 = .ok (.getfield 268, 3) := by decide +kernel
theorem dX11_step_233 : decode cX11_step 233 = .ok (.iconst 1, 1) := by decide +kernel
theorem dX11_step_234 : decode cX11_step 234 = .ok (.isub, 1) := by decide +kernel
theorem dX11_step_235 : decode cX11_step 235 = .ok (.putfield 268, 3) := by decide +kernel
theorem dX11_step_238 : decode cX11_step 238 = .ok (.aload_n 0, 1) := by decide +kernel
theorem dX11_step_239 : decode cX11_step 239 = .ok (.getfield 7, 3) := by decide +kernel
theorem dX11_step_242 : decode cX11_step 242 = .ok (.iload_n 3, 1) := by decide +kernel
theorem dX11_step_243 : decode cX11_step 243 = .ok (.iconst 4, 1) := by decide +kernel
theorem dX11_step_244 : decode cX11_step 244 = .ok (.iadd, 1) := by decide +kernel
theorem dX11_step_245 : decode cX11_step 245 = .ok (.aload_n 0, 1) := by decide +kernel
theorem dX11_step_246 : decode cX11_step 246 = .ok (.getfield 44, 3) := by decide +kernel
theorem dX11_step_249 : decode cX11_step 249 = .ok (.aload_n 0, 1) := by decide +kernel
theorem dX11_step_250 : decode cX11_step 250 = .ok (.getfield 268, 3) := by decide +kernel
theorem dX11_step_253 : decode cX11_step 253 = .ok (.iaload, 1) := by decide +kernel
theorem dX11_step_254 : decode cX11_step 254 = .ok (.iastore, 1) := by decide +kernel
theorem dX11_step_255 : decode cX11_step 255 = .ok (.aload_n 0, 1) := by decide +kernel
theorem dX11_step_256 : decode cX11_step 256 = .ok (.getfield 7, 3) := by decide +kernel
theorem dX11_step_259 : decode cX11_step 259 = .ok (.sipush 2880, 3) := by decide +kernel
theorem dX11_step_262 : decode cX11_step 262 = .ok (.bipush 6, 2) := by decide +kernel
theorem dX11_step_264 : decode cX11_step 264 = .ok (.aload_n 0, 1) := by decide +kernel
theorem dX11_step_265 : decode cX11_step 265 = .ok (.getfield 44, 3) := by decide +kernel
theorem dX11_step_268 : decode cX11_step 268 = .ok (.aload_n 0, 1) := by decide +kernel
theorem dX11_step_269 : decode cX11_step 269 = .ok (.getfield 268, 3) := by decide +kernel
theorem dX11_step_272 : decode cX11_step 272 = .ok (.iaload, 1) := by decide +kernel
theorem dX11_step_273 : decode cX11_step 273 = .ok (.imul, 1) := by decide +kernel
theorem dX11_step_274 : decode cX11_step 274 = .ok (.iadd, 1) := by decide +kernel
theorem dX11_step_275 : decode cX11_step 275 = .ok (.iconst 4, 1) := by decide +kernel
theorem dX11_step_276 : decode cX11_step 276 = .ok (.iadd, 1) := by decide +kernel
theorem dX11_step_277 : decode cX11_step 277 = .ok (.iload_n 2, 1) := by decide +kernel
theorem dX11_step_278 : decode cX11_step 278 = .ok (.iastore, 1) := by decide +kernel
theorem dX11_step_279 : decode cX11_step 279 = .ok (.aload_n 0, 1) := by decide +kernel
theorem dX11_step_280 : decode cX11_step 280 = .ok (.bipush 59, 2) := by decide +kernel
theorem dX11_step_282 : decode cX11_step 282 = .ok (.invokevirtual 246, 3) := by decide +kernel
theorem dX11_step_285 : decode cX11_step 285 = .ok (.ireturn, 1) := by decide +kernel
theorem dX11_years_0 : decode cX11_years 0 = .ok (.aload_n 0, 1) := by decide +kernel
theorem dX11_years_1 : decode cX11_years 1 = .ok (.iload_n 1, 1) := by decide +kernel
theorem dX11_years_2 : decode cX11_years 2 = .ok (.sipush 300, 3) := by decide +kernel
theorem dX11_years_5 : decode cX11_years 5 = .ok (.invokevirtual 249, 3) := by decide +kernel
theorem dX11_years_8 : decode cX11_years 8 = .ok (.ifCond .ne 9, 3) := by decide +kernel
theorem dX11_years_11 : decode cX11_years 11 = .ok (.aload_n 0, 1) := by decide +kernel
theorem dX11_years_12 : decode cX11_years 12 = .ok (.iconst 1, 1) := by decide +kernel
theorem dX11_years_13 : decode cX11_years 13 = .ok (.invokevirtual 102, 3) := by decide +kernel
theorem dX11_years_16 : decode cX11_years 16 = .ok (.ireturn, 1) := by decide +kernel
theorem dX11_years_17 : decode cX11_years 17 = .ok (.aload_n 0, 1) := by decide +kernel
theorem dX11_years_18 : decode cX11_years 18 = .ok (.getfield 7, 3) := by decide +kernel
theorem dX11_years_21 : decode cX11_years 21 = .ok (.sipush 2604, 3) := by decide +kernel
theorem dX11_years_24 : decode cX11_years 24 = .ok (.iconst 0, 1) := by decide +kernel
theorem dX11_years_25 : decode cX11_years 25 = .ok (.iastore, 1) := by decide +kernel
theorem dX11_years_26 : decode cX11_years 26 = .ok (.aload_n 0, 1) := by decide +kernel
theorem dX11_years_27 : decode cX11_years 27 = .ok (.iconst 0, 1) := by decide +kernel
theorem dX11_years_28 : decode cX11_years 28 = .ok (.putfield 268, 3) := by decide +kernel
theorem dX11_years_31 : decode cX11_years 31 = .ok (.aload_n 0, 1) := by decide +kernel
theorem dX11_years_32 : decode cX11_years 32 = .ok (.iconst 0, 1) := by decide +kernel
theorem dX11_years_33 : decode cX11_years 33 = .ok (.putfield 271, 3) := by decide +kernel
theorem dX11_years_36 : decode cX11_years 36 = .ok (.iconst 1, 1) := by decide +kernel
theorem dX11_years_37 : decode cX11_years 37 = .ok (.istore_n 2, 1) := by decide +kernel
theorem dX11_years_38 : decode cX11_years 38 = .ok (.iload_n 2, 1) := by decide +kernel
theorem dX11_years_39 : decode cX11_years 39 = .ok (.ifCond .eq 18, 3) := by decide +kernel
theorem dX11_years_42 : decode cX11_years 42 = .ok (.aload_n 0, 1) := by decide +kernel
theorem dX11_years_43 : decode cX11_years 43 = .ok (.getfield 148, 3) := by decide +kernel
theorem dX11_years_46 : decode cX11_years 46 = .ok (.ifCond .eq 11, 3) := by decide +kernel
theorem dX11_years_49 : decode cX11_years 49 = .ok (.aload_n 0, 1) := by decide +kernel
theorem dX11_years_50 : decode cX11_years 50 = .ok (.invokevirtual 277, 3) := by decide +kernel
theorem dX11_years_53 : decode cX11_years 53 = .ok (.istore_n 2, 1) := by decide +kernel
theorem dX11_years_54 : decode cX11_years 54 = .ok (.goto (-16), 3) := by decide +kernel
theorem dX11_years_57 : decode cX11_years 57 = .ok (.aload_n 0, 1) := by decide +kernel
theorem dX11_years_58 : decode cX11_years 58 = .ok (.getfield 173, 3) := by decide +kernel
theorem dX11_years_61 : decode cX11_years 61 = .ok (.ifCond .ne 16, 3) := by decide +kernel
theorem dX11_years_64 : decode cX11_years 64 = .ok (.aload_n 0, 1) := by decide +kernel
theorem dX11_years_65 : decode cX11_years 65 = .ok (.getfield 268, 3) := by decide +kernel
theorem dX11_years_68 : decode cX11_years 68 = .ok (.ifCond .le 9, 3) := by decide +kernel
theorem dX11_years_71 : decode cX11_years 71 = .ok (.aload_n 0, 1) := by decide +kernel
theorem dX11_years_72 : decode cX11_years 72 = .ok (.iconst 2, 1) := by decide +kernel
theorem dX11_years_73 : decode cX11_years 73 = .ok (.invokevirtual 185, 3) := by decide +kernel
theorem dX11_years_76 : decode cX11_years 76 = .ok (.pop, 1) := by decide +kernel
theorem dX11_years_77 : decode cX11_years 77 = .ok (.aload_n 0, 1) := by decide +kernel
theorem dX11_years_78 : decode cX11_years 78 = .ok (.getfield 173, 3) := by decide +kernel
theorem dX11_years_81 : decode cX11_years 81 = .ok (.ifCond .ne 50, 3) := by decide +kernel
theorem dX11_years_84 : decode cX11_years 84 = .ok (.aload_n 0, 1) := by decide +kernel
theorem dX11_years_85 : decode cX11_years 85 = .ok (.getfield 7, 3) := by decide +kernel
theorem dX11_years_88 : decode cX11_years 88 = .ok (.iconst 4, 1) := by decide +kernel
theorem dX11_years_89 : decode cX11_years 89 = .ok (.aload_n 0, 1) := by decide +kernel
theorem dX11_years_90 : decode cX11_years 90 = .ok (.getfield 7, 3) := by decide +kernel
theorem dX11_years_93 : decode cX11_years 93 = .ok (.sipush 2604, 3) := by decide +kernel
theorem dX11_years_96 : decode cX11_years 96 = .ok (.iaload, 1) := by decide +kernel
theorem dX11_years_97 : decode cX11_years 97 = .ok (.iastore, 1) := by decide +kernel
theorem dX11_years_98 : decode cX11_years 98 = .ok (.sipush 280, 3) := by decide +kernel
theorem dX11_years_101 : decode cX11_years 101 = .ok (.istore_n 3, 1) := by decide +kernel
theorem dX11_years_102 : decode cX11_years 102 = .ok (.iload_n 3, 1) := by decide +kernel
theorem dX11_years_103 : decode cX11_years 103 = .ok (.sipush 645, 3) := by decide +kernel
theorem dX11_years_106 : decode cX11_years 106 = .ok (.if_icmp .ge 25, 3) := by decide +kernel
theorem dX11_years_109 : decode cX11_years 109 = .ok (.aload_n 0, 1) := by decide +kernel
theorem dX11_years_110 : decode cX11_years 110 = .ok (.getfield 7, 3) := by decide +kernel
theorem dX11_years_113 : decode cX11_years 113 = .ok (.iload_n 3, 1) := by decide +kernel
theorem dX11_years_114 : decode cX11_years 114 = .ok (.aload_n 0, 1) := by decide +kernel
theorem dX11_years_115 : decode cX11_years 115 = .ok (.getfield 7, 3) := by decide +kernel
theorem dX11_years_118 : decode cX11_years 118 = .ok (.sipush 2600, 3) := by decide +kernel
theorem dX11_years_121 : decode cX11_years 121 = .ok (.iload_n 3, 1) := by decide +kernel
theorem dX11_years_122 : decode cX11_years 122 = .ok (.iadd, 1) := by decide +kernel
theorem dX11_years_123 : decode cX11_years 123 = .ok (.iaload, 1) := by decide +kernel
theorem dX11_years_124 : decode cX11_years 124 = .ok (.iastore, 1) := by decide +kernel
theorem dX11_years_125 : decode cX11_years 125 = .ok (.iinc 3 1, 3) := by decide +kernel
theorem dX11_years_128 : decode cX11_years 128 = .ok (.goto (-26), 3) := by decide +kernel
theorem dX11_years_131 : decode cX11_years 131 = .ok (.aload_n 0, 1) := by decide +kernel
theorem dX11_years_132 : decode cX11_years 132 = .ok (.aload_n 0, 1) := by decide +kernel
theorem dX11_years_133 : decode cX11_years 133 = .ok (.getfield 271, 3) := by decide +kernel
theorem dX11_years_136 : decode cX11_years 136 = .ok (.invokevirtual 256, 3) := by decide +kernel
theorem dX11_years_139 : decode cX11_years 139 = .ok (.ireturn, 1) := by decide +kernel
theorem dX11_told_0 : decode cX11_told 0 = .ok (.iload_n 1, 1) := by decide +kernel
theorem dX11_told_1 : decode cX11_told 1 = .ok (.ifCond .lt 8, 3) := by decide +kernel
theorem dX11_told_4 : decode cX11_told 4 = .ok (.iload_n 1, 1) := by decide +kernel
theorem dX11_told_5 : decode cX11_told 5 = .ok (.iconst 3, 1) := by decide +kernel
theorem dX11_told_6 : decode cX11_told 6 = .ok (.if_icmp .le 11, 3) := by decide +kernel
theorem dX11_told_9 : decode cX11_told 9 = .ok (.aload_n 0, 1) := by decide +kernel
theorem dX11_told_10 : decode cX11_told 10 = .ok (.iconst 1, 1) := by decide +kernel
theorem dX11_told_11 : decode cX11_told 11 = .ok (.invokevirtual 102, 3) := by decide +kernel
theorem dX11_told_14 : decode cX11_told 14 = .ok (.goto 13, 3) := by decide +kernel
theorem dX11_told_17 : decode cX11_told 17 = .ok (.aload_n 0, 1) := by decide +kernel
theorem dX11_told_18 : decode cX11_told 18 = .ok (.aload_n 0, 1) := by decide +kernel
theorem dX11_told_19 : decode cX11_told 19 = .ok (.getfield 7, 3) := by decide +kernel
theorem dX11_told_22 : decode cX11_told 22 = .ok (.iload_n 1, 1) := by decide +kernel
theorem dX11_told_23 : decode cX11_told 23 = .ok (.iaload, 1) := by decide +kernel
theorem dX11_told_24 : decode cX11_told 24 = .ok (.invokevirtual 106, 3) := by decide +kernel
theorem dX11_told_27 : decode cX11_told 27 = .ok (.ireturn, 1) := by decide +kernel
theorem dX11_isRock_0 : decode cX11_isRock 0 = .ok (.lload_n 1, 1) := by decide +kernel
theorem dX11_isRock_1 : decode cX11_isRock 1 = .ok (.lconst 0, 1) := by decide +kernel
theorem dX11_isRock_2 : decode cX11_isRock 2 = .ok (.lcmp, 1) := by decide +kernel
theorem dX11_isRock_3 : decode cX11_isRock 3 = .ok (.ifCond .lt 19, 3) := by decide +kernel
theorem dX11_isRock_6 : decode cX11_isRock 6 = .ok (.lload_n 1, 1) := by decide +kernel
theorem dX11_isRock_7 : decode cX11_isRock 7 = .ok (.aload_n 0, 1) := by decide +kernel
theorem dX11_isRock_8 : decode cX11_isRock 8 = .ok (.getfield 7, 3) := by decide +kernel
theorem dX11_isRock_11 : decode cX11_isRock 11 = .ok (.iconst 0, 1) := by decide +kernel
theorem dX11_isRock_12 : decode cX11_isRock 12 = .ok (.iaload, 1) := by decide +kernel
theorem dX11_isRock_13 : decode cX11_isRock 13 = .ok (.i2l, 1) := by decide +kernel
theorem dX11_isRock_14 : decode cX11_isRock 14 = .ok (.lcmp, 1) := by decide +kernel
theorem dX11_isRock_15 : decode cX11_isRock 15 = .ok (.ifCond .ge 7, 3) := by decide +kernel
theorem dX11_isRock_18 : decode cX11_isRock 18 = .ok (.iconst 1, 1) := by decide +kernel
theorem dX11_isRock_19 : decode cX11_isRock 19 = .ok (.goto 4, 3) := by decide +kernel
theorem dX11_isRock_22 : decode cX11_isRock 22 = .ok (.iconst 0, 1) := by decide +kernel
theorem dX11_isRock_23 : decode cX11_isRock 23 = .ok (.ireturn, 1) := by decide +kernel
theorem dX11_skip_0 : decode cX11_skip 0 = .ok (.aload_n 0, 1) := by decide +kernel
theorem dX11_skip_1 : decode cX11_skip 1 = .ok (.iload_n 1, 1) := by decide +kernel
theorem dX11_skip_2 : decode cX11_skip 2 = .ok (.i2l, 1) := by decide +kernel
theorem dX11_skip_3 : decode cX11_skip 3 = .ok (.invokevirtual 283, 3) := by decide +kernel
theorem dX11_skip_6 : decode cX11_skip 6 = .ok (.ifCond .eq 19, 3) := by decide +kernel
theorem dX11_skip_9 : decode cX11_skip 9 = .ok (.aload_n 0, 1) := by decide +kernel
theorem dX11_skip_10 : decode cX11_skip 10 = .ok (.aload_n 0, 1) := by decide +kernel
theorem dX11_skip_11 : decode cX11_skip 11 = .ok (.getfield 7, 3) := by decide +kernel
theorem dX11_skip_14 : decode cX11_skip 14 = .ok (.bipush 10, 2) := by decide +kernel
theorem dX11_skip_16 : decode cX11_skip 16 = .ok (.iload_n 1, 1) := by decide +kernel
theorem dX11_skip_17 : decode cX11_skip 17 = .ok (.iadd, 1) := by decide +kernel
theorem dX11_skip_18 : decode cX11_skip 18 = .ok (.iaload, 1) := by decide +kernel
theorem dX11_skip_19 : decode cX11_skip 19 = .ok (.invokevirtual 106, 3) := by decide +kernel
theorem dX11_skip_22 : decode cX11_skip 22 = .ok (.goto 8, 3) := by decide +kernel
theorem dX11_skip_25 : decode cX11_skip 25 = .ok (.aload_n 0, 1) := by decide +kernel
theorem dX11_skip_26 : decode cX11_skip 26 = .ok (.iconst 1, 1) := by decide +kernel
theorem dX11_skip_27 : decode cX11_skip 27 = .ok (.invokevirtual 102, 3) := by decide +kernel
theorem dX11_skip_30 : decode cX11_skip 30 = .ok (.ireturn, 1) := by decide +kernel
theorem dX11_unlikeOf_0 : decode cX11_unlikeOf 0 = .ok (.iload_n 1, 1) := by decide +kernel
theorem dX11_unlikeOf_1 : decode cX11_unlikeOf 1 = .ok (.iload_n 2, 1) := by decide +kernel
theorem dX11_unlikeOf_2 : decode cX11_unlikeOf 2 = .ok (.if_icmp .ne 7, 3) := by decide +kernel
theorem dX11_unlikeOf_5 : decode cX11_unlikeOf 5 = .ok (.iconst 0, 1) := by decide +kernel
theorem dX11_unlikeOf_6 : decode cX11_unlikeOf 6 = .ok (.goto 17, 3) := by decide +kernel
theorem dX11_unlikeOf_9 : decode cX11_unlikeOf 9 = .ok (.aload_n 0, 1) := by decide +kernel
theorem dX11_unlikeOf_10 : decode cX11_unlikeOf 10 = .ok (.getfield 7, 3) := by decide +kernel
theorem dX11_unlikeOf_13 : decode cX11_unlikeOf 13 = .ok (.bipush 18, 2) := by decide +kernel
theorem dX11_unlikeOf_15 : decode cX11_unlikeOf 15 = .ok (.bipush 8, 2) := by decide +kernel
theorem dX11_unlikeOf_17 : decode cX11_unlikeOf 17 = .ok (.iload_n 1, 1) := by decide +kernel
theorem dX11_unlikeOf_18 : decode cX11_unlikeOf 18 = .ok (.imul, 1) := by decide +kernel
theorem dX11_unlikeOf_19 : decode cX11_unlikeOf 19 = .ok (.iadd, 1) := by decide +kernel
theorem dX11_unlikeOf_20 : decode cX11_unlikeOf 20 = .ok (.iload_n 2, 1) := by decide +kernel
theorem dX11_unlikeOf_21 : decode cX11_unlikeOf 21 = .ok (.iadd, 1) := by decide +kernel
theorem dX11_unlikeOf_22 : decode cX11_unlikeOf 22 = .ok (.iaload, 1) := by decide +kernel
theorem dX11_unlikeOf_23 : decode cX11_unlikeOf 23 = .ok (.ireturn, 1) := by decide +kernel
theorem dX11_unlike_0 : decode cX11_unlike 0 = .ok (.aload_n 0, 1) := by decide +kernel
theorem dX11_unlike_1 : decode cX11_unlike 1 = .ok (.iload_n 1, 1) := by decide +kernel
theorem dX11_unlike_2 : decode cX11_unlike 2 = .ok (.i2l, 1) := by decide +kernel
theorem dX11_unlike_3 : decode cX11_unlike 3 = .ok (.invokevirtual 283, 3) := by decide +kernel
theorem dX11_unlike_6 : decode cX11_unlike 6 = .ok (.ifCond .eq 25, 3) := by decide +kernel
theorem dX11_unlike_9 : decode cX11_unlike 9 = .ok (.aload_n 0, 1) := by decide +kernel
theorem dX11_unlike_10 : decode cX11_unlike 10 = .ok (.iload_n 2, 1) := by decide +kernel
theorem dX11_unlike_11 : decode cX11_unlike 11 = .ok (.i2l, 1) := by decide +kernel
theorem dX11_unlike_12 : decode cX11_unlike 12 = .ok (.invokevirtual 283, 3) := by decide +kernel
theorem dX11_unlike_15 : decode cX11_unlike 15 = .ok (.ifCond .eq 16, 3) := by decide +kernel
theorem dX11_unlike_18 : decode cX11_unlike 18 = .ok (.aload_n 0, 1) := by decide +kernel
theorem dX11_unlike_19 : decode cX11_unlike 19 = .ok (.aload_n 0, 1) := by decide +kernel
theorem dX11_unlike_20 : decode cX11_unlike 20 = .ok (.iload_n 1, 1) := by decide +kernel
theorem dX11_unlike_21 : decode cX11_unlike 21 = .ok (.iload_n 2, 1) := by decide +kernel
theorem dX11_unlike_22 : decode cX11_unlike 22 = .ok (.invokevirtual 287, 3) := by decide +kernel
theorem dX11_unlike_25 : decode cX11_unlike 25 = .ok (.invokevirtual 106, 3) := by decide +kernel
theorem dX11_unlike_28 : decode cX11_unlike 28 = .ok (.goto 8, 3) := by decide +kernel
theorem dX11_unlike_31 : decode cX11_unlike 31 = .ok (.aload_n 0, 1) := by decide +kernel
theorem dX11_unlike_32 : decode cX11_unlike 32 = .ok (.iconst 1, 1) := by decide +kernel
theorem dX11_unlike_33 : decode cX11_unlike 33 = .ok (.invokevirtual 102, 3) := by decide +kernel
theorem dX11_unlike_36 : decode cX11_unlike 36 = .ok (.ireturn, 1) := by decide +kernel
theorem dX11_isHole_0 : decode cX11_isHole 0 = .ok (.iload_n 1, 1) := by decide +kernel
theorem dX11_isHole_1 : decode cX11_isHole 1 = .ok (.ifCond .lt 17, 3) := by decide +kernel
theorem dX11_isHole_4 : decode cX11_isHole 4 = .ok (.iload_n 1, 1) := by decide +kernel
theorem dX11_isHole_5 : decode cX11_isHole 5 = .ok (.aload_n 0, 1) := by decide +kernel
theorem dX11_isHole_6 : decode cX11_isHole 6 = .ok (.getfield 7, 3) := by decide +kernel
theorem dX11_isHole_9 : decode cX11_isHole 9 = .ok (.iconst 1, 1) := by decide +kernel
theorem dX11_isHole_10 : decode cX11_isHole 10 = .ok (.iaload, 1) := by decide +kernel
theorem dX11_isHole_11 : decode cX11_isHole 11 = .ok (.if_icmp .ge 7, 3) := by decide +kernel
theorem dX11_isHole_14 : decode cX11_isHole 14 = .ok (.iconst 1, 1) := by decide +kernel
theorem dX11_isHole_15 : decode cX11_isHole 15 = .ok (.goto 4, 3) := by decide +kernel
theorem dX11_isHole_18 : decode cX11_isHole 18 = .ok (.iconst 0, 1) := by decide +kernel
theorem dX11_isHole_19 : decode cX11_isHole 19 = .ok (.ireturn, 1) := by decide +kernel
theorem dX11_holeRow_0 : decode cX11_holeRow 0 = .ok (.bipush 82, 2) := by decide +kernel
theorem dX11_holeRow_2 : decode cX11_holeRow 2 = .ok (.bipush 27, 2) := by decide +kernel
theorem dX11_holeRow_4 : decode cX11_holeRow 4 = .ok (.iload_n 0, 1) := by decide +kernel
theorem dX11_holeRow_5 : decode cX11_holeRow 5 = .ok (.imul, 1) := by decide +kernel
theorem dX11_holeRow_6 : decode cX11_holeRow 6 = .ok (.iadd, 1) := by decide +kernel
theorem dX11_holeRow_7 : decode cX11_holeRow 7 = .ok (.ireturn, 1) := by decide +kernel
theorem dX11_layersOf_0 : decode cX11_layersOf 0 = .ok (.aload_n 0, 1) := by decide +kernel
theorem dX11_layersOf_1 : decode cX11_layersOf 1 = .ok (.getfield 7, 3) := by decide +kernel
theorem dX11_layersOf_4 : decode cX11_layersOf 4 = .ok (.iload_n 1, 1) := by decide +kernel
theorem dX11_layersOf_5 : decode cX11_layersOf 5 = .ok (.invokestatic 280, 3) := by decide +kernel
theorem dX11_layersOf_8 : decode cX11_layersOf 8 = .ok (.iconst 2, 1) := by decide +kernel
theorem dX11_layersOf_9 : decode cX11_layersOf 9 = .ok (.iadd, 1) := by decide +kernel
theorem dX11_layersOf_10 : decode cX11_layersOf 10 = .ok (.iaload, 1) := by decide +kernel
theorem dX11_layersOf_11 : decode cX11_layersOf 11 = .ok (.ireturn, 1) := by decide +kernel
theorem dX11_thickOf_0 : decode cX11_thickOf 0 = .ok (.aload_n 0, 1) := by decide +kernel
theorem dX11_thickOf_1 : decode cX11_thickOf 1 = .ok (.getfield 7, 3) := by decide +kernel
theorem dX11_thickOf_4 : decode cX11_thickOf 4 = .ok (.iload_n 1, 1) := by decide +kernel
theorem dX11_thickOf_5 : decode cX11_thickOf 5 = .ok (.invokestatic 280, 3) := by decide +kernel
theorem dX11_thickOf_8 : decode cX11_thickOf 8 = .ok (.iconst 3, 1) := by decide +kernel
theorem dX11_thickOf_9 : decode cX11_thickOf 9 = .ok (.iadd, 1) := by decide +kernel
theorem dX11_thickOf_10 : decode cX11_thickOf 10 = .ok (.iconst 2, 1) := by decide +kernel
theorem dX11_thickOf_11 : decode cX11_thickOf 11 = .ok (.iload_n 2, 1) := by decide +kernel
theorem dX11_thickOf_12 : decode cX11_thickOf 12 = .ok (.imul, 1) := by decide +kernel
theorem dX11_thickOf_13 : decode cX11_thickOf 13 = .ok (.iadd, 1) := by decide +kernel
theorem dX11_thickOf_14 : decode cX11_thickOf 14 = .ok (.iconst 1, 1) := by decide +kernel
theorem dX11_thickOf_15 : decode cX11_thickOf 15 = .ok (.iadd, 1) := by decide +kernel
theorem dX11_thickOf_16 : decode cX11_thickOf 16 = .ok (.iaload, 1) := by decide +kernel
theorem dX11_thickOf_17 : decode cX11_thickOf 17 = .ok (.ireturn, 1) := by decide +kernel
theorem dX11_allThick_0 : decode cX11_allThick 0 = .ok (.iconst 0, 1) := by decide +kernel
theorem dX11_allThick_1 : decode cX11_allThick 1 = .ok (.istore_n 3, 1) := by decide +kernel
theorem dX11_allThick_2 : decode cX11_allThick 2 = .ok (.iconst 0, 1) := by decide +kernel
theorem dX11_allThick_3 : decode cX11_allThick 3 = .ok (.istore 4, 2) := by decide +kernel
theorem dX11_allThick_5 : decode cX11_allThick 5 = .ok (.iload 4, 2) := by decide +kernel
theorem dX11_allThick_7 : decode cX11_allThick 7 = .ok (.iload_n 2, 1) := by decide +kernel
theorem dX11_allThick_8 : decode cX11_allThick 8 = .ok (.if_icmp .ge 19, 3) := by decide +kernel
theorem dX11_allThick_11 : decode cX11_allThick 11 = .ok (.iload_n 3, 1) := by decide +kernel
theorem dX11_allThick_12 : decode cX11_allThick 12 = .ok (.aload_n 0, 1) := by decide +kernel
theorem dX11_allThick_13 : decode cX11_allThick 13 = .ok (.iload_n 1, 1) := by decide +kernel
theorem dX11_allThick_14 : decode cX11_allThick 14 = .ok (.iload 4, 2) := by decide +kernel
theorem dX11_allThick_16 : decode cX11_allThick 16 = .ok (.invokevirtual 290, 3) := by decide +kernel
theorem dX11_allThick_19 : decode cX11_allThick 19 = .ok (.iadd, 1) := by decide +kernel
theorem dX11_allThick_20 : decode cX11_allThick 20 = .ok (.istore_n 3, 1) := by decide +kernel
theorem dX11_allThick_21 : decode cX11_allThick 21 = .ok (.iinc 4 1, 3) := by decide +kernel
theorem dX11_allThick_24 : decode cX11_allThick 24 = .ok (.goto (-19), 3) := by decide +kernel
theorem dX11_allThick_27 : decode cX11_allThick 27 = .ok (.iload_n 3, 1) := by decide +kernel
theorem dX11_allThick_28 : decode cX11_allThick 28 = .ok (.ireturn, 1) := by decide +kernel
theorem dX11_isRight_0 : decode cX11_isRight 0 = .ok (.sipush 268, 3) := by decide +kernel
theorem dX11_isRight_3 : decode cX11_isRight 3 = .ok (.iconst 5, 1) := by decide +kernel
theorem dX11_isRight_4 : decode cX11_isRight 4 = .ok (.iload_n 1, 1) := by decide +kernel
theorem dX11_isRight_5 : decode cX11_isRight 5 = .ok (.imul, 1) := by decide +kernel
theorem dX11_isRight_6 : decode cX11_isRight 6 = .ok (.iadd, 1) := by decide +kernel
theorem dX11_isRight_7 : decode cX11_isRight 7 = .ok (.istore_n 3, 1) := by decide +kernel
theorem dX11_isRight_8 : decode cX11_isRight 8 = .ok (.aload_n 0, 1) := by decide +kernel
theorem dX11_isRight_9 : decode cX11_isRight 9 = .ok (.getfield 7, 3) := by decide +kernel
theorem dX11_isRight_12 : decode cX11_isRight 12 = .ok (.iload_n 3, 1) := by decide +kernel
theorem dX11_isRight_13 : decode cX11_isRight 13 = .ok (.iaload, 1) := by decide +kernel
theorem dX11_isRight_14 : decode cX11_isRight 14 = .ok (.aload_n 0, 1) := by decide +kernel
theorem dX11_isRight_15 : decode cX11_isRight 15 = .ok (.getfield 7, 3) := by decide +kernel
theorem dX11_isRight_18 : decode cX11_isRight 18 = .ok (.iload_n 3, 1) := by decide +kernel
theorem dX11_isRight_19 : decode cX11_isRight 19 = .ok (.iconst 1, 1) := by decide +kernel
theorem dX11_isRight_20 : decode cX11_isRight 20 = .ok (.iadd, 1) := by decide +kernel
theorem dX11_isRight_21 : decode cX11_isRight 21 = .ok (.iaload, 1) := by decide +kernel
theorem dX11_isRight_22 : decode cX11_isRight 22 = .ok (.aload_n 0, 1) := by decide +kernel
theorem dX11_isRight_23 : decode cX11_isRight 23 = .ok (.getfield 7, 3) := by decide +kernel
theorem dX11_isRight_26 : decode cX11_isRight 26 = .ok (.iload_n 3, 1) := by decide +kernel
theorem dX11_isRight_27 : decode cX11_isRight 27 = .ok (.iconst 2, 1) := by decide +kernel
theorem dX11_isRight_28 : decode cX11_isRight 28 = .ok (.iadd, 1) := by decide +kernel
theorem dX11_isRight_29 : decode cX11_isRight 29 = .ok (.iaload, 1) := by decide +kernel
theorem dX11_isRight_30 : decode cX11_isRight 30 = .ok (.aload_n 0, 1) := by decide +kernel
theorem dX11_isRight_31 : decode cX11_isRight 31 = .ok (.getfield 7, 3) := by decide +kernel
theorem dX11_isRight_34 : decode cX11_isRight 34 = .ok (.iload_n 3, 1) := by decide +kernel
theorem dX11_isRight_35 : decode cX11_isRight 35 = .ok (.iconst 3, 1) := by decide +kernel
theorem dX11_isRight_36 : decode cX11_isRight 36 = .ok (.iadd, 1) := by decide +kernel
theorem dX11_isRight_37 : decode cX11_isRight 37 = .ok (.iaload, 1) := by decide +kernel
theorem dX11_isRight_38 : decode cX11_isRight 38 = .ok (.aload_n 0, 1) := by decide +kernel
theorem dX11_isRight_39 : decode cX11_isRight 39 = .ok (.getfield 7, 3) := by decide +kernel
theorem dX11_isRight_42 : decode cX11_isRight 42 = .ok (.iload_n 2, 1) := by decide +kernel
theorem dX11_isRight_43 : decode cX11_isRight 43 = .ok (.invokestatic 280, 3) := by decide +kernel
theorem dX11_isRight_46 : decode cX11_isRight 46 = .ok (.iaload, 1) := by decide +kernel
theorem dX11_isRight_47 : decode cX11_isRight 47 = .ok (.aload_n 0, 1) := by decide +kernel
theorem dX11_isRight_48 : decode cX11_isRight 48 = .ok (.getfield 7, 3) := by decide +kernel
theorem dX11_isRight_51 : decode cX11_isRight 51 = .ok (.iload_n 2, 1) := by decide +kernel
theorem dX11_isRight_52 : decode cX11_isRight 52 = .ok (.invokestatic 280, 3) := by decide +kernel
theorem dX11_isRight_55 : decode cX11_isRight 55 = .ok (.iconst 1, 1) := by decide +kernel
theorem dX11_isRight_56 : decode cX11_isRight 56 = .ok (.iadd, 1) := by decide +kernel
theorem dX11_isRight_57 : decode cX11_isRight 57 = .ok (.iaload, 1) := by decide +kernel
theorem dX11_isRight_58 : decode cX11_isRight 58 = .ok (.invokestatic 222, 3) := by decide +kernel
theorem dX11_isRight_61 : decode cX11_isRight 61 = .ok (.lconst 0, 1) := by decide +kernel
theorem dX11_isRight_62 : decode cX11_isRight 62 = .ok (.lcmp, 1) := by decide +kernel
theorem dX11_isRight_63 : decode cX11_isRight 63 = .ok (.ifCond .ge 7, 3) := by decide +kernel
theorem dX11_isRight_66 : decode cX11_isRight 66 = .ok (.iconst 1, 1) := by decide +kernel
theorem dX11_isRight_67 : decode cX11_isRight 67 = .ok (.goto 4, 3) := by decide +kernel
theorem dX11_isRight_70 : decode cX11_isRight 70 = .ok (.iconst 0, 1) := by decide +kernel
theorem dX11_isRight_71 : decode cX11_isRight 71 = .ok (.ireturn, 1) := by decide +kernel
theorem dX11_thrown_0 : decode cX11_thrown 0 = .ok (.iconst 0, 1) := by decide +kernel
theorem dX11_thrown_1 : decode cX11_thrown 1 = .ok (.istore_n 2, 1) := by decide +kernel
theorem dX11_thrown_2 : decode cX11_thrown 2 = .ok (.iconst 0, 1) := by decide +kernel
theorem dX11_thrown_3 : decode cX11_thrown 3 = .ok (.istore_n 3, 1) := by decide +kernel
theorem dX11_thrown_4 : decode cX11_thrown 4 = .ok (.iload_n 3, 1) := by decide +kernel
theorem dX11_thrown_5 : decode cX11_thrown 5 = .ok (.aload_n 0, 1) := by decide +kernel
theorem dX11_thrown_6 : decode cX11_thrown 6 = .ok (.getfield 7, 3) := by decide +kernel
theorem dX11_thrown_9 : decode cX11_thrown 9 = .ok (.iconst 3, 1) := by decide +kernel
theorem dX11_thrown_10 : decode cX11_thrown 10 = .ok (.iaload, 1) := by decide +kernel
theorem dX11_thrown_11 : decode cX11_thrown 11 = .ok (.if_icmp .ge 39, 3) := by decide +kernel
theorem dX11_thrown_14 : decode cX11_thrown 14 = .ok (.iload_n 2, 1) := by decide +kernel
theorem dX11_thrown_15 : decode cX11_thrown 15 = .ok (.aload_n 0, 1) := by decide +kernel
theorem dX11_thrown_16 : decode cX11_thrown 16 = .ok (.iload_n 3, 1) := by decide +kernel
theorem dX11_thrown_17 : decode cX11_thrown 17 = .ok (.iload_n 1, 1) := by decide +kernel
theorem dX11_thrown_18 : decode cX11_thrown 18 = .ok (.invokevirtual 293, 3) := by decide +kernel
theorem dX11_thrown_21 : decode cX11_thrown 21 = .ok (.ifCond .eq 20, 3) := by decide +kernel
theorem dX11_thrown_24 : decode cX11_thrown 24 = .ok (.aload_n 0, 1) := by decide +kernel
theorem dX11_thrown_25 : decode cX11_thrown 25 = .ok (.getfield 7, 3) := by decide +kernel
theorem dX11_thrown_28 : decode cX11_thrown 28 = .ok (.sipush 268, 3) := by decide +kernel
theorem dX11_thrown_31 : decode cX11_thrown 31 = .ok (.iconst 5, 1) := by decide +kernel
theorem dX11_thrown_32 : decode cX11_thrown 32 = .ok (.iload_n 3, 1) := by decide +kernel
theorem dX11_thrown_33 : decode cX11_thrown 33 = .ok (.imul, 1) := by decide +kernel
theorem dX11_thrown_34 : decode cX11_thrown 34 = .ok (.iadd, 1) := by decide +kernel
theorem dX11_thrown_35 : decode cX11_thrown 35 = .ok (.iconst 4, 1) := by decide +kernel
theorem dX11_thrown_36 : decode cX11_thrown 36 = .ok (.iadd, 1) := by decide +kernel
theorem dX11_thrown_37 : decode cX11_thrown 37 = .ok (.iaload, 1) := by decide +kernel
theorem dX11_thrown_38 : decode cX11_thrown 38 = .ok (.goto 4, 3) := by decide +kernel
theorem dX11_thrown_41 : decode cX11_thrown 41 = .ok (.iconst 0, 1) := by decide +kernel
theorem dX11_thrown_42 : decode cX11_thrown 42 = .ok (.iadd, 1) := by decide +kernel
theorem dX11_thrown_43 : decode cX11_thrown 43 = .ok (.istore_n 2, 1) := by decide +kernel
theorem dX11_thrown_44 : decode cX11_thrown 44 = .ok (.iinc 3 1, 3) := by decide +kernel
theorem dX11_thrown_47 : decode cX11_thrown 47 = .ok (.goto (-43), 3) := by decide +kernel
theorem dX11_thrown_50 : decode cX11_thrown 50 = .ok (.iload_n 2, 1) := by decide +kernel
theorem dX11_thrown_51 : decode cX11_thrown 51 = .ok (.ireturn, 1) := by decide +kernel
theorem dX11_hole_0 : decode cX11_hole 0 = .ok (.aload_n 0, 1) := by decide +kernel
theorem dX11_hole_1 : decode cX11_hole 1 = .ok (.iload_n 1, 1) := by decide +kernel
theorem dX11_hole_2 : decode cX11_hole 2 = .ok (.invokevirtual 302, 3) := by decide +kernel
theorem dX11_hole_5 : decode cX11_hole 5 = .ok (.ifCond .eq 12, 3) := by decide +kernel
theorem dX11_hole_8 : decode cX11_hole 8 = .ok (.iload_n 2, 1) := by decide +kernel
theorem dX11_hole_9 : decode cX11_hole 9 = .ok (.ifCond .lt 8, 3) := by decide +kernel
theorem dX11_hole_12 : decode cX11_hole 12 = .ok (.iload_n 2, 1) := by decide +kernel
theorem dX11_hole_13 : decode cX11_hole 13 = .ok (.iconst 4, 1) := by decide +kernel
theorem dX11_hole_14 : decode cX11_hole 14 = .ok (.if_icmp .le 9, 3) := by decide +kernel
theorem dX11_hole_17 : decode cX11_hole 17 = .ok (.aload_n 0, 1) := by decide +kernel
theorem dX11_hole_18 : decode cX11_hole 18 = .ok (.iconst 1, 1) := by decide +kernel
theorem dX11_hole_19 : decode cX11_hole 19 = .ok (.invokevirtual 102, 3) := by decide +kernel
theorem dX11_hole_22 : decode cX11_hole 22 = .ok (.ireturn, 1) := by decide +kernel
theorem dX11_hole_23 : decode cX11_hole 23 = .ok (.aload_n 0, 1) := by decide +kernel
theorem dX11_hole_24 : decode cX11_hole 24 = .ok (.iload_n 2, 1) := by decide +kernel
theorem dX11_hole_25 : decode cX11_hole 25 = .ok (.iconst 3, 1) := by decide +kernel
theorem dX11_hole_26 : decode cX11_hole 26 = .ok (.if_icmp .ne 16, 3) := by decide +kernel
theorem dX11_hole_29 : decode cX11_hole 29 = .ok (.aload_n 0, 1) := by decide +kernel
theorem dX11_hole_30 : decode cX11_hole 30 = .ok (.iload_n 1, 1) := by decide +kernel
theorem dX11_hole_31 : decode cX11_hole 31 = .ok (.aload_n 0, 1) := by decide +kernel
theorem dX11_hole_32 : decode cX11_hole 32 = .ok (.iload_n 1, 1) := by decide +kernel
theorem dX11_hole_33 : decode cX11_hole 33 = .ok (.invokevirtual 305, 3) := by decide +kernel
theorem dX11_hole_36 : decode cX11_hole 36 = .ok (.invokevirtual 299, 3) := by decide +kernel
theorem dX11_hole_39 : decode cX11_hole 39 = .ok (.goto 27, 3) := by decide +kernel
theorem dX11_hole_42 : decode cX11_hole 42 = .ok (.iload_n 2, 1) := by decide +kernel
theorem dX11_hole_43 : decode cX11_hole 43 = .ok (.iconst 4, 1) := by decide +kernel
theorem dX11_hole_44 : decode cX11_hole 44 = .ok (.if_icmp .ne 11, 3) := by decide +kernel
theorem dX11_hole_47 : decode cX11_hole 47 = .ok (.aload_n 0, 1) := by decide +kernel
theorem dX11_hole_48 : decode cX11_hole 48 = .ok (.iload_n 1, 1) := by decide +kernel
theorem dX11_hole_49 : decode cX11_hole 49 = .ok (.invokevirtual 296, 3) := by decide +kernel
theorem dX11_hole_52 : decode cX11_hole 52 = .ok (.goto 14, 3) := by decide +kernel
theorem dX11_hole_55 : decode cX11_hole 55 = .ok (.aload_n 0, 1) := by decide +kernel
theorem dX11_hole_56 : decode cX11_hole 56 = .ok (.getfield 7, 3) := by decide +kernel
theorem dX11_hole_59 : decode cX11_hole 59 = .ok (.iload_n 1, 1) := by decide +kernel
theorem dX11_hole_60 : decode cX11_hole 60 = .ok (.invokestatic 280, 3) := by decide +kernel
theorem dX11_hole_63 : decode cX11_hole 63 = .ok (.iload_n 2, 1) := by decide +kernel
theorem dX11_hole_64 : decode cX11_hole 64 = .ok (.iadd, 1) := by decide +kernel
theorem dX11_hole_65 : decode cX11_hole 65 = .ok (.iaload, 1) := by decide +kernel
theorem dX11_hole_66 : decode cX11_hole 66 = .ok (.invokevirtual 106, 3) := by decide +kernel
theorem dX11_hole_69 : decode cX11_hole 69 = .ok (.ireturn, 1) := by decide +kernel
theorem dX11_isLayer_0 : decode cX11_isLayer 0 = .ok (.aload_n 0, 1) := by decide +kernel
theorem dX11_isLayer_1 : decode cX11_isLayer 1 = .ok (.iload_n 1, 1) := by decide +kernel
theorem dX11_isLayer_2 : decode cX11_isLayer 2 = .ok (.invokevirtual 302, 3) := by decide +kernel
theorem dX11_isLayer_5 : decode cX11_isLayer 5 = .ok (.ifCond .eq 20, 3) := by decide +kernel
theorem dX11_isLayer_8 : decode cX11_isLayer 8 = .ok (.iload_n 2, 1) := by decide +kernel
theorem dX11_isLayer_9 : decode cX11_isLayer 9 = .ok (.ifCond .lt 16, 3) := by decide +kernel
theorem dX11_isLayer_12 : decode cX11_isLayer 12 = .ok (.iload_n 2, 1) := by decide +kernel
theorem dX11_isLayer_13 : decode cX11_isLayer 13 = .ok (.aload_n 0, 1) := by decide +kernel
theorem dX11_isLayer_14 : decode cX11_isLayer 14 = .ok (.iload_n 1, 1) := by decide +kernel
theorem dX11_isLayer_15 : decode cX11_isLayer 15 = .ok (.invokevirtual 305, 3) := by decide +kernel
theorem dX11_isLayer_18 : decode cX11_isLayer 18 = .ok (.if_icmp .ge 7, 3) := by decide +kernel
theorem dX11_isLayer_21 : decode cX11_isLayer 21 = .ok (.iconst 1, 1) := by decide +kernel
theorem dX11_isLayer_22 : decode cX11_isLayer 22 = .ok (.goto 4, 3) := by decide +kernel
theorem dX11_isLayer_25 : decode cX11_isLayer 25 = .ok (.iconst 0, 1) := by decide +kernel
theorem dX11_isLayer_26 : decode cX11_isLayer 26 = .ok (.ireturn, 1) := by decide +kernel
theorem dX11_rockOf_0 : decode cX11_rockOf 0 = .ok (.aload_n 0, 1) := by decide +kernel
theorem dX11_rockOf_1 : decode cX11_rockOf 1 = .ok (.getfield 7, 3) := by decide +kernel
theorem dX11_rockOf_4 : decode cX11_rockOf 4 = .ok (.iload_n 1, 1) := by decide +kernel
theorem dX11_rockOf_5 : decode cX11_rockOf 5 = .ok (.invokestatic 280, 3) := by decide +kernel
theorem dX11_rockOf_8 : decode cX11_rockOf 8 = .ok (.iconst 3, 1) := by decide +kernel
theorem dX11_rockOf_9 : decode cX11_rockOf 9 = .ok (.iadd, 1) := by decide +kernel
theorem dX11_rockOf_10 : decode cX11_rockOf 10 = .ok (.iconst 2, 1) := by decide +kernel
theorem dX11_rockOf_11 : decode cX11_rockOf 11 = .ok (.iload_n 2, 1) := by decide +kernel
theorem dX11_rockOf_12 : decode cX11_rockOf 12 = .ok (.imul, 1) := by decide +kernel
theorem dX11_rockOf_13 : decode cX11_rockOf 13 = .ok (.iadd, 1) := by decide +kernel
theorem dX11_rockOf_14 : decode cX11_rockOf 14 = .ok (.iaload, 1) := by decide +kernel
theorem dX11_rockOf_15 : decode cX11_rockOf 15 = .ok (.ireturn, 1) := by decide +kernel
theorem dX11_depthOf_0 : decode cX11_depthOf 0 = .ok (.aload_n 0, 1) := by decide +kernel
theorem dX11_depthOf_1 : decode cX11_depthOf 1 = .ok (.iload_n 1, 1) := by decide +kernel
theorem dX11_depthOf_2 : decode cX11_depthOf 2 = .ok (.invokevirtual 296, 3) := by decide +kernel
theorem dX11_depthOf_5 : decode cX11_depthOf 5 = .ok (.aload_n 0, 1) := by decide +kernel
theorem dX11_depthOf_6 : decode cX11_depthOf 6 = .ok (.iload_n 1, 1) := by decide +kernel
theorem dX11_depthOf_7 : decode cX11_depthOf 7 = .ok (.iload_n 2, 1) := by decide +kernel
theorem dX11_depthOf_8 : decode cX11_depthOf 8 = .ok (.invokevirtual 299, 3) := by decide +kernel
theorem dX11_depthOf_11 : decode cX11_depthOf 11 = .ok (.iadd, 1) := by decide +kernel
theorem dX11_depthOf_12 : decode cX11_depthOf 12 = .ok (.ireturn, 1) := by decide +kernel
theorem dX11_layer_0 : decode cX11_layer 0 = .ok (.aload_n 0, 1) := by decide +kernel
theorem dX11_layer_1 : decode cX11_layer 1 = .ok (.iload_n 1, 1) := by decide +kernel
theorem dX11_layer_2 : decode cX11_layer 2 = .ok (.iload_n 2, 1) := by decide +kernel
theorem dX11_layer_3 : decode cX11_layer 3 = .ok (.invokevirtual 308, 3) := by decide +kernel
theorem dX11_layer_6 : decode cX11_layer 6 = .ok (.ifCond .eq 12, 3) := by decide +kernel
theorem dX11_layer_9 : decode cX11_layer 9 = .ok (.iload_n 3, 1) := by decide +kernel
theorem dX11_layer_10 : decode cX11_layer 10 = .ok (.ifCond .lt 8, 3) := by decide +kernel
theorem dX11_layer_13 : decode cX11_layer 13 = .ok (.iload_n 3, 1) := by decide +kernel
theorem dX11_layer_14 : decode cX11_layer 14 = .ok (.iconst 2, 1) := by decide +kernel
theorem dX11_layer_15 : decode cX11_layer 15 = .ok (.if_icmp .le 9, 3) := by decide +kernel
theorem dX11_layer_18 : decode cX11_layer 18 = .ok (.aload_n 0, 1) := by decide +kernel
theorem dX11_layer_19 : decode cX11_layer 19 = .ok (.iconst 1, 1) := by decide +kernel
theorem dX11_layer_20 : decode cX11_layer 20 = .ok (.invokevirtual 102, 3) := by decide +kernel
theorem dX11_layer_23 : decode cX11_layer 23 = .ok (.ireturn, 1) := by decide +kernel
theorem dX11_layer_24 : decode cX11_layer 24 = .ok (.aload_n 0, 1) := by decide +kernel
theorem dX11_layer_25 : decode cX11_layer 25 = .ok (.iload_n 3, 1) := by decide +kernel
theorem dX11_layer_26 : decode cX11_layer 26 = .ok (.ifCond .ne 12, 3) := by decide +kernel
theorem dX11_layer_29 : decode cX11_layer 29 = .ok (.aload_n 0, 1) := by decide +kernel
theorem dX11_layer_30 : decode cX11_layer 30 = .ok (.iload_n 1, 1) := by decide +kernel
theorem dX11_layer_31 : decode cX11_layer 31 = .ok (.iload_n 2, 1) := by decide +kernel
theorem dX11_layer_32 : decode cX11_layer 32 = .ok (.invokevirtual 311, 3) := by decide +kernel
theorem dX11_layer_35 : decode cX11_layer 35 = .ok (.goto 23, 3) := by decide +kernel
theorem dX11_layer_38 : decode cX11_layer 38 = .ok (.iload_n 3, 1) := by decide +kernel
theorem dX11_layer_39 : decode cX11_layer 39 = .ok (.iconst 1, 1) := by decide +kernel
theorem dX11_layer_40 : decode cX11_layer 40 = .ok (.if_icmp .ne 12, 3) := by decide +kernel
theorem dX11_layer_43 : decode cX11_layer 43 = .ok (.aload_n 0, 1) := by decide +kernel
theorem dX11_layer_44 : decode cX11_layer 44 = .ok (.iload_n 1, 1) := by decide +kernel
theorem dX11_layer_45 : decode cX11_layer 45 = .ok (.iload_n 2, 1) := by decide +kernel
theorem dX11_layer_46 : decode cX11_layer 46 = .ok (.invokevirtual 290, 3) := by decide +kernel
theorem dX11_layer_49 : decode cX11_layer 49 = .ok (.goto 9, 3) := by decide +kernel
theorem dX11_layer_52 : decode cX11_layer 52 = .ok (.aload_n 0, 1) := by decide +kernel
theorem dX11_layer_53 : decode cX11_layer 53 = .ok (.iload_n 1, 1) := by decide +kernel
theorem dX11_layer_54 : decode cX11_layer 54 = .ok (.iload_n 2, 1) := by decide +kernel
theorem dX11_layer_55 : decode cX11_layer 55 = .ok (.invokevirtual 314, 3) := by decide +kernel
theorem dX11_layer_58 : decode cX11_layer 58 = .ok (.invokevirtual 106, 3) := by decide +kernel
theorem dX11_layer_61 : decode cX11_layer 61 = .ok (.ireturn, 1) := by decide +kernel
theorem dX11_layerAt_0 : decode cX11_layerAt 0 = .ok (.aload_n 0, 1) := by decide +kernel
theorem dX11_layerAt_1 : decode cX11_layerAt 1 = .ok (.iload_n 1, 1) := by decide +kernel
theorem dX11_layerAt_2 : decode cX11_layerAt 2 = .ok (.invokevirtual 302, 3) := by decide +kernel
theorem dX11_layerAt_5 : decode cX11_layerAt 5 = .ok (.ifCond .eq 7, 3) := by decide +kernel
theorem dX11_layerAt_8 : decode cX11_layerAt 8 = .ok (.iload_n 2, 1) := by decide +kernel
theorem dX11_layerAt_9 : decode cX11_layerAt 9 = .ok (.ifCond .ge 9, 3) := by decide +kernel
theorem dX11_layerAt_12 : decode cX11_layerAt 12 = .ok (.aload_n 0, 1) := by decide +kernel
theorem dX11_layerAt_13 : decode cX11_layerAt 13 = .ok (.iconst 1, 1) := by decide +kernel
theorem dX11_layerAt_14 : decode cX11_layerAt 14 = .ok (.invokevirtual 102, 3) := by decide +kernel
theorem dX11_layerAt_17 : decode cX11_layerAt 17 = .ok (.ireturn, 1) := by decide +kernel
theorem dX11_layerAt_18 : decode cX11_layerAt 18 = .ok (.iconst 0, 1) := by decide +kernel
theorem dX11_layerAt_19 : decode cX11_layerAt 19 = .ok (.istore_n 3, 1) := by decide +kernel
theorem dX11_layerAt_20 : decode cX11_layerAt 20 = .ok (.iload_n 3, 1) := by decide +kernel
theorem dX11_layerAt_21 : decode cX11_layerAt 21 = .ok (.aload_n 0, 1) := by decide +kernel
theorem dX11_layerAt_22 : decode cX11_layerAt 22 = .ok (.iload_n 1, 1) := by decide +kernel
theorem dX11_layerAt_23 : decode cX11_layerAt 23 = .ok (.invokevirtual 305, 3) := by decide +kernel
theorem dX11_layerAt_26 : decode cX11_layerAt 26 = .ok (.if_icmp .ge 42, 3) := by decide +kernel
theorem dX11_layerAt_29 : decode cX11_layerAt 29 = .ok (.iload_n 2, 1) := by decide +kernel
theorem dX11_layerAt_30 : decode cX11_layerAt 30 = .ok (.aload_n 0, 1) := by decide +kernel
theorem dX11_layerAt_31 : decode cX11_layerAt 31 = .ok (.iload_n 1, 1) := by decide +kernel
theorem dX11_layerAt_32 : decode cX11_layerAt 32 = .ok (.iload_n 3, 1) := by decide +kernel
theorem dX11_layerAt_33 : decode cX11_layerAt 33 = .ok (.invokevirtual 314, 3) := by decide +kernel
theorem dX11_layerAt_36 : decode cX11_layerAt 36 = .ok (.if_icmp .lt 26, 3) := by decide +kernel
theorem dX11_layerAt_39 : decode cX11_layerAt 39 = .ok (.iload_n 2, 1) := by decide +kernel
theorem dX11_layerAt_40 : decode cX11_layerAt 40 = .ok (.aload_n 0, 1) := by decide +kernel
theorem dX11_layerAt_41 : decode cX11_layerAt 41 = .ok (.iload_n 1, 1) := by decide +kernel
theorem dX11_layerAt_42 : decode cX11_layerAt 42 = .ok (.iload_n 3, 1) := by decide +kernel
theorem dX11_layerAt_43 : decode cX11_layerAt 43 = .ok (.invokevirtual 314, 3) := by decide +kernel
theorem dX11_layerAt_46 : decode cX11_layerAt 46 = .ok (.aload_n 0, 1) := by decide +kernel
theorem dX11_layerAt_47 : decode cX11_layerAt 47 = .ok (.iload_n 1, 1) := by decide +kernel
theorem dX11_layerAt_48 : decode cX11_layerAt 48 = .ok (.iload_n 3, 1) := by decide +kernel
theorem dX11_layerAt_49 : decode cX11_layerAt 49 = .ok (.invokevirtual 290, 3) := by decide +kernel
theorem dX11_layerAt_52 : decode cX11_layerAt 52 = .ok (.iadd, 1) := by decide +kernel
theorem dX11_layerAt_53 : decode cX11_layerAt 53 = .ok (.if_icmp .ge 9, 3) := by decide +kernel
theorem dX11_layerAt_56 : decode cX11_layerAt 56 = .ok (.aload_n 0, 1) := by decide +kernel
theorem dX11_layerAt_57 : decode cX11_layerAt 57 = .ok (.iload_n 3, 1) := by decide +kernel
theorem dX11_layerAt_58 : decode cX11_layerAt 58 = .ok (.invokevirtual 106, 3) := by decide +kernel
theorem dX11_layerAt_61 : decode cX11_layerAt 61 = .ok (.ireturn, 1) := by decide +kernel
theorem dX11_layerAt_62 : decode cX11_layerAt 62 = .ok (.iinc 3 1, 3) := by decide +kernel
theorem dX11_layerAt_65 : decode cX11_layerAt 65 = .ok (.goto (-45), 3) := by decide +kernel
theorem dX11_layerAt_68 : decode cX11_layerAt 68 = .ok (.aload_n 0, 1) := by decide +kernel
theorem dX11_layerAt_69 : decode cX11_layerAt 69 = .ok (.bipush 6, 2) := by decide +kernel
theorem dX11_layerAt_71 : decode cX11_layerAt 71 = .ok (.invokevirtual 102, 3) := by decide +kernel
theorem dX11_layerAt_74 : decode cX11_layerAt 74 = .ok (.ireturn, 1) := by decide +kernel
theorem dX11_side_0 : decode cX11_side 0 = .ok (.iload_n 1, 1) := by decide +kernel
theorem dX11_side_1 : decode cX11_side 1 = .ok (.ifCond .lt 42, 3) := by decide +kernel
theorem dX11_side_4 : decode cX11_side 4 = .ok (.iload_n 1, 1) := by decide +kernel
theorem dX11_side_5 : decode cX11_side 5 = .ok (.aload_n 0, 1) := by decide +kernel
theorem dX11_side_6 : decode cX11_side 6 = .ok (.getfield 7, 3) := by decide +kernel
theorem dX11_side_9 : decode cX11_side 9 = .ok (.iconst 3, 1) := by decide +kernel
theorem dX11_side_10 : decode cX11_side 10 = .ok (.iaload, 1) := by decide +kernel
theorem dX11_side_11 : decode cX11_side 11 = .ok (.if_icmp .ge 32, 3) := by decide +kernel
theorem dX11_side_14 : decode cX11_side 14 = .ok (.aload_n 0, 1) := by decide +kernel
theorem dX11_side_15 : decode cX11_side 15 = .ok (.iload_n 2, 1) := by decide +kernel
theorem dX11_side_16 : decode cX11_side 16 = .ok (.invokevirtual 302, 3) := by decide +kernel
theorem dX11_side_19 : decode cX11_side 19 = .ok (.ifCond .eq 24, 3) := by decide +kernel
theorem dX11_side_22 : decode cX11_side 22 = .ok (.aload_n 0, 1) := by decide +kernel
theorem dX11_side_23 : decode cX11_side 23 = .ok (.aload_n 0, 1) := by decide +kernel
theorem dX11_side_24 : decode cX11_side 24 = .ok (.iload_n 1, 1) := by decide +kernel
theorem dX11_side_25 : decode cX11_side 25 = .ok (.iload_n 2, 1) := by decide +kernel
theorem dX11_side_26 : decode cX11_side 26 = .ok (.invokevirtual 293, 3) := by decide +kernel
theorem dX11_side_29 : decode cX11_side 29 = .ok (.ifCond .eq 7, 3) := by decide +kernel
theorem dX11_side_32 : decode cX11_side 32 = .ok (.iconst 1, 1) := by decide +kernel
theorem dX11_side_33 : decode cX11_side 33 = .ok (.goto 4, 3) := by decide +kernel
theorem dX11_side_36 : decode cX11_side 36 = .ok (.iconst 0, 1) := by decide +kernel
theorem dX11_side_37 : decode cX11_side 37 = .ok (.invokevirtual 106, 3) := by decide +kernel
theorem dX11_side_40 : decode cX11_side 40 = .ok (.goto 8, 3) := by decide +kernel
theorem dX11_side_43 : decode cX11_side 43 = .ok (.aload_n 0, 1) := by decide +kernel
theorem dX11_side_44 : decode cX11_side 44 = .ok (.iconst 1, 1) := by decide +kernel
theorem dX11_side_45 : decode cX11_side 45 = .ok (.invokevirtual 102, 3) := by decide +kernel
theorem dX11_side_48 : decode cX11_side 48 = .ok (.ireturn, 1) := by decide +kernel
theorem dX11_pairCost_0 : decode cX11_pairCost 0 = .ok (.aload_n 0, 1) := by decide +kernel
theorem dX11_pairCost_1 : decode cX11_pairCost 1 = .ok (.aload_n 0, 1) := by decide +kernel
theorem dX11_pairCost_2 : decode cX11_pairCost 2 = .ok (.iload_n 1, 1) := by decide +kernel
theorem dX11_pairCost_3 : decode cX11_pairCost 3 = .ok (.iload_n 2, 1) := by decide +kernel
theorem dX11_pairCost_4 : decode cX11_pairCost 4 = .ok (.invokevirtual 311, 3) := by decide +kernel
theorem dX11_pairCost_7 : decode cX11_pairCost 7 = .ok (.aload_n 0, 1) := by decide +kernel
theorem dX11_pairCost_8 : decode cX11_pairCost 8 = .ok (.iload_n 3, 1) := by decide +kernel
theorem dX11_pairCost_9 : decode cX11_pairCost 9 = .ok (.iload 4, 2) := by decide +kernel
theorem dX11_pairCost_11 : decode cX11_pairCost 11 = .ok (.invokevirtual 311, 3) := by decide +kernel
theorem dX11_pairCost_14 : decode cX11_pairCost 14 = .ok (.invokevirtual 287, 3) := by decide +kernel
theorem dX11_pairCost_17 : decode cX11_pairCost 17 = .ok (.aload_n 0, 1) := by decide +kernel
theorem dX11_pairCost_18 : decode cX11_pairCost 18 = .ok (.iload_n 1, 1) := by decide +kernel
theorem dX11_pairCost_19 : decode cX11_pairCost 19 = .ok (.iload_n 2, 1) := by decide +kernel
theorem dX11_pairCost_20 : decode cX11_pairCost 20 = .ok (.invokevirtual 290, 3) := by decide +kernel
theorem dX11_pairCost_23 : decode cX11_pairCost 23 = .ok (.aload_n 0, 1) := by decide +kernel
theorem dX11_pairCost_24 : decode cX11_pairCost 24 = .ok (.iload_n 3, 1) := by decide +kernel
theorem dX11_pairCost_25 : decode cX11_pairCost 25 = .ok (.iload 4, 2) := by decide +kernel
theorem dX11_pairCost_27 : decode cX11_pairCost 27 = .ok (.invokevirtual 290, 3) := by decide +kernel
theorem dX11_pairCost_30 : decode cX11_pairCost 30 = .ok (.isub, 1) := by decide +kernel
theorem dX11_pairCost_31 : decode cX11_pairCost 31 = .ok (.invokestatic 317, 3) := by decide +kernel
theorem dX11_pairCost_34 : decode cX11_pairCost 34 = .ok (.iadd, 1) := by decide +kernel
theorem dX11_pairCost_35 : decode cX11_pairCost 35 = .ok (.ireturn, 1) := by decide +kernel
theorem dX11_leftCost_0 : decode cX11_leftCost 0 = .ok (.aload_n 0, 1) := by decide +kernel
theorem dX11_leftCost_1 : decode cX11_leftCost 1 = .ok (.getfield 7, 3) := by decide +kernel
theorem dX11_leftCost_4 : decode cX11_leftCost 4 = .ok (.bipush 10, 2) := by decide +kernel
theorem dX11_leftCost_6 : decode cX11_leftCost 6 = .ok (.aload_n 0, 1) := by decide +kernel
theorem dX11_leftCost_7 : decode cX11_leftCost 7 = .ok (.iload_n 1, 1) := by decide +kernel
theorem dX11_leftCost_8 : decode cX11_leftCost 8 = .ok (.iload_n 2, 1) := by decide +kernel
theorem dX11_leftCost_9 : decode cX11_leftCost 9 = .ok (.invokevirtual 311, 3) := by decide +kernel
theorem dX11_leftCost_12 : decode cX11_leftCost 12 = .ok (.iadd, 1) := by decide +kernel
theorem dX11_leftCost_13 : decode cX11_leftCost 13 = .ok (.iaload, 1) := by decide +kernel
theorem dX11_leftCost_14 : decode cX11_leftCost 14 = .ok (.aload_n 0, 1) := by decide +kernel
theorem dX11_leftCost_15 : decode cX11_leftCost 15 = .ok (.iload_n 1, 1) := by decide +kernel
theorem dX11_leftCost_16 : decode cX11_leftCost 16 = .ok (.iload_n 2, 1) := by decide +kernel
theorem dX11_leftCost_17 : decode cX11_leftCost 17 = .ok (.invokevirtual 290, 3) := by decide +kernel
theorem dX11_leftCost_20 : decode cX11_leftCost 20 = .ok (.iadd, 1) := by decide +kernel
theorem dX11_leftCost_21 : decode cX11_leftCost 21 = .ok (.ireturn, 1) := by decide +kernel
theorem dX11_matches_0 : decode cX11_matches 0 = .ok (.aload_n 0, 1) := by decide +kernel
theorem dX11_matches_1 : decode cX11_matches 1 = .ok (.iload_n 1, 1) := by decide +kernel
theorem dX11_matches_2 : decode cX11_matches 2 = .ok (.invokevirtual 305, 3) := by decide +kernel
theorem dX11_matches_5 : decode cX11_matches 5 = .ok (.istore_n 3, 1) := by decide +kernel
theorem dX11_matches_6 : decode cX11_matches 6 = .ok (.aload_n 0, 1) := by decide +kernel
theorem dX11_matches_7 : decode cX11_matches 7 = .ok (.iload_n 2, 1) := by decide +kernel
theorem dX11_matches_8 : decode cX11_matches 8 = .ok (.invokevirtual 305, 3) := by decide +kernel
theorem dX11_matches_11 : decode cX11_matches 11 = .ok (.istore 4, 2) := by decide +kernel
theorem dX11_matches_13 : decode cX11_matches 13 = .ok (.iload_n 3, 1) := by decide +kernel
theorem dX11_matches_14 : decode cX11_matches 14 = .ok (.istore 5, 2) := by decide +kernel
theorem dX11_matches_16 : decode cX11_matches 16 = .ok (.iload 5, 2) := by decide +kernel
theorem dX11_matches_18 : decode cX11_matches 18 = .ok (.ifCond .lt 179, 3) := by decide +kernel
theorem dX11_matches_21 : decode cX11_matches 21 = .ok (.iload 4, 2) := by decide +kernel
theorem dX11_matches_23 : decode cX11_matches 23 = .ok (.istore 6, 2) := by decide +kernel
theorem dX11_matches_25 : decode cX11_matches 25 = .ok (.iload 6, 2) := by decide +kernel
theorem dX11_matches_27 : decode cX11_matches 27 = .ok (.ifCond .lt 164, 3) := by decide +kernel
theorem dX11_matches_30 : decode cX11_matches 30 = .ok (.iload 5, 2) := by decide +kernel
theorem dX11_matches_32 : decode cX11_matches 32 = .ok (.iload_n 3, 1) := by decide +kernel
theorem dX11_matches_33 : decode cX11_matches 33 = .ok (.if_icmp .ne 14, 3) := by decide +kernel
theorem dX11_matches_36 : decode cX11_matches 36 = .ok (.iload 6, 2) := by decide +kernel
theorem dX11_matches_38 : decode cX11_matches 38 = .ok (.iload 4, 2) := by decide +kernel
theorem dX11_matches_40 : decode cX11_matches 40 = .ok (.if_icmp .ne 7, 3) := by decide +kernel
theorem dX11_matches_43 : decode cX11_matches 43 = .ok (.iconst 0, 1) := by decide +kernel
theorem dX11_matches_44 : decode cX11_matches 44 = .ok (.goto 6, 3) := by decide +kernel
theorem dX11_matches_47 : decode cX11_matches 47 = .ok (.ldc_w 322, 3) := by decide +kernel
theorem dX11_matches_50 : decode cX11_matches 50 = .ok (.istore 7, 2) := by decide +kernel
theorem dX11_matches_52 : decode cX11_matches 52 = .ok (.iload 5, 2) := by decide +kernel
theorem dX11_matches_54 : decode cX11_matches 54 = .ok (.iload_n 3, 1) := by decide +kernel
theorem dX11_matches_55 : decode cX11_matches 55 = .ok (.if_icmp .ge 41, 3) := by decide +kernel
theorem dX11_matches_58 : decode cX11_matches 58 = .ok (.iload 6, 2) := by decide +kernel
theorem dX11_matches_60 : decode cX11_matches 60 = .ok (.iload 4, 2) := by decide +kernel
theorem dX11_matches_62 : decode cX11_matches 62 = .ok (.if_icmp .ge 34, 3) := by decide +kernel
theorem dX11_matches_65 : decode cX11_matches 65 = .ok (.aload_n 0, 1) := by decide +kernel
theorem dX11_matches_66 : decode cX11_matches 66 = .ok (.getfield 47, 3) := by decide +kernel
theorem dX11_matches_69 : decode cX11_matches 69 = .ok (.bipush 13, 2) := by decide +kernel
theorem dX11_matches_71 : decode cX11_matches 71 = .ok (.iload 5, 2) := by decide +kernel
theorem dX11_matches_73 : decode cX11_matches 73 = .ok (.imul, 1) := by decide +kernel
theorem dX11_matches_74 : decode cX11_matches 74 = .ok (.bipush 13, 2) := by decide +kernel
theorem dX11_matches_76 : decode cX11_matches 76 = .ok (.iadd, 1) := by decide +kernel
theorem dX11_matches_77 : decode cX11_matches 77 = .ok (.iload 6, 2) := by decide +kernel
theorem dX11_matches_79 : decode cX11_matches 79 = .ok (.iadd, 1) := by decide +kernel
theorem dX11_matches_80 : decode cX11_matches 80 = .ok (.iconst 1, 1) := by decide +kernel
theorem dX11_matches_81 : decode cX11_matches 81 = .ok (.iadd, 1) := by decide +kernel
theorem dX11_matches_82 : decode cX11_matches 82 = .ok (.iaload, 1) := by decide +kernel
theorem dX11_matches_83 : decode cX11_matches 83 = .ok (.aload_n 0, 1) := by decide +kernel
theorem dX11_matches_84 : decode cX11_matches 84 = .ok (.iload_n 1, 1) := by decide +kernel
theorem dX11_matches_85 : decode cX11_matches 85 = .ok (.iload 5, 2) := by decide +kernel
theorem dX11_matches_87 : decode cX11_matches 87 = .ok (.iload_n 2, 1) := by decide +kernel
theorem dX11_matches_88 : decode cX11_matches 88 = .ok (.iload 6, 2) := by decide +kernel
theorem dX11_matches_90 : decode cX11_matches 90 = .ok (.invokevirtual 323, 3) := by decide +kernel
theorem dX11_matches_93 : decode cX11_matches 93 = .ok (.iadd, 1) := by decide +kernel
theorem dX11_matches_94 : decode cX11_matches 94 = .ok (.istore 7, 2) := by decide +kernel
theorem dX11_matches_96 : decode cX11_matches 96 = .ok (.iload 5, 2) := by decide +kernel
theorem dX11_matches_98 : decode cX11_matches 98 = .ok (.iload_n 3, 1) := by decide +kernel
theorem dX11_matches_99 : decode cX11_matches 99 = .ok (.if_icmp .ge 34, 3) := by decide +kernel
theorem dX11_matches_102 : decode cX11_matches 102 = .ok (.iload 7, 2) := by decide +kernel
theorem dX11_matches_104 : decode cX11_matches 104 = .ok (.aload_n 0, 1) := by decide +kernel
theorem dX11_matches_105 : decode cX11_matches 105 = .ok (.getfield 47, 3) := by decide +kernel
theorem dX11_matches_108 : decode cX11_matches 108 = .ok (.bipush 13, 2) := by decide +kernel
theorem dX11_matches_110 : decode cX11_matches 110 = .ok (.iload 5, 2) := by decide +kernel
theorem dX11_matches_112 : decode cX11_matches 112 = .ok (.imul, 1) := by decide +kernel
theorem dX11_matches_113 : decode cX11_matches 113 = .ok (.bipush 13, 2) := by decide +kernel
theorem dX11_matches_115 : decode cX11_matches 115 = .ok (.iadd, 1) := by decide +kernel
theorem dX11_matches_116 : decode cX11_matches 116 = .ok (.iload 6, 2) := by decide +kernel
theorem dX11_matches_118 : decode cX11_matches 118 = .ok (.iadd, 1) := by decide +kernel
theorem dX11_matches_119 : decode cX11_matches 119 = .ok (.iaload, 1) := by decide +kernel
theorem dX11_matches_120 : decode cX11_matches 120 = .ok (.aload_n 0, 1) := by decide +kernel
theorem dX11_matches_121 : decode cX11_matches 121 = .ok (.iload_n 1, 1) := by decide +kernel
theorem dX11_matches_122 : decode cX11_matches 122 = .ok (.iload 5, 2) := by decide +kernel
theorem dX11_matches_124 : decode cX11_matches 124 = .ok (.invokevirtual 327, 3) := by decide +kernel
theorem dX11_matches_127 : decode cX11_matches 127 = .ok (.iadd, 1) := by decide +kernel
theorem dX11_matches_128 : decode cX11_matches 128 = .ok (.invokestatic 158, 3) := by decide +kernel
theorem dX11_matches_131 : decode cX11_matches 131 = .ok (.istore 7, 2) := by decide +kernel
theorem dX11_matches_133 : decode cX11_matches 133 = .ok (.iload 6, 2) := by decide +kernel
theorem dX11_matches_135 : decode cX11_matches 135 = .ok (.iload 4, 2) := by decide +kernel
theorem dX11_matches_137 : decode cX11_matches 137 = .ok (.if_icmp .ge 33, 3) := by decide +kernel
theorem dX11_matches_140 : decode cX11_matches 140 = .ok (.iload 7, 2) := by decide +kernel
theorem dX11_matches_142 : decode cX11_matches 142 = .ok (.aload_n 0, 1) := by decide +kernel
theorem dX11_matches_143 : decode cX11_matches 143 = .ok (.getfield 47, 3) := by decide +kernel
theorem dX11_matches_146 : decode cX11_matches 146 = .ok (.bipush 13, 2) := by decide +kernel
theorem dX11_matches_148 : decode cX11_matches 148 = .ok (.iload 5, 2) := by decide +kernel
theorem dX11_matches_150 : decode cX11_matches 150 = .ok (.imul, 1) := by decide +kernel
theorem dX11_matches_151 : decode cX11_matches 151 = .ok (.iload 6, 2) := by decide +kernel
theorem dX11_matches_153 : decode cX11_matches 153 = .ok (.iadd, 1) := by decide +kernel
theorem dX11_matches_154 : decode cX11_matches 154 = .ok (.iconst 1, 1) := by decide +kernel
theorem dX11_matches_155 : decode cX11_matches 155 = .ok (.iadd, 1) := by decide +kernel
theorem dX11_matches_156 : decode cX11_matches 156 = .ok (.iaload, 1) := by decide +kernel
theorem dX11_matches_157 : decode cX11_matches 157 = .ok (.aload_n 0, 1) := by decide +kernel
theorem dX11_matches_158 : decode cX11_matches 158 = .ok (.iload_n 2, 1) := by decide +kernel
theorem dX11_matches_159 : decode cX11_matches 159 = .ok (.iload 6, 2) := by decide +kernel
theorem dX11_matches_161 : decode cX11_matches 161 = .ok (.invokevirtual 327, 3) := by decide +kernel
theorem dX11_matches_164 : decode cX11_matches 164 = .ok (.iadd, 1) := by decide +kernel
theorem dX11_matches_165 : decode cX11_matches 165 = .ok (.invokestatic 158, 3) := by decide +kernel
theorem dX11_matches_168 : decode cX11_matches 168 = .ok (.istore 7, 2) := by decide +kernel
theorem dX11_matches_170 : decode cX11_matches 170 = .ok (.aload_n 0, 1) := by decide +kernel
theorem dX11_matches_171 : decode cX11_matches 171 = .ok (.getfield 47, 3) := by decide +kernel
theorem dX11_matches_174 : decode cX11_matches 174 = .ok (.bipush 13, 2) := by decide +kernel
theorem dX11_matches_176 : decode cX11_matches 176 = .ok (.iload 5, 2) := by decide +kernel
theorem dX11_matches_178 : decode cX11_matches 178 = .ok (.imul, 1) := by decide +kernel
theorem dX11_matches_179 : decode cX11_matches 179 = .ok (.iload 6, 2) := by decide +kernel
theorem dX11_matches_181 : decode cX11_matches 181 = .ok (.iadd, 1) := by decide +kernel
theorem dX11_matches_182 : decode cX11_matches 182 = .ok (.iload 7, 2) := by decide +kernel
theorem dX11_matches_184 : decode cX11_matches 184 = .ok (.iastore, 1) := by decide +kernel
theorem dX11_matches_185 : decode cX11_matches 185 = .ok (.iinc 6 (-1), 3) := by decide +kernel
theorem dX11_matches_188 : decode cX11_matches 188 = .ok (.goto (-163), 3) := by decide +kernel
theorem dX11_matches_191 : decode cX11_matches 191 = .ok (.iinc 5 (-1), 3) := by decide +kernel
theorem dX11_matches_194 : decode cX11_matches 194 = .ok (.goto (-178), 3) := by decide +kernel
theorem dX11_matches_197 : decode cX11_matches 197 = .ok (.iconst 0, 1) := by decide +kernel
theorem dX11_matches_198 : decode cX11_matches 198 = .ok (.istore 5, 2) := by decide +kernel
theorem dX11_matches_200 : decode cX11_matches 200 = .ok (.iload 5, 2) := by decide +kernel
theorem dX11_matches_202 : decode cX11_matches 202 = .ok (.bipush 12, 2) := by decide +kernel
theorem dX11_matches_204 : decode cX11_matches 204 = .ok (.if_icmp .ge 17, 3) := by decide +kernel
theorem dX11_matches_207 : decode cX11_matches 207 = .ok (.aload_n 0, 1) := by decide +kernel
theorem dX11_matches_208 : decode cX11_matches 208 = .ok (.getfield 50, 3) := by decide +kernel
theorem dX11_matches_211 : decode cX11_matches 211 = .ok (.iload 5, 2) := by decide +kernel
theorem dX11_matches_213 : decode cX11_matches 213 = .ok (.iconst (-1), 1) := by decide +kernel
theorem dX11_matches_214 : decode cX11_matches 214 = .ok (.iastore, 1) := by decide +kernel
theorem dX11_matches_215 : decode cX11_matches 215 = .ok (.iinc 5 1, 3) := by decide +kernel
theorem dX11_matches_218 : decode cX11_matches 218 = .ok (.goto (-18), 3) := by decide +kernel
theorem dX11_matches_221 : decode cX11_matches 221 = .ok (.iconst 0, 1) := by decide +kernel
theorem dX11_matches_222 : decode cX11_matches 222 = .ok (.istore 5, 2) := by decide +kernel
theorem dX11_matches_224 : decode cX11_matches 224 = .ok (.iconst 0, 1) := by decide +kernel
theorem dX11_matches_225 : decode cX11_matches 225 = .ok (.istore 6, 2) := by decide +kernel
theorem dX11_matches_227 : decode cX11_matches 227 = .ok (.iload 5, 2) := by decide +kernel
theorem dX11_matches_229 : decode cX11_matches 229 = .ok (.iload_n 3, 1) := by decide +kernel
theorem dX11_matches_230 : decode cX11_matches 230 = .ok (.if_icmp .lt 10, 3) := by decide +kernel
theorem dX11_matches_233 : decode cX11_matches 233 = .ok (.iload 6, 2) := by decide +kernel
theorem dX11_matches_235 : decode cX11_matches 235 = .ok (.iload 4, 2) := by decide +kernel
theorem dX11_matches_237 : decode cX11_matches 237 = .ok (.if_icmp .ge 130, 3) := by decide +kernel
theorem dX11_matches_240 : decode cX11_matches 240 = .ok (.aload_n 0, 1) := by decide +kernel
theorem dX11_matches_241 : decode cX11_matches 241 = .ok (.getfield 47, 3) := by decide +kernel
theorem dX11_matches_244 : decode cX11_matches 244 = .ok (.bipush 13, 2) := by decide +kernel
theorem dX11_matches_246 : decode cX11_matches 246 = .ok (.iload 5, 2) := by decide +kernel
theorem dX11_matches_248 : decode cX11_matches 248 = .ok (.imul, 1) := by decide +kernel
theorem dX11_matches_249 : decode cX11_matches 249 = .ok (.iload 6, 2) := by decide +kernel
theorem dX11_matches_251 : decode cX11_matches 251 = .ok (.iadd, 1) := by decide +kernel
theorem dX11_matches_252 : decode cX11_matches 252 = .ok (.iaload, 1) := by decide +kernel
theorem dX11_matches_253 : decode cX11_matches 253 = .ok (.istore 7, 2) := by decide +kernel
theorem dX11_matches_255 : decode cX11_matches 255 = .ok (.iload 5, 2) := by decide +kernel
theorem dX11_matches_257 : decode cX11_matches 257 = .ok (.iload_n 3, 1) := by decide +kernel
theorem dX11_matches_258 : decode cX11_matches 258 = .ok (.if_icmp .ge 62, 3) := by decide +kernel
theorem dX11_matches_261 : decode cX11_matches 261 = .ok (.iload 6, 2) := by decide +kernel
theorem dX11_matches_263 : decode cX11_matches 263 = .ok (.iload 4, 2) := by decide +kernel
theorem dX11_matches_265 : decode cX11_matches 265 = .ok (.if_icmp .ge 55, 3) := by decide +kernel
theorem dX11_matches_268 : decode cX11_matches 268 = .ok (.iload 7, 2) := by decide +kernel
theorem dX11_matches_270 : decode cX11_matches 270 = .ok (.aload_n 0, 1) := by decide +kernel
theorem dX11_matches_271 : decode cX11_matches 271 = .ok (.getfield 47, 3) := by decide +kernel
theorem dX11_matches_274 : decode cX11_matches 274 = .ok (.bipush 13, 2) := by decide +kernel
theorem dX11_matches_276 : decode cX11_matches 276 = .ok (.iload 5, 2) := by decide +kernel
theorem dX11_matches_278 : decode cX11_matches 278 = .ok (.imul, 1) := by decide +kernel
theorem dX11_matches_279 : decode cX11_matches 279 = .ok (.bipush 13, 2) := by decide +kernel
theorem dX11_matches_281 : decode cX11_matches 281 = .ok (.iadd, 1) := by decide +kernel
theorem dX11_matches_282 : decode cX11_matches 282 = .ok (.iload 6, 2) := by decide +kernel
theorem dX11_matches_284 : decode cX11_matches 284 = .ok (.iadd, 1) := by decide +kernel
theorem dX11_matches_285 : decode cX11_matches 285 = .ok (.iconst 1, 1) := by decide +kernel
theorem dX11_matches_286 : decode cX11_matches 286 = .ok (.iadd, 1) := by decide +kernel
theorem dX11_matches_287 : decode cX11_matches 287 = .ok (.iaload, 1) := by decide +kernel
theorem dX11_matches_288 : decode cX11_matches 288 = .ok (.aload_n 0, 1) := by decide +kernel
theorem dX11_matches_289 : decode cX11_matches 289 = .ok (.iload_n 1, 1) := by decide +kernel
theorem dX11_matches_290 : decode cX11_matches 290 = .ok (.iload 5, 2) := by decide +kernel
theorem dX11_matches_292 : decode cX11_matches 292 = .ok (.iload_n 2, 1) := by decide +kernel
theorem dX11_matches_293 : decode cX11_matches 293 = .ok (.iload 6, 2) := by decide +kernel
theorem dX11_matches_295 : decode cX11_matches 295 = .ok (.invokevirtual 323, 3) := by decide +kernel
theorem dX11_matches_298 : decode cX11_matches 298 = .ok (.iadd, 1) := by decide +kernel
theorem dX11_matches_299 : decode cX11_matches 299 = .ok (.if_icmp .ne 21, 3) := by decide +kernel
theorem dX11_matches_302 : decode cX11_matches 302 = .ok (.aload_n 0, 1) := by decide +kernel
theorem dX11_matches_303 : decode cX11_matches 303 = .ok (.getfield 50, 3) := by decide +kernel
theorem dX11_matches_306 : decode cX11_matches 306 = .ok (.iload 5, 2) := by decide +kernel
theorem dX11_matches_308 : decode cX11_matches 308 = .ok (.iload 6, 2) := by decide +kernel
theorem dX11_matches_310 : decode cX11_matches 310 = .ok (.iastore, 1) := by decide +kernel
theorem dX11_matches_311 : decode cX11_matches 311 = .ok (.iinc 5 1, 3) := by decide +kernel
theorem dX11_matches_314 : decode cX11_matches 314 = .ok (.iinc 6 1, 3) := by decide +kernel
theorem dX11_matches_317 : decode cX11_matches 317 = .ok (.goto 47, 3) := by decide +kernel
theorem dX11_matches_320 : decode cX11_matches 320 = .ok (.iload 5, 2) := by decide +kernel
theorem dX11_matches_322 : decode cX11_matches 322 = .ok (.iload_n 3, 1) := by decide +kernel
theorem dX11_matches_323 : decode cX11_matches 323 = .ok (.if_icmp .ge 38, 3) := by decide +kernel
theorem dX11_matches_326 : decode cX11_matches 326 = .ok (.iload 7, 2) := by decide +kernel
theorem dX11_matches_328 : decode cX11_matches 328 = .ok (.aload_n 0, 1) := by decide +kernel
theorem dX11_matches_329 : decode cX11_matches 329 = .ok (.getfield 47, 3) := by decide +kernel
theorem dX11_matches_332 : decode cX11_matches 332 = .ok (.bipush 13, 2) := by decide +kernel
theorem dX11_matches_334 : decode cX11_matches 334 = .ok (.iload 5, 2) := by decide +kernel
theorem dX11_matches_336 : decode cX11_matches 336 = .ok (.imul, 1) := by decide +kernel
theorem dX11_matches_337 : decode cX11_matches 337 = .ok (.bipush 13, 2) := by decide +kernel
theorem dX11_matches_339 : decode cX11_matches 339 = .ok (.iadd, 1) := by decide +kernel
theorem dX11_matches_340 : decode cX11_matches 340 = .ok (.iload 6, 2) := by decide +kernel
theorem dX11_matches_342 : decode cX11_matches 342 = .ok (.iadd, 1) := by decide +kernel
theorem dX11_matches_343 : decode cX11_matches 343 = .ok (.iaload, 1) := by decide +kernel
theorem dX11_matches_344 : decode cX11_matches 344 = .ok (.aload_n 0, 1) := by decide +kernel
theorem dX11_matches_345 : decode cX11_matches 345 = .ok (.iload_n 1, 1) := by decide +kernel
theorem dX11_matches_346 : decode cX11_matches 346 = .ok (.iload 5, 2) := by decide +kernel
theorem dX11_matches_348 : decode cX11_matches 348 = .ok (.invokevirtual 327, 3) := by decide +kernel
theorem dX11_matches_351 : decode cX11_matches 351 = .ok (.iadd, 1) := by decide +kernel
theorem dX11_matches_352 : decode cX11_matches 352 = .ok (.if_icmp .ne 9, 3) := by decide +kernel
theorem dX11_matches_355 : decode cX11_matches 355 = .ok (.iinc 5 1, 3) := by decide +kernel
theorem dX11_matches_358 : decode cX11_matches 358 = .ok (.goto 6, 3) := by decide +kernel
theorem dX11_matches_361 : decode cX11_matches 361 = .ok (.iinc 6 1, 3) := by decide +kernel
theorem dX11_matches_364 : decode cX11_matches 364 = .ok (.goto (-137), 3) := by decide +kernel
theorem dX11_matches_367 : decode cX11_matches 367 = .ok (.aload_n 0, 1) := by decide +kernel
theorem dX11_matches_368 : decode cX11_matches 368 = .ok (.getfield 47, 3) := by decide +kernel
theorem dX11_matches_371 : decode cX11_matches 371 = .ok (.iconst 0, 1) := by decide +kernel
theorem dX11_matches_372 : decode cX11_matches 372 = .ok (.iaload, 1) := by decide +kernel
theorem dX11_matches_373 : decode cX11_matches 373 = .ok (.ireturn, 1) := by decide +kernel
theorem dX11_match_0 : decode cX11_match 0 = .ok (.aload_n 0, 1) := by decide +kernel
theorem dX11_match_1 : decode cX11_match 1 = .ok (.iload_n 1, 1) := by decide +kernel
theorem dX11_match_2 : decode cX11_match 2 = .ok (.invokevirtual 302, 3) := by decide +kernel
theorem dX11_match_5 : decode cX11_match 5 = .ok (.ifCond .eq 16, 3) := by decide +kernel
theorem dX11_match_8 : decode cX11_match 8 = .ok (.aload_n 0, 1) := by decide +kernel
theorem dX11_match_9 : decode cX11_match 9 = .ok (.iload_n 2, 1) := by decide +kernel
theorem dX11_match_10 : decode cX11_match 10 = .ok (.invokevirtual 302, 3) := by decide +kernel
theorem dX11_match_13 : decode cX11_match 13 = .ok (.ifCond .eq 8, 3) := by decide +kernel
theorem dX11_match_16 : decode cX11_match 16 = .ok (.iload_n 1, 1) := by decide +kernel
theorem dX11_match_17 : decode cX11_match 17 = .ok (.iload_n 2, 1) := by decide +kernel
theorem dX11_match_18 : decode cX11_match 18 = .ok (.if_icmp .ne 9, 3) := by decide +kernel
theorem dX11_match_21 : decode cX11_match 21 = .ok (.aload_n 0, 1) := by decide +kernel
theorem dX11_match_22 : decode cX11_match 22 = .ok (.iconst 1, 1) := by decide +kernel
theorem dX11_match_23 : decode cX11_match 23 = .ok (.invokevirtual 102, 3) := by decide +kernel
theorem dX11_match_26 : decode cX11_match 26 = .ok (.ireturn, 1) := by decide +kernel
theorem dX11_match_27 : decode cX11_match 27 = .ok (.aload_n 0, 1) := by decide +kernel
theorem dX11_match_28 : decode cX11_match 28 = .ok (.iload_n 1, 1) := by decide +kernel
theorem dX11_match_29 : decode cX11_match 29 = .ok (.iload_n 2, 1) := by decide +kernel
theorem dX11_match_30 : decode cX11_match 30 = .ok (.invokevirtual 330, 3) := by decide +kernel
theorem dX11_match_33 : decode cX11_match 33 = .ok (.istore_n 3, 1) := by decide +kernel
theorem dX11_match_34 : decode cX11_match 34 = .ok (.aload_n 0, 1) := by decide +kernel
theorem dX11_match_35 : decode cX11_match 35 = .ok (.iconst 0, 1) := by decide +kernel
theorem dX11_match_36 : decode cX11_match 36 = .ok (.putfield 56, 3) := by decide +kernel
theorem dX11_match_39 : decode cX11_match 39 = .ok (.iconst 0, 1) := by decide +kernel
theorem dX11_match_40 : decode cX11_match 40 = .ok (.istore 4, 2) := by decide +kernel
theorem dX11_match_42 : decode cX11_match 42 = .ok (.iload 4, 2) := by decide +kernel
theorem dX11_match_44 : decode cX11_match 44 = .ok (.bipush 12, 2) := by decide +kernel
theorem dX11_match_46 : decode cX11_match 46 = .ok (.if_icmp .ge 48, 3) := by decide +kernel
theorem dX11_match_49 : decode cX11_match 49 = .ok (.aload_n 0, 1) := by decide +kernel
theorem dX11_match_50 : decode cX11_match 50 = .ok (.getfield 53, 3) := by decide +kernel
theorem dX11_match_53 : decode cX11_match 53 = .ok (.iload 4, 2) := by decide +kernel
theorem dX11_match_55 : decode cX11_match 55 = .ok (.aload_n 0, 1) := by decide +kernel
theorem dX11_match_56 : decode cX11_match 56 = .ok (.getfield 50, 3) := by decide +kernel
theorem dX11_match_59 : decode cX11_match 59 = .ok (.iload 4, 2) := by decide +kernel
theorem dX11_match_61 : decode cX11_match 61 = .ok (.iaload, 1) := by decide +kernel
theorem dX11_match_62 : decode cX11_match 62 = .ok (.iastore, 1) := by decide +kernel
theorem dX11_match_63 : decode cX11_match 63 = .ok (.aload_n 0, 1) := by decide +kernel
theorem dX11_match_64 : decode cX11_match 64 = .ok (.dup, 1) := by decide +kernel
theorem dX11_match_65 : decode cX11_match 65 = .ok (.getfield 56, 3) := by decide +kernel
theorem dX11_match_68 : decode cX11_match 68 = .ok (.aload_n 0, 1) := by decide +kernel
theorem dX11_match_69 : decode cX11_match 69 = .ok (.getfield 50, 3) := by decide +kernel
theorem dX11_match_72 : decode cX11_match 72 = .ok (.iload 4, 2) := by decide +kernel
theorem dX11_match_74 : decode cX11_match 74 = .ok (.iaload, 1) := by decide +kernel
theorem dX11_match_75 : decode cX11_match 75 = .ok (.iconst (-1), 1) := by decide +kernel
theorem dX11_match_76 : decode cX11_match 76 = .ok (.if_icmp .ne 7, 3) := by decide +kernel
theorem dX11_match_79 : decode cX11_match 79 = .ok (.iconst 0, 1) := by decide +kernel
theorem dX11_match_80 : decode cX11_match 80 = .ok (.goto 4, 3) := by decide +kernel
theorem dX11_match_83 : decode cX11_match 83 = .ok (.iconst 1, 1) := by decide +kernel
theorem dX11_match_84 : decode cX11_match 84 = .ok (.iadd, 1) := by decide +kernel
theorem dX11_match_85 : decode cX11_match 85 = .ok (.putfield 56, 3) := by decide +kernel
theorem dX11_match_88 : decode cX11_match 88 = .ok (.iinc 4 1, 3) := by decide +kernel
theorem dX11_match_91 : decode cX11_match 91 = .ok (.goto (-49), 3) := by decide +kernel
theorem dX11_match_94 : decode cX11_match 94 = .ok (.aload_n 0, 1) := by decide +kernel
theorem dX11_match_95 : decode cX11_match 95 = .ok (.iload_n 3, 1) := by decide +kernel
theorem dX11_match_96 : decode cX11_match 96 = .ok (.invokevirtual 106, 3) := by decide +kernel
theorem dX11_match_99 : decode cX11_match 99 = .ok (.ireturn, 1) := by decide +kernel
theorem dX11_orNone_0 : decode cX11_orNone 0 = .ok (.iload_n 1, 1) := by decide +kernel
theorem dX11_orNone_1 : decode cX11_orNone 1 = .ok (.iconst (-1), 1) := by decide +kernel
theorem dX11_orNone_2 : decode cX11_orNone 2 = .ok (.if_icmp .ne 12, 3) := by decide +kernel
theorem dX11_orNone_5 : decode cX11_orNone 5 = .ok (.aload_n 0, 1) := by decide +kernel
theorem dX11_orNone_6 : decode cX11_orNone 6 = .ok (.bipush 6, 2) := by decide +kernel
theorem dX11_orNone_8 : decode cX11_orNone 8 = .ok (.invokevirtual 102, 3) := by decide +kernel
theorem dX11_orNone_11 : decode cX11_orNone 11 = .ok (.goto 8, 3) := by decide +kernel
theorem dX11_orNone_14 : decode cX11_orNone 14 = .ok (.aload_n 0, 1) := by decide +kernel
theorem dX11_orNone_15 : decode cX11_orNone 15 = .ok (.iload_n 1, 1) := by decide +kernel
theorem dX11_orNone_16 : decode cX11_orNone 16 = .ok (.invokevirtual 106, 3) := by decide +kernel
theorem dX11_orNone_19 : decode cX11_orNone 19 = .ok (.ireturn, 1) := by decide +kernel
theorem dX11_pairOf_0 : decode cX11_pairOf 0 = .ok (.iload_n 1, 1) := by decide +kernel
theorem dX11_pairOf_1 : decode cX11_pairOf 1 = .ok (.ifCond .lt 17, 3) := by decide +kernel
theorem dX11_pairOf_4 : decode cX11_pairOf 4 = .ok (.iload_n 1, 1) := by decide +kernel
theorem dX11_pairOf_5 : decode cX11_pairOf 5 = .ok (.bipush 12, 2) := by decide +kernel
theorem dX11_pairOf_7 : decode cX11_pairOf 7 = .ok (.if_icmp .ge 11, 3) := by decide +kernel
theorem dX11_pairOf_10 : decode cX11_pairOf 10 = .ok (.aload_n 0, 1) := by decide +kernel
theorem dX11_pairOf_11 : decode cX11_pairOf 11 = .ok (.getfield 56, 3) := by decide +kernel
theorem dX11_pairOf_14 : decode cX11_pairOf 14 = .ok (.iconst (-1), 1) := by decide +kernel
theorem dX11_pairOf_15 : decode cX11_pairOf 15 = .ok (.if_icmp .ne 12, 3) := by decide +kernel
theorem dX11_pairOf_18 : decode cX11_pairOf 18 = .ok (.aload_n 0, 1) := by decide +kernel
theorem dX11_pairOf_19 : decode cX11_pairOf 19 = .ok (.bipush 6, 2) := by decide +kernel
theorem dX11_pairOf_21 : decode cX11_pairOf 21 = .ok (.invokevirtual 102, 3) := by decide +kernel
theorem dX11_pairOf_24 : decode cX11_pairOf 24 = .ok (.goto 13, 3) := by decide +kernel
theorem dX11_pairOf_27 : decode cX11_pairOf 27 = .ok (.aload_n 0, 1) := by decide +kernel
theorem dX11_pairOf_28 : decode cX11_pairOf 28 = .ok (.aload_n 0, 1) := by decide +kernel
theorem dX11_pairOf_29 : decode cX11_pairOf 29 = .ok (.getfield 53, 3) := by decide +kernel
theorem dX11_pairOf_32 : decode cX11_pairOf 32 = .ok (.iload_n 1, 1) := by decide +kernel
theorem dX11_pairOf_33 : decode cX11_pairOf 33 = .ok (.iaload, 1) := by decide +kernel
theorem dX11_pairOf_34 : decode cX11_pairOf 34 = .ok (.invokevirtual 333, 3) := by decide +kernel
theorem dX11_pairOf_37 : decode cX11_pairOf 37 = .ok (.ireturn, 1) := by decide +kernel
theorem dX11_pairs_0 : decode cX11_pairs 0 = .ok (.aload_n 0, 1) := by decide +kernel
theorem dX11_pairs_1 : decode cX11_pairs 1 = .ok (.aload_n 0, 1) := by decide +kernel
theorem dX11_pairs_2 : decode cX11_pairs 2 = .ok (.getfield 56, 3) := by decide +kernel
theorem dX11_pairs_5 : decode cX11_pairs 5 = .ok (.invokevirtual 333, 3) := by decide +kernel
theorem dX11_pairs_8 : decode cX11_pairs 8 = .ok (.ireturn, 1) := by decide +kernel
def fX11_yearOrder (φ : Nat) (t : Nat) (a1 : Int32) (a2 : Int32) (M : Mem) : Option (Int32 × Mem) :=
  if a1 = 13 then
 bd (fX11_holeTo φ t (a2 + (1 : Int32)) M) fun v29 M30 =>
 if v29 = 0 then
 some ((0 : Int32), M30)
 else
 bd (fX11_rockTo φ t (a2 + (2 : Int32)) M30) fun v31 M32 =>
 if v31 = 0 then
 some ((0 : Int32), M32)
 else
 bd (fX11_number φ t (a2 + (3 : Int32)) (1 : Int32) (99 : Int32) M32) fun v33 M34 =>
 if v33 = 0 then
 some ((0 : Int32), M34)
 else
 some ((1 : Int32), M34)
 else
 if a1 = 14 then
 bd (fX11_holeTo φ t (a2 + (1 : Int32)) M) fun v24 M25 =>
 if v24 = 0 then
 some ((0 : Int32), M25)
 else
 bd (fX11_number φ t (a2 + (2 : Int32)) (1 : Int32) (99 : Int32) M25) fun v26 M27 =>
 if v26 = 0 then
 some ((0 : Int32), M27)
 else
 some ((1 : Int32), M27)
 else
 if a1 = 15 then
 bd (fX11_number φ t (a2 + (1 : Int32)) (1 : Int32) (99 : Int32) M) fun v20 M21 =>
 if v20 = 0 ∨ v20 = 1 then some (v20, M21) else none
 else
 if a1 = 16 then
 ixk (3 : Int32) 3900 (
 bd (fX11_oldOne φ t (14 : Int32) (M.1 (t + 1) (3 : Int32).toNatClampNeg) (a2 + (1 : Int32)) M) fun v15 M16 =>
 if v15 = 0 then
 some ((0 : Int32), M16)
 else
 bd (fX11_number φ t (a2 + (2 : Int32)) (1 : Int32) (99 : Int32) M16) fun v17 M18 =>
 if v17 = 0 then
 some ((0 : Int32), M18)
 else
 some ((1 : Int32), M18))
 else
 if a1 = 17 then
 bd (fX11_test φ t a2 M) fun v11 M12 =>
 if v11 = 0 ∨ v11 = 1 then some (v11, M12) else none
 else
 if a1 = 18 then
 bd (fX11_number φ t (a2 + (1 : Int32)) (1 : Int32) (99 : Int32) M) fun v7 M8 =>
 if v7 = 0 ∨ v7 = 1 then some (v7, M8) else none
 else
 some ((1 : Int32), M)
set_option maxRecDepth 100000 in
set_option maxHeartbeats 4000000 in
theorem kX11_yearOrder (φ : Nat) (t : Nat) (a1 : Int32) (a2 : Int32) (M : Mem) (ht : isO 11 t) (l : Launch) (G : GT) {b : (Int32 × Mem)} (hE : fX11_yearOrder φ t a1 a2 M = some b) : Ok l G yX11_yearOrder cX11_yearOrder 3 (some .boolean) 9 234 [.ref t, .int a1, .int a2] M ((fun q : Int32 × Mem => (some (Value.int q.1), q.2)) b).1 ((fun q : Int32 × Mem => (some (Value.int q.1), q.2)) b).2 := by
  refine Ok.ofX (pj := (fun q : Int32 × Mem => (some (Value.int q.1), q.2))) (by decide) (Nat.le_of_ble_eq_true rfl) hE (fun J g hr hG hl hR hn => ?_)
  show X J (fun q : Int32 × Mem => (some (Value.int q.1), q.2)) (fX11_yearOrder φ t a1 a2 M) 0 [(0, .ref t), (1, .int a1), (2, .int a2)] [] M
  unfold fX11_yearOrder
  exact (x_iload_n g 1 dX11_yearOrder_0 rfl rfl
 (x_if (fun he35 => x_tabIn (off := 39) g (13 : Int32) 40 dX11_yearOrder_1 he35 (by decide) rfl rfl
 (x_aload_n g 0 dX11_yearOrder_40 rfl rfl
 (x_iload_n g 2 dX11_yearOrder_41 rfl rfl
 (x_iconst g dX11_yearOrder_42 kI_1
 (x_iadd g dX11_yearOrder_43
 (x_callVi (As := [.int (a2 + (1 : Int32))]) g mv_X11_holeTo mi_X11_holeTo lk_RX11_259 ht (fun b Mh_ hb => kX11_holeTo φ t (a2 + (1 : Int32)) M ht _ _ hb) rfl rfl hR ⟨Nat.le_of_ble_eq_true rfl, Nat.le_of_ble_eq_true rfl⟩ (Nat.le_of_ble_eq_true rfl) dX11_yearOrder_44 (fun v29 M30 =>
 (x_if_eq g 77 dX11_yearOrder_47 rfl
 (fun _ => (x_iconst g dX11_yearOrder_77 kI_0
 (x_iret g hr rfl rfl dX11_yearOrder_78)))
 (fun _ => (x_aload_n g 0 dX11_yearOrder_50 rfl rfl
 (x_iload_n g 2 dX11_yearOrder_51 rfl rfl
 (x_iconst g dX11_yearOrder_52 kI_2
 (x_iadd g dX11_yearOrder_53
 (x_callVi (As := [.int (a2 + (2 : Int32))]) g mv_X11_rockTo mi_X11_rockTo lk_RX11_262 ht (fun b Mh_ hb => kX11_rockTo φ t (a2 + (2 : Int32)) M30 ht _ _ hb) rfl rfl hR ⟨Nat.le_of_ble_eq_true rfl, Nat.le_of_ble_eq_true rfl⟩ (Nat.le_of_ble_eq_true rfl) dX11_yearOrder_54 (fun v31 M32 =>
 (x_if_eq g 77 dX11_yearOrder_57 rfl
 (fun _ => (x_iconst g dX11_yearOrder_77 kI_0
 (x_iret g hr rfl rfl dX11_yearOrder_78)))
 (fun _ => (x_aload_n g 0 dX11_yearOrder_60 rfl rfl
 (x_iload_n g 2 dX11_yearOrder_61 rfl rfl
 (x_iconst g dX11_yearOrder_62 kI_3
 (x_iadd g dX11_yearOrder_63
 (x_iconst g dX11_yearOrder_64 kI_1
 (x_bipush g dX11_yearOrder_65 kB_99
 (x_callVi (As := [.int (a2 + (3 : Int32)), .int (1 : Int32), .int (99 : Int32)]) g mv_X11_number mi_X11_number lk_RX11_212 ht (fun b Mh_ hb => kX11_number φ t (a2 + (3 : Int32)) (1 : Int32) (99 : Int32) M32 ht _ _ hb) rfl rfl hR ⟨Nat.le_of_ble_eq_true rfl, Nat.le_of_ble_eq_true rfl⟩ (Nat.le_of_ble_eq_true rfl) dX11_yearOrder_67 (fun v33 M34 =>
 (x_if_eq g 77 dX11_yearOrder_70 rfl
 (fun _ => (x_iconst g dX11_yearOrder_77 kI_0
 (x_iret g hr rfl rfl dX11_yearOrder_78)))
 (fun _ => (x_iconst g dX11_yearOrder_73 kI_1
 (x_goto g 78 dX11_yearOrder_74 rfl
 (x_iret g hr rfl rfl dX11_yearOrder_78)))))))))))))))))))))))))))))) (fun hq1 => (x_if (fun he28 => x_tabIn (off := 78) g (14 : Int32) 79 dX11_yearOrder_1 he28 (by decide) rfl rfl
 (x_aload_n g 0 dX11_yearOrder_79 rfl rfl
 (x_iload_n g 2 dX11_yearOrder_80 rfl rfl
 (x_iconst g dX11_yearOrder_81 kI_1
 (x_iadd g dX11_yearOrder_82
 (x_callVi (As := [.int (a2 + (1 : Int32))]) g mv_X11_holeTo mi_X11_holeTo lk_RX11_259 ht (fun b Mh_ hb => kX11_holeTo φ t (a2 + (1 : Int32)) M ht _ _ hb) rfl rfl hR ⟨Nat.le_of_ble_eq_true rfl, Nat.le_of_ble_eq_true rfl⟩ (Nat.le_of_ble_eq_true rfl) dX11_yearOrder_83 (fun v24 M25 =>
 (x_if_eq g 106 dX11_yearOrder_86 rfl
 (fun _ => (x_iconst g dX11_yearOrder_106 kI_0
 (x_iret g hr rfl rfl dX11_yearOrder_107)))
 (fun _ => (x_aload_n g 0 dX11_yearOrder_89 rfl rfl
 (x_iload_n g 2 dX11_yearOrder_90 rfl rfl
 (x_iconst g dX11_yearOrder_91 kI_2
 (x_iadd g dX11_yearOrder_92
 (x_iconst g dX11_yearOrder_93 kI_1
 (x_bipush g dX11_yearOrder_94 kB_99
 (x_callVi (As := [.int (a2 + (2 : Int32)), .int (1 : Int32), .int (99 : Int32)]) g mv_X11_number mi_X11_number lk_RX11_212 ht (fun b Mh_ hb => kX11_number φ t (a2 + (2 : Int32)) (1 : Int32) (99 : Int32) M25 ht _ _ hb) rfl rfl hR ⟨Nat.le_of_ble_eq_true rfl, Nat.le_of_ble_eq_true rfl⟩ (Nat.le_of_ble_eq_true rfl) dX11_yearOrder_96 (fun v26 M27 =>
 (x_if_eq g 106 dX11_yearOrder_99 rfl
 (fun _ => (x_iconst g dX11_yearOrder_106 kI_0
 (x_iret g hr rfl rfl dX11_yearOrder_107)))
 (fun _ => (x_iconst g dX11_yearOrder_102 kI_1
 (x_goto g 107 dX11_yearOrder_103 rfl
 (x_iret g hr rfl rfl dX11_yearOrder_107)))))))))))))))))))))) (fun hq2 => (x_if (fun he23 => x_tabIn (off := 107) g (15 : Int32) 108 dX11_yearOrder_1 he23 (by decide) rfl rfl
 (x_aload_n g 0 dX11_yearOrder_108 rfl rfl
 (x_iload_n g 2 dX11_yearOrder_109 rfl rfl
 (x_iconst g dX11_yearOrder_110 kI_1
 (x_iadd g dX11_yearOrder_111
 (x_iconst g dX11_yearOrder_112 kI_1
 (x_bipush g dX11_yearOrder_113 kB_99
 (x_callVi (As := [.int (a2 + (1 : Int32)), .int (1 : Int32), .int (99 : Int32)]) g mv_X11_number mi_X11_number lk_RX11_212 ht (fun b Mh_ hb => kX11_number φ t (a2 + (1 : Int32)) (1 : Int32) (99 : Int32) M ht _ _ hb) rfl rfl hR ⟨Nat.le_of_ble_eq_true rfl, Nat.le_of_ble_eq_true rfl⟩ (Nat.le_of_ble_eq_true rfl) dX11_yearOrder_115 (fun v20 M21 =>
 (x_ck (fun hq22 => x_iret g hr (nbz hq22) rfl dX11_yearOrder_118))))))))))) (fun hq3 => (x_if (fun he19 => x_tabIn (off := 118) g (16 : Int32) 119 dX11_yearOrder_1 he19 (by decide) rfl rfl
 (x_aload_n g 0 dX11_yearOrder_119 rfl rfl
 (x_bipush g dX11_yearOrder_120 kB_14
 (x_aload_n g 0 dX11_yearOrder_122 rfl rfl
 (x_getS g 1 fl_RX11_7 rfl ht dX11_yearOrder_123
 (x_iconst g dX11_yearOrder_126 kI_3
 (x_iald g (so_11_0 ht) dX11_yearOrder_127
 (x_iload_n g 2 dX11_yearOrder_128 rfl rfl
 (x_iconst g dX11_yearOrder_129 kI_1
 (x_iadd g dX11_yearOrder_130
 (x_callVi (As := [.int (14 : Int32), .int (M.1 (t + 1) (3 : Int32).toNatClampNeg), .int (a2 + (1 : Int32))]) g mv_X11_oldOne mi_X11_oldOne lk_RX11_215 ht (fun b Mh_ hb => kX11_oldOne φ t (14 : Int32) (M.1 (t + 1) (3 : Int32).toNatClampNeg) (a2 + (1 : Int32)) M ht _ _ hb) rfl rfl hR ⟨Nat.le_of_ble_eq_true rfl, Nat.le_of_ble_eq_true rfl⟩ (Nat.le_of_ble_eq_true rfl) dX11_yearOrder_131 (fun v15 M16 =>
 (x_if_eq g 154 dX11_yearOrder_134 rfl
 (fun _ => (x_iconst g dX11_yearOrder_154 kI_0
 (x_iret g hr rfl rfl dX11_yearOrder_155)))
 (fun _ => (x_aload_n g 0 dX11_yearOrder_137 rfl rfl
 (x_iload_n g 2 dX11_yearOrder_138 rfl rfl
 (x_iconst g dX11_yearOrder_139 kI_2
 (x_iadd g dX11_yearOrder_140
 (x_iconst g dX11_yearOrder_141 kI_1
 (x_bipush g dX11_yearOrder_142 kB_99
 (x_callVi (As := [.int (a2 + (2 : Int32)), .int (1 : Int32), .int (99 : Int32)]) g mv_X11_number mi_X11_number lk_RX11_212 ht (fun b Mh_ hb => kX11_number φ t (a2 + (2 : Int32)) (1 : Int32) (99 : Int32) M16 ht _ _ hb) rfl rfl hR ⟨Nat.le_of_ble_eq_true rfl, Nat.le_of_ble_eq_true rfl⟩ (Nat.le_of_ble_eq_true rfl) dX11_yearOrder_144 (fun v17 M18 =>
 (x_if_eq g 154 dX11_yearOrder_147 rfl
 (fun _ => (x_iconst g dX11_yearOrder_154 kI_0
 (x_iret g hr rfl rfl dX11_yearOrder_155)))
 (fun _ => (x_iconst g dX11_yearOrder_150 kI_1
 (x_goto g 155 dX11_yearOrder_151 rfl
 (x_iret g hr rfl rfl dX11_yearOrder_155))))))))))))))))))))))))))) (fun hq4 => (x_if (fun he14 => x_tabIn (off := 155) g (17 : Int32) 156 dX11_yearOrder_1 he14 (by decide) rfl rfl
 (x_aload_n g 0 dX11_yearOrder_156 rfl rfl
 (x_iload_n g 2 dX11_yearOrder_157 rfl rfl
 (x_callVi (As := [.int a2]) g mv_X11_test mi_X11_test lk_RX11_265 ht (fun b Mh_ hb => kX11_test φ t a2 M ht _ _ hb) rfl rfl hR ⟨Nat.le_of_ble_eq_true rfl, Nat.le_of_ble_eq_true rfl⟩ (Nat.le_of_ble_eq_true rfl) dX11_yearOrder_158 (fun v11 M12 =>
 (x_ck (fun hq13 => x_iret g hr (nbz hq13) rfl dX11_yearOrder_161))))))) (fun hq5 => (x_if (fun he10 => x_tabIn (off := 107) g (18 : Int32) 108 dX11_yearOrder_1 he10 (by decide) rfl rfl
 (x_aload_n g 0 dX11_yearOrder_108 rfl rfl
 (x_iload_n g 2 dX11_yearOrder_109 rfl rfl
 (x_iconst g dX11_yearOrder_110 kI_1
 (x_iadd g dX11_yearOrder_111
 (x_iconst g dX11_yearOrder_112 kI_1
 (x_bipush g dX11_yearOrder_113 kB_99
 (x_callVi (As := [.int (a2 + (1 : Int32)), .int (1 : Int32), .int (99 : Int32)]) g mv_X11_number mi_X11_number lk_RX11_212 ht (fun b Mh_ hb => kX11_number φ t (a2 + (1 : Int32)) (1 : Int32) (99 : Int32) M ht _ _ hb) rfl rfl hR ⟨Nat.le_of_ble_eq_true rfl, Nat.le_of_ble_eq_true rfl⟩ (Nat.le_of_ble_eq_true rfl) dX11_yearOrder_115 (fun v7 M8 =>
 (x_ck (fun hq9 => x_iret g hr (nbz hq9) rfl dX11_yearOrder_118))))))))))) (fun hq6 => (x_tabOut g 162 dX11_yearOrder_1 (by have a0 := tab_ne hq1 (by decide : (13 : Int32).toInt = 13); have a1 := tab_ne hq2 (by decide : (14 : Int32).toInt = 14); have a2 := tab_ne hq3 (by decide : (15 : Int32).toInt = 15); have a3 := tab_ne hq4 (by decide : (16 : Int32).toInt = 16); have a4 := tab_ne hq5 (by decide : (17 : Int32).toInt = 17); have a5 := tab_ne hq6 (by decide : (18 : Int32).toInt = 18); omega) rfl
 (x_iconst g dX11_yearOrder_162 kI_1
 (x_iret g hr rfl rfl dX11_yearOrder_163))))))))))))))))
def lX11_step_147 (K170 : Mem → Option (Int32 × Mem)) (t : Nat) (x1 : Int32) (x2 : Int32) (x3 : Int32) (x4 : Int32) : Nat → Int32 → Mem → Option (Int32 × Mem)
  | 0, _, _ => none
  | n + 1, x5, M =>
    if (6 : Int32) ≤ x5 then
 K170 M
 else
 ixk (x3 + x5) 3900 (nm (stI M (t + 1) (x3 + x5).toNatClampNeg (0 : Int32)) (fun M19 =>
 lX11_step_147 K170 t x1 x2 x3 x4 n (x5 + 1) M19))
theorem lX11_step_147_s (K170 : Mem → Option (Int32 × Mem)) (t : Nat) (x1 : Int32) (x2 : Int32) (x3 : Int32) (x4 : Int32) (n : Nat) (x5 : Int32) (M : Mem) : lX11_step_147 K170 t x1 x2 x3 x4 (n + 1) x5 M =
    if (6 : Int32) ≤ x5 then
 K170 M
 else
 ixk (x3 + x5) 3900 (nm (stI M (t + 1) (x3 + x5).toNatClampNeg (0 : Int32)) (fun M19 =>
 lX11_step_147 K170 t x1 x2 x3 x4 n (x5 + 1) M19)) := rfl
theorem lX11_step_147_0 (K170 : Mem → Option (Int32 × Mem)) (t : Nat) (x1 : Int32) (x2 : Int32) (x3 : Int32) (x4 : Int32) (x5 : Int32) (M : Mem) : lX11_step_147 K170 t x1 x2 x3 x4 0 x5 M = none := rfl
set_option maxRecDepth 100000 in
set_option maxHeartbeats 4000000 in
theorem wlX11_step_147 {J : JT} (g : Gd J cX11_step RX11) (hr : Rt J (some .boolean)) (hR : (JR J).frames = 10 ∧ (JR J).locals = 256) (hn : Jn J = 6) (K170 : Mem → Option (Int32 × Mem)) (t : Nat) (x1 : Int32) (x2 : Int32) (x3 : Int32) (x4 : Int32) (ht : isO 11 t) (hK170 : ∀ (M : Mem), X J (fun q : Int32 × Mem => (some (Value.int q.1), q.2)) (K170 M) 170 [(0, .ref t), (1, .int x1), (2, .int x2), (3, .int x3), (4, .int x4)] [] M) : ∀ (n : Nat) (x5 : Int32) (M : Mem), X J (fun q : Int32 × Mem => (some (Value.int q.1), q.2)) (lX11_step_147 K170 t x1 x2 x3 x4 n x5 M) 147 [(0, .ref t), (1, .int x1), (2, .int x2), (3, .int x3), (4, .int x4), (5, .int x5)] [] M := by
  intro n
  induction n with
  | zero =>
    intro x5 M
    exact x_none
  | succ n ih =>
    intro x5 M
    rw [lX11_step_147_s]
    exact (x_iload g 5 dX11_step_147 rfl
 (x_bipush g dX11_step_149 kB_6
 (x_icmp_ge g 170 dX11_step_151 rfl
 (fun _ => (x_sub [0, 1, 2, 3, 4] rfl (hK170 M)))
 (fun _ => (x_aload_n g 0 dX11_step_154 rfl rfl
 (x_getS g 1 fl_RX11_7 rfl ht dX11_step_155
 (x_iload_n g 3 dX11_step_158 rfl rfl
 (x_iload g 5 dX11_step_159 rfl
 (x_iadd g dX11_step_161
 (x_iconst g dX11_step_162 kI_0
 (x_iast g (so_11_0 ht) dX11_step_163 (x_nmM (fun M19 =>
 (x_iinc (L' := [(5, .int (x5 + 1)), (0, .ref t), (1, .int x1), (2, .int x2), (3, .int x3), (4, .int x4)]) (v := (x5 + 1)) g 5 dX11_step_164 rfl (by rw [kI_1]) hn (Nat.le_of_ble_eq_true rfl) rfl
 (x_goto g 147 dX11_step_167 rfl
 (x_sub [1, 2, 3, 4, 5, 0] rfl (ih (x5 + 1) M19)))))))))))))))))
def fX11_step (φ : Nat) (t : Nat) (M : Mem) : Option (Int32 × Mem) :=
  (fX11_inWords φ t 1002 M).bind fun v1 =>
 ixk (2604 : Int32) 3900 (
 nm (M.1 (t + 1) (2604 : Int32).toNatClampNeg) (fun v2 =>
 nm ((2880 : Int32) + ((6 : Int32) * v2)) (fun v3 =>
 jn (fun (v4 : Int32) => if v1 < (13 : Int32) then
 bd (fX11_fails t (2 : Int32) M) fun v6 M7 =>
 if v6 = 0 ∨ v6 = 1 then some (v6, M7) else none
 else
 if (20 : Int32) < v1 then
 bd (fX11_fails t (2 : Int32) M) fun v9 M10 =>
 if v9 = 0 ∨ v9 = 1 then some (v9, M10) else none
 else
 jn (jn (jn (jn (fun (v15 : Int32) => nm (stI M t 22 ((M.1 t 22) + v15)) (fun M17 =>
 ixk v3 3900 (nm (stI M17 (t + 1) v3.toNatClampNeg v1) (fun M18 =>
 lX11_step_147 (fun (M20 : Mem) => ixk (2604 : Int32) 3900 (
 ixk (2604 : Int32) 3900 (nm (stI M20 (t + 1) (2604 : Int32).toNatClampNeg ((M20.1 (t + 1) (2604 : Int32).toNatClampNeg) + (1 : Int32))) (fun M21 =>
 bd (fX11_ahead φ t M21) fun vu22 M23 =>
 bd (fX11_yearOrder φ t v1 v3 M23) fun v24 M25 =>
 if v24 = 0 then
 some ((0 : Int32), M25)
 else
 jn (fun (M26 : Mem) => if v1 = (19 : Int32) then
 nm (stI M26 t 21 ((M26.1 t 21) - (1 : Int32))) (fun M31 =>
 ixk (M31.1 t 21) 3 (
 ixk (v3 + (4 : Int32)) 3900 (nm (stI M31 (t + 1) (v3 + (4 : Int32)).toNatClampNeg (M31.1 (t + 8) (M31.1 t 21).toNatClampNeg)) (fun M32 =>
 ixk (M32.1 t 21) 3 (
 ixk (((2880 : Int32) + ((6 : Int32) * (M32.1 (t + 8) (M32.1 t 21).toNatClampNeg))) + (4 : Int32)) 3900 (nm (stI M32 (t + 1) (((2880 : Int32) + ((6 : Int32) * (M32.1 (t + 8) (M32.1 t 21).toNatClampNeg))) + (4 : Int32)).toNatClampNeg v2) (fun M33 =>
 bd (fX11_wantSign φ t (59 : Int32) M33) fun v34 M35 =>
 if v34 = 0 ∨ v34 = 1 then some (v34, M35) else none)))))))
 else
 bd (fX11_wantSign φ t (59 : Int32) M26) fun v28 M29 =>
 if v28 = 0 ∨ v28 = 1 then some (v28, M29) else none) (fun J27 => if v4 = 0 then
 J27 M25
 else
 ixk (M25.1 t 21) 3 (nm (stI M25 (t + 8) (M25.1 t 21).toNatClampNeg v2) (fun M37 =>
 nm (stI M37 t 21 ((M37.1 t 21) + (1 : Int32))) (fun M38 =>
 J27 M38)))))))) t v1 v2 v3 v4 φ (1 : Int32) M18)))) (fun J16 => if v1 = (19 : Int32) then
 J16 (0 : Int32)
 else
 J16 (1 : Int32))) (fun J14 => if v4 = 0 then
 J14
 else
 if (M.1 t 21) = (3 : Int32) then
 bd (fX11_fails t (7 : Int32) M) fun v39 M40 =>
 if v39 = 0 ∨ v39 = 1 then some (v39, M40) else none
 else
 J14)) (fun J13 => if v1 = (19 : Int32) then
 J13
 else
 if (M.1 t 22) = (30 : Int32) then
 bd (fX11_fails t (6 : Int32) M) fun v42 M43 =>
 if v42 = 0 ∨ v42 = 1 then some (v42, M43) else none
 else
 J13)) (fun J12 => if v1 = (19 : Int32) then
 if (M.1 t 21) = 0 then
 bd (fX11_fails t (2 : Int32) M) fun v45 M46 =>
 if v45 = 0 ∨ v45 = 1 then some (v45, M46) else none
 else
 J12
 else
 J12)) (fun J5 => jn (J5 (1 : Int32)) (fun J48 => if v1 = (17 : Int32) then
 J48
 else
 if v1 = (18 : Int32) then
 J48
 else
 J5 (0 : Int32))))))
set_option maxRecDepth 100000 in
set_option maxHeartbeats 4000000 in
theorem kX11_step (φ : Nat) (t : Nat) (M : Mem) (ht : isO 11 t) (l : Launch) (G : GT) {b : (Int32 × Mem)} (hE : fX11_step φ t M = some b) : Ok l G yX11_step cX11_step 6 (some .boolean) 10 256 [.ref t] M ((fun q : Int32 × Mem => (some (Value.int q.1), q.2)) b).1 ((fun q : Int32 × Mem => (some (Value.int q.1), q.2)) b).2 := by
  refine Ok.ofX (pj := (fun q : Int32 × Mem => (some (Value.int q.1), q.2))) (by decide) (Nat.le_of_ble_eq_true rfl) hE (fun J g hr hG hl hR hn => ?_)
  show X J (fun q : Int32 × Mem => (some (Value.int q.1), q.2)) (fX11_step φ t M) 0 [(0, .ref t)] [] M
  unfold fX11_step
  exact (x_aload_n g 0 dX11_step_0 rfl rfl
 (x_ldcS2 g dX11_step_1
 (x_callVip (As := [.ref 1002]) g mv_X11_inWords mi_X11_inWords lk_RX11_188 ht (fun b hb => kX11_inWords φ t 1002 M ht (Or.inr rfl) _ _ hb) rfl rfl hR ⟨Nat.le_of_ble_eq_true rfl, Nat.le_of_ble_eq_true rfl⟩ (Nat.le_of_ble_eq_true rfl) dX11_step_3 (fun v1 =>
 (x_istore_n (L' := [(1, .int v1), (0, .ref t)]) g dX11_step_6 rfl hn (Nat.le_of_ble_eq_true rfl) rfl
 (x_aload_n g 1 dX11_step_7 rfl rfl
 (x_getS g 1 fl_RX11_7 rfl ht dX11_step_8
 (x_sipush g dX11_step_11 kS_2604
 (x_iald g (so_11_0 ht) dX11_step_14
 (x_nmI (fun v2 => (x_istore_n (L' := [(2, .int v2), (1, .int v1), (0, .ref t)]) g dX11_step_15 rfl hn (Nat.le_of_ble_eq_true rfl) rfl
 (x_sipush g dX11_step_16 kS_2880
 (x_bipush g dX11_step_19 kB_6
 (x_iload_n g 0 dX11_step_21 rfl rfl
 (x_imul g dX11_step_22
 (x_iadd g dX11_step_23
 (x_nmI (fun v3 => (x_istore_n (L' := [(3, .int v3), (2, .int v2), (1, .int v1), (0, .ref t)]) g dX11_step_24 rfl hn (Nat.le_of_ble_eq_true rfl) rfl
 (x_iload_n g 2 dX11_step_25 rfl rfl
 (x_bipush g dX11_step_26 kB_17
 (x_jn (fun (J5 : Int32 → Option (Int32 × Mem)) => ∀ (v4 : Int32), X J (fun q : Int32 × Mem => (some (Value.int q.1), q.2)) (J5 v4) 42 [(0, .ref t), (1, .int v1), (2, .int v2), (3, .int v3)] [.int v4] M) (fun v4 => (x_istore (L' := [(4, .int v4), (0, .ref t), (1, .int v1), (2, .int v2), (3, .int v3)]) g dX11_step_42 hn (Nat.le_of_ble_eq_true rfl) rfl
 (x_iload_n g 2 dX11_step_44 rfl rfl
 (x_bipush g dX11_step_45 kB_13
 (x_icmp_lt g 69 dX11_step_47 rfl
 (fun _ => (x_aload_n g 1 dX11_step_69 rfl rfl
 (x_iconst g dX11_step_70 kI_2
 (x_callVi (As := [.int (2 : Int32)]) g mv_X11_fails mi_X11_fails lk_RX11_185 ht (fun b Mh_ hb => kX11_fails t (2 : Int32) M ht _ _ hb) rfl rfl hR ⟨Nat.le_of_ble_eq_true rfl, Nat.le_of_ble_eq_true rfl⟩ (Nat.le_of_ble_eq_true rfl) dX11_step_71 (fun v6 M7 =>
 (x_ck (fun hq8 => x_iret g hr (nbz hq8) rfl dX11_step_74)))))))
 (fun _ => (x_iload_n g 2 dX11_step_50 rfl rfl
 (x_bipush g dX11_step_51 kB_20
 (x_icmp_gt g 69 dX11_step_53 rfl
 (fun _ => (x_aload_n g 1 dX11_step_69 rfl rfl
 (x_iconst g dX11_step_70 kI_2
 (x_callVi (As := [.int (2 : Int32)]) g mv_X11_fails mi_X11_fails lk_RX11_185 ht (fun b Mh_ hb => kX11_fails t (2 : Int32) M ht _ _ hb) rfl rfl hR ⟨Nat.le_of_ble_eq_true rfl, Nat.le_of_ble_eq_true rfl⟩ (Nat.le_of_ble_eq_true rfl) dX11_step_71 (fun v9 M10 =>
 (x_ck (fun hq11 => x_iret g hr (nbz hq11) rfl dX11_step_74)))))))
 (fun _ => (x_iload_n g 2 dX11_step_56 rfl rfl
 (x_bipush g dX11_step_57 kB_19
 (x_jn (fun (J12 : Option (Int32 × Mem)) => X J (fun q : Int32 × Mem => (some (Value.int q.1), q.2)) J12 75 [(0, .ref t), (1, .int v1), (2, .int v2), (3, .int v3), (4, .int v4)] [] M) (x_iload_n g 1 dX11_step_75 rfl rfl
 (x_bipush g dX11_step_76 kB_19
 (x_jn (fun (J13 : Option (Int32 × Mem)) => X J (fun q : Int32 × Mem => (some (Value.int q.1), q.2)) J13 97 [(0, .ref t), (1, .int v1), (2, .int v2), (3, .int v3), (4, .int v4)] [] M) (x_iload g 4 dX11_step_97 rfl
 (x_jn (fun (J14 : Option (Int32 × Mem)) => X J (fun q : Int32 × Mem => (some (Value.int q.1), q.2)) J14 117 [(0, .ref t), (1, .int v1), (2, .int v2), (3, .int v3), (4, .int v4)] [] M) (x_aload_n g 0 dX11_step_117 rfl rfl
 (x_dup g dX11_step_118 rfl
 (x_getI g fl_RX11_271 rfl ht dX11_step_119
 (x_iload_n g 1 dX11_step_122 rfl rfl
 (x_bipush g dX11_step_123 kB_19
 (x_jn (fun (J16 : Int32 → Option (Int32 × Mem)) => ∀ (v15 : Int32), X J (fun q : Int32 × Mem => (some (Value.int q.1), q.2)) (J16 v15) 133 [(0, .ref t), (1, .int v1), (2, .int v2), (3, .int v3), (4, .int v4)] [.int v15, .int (M.1 t 22), .ref t] M) (fun v15 => (x_iadd g dX11_step_133
 (x_putI g fp_RX11_271 rfl (Nat.le_of_ble_eq_true rfl) ht dX11_step_134 (x_nmM (fun M17 =>
 (x_aload_n g 0 dX11_step_137 rfl rfl
 (x_getS g 1 fl_RX11_7 rfl ht dX11_step_138
 (x_iload_n g 3 dX11_step_141 rfl rfl
 (x_iload_n g 1 dX11_step_142 rfl rfl
 (x_iast g (so_11_0 ht) dX11_step_143 (x_nmM (fun M18 =>
 (x_iconst g dX11_step_144 kI_1
 (x_istore (L' := [(5, .int (1 : Int32)), (0, .ref t), (1, .int v1), (2, .int v2), (3, .int v3), (4, .int v4)]) g dX11_step_145 hn (Nat.le_of_ble_eq_true rfl) rfl
 (x_sub [1, 2, 3, 4, 5, 0] rfl (wlX11_step_147 g hr hR hn _ t v1 v2 v3 v4 ht
 (fun M20 => by exact (x_aload_n g 0 dX11_step_170 rfl rfl
 (x_getS g 1 fl_RX11_7 rfl ht dX11_step_171
 (x_sipush g dX11_step_174 kS_2604
 (x_dup2 g dX11_step_177 rfl rfl
 (x_iald g (so_11_0 ht) dX11_step_178
 (x_iconst g dX11_step_179 kI_1
 (x_iadd g dX11_step_180
 (x_iast g (so_11_0 ht) dX11_step_181 (x_nmM (fun M21 =>
 (x_aload_n g 0 dX11_step_182 rfl rfl
 (x_callVv (As := []) g mv_X11_ahead mi_X11_ahead lk_RX11_179 ht (fun b Mh_ hb => kX11_ahead φ t M21 ht _ _ hb) rfl rfl hR ⟨Nat.le_of_ble_eq_true rfl, Nat.le_of_ble_eq_true rfl⟩ (Nat.le_of_ble_eq_true rfl) dX11_step_183 (fun vu22 M23 =>
 (x_aload_n g 0 dX11_step_186 rfl rfl
 (x_iload_n g 1 dX11_step_187 rfl rfl
 (x_iload_n g 3 dX11_step_188 rfl rfl
 (x_callVi (As := [.int v1, .int v3]) g mv_X11_yearOrder mi_X11_yearOrder lk_RX11_274 ht (fun b Mh_ hb => kX11_yearOrder φ t v1 v3 M23 ht _ _ hb) rfl rfl hR ⟨Nat.le_of_ble_eq_true rfl, Nat.le_of_ble_eq_true rfl⟩ (Nat.le_of_ble_eq_true rfl) dX11_step_189 (fun v24 M25 =>
 (x_if_ne g 197 dX11_step_192 rfl
 (fun _ => (x_iload g 4 dX11_step_197 rfl
 (x_jn (fun (J27 : Mem → Option (Int32 × Mem)) => ∀ (M26 : Mem), X J (fun q : Int32 × Mem => (some (Value.int q.1), q.2)) (J27 M26) 222 [(0, .ref t), (1, .int v1), (2, .int v2), (3, .int v3)] [] M26) (fun M26 => (x_iload_n g 1 dX11_step_222 rfl rfl
 (x_bipush g dX11_step_223 kB_19
 (x_icmp_ne g 279 dX11_step_225 rfl
 (fun _ => (x_aload_n g 0 dX11_step_279 rfl rfl
 (x_bipush g dX11_step_280 kB_59
 (x_callVi (As := [.int (59 : Int32)]) g mv_X11_wantSign mi_X11_wantSign lk_RX11_246 ht (fun b Mh_ hb => kX11_wantSign φ t (59 : Int32) M26 ht _ _ hb) rfl rfl hR ⟨Nat.le_of_ble_eq_true rfl, Nat.le_of_ble_eq_true rfl⟩ (Nat.le_of_ble_eq_true rfl) dX11_step_282 (fun v28 M29 =>
 (x_ck (fun hq30 => x_iret g hr (nbz hq30) rfl dX11_step_285)))))))
 (fun _ => (x_aload_n g 0 dX11_step_228 rfl rfl
 (x_dup g dX11_step_229 rfl
 (x_getI g fl_RX11_268 rfl ht dX11_step_230
 (x_iconst g dX11_step_233 kI_1
 (x_isub g dX11_step_234
 (x_putI g fp_RX11_268 rfl (Nat.le_of_ble_eq_true rfl) ht dX11_step_235 (x_nmM (fun M31 =>
 (x_aload_n g 0 dX11_step_238 rfl rfl
 (x_getS g 1 fl_RX11_7 rfl ht dX11_step_239
 (x_iload_n g 3 dX11_step_242 rfl rfl
 (x_iconst g dX11_step_243 kI_4
 (x_iadd g dX11_step_244
 (x_aload_n g 0 dX11_step_245 rfl rfl
 (x_getS g 8 fl_RX11_44 rfl ht dX11_step_246
 (x_aload_n g 0 dX11_step_249 rfl rfl
 (x_getI g fl_RX11_268 rfl ht dX11_step_250
 (x_iald g (so_11_20 ht) dX11_step_253
 (x_iast g (so_11_0 ht) dX11_step_254 (x_nmM (fun M32 =>
 (x_aload_n g 0 dX11_step_255 rfl rfl
 (x_getS g 1 fl_RX11_7 rfl ht dX11_step_256
 (x_sipush g dX11_step_259 kS_2880
 (x_bipush g dX11_step_262 kB_6
 (x_aload_n g 0 dX11_step_264 rfl rfl
 (x_getS g 8 fl_RX11_44 rfl ht dX11_step_265
 (x_aload_n g 0 dX11_step_268 rfl rfl
 (x_getI g fl_RX11_268 rfl ht dX11_step_269
 (x_iald g (so_11_20 ht) dX11_step_272
 (x_imul g dX11_step_273
 (x_iadd g dX11_step_274
 (x_iconst g dX11_step_275 kI_4
 (x_iadd g dX11_step_276
 (x_iload_n g 2 dX11_step_277 rfl rfl
 (x_iast g (so_11_0 ht) dX11_step_278 (x_nmM (fun M33 =>
 (x_aload_n g 0 dX11_step_279 rfl rfl
 (x_bipush g dX11_step_280 kB_59
 (x_callVi (As := [.int (59 : Int32)]) g mv_X11_wantSign mi_X11_wantSign lk_RX11_246 ht (fun b Mh_ hb => kX11_wantSign φ t (59 : Int32) M33 ht _ _ hb) rfl rfl hR ⟨Nat.le_of_ble_eq_true rfl, Nat.le_of_ble_eq_true rfl⟩ (Nat.le_of_ble_eq_true rfl) dX11_step_282 (fun v34 M35 =>
 (x_ck (fun hq36 => x_iret g hr (nbz hq36) rfl dX11_step_285))))))))))))))))))))))))))))))))))))))))))))))))) (fun J27 hJ27 => (x_if_eq g 222 dX11_step_199 rfl
 (fun _ => (x_sub [0, 1, 2, 3] rfl (hJ27 M25)))
 (fun _ => (x_aload_n g 0 dX11_step_202 rfl rfl
 (x_getS g 8 fl_RX11_44 rfl ht dX11_step_203
 (x_aload_n g 0 dX11_step_206 rfl rfl
 (x_getI g fl_RX11_268 rfl ht dX11_step_207
 (x_iload_n g 2 dX11_step_210 rfl rfl
 (x_iast g (so_11_20 ht) dX11_step_211 (x_nmM (fun M37 =>
 (x_aload_n g 0 dX11_step_212 rfl rfl
 (x_dup g dX11_step_213 rfl
 (x_getI g fl_RX11_268 rfl ht dX11_step_214
 (x_iconst g dX11_step_217 kI_1
 (x_iadd g dX11_step_218
 (x_putI g fp_RX11_268 rfl (Nat.le_of_ble_eq_true rfl) ht dX11_step_219 (x_nmM (fun M38 =>
 (x_sub [0, 1, 2, 3] rfl (hJ27 M38))))))))))))))))))))))))
 (fun _ => (x_iconst g dX11_step_195 kI_0
 (x_iret g hr rfl rfl dX11_step_196))))))))))))))))))))))) φ (1 : Int32) M18)))))))))))))))) (fun J16 hJ16 => (x_icmp_ne g 132 dX11_step_125 rfl
 (fun _ => (x_iconst g dX11_step_132 kI_1
 (hJ16 (1 : Int32))))
 (fun _ => (x_iconst g dX11_step_128 kI_0
 (x_goto g 133 dX11_step_129 rfl
 (hJ16 (0 : Int32))))))))))))) (fun J14 hJ14 => (x_if_eq g 117 dX11_step_99 rfl
 (fun _ => (hJ14))
 (fun _ => (x_aload_n g 0 dX11_step_102 rfl rfl
 (x_getI g fl_RX11_268 rfl ht dX11_step_103
 (x_iconst g dX11_step_106 kI_3
 (x_icmp_ne g 117 dX11_step_107 rfl
 (fun _ => (hJ14))
 (fun _ => (x_aload_n g 0 dX11_step_110 rfl rfl
 (x_bipush g dX11_step_111 kB_7
 (x_callVi (As := [.int (7 : Int32)]) g mv_X11_fails mi_X11_fails lk_RX11_185 ht (fun b Mh_ hb => kX11_fails t (7 : Int32) M ht _ _ hb) rfl rfl hR ⟨Nat.le_of_ble_eq_true rfl, Nat.le_of_ble_eq_true rfl⟩ (Nat.le_of_ble_eq_true rfl) dX11_step_113 (fun v39 M40 =>
 (x_ck (fun hq41 => x_iret g hr (nbz hq41) rfl dX11_step_116)))))))))))))))) (fun J13 hJ13 => (x_icmp_eq g 97 dX11_step_78 rfl
 (fun _ => (hJ13))
 (fun _ => (x_aload_n g 0 dX11_step_81 rfl rfl
 (x_getI g fl_RX11_271 rfl ht dX11_step_82
 (x_bipush g dX11_step_85 kB_30
 (x_icmp_ne g 97 dX11_step_87 rfl
 (fun _ => (hJ13))
 (fun _ => (x_aload_n g 0 dX11_step_90 rfl rfl
 (x_bipush g dX11_step_91 kB_6
 (x_callVi (As := [.int (6 : Int32)]) g mv_X11_fails mi_X11_fails lk_RX11_185 ht (fun b Mh_ hb => kX11_fails t (6 : Int32) M ht _ _ hb) rfl rfl hR ⟨Nat.le_of_ble_eq_true rfl, Nat.le_of_ble_eq_true rfl⟩ (Nat.le_of_ble_eq_true rfl) dX11_step_93 (fun v42 M43 =>
 (x_ck (fun hq44 => x_iret g hr (nbz hq44) rfl dX11_step_96))))))))))))))))) (fun J12 hJ12 => (x_icmp_ne g 75 dX11_step_59 rfl
 (fun _ => (x_sub [1, 2, 3, 4, 0] rfl (hJ12)))
 (fun _ => (x_aload_n g 1 dX11_step_62 rfl rfl
 (x_getI g fl_RX11_268 rfl ht dX11_step_63
 (x_if_ne g 75 dX11_step_66 rfl
 (fun _ => (x_sub [1, 2, 3, 4, 0] rfl (hJ12)))
 (fun _ => (x_aload_n g 1 dX11_step_69 rfl rfl
 (x_iconst g dX11_step_70 kI_2
 (x_callVi (As := [.int (2 : Int32)]) g mv_X11_fails mi_X11_fails lk_RX11_185 ht (fun b Mh_ hb => kX11_fails t (2 : Int32) M ht _ _ hb) rfl rfl hR ⟨Nat.le_of_ble_eq_true rfl, Nat.le_of_ble_eq_true rfl⟩ (Nat.le_of_ble_eq_true rfl) dX11_step_71 (fun v45 M46 =>
 (x_ck (fun hq47 => x_iret g hr (nbz hq47) rfl dX11_step_74)))))))))))))))))))))))))) (fun J5 hJ5 => (x_jn (fun (J48 : Option (Int32 × Mem)) => X J (fun q : Int32 × Mem => (some (Value.int q.1), q.2)) J48 37 [(0, .ref t), (1, .int v1), (2, .int v2), (3, .int v3)] [] M) (x_iconst g dX11_step_37 kI_1
 (x_goto g 42 dX11_step_38 rfl
 (hJ5 (1 : Int32)))) (fun J48 hJ48 => (x_icmp_eq g 37 dX11_step_28 rfl
 (fun _ => (x_sub [3, 2, 1, 0] rfl (hJ48)))
 (fun _ => (x_iload_n g 2 dX11_step_31 rfl rfl
 (x_bipush g dX11_step_32 kB_18
 (x_icmp_ne g 41 dX11_step_34 rfl
 (fun _ => (x_iconst g dX11_step_41 kI_0
 (x_sub [3, 2, 1, 0] rfl (hJ5 (0 : Int32)))))
 (fun _ => (x_sub [3, 2, 1, 0] rfl (hJ48))))))))))))))))))))))))))))))))))
def lX11_years_38 (K57 : Mem → Option (Int32 × Mem)) (φ : Nat) (t : Nat) : Nat → Int32 → Mem → Option (Int32 × Mem)
  | 0, _, _ => none
  | n + 1, x2, M =>
    if x2 = 0 then
 K57 M
 else
 if (M.1 t 12) = 0 then
 K57 M
 else
 bd (fX11_step φ t M) fun v6 M7 =>
 lX11_years_38 K57 φ t n v6 M7
theorem lX11_years_38_s (K57 : Mem → Option (Int32 × Mem)) (φ : Nat) (t : Nat) (n : Nat) (x2 : Int32) (M : Mem) : lX11_years_38 K57 φ t (n + 1) x2 M =
    if x2 = 0 then
 K57 M
 else
 if (M.1 t 12) = 0 then
 K57 M
 else
 bd (fX11_step φ t M) fun v6 M7 =>
 lX11_years_38 K57 φ t n v6 M7 := rfl
theorem lX11_years_38_0 (K57 : Mem → Option (Int32 × Mem)) (φ : Nat) (t : Nat) (x2 : Int32) (M : Mem) : lX11_years_38 K57 φ t 0 x2 M = none := rfl
set_option maxRecDepth 100000 in
set_option maxHeartbeats 4000000 in
theorem wlX11_years_38 {J : JT} (g : Gd J cX11_years RX11) (hr : Rt J (some .int)) (hR : (JR J).frames = 11 ∧ (JR J).locals = 281) (hn : Jn J = 4) (K57 : Mem → Option (Int32 × Mem)) (φ : Nat) (t : Nat) (ht : isO 11 t) (hK57 : ∀ (M : Mem), X J (fun q : Int32 × Mem => (some (Value.int q.1), q.2)) (K57 M) 57 [(0, .ref t)] [] M) : ∀ (n : Nat) (x2 : Int32) (M : Mem), X J (fun q : Int32 × Mem => (some (Value.int q.1), q.2)) (lX11_years_38 K57 φ t n x2 M) 38 [(0, .ref t), (2, .int x2)] [] M := by
  intro n
  induction n with
  | zero =>
    intro x2 M
    exact x_none
  | succ n ih =>
    intro x2 M
    rw [lX11_years_38_s]
    exact (x_iload_n g 1 dX11_years_38 rfl rfl
 (x_if_eq g 57 dX11_years_39 rfl
 (fun _ => (x_sub [0] rfl (hK57 M)))
 (fun _ => (x_aload_n g 0 dX11_years_42 rfl rfl
 (x_getI g fl_RX11_148 rfl ht dX11_years_43
 (x_if_eq g 57 dX11_years_46 rfl
 (fun _ => (x_sub [0] rfl (hK57 M)))
 (fun _ => (x_aload_n g 0 dX11_years_49 rfl rfl
 (x_callVi (As := []) g mv_X11_step mi_X11_step lk_RX11_277 ht (fun b Mh_ hb => kX11_step φ t M ht _ _ hb) rfl rfl hR ⟨Nat.le_of_ble_eq_true rfl, Nat.le_of_ble_eq_true rfl⟩ (Nat.le_of_ble_eq_true rfl) dX11_years_50 (fun v6 M7 =>
 (x_istore_n (L' := [(2, .int v6), (0, .ref t)]) g dX11_years_53 rfl hn (Nat.le_of_ble_eq_true rfl) rfl
 (x_goto g 38 dX11_years_54 rfl
 (x_sub [1, 0] rfl (ih v6 M7))))))))))))))
def lX11_years_102 (t : Nat) : Nat → Int32 → Mem → Option (Int32 × Mem)
  | 0, _, _ => none
  | n + 1, x3, M =>
    if (645 : Int32) ≤ x3 then
 bd (fX11_taken t (M.1 t 22) M) fun v14 M15 =>
 some (v14, M15)
 else
 ixk ((2600 : Int32) + x3) 3900 (
 ixk x3 3900 (nm (stI M (t + 1) x3.toNatClampNeg (M.1 (t + 1) ((2600 : Int32) + x3).toNatClampNeg)) (fun M16 =>
 lX11_years_102 t n (x3 + 1) M16)))
theorem lX11_years_102_s (t : Nat) (n : Nat) (x3 : Int32) (M : Mem) : lX11_years_102 t (n + 1) x3 M =
    if (645 : Int32) ≤ x3 then
 bd (fX11_taken t (M.1 t 22) M) fun v14 M15 =>
 some (v14, M15)
 else
 ixk ((2600 : Int32) + x3) 3900 (
 ixk x3 3900 (nm (stI M (t + 1) x3.toNatClampNeg (M.1 (t + 1) ((2600 : Int32) + x3).toNatClampNeg)) (fun M16 =>
 lX11_years_102 t n (x3 + 1) M16))) := rfl
theorem lX11_years_102_0 (t : Nat) (x3 : Int32) (M : Mem) : lX11_years_102 t 0 x3 M = none := rfl
set_option maxRecDepth 100000 in
set_option maxHeartbeats 4000000 in
theorem wlX11_years_102 {J : JT} (g : Gd J cX11_years RX11) (hr : Rt J (some .int)) (hR : (JR J).frames = 11 ∧ (JR J).locals = 281) (hn : Jn J = 4) (t : Nat) (ht : isO 11 t) : ∀ (n : Nat) (x3 : Int32) (M : Mem), X J (fun q : Int32 × Mem => (some (Value.int q.1), q.2)) (lX11_years_102 t n x3 M) 102 [(0, .ref t), (3, .int x3)] [] M := by
  intro n
  induction n with
  | zero =>
    intro x3 M
    exact x_none
  | succ n ih =>
    intro x3 M
    rw [lX11_years_102_s]
    exact (x_iload_n g 1 dX11_years_102 rfl rfl
 (x_sipush g dX11_years_103 kS_645
 (x_icmp_ge g 131 dX11_years_106 rfl
 (fun _ => (x_aload_n g 0 dX11_years_131 rfl rfl
 (x_aload_n g 0 dX11_years_132 rfl rfl
 (x_getI g fl_RX11_271 rfl ht dX11_years_133
 (x_callVi (As := [.int (M.1 t 22)]) g mv_X11_taken mi_X11_taken lk_RX11_256 ht (fun b Mh_ hb => kX11_taken t (M.1 t 22) M ht _ _ hb) rfl rfl hR ⟨Nat.le_of_ble_eq_true rfl, Nat.le_of_ble_eq_true rfl⟩ (Nat.le_of_ble_eq_true rfl) dX11_years_136 (fun v14 M15 =>
 (x_iret g hr rfl rfl dX11_years_139)))))))
 (fun _ => (x_aload_n g 0 dX11_years_109 rfl rfl
 (x_getS g 1 fl_RX11_7 rfl ht dX11_years_110
 (x_iload_n g 1 dX11_years_113 rfl rfl
 (x_aload_n g 0 dX11_years_114 rfl rfl
 (x_getS g 1 fl_RX11_7 rfl ht dX11_years_115
 (x_sipush g dX11_years_118 kS_2600
 (x_iload_n g 1 dX11_years_121 rfl rfl
 (x_iadd g dX11_years_122
 (x_iald g (so_11_0 ht) dX11_years_123
 (x_iast g (so_11_0 ht) dX11_years_124 (x_nmM (fun M16 =>
 (x_iinc (L' := [(3, .int (x3 + 1)), (0, .ref t)]) (v := (x3 + 1)) g 1 dX11_years_125 rfl (by rw [kI_1]) hn (Nat.le_of_ble_eq_true rfl) rfl
 (x_goto g 102 dX11_years_128 rfl
 (x_sub [1, 0] rfl (ih (x3 + 1) M16))))))))))))))))))))
def fX11_years (φ : Nat) (t : Nat) (a1 : Int32) (M : Mem) : Option (Int32 × Mem) :=
  bd (fX11_begins φ t a1 (300 : Int32) M) fun v1 M2 =>
 if v1 = 0 then
 bd (fX11_refuse t (1 : Int32) M2) fun v19 M20 =>
 some (v19, M20)
 else
 ixk (2604 : Int32) 3900 (nm (stI M2 (t + 1) (2604 : Int32).toNatClampNeg (0 : Int32)) (fun M3 =>
 nm (stI M3 t 21 (0 : Int32)) (fun M4 =>
 nm (stI M4 t 22 (0 : Int32)) (fun M5 =>
 lX11_years_38 (fun (M8 : Mem) => jn (fun (M9 : Mem) => if (M9.1 t 18) = 0 then
 ixk (2604 : Int32) 3900 (
 ixk (4 : Int32) 3900 (nm (stI M9 (t + 1) (4 : Int32).toNatClampNeg (M9.1 (t + 1) (2604 : Int32).toNatClampNeg)) (fun M13 =>
 lX11_years_102 t φ (280 : Int32) M13)))
 else
 bd (fX11_taken t (M9.1 t 22) M9) fun v11 M12 =>
 some (v11, M12)) (fun J10 => if (M8.1 t 18) = 0 then
 if (M8.1 t 21) ≤ 0 then
 J10 M8
 else
 bd (fX11_fails t (2 : Int32) M8) fun v17 M18 =>
 J10 M18
 else
 J10 M8)) φ t φ (1 : Int32) M5))))
set_option maxRecDepth 100000 in
set_option maxHeartbeats 4000000 in
theorem kX11_years (φ : Nat) (t : Nat) (a1 : Int32) (M : Mem) (ht : isO 11 t) (l : Launch) (G : GT) {b : (Int32 × Mem)} (hE : fX11_years φ t a1 M = some b) : Ok l G yX11_years cX11_years 4 (some .int) 11 281 [.ref t, .int a1] M ((fun q : Int32 × Mem => (some (Value.int q.1), q.2)) b).1 ((fun q : Int32 × Mem => (some (Value.int q.1), q.2)) b).2 := by
  refine Ok.ofX (pj := (fun q : Int32 × Mem => (some (Value.int q.1), q.2))) (by decide) (Nat.le_of_ble_eq_true rfl) hE (fun J g hr hG hl hR hn => ?_)
  show X J (fun q : Int32 × Mem => (some (Value.int q.1), q.2)) (fX11_years φ t a1 M) 0 [(0, .ref t), (1, .int a1)] [] M
  unfold fX11_years
  exact (x_aload_n g 0 dX11_years_0 rfl rfl
 (x_iload_n g 1 dX11_years_1 rfl rfl
 (x_sipush g dX11_years_2 kS_300
 (x_callVi (As := [.int a1, .int (300 : Int32)]) g mv_X11_begins mi_X11_begins lk_RX11_249 ht (fun b Mh_ hb => kX11_begins φ t a1 (300 : Int32) M ht _ _ hb) rfl rfl hR ⟨Nat.le_of_ble_eq_true rfl, Nat.le_of_ble_eq_true rfl⟩ (Nat.le_of_ble_eq_true rfl) dX11_years_5 (fun v1 M2 =>
 (x_if_ne g 17 dX11_years_8 rfl
 (fun _ => (x_aload_n g 0 dX11_years_17 rfl rfl
 (x_getS g 1 fl_RX11_7 rfl ht dX11_years_18
 (x_sipush g dX11_years_21 kS_2604
 (x_iconst g dX11_years_24 kI_0
 (x_iast g (so_11_0 ht) dX11_years_25 (x_nmM (fun M3 =>
 (x_aload_n g 0 dX11_years_26 rfl rfl
 (x_iconst g dX11_years_27 kI_0
 (x_putI g fp_RX11_268 rfl (Nat.le_of_ble_eq_true rfl) ht dX11_years_28 (x_nmM (fun M4 =>
 (x_aload_n g 0 dX11_years_31 rfl rfl
 (x_iconst g dX11_years_32 kI_0
 (x_putI g fp_RX11_271 rfl (Nat.le_of_ble_eq_true rfl) ht dX11_years_33 (x_nmM (fun M5 =>
 (x_iconst g dX11_years_36 kI_1
 (x_istore_n (L' := [(2, .int (1 : Int32)), (0, .ref t), (1, .int a1)]) g dX11_years_37 rfl hn (Nat.le_of_ble_eq_true rfl) rfl
 (x_sub [1, 0] rfl (wlX11_years_38 g hr hR hn _ φ t ht
 (fun M8 => by exact (x_aload_n g 0 dX11_years_57 rfl rfl
 (x_getI g fl_RX11_173 rfl ht dX11_years_58
 (x_jn (fun (J10 : Mem → Option (Int32 × Mem)) => ∀ (M9 : Mem), X J (fun q : Int32 × Mem => (some (Value.int q.1), q.2)) (J10 M9) 77 [(0, .ref t)] [] M9) (fun M9 => (x_aload_n g 0 dX11_years_77 rfl rfl
 (x_getI g fl_RX11_173 rfl ht dX11_years_78
 (x_if_ne g 131 dX11_years_81 rfl
 (fun _ => (x_aload_n g 0 dX11_years_131 rfl rfl
 (x_aload_n g 0 dX11_years_132 rfl rfl
 (x_getI g fl_RX11_271 rfl ht dX11_years_133
 (x_callVi (As := [.int (M9.1 t 22)]) g mv_X11_taken mi_X11_taken lk_RX11_256 ht (fun b Mh_ hb => kX11_taken t (M9.1 t 22) M9 ht _ _ hb) rfl rfl hR ⟨Nat.le_of_ble_eq_true rfl, Nat.le_of_ble_eq_true rfl⟩ (Nat.le_of_ble_eq_true rfl) dX11_years_136 (fun v11 M12 =>
 (x_iret g hr rfl rfl dX11_years_139)))))))
 (fun _ => (x_aload_n g 0 dX11_years_84 rfl rfl
 (x_getS g 1 fl_RX11_7 rfl ht dX11_years_85
 (x_iconst g dX11_years_88 kI_4
 (x_aload_n g 0 dX11_years_89 rfl rfl
 (x_getS g 1 fl_RX11_7 rfl ht dX11_years_90
 (x_sipush g dX11_years_93 kS_2604
 (x_iald g (so_11_0 ht) dX11_years_96
 (x_iast g (so_11_0 ht) dX11_years_97 (x_nmM (fun M13 =>
 (x_sipush g dX11_years_98 kS_280
 (x_istore_n (L' := [(3, .int (280 : Int32)), (0, .ref t)]) g dX11_years_101 rfl hn (Nat.le_of_ble_eq_true rfl) rfl
 (x_sub [1, 0] rfl (wlX11_years_102 g hr hR hn  t ht φ (280 : Int32) M13))))))))))))))))))) (fun J10 hJ10 => (x_if_ne g 77 dX11_years_61 rfl
 (fun _ => (hJ10 M8))
 (fun _ => (x_aload_n g 0 dX11_years_64 rfl rfl
 (x_getI g fl_RX11_268 rfl ht dX11_years_65
 (x_if_le g 77 dX11_years_68 rfl
 (fun _ => (hJ10 M8))
 (fun _ => (x_aload_n g 0 dX11_years_71 rfl rfl
 (x_iconst g dX11_years_72 kI_2
 (x_callVi (As := [.int (2 : Int32)]) g mv_X11_fails mi_X11_fails lk_RX11_185 ht (fun b Mh_ hb => kX11_fails t (2 : Int32) M8 ht _ _ hb) rfl rfl hR ⟨Nat.le_of_ble_eq_true rfl, Nat.le_of_ble_eq_true rfl⟩ (Nat.le_of_ble_eq_true rfl) dX11_years_73 (fun v17 M18 =>
 (x_pop g dX11_years_76 rfl
 (hJ10 M18))))))))))))))))) φ (1 : Int32) M5))))))))))))))))))))))
 (fun _ => (x_aload_n g 0 dX11_years_11 rfl rfl
 (x_iconst g dX11_years_12 kI_1
 (x_callVi (As := [.int (1 : Int32)]) g mv_X11_refuse mi_X11_refuse lk_RX11_102 ht (fun b Mh_ hb => kX11_refuse t (1 : Int32) M2 ht _ _ hb) rfl rfl hR ⟨Nat.le_of_ble_eq_true rfl, Nat.le_of_ble_eq_true rfl⟩ (Nat.le_of_ble_eq_true rfl) dX11_years_13 (fun v19 M20 =>
 (x_iret g hr rfl rfl dX11_years_16))))))))))))
def fX11_told (t : Nat) (a1 : Int32) (M : Mem) : Option (Int32 × Mem) :=
  if a1 < 0 then
 bd (fX11_refuse t (1 : Int32) M) fun v1 M2 =>
 some (v1, M2)
 else
 if a1 ≤ (3 : Int32) then
 ixk a1 3900 (
 bd (fX11_gives t (M.1 (t + 1) a1.toNatClampNeg) M) fun v3 M4 =>
 some (v3, M4))
 else
 bd (fX11_refuse t (1 : Int32) M) fun v5 M6 =>
 some (v5, M6)
set_option maxRecDepth 100000 in
set_option maxHeartbeats 4000000 in
theorem kX11_told (t : Nat) (a1 : Int32) (M : Mem) (ht : isO 11 t) (l : Launch) (G : GT) {b : (Int32 × Mem)} (hE : fX11_told t a1 M = some b) : Ok l G yX11_told cX11_told 2 (some .int) 1 21 [.ref t, .int a1] M ((fun q : Int32 × Mem => (some (Value.int q.1), q.2)) b).1 ((fun q : Int32 × Mem => (some (Value.int q.1), q.2)) b).2 := by
  refine Ok.ofX (pj := (fun q : Int32 × Mem => (some (Value.int q.1), q.2))) (by decide) (Nat.le_of_ble_eq_true rfl) hE (fun J g hr hG hl hR hn => ?_)
  show X J (fun q : Int32 × Mem => (some (Value.int q.1), q.2)) (fX11_told t a1 M) 0 [(0, .ref t), (1, .int a1)] [] M
  unfold fX11_told
  exact (x_iload_n g 1 dX11_told_0 rfl rfl
 (x_if_lt g 9 dX11_told_1 rfl
 (fun _ => (x_aload_n g 0 dX11_told_9 rfl rfl
 (x_iconst g dX11_told_10 kI_1
 (x_callVi (As := [.int (1 : Int32)]) g mv_X11_refuse mi_X11_refuse lk_RX11_102 ht (fun b Mh_ hb => kX11_refuse t (1 : Int32) M ht _ _ hb) rfl rfl hR ⟨Nat.le_of_ble_eq_true rfl, Nat.le_of_ble_eq_true rfl⟩ (Nat.le_of_ble_eq_true rfl) dX11_told_11 (fun v1 M2 =>
 (x_goto g 27 dX11_told_14 rfl
 (x_iret g hr rfl rfl dX11_told_27)))))))
 (fun _ => (x_iload_n g 1 dX11_told_4 rfl rfl
 (x_iconst g dX11_told_5 kI_3
 (x_icmp_le g 17 dX11_told_6 rfl
 (fun _ => (x_aload_n g 0 dX11_told_17 rfl rfl
 (x_aload_n g 0 dX11_told_18 rfl rfl
 (x_getS g 1 fl_RX11_7 rfl ht dX11_told_19
 (x_iload_n g 1 dX11_told_22 rfl rfl
 (x_iald g (so_11_0 ht) dX11_told_23
 (x_callVi (As := [.int (M.1 (t + 1) a1.toNatClampNeg)]) g mv_X11_gives mi_X11_gives lk_RX11_106 ht (fun b Mh_ hb => kX11_gives t (M.1 (t + 1) a1.toNatClampNeg) M ht _ _ hb) rfl rfl hR ⟨Nat.le_of_ble_eq_true rfl, Nat.le_of_ble_eq_true rfl⟩ (Nat.le_of_ble_eq_true rfl) dX11_told_24 (fun v3 M4 =>
 (x_iret g hr rfl rfl dX11_told_27)))))))))
 (fun _ => (x_aload_n g 0 dX11_told_9 rfl rfl
 (x_iconst g dX11_told_10 kI_1
 (x_callVi (As := [.int (1 : Int32)]) g mv_X11_refuse mi_X11_refuse lk_RX11_102 ht (fun b Mh_ hb => kX11_refuse t (1 : Int32) M ht _ _ hb) rfl rfl hR ⟨Nat.le_of_ble_eq_true rfl, Nat.le_of_ble_eq_true rfl⟩ (Nat.le_of_ble_eq_true rfl) dX11_told_11 (fun v5 M6 =>
 (x_goto g 27 dX11_told_14 rfl
 (x_iret g hr rfl rfl dX11_told_27)))))))))))))
def fX11_isRock (t : Nat) (a1 : Int64) (M : Mem) : Option Int32 :=
  if a1 < (0 : Int64) then
 some (0 : Int32)
 else
 ixk (0 : Int32) 3900 (
 if ((M.1 (t + 1) (0 : Int32).toNatClampNeg).toInt64) ≤ a1 then
 some (0 : Int32)
 else
 some (1 : Int32))
set_option maxRecDepth 100000 in
set_option maxHeartbeats 4000000 in
theorem kX11_isRock (t : Nat) (a1 : Int64) (M : Mem) (ht : isO 11 t) (l : Launch) (G : GT) {b : Int32} (hE : fX11_isRock t a1 M = some b) : Ok l G yX11_isRock cX11_isRock 3 (some .boolean) 0 0 [.ref t, .long a1] M ((fun b : Int32 => (some (Value.int b), M)) b).1 ((fun b : Int32 => (some (Value.int b), M)) b).2 := by
  refine Ok.ofX (pj := (fun b : Int32 => (some (Value.int b), M))) (by decide) (Nat.le_of_ble_eq_true rfl) hE (fun J g hr hG hl hR hn => ?_)
  show X J (fun b : Int32 => (some (Value.int b), M)) (fX11_isRock t a1 M) 0 [(0, .ref t), (1, .long a1)] [] M
  unfold fX11_isRock
  exact (x_lload_n g 1 dX11_isRock_0 rfl rfl
 (x_lconst g dX11_isRock_1 kL_0
 (x_l_lt g 22 dX11_isRock_2 dX11_isRock_3 rfl
 (fun _ => (x_iconst g dX11_isRock_22 kI_0
 (x_iret g hr rfl rfl dX11_isRock_23)))
 (fun _ => (x_lload_n g 1 dX11_isRock_6 rfl rfl
 (x_aload_n g 0 dX11_isRock_7 rfl rfl
 (x_getS g 1 fl_RX11_7 rfl ht dX11_isRock_8
 (x_iconst g dX11_isRock_11 kI_0
 (x_iald g (so_11_0 ht) dX11_isRock_12
 (x_i2l g dX11_isRock_13
 (x_l_ge g 22 dX11_isRock_14 dX11_isRock_15 rfl
 (fun _ => (x_iconst g dX11_isRock_22 kI_0
 (x_iret g hr rfl rfl dX11_isRock_23)))
 (fun _ => (x_iconst g dX11_isRock_18 kI_1
 (x_goto g 23 dX11_isRock_19 rfl
 (x_iret g hr rfl rfl dX11_isRock_23)))))))))))))))
def fX11_skip (t : Nat) (a1 : Int32) (M : Mem) : Option (Int32 × Mem) :=
  (fX11_isRock t (a1.toInt64) M).bind fun v1 =>
 if v1 = 0 then
 bd (fX11_refuse t (1 : Int32) M) fun v2 M3 =>
 some (v2, M3)
 else
 ixk ((10 : Int32) + a1) 3900 (
 bd (fX11_gives t (M.1 (t + 1) ((10 : Int32) + a1).toNatClampNeg) M) fun v4 M5 =>
 some (v4, M5))
set_option maxRecDepth 100000 in
set_option maxHeartbeats 4000000 in
theorem kX11_skip (t : Nat) (a1 : Int32) (M : Mem) (ht : isO 11 t) (l : Launch) (G : GT) {b : (Int32 × Mem)} (hE : fX11_skip t a1 M = some b) : Ok l G yX11_skip cX11_skip 2 (some .int) 1 22 [.ref t, .int a1] M ((fun q : Int32 × Mem => (some (Value.int q.1), q.2)) b).1 ((fun q : Int32 × Mem => (some (Value.int q.1), q.2)) b).2 := by
  refine Ok.ofX (pj := (fun q : Int32 × Mem => (some (Value.int q.1), q.2))) (by decide) (Nat.le_of_ble_eq_true rfl) hE (fun J g hr hG hl hR hn => ?_)
  show X J (fun q : Int32 × Mem => (some (Value.int q.1), q.2)) (fX11_skip t a1 M) 0 [(0, .ref t), (1, .int a1)] [] M
  unfold fX11_skip
  exact (x_aload_n g 0 dX11_skip_0 rfl rfl
 (x_iload_n g 1 dX11_skip_1 rfl rfl
 (x_i2l g dX11_skip_2
 (x_callVip (As := [.long (a1.toInt64)]) g mv_X11_isRock mi_X11_isRock lk_RX11_283 ht (fun b hb => kX11_isRock t (a1.toInt64) M ht _ _ hb) rfl rfl hR ⟨Nat.le_of_ble_eq_true rfl, Nat.le_of_ble_eq_true rfl⟩ (Nat.le_of_ble_eq_true rfl) dX11_skip_3 (fun v1 =>
 (x_if_eq g 25 dX11_skip_6 rfl
 (fun _ => (x_aload_n g 0 dX11_skip_25 rfl rfl
 (x_iconst g dX11_skip_26 kI_1
 (x_callVi (As := [.int (1 : Int32)]) g mv_X11_refuse mi_X11_refuse lk_RX11_102 ht (fun b Mh_ hb => kX11_refuse t (1 : Int32) M ht _ _ hb) rfl rfl hR ⟨Nat.le_of_ble_eq_true rfl, Nat.le_of_ble_eq_true rfl⟩ (Nat.le_of_ble_eq_true rfl) dX11_skip_27 (fun v2 M3 =>
 (x_iret g hr rfl rfl dX11_skip_30))))))
 (fun _ => (x_aload_n g 0 dX11_skip_9 rfl rfl
 (x_aload_n g 0 dX11_skip_10 rfl rfl
 (x_getS g 1 fl_RX11_7 rfl ht dX11_skip_11
 (x_bipush g dX11_skip_14 kB_10
 (x_iload_n g 1 dX11_skip_16 rfl rfl
 (x_iadd g dX11_skip_17
 (x_iald g (so_11_0 ht) dX11_skip_18
 (x_callVi (As := [.int (M.1 (t + 1) ((10 : Int32) + a1).toNatClampNeg)]) g mv_X11_gives mi_X11_gives lk_RX11_106 ht (fun b Mh_ hb => kX11_gives t (M.1 (t + 1) ((10 : Int32) + a1).toNatClampNeg) M ht _ _ hb) rfl rfl hR ⟨Nat.le_of_ble_eq_true rfl, Nat.le_of_ble_eq_true rfl⟩ (Nat.le_of_ble_eq_true rfl) dX11_skip_19 (fun v4 M5 =>
 (x_goto g 30 dX11_skip_22 rfl
 (x_iret g hr rfl rfl dX11_skip_30))))))))))))))))))
def fX11_unlikeOf (t : Nat) (a1 : Int32) (a2 : Int32) (M : Mem) : Option Int32 :=
  if a1 = a2 then
 some (0 : Int32)
 else
 ixk (((18 : Int32) + ((8 : Int32) * a1)) + a2) 3900 (
 some (M.1 (t + 1) (((18 : Int32) + ((8 : Int32) * a1)) + a2).toNatClampNeg))
set_option maxRecDepth 100000 in
set_option maxHeartbeats 4000000 in
theorem kX11_unlikeOf (t : Nat) (a1 : Int32) (a2 : Int32) (M : Mem) (ht : isO 11 t) (l : Launch) (G : GT) {b : Int32} (hE : fX11_unlikeOf t a1 a2 M = some b) : Ok l G yX11_unlikeOf cX11_unlikeOf 3 (some .int) 0 0 [.ref t, .int a1, .int a2] M ((fun b : Int32 => (some (Value.int b), M)) b).1 ((fun b : Int32 => (some (Value.int b), M)) b).2 := by
  refine Ok.ofX (pj := (fun b : Int32 => (some (Value.int b), M))) (by decide) (Nat.le_of_ble_eq_true rfl) hE (fun J g hr hG hl hR hn => ?_)
  show X J (fun b : Int32 => (some (Value.int b), M)) (fX11_unlikeOf t a1 a2 M) 0 [(0, .ref t), (1, .int a1), (2, .int a2)] [] M
  unfold fX11_unlikeOf
  exact (x_iload_n g 1 dX11_unlikeOf_0 rfl rfl
 (x_iload_n g 2 dX11_unlikeOf_1 rfl rfl
 (x_icmp_ne g 9 dX11_unlikeOf_2 rfl
 (fun _ => (x_aload_n g 0 dX11_unlikeOf_9 rfl rfl
 (x_getS g 1 fl_RX11_7 rfl ht dX11_unlikeOf_10
 (x_bipush g dX11_unlikeOf_13 kB_18
 (x_bipush g dX11_unlikeOf_15 kB_8
 (x_iload_n g 1 dX11_unlikeOf_17 rfl rfl
 (x_imul g dX11_unlikeOf_18
 (x_iadd g dX11_unlikeOf_19
 (x_iload_n g 2 dX11_unlikeOf_20 rfl rfl
 (x_iadd g dX11_unlikeOf_21
 (x_iald g (so_11_0 ht) dX11_unlikeOf_22
 (x_iret g hr rfl rfl dX11_unlikeOf_23))))))))))))
 (fun _ => (x_iconst g dX11_unlikeOf_5 kI_0
 (x_goto g 23 dX11_unlikeOf_6 rfl
 (x_iret g hr rfl rfl dX11_unlikeOf_23)))))))
def fX11_unlike (t : Nat) (a1 : Int32) (a2 : Int32) (M : Mem) : Option (Int32 × Mem) :=
  (fX11_isRock t (a1.toInt64) M).bind fun v1 =>
 if v1 = 0 then
 bd (fX11_refuse t (1 : Int32) M) fun v2 M3 =>
 some (v2, M3)
 else
 (fX11_isRock t (a2.toInt64) M).bind fun v4 =>
 if v4 = 0 then
 bd (fX11_refuse t (1 : Int32) M) fun v5 M6 =>
 some (v5, M6)
 else
 (fX11_unlikeOf t a1 a2 M).bind fun v7 =>
 bd (fX11_gives t v7 M) fun v8 M9 =>
 some (v8, M9)
set_option maxRecDepth 100000 in
set_option maxHeartbeats 4000000 in
theorem kX11_unlike (t : Nat) (a1 : Int32) (a2 : Int32) (M : Mem) (ht : isO 11 t) (l : Launch) (G : GT) {b : (Int32 × Mem)} (hE : fX11_unlike t a1 a2 M = some b) : Ok l G yX11_unlike cX11_unlike 3 (some .int) 1 22 [.ref t, .int a1, .int a2] M ((fun q : Int32 × Mem => (some (Value.int q.1), q.2)) b).1 ((fun q : Int32 × Mem => (some (Value.int q.1), q.2)) b).2 := by
  refine Ok.ofX (pj := (fun q : Int32 × Mem => (some (Value.int q.1), q.2))) (by decide) (Nat.le_of_ble_eq_true rfl) hE (fun J g hr hG hl hR hn => ?_)
  show X J (fun q : Int32 × Mem => (some (Value.int q.1), q.2)) (fX11_unlike t a1 a2 M) 0 [(0, .ref t), (1, .int a1), (2, .int a2)] [] M
  unfold fX11_unlike
  exact (x_aload_n g 0 dX11_unlike_0 rfl rfl
 (x_iload_n g 1 dX11_unlike_1 rfl rfl
 (x_i2l g dX11_unlike_2
 (x_callVip (As := [.long (a1.toInt64)]) g mv_X11_isRock mi_X11_isRock lk_RX11_283 ht (fun b hb => kX11_isRock t (a1.toInt64) M ht _ _ hb) rfl rfl hR ⟨Nat.le_of_ble_eq_true rfl, Nat.le_of_ble_eq_true rfl⟩ (Nat.le_of_ble_eq_true rfl) dX11_unlike_3 (fun v1 =>
 (x_if_eq g 31 dX11_unlike_6 rfl
 (fun _ => (x_aload_n g 0 dX11_unlike_31 rfl rfl
 (x_iconst g dX11_unlike_32 kI_1
 (x_callVi (As := [.int (1 : Int32)]) g mv_X11_refuse mi_X11_refuse lk_RX11_102 ht (fun b Mh_ hb => kX11_refuse t (1 : Int32) M ht _ _ hb) rfl rfl hR ⟨Nat.le_of_ble_eq_true rfl, Nat.le_of_ble_eq_true rfl⟩ (Nat.le_of_ble_eq_true rfl) dX11_unlike_33 (fun v2 M3 =>
 (x_iret g hr rfl rfl dX11_unlike_36))))))
 (fun _ => (x_aload_n g 0 dX11_unlike_9 rfl rfl
 (x_iload_n g 2 dX11_unlike_10 rfl rfl
 (x_i2l g dX11_unlike_11
 (x_callVip (As := [.long (a2.toInt64)]) g mv_X11_isRock mi_X11_isRock lk_RX11_283 ht (fun b hb => kX11_isRock t (a2.toInt64) M ht _ _ hb) rfl rfl hR ⟨Nat.le_of_ble_eq_true rfl, Nat.le_of_ble_eq_true rfl⟩ (Nat.le_of_ble_eq_true rfl) dX11_unlike_12 (fun v4 =>
 (x_if_eq g 31 dX11_unlike_15 rfl
 (fun _ => (x_aload_n g 0 dX11_unlike_31 rfl rfl
 (x_iconst g dX11_unlike_32 kI_1
 (x_callVi (As := [.int (1 : Int32)]) g mv_X11_refuse mi_X11_refuse lk_RX11_102 ht (fun b Mh_ hb => kX11_refuse t (1 : Int32) M ht _ _ hb) rfl rfl hR ⟨Nat.le_of_ble_eq_true rfl, Nat.le_of_ble_eq_true rfl⟩ (Nat.le_of_ble_eq_true rfl) dX11_unlike_33 (fun v5 M6 =>
 (x_iret g hr rfl rfl dX11_unlike_36))))))
 (fun _ => (x_aload_n g 0 dX11_unlike_18 rfl rfl
 (x_aload_n g 0 dX11_unlike_19 rfl rfl
 (x_iload_n g 1 dX11_unlike_20 rfl rfl
 (x_iload_n g 2 dX11_unlike_21 rfl rfl
 (x_callVip (As := [.int a1, .int a2]) g mv_X11_unlikeOf mi_X11_unlikeOf lk_RX11_287 ht (fun b hb => kX11_unlikeOf t a1 a2 M ht _ _ hb) rfl rfl hR ⟨Nat.le_of_ble_eq_true rfl, Nat.le_of_ble_eq_true rfl⟩ (Nat.le_of_ble_eq_true rfl) dX11_unlike_22 (fun v7 =>
 (x_callVi (As := [.int v7]) g mv_X11_gives mi_X11_gives lk_RX11_106 ht (fun b Mh_ hb => kX11_gives t v7 M ht _ _ hb) rfl rfl hR ⟨Nat.le_of_ble_eq_true rfl, Nat.le_of_ble_eq_true rfl⟩ (Nat.le_of_ble_eq_true rfl) dX11_unlike_25 (fun v8 M9 =>
 (x_goto g 36 dX11_unlike_28 rfl
 (x_iret g hr rfl rfl dX11_unlike_36))))))))))))))))))))))))
def fX11_isHole (t : Nat) (a1 : Int32) (M : Mem) : Option Int32 :=
  if a1 < 0 then
 some (0 : Int32)
 else
 ixk (1 : Int32) 3900 (
 if (M.1 (t + 1) (1 : Int32).toNatClampNeg) ≤ a1 then
 some (0 : Int32)
 else
 some (1 : Int32))
set_option maxRecDepth 100000 in
set_option maxHeartbeats 4000000 in
theorem kX11_isHole (t : Nat) (a1 : Int32) (M : Mem) (ht : isO 11 t) (l : Launch) (G : GT) {b : Int32} (hE : fX11_isHole t a1 M = some b) : Ok l G yX11_isHole cX11_isHole 2 (some .boolean) 0 0 [.ref t, .int a1] M ((fun b : Int32 => (some (Value.int b), M)) b).1 ((fun b : Int32 => (some (Value.int b), M)) b).2 := by
  refine Ok.ofX (pj := (fun b : Int32 => (some (Value.int b), M))) (by decide) (Nat.le_of_ble_eq_true rfl) hE (fun J g hr hG hl hR hn => ?_)
  show X J (fun b : Int32 => (some (Value.int b), M)) (fX11_isHole t a1 M) 0 [(0, .ref t), (1, .int a1)] [] M
  unfold fX11_isHole
  exact (x_iload_n g 1 dX11_isHole_0 rfl rfl
 (x_if_lt g 18 dX11_isHole_1 rfl
 (fun _ => (x_iconst g dX11_isHole_18 kI_0
 (x_iret g hr rfl rfl dX11_isHole_19)))
 (fun _ => (x_iload_n g 1 dX11_isHole_4 rfl rfl
 (x_aload_n g 0 dX11_isHole_5 rfl rfl
 (x_getS g 1 fl_RX11_7 rfl ht dX11_isHole_6
 (x_iconst g dX11_isHole_9 kI_1
 (x_iald g (so_11_0 ht) dX11_isHole_10
 (x_icmp_ge g 18 dX11_isHole_11 rfl
 (fun _ => (x_iconst g dX11_isHole_18 kI_0
 (x_iret g hr rfl rfl dX11_isHole_19)))
 (fun _ => (x_iconst g dX11_isHole_14 kI_1
 (x_goto g 19 dX11_isHole_15 rfl
 (x_iret g hr rfl rfl dX11_isHole_19)))))))))))))
def fX11_holeRow (a1 : Int32) (M : Mem) : Option Int32 :=
  some ((82 : Int32) + ((27 : Int32) * a1))
set_option maxRecDepth 100000 in
set_option maxHeartbeats 4000000 in
theorem kX11_holeRow (a1 : Int32) (M : Mem) (l : Launch) (G : GT) {b : Int32} (hE : fX11_holeRow a1 M = some b) : Ok l G yX11_holeRow cX11_holeRow 1 (some .int) 0 0 [.int a1] M ((fun b : Int32 => (some (Value.int b), M)) b).1 ((fun b : Int32 => (some (Value.int b), M)) b).2 := by
  refine Ok.ofX (pj := (fun b : Int32 => (some (Value.int b), M))) (by decide) (Nat.le_of_ble_eq_true rfl) hE (fun J g hr hG hl hR hn => ?_)
  show X J (fun b : Int32 => (some (Value.int b), M)) (fX11_holeRow a1 M) 0 [(0, .int a1)] [] M
  unfold fX11_holeRow
  exact (x_bipush g dX11_holeRow_0 kB_82
 (x_bipush g dX11_holeRow_2 kB_27
 (x_iload_n g 0 dX11_holeRow_4 rfl rfl
 (x_imul g dX11_holeRow_5
 (x_iadd g dX11_holeRow_6
 (x_iret g hr rfl rfl dX11_holeRow_7))))))
def fX11_layersOf (t : Nat) (a1 : Int32) (M : Mem) : Option Int32 :=
  (fX11_holeRow a1 M).bind fun v1 =>
 ixk (v1 + (2 : Int32)) 3900 (
 some (M.1 (t + 1) (v1 + (2 : Int32)).toNatClampNeg))
set_option maxRecDepth 100000 in
set_option maxHeartbeats 4000000 in
theorem kX11_layersOf (t : Nat) (a1 : Int32) (M : Mem) (ht : isO 11 t) (l : Launch) (G : GT) {b : Int32} (hE : fX11_layersOf t a1 M = some b) : Ok l G yX11_layersOf cX11_layersOf 2 (some .int) 1 20 [.ref t, .int a1] M ((fun b : Int32 => (some (Value.int b), M)) b).1 ((fun b : Int32 => (some (Value.int b), M)) b).2 := by
  refine Ok.ofX (pj := (fun b : Int32 => (some (Value.int b), M))) (by decide) (Nat.le_of_ble_eq_true rfl) hE (fun J g hr hG hl hR hn => ?_)
  show X J (fun b : Int32 => (some (Value.int b), M)) (fX11_layersOf t a1 M) 0 [(0, .ref t), (1, .int a1)] [] M
  unfold fX11_layersOf
  exact (x_aload_n g 0 dX11_layersOf_0 rfl rfl
 (x_getS g 1 fl_RX11_7 rfl ht dX11_layersOf_1
 (x_iload_n g 1 dX11_layersOf_4 rfl rfl
 (x_callSip (As := [.int a1]) g mv_X11_holeRow ms_X11_holeRow lk_RX11_280 (fun b hb => kX11_holeRow a1 M _ _ hb) rfl rfl hR ⟨Nat.le_of_ble_eq_true rfl, Nat.le_of_ble_eq_true rfl⟩ (Nat.le_of_ble_eq_true rfl) dX11_layersOf_5 (fun v1 =>
 (x_iconst g dX11_layersOf_8 kI_2
 (x_iadd g dX11_layersOf_9
 (x_iald g (so_11_0 ht) dX11_layersOf_10
 (x_iret g hr rfl rfl dX11_layersOf_11)))))))))
def fX11_thickOf (t : Nat) (a1 : Int32) (a2 : Int32) (M : Mem) : Option Int32 :=
  (fX11_holeRow a1 M).bind fun v1 =>
 ixk (((v1 + (3 : Int32)) + ((2 : Int32) * a2)) + (1 : Int32)) 3900 (
 some (M.1 (t + 1) (((v1 + (3 : Int32)) + ((2 : Int32) * a2)) + (1 : Int32)).toNatClampNeg))
set_option maxRecDepth 100000 in
set_option maxHeartbeats 4000000 in
theorem kX11_thickOf (t : Nat) (a1 : Int32) (a2 : Int32) (M : Mem) (ht : isO 11 t) (l : Launch) (G : GT) {b : Int32} (hE : fX11_thickOf t a1 a2 M = some b) : Ok l G yX11_thickOf cX11_thickOf 3 (some .int) 1 20 [.ref t, .int a1, .int a2] M ((fun b : Int32 => (some (Value.int b), M)) b).1 ((fun b : Int32 => (some (Value.int b), M)) b).2 := by
  refine Ok.ofX (pj := (fun b : Int32 => (some (Value.int b), M))) (by decide) (Nat.le_of_ble_eq_true rfl) hE (fun J g hr hG hl hR hn => ?_)
  show X J (fun b : Int32 => (some (Value.int b), M)) (fX11_thickOf t a1 a2 M) 0 [(0, .ref t), (1, .int a1), (2, .int a2)] [] M
  unfold fX11_thickOf
  exact (x_aload_n g 0 dX11_thickOf_0 rfl rfl
 (x_getS g 1 fl_RX11_7 rfl ht dX11_thickOf_1
 (x_iload_n g 1 dX11_thickOf_4 rfl rfl
 (x_callSip (As := [.int a1]) g mv_X11_holeRow ms_X11_holeRow lk_RX11_280 (fun b hb => kX11_holeRow a1 M _ _ hb) rfl rfl hR ⟨Nat.le_of_ble_eq_true rfl, Nat.le_of_ble_eq_true rfl⟩ (Nat.le_of_ble_eq_true rfl) dX11_thickOf_5 (fun v1 =>
 (x_iconst g dX11_thickOf_8 kI_3
 (x_iadd g dX11_thickOf_9
 (x_iconst g dX11_thickOf_10 kI_2
 (x_iload_n g 2 dX11_thickOf_11 rfl rfl
 (x_imul g dX11_thickOf_12
 (x_iadd g dX11_thickOf_13
 (x_iconst g dX11_thickOf_14 kI_1
 (x_iadd g dX11_thickOf_15
 (x_iald g (so_11_0 ht) dX11_thickOf_16
 (x_iret g hr rfl rfl dX11_thickOf_17)))))))))))))))
def lX11_allThick_5 (t : Nat) (x1 : Int32) (x2 : Int32) (M : Mem) : Nat → Int32 → Int32 → Option Int32
  | 0, _, _ => none
  | n + 1, x3, x4 =>
    if x2 ≤ x4 then
 some x3
 else
 (fX11_thickOf t x1 x4 M).bind fun v1 =>
 nm (x3 + v1) (fun v2 =>
 lX11_allThick_5 t x1 x2 M n v2 (x4 + 1))
theorem lX11_allThick_5_s (t : Nat) (x1 : Int32) (x2 : Int32) (M : Mem) (n : Nat) (x3 : Int32) (x4 : Int32) : lX11_allThick_5 t x1 x2 M (n + 1) x3 x4 =
    if x2 ≤ x4 then
 some x3
 else
 (fX11_thickOf t x1 x4 M).bind fun v1 =>
 nm (x3 + v1) (fun v2 =>
 lX11_allThick_5 t x1 x2 M n v2 (x4 + 1)) := rfl
theorem lX11_allThick_5_0 (t : Nat) (x1 : Int32) (x2 : Int32) (M : Mem) (x3 : Int32) (x4 : Int32) : lX11_allThick_5 t x1 x2 M 0 x3 x4 = none := rfl
set_option maxRecDepth 100000 in
set_option maxHeartbeats 4000000 in
theorem wlX11_allThick_5 {J : JT} (g : Gd J cX11_allThick RX11) (hr : Rt J (some .int)) (hR : (JR J).frames = 2 ∧ (JR J).locals = 42) (hn : Jn J = 5) (t : Nat) (x1 : Int32) (x2 : Int32) (M : Mem) (ht : isO 11 t) : ∀ (n : Nat) (x3 : Int32) (x4 : Int32), X J (fun b : Int32 => (some (Value.int b), M)) (lX11_allThick_5 t x1 x2 M n x3 x4) 5 [(0, .ref t), (1, .int x1), (2, .int x2), (3, .int x3), (4, .int x4)] [] M := by
  intro n
  induction n with
  | zero =>
    intro x3 x4
    exact x_none
  | succ n ih =>
    intro x3 x4
    rw [lX11_allThick_5_s]
    exact (x_iload g 4 dX11_allThick_5 rfl
 (x_iload_n g 2 dX11_allThick_7 rfl rfl
 (x_icmp_ge g 27 dX11_allThick_8 rfl
 (fun _ => (x_iload_n g 3 dX11_allThick_27 rfl rfl
 (x_iret g hr rfl rfl dX11_allThick_28)))
 (fun _ => (x_iload_n g 3 dX11_allThick_11 rfl rfl
 (x_aload_n g 0 dX11_allThick_12 rfl rfl
 (x_iload_n g 1 dX11_allThick_13 rfl rfl
 (x_iload g 4 dX11_allThick_14 rfl
 (x_callVip (As := [.int x1, .int x4]) g mv_X11_thickOf mi_X11_thickOf lk_RX11_290 ht (fun b hb => kX11_thickOf t x1 x4 M ht _ _ hb) rfl rfl hR ⟨Nat.le_of_ble_eq_true rfl, Nat.le_of_ble_eq_true rfl⟩ (Nat.le_of_ble_eq_true rfl) dX11_allThick_16 (fun v1 =>
 (x_iadd g dX11_allThick_19
 (x_nmI (fun v2 => (x_istore_n (L' := [(3, .int v2), (0, .ref t), (1, .int x1), (2, .int x2), (4, .int x4)]) g dX11_allThick_20 rfl hn (Nat.le_of_ble_eq_true rfl) rfl
 (x_iinc (L' := [(4, .int (x4 + 1)), (3, .int v2), (0, .ref t), (1, .int x1), (2, .int x2)]) (v := (x4 + 1)) g 4 dX11_allThick_21 rfl (by rw [kI_1]) hn (Nat.le_of_ble_eq_true rfl) rfl
 (x_goto g 5 dX11_allThick_24 rfl
 (x_sub [2, 3, 4, 1, 0] rfl (ih v2 (x4 + 1)))))))))))))))))))
def fX11_allThick (φ : Nat) (t : Nat) (a1 : Int32) (a2 : Int32) (M : Mem) : Option Int32 :=
  lX11_allThick_5 t a1 a2 M φ (0 : Int32) (0 : Int32)
set_option maxRecDepth 100000 in
set_option maxHeartbeats 4000000 in
theorem kX11_allThick (φ : Nat) (t : Nat) (a1 : Int32) (a2 : Int32) (M : Mem) (ht : isO 11 t) (l : Launch) (G : GT) {b : Int32} (hE : fX11_allThick φ t a1 a2 M = some b) : Ok l G yX11_allThick cX11_allThick 5 (some .int) 2 42 [.ref t, .int a1, .int a2] M ((fun b : Int32 => (some (Value.int b), M)) b).1 ((fun b : Int32 => (some (Value.int b), M)) b).2 := by
  refine Ok.ofX (pj := (fun b : Int32 => (some (Value.int b), M))) (by decide) (Nat.le_of_ble_eq_true rfl) hE (fun J g hr hG hl hR hn => ?_)
  show X J (fun b : Int32 => (some (Value.int b), M)) (fX11_allThick φ t a1 a2 M) 0 [(0, .ref t), (1, .int a1), (2, .int a2)] [] M
  unfold fX11_allThick
  exact (x_iconst g dX11_allThick_0 kI_0
 (x_istore_n (L' := [(3, .int (0 : Int32)), (0, .ref t), (1, .int a1), (2, .int a2)]) g dX11_allThick_1 rfl hn (Nat.le_of_ble_eq_true rfl) rfl
 (x_iconst g dX11_allThick_2 kI_0
 (x_istore (L' := [(4, .int (0 : Int32)), (3, .int (0 : Int32)), (0, .ref t), (1, .int a1), (2, .int a2)]) g dX11_allThick_3 hn (Nat.le_of_ble_eq_true rfl) rfl
 (x_sub [2, 3, 4, 1, 0] rfl (wlX11_allThick_5 g hr hR hn  t a1 a2 M ht φ (0 : Int32) (0 : Int32)))))))
def fX11_isRight (t : Nat) (a1 : Int32) (a2 : Int32) (M : Mem) : Option Int32 :=
  nm ((268 : Int32) + ((5 : Int32) * a1)) (fun v1 =>
 ixk v1 3900 (
 ixk (v1 + (1 : Int32)) 3900 (
 ixk (v1 + (2 : Int32)) 3900 (
 ixk (v1 + (3 : Int32)) 3900 (
 (fX11_holeRow a2 M).bind fun v2 =>
 ixk v2 3900 (
 (fX11_holeRow a2 M).bind fun v3 =>
 ixk (v3 + (1 : Int32)) 3900 (
 (fX11_leftOf (M.1 (t + 1) v1.toNatClampNeg) (M.1 (t + 1) (v1 + (1 : Int32)).toNatClampNeg) (M.1 (t + 1) (v1 + (2 : Int32)).toNatClampNeg) (M.1 (t + 1) (v1 + (3 : Int32)).toNatClampNeg) (M.1 (t + 1) v2.toNatClampNeg) (M.1 (t + 1) (v3 + (1 : Int32)).toNatClampNeg) M).bind fun vz4 =>
 if (0 : Int64) ≤ vz4 then
 some (0 : Int32)
 else
 some (1 : Int32))))))))
set_option maxRecDepth 100000 in
set_option maxHeartbeats 4000000 in
theorem kX11_isRight (t : Nat) (a1 : Int32) (a2 : Int32) (M : Mem) (ht : isO 11 t) (l : Launch) (G : GT) {b : Int32} (hE : fX11_isRight t a1 a2 M = some b) : Ok l G yX11_isRight cX11_isRight 4 (some .boolean) 1 25 [.ref t, .int a1, .int a2] M ((fun b : Int32 => (some (Value.int b), M)) b).1 ((fun b : Int32 => (some (Value.int b), M)) b).2 := by
  refine Ok.ofX (pj := (fun b : Int32 => (some (Value.int b), M))) (by decide) (Nat.le_of_ble_eq_true rfl) hE (fun J g hr hG hl hR hn => ?_)
  show X J (fun b : Int32 => (some (Value.int b), M)) (fX11_isRight t a1 a2 M) 0 [(0, .ref t), (1, .int a1), (2, .int a2)] [] M
  unfold fX11_isRight
  exact (x_sipush g dX11_isRight_0 kS_268
 (x_iconst g dX11_isRight_3 kI_5
 (x_iload_n g 1 dX11_isRight_4 rfl rfl
 (x_imul g dX11_isRight_5
 (x_iadd g dX11_isRight_6
 (x_nmI (fun v1 => (x_istore_n (L' := [(3, .int v1), (0, .ref t), (1, .int a1), (2, .int a2)]) g dX11_isRight_7 rfl hn (Nat.le_of_ble_eq_true rfl) rfl
 (x_aload_n g 1 dX11_isRight_8 rfl rfl
 (x_getS g 1 fl_RX11_7 rfl ht dX11_isRight_9
 (x_iload_n g 0 dX11_isRight_12 rfl rfl
 (x_iald g (so_11_0 ht) dX11_isRight_13
 (x_aload_n g 1 dX11_isRight_14 rfl rfl
 (x_getS g 1 fl_RX11_7 rfl ht dX11_isRight_15
 (x_iload_n g 0 dX11_isRight_18 rfl rfl
 (x_iconst g dX11_isRight_19 kI_1
 (x_iadd g dX11_isRight_20
 (x_iald g (so_11_0 ht) dX11_isRight_21
 (x_aload_n g 1 dX11_isRight_22 rfl rfl
 (x_getS g 1 fl_RX11_7 rfl ht dX11_isRight_23
 (x_iload_n g 0 dX11_isRight_26 rfl rfl
 (x_iconst g dX11_isRight_27 kI_2
 (x_iadd g dX11_isRight_28
 (x_iald g (so_11_0 ht) dX11_isRight_29
 (x_aload_n g 1 dX11_isRight_30 rfl rfl
 (x_getS g 1 fl_RX11_7 rfl ht dX11_isRight_31
 (x_iload_n g 0 dX11_isRight_34 rfl rfl
 (x_iconst g dX11_isRight_35 kI_3
 (x_iadd g dX11_isRight_36
 (x_iald g (so_11_0 ht) dX11_isRight_37
 (x_aload_n g 1 dX11_isRight_38 rfl rfl
 (x_getS g 1 fl_RX11_7 rfl ht dX11_isRight_39
 (x_iload_n g 3 dX11_isRight_42 rfl rfl
 (x_callSip (As := [.int a2]) g mv_X11_holeRow ms_X11_holeRow lk_RX11_280 (fun b hb => kX11_holeRow a2 M _ _ hb) rfl rfl hR ⟨Nat.le_of_ble_eq_true rfl, Nat.le_of_ble_eq_true rfl⟩ (Nat.le_of_ble_eq_true rfl) dX11_isRight_43 (fun v2 =>
 (x_iald g (so_11_0 ht) dX11_isRight_46
 (x_aload_n g 1 dX11_isRight_47 rfl rfl
 (x_getS g 1 fl_RX11_7 rfl ht dX11_isRight_48
 (x_iload_n g 3 dX11_isRight_51 rfl rfl
 (x_callSip (As := [.int a2]) g mv_X11_holeRow ms_X11_holeRow lk_RX11_280 (fun b hb => kX11_holeRow a2 M _ _ hb) rfl rfl hR ⟨Nat.le_of_ble_eq_true rfl, Nat.le_of_ble_eq_true rfl⟩ (Nat.le_of_ble_eq_true rfl) dX11_isRight_52 (fun v3 =>
 (x_iconst g dX11_isRight_55 kI_1
 (x_iadd g dX11_isRight_56
 (x_iald g (so_11_0 ht) dX11_isRight_57
 (x_callSlp (As := [.int (M.1 (t + 1) v1.toNatClampNeg), .int (M.1 (t + 1) (v1 + (1 : Int32)).toNatClampNeg), .int (M.1 (t + 1) (v1 + (2 : Int32)).toNatClampNeg), .int (M.1 (t + 1) (v1 + (3 : Int32)).toNatClampNeg), .int (M.1 (t + 1) v2.toNatClampNeg), .int (M.1 (t + 1) (v3 + (1 : Int32)).toNatClampNeg)]) g mv_X11_leftOf ms_X11_leftOf lk_RX11_222 (fun b hb => kX11_leftOf (M.1 (t + 1) v1.toNatClampNeg) (M.1 (t + 1) (v1 + (1 : Int32)).toNatClampNeg) (M.1 (t + 1) (v1 + (2 : Int32)).toNatClampNeg) (M.1 (t + 1) (v1 + (3 : Int32)).toNatClampNeg) (M.1 (t + 1) v2.toNatClampNeg) (M.1 (t + 1) (v3 + (1 : Int32)).toNatClampNeg) M _ _ hb) rfl rfl hR ⟨Nat.le_of_ble_eq_true rfl, Nat.le_of_ble_eq_true rfl⟩ (Nat.le_of_ble_eq_true rfl) dX11_isRight_58 (fun vz4 =>
 (x_lconst g dX11_isRight_61 kL_0
 (x_l_ge g 70 dX11_isRight_62 dX11_isRight_63 rfl
 (fun _ => (x_iconst g dX11_isRight_70 kI_0
 (x_iret g hr rfl rfl dX11_isRight_71)))
 (fun _ => (x_iconst g dX11_isRight_66 kI_1
 (x_goto g 71 dX11_isRight_67 rfl
 (x_iret g hr rfl rfl dX11_isRight_71))))))))))))))))))))))))))))))))))))))))))))))))))))
def lX11_thrown_4 (t : Nat) (x1 : Int32) (M : Mem) : Nat → Int32 → Int32 → Option Int32
  | 0, _, _ => none
  | n + 1, x2, x3 =>
    ixk (3 : Int32) 3900 (
 if (M.1 (t + 1) (3 : Int32).toNatClampNeg) ≤ x3 then
 some x2
 else
 (fX11_isRight t x3 x1 M).bind fun v1 =>
 jn (fun (v2 : Int32) => nm (x2 + v2) (fun v4 =>
 lX11_thrown_4 t x1 M n v4 (x3 + 1))) (fun J3 => if v1 = 0 then
 J3 (0 : Int32)
 else
 ixk (((268 : Int32) + ((5 : Int32) * x3)) + (4 : Int32)) 3900 (
 J3 (M.1 (t + 1) (((268 : Int32) + ((5 : Int32) * x3)) + (4 : Int32)).toNatClampNeg))))
theorem lX11_thrown_4_s (t : Nat) (x1 : Int32) (M : Mem) (n : Nat) (x2 : Int32) (x3 : Int32) : lX11_thrown_4 t x1 M (n + 1) x2 x3 =
    ixk (3 : Int32) 3900 (
 if (M.1 (t + 1) (3 : Int32).toNatClampNeg) ≤ x3 then
 some x2
 else
 (fX11_isRight t x3 x1 M).bind fun v1 =>
 jn (fun (v2 : Int32) => nm (x2 + v2) (fun v4 =>
 lX11_thrown_4 t x1 M n v4 (x3 + 1))) (fun J3 => if v1 = 0 then
 J3 (0 : Int32)
 else
 ixk (((268 : Int32) + ((5 : Int32) * x3)) + (4 : Int32)) 3900 (
 J3 (M.1 (t + 1) (((268 : Int32) + ((5 : Int32) * x3)) + (4 : Int32)).toNatClampNeg)))) := rfl
theorem lX11_thrown_4_0 (t : Nat) (x1 : Int32) (M : Mem) (x2 : Int32) (x3 : Int32) : lX11_thrown_4 t x1 M 0 x2 x3 = none := rfl
set_option maxRecDepth 100000 in
set_option maxHeartbeats 4000000 in
theorem wlX11_thrown_4 {J : JT} (g : Gd J cX11_thrown RX11) (hr : Rt J (some .int)) (hR : (JR J).frames = 2 ∧ (JR J).locals = 48) (hn : Jn J = 4) (t : Nat) (x1 : Int32) (M : Mem) (ht : isO 11 t) : ∀ (n : Nat) (x2 : Int32) (x3 : Int32), X J (fun b : Int32 => (some (Value.int b), M)) (lX11_thrown_4 t x1 M n x2 x3) 4 [(0, .ref t), (1, .int x1), (2, .int x2), (3, .int x3)] [] M := by
  intro n
  induction n with
  | zero =>
    intro x2 x3
    exact x_none
  | succ n ih =>
    intro x2 x3
    rw [lX11_thrown_4_s]
    exact (x_iload_n g 3 dX11_thrown_4 rfl rfl
 (x_aload_n g 0 dX11_thrown_5 rfl rfl
 (x_getS g 1 fl_RX11_7 rfl ht dX11_thrown_6
 (x_iconst g dX11_thrown_9 kI_3
 (x_iald g (so_11_0 ht) dX11_thrown_10
 (x_icmp_ge g 50 dX11_thrown_11 rfl
 (fun _ => (x_iload_n g 2 dX11_thrown_50 rfl rfl
 (x_iret g hr rfl rfl dX11_thrown_51)))
 (fun _ => (x_iload_n g 2 dX11_thrown_14 rfl rfl
 (x_aload_n g 0 dX11_thrown_15 rfl rfl
 (x_iload_n g 3 dX11_thrown_16 rfl rfl
 (x_iload_n g 1 dX11_thrown_17 rfl rfl
 (x_callVip (As := [.int x3, .int x1]) g mv_X11_isRight mi_X11_isRight lk_RX11_293 ht (fun b hb => kX11_isRight t x3 x1 M ht _ _ hb) rfl rfl hR ⟨Nat.le_of_ble_eq_true rfl, Nat.le_of_ble_eq_true rfl⟩ (Nat.le_of_ble_eq_true rfl) dX11_thrown_18 (fun v1 =>
 (x_jn (fun (J3 : Int32 → Option Int32) => ∀ (v2 : Int32), X J (fun b : Int32 => (some (Value.int b), M)) (J3 v2) 42 [(0, .ref t), (1, .int x1), (3, .int x3)] [.int v2, .int x2] M) (fun v2 => (x_iadd g dX11_thrown_42
 (x_nmI (fun v4 => (x_istore_n (L' := [(2, .int v4), (0, .ref t), (1, .int x1), (3, .int x3)]) g dX11_thrown_43 rfl hn (Nat.le_of_ble_eq_true rfl) rfl
 (x_iinc (L' := [(3, .int (x3 + 1)), (2, .int v4), (0, .ref t), (1, .int x1)]) (v := (x3 + 1)) g 3 dX11_thrown_44 rfl (by rw [kI_1]) hn (Nat.le_of_ble_eq_true rfl) rfl
 (x_goto g 4 dX11_thrown_47 rfl
 (x_sub [2, 3, 1, 0] rfl (ih v4 (x3 + 1)))))))))) (fun J3 hJ3 => (x_if_eq g 41 dX11_thrown_21 rfl
 (fun _ => (x_iconst g dX11_thrown_41 kI_0
 (x_sub [0, 1, 3] rfl (hJ3 (0 : Int32)))))
 (fun _ => (x_aload_n g 0 dX11_thrown_24 rfl rfl
 (x_getS g 1 fl_RX11_7 rfl ht dX11_thrown_25
 (x_sipush g dX11_thrown_28 kS_268
 (x_iconst g dX11_thrown_31 kI_5
 (x_iload_n g 3 dX11_thrown_32 rfl rfl
 (x_imul g dX11_thrown_33
 (x_iadd g dX11_thrown_34
 (x_iconst g dX11_thrown_35 kI_4
 (x_iadd g dX11_thrown_36
 (x_iald g (so_11_0 ht) dX11_thrown_37
 (x_goto g 42 dX11_thrown_38 rfl
 (x_sub [0, 1, 3] rfl (hJ3 (M.1 (t + 1) (((268 : Int32) + ((5 : Int32) * x3)) + (4 : Int32)).toNatClampNeg)))))))))))))))))))))))))))))))
def fX11_thrown (φ : Nat) (t : Nat) (a1 : Int32) (M : Mem) : Option Int32 :=
  lX11_thrown_4 t a1 M φ (0 : Int32) (0 : Int32)
set_option maxRecDepth 100000 in
set_option maxHeartbeats 4000000 in
theorem kX11_thrown (φ : Nat) (t : Nat) (a1 : Int32) (M : Mem) (ht : isO 11 t) (l : Launch) (G : GT) {b : Int32} (hE : fX11_thrown φ t a1 M = some b) : Ok l G yX11_thrown cX11_thrown 4 (some .int) 2 48 [.ref t, .int a1] M ((fun b : Int32 => (some (Value.int b), M)) b).1 ((fun b : Int32 => (some (Value.int b), M)) b).2 := by
  refine Ok.ofX (pj := (fun b : Int32 => (some (Value.int b), M))) (by decide) (Nat.le_of_ble_eq_true rfl) hE (fun J g hr hG hl hR hn => ?_)
  show X J (fun b : Int32 => (some (Value.int b), M)) (fX11_thrown φ t a1 M) 0 [(0, .ref t), (1, .int a1)] [] M
  unfold fX11_thrown
  exact (x_iconst g dX11_thrown_0 kI_0
 (x_istore_n (L' := [(2, .int (0 : Int32)), (0, .ref t), (1, .int a1)]) g dX11_thrown_1 rfl hn (Nat.le_of_ble_eq_true rfl) rfl
 (x_iconst g dX11_thrown_2 kI_0
 (x_istore_n (L' := [(3, .int (0 : Int32)), (2, .int (0 : Int32)), (0, .ref t), (1, .int a1)]) g dX11_thrown_3 rfl hn (Nat.le_of_ble_eq_true rfl) rfl
 (x_sub [2, 3, 1, 0] rfl (wlX11_thrown_4 g hr hR hn  t a1 M ht φ (0 : Int32) (0 : Int32)))))))
def fX11_hole (φ : Nat) (t : Nat) (a1 : Int32) (a2 : Int32) (M : Mem) : Option (Int32 × Mem) :=
  (fX11_isHole t a1 M).bind fun v1 =>
 if v1 = 0 then
 bd (fX11_refuse t (1 : Int32) M) fun v2 M3 =>
 some (v2, M3)
 else
 if a2 < 0 then
 bd (fX11_refuse t (1 : Int32) M) fun v4 M5 =>
 some (v4, M5)
 else
 if a2 ≤ (4 : Int32) then
 if a2 = (3 : Int32) then
 (fX11_layersOf t a1 M).bind fun v12 =>
 (fX11_allThick φ t a1 v12 M).bind fun v13 =>
 bd (fX11_gives t v13 M) fun v14 M15 =>
 some (v14, M15)
 else
 if a2 = (4 : Int32) then
 (fX11_thrown φ t a1 M).bind fun v9 =>
 bd (fX11_gives t v9 M) fun v10 M11 =>
 some (v10, M11)
 else
 (fX11_holeRow a1 M).bind fun v6 =>
 ixk (v6 + a2) 3900 (
 bd (fX11_gives t (M.1 (t + 1) (v6 + a2).toNatClampNeg) M) fun v7 M8 =>
 some (v7, M8))
 else
 bd (fX11_refuse t (1 : Int32) M) fun v16 M17 =>
 some (v16, M17)
set_option maxRecDepth 100000 in
set_option maxHeartbeats 4000000 in
theorem kX11_hole (φ : Nat) (t : Nat) (a1 : Int32) (a2 : Int32) (M : Mem) (ht : isO 11 t) (l : Launch) (G : GT) {b : (Int32 × Mem)} (hE : fX11_hole φ t a1 a2 M = some b) : Ok l G yX11_hole cX11_hole 3 (some .int) 3 71 [.ref t, .int a1, .int a2] M ((fun q : Int32 × Mem => (some (Value.int q.1), q.2)) b).1 ((fun q : Int32 × Mem => (some (Value.int q.1), q.2)) b).2 := by
  refine Ok.ofX (pj := (fun q : Int32 × Mem => (some (Value.int q.1), q.2))) (by decide) (Nat.le_of_ble_eq_true rfl) hE (fun J g hr hG hl hR hn => ?_)
  show X J (fun q : Int32 × Mem => (some (Value.int q.1), q.2)) (fX11_hole φ t a1 a2 M) 0 [(0, .ref t), (1, .int a1), (2, .int a2)] [] M
  unfold fX11_hole
  exact (x_aload_n g 0 dX11_hole_0 rfl rfl
 (x_iload_n g 1 dX11_hole_1 rfl rfl
 (x_callVip (As := [.int a1]) g mv_X11_isHole mi_X11_isHole lk_RX11_302 ht (fun b hb => kX11_isHole t a1 M ht _ _ hb) rfl rfl hR ⟨Nat.le_of_ble_eq_true rfl, Nat.le_of_ble_eq_true rfl⟩ (Nat.le_of_ble_eq_true rfl) dX11_hole_2 (fun v1 =>
 (x_if_eq g 17 dX11_hole_5 rfl
 (fun _ => (x_aload_n g 0 dX11_hole_17 rfl rfl
 (x_iconst g dX11_hole_18 kI_1
 (x_callVi (As := [.int (1 : Int32)]) g mv_X11_refuse mi_X11_refuse lk_RX11_102 ht (fun b Mh_ hb => kX11_refuse t (1 : Int32) M ht _ _ hb) rfl rfl hR ⟨Nat.le_of_ble_eq_true rfl, Nat.le_of_ble_eq_true rfl⟩ (Nat.le_of_ble_eq_true rfl) dX11_hole_19 (fun v2 M3 =>
 (x_iret g hr rfl rfl dX11_hole_22))))))
 (fun _ => (x_iload_n g 2 dX11_hole_8 rfl rfl
 (x_if_lt g 17 dX11_hole_9 rfl
 (fun _ => (x_aload_n g 0 dX11_hole_17 rfl rfl
 (x_iconst g dX11_hole_18 kI_1
 (x_callVi (As := [.int (1 : Int32)]) g mv_X11_refuse mi_X11_refuse lk_RX11_102 ht (fun b Mh_ hb => kX11_refuse t (1 : Int32) M ht _ _ hb) rfl rfl hR ⟨Nat.le_of_ble_eq_true rfl, Nat.le_of_ble_eq_true rfl⟩ (Nat.le_of_ble_eq_true rfl) dX11_hole_19 (fun v4 M5 =>
 (x_iret g hr rfl rfl dX11_hole_22))))))
 (fun _ => (x_iload_n g 2 dX11_hole_12 rfl rfl
 (x_iconst g dX11_hole_13 kI_4
 (x_icmp_le g 23 dX11_hole_14 rfl
 (fun _ => (x_aload_n g 0 dX11_hole_23 rfl rfl
 (x_iload_n g 2 dX11_hole_24 rfl rfl
 (x_iconst g dX11_hole_25 kI_3
 (x_icmp_ne g 42 dX11_hole_26 rfl
 (fun _ => (x_iload_n g 2 dX11_hole_42 rfl rfl
 (x_iconst g dX11_hole_43 kI_4
 (x_icmp_ne g 55 dX11_hole_44 rfl
 (fun _ => (x_aload_n g 0 dX11_hole_55 rfl rfl
 (x_getS g 1 fl_RX11_7 rfl ht dX11_hole_56
 (x_iload_n g 1 dX11_hole_59 rfl rfl
 (x_callSip (As := [.int a1]) g mv_X11_holeRow ms_X11_holeRow lk_RX11_280 (fun b hb => kX11_holeRow a1 M _ _ hb) rfl rfl hR ⟨Nat.le_of_ble_eq_true rfl, Nat.le_of_ble_eq_true rfl⟩ (Nat.le_of_ble_eq_true rfl) dX11_hole_60 (fun v6 =>
 (x_iload_n g 2 dX11_hole_63 rfl rfl
 (x_iadd g dX11_hole_64
 (x_iald g (so_11_0 ht) dX11_hole_65
 (x_callVi (As := [.int (M.1 (t + 1) (v6 + a2).toNatClampNeg)]) g mv_X11_gives mi_X11_gives lk_RX11_106 ht (fun b Mh_ hb => kX11_gives t (M.1 (t + 1) (v6 + a2).toNatClampNeg) M ht _ _ hb) rfl rfl hR ⟨Nat.le_of_ble_eq_true rfl, Nat.le_of_ble_eq_true rfl⟩ (Nat.le_of_ble_eq_true rfl) dX11_hole_66 (fun v7 M8 =>
 (x_iret g hr rfl rfl dX11_hole_69))))))))))))
 (fun _ => (x_aload_n g 0 dX11_hole_47 rfl rfl
 (x_iload_n g 1 dX11_hole_48 rfl rfl
 (x_callVip (As := [.int a1]) g mv_X11_thrown mi_X11_thrown lk_RX11_296 ht (fun b hb => kX11_thrown φ t a1 M ht _ _ hb) rfl rfl hR ⟨Nat.le_of_ble_eq_true rfl, Nat.le_of_ble_eq_true rfl⟩ (Nat.le_of_ble_eq_true rfl) dX11_hole_49 (fun v9 =>
 (x_goto g 66 dX11_hole_52 rfl
 (x_callVi (As := [.int v9]) g mv_X11_gives mi_X11_gives lk_RX11_106 ht (fun b Mh_ hb => kX11_gives t v9 M ht _ _ hb) rfl rfl hR ⟨Nat.le_of_ble_eq_true rfl, Nat.le_of_ble_eq_true rfl⟩ (Nat.le_of_ble_eq_true rfl) dX11_hole_66 (fun v10 M11 =>
 (x_iret g hr rfl rfl dX11_hole_69)))))))))))))
 (fun _ => (x_aload_n g 0 dX11_hole_29 rfl rfl
 (x_iload_n g 1 dX11_hole_30 rfl rfl
 (x_aload_n g 0 dX11_hole_31 rfl rfl
 (x_iload_n g 1 dX11_hole_32 rfl rfl
 (x_callVip (As := [.int a1]) g mv_X11_layersOf mi_X11_layersOf lk_RX11_305 ht (fun b hb => kX11_layersOf t a1 M ht _ _ hb) rfl rfl hR ⟨Nat.le_of_ble_eq_true rfl, Nat.le_of_ble_eq_true rfl⟩ (Nat.le_of_ble_eq_true rfl) dX11_hole_33 (fun v12 =>
 (x_callVip (As := [.int a1, .int v12]) g mv_X11_allThick mi_X11_allThick lk_RX11_299 ht (fun b hb => kX11_allThick φ t a1 v12 M ht _ _ hb) rfl rfl hR ⟨Nat.le_of_ble_eq_true rfl, Nat.le_of_ble_eq_true rfl⟩ (Nat.le_of_ble_eq_true rfl) dX11_hole_36 (fun v13 =>
 (x_goto g 66 dX11_hole_39 rfl
 (x_callVi (As := [.int v13]) g mv_X11_gives mi_X11_gives lk_RX11_106 ht (fun b Mh_ hb => kX11_gives t v13 M ht _ _ hb) rfl rfl hR ⟨Nat.le_of_ble_eq_true rfl, Nat.le_of_ble_eq_true rfl⟩ (Nat.le_of_ble_eq_true rfl) dX11_hole_66 (fun v14 M15 =>
 (x_iret g hr rfl rfl dX11_hole_69))))))))))))))))))
 (fun _ => (x_aload_n g 0 dX11_hole_17 rfl rfl
 (x_iconst g dX11_hole_18 kI_1
 (x_callVi (As := [.int (1 : Int32)]) g mv_X11_refuse mi_X11_refuse lk_RX11_102 ht (fun b Mh_ hb => kX11_refuse t (1 : Int32) M ht _ _ hb) rfl rfl hR ⟨Nat.le_of_ble_eq_true rfl, Nat.le_of_ble_eq_true rfl⟩ (Nat.le_of_ble_eq_true rfl) dX11_hole_19 (fun v16 M17 =>
 (x_iret g hr rfl rfl dX11_hole_22))))))))))))))))))
def fX11_isLayer (t : Nat) (a1 : Int32) (a2 : Int32) (M : Mem) : Option Int32 :=
  (fX11_isHole t a1 M).bind fun v1 =>
 if v1 = 0 then
 some (0 : Int32)
 else
 if a2 < 0 then
 some (0 : Int32)
 else
 (fX11_layersOf t a1 M).bind fun v2 =>
 if v2 ≤ a2 then
 some (0 : Int32)
 else
 some (1 : Int32)
set_option maxRecDepth 100000 in
set_option maxHeartbeats 4000000 in
theorem kX11_isLayer (t : Nat) (a1 : Int32) (a2 : Int32) (M : Mem) (ht : isO 11 t) (l : Launch) (G : GT) {b : Int32} (hE : fX11_isLayer t a1 a2 M = some b) : Ok l G yX11_isLayer cX11_isLayer 3 (some .boolean) 2 41 [.ref t, .int a1, .int a2] M ((fun b : Int32 => (some (Value.int b), M)) b).1 ((fun b : Int32 => (some (Value.int b), M)) b).2 := by
  refine Ok.ofX (pj := (fun b : Int32 => (some (Value.int b), M))) (by decide) (Nat.le_of_ble_eq_true rfl) hE (fun J g hr hG hl hR hn => ?_)
  show X J (fun b : Int32 => (some (Value.int b), M)) (fX11_isLayer t a1 a2 M) 0 [(0, .ref t), (1, .int a1), (2, .int a2)] [] M
  unfold fX11_isLayer
  exact (x_aload_n g 0 dX11_isLayer_0 rfl rfl
 (x_iload_n g 1 dX11_isLayer_1 rfl rfl
 (x_callVip (As := [.int a1]) g mv_X11_isHole mi_X11_isHole lk_RX11_302 ht (fun b hb => kX11_isHole t a1 M ht _ _ hb) rfl rfl hR ⟨Nat.le_of_ble_eq_true rfl, Nat.le_of_ble_eq_true rfl⟩ (Nat.le_of_ble_eq_true rfl) dX11_isLayer_2 (fun v1 =>
 (x_if_eq g 25 dX11_isLayer_5 rfl
 (fun _ => (x_iconst g dX11_isLayer_25 kI_0
 (x_iret g hr rfl rfl dX11_isLayer_26)))
 (fun _ => (x_iload_n g 2 dX11_isLayer_8 rfl rfl
 (x_if_lt g 25 dX11_isLayer_9 rfl
 (fun _ => (x_iconst g dX11_isLayer_25 kI_0
 (x_iret g hr rfl rfl dX11_isLayer_26)))
 (fun _ => (x_iload_n g 2 dX11_isLayer_12 rfl rfl
 (x_aload_n g 0 dX11_isLayer_13 rfl rfl
 (x_iload_n g 1 dX11_isLayer_14 rfl rfl
 (x_callVip (As := [.int a1]) g mv_X11_layersOf mi_X11_layersOf lk_RX11_305 ht (fun b hb => kX11_layersOf t a1 M ht _ _ hb) rfl rfl hR ⟨Nat.le_of_ble_eq_true rfl, Nat.le_of_ble_eq_true rfl⟩ (Nat.le_of_ble_eq_true rfl) dX11_isLayer_15 (fun v2 =>
 (x_icmp_ge g 25 dX11_isLayer_18 rfl
 (fun _ => (x_iconst g dX11_isLayer_25 kI_0
 (x_iret g hr rfl rfl dX11_isLayer_26)))
 (fun _ => (x_iconst g dX11_isLayer_21 kI_1
 (x_goto g 26 dX11_isLayer_22 rfl
 (x_iret g hr rfl rfl dX11_isLayer_26)))))))))))))))))))
def fX11_rockOf (t : Nat) (a1 : Int32) (a2 : Int32) (M : Mem) : Option Int32 :=
  (fX11_holeRow a1 M).bind fun v1 =>
 ixk ((v1 + (3 : Int32)) + ((2 : Int32) * a2)) 3900 (
 some (M.1 (t + 1) ((v1 + (3 : Int32)) + ((2 : Int32) * a2)).toNatClampNeg))
set_option maxRecDepth 100000 in
set_option maxHeartbeats 4000000 in
theorem kX11_rockOf (t : Nat) (a1 : Int32) (a2 : Int32) (M : Mem) (ht : isO 11 t) (l : Launch) (G : GT) {b : Int32} (hE : fX11_rockOf t a1 a2 M = some b) : Ok l G yX11_rockOf cX11_rockOf 3 (some .int) 1 20 [.ref t, .int a1, .int a2] M ((fun b : Int32 => (some (Value.int b), M)) b).1 ((fun b : Int32 => (some (Value.int b), M)) b).2 := by
  refine Ok.ofX (pj := (fun b : Int32 => (some (Value.int b), M))) (by decide) (Nat.le_of_ble_eq_true rfl) hE (fun J g hr hG hl hR hn => ?_)
  show X J (fun b : Int32 => (some (Value.int b), M)) (fX11_rockOf t a1 a2 M) 0 [(0, .ref t), (1, .int a1), (2, .int a2)] [] M
  unfold fX11_rockOf
  exact (x_aload_n g 0 dX11_rockOf_0 rfl rfl
 (x_getS g 1 fl_RX11_7 rfl ht dX11_rockOf_1
 (x_iload_n g 1 dX11_rockOf_4 rfl rfl
 (x_callSip (As := [.int a1]) g mv_X11_holeRow ms_X11_holeRow lk_RX11_280 (fun b hb => kX11_holeRow a1 M _ _ hb) rfl rfl hR ⟨Nat.le_of_ble_eq_true rfl, Nat.le_of_ble_eq_true rfl⟩ (Nat.le_of_ble_eq_true rfl) dX11_rockOf_5 (fun v1 =>
 (x_iconst g dX11_rockOf_8 kI_3
 (x_iadd g dX11_rockOf_9
 (x_iconst g dX11_rockOf_10 kI_2
 (x_iload_n g 2 dX11_rockOf_11 rfl rfl
 (x_imul g dX11_rockOf_12
 (x_iadd g dX11_rockOf_13
 (x_iald g (so_11_0 ht) dX11_rockOf_14
 (x_iret g hr rfl rfl dX11_rockOf_15)))))))))))))
def fX11_depthOf (φ : Nat) (t : Nat) (a1 : Int32) (a2 : Int32) (M : Mem) : Option Int32 :=
  (fX11_thrown φ t a1 M).bind fun v1 =>
 (fX11_allThick φ t a1 a2 M).bind fun v2 =>
 some (v1 + v2)
set_option maxRecDepth 100000 in
set_option maxHeartbeats 4000000 in
theorem kX11_depthOf (φ : Nat) (t : Nat) (a1 : Int32) (a2 : Int32) (M : Mem) (ht : isO 11 t) (l : Launch) (G : GT) {b : Int32} (hE : fX11_depthOf φ t a1 a2 M = some b) : Ok l G yX11_depthOf cX11_depthOf 3 (some .int) 3 71 [.ref t, .int a1, .int a2] M ((fun b : Int32 => (some (Value.int b), M)) b).1 ((fun b : Int32 => (some (Value.int b), M)) b).2 := by
  refine Ok.ofX (pj := (fun b : Int32 => (some (Value.int b), M))) (by decide) (Nat.le_of_ble_eq_true rfl) hE (fun J g hr hG hl hR hn => ?_)
  show X J (fun b : Int32 => (some (Value.int b), M)) (fX11_depthOf φ t a1 a2 M) 0 [(0, .ref t), (1, .int a1), (2, .int a2)] [] M
  unfold fX11_depthOf
  exact (x_aload_n g 0 dX11_depthOf_0 rfl rfl
 (x_iload_n g 1 dX11_depthOf_1 rfl rfl
 (x_callVip (As := [.int a1]) g mv_X11_thrown mi_X11_thrown lk_RX11_296 ht (fun b hb => kX11_thrown φ t a1 M ht _ _ hb) rfl rfl hR ⟨Nat.le_of_ble_eq_true rfl, Nat.le_of_ble_eq_true rfl⟩ (Nat.le_of_ble_eq_true rfl) dX11_depthOf_2 (fun v1 =>
 (x_aload_n g 0 dX11_depthOf_5 rfl rfl
 (x_iload_n g 1 dX11_depthOf_6 rfl rfl
 (x_iload_n g 2 dX11_depthOf_7 rfl rfl
 (x_callVip (As := [.int a1, .int a2]) g mv_X11_allThick mi_X11_allThick lk_RX11_299 ht (fun b hb => kX11_allThick φ t a1 a2 M ht _ _ hb) rfl rfl hR ⟨Nat.le_of_ble_eq_true rfl, Nat.le_of_ble_eq_true rfl⟩ (Nat.le_of_ble_eq_true rfl) dX11_depthOf_8 (fun v2 =>
 (x_iadd g dX11_depthOf_11
 (x_iret g hr rfl rfl dX11_depthOf_12)))))))))))
def fX11_layer (φ : Nat) (t : Nat) (a1 : Int32) (a2 : Int32) (a3 : Int32) (M : Mem) : Option (Int32 × Mem) :=
  (fX11_isLayer t a1 a2 M).bind fun v1 =>
 if v1 = 0 then
 bd (fX11_refuse t (1 : Int32) M) fun v2 M3 =>
 some (v2, M3)
 else
 if a3 < 0 then
 bd (fX11_refuse t (1 : Int32) M) fun v4 M5 =>
 some (v4, M5)
 else
 if a3 ≤ (2 : Int32) then
 if a3 = 0 then
 (fX11_rockOf t a1 a2 M).bind fun v12 =>
 bd (fX11_gives t v12 M) fun v13 M14 =>
 some (v13, M14)
 else
 if a3 = (1 : Int32) then
 (fX11_thickOf t a1 a2 M).bind fun v9 =>
 bd (fX11_gives t v9 M) fun v10 M11 =>
 some (v10, M11)
 else
 (fX11_depthOf φ t a1 a2 M).bind fun v6 =>
 bd (fX11_gives t v6 M) fun v7 M8 =>
 some (v7, M8)
 else
 bd (fX11_refuse t (1 : Int32) M) fun v15 M16 =>
 some (v15, M16)
set_option maxRecDepth 100000 in
set_option maxHeartbeats 4000000 in
theorem kX11_layer (φ : Nat) (t : Nat) (a1 : Int32) (a2 : Int32) (a3 : Int32) (M : Mem) (ht : isO 11 t) (l : Launch) (G : GT) {b : (Int32 × Mem)} (hE : fX11_layer φ t a1 a2 a3 M = some b) : Ok l G yX11_layer cX11_layer 4 (some .int) 4 93 [.ref t, .int a1, .int a2, .int a3] M ((fun q : Int32 × Mem => (some (Value.int q.1), q.2)) b).1 ((fun q : Int32 × Mem => (some (Value.int q.1), q.2)) b).2 := by
  refine Ok.ofX (pj := (fun q : Int32 × Mem => (some (Value.int q.1), q.2))) (by decide) (Nat.le_of_ble_eq_true rfl) hE (fun J g hr hG hl hR hn => ?_)
  show X J (fun q : Int32 × Mem => (some (Value.int q.1), q.2)) (fX11_layer φ t a1 a2 a3 M) 0 [(0, .ref t), (1, .int a1), (2, .int a2), (3, .int a3)] [] M
  unfold fX11_layer
  exact (x_aload_n g 0 dX11_layer_0 rfl rfl
 (x_iload_n g 1 dX11_layer_1 rfl rfl
 (x_iload_n g 2 dX11_layer_2 rfl rfl
 (x_callVip (As := [.int a1, .int a2]) g mv_X11_isLayer mi_X11_isLayer lk_RX11_308 ht (fun b hb => kX11_isLayer t a1 a2 M ht _ _ hb) rfl rfl hR ⟨Nat.le_of_ble_eq_true rfl, Nat.le_of_ble_eq_true rfl⟩ (Nat.le_of_ble_eq_true rfl) dX11_layer_3 (fun v1 =>
 (x_if_eq g 18 dX11_layer_6 rfl
 (fun _ => (x_aload_n g 0 dX11_layer_18 rfl rfl
 (x_iconst g dX11_layer_19 kI_1
 (x_callVi (As := [.int (1 : Int32)]) g mv_X11_refuse mi_X11_refuse lk_RX11_102 ht (fun b Mh_ hb => kX11_refuse t (1 : Int32) M ht _ _ hb) rfl rfl hR ⟨Nat.le_of_ble_eq_true rfl, Nat.le_of_ble_eq_true rfl⟩ (Nat.le_of_ble_eq_true rfl) dX11_layer_20 (fun v2 M3 =>
 (x_iret g hr rfl rfl dX11_layer_23))))))
 (fun _ => (x_iload_n g 3 dX11_layer_9 rfl rfl
 (x_if_lt g 18 dX11_layer_10 rfl
 (fun _ => (x_aload_n g 0 dX11_layer_18 rfl rfl
 (x_iconst g dX11_layer_19 kI_1
 (x_callVi (As := [.int (1 : Int32)]) g mv_X11_refuse mi_X11_refuse lk_RX11_102 ht (fun b Mh_ hb => kX11_refuse t (1 : Int32) M ht _ _ hb) rfl rfl hR ⟨Nat.le_of_ble_eq_true rfl, Nat.le_of_ble_eq_true rfl⟩ (Nat.le_of_ble_eq_true rfl) dX11_layer_20 (fun v4 M5 =>
 (x_iret g hr rfl rfl dX11_layer_23))))))
 (fun _ => (x_iload_n g 3 dX11_layer_13 rfl rfl
 (x_iconst g dX11_layer_14 kI_2
 (x_icmp_le g 24 dX11_layer_15 rfl
 (fun _ => (x_aload_n g 0 dX11_layer_24 rfl rfl
 (x_iload_n g 3 dX11_layer_25 rfl rfl
 (x_if_ne g 38 dX11_layer_26 rfl
 (fun _ => (x_iload_n g 3 dX11_layer_38 rfl rfl
 (x_iconst g dX11_layer_39 kI_1
 (x_icmp_ne g 52 dX11_layer_40 rfl
 (fun _ => (x_aload_n g 0 dX11_layer_52 rfl rfl
 (x_iload_n g 1 dX11_layer_53 rfl rfl
 (x_iload_n g 2 dX11_layer_54 rfl rfl
 (x_callVip (As := [.int a1, .int a2]) g mv_X11_depthOf mi_X11_depthOf lk_RX11_314 ht (fun b hb => kX11_depthOf φ t a1 a2 M ht _ _ hb) rfl rfl hR ⟨Nat.le_of_ble_eq_true rfl, Nat.le_of_ble_eq_true rfl⟩ (Nat.le_of_ble_eq_true rfl) dX11_layer_55 (fun v6 =>
 (x_callVi (As := [.int v6]) g mv_X11_gives mi_X11_gives lk_RX11_106 ht (fun b Mh_ hb => kX11_gives t v6 M ht _ _ hb) rfl rfl hR ⟨Nat.le_of_ble_eq_true rfl, Nat.le_of_ble_eq_true rfl⟩ (Nat.le_of_ble_eq_true rfl) dX11_layer_58 (fun v7 M8 =>
 (x_iret g hr rfl rfl dX11_layer_61)))))))))
 (fun _ => (x_aload_n g 0 dX11_layer_43 rfl rfl
 (x_iload_n g 1 dX11_layer_44 rfl rfl
 (x_iload_n g 2 dX11_layer_45 rfl rfl
 (x_callVip (As := [.int a1, .int a2]) g mv_X11_thickOf mi_X11_thickOf lk_RX11_290 ht (fun b hb => kX11_thickOf t a1 a2 M ht _ _ hb) rfl rfl hR ⟨Nat.le_of_ble_eq_true rfl, Nat.le_of_ble_eq_true rfl⟩ (Nat.le_of_ble_eq_true rfl) dX11_layer_46 (fun v9 =>
 (x_goto g 58 dX11_layer_49 rfl
 (x_callVi (As := [.int v9]) g mv_X11_gives mi_X11_gives lk_RX11_106 ht (fun b Mh_ hb => kX11_gives t v9 M ht _ _ hb) rfl rfl hR ⟨Nat.le_of_ble_eq_true rfl, Nat.le_of_ble_eq_true rfl⟩ (Nat.le_of_ble_eq_true rfl) dX11_layer_58 (fun v10 M11 =>
 (x_iret g hr rfl rfl dX11_layer_61))))))))))))))
 (fun _ => (x_aload_n g 0 dX11_layer_29 rfl rfl
 (x_iload_n g 1 dX11_layer_30 rfl rfl
 (x_iload_n g 2 dX11_layer_31 rfl rfl
 (x_callVip (As := [.int a1, .int a2]) g mv_X11_rockOf mi_X11_rockOf lk_RX11_311 ht (fun b hb => kX11_rockOf t a1 a2 M ht _ _ hb) rfl rfl hR ⟨Nat.le_of_ble_eq_true rfl, Nat.le_of_ble_eq_true rfl⟩ (Nat.le_of_ble_eq_true rfl) dX11_layer_32 (fun v12 =>
 (x_goto g 58 dX11_layer_35 rfl
 (x_callVi (As := [.int v12]) g mv_X11_gives mi_X11_gives lk_RX11_106 ht (fun b Mh_ hb => kX11_gives t v12 M ht _ _ hb) rfl rfl hR ⟨Nat.le_of_ble_eq_true rfl, Nat.le_of_ble_eq_true rfl⟩ (Nat.le_of_ble_eq_true rfl) dX11_layer_58 (fun v13 M14 =>
 (x_iret g hr rfl rfl dX11_layer_61))))))))))))))
 (fun _ => (x_aload_n g 0 dX11_layer_18 rfl rfl
 (x_iconst g dX11_layer_19 kI_1
 (x_callVi (As := [.int (1 : Int32)]) g mv_X11_refuse mi_X11_refuse lk_RX11_102 ht (fun b Mh_ hb => kX11_refuse t (1 : Int32) M ht _ _ hb) rfl rfl hR ⟨Nat.le_of_ble_eq_true rfl, Nat.le_of_ble_eq_true rfl⟩ (Nat.le_of_ble_eq_true rfl) dX11_layer_20 (fun v15 M16 =>
 (x_iret g hr rfl rfl dX11_layer_23)))))))))))))))))))
def lX11_layerAt_20 (φ : Nat) (t : Nat) (x1 : Int32) (x2 : Int32) (M : Mem) : Nat → Int32 → Option (Int32 × Mem)
  | 0, _ => none
  | n + 1, x3 =>
    (fX11_layersOf t x1 M).bind fun v4 =>
 if v4 ≤ x3 then
 bd (fX11_refuse t (6 : Int32) M) fun v5 M6 =>
 some (v5, M6)
 else
 (fX11_depthOf φ t x1 x3 M).bind fun v7 =>
 jn (lX11_layerAt_20 φ t x1 x2 M n (x3 + 1)) (fun J8 => if x2 < v7 then
 J8
 else
 (fX11_depthOf φ t x1 x3 M).bind fun v9 =>
 (fX11_thickOf t x1 x3 M).bind fun v10 =>
 if (v9 + v10) ≤ x2 then
 J8
 else
 bd (fX11_gives t x3 M) fun v11 M12 =>
 some (v11, M12))
theorem lX11_layerAt_20_s (φ : Nat) (t : Nat) (x1 : Int32) (x2 : Int32) (M : Mem) (n : Nat) (x3 : Int32) : lX11_layerAt_20 φ t x1 x2 M (n + 1) x3 =
    (fX11_layersOf t x1 M).bind fun v4 =>
 if v4 ≤ x3 then
 bd (fX11_refuse t (6 : Int32) M) fun v5 M6 =>
 some (v5, M6)
 else
 (fX11_depthOf φ t x1 x3 M).bind fun v7 =>
 jn (lX11_layerAt_20 φ t x1 x2 M n (x3 + 1)) (fun J8 => if x2 < v7 then
 J8
 else
 (fX11_depthOf φ t x1 x3 M).bind fun v9 =>
 (fX11_thickOf t x1 x3 M).bind fun v10 =>
 if (v9 + v10) ≤ x2 then
 J8
 else
 bd (fX11_gives t x3 M) fun v11 M12 =>
 some (v11, M12)) := rfl
theorem lX11_layerAt_20_0 (φ : Nat) (t : Nat) (x1 : Int32) (x2 : Int32) (M : Mem) (x3 : Int32) : lX11_layerAt_20 φ t x1 x2 M 0 x3 = none := rfl
set_option maxRecDepth 100000 in
set_option maxHeartbeats 4000000 in
theorem wlX11_layerAt_20 {J : JT} (g : Gd J cX11_layerAt RX11) (hr : Rt J (some .int)) (hR : (JR J).frames = 4 ∧ (JR J).locals = 93) (hn : Jn J = 4) (φ : Nat) (t : Nat) (x1 : Int32) (x2 : Int32) (M : Mem) (ht : isO 11 t) : ∀ (n : Nat) (x3 : Int32), X J (fun q : Int32 × Mem => (some (Value.int q.1), q.2)) (lX11_layerAt_20 φ t x1 x2 M n x3) 20 [(0, .ref t), (1, .int x1), (2, .int x2), (3, .int x3)] [] M := by
  intro n
  induction n with
  | zero =>
    intro x3
    exact x_none
  | succ n ih =>
    intro x3
    rw [lX11_layerAt_20_s]
    exact (x_iload_n g 3 dX11_layerAt_20 rfl rfl
 (x_aload_n g 0 dX11_layerAt_21 rfl rfl
 (x_iload_n g 1 dX11_layerAt_22 rfl rfl
 (x_callVip (As := [.int x1]) g mv_X11_layersOf mi_X11_layersOf lk_RX11_305 ht (fun b hb => kX11_layersOf t x1 M ht _ _ hb) rfl rfl hR ⟨Nat.le_of_ble_eq_true rfl, Nat.le_of_ble_eq_true rfl⟩ (Nat.le_of_ble_eq_true rfl) dX11_layerAt_23 (fun v4 =>
 (x_icmp_ge g 68 dX11_layerAt_26 rfl
 (fun _ => (x_aload_n g 0 dX11_layerAt_68 rfl rfl
 (x_bipush g dX11_layerAt_69 kB_6
 (x_callVi (As := [.int (6 : Int32)]) g mv_X11_refuse mi_X11_refuse lk_RX11_102 ht (fun b Mh_ hb => kX11_refuse t (6 : Int32) M ht _ _ hb) rfl rfl hR ⟨Nat.le_of_ble_eq_true rfl, Nat.le_of_ble_eq_true rfl⟩ (Nat.le_of_ble_eq_true rfl) dX11_layerAt_71 (fun v5 M6 =>
 (x_iret g hr rfl rfl dX11_layerAt_74))))))
 (fun _ => (x_iload_n g 2 dX11_layerAt_29 rfl rfl
 (x_aload_n g 0 dX11_layerAt_30 rfl rfl
 (x_iload_n g 1 dX11_layerAt_31 rfl rfl
 (x_iload_n g 3 dX11_layerAt_32 rfl rfl
 (x_callVip (As := [.int x1, .int x3]) g mv_X11_depthOf mi_X11_depthOf lk_RX11_314 ht (fun b hb => kX11_depthOf φ t x1 x3 M ht _ _ hb) rfl rfl hR ⟨Nat.le_of_ble_eq_true rfl, Nat.le_of_ble_eq_true rfl⟩ (Nat.le_of_ble_eq_true rfl) dX11_layerAt_33 (fun v7 =>
 (x_jn (fun (J8 : Option (Int32 × Mem)) => X J (fun q : Int32 × Mem => (some (Value.int q.1), q.2)) J8 62 [(0, .ref t), (1, .int x1), (2, .int x2), (3, .int x3)] [] M) (x_iinc (L' := [(3, .int (x3 + 1)), (0, .ref t), (1, .int x1), (2, .int x2)]) (v := (x3 + 1)) g 3 dX11_layerAt_62 rfl (by rw [kI_1]) hn (Nat.le_of_ble_eq_true rfl) rfl
 (x_goto g 20 dX11_layerAt_65 rfl
 (x_sub [1, 2, 3, 0] rfl (ih (x3 + 1))))) (fun J8 hJ8 => (x_icmp_lt g 62 dX11_layerAt_36 rfl
 (fun _ => (hJ8))
 (fun _ => (x_iload_n g 2 dX11_layerAt_39 rfl rfl
 (x_aload_n g 0 dX11_layerAt_40 rfl rfl
 (x_iload_n g 1 dX11_layerAt_41 rfl rfl
 (x_iload_n g 3 dX11_layerAt_42 rfl rfl
 (x_callVip (As := [.int x1, .int x3]) g mv_X11_depthOf mi_X11_depthOf lk_RX11_314 ht (fun b hb => kX11_depthOf φ t x1 x3 M ht _ _ hb) rfl rfl hR ⟨Nat.le_of_ble_eq_true rfl, Nat.le_of_ble_eq_true rfl⟩ (Nat.le_of_ble_eq_true rfl) dX11_layerAt_43 (fun v9 =>
 (x_aload_n g 0 dX11_layerAt_46 rfl rfl
 (x_iload_n g 1 dX11_layerAt_47 rfl rfl
 (x_iload_n g 3 dX11_layerAt_48 rfl rfl
 (x_callVip (As := [.int x1, .int x3]) g mv_X11_thickOf mi_X11_thickOf lk_RX11_290 ht (fun b hb => kX11_thickOf t x1 x3 M ht _ _ hb) rfl rfl hR ⟨Nat.le_of_ble_eq_true rfl, Nat.le_of_ble_eq_true rfl⟩ (Nat.le_of_ble_eq_true rfl) dX11_layerAt_49 (fun v10 =>
 (x_iadd g dX11_layerAt_52
 (x_icmp_ge g 62 dX11_layerAt_53 rfl
 (fun _ => (hJ8))
 (fun _ => (x_aload_n g 0 dX11_layerAt_56 rfl rfl
 (x_iload_n g 3 dX11_layerAt_57 rfl rfl
 (x_callVi (As := [.int x3]) g mv_X11_gives mi_X11_gives lk_RX11_106 ht (fun b Mh_ hb => kX11_gives t x3 M ht _ _ hb) rfl rfl hR ⟨Nat.le_of_ble_eq_true rfl, Nat.le_of_ble_eq_true rfl⟩ (Nat.le_of_ble_eq_true rfl) dX11_layerAt_58 (fun v11 M12 =>
 (x_iret g hr rfl rfl dX11_layerAt_61))))))))))))))))))))))))))))))))))))
def fX11_layerAt (φ : Nat) (t : Nat) (a1 : Int32) (a2 : Int32) (M : Mem) : Option (Int32 × Mem) :=
  (fX11_isHole t a1 M).bind fun v1 =>
 if v1 = 0 then
 bd (fX11_refuse t (1 : Int32) M) fun v2 M3 =>
 some (v2, M3)
 else
 if 0 ≤ a2 then
 lX11_layerAt_20 φ t a1 a2 M φ (0 : Int32)
 else
 bd (fX11_refuse t (1 : Int32) M) fun v13 M14 =>
 some (v13, M14)
set_option maxRecDepth 100000 in
set_option maxHeartbeats 4000000 in
theorem kX11_layerAt (φ : Nat) (t : Nat) (a1 : Int32) (a2 : Int32) (M : Mem) (ht : isO 11 t) (l : Launch) (G : GT) {b : (Int32 × Mem)} (hE : fX11_layerAt φ t a1 a2 M = some b) : Ok l G yX11_layerAt cX11_layerAt 4 (some .int) 4 93 [.ref t, .int a1, .int a2] M ((fun q : Int32 × Mem => (some (Value.int q.1), q.2)) b).1 ((fun q : Int32 × Mem => (some (Value.int q.1), q.2)) b).2 := by
  refine Ok.ofX (pj := (fun q : Int32 × Mem => (some (Value.int q.1), q.2))) (by decide) (Nat.le_of_ble_eq_true rfl) hE (fun J g hr hG hl hR hn => ?_)
  show X J (fun q : Int32 × Mem => (some (Value.int q.1), q.2)) (fX11_layerAt φ t a1 a2 M) 0 [(0, .ref t), (1, .int a1), (2, .int a2)] [] M
  unfold fX11_layerAt
  exact (x_aload_n g 0 dX11_layerAt_0 rfl rfl
 (x_iload_n g 1 dX11_layerAt_1 rfl rfl
 (x_callVip (As := [.int a1]) g mv_X11_isHole mi_X11_isHole lk_RX11_302 ht (fun b hb => kX11_isHole t a1 M ht _ _ hb) rfl rfl hR ⟨Nat.le_of_ble_eq_true rfl, Nat.le_of_ble_eq_true rfl⟩ (Nat.le_of_ble_eq_true rfl) dX11_layerAt_2 (fun v1 =>
 (x_if_eq g 12 dX11_layerAt_5 rfl
 (fun _ => (x_aload_n g 0 dX11_layerAt_12 rfl rfl
 (x_iconst g dX11_layerAt_13 kI_1
 (x_callVi (As := [.int (1 : Int32)]) g mv_X11_refuse mi_X11_refuse lk_RX11_102 ht (fun b Mh_ hb => kX11_refuse t (1 : Int32) M ht _ _ hb) rfl rfl hR ⟨Nat.le_of_ble_eq_true rfl, Nat.le_of_ble_eq_true rfl⟩ (Nat.le_of_ble_eq_true rfl) dX11_layerAt_14 (fun v2 M3 =>
 (x_iret g hr rfl rfl dX11_layerAt_17))))))
 (fun _ => (x_iload_n g 2 dX11_layerAt_8 rfl rfl
 (x_if_ge g 18 dX11_layerAt_9 rfl
 (fun _ => (x_iconst g dX11_layerAt_18 kI_0
 (x_istore_n (L' := [(3, .int (0 : Int32)), (0, .ref t), (1, .int a1), (2, .int a2)]) g dX11_layerAt_19 rfl hn (Nat.le_of_ble_eq_true rfl) rfl
 (x_sub [1, 2, 3, 0] rfl (wlX11_layerAt_20 g hr hR hn  φ t a1 a2 M ht φ (0 : Int32))))))
 (fun _ => (x_aload_n g 0 dX11_layerAt_12 rfl rfl
 (x_iconst g dX11_layerAt_13 kI_1
 (x_callVi (As := [.int (1 : Int32)]) g mv_X11_refuse mi_X11_refuse lk_RX11_102 ht (fun b Mh_ hb => kX11_refuse t (1 : Int32) M ht _ _ hb) rfl rfl hR ⟨Nat.le_of_ble_eq_true rfl, Nat.le_of_ble_eq_true rfl⟩ (Nat.le_of_ble_eq_true rfl) dX11_layerAt_14 (fun v13 M14 =>
 (x_iret g hr rfl rfl dX11_layerAt_17))))))))))))))
def fX11_side (t : Nat) (a1 : Int32) (a2 : Int32) (M : Mem) : Option (Int32 × Mem) :=
  if a1 < 0 then
 bd (fX11_refuse t (1 : Int32) M) fun v1 M2 =>
 some (v1, M2)
 else
 ixk (3 : Int32) 3900 (
 if (M.1 (t + 1) (3 : Int32).toNatClampNeg) ≤ a1 then
 bd (fX11_refuse t (1 : Int32) M) fun v3 M4 =>
 some (v3, M4)
 else
 (fX11_isHole t a2 M).bind fun v5 =>
 if v5 = 0 then
 bd (fX11_refuse t (1 : Int32) M) fun v6 M7 =>
 some (v6, M7)
 else
 (fX11_isRight t a1 a2 M).bind fun v8 =>
 if v8 = 0 then
 bd (fX11_gives t (0 : Int32) M) fun v9 M10 =>
 some (v9, M10)
 else
 bd (fX11_gives t (1 : Int32) M) fun v11 M12 =>
 some (v11, M12))
set_option maxRecDepth 100000 in
set_option maxHeartbeats 4000000 in
theorem kX11_side (t : Nat) (a1 : Int32) (a2 : Int32) (M : Mem) (ht : isO 11 t) (l : Launch) (G : GT) {b : (Int32 × Mem)} (hE : fX11_side t a1 a2 M = some b) : Ok l G yX11_side cX11_side 3 (some .int) 2 48 [.ref t, .int a1, .int a2] M ((fun q : Int32 × Mem => (some (Value.int q.1), q.2)) b).1 ((fun q : Int32 × Mem => (some (Value.int q.1), q.2)) b).2 := by
  refine Ok.ofX (pj := (fun q : Int32 × Mem => (some (Value.int q.1), q.2))) (by decide) (Nat.le_of_ble_eq_true rfl) hE (fun J g hr hG hl hR hn => ?_)
  show X J (fun q : Int32 × Mem => (some (Value.int q.1), q.2)) (fX11_side t a1 a2 M) 0 [(0, .ref t), (1, .int a1), (2, .int a2)] [] M
  unfold fX11_side
  exact (x_iload_n g 1 dX11_side_0 rfl rfl
 (x_if_lt g 43 dX11_side_1 rfl
 (fun _ => (x_aload_n g 0 dX11_side_43 rfl rfl
 (x_iconst g dX11_side_44 kI_1
 (x_callVi (As := [.int (1 : Int32)]) g mv_X11_refuse mi_X11_refuse lk_RX11_102 ht (fun b Mh_ hb => kX11_refuse t (1 : Int32) M ht _ _ hb) rfl rfl hR ⟨Nat.le_of_ble_eq_true rfl, Nat.le_of_ble_eq_true rfl⟩ (Nat.le_of_ble_eq_true rfl) dX11_side_45 (fun v1 M2 =>
 (x_iret g hr rfl rfl dX11_side_48))))))
 (fun _ => (x_iload_n g 1 dX11_side_4 rfl rfl
 (x_aload_n g 0 dX11_side_5 rfl rfl
 (x_getS g 1 fl_RX11_7 rfl ht dX11_side_6
 (x_iconst g dX11_side_9 kI_3
 (x_iald g (so_11_0 ht) dX11_side_10
 (x_icmp_ge g 43 dX11_side_11 rfl
 (fun _ => (x_aload_n g 0 dX11_side_43 rfl rfl
 (x_iconst g dX11_side_44 kI_1
 (x_callVi (As := [.int (1 : Int32)]) g mv_X11_refuse mi_X11_refuse lk_RX11_102 ht (fun b Mh_ hb => kX11_refuse t (1 : Int32) M ht _ _ hb) rfl rfl hR ⟨Nat.le_of_ble_eq_true rfl, Nat.le_of_ble_eq_true rfl⟩ (Nat.le_of_ble_eq_true rfl) dX11_side_45 (fun v3 M4 =>
 (x_iret g hr rfl rfl dX11_side_48))))))
 (fun _ => (x_aload_n g 0 dX11_side_14 rfl rfl
 (x_iload_n g 2 dX11_side_15 rfl rfl
 (x_callVip (As := [.int a2]) g mv_X11_isHole mi_X11_isHole lk_RX11_302 ht (fun b hb => kX11_isHole t a2 M ht _ _ hb) rfl rfl hR ⟨Nat.le_of_ble_eq_true rfl, Nat.le_of_ble_eq_true rfl⟩ (Nat.le_of_ble_eq_true rfl) dX11_side_16 (fun v5 =>
 (x_if_eq g 43 dX11_side_19 rfl
 (fun _ => (x_aload_n g 0 dX11_side_43 rfl rfl
 (x_iconst g dX11_side_44 kI_1
 (x_callVi (As := [.int (1 : Int32)]) g mv_X11_refuse mi_X11_refuse lk_RX11_102 ht (fun b Mh_ hb => kX11_refuse t (1 : Int32) M ht _ _ hb) rfl rfl hR ⟨Nat.le_of_ble_eq_true rfl, Nat.le_of_ble_eq_true rfl⟩ (Nat.le_of_ble_eq_true rfl) dX11_side_45 (fun v6 M7 =>
 (x_iret g hr rfl rfl dX11_side_48))))))
 (fun _ => (x_aload_n g 0 dX11_side_22 rfl rfl
 (x_aload_n g 0 dX11_side_23 rfl rfl
 (x_iload_n g 1 dX11_side_24 rfl rfl
 (x_iload_n g 2 dX11_side_25 rfl rfl
 (x_callVip (As := [.int a1, .int a2]) g mv_X11_isRight mi_X11_isRight lk_RX11_293 ht (fun b hb => kX11_isRight t a1 a2 M ht _ _ hb) rfl rfl hR ⟨Nat.le_of_ble_eq_true rfl, Nat.le_of_ble_eq_true rfl⟩ (Nat.le_of_ble_eq_true rfl) dX11_side_26 (fun v8 =>
 (x_if_eq g 36 dX11_side_29 rfl
 (fun _ => (x_iconst g dX11_side_36 kI_0
 (x_callVi (As := [.int (0 : Int32)]) g mv_X11_gives mi_X11_gives lk_RX11_106 ht (fun b Mh_ hb => kX11_gives t (0 : Int32) M ht _ _ hb) rfl rfl hR ⟨Nat.le_of_ble_eq_true rfl, Nat.le_of_ble_eq_true rfl⟩ (Nat.le_of_ble_eq_true rfl) dX11_side_37 (fun v9 M10 =>
 (x_goto g 48 dX11_side_40 rfl
 (x_iret g hr rfl rfl dX11_side_48))))))
 (fun _ => (x_iconst g dX11_side_32 kI_1
 (x_goto g 37 dX11_side_33 rfl
 (x_callVi (As := [.int (1 : Int32)]) g mv_X11_gives mi_X11_gives lk_RX11_106 ht (fun b Mh_ hb => kX11_gives t (1 : Int32) M ht _ _ hb) rfl rfl hR ⟨Nat.le_of_ble_eq_true rfl, Nat.le_of_ble_eq_true rfl⟩ (Nat.le_of_ble_eq_true rfl) dX11_side_37 (fun v11 M12 =>
 (x_goto g 48 dX11_side_40 rfl
 (x_iret g hr rfl rfl dX11_side_48))))))))))))))))))))))))))))))
def fX11_pairCost (t : Nat) (a1 : Int32) (a2 : Int32) (a3 : Int32) (a4 : Int32) (M : Mem) : Option Int32 :=
  (fX11_rockOf t a1 a2 M).bind fun v1 =>
 (fX11_rockOf t a3 a4 M).bind fun v2 =>
 (fX11_unlikeOf t v1 v2 M).bind fun v3 =>
 (fX11_thickOf t a1 a2 M).bind fun v4 =>
 (fX11_thickOf t a3 a4 M).bind fun v5 =>
 some (v3 + (if 0 ≤ (v4 - v5) then (v4 - v5) else 0 - (v4 - v5)))
set_option maxRecDepth 100000 in
set_option maxHeartbeats 4000000 in
theorem kX11_pairCost (t : Nat) (a1 : Int32) (a2 : Int32) (a3 : Int32) (a4 : Int32) (M : Mem) (ht : isO 11 t) (l : Launch) (G : GT) {b : Int32} (hE : fX11_pairCost t a1 a2 a3 a4 M = some b) : Ok l G yX11_pairCost cX11_pairCost 5 (some .int) 2 42 [.ref t, .int a1, .int a2, .int a3, .int a4] M ((fun b : Int32 => (some (Value.int b), M)) b).1 ((fun b : Int32 => (some (Value.int b), M)) b).2 := by
  refine Ok.ofX (pj := (fun b : Int32 => (some (Value.int b), M))) (by decide) (Nat.le_of_ble_eq_true rfl) hE (fun J g hr hG hl hR hn => ?_)
  show X J (fun b : Int32 => (some (Value.int b), M)) (fX11_pairCost t a1 a2 a3 a4 M) 0 [(0, .ref t), (1, .int a1), (2, .int a2), (3, .int a3), (4, .int a4)] [] M
  unfold fX11_pairCost
  exact (x_aload_n g 0 dX11_pairCost_0 rfl rfl
 (x_aload_n g 0 dX11_pairCost_1 rfl rfl
 (x_iload_n g 1 dX11_pairCost_2 rfl rfl
 (x_iload_n g 2 dX11_pairCost_3 rfl rfl
 (x_callVip (As := [.int a1, .int a2]) g mv_X11_rockOf mi_X11_rockOf lk_RX11_311 ht (fun b hb => kX11_rockOf t a1 a2 M ht _ _ hb) rfl rfl hR ⟨Nat.le_of_ble_eq_true rfl, Nat.le_of_ble_eq_true rfl⟩ (Nat.le_of_ble_eq_true rfl) dX11_pairCost_4 (fun v1 =>
 (x_aload_n g 0 dX11_pairCost_7 rfl rfl
 (x_iload_n g 3 dX11_pairCost_8 rfl rfl
 (x_iload g 4 dX11_pairCost_9 rfl
 (x_callVip (As := [.int a3, .int a4]) g mv_X11_rockOf mi_X11_rockOf lk_RX11_311 ht (fun b hb => kX11_rockOf t a3 a4 M ht _ _ hb) rfl rfl hR ⟨Nat.le_of_ble_eq_true rfl, Nat.le_of_ble_eq_true rfl⟩ (Nat.le_of_ble_eq_true rfl) dX11_pairCost_11 (fun v2 =>
 (x_callVip (As := [.int v1, .int v2]) g mv_X11_unlikeOf mi_X11_unlikeOf lk_RX11_287 ht (fun b hb => kX11_unlikeOf t v1 v2 M ht _ _ hb) rfl rfl hR ⟨Nat.le_of_ble_eq_true rfl, Nat.le_of_ble_eq_true rfl⟩ (Nat.le_of_ble_eq_true rfl) dX11_pairCost_14 (fun v3 =>
 (x_aload_n g 0 dX11_pairCost_17 rfl rfl
 (x_iload_n g 1 dX11_pairCost_18 rfl rfl
 (x_iload_n g 2 dX11_pairCost_19 rfl rfl
 (x_callVip (As := [.int a1, .int a2]) g mv_X11_thickOf mi_X11_thickOf lk_RX11_290 ht (fun b hb => kX11_thickOf t a1 a2 M ht _ _ hb) rfl rfl hR ⟨Nat.le_of_ble_eq_true rfl, Nat.le_of_ble_eq_true rfl⟩ (Nat.le_of_ble_eq_true rfl) dX11_pairCost_20 (fun v4 =>
 (x_aload_n g 0 dX11_pairCost_23 rfl rfl
 (x_iload_n g 3 dX11_pairCost_24 rfl rfl
 (x_iload g 4 dX11_pairCost_25 rfl
 (x_callVip (As := [.int a3, .int a4]) g mv_X11_thickOf mi_X11_thickOf lk_RX11_290 ht (fun b hb => kX11_thickOf t a3 a4 M ht _ _ hb) rfl rfl hR ⟨Nat.le_of_ble_eq_true rfl, Nat.le_of_ble_eq_true rfl⟩ (Nat.le_of_ble_eq_true rfl) dX11_pairCost_27 (fun v5 =>
 (x_isub g dX11_pairCost_30
 (x_mabs g hR lk_RX11_317 ok_abss ok_math ok_abs (Nat.le_of_ble_eq_true rfl) (Nat.le_of_ble_eq_true rfl) dX11_pairCost_31
 (x_iadd g dX11_pairCost_34
 (x_iret g hr rfl rfl dX11_pairCost_35)))))))))))))))))))))))))))
def fX11_leftCost (t : Nat) (a1 : Int32) (a2 : Int32) (M : Mem) : Option Int32 :=
  (fX11_rockOf t a1 a2 M).bind fun v1 =>
 ixk ((10 : Int32) + v1) 3900 (
 (fX11_thickOf t a1 a2 M).bind fun v2 =>
 some ((M.1 (t + 1) ((10 : Int32) + v1).toNatClampNeg) + v2))
set_option maxRecDepth 100000 in
set_option maxHeartbeats 4000000 in
theorem kX11_leftCost (t : Nat) (a1 : Int32) (a2 : Int32) (M : Mem) (ht : isO 11 t) (l : Launch) (G : GT) {b : Int32} (hE : fX11_leftCost t a1 a2 M = some b) : Ok l G yX11_leftCost cX11_leftCost 3 (some .int) 2 42 [.ref t, .int a1, .int a2] M ((fun b : Int32 => (some (Value.int b), M)) b).1 ((fun b : Int32 => (some (Value.int b), M)) b).2 := by
  refine Ok.ofX (pj := (fun b : Int32 => (some (Value.int b), M))) (by decide) (Nat.le_of_ble_eq_true rfl) hE (fun J g hr hG hl hR hn => ?_)
  show X J (fun b : Int32 => (some (Value.int b), M)) (fX11_leftCost t a1 a2 M) 0 [(0, .ref t), (1, .int a1), (2, .int a2)] [] M
  unfold fX11_leftCost
  exact (x_aload_n g 0 dX11_leftCost_0 rfl rfl
 (x_getS g 1 fl_RX11_7 rfl ht dX11_leftCost_1
 (x_bipush g dX11_leftCost_4 kB_10
 (x_aload_n g 0 dX11_leftCost_6 rfl rfl
 (x_iload_n g 1 dX11_leftCost_7 rfl rfl
 (x_iload_n g 2 dX11_leftCost_8 rfl rfl
 (x_callVip (As := [.int a1, .int a2]) g mv_X11_rockOf mi_X11_rockOf lk_RX11_311 ht (fun b hb => kX11_rockOf t a1 a2 M ht _ _ hb) rfl rfl hR ⟨Nat.le_of_ble_eq_true rfl, Nat.le_of_ble_eq_true rfl⟩ (Nat.le_of_ble_eq_true rfl) dX11_leftCost_9 (fun v1 =>
 (x_iadd g dX11_leftCost_12
 (x_iald g (so_11_0 ht) dX11_leftCost_13
 (x_aload_n g 0 dX11_leftCost_14 rfl rfl
 (x_iload_n g 1 dX11_leftCost_15 rfl rfl
 (x_iload_n g 2 dX11_leftCost_16 rfl rfl
 (x_callVip (As := [.int a1, .int a2]) g mv_X11_thickOf mi_X11_thickOf lk_RX11_290 ht (fun b hb => kX11_thickOf t a1 a2 M ht _ _ hb) rfl rfl hR ⟨Nat.le_of_ble_eq_true rfl, Nat.le_of_ble_eq_true rfl⟩ (Nat.le_of_ble_eq_true rfl) dX11_leftCost_17 (fun v2 =>
 (x_iadd g dX11_leftCost_20
 (x_iret g hr rfl rfl dX11_leftCost_21)))))))))))))))))
def lX11_matches_25 (K191 : Mem → Option (Int32 × Mem)) (t : Nat) (x1 : Int32) (x2 : Int32) (x3 : Int32) (x4 : Int32) (x5 : Int32) : Nat → Int32 → Mem → Option (Int32 × Mem)
  | 0, _, _ => none
  | n + 1, x6, M =>
    if x6 < 0 then
 K191 M
 else
 jn (fun (v3 : Int32) => jn (fun (v5 : Int32) => jn (fun (v7 : Int32) => jn (fun (v9 : Int32) => ixk (((13 : Int32) * x5) + x6) 169 (nm (stI M (t + 9) (((13 : Int32) * x5) + x6).toNatClampNeg v9) (fun M11 =>
 lX11_matches_25 K191 t x1 x2 x3 x4 x5 n (x6 + (-1)) M11))) (fun J10 => if x4 ≤ x6 then
 J10 v7
 else
 ixk ((((13 : Int32) * x5) + x6) + (1 : Int32)) 169 (
 (fX11_leftCost t x2 x6 M).bind fun v12 =>
 nm (if ((M.1 (t + 9) ((((13 : Int32) * x5) + x6) + (1 : Int32)).toNatClampNeg) + v12) < v7 then ((M.1 (t + 9) ((((13 : Int32) * x5) + x6) + (1 : Int32)).toNatClampNeg) + v12) else v7) (fun v13 =>
 J10 v13)))) (fun J8 => if x3 ≤ x5 then
 J8 v5
 else
 ixk ((((13 : Int32) * x5) + (13 : Int32)) + x6) 169 (
 (fX11_leftCost t x1 x5 M).bind fun v14 =>
 nm (if ((M.1 (t + 9) ((((13 : Int32) * x5) + (13 : Int32)) + x6).toNatClampNeg) + v14) < v5 then ((M.1 (t + 9) ((((13 : Int32) * x5) + (13 : Int32)) + x6).toNatClampNeg) + v14) else v5) (fun v15 =>
 J8 v15)))) (fun J6 => if x3 ≤ x5 then
 J6 v3
 else
 if x4 ≤ x6 then
 J6 v3
 else
 ixk (((((13 : Int32) * x5) + (13 : Int32)) + x6) + (1 : Int32)) 169 (
 (fX11_pairCost t x1 x5 x2 x6 M).bind fun v16 =>
 nm ((M.1 (t + 9) (((((13 : Int32) * x5) + (13 : Int32)) + x6) + (1 : Int32)).toNatClampNeg) + v16) (fun v17 =>
 J6 v17)))) (fun J4 => jn (J4 (2147483647 : Int32)) (fun J18 => if x5 = x3 then
 if x6 = x4 then
 J4 (0 : Int32)
 else
 J18
 else
 J18))
theorem lX11_matches_25_s (K191 : Mem → Option (Int32 × Mem)) (t : Nat) (x1 : Int32) (x2 : Int32) (x3 : Int32) (x4 : Int32) (x5 : Int32) (n : Nat) (x6 : Int32) (M : Mem) : lX11_matches_25 K191 t x1 x2 x3 x4 x5 (n + 1) x6 M =
    if x6 < 0 then
 K191 M
 else
 jn (fun (v3 : Int32) => jn (fun (v5 : Int32) => jn (fun (v7 : Int32) => jn (fun (v9 : Int32) => ixk (((13 : Int32) * x5) + x6) 169 (nm (stI M (t + 9) (((13 : Int32) * x5) + x6).toNatClampNeg v9) (fun M11 =>
 lX11_matches_25 K191 t x1 x2 x3 x4 x5 n (x6 + (-1)) M11))) (fun J10 => if x4 ≤ x6 then
 J10 v7
 else
 ixk ((((13 : Int32) * x5) + x6) + (1 : Int32)) 169 (
 (fX11_leftCost t x2 x6 M).bind fun v12 =>
 nm (if ((M.1 (t + 9) ((((13 : Int32) * x5) + x6) + (1 : Int32)).toNatClampNeg) + v12) < v7 then ((M.1 (t + 9) ((((13 : Int32) * x5) + x6) + (1 : Int32)).toNatClampNeg) + v12) else v7) (fun v13 =>
 J10 v13)))) (fun J8 => if x3 ≤ x5 then
 J8 v5
 else
 ixk ((((13 : Int32) * x5) + (13 : Int32)) + x6) 169 (
 (fX11_leftCost t x1 x5 M).bind fun v14 =>
 nm (if ((M.1 (t + 9) ((((13 : Int32) * x5) + (13 : Int32)) + x6).toNatClampNeg) + v14) < v5 then ((M.1 (t + 9) ((((13 : Int32) * x5) + (13 : Int32)) + x6).toNatClampNeg) + v14) else v5) (fun v15 =>
 J8 v15)))) (fun J6 => if x3 ≤ x5 then
 J6 v3
 else
 if x4 ≤ x6 then
 J6 v3
 else
 ixk (((((13 : Int32) * x5) + (13 : Int32)) + x6) + (1 : Int32)) 169 (
 (fX11_pairCost t x1 x5 x2 x6 M).bind fun v16 =>
 nm ((M.1 (t + 9) (((((13 : Int32) * x5) + (13 : Int32)) + x6) + (1 : Int32)).toNatClampNeg) + v16) (fun v17 =>
 J6 v17)))) (fun J4 => jn (J4 (2147483647 : Int32)) (fun J18 => if x5 = x3 then
 if x6 = x4 then
 J4 (0 : Int32)
 else
 J18
 else
 J18)) := rfl
theorem lX11_matches_25_0 (K191 : Mem → Option (Int32 × Mem)) (t : Nat) (x1 : Int32) (x2 : Int32) (x3 : Int32) (x4 : Int32) (x5 : Int32) (x6 : Int32) (M : Mem) : lX11_matches_25 K191 t x1 x2 x3 x4 x5 0 x6 M = none := rfl
set_option maxRecDepth 100000 in
set_option maxHeartbeats 4000000 in
theorem wlX11_matches_25 {J : JT} (g : Gd J cX11_matches RX11) (hr : Rt J (some .int)) (hR : (JR J).frames = 3 ∧ (JR J).locals = 66) (hn : Jn J = 8) (K191 : Mem → Option (Int32 × Mem)) (t : Nat) (x1 : Int32) (x2 : Int32) (x3 : Int32) (x4 : Int32) (x5 : Int32) (ht : isO 11 t) (hK191 : ∀ (M : Mem), X J (fun q : Int32 × Mem => (some (Value.int q.1), q.2)) (K191 M) 191 [(0, .ref t), (1, .int x1), (2, .int x2), (3, .int x3), (4, .int x4), (5, .int x5)] [] M) : ∀ (n : Nat) (x6 : Int32) (M : Mem), X J (fun q : Int32 × Mem => (some (Value.int q.1), q.2)) (lX11_matches_25 K191 t x1 x2 x3 x4 x5 n x6 M) 25 [(0, .ref t), (1, .int x1), (2, .int x2), (3, .int x3), (4, .int x4), (5, .int x5), (6, .int x6)] [] M := by
  intro n
  induction n with
  | zero =>
    intro x6 M
    exact x_none
  | succ n ih =>
    intro x6 M
    rw [lX11_matches_25_s]
    exact (x_iload g 6 dX11_matches_25 rfl
 (x_if_lt g 191 dX11_matches_27 rfl
 (fun _ => (x_sub [0, 1, 2, 3, 4, 5] rfl (hK191 M)))
 (fun _ => (x_iload g 5 dX11_matches_30 rfl
 (x_iload_n g 3 dX11_matches_32 rfl rfl
 (x_jn (fun (J4 : Int32 → Option (Int32 × Mem)) => ∀ (v3 : Int32), X J (fun q : Int32 × Mem => (some (Value.int q.1), q.2)) (J4 v3) 50 [(0, .ref t), (1, .int x1), (2, .int x2), (3, .int x3), (4, .int x4), (5, .int x5), (6, .int x6)] [.int v3] M) (fun v3 => (x_istore (L' := [(7, .int v3), (0, .ref t), (1, .int x1), (2, .int x2), (3, .int x3), (4, .int x4), (5, .int x5), (6, .int x6)]) g dX11_matches_50 hn (Nat.le_of_ble_eq_true rfl) rfl
 (x_iload g 6 dX11_matches_52 rfl
 (x_iload_n g 4 dX11_matches_54 rfl rfl
 (x_jn (fun (J6 : Int32 → Option (Int32 × Mem)) => ∀ (v5 : Int32), X J (fun q : Int32 × Mem => (some (Value.int q.1), q.2)) (J6 v5) 96 [(0, .ref t), (1, .int x1), (2, .int x2), (3, .int x3), (4, .int x4), (5, .int x5), (6, .int x6), (7, .int v5)] [] M) (fun v5 => (x_iload g 5 dX11_matches_96 rfl
 (x_iload_n g 3 dX11_matches_98 rfl rfl
 (x_jn (fun (J8 : Int32 → Option (Int32 × Mem)) => ∀ (v7 : Int32), X J (fun q : Int32 × Mem => (some (Value.int q.1), q.2)) (J8 v7) 133 [(0, .ref t), (1, .int x1), (2, .int x2), (3, .int x3), (4, .int x4), (5, .int x5), (6, .int x6), (7, .int v7)] [] M) (fun v7 => (x_iload g 6 dX11_matches_133 rfl
 (x_iload g 4 dX11_matches_135 rfl
 (x_jn (fun (J10 : Int32 → Option (Int32 × Mem)) => ∀ (v9 : Int32), X J (fun q : Int32 × Mem => (some (Value.int q.1), q.2)) (J10 v9) 170 [(0, .ref t), (1, .int x1), (2, .int x2), (3, .int x3), (4, .int x4), (5, .int x5), (6, .int x6), (7, .int v9)] [] M) (fun v9 => (x_aload_n g 0 dX11_matches_170 rfl rfl
 (x_getS g 9 fl_RX11_47 rfl ht dX11_matches_171
 (x_bipush g dX11_matches_174 kB_13
 (x_iload g 5 dX11_matches_176 rfl
 (x_imul g dX11_matches_178
 (x_iload g 6 dX11_matches_179 rfl
 (x_iadd g dX11_matches_181
 (x_iload g 7 dX11_matches_182 rfl
 (x_iast g (so_11_23 ht) dX11_matches_184 (x_nmM (fun M11 =>
 (x_iinc (L' := [(6, .int (x6 + (-1))), (0, .ref t), (1, .int x1), (2, .int x2), (3, .int x3), (4, .int x4), (5, .int x5), (7, .int v9)]) (v := (x6 + (-1))) g 6 dX11_matches_185 rfl (by rw [kI_m1]) hn (Nat.le_of_ble_eq_true rfl) rfl
 (x_goto g 25 dX11_matches_188 rfl
 (x_sub [1, 2, 3, 4, 5, 6, 0] rfl (ih (x6 + (-1)) M11)))))))))))))))) (fun J10 hJ10 => (x_icmp_ge g 170 dX11_matches_137 rfl
 (fun _ => (hJ10 v7))
 (fun _ => (x_iload g 7 dX11_matches_140 rfl
 (x_aload_n g 0 dX11_matches_142 rfl rfl
 (x_getS g 9 fl_RX11_47 rfl ht dX11_matches_143
 (x_bipush g dX11_matches_146 kB_13
 (x_iload g 5 dX11_matches_148 rfl
 (x_imul g dX11_matches_150
 (x_iload g 6 dX11_matches_151 rfl
 (x_iadd g dX11_matches_153
 (x_iconst g dX11_matches_154 kI_1
 (x_iadd g dX11_matches_155
 (x_iald g (so_11_23 ht) dX11_matches_156
 (x_aload_n g 0 dX11_matches_157 rfl rfl
 (x_iload_n g 2 dX11_matches_158 rfl rfl
 (x_iload g 6 dX11_matches_159 rfl
 (x_callVip (As := [.int x2, .int x6]) g mv_X11_leftCost mi_X11_leftCost lk_RX11_327 ht (fun b hb => kX11_leftCost t x2 x6 M ht _ _ hb) rfl rfl hR ⟨Nat.le_of_ble_eq_true rfl, Nat.le_of_ble_eq_true rfl⟩ (Nat.le_of_ble_eq_true rfl) dX11_matches_161 (fun v12 =>
 (x_iadd g dX11_matches_164
 (x_mmin g hR lk_RX11_158 ok_mins ok_math ok_min (Nat.le_of_ble_eq_true rfl) (Nat.le_of_ble_eq_true rfl) dX11_matches_165
 (x_nmI (fun v13 => (x_istore (L' := [(7, .int v13), (0, .ref t), (1, .int x1), (2, .int x2), (3, .int x3), (4, .int x4), (5, .int x5), (6, .int x6)]) g dX11_matches_168 hn (Nat.le_of_ble_eq_true rfl) rfl
 (x_sub [1, 2, 3, 4, 5, 6, 7, 0] rfl (hJ10 v13)))))))))))))))))))))))))))))) (fun J8 hJ8 => (x_icmp_ge g 133 dX11_matches_99 rfl
 (fun _ => (hJ8 v5))
 (fun _ => (x_iload g 7 dX11_matches_102 rfl
 (x_aload_n g 0 dX11_matches_104 rfl rfl
 (x_getS g 9 fl_RX11_47 rfl ht dX11_matches_105
 (x_bipush g dX11_matches_108 kB_13
 (x_iload g 5 dX11_matches_110 rfl
 (x_imul g dX11_matches_112
 (x_bipush g dX11_matches_113 kB_13
 (x_iadd g dX11_matches_115
 (x_iload g 6 dX11_matches_116 rfl
 (x_iadd g dX11_matches_118
 (x_iald g (so_11_23 ht) dX11_matches_119
 (x_aload_n g 0 dX11_matches_120 rfl rfl
 (x_iload_n g 1 dX11_matches_121 rfl rfl
 (x_iload g 5 dX11_matches_122 rfl
 (x_callVip (As := [.int x1, .int x5]) g mv_X11_leftCost mi_X11_leftCost lk_RX11_327 ht (fun b hb => kX11_leftCost t x1 x5 M ht _ _ hb) rfl rfl hR ⟨Nat.le_of_ble_eq_true rfl, Nat.le_of_ble_eq_true rfl⟩ (Nat.le_of_ble_eq_true rfl) dX11_matches_124 (fun v14 =>
 (x_iadd g dX11_matches_127
 (x_mmin g hR lk_RX11_158 ok_mins ok_math ok_min (Nat.le_of_ble_eq_true rfl) (Nat.le_of_ble_eq_true rfl) dX11_matches_128
 (x_nmI (fun v15 => (x_istore (L' := [(7, .int v15), (0, .ref t), (1, .int x1), (2, .int x2), (3, .int x3), (4, .int x4), (5, .int x5), (6, .int x6)]) g dX11_matches_131 hn (Nat.le_of_ble_eq_true rfl) rfl
 (x_sub [1, 2, 3, 4, 5, 6, 7, 0] rfl (hJ8 v15)))))))))))))))))))))))))))))) (fun J6 hJ6 => (x_icmp_ge g 96 dX11_matches_55 rfl
 (fun _ => (x_sub [1, 2, 3, 4, 5, 6, 7, 0] rfl (hJ6 v3)))
 (fun _ => (x_iload g 7 dX11_matches_58 rfl
 (x_iload g 5 dX11_matches_60 rfl
 (x_icmp_ge g 96 dX11_matches_62 rfl
 (fun _ => (x_sub [1, 2, 3, 4, 5, 6, 7, 0] rfl (hJ6 v3)))
 (fun _ => (x_aload_n g 1 dX11_matches_65 rfl rfl
 (x_getS g 9 fl_RX11_47 rfl ht dX11_matches_66
 (x_bipush g dX11_matches_69 kB_13
 (x_iload g 6 dX11_matches_71 rfl
 (x_imul g dX11_matches_73
 (x_bipush g dX11_matches_74 kB_13
 (x_iadd g dX11_matches_76
 (x_iload g 7 dX11_matches_77 rfl
 (x_iadd g dX11_matches_79
 (x_iconst g dX11_matches_80 kI_1
 (x_iadd g dX11_matches_81
 (x_iald g (so_11_23 ht) dX11_matches_82
 (x_aload_n g 1 dX11_matches_83 rfl rfl
 (x_iload_n g 2 dX11_matches_84 rfl rfl
 (x_iload g 6 dX11_matches_85 rfl
 (x_iload_n g 3 dX11_matches_87 rfl rfl
 (x_iload g 7 dX11_matches_88 rfl
 (x_callVip (As := [.int x1, .int x5, .int x2, .int x6]) g mv_X11_pairCost mi_X11_pairCost lk_RX11_323 ht (fun b hb => kX11_pairCost t x1 x5 x2 x6 M ht _ _ hb) rfl rfl hR ⟨Nat.le_of_ble_eq_true rfl, Nat.le_of_ble_eq_true rfl⟩ (Nat.le_of_ble_eq_true rfl) dX11_matches_90 (fun v16 =>
 (x_iadd g dX11_matches_93
 (x_nmI (fun v17 => (x_istore (L' := [(7, .int v17), (0, .ref t), (1, .int x1), (2, .int x2), (3, .int x3), (4, .int x4), (5, .int x5), (6, .int x6)]) g dX11_matches_94 hn (Nat.le_of_ble_eq_true rfl) rfl
 (x_sub [1, 2, 3, 4, 5, 6, 7, 0] rfl (hJ6 v17))))))))))))))))))))))))))))))))))))) (fun J4 hJ4 => (x_jn (fun (J18 : Option (Int32 × Mem)) => X J (fun q : Int32 × Mem => (some (Value.int q.1), q.2)) J18 47 [(0, .ref t), (1, .int x1), (2, .int x2), (3, .int x3), (4, .int x4), (5, .int x5), (6, .int x6)] [] M) (x_ldcw g cw_RX11_322 dX11_matches_47
 (hJ4 (2147483647 : Int32))) (fun J18 hJ18 => (x_icmp_ne g 47 dX11_matches_33 rfl
 (fun _ => (hJ18))
 (fun _ => (x_iload g 6 dX11_matches_36 rfl
 (x_iload g 4 dX11_matches_38 rfl
 (x_icmp_ne g 47 dX11_matches_40 rfl
 (fun _ => (hJ18))
 (fun _ => (x_iconst g dX11_matches_43 kI_0
 (x_goto g 50 dX11_matches_44 rfl
 (hJ4 (0 : Int32)))))))))))))))))))
def lX11_matches_16 (K197 : Mem → Option (Int32 × Mem)) (φ : Nat) (t : Nat) (x1 : Int32) (x2 : Int32) (x3 : Int32) (x4 : Int32) : Nat → Int32 → Mem → Option (Int32 × Mem)
  | 0, _, _ => none
  | n + 1, x5, M =>
    if x5 < 0 then
 K197 M
 else
 lX11_matches_25 (fun (M19 : Mem) => lX11_matches_16 K197 φ t x1 x2 x3 x4 n (x5 + (-1)) M19) t x1 x2 x3 x4 x5 φ x4 M
theorem lX11_matches_16_s (K197 : Mem → Option (Int32 × Mem)) (φ : Nat) (t : Nat) (x1 : Int32) (x2 : Int32) (x3 : Int32) (x4 : Int32) (n : Nat) (x5 : Int32) (M : Mem) : lX11_matches_16 K197 φ t x1 x2 x3 x4 (n + 1) x5 M =
    if x5 < 0 then
 K197 M
 else
 lX11_matches_25 (fun (M19 : Mem) => lX11_matches_16 K197 φ t x1 x2 x3 x4 n (x5 + (-1)) M19) t x1 x2 x3 x4 x5 φ x4 M := rfl
theorem lX11_matches_16_0 (K197 : Mem → Option (Int32 × Mem)) (φ : Nat) (t : Nat) (x1 : Int32) (x2 : Int32) (x3 : Int32) (x4 : Int32) (x5 : Int32) (M : Mem) : lX11_matches_16 K197 φ t x1 x2 x3 x4 0 x5 M = none := rfl
set_option maxRecDepth 100000 in
set_option maxHeartbeats 4000000 in
theorem wlX11_matches_16 {J : JT} (g : Gd J cX11_matches RX11) (hr : Rt J (some .int)) (hR : (JR J).frames = 3 ∧ (JR J).locals = 66) (hn : Jn J = 8) (K197 : Mem → Option (Int32 × Mem)) (φ : Nat) (t : Nat) (x1 : Int32) (x2 : Int32) (x3 : Int32) (x4 : Int32) (ht : isO 11 t) (hK197 : ∀ (M : Mem), X J (fun q : Int32 × Mem => (some (Value.int q.1), q.2)) (K197 M) 197 [(0, .ref t), (1, .int x1), (2, .int x2), (3, .int x3), (4, .int x4)] [] M) : ∀ (n : Nat) (x5 : Int32) (M : Mem), X J (fun q : Int32 × Mem => (some (Value.int q.1), q.2)) (lX11_matches_16 K197 φ t x1 x2 x3 x4 n x5 M) 16 [(0, .ref t), (1, .int x1), (2, .int x2), (3, .int x3), (4, .int x4), (5, .int x5)] [] M := by
  intro n
  induction n with
  | zero =>
    intro x5 M
    exact x_none
  | succ n ih =>
    intro x5 M
    rw [lX11_matches_16_s]
    exact (x_iload g 5 dX11_matches_16 rfl
 (x_if_lt g 197 dX11_matches_18 rfl
 (fun _ => (x_sub [0, 1, 2, 3, 4] rfl (hK197 M)))
 (fun _ => (x_iload g 4 dX11_matches_21 rfl
 (x_istore (L' := [(6, .int x4), (0, .ref t), (1, .int x1), (2, .int x2), (3, .int x3), (4, .int x4), (5, .int x5)]) g dX11_matches_23 hn (Nat.le_of_ble_eq_true rfl) rfl
 (x_sub [1, 2, 3, 4, 5, 6, 0] rfl (wlX11_matches_25 g hr hR hn _ t x1 x2 x3 x4 x5 ht
 (fun M19 => by exact (x_iinc (L' := [(5, .int (x5 + (-1))), (0, .ref t), (1, .int x1), (2, .int x2), (3, .int x3), (4, .int x4)]) (v := (x5 + (-1))) g 5 dX11_matches_191 rfl (by rw [kI_m1]) hn (Nat.le_of_ble_eq_true rfl) rfl
 (x_goto g 16 dX11_matches_194 rfl
 (x_sub [1, 2, 3, 4, 5, 0] rfl (ih (x5 + (-1)) M19))))) φ x4 M)))))))
def lX11_matches_200 (K221 : Mem → Option (Int32 × Mem)) (t : Nat) (x1 : Int32) (x2 : Int32) (x3 : Int32) (x4 : Int32) : Nat → Int32 → Mem → Option (Int32 × Mem)
  | 0, _, _ => none
  | n + 1, x5, M =>
    if (12 : Int32) ≤ x5 then
 K221 M
 else
 ixk x5 12 (nm (stI M (t + 10) x5.toNatClampNeg (-1 : Int32)) (fun M21 =>
 lX11_matches_200 K221 t x1 x2 x3 x4 n (x5 + 1) M21))
theorem lX11_matches_200_s (K221 : Mem → Option (Int32 × Mem)) (t : Nat) (x1 : Int32) (x2 : Int32) (x3 : Int32) (x4 : Int32) (n : Nat) (x5 : Int32) (M : Mem) : lX11_matches_200 K221 t x1 x2 x3 x4 (n + 1) x5 M =
    if (12 : Int32) ≤ x5 then
 K221 M
 else
 ixk x5 12 (nm (stI M (t + 10) x5.toNatClampNeg (-1 : Int32)) (fun M21 =>
 lX11_matches_200 K221 t x1 x2 x3 x4 n (x5 + 1) M21)) := rfl
theorem lX11_matches_200_0 (K221 : Mem → Option (Int32 × Mem)) (t : Nat) (x1 : Int32) (x2 : Int32) (x3 : Int32) (x4 : Int32) (x5 : Int32) (M : Mem) : lX11_matches_200 K221 t x1 x2 x3 x4 0 x5 M = none := rfl
set_option maxRecDepth 100000 in
set_option maxHeartbeats 4000000 in
theorem wlX11_matches_200 {J : JT} (g : Gd J cX11_matches RX11) (hr : Rt J (some .int)) (hR : (JR J).frames = 3 ∧ (JR J).locals = 66) (hn : Jn J = 8) (K221 : Mem → Option (Int32 × Mem)) (t : Nat) (x1 : Int32) (x2 : Int32) (x3 : Int32) (x4 : Int32) (ht : isO 11 t) (hK221 : ∀ (M : Mem), X J (fun q : Int32 × Mem => (some (Value.int q.1), q.2)) (K221 M) 221 [(0, .ref t), (1, .int x1), (2, .int x2), (3, .int x3), (4, .int x4)] [] M) : ∀ (n : Nat) (x5 : Int32) (M : Mem), X J (fun q : Int32 × Mem => (some (Value.int q.1), q.2)) (lX11_matches_200 K221 t x1 x2 x3 x4 n x5 M) 200 [(0, .ref t), (1, .int x1), (2, .int x2), (3, .int x3), (4, .int x4), (5, .int x5)] [] M := by
  intro n
  induction n with
  | zero =>
    intro x5 M
    exact x_none
  | succ n ih =>
    intro x5 M
    rw [lX11_matches_200_s]
    exact (x_iload g 5 dX11_matches_200 rfl
 (x_bipush g dX11_matches_202 kB_12
 (x_icmp_ge g 221 dX11_matches_204 rfl
 (fun _ => (x_sub [0, 1, 2, 3, 4] rfl (hK221 M)))
 (fun _ => (x_aload_n g 0 dX11_matches_207 rfl rfl
 (x_getS g 10 fl_RX11_50 rfl ht dX11_matches_208
 (x_iload g 5 dX11_matches_211 rfl
 (x_iconst g dX11_matches_213 kI_m1
 (x_iast g (so_11_24 ht) dX11_matches_214 (x_nmM (fun M21 =>
 (x_iinc (L' := [(5, .int (x5 + 1)), (0, .ref t), (1, .int x1), (2, .int x2), (3, .int x3), (4, .int x4)]) (v := (x5 + 1)) g 5 dX11_matches_215 rfl (by rw [kI_1]) hn (Nat.le_of_ble_eq_true rfl) rfl
 (x_goto g 200 dX11_matches_218 rfl
 (x_sub [1, 2, 3, 4, 5, 0] rfl (ih (x5 + 1) M21)))))))))))))))
def lX11_matches_227 (t : Nat) (x1 : Int32) (x2 : Int32) (x3 : Int32) (x4 : Int32) : Nat → Int32 → Int32 → Mem → Option (Int32 × Mem)
  | 0, _, _, _ => none
  | n + 1, x5, x6, M =>
    jn (ixk (((13 : Int32) * x5) + x6) 169 (
 nm (M.1 (t + 9) (((13 : Int32) * x5) + x6).toNatClampNeg) (fun v24 =>
 jn (fun (v25 : Int32) (v26 : Int32) (M27 : Mem) => lX11_matches_227 t x1 x2 x3 x4 n v25 v26 M27) (fun J28 => jn (jn (J28 x5 (x6 + 1) M) (fun J30 => if x3 ≤ x5 then
 J30
 else
 ixk ((((13 : Int32) * x5) + (13 : Int32)) + x6) 169 (
 (fX11_leftCost t x1 x5 M).bind fun v31 =>
 if v24 = ((M.1 (t + 9) ((((13 : Int32) * x5) + (13 : Int32)) + x6).toNatClampNeg) + v31) then
 J28 (x5 + 1) x6 M
 else
 J30))) (fun J29 => if x3 ≤ x5 then
 J29
 else
 if x4 ≤ x6 then
 J29
 else
 ixk (((((13 : Int32) * x5) + (13 : Int32)) + x6) + (1 : Int32)) 169 (
 (fX11_pairCost t x1 x5 x2 x6 M).bind fun v32 =>
 if v24 = ((M.1 (t + 9) (((((13 : Int32) * x5) + (13 : Int32)) + x6) + (1 : Int32)).toNatClampNeg) + v32) then
 ixk x5 12 (nm (stI M (t + 10) x5.toNatClampNeg x6) (fun M33 =>
 J28 (x5 + 1) (x6 + 1) M33))
 else
 J29)))))) (fun J23 => if x5 < x3 then
 J23
 else
 if x4 ≤ x6 then
 ixk (0 : Int32) 169 (
 some ((M.1 (t + 9) (0 : Int32).toNatClampNeg), M))
 else
 J23)
theorem lX11_matches_227_s (t : Nat) (x1 : Int32) (x2 : Int32) (x3 : Int32) (x4 : Int32) (n : Nat) (x5 : Int32) (x6 : Int32) (M : Mem) : lX11_matches_227 t x1 x2 x3 x4 (n + 1) x5 x6 M =
    jn (ixk (((13 : Int32) * x5) + x6) 169 (
 nm (M.1 (t + 9) (((13 : Int32) * x5) + x6).toNatClampNeg) (fun v24 =>
 jn (fun (v25 : Int32) (v26 : Int32) (M27 : Mem) => lX11_matches_227 t x1 x2 x3 x4 n v25 v26 M27) (fun J28 => jn (jn (J28 x5 (x6 + 1) M) (fun J30 => if x3 ≤ x5 then
 J30
 else
 ixk ((((13 : Int32) * x5) + (13 : Int32)) + x6) 169 (
 (fX11_leftCost t x1 x5 M).bind fun v31 =>
 if v24 = ((M.1 (t + 9) ((((13 : Int32) * x5) + (13 : Int32)) + x6).toNatClampNeg) + v31) then
 J28 (x5 + 1) x6 M
 else
 J30))) (fun J29 => if x3 ≤ x5 then
 J29
 else
 if x4 ≤ x6 then
 J29
 else
 ixk (((((13 : Int32) * x5) + (13 : Int32)) + x6) + (1 : Int32)) 169 (
 (fX11_pairCost t x1 x5 x2 x6 M).bind fun v32 =>
 if v24 = ((M.1 (t + 9) (((((13 : Int32) * x5) + (13 : Int32)) + x6) + (1 : Int32)).toNatClampNeg) + v32) then
 ixk x5 12 (nm (stI M (t + 10) x5.toNatClampNeg x6) (fun M33 =>
 J28 (x5 + 1) (x6 + 1) M33))
 else
 J29)))))) (fun J23 => if x5 < x3 then
 J23
 else
 if x4 ≤ x6 then
 ixk (0 : Int32) 169 (
 some ((M.1 (t + 9) (0 : Int32).toNatClampNeg), M))
 else
 J23) := rfl
theorem lX11_matches_227_0 (t : Nat) (x1 : Int32) (x2 : Int32) (x3 : Int32) (x4 : Int32) (x5 : Int32) (x6 : Int32) (M : Mem) : lX11_matches_227 t x1 x2 x3 x4 0 x5 x6 M = none := rfl
set_option maxRecDepth 100000 in
set_option maxHeartbeats 4000000 in
theorem wlX11_matches_227 {J : JT} (g : Gd J cX11_matches RX11) (hr : Rt J (some .int)) (hR : (JR J).frames = 3 ∧ (JR J).locals = 66) (hn : Jn J = 8) (t : Nat) (x1 : Int32) (x2 : Int32) (x3 : Int32) (x4 : Int32) (ht : isO 11 t) : ∀ (n : Nat) (x5 : Int32) (x6 : Int32) (M : Mem), X J (fun q : Int32 × Mem => (some (Value.int q.1), q.2)) (lX11_matches_227 t x1 x2 x3 x4 n x5 x6 M) 227 [(0, .ref t), (1, .int x1), (2, .int x2), (3, .int x3), (4, .int x4), (5, .int x5), (6, .int x6)] [] M := by
  intro n
  induction n with
  | zero =>
    intro x5 x6 M
    exact x_none
  | succ n ih =>
    intro x5 x6 M
    rw [lX11_matches_227_s]
    exact (x_iload g 5 dX11_matches_227 rfl
 (x_iload_n g 3 dX11_matches_229 rfl rfl
 (x_jn (fun (J23 : Option (Int32 × Mem)) => X J (fun q : Int32 × Mem => (some (Value.int q.1), q.2)) J23 240 [(0, .ref t), (1, .int x1), (2, .int x2), (3, .int x3), (4, .int x4), (5, .int x5), (6, .int x6)] [] M) (x_aload_n g 0 dX11_matches_240 rfl rfl
 (x_getS g 9 fl_RX11_47 rfl ht dX11_matches_241
 (x_bipush g dX11_matches_244 kB_13
 (x_iload g 5 dX11_matches_246 rfl
 (x_imul g dX11_matches_248
 (x_iload g 6 dX11_matches_249 rfl
 (x_iadd g dX11_matches_251
 (x_iald g (so_11_23 ht) dX11_matches_252
 (x_nmI (fun v24 => (x_istore (L' := [(7, .int v24), (0, .ref t), (1, .int x1), (2, .int x2), (3, .int x3), (4, .int x4), (5, .int x5), (6, .int x6)]) g dX11_matches_253 hn (Nat.le_of_ble_eq_true rfl) rfl
 (x_iload g 6 dX11_matches_255 rfl
 (x_iload_n g 4 dX11_matches_257 rfl rfl
 (x_jn (fun (J28 : Int32 → Int32 → Mem → Option (Int32 × Mem)) => ∀ (v25 : Int32) (v26 : Int32) (M27 : Mem), X J (fun q : Int32 × Mem => (some (Value.int q.1), q.2)) (J28 v25 v26 M27) 364 [(0, .ref t), (1, .int x1), (2, .int x2), (3, .int x3), (4, .int x4), (5, .int v25), (6, .int v26)] [] M27) (fun v25 v26 M27 => (x_goto g 227 dX11_matches_364 rfl
 (ih v25 v26 M27))) (fun J28 hJ28 => (x_jn (fun (J29 : Option (Int32 × Mem)) => X J (fun q : Int32 × Mem => (some (Value.int q.1), q.2)) J29 320 [(0, .ref t), (1, .int x1), (2, .int x2), (3, .int x3), (4, .int x4), (5, .int x5), (6, .int x6), (7, .int v24)] [] M) (x_iload g 5 dX11_matches_320 rfl
 (x_iload_n g 3 dX11_matches_322 rfl rfl
 (x_jn (fun (J30 : Option (Int32 × Mem)) => X J (fun q : Int32 × Mem => (some (Value.int q.1), q.2)) J30 361 [(0, .ref t), (1, .int x1), (2, .int x2), (3, .int x3), (4, .int x4), (5, .int x5), (6, .int x6)] [] M) (x_iinc (L' := [(6, .int (x6 + 1)), (0, .ref t), (1, .int x1), (2, .int x2), (3, .int x3), (4, .int x4), (5, .int x5)]) (v := (x6 + 1)) g 6 dX11_matches_361 rfl (by rw [kI_1]) hn (Nat.le_of_ble_eq_true rfl) rfl
 (x_sub [1, 2, 3, 4, 5, 6, 0] rfl (hJ28 x5 (x6 + 1) M))) (fun J30 hJ30 => (x_icmp_ge g 361 dX11_matches_323 rfl
 (fun _ => (x_sub [0, 1, 2, 3, 4, 5, 6] rfl (hJ30)))
 (fun _ => (x_iload g 7 dX11_matches_326 rfl
 (x_aload_n g 0 dX11_matches_328 rfl rfl
 (x_getS g 9 fl_RX11_47 rfl ht dX11_matches_329
 (x_bipush g dX11_matches_332 kB_13
 (x_iload g 5 dX11_matches_334 rfl
 (x_imul g dX11_matches_336
 (x_bipush g dX11_matches_337 kB_13
 (x_iadd g dX11_matches_339
 (x_iload g 6 dX11_matches_340 rfl
 (x_iadd g dX11_matches_342
 (x_iald g (so_11_23 ht) dX11_matches_343
 (x_aload_n g 0 dX11_matches_344 rfl rfl
 (x_iload_n g 1 dX11_matches_345 rfl rfl
 (x_iload g 5 dX11_matches_346 rfl
 (x_callVip (As := [.int x1, .int x5]) g mv_X11_leftCost mi_X11_leftCost lk_RX11_327 ht (fun b hb => kX11_leftCost t x1 x5 M ht _ _ hb) rfl rfl hR ⟨Nat.le_of_ble_eq_true rfl, Nat.le_of_ble_eq_true rfl⟩ (Nat.le_of_ble_eq_true rfl) dX11_matches_348 (fun v31 =>
 (x_iadd g dX11_matches_351
 (x_icmp_ne g 361 dX11_matches_352 rfl
 (fun _ => (x_sub [0, 1, 2, 3, 4, 5, 6] rfl (hJ30)))
 (fun _ => (x_iinc (L' := [(5, .int (x5 + 1)), (0, .ref t), (1, .int x1), (2, .int x2), (3, .int x3), (4, .int x4), (6, .int x6), (7, .int v24)]) (v := (x5 + 1)) g 5 dX11_matches_355 rfl (by rw [kI_1]) hn (Nat.le_of_ble_eq_true rfl) rfl
 (x_goto g 364 dX11_matches_358 rfl
 (x_sub [1, 2, 3, 4, 5, 0, 6] rfl (hJ28 (x5 + 1) x6 M))))))))))))))))))))))))))))) (fun J29 hJ29 => (x_icmp_ge g 320 dX11_matches_258 rfl
 (fun _ => (x_sub [1, 2, 3, 4, 5, 6, 7, 0] rfl (hJ29)))
 (fun _ => (x_iload g 7 dX11_matches_261 rfl
 (x_iload g 5 dX11_matches_263 rfl
 (x_icmp_ge g 320 dX11_matches_265 rfl
 (fun _ => (x_sub [1, 2, 3, 4, 5, 6, 7, 0] rfl (hJ29)))
 (fun _ => (x_iload g 0 dX11_matches_268 rfl
 (x_aload_n g 1 dX11_matches_270 rfl rfl
 (x_getS g 9 fl_RX11_47 rfl ht dX11_matches_271
 (x_bipush g dX11_matches_274 kB_13
 (x_iload g 6 dX11_matches_276 rfl
 (x_imul g dX11_matches_278
 (x_bipush g dX11_matches_279 kB_13
 (x_iadd g dX11_matches_281
 (x_iload g 7 dX11_matches_282 rfl
 (x_iadd g dX11_matches_284
 (x_iconst g dX11_matches_285 kI_1
 (x_iadd g dX11_matches_286
 (x_iald g (so_11_23 ht) dX11_matches_287
 (x_aload_n g 1 dX11_matches_288 rfl rfl
 (x_iload_n g 2 dX11_matches_289 rfl rfl
 (x_iload g 6 dX11_matches_290 rfl
 (x_iload_n g 3 dX11_matches_292 rfl rfl
 (x_iload g 7 dX11_matches_293 rfl
 (x_callVip (As := [.int x1, .int x5, .int x2, .int x6]) g mv_X11_pairCost mi_X11_pairCost lk_RX11_323 ht (fun b hb => kX11_pairCost t x1 x5 x2 x6 M ht _ _ hb) rfl rfl hR ⟨Nat.le_of_ble_eq_true rfl, Nat.le_of_ble_eq_true rfl⟩ (Nat.le_of_ble_eq_true rfl) dX11_matches_295 (fun v32 =>
 (x_iadd g dX11_matches_298
 (x_icmp_ne g 320 dX11_matches_299 rfl
 (fun _ => (x_sub [1, 2, 3, 4, 5, 6, 7, 0] rfl (hJ29)))
 (fun _ => (x_aload_n g 1 dX11_matches_302 rfl rfl
 (x_getS g 10 fl_RX11_50 rfl ht dX11_matches_303
 (x_iload g 6 dX11_matches_306 rfl
 (x_iload g 7 dX11_matches_308 rfl
 (x_iast g (so_11_24 ht) dX11_matches_310 (x_nmM (fun M33 =>
 (x_iinc (L' := [(5, .int (x5 + 1)), (7, .int v24), (0, .ref t), (1, .int x1), (2, .int x2), (3, .int x3), (4, .int x4), (6, .int x6)]) (v := (x5 + 1)) g 6 dX11_matches_311 rfl (by rw [kI_1]) hn (Nat.le_of_ble_eq_true rfl) rfl
 (x_iinc (L' := [(6, .int (x6 + 1)), (5, .int (x5 + 1)), (7, .int v24), (0, .ref t), (1, .int x1), (2, .int x2), (3, .int x3), (4, .int x4)]) (v := (x6 + 1)) g 7 dX11_matches_314 rfl (by rw [kI_1]) hn (Nat.le_of_ble_eq_true rfl) rfl
 (x_goto g 364 dX11_matches_317 rfl
 (x_sub [3, 4, 5, 6, 7, 1, 0] rfl (hJ28 (x5 + 1) (x6 + 1) M33)))))))))))))))))))))))))))))))))))))))))))))))))))))))))) (fun J23 hJ23 => (x_icmp_lt g 240 dX11_matches_230 rfl
 (fun _ => (hJ23))
 (fun _ => (x_iload g 6 dX11_matches_233 rfl
 (x_iload g 4 dX11_matches_235 rfl
 (x_icmp_ge g 367 dX11_matches_237 rfl
 (fun _ => (x_aload_n g 0 dX11_matches_367 rfl rfl
 (x_getS g 9 fl_RX11_47 rfl ht dX11_matches_368
 (x_iconst g dX11_matches_371 kI_0
 (x_iald g (so_11_23 ht) dX11_matches_372
 (x_iret g hr rfl rfl dX11_matches_373))))))
 (fun _ => (hJ23)))))))))))
def fX11_matches (φ : Nat) (t : Nat) (a1 : Int32) (a2 : Int32) (M : Mem) : Option (Int32 × Mem) :=
  (fX11_layersOf t a1 M).bind fun v1 =>
 (fX11_layersOf t a2 M).bind fun v2 =>
 lX11_matches_16 (fun (M20 : Mem) => lX11_matches_200 (fun (M22 : Mem) => lX11_matches_227 t a1 a2 v1 v2 φ (0 : Int32) (0 : Int32) M22) t a1 a2 v1 v2 φ (0 : Int32) M20) φ t a1 a2 v1 v2 φ v1 M
set_option maxRecDepth 100000 in
set_option maxHeartbeats 4000000 in
theorem kX11_matches (φ : Nat) (t : Nat) (a1 : Int32) (a2 : Int32) (M : Mem) (ht : isO 11 t) (l : Launch) (G : GT) {b : (Int32 × Mem)} (hE : fX11_matches φ t a1 a2 M = some b) : Ok l G yX11_matches cX11_matches 8 (some .int) 3 66 [.ref t, .int a1, .int a2] M ((fun q : Int32 × Mem => (some (Value.int q.1), q.2)) b).1 ((fun q : Int32 × Mem => (some (Value.int q.1), q.2)) b).2 := by
  refine Ok.ofX (pj := (fun q : Int32 × Mem => (some (Value.int q.1), q.2))) (by decide) (Nat.le_of_ble_eq_true rfl) hE (fun J g hr hG hl hR hn => ?_)
  show X J (fun q : Int32 × Mem => (some (Value.int q.1), q.2)) (fX11_matches φ t a1 a2 M) 0 [(0, .ref t), (1, .int a1), (2, .int a2)] [] M
  unfold fX11_matches
  exact (x_aload_n g 0 dX11_matches_0 rfl rfl
 (x_iload_n g 1 dX11_matches_1 rfl rfl
 (x_callVip (As := [.int a1]) g mv_X11_layersOf mi_X11_layersOf lk_RX11_305 ht (fun b hb => kX11_layersOf t a1 M ht _ _ hb) rfl rfl hR ⟨Nat.le_of_ble_eq_true rfl, Nat.le_of_ble_eq_true rfl⟩ (Nat.le_of_ble_eq_true rfl) dX11_matches_2 (fun v1 =>
 (x_istore_n (L' := [(3, .int v1), (0, .ref t), (1, .int a1), (2, .int a2)]) g dX11_matches_5 rfl hn (Nat.le_of_ble_eq_true rfl) rfl
 (x_aload_n g 1 dX11_matches_6 rfl rfl
 (x_iload_n g 3 dX11_matches_7 rfl rfl
 (x_callVip (As := [.int a2]) g mv_X11_layersOf mi_X11_layersOf lk_RX11_305 ht (fun b hb => kX11_layersOf t a2 M ht _ _ hb) rfl rfl hR ⟨Nat.le_of_ble_eq_true rfl, Nat.le_of_ble_eq_true rfl⟩ (Nat.le_of_ble_eq_true rfl) dX11_matches_8 (fun v2 =>
 (x_istore (L' := [(4, .int v2), (3, .int v1), (0, .ref t), (1, .int a1), (2, .int a2)]) g dX11_matches_11 hn (Nat.le_of_ble_eq_true rfl) rfl
 (x_iload_n g 1 dX11_matches_13 rfl rfl
 (x_istore (L' := [(5, .int v1), (4, .int v2), (3, .int v1), (0, .ref t), (1, .int a1), (2, .int a2)]) g dX11_matches_14 hn (Nat.le_of_ble_eq_true rfl) rfl
 (x_sub [3, 4, 5, 2, 1, 0] rfl (wlX11_matches_16 g hr hR hn _ φ t a1 a2 v1 v2 ht
 (fun M20 => by exact (x_iconst g dX11_matches_197 kI_0
 (x_istore (L' := [(5, .int (0 : Int32)), (0, .ref t), (1, .int a1), (2, .int a2), (3, .int v1), (4, .int v2)]) g dX11_matches_198 hn (Nat.le_of_ble_eq_true rfl) rfl
 (x_sub [1, 2, 3, 4, 5, 0] rfl (wlX11_matches_200 g hr hR hn _ t a1 a2 v1 v2 ht
 (fun M22 => by exact (x_iconst g dX11_matches_221 kI_0
 (x_istore (L' := [(5, .int (0 : Int32)), (0, .ref t), (1, .int a1), (2, .int a2), (3, .int v1), (4, .int v2)]) g dX11_matches_222 hn (Nat.le_of_ble_eq_true rfl) rfl
 (x_iconst g dX11_matches_224 kI_0
 (x_istore (L' := [(6, .int (0 : Int32)), (5, .int (0 : Int32)), (0, .ref t), (1, .int a1), (2, .int a2), (3, .int v1), (4, .int v2)]) g dX11_matches_225 hn (Nat.le_of_ble_eq_true rfl) rfl
 (x_sub [2, 3, 4, 5, 6, 1, 0] rfl (wlX11_matches_227 g hr hR hn  t a1 a2 v1 v2 ht φ (0 : Int32) (0 : Int32) M22))))))) φ (0 : Int32) M20))))) φ v1 M))))))))))))))
def lX11_match_42 (t : Nat) (x3 : Int32) : Nat → Int32 → Mem → Option (Int32 × Mem)
  | 0, _, _ => none
  | n + 1, x4, M =>
    if (12 : Int32) ≤ x4 then
 bd (fX11_gives t x3 M) fun v10 M11 =>
 some (v10, M11)
 else
 ixk x4 12 (
 ixk x4 12 (nm (stI M (t + 11) x4.toNatClampNeg (M.1 (t + 10) x4.toNatClampNeg)) (fun M12 =>
 ixk x4 12 (
 jn (fun (v13 : Int32) => nm (stI M12 t 26 ((M12.1 t 26) + v13)) (fun M15 =>
 lX11_match_42 t x3 n (x4 + 1) M15)) (fun J14 => if (M12.1 (t + 10) x4.toNatClampNeg) = (-1 : Int32) then
 J14 (0 : Int32)
 else
 J14 (1 : Int32))))))
theorem lX11_match_42_s (t : Nat) (x3 : Int32) (n : Nat) (x4 : Int32) (M : Mem) : lX11_match_42 t x3 (n + 1) x4 M =
    if (12 : Int32) ≤ x4 then
 bd (fX11_gives t x3 M) fun v10 M11 =>
 some (v10, M11)
 else
 ixk x4 12 (
 ixk x4 12 (nm (stI M (t + 11) x4.toNatClampNeg (M.1 (t + 10) x4.toNatClampNeg)) (fun M12 =>
 ixk x4 12 (
 jn (fun (v13 : Int32) => nm (stI M12 t 26 ((M12.1 t 26) + v13)) (fun M15 =>
 lX11_match_42 t x3 n (x4 + 1) M15)) (fun J14 => if (M12.1 (t + 10) x4.toNatClampNeg) = (-1 : Int32) then
 J14 (0 : Int32)
 else
 J14 (1 : Int32)))))) := rfl
theorem lX11_match_42_0 (t : Nat) (x3 : Int32) (x4 : Int32) (M : Mem) : lX11_match_42 t x3 0 x4 M = none := rfl
set_option maxRecDepth 100000 in
set_option maxHeartbeats 4000000 in
theorem wlX11_match_42 {J : JT} (g : Gd J cX11_match RX11) (hr : Rt J (some .int)) (hR : (JR J).frames = 4 ∧ (JR J).locals = 93) (hn : Jn J = 5) (t : Nat) (x3 : Int32) (ht : isO 11 t) : ∀ (n : Nat) (x4 : Int32) (M : Mem), X J (fun q : Int32 × Mem => (some (Value.int q.1), q.2)) (lX11_match_42 t x3 n x4 M) 42 [(0, .ref t), (3, .int x3), (4, .int x4)] [] M := by
  intro n
  induction n with
  | zero =>
    intro x4 M
    exact x_none
  | succ n ih =>
    intro x4 M
    rw [lX11_match_42_s]
    exact (x_iload g 2 dX11_match_42 rfl
 (x_bipush g dX11_match_44 kB_12
 (x_icmp_ge g 94 dX11_match_46 rfl
 (fun _ => (x_aload_n g 0 dX11_match_94 rfl rfl
 (x_iload_n g 1 dX11_match_95 rfl rfl
 (x_callVi (As := [.int x3]) g mv_X11_gives mi_X11_gives lk_RX11_106 ht (fun b Mh_ hb => kX11_gives t x3 M ht _ _ hb) rfl rfl hR ⟨Nat.le_of_ble_eq_true rfl, Nat.le_of_ble_eq_true rfl⟩ (Nat.le_of_ble_eq_true rfl) dX11_match_96 (fun v10 M11 =>
 (x_iret g hr rfl rfl dX11_match_99))))))
 (fun _ => (x_aload_n g 0 dX11_match_49 rfl rfl
 (x_getS g 11 fl_RX11_53 rfl ht dX11_match_50
 (x_iload g 2 dX11_match_53 rfl
 (x_aload_n g 0 dX11_match_55 rfl rfl
 (x_getS g 10 fl_RX11_50 rfl ht dX11_match_56
 (x_iload g 2 dX11_match_59 rfl
 (x_iald g (so_11_24 ht) dX11_match_61
 (x_iast g (so_11_25 ht) dX11_match_62 (x_nmM (fun M12 =>
 (x_aload_n g 0 dX11_match_63 rfl rfl
 (x_dup g dX11_match_64 rfl
 (x_getI g fl_RX11_56 rfl ht dX11_match_65
 (x_aload_n g 0 dX11_match_68 rfl rfl
 (x_getS g 10 fl_RX11_50 rfl ht dX11_match_69
 (x_iload g 2 dX11_match_72 rfl
 (x_iald g (so_11_24 ht) dX11_match_74
 (x_iconst g dX11_match_75 kI_m1
 (x_jn (fun (J14 : Int32 → Option (Int32 × Mem)) => ∀ (v13 : Int32), X J (fun q : Int32 × Mem => (some (Value.int q.1), q.2)) (J14 v13) 84 [(0, .ref t), (3, .int x3), (4, .int x4)] [.int v13, .int (M12.1 t 26), .ref t] M12) (fun v13 => (x_iadd g dX11_match_84
 (x_putI g fp_RX11_56 rfl (Nat.le_of_ble_eq_true rfl) ht dX11_match_85 (x_nmM (fun M15 =>
 (x_iinc (L' := [(4, .int (x4 + 1)), (0, .ref t), (3, .int x3)]) (v := (x4 + 1)) g 2 dX11_match_88 rfl (by rw [kI_1]) hn (Nat.le_of_ble_eq_true rfl) rfl
 (x_goto g 42 dX11_match_91 rfl
 (x_sub [1, 2, 0] rfl (ih (x4 + 1) M15))))))))) (fun J14 hJ14 => (x_icmp_ne g 83 dX11_match_76 rfl
 (fun _ => (x_iconst g dX11_match_83 kI_1
 (hJ14 (1 : Int32))))
 (fun _ => (x_iconst g dX11_match_79 kI_0
 (x_goto g 84 dX11_match_80 rfl
 (hJ14 (0 : Int32))))))))))))))))))))))))))))))
def fX11_match (φ : Nat) (t : Nat) (a1 : Int32) (a2 : Int32) (M : Mem) : Option (Int32 × Mem) :=
  (fX11_isHole t a1 M).bind fun v1 =>
 if v1 = 0 then
 bd (fX11_refuse t (1 : Int32) M) fun v2 M3 =>
 some (v2, M3)
 else
 (fX11_isHole t a2 M).bind fun v4 =>
 if v4 = 0 then
 bd (fX11_refuse t (1 : Int32) M) fun v5 M6 =>
 some (v5, M6)
 else
 if a1 = a2 then
 bd (fX11_refuse t (1 : Int32) M) fun v16 M17 =>
 some (v16, M17)
 else
 bd (fX11_matches φ t a1 a2 M) fun v7 M8 =>
 nm (stI M8 t 26 (0 : Int32)) (fun M9 =>
 lX11_match_42 t v7 φ (0 : Int32) M9)
set_option maxRecDepth 100000 in
set_option maxHeartbeats 4000000 in
theorem kX11_match (φ : Nat) (t : Nat) (a1 : Int32) (a2 : Int32) (M : Mem) (ht : isO 11 t) (l : Launch) (G : GT) {b : (Int32 × Mem)} (hE : fX11_match φ t a1 a2 M = some b) : Ok l G yX11_match cX11_match 5 (some .int) 4 93 [.ref t, .int a1, .int a2] M ((fun q : Int32 × Mem => (some (Value.int q.1), q.2)) b).1 ((fun q : Int32 × Mem => (some (Value.int q.1), q.2)) b).2 := by
  refine Ok.ofX (pj := (fun q : Int32 × Mem => (some (Value.int q.1), q.2))) (by decide) (Nat.le_of_ble_eq_true rfl) hE (fun J g hr hG hl hR hn => ?_)
  show X J (fun q : Int32 × Mem => (some (Value.int q.1), q.2)) (fX11_match φ t a1 a2 M) 0 [(0, .ref t), (1, .int a1), (2, .int a2)] [] M
  unfold fX11_match
  exact (x_aload_n g 0 dX11_match_0 rfl rfl
 (x_iload_n g 1 dX11_match_1 rfl rfl
 (x_callVip (As := [.int a1]) g mv_X11_isHole mi_X11_isHole lk_RX11_302 ht (fun b hb => kX11_isHole t a1 M ht _ _ hb) rfl rfl hR ⟨Nat.le_of_ble_eq_true rfl, Nat.le_of_ble_eq_true rfl⟩ (Nat.le_of_ble_eq_true rfl) dX11_match_2 (fun v1 =>
 (x_if_eq g 21 dX11_match_5 rfl
 (fun _ => (x_aload_n g 0 dX11_match_21 rfl rfl
 (x_iconst g dX11_match_22 kI_1
 (x_callVi (As := [.int (1 : Int32)]) g mv_X11_refuse mi_X11_refuse lk_RX11_102 ht (fun b Mh_ hb => kX11_refuse t (1 : Int32) M ht _ _ hb) rfl rfl hR ⟨Nat.le_of_ble_eq_true rfl, Nat.le_of_ble_eq_true rfl⟩ (Nat.le_of_ble_eq_true rfl) dX11_match_23 (fun v2 M3 =>
 (x_iret g hr rfl rfl dX11_match_26))))))
 (fun _ => (x_aload_n g 0 dX11_match_8 rfl rfl
 (x_iload_n g 2 dX11_match_9 rfl rfl
 (x_callVip (As := [.int a2]) g mv_X11_isHole mi_X11_isHole lk_RX11_302 ht (fun b hb => kX11_isHole t a2 M ht _ _ hb) rfl rfl hR ⟨Nat.le_of_ble_eq_true rfl, Nat.le_of_ble_eq_true rfl⟩ (Nat.le_of_ble_eq_true rfl) dX11_match_10 (fun v4 =>
 (x_if_eq g 21 dX11_match_13 rfl
 (fun _ => (x_aload_n g 0 dX11_match_21 rfl rfl
 (x_iconst g dX11_match_22 kI_1
 (x_callVi (As := [.int (1 : Int32)]) g mv_X11_refuse mi_X11_refuse lk_RX11_102 ht (fun b Mh_ hb => kX11_refuse t (1 : Int32) M ht _ _ hb) rfl rfl hR ⟨Nat.le_of_ble_eq_true rfl, Nat.le_of_ble_eq_true rfl⟩ (Nat.le_of_ble_eq_true rfl) dX11_match_23 (fun v5 M6 =>
 (x_iret g hr rfl rfl dX11_match_26))))))
 (fun _ => (x_iload_n g 1 dX11_match_16 rfl rfl
 (x_iload_n g 2 dX11_match_17 rfl rfl
 (x_icmp_ne g 27 dX11_match_18 rfl
 (fun _ => (x_aload_n g 0 dX11_match_27 rfl rfl
 (x_iload_n g 1 dX11_match_28 rfl rfl
 (x_iload_n g 2 dX11_match_29 rfl rfl
 (x_callVi (As := [.int a1, .int a2]) g mv_X11_matches mi_X11_matches lk_RX11_330 ht (fun b Mh_ hb => kX11_matches φ t a1 a2 M ht _ _ hb) rfl rfl hR ⟨Nat.le_of_ble_eq_true rfl, Nat.le_of_ble_eq_true rfl⟩ (Nat.le_of_ble_eq_true rfl) dX11_match_30 (fun v7 M8 =>
 (x_istore_n (L' := [(3, .int v7), (0, .ref t), (1, .int a1), (2, .int a2)]) g dX11_match_33 rfl hn (Nat.le_of_ble_eq_true rfl) rfl
 (x_aload_n g 1 dX11_match_34 rfl rfl
 (x_iconst g dX11_match_35 kI_0
 (x_putI g fp_RX11_56 rfl (Nat.le_of_ble_eq_true rfl) ht dX11_match_36 (x_nmM (fun M9 =>
 (x_iconst g dX11_match_39 kI_0
 (x_istore (L' := [(4, .int (0 : Int32)), (3, .int v7), (0, .ref t), (1, .int a1), (2, .int a2)]) g dX11_match_40 hn (Nat.le_of_ble_eq_true rfl) rfl
 (x_sub [2, 1, 0] rfl (wlX11_match_42 g hr hR hn  t v7 ht φ (0 : Int32) M9))))))))))))))))
 (fun _ => (x_aload_n g 0 dX11_match_21 rfl rfl
 (x_iconst g dX11_match_22 kI_1
 (x_callVi (As := [.int (1 : Int32)]) g mv_X11_refuse mi_X11_refuse lk_RX11_102 ht (fun b Mh_ hb => kX11_refuse t (1 : Int32) M ht _ _ hb) rfl rfl hR ⟨Nat.le_of_ble_eq_true rfl, Nat.le_of_ble_eq_true rfl⟩ (Nat.le_of_ble_eq_true rfl) dX11_match_23 (fun v16 M17 =>
 (x_iret g hr rfl rfl dX11_match_26)))))))))))))))))))))
def fX11_orNone (t : Nat) (a1 : Int32) (M : Mem) : Option (Int32 × Mem) :=
  if a1 = (-1 : Int32) then
 bd (fX11_refuse t (6 : Int32) M) fun v3 M4 =>
 some (v3, M4)
 else
 bd (fX11_gives t a1 M) fun v1 M2 =>
 some (v1, M2)
set_option maxRecDepth 100000 in
set_option maxHeartbeats 4000000 in
theorem kX11_orNone (t : Nat) (a1 : Int32) (M : Mem) (ht : isO 11 t) (l : Launch) (G : GT) {b : (Int32 × Mem)} (hE : fX11_orNone t a1 M = some b) : Ok l G yX11_orNone cX11_orNone 2 (some .int) 1 21 [.ref t, .int a1] M ((fun q : Int32 × Mem => (some (Value.int q.1), q.2)) b).1 ((fun q : Int32 × Mem => (some (Value.int q.1), q.2)) b).2 := by
  refine Ok.ofX (pj := (fun q : Int32 × Mem => (some (Value.int q.1), q.2))) (by decide) (Nat.le_of_ble_eq_true rfl) hE (fun J g hr hG hl hR hn => ?_)
  show X J (fun q : Int32 × Mem => (some (Value.int q.1), q.2)) (fX11_orNone t a1 M) 0 [(0, .ref t), (1, .int a1)] [] M
  unfold fX11_orNone
  exact (x_iload_n g 1 dX11_orNone_0 rfl rfl
 (x_iconst g dX11_orNone_1 kI_m1
 (x_icmp_ne g 14 dX11_orNone_2 rfl
 (fun _ => (x_aload_n g 0 dX11_orNone_14 rfl rfl
 (x_iload_n g 1 dX11_orNone_15 rfl rfl
 (x_callVi (As := [.int a1]) g mv_X11_gives mi_X11_gives lk_RX11_106 ht (fun b Mh_ hb => kX11_gives t a1 M ht _ _ hb) rfl rfl hR ⟨Nat.le_of_ble_eq_true rfl, Nat.le_of_ble_eq_true rfl⟩ (Nat.le_of_ble_eq_true rfl) dX11_orNone_16 (fun v1 M2 =>
 (x_iret g hr rfl rfl dX11_orNone_19))))))
 (fun _ => (x_aload_n g 0 dX11_orNone_5 rfl rfl
 (x_bipush g dX11_orNone_6 kB_6
 (x_callVi (As := [.int (6 : Int32)]) g mv_X11_refuse mi_X11_refuse lk_RX11_102 ht (fun b Mh_ hb => kX11_refuse t (6 : Int32) M ht _ _ hb) rfl rfl hR ⟨Nat.le_of_ble_eq_true rfl, Nat.le_of_ble_eq_true rfl⟩ (Nat.le_of_ble_eq_true rfl) dX11_orNone_8 (fun v3 M4 =>
 (x_goto g 19 dX11_orNone_11 rfl
 (x_iret g hr rfl rfl dX11_orNone_19))))))))))
def fX11_pairOf (t : Nat) (a1 : Int32) (M : Mem) : Option (Int32 × Mem) :=
  if a1 < 0 then
 bd (fX11_refuse t (6 : Int32) M) fun v1 M2 =>
 some (v1, M2)
 else
 if (12 : Int32) ≤ a1 then
 bd (fX11_refuse t (6 : Int32) M) fun v3 M4 =>
 some (v3, M4)
 else
 if (M.1 t 26) = (-1 : Int32) then
 bd (fX11_refuse t (6 : Int32) M) fun v7 M8 =>
 some (v7, M8)
 else
 ixk a1 12 (
 bd (fX11_orNone t (M.1 (t + 11) a1.toNatClampNeg) M) fun v5 M6 =>
 some (v5, M6))
set_option maxRecDepth 100000 in
set_option maxHeartbeats 4000000 in
theorem kX11_pairOf (t : Nat) (a1 : Int32) (M : Mem) (ht : isO 11 t) (l : Launch) (G : GT) {b : (Int32 × Mem)} (hE : fX11_pairOf t a1 M = some b) : Ok l G yX11_pairOf cX11_pairOf 2 (some .int) 2 42 [.ref t, .int a1] M ((fun q : Int32 × Mem => (some (Value.int q.1), q.2)) b).1 ((fun q : Int32 × Mem => (some (Value.int q.1), q.2)) b).2 := by
  refine Ok.ofX (pj := (fun q : Int32 × Mem => (some (Value.int q.1), q.2))) (by decide) (Nat.le_of_ble_eq_true rfl) hE (fun J g hr hG hl hR hn => ?_)
  show X J (fun q : Int32 × Mem => (some (Value.int q.1), q.2)) (fX11_pairOf t a1 M) 0 [(0, .ref t), (1, .int a1)] [] M
  unfold fX11_pairOf
  exact (x_iload_n g 1 dX11_pairOf_0 rfl rfl
 (x_if_lt g 18 dX11_pairOf_1 rfl
 (fun _ => (x_aload_n g 0 dX11_pairOf_18 rfl rfl
 (x_bipush g dX11_pairOf_19 kB_6
 (x_callVi (As := [.int (6 : Int32)]) g mv_X11_refuse mi_X11_refuse lk_RX11_102 ht (fun b Mh_ hb => kX11_refuse t (6 : Int32) M ht _ _ hb) rfl rfl hR ⟨Nat.le_of_ble_eq_true rfl, Nat.le_of_ble_eq_true rfl⟩ (Nat.le_of_ble_eq_true rfl) dX11_pairOf_21 (fun v1 M2 =>
 (x_goto g 37 dX11_pairOf_24 rfl
 (x_iret g hr rfl rfl dX11_pairOf_37)))))))
 (fun _ => (x_iload_n g 1 dX11_pairOf_4 rfl rfl
 (x_bipush g dX11_pairOf_5 kB_12
 (x_icmp_ge g 18 dX11_pairOf_7 rfl
 (fun _ => (x_aload_n g 0 dX11_pairOf_18 rfl rfl
 (x_bipush g dX11_pairOf_19 kB_6
 (x_callVi (As := [.int (6 : Int32)]) g mv_X11_refuse mi_X11_refuse lk_RX11_102 ht (fun b Mh_ hb => kX11_refuse t (6 : Int32) M ht _ _ hb) rfl rfl hR ⟨Nat.le_of_ble_eq_true rfl, Nat.le_of_ble_eq_true rfl⟩ (Nat.le_of_ble_eq_true rfl) dX11_pairOf_21 (fun v3 M4 =>
 (x_goto g 37 dX11_pairOf_24 rfl
 (x_iret g hr rfl rfl dX11_pairOf_37)))))))
 (fun _ => (x_aload_n g 0 dX11_pairOf_10 rfl rfl
 (x_getI g fl_RX11_56 rfl ht dX11_pairOf_11
 (x_iconst g dX11_pairOf_14 kI_m1
 (x_icmp_ne g 27 dX11_pairOf_15 rfl
 (fun _ => (x_aload_n g 0 dX11_pairOf_27 rfl rfl
 (x_aload_n g 0 dX11_pairOf_28 rfl rfl
 (x_getS g 11 fl_RX11_53 rfl ht dX11_pairOf_29
 (x_iload_n g 1 dX11_pairOf_32 rfl rfl
 (x_iald g (so_11_25 ht) dX11_pairOf_33
 (x_callVi (As := [.int (M.1 (t + 11) a1.toNatClampNeg)]) g mv_X11_orNone mi_X11_orNone lk_RX11_333 ht (fun b Mh_ hb => kX11_orNone t (M.1 (t + 11) a1.toNatClampNeg) M ht _ _ hb) rfl rfl hR ⟨Nat.le_of_ble_eq_true rfl, Nat.le_of_ble_eq_true rfl⟩ (Nat.le_of_ble_eq_true rfl) dX11_pairOf_34 (fun v5 M6 =>
 (x_iret g hr rfl rfl dX11_pairOf_37)))))))))
 (fun _ => (x_aload_n g 0 dX11_pairOf_18 rfl rfl
 (x_bipush g dX11_pairOf_19 kB_6
 (x_callVi (As := [.int (6 : Int32)]) g mv_X11_refuse mi_X11_refuse lk_RX11_102 ht (fun b Mh_ hb => kX11_refuse t (6 : Int32) M ht _ _ hb) rfl rfl hR ⟨Nat.le_of_ble_eq_true rfl, Nat.le_of_ble_eq_true rfl⟩ (Nat.le_of_ble_eq_true rfl) dX11_pairOf_21 (fun v7 M8 =>
 (x_goto g 37 dX11_pairOf_24 rfl
 (x_iret g hr rfl rfl dX11_pairOf_37))))))))))))))))))
def fX11_pairs (t : Nat) (M : Mem) : Option (Int32 × Mem) :=
  bd (fX11_orNone t (M.1 t 26) M) fun v1 M2 =>
 some (v1, M2)
set_option maxRecDepth 100000 in
set_option maxHeartbeats 4000000 in
theorem kX11_pairs (t : Nat) (M : Mem) (ht : isO 11 t) (l : Launch) (G : GT) {b : (Int32 × Mem)} (hE : fX11_pairs t M = some b) : Ok l G yX11_pairs cX11_pairs 1 (some .int) 2 42 [.ref t] M ((fun q : Int32 × Mem => (some (Value.int q.1), q.2)) b).1 ((fun q : Int32 × Mem => (some (Value.int q.1), q.2)) b).2 := by
  refine Ok.ofX (pj := (fun q : Int32 × Mem => (some (Value.int q.1), q.2))) (by decide) (Nat.le_of_ble_eq_true rfl) hE (fun J g hr hG hl hR hn => ?_)
  show X J (fun q : Int32 × Mem => (some (Value.int q.1), q.2)) (fX11_pairs t M) 0 [(0, .ref t)] [] M
  unfold fX11_pairs
  exact (x_aload_n g 0 dX11_pairs_0 rfl rfl
 (x_aload_n g 0 dX11_pairs_1 rfl rfl
 (x_getI g fl_RX11_56 rfl ht dX11_pairs_2
 (x_callVi (As := [.int (M.1 t 26)]) g mv_X11_orNone mi_X11_orNone lk_RX11_333 ht (fun b Mh_ hb => kX11_orNone t (M.1 t 26) M ht _ _ hb) rfl rfl hR ⟨Nat.le_of_ble_eq_true rfl, Nat.le_of_ble_eq_true rfl⟩ (Nat.le_of_ble_eq_true rfl) dX11_pairs_5 (fun v1 M2 =>
 (x_iret g hr rfl rfl dX11_pairs_8))))))
