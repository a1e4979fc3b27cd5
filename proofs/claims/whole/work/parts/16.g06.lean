theorem dX3_behindStep_0 : decode cX3_behindStep 0 = .ok (.aload_n 1, 1) := by decide +kernel
theorem dX3_behindStep_1 : decode cX3_behindStep 1 = .ok (.getfield 44, 3) := by decide +kernel
theorem dX3_behindStep_4 : decode cX3_behindStep 4 = .ok (.iload_n 2, 1) := by decide +kernel
theorem dX3_behindStep_5 : decode cX3_behindStep 5 = .ok (.iaload, 1) := by decide +kernel
theorem dX3_behindStep_6 : decode cX3_behindStep 6 = .ok (.tableswitch 189 13 23 #[58, 85, 114, 129, 189, 189, 189, 189, 150, 189, 184], 58) := by decide +kernel
theorem dX3_behindStep_64 : decode cX3_behindStep 64 = .ok (.aload_n 0, 1) := by decide +kernel
theorem dX3_behindStep_65 : decode cX3_behindStep 65 = .ok (.aload_n 3, 1) := by decide +kernel
theorem dX3_behindStep_66 : decode cX3_behindStep 66 = .ok (.aload_n 1, 1) := by decide +kernel
theorem dX3_behindStep_67 : decode cX3_behindStep 67 = .ok (.getfield 58, 3) := by decide +kernel
theorem dX3_behindStep_70 : decode cX3_behindStep 70 = .ok (.iload_n 2, 1) := by decide +kernel
theorem dX3_behindStep_71 : decode cX3_behindStep 71 = .ok (.iaload, 1) := by decide +kernel
theorem dX3_behindStep_72 : decode cX3_behindStep 72 = .ok (.aload_n 1, 1) := by decide +kernel
theorem dX3_behindStep_73 : decode cX3_behindStep 73 = .ok (.getfield 61, 3) := by decide +kernel
theorem dX3_behindStep_76 : decode cX3_behindStep 76 = .ok (.iload_n 2, 1) := by decide +kernel
theorem dX3_behindStep_77 : decode cX3_behindStep 77 = .ok (.iaload, 1) := by decide +kernel
theorem dX3_behindStep_78 : decode cX3_behindStep 78 = .ok (.aload_n 1, 1) := by decide +kernel
theorem dX3_behindStep_79 : decode cX3_behindStep 79 = .ok (.getfield 64, 3) := by decide +kernel
theorem dX3_behindStep_82 : decode cX3_behindStep 82 = .ok (.iload_n 2, 1) := by decide +kernel
theorem dX3_behindStep_83 : decode cX3_behindStep 83 = .ok (.iaload, 1) := by decide +kernel
theorem dX3_behindStep_84 : decode cX3_behindStep 84 = .ok (.invokevirtual 67, 3) := by decide +kernel
theorem dX3_behindStep_87 : decode cX3_behindStep 87 = .ok (.iload_n 2, 1) := by decide +kernel
theorem dX3_behindStep_88 : decode cX3_behindStep 88 = .ok (.iconst 1, 1) := by decide +kernel
theorem dX3_behindStep_89 : decode cX3_behindStep 89 = .ok (.iadd, 1) := by decide +kernel
theorem dX3_behindStep_90 : decode cX3_behindStep 90 = .ok (.ireturn, 1) := by decide +kernel
theorem dX3_behindStep_91 : decode cX3_behindStep 91 = .ok (.aload_n 0, 1) := by decide +kernel
theorem dX3_behindStep_92 : decode cX3_behindStep 92 = .ok (.dup, 1) := by decide +kernel
theorem dX3_behindStep_93 : decode cX3_behindStep 93 = .ok (.getfield 31, 3) := by decide +kernel
theorem dX3_behindStep_96 : decode cX3_behindStep 96 = .ok (.aload_n 3, 1) := by decide +kernel
theorem dX3_behindStep_97 : decode cX3_behindStep 97 = .ok (.aload_n 1, 1) := by decide +kernel
theorem dX3_behindStep_98 : decode cX3_behindStep 98 = .ok (.getfield 58, 3) := by decide +kernel
theorem dX3_behindStep_101 : decode cX3_behindStep 101 = .ok (.iload_n 2, 1) := by decide +kernel
theorem dX3_behindStep_102 : decode cX3_behindStep 102 = .ok (.iaload, 1) := by decide +kernel
theorem dX3_behindStep_103 : decode cX3_behindStep 103 = .ok (.aload_n 1, 1) := by decide +kernel
theorem dX3_behindStep_104 : decode cX3_behindStep 104 = .ok (.getfield 64, 3) := by decide +kernel
theorem dX3_behindStep_107 : decode cX3_behindStep 107 = .ok (.iload_n 2, 1) := by decide +kernel
theorem dX3_behindStep_108 : decode cX3_behindStep 108 = .ok (.iaload, 1) := by decide +kernel
theorem dX3_behindStep_109 : decode cX3_behindStep 109 = .ok (.invokevirtual 71, 3) := by decide +kernel
theorem dX3_behindStep_112 : decode cX3_behindStep 112 = .ok (.iadd, 1) := by decide +kernel
theorem dX3_behindStep_113 : decode cX3_behindStep 113 = .ok (.putfield 31, 3) := by decide +kernel
theorem dX3_behindStep_116 : decode cX3_behindStep 116 = .ok (.iload_n 2, 1) := by decide +kernel
theorem dX3_behindStep_117 : decode cX3_behindStep 117 = .ok (.iconst 1, 1) := by decide +kernel
theorem dX3_behindStep_118 : decode cX3_behindStep 118 = .ok (.iadd, 1) := by decide +kernel
theorem dX3_behindStep_119 : decode cX3_behindStep 119 = .ok (.ireturn, 1) := by decide +kernel
theorem dX3_behindStep_120 : decode cX3_behindStep 120 = .ok (.aload_n 0, 1) := by decide +kernel
theorem dX3_behindStep_121 : decode cX3_behindStep 121 = .ok (.aload_n 3, 1) := by decide +kernel
theorem dX3_behindStep_122 : decode cX3_behindStep 122 = .ok (.aload_n 1, 1) := by decide +kernel
theorem dX3_behindStep_123 : decode cX3_behindStep 123 = .ok (.getfield 64, 3) := by decide +kernel
theorem dX3_behindStep_126 : decode cX3_behindStep 126 = .ok (.iload_n 2, 1) := by decide +kernel
theorem dX3_behindStep_127 : decode cX3_behindStep 127 = .ok (.iaload, 1) := by decide +kernel
theorem dX3_behindStep_128 : decode cX3_behindStep 128 = .ok (.invokevirtual 77, 3) := by decide +kernel
theorem dX3_behindStep_131 : decode cX3_behindStep 131 = .ok (.iload_n 2, 1) := by decide +kernel
theorem dX3_behindStep_132 : decode cX3_behindStep 132 = .ok (.iconst 1, 1) := by decide +kernel
theorem dX3_behindStep_133 : decode cX3_behindStep 133 = .ok (.iadd, 1) := by decide +kernel
theorem dX3_behindStep_134 : decode cX3_behindStep 134 = .ok (.ireturn, 1) := by decide +kernel
theorem dX3_behindStep_135 : decode cX3_behindStep 135 = .ok (.aload_n 0, 1) := by decide +kernel
theorem dX3_behindStep_136 : decode cX3_behindStep 136 = .ok (.aload_n 3, 1) := by decide +kernel
theorem dX3_behindStep_137 : decode cX3_behindStep 137 = .ok (.aload_n 1, 1) := by decide +kernel
theorem dX3_behindStep_138 : decode cX3_behindStep 138 = .ok (.getfield 58, 3) := by decide +kernel
theorem dX3_behindStep_141 : decode cX3_behindStep 141 = .ok (.iload_n 2, 1) := by decide +kernel
theorem dX3_behindStep_142 : decode cX3_behindStep 142 = .ok (.iaload, 1) := by decide +kernel
theorem dX3_behindStep_143 : decode cX3_behindStep 143 = .ok (.aload_n 1, 1) := by decide +kernel
theorem dX3_behindStep_144 : decode cX3_behindStep 144 = .ok (.getfield 64, 3) := by decide +kernel
theorem dX3_behindStep_147 : decode cX3_behindStep 147 = .ok (.iload_n 2, 1) := by decide +kernel
theorem dX3_behindStep_148 : decode cX3_behindStep 148 = .ok (.iaload, 1) := by decide +kernel
theorem dX3_behindStep_149 : decode cX3_behindStep 149 = .ok (.invokevirtual 81, 3) := by decide +kernel
theorem dX3_behindStep_152 : decode cX3_behindStep 152 = .ok (.iload_n 2, 1) := by decide +kernel
theorem dX3_behindStep_153 : decode cX3_behindStep 153 = .ok (.iconst 1, 1) := by decide +kernel
theorem dX3_behindStep_154 : decode cX3_behindStep 154 = .ok (.iadd, 1) := by decide +kernel
theorem dX3_behindStep_155 : decode cX3_behindStep 155 = .ok (.ireturn, 1) := by decide +kernel
theorem dX3_behindStep_156 : decode cX3_behindStep 156 = .ok (.aload_n 0, 1) := by decide +kernel
theorem dX3_behindStep_157 : decode cX3_behindStep 157 = .ok (.getfield 11, 3) := by decide +kernel
theorem dX3_behindStep_160 : decode cX3_behindStep 160 = .ok (.iload_n 2, 1) := by decide +kernel
theorem dX3_behindStep_161 : decode cX3_behindStep 161 = .ok (.aload_n 1, 1) := by decide +kernel
theorem dX3_behindStep_162 : decode cX3_behindStep 162 = .ok (.getfield 64, 3) := by decide +kernel
theorem dX3_behindStep_165 : decode cX3_behindStep 165 = .ok (.iload_n 2, 1) := by decide +kernel
theorem dX3_behindStep_166 : decode cX3_behindStep 166 = .ok (.iaload, 1) := by decide +kernel
theorem dX3_behindStep_167 : decode cX3_behindStep 167 = .ok (.iastore, 1) := by decide +kernel
theorem dX3_behindStep_168 : decode cX3_behindStep 168 = .ok (.aload_n 1, 1) := by decide +kernel
theorem dX3_behindStep_169 : decode cX3_behindStep 169 = .ok (.getfield 55, 3) := by decide +kernel
theorem dX3_behindStep_172 : decode cX3_behindStep 172 = .ok (.iload_n 2, 1) := by decide +kernel
theorem dX3_behindStep_173 : decode cX3_behindStep 173 = .ok (.iaload, 1) := by decide +kernel
theorem dX3_behindStep_174 : decode cX3_behindStep 174 = .ok (.iload_n 2, 1) := by decide +kernel
theorem dX3_behindStep_175 : decode cX3_behindStep 175 = .ok (.iconst 1, 1) := by decide +kernel
theorem dX3_behindStep_176 : decode cX3_behindStep 176 = .ok (.iadd, 1) := by decide +kernel
theorem dX3_behindStep_177 : decode cX3_behindStep 177 = .ok (.if_icmp .ne 9, 3) := by decide +kernel
theorem dX3_behindStep_180 : decode cX3_behindStep 180 = .ok (.iload_n 2, 1) := by decide +kernel
theorem dX3_behindStep_181 : decode cX3_behindStep 181 = .ok (.iconst 2, 1) := by decide +kernel
theorem dX3_behindStep_182 : decode cX3_behindStep 182 = .ok (.iadd, 1) := by decide +kernel
theorem dX3_behindStep_183 : decode cX3_behindStep 183 = .ok (.goto 6, 3) := by decide +kernel
theorem dX3_behindStep_186 : decode cX3_behindStep 186 = .ok (.iload_n 2, 1) := by decide +kernel
theorem dX3_behindStep_187 : decode cX3_behindStep 187 = .ok (.iconst 1, 1) := by decide +kernel
theorem dX3_behindStep_188 : decode cX3_behindStep 188 = .ok (.iadd, 1) := by decide +kernel
theorem dX3_behindStep_189 : decode cX3_behindStep 189 = .ok (.ireturn, 1) := by decide +kernel
theorem dX3_behindStep_190 : decode cX3_behindStep 190 = .ok (.aload_n 1, 1) := by decide +kernel
theorem dX3_behindStep_191 : decode cX3_behindStep 191 = .ok (.getfield 41, 3) := by decide +kernel
theorem dX3_behindStep_194 : decode cX3_behindStep 194 = .ok (.ireturn, 1) := by decide +kernel
theorem dX3_behindStep_195 : decode cX3_behindStep 195 = .ok (.aload_n 1, 1) := by decide +kernel
theorem dX3_behindStep_196 : decode cX3_behindStep 196 = .ok (.iload_n 2, 1) := by decide +kernel
theorem dX3_behindStep_197 : decode cX3_behindStep 197 = .ok (.aload_n 3, 1) := by decide +kernel
theorem dX3_behindStep_198 : decode cX3_behindStep 198 = .ok (.invokestatic 85, 3) := by decide +kernel
theorem dX3_behindStep_201 : decode cX3_behindStep 201 = .ok (.ifCond .eq 9, 3) := by decide +kernel
theorem dX3_behindStep_204 : decode cX3_behindStep 204 = .ok (.iload_n 2, 1) := by decide +kernel
theorem dX3_behindStep_205 : decode cX3_behindStep 205 = .ok (.iconst 1, 1) := by decide +kernel
theorem dX3_behindStep_206 : decode cX3_behindStep 206 = .ok (.iadd, 1) := by decide +kernel
theorem dX3_behindStep_207 : decode cX3_behindStep 207 = .ok (.goto 11, 3) := by decide +kernel
theorem dX3_behindStep_210 : decode cX3_behindStep 210 = .ok (.aload_n 1, 1) := by decide +kernel
theorem dX3_behindStep_211 : decode cX3_behindStep 211 = .ok (.getfield 55, 3) := by decide +kernel
theorem dX3_behindStep_214 : decode cX3_behindStep 214 = .ok (.iload_n 2, 1) := by decide +kernel
theorem dX3_behindStep_215 : decode cX3_behindStep 215 = .ok (.iaload, 1) := by decide +kernel
theorem dX3_behindStep_216 : decode cX3_behindStep 216 = .ok (.iconst 1, 1) := by decide +kernel
theorem dX3_behindStep_217 : decode cX3_behindStep 217 = .ok (.iadd, 1) := by decide +kernel
theorem dX3_behindStep_218 : decode cX3_behindStep 218 = .ok (.ireturn, 1) := by decide +kernel
theorem dX3_run_0 : decode cX3_run 0 = .ok (.aload_n 0, 1) := by decide +kernel
theorem dX3_run_1 : decode cX3_run 1 = .ok (.iconst 1, 1) := by decide +kernel
theorem dX3_run_2 : decode cX3_run 2 = .ok (.putfield 17, 3) := by decide +kernel
theorem dX3_run_5 : decode cX3_run 5 = .ok (.aload_n 0, 1) := by decide +kernel
theorem dX3_run_6 : decode cX3_run 6 = .ok (.iconst 0, 1) := by decide +kernel
theorem dX3_run_7 : decode cX3_run 7 = .ok (.putfield 21, 3) := by decide +kernel
theorem dX3_run_10 : decode cX3_run 10 = .ok (.aload_n 0, 1) := by decide +kernel
theorem dX3_run_11 : decode cX3_run 11 = .ok (.iconst 0, 1) := by decide +kernel
theorem dX3_run_12 : decode cX3_run 12 = .ok (.putfield 25, 3) := by decide +kernel
theorem dX3_run_15 : decode cX3_run 15 = .ok (.aload_n 0, 1) := by decide +kernel
theorem dX3_run_16 : decode cX3_run 16 = .ok (.iconst 0, 1) := by decide +kernel
theorem dX3_run_17 : decode cX3_run 17 = .ok (.putfield 28, 3) := by decide +kernel
theorem dX3_run_20 : decode cX3_run 20 = .ok (.aload_n 0, 1) := by decide +kernel
theorem dX3_run_21 : decode cX3_run 21 = .ok (.iconst 0, 1) := by decide +kernel
theorem dX3_run_22 : decode cX3_run 22 = .ok (.putfield 31, 3) := by decide +kernel
theorem dX3_run_25 : decode cX3_run 25 = .ok (.aload_n 0, 1) := by decide +kernel
theorem dX3_run_26 : decode cX3_run 26 = .ok (.iconst 0, 1) := by decide +kernel
theorem dX3_run_27 : decode cX3_run 27 = .ok (.putfield 34, 3) := by decide +kernel
theorem dX3_run_30 : decode cX3_run 30 = .ok (.aload_n 0, 1) := by decide +kernel
theorem dX3_run_31 : decode cX3_run 31 = .ok (.iload_n 3, 1) := by decide +kernel
theorem dX3_run_32 : decode cX3_run 32 = .ok (.putfield 37, 3) := by decide +kernel
theorem dX3_run_35 : decode cX3_run 35 = .ok (.iconst 0, 1) := by decide +kernel
theorem dX3_run_36 : decode cX3_run 36 = .ok (.istore 4, 2) := by decide +kernel
theorem dX3_run_38 : decode cX3_run 38 = .ok (.iconst 0, 1) := by decide +kernel
theorem dX3_run_39 : decode cX3_run 39 = .ok (.istore 5, 2) := by decide +kernel
theorem dX3_run_41 : decode cX3_run 41 = .ok (.iload 5, 2) := by decide +kernel
theorem dX3_run_43 : decode cX3_run 43 = .ok (.ldc 40, 2) := by decide +kernel
theorem dX3_run_45 : decode cX3_run 45 = .ok (.if_icmp .ge 87, 3) := by decide +kernel
theorem dX3_run_48 : decode cX3_run 48 = .ok (.iload 4, 2) := by decide +kernel
theorem dX3_run_50 : decode cX3_run 50 = .ok (.aload_n 1, 1) := by decide +kernel
theorem dX3_run_51 : decode cX3_run 51 = .ok (.getfield 41, 3) := by decide +kernel
theorem dX3_run_54 : decode cX3_run 54 = .ok (.if_icmp .ge 78, 3) := by decide +kernel
theorem dX3_run_57 : decode cX3_run 57 = .ok (.aload_n 0, 1) := by decide +kernel
theorem dX3_run_58 : decode cX3_run 58 = .ok (.getfield 34, 3) := by decide +kernel
theorem dX3_run_61 : decode cX3_run 61 = .ok (.ifCond .ne 71, 3) := by decide +kernel
theorem dX3_run_64 : decode cX3_run 64 = .ok (.aload_n 1, 1) := by decide +kernel
theorem dX3_run_65 : decode cX3_run 65 = .ok (.getfield 44, 3) := by decide +kernel
theorem dX3_run_68 : decode cX3_run 68 = .ok (.iload 4, 2) := by decide +kernel
theorem dX3_run_70 : decode cX3_run 70 = .ok (.iaload, 1) := by decide +kernel
theorem dX3_run_71 : decode cX3_run 71 = .ok (.bipush 22, 2) := by decide +kernel
theorem dX3_run_73 : decode cX3_run 73 = .ok (.if_icmp .ne 15, 3) := by decide +kernel
theorem dX3_run_76 : decode cX3_run 76 = .ok (.aload_n 0, 1) := by decide +kernel
theorem dX3_run_77 : decode cX3_run 77 = .ok (.aload_n 1, 1) := by decide +kernel
theorem dX3_run_78 : decode cX3_run 78 = .ok (.iload 4, 2) := by decide +kernel
theorem dX3_run_80 : decode cX3_run 80 = .ok (.invokevirtual 47, 3) := by decide +kernel
theorem dX3_run_83 : decode cX3_run 83 = .ok (.istore 4, 2) := by decide +kernel
theorem dX3_run_85 : decode cX3_run 85 = .ok (.goto 41, 3) := by decide +kernel
theorem dX3_run_88 : decode cX3_run 88 = .ok (.aload_n 0, 1) := by decide +kernel
theorem dX3_run_89 : decode cX3_run 89 = .ok (.getfield 21, 3) := by decide +kernel
theorem dX3_run_92 : decode cX3_run 92 = .ok (.sipush 300, 3) := by decide +kernel
theorem dX3_run_95 : decode cX3_run 95 = .ok (.if_icmp .lt 11, 3) := by decide +kernel
theorem dX3_run_98 : decode cX3_run 98 = .ok (.aload_n 0, 1) := by decide +kernel
theorem dX3_run_99 : decode cX3_run 99 = .ok (.iconst 1, 1) := by decide +kernel
theorem dX3_run_100 : decode cX3_run 100 = .ok (.putfield 34, 3) := by decide +kernel
theorem dX3_run_103 : decode cX3_run 103 = .ok (.goto 23, 3) := by decide +kernel
theorem dX3_run_106 : decode cX3_run 106 = .ok (.aload_n 0, 1) := by decide +kernel
theorem dX3_run_107 : decode cX3_run 107 = .ok (.dup, 1) := by decide +kernel
theorem dX3_run_108 : decode cX3_run 108 = .ok (.getfield 21, 3) := by decide +kernel
theorem dX3_run_111 : decode cX3_run 111 = .ok (.iconst 1, 1) := by decide +kernel
theorem dX3_run_112 : decode cX3_run 112 = .ok (.iadd, 1) := by decide +kernel
theorem dX3_run_113 : decode cX3_run 113 = .ok (.putfield 21, 3) := by decide +kernel
theorem dX3_run_116 : decode cX3_run 116 = .ok (.aload_n 0, 1) := by decide +kernel
theorem dX3_run_117 : decode cX3_run 117 = .ok (.aload_n 1, 1) := by decide +kernel
theorem dX3_run_118 : decode cX3_run 118 = .ok (.iload 4, 2) := by decide +kernel
theorem dX3_run_120 : decode cX3_run 120 = .ok (.aload_n 2, 1) := by decide +kernel
theorem dX3_run_121 : decode cX3_run 121 = .ok (.invokevirtual 51, 3) := by decide +kernel
theorem dX3_run_124 : decode cX3_run 124 = .ok (.istore 4, 2) := by decide +kernel
theorem dX3_run_126 : decode cX3_run 126 = .ok (.iinc 5 1, 3) := by decide +kernel
theorem dX3_run_129 : decode cX3_run 129 = .ok (.goto (-88), 3) := by decide +kernel
theorem dX3_run_132 : decode cX3_run 132 = .ok (.return_, 1) := by decide +kernel
theorem dX10_live_0 : decode cX10_live 0 = .ok (.iload_n 1, 1) := by decide +kernel
theorem dX10_live_1 : decode cX10_live 1 = .ok (.iconst 0, 1) := by decide +kernel
theorem dX10_live_2 : decode cX10_live 2 = .ok (.sipush 9999, 3) := by decide +kernel
theorem dX10_live_5 : decode cX10_live 5 = .ok (.invokestatic 114, 3) := by decide +kernel
theorem dX10_live_8 : decode cX10_live 8 = .ok (.ifCond .ne 9, 3) := by decide +kernel
theorem dX10_live_11 : decode cX10_live 11 = .ok (.aload_n 0, 1) := by decide +kernel
theorem dX10_live_12 : decode cX10_live 12 = .ok (.iconst 1, 1) := by decide +kernel
theorem dX10_live_13 : decode cX10_live 13 = .ok (.invokevirtual 137, 3) := by decide +kernel
theorem dX10_live_16 : decode cX10_live 16 = .ok (.ireturn, 1) := by decide +kernel
theorem dX10_live_17 : decode cX10_live 17 = .ok (.aload_n 0, 1) := by decide +kernel
theorem dX10_live_18 : decode cX10_live 18 = .ok (.getfield 60, 3) := by decide +kernel
theorem dX10_live_21 : decode cX10_live 21 = .ok (.getfield 436, 3) := by decide +kernel
theorem dX10_live_24 : decode cX10_live 24 = .ok (.ifCond .ne 10, 3) := by decide +kernel
theorem dX10_live_27 : decode cX10_live 27 = .ok (.aload_n 0, 1) := by decide +kernel
theorem dX10_live_28 : decode cX10_live 28 = .ok (.bipush 6, 2) := by decide +kernel
theorem dX10_live_30 : decode cX10_live 30 = .ok (.invokevirtual 137, 3) := by decide +kernel
theorem dX10_live_33 : decode cX10_live 33 = .ok (.ireturn, 1) := by decide +kernel
theorem dX10_live_34 : decode cX10_live 34 = .ok (.aload_n 0, 1) := by decide +kernel
theorem dX10_live_35 : decode cX10_live 35 = .ok (.getfield 102, 3) := by decide +kernel
theorem dX10_live_38 : decode cX10_live 38 = .ok (.aload_n 0, 1) := by decide +kernel
theorem dX10_live_39 : decode cX10_live 39 = .ok (.getfield 60, 3) := by decide +kernel
theorem dX10_live_42 : decode cX10_live 42 = .ok (.aload_n 0, 1) := by decide +kernel
theorem dX10_live_43 : decode cX10_live 43 = .ok (.getfield 50, 3) := by decide +kernel
theorem dX10_live_46 : decode cX10_live 46 = .ok (.iload_n 1, 1) := by decide +kernel
theorem dX10_live_47 : decode cX10_live 47 = .ok (.invokevirtual 439, 3) := by decide +kernel
theorem dX10_live_50 : decode cX10_live 50 = .ok (.aload_n 0, 1) := by decide +kernel
theorem dX10_live_51 : decode cX10_live 51 = .ok (.getfield 88, 3) := by decide +kernel
theorem dX10_live_54 : decode cX10_live 54 = .ok (.invokevirtual 181, 3) := by decide +kernel
theorem dX10_live_57 : decode cX10_live 57 = .ok (.aload_n 0, 1) := by decide +kernel
theorem dX10_live_58 : decode cX10_live 58 = .ok (.aload_n 0, 1) := by decide +kernel
theorem dX10_live_59 : decode cX10_live 59 = .ok (.getfield 102, 3) := by decide +kernel
theorem dX10_live_62 : decode cX10_live 62 = .ok (.getfield 443, 3) := by decide +kernel
theorem dX10_live_65 : decode cX10_live 65 = .ok (.invokevirtual 187, 3) := by decide +kernel
theorem dX10_live_68 : decode cX10_live 68 = .ok (.ireturn, 1) := by decide +kernel
theorem dX10_lived_0 : decode cX10_lived 0 = .ok (.iload_n 1, 1) := by decide +kernel
theorem dX10_lived_1 : decode cX10_lived 1 = .ok (.iconst 0, 1) := by decide +kernel
theorem dX10_lived_2 : decode cX10_lived 2 = .ok (.iconst 3, 1) := by decide +kernel
theorem dX10_lived_3 : decode cX10_lived 3 = .ok (.invokestatic 114, 3) := by decide +kernel
theorem dX10_lived_6 : decode cX10_lived 6 = .ok (.ifCond .ne 9, 3) := by decide +kernel
theorem dX10_lived_9 : decode cX10_lived 9 = .ok (.aload_n 0, 1) := by decide +kernel
theorem dX10_lived_10 : decode cX10_lived 10 = .ok (.iconst 1, 1) := by decide +kernel
theorem dX10_lived_11 : decode cX10_lived 11 = .ok (.invokevirtual 137, 3) := by decide +kernel
theorem dX10_lived_14 : decode cX10_lived 14 = .ok (.ireturn, 1) := by decide +kernel
theorem dX10_lived_15 : decode cX10_lived 15 = .ok (.aload_n 0, 1) := by decide +kernel
theorem dX10_lived_16 : decode cX10_lived 16 = .ok (.getfield 102, 3) := by decide +kernel
theorem dX10_lived_19 : decode cX10_lived 19 = .ok (.getfield 444, 3) := by decide +kernel
theorem dX10_lived_22 : decode cX10_lived 22 = .ok (.ifCond .ne 10, 3) := by decide +kernel
theorem dX10_lived_25 : decode cX10_lived 25 = .ok (.aload_n 0, 1) := by decide +kernel
theorem dX10_lived_26 : decode cX10_lived 26 = .ok (.bipush 6, 2) := by decide +kernel
theorem dX10_lived_28 : decode cX10_lived 28 = .ok (.invokevirtual 137, 3) := by decide +kernel
theorem dX10_lived_31 : decode cX10_lived 31 = .ok (.ireturn, 1) := by decide +kernel
theorem dX10_lived_32 : decode cX10_lived 32 = .ok (.iload_n 1, 1) := by decide +kernel
theorem dX10_lived_33 : decode cX10_lived 33 = .ok (.tableswitch 63 0 2 #[27, 39, 51], 27) := by decide +kernel
theorem dX10_lived_60 : decode cX10_lived 60 = .ok (.aload_n 0, 1) := by decide +kernel
theorem dX10_lived_61 : decode cX10_lived 61 = .ok (.aload_n 0, 1) := by decide +kernel
theorem dX10_lived_62 : decode cX10_lived 62 = .ok (.getfield 102, 3) := by decide +kernel
theorem dX10_lived_65 : decode cX10_lived 65 = .ok (.getfield 447, 3) := by decide +kernel
theorem dX10_lived_68 : decode cX10_lived 68 = .ok (.invokevirtual 187, 3) := by decide +kernel
theorem dX10_lived_71 : decode cX10_lived 71 = .ok (.ireturn, 1) := by decide +kernel
theorem dX10_lived_72 : decode cX10_lived 72 = .ok (.aload_n 0, 1) := by decide +kernel
theorem dX10_lived_73 : decode cX10_lived 73 = .ok (.aload_n 0, 1) := by decide +kernel
theorem dX10_lived_74 : decode cX10_lived 74 = .ok (.getfield 102, 3) := by decide +kernel
theorem dX10_lived_77 : decode cX10_lived 77 = .ok (.getfield 450, 3) := by decide +kernel
theorem dX10_lived_80 : decode cX10_lived 80 = .ok (.invokevirtual 187, 3) := by decide +kernel
theorem dX10_lived_83 : decode cX10_lived 83 = .ok (.ireturn, 1) := by decide +kernel
theorem dX10_lived_84 : decode cX10_lived 84 = .ok (.aload_n 0, 1) := by decide +kernel
theorem dX10_lived_85 : decode cX10_lived 85 = .ok (.aload_n 0, 1) := by decide +kernel
theorem dX10_lived_86 : decode cX10_lived 86 = .ok (.getfield 102, 3) := by decide +kernel
theorem dX10_lived_89 : decode cX10_lived 89 = .ok (.getfield 453, 3) := by decide +kernel
theorem dX10_lived_92 : decode cX10_lived 92 = .ok (.invokevirtual 187, 3) := by decide +kernel
theorem dX10_lived_95 : decode cX10_lived 95 = .ok (.ireturn, 1) := by decide +kernel
theorem dX10_lived_96 : decode cX10_lived 96 = .ok (.aload_n 0, 1) := by decide +kernel
theorem dX10_lived_97 : decode cX10_lived 97 = .ok (.aload_n 0, 1) := by decide +kernel
theorem dX10_lived_98 : decode cX10_lived 98 = .ok (.getfield 102, 3) := by decide +kernel
theorem dX10_lived_101 : decode cX10_lived 101 = .ok (.getfield 456, 3) := by decide +kernel
theorem dX10_lived_104 : decode cX10_lived 104 = .ok (.invokevirtual 270, 3) := by decide +kernel
theorem dX10_lived_107 : decode cX10_lived 107 = .ok (.ireturn, 1) := by decide +kernel
theorem dX2_takeOver_0 : decode cX2_takeOver 0 = .ok (.aload_n 0, 1) := by decide +kernel
theorem dX2_takeOver_1 : decode cX2_takeOver 1 = .ok (.aload_n 1, 1) := by decide +kernel
theorem dX2_takeOver_2 : decode cX2_takeOver 2 = .ok (.getfield 9, 3) := by decide +kernel
theorem dX2_takeOver_5 : decode cX2_takeOver 5 = .ok (.putfield 9, 3) := by decide +kernel
theorem dX2_takeOver_8 : decode cX2_takeOver 8 = .ok (.aload_n 0, 1) := by decide +kernel
theorem dX2_takeOver_9 : decode cX2_takeOver 9 = .ok (.aload_n 1, 1) := by decide +kernel
theorem dX2_takeOver_10 : decode cX2_takeOver 10 = .ok (.getfield 26, 3) := by decide +kernel
theorem dX2_takeOver_13 : decode cX2_takeOver 13 = .ok (.putfield 26, 3) := by decide +kernel
theorem dX2_takeOver_16 : decode cX2_takeOver 16 = .ok (.aload_n 0, 1) := by decide +kernel
theorem dX2_takeOver_17 : decode cX2_takeOver 17 = .ok (.aload_n 1, 1) := by decide +kernel
theorem dX2_takeOver_18 : decode cX2_takeOver 18 = .ok (.getfield 47, 3) := by decide +kernel
theorem dX2_takeOver_21 : decode cX2_takeOver 21 = .ok (.putfield 47, 3) := by decide +kernel
theorem dX2_takeOver_24 : decode cX2_takeOver 24 = .ok (.aload_n 0, 1) := by decide +kernel
theorem dX2_takeOver_25 : decode cX2_takeOver 25 = .ok (.aload_n 1, 1) := by decide +kernel
theorem dX2_takeOver_26 : decode cX2_takeOver 26 = .ok (.getfield 53, 3) := by decide +kernel
theorem dX2_takeOver_29 : decode cX2_takeOver 29 = .ok (.putfield 53, 3) := by decide +kernel
theorem dX2_takeOver_32 : decode cX2_takeOver 32 = .ok (.aload_n 1, 1) := by decide +kernel
theorem dX2_takeOver_33 : decode cX2_takeOver 33 = .ok (.getfield 15, 3) := by decide +kernel
theorem dX2_takeOver_36 : decode cX2_takeOver 36 = .ok (.iconst 0, 1) := by decide +kernel
theorem dX2_takeOver_37 : decode cX2_takeOver 37 = .ok (.aload_n 0, 1) := by decide +kernel
theorem dX2_takeOver_38 : decode cX2_takeOver 38 = .ok (.getfield 15, 3) := by decide +kernel
theorem dX2_takeOver_41 : decode cX2_takeOver 41 = .ok (.iconst 0, 1) := by decide +kernel
theorem dX2_takeOver_42 : decode cX2_takeOver 42 = .ok (.bipush 8, 2) := by decide +kernel
theorem dX2_takeOver_44 : decode cX2_takeOver 44 = .ok (.invokestatic 65, 3) := by decide +kernel
theorem dX2_takeOver_47 : decode cX2_takeOver 47 = .ok (.aload_n 1, 1) := by decide +kernel
theorem dX2_takeOver_48 : decode cX2_takeOver 48 = .ok (.getfield 19, 3) := by decide +kernel
theorem dX2_takeOver_51 : decode cX2_takeOver 51 = .ok (.iconst 0, 1) := by decide +kernel
theorem dX2_takeOver_52 : decode cX2_takeOver 52 = .ok (.aload_n 0, 1) := by decide +kernel
theorem dX2_takeOver_53 : decode cX2_takeOver 53 = .ok (.getfield 19, 3) := by decide +kernel
theorem dX2_takeOver_56 : decode cX2_takeOver 56 = .ok (.iconst 0, 1) := by decide +kernel
theorem dX2_takeOver_57 : decode cX2_takeOver 57 = .ok (.bipush 8, 2) := by decide +kernel
theorem dX2_takeOver_59 : decode cX2_takeOver 59 = .ok (.invokestatic 65, 3) := by decide +kernel
theorem dX2_takeOver_62 : decode cX2_takeOver 62 = .ok (.aload_n 1, 1) := by decide +kernel
theorem dX2_takeOver_63 : decode cX2_takeOver 63 = .ok (.getfield 23, 3) := by decide +kernel
theorem dX2_takeOver_66 : decode cX2_takeOver 66 = .ok (.iconst 0, 1) := by decide +kernel
theorem dX2_takeOver_67 : decode cX2_takeOver 67 = .ok (.aload_n 0, 1) := by decide +kernel
theorem dX2_takeOver_68 : decode cX2_takeOver 68 = .ok (.getfield 23, 3) := by decide +kernel
theorem dX2_takeOver_71 : decode cX2_takeOver 71 = .ok (.iconst 0, 1) := by decide +kernel
theorem dX2_takeOver_72 : decode cX2_takeOver 72 = .ok (.bipush 64, 2) := by decide +kernel
theorem dX2_takeOver_74 : decode cX2_takeOver 74 = .ok (.invokestatic 65, 3) := by decide +kernel
theorem dX2_takeOver_77 : decode cX2_takeOver 77 = .ok (.aload_n 1, 1) := by decide +kernel
theorem dX2_takeOver_78 : decode cX2_takeOver 78 = .ok (.getfield 29, 3) := by decide +kernel
theorem dX2_takeOver_81 : decode cX2_takeOver 81 = .ok (.iconst 0, 1) := by decide +kernel
theorem dX2_takeOver_82 : decode cX2_takeOver 82 = .ok (.aload_n 0, 1) := by decide +kernel
theorem dX2_takeOver_83 : decode cX2_takeOver 83 = .ok (.getfield 29, 3) := by decide +kernel
theorem dX2_takeOver_86 : decode cX2_takeOver 86 = .ok (.iconst 0, 1) := by decide +kernel
theorem dX2_takeOver_87 : decode cX2_takeOver 87 = .ok (.bipush 6, 2) := by decide +kernel
theorem dX2_takeOver_89 : decode cX2_takeOver 89 = .ok (.invokestatic 65, 3) := by decide +kernel
theorem dX2_takeOver_92 : decode cX2_takeOver 92 = .ok (.aload_n 1, 1) := by decide +kernel
theorem dX2_takeOver_93 : decode cX2_takeOver 93 = .ok (.getfield 32, 3) := by decide +kernel
theorem dX2_takeOver_96 : decode cX2_takeOver 96 = .ok (.iconst 0, 1) := by decide +kernel
theorem dX2_takeOver_97 : decode cX2_takeOver 97 = .ok (.aload_n 0, 1) := by decide +kernel
theorem dX2_takeOver_98 : decode cX2_takeOver 98 = .ok (.getfield 32, 3) := by decide +kernel
theorem dX2_takeOver_101 : decode cX2_takeOver 101 = .ok (.iconst 0, 1) := by decide +kernel
theorem dX2_takeOver_102 : decode cX2_takeOver 102 = .ok (.bipush 6, 2) := by decide +kernel
theorem dX2_takeOver_104 : decode cX2_takeOver 104 = .ok (.invokestatic 65, 3) := by decide +kernel
theorem dX2_takeOver_107 : decode cX2_takeOver 107 = .ok (.aload_n 1, 1) := by decide +kernel
theorem dX2_takeOver_108 : decode cX2_takeOver 108 = .ok (.getfield 35, 3) := by decide +kernel
theorem dX2_takeOver_111 : decode cX2_takeOver 111 = .ok (.iconst 0, 1) := by decide +kernel
theorem dX2_takeOver_112 : decode cX2_takeOver 112 = .ok (.aload_n 0, 1) := by decide +kernel
theorem dX2_takeOver_113 : decode cX2_takeOver 113 = .ok (.getfield 35, 3) := by decide +kernel
theorem dX2_takeOver_116 : decode cX2_takeOver 116 = .ok (.iconst 0, 1) := by decide +kernel
theorem dX2_takeOver_117 : decode cX2_takeOver 117 = .ok (.bipush 6, 2) := by decide +kernel
theorem dX2_takeOver_119 : decode cX2_takeOver 119 = .ok (.invokestatic 65, 3) := by decide +kernel
theorem dX2_takeOver_122 : decode cX2_takeOver 122 = .ok (.aload_n 1, 1) := by decide +kernel
theorem dX2_takeOver_123 : decode cX2_takeOver 123 = .ok (.getfield 38, 3) := by decide +kernel
theorem dX2_takeOver_126 : decode cX2_takeOver 126 = .ok (.iconst 0, 1) := by decide +kernel
theorem dX2_takeOver_127 : decode cX2_takeOver 127 = .ok (.aload_n 0, 1) := by decide +kernel
theorem dX2_takeOver_128 : decode cX2_takeOver 128 = .ok (.getfield 38, 3) := by decide +kernel
theorem dX2_takeOver_131 : decode cX2_takeOver 131 = .ok (.iconst 0, 1) := by decide +kernel
theorem dX2_takeOver_132 : decode cX2_takeOver 132 = .ok (.bipush 6, 2) := by decide +kernel
theorem dX2_takeOver_134 : decode cX2_takeOver 134 = .ok (.invokestatic 65, 3) := by decide +kernel
theorem dX2_takeOver_137 : decode cX2_takeOver 137 = .ok (.aload_n 1, 1) := by decide +kernel
theorem dX2_takeOver_138 : decode cX2_takeOver 138 = .ok (.getfield 41, 3) := by decide +kernel
theorem dX2_takeOver_141 : decode cX2_takeOver 141 = .ok (.iconst 0, 1) := by decide +kernel
theorem dX2_takeOver_142 : decode cX2_takeOver 142 = .ok (.aload_n 0, 1) := by decide +kernel
theorem dX2_takeOver_143 : decode cX2_takeOver 143 = .ok (.getfield 41, 3) := by decide +kernel
theorem dX2_takeOver_146 : decode cX2_takeOver 146 = .ok (.iconst 0, 1) := by decide +kernel
theorem dX2_takeOver_147 : decode cX2_takeOver 147 = .ok (.bipush 72, 2) := by decide +kernel
theorem dX2_takeOver_149 : decode cX2_takeOver 149 = .ok (.invokestatic 65, 3) := by decide +kernel
theorem dX2_takeOver_152 : decode cX2_takeOver 152 = .ok (.aload_n 1, 1) := by decide +kernel
theorem dX2_takeOver_153 : decode cX2_takeOver 153 = .ok (.getfield 44, 3) := by decide +kernel
theorem dX2_takeOver_156 : decode cX2_takeOver 156 = .ok (.iconst 0, 1) := by decide +kernel
theorem dX2_takeOver_157 : decode cX2_takeOver 157 = .ok (.aload_n 0, 1) := by decide +kernel
theorem dX2_takeOver_158 : decode cX2_takeOver 158 = .ok (.getfield 44, 3) := by decide +kernel
theorem dX2_takeOver_161 : decode cX2_takeOver 161 = .ok (.iconst 0, 1) := by decide +kernel
theorem dX2_takeOver_162 : decode cX2_takeOver 162 = .ok (.bipush 72, 2) := by decide +kernel
theorem dX2_takeOver_164 : decode cX2_takeOver 164 = .ok (.invokestatic 65, 3) := by decide +kernel
theorem dX2_takeOver_167 : decode cX2_takeOver 167 = .ok (.aload_n 1, 1) := by decide +kernel
theorem dX2_takeOver_168 : decode cX2_takeOver 168 = .ok (.getfield 50, 3) := by decide +kernel
theorem dX2_takeOver_171 : decode cX2_takeOver 171 = .ok (.iconst 0, 1) := by decide +kernel
theorem dX2_takeOver_172 : decode cX2_takeOver 172 = .ok (.aload_n 0, 1) := by decide +kernel
theorem dX2_takeOver_173 : decode cX2_takeOver 173 = .ok (.getfield 50, 3) := by decide +kernel
theorem dX2_takeOver_176 : decode cX2_takeOver 176 = .ok (.iconst 0, 1) := by decide +kernel
theorem dX2_takeOver_177 : decode cX2_takeOver 177 = .ok (.bipush 24, 2) := by decide +kernel
theorem dX2_takeOver_179 : decode cX2_takeOver 179 = .ok (.invokestatic 65, 3) := by decide +kernel
theorem dX2_takeOver_182 : decode cX2_takeOver 182 = .ok (.aload_n 1, 1) := by decide +kernel
theorem dX2_takeOver_183 : decode cX2_takeOver 183 = .ok (.getfield 56, 3) := by decide +kernel
theorem dX2_takeOver_186 : decode cX2_takeOver 186 = .ok (.iconst 0, 1) := by decide +kernel
theorem dX2_takeOver_187 : decode cX2_takeOver 187 = .ok (.aload_n 0, 1) := by decide +kernel
theorem dX2_takeOver_188 : decode cX2_takeOver 188 = .ok (.getfield 56, 3) := by decide +kernel
theorem dX2_takeOver_191 : decode cX2_takeOver 191 = .ok (.iconst 0, 1) := by decide +kernel
theorem dX2_takeOver_192 : decode cX2_takeOver 192 = .ok (.iconst 2, 1) := by decide +kernel
theorem dX2_takeOver_193 : decode cX2_takeOver 193 = .ok (.invokestatic 65, 3) := by decide +kernel
theorem dX2_takeOver_196 : decode cX2_takeOver 196 = .ok (.aload_n 1, 1) := by decide +kernel
theorem dX2_takeOver_197 : decode cX2_takeOver 197 = .ok (.getfield 59, 3) := by decide +kernel
theorem dX2_takeOver_200 : decode cX2_takeOver 200 = .ok (.iconst 0, 1) := by decide +kernel
theorem dX2_takeOver_201 : decode cX2_takeOver 201 = .ok (.aload_n 0, 1) := by decide +kernel
theorem dX2_takeOver_202 : decode cX2_takeOver 202 = .ok (.getfield 59, 3) := by decide +kernel
theorem dX2_takeOver_205 : decode cX2_takeOver 205 = .ok (.iconst 0, 1) := by decide +kernel
theorem dX2_takeOver_206 : decode cX2_takeOver 206 = .ok (.bipush 8, 2) := by decide +kernel
theorem dX2_takeOver_208 : decode cX2_takeOver 208 = .ok (.invokestatic 65, 3) := by decide +kernel
theorem dX2_takeOver_211 : decode cX2_takeOver 211 = .ok (.aload_n 1, 1) := by decide +kernel
theorem dX2_takeOver_212 : decode cX2_takeOver 212 = .ok (.getfield 62, 3) := by decide +kernel
theorem dX2_takeOver_215 : decode cX2_takeOver 215 = .ok (.iconst 0, 1) := by decide +kernel
theorem dX2_takeOver_216 : decode cX2_takeOver 216 = .ok (.aload_n 0, 1) := by decide +kernel
theorem dX2_takeOver_217 : decode cX2_takeOver 217 = .ok (.getfield 62, 3) := by decide +kernel
theorem dX2_takeOver_220 : decode cX2_takeOver 220 = .ok (.iconst 0, 1) := by decide +kernel
theorem dX2_takeOver_221 : decode cX2_takeOver 221 = .ok (.iconst 2, 1) := by decide +kernel
theorem dX2_takeOver_222 : decode cX2_takeOver 222 = .ok (.invokestatic 65, 3) := by decide +kernel
theorem dX2_takeOver_225 : decode cX2_takeOver 225 = .ok (.return_, 1) := by decide +kernel
theorem dX10_odds_0 : decode cX10_odds 0 = .ok (.aload_n 0, 1) := by decide +kernel
theorem dX10_odds_1 : decode cX10_odds 1 = .ok (.getfield 50, 3) := by decide +kernel
theorem dX10_odds_4 : decode cX10_odds 4 = .ok (.iload_n 1, 1) := by decide +kernel
theorem dX10_odds_5 : decode cX10_odds 5 = .ok (.invokevirtual 225, 3) := by decide +kernel
theorem dX10_odds_8 : decode cX10_odds 8 = .ok (.ifCond .eq 25, 3) := by decide +kernel
theorem dX10_odds_11 : decode cX10_odds 11 = .ok (.aload_n 0, 1) := by decide +kernel
theorem dX10_odds_12 : decode cX10_odds 12 = .ok (.getfield 50, 3) := by decide +kernel
theorem dX10_odds_15 : decode cX10_odds 15 = .ok (.iload_n 2, 1) := by decide +kernel
theorem dX10_odds_16 : decode cX10_odds 16 = .ok (.invokevirtual 215, 3) := by decide +kernel
theorem dX10_odds_19 : decode cX10_odds 19 = .ok (.ifCond .eq 14, 3) := by decide +kernel
theorem dX10_odds_22 : decode cX10_odds 22 = .ok (.iload 4, 2) := by decide +kernel
theorem dX10_odds_24 : decode cX10_odds 24 = .ok (.iconst 1, 1) := by decide +kernel
theorem dX10_odds_25 : decode cX10_odds 25 = .ok (.bipush 10, 2) := by decide +kernel
theorem dX10_odds_27 : decode cX10_odds 27 = .ok (.invokestatic 114, 3) := by decide +kernel
theorem dX10_odds_30 : decode cX10_odds 30 = .ok (.ifCond .ne 9, 3) := by decide +kernel
theorem dX10_odds_33 : decode cX10_odds 33 = .ok (.aload_n 0, 1) := by decide +kernel
theorem dX10_odds_34 : decode cX10_odds 34 = .ok (.iconst 1, 1) := by decide +kernel
theorem dX10_odds_35 : decode cX10_odds 35 = .ok (.invokevirtual 118, 3) := by decide +kernel
theorem dX10_odds_38 : decode cX10_odds 38 = .ok (.ireturn, 1) := by decide +kernel
theorem dX10_odds_39 : decode cX10_odds 39 = .ok (.iload_n 3, 1) := by decide +kernel
theorem dX10_odds_40 : decode cX10_odds 40 = .ok (.iconst 0, 1) := by decide +kernel
theorem dX10_odds_41 : decode cX10_odds 41 = .ok (.sipush 9999, 3) := by decide +kernel
theorem dX10_odds_44 : decode cX10_odds 44 = .ok (.iload 4, 2) := by decide +kernel
theorem dX10_odds_46 : decode cX10_odds 46 = .ok (.isub, 1) := by decide +kernel
theorem dX10_odds_47 : decode cX10_odds 47 = .ok (.iconst 1, 1) := by decide +kernel
theorem dX10_odds_48 : decode cX10_odds 48 = .ok (.iadd, 1) := by decide +kernel
theorem dX10_odds_49 : decode cX10_odds 49 = .ok (.invokestatic 114, 3) := by decide +kernel
theorem dX10_odds_52 : decode cX10_odds 52 = .ok (.ifCond .ne 9, 3) := by decide +kernel
theorem dX10_odds_55 : decode cX10_odds 55 = .ok (.aload_n 0, 1) := by decide +kernel
theorem dX10_odds_56 : decode cX10_odds 56 = .ok (.iconst 1, 1) := by decide +kernel
theorem dX10_odds_57 : decode cX10_odds 57 = .ok (.invokevirtual 118, 3) := by decide +kernel
theorem dX10_odds_60 : decode cX10_odds 60 = .ok (.ireturn, 1) := by decide +kernel
theorem dX10_odds_61 : decode cX10_odds 61 = .ok (.aload_n 0, 1) := by decide +kernel
theorem dX10_odds_62 : decode cX10_odds 62 = .ok (.getfield 60, 3) := by decide +kernel
theorem dX10_odds_65 : decode cX10_odds 65 = .ok (.getfield 436, 3) := by decide +kernel
theorem dX10_odds_68 : decode cX10_odds 68 = .ok (.ifCond .ne 10, 3) := by decide +kernel
theorem dX10_odds_71 : decode cX10_odds 71 = .ok (.aload_n 0, 1) := by decide +kernel
theorem dX10_odds_72 : decode cX10_odds 72 = .ok (.bipush 6, 2) := by decide +kernel
theorem dX10_odds_74 : decode cX10_odds 74 = .ok (.invokevirtual 118, 3) := by decide +kernel
theorem dX10_odds_77 : decode cX10_odds 77 = .ok (.ireturn, 1) := by decide +kernel
theorem dX10_odds_78 : decode cX10_odds 78 = .ok (.iconst 0, 1) := by decide +kernel
theorem dX10_odds_79 : decode cX10_odds 79 = .ok (.istore 5, 2) := by decide +kernel
theorem dX10_odds_81 : decode cX10_odds 81 = .ok (.iconst 0, 1) := by decide +kernel
theorem dX10_odds_82 : decode cX10_odds 82 = .ok (.istore 6, 2) := by decide +kernel
theorem dX10_odds_84 : decode cX10_odds 84 = .ok (.iload 6, 2) := by decide +kernel
theorem dX10_odds_86 : decode cX10_odds 86 = .ok (.iload 4, 2) := by decide +kernel
theorem dX10_odds_88 : decode cX10_odds 88 = .ok (.if_icmp .ge 54, 3) := by decide +kernel
theorem dX10_odds_91 : decode cX10_odds 91 = .ok (.aload_n 0, 1) := by decide +kernel
theorem dX10_odds_92 : decode cX10_odds 92 = .ok (.getfield 54, 3) := by decide +kernel
theorem dX10_odds_95 : decode cX10_odds 95 = .ok (.aload_n 0, 1) := by decide +kernel
theorem dX10_odds_96 : decode cX10_odds 96 = .ok (.getfield 50, 3) := by decide +kernel
theorem dX10_odds_99 : decode cX10_odds 99 = .ok (.invokevirtual 459, 3) := by decide +kernel
theorem dX10_odds_102 : decode cX10_odds 102 = .ok (.aload_n 0, 1) := by decide +kernel
theorem dX10_odds_103 : decode cX10_odds 103 = .ok (.getfield 106, 3) := by decide +kernel
theorem dX10_odds_106 : decode cX10_odds 106 = .ok (.aload_n 0, 1) := by decide +kernel
theorem dX10_odds_107 : decode cX10_odds 107 = .ok (.getfield 60, 3) := by decide +kernel
theorem dX10_odds_110 : decode cX10_odds 110 = .ok (.aload_n 0, 1) := by decide +kernel
theorem dX10_odds_111 : decode cX10_odds 111 = .ok (.getfield 54, 3) := by decide +kernel
theorem dX10_odds_114 : decode cX10_odds 114 = .ok (.iload_n 3, 1) := by decide +kernel
theorem dX10_odds_115 : decode cX10_odds 115 = .ok (.iload 6, 2) := by decide +kernel
theorem dX10_odds_117 : decode cX10_odds 117 = .ok (.iadd, 1) := by decide +kernel
theorem dX10_odds_118 : decode cX10_odds 118 = .ok (.invokevirtual 439, 3) := by decide +kernel
theorem dX10_odds_121 : decode cX10_odds 121 = .ok (.aload_n 0, 1) := by decide +kernel
theorem dX10_odds_122 : decode cX10_odds 122 = .ok (.getfield 54, 3) := by decide +kernel
theorem dX10_odds_125 : decode cX10_odds 125 = .ok (.iload_n 1, 1) := by decide +kernel
theorem dX10_odds_126 : decode cX10_odds 126 = .ok (.iload_n 2, 1) := by decide +kernel
theorem dX10_odds_127 : decode cX10_odds 127 = .ok (.invokevirtual 462, 3) := by decide +kernel
theorem dX10_odds_130 : decode cX10_odds 130 = .ok (.ifCond .eq 6, 3) := by decide +kernel
theorem dX10_odds_133 : decode cX10_odds 133 = .ok (.iinc 5 1, 3) := by decide +kernel
theorem dX10_odds_136 : decode cX10_odds 136 = .ok (.iinc 6 1, 3) := by decide +kernel
theorem dX10_odds_139 : decode cX10_odds 139 = .ok (.goto (-55), 3) := by decide +kernel
theorem dX10_odds_142 : decode cX10_odds 142 = .ok (.aload_n 0, 1) := by decide +kernel
theorem dX10_odds_143 : decode cX10_odds 143 = .ok (.iload 5, 2) := by decide +kernel
theorem dX10_odds_145 : decode cX10_odds 145 = .ok (.i2l, 1) := by decide +kernel
theorem dX10_odds_146 : decode cX10_odds 146 = .ok (.iload 4, 2) := by decide +kernel
theorem dX10_odds_148 : decode cX10_odds 148 = .ok (.i2l, 1) := by decide +kernel
theorem dX10_odds_149 : decode cX10_odds 149 = .ok (.invokevirtual 342, 3) := by decide +kernel
theorem dX10_odds_152 : decode cX10_odds 152 = .ok (.ireturn, 1) := by decide +kernel
theorem dX8_takeOver_0 : decode cX8_takeOver 0 = .ok (.aload_n 0, 1) := by decide +kernel
theorem dX8_takeOver_1 : decode cX8_takeOver 1 = .ok (.aload_n 1, 1) := by decide +kernel
theorem dX8_takeOver_2 : decode cX8_takeOver 2 = .ok (.getfield 11, 3) := by decide +kernel
theorem dX8_takeOver_5 : decode cX8_takeOver 5 = .ok (.putfield 11, 3) := by decide +kernel
theorem dX8_takeOver_8 : decode cX8_takeOver 8 = .ok (.aload_n 0, 1) := by decide +kernel
theorem dX8_takeOver_9 : decode cX8_takeOver 9 = .ok (.aload_n 1, 1) := by decide +kernel
theorem dX8_takeOver_10 : decode cX8_takeOver 10 = .ok (.getfield 15, 3) := by decide +kernel
theorem dX8_takeOver_13 : decode cX8_takeOver 13 = .ok (.putfield 15, 3) := by decide +kernel
theorem dX8_takeOver_16 : decode cX8_takeOver 16 = .ok (.aload_n 0, 1) := by decide +kernel
theorem dX8_takeOver_17 : decode cX8_takeOver 17 = .ok (.aload_n 1, 1) := by decide +kernel
theorem dX8_takeOver_18 : decode cX8_takeOver 18 = .ok (.getfield 19, 3) := by decide +kernel
theorem dX8_takeOver_21 : decode cX8_takeOver 21 = .ok (.putfield 19, 3) := by decide +kernel
theorem dX8_takeOver_24 : decode cX8_takeOver 24 = .ok (.aload_n 1, 1) := by decide +kernel
theorem dX8_takeOver_25 : decode cX8_takeOver 25 = .ok (.getfield 22, 3) := by decide +kernel
theorem dX8_takeOver_28 : decode cX8_takeOver 28 = .ok (.iconst 0, 1) := by decide +kernel
theorem dX8_takeOver_29 : decode cX8_takeOver 29 = .ok (.aload_n 0, 1) := by decide +kernel
theorem dX8_takeOver_30 : decode cX8_takeOver 30 = .ok (.getfield 22, 3) := by decide +kernel
theorem dX8_takeOver_33 : decode cX8_takeOver 33 = .ok (.iconst 0, 1) := by decide +kernel
theorem dX8_takeOver_34 : decode cX8_takeOver 34 = .ok (.bipush 60, 2) := by decide +kernel
theorem dX8_takeOver_36 : decode cX8_takeOver 36 = .ok (.invokestatic 38, 3) := by decide +kernel
theorem dX8_takeOver_39 : decode cX8_takeOver 39 = .ok (.aload_n 1, 1) := by decide +kernel
theorem dX8_takeOver_40 : decode cX8_takeOver 40 = .ok (.getfield 26, 3) := by decide +kernel
theorem dX8_takeOver_43 : decode cX8_takeOver 43 = .ok (.iconst 0, 1) := by decide +kernel
theorem dX8_takeOver_44 : decode cX8_takeOver 44 = .ok (.aload_n 0, 1) := by decide +kernel
theorem dX8_takeOver_45 : decode cX8_takeOver 45 = .ok (.getfield 26, 3) := by decide +kernel
theorem dX8_takeOver_48 : decode cX8_takeOver 48 = .ok (.iconst 0, 1) := by decide +kernel
theorem dX8_takeOver_49 : decode cX8_takeOver 49 = .ok (.bipush 60, 2) := by decide +kernel
theorem dX8_takeOver_51 : decode cX8_takeOver 51 = .ok (.invokestatic 38, 3) := by decide +kernel
theorem dX8_takeOver_54 : decode cX8_takeOver 54 = .ok (.aload_n 1, 1) := by decide +kernel
theorem dX8_takeOver_55 : decode cX8_takeOver 55 = .ok (.getfield 29, 3) := by decide +kernel
theorem dX8_takeOver_58 : decode cX8_takeOver 58 = .ok (.iconst 0, 1) := by decide +kernel
theorem dX8_takeOver_59 : decode cX8_takeOver 59 = .ok (.aload_n 0, 1) := by decide +kernel
theorem dX8_takeOver_60 : decode cX8_takeOver 60 = .ok (.getfield 29, 3) := by decide +kernel
theorem dX8_takeOver_63 : decode cX8_takeOver 63 = .ok (.iconst 0, 1) := by decide +kernel
theorem dX8_takeOver_64 : decode cX8_takeOver 64 = .ok (.bipush 60, 2) := by decide +kernel
theorem dX8_takeOver_66 : decode cX8_takeOver 66 = .ok (.invokestatic 38, 3) := by decide +kernel
theorem dX8_takeOver_69 : decode cX8_takeOver 69 = .ok (.aload_n 1, 1) := by decide +kernel
theorem dX8_takeOver_70 : decode cX8_takeOver 70 = .ok (.getfield 32, 3) := by decide +kernel
theorem dX8_takeOver_73 : decode cX8_takeOver 73 = .ok (.iconst 0, 1) := by decide +kernel
theorem dX8_takeOver_74 : decode cX8_takeOver 74 = .ok (.aload_n 0, 1) := by decide +kernel
theorem dX8_takeOver_75 : decode cX8_takeOver 75 = .ok (.getfield 32, 3) := by decide +kernel
theorem dX8_takeOver_78 : decode cX8_takeOver 78 = .ok (.iconst 0, 1) := by decide +kernel
theorem dX8_takeOver_79 : decode cX8_takeOver 79 = .ok (.bipush 60, 2) := by decide +kernel
theorem dX8_takeOver_81 : decode cX8_takeOver 81 = .ok (.invokestatic 38, 3) := by decide +kernel
theorem dX8_takeOver_84 : decode cX8_takeOver 84 = .ok (.aload_n 1, 1) := by decide +kernel
theorem dX8_takeOver_85 : decode cX8_takeOver 85 = .ok (.getfield 35, 3) := by decide +kernel
theorem dX8_takeOver_88 : decode cX8_takeOver 88 = .ok (.iconst 0, 1) := by decide +kernel
theorem dX8_takeOver_89 : decode cX8_takeOver 89 = .ok (.aload_n 0, 1) := by decide +kernel
theorem dX8_takeOver_90 : decode cX8_takeOver 90 = .ok (.getfield 35, 3) := by decide +kernel
theorem dX8_takeOver_93 : decode cX8_takeOver 93 = .ok (.iconst 0, 1) := by decide +kernel
theorem dX8_takeOver_94 : decode cX8_takeOver 94 = .ok (.bipush 60, 2) := by decide +kernel
theorem dX8_takeOver_96 : decode cX8_takeOver 96 = .ok (.invokestatic 38, 3) := by decide +kernel
theorem dX8_takeOver_99 : decode cX8_takeOver 99 = .ok (.return_, 1) := by decide +kernel
theorem dX10_mark_0 : decode cX10_mark 0 = .ok (.aload_n 0, 1) := by decide +kernel
theorem dX10_mark_1 : decode cX10_mark 1 = .ok (.getfield 75, 3) := by decide +kernel
theorem dX10_mark_4 : decode cX10_mark 4 = .ok (.iconst 3, 1) := by decide +kernel
theorem dX10_mark_5 : decode cX10_mark 5 = .ok (.if_icmp .lt 9, 3) := by decide +kernel
theorem dX10_mark_8 : decode cX10_mark 8 = .ok (.aload_n 0, 1) := by decide +kernel
theorem dX10_mark_9 : decode cX10_mark 9 = .ok (.iconst 4, 1) := by decide +kernel
theorem dX10_mark_10 : decode cX10_mark 10 = .ok (.invokevirtual 137, 3) := by decide +kernel
theorem dX10_mark_13 : decode cX10_mark 13 = .ok (.ireturn, 1) := by decide +kernel
theorem dX10_mark_14 : decode cX10_mark 14 = .ok (.aload_n 0, 1) := by decide +kernel
theorem dX10_mark_15 : decode cX10_mark 15 = .ok (.getfield 67, 3) := by decide +kernel
theorem dX10_mark_18 : decode cX10_mark 18 = .ok (.aload_n 0, 1) := by decide +kernel
theorem dX10_mark_19 : decode cX10_mark 19 = .ok (.getfield 75, 3) := by decide +kernel
theorem dX10_mark_22 : decode cX10_mark 22 = .ok (.aaload, 1) := by decide +kernel
theorem dX10_mark_23 : decode cX10_mark 23 = .ok (.aload_n 0, 1) := by decide +kernel
theorem dX10_mark_24 : decode cX10_mark 24 = .ok (.getfield 50, 3) := by decide +kernel
theorem dX10_mark_27 : decode cX10_mark 27 = .ok (.invokevirtual 459, 3) := by decide +kernel
theorem dX10_mark_30 : decode cX10_mark 30 = .ok (.aload_n 0, 1) := by decide +kernel
theorem dX10_mark_31 : decode cX10_mark 31 = .ok (.getfield 71, 3) := by decide +kernel
theorem dX10_mark_34 : decode cX10_mark 34 = .ok (.aload_n 0, 1) := by decide +kernel
theorem dX10_mark_35 : decode cX10_mark 35 = .ok (.getfield 75, 3) := by decide +kernel
theorem dX10_mark_38 : decode cX10_mark 38 = .ok (.aaload, 1) := by decide +kernel
theorem dX10_mark_39 : decode cX10_mark 39 = .ok (.aload_n 0, 1) := by decide +kernel
theorem dX10_mark_40 : decode cX10_mark 40 = .ok (.getfield 60, 3) := by decide +kernel
theorem dX10_mark_43 : decode cX10_mark 43 = .ok (.invokevirtual 465, 3) := by decide +kernel
theorem dX10_mark_46 : decode cX10_mark 46 = .ok (.aload_n 0, 1) := by decide +kernel
theorem dX10_mark_47 : decode cX10_mark 47 = .ok (.dup, 1) := by decide +kernel
theorem dX10_mark_48 : decode cX10_mark 48 = .ok (.getfield 75, 3) := by decide +kernel
theorem dX10_mark_51 : decode cX10_mark 51 = .ok (.iconst 1, 1) := by decide +kernel
theorem dX10_mark_52 : decode cX10_mark 52 = .ok (.iadd, 1) := by decide +kernel
theorem dX10_mark_53 : decode cX10_mark 53 = .ok (.putfield 75, 3) := by decide +kernel
theorem dX10_mark_56 : decode cX10_mark 56 = .ok (.aload_n 0, 1) := by decide +kernel
theorem dX10_mark_57 : decode cX10_mark 57 = .ok (.aload_n 0, 1) := by decide +kernel
theorem dX10_mark_58 : decode cX10_mark 58 = .ok (.getfield 75, 3) := by decide +kernel
theorem dX10_mark_61 : decode cX10_mark 61 = .ok (.invokevirtual 187, 3) := by decide +kernel
theorem dX10_mark_64 : decode cX10_mark 64 = .ok (.ireturn, 1) := by decide +kernel
theorem dX10_back_0 : decode cX10_back 0 = .ok (.aload_n 0, 1) := by decide +kernel
theorem dX10_back_1 : decode cX10_back 1 = .ok (.getfield 75, 3) := by decide +kernel
theorem dX10_back_4 : decode cX10_back 4 = .ok (.ifCond .gt 10, 3) := by decide +kernel
theorem dX10_back_7 : decode cX10_back 7 = .ok (.aload_n 0, 1) := by decide +kernel
theorem dX10_back_8 : decode cX10_back 8 = .ok (.bipush 6, 2) := by decide +kernel
theorem dX10_back_10 : decode cX10_back 10 = .ok (.invokevirtual 137, 3) := by decide +kernel
theorem dX10_back_13 : decode cX10_back 13 = .ok (.ireturn, 1) := by decide +kernel
theorem dX10_back_14 : decode cX10_back 14 = .ok (.aload_n 0, 1) := by decide +kernel
theorem dX10_back_15 : decode cX10_back 15 = .ok (.dup, 1) := by decide +kernel
theorem dX10_back_16 : decode cX10_back 16 = .ok (.getfield 75, 3) := by decide +kernel
theorem dX10_back_19 : decode cX10_back 19 = .ok (.iconst 1, 1) := by decide +kernel
theorem dX10_back_20 : decode cX10_back 20 = .ok (.isub, 1) := by decide +kernel
theorem dX10_back_21 : decode cX10_back 21 = .ok (.putfield 75, 3) := by decide +kernel
theorem dX10_back_24 : decode cX10_back 24 = .ok (.aload_n 0, 1) := by decide +kernel
theorem dX10_back_25 : decode cX10_back 25 = .ok (.getfield 50, 3) := by decide +kernel
theorem dX10_back_28 : decode cX10_back 28 = .ok (.aload_n 0, 1) := by decide +kernel
theorem dX10_back_29 : decode cX10_back 29 = .ok (.getfield 67, 3) := by decide +kernel
theorem dX10_back_32 : decode cX10_back 32 = .ok (.aload_n 0, 1) := by decide +kernel
theorem dX10_back_33 : decode cX10_back 33 = .ok (.getfield 75, 3) := by decide +kernel
theorem dX10_back_36 : decode cX10_back 36 = .ok (.aaload, 1) := by decide +kernel
theorem dX10_back_37 : decode cX10_back 37 = .ok (.invokevirtual 459, 3) := by decide +kernel
theorem dX10_back_40 : decode cX10_back 40 = .ok (.aload_n 0, 1) := by decide +kernel
theorem dX10_back_41 : decode cX10_back 41 = .ok (.getfield 60, 3) := by decide +kernel
theorem dX10_back_44 : decode cX10_back 44 = .ok (.aload_n 0, 1) := by decide +kernel
theorem dX10_back_45 : decode cX10_back 45 = .ok (.getfield 71, 3) := by decide +kernel
theorem dX10_back_48 : decode cX10_back 48 = .ok (.aload_n 0, 1) := by decide +kernel
theorem dX10_back_49 : decode cX10_back 49 = .ok (.getfield 75, 3) := by decide +kernel
theorem dX10_back_52 : decode cX10_back 52 = .ok (.aaload, 1) := by decide +kernel
theorem dX10_back_53 : decode cX10_back 53 = .ok (.invokevirtual 465, 3) := by decide +kernel
theorem dX10_back_56 : decode cX10_back 56 = .ok (.aload_n 0, 1) := by decide +kernel
theorem dX10_back_57 : decode cX10_back 57 = .ok (.getfield 88, 3) := by decide +kernel
theorem dX10_back_60 : decode cX10_back 60 = .ok (.invokevirtual 181, 3) := by decide +kernel
theorem dX10_back_63 : decode cX10_back 63 = .ok (.aload_n 0, 1) := by decide +kernel
theorem dX10_back_64 : decode cX10_back 64 = .ok (.aload_n 0, 1) := by decide +kernel
theorem dX10_back_65 : decode cX10_back 65 = .ok (.getfield 75, 3) := by decide +kernel
theorem dX10_back_68 : decode cX10_back 68 = .ok (.invokevirtual 187, 3) := by decide +kernel
theorem dX10_back_71 : decode cX10_back 71 = .ok (.ireturn, 1) := by decide +kernel
theorem dX11_status_0 : decode cX11_status 0 = .ok (.aload_n 0, 1) := by decide +kernel
theorem dX11_status_1 : decode cX11_status 1 = .ok (.getfield 96, 3) := by decide +kernel
theorem dX11_status_4 : decode cX11_status 4 = .ok (.ireturn, 1) := by decide +kernel
theorem dX11_top_0 : decode cX11_top 0 = .ok (.aload_n 0, 1) := by decide +kernel
theorem dX11_top_1 : decode cX11_top 1 = .ok (.getfield 99, 3) := by decide +kernel
theorem dX11_top_4 : decode cX11_top 4 = .ok (.lreturn, 1) := by decide +kernel
theorem dX11_bottom_0 : decode cX11_bottom 0 = .ok (.aload_n 0, 1) := by decide +kernel
theorem dX11_bottom_1 : decode cX11_bottom 1 = .ok (.getfield 17, 3) := by decide +kernel
theorem dX11_bottom_4 : decode cX11_bottom 4 = .ok (.lreturn, 1) := by decide +kernel
theorem dX11_isTray_0 : decode cX11_isTray 0 = .ok (.iload_n 0, 1) := by decide +kernel
theorem dX11_isTray_1 : decode cX11_isTray 1 = .ok (.ifCond .lt 12, 3) := by decide +kernel
theorem dX11_isTray_4 : decode cX11_isTray 4 = .ok (.iload_n 0, 1) := by decide +kernel
theorem dX11_isTray_5 : decode cX11_isTray 5 = .ok (.iconst 4, 1) := by decide +kernel
theorem dX11_isTray_6 : decode cX11_isTray 6 = .ok (.if_icmp .ge 7, 3) := by decide +kernel
theorem dX11_isTray_9 : decode cX11_isTray 9 = .ok (.iconst 1, 1) := by decide +kernel
theorem dX11_isTray_10 : decode cX11_isTray 10 = .ok (.goto 4, 3) := by decide +kernel
theorem dX11_isTray_13 : decode cX11_isTray 13 = .ok (.iconst 0, 1) := by decide +kernel
theorem dX11_isTray_14 : decode cX11_isTray 14 = .ok (.ireturn, 1) := by decide +kernel
theorem dX11_is_0 : decode cX11_is 0 = .ok (.aload_n 0, 1) := by decide +kernel
theorem dX11_is_1 : decode cX11_is 1 = .ok (.iload_n 1, 1) := by decide +kernel
theorem dX11_is_2 : decode cX11_is 2 = .ok (.putfield 96, 3) := by decide +kernel
theorem dX11_is_5 : decode cX11_is 5 = .ok (.iload_n 1, 1) := by decide +kernel
theorem dX11_is_6 : decode cX11_is 6 = .ok (.ifCond .ne 7, 3) := by decide +kernel
theorem dX11_is_9 : decode cX11_is 9 = .ok (.iconst 1, 1) := by decide +kernel
theorem dX11_is_10 : decode cX11_is 10 = .ok (.goto 4, 3) := by decide +kernel
theorem dX11_is_13 : decode cX11_is 13 = .ok (.iconst 0, 1) := by decide +kernel
theorem dX11_is_14 : decode cX11_is 14 = .ok (.ireturn, 1) := by decide +kernel
theorem dX11_tray_0 : decode cX11_tray 0 = .ok (.iload_n 1, 1) := by decide +kernel
theorem dX11_tray_1 : decode cX11_tray 1 = .ok (.invokestatic 113, 3) := by decide +kernel
theorem dX11_tray_4 : decode cX11_tray 4 = .ok (.ifCond .eq 22, 3) := by decide +kernel
theorem dX11_tray_7 : decode cX11_tray 7 = .ok (.iload_n 2, 1) := by decide +kernel
theorem dX11_tray_8 : decode cX11_tray 8 = .ok (.ifCond .lt 18, 3) := by decide +kernel
theorem dX11_tray_11 : decode cX11_tray 11 = .ok (.iload_n 2, 1) := by decide +kernel
theorem dX11_tray_12 : decode cX11_tray 12 = .ok (.iconst 3, 1) := by decide +kernel
theorem dX11_tray_13 : decode cX11_tray 13 = .ok (.if_icmp .gt 13, 3) := by decide +kernel
theorem dX11_tray_16 : decode cX11_tray 16 = .ok (.iload_n 3, 1) := by decide +kernel
theorem dX11_tray_17 : decode cX11_tray 17 = .ok (.ifCond .lt 9, 3) := by decide +kernel
theorem dX11_tray_20 : decode cX11_tray 20 = .ok (.iload_n 3, 1) := by decide +kernel
theorem dX11_tray_21 : decode cX11_tray 21 = .ok (.bipush 60, 2) := by decide +kernel
theorem dX11_tray_23 : decode cX11_tray 23 = .ok (.if_icmp .le 9, 3) := by decide +kernel
theorem dX11_tray_26 : decode cX11_tray 26 = .ok (.aload_n 0, 1) := by decide +kernel
theorem dX11_tray_27 : decode cX11_tray 27 = .ok (.iconst 1, 1) := by decide +kernel
theorem dX11_tray_28 : decode cX11_tray 28 = .ok (.invokevirtual 109, 3) := by decide +kernel
theorem dX11_tray_31 : decode cX11_tray 31 = .ok (.ireturn, 1) := by decide +kernel
theorem dX11_tray_32 : decode cX11_tray 32 = .ok (.aload_n 0, 1) := by decide +kernel
theorem dX11_tray_33 : decode cX11_tray 33 = .ok (.getfield 21, 3) := by decide +kernel
theorem dX11_tray_36 : decode cX11_tray 36 = .ok (.iload_n 1, 1) := by decide +kernel
theorem dX11_tray_37 : decode cX11_tray 37 = .ok (.iload_n 2, 1) := by decide +kernel
theorem dX11_tray_38 : decode cX11_tray 38 = .ok (.iastore, 1) := by decide +kernel
theorem dX11_tray_39 : decode cX11_tray 39 = .ok (.aload_n 0, 1) := by decide +kernel
theorem dX11_tray_40 : decode cX11_tray 40 = .ok (.getfield 24, 3) := by decide +kernel
theorem dX11_tray_43 : decode cX11_tray 43 = .ok (.iload_n 1, 1) := by decide +kernel
theorem dX11_tray_44 : decode cX11_tray 44 = .ok (.iload_n 3, 1) := by decide +kernel
theorem dX11_tray_45 : decode cX11_tray 45 = .ok (.iastore, 1) := by decide +kernel
theorem dX11_tray_46 : decode cX11_tray 46 = .ok (.iconst 0, 1) := by decide +kernel
theorem dX11_tray_47 : decode cX11_tray 47 = .ok (.istore 4, 2) := by decide +kernel
theorem dX11_tray_49 : decode cX11_tray 49 = .ok (.iload 4, 2) := by decide +kernel
theorem dX11_tray_51 : decode cX11_tray 51 = .ok (.iload_n 3, 1) := by decide +kernel
theorem dX11_tray_52 : decode cX11_tray 52 = .ok (.if_icmp .ge 22, 3) := by decide +kernel
theorem dX11_tray_55 : decode cX11_tray 55 = .ok (.aload_n 0, 1) := by decide +kernel
theorem dX11_tray_56 : decode cX11_tray 56 = .ok (.getfield 27, 3) := by decide +kernel
theorem dX11_tray_59 : decode cX11_tray 59 = .ok (.bipush 60, 2) := by decide +kernel
theorem dX11_tray_61 : decode cX11_tray 61 = .ok (.iload_n 1, 1) := by decide +kernel
theorem dX11_tray_62 : decode cX11_tray 62 = .ok (.imul, 1) := by decide +kernel
theorem dX11_tray_63 : decode cX11_tray 63 = .ok (.iload 4, 2) := by decide +kernel
theorem dX11_tray_65 : decode cX11_tray 65 = .ok (.iadd, 1) := by decide +kernel
theorem dX11_tray_66 : decode cX11_tray 66 = .ok (.lconst 0, 1) := by decide +kernel
theorem dX11_tray_67 : decode cX11_tray 67 = .ok (.lastore, 1) := by decide +kernel
theorem dX11_tray_68 : decode cX11_tray 68 = .ok (.iinc 4 1, 3) := by decide +kernel
theorem dX11_tray_71 : decode cX11_tray 71 = .ok (.goto (-22), 3) := by decide +kernel
theorem dX11_tray_74 : decode cX11_tray 74 = .ok (.aload_n 0, 1) := by decide +kernel
theorem dX11_tray_75 : decode cX11_tray 75 = .ok (.iconst 0, 1) := by decide +kernel
theorem dX11_tray_76 : decode cX11_tray 76 = .ok (.invokevirtual 109, 3) := by decide +kernel
theorem dX11_tray_79 : decode cX11_tray 79 = .ok (.ireturn, 1) := by decide +kernel
theorem dX11_wrongPlace_0 : decode cX11_wrongPlace 0 = .ok (.iload_n 1, 1) := by decide +kernel
theorem dX11_wrongPlace_1 : decode cX11_wrongPlace 1 = .ok (.invokestatic 113, 3) := by decide +kernel
theorem dX11_wrongPlace_4 : decode cX11_wrongPlace 4 = .ok (.ifCond .ne 7, 3) := by decide +kernel
theorem dX11_wrongPlace_7 : decode cX11_wrongPlace 7 = .ok (.iconst 1, 1) := by decide +kernel
theorem dX11_wrongPlace_8 : decode cX11_wrongPlace 8 = .ok (.goto 36, 3) := by decide +kernel
theorem dX11_wrongPlace_11 : decode cX11_wrongPlace 11 = .ok (.aload_n 0, 1) := by decide +kernel
theorem dX11_wrongPlace_12 : decode cX11_wrongPlace 12 = .ok (.getfield 24, 3) := by decide +kernel
theorem dX11_wrongPlace_15 : decode cX11_wrongPlace 15 = .ok (.iload_n 1, 1) := by decide +kernel
theorem dX11_wrongPlace_16 : decode cX11_wrongPlace 16 = .ok (.iaload, 1) := by decide +kernel
theorem dX11_wrongPlace_17 : decode cX11_wrongPlace 17 = .ok (.iconst (-1), 1) := by decide +kernel
theorem dX11_wrongPlace_18 : decode cX11_wrongPlace 18 = .ok (.if_icmp .ne 7, 3) := by decide +kernel
theorem dX11_wrongPlace_21 : decode cX11_wrongPlace 21 = .ok (.iconst 2, 1) := by decide +kernel
theorem dX11_wrongPlace_22 : decode cX11_wrongPlace 22 = .ok (.goto 22, 3) := by decide +kernel
theorem dX11_wrongPlace_25 : decode cX11_wrongPlace 25 = .ok (.iload_n 2, 1) := by decide +kernel
theorem dX11_wrongPlace_26 : decode cX11_wrongPlace 26 = .ok (.ifCond .lt 13, 3) := by decide +kernel
theorem dX11_wrongPlace_29 : decode cX11_wrongPlace 29 = .ok (.iload_n 2, 1) := by decide +kernel
theorem dX11_wrongPlace_30 : decode cX11_wrongPlace 30 = .ok (.aload_n 0, 1) := by decide +kernel
theorem dX11_wrongPlace_31 : decode cX11_wrongPlace 31 = .ok (.getfield 24, 3) := by decide +kernel
theorem dX11_wrongPlace_34 : decode cX11_wrongPlace 34 = .ok (.iload_n 1, 1) := by decide +kernel
theorem dX11_wrongPlace_35 : decode cX11_wrongPlace 35 = .ok (.iaload, 1) := by decide +kernel
theorem dX11_wrongPlace_36 : decode cX11_wrongPlace 36 = .ok (.if_icmp .lt 7, 3) := by decide +kernel
theorem dX11_wrongPlace_39 : decode cX11_wrongPlace 39 = .ok (.iconst 3, 1) := by decide +kernel
theorem dX11_wrongPlace_40 : decode cX11_wrongPlace 40 = .ok (.goto 4, 3) := by decide +kernel
theorem dX11_wrongPlace_43 : decode cX11_wrongPlace 43 = .ok (.iconst 0, 1) := by decide +kernel
theorem dX11_wrongPlace_44 : decode cX11_wrongPlace 44 = .ok (.ireturn, 1) := by decide +kernel
theorem dX11_cut_0 : decode cX11_cut 0 = .ok (.iload_n 2, 1) := by decide +kernel
theorem dX11_cut_1 : decode cX11_cut 1 = .ok (.ifCond .ne 10, 3) := by decide +kernel
theorem dX11_cut_4 : decode cX11_cut 4 = .ok (.lload_n 0, 1) := by decide +kernel
theorem dX11_cut_5 : decode cX11_cut 5 = .ok (.l2i, 1) := by decide +kernel
theorem dX11_cut_6 : decode cX11_cut 6 = .ok (.i2b, 1) := by decide +kernel
theorem dX11_cut_7 : decode cX11_cut 7 = .ok (.i2l, 1) := by decide +kernel
theorem dX11_cut_8 : decode cX11_cut 8 = .ok (.goto 27, 3) := by decide +kernel
theorem dX11_cut_11 : decode cX11_cut 11 = .ok (.iload_n 2, 1) := by decide +kernel
theorem dX11_cut_12 : decode cX11_cut 12 = .ok (.iconst 1, 1) := by decide +kernel
theorem dX11_cut_13 : decode cX11_cut 13 = .ok (.if_icmp .ne 10, 3) := by decide +kernel
theorem dX11_cut_16 : decode cX11_cut 16 = .ok (.lload_n 0, 1) := by decide +kernel
theorem dX11_cut_17 : decode cX11_cut 17 = .ok (.l2i, 1) := by decide +kernel
theorem dX11_cut_18 : decode cX11_cut 18 = .ok (.i2s, 1) := by decide +kernel
theorem dX11_cut_19 : decode cX11_cut 19 = .ok (.i2l, 1) := by decide +kernel
theorem dX11_cut_20 : decode cX11_cut 20 = .ok (.goto 15, 3) := by decide +kernel
theorem dX11_cut_23 : decode cX11_cut 23 = .ok (.iload_n 2, 1) := by decide +kernel
theorem dX11_cut_24 : decode cX11_cut 24 = .ok (.iconst 2, 1) := by decide +kernel
theorem dX11_cut_25 : decode cX11_cut 25 = .ok (.if_icmp .ne 9, 3) := by decide +kernel
theorem dX11_cut_28 : decode cX11_cut 28 = .ok (.lload_n 0, 1) := by decide +kernel
theorem dX11_cut_29 : decode cX11_cut 29 = .ok (.l2i, 1) := by decide +kernel
theorem dX11_cut_30 : decode cX11_cut 30 = .ok (.i2l, 1) := by decide +kernel
theorem dX11_cut_31 : decode cX11_cut 31 = .ok (.goto 4, 3) := by decide +kernel
theorem dX11_cut_34 : decode cX11_cut 34 = .ok (.lload_n 0, 1) := by decide +kernel
theorem dX11_cut_35 : decode cX11_cut 35 = .ok (.lreturn, 1) := by decide +kernel
theorem dX11_write_0 : decode cX11_write 0 = .ok (.aload_n 0, 1) := by decide +kernel
theorem dX11_write_1 : decode cX11_write 1 = .ok (.iload_n 1, 1) := by decide +kernel
theorem dX11_write_2 : decode cX11_write 2 = .ok (.iload_n 2, 1) := by decide +kernel
theorem dX11_write_3 : decode cX11_write 3 = .ok (.invokevirtual 116, 3) := by decide +kernel
theorem dX11_write_6 : decode cX11_write 6 = .ok (.istore 5, 2) := by decide +kernel
theorem dX11_write_8 : decode cX11_write 8 = .ok (.iload 5, 2) := by decide +kernel
theorem dX11_write_10 : decode cX11_write 10 = .ok (.ifCond .ne 24, 3) := by decide +kernel
theorem dX11_write_13 : decode cX11_write 13 = .ok (.aload_n 0, 1) := by decide +kernel
theorem dX11_write_14 : decode cX11_write 14 = .ok (.getfield 27, 3) := by decide +kernel
theorem dX11_write_17 : decode cX11_write 17 = .ok (.bipush 60, 2) := by decide +kernel
theorem dX11_write_19 : decode cX11_write 19 = .ok (.iload_n 1, 1) := by decide +kernel
theorem dX11_write_20 : decode cX11_write 20 = .ok (.imul, 1) := by decide +kernel
theorem dX11_write_21 : decode cX11_write 21 = .ok (.iload_n 2, 1) := by decide +kernel
theorem dX11_write_22 : decode cX11_write 22 = .ok (.iadd, 1) := by decide +kernel
theorem dX11_write_23 : decode cX11_write 23 = .ok (.lload_n 3, 1) := by decide +kernel
theorem dX11_write_24 : decode cX11_write 24 = .ok (.aload_n 0, 1) := by decide +kernel
theorem dX11_write_25 : decode cX11_write 25 = .ok (.getfield 21, 3) := by decide +kernel
theorem dX11_write_28 : decode cX11_write 28 = .ok (.iload_n 1, 1) := by decide +kernel
theorem dX11_write_29 : decode cX11_write 29 = .ok (.iaload, 1) := by decide +kernel
theorem dX11_write_30 : decode cX11_write 30 = .ok (.invokestatic 120, 3) := by decide +kernel
theorem dX11_write_33 : decode cX11_write 33 = .ok (.lastore, 1) := by decide +kernel
theorem dX11_write_34 : decode cX11_write 34 = .ok (.aload_n 0, 1) := by decide +kernel
theorem dX11_write_35 : decode cX11_write 35 = .ok (.iload 5, 2) := by decide +kernel
theorem dX11_write_37 : decode cX11_write 37 = .ok (.invokevirtual 109, 3) := by decide +kernel
theorem dX11_write_40 : decode cX11_write 40 = .ok (.ireturn, 1) := by decide +kernel
theorem dX11_read_0 : decode cX11_read 0 = .ok (.aload_n 0, 1) := by decide +kernel
theorem dX11_read_1 : decode cX11_read 1 = .ok (.aload_n 0, 1) := by decide +kernel
theorem dX11_read_2 : decode cX11_read 2 = .ok (.iload_n 1, 1) := by decide +kernel
theorem dX11_read_3 : decode cX11_read 3 = .ok (.iload_n 2, 1) := by decide +kernel
theorem dX11_read_4 : decode cX11_read 4 = .ok (.invokevirtual 116, 3) := by decide +kernel
theorem dX11_read_7 : decode cX11_read 7 = .ok (.putfield 96, 3) := by decide +kernel
theorem dX11_read_10 : decode cX11_read 10 = .ok (.aload_n 0, 1) := by decide +kernel
theorem dX11_read_11 : decode cX11_read 11 = .ok (.getfield 96, 3) := by decide +kernel
theorem dX11_read_14 : decode cX11_read 14 = .ok (.ifCond .le 9, 3) := by decide +kernel
theorem dX11_read_17 : decode cX11_read 17 = .ok (.ldc2_w 124, 3) := by decide +kernel
theorem dX11_read_20 : decode cX11_read 20 = .ok (.goto 14, 3) := by decide +kernel
theorem dX11_read_23 : decode cX11_read 23 = .ok (.aload_n 0, 1) := by decide +kernel
theorem dX11_read_24 : decode cX11_read 24 = .ok (.getfield 27, 3) := by decide +kernel
theorem dX11_read_27 : decode cX11_read 27 = .ok (.bipush 60, 2) := by decide +kernel
theorem dX11_read_29 : decode cX11_read 29 = .ok (.iload_n 1, 1) := by decide +kernel
theorem dX11_read_30 : decode cX11_read 30 = .ok (.imul, 1) := by decide +kernel
theorem dX11_read_31 : decode cX11_read 31 = .ok (.iload_n 2, 1) := by decide +kernel
theorem dX11_read_32 : decode cX11_read 32 = .ok (.iadd, 1) := by decide +kernel
theorem dX11_read_33 : decode cX11_read 33 = .ok (.laload, 1) := by decide +kernel
theorem dX11_read_34 : decode cX11_read 34 = .ok (.lreturn, 1) := by decide +kernel
theorem dX11_pour_0 : decode cX11_pour 0 = .ok (.iload_n 1, 1) := by decide +kernel
theorem dX11_pour_1 : decode cX11_pour 1 = .ok (.invokestatic 113, 3) := by decide +kernel
theorem dX11_pour_4 : decode cX11_pour 4 = .ok (.ifCond .eq 24, 3) := by decide +kernel
theorem dX11_pour_7 : decode cX11_pour 7 = .ok (.iload_n 3, 1) := by decide +kernel
theorem dX11_pour_8 : decode cX11_pour 8 = .ok (.invokestatic 113, 3) := by decide +kernel
theorem dX11_pour_11 : decode cX11_pour 11 = .ok (.ifCond .eq 17, 3) := by decide +kernel
theorem dX11_pour_14 : decode cX11_pour 14 = .ok (.iload_n 2, 1) := by decide +kernel
theorem dX11_pour_15 : decode cX11_pour 15 = .ok (.ifCond .lt 13, 3) := by decide +kernel
theorem dX11_pour_18 : decode cX11_pour 18 = .ok (.iload 4, 2) := by decide +kernel
theorem dX11_pour_20 : decode cX11_pour 20 = .ok (.ifCond .lt 8, 3) := by decide +kernel
theorem dX11_pour_23 : decode cX11_pour 23 = .ok (.iload 5, 2) := by decide +kernel
theorem dX11_pour_25 : decode cX11_pour 25 = .ok (.ifCond .ge 9, 3) := by decide +kernel
theorem dX11_pour_28 : decode cX11_pour 28 = .ok (.aload_n 0, 1) := by decide +kernel
theorem dX11_pour_29 : decode cX11_pour 29 = .ok (.iconst 1, 1) := by decide +kernel
theorem dX11_pour_30 : decode cX11_pour 30 = .ok (.invokevirtual 109, 3) := by decide +kernel
theorem dX11_pour_33 : decode cX11_pour 33 = .ok (.ireturn, 1) := by decide +kernel
theorem dX11_pour_34 : decode cX11_pour 34 = .ok (.aload_n 0, 1) := by decide +kernel
theorem dX11_pour_35 : decode cX11_pour 35 = .ok (.getfield 24, 3) := by decide +kernel
theorem dX11_pour_38 : decode cX11_pour 38 = .ok (.iload_n 1, 1) := by decide +kernel
theorem dX11_pour_39 : decode cX11_pour 39 = .ok (.iaload, 1) := by decide +kernel
theorem dX11_pour_40 : decode cX11_pour 40 = .ok (.iconst (-1), 1) := by decide +kernel
theorem dX11_pour_41 : decode cX11_pour 41 = .ok (.if_icmp .eq 13, 3) := by decide +kernel
theorem dX11_pour_44 : decode cX11_pour 44 = .ok (.aload_n 0, 1) := by decide +kernel
theorem dX11_pour_45 : decode cX11_pour 45 = .ok (.getfield 24, 3) := by decide +kernel
theorem dX11_pour_48 : decode cX11_pour 48 = .ok (.iload_n 3, 1) := by decide +kernel
theorem dX11_pour_49 : decode cX11_pour 49 = .ok (.iaload, 1) := by decide +kernel
theorem dX11_pour_50 : decode cX11_pour 50 = .ok (.iconst (-1), 1) := by decide +kernel
theorem dX11_pour_51 : decode cX11_pour 51 = .ok (.if_icmp .ne 9, 3) := by decide +kernel
theorem dX11_pour_54 : decode cX11_pour 54 = .ok (.aload_n 0, 1) := by decide +kernel
theorem dX11_pour_55 : decode cX11_pour 55 = .ok (.iconst 2, 1) := by decide +kernel
theorem dX11_pour_56 : decode cX11_pour 56 = .ok (.invokevirtual 109, 3) := by decide +kernel
theorem dX11_pour_59 : decode cX11_pour 59 = .ok (.ireturn, 1) := by decide +kernel
theorem dX11_pour_60 : decode cX11_pour 60 = .ok (.aload_n 0, 1) := by decide +kernel
theorem dX11_pour_61 : decode cX11_pour 61 = .ok (.getfield 21, 3) := by decide +kernel
theorem dX11_pour_64 : decode cX11_pour 64 = .ok (.iload_n 1, 1) := by decide +kernel
theorem dX11_pour_65 : decode cX11_pour 65 = .ok (.iaload, 1) := by decide +kernel
theorem dX11_pour_66 : decode cX11_pour 66 = .ok (.aload_n 0, 1) := by decide +kernel
theorem dX11_pour_67 : decode cX11_pour 67 = .ok (.getfield 21, 3) := by decide +kernel
theorem dX11_pour_70 : decode cX11_pour 70 = .ok (.iload_n 3, 1) := by decide +kernel
theorem dX11_pour_71 : decode cX11_pour 71 = .ok (.iaload, 1) := by decide +kernel
theorem dX11_pour_72 : decode cX11_pour 72 = .ok (.if_icmp .eq 10, 3) := by decide +kernel
theorem dX11_pour_75 : decode cX11_pour 75 = .ok (.aload_n 0, 1) := by decide +kernel
theorem dX11_pour_76 : decode cX11_pour 76 = .ok (.bipush 8, 2) := by decide +kernel
theorem dX11_pour_78 : decode cX11_pour 78 = .ok (.invokevirtual 109, 3) := by decide +kernel
theorem dX11_pour_81 : decode cX11_pour 81 = .ok (.ireturn, 1) := by decide +kernel
theorem dX11_pour_82 : decode cX11_pour 82 = .ok (.iload 5, 2) := by decide +kernel
theorem dX11_pour_84 : decode cX11_pour 84 = .ok (.aload_n 0, 1) := by decide +kernel
theorem dX11_pour_85 : decode cX11_pour 85 = .ok (.getfield 24, 3) := by decide +kernel
theorem dX11_pour_88 : decode cX11_pour 88 = .ok (.iload_n 1, 1) := by decide +kernel
theorem dX11_pour_89 : decode cX11_pour 89 = .ok (.iaload, 1) := by decide +kernel
theorem dX11_pour_90 : decode cX11_pour 90 = .ok (.iload_n 2, 1) := by decide +kernel
theorem dX11_pour_91 : decode cX11_pour 91 = .ok (.isub, 1) := by decide +kernel
theorem dX11_pour_92 : decode cX11_pour 92 = .ok (.if_icmp .gt 17, 3) := by decide +kernel
theorem dX11_pour_95 : decode cX11_pour 95 = .ok (.iload 5, 2) := by decide +kernel
theorem dX11_pour_97 : decode cX11_pour 97 = .ok (.aload_n 0, 1) := by decide +kernel
theorem dX11_pour_98 : decode cX11_pour 98 = .ok (.getfield 24, 3) := by decide +kernel
theorem dX11_pour_101 : decode cX11_pour 101 = .ok (.iload_n 3, 1) := by decide +kernel
theorem dX11_pour_102 : decode cX11_pour 102 = .ok (.iaload, 1) := by decide +kernel
theorem dX11_pour_103 : decode cX11_pour 103 = .ok (.iload 4, 2) := by decide +kernel
theorem dX11_pour_105 : decode cX11_pour 105 = .ok (.isub, 1) := by decide +kernel
theorem dX11_pour_106 : decode cX11_pour 106 = .ok (.if_icmp .le 9, 3) := by decide +kernel
theorem dX11_pour_109 : decode cX11_pour 109 = .ok (.aload_n 0, 1) := by decide +kernel
theorem dX11_pour_110 : decode cX11_pour 110 = .ok (.iconst 3, 1) := by decide +kernel
theorem dX11_pour_111 : decode cX11_pour 111 = .ok (.invokevirtual 109, 3) := by decide +kernel
theorem dX11_pour_114 : decode cX11_pour 114 = .ok (.ireturn, 1) := by decide +kernel
theorem dX11_pour_115 : decode cX11_pour 115 = .ok (.iconst 0, 1) := by decide +kernel
theorem dX11_pour_116 : decode cX11_pour 116 = .ok (.istore 6, 2) := by decide +kernel
theorem dX11_pour_118 : decode cX11_pour 118 = .ok (.iload 6, 2) := by decide +kernel
theorem dX11_pour_120 : decode cX11_pour 120 = .ok (.iload 5, 2) := by decide +kernel
theorem dX11_pour_122 : decode cX11_pour 122 = .ok (.if_icmp .ge 58, 3) := by decide +kernel
theorem dX11_pour_125 : decode cX11_pour 125 = .ok (.iload_n 2, 1) := by decide +kernel
theorem dX11_pour_126 : decode cX11_pour 126 = .ok (.iload 4, 2) := by decide +kernel
theorem dX11_pour_128 : decode cX11_pour 128 = .ok (.if_icmp .ge 13, 3) := by decide +kernel
theorem dX11_pour_131 : decode cX11_pour 131 = .ok (.iload 5, 2) := by decide +kernel
theorem dX11_pour_133 : decode cX11_pour 133 = .ok (.iconst 1, 1) := by decide +kernel
theorem dX11_pour_134 : decode cX11_pour 134 = .ok (.isub, 1) := by decide +kernel
theorem dX11_pour_135 : decode cX11_pour 135 = .ok (.iload 6, 2) := by decide +kernel
theorem dX11_pour_137 : decode cX11_pour 137 = .ok (.isub, 1) := by decide +kernel
theorem dX11_pour_138 : decode cX11_pour 138 = .ok (.goto 5, 3) := by decide +kernel
theorem dX11_pour_141 : decode cX11_pour 141 = .ok (.iload 6, 2) := by decide +kernel
theorem dX11_pour_143 : decode cX11_pour 143 = .ok (.istore 7, 2) := by decide +kernel
theorem dX11_pour_145 : decode cX11_pour 145 = .ok (.aload_n 0, 1) := by decide +kernel
theorem dX11_pour_146 : decode cX11_pour 146 = .ok (.getfield 27, 3) := by decide +kernel
theorem dX11_pour_149 : decode cX11_pour 149 = .ok (.bipush 60, 2) := by decide +kernel
theorem dX11_pour_151 : decode cX11_pour 151 = .ok (.iload_n 3, 1) := by decide +kernel
theorem dX11_pour_152 : decode cX11_pour 152 = .ok (.imul, 1) := by decide +kernel
theorem dX11_pour_153 : decode cX11_pour 153 = .ok (.iload 4, 2) := by decide +kernel
theorem dX11_pour_155 : decode cX11_pour 155 = .ok (.iadd, 1) := by decide +kernel
theorem dX11_pour_156 : decode cX11_pour 156 = .ok (.iload 7, 2) := by decide +kernel
theorem dX11_pour_158 : decode cX11_pour 158 = .ok (.iadd, 1) := by decide +kernel
theorem dX11_pour_159 : decode cX11_pour 159 = .ok (.aload_n 0, 1) := by decide +kernel
theorem dX11_pour_160 : decode cX11_pour 160 = .ok (.getfield 27, 3) := by decide +kernel
theorem dX11_pour_163 : decode cX11_pour 163 = .ok (.bipush 60, 2) := by decide +kernel
theorem dX11_pour_165 : decode cX11_pour 165 = .ok (.iload_n 1, 1) := by decide +kernel
theorem dX11_pour_166 : decode cX11_pour 166 = .ok (.imul, 1) := by decide +kernel
theorem dX11_pour_167 : decode cX11_pour 167 = .ok (.iload_n 2, 1) := by decide +kernel
theorem dX11_pour_168 : decode cX11_pour 168 = .ok (.iadd, 1) := by decide +kernel
theorem dX11_pour_169 : decode cX11_pour 169 = .ok (.iload 7, 2) := by decide +kernel
theorem dX11_pour_171 : decode cX11_pour 171 = .ok (.iadd, 1) := by decide +kernel
theorem dX11_pour_172 : decode cX11_pour 172 = .ok (.laload, 1) := by decide +kernel
theorem dX11_pour_173 : decode cX11_pour 173 = .ok (.lastore, 1) := by decide +kernel
theorem dX11_pour_174 : decode cX11_pour 174 = .ok (.iinc 6 1, 3) := by decide +kernel
theorem dX11_pour_177 : decode cX11_pour 177 = .ok (.goto (-59), 3) := by decide +kernel
theorem dX11_pour_180 : decode cX11_pour 180 = .ok (.aload_n 0, 1) := by decide +kernel
theorem dX11_pour_181 : decode cX11_pour 181 = .ok (.iconst 0, 1) := by decide +kernel
theorem dX11_pour_182 : decode cX11_pour 182 = .ok (.invokevirtual 109, 3) := by decide +kernel
theorem dX11_pour_185 : decode cX11_pour 185 = .ok (.ireturn, 1) := by decide +kernel
theorem dX11_four_0 : decode cX11_four 0 = .ok (.bipush 24, 2) := by decide +kernel
theorem dX11_four_2 : decode cX11_four 2 = .ok (.istore_n 2, 1) := by decide +kernel
theorem dX11_four_3 : decode cX11_four 3 = .ok (.iload_n 2, 1) := by decide +kernel
theorem dX11_four_4 : decode cX11_four 4 = .ok (.ifCond .lt 32, 3) := by decide +kernel
theorem dX11_four_7 : decode cX11_four 7 = .ok (.aload_n 0, 1) := by decide +kernel
theorem dX11_four_8 : decode cX11_four 8 = .ok (.getfield 30, 3) := by decide +kernel
theorem dX11_four_11 : decode cX11_four 11 = .ok (.aload_n 0, 1) := by decide +kernel
theorem dX11_four_12 : decode cX11_four 12 = .ok (.getfield 126, 3) := by decide +kernel
theorem dX11_four_15 : decode cX11_four 15 = .ok (.iload_n 1, 1) := by decide +kernel
theorem dX11_four_16 : decode cX11_four 16 = .ok (.iload_n 2, 1) := by decide +kernel
theorem dX11_four_17 : decode cX11_four 17 = .ok (.ishr, 1) := by decide +kernel
theorem dX11_four_18 : decode cX11_four 18 = .ok (.i2b, 1) := by decide +kernel
theorem dX11_four_19 : decode cX11_four 19 = .ok (.bastore, 1) := by decide +kernel
theorem dX11_four_20 : decode cX11_four 20 = .ok (.aload_n 0, 1) := by decide +kernel
theorem dX11_four_21 : decode cX11_four 21 = .ok (.dup, 1) := by decide +kernel
theorem dX11_four_22 : decode cX11_four 22 = .ok (.getfield 126, 3) := by decide +kernel
theorem dX11_four_25 : decode cX11_four 25 = .ok (.iconst 1, 1) := by decide +kernel
theorem dX11_four_26 : decode cX11_four 26 = .ok (.iadd, 1) := by decide +kernel
theorem dX11_four_27 : decode cX11_four 27 = .ok (.putfield 126, 3) := by decide +kernel
theorem dX11_four_30 : decode cX11_four 30 = .ok (.iinc 2 (-8), 3) := by decide +kernel
theorem dX11_four_33 : decode cX11_four 33 = .ok (.goto (-30), 3) := by decide +kernel
theorem dX11_four_36 : decode cX11_four 36 = .ok (.return_, 1) := by decide +kernel
theorem dX11_feed_0 : decode cX11_feed 0 = .ok (.aload_n 0, 1) := by decide +kernel
theorem dX11_feed_1 : decode cX11_feed 1 = .ok (.getfield 126, 3) := by decide +kernel
theorem dX11_feed_4 : decode cX11_feed 4 = .ok (.bipush 20, 2) := by decide +kernel
theorem dX11_feed_6 : decode cX11_feed 6 = .ok (.iadd, 1) := by decide +kernel
theorem dX11_feed_7 : decode cX11_feed 7 = .ok (.sipush 900, 3) := by decide +kernel
theorem dX11_feed_10 : decode cX11_feed 10 = .ok (.if_icmp .le 5, 3) := by decide +kernel
theorem dX11_feed_13 : decode cX11_feed 13 = .ok (.iconst (-1), 1) := by decide +kernel
theorem dX11_feed_14 : decode cX11_feed 14 = .ok (.ireturn, 1) := by decide +kernel
theorem dX11_feed_15 : decode cX11_feed 15 = .ok (.aload_n 0, 1) := by decide +kernel
theorem dX11_feed_16 : decode cX11_feed 16 = .ok (.iload_n 1, 1) := by decide +kernel
theorem dX11_feed_17 : decode cX11_feed 17 = .ok (.invokevirtual 129, 3) := by decide +kernel
theorem dX11_feed_20 : decode cX11_feed 20 = .ok (.aload_n 0, 1) := by decide +kernel
theorem dX11_feed_21 : decode cX11_feed 21 = .ok (.iload_n 2, 1) := by decide +kernel
theorem dX11_feed_22 : decode cX11_feed 22 = .ok (.invokevirtual 129, 3) := by decide +kernel
theorem dX11_feed_25 : decode cX11_feed 25 = .ok (.aload_n 0, 1) := by decide +kernel
theorem dX11_feed_26 : decode cX11_feed 26 = .ok (.iload_n 3, 1) := by decide +kernel
theorem dX11_feed_27 : decode cX11_feed 27 = .ok (.invokevirtual 129, 3) := by decide +kernel
theorem dX11_feed_30 : decode cX11_feed 30 = .ok (.aload_n 0, 1) := by decide +kernel
theorem dX11_feed_31 : decode cX11_feed 31 = .ok (.iload 4, 2) := by decide +kernel
theorem dX11_feed_33 : decode cX11_feed 33 = .ok (.invokevirtual 129, 3) := by decide +kernel
theorem dX11_feed_36 : decode cX11_feed 36 = .ok (.aload_n 0, 1) := by decide +kernel
theorem dX11_feed_37 : decode cX11_feed 37 = .ok (.iload 5, 2) := by decide +kernel
theorem dX11_feed_39 : decode cX11_feed 39 = .ok (.invokevirtual 129, 3) := by decide +kernel
theorem dX11_feed_42 : decode cX11_feed 42 = .ok (.aload_n 0, 1) := by decide +kernel
theorem dX11_feed_43 : decode cX11_feed 43 = .ok (.getfield 126, 3) := by decide +kernel
theorem dX11_feed_46 : decode cX11_feed 46 = .ok (.ireturn, 1) := by decide +kernel
theorem dX11_fault_0 : decode cX11_fault 0 = .ok (.iload_n 1, 1) := by decide +kernel
theorem dX11_fault_1 : decode cX11_fault 1 = .ok (.ifCond .ne 10, 3) := by decide +kernel
theorem dX11_fault_4 : decode cX11_fault 4 = .ok (.aload_n 0, 1) := by decide +kernel
theorem dX11_fault_5 : decode cX11_fault 5 = .ok (.getfield 37, 3) := by decide +kernel
theorem dX11_fault_8 : decode cX11_fault 8 = .ok (.goto 16, 3) := by decide +kernel
theorem dX11_fault_11 : decode cX11_fault 11 = .ok (.iload_n 1, 1) := by decide +kernel
theorem dX11_fault_12 : decode cX11_fault 12 = .ok (.iconst 1, 1) := by decide +kernel
theorem dX11_fault_13 : decode cX11_fault 13 = .ok (.if_icmp .ne 10, 3) := by decide +kernel
theorem dX11_fault_16 : decode cX11_fault 16 = .ok (.aload_n 0, 1) := by decide +kernel
theorem dX11_fault_17 : decode cX11_fault 17 = .ok (.getfield 41, 3) := by decide +kernel
theorem dX11_fault_20 : decode cX11_fault 20 = .ok (.goto 4, 3) := by decide +kernel
theorem dX11_fault_23 : decode cX11_fault 23 = .ok (.iconst (-1), 1) := by decide +kernel
theorem dX11_fault_24 : decode cX11_fault 24 = .ok (.ireturn, 1) := by decide +kernel
theorem dX11_byteAt_0 : decode cX11_byteAt 0 = .ok (.iload_n 1, 1) := by decide +kernel
theorem dX11_byteAt_1 : decode cX11_byteAt 1 = .ok (.aload_n 0, 1) := by decide +kernel
theorem dX11_byteAt_2 : decode cX11_byteAt 2 = .ok (.getfield 133, 3) := by decide +kernel
theorem dX11_byteAt_5 : decode cX11_byteAt 5 = .ok (.if_icmp .ge 16, 3) := by decide +kernel
theorem dX11_byteAt_8 : decode cX11_byteAt 8 = .ok (.aload_n 0, 1) := by decide +kernel
theorem dX11_byteAt_9 : decode cX11_byteAt 9 = .ok (.getfield 34, 3) := by decide +kernel
theorem dX11_byteAt_12 : decode cX11_byteAt 12 = .ok (.iload_n 1, 1) := by decide +kernel
theorem dX11_byteAt_13 : decode cX11_byteAt 13 = .ok (.baload, 1) := by decide +kernel
theorem dX11_byteAt_14 : decode cX11_byteAt 14 = .ok (.sipush 255, 3) := by decide +kernel
theorem dX11_byteAt_17 : decode cX11_byteAt 17 = .ok (.iand, 1) := by decide +kernel
theorem dX11_byteAt_18 : decode cX11_byteAt 18 = .ok (.goto 4, 3) := by decide +kernel
theorem dX11_byteAt_21 : decode cX11_byteAt 21 = .ok (.iconst (-1), 1) := by decide +kernel
theorem dX11_byteAt_22 : decode cX11_byteAt 22 = .ok (.ireturn, 1) := by decide +kernel
theorem dX11_isSmall_0 : decode cX11_isSmall 0 = .ok (.iload_n 0, 1) := by decide +kernel
theorem dX11_isSmall_1 : decode cX11_isSmall 1 = .ok (.bipush 97, 2) := by decide +kernel
theorem dX11_isSmall_3 : decode cX11_isSmall 3 = .ok (.if_icmp .lt 13, 3) := by decide +kernel
theorem dX11_isSmall_6 : decode cX11_isSmall 6 = .ok (.iload_n 0, 1) := by decide +kernel
theorem dX11_isSmall_7 : decode cX11_isSmall 7 = .ok (.bipush 122, 2) := by decide +kernel
theorem dX11_isSmall_9 : decode cX11_isSmall 9 = .ok (.if_icmp .gt 7, 3) := by decide +kernel
theorem dX11_isSmall_12 : decode cX11_isSmall 12 = .ok (.iconst 1, 1) := by decide +kernel
theorem dX11_isSmall_13 : decode cX11_isSmall 13 = .ok (.goto 4, 3) := by decide +kernel
theorem dX11_isSmall_16 : decode cX11_isSmall 16 = .ok (.iconst 0, 1) := by decide +kernel
theorem dX11_isSmall_17 : decode cX11_isSmall 17 = .ok (.ireturn, 1) := by decide +kernel
theorem dX11_isDigit_0 : decode cX11_isDigit 0 = .ok (.iload_n 0, 1) := by decide +kernel
theorem dX11_isDigit_1 : decode cX11_isDigit 1 = .ok (.bipush 48, 2) := by decide +kernel
theorem dX11_isDigit_3 : decode cX11_isDigit 3 = .ok (.if_icmp .lt 13, 3) := by decide +kernel
theorem dX11_isDigit_6 : decode cX11_isDigit 6 = .ok (.iload_n 0, 1) := by decide +kernel
theorem dX11_isDigit_7 : decode cX11_isDigit 7 = .ok (.bipush 57, 2) := by decide +kernel
theorem dX11_isDigit_9 : decode cX11_isDigit 9 = .ok (.if_icmp .gt 7, 3) := by decide +kernel
theorem dX11_isDigit_12 : decode cX11_isDigit 12 = .ok (.iconst 1, 1) := by decide +kernel
theorem dX11_isDigit_13 : decode cX11_isDigit 13 = .ok (.goto 4, 3) := by decide +kernel
theorem dX11_isDigit_16 : decode cX11_isDigit 16 = .ok (.iconst 0, 1) := by decide +kernel
theorem dX11_isDigit_17 : decode cX11_isDigit 17 = .ok (.ireturn, 1) := by decide +kernel
theorem dX11_ahead_0 : decode cX11_ahead 0 = .ok (.aload_n 0, 1) := by decide +kernel
theorem dX11_ahead_1 : decode cX11_ahead 1 = .ok (.aload_n 0, 1) := by decide +kernel
theorem dX11_ahead_2 : decode cX11_ahead 2 = .ok (.getfield 136, 3) := by decide +kernel
theorem dX11_ahead_5 : decode cX11_ahead 5 = .ok (.invokevirtual 139, 3) := by decide +kernel
theorem dX11_ahead_8 : decode cX11_ahead 8 = .ok (.bipush 32, 2) := by decide +kernel
theorem dX11_ahead_10 : decode cX11_ahead 10 = .ok (.if_icmp .eq 16, 3) := by decide +kernel
theorem dX11_ahead_13 : decode cX11_ahead 13 = .ok (.aload_n 0, 1) := by decide +kernel
theorem dX11_ahead_14 : decode cX11_ahead 14 = .ok (.aload_n 0, 1) := by decide +kernel
theorem dX11_ahead_15 : decode cX11_ahead 15 = .ok (.getfield 136, 3) := by decide +kernel
theorem dX11_ahead_18 : decode cX11_ahead 18 = .ok (.invokevirtual 139, 3) := by decide +kernel
theorem dX11_ahead_21 : decode cX11_ahead 21 = .ok (.bipush 10, 2) := by decide +kernel
theorem dX11_ahead_23 : decode cX11_ahead 23 = .ok (.if_icmp .ne 16, 3) := by decide +kernel
theorem dX11_ahead_26 : decode cX11_ahead 26 = .ok (.aload_n 0, 1) := by decide +kernel
theorem dX11_ahead_27 : decode cX11_ahead 27 = .ok (.dup, 1) := by decide +kernel
theorem dX11_ahead_28 : decode cX11_ahead 28 = .ok (.getfield 136, 3) := by decide +kernel
theorem dX11_ahead_31 : decode cX11_ahead 31 = .ok (.iconst 1, 1) := by decide +kernel
theorem dX11_ahead_32 : decode cX11_ahead 32 = .ok (.iadd, 1) := by decide +kernel
theorem dX11_ahead_33 : decode cX11_ahead 33 = .ok (.putfield 136, 3) := by decide +kernel
theorem dX11_ahead_36 : decode cX11_ahead 36 = .ok (.goto (-36), 3) := by decide +kernel
theorem dX11_ahead_39 : decode cX11_ahead 39 = .ok (.aload_n 0, 1) := by decide +kernel
theorem dX11_ahead_40 : decode cX11_ahead 40 = .ok (.aload_n 0, 1) := by decide +kernel
theorem dX11_ahead_41 : decode cX11_ahead 41 = .ok (.getfield 136, 3) := by decide +kernel
theorem dX11_ahead_44 : decode cX11_ahead 44 = .ok (.putfield 142, 3) := by decide +kernel
theorem dX11_ahead_47 : decode cX11_ahead 47 = .ok (.aload_n 0, 1) := by decide +kernel
theorem dX11_ahead_48 : decode cX11_ahead 48 = .ok (.aload_n 0, 1) := by decide +kernel
theorem dX11_ahead_49 : decode cX11_ahead 49 = .ok (.getfield 136, 3) := by decide +kernel
theorem dX11_ahead_52 : decode cX11_ahead 52 = .ok (.invokevirtual 139, 3) := by decide +kernel
theorem dX11_ahead_55 : decode cX11_ahead 55 = .ok (.istore_n 1, 1) := by decide +kernel
theorem dX11_ahead_56 : decode cX11_ahead 56 = .ok (.aload_n 0, 1) := by decide +kernel
theorem dX11_ahead_57 : decode cX11_ahead 57 = .ok (.iload_n 1, 1) := by decide +kernel
theorem dX11_ahead_58 : decode cX11_ahead 58 = .ok (.putfield 145, 3) := by decide +kernel
theorem dX11_ahead_61 : decode cX11_ahead 61 = .ok (.iload_n 1, 1) := by decide +kernel
theorem dX11_ahead_62 : decode cX11_ahead 62 = .ok (.iconst (-1), 1) := by decide +kernel
theorem dX11_ahead_63 : decode cX11_ahead 63 = .ok (.if_icmp .ne 11, 3) := by decide +kernel
theorem dX11_ahead_66 : decode cX11_ahead 66 = .ok (.aload_n 0, 1) := by decide +kernel
theorem dX11_ahead_67 : decode cX11_ahead 67 = .ok (.iconst 0, 1) := by decide +kernel
theorem dX11_ahead_68 : decode cX11_ahead 68 = .ok (.putfield 148, 3) := by decide +kernel
theorem dX11_ahead_71 : decode cX11_ahead 71 = .ok (.goto 180, 3) := by decide +kernel
theorem dX11_ahead_74 : decode cX11_ahead 74 = .ok (.iload_n 1, 1) := by decide +kernel
theorem dX11_ahead_75 : decode cX11_ahead 75 = .ok (.invokestatic 151, 3) := by decide +kernel
theorem dX11_ahead_78 : decode cX11_ahead 78 = .ok (.ifCond .eq 38, 3) := by decide +kernel
theorem dX11_ahead_81 : decode cX11_ahead 81 = .ok (.aload_n 0, 1) := by decide +kernel
theorem dX11_ahead_82 : decode cX11_ahead 82 = .ok (.aload_n 0, 1) := by decide +kernel
theorem dX11_ahead_83 : decode cX11_ahead 83 = .ok (.getfield 136, 3) := by decide +kernel
theorem dX11_ahead_86 : decode cX11_ahead 86 = .ok (.invokevirtual 139, 3) := by decide +kernel
theorem dX11_ahead_89 : decode cX11_ahead 89 = .ok (.invokestatic 151, 3) := by decide +kernel
theorem dX11_ahead_92 : decode cX11_ahead 92 = .ok (.ifCond .eq 16, 3) := by decide +kernel
theorem dX11_ahead_95 : decode cX11_ahead 95 = .ok (.aload_n 0, 1) := by decide +kernel
theorem dX11_ahead_96 : decode cX11_ahead 96 = .ok (.dup, 1) := by decide +kernel
theorem dX11_ahead_97 : decode cX11_ahead 97 = .ok (.getfield 136, 3) := by decide +kernel
theorem dX11_ahead_100 : decode cX11_ahead 100 = .ok (.iconst 1, 1) := by decide +kernel
theorem dX11_ahead_101 : decode cX11_ahead 101 = .ok (.iadd, 1) := by decide +kernel
theorem dX11_ahead_102 : decode cX11_ahead 102 = .ok (.putfield 136, 3) := by decide +kernel
theorem dX11_ahead_105 : decode cX11_ahead 105 = .ok (.goto (-24), 3) := by decide +kernel
theorem dX11_ahead_108 : decode cX11_ahead 108 = .ok (.aload_n 0, 1) := by decide +kernel
theorem dX11_ahead_109 : decode cX11_ahead 109 = .ok (.iconst 2, 1) := by decide +kernel
theorem dX11_ahead_110 : decode cX11_ahead 110 = .ok (.putfield 148, 3) := by decide +kernel
theorem dX11_ahead_113 : decode cX11_ahead 113 = .ok (.goto 138, 3) := by decide +kernel
theorem dX11_ahead_116 : decode cX11_ahead 116 = .ok (.iload_n 1, 1) := by decide +kernel
theorem dX11_ahead_117 : decode cX11_ahead 117 = .ok (.invokestatic 154, 3) := by decide +kernel
theorem dX11_ahead_120 : decode cX11_ahead 120 = .ok (.ifCond .eq 88, 3) := by decide +kernel
theorem dX11_ahead_123 : decode cX11_ahead 123 = .ok (.aload_n 0, 1) := by decide +kernel
theorem dX11_ahead_124 : decode cX11_ahead 124 = .ok (.iconst 0, 1) := by decide +kernel
theorem dX11_ahead_125 : decode cX11_ahead 125 = .ok (.putfield 145, 3) := by decide +kernel
theorem dX11_ahead_128 : decode cX11_ahead 128 = .ok (.aload_n 0, 1) := by decide +kernel
theorem dX11_ahead_129 : decode cX11_ahead 129 = .ok (.aload_n 0, 1) := by decide +kernel
theorem dX11_ahead_130 : decode cX11_ahead 130 = .ok (.getfield 136, 3) := by decide +kernel
theorem dX11_ahead_133 : decode cX11_ahead 133 = .ok (.invokevirtual 139, 3) := by decide +kernel
theorem dX11_ahead_136 : decode cX11_ahead 136 = .ok (.invokestatic 154, 3) := by decide +kernel
theorem dX11_ahead_139 : decode cX11_ahead 139 = .ok (.ifCond .eq 44, 3) := by decide +kernel
theorem dX11_ahead_142 : decode cX11_ahead 142 = .ok (.aload_n 0, 1) := by decide +kernel
theorem dX11_ahead_143 : decode cX11_ahead 143 = .ok (.ldc 157, 2) := by decide +kernel
theorem dX11_ahead_145 : decode cX11_ahead 145 = .ok (.bipush 10, 2) := by decide +kernel
theorem dX11_ahead_147 : decode cX11_ahead 147 = .ok (.aload_n 0, 1) := by decide +kernel
theorem dX11_ahead_148 : decode cX11_ahead 148 = .ok (.getfield 145, 3) := by decide +kernel
theorem dX11_ahead_151 : decode cX11_ahead 151 = .ok (.imul, 1) := by decide +kernel
theorem dX11_ahead_152 : decode cX11_ahead 152 = .ok (.aload_n 0, 1) := by decide +kernel
theorem dX11_ahead_153 : decode cX11_ahead 153 = .ok (.aload_n 0, 1) := by decide +kernel
theorem dX11_ahead_154 : decode cX11_ahead 154 = .ok (.getfield 136, 3) := by decide +kernel
theorem dX11_ahead_157 : decode cX11_ahead 157 = .ok (.invokevirtual 139, 3) := by decide +kernel
theorem dX11_ahead_160 : decode cX11_ahead 160 = .ok (.iadd, 1) := by decide +kernel
theorem dX11_ahead_161 : decode cX11_ahead 161 = .ok (.bipush 48, 2) := by decide +kernel
theorem dX11_ahead_163 : decode cX11_ahead 163 = .ok (.isub, 1) := by decide +kernel
theorem dX11_ahead_164 : decode cX11_ahead 164 = .ok (.invokestatic 158, 3) := by decide +kernel
theorem dX11_ahead_167 : decode cX11_ahead 167 = .ok (.putfield 145, 3) := by decide +kernel
theorem dX11_ahead_170 : decode cX11_ahead 170 = .ok (.aload_n 0, 1) := by decide +kernel
theorem dX11_ahead_171 : decode cX11_ahead 171 = .ok (.dup, 1) := by decide +kernel
theorem dX11_ahead_172 : decode cX11_ahead 172 = .ok (.getfield 136, 3) := by decide +kernel
theorem dX11_ahead_175 : decode cX11_ahead 175 = .ok (.iconst 1, 1) := by decide +kernel
theorem dX11_ahead_176 : decode cX11_ahead 176 = .ok (.iadd, 1) := by decide +kernel
theorem dX11_ahead_177 : decode cX11_ahead 177 = .ok (.putfield 136, 3) := by decide +kernel
theorem dX11_ahead_180 : decode cX11_ahead 180 = .ok (.goto (-52), 3) := by decide +kernel
theorem dX11_ahead_183 : decode cX11_ahead 183 = .ok (.aload_n 0, 1) := by decide +kernel
theorem dX11_ahead_184 : decode cX11_ahead 184 = .ok (.aload_n 0, 1) := by decide +kernel
theorem dX11_ahead_185 : decode cX11_ahead 185 = .ok (.getfield 136, 3) := by decide +kernel
theorem dX11_ahead_188 : decode cX11_ahead 188 = .ok (.aload_n 0, 1) := by decide +kernel
theorem dX11_ahead_189 : decode cX11_ahead 189 = .ok (.getfield 142, 3) := by decide +kernel
theorem dX11_ahead_192 : decode cX11_ahead 192 = .ok (.isub, 1) := by decide +kernel
theorem dX11_ahead_193 : decode cX11_ahead 193 = .ok (.iconst 4, 1) := by decide +kernel
theorem dX11_ahead_194 : decode cX11_ahead 194 = .ok (.if_icmp .le 7, 3) := by decide +kernel
theorem dX11_ahead_197 : decode cX11_ahead 197 = .ok (.iconst 1, 1) := by decide +kernel
theorem dX11_ahead_198 : decode cX11_ahead 198 = .ok (.goto 4, 3) := by decide +kernel
theorem dX11_ahead_201 : decode cX11_ahead 201 = .ok (.iconst 3, 1) := by decide +kernel
theorem dX11_ahead_202 : decode cX11_ahead 202 = .ok (.putfield 148, 3) := by decide +kernel
theorem dX11_ahead_205 : decode cX11_ahead 205 = .ok (.goto 46, 3) := by decide +kernel
theorem dX11_ahead_208 : decode cX11_ahead 208 = .ok (.aload_n 0, 1) := by decide +kernel
theorem dX11_ahead_209 : decode cX11_ahead 209 = .ok (.dup, 1) := by decide +kernel
theorem dX11_ahead_210 : decode cX11_ahead 210 = .ok (.getfield 136, 3) := by decide +kernel
theorem dX11_ahead_213 : decode cX11_ahead 213 = .ok (.iconst 1, 1) := by decide +kernel
theorem dX11_ahead_214 : decode cX11_ahead 214 = .ok (.iadd, 1) := by decide +kernel
theorem dX11_ahead_215 : decode cX11_ahead 215 = .ok (.putfield 136, 3) := by decide +kernel
theorem dX11_ahead_218 : decode cX11_ahead 218 = .ok (.aload_n 0, 1) := by decide +kernel
theorem dX11_ahead_219 : decode cX11_ahead 219 = .ok (.iload_n 1, 1) := by decide +kernel
theorem dX11_ahead_220 : decode cX11_ahead 220 = .ok (.bipush 59, 2) := by decide +kernel
theorem dX11_ahead_222 : decode cX11_ahead 222 = .ok (.if_icmp .eq 21, 3) := by decide +kernel
theorem dX11_ahead_225 : decode cX11_ahead 225 = .ok (.iload_n 1, 1) := by decide +kernel
theorem dX11_ahead_226 : decode cX11_ahead 226 = .ok (.bipush 60, 2) := by decide +kernel
theorem dX11_ahead_228 : decode cX11_ahead 228 = .ok (.if_icmp .eq 15, 3) := by decide +kernel
theorem dX11_ahead_231 : decode cX11_ahead 231 = .ok (.iload_n 1, 1) := by decide +kernel
theorem dX11_ahead_232 : decode cX11_ahead 232 = .ok (.bipush 62, 2) := by decide +kernel
theorem dX11_ahead_234 : decode cX11_ahead 234 = .ok (.if_icmp .eq 9, 3) := by decide +kernel
theorem dX11_ahead_237 : decode cX11_ahead 237 = .ok (.iload_n 1, 1) := by decide +kernel
theorem dX11_ahead_238 : decode cX11_ahead 238 = .ok (.bipush 61, 2) := by decide +kernel
theorem dX11_ahead_240 : decode cX11_ahead 240 = .ok (.if_icmp .ne 7, 3) := by decide +kernel
theorem dX11_ahead_243 : decode cX11_ahead 243 = .ok (.iconst 4, 1) := by decide +kernel
theorem dX11_ahead_244 : decode cX11_ahead 244 = .ok (.goto 4, 3) := by decide +kernel
theorem dX11_ahead_247 : decode cX11_ahead 247 = .ok (.iconst 1, 1) := by decide +kernel
theorem dX11_ahead_248 : decode cX11_ahead 248 = .ok (.putfield 148, 3) := by decide +kernel
theorem dX11_ahead_251 : decode cX11_ahead 251 = .ok (.return_, 1) := by decide +kernel
theorem dX11_begins_0 : decode cX11_begins 0 = .ok (.iload_n 1, 1) := by decide +kernel
theorem dX11_begins_1 : decode cX11_begins 1 = .ok (.ifCond .lt 16, 3) := by decide +kernel
theorem dX11_begins_4 : decode cX11_begins 4 = .ok (.iload_n 1, 1) := by decide +kernel
theorem dX11_begins_5 : decode cX11_begins 5 = .ok (.aload_n 0, 1) := by decide +kernel
theorem dX11_begins_6 : decode cX11_begins 6 = .ok (.getfield 126, 3) := by decide +kernel
theorem dX11_begins_9 : decode cX11_begins 9 = .ok (.if_icmp .gt 8, 3) := by decide +kernel
theorem dX11_begins_12 : decode cX11_begins 12 = .ok (.iload_n 1, 1) := by decide +kernel
theorem dX11_begins_13 : decode cX11_begins 13 = .ok (.iload_n 2, 1) := by decide +kernel
theorem dX11_begins_14 : decode cX11_begins 14 = .ok (.if_icmp .le 5, 3) := by decide +kernel
theorem dX11_begins_17 : decode cX11_begins 17 = .ok (.iconst 0, 1) := by decide +kernel
theorem dX11_begins_18 : decode cX11_begins 18 = .ok (.ireturn, 1) := by decide +kernel
theorem dX11_begins_19 : decode cX11_begins 19 = .ok (.aload_n 0, 1) := by decide +kernel
theorem dX11_begins_20 : decode cX11_begins 20 = .ok (.iload_n 1, 1) := by decide +kernel
theorem dX11_begins_21 : decode cX11_begins 21 = .ok (.putfield 133, 3) := by decide +kernel
theorem dX11_begins_24 : decode cX11_begins 24 = .ok (.iconst 0, 1) := by decide +kernel
theorem dX11_begins_25 : decode cX11_begins 25 = .ok (.istore_n 3, 1) := by decide +kernel
theorem dX11_begins_26 : decode cX11_begins 26 = .ok (.iload_n 3, 1) := by decide +kernel
theorem dX11_begins_27 : decode cX11_begins 27 = .ok (.iload_n 1, 1) := by decide +kernel
theorem dX11_begins_28 : decode cX11_begins 28 = .ok (.if_icmp .ge 21, 3) := by decide +kernel
theorem dX11_begins_31 : decode cX11_begins 31 = .ok (.aload_n 0, 1) := by decide +kernel
theorem dX11_begins_32 : decode cX11_begins 32 = .ok (.getfield 34, 3) := by decide +kernel
theorem dX11_begins_35 : decode cX11_begins 35 = .ok (.iload_n 3, 1) := by decide +kernel
theorem dX11_begins_36 : decode cX11_begins 36 = .ok (.aload_n 0, 1) := by decide +kernel
theorem dX11_begins_37 : decode cX11_begins 37 = .ok (.getfield 30, 3) := by decide +kernel
theorem dX11_begins_40 : decode cX11_begins 40 = .ok (.iload_n 3, 1) := by decide +kernel
theorem dX11_begins_41 : decode cX11_begins 41 = .ok (.baload, 1) := by decide +kernel
theorem dX11_begins_42 : decode cX11_begins 42 = .ok (.bastore, 1) := by decide +kernel
theorem dX11_begins_43 : decode cX11_begins 43 = .ok (.iinc 3 1, 3) := by decide +kernel
theorem dX11_begins_46 : decode cX11_begins 46 = .ok (.goto (-20), 3) := by decide +kernel
theorem dX11_begins_49 : decode cX11_begins 49 = .ok (.aload_n 0, 1) := by decide +kernel
theorem dX11_begins_50 : decode cX11_begins 50 = .ok (.iconst 0, 1) := by decide +kernel
theorem dX11_begins_51 : decode cX11_begins 51 = .ok (.putfield 126, 3) := by decide +kernel
theorem dX11_begins_54 : decode cX11_begins 54 = .ok (.aload_n 0, 1) := by decide +kernel
theorem dX11_begins_55 : decode cX11_begins 55 = .ok (.iconst 0, 1) := by decide +kernel
theorem dX11_begins_56 : decode cX11_begins 56 = .ok (.putfield 173, 3) := by decide +kernel
theorem dX11_begins_59 : decode cX11_begins 59 = .ok (.aload_n 0, 1) := by decide +kernel
theorem dX11_begins_60 : decode cX11_begins 60 = .ok (.iconst (-1), 1) := by decide +kernel
theorem dX11_begins_61 : decode cX11_begins 61 = .ok (.putfield 41, 3) := by decide +kernel
theorem dX11_begins_64 : decode cX11_begins 64 = .ok (.aload_n 0, 1) := by decide +kernel
theorem dX11_begins_65 : decode cX11_begins 65 = .ok (.iconst 0, 1) := by decide +kernel
theorem dX11_begins_66 : decode cX11_begins 66 = .ok (.putfield 136, 3) := by decide +kernel
theorem dX11_begins_69 : decode cX11_begins 69 = .ok (.aload_n 0, 1) := by decide +kernel
theorem dX11_begins_70 : decode cX11_begins 70 = .ok (.iconst 0, 1) := by decide +kernel
theorem dX11_begins_71 : decode cX11_begins 71 = .ok (.putfield 176, 3) := by decide +kernel
theorem dX11_begins_74 : decode cX11_begins 74 = .ok (.aload_n 0, 1) := by decide +kernel
theorem dX11_begins_75 : decode cX11_begins 75 = .ok (.invokevirtual 179, 3) := by decide +kernel
theorem dX11_begins_78 : decode cX11_begins 78 = .ok (.iconst 1, 1) := by decide +kernel
theorem dX11_begins_79 : decode cX11_begins 79 = .ok (.ireturn, 1) := by decide +kernel
theorem dX11_refuse_0 : decode cX11_refuse 0 = .ok (.aload_n 0, 1) := by decide +kernel
theorem dX11_refuse_1 : decode cX11_refuse 1 = .ok (.iload_n 1, 1) := by decide +kernel
theorem dX11_refuse_2 : decode cX11_refuse 2 = .ok (.putfield 96, 3) := by decide +kernel
theorem dX11_refuse_5 : decode cX11_refuse 5 = .ok (.iconst (-1), 1) := by decide +kernel
theorem dX11_refuse_6 : decode cX11_refuse 6 = .ok (.ireturn, 1) := by decide +kernel
def fX3_behindStep (φ : Nat) (t : Nat) (a1 : Nat) (a2 : Int32) (a3 : Nat) (M : Mem) : Option (Int32 × Mem) :=
  ixk a2 60 (
 if (M.1 (a1 + 1) a2.toNatClampNeg) = 13 then
 ixk a2 60 (
 ixk a2 60 (
 ixk a2 60 (
 bd (fX3_layDown t a3 (M.1 (a1 + 2) a2.toNatClampNeg) (M.1 (a1 + 3) a2.toNatClampNeg) (M.1 (a1 + 4) a2.toNatClampNeg) M) fun vu36 M37 =>
 some ((a2 + (1 : Int32)), M37))))
 else
 if (M.1 (a1 + 1) a2.toNatClampNeg) = 14 then
 ixk a2 60 (
 ixk a2 60 (
 bd (fX2_wearOff φ a3 (M.1 (a1 + 2) a2.toNatClampNeg) (M.1 (a1 + 4) a2.toNatClampNeg) M) fun v32 M33 =>
 nm (stI M33 t 5 ((M.1 t 5) + v32)) (fun M34 =>
 some ((a2 + (1 : Int32)), M34))))
 else
 if (M.1 (a1 + 1) a2.toNatClampNeg) = 15 then
 ixk a2 60 (
 bd (fX3_storm φ t a3 (M.1 (a1 + 4) a2.toNatClampNeg) M) fun vu29 M30 =>
 some ((a2 + (1 : Int32)), M30))
 else
 if (M.1 (a1 + 1) a2.toNatClampNeg) = 16 then
 ixk a2 60 (
 ixk a2 60 (
 bd (fX3_move t a3 (M.1 (a1 + 2) a2.toNatClampNeg) (M.1 (a1 + 4) a2.toNatClampNeg) M) fun vu26 M27 =>
 some ((a2 + (1 : Int32)), M27)))
 else
 if (M.1 (a1 + 1) a2.toNatClampNeg) = 17 then
 (fX3_holds φ a1 a2 a3 M).bind fun v24 =>
 if v24 = 0 then
 ixk a2 60 (
 some (((M.1 (a1 + 5) a2.toNatClampNeg) + (1 : Int32)), M))
 else
 some ((a2 + (1 : Int32)), M)
 else
 if (M.1 (a1 + 1) a2.toNatClampNeg) = 18 then
 (fX3_holds φ a1 a2 a3 M).bind fun v22 =>
 if v22 = 0 then
 ixk a2 60 (
 some (((M.1 (a1 + 5) a2.toNatClampNeg) + (1 : Int32)), M))
 else
 some ((a2 + (1 : Int32)), M)
 else
 if (M.1 (a1 + 1) a2.toNatClampNeg) = 19 then
 (fX3_holds φ a1 a2 a3 M).bind fun v20 =>
 if v20 = 0 then
 ixk a2 60 (
 some (((M.1 (a1 + 5) a2.toNatClampNeg) + (1 : Int32)), M))
 else
 some ((a2 + (1 : Int32)), M)
 else
 if (M.1 (a1 + 1) a2.toNatClampNeg) = 20 then
 (fX3_holds φ a1 a2 a3 M).bind fun v18 =>
 if v18 = 0 then
 ixk a2 60 (
 some (((M.1 (a1 + 5) a2.toNatClampNeg) + (1 : Int32)), M))
 else
 some ((a2 + (1 : Int32)), M)
 else
 if (M.1 (a1 + 1) a2.toNatClampNeg) = 21 then
 ixk a2 60 (
 ixk a2 60 (nm (stI M (t + 1) a2.toNatClampNeg (M.1 (a1 + 4) a2.toNatClampNeg)) (fun M16 =>
 ixk a2 60 (
 if (M16.1 (a1 + 5) a2.toNatClampNeg) = (a2 + (1 : Int32)) then
 some ((a2 + (2 : Int32)), M16)
 else
 some ((a2 + (1 : Int32)), M16)))))
 else
 if (M.1 (a1 + 1) a2.toNatClampNeg) = 22 then
 (fX3_holds φ a1 a2 a3 M).bind fun v14 =>
 if v14 = 0 then
 ixk a2 60 (
 some (((M.1 (a1 + 5) a2.toNatClampNeg) + (1 : Int32)), M))
 else
 some ((a2 + (1 : Int32)), M)
 else
 if (M.1 (a1 + 1) a2.toNatClampNeg) = 23 then
 some ((M.1 a1 2), M)
 else
 (fX3_holds φ a1 a2 a3 M).bind fun v1 =>
 if v1 = 0 then
 ixk a2 60 (
 some (((M.1 (a1 + 5) a2.toNatClampNeg) + (1 : Int32)), M))
 else
 some ((a2 + (1 : Int32)), M))
set_option maxRecDepth 100000 in
set_option maxHeartbeats 4000000 in
theorem kX3_behindStep (φ : Nat) (t : Nat) (a1 : Nat) (a2 : Int32) (a3 : Nat) (M : Mem) (ht : isO 3 t) (ha1 : isO 8 a1) (ha3 : isO 2 a3) (l : Launch) (G : GT) {b : (Int32 × Mem)} (hE : fX3_behindStep φ t a1 a2 a3 M = some b) : Ok l G yX3_behindStep cX3_behindStep 4 (some .int) 4 111 [.ref t, .ref a1, .int a2, .ref a3] M ((fun q : Int32 × Mem => (some (Value.int q.1), q.2)) b).1 ((fun q : Int32 × Mem => (some (Value.int q.1), q.2)) b).2 := by
  refine Ok.ofX (pj := (fun q : Int32 × Mem => (some (Value.int q.1), q.2))) (by decide) (Nat.le_of_ble_eq_true rfl) hE (fun J g hr hG hl hR hn => ?_)
  show X J (fun q : Int32 × Mem => (some (Value.int q.1), q.2)) (fX3_behindStep φ t a1 a2 a3 M) 0 [(0, .ref t), (1, .ref a1), (2, .int a2), (3, .ref a3)] [] M
  unfold fX3_behindStep
  exact (x_aload_n g 1 dX3_behindStep_0 rfl rfl
 (x_getS g 1 fl_RX3_44 rfl ha1 dX3_behindStep_1
 (x_iload_n g 2 dX3_behindStep_4 rfl rfl
 (x_iald g (so_8_3 ha1) dX3_behindStep_5
 (x_if (fun he38 => x_tabIn (off := 58) g (13 : Int32) 64 dX3_behindStep_6 he38 (by decide) rfl rfl
 (x_aload_n g 0 dX3_behindStep_64 rfl rfl
 (x_aload_n g 3 dX3_behindStep_65 rfl rfl
 (x_aload_n g 1 dX3_behindStep_66 rfl rfl
 (x_getS g 2 fl_RX3_58 rfl ha1 dX3_behindStep_67
 (x_iload_n g 2 dX3_behindStep_70 rfl rfl
 (x_iald g (so_8_4 ha1) dX3_behindStep_71
 (x_aload_n g 1 dX3_behindStep_72 rfl rfl
 (x_getS g 3 fl_RX3_61 rfl ha1 dX3_behindStep_73
 (x_iload_n g 2 dX3_behindStep_76 rfl rfl
 (x_iald g (so_8_5 ha1) dX3_behindStep_77
 (x_aload_n g 1 dX3_behindStep_78 rfl rfl
 (x_getS g 4 fl_RX3_64 rfl ha1 dX3_behindStep_79
 (x_iload_n g 2 dX3_behindStep_82 rfl rfl
 (x_iald g (so_8_6 ha1) dX3_behindStep_83
 (x_callVv (As := [.ref a3, .int (M.1 (a1 + 2) a2.toNatClampNeg), .int (M.1 (a1 + 3) a2.toNatClampNeg), .int (M.1 (a1 + 4) a2.toNatClampNeg)]) g mv_X3_layDown mi_X3_layDown lk_RX3_67 ht (fun b Mh_ hb => kX3_layDown t a3 (M.1 (a1 + 2) a2.toNatClampNeg) (M.1 (a1 + 3) a2.toNatClampNeg) (M.1 (a1 + 4) a2.toNatClampNeg) M ht ha3 _ _ hb) rfl rfl hR ⟨Nat.le_of_ble_eq_true rfl, Nat.le_of_ble_eq_true rfl⟩ (Nat.le_of_ble_eq_true rfl) dX3_behindStep_84 (fun vu36 M37 =>
 (x_iload_n g 2 dX3_behindStep_87 rfl rfl
 (x_iconst g dX3_behindStep_88 kI_1
 (x_iadd g dX3_behindStep_89
 (x_iret g hr rfl rfl dX3_behindStep_90))))))))))))))))))))) (fun hq2 => (x_if (fun he35 => x_tabIn (off := 85) g (14 : Int32) 91 dX3_behindStep_6 he35 (by decide) rfl rfl
 (x_aload_n g 0 dX3_behindStep_91 rfl rfl
 (x_dup g dX3_behindStep_92 rfl
 (x_getI g fl_RX3_31 rfl ht dX3_behindStep_93
 (x_aload_n g 3 dX3_behindStep_96 rfl rfl
 (x_aload_n g 1 dX3_behindStep_97 rfl rfl
 (x_getS g 2 fl_RX3_58 rfl ha1 dX3_behindStep_98
 (x_iload_n g 2 dX3_behindStep_101 rfl rfl
 (x_iald g (so_8_4 ha1) dX3_behindStep_102
 (x_aload_n g 1 dX3_behindStep_103 rfl rfl
 (x_getS g 4 fl_RX3_64 rfl ha1 dX3_behindStep_104
 (x_iload_n g 2 dX3_behindStep_107 rfl rfl
 (x_iald g (so_8_6 ha1) dX3_behindStep_108
 (x_callVi (As := [.int (M.1 (a1 + 2) a2.toNatClampNeg), .int (M.1 (a1 + 4) a2.toNatClampNeg)]) g mv_X2_wearOff mi_X2_wearOff lk_RX3_71 ha3 (fun b Mh_ hb => kX2_wearOff φ a3 (M.1 (a1 + 2) a2.toNatClampNeg) (M.1 (a1 + 4) a2.toNatClampNeg) M ha3 _ _ hb) rfl rfl hR ⟨Nat.le_of_ble_eq_true rfl, Nat.le_of_ble_eq_true rfl⟩ (Nat.le_of_ble_eq_true rfl) dX3_behindStep_109 (fun v32 M33 =>
 (x_iadd g dX3_behindStep_112
 (x_putI g fp_RX3_31 rfl (Nat.le_of_ble_eq_true rfl) ht dX3_behindStep_113 (x_nmM (fun M34 =>
 (x_iload_n g 2 dX3_behindStep_116 rfl rfl
 (x_iconst g dX3_behindStep_117 kI_1
 (x_iadd g dX3_behindStep_118
 (x_iret g hr rfl rfl dX3_behindStep_119))))))))))))))))))))))) (fun hq3 => (x_if (fun he31 => x_tabIn (off := 114) g (15 : Int32) 120 dX3_behindStep_6 he31 (by decide) rfl rfl
 (x_aload_n g 0 dX3_behindStep_120 rfl rfl
 (x_aload_n g 3 dX3_behindStep_121 rfl rfl
 (x_aload_n g 1 dX3_behindStep_122 rfl rfl
 (x_getS g 4 fl_RX3_64 rfl ha1 dX3_behindStep_123
 (x_iload_n g 2 dX3_behindStep_126 rfl rfl
 (x_iald g (so_8_6 ha1) dX3_behindStep_127
 (x_callVv (As := [.ref a3, .int (M.1 (a1 + 4) a2.toNatClampNeg)]) g mv_X3_storm mi_X3_storm lk_RX3_77 ht (fun b Mh_ hb => kX3_storm φ t a3 (M.1 (a1 + 4) a2.toNatClampNeg) M ht ha3 _ _ hb) rfl rfl hR ⟨Nat.le_of_ble_eq_true rfl, Nat.le_of_ble_eq_true rfl⟩ (Nat.le_of_ble_eq_true rfl) dX3_behindStep_128 (fun vu29 M30 =>
 (x_iload_n g 2 dX3_behindStep_131 rfl rfl
 (x_iconst g dX3_behindStep_132 kI_1
 (x_iadd g dX3_behindStep_133
 (x_iret g hr rfl rfl dX3_behindStep_134))))))))))))) (fun hq4 => (x_if (fun he28 => x_tabIn (off := 129) g (16 : Int32) 135 dX3_behindStep_6 he28 (by decide) rfl rfl
 (x_aload_n g 0 dX3_behindStep_135 rfl rfl
 (x_aload_n g 3 dX3_behindStep_136 rfl rfl
 (x_aload_n g 1 dX3_behindStep_137 rfl rfl
 (x_getS g 2 fl_RX3_58 rfl ha1 dX3_behindStep_138
 (x_iload_n g 2 dX3_behindStep_141 rfl rfl
 (x_iald g (so_8_4 ha1) dX3_behindStep_142
 (x_aload_n g 1 dX3_behindStep_143 rfl rfl
 (x_getS g 4 fl_RX3_64 rfl ha1 dX3_behindStep_144
 (x_iload_n g 2 dX3_behindStep_147 rfl rfl
 (x_iald g (so_8_6 ha1) dX3_behindStep_148
 (x_callVv (As := [.ref a3, .int (M.1 (a1 + 2) a2.toNatClampNeg), .int (M.1 (a1 + 4) a2.toNatClampNeg)]) g mv_X3_move mi_X3_move lk_RX3_81 ht (fun b Mh_ hb => kX3_move t a3 (M.1 (a1 + 2) a2.toNatClampNeg) (M.1 (a1 + 4) a2.toNatClampNeg) M ht ha3 _ _ hb) rfl rfl hR ⟨Nat.le_of_ble_eq_true rfl, Nat.le_of_ble_eq_true rfl⟩ (Nat.le_of_ble_eq_true rfl) dX3_behindStep_149 (fun vu26 M27 =>
 (x_iload_n g 2 dX3_behindStep_152 rfl rfl
 (x_iconst g dX3_behindStep_153 kI_1
 (x_iadd g dX3_behindStep_154
 (x_iret g hr rfl rfl dX3_behindStep_155))))))))))))))))) (fun hq5 => (x_if (fun he25 => x_tabIn (off := 189) g (17 : Int32) 195 dX3_behindStep_6 he25 (by decide) rfl rfl
 (x_aload_n g 1 dX3_behindStep_195 rfl rfl
 (x_iload_n g 2 dX3_behindStep_196 rfl rfl
 (x_aload_n g 3 dX3_behindStep_197 rfl rfl
 (x_callSip (As := [.ref a1, .int a2, .ref a3]) g mv_X3_holds ms_X3_holds lk_RX3_85 (fun b hb => kX3_holds φ a1 a2 a3 M ha1 ha3 _ _ hb) rfl rfl hR ⟨Nat.le_of_ble_eq_true rfl, Nat.le_of_ble_eq_true rfl⟩ (Nat.le_of_ble_eq_true rfl) dX3_behindStep_198 (fun v24 =>
 (x_if_eq g 210 dX3_behindStep_201 rfl
 (fun _ => (x_aload_n g 1 dX3_behindStep_210 rfl rfl
 (x_getS g 5 fl_RX3_55 rfl ha1 dX3_behindStep_211
 (x_iload_n g 2 dX3_behindStep_214 rfl rfl
 (x_iald g (so_8_7 ha1) dX3_behindStep_215
 (x_iconst g dX3_behindStep_216 kI_1
 (x_iadd g dX3_behindStep_217
 (x_iret g hr rfl rfl dX3_behindStep_218))))))))
 (fun _ => (x_iload_n g 2 dX3_behindStep_204 rfl rfl
 (x_iconst g dX3_behindStep_205 kI_1
 (x_iadd g dX3_behindStep_206
 (x_goto g 218 dX3_behindStep_207 rfl
 (x_iret g hr rfl rfl dX3_behindStep_218))))))))))))) (fun hq6 => (x_if (fun he23 => x_tabIn (off := 189) g (18 : Int32) 195 dX3_behindStep_6 he23 (by decide) rfl rfl
 (x_aload_n g 1 dX3_behindStep_195 rfl rfl
 (x_iload_n g 2 dX3_behindStep_196 rfl rfl
 (x_aload_n g 3 dX3_behindStep_197 rfl rfl
 (x_callSip (As := [.ref a1, .int a2, .ref a3]) g mv_X3_holds ms_X3_holds lk_RX3_85 (fun b hb => kX3_holds φ a1 a2 a3 M ha1 ha3 _ _ hb) rfl rfl hR ⟨Nat.le_of_ble_eq_true rfl, Nat.le_of_ble_eq_true rfl⟩ (Nat.le_of_ble_eq_true rfl) dX3_behindStep_198 (fun v22 =>
 (x_if_eq g 210 dX3_behindStep_201 rfl
 (fun _ => (x_aload_n g 1 dX3_behindStep_210 rfl rfl
 (x_getS g 5 fl_RX3_55 rfl ha1 dX3_behindStep_211
 (x_iload_n g 2 dX3_behindStep_214 rfl rfl
 (x_iald g (so_8_7 ha1) dX3_behindStep_215
 (x_iconst g dX3_behindStep_216 kI_1
 (x_iadd g dX3_behindStep_217
 (x_iret g hr rfl rfl dX3_behindStep_218))))))))
 (fun _ => (x_iload_n g 2 dX3_behindStep_204 rfl rfl
 (x_iconst g dX3_behindStep_205 kI_1
 (x_iadd g dX3_behindStep_206
 (x_goto g 218 dX3_behindStep_207 rfl
 (x_iret g hr rfl rfl dX3_behindStep_218))))))))))))) (fun hq7 => (x_if (fun he21 => x_tabIn (off := 189) g (19 : Int32) 195 dX3_behindStep_6 he21 (by decide) rfl rfl
 (x_aload_n g 1 dX3_behindStep_195 rfl rfl
 (x_iload_n g 2 dX3_behindStep_196 rfl rfl
 (x_aload_n g 3 dX3_behindStep_197 rfl rfl
 (x_callSip (As := [.ref a1, .int a2, .ref a3]) g mv_X3_holds ms_X3_holds lk_RX3_85 (fun b hb => kX3_holds φ a1 a2 a3 M ha1 ha3 _ _ hb) rfl rfl hR ⟨Nat.le_of_ble_eq_true rfl, Nat.le_of_ble_eq_true rfl⟩ (Nat.le_of_ble_eq_true rfl) dX3_behindStep_198 (fun v20 =>
 (x_if_eq g 210 dX3_behindStep_201 rfl
 (fun _ => (x_aload_n g 1 dX3_behindStep_210 rfl rfl
 (x_getS g 5 fl_RX3_55 rfl ha1 dX3_behindStep_211
 (x_iload_n g 2 dX3_behindStep_214 rfl rfl
 (x_iald g (so_8_7 ha1) dX3_behindStep_215
 (x_iconst g dX3_behindStep_216 kI_1
 (x_iadd g dX3_behindStep_217
 (x_iret g hr rfl rfl dX3_behindStep_218))))))))
 (fun _ => (x_iload_n g 2 dX3_behindStep_204 rfl rfl
 (x_iconst g dX3_behindStep_205 kI_1
 (x_iadd g dX3_behindStep_206
 (x_goto g 218 dX3_behindStep_207 rfl
 (x_iret g hr rfl rfl dX3_behindStep_218))))))))))))) (fun hq8 => (x_if (fun he19 => x_tabIn (off := 189) g (20 : Int32) 195 dX3_behindStep_6 he19 (by decide) rfl rfl
 (x_aload_n g 1 dX3_behindStep_195 rfl rfl
 (x_iload_n g 2 dX3_behindStep_196 rfl rfl
 (x_aload_n g 3 dX3_behindStep_197 rfl rfl
 (x_callSip (As := [.ref a1, .int a2, .ref a3]) g mv_X3_holds ms_X3_holds lk_RX3_85 (fun b hb => kX3_holds φ a1 a2 a3 M ha1 ha3 _ _ hb) rfl rfl hR ⟨Nat.le_of_ble_eq_true rfl, Nat.le_of_ble_eq_true rfl⟩ (Nat.le_of_ble_eq_true rfl) dX3_behindStep_198 (fun v18 =>
 (x_if_eq g 210 dX3_behindStep_201 rfl
 (fun _ => (x_aload_n g 1 dX3_behindStep_210 rfl rfl
 (x_getS g 5 fl_RX3_55 rfl ha1 dX3_behindStep_211
 (x_iload_n g 2 dX3_behindStep_214 rfl rfl
 (x_iald g (so_8_7 ha1) dX3_behindStep_215
 (x_iconst g dX3_behindStep_216 kI_1
 (x_iadd g dX3_behindStep_217
 (x_iret g hr rfl rfl dX3_behindStep_218))))))))
 (fun _ => (x_iload_n g 2 dX3_behindStep_204 rfl rfl
 (x_iconst g dX3_behindStep_205 kI_1
 (x_iadd g dX3_behindStep_206
 (x_goto g 218 dX3_behindStep_207 rfl
 (x_iret g hr rfl rfl dX3_behindStep_218))))))))))))) (fun hq9 => (x_if (fun he17 => x_tabIn (off := 150) g (21 : Int32) 156 dX3_behindStep_6 he17 (by decide) rfl rfl
 (x_aload_n g 0 dX3_behindStep_156 rfl rfl
 (x_getS g 1 fl_RX3_11 rfl ht dX3_behindStep_157
 (x_iload_n g 2 dX3_behindStep_160 rfl rfl
 (x_aload_n g 1 dX3_behindStep_161 rfl rfl
 (x_getS g 4 fl_RX3_64 rfl ha1 dX3_behindStep_162
 (x_iload_n g 2 dX3_behindStep_165 rfl rfl
 (x_iald g (so_8_6 ha1) dX3_behindStep_166
 (x_iast g (so_3_0 ht) dX3_behindStep_167 (x_nmM (fun M16 =>
 (x_aload_n g 1 dX3_behindStep_168 rfl rfl
 (x_getS g 5 fl_RX3_55 rfl ha1 dX3_behindStep_169
 (x_iload_n g 2 dX3_behindStep_172 rfl rfl
 (x_iald g (so_8_7 ha1) dX3_behindStep_173
 (x_iload_n g 2 dX3_behindStep_174 rfl rfl
 (x_iconst g dX3_behindStep_175 kI_1
 (x_iadd g dX3_behindStep_176
 (x_icmp_ne g 186 dX3_behindStep_177 rfl
 (fun _ => (x_iload_n g 2 dX3_behindStep_186 rfl rfl
 (x_iconst g dX3_behindStep_187 kI_1
 (x_iadd g dX3_behindStep_188
 (x_iret g hr rfl rfl dX3_behindStep_189)))))
 (fun _ => (x_iload_n g 2 dX3_behindStep_180 rfl rfl
 (x_iconst g dX3_behindStep_181 kI_2
 (x_iadd g dX3_behindStep_182
 (x_goto g 189 dX3_behindStep_183 rfl
 (x_iret g hr rfl rfl dX3_behindStep_189))))))))))))))))))))))))) (fun hq10 => (x_if (fun he15 => x_tabIn (off := 189) g (22 : Int32) 195 dX3_behindStep_6 he15 (by decide) rfl rfl
 (x_aload_n g 1 dX3_behindStep_195 rfl rfl
 (x_iload_n g 2 dX3_behindStep_196 rfl rfl
 (x_aload_n g 3 dX3_behindStep_197 rfl rfl
 (x_callSip (As := [.ref a1, .int a2, .ref a3]) g mv_X3_holds ms_X3_holds lk_RX3_85 (fun b hb => kX3_holds φ a1 a2 a3 M ha1 ha3 _ _ hb) rfl rfl hR ⟨Nat.le_of_ble_eq_true rfl, Nat.le_of_ble_eq_true rfl⟩ (Nat.le_of_ble_eq_true rfl) dX3_behindStep_198 (fun v14 =>
 (x_if_eq g 210 dX3_behindStep_201 rfl
 (fun _ => (x_aload_n g 1 dX3_behindStep_210 rfl rfl
 (x_getS g 5 fl_RX3_55 rfl ha1 dX3_behindStep_211
 (x_iload_n g 2 dX3_behindStep_214 rfl rfl
 (x_iald g (so_8_7 ha1) dX3_behindStep_215
 (x_iconst g dX3_behindStep_216 kI_1
 (x_iadd g dX3_behindStep_217
 (x_iret g hr rfl rfl dX3_behindStep_218))))))))
 (fun _ => (x_iload_n g 2 dX3_behindStep_204 rfl rfl
 (x_iconst g dX3_behindStep_205 kI_1
 (x_iadd g dX3_behindStep_206
 (x_goto g 218 dX3_behindStep_207 rfl
 (x_iret g hr rfl rfl dX3_behindStep_218))))))))))))) (fun hq11 => (x_if (fun he13 => x_tabIn (off := 184) g (23 : Int32) 190 dX3_behindStep_6 he13 (by decide) rfl rfl
 (x_aload_n g 1 dX3_behindStep_190 rfl rfl
 (x_getI g fl_RX3_41 rfl ha1 dX3_behindStep_191
 (x_iret g hr rfl rfl dX3_behindStep_194)))) (fun hq12 => (x_tabOut g 195 dX3_behindStep_6 (by have a0 := tab_ne hq2 (by decide : (13 : Int32).toInt = 13); have a1 := tab_ne hq3 (by decide : (14 : Int32).toInt = 14); have a2 := tab_ne hq4 (by decide : (15 : Int32).toInt = 15); have a3 := tab_ne hq5 (by decide : (16 : Int32).toInt = 16); have a4 := tab_ne hq6 (by decide : (17 : Int32).toInt = 17); have a5 := tab_ne hq7 (by decide : (18 : Int32).toInt = 18); have a6 := tab_ne hq8 (by decide : (19 : Int32).toInt = 19); have a7 := tab_ne hq9 (by decide : (20 : Int32).toInt = 20); have a8 := tab_ne hq10 (by decide : (21 : Int32).toInt = 21); have a9 := tab_ne hq11 (by decide : (22 : Int32).toInt = 22); have a10 := tab_ne hq12 (by decide : (23 : Int32).toInt = 23); omega) rfl
 (x_aload_n g 1 dX3_behindStep_195 rfl rfl
 (x_iload_n g 2 dX3_behindStep_196 rfl rfl
 (x_aload_n g 3 dX3_behindStep_197 rfl rfl
 (x_callSip (As := [.ref a1, .int a2, .ref a3]) g mv_X3_holds ms_X3_holds lk_RX3_85 (fun b hb => kX3_holds φ a1 a2 a3 M ha1 ha3 _ _ hb) rfl rfl hR ⟨Nat.le_of_ble_eq_true rfl, Nat.le_of_ble_eq_true rfl⟩ (Nat.le_of_ble_eq_true rfl) dX3_behindStep_198 (fun v1 =>
 (x_if_eq g 210 dX3_behindStep_201 rfl
 (fun _ => (x_aload_n g 1 dX3_behindStep_210 rfl rfl
 (x_getS g 5 fl_RX3_55 rfl ha1 dX3_behindStep_211
 (x_iload_n g 2 dX3_behindStep_214 rfl rfl
 (x_iald g (so_8_7 ha1) dX3_behindStep_215
 (x_iconst g dX3_behindStep_216 kI_1
 (x_iadd g dX3_behindStep_217
 (x_iret g hr rfl rfl dX3_behindStep_218))))))))
 (fun _ => (x_iload_n g 2 dX3_behindStep_204 rfl rfl
 (x_iconst g dX3_behindStep_205 kI_1
 (x_iadd g dX3_behindStep_206
 (x_goto g 218 dX3_behindStep_207 rfl
 (x_iret g hr rfl rfl dX3_behindStep_218)))))))))))))))))))))))))))))))))))))))
def lX3_run_41 (φ : Nat) (t : Nat) (xr1 : Nat) (xr2 : Nat) : Nat → Int32 → Int32 → Mem → Option (Unit × Mem)
  | 0, _, _, _ => none
  | n + 1, x4, x5, M =>
    if (1000000 : Int32) ≤ x5 then
 some ((), M)
 else
 if (M.1 xr1 2) ≤ x4 then
 some ((), M)
 else
 if (M.1 t 6) = 0 then
 ixk x4 60 (
 jn (fun (v8 : Int32) (M9 : Mem) => lX3_run_41 φ t xr1 xr2 n v8 (x5 + 1) M9) (fun J10 => if (M.1 (xr1 + 1) x4.toNatClampNeg) = (22 : Int32) then
 bd (fX3_behindEnd t xr1 x4 M) fun v15 M16 =>
 J10 v15 M16
 else
 if (M.1 t 2) < (300 : Int32) then
 nm (stI M t 2 ((M.1 t 2) + (1 : Int32))) (fun M11 =>
 bd (fX3_behindStep φ t xr1 x4 xr2 M11) fun v12 M13 =>
 J10 v12 M13)
 else
 nm (stI M t 6 (1 : Int32)) (fun M14 =>
 J10 x4 M14)))
 else
 some ((), M)
theorem lX3_run_41_s (φ : Nat) (t : Nat) (xr1 : Nat) (xr2 : Nat) (n : Nat) (x4 : Int32) (x5 : Int32) (M : Mem) : lX3_run_41 φ t xr1 xr2 (n + 1) x4 x5 M =
    if (1000000 : Int32) ≤ x5 then
 some ((), M)
 else
 if (M.1 xr1 2) ≤ x4 then
 some ((), M)
 else
 if (M.1 t 6) = 0 then
 ixk x4 60 (
 jn (fun (v8 : Int32) (M9 : Mem) => lX3_run_41 φ t xr1 xr2 n v8 (x5 + 1) M9) (fun J10 => if (M.1 (xr1 + 1) x4.toNatClampNeg) = (22 : Int32) then
 bd (fX3_behindEnd t xr1 x4 M) fun v15 M16 =>
 J10 v15 M16
 else
 if (M.1 t 2) < (300 : Int32) then
 nm (stI M t 2 ((M.1 t 2) + (1 : Int32))) (fun M11 =>
 bd (fX3_behindStep φ t xr1 x4 xr2 M11) fun v12 M13 =>
 J10 v12 M13)
 else
 nm (stI M t 6 (1 : Int32)) (fun M14 =>
 J10 x4 M14)))
 else
 some ((), M) := rfl
theorem lX3_run_41_0 (φ : Nat) (t : Nat) (xr1 : Nat) (xr2 : Nat) (x4 : Int32) (x5 : Int32) (M : Mem) : lX3_run_41 φ t xr1 xr2 0 x4 x5 M = none := rfl
set_option maxRecDepth 100000 in
set_option maxHeartbeats 4000000 in
theorem wlX3_run_41 {J : JT} (g : Gd J cX3_run RX3) (hr : Rt J none) (hR : (JR J).frames = 5 ∧ (JR J).locals = 134) (hn : Jn J = 6) (φ : Nat) (t : Nat) (xr1 : Nat) (xr2 : Nat) (ht : isO 3 t) (hxr1 : isO 8 xr1) (hxr2 : isO 2 xr2) : ∀ (n : Nat) (x4 : Int32) (x5 : Int32) (M : Mem), X J (fun q : Unit × Mem => ((none : Option Value), q.2)) (lX3_run_41 φ t xr1 xr2 n x4 x5 M) 41 [(0, .ref t), (1, .ref xr1), (2, .ref xr2), (4, .int x4), (5, .int x5)] [] M := by
  intro n
  induction n with
  | zero =>
    intro x4 x5 M
    exact x_none
  | succ n ih =>
    intro x4 x5 M
    rw [lX3_run_41_s]
    exact (x_iload g 4 dX3_run_41 rfl
 (x_ldc g cw_RX3_40 dX3_run_43
 (x_icmp_ge g 132 dX3_run_45 rfl
 (fun _ => (x_vret g hr rfl dX3_run_132))
 (fun _ => (x_iload g 3 dX3_run_48 rfl
 (x_aload_n g 1 dX3_run_50 rfl rfl
 (x_getI g fl_RX3_41 rfl hxr1 dX3_run_51
 (x_icmp_ge g 132 dX3_run_54 rfl
 (fun _ => (x_vret g hr rfl dX3_run_132))
 (fun _ => (x_aload_n g 0 dX3_run_57 rfl rfl
 (x_getI g fl_RX3_34 rfl ht dX3_run_58
 (x_if_ne g 132 dX3_run_61 rfl
 (fun _ => (x_vret g hr rfl dX3_run_132))
 (fun _ => (x_aload_n g 1 dX3_run_64 rfl rfl
 (x_getS g 1 fl_RX3_44 rfl hxr1 dX3_run_65
 (x_iload g 3 dX3_run_68 rfl
 (x_iald g (so_8_3 hxr1) dX3_run_70
 (x_bipush g dX3_run_71 kB_22
 (x_jn (fun (J10 : Int32 → Mem → Option (Unit × Mem)) => ∀ (v8 : Int32) (M9 : Mem), X J (fun q : Unit × Mem => ((none : Option Value), q.2)) (J10 v8 M9) 126 [(0, .ref t), (1, .ref xr1), (2, .ref xr2), (4, .int v8), (5, .int x5)] [] M9) (fun v8 M9 => (x_iinc (L' := [(5, .int (x5 + 1)), (0, .ref t), (1, .ref xr1), (2, .ref xr2), (4, .int v8)]) (v := (x5 + 1)) g 4 dX3_run_126 rfl (by rw [kI_1]) hn (Nat.le_of_ble_eq_true rfl) rfl
 (x_goto g 41 dX3_run_129 rfl
 (x_sub [1, 2, 3, 4, 0] rfl (ih v8 (x5 + 1) M9))))) (fun J10 hJ10 => (x_icmp_ne g 88 dX3_run_73 rfl
 (fun _ => (x_aload_n g 0 dX3_run_88 rfl rfl
 (x_getI g fl_RX3_21 rfl ht dX3_run_89
 (x_sipush g dX3_run_92 kS_300
 (x_icmp_lt g 106 dX3_run_95 rfl
 (fun _ => (x_aload_n g 0 dX3_run_106 rfl rfl
 (x_dup g dX3_run_107 rfl
 (x_getI g fl_RX3_21 rfl ht dX3_run_108
 (x_iconst g dX3_run_111 kI_1
 (x_iadd g dX3_run_112
 (x_putI g fp_RX3_21 rfl (Nat.le_of_ble_eq_true rfl) ht dX3_run_113 (x_nmM (fun M11 =>
 (x_aload_n g 0 dX3_run_116 rfl rfl
 (x_aload_n g 1 dX3_run_117 rfl rfl
 (x_iload g 3 dX3_run_118 rfl
 (x_aload_n g 2 dX3_run_120 rfl rfl
 (x_callVi (As := [.ref xr1, .int x4, .ref xr2]) g mv_X3_behindStep mi_X3_behindStep lk_RX3_51 ht (fun b Mh_ hb => kX3_behindStep φ t xr1 x4 xr2 M11 ht hxr1 hxr2 _ _ hb) rfl rfl hR ⟨Nat.le_of_ble_eq_true rfl, Nat.le_of_ble_eq_true rfl⟩ (Nat.le_of_ble_eq_true rfl) dX3_run_121 (fun v12 M13 =>
 (x_istore (L' := [(4, .int v12), (0, .ref t), (1, .ref xr1), (2, .ref xr2), (5, .int x5)]) g dX3_run_124 hn (Nat.le_of_ble_eq_true rfl) rfl
 (x_sub [1, 2, 3, 0, 4] rfl (hJ10 v12 M13))))))))))))))))))
 (fun _ => (x_aload_n g 0 dX3_run_98 rfl rfl
 (x_iconst g dX3_run_99 kI_1
 (x_putZ g fp_RX3_34 rfl (Nat.le_of_ble_eq_true rfl) ht (Or.inr rfl) dX3_run_100 (x_nmM (fun M14 =>
 (x_goto g 126 dX3_run_103 rfl
 (hJ10 x4 M14)))))))))))))
 (fun _ => (x_aload_n g 0 dX3_run_76 rfl rfl
 (x_aload_n g 1 dX3_run_77 rfl rfl
 (x_iload g 3 dX3_run_78 rfl
 (x_callVi (As := [.ref xr1, .int x4]) g mv_X3_behindEnd mi_X3_behindEnd lk_RX3_47 ht (fun b Mh_ hb => kX3_behindEnd t xr1 x4 M ht hxr1 _ _ hb) rfl rfl hR ⟨Nat.le_of_ble_eq_true rfl, Nat.le_of_ble_eq_true rfl⟩ (Nat.le_of_ble_eq_true rfl) dX3_run_80 (fun v15 M16 =>
 (x_istore (L' := [(4, .int v15), (0, .ref t), (1, .ref xr1), (2, .ref xr2), (5, .int x5)]) g dX3_run_83 hn (Nat.le_of_ble_eq_true rfl) rfl
 (x_goto g 126 dX3_run_85 rfl
 (x_sub [1, 2, 3, 0, 4] rfl (hJ10 v15 M16)))))))))))))))))))))))))))))))
def fX3_run (φ : Nat) (t : Nat) (a1 : Nat) (a2 : Nat) (a3 : Int32) (M : Mem) : Option (Unit × Mem) :=
  nm (stI M t 1 (1 : Int32)) (fun M1 =>
 nm (stI M1 t 2 (0 : Int32)) (fun M2 =>
 nm (stI M2 t 3 (0 : Int32)) (fun M3 =>
 nm (stI M3 t 4 (0 : Int32)) (fun M4 =>
 nm (stI M4 t 5 (0 : Int32)) (fun M5 =>
 nm (stI M5 t 6 (0 : Int32)) (fun M6 =>
 nm (stI M6 t 7 a3) (fun M7 =>
 lX3_run_41 φ t a1 a2 φ (0 : Int32) (0 : Int32) M7)))))))
set_option maxRecDepth 100000 in
set_option maxHeartbeats 4000000 in
theorem kX3_run (φ : Nat) (t : Nat) (a1 : Nat) (a2 : Nat) (a3 : Int32) (M : Mem) (ht : isO 3 t) (ha1 : isO 8 a1) (ha2 : isO 2 a2) (l : Launch) (G : GT) {b : (Unit × Mem)} (hE : fX3_run φ t a1 a2 a3 M = some b) : Ok l G yX3_run cX3_run 6 none 5 134 [.ref t, .ref a1, .ref a2, .int a3] M ((fun q : Unit × Mem => ((none : Option Value), q.2)) b).1 ((fun q : Unit × Mem => ((none : Option Value), q.2)) b).2 := by
  refine Ok.ofX (pj := (fun q : Unit × Mem => ((none : Option Value), q.2))) (by decide) (Nat.le_of_ble_eq_true rfl) hE (fun J g hr hG hl hR hn => ?_)
  show X J (fun q : Unit × Mem => ((none : Option Value), q.2)) (fX3_run φ t a1 a2 a3 M) 0 [(0, .ref t), (1, .ref a1), (2, .ref a2), (3, .int a3)] [] M
  unfold fX3_run
  exact (x_aload_n g 0 dX3_run_0 rfl rfl
 (x_iconst g dX3_run_1 kI_1
 (x_putZ g fp_RX3_17 rfl (Nat.le_of_ble_eq_true rfl) ht (Or.inr rfl) dX3_run_2 (x_nmM (fun M1 =>
 (x_aload_n g 0 dX3_run_5 rfl rfl
 (x_iconst g dX3_run_6 kI_0
 (x_putI g fp_RX3_21 rfl (Nat.le_of_ble_eq_true rfl) ht dX3_run_7 (x_nmM (fun M2 =>
 (x_aload_n g 0 dX3_run_10 rfl rfl
 (x_iconst g dX3_run_11 kI_0
 (x_putI g fp_RX3_25 rfl (Nat.le_of_ble_eq_true rfl) ht dX3_run_12 (x_nmM (fun M3 =>
 (x_aload_n g 0 dX3_run_15 rfl rfl
 (x_iconst g dX3_run_16 kI_0
 (x_putI g fp_RX3_28 rfl (Nat.le_of_ble_eq_true rfl) ht dX3_run_17 (x_nmM (fun M4 =>
 (x_aload_n g 0 dX3_run_20 rfl rfl
 (x_iconst g dX3_run_21 kI_0
 (x_putI g fp_RX3_31 rfl (Nat.le_of_ble_eq_true rfl) ht dX3_run_22 (x_nmM (fun M5 =>
 (x_aload_n g 0 dX3_run_25 rfl rfl
 (x_iconst g dX3_run_26 kI_0
 (x_putZ g fp_RX3_34 rfl (Nat.le_of_ble_eq_true rfl) ht (Or.inl rfl) dX3_run_27 (x_nmM (fun M6 =>
 (x_aload_n g 0 dX3_run_30 rfl rfl
 (x_iload_n g 3 dX3_run_31 rfl rfl
 (x_putI g fp_RX3_37 rfl (Nat.le_of_ble_eq_true rfl) ht dX3_run_32 (x_nmM (fun M7 =>
 (x_iconst g dX3_run_35 kI_0
 (x_istore (L' := [(4, .int (0 : Int32)), (0, .ref t), (1, .ref a1), (2, .ref a2), (3, .int a3)]) g dX3_run_36 hn (Nat.le_of_ble_eq_true rfl) rfl
 (x_iconst g dX3_run_38 kI_0
 (x_istore (L' := [(5, .int (0 : Int32)), (4, .int (0 : Int32)), (0, .ref t), (1, .ref a1), (2, .ref a2), (3, .int a3)]) g dX3_run_39 hn (Nat.le_of_ble_eq_true rfl) rfl
 (x_sub [2, 3, 4, 1, 0] rfl (wlX3_run_41 g hr hR hn  φ t a1 a2 ht ha1 ha2 φ (0 : Int32) (0 : Int32) M7)))))))))))))))))))))))))))))))))))))))))
def fX10_live (φ : Nat) (t : Nat) (a1 : Int32) (M : Mem) : Option (Int32 × Mem) :=
  (fX10_isWithin a1 (0 : Int32) (9999 : Int32) M).bind fun v1 =>
 if v1 = 0 then
 bd (fX10_refuse t (1 : Int32) M) fun v13 M14 =>
 some (v13, M14)
 else
 (ldr 8 (M.2.2 t 9)).bind fun vr2 =>
 if (M.1 vr2 0) = 0 then
 bd (fX10_refuse t (6 : Int32) M) fun v11 M12 =>
 some (v11, M12)
 else
 (ldr 8 (M.2.2 t 9)).bind fun vr3 =>
 (ldr 2 (M.2.2 t 7)).bind fun vr4 =>
 bd (fX3_run φ (t + 74) vr3 vr4 a1 M) fun vu5 M6 =>
 bd (fX0_turnStale (t + 57) M6) fun vu7 M8 =>
 bd (fX10_answer t (M8.1 (t + 74) 2) M8) fun v9 M10 =>
 some (v9, M10)
set_option maxRecDepth 100000 in
set_option maxHeartbeats 4000000 in
theorem kX10_live (φ : Nat) (t : Nat) (a1 : Int32) (M : Mem) (ht : isO 10 t) (l : Launch) (G : GT) {b : (Int32 × Mem)} (hE : fX10_live φ t a1 M = some b) : Ok l G yX10_live cX10_live 2 (some .int) 6 159 [.ref t, .int a1] M ((fun q : Int32 × Mem => (some (Value.int q.1), q.2)) b).1 ((fun q : Int32 × Mem => (some (Value.int q.1), q.2)) b).2 := by
  refine Ok.ofX (pj := (fun q : Int32 × Mem => (some (Value.int q.1), q.2))) (by decide) (Nat.le_of_ble_eq_true rfl) hE (fun J g hr hG hl hR hn => ?_)
  show X J (fun q : Int32 × Mem => (some (Value.int q.1), q.2)) (fX10_live φ t a1 M) 0 [(0, .ref t), (1, .int a1)] [] M
  unfold fX10_live
  exact (x_iload_n g 1 dX10_live_0 rfl rfl
 (x_iconst g dX10_live_1 kI_0
 (x_sipush g dX10_live_2 kS_9999
 (x_callSip (As := [.int a1, .int (0 : Int32), .int (9999 : Int32)]) g mv_X10_isWithin ms_X10_isWithin lk_RX10_114 (fun b hb => kX10_isWithin a1 (0 : Int32) (9999 : Int32) M _ _ hb) rfl rfl hR ⟨Nat.le_of_ble_eq_true rfl, Nat.le_of_ble_eq_true rfl⟩ (Nat.le_of_ble_eq_true rfl) dX10_live_5 (fun v1 =>
 (x_if_ne g 17 dX10_live_8 rfl
 (fun _ => (x_aload_n g 0 dX10_live_17 rfl rfl
 (x_getD g fl_RX10_60 rfl ht dX10_live_18 (fun vr2 hvr2 =>
 (x_getI g fl_RX10_436 rfl hvr2 dX10_live_21
 (x_if_ne g 34 dX10_live_24 rfl
 (fun _ => (x_aload_n g 0 dX10_live_34 rfl rfl
 (x_getS g 74 fl_RX10_102 rfl ht dX10_live_35
 (x_aload_n g 0 dX10_live_38 rfl rfl
 (x_getD g fl_RX10_60 rfl ht dX10_live_39 (fun vr3 hvr3 =>
 (x_aload_n g 0 dX10_live_42 rfl rfl
 (x_getD g fl_RX10_50 rfl ht dX10_live_43 (fun vr4 hvr4 =>
 (x_iload_n g 1 dX10_live_46 rfl rfl
 (x_callVv (As := [.ref vr3, .ref vr4, .int a1]) g mv_X3_run mi_X3_run lk_RX10_439 (so_10_17 ht) (fun b Mh_ hb => kX3_run φ (t + 74) vr3 vr4 a1 M (so_10_17 ht) hvr3 hvr4 _ _ hb) rfl rfl hR ⟨Nat.le_of_ble_eq_true rfl, Nat.le_of_ble_eq_true rfl⟩ (Nat.le_of_ble_eq_true rfl) dX10_live_47 (fun vu5 M6 =>
 (x_aload_n g 0 dX10_live_50 rfl rfl
 (x_getS g 57 fl_RX10_88 rfl ht dX10_live_51
 (x_callVv (As := []) g mv_X0_turnStale mi_X0_turnStale lk_RX10_181 (so_10_15 ht) (fun b Mh_ hb => kX0_turnStale (t + 57) M6 (so_10_15 ht) _ _ hb) rfl rfl hR ⟨Nat.le_of_ble_eq_true rfl, Nat.le_of_ble_eq_true rfl⟩ (Nat.le_of_ble_eq_true rfl) dX10_live_54 (fun vu7 M8 =>
 (x_aload_n g 0 dX10_live_57 rfl rfl
 (x_aload_n g 0 dX10_live_58 rfl rfl
 (x_getS g 74 fl_RX10_102 rfl ht dX10_live_59
 (x_getI g fl_RX10_443 rfl (so_10_17 ht) dX10_live_62
 (x_callVi (As := [.int (M8.1 (t + 74) 2)]) g mv_X10_answer mi_X10_answer lk_RX10_187 ht (fun b Mh_ hb => kX10_answer t (M8.1 (t + 74) 2) M8 ht _ _ hb) rfl rfl hR ⟨Nat.le_of_ble_eq_true rfl, Nat.le_of_ble_eq_true rfl⟩ (Nat.le_of_ble_eq_true rfl) dX10_live_65 (fun v9 M10 =>
 (x_iret g hr rfl rfl dX10_live_68)))))))))))))))))))))))
 (fun _ => (x_aload_n g 0 dX10_live_27 rfl rfl
 (x_bipush g dX10_live_28 kB_6
 (x_callVi (As := [.int (6 : Int32)]) g mv_X10_refuse mi_X10_refuse lk_RX10_137 ht (fun b Mh_ hb => kX10_refuse t (6 : Int32) M ht _ _ hb) rfl rfl hR ⟨Nat.le_of_ble_eq_true rfl, Nat.le_of_ble_eq_true rfl⟩ (Nat.le_of_ble_eq_true rfl) dX10_live_30 (fun v11 M12 =>
 (x_iret g hr rfl rfl dX10_live_33))))))))))))
 (fun _ => (x_aload_n g 0 dX10_live_11 rfl rfl
 (x_iconst g dX10_live_12 kI_1
 (x_callVi (As := [.int (1 : Int32)]) g mv_X10_refuse mi_X10_refuse lk_RX10_137 ht (fun b Mh_ hb => kX10_refuse t (1 : Int32) M ht _ _ hb) rfl rfl hR ⟨Nat.le_of_ble_eq_true rfl, Nat.le_of_ble_eq_true rfl⟩ (Nat.le_of_ble_eq_true rfl) dX10_live_13 (fun v13 M14 =>
 (x_iret g hr rfl rfl dX10_live_16))))))))))))
def fX10_lived (t : Nat) (a1 : Int32) (M : Mem) : Option (Int32 × Mem) :=
  (fX10_isWithin a1 (0 : Int32) (3 : Int32) M).bind fun v1 =>
 if v1 = 0 then
 bd (fX10_refuse t (1 : Int32) M) fun v18 M19 =>
 some (v18, M19)
 else
 if (M.1 (t + 74) 1) = 0 then
 bd (fX10_refuse t (6 : Int32) M) fun v16 M17 =>
 some (v16, M17)
 else
 if a1 = 0 then
 bd (fX10_answer t (M.1 (t + 74) 3) M) fun v13 M14 =>
 some (v13, M14)
 else
 if a1 = 1 then
 bd (fX10_answer t (M.1 (t + 74) 4) M) fun v10 M11 =>
 some (v10, M11)
 else
 if a1 = 2 then
 bd (fX10_answer t (M.1 (t + 74) 5) M) fun v7 M8 =>
 some (v7, M8)
 else
 bd (fX10_answerYes t (M.1 (t + 74) 6) M) fun v2 M3 =>
 some (v2, M3)
set_option maxRecDepth 100000 in
set_option maxHeartbeats 4000000 in
theorem kX10_lived (t : Nat) (a1 : Int32) (M : Mem) (ht : isO 10 t) (l : Launch) (G : GT) {b : (Int32 × Mem)} (hE : fX10_lived t a1 M = some b) : Ok l G yX10_lived cX10_lived 2 (some .int) 2 42 [.ref t, .int a1] M ((fun q : Int32 × Mem => (some (Value.int q.1), q.2)) b).1 ((fun q : Int32 × Mem => (some (Value.int q.1), q.2)) b).2 := by
  refine Ok.ofX (pj := (fun q : Int32 × Mem => (some (Value.int q.1), q.2))) (by decide) (Nat.le_of_ble_eq_true rfl) hE (fun J g hr hG hl hR hn => ?_)
  show X J (fun q : Int32 × Mem => (some (Value.int q.1), q.2)) (fX10_lived t a1 M) 0 [(0, .ref t), (1, .int a1)] [] M
  unfold fX10_lived
  exact (x_iload_n g 1 dX10_lived_0 rfl rfl
 (x_iconst g dX10_lived_1 kI_0
 (x_iconst g dX10_lived_2 kI_3
 (x_callSip (As := [.int a1, .int (0 : Int32), .int (3 : Int32)]) g mv_X10_isWithin ms_X10_isWithin lk_RX10_114 (fun b hb => kX10_isWithin a1 (0 : Int32) (3 : Int32) M _ _ hb) rfl rfl hR ⟨Nat.le_of_ble_eq_true rfl, Nat.le_of_ble_eq_true rfl⟩ (Nat.le_of_ble_eq_true rfl) dX10_lived_3 (fun v1 =>
 (x_if_ne g 15 dX10_lived_6 rfl
 (fun _ => (x_aload_n g 0 dX10_lived_15 rfl rfl
 (x_getS g 74 fl_RX10_102 rfl ht dX10_lived_16
 (x_getI g fl_RX10_444 rfl (so_10_17 ht) dX10_lived_19
 (x_if_ne g 32 dX10_lived_22 rfl
 (fun _ => (x_iload_n g 1 dX10_lived_32 rfl rfl
 (x_if (fun he15 => x_tabIn (off := 27) g (0 : Int32) 60 dX10_lived_33 he15 (by decide) rfl rfl
 (x_aload_n g 0 dX10_lived_60 rfl rfl
 (x_aload_n g 0 dX10_lived_61 rfl rfl
 (x_getS g 74 fl_RX10_102 rfl ht dX10_lived_62
 (x_getI g fl_RX10_447 rfl (so_10_17 ht) dX10_lived_65
 (x_callVi (As := [.int (M.1 (t + 74) 3)]) g mv_X10_answer mi_X10_answer lk_RX10_187 ht (fun b Mh_ hb => kX10_answer t (M.1 (t + 74) 3) M ht _ _ hb) rfl rfl hR ⟨Nat.le_of_ble_eq_true rfl, Nat.le_of_ble_eq_true rfl⟩ (Nat.le_of_ble_eq_true rfl) dX10_lived_68 (fun v13 M14 =>
 (x_iret g hr rfl rfl dX10_lived_71)))))))) (fun hq4 => (x_if (fun he12 => x_tabIn (off := 39) g (1 : Int32) 72 dX10_lived_33 he12 (by decide) rfl rfl
 (x_aload_n g 0 dX10_lived_72 rfl rfl
 (x_aload_n g 0 dX10_lived_73 rfl rfl
 (x_getS g 74 fl_RX10_102 rfl ht dX10_lived_74
 (x_getI g fl_RX10_450 rfl (so_10_17 ht) dX10_lived_77
 (x_callVi (As := [.int (M.1 (t + 74) 4)]) g mv_X10_answer mi_X10_answer lk_RX10_187 ht (fun b Mh_ hb => kX10_answer t (M.1 (t + 74) 4) M ht _ _ hb) rfl rfl hR ⟨Nat.le_of_ble_eq_true rfl, Nat.le_of_ble_eq_true rfl⟩ (Nat.le_of_ble_eq_true rfl) dX10_lived_80 (fun v10 M11 =>
 (x_iret g hr rfl rfl dX10_lived_83)))))))) (fun hq5 => (x_if (fun he9 => x_tabIn (off := 51) g (2 : Int32) 84 dX10_lived_33 he9 (by decide) rfl rfl
 (x_aload_n g 0 dX10_lived_84 rfl rfl
 (x_aload_n g 0 dX10_lived_85 rfl rfl
 (x_getS g 74 fl_RX10_102 rfl ht dX10_lived_86
 (x_getI g fl_RX10_453 rfl (so_10_17 ht) dX10_lived_89
 (x_callVi (As := [.int (M.1 (t + 74) 5)]) g mv_X10_answer mi_X10_answer lk_RX10_187 ht (fun b Mh_ hb => kX10_answer t (M.1 (t + 74) 5) M ht _ _ hb) rfl rfl hR ⟨Nat.le_of_ble_eq_true rfl, Nat.le_of_ble_eq_true rfl⟩ (Nat.le_of_ble_eq_true rfl) dX10_lived_92 (fun v7 M8 =>
 (x_iret g hr rfl rfl dX10_lived_95)))))))) (fun hq6 => (x_tabOut g 96 dX10_lived_33 (by have a0 := tab_ne hq4 (by decide : (0 : Int32).toInt = 0); have a1 := tab_ne hq5 (by decide : (1 : Int32).toInt = 1); have a2 := tab_ne hq6 (by decide : (2 : Int32).toInt = 2); omega) rfl
 (x_aload_n g 0 dX10_lived_96 rfl rfl
 (x_aload_n g 0 dX10_lived_97 rfl rfl
 (x_getS g 74 fl_RX10_102 rfl ht dX10_lived_98
 (x_getI g fl_RX10_456 rfl (so_10_17 ht) dX10_lived_101
 (x_callVi (As := [.int (M.1 (t + 74) 6)]) g mv_X10_answerYes mi_X10_answerYes lk_RX10_270 ht (fun b Mh_ hb => kX10_answerYes t (M.1 (t + 74) 6) M ht _ _ hb) rfl rfl hR ⟨Nat.le_of_ble_eq_true rfl, Nat.le_of_ble_eq_true rfl⟩ (Nat.le_of_ble_eq_true rfl) dX10_lived_104 (fun v2 M3 =>
 (x_iret g hr rfl rfl dX10_lived_107))))))))))))))))
 (fun _ => (x_aload_n g 0 dX10_lived_25 rfl rfl
 (x_bipush g dX10_lived_26 kB_6
 (x_callVi (As := [.int (6 : Int32)]) g mv_X10_refuse mi_X10_refuse lk_RX10_137 ht (fun b Mh_ hb => kX10_refuse t (6 : Int32) M ht _ _ hb) rfl rfl hR ⟨Nat.le_of_ble_eq_true rfl, Nat.le_of_ble_eq_true rfl⟩ (Nat.le_of_ble_eq_true rfl) dX10_lived_28 (fun v16 M17 =>
 (x_iret g hr rfl rfl dX10_lived_31)))))))))))
 (fun _ => (x_aload_n g 0 dX10_lived_9 rfl rfl
 (x_iconst g dX10_lived_10 kI_1
 (x_callVi (As := [.int (1 : Int32)]) g mv_X10_refuse mi_X10_refuse lk_RX10_137 ht (fun b Mh_ hb => kX10_refuse t (1 : Int32) M ht _ _ hb) rfl rfl hR ⟨Nat.le_of_ble_eq_true rfl, Nat.le_of_ble_eq_true rfl⟩ (Nat.le_of_ble_eq_true rfl) dX10_lived_11 (fun v18 M19 =>
 (x_iret g hr rfl rfl dX10_lived_14))))))))))))
def fX2_takeOver (t : Nat) (a1 : Nat) (M : Mem) : Option (Unit × Mem) :=
  nm (stI M t 0 (M.1 a1 0)) (fun M1 =>
 nm (stI M1 t 4 (M1.1 a1 4)) (fun M2 =>
 nm (stI M2 t 11 (M2.1 a1 11)) (fun M3 =>
 nm (stI M3 t 13 (M3.1 a1 13)) (fun M4 =>
 cpk (0 : Int32) (0 : Int32) (8 : Int32) 8 8 (nm (cpL M4 (a1 + 1) (t + 1) (0 : Int32).toNatClampNeg (0 : Int32).toNatClampNeg (8 : Int32).toNatClampNeg) (fun M5 =>
 cpk (0 : Int32) (0 : Int32) (8 : Int32) 8 8 (nm (cpI M5 (a1 + 2) (t + 2) (0 : Int32).toNatClampNeg (0 : Int32).toNatClampNeg (8 : Int32).toNatClampNeg) (fun M6 =>
 cpk (0 : Int32) (0 : Int32) (64 : Int32) 64 64 (nm (cpI M6 (a1 + 3) (t + 3) (0 : Int32).toNatClampNeg (0 : Int32).toNatClampNeg (64 : Int32).toNatClampNeg) (fun M7 =>
 cpk (0 : Int32) (0 : Int32) (6 : Int32) 6 6 (nm (cpL M7 (a1 + 4) (t + 4) (0 : Int32).toNatClampNeg (0 : Int32).toNatClampNeg (6 : Int32).toNatClampNeg) (fun M8 =>
 cpk (0 : Int32) (0 : Int32) (6 : Int32) 6 6 (nm (cpI M8 (a1 + 5) (t + 5) (0 : Int32).toNatClampNeg (0 : Int32).toNatClampNeg (6 : Int32).toNatClampNeg) (fun M9 =>
 cpk (0 : Int32) (0 : Int32) (6 : Int32) 6 6 (nm (cpI M9 (a1 + 6) (t + 6) (0 : Int32).toNatClampNeg (0 : Int32).toNatClampNeg (6 : Int32).toNatClampNeg) (fun M10 =>
 cpk (0 : Int32) (0 : Int32) (6 : Int32) 6 6 (nm (cpI M10 (a1 + 7) (t + 7) (0 : Int32).toNatClampNeg (0 : Int32).toNatClampNeg (6 : Int32).toNatClampNeg) (fun M11 =>
 cpk (0 : Int32) (0 : Int32) (72 : Int32) 72 72 (nm (cpI M11 (a1 + 8) (t + 8) (0 : Int32).toNatClampNeg (0 : Int32).toNatClampNeg (72 : Int32).toNatClampNeg) (fun M12 =>
 cpk (0 : Int32) (0 : Int32) (72 : Int32) 72 72 (nm (cpI M12 (a1 + 9) (t + 9) (0 : Int32).toNatClampNeg (0 : Int32).toNatClampNeg (72 : Int32).toNatClampNeg) (fun M13 =>
 cpk (0 : Int32) (0 : Int32) (24 : Int32) 24 24 (nm (cpI M13 (a1 + 10) (t + 10) (0 : Int32).toNatClampNeg (0 : Int32).toNatClampNeg (24 : Int32).toNatClampNeg) (fun M14 =>
 cpk (0 : Int32) (0 : Int32) (2 : Int32) 2 2 (nm (cpL M14 (a1 + 11) (t + 11) (0 : Int32).toNatClampNeg (0 : Int32).toNatClampNeg (2 : Int32).toNatClampNeg) (fun M15 =>
 cpk (0 : Int32) (0 : Int32) (8 : Int32) 8 8 (nm (cpI M15 (a1 + 12) (t + 12) (0 : Int32).toNatClampNeg (0 : Int32).toNatClampNeg (8 : Int32).toNatClampNeg) (fun M16 =>
 cpk (0 : Int32) (0 : Int32) (2 : Int32) 2 2 (nm (cpI M16 (a1 + 13) (t + 13) (0 : Int32).toNatClampNeg (0 : Int32).toNatClampNeg (2 : Int32).toNatClampNeg) (fun M17 =>
 some ((), M17)))))))))))))))))))))))))))))))
set_option maxRecDepth 100000 in
set_option maxHeartbeats 4000000 in
theorem kX2_takeOver (t : Nat) (a1 : Nat) (M : Mem) (ht : isO 2 t) (ha1 : isO 2 a1) (l : Launch) (G : GT) {b : (Unit × Mem)} (hE : fX2_takeOver t a1 M = some b) : Ok l G yX2_takeOver cX2_takeOver 2 none 1 60 [.ref t, .ref a1] M ((fun q : Unit × Mem => ((none : Option Value), q.2)) b).1 ((fun q : Unit × Mem => ((none : Option Value), q.2)) b).2 := by
  refine Ok.ofX (pj := (fun q : Unit × Mem => ((none : Option Value), q.2))) (by decide) (Nat.le_of_ble_eq_true rfl) hE (fun J g hr hG hl hR hn => ?_)
  show X J (fun q : Unit × Mem => ((none : Option Value), q.2)) (fX2_takeOver t a1 M) 0 [(0, .ref t), (1, .ref a1)] [] M
  unfold fX2_takeOver
  exact (x_aload_n g 0 dX2_takeOver_0 rfl rfl
 (x_aload_n g 1 dX2_takeOver_1 rfl rfl
 (x_getI g fl_RX2_9 rfl ha1 dX2_takeOver_2
 (x_putI g fp_RX2_9 rfl (Nat.le_of_ble_eq_true rfl) ht dX2_takeOver_5 (x_nmM (fun M1 =>
 (x_aload_n g 0 dX2_takeOver_8 rfl rfl
 (x_aload_n g 1 dX2_takeOver_9 rfl rfl
 (x_getI g fl_RX2_26 rfl ha1 dX2_takeOver_10
 (x_putI g fp_RX2_26 rfl (Nat.le_of_ble_eq_true rfl) ht dX2_takeOver_13 (x_nmM (fun M2 =>
 (x_aload_n g 0 dX2_takeOver_16 rfl rfl
 (x_aload_n g 1 dX2_takeOver_17 rfl rfl
 (x_getI g fl_RX2_47 rfl ha1 dX2_takeOver_18
 (x_putI g fp_RX2_47 rfl (Nat.le_of_ble_eq_true rfl) ht dX2_takeOver_21 (x_nmM (fun M3 =>
 (x_aload_n g 0 dX2_takeOver_24 rfl rfl
 (x_aload_n g 1 dX2_takeOver_25 rfl rfl
 (x_getI g fl_RX2_53 rfl ha1 dX2_takeOver_26
 (x_putI g fp_RX2_53 rfl (Nat.le_of_ble_eq_true rfl) ht dX2_takeOver_29 (x_nmM (fun M4 =>
 (x_aload_n g 1 dX2_takeOver_32 rfl rfl
 (x_getS g 1 fl_RX2_15 rfl ha1 dX2_takeOver_33
 (x_iconst g dX2_takeOver_36 kI_0
 (x_aload_n g 0 dX2_takeOver_37 rfl rfl
 (x_getS g 1 fl_RX2_15 rfl ht dX2_takeOver_38
 (x_iconst g dX2_takeOver_41 kI_0
 (x_bipush g dX2_takeOver_42 kB_8
 (x_cpyL g hR lk_RX2_65 ok_acn ok_acs ok_sys (so_2_1 ha1) (so_2_1 ht) (Nat.le_of_ble_eq_true rfl) (Nat.le_of_ble_eq_true rfl) dX2_takeOver_44 (x_nmM (fun M5 =>
 (x_aload_n g 1 dX2_takeOver_47 rfl rfl
 (x_getS g 2 fl_RX2_19 rfl ha1 dX2_takeOver_48
 (x_iconst g dX2_takeOver_51 kI_0
 (x_aload_n g 0 dX2_takeOver_52 rfl rfl
 (x_getS g 2 fl_RX2_19 rfl ht dX2_takeOver_53
 (x_iconst g dX2_takeOver_56 kI_0
 (x_bipush g dX2_takeOver_57 kB_8
 (x_cpyI g hR lk_RX2_65 ok_acn ok_acs ok_sys (so_2_2 ha1) (so_2_2 ht) (Nat.le_of_ble_eq_true rfl) (Nat.le_of_ble_eq_true rfl) dX2_takeOver_59 (x_nmM (fun M6 =>
 (x_aload_n g 1 dX2_takeOver_62 rfl rfl
 (x_getS g 3 fl_RX2_23 rfl ha1 dX2_takeOver_63
 (x_iconst g dX2_takeOver_66 kI_0
 (x_aload_n g 0 dX2_takeOver_67 rfl rfl
 (x_getS g 3 fl_RX2_23 rfl ht dX2_takeOver_68
 (x_iconst g dX2_takeOver_71 kI_0
 (x_bipush g dX2_takeOver_72 kB_64
 (x_cpyI g hR lk_RX2_65 ok_acn ok_acs ok_sys (so_2_3 ha1) (so_2_3 ht) (Nat.le_of_ble_eq_true rfl) (Nat.le_of_ble_eq_true rfl) dX2_takeOver_74 (x_nmM (fun M7 =>
 (x_aload_n g 1 dX2_takeOver_77 rfl rfl
 (x_getS g 4 fl_RX2_29 rfl ha1 dX2_takeOver_78
 (x_iconst g dX2_takeOver_81 kI_0
 (x_aload_n g 0 dX2_takeOver_82 rfl rfl
 (x_getS g 4 fl_RX2_29 rfl ht dX2_takeOver_83
 (x_iconst g dX2_takeOver_86 kI_0
 (x_bipush g dX2_takeOver_87 kB_6
 (x_cpyL g hR lk_RX2_65 ok_acn ok_acs ok_sys (so_2_5 ha1) (so_2_5 ht) (Nat.le_of_ble_eq_true rfl) (Nat.le_of_ble_eq_true rfl) dX2_takeOver_89 (x_nmM (fun M8 =>
 (x_aload_n g 1 dX2_takeOver_92 rfl rfl
 (x_getS g 5 fl_RX2_32 rfl ha1 dX2_takeOver_93
 (x_iconst g dX2_takeOver_96 kI_0
 (x_aload_n g 0 dX2_takeOver_97 rfl rfl
 (x_getS g 5 fl_RX2_32 rfl ht dX2_takeOver_98
 (x_iconst g dX2_takeOver_101 kI_0
 (x_bipush g dX2_takeOver_102 kB_6
 (x_cpyI g hR lk_RX2_65 ok_acn ok_acs ok_sys (so_2_6 ha1) (so_2_6 ht) (Nat.le_of_ble_eq_true rfl) (Nat.le_of_ble_eq_true rfl) dX2_takeOver_104 (x_nmM (fun M9 =>
 (x_aload_n g 1 dX2_takeOver_107 rfl rfl
 (x_getS g 6 fl_RX2_35 rfl ha1 dX2_takeOver_108
 (x_iconst g dX2_takeOver_111 kI_0
 (x_aload_n g 0 dX2_takeOver_112 rfl rfl
 (x_getS g 6 fl_RX2_35 rfl ht dX2_takeOver_113
 (x_iconst g dX2_takeOver_116 kI_0
 (x_bipush g dX2_takeOver_117 kB_6
 (x_cpyI g hR lk_RX2_65 ok_acn ok_acs ok_sys (so_2_7 ha1) (so_2_7 ht) (Nat.le_of_ble_eq_true rfl) (Nat.le_of_ble_eq_true rfl) dX2_takeOver_119 (x_nmM (fun M10 =>
 (x_aload_n g 1 dX2_takeOver_122 rfl rfl
 (x_getS g 7 fl_RX2_38 rfl ha1 dX2_takeOver_123
 (x_iconst g dX2_takeOver_126 kI_0
 (x_aload_n g 0 dX2_takeOver_127 rfl rfl
 (x_getS g 7 fl_RX2_38 rfl ht dX2_takeOver_128
 (x_iconst g dX2_takeOver_131 kI_0
 (x_bipush g dX2_takeOver_132 kB_6
 (x_cpyI g hR lk_RX2_65 ok_acn ok_acs ok_sys (so_2_8 ha1) (so_2_8 ht) (Nat.le_of_ble_eq_true rfl) (Nat.le_of_ble_eq_true rfl) dX2_takeOver_134 (x_nmM (fun M11 =>
 (x_aload_n g 1 dX2_takeOver_137 rfl rfl
 (x_getS g 8 fl_RX2_41 rfl ha1 dX2_takeOver_138
 (x_iconst g dX2_takeOver_141 kI_0
 (x_aload_n g 0 dX2_takeOver_142 rfl rfl
 (x_getS g 8 fl_RX2_41 rfl ht dX2_takeOver_143
 (x_iconst g dX2_takeOver_146 kI_0
 (x_bipush g dX2_takeOver_147 kB_72
 (x_cpyI g hR lk_RX2_65 ok_acn ok_acs ok_sys (so_2_9 ha1) (so_2_9 ht) (Nat.le_of_ble_eq_true rfl) (Nat.le_of_ble_eq_true rfl) dX2_takeOver_149 (x_nmM (fun M12 =>
 (x_aload_n g 1 dX2_takeOver_152 rfl rfl
 (x_getS g 9 fl_RX2_44 rfl ha1 dX2_takeOver_153
 (x_iconst g dX2_takeOver_156 kI_0
 (x_aload_n g 0 dX2_takeOver_157 rfl rfl
 (x_getS g 9 fl_RX2_44 rfl ht dX2_takeOver_158
 (x_iconst g dX2_takeOver_161 kI_0
 (x_bipush g dX2_takeOver_162 kB_72
 (x_cpyI g hR lk_RX2_65 ok_acn ok_acs ok_sys (so_2_10 ha1) (so_2_10 ht) (Nat.le_of_ble_eq_true rfl) (Nat.le_of_ble_eq_true rfl) dX2_takeOver_164 (x_nmM (fun M13 =>
 (x_aload_n g 1 dX2_takeOver_167 rfl rfl
 (x_getS g 10 fl_RX2_50 rfl ha1 dX2_takeOver_168
 (x_iconst g dX2_takeOver_171 kI_0
 (x_aload_n g 0 dX2_takeOver_172 rfl rfl
 (x_getS g 10 fl_RX2_50 rfl ht dX2_takeOver_173
 (x_iconst g dX2_takeOver_176 kI_0
 (x_bipush g dX2_takeOver_177 kB_24
 (x_cpyI g hR lk_RX2_65 ok_acn ok_acs ok_sys (so_2_12 ha1) (so_2_12 ht) (Nat.le_of_ble_eq_true rfl) (Nat.le_of_ble_eq_true rfl) dX2_takeOver_179 (x_nmM (fun M14 =>
 (x_aload_n g 1 dX2_takeOver_182 rfl rfl
 (x_getS g 11 fl_RX2_56 rfl ha1 dX2_takeOver_183
 (x_iconst g dX2_takeOver_186 kI_0
 (x_aload_n g 0 dX2_takeOver_187 rfl rfl
 (x_getS g 11 fl_RX2_56 rfl ht dX2_takeOver_188
 (x_iconst g dX2_takeOver_191 kI_0
 (x_iconst g dX2_takeOver_192 kI_2
 (x_cpyL g hR lk_RX2_65 ok_acn ok_acs ok_sys (so_2_14 ha1) (so_2_14 ht) (Nat.le_of_ble_eq_true rfl) (Nat.le_of_ble_eq_true rfl) dX2_takeOver_193 (x_nmM (fun M15 =>
 (x_aload_n g 1 dX2_takeOver_196 rfl rfl
 (x_getS g 12 fl_RX2_59 rfl ha1 dX2_takeOver_197
 (x_iconst g dX2_takeOver_200 kI_0
 (x_aload_n g 0 dX2_takeOver_201 rfl rfl
 (x_getS g 12 fl_RX2_59 rfl ht dX2_takeOver_202
 (x_iconst g dX2_takeOver_205 kI_0
 (x_bipush g dX2_takeOver_206 kB_8
 (x_cpyI g hR lk_RX2_65 ok_acn ok_acs ok_sys (so_2_15 ha1) (so_2_15 ht) (Nat.le_of_ble_eq_true rfl) (Nat.le_of_ble_eq_true rfl) dX2_takeOver_208 (x_nmM (fun M16 =>
 (x_aload_n g 1 dX2_takeOver_211 rfl rfl
 (x_getS g 13 fl_RX2_62 rfl ha1 dX2_takeOver_212
 (x_iconst g dX2_takeOver_215 kI_0
 (x_aload_n g 0 dX2_takeOver_216 rfl rfl
 (x_getS g 13 fl_RX2_62 rfl ht dX2_takeOver_217
 (x_iconst g dX2_takeOver_220 kI_0
 (x_iconst g dX2_takeOver_221 kI_2
 (x_cpyI g hR lk_RX2_65 ok_acn ok_acs ok_sys (so_2_16 ha1) (so_2_16 ht) (Nat.le_of_ble_eq_true rfl) (Nat.le_of_ble_eq_true rfl) dX2_takeOver_222 (x_nmM (fun M17 =>
 (x_vret g hr rfl dX2_takeOver_225)))))))))))))))))))))))))))))))))))))))))))))))))))))))))))))))))))))))))))))))))))))))))))))))))))))))))))))))))))))))))))))))))))))))))))))))))))))))))))
def lX10_odds_84 (K142 : Int32 → Mem → Option (Int32 × Mem)) (φ : Nat) (t : Nat) (x1 : Int32) (x2 : Int32) (x3 : Int32) (x4 : Int32) : Nat → Int32 → Int32 → Mem → Option (Int32 × Mem)
  | 0, _, _, _ => none
  | n + 1, x5, x6, M =>
    if x4 ≤ x6 then
 K142 x5 M
 else
 (ldr 2 (M.2.2 t 8)).bind fun vr14 =>
 (ldr 2 (M.2.2 t 7)).bind fun vr15 =>
 bd (fX2_takeOver vr14 vr15 M) fun vu16 M17 =>
 (ldr 8 (M17.2.2 t 9)).bind fun vr18 =>
 (ldr 2 (M17.2.2 t 8)).bind fun vr19 =>
 bd (fX3_run φ (t + 76) vr18 vr19 (x3 + x6) M17) fun vu20 M21 =>
 (ldr 2 (M21.2.2 t 8)).bind fun vr22 =>
 (fX2_hasRock φ vr22 x1 x2 M21).bind fun v23 =>
 jn (fun (v24 : Int32) => lX10_odds_84 K142 φ t x1 x2 x3 x4 n v24 (x6 + 1) M21) (fun J25 => if v23 = 0 then
 J25 x5
 else
 J25 (x5 + 1))
theorem lX10_odds_84_s (K142 : Int32 → Mem → Option (Int32 × Mem)) (φ : Nat) (t : Nat) (x1 : Int32) (x2 : Int32) (x3 : Int32) (x4 : Int32) (n : Nat) (x5 : Int32) (x6 : Int32) (M : Mem) : lX10_odds_84 K142 φ t x1 x2 x3 x4 (n + 1) x5 x6 M =
    if x4 ≤ x6 then
 K142 x5 M
 else
 (ldr 2 (M.2.2 t 8)).bind fun vr14 =>
 (ldr 2 (M.2.2 t 7)).bind fun vr15 =>
 bd (fX2_takeOver vr14 vr15 M) fun vu16 M17 =>
 (ldr 8 (M17.2.2 t 9)).bind fun vr18 =>
 (ldr 2 (M17.2.2 t 8)).bind fun vr19 =>
 bd (fX3_run φ (t + 76) vr18 vr19 (x3 + x6) M17) fun vu20 M21 =>
 (ldr 2 (M21.2.2 t 8)).bind fun vr22 =>
 (fX2_hasRock φ vr22 x1 x2 M21).bind fun v23 =>
 jn (fun (v24 : Int32) => lX10_odds_84 K142 φ t x1 x2 x3 x4 n v24 (x6 + 1) M21) (fun J25 => if v23 = 0 then
 J25 x5
 else
 J25 (x5 + 1)) := rfl
theorem lX10_odds_84_0 (K142 : Int32 → Mem → Option (Int32 × Mem)) (φ : Nat) (t : Nat) (x1 : Int32) (x2 : Int32) (x3 : Int32) (x4 : Int32) (x5 : Int32) (x6 : Int32) (M : Mem) : lX10_odds_84 K142 φ t x1 x2 x3 x4 0 x5 x6 M = none := rfl
set_option maxRecDepth 100000 in
set_option maxHeartbeats 4000000 in
theorem wlX10_odds_84 {J : JT} (g : Gd J cX10_odds RX10) (hr : Rt J (some .boolean)) (hR : (JR J).frames = 6 ∧ (JR J).locals = 159) (hn : Jn J = 7) (K142 : Int32 → Mem → Option (Int32 × Mem)) (φ : Nat) (t : Nat) (x1 : Int32) (x2 : Int32) (x3 : Int32) (x4 : Int32) (ht : isO 10 t) (hK142 : ∀ (y5 : Int32) (M : Mem), X J (fun q : Int32 × Mem => (some (Value.int q.1), q.2)) (K142 y5 M) 142 [(0, .ref t), (4, .int x4), (5, .int y5)] [] M) : ∀ (n : Nat) (x5 : Int32) (x6 : Int32) (M : Mem), X J (fun q : Int32 × Mem => (some (Value.int q.1), q.2)) (lX10_odds_84 K142 φ t x1 x2 x3 x4 n x5 x6 M) 84 [(0, .ref t), (1, .int x1), (2, .int x2), (3, .int x3), (4, .int x4), (5, .int x5), (6, .int x6)] [] M := by
  intro n
  induction n with
  | zero =>
    intro x5 x6 M
    exact x_none
  | succ n ih =>
    intro x5 x6 M
    rw [lX10_odds_84_s]
    exact (x_iload g 6 dX10_odds_84 rfl
 (x_iload g 4 dX10_odds_86 rfl
 (x_icmp_ge g 142 dX10_odds_88 rfl
 (fun _ => (x_sub [0, 4, 5] rfl (hK142 x5 M)))
 (fun _ => (x_aload_n g 0 dX10_odds_91 rfl rfl
 (x_getD g fl_RX10_54 rfl ht dX10_odds_92 (fun vr14 hvr14 =>
 (x_aload_n g 0 dX10_odds_95 rfl rfl
 (x_getD g fl_RX10_50 rfl ht dX10_odds_96 (fun vr15 hvr15 =>
 (x_callVv (As := [.ref vr15]) g mv_X2_takeOver mi_X2_takeOver lk_RX10_459 hvr14 (fun b Mh_ hb => kX2_takeOver vr14 vr15 M hvr14 hvr15 _ _ hb) rfl rfl hR ⟨Nat.le_of_ble_eq_true rfl, Nat.le_of_ble_eq_true rfl⟩ (Nat.le_of_ble_eq_true rfl) dX10_odds_99 (fun vu16 M17 =>
 (x_aload_n g 0 dX10_odds_102 rfl rfl
 (x_getS g 76 fl_RX10_106 rfl ht dX10_odds_103
 (x_aload_n g 0 dX10_odds_106 rfl rfl
 (x_getD g fl_RX10_60 rfl ht dX10_odds_107 (fun vr18 hvr18 =>
 (x_aload_n g 0 dX10_odds_110 rfl rfl
 (x_getD g fl_RX10_54 rfl ht dX10_odds_111 (fun vr19 hvr19 =>
 (x_iload_n g 3 dX10_odds_114 rfl rfl
 (x_iload g 6 dX10_odds_115 rfl
 (x_iadd g dX10_odds_117
 (x_callVv (As := [.ref vr18, .ref vr19, .int (x3 + x6)]) g mv_X3_run mi_X3_run lk_RX10_439 (so_10_18 ht) (fun b Mh_ hb => kX3_run φ (t + 76) vr18 vr19 (x3 + x6) M17 (so_10_18 ht) hvr18 hvr19 _ _ hb) rfl rfl hR ⟨Nat.le_of_ble_eq_true rfl, Nat.le_of_ble_eq_true rfl⟩ (Nat.le_of_ble_eq_true rfl) dX10_odds_118 (fun vu20 M21 =>
 (x_aload_n g 0 dX10_odds_121 rfl rfl
 (x_getD g fl_RX10_54 rfl ht dX10_odds_122 (fun vr22 hvr22 =>
 (x_iload_n g 1 dX10_odds_125 rfl rfl
 (x_iload_n g 2 dX10_odds_126 rfl rfl
 (x_callVip (As := [.int x1, .int x2]) g mv_X2_hasRock mi_X2_hasRock lk_RX10_462 hvr22 (fun b hb => kX2_hasRock φ vr22 x1 x2 M21 hvr22 _ _ hb) rfl rfl hR ⟨Nat.le_of_ble_eq_true rfl, Nat.le_of_ble_eq_true rfl⟩ (Nat.le_of_ble_eq_true rfl) dX10_odds_127 (fun v23 =>
 (x_jn (fun (J25 : Int32 → Option (Int32 × Mem)) => ∀ (v24 : Int32), X J (fun q : Int32 × Mem => (some (Value.int q.1), q.2)) (J25 v24) 136 [(0, .ref t), (1, .int x1), (2, .int x2), (3, .int x3), (4, .int x4), (5, .int v24), (6, .int x6)] [] M21) (fun v24 => (x_iinc (L' := [(6, .int (x6 + 1)), (0, .ref t), (1, .int x1), (2, .int x2), (3, .int x3), (4, .int x4), (5, .int v24)]) (v := (x6 + 1)) g 6 dX10_odds_136 rfl (by rw [kI_1]) hn (Nat.le_of_ble_eq_true rfl) rfl
 (x_goto g 84 dX10_odds_139 rfl
 (x_sub [1, 2, 3, 4, 5, 6, 0] rfl (ih v24 (x6 + 1) M21))))) (fun J25 hJ25 => (x_if_eq g 136 dX10_odds_130 rfl
 (fun _ => (hJ25 x5))
 (fun _ => (x_iinc (L' := [(5, .int (x5 + 1)), (0, .ref t), (1, .int x1), (2, .int x2), (3, .int x3), (4, .int x4), (6, .int x6)]) (v := (x5 + 1)) g 5 dX10_odds_133 rfl (by rw [kI_1]) hn (Nat.le_of_ble_eq_true rfl) rfl
 (x_sub [1, 2, 3, 4, 5, 0, 6] rfl (hJ25 (x5 + 1))))))))))))))))))))))))))))))))))))))))
def fX10_odds (φ : Nat) (t : Nat) (a1 : Int32) (a2 : Int32) (a3 : Int32) (a4 : Int32) (M : Mem) : Option (Int32 × Mem) :=
  (ldr 2 (M.2.2 t 7)).bind fun vr1 =>
 (fX2_isHole vr1 a1 M).bind fun v2 =>
 if v2 = 0 then
 bd (fX10_deny t (1 : Int32) M) fun v3 M4 =>
 if v3 = 0 ∨ v3 = 1 then some (v3, M4) else none
 else
 (ldr 2 (M.2.2 t 7)).bind fun vr6 =>
 (fX2_isRock vr6 a2 M).bind fun v7 =>
 if v7 = 0 then
 bd (fX10_deny t (1 : Int32) M) fun v8 M9 =>
 if v8 = 0 ∨ v8 = 1 then some (v8, M9) else none
 else
 (fX10_isWithin a4 (1 : Int32) (10 : Int32) M).bind fun v11 =>
 if v11 = 0 then
 bd (fX10_deny t (1 : Int32) M) fun v37 M38 =>
 if v37 = 0 ∨ v37 = 1 then some (v37, M38) else none
 else
 (fX10_isWithin a3 (0 : Int32) (((9999 : Int32) - a4) + (1 : Int32)) M).bind fun v12 =>
 if v12 = 0 then
 bd (fX10_deny t (1 : Int32) M) fun v34 M35 =>
 if v34 = 0 ∨ v34 = 1 then some (v34, M35) else none
 else
 (ldr 8 (M.2.2 t 9)).bind fun vr13 =>
 if (M.1 vr13 0) = 0 then
 bd (fX10_deny t (6 : Int32) M) fun v31 M32 =>
 if v31 = 0 ∨ v31 = 1 then some (v31, M32) else none
 else
 lX10_odds_84 (fun (v26 : Int32) (M27 : Mem) => bd (fX10_tell φ t (v26.toInt64) (a4.toInt64) M27) fun v28 M29 =>
 if v28 = 0 ∨ v28 = 1 then some (v28, M29) else none) φ t a1 a2 a3 a4 φ (0 : Int32) (0 : Int32) M
set_option maxRecDepth 100000 in
set_option maxHeartbeats 4000000 in
theorem kX10_odds (φ : Nat) (t : Nat) (a1 : Int32) (a2 : Int32) (a3 : Int32) (a4 : Int32) (M : Mem) (ht : isO 10 t) (l : Launch) (G : GT) {b : (Int32 × Mem)} (hE : fX10_odds φ t a1 a2 a3 a4 M = some b) : Ok l G yX10_odds cX10_odds 7 (some .boolean) 6 159 [.ref t, .int a1, .int a2, .int a3, .int a4] M ((fun q : Int32 × Mem => (some (Value.int q.1), q.2)) b).1 ((fun q : Int32 × Mem => (some (Value.int q.1), q.2)) b).2 := by
  refine Ok.ofX (pj := (fun q : Int32 × Mem => (some (Value.int q.1), q.2))) (by decide) (Nat.le_of_ble_eq_true rfl) hE (fun J g hr hG hl hR hn => ?_)
  show X J (fun q : Int32 × Mem => (some (Value.int q.1), q.2)) (fX10_odds φ t a1 a2 a3 a4 M) 0 [(0, .ref t), (1, .int a1), (2, .int a2), (3, .int a3), (4, .int a4)] [] M
  unfold fX10_odds
  exact (x_aload_n g 0 dX10_odds_0 rfl rfl
 (x_getD g fl_RX10_50 rfl ht dX10_odds_1 (fun vr1 hvr1 =>
 (x_iload_n g 1 dX10_odds_4 rfl rfl
 (x_callVip (As := [.int a1]) g mv_X2_isHole mi_X2_isHole lk_RX10_225 hvr1 (fun b hb => kX2_isHole vr1 a1 M hvr1 _ _ hb) rfl rfl hR ⟨Nat.le_of_ble_eq_true rfl, Nat.le_of_ble_eq_true rfl⟩ (Nat.le_of_ble_eq_true rfl) dX10_odds_5 (fun v2 =>
 (x_if_eq g 33 dX10_odds_8 rfl
 (fun _ => (x_aload_n g 0 dX10_odds_33 rfl rfl
 (x_iconst g dX10_odds_34 kI_1
 (x_callVi (As := [.int (1 : Int32)]) g mv_X10_deny mi_X10_deny lk_RX10_118 ht (fun b Mh_ hb => kX10_deny t (1 : Int32) M ht _ _ hb) rfl rfl hR ⟨Nat.le_of_ble_eq_true rfl, Nat.le_of_ble_eq_true rfl⟩ (Nat.le_of_ble_eq_true rfl) dX10_odds_35 (fun v3 M4 =>
 (x_ck (fun hq5 => x_iret g hr (nbz hq5) rfl dX10_odds_38)))))))
 (fun _ => (x_aload_n g 0 dX10_odds_11 rfl rfl
 (x_getD g fl_RX10_50 rfl ht dX10_odds_12 (fun vr6 hvr6 =>
 (x_iload_n g 2 dX10_odds_15 rfl rfl
 (x_callVip (As := [.int a2]) g mv_X2_isRock mi_X2_isRock lk_RX10_215 hvr6 (fun b hb => kX2_isRock vr6 a2 M hvr6 _ _ hb) rfl rfl hR ⟨Nat.le_of_ble_eq_true rfl, Nat.le_of_ble_eq_true rfl⟩ (Nat.le_of_ble_eq_true rfl) dX10_odds_16 (fun v7 =>
 (x_if_eq g 33 dX10_odds_19 rfl
 (fun _ => (x_aload_n g 0 dX10_odds_33 rfl rfl
 (x_iconst g dX10_odds_34 kI_1
 (x_callVi (As := [.int (1 : Int32)]) g mv_X10_deny mi_X10_deny lk_RX10_118 ht (fun b Mh_ hb => kX10_deny t (1 : Int32) M ht _ _ hb) rfl rfl hR ⟨Nat.le_of_ble_eq_true rfl, Nat.le_of_ble_eq_true rfl⟩ (Nat.le_of_ble_eq_true rfl) dX10_odds_35 (fun v8 M9 =>
 (x_ck (fun hq10 => x_iret g hr (nbz hq10) rfl dX10_odds_38)))))))
 (fun _ => (x_iload g 4 dX10_odds_22 rfl
 (x_iconst g dX10_odds_24 kI_1
 (x_bipush g dX10_odds_25 kB_10
 (x_callSip (As := [.int a4, .int (1 : Int32), .int (10 : Int32)]) g mv_X10_isWithin ms_X10_isWithin lk_RX10_114 (fun b hb => kX10_isWithin a4 (1 : Int32) (10 : Int32) M _ _ hb) rfl rfl hR ⟨Nat.le_of_ble_eq_true rfl, Nat.le_of_ble_eq_true rfl⟩ (Nat.le_of_ble_eq_true rfl) dX10_odds_27 (fun v11 =>
 (x_if_ne g 39 dX10_odds_30 rfl
 (fun _ => (x_iload_n g 3 dX10_odds_39 rfl rfl
 (x_iconst g dX10_odds_40 kI_0
 (x_sipush g dX10_odds_41 kS_9999
 (x_iload g 4 dX10_odds_44 rfl
 (x_isub g dX10_odds_46
 (x_iconst g dX10_odds_47 kI_1
 (x_iadd g dX10_odds_48
 (x_callSip (As := [.int a3, .int (0 : Int32), .int (((9999 : Int32) - a4) + (1 : Int32))]) g mv_X10_isWithin ms_X10_isWithin lk_RX10_114 (fun b hb => kX10_isWithin a3 (0 : Int32) (((9999 : Int32) - a4) + (1 : Int32)) M _ _ hb) rfl rfl hR ⟨Nat.le_of_ble_eq_true rfl, Nat.le_of_ble_eq_true rfl⟩ (Nat.le_of_ble_eq_true rfl) dX10_odds_49 (fun v12 =>
 (x_if_ne g 61 dX10_odds_52 rfl
 (fun _ => (x_aload_n g 0 dX10_odds_61 rfl rfl
 (x_getD g fl_RX10_60 rfl ht dX10_odds_62 (fun vr13 hvr13 =>
 (x_getI g fl_RX10_436 rfl hvr13 dX10_odds_65
 (x_if_ne g 78 dX10_odds_68 rfl
 (fun _ => (x_iconst g dX10_odds_78 kI_0
 (x_istore (L' := [(5, .int (0 : Int32)), (0, .ref t), (1, .int a1), (2, .int a2), (3, .int a3), (4, .int a4)]) g dX10_odds_79 hn (Nat.le_of_ble_eq_true rfl) rfl
 (x_iconst g dX10_odds_81 kI_0
 (x_istore (L' := [(6, .int (0 : Int32)), (5, .int (0 : Int32)), (0, .ref t), (1, .int a1), (2, .int a2), (3, .int a3), (4, .int a4)]) g dX10_odds_82 hn (Nat.le_of_ble_eq_true rfl) rfl
 (x_sub [2, 3, 4, 5, 6, 1, 0] rfl (wlX10_odds_84 g hr hR hn _ φ t a1 a2 a3 a4 ht
 (fun v26 M27 => by exact (x_aload_n g 0 dX10_odds_142 rfl rfl
 (x_iload g 2 dX10_odds_143 rfl
 (x_i2l g dX10_odds_145
 (x_iload g 1 dX10_odds_146 rfl
 (x_i2l g dX10_odds_148
 (x_callVi (As := [.long (v26.toInt64), .long (a4.toInt64)]) g mv_X10_tell mi_X10_tell lk_RX10_342 ht (fun b Mh_ hb => kX10_tell φ t (v26.toInt64) (a4.toInt64) M27 ht _ _ hb) rfl rfl hR ⟨Nat.le_of_ble_eq_true rfl, Nat.le_of_ble_eq_true rfl⟩ (Nat.le_of_ble_eq_true rfl) dX10_odds_149 (fun v28 M29 =>
 (x_ck (fun hq30 => x_iret g hr (nbz hq30) rfl dX10_odds_152)))))))))) φ (0 : Int32) (0 : Int32) M)))))))
 (fun _ => (x_aload_n g 0 dX10_odds_71 rfl rfl
 (x_bipush g dX10_odds_72 kB_6
 (x_callVi (As := [.int (6 : Int32)]) g mv_X10_deny mi_X10_deny lk_RX10_118 ht (fun b Mh_ hb => kX10_deny t (6 : Int32) M ht _ _ hb) rfl rfl hR ⟨Nat.le_of_ble_eq_true rfl, Nat.le_of_ble_eq_true rfl⟩ (Nat.le_of_ble_eq_true rfl) dX10_odds_74 (fun v31 M32 =>
 (x_ck (fun hq33 => x_iret g hr (nbz hq33) rfl dX10_odds_77)))))))))))))
 (fun _ => (x_aload_n g 0 dX10_odds_55 rfl rfl
 (x_iconst g dX10_odds_56 kI_1
 (x_callVi (As := [.int (1 : Int32)]) g mv_X10_deny mi_X10_deny lk_RX10_118 ht (fun b Mh_ hb => kX10_deny t (1 : Int32) M ht _ _ hb) rfl rfl hR ⟨Nat.le_of_ble_eq_true rfl, Nat.le_of_ble_eq_true rfl⟩ (Nat.le_of_ble_eq_true rfl) dX10_odds_57 (fun v34 M35 =>
 (x_ck (fun hq36 => x_iret g hr (nbz hq36) rfl dX10_odds_60))))))))))))))))))
 (fun _ => (x_aload_n g 0 dX10_odds_33 rfl rfl
 (x_iconst g dX10_odds_34 kI_1
 (x_callVi (As := [.int (1 : Int32)]) g mv_X10_deny mi_X10_deny lk_RX10_118 ht (fun b Mh_ hb => kX10_deny t (1 : Int32) M ht _ _ hb) rfl rfl hR ⟨Nat.le_of_ble_eq_true rfl, Nat.le_of_ble_eq_true rfl⟩ (Nat.le_of_ble_eq_true rfl) dX10_odds_35 (fun v37 M38 =>
 (x_ck (fun hq39 => x_iret g hr (nbz hq39) rfl dX10_odds_38)))))))))))))))))))))))))))))
def fX8_takeOver (t : Nat) (a1 : Nat) (M : Mem) : Option (Unit × Mem) :=
  if (M.1 a1 0) = 0 ∨ (M.1 a1 0) = 1 then nm (stI M t 0 (M.1 a1 0)) (fun M1 =>
 nm (stI M1 t 1 (M1.1 a1 1)) (fun M3 =>
 nm (stI M3 t 2 (M3.1 a1 2)) (fun M4 =>
 cpk (0 : Int32) (0 : Int32) (60 : Int32) 60 60 (nm (cpI M4 (a1 + 1) (t + 1) (0 : Int32).toNatClampNeg (0 : Int32).toNatClampNeg (60 : Int32).toNatClampNeg) (fun M5 =>
 cpk (0 : Int32) (0 : Int32) (60 : Int32) 60 60 (nm (cpI M5 (a1 + 2) (t + 2) (0 : Int32).toNatClampNeg (0 : Int32).toNatClampNeg (60 : Int32).toNatClampNeg) (fun M6 =>
 cpk (0 : Int32) (0 : Int32) (60 : Int32) 60 60 (nm (cpI M6 (a1 + 3) (t + 3) (0 : Int32).toNatClampNeg (0 : Int32).toNatClampNeg (60 : Int32).toNatClampNeg) (fun M7 =>
 cpk (0 : Int32) (0 : Int32) (60 : Int32) 60 60 (nm (cpI M7 (a1 + 4) (t + 4) (0 : Int32).toNatClampNeg (0 : Int32).toNatClampNeg (60 : Int32).toNatClampNeg) (fun M8 =>
 cpk (0 : Int32) (0 : Int32) (60 : Int32) 60 60 (nm (cpI M8 (a1 + 5) (t + 5) (0 : Int32).toNatClampNeg (0 : Int32).toNatClampNeg (60 : Int32).toNatClampNeg) (fun M9 =>
 some ((), M9))))))))))))))
 else none
set_option maxRecDepth 100000 in
set_option maxHeartbeats 4000000 in
theorem kX8_takeOver (t : Nat) (a1 : Nat) (M : Mem) (ht : isO 8 t) (ha1 : isO 8 a1) (l : Launch) (G : GT) {b : (Unit × Mem)} (hE : fX8_takeOver t a1 M = some b) : Ok l G yX8_takeOver cX8_takeOver 2 none 1 60 [.ref t, .ref a1] M ((fun q : Unit × Mem => ((none : Option Value), q.2)) b).1 ((fun q : Unit × Mem => ((none : Option Value), q.2)) b).2 := by
  refine Ok.ofX (pj := (fun q : Unit × Mem => ((none : Option Value), q.2))) (by decide) (Nat.le_of_ble_eq_true rfl) hE (fun J g hr hG hl hR hn => ?_)
  show X J (fun q : Unit × Mem => ((none : Option Value), q.2)) (fX8_takeOver t a1 M) 0 [(0, .ref t), (1, .ref a1)] [] M
  unfold fX8_takeOver
  exact (x_aload_n g 0 dX8_takeOver_0 rfl rfl
 (x_aload_n g 1 dX8_takeOver_1 rfl rfl
 (x_getI g fl_RX8_11 rfl ha1 dX8_takeOver_2
 (x_ck (fun hq2 => x_putZ g fp_RX8_11 rfl (Nat.le_of_ble_eq_true rfl) ht hq2 dX8_takeOver_5 (x_nmM (fun M1 =>
 (x_aload_n g 0 dX8_takeOver_8 rfl rfl
 (x_aload_n g 1 dX8_takeOver_9 rfl rfl
 (x_getI g fl_RX8_15 rfl ha1 dX8_takeOver_10
 (x_putI g fp_RX8_15 rfl (Nat.le_of_ble_eq_true rfl) ht dX8_takeOver_13 (x_nmM (fun M3 =>
 (x_aload_n g 0 dX8_takeOver_16 rfl rfl
 (x_aload_n g 1 dX8_takeOver_17 rfl rfl
 (x_getI g fl_RX8_19 rfl ha1 dX8_takeOver_18
 (x_putI g fp_RX8_19 rfl (Nat.le_of_ble_eq_true rfl) ht dX8_takeOver_21 (x_nmM (fun M4 =>
 (x_aload_n g 1 dX8_takeOver_24 rfl rfl
 (x_getS g 1 fl_RX8_22 rfl ha1 dX8_takeOver_25
 (x_iconst g dX8_takeOver_28 kI_0
 (x_aload_n g 0 dX8_takeOver_29 rfl rfl
 (x_getS g 1 fl_RX8_22 rfl ht dX8_takeOver_30
 (x_iconst g dX8_takeOver_33 kI_0
 (x_bipush g dX8_takeOver_34 kB_60
 (x_cpyI g hR lk_RX8_38 ok_acn ok_acs ok_sys (so_8_3 ha1) (so_8_3 ht) (Nat.le_of_ble_eq_true rfl) (Nat.le_of_ble_eq_true rfl) dX8_takeOver_36 (x_nmM (fun M5 =>
 (x_aload_n g 1 dX8_takeOver_39 rfl rfl
 (x_getS g 2 fl_RX8_26 rfl ha1 dX8_takeOver_40
 (x_iconst g dX8_takeOver_43 kI_0
 (x_aload_n g 0 dX8_takeOver_44 rfl rfl
 (x_getS g 2 fl_RX8_26 rfl ht dX8_takeOver_45
 (x_iconst g dX8_takeOver_48 kI_0
 (x_bipush g dX8_takeOver_49 kB_60
 (x_cpyI g hR lk_RX8_38 ok_acn ok_acs ok_sys (so_8_4 ha1) (so_8_4 ht) (Nat.le_of_ble_eq_true rfl) (Nat.le_of_ble_eq_true rfl) dX8_takeOver_51 (x_nmM (fun M6 =>
 (x_aload_n g 1 dX8_takeOver_54 rfl rfl
 (x_getS g 3 fl_RX8_29 rfl ha1 dX8_takeOver_55
 (x_iconst g dX8_takeOver_58 kI_0
 (x_aload_n g 0 dX8_takeOver_59 rfl rfl
 (x_getS g 3 fl_RX8_29 rfl ht dX8_takeOver_60
 (x_iconst g dX8_takeOver_63 kI_0
 (x_bipush g dX8_takeOver_64 kB_60
 (x_cpyI g hR lk_RX8_38 ok_acn ok_acs ok_sys (so_8_5 ha1) (so_8_5 ht) (Nat.le_of_ble_eq_true rfl) (Nat.le_of_ble_eq_true rfl) dX8_takeOver_66 (x_nmM (fun M7 =>
 (x_aload_n g 1 dX8_takeOver_69 rfl rfl
 (x_getS g 4 fl_RX8_32 rfl ha1 dX8_takeOver_70
 (x_iconst g dX8_takeOver_73 kI_0
 (x_aload_n g 0 dX8_takeOver_74 rfl rfl
 (x_getS g 4 fl_RX8_32 rfl ht dX8_takeOver_75
 (x_iconst g dX8_takeOver_78 kI_0
 (x_bipush g dX8_takeOver_79 kB_60
 (x_cpyI g hR lk_RX8_38 ok_acn ok_acs ok_sys (so_8_6 ha1) (so_8_6 ht) (Nat.le_of_ble_eq_true rfl) (Nat.le_of_ble_eq_true rfl) dX8_takeOver_81 (x_nmM (fun M8 =>
 (x_aload_n g 1 dX8_takeOver_84 rfl rfl
 (x_getS g 5 fl_RX8_35 rfl ha1 dX8_takeOver_85
 (x_iconst g dX8_takeOver_88 kI_0
 (x_aload_n g 0 dX8_takeOver_89 rfl rfl
 (x_getS g 5 fl_RX8_35 rfl ht dX8_takeOver_90
 (x_iconst g dX8_takeOver_93 kI_0
 (x_bipush g dX8_takeOver_94 kB_60
 (x_cpyI g hR lk_RX8_38 ok_acn ok_acs ok_sys (so_8_7 ha1) (so_8_7 ht) (Nat.le_of_ble_eq_true rfl) (Nat.le_of_ble_eq_true rfl) dX8_takeOver_96 (x_nmM (fun M9 =>
 (x_vret g hr rfl dX8_takeOver_99))))))))))))))))))))))))))))))))))))))))))))))))))))))))))))))))))))))
def fX10_mark (t : Nat) (M : Mem) : Option (Int32 × Mem) :=
  if (M.1 t 13) < (3 : Int32) then
 ixk (M.1 t 13) 3 (
 (ldr 2 (M.2.2 t 7)).bind fun vr2 =>
 bd (fX2_takeOver (srf (t + 52) (M.1 t 13).toNatClampNeg) vr2 M) fun vu3 M4 =>
 ixk (M4.1 t 13) 3 (
 (ldr 8 (M4.2.2 t 9)).bind fun vr6 =>
 bd (fX8_takeOver (srf (t + 53) (M4.1 t 13).toNatClampNeg) vr6 M4) fun vu7 M8 =>
 nm (stI M8 t 13 ((M8.1 t 13) + (1 : Int32))) (fun M9 =>
 bd (fX10_answer t (M9.1 t 13) M9) fun v10 M11 =>
 some (v10, M11))))
 else
 bd (fX10_refuse t (4 : Int32) M) fun v12 M13 =>
 some (v12, M13)
set_option maxRecDepth 100000 in
set_option maxHeartbeats 4000000 in
theorem kX10_mark (t : Nat) (M : Mem) (ht : isO 10 t) (l : Launch) (G : GT) {b : (Int32 × Mem)} (hE : fX10_mark t M = some b) : Ok l G yX10_mark cX10_mark 1 (some .int) 2 81 [.ref t] M ((fun q : Int32 × Mem => (some (Value.int q.1), q.2)) b).1 ((fun q : Int32 × Mem => (some (Value.int q.1), q.2)) b).2 := by
  refine Ok.ofX (pj := (fun q : Int32 × Mem => (some (Value.int q.1), q.2))) (by decide) (Nat.le_of_ble_eq_true rfl) hE (fun J g hr hG hl hR hn => ?_)
  show X J (fun q : Int32 × Mem => (some (Value.int q.1), q.2)) (fX10_mark t M) 0 [(0, .ref t)] [] M
  unfold fX10_mark
  exact (x_aload_n g 0 dX10_mark_0 rfl rfl
 (x_getI g fl_RX10_75 rfl ht dX10_mark_1
 (x_iconst g dX10_mark_4 kI_3
 (x_icmp_lt g 14 dX10_mark_5 rfl
 (fun _ => (x_aload_n g 0 dX10_mark_14 rfl rfl
 (x_getS g 52 fl_RX10_67 rfl ht dX10_mark_15
 (x_aload_n g 0 dX10_mark_18 rfl rfl
 (x_getI g fl_RX10_75 rfl ht dX10_mark_19
 (x_aald g 5 (fun _ => rfl) (so_10_11 ht) dX10_mark_22 (fun hq1 =>
 (x_aload_n g 0 dX10_mark_23 rfl rfl
 (x_getD g fl_RX10_50 rfl ht dX10_mark_24 (fun vr2 hvr2 =>
 (x_callVv (As := [.ref vr2]) g mv_X2_takeOver mi_X2_takeOver lk_RX10_459 (se_10_11 ht hq1) (fun b Mh_ hb => kX2_takeOver (srf (t + 52) (M.1 t 13).toNatClampNeg) vr2 M (se_10_11 ht hq1) hvr2 _ _ hb) rfl rfl hR ⟨Nat.le_of_ble_eq_true rfl, Nat.le_of_ble_eq_true rfl⟩ (Nat.le_of_ble_eq_true rfl) dX10_mark_27 (fun vu3 M4 =>
 (x_aload_n g 0 dX10_mark_30 rfl rfl
 (x_getS g 53 fl_RX10_71 rfl ht dX10_mark_31
 (x_aload_n g 0 dX10_mark_34 rfl rfl
 (x_getI g fl_RX10_75 rfl ht dX10_mark_35
 (x_aald g 6 (fun _ => rfl) (so_10_12 ht) dX10_mark_38 (fun hq5 =>
 (x_aload_n g 0 dX10_mark_39 rfl rfl
 (x_getD g fl_RX10_60 rfl ht dX10_mark_40 (fun vr6 hvr6 =>
 (x_callVv (As := [.ref vr6]) g mv_X8_takeOver mi_X8_takeOver lk_RX10_465 (se_10_12 ht hq5) (fun b Mh_ hb => kX8_takeOver (srf (t + 53) (M4.1 t 13).toNatClampNeg) vr6 M4 (se_10_12 ht hq5) hvr6 _ _ hb) rfl rfl hR ⟨Nat.le_of_ble_eq_true rfl, Nat.le_of_ble_eq_true rfl⟩ (Nat.le_of_ble_eq_true rfl) dX10_mark_43 (fun vu7 M8 =>
 (x_aload_n g 0 dX10_mark_46 rfl rfl
 (x_dup g dX10_mark_47 rfl
 (x_getI g fl_RX10_75 rfl ht dX10_mark_48
 (x_iconst g dX10_mark_51 kI_1
 (x_iadd g dX10_mark_52
 (x_putI g fp_RX10_75 rfl (Nat.le_of_ble_eq_true rfl) ht dX10_mark_53 (x_nmM (fun M9 =>
 (x_aload_n g 0 dX10_mark_56 rfl rfl
 (x_aload_n g 0 dX10_mark_57 rfl rfl
 (x_getI g fl_RX10_75 rfl ht dX10_mark_58
 (x_callVi (As := [.int (M9.1 t 13)]) g mv_X10_answer mi_X10_answer lk_RX10_187 ht (fun b Mh_ hb => kX10_answer t (M9.1 t 13) M9 ht _ _ hb) rfl rfl hR ⟨Nat.le_of_ble_eq_true rfl, Nat.le_of_ble_eq_true rfl⟩ (Nat.le_of_ble_eq_true rfl) dX10_mark_61 (fun v10 M11 =>
 (x_iret g hr rfl rfl dX10_mark_64)))))))))))))))))))))))))))))))))))))
 (fun _ => (x_aload_n g 0 dX10_mark_8 rfl rfl
 (x_iconst g dX10_mark_9 kI_4
 (x_callVi (As := [.int (4 : Int32)]) g mv_X10_refuse mi_X10_refuse lk_RX10_137 ht (fun b Mh_ hb => kX10_refuse t (4 : Int32) M ht _ _ hb) rfl rfl hR ⟨Nat.le_of_ble_eq_true rfl, Nat.le_of_ble_eq_true rfl⟩ (Nat.le_of_ble_eq_true rfl) dX10_mark_10 (fun v12 M13 =>
 (x_iret g hr rfl rfl dX10_mark_13))))))))))
def fX10_back (t : Nat) (M : Mem) : Option (Int32 × Mem) :=
  if 0 < (M.1 t 13) then
 nm (stI M t 13 ((M.1 t 13) - (1 : Int32))) (fun M1 =>
 (ldr 2 (M1.2.2 t 7)).bind fun vr2 =>
 ixk (M1.1 t 13) 3 (
 bd (fX2_takeOver vr2 (srf (t + 52) (M1.1 t 13).toNatClampNeg) M1) fun vu4 M5 =>
 (ldr 8 (M5.2.2 t 9)).bind fun vr6 =>
 ixk (M5.1 t 13) 3 (
 bd (fX8_takeOver vr6 (srf (t + 53) (M5.1 t 13).toNatClampNeg) M5) fun vu8 M9 =>
 bd (fX0_turnStale (t + 57) M9) fun vu10 M11 =>
 bd (fX10_answer t (M11.1 t 13) M11) fun v12 M13 =>
 some (v12, M13))))
 else
 bd (fX10_refuse t (6 : Int32) M) fun v14 M15 =>
 some (v14, M15)
set_option maxRecDepth 100000 in
set_option maxHeartbeats 4000000 in
theorem kX10_back (t : Nat) (M : Mem) (ht : isO 10 t) (l : Launch) (G : GT) {b : (Int32 × Mem)} (hE : fX10_back t M = some b) : Ok l G yX10_back cX10_back 1 (some .int) 2 81 [.ref t] M ((fun q : Int32 × Mem => (some (Value.int q.1), q.2)) b).1 ((fun q : Int32 × Mem => (some (Value.int q.1), q.2)) b).2 := by
  refine Ok.ofX (pj := (fun q : Int32 × Mem => (some (Value.int q.1), q.2))) (by decide) (Nat.le_of_ble_eq_true rfl) hE (fun J g hr hG hl hR hn => ?_)
  show X J (fun q : Int32 × Mem => (some (Value.int q.1), q.2)) (fX10_back t M) 0 [(0, .ref t)] [] M
  unfold fX10_back
  exact (x_aload_n g 0 dX10_back_0 rfl rfl
 (x_getI g fl_RX10_75 rfl ht dX10_back_1
 (x_if_gt g 14 dX10_back_4 rfl
 (fun _ => (x_aload_n g 0 dX10_back_14 rfl rfl
 (x_dup g dX10_back_15 rfl
 (x_getI g fl_RX10_75 rfl ht dX10_back_16
 (x_iconst g dX10_back_19 kI_1
 (x_isub g dX10_back_20
 (x_putI g fp_RX10_75 rfl (Nat.le_of_ble_eq_true rfl) ht dX10_back_21 (x_nmM (fun M1 =>
 (x_aload_n g 0 dX10_back_24 rfl rfl
 (x_getD g fl_RX10_50 rfl ht dX10_back_25 (fun vr2 hvr2 =>
 (x_aload_n g 0 dX10_back_28 rfl rfl
 (x_getS g 52 fl_RX10_67 rfl ht dX10_back_29
 (x_aload_n g 0 dX10_back_32 rfl rfl
 (x_getI g fl_RX10_75 rfl ht dX10_back_33
 (x_aald g 5 (fun _ => rfl) (so_10_11 ht) dX10_back_36 (fun hq3 =>
 (x_callVv (As := [.ref (srf (t + 52) (M1.1 t 13).toNatClampNeg)]) g mv_X2_takeOver mi_X2_takeOver lk_RX10_459 hvr2 (fun b Mh_ hb => kX2_takeOver vr2 (srf (t + 52) (M1.1 t 13).toNatClampNeg) M1 hvr2 (se_10_11 ht hq3) _ _ hb) rfl rfl hR ⟨Nat.le_of_ble_eq_true rfl, Nat.le_of_ble_eq_true rfl⟩ (Nat.le_of_ble_eq_true rfl) dX10_back_37 (fun vu4 M5 =>
 (x_aload_n g 0 dX10_back_40 rfl rfl
 (x_getD g fl_RX10_60 rfl ht dX10_back_41 (fun vr6 hvr6 =>
 (x_aload_n g 0 dX10_back_44 rfl rfl
 (x_getS g 53 fl_RX10_71 rfl ht dX10_back_45
 (x_aload_n g 0 dX10_back_48 rfl rfl
 (x_getI g fl_RX10_75 rfl ht dX10_back_49
 (x_aald g 6 (fun _ => rfl) (so_10_12 ht) dX10_back_52 (fun hq7 =>
 (x_callVv (As := [.ref (srf (t + 53) (M5.1 t 13).toNatClampNeg)]) g mv_X8_takeOver mi_X8_takeOver lk_RX10_465 hvr6 (fun b Mh_ hb => kX8_takeOver vr6 (srf (t + 53) (M5.1 t 13).toNatClampNeg) M5 hvr6 (se_10_12 ht hq7) _ _ hb) rfl rfl hR ⟨Nat.le_of_ble_eq_true rfl, Nat.le_of_ble_eq_true rfl⟩ (Nat.le_of_ble_eq_true rfl) dX10_back_53 (fun vu8 M9 =>
 (x_aload_n g 0 dX10_back_56 rfl rfl
 (x_getS g 57 fl_RX10_88 rfl ht dX10_back_57
 (x_callVv (As := []) g mv_X0_turnStale mi_X0_turnStale lk_RX10_181 (so_10_15 ht) (fun b Mh_ hb => kX0_turnStale (t + 57) M9 (so_10_15 ht) _ _ hb) rfl rfl hR ⟨Nat.le_of_ble_eq_true rfl, Nat.le_of_ble_eq_true rfl⟩ (Nat.le_of_ble_eq_true rfl) dX10_back_60 (fun vu10 M11 =>
 (x_aload_n g 0 dX10_back_63 rfl rfl
 (x_aload_n g 0 dX10_back_64 rfl rfl
 (x_getI g fl_RX10_75 rfl ht dX10_back_65
 (x_callVi (As := [.int (M11.1 t 13)]) g mv_X10_answer mi_X10_answer lk_RX10_187 ht (fun b Mh_ hb => kX10_answer t (M11.1 t 13) M11 ht _ _ hb) rfl rfl hR ⟨Nat.le_of_ble_eq_true rfl, Nat.le_of_ble_eq_true rfl⟩ (Nat.le_of_ble_eq_true rfl) dX10_back_68 (fun v12 M13 =>
 (x_iret g hr rfl rfl dX10_back_71)))))))))))))))))))))))))))))))))))))))))
 (fun _ => (x_aload_n g 0 dX10_back_7 rfl rfl
 (x_bipush g dX10_back_8 kB_6
 (x_callVi (As := [.int (6 : Int32)]) g mv_X10_refuse mi_X10_refuse lk_RX10_137 ht (fun b Mh_ hb => kX10_refuse t (6 : Int32) M ht _ _ hb) rfl rfl hR ⟨Nat.le_of_ble_eq_true rfl, Nat.le_of_ble_eq_true rfl⟩ (Nat.le_of_ble_eq_true rfl) dX10_back_10 (fun v14 M15 =>
 (x_iret g hr rfl rfl dX10_back_13)))))))))
def fX11_status (t : Nat) (M : Mem) : Option Int32 :=
  some (M.1 t 2)
set_option maxRecDepth 100000 in
set_option maxHeartbeats 4000000 in
theorem kX11_status (t : Nat) (M : Mem) (ht : isO 11 t) (l : Launch) (G : GT) {b : Int32} (hE : fX11_status t M = some b) : Ok l G yX11_status cX11_status 1 (some .int) 0 0 [.ref t] M ((fun b : Int32 => (some (Value.int b), M)) b).1 ((fun b : Int32 => (some (Value.int b), M)) b).2 := by
  refine Ok.ofX (pj := (fun b : Int32 => (some (Value.int b), M))) (by decide) (Nat.le_of_ble_eq_true rfl) hE (fun J g hr hG hl hR hn => ?_)
  show X J (fun b : Int32 => (some (Value.int b), M)) (fX11_status t M) 0 [(0, .ref t)] [] M
  unfold fX11_status
  exact (x_aload_n g 0 dX11_status_0 rfl rfl
 (x_getI g fl_RX11_96 rfl ht dX11_status_1
 (x_iret g hr rfl rfl dX11_status_4)))
def fX11_top (t : Nat) (M : Mem) : Option Int64 :=
  some (M.2.1 t 3)
set_option maxRecDepth 100000 in
set_option maxHeartbeats 4000000 in
theorem kX11_top (t : Nat) (M : Mem) (ht : isO 11 t) (l : Launch) (G : GT) {b : Int64} (hE : fX11_top t M = some b) : Ok l G yX11_top cX11_top 1 (some .long) 0 0 [.ref t] M ((fun b : Int64 => (some (Value.long b), M)) b).1 ((fun b : Int64 => (some (Value.long b), M)) b).2 := by
  refine Ok.ofX (pj := (fun b : Int64 => (some (Value.long b), M))) (by decide) (Nat.le_of_ble_eq_true rfl) hE (fun J g hr hG hl hR hn => ?_)
  show X J (fun b : Int64 => (some (Value.long b), M)) (fX11_top t M) 0 [(0, .ref t)] [] M
  unfold fX11_top
  exact (x_aload_n g 0 dX11_top_0 rfl rfl
 (x_getL g fl_RX11_99 rfl ht dX11_top_1
 (x_lret g hr rfl dX11_top_4)))
def fX11_bottom (t : Nat) (M : Mem) : Option Int64 :=
  some (M.2.1 t 4)
set_option maxRecDepth 100000 in
set_option maxHeartbeats 4000000 in
theorem kX11_bottom (t : Nat) (M : Mem) (ht : isO 11 t) (l : Launch) (G : GT) {b : Int64} (hE : fX11_bottom t M = some b) : Ok l G yX11_bottom cX11_bottom 1 (some .long) 0 0 [.ref t] M ((fun b : Int64 => (some (Value.long b), M)) b).1 ((fun b : Int64 => (some (Value.long b), M)) b).2 := by
  refine Ok.ofX (pj := (fun b : Int64 => (some (Value.long b), M))) (by decide) (Nat.le_of_ble_eq_true rfl) hE (fun J g hr hG hl hR hn => ?_)
  show X J (fun b : Int64 => (some (Value.long b), M)) (fX11_bottom t M) 0 [(0, .ref t)] [] M
  unfold fX11_bottom
  exact (x_aload_n g 0 dX11_bottom_0 rfl rfl
 (x_getL g fl_RX11_17 rfl ht dX11_bottom_1
 (x_lret g hr rfl dX11_bottom_4)))
def fX11_isTray (a1 : Int32) (M : Mem) : Option Int32 :=
  if a1 < 0 then
 some (0 : Int32)
 else
 if (4 : Int32) ≤ a1 then
 some (0 : Int32)
 else
 some (1 : Int32)
set_option maxRecDepth 100000 in
set_option maxHeartbeats 4000000 in
theorem kX11_isTray (a1 : Int32) (M : Mem) (l : Launch) (G : GT) {b : Int32} (hE : fX11_isTray a1 M = some b) : Ok l G yX11_isTray cX11_isTray 1 (some .boolean) 0 0 [.int a1] M ((fun b : Int32 => (some (Value.int b), M)) b).1 ((fun b : Int32 => (some (Value.int b), M)) b).2 := by
  refine Ok.ofX (pj := (fun b : Int32 => (some (Value.int b), M))) (by decide) (Nat.le_of_ble_eq_true rfl) hE (fun J g hr hG hl hR hn => ?_)
  show X J (fun b : Int32 => (some (Value.int b), M)) (fX11_isTray a1 M) 0 [(0, .int a1)] [] M
  unfold fX11_isTray
  exact (x_iload_n g 0 dX11_isTray_0 rfl rfl
 (x_if_lt g 13 dX11_isTray_1 rfl
 (fun _ => (x_iconst g dX11_isTray_13 kI_0
 (x_iret g hr rfl rfl dX11_isTray_14)))
 (fun _ => (x_iload_n g 0 dX11_isTray_4 rfl rfl
 (x_iconst g dX11_isTray_5 kI_4
 (x_icmp_ge g 13 dX11_isTray_6 rfl
 (fun _ => (x_iconst g dX11_isTray_13 kI_0
 (x_iret g hr rfl rfl dX11_isTray_14)))
 (fun _ => (x_iconst g dX11_isTray_9 kI_1
 (x_goto g 14 dX11_isTray_10 rfl
 (x_iret g hr rfl rfl dX11_isTray_14))))))))))
def fX11_is (t : Nat) (a1 : Int32) (M : Mem) : Option (Int32 × Mem) :=
  nm (stI M t 2 a1) (fun M1 =>
 if a1 = 0 then
 some ((1 : Int32), M1)
 else
 some ((0 : Int32), M1))
set_option maxRecDepth 100000 in
set_option maxHeartbeats 4000000 in
theorem kX11_is (t : Nat) (a1 : Int32) (M : Mem) (ht : isO 11 t) (l : Launch) (G : GT) {b : (Int32 × Mem)} (hE : fX11_is t a1 M = some b) : Ok l G yX11_is cX11_is 2 (some .boolean) 0 0 [.ref t, .int a1] M ((fun q : Int32 × Mem => (some (Value.int q.1), q.2)) b).1 ((fun q : Int32 × Mem => (some (Value.int q.1), q.2)) b).2 := by
  refine Ok.ofX (pj := (fun q : Int32 × Mem => (some (Value.int q.1), q.2))) (by decide) (Nat.le_of_ble_eq_true rfl) hE (fun J g hr hG hl hR hn => ?_)
  show X J (fun q : Int32 × Mem => (some (Value.int q.1), q.2)) (fX11_is t a1 M) 0 [(0, .ref t), (1, .int a1)] [] M
  unfold fX11_is
  exact (x_aload_n g 0 dX11_is_0 rfl rfl
 (x_iload_n g 1 dX11_is_1 rfl rfl
 (x_putI g fp_RX11_96 rfl (Nat.le_of_ble_eq_true rfl) ht dX11_is_2 (x_nmM (fun M1 =>
 (x_iload_n g 1 dX11_is_5 rfl rfl
 (x_if_ne g 13 dX11_is_6 rfl
 (fun _ => (x_iconst g dX11_is_13 kI_0
 (x_iret g hr rfl rfl dX11_is_14)))
 (fun _ => (x_iconst g dX11_is_9 kI_1
 (x_goto g 14 dX11_is_10 rfl
 (x_iret g hr rfl rfl dX11_is_14)))))))))))
def lX11_tray_49 (t : Nat) (x1 : Int32) (x3 : Int32) : Nat → Int32 → Mem → Option (Int32 × Mem)
  | 0, _, _ => none
  | n + 1, x4, M =>
    if x3 ≤ x4 then
 bd (fX11_is t (0 : Int32) M) fun v16 M17 =>
 if v16 = 0 ∨ v16 = 1 then some (v16, M17) else none
 else
 ixk (((60 : Int32) * x1) + x4) 240 (nm (stL M (t + 5) (((60 : Int32) * x1) + x4).toNatClampNeg (0 : Int64)) (fun M19 =>
 lX11_tray_49 t x1 x3 n (x4 + 1) M19))
theorem lX11_tray_49_s (t : Nat) (x1 : Int32) (x3 : Int32) (n : Nat) (x4 : Int32) (M : Mem) : lX11_tray_49 t x1 x3 (n + 1) x4 M =
    if x3 ≤ x4 then
 bd (fX11_is t (0 : Int32) M) fun v16 M17 =>
 if v16 = 0 ∨ v16 = 1 then some (v16, M17) else none
 else
 ixk (((60 : Int32) * x1) + x4) 240 (nm (stL M (t + 5) (((60 : Int32) * x1) + x4).toNatClampNeg (0 : Int64)) (fun M19 =>
 lX11_tray_49 t x1 x3 n (x4 + 1) M19)) := rfl
theorem lX11_tray_49_0 (t : Nat) (x1 : Int32) (x3 : Int32) (x4 : Int32) (M : Mem) : lX11_tray_49 t x1 x3 0 x4 M = none := rfl
set_option maxRecDepth 100000 in
set_option maxHeartbeats 4000000 in
theorem wlX11_tray_49 {J : JT} (g : Gd J cX11_tray RX11) (hr : Rt J (some .boolean)) (hR : (JR J).frames = 1 ∧ (JR J).locals = 21) (hn : Jn J = 5) (t : Nat) (x1 : Int32) (x3 : Int32) (ht : isO 11 t) : ∀ (n : Nat) (x4 : Int32) (M : Mem), X J (fun q : Int32 × Mem => (some (Value.int q.1), q.2)) (lX11_tray_49 t x1 x3 n x4 M) 49 [(0, .ref t), (1, .int x1), (3, .int x3), (4, .int x4)] [] M := by
  intro n
  induction n with
  | zero =>
    intro x4 M
    exact x_none
  | succ n ih =>
    intro x4 M
    rw [lX11_tray_49_s]
    exact (x_iload g 3 dX11_tray_49 rfl
 (x_iload_n g 2 dX11_tray_51 rfl rfl
 (x_icmp_ge g 74 dX11_tray_52 rfl
 (fun _ => (x_aload_n g 0 dX11_tray_74 rfl rfl
 (x_iconst g dX11_tray_75 kI_0
 (x_callVi (As := [.int (0 : Int32)]) g mv_X11_is mi_X11_is lk_RX11_109 ht (fun b Mh_ hb => kX11_is t (0 : Int32) M ht _ _ hb) rfl rfl hR ⟨Nat.le_of_ble_eq_true rfl, Nat.le_of_ble_eq_true rfl⟩ (Nat.le_of_ble_eq_true rfl) dX11_tray_76 (fun v16 M17 =>
 (x_ck (fun hq18 => x_iret g hr (nbz hq18) rfl dX11_tray_79)))))))
 (fun _ => (x_aload_n g 0 dX11_tray_55 rfl rfl
 (x_getS g 5 fl_RX11_27 rfl ht dX11_tray_56
 (x_bipush g dX11_tray_59 kB_60
 (x_iload_n g 1 dX11_tray_61 rfl rfl
 (x_imul g dX11_tray_62
 (x_iload g 3 dX11_tray_63 rfl
 (x_iadd g dX11_tray_65
 (x_lconst g dX11_tray_66 kL_0
 (x_last g (so_11_7 ht) dX11_tray_67 (x_nmM (fun M19 =>
 (x_iinc (L' := [(4, .int (x4 + 1)), (0, .ref t), (1, .int x1), (3, .int x3)]) (v := (x4 + 1)) g 3 dX11_tray_68 rfl (by rw [kI_1]) hn (Nat.le_of_ble_eq_true rfl) rfl
 (x_goto g 49 dX11_tray_71 rfl
 (x_sub [1, 2, 3, 0] rfl (ih (x4 + 1) M19)))))))))))))))))))
def fX11_tray (φ : Nat) (t : Nat) (a1 : Int32) (a2 : Int32) (a3 : Int32) (M : Mem) : Option (Int32 × Mem) :=
  (fX11_isTray a1 M).bind fun v1 =>
 if v1 = 0 then
 bd (fX11_is t (1 : Int32) M) fun v2 M3 =>
 if v2 = 0 ∨ v2 = 1 then some (v2, M3) else none
 else
 if a2 < 0 then
 bd (fX11_is t (1 : Int32) M) fun v5 M6 =>
 if v5 = 0 ∨ v5 = 1 then some (v5, M6) else none
 else
 if (3 : Int32) < a2 then
 bd (fX11_is t (1 : Int32) M) fun v8 M9 =>
 if v8 = 0 ∨ v8 = 1 then some (v8, M9) else none
 else
 if a3 < 0 then
 bd (fX11_is t (1 : Int32) M) fun v11 M12 =>
 if v11 = 0 ∨ v11 = 1 then some (v11, M12) else none
 else
 if a3 ≤ (60 : Int32) then
 ixk a1 4 (nm (stI M (t + 3) a1.toNatClampNeg a2) (fun M14 =>
 ixk a1 4 (nm (stI M14 (t + 4) a1.toNatClampNeg a3) (fun M15 =>
 lX11_tray_49 t a1 a3 φ (0 : Int32) M15))))
 else
 bd (fX11_is t (1 : Int32) M) fun v20 M21 =>
 if v20 = 0 ∨ v20 = 1 then some (v20, M21) else none
set_option maxRecDepth 100000 in
set_option maxHeartbeats 4000000 in
theorem kX11_tray (φ : Nat) (t : Nat) (a1 : Int32) (a2 : Int32) (a3 : Int32) (M : Mem) (ht : isO 11 t) (l : Launch) (G : GT) {b : (Int32 × Mem)} (hE : fX11_tray φ t a1 a2 a3 M = some b) : Ok l G yX11_tray cX11_tray 5 (some .boolean) 1 21 [.ref t, .int a1, .int a2, .int a3] M ((fun q : Int32 × Mem => (some (Value.int q.1), q.2)) b).1 ((fun q : Int32 × Mem => (some (Value.int q.1), q.2)) b).2 := by
  refine Ok.ofX (pj := (fun q : Int32 × Mem => (some (Value.int q.1), q.2))) (by decide) (Nat.le_of_ble_eq_true rfl) hE (fun J g hr hG hl hR hn => ?_)
  show X J (fun q : Int32 × Mem => (some (Value.int q.1), q.2)) (fX11_tray φ t a1 a2 a3 M) 0 [(0, .ref t), (1, .int a1), (2, .int a2), (3, .int a3)] [] M
  unfold fX11_tray
  exact (x_iload_n g 1 dX11_tray_0 rfl rfl
 (x_callSip (As := [.int a1]) g mv_X11_isTray ms_X11_isTray lk_RX11_113 (fun b hb => kX11_isTray a1 M _ _ hb) rfl rfl hR ⟨Nat.le_of_ble_eq_true rfl, Nat.le_of_ble_eq_true rfl⟩ (Nat.le_of_ble_eq_true rfl) dX11_tray_1 (fun v1 =>
 (x_if_eq g 26 dX11_tray_4 rfl
 (fun _ => (x_aload_n g 0 dX11_tray_26 rfl rfl
 (x_iconst g dX11_tray_27 kI_1
 (x_callVi (As := [.int (1 : Int32)]) g mv_X11_is mi_X11_is lk_RX11_109 ht (fun b Mh_ hb => kX11_is t (1 : Int32) M ht _ _ hb) rfl rfl hR ⟨Nat.le_of_ble_eq_true rfl, Nat.le_of_ble_eq_true rfl⟩ (Nat.le_of_ble_eq_true rfl) dX11_tray_28 (fun v2 M3 =>
 (x_ck (fun hq4 => x_iret g hr (nbz hq4) rfl dX11_tray_31)))))))
 (fun _ => (x_iload_n g 2 dX11_tray_7 rfl rfl
 (x_if_lt g 26 dX11_tray_8 rfl
 (fun _ => (x_aload_n g 0 dX11_tray_26 rfl rfl
 (x_iconst g dX11_tray_27 kI_1
 (x_callVi (As := [.int (1 : Int32)]) g mv_X11_is mi_X11_is lk_RX11_109 ht (fun b Mh_ hb => kX11_is t (1 : Int32) M ht _ _ hb) rfl rfl hR ⟨Nat.le_of_ble_eq_true rfl, Nat.le_of_ble_eq_true rfl⟩ (Nat.le_of_ble_eq_true rfl) dX11_tray_28 (fun v5 M6 =>
 (x_ck (fun hq7 => x_iret g hr (nbz hq7) rfl dX11_tray_31)))))))
 (fun _ => (x_iload_n g 2 dX11_tray_11 rfl rfl
 (x_iconst g dX11_tray_12 kI_3
 (x_icmp_gt g 26 dX11_tray_13 rfl
 (fun _ => (x_aload_n g 0 dX11_tray_26 rfl rfl
 (x_iconst g dX11_tray_27 kI_1
 (x_callVi (As := [.int (1 : Int32)]) g mv_X11_is mi_X11_is lk_RX11_109 ht (fun b Mh_ hb => kX11_is t (1 : Int32) M ht _ _ hb) rfl rfl hR ⟨Nat.le_of_ble_eq_true rfl, Nat.le_of_ble_eq_true rfl⟩ (Nat.le_of_ble_eq_true rfl) dX11_tray_28 (fun v8 M9 =>
 (x_ck (fun hq10 => x_iret g hr (nbz hq10) rfl dX11_tray_31)))))))
 (fun _ => (x_iload_n g 3 dX11_tray_16 rfl rfl
 (x_if_lt g 26 dX11_tray_17 rfl
 (fun _ => (x_aload_n g 0 dX11_tray_26 rfl rfl
 (x_iconst g dX11_tray_27 kI_1
 (x_callVi (As := [.int (1 : Int32)]) g mv_X11_is mi_X11_is lk_RX11_109 ht (fun b Mh_ hb => kX11_is t (1 : Int32) M ht _ _ hb) rfl rfl hR ⟨Nat.le_of_ble_eq_true rfl, Nat.le_of_ble_eq_true rfl⟩ (Nat.le_of_ble_eq_true rfl) dX11_tray_28 (fun v11 M12 =>
 (x_ck (fun hq13 => x_iret g hr (nbz hq13) rfl dX11_tray_31)))))))
 (fun _ => (x_iload_n g 3 dX11_tray_20 rfl rfl
 (x_bipush g dX11_tray_21 kB_60
 (x_icmp_le g 32 dX11_tray_23 rfl
 (fun _ => (x_aload_n g 0 dX11_tray_32 rfl rfl
 (x_getS g 3 fl_RX11_21 rfl ht dX11_tray_33
 (x_iload_n g 1 dX11_tray_36 rfl rfl
 (x_iload_n g 2 dX11_tray_37 rfl rfl
 (x_iast g (so_11_5 ht) dX11_tray_38 (x_nmM (fun M14 =>
 (x_aload_n g 0 dX11_tray_39 rfl rfl
 (x_getS g 4 fl_RX11_24 rfl ht dX11_tray_40
 (x_iload_n g 1 dX11_tray_43 rfl rfl
 (x_iload_n g 3 dX11_tray_44 rfl rfl
 (x_iast g (so_11_6 ht) dX11_tray_45 (x_nmM (fun M15 =>
 (x_iconst g dX11_tray_46 kI_0
 (x_istore (L' := [(4, .int (0 : Int32)), (0, .ref t), (1, .int a1), (2, .int a2), (3, .int a3)]) g dX11_tray_47 hn (Nat.le_of_ble_eq_true rfl) rfl
 (x_sub [1, 2, 4, 0] rfl (wlX11_tray_49 g hr hR hn  t a1 a3 ht φ (0 : Int32) M15)))))))))))))))))))
 (fun _ => (x_aload_n g 0 dX11_tray_26 rfl rfl
 (x_iconst g dX11_tray_27 kI_1
 (x_callVi (As := [.int (1 : Int32)]) g mv_X11_is mi_X11_is lk_RX11_109 ht (fun b Mh_ hb => kX11_is t (1 : Int32) M ht _ _ hb) rfl rfl hR ⟨Nat.le_of_ble_eq_true rfl, Nat.le_of_ble_eq_true rfl⟩ (Nat.le_of_ble_eq_true rfl) dX11_tray_28 (fun v20 M21 =>
 (x_ck (fun hq22 => x_iret g hr (nbz hq22) rfl dX11_tray_31)))))))))))))))))))))))))
def fX11_wrongPlace (t : Nat) (a1 : Int32) (a2 : Int32) (M : Mem) : Option Int32 :=
  (fX11_isTray a1 M).bind fun v1 =>
 if v1 = 0 then
 some (1 : Int32)
 else
 ixk a1 4 (
 if (M.1 (t + 4) a1.toNatClampNeg) = (-1 : Int32) then
 some (2 : Int32)
 else
 if a2 < 0 then
 some (3 : Int32)
 else
 ixk a1 4 (
 if a2 < (M.1 (t + 4) a1.toNatClampNeg) then
 some (0 : Int32)
 else
 some (3 : Int32)))
set_option maxRecDepth 100000 in
set_option maxHeartbeats 4000000 in
theorem kX11_wrongPlace (t : Nat) (a1 : Int32) (a2 : Int32) (M : Mem) (ht : isO 11 t) (l : Launch) (G : GT) {b : Int32} (hE : fX11_wrongPlace t a1 a2 M = some b) : Ok l G yX11_wrongPlace cX11_wrongPlace 3 (some .int) 1 20 [.ref t, .int a1, .int a2] M ((fun b : Int32 => (some (Value.int b), M)) b).1 ((fun b : Int32 => (some (Value.int b), M)) b).2 := by
  refine Ok.ofX (pj := (fun b : Int32 => (some (Value.int b), M))) (by decide) (Nat.le_of_ble_eq_true rfl) hE (fun J g hr hG hl hR hn => ?_)
  show X J (fun b : Int32 => (some (Value.int b), M)) (fX11_wrongPlace t a1 a2 M) 0 [(0, .ref t), (1, .int a1), (2, .int a2)] [] M
  unfold fX11_wrongPlace
  exact (x_iload_n g 1 dX11_wrongPlace_0 rfl rfl
 (x_callSip (As := [.int a1]) g mv_X11_isTray ms_X11_isTray lk_RX11_113 (fun b hb => kX11_isTray a1 M _ _ hb) rfl rfl hR ⟨Nat.le_of_ble_eq_true rfl, Nat.le_of_ble_eq_true rfl⟩ (Nat.le_of_ble_eq_true rfl) dX11_wrongPlace_1 (fun v1 =>
 (x_if_ne g 11 dX11_wrongPlace_4 rfl
 (fun _ => (x_aload_n g 0 dX11_wrongPlace_11 rfl rfl
 (x_getS g 4 fl_RX11_24 rfl ht dX11_wrongPlace_12
 (x_iload_n g 1 dX11_wrongPlace_15 rfl rfl
 (x_iald g (so_11_6 ht) dX11_wrongPlace_16
 (x_iconst g dX11_wrongPlace_17 kI_m1
 (x_icmp_ne g 25 dX11_wrongPlace_18 rfl
 (fun _ => (x_iload_n g 2 dX11_wrongPlace_25 rfl rfl
 (x_if_lt g 39 dX11_wrongPlace_26 rfl
 (fun _ => (x_iconst g dX11_wrongPlace_39 kI_3
 (x_goto g 44 dX11_wrongPlace_40 rfl
 (x_iret g hr rfl rfl dX11_wrongPlace_44))))
 (fun _ => (x_iload_n g 2 dX11_wrongPlace_29 rfl rfl
 (x_aload_n g 0 dX11_wrongPlace_30 rfl rfl
 (x_getS g 4 fl_RX11_24 rfl ht dX11_wrongPlace_31
 (x_iload_n g 1 dX11_wrongPlace_34 rfl rfl
 (x_iald g (so_11_6 ht) dX11_wrongPlace_35
 (x_icmp_lt g 43 dX11_wrongPlace_36 rfl
 (fun _ => (x_iconst g dX11_wrongPlace_43 kI_0
 (x_iret g hr rfl rfl dX11_wrongPlace_44)))
 (fun _ => (x_iconst g dX11_wrongPlace_39 kI_3
 (x_goto g 44 dX11_wrongPlace_40 rfl
 (x_iret g hr rfl rfl dX11_wrongPlace_44))))))))))))))
 (fun _ => (x_iconst g dX11_wrongPlace_21 kI_2
 (x_goto g 44 dX11_wrongPlace_22 rfl
 (x_iret g hr rfl rfl dX11_wrongPlace_44)))))))))))
 (fun _ => (x_iconst g dX11_wrongPlace_7 kI_1
 (x_goto g 44 dX11_wrongPlace_8 rfl
 (x_iret g hr rfl rfl dX11_wrongPlace_44))))))))
def fX11_cut (a1 : Int64) (a2 : Int32) (M : Mem) : Option Int64 :=
  if a2 = 0 then
 some (((a1.toInt32).toInt8.toInt32).toInt64)
 else
 if a2 = (1 : Int32) then
 some (((a1.toInt32).toInt16.toInt32).toInt64)
 else
 if a2 = (2 : Int32) then
 some ((a1.toInt32).toInt64)
 else
 some a1
set_option maxRecDepth 100000 in
set_option maxHeartbeats 4000000 in
theorem kX11_cut (a1 : Int64) (a2 : Int32) (M : Mem) (l : Launch) (G : GT) {b : Int64} (hE : fX11_cut a1 a2 M = some b) : Ok l G yX11_cut cX11_cut 3 (some .long) 0 0 [.long a1, .int a2] M ((fun b : Int64 => (some (Value.long b), M)) b).1 ((fun b : Int64 => (some (Value.long b), M)) b).2 := by
  refine Ok.ofX (pj := (fun b : Int64 => (some (Value.long b), M))) (by decide) (Nat.le_of_ble_eq_true rfl) hE (fun J g hr hG hl hR hn => ?_)
  show X J (fun b : Int64 => (some (Value.long b), M)) (fX11_cut a1 a2 M) 0 [(0, .long a1), (2, .int a2)] [] M
  unfold fX11_cut
  exact (x_iload_n g 1 dX11_cut_0 rfl rfl
 (x_if_ne g 11 dX11_cut_1 rfl
 (fun _ => (x_iload_n g 1 dX11_cut_11 rfl rfl
 (x_iconst g dX11_cut_12 kI_1
 (x_icmp_ne g 23 dX11_cut_13 rfl
 (fun _ => (x_iload_n g 1 dX11_cut_23 rfl rfl
 (x_iconst g dX11_cut_24 kI_2
 (x_icmp_ne g 34 dX11_cut_25 rfl
 (fun _ => (x_lload_n g 0 dX11_cut_34 rfl rfl
 (x_lret g hr rfl dX11_cut_35)))
 (fun _ => (x_lload_n g 0 dX11_cut_28 rfl rfl
 (x_l2i g dX11_cut_29
 (x_i2l g dX11_cut_30
 (x_goto g 35 dX11_cut_31 rfl
 (x_lret g hr rfl dX11_cut_35))))))))))
 (fun _ => (x_lload_n g 0 dX11_cut_16 rfl rfl
 (x_l2i g dX11_cut_17
 (x_i2s g dX11_cut_18
 (x_i2l g dX11_cut_19
 (x_goto g 35 dX11_cut_20 rfl
 (x_lret g hr rfl dX11_cut_35)))))))))))
 (fun _ => (x_lload_n g 0 dX11_cut_4 rfl rfl
 (x_l2i g dX11_cut_5
 (x_i2b g dX11_cut_6
 (x_i2l g dX11_cut_7
 (x_goto g 35 dX11_cut_8 rfl
 (x_lret g hr rfl dX11_cut_35)))))))))
def fX11_write (t : Nat) (a1 : Int32) (a2 : Int32) (a3 : Int64) (M : Mem) : Option (Int32 × Mem) :=
  (fX11_wrongPlace t a1 a2 M).bind fun v1 =>
 if v1 = 0 then
 ixk a1 4 (
 (fX11_cut a3 (M.1 (t + 3) a1.toNatClampNeg) M).bind fun vz5 =>
 ixk (((60 : Int32) * a1) + a2) 240 (nm (stL M (t + 5) (((60 : Int32) * a1) + a2).toNatClampNeg vz5) (fun M6 =>
 bd (fX11_is t v1 M6) fun v7 M8 =>
 if v7 = 0 ∨ v7 = 1 then some (v7, M8) else none)))
 else
 bd (fX11_is t v1 M) fun v2 M3 =>
 if v2 = 0 ∨ v2 = 1 then some (v2, M3) else none
set_option maxRecDepth 100000 in
set_option maxHeartbeats 4000000 in
theorem kX11_write (t : Nat) (a1 : Int32) (a2 : Int32) (a3 : Int64) (M : Mem) (ht : isO 11 t) (l : Launch) (G : GT) {b : (Int32 × Mem)} (hE : fX11_write t a1 a2 a3 M = some b) : Ok l G yX11_write cX11_write 6 (some .boolean) 2 42 [.ref t, .int a1, .int a2, .long a3] M ((fun q : Int32 × Mem => (some (Value.int q.1), q.2)) b).1 ((fun q : Int32 × Mem => (some (Value.int q.1), q.2)) b).2 := by
  refine Ok.ofX (pj := (fun q : Int32 × Mem => (some (Value.int q.1), q.2))) (by decide) (Nat.le_of_ble_eq_true rfl) hE (fun J g hr hG hl hR hn => ?_)
  show X J (fun q : Int32 × Mem => (some (Value.int q.1), q.2)) (fX11_write t a1 a2 a3 M) 0 [(0, .ref t), (1, .int a1), (2, .int a2), (3, .long a3)] [] M
  unfold fX11_write
  exact (x_aload_n g 0 dX11_write_0 rfl rfl
 (x_iload_n g 1 dX11_write_1 rfl rfl
 (x_iload_n g 2 dX11_write_2 rfl rfl
 (x_callVip (As := [.int a1, .int a2]) g mv_X11_wrongPlace mi_X11_wrongPlace lk_RX11_116 ht (fun b hb => kX11_wrongPlace t a1 a2 M ht _ _ hb) rfl rfl hR ⟨Nat.le_of_ble_eq_true rfl, Nat.le_of_ble_eq_true rfl⟩ (Nat.le_of_ble_eq_true rfl) dX11_write_3 (fun v1 =>
 (x_istore (L' := [(5, .int v1), (0, .ref t), (1, .int a1), (2, .int a2), (3, .long a3)]) g dX11_write_6 hn (Nat.le_of_ble_eq_true rfl) rfl
 (x_iload g 0 dX11_write_8 rfl
 (x_if_ne g 34 dX11_write_10 rfl
 (fun _ => (x_aload_n g 1 dX11_write_34 rfl rfl
 (x_iload g 0 dX11_write_35 rfl
 (x_callVi (As := [.int v1]) g mv_X11_is mi_X11_is lk_RX11_109 ht (fun b Mh_ hb => kX11_is t v1 M ht _ _ hb) rfl rfl hR ⟨Nat.le_of_ble_eq_true rfl, Nat.le_of_ble_eq_true rfl⟩ (Nat.le_of_ble_eq_true rfl) dX11_write_37 (fun v2 M3 =>
 (x_ck (fun hq4 => x_iret g hr (nbz hq4) rfl dX11_write_40)))))))
 (fun _ => (x_aload_n g 1 dX11_write_13 rfl rfl
 (x_getS g 5 fl_RX11_27 rfl ht dX11_write_14
 (x_bipush g dX11_write_17 kB_60
 (x_iload_n g 2 dX11_write_19 rfl rfl
 (x_imul g dX11_write_20
 (x_iload_n g 3 dX11_write_21 rfl rfl
 (x_iadd g dX11_write_22
 (x_lload_n g 4 dX11_write_23 rfl rfl
 (x_aload_n g 1 dX11_write_24 rfl rfl
 (x_getS g 3 fl_RX11_21 rfl ht dX11_write_25
 (x_iload_n g 2 dX11_write_28 rfl rfl
 (x_iald g (so_11_5 ht) dX11_write_29
 (x_callSlp (As := [.long a3, .int (M.1 (t + 3) a1.toNatClampNeg)]) g mv_X11_cut ms_X11_cut lk_RX11_120 (fun b hb => kX11_cut a3 (M.1 (t + 3) a1.toNatClampNeg) M _ _ hb) rfl rfl hR ⟨Nat.le_of_ble_eq_true rfl, Nat.le_of_ble_eq_true rfl⟩ (Nat.le_of_ble_eq_true rfl) dX11_write_30 (fun vz5 =>
 (x_last g (so_11_7 ht) dX11_write_33 (x_nmM (fun M6 =>
 (x_aload_n g 1 dX11_write_34 rfl rfl
 (x_iload g 0 dX11_write_35 rfl
 (x_callVi (As := [.int v1]) g mv_X11_is mi_X11_is lk_RX11_109 ht (fun b Mh_ hb => kX11_is t v1 M6 ht _ _ hb) rfl rfl hR ⟨Nat.le_of_ble_eq_true rfl, Nat.le_of_ble_eq_true rfl⟩ (Nat.le_of_ble_eq_true rfl) dX11_write_37 (fun v7 M8 =>
 (x_ck (fun hq9 => x_iret g hr (nbz hq9) rfl dX11_write_40))))))))))))))))))))))))))))))))
def fX11_read (t : Nat) (a1 : Int32) (a2 : Int32) (M : Mem) : Option (Int64 × Mem) :=
  (fX11_wrongPlace t a1 a2 M).bind fun v1 =>
 nm (stI M t 2 v1) (fun M2 =>
 if (M2.1 t 2) ≤ 0 then
 ixk (((60 : Int32) * a1) + a2) 240 (
 some ((M2.2.1 (t + 5) (((60 : Int32) * a1) + a2).toNatClampNeg), M2))
 else
 some ((-1 : Int64), M2))
set_option maxRecDepth 100000 in
set_option maxHeartbeats 4000000 in
theorem kX11_read (t : Nat) (a1 : Int32) (a2 : Int32) (M : Mem) (ht : isO 11 t) (l : Launch) (G : GT) {b : (Int64 × Mem)} (hE : fX11_read t a1 a2 M = some b) : Ok l G yX11_read cX11_read 3 (some .long) 2 42 [.ref t, .int a1, .int a2] M ((fun q : Int64 × Mem => (some (Value.long q.1), q.2)) b).1 ((fun q : Int64 × Mem => (some (Value.long q.1), q.2)) b).2 := by
  refine Ok.ofX (pj := (fun q : Int64 × Mem => (some (Value.long q.1), q.2))) (by decide) (Nat.le_of_ble_eq_true rfl) hE (fun J g hr hG hl hR hn => ?_)
  show X J (fun q : Int64 × Mem => (some (Value.long q.1), q.2)) (fX11_read t a1 a2 M) 0 [(0, .ref t), (1, .int a1), (2, .int a2)] [] M
  unfold fX11_read
  exact (x_aload_n g 0 dX11_read_0 rfl rfl
 (x_aload_n g 0 dX11_read_1 rfl rfl
 (x_iload_n g 1 dX11_read_2 rfl rfl
 (x_iload_n g 2 dX11_read_3 rfl rfl
 (x_callVip (As := [.int a1, .int a2]) g mv_X11_wrongPlace mi_X11_wrongPlace lk_RX11_116 ht (fun b hb => kX11_wrongPlace t a1 a2 M ht _ _ hb) rfl rfl hR ⟨Nat.le_of_ble_eq_true rfl, Nat.le_of_ble_eq_true rfl⟩ (Nat.le_of_ble_eq_true rfl) dX11_read_4 (fun v1 =>
 (x_putI g fp_RX11_96 rfl (Nat.le_of_ble_eq_true rfl) ht dX11_read_7 (x_nmM (fun M2 =>
 (x_aload_n g 0 dX11_read_10 rfl rfl
 (x_getI g fl_RX11_96 rfl ht dX11_read_11
 (x_if_le g 23 dX11_read_14 rfl
 (fun _ => (x_aload_n g 0 dX11_read_23 rfl rfl
 (x_getS g 5 fl_RX11_27 rfl ht dX11_read_24
 (x_bipush g dX11_read_27 kB_60
 (x_iload_n g 1 dX11_read_29 rfl rfl
 (x_imul g dX11_read_30
 (x_iload_n g 2 dX11_read_31 rfl rfl
 (x_iadd g dX11_read_32
 (x_lald g (so_11_7 ht) dX11_read_33
 (x_lret g hr rfl dX11_read_34))))))))))
 (fun _ => (x_ldc2 g cw_RX11_124 dX11_read_17
 (x_goto g 34 dX11_read_20 rfl
 (x_lret g hr rfl dX11_read_34))))))))))))))))
def lX11_pour_118 (t : Nat) (x1 : Int32) (x2 : Int32) (x3 : Int32) (x4 : Int32) (x5 : Int32) : Nat → Int32 → Mem → Option (Int32 × Mem)
  | 0, _, _ => none
  | n + 1, x6, M =>
    if x5 ≤ x6 then
 bd (fX11_is t (0 : Int32) M) fun v21 M22 =>
 if v21 = 0 ∨ v21 = 1 then some (v21, M22) else none
 else
 jn (fun (v24 : Int32) => ixk ((((60 : Int32) * x1) + x2) + v24) 240 (
 ixk ((((60 : Int32) * x3) + x4) + v24) 240 (nm (stL M (t + 5) ((((60 : Int32) * x3) + x4) + v24).toNatClampNeg (M.2.1 (t + 5) ((((60 : Int32) * x1) + x2) + v24).toNatClampNeg)) (fun M26 =>
 lX11_pour_118 t x1 x2 x3 x4 x5 n (x6 + 1) M26)))) (fun J25 => if x4 ≤ x2 then
 J25 x6
 else
 J25 ((x5 - (1 : Int32)) - x6))
theorem lX11_pour_118_s (t : Nat) (x1 : Int32) (x2 : Int32) (x3 : Int32) (x4 : Int32) (x5 : Int32) (n : Nat) (x6 : Int32) (M : Mem) : lX11_pour_118 t x1 x2 x3 x4 x5 (n + 1) x6 M =
    if x5 ≤ x6 then
 bd (fX11_is t (0 : Int32) M) fun v21 M22 =>
 if v21 = 0 ∨ v21 = 1 then some (v21, M22) else none
 else
 jn (fun (v24 : Int32) => ixk ((((60 : Int32) * x1) + x2) + v24) 240 (
 ixk ((((60 : Int32) * x3) + x4) + v24) 240 (nm (stL M (t + 5) ((((60 : Int32) * x3) + x4) + v24).toNatClampNeg (M.2.1 (t + 5) ((((60 : Int32) * x1) + x2) + v24).toNatClampNeg)) (fun M26 =>
 lX11_pour_118 t x1 x2 x3 x4 x5 n (x6 + 1) M26)))) (fun J25 => if x4 ≤ x2 then
 J25 x6
 else
 J25 ((x5 - (1 : Int32)) - x6)) := rfl
theorem lX11_pour_118_0 (t : Nat) (x1 : Int32) (x2 : Int32) (x3 : Int32) (x4 : Int32) (x5 : Int32) (x6 : Int32) (M : Mem) : lX11_pour_118 t x1 x2 x3 x4 x5 0 x6 M = none := rfl
set_option maxRecDepth 100000 in
set_option maxHeartbeats 4000000 in
theorem wlX11_pour_118 {J : JT} (g : Gd J cX11_pour RX11) (hr : Rt J (some .boolean)) (hR : (JR J).frames = 1 ∧ (JR J).locals = 21) (hn : Jn J = 8) (t : Nat) (x1 : Int32) (x2 : Int32) (x3 : Int32) (x4 : Int32) (x5 : Int32) (ht : isO 11 t) : ∀ (n : Nat) (x6 : Int32) (M : Mem), X J (fun q : Int32 × Mem => (some (Value.int q.1), q.2)) (lX11_pour_118 t x1 x2 x3 x4 x5 n x6 M) 118 [(0, .ref t), (1, .int x1), (2, .int x2), (3, .int x3), (4, .int x4), (5, .int x5), (6, .int x6)] [] M := by
  intro n
  induction n with
  | zero =>
    intro x6 M
    exact x_none
  | succ n ih =>
    intro x6 M
    rw [lX11_pour_118_s]
    exact (x_iload g 6 dX11_pour_118 rfl
 (x_iload g 5 dX11_pour_120 rfl
 (x_icmp_ge g 180 dX11_pour_122 rfl
 (fun _ => (x_aload_n g 0 dX11_pour_180 rfl rfl
 (x_iconst g dX11_pour_181 kI_0
 (x_callVi (As := [.int (0 : Int32)]) g mv_X11_is mi_X11_is lk_RX11_109 ht (fun b Mh_ hb => kX11_is t (0 : Int32) M ht _ _ hb) rfl rfl hR ⟨Nat.le_of_ble_eq_true rfl, Nat.le_of_ble_eq_true rfl⟩ (Nat.le_of_ble_eq_true rfl) dX11_pour_182 (fun v21 M22 =>
 (x_ck (fun hq23 => x_iret g hr (nbz hq23) rfl dX11_pour_185)))))))
 (fun _ => (x_iload_n g 2 dX11_pour_125 rfl rfl
 (x_iload g 4 dX11_pour_126 rfl
 (x_jn (fun (J25 : Int32 → Option (Int32 × Mem)) => ∀ (v24 : Int32), X J (fun q : Int32 × Mem => (some (Value.int q.1), q.2)) (J25 v24) 143 [(0, .ref t), (1, .int x1), (2, .int x2), (3, .int x3), (4, .int x4), (5, .int x5), (6, .int x6)] [.int v24] M) (fun v24 => (x_istore (L' := [(7, .int v24), (0, .ref t), (1, .int x1), (2, .int x2), (3, .int x3), (4, .int x4), (5, .int x5), (6, .int x6)]) g dX11_pour_143 hn (Nat.le_of_ble_eq_true rfl) rfl
 (x_aload_n g 1 dX11_pour_145 rfl rfl
 (x_getS g 5 fl_RX11_27 rfl ht dX11_pour_146
 (x_bipush g dX11_pour_149 kB_60
 (x_iload_n g 4 dX11_pour_151 rfl rfl
 (x_imul g dX11_pour_152
 (x_iload g 5 dX11_pour_153 rfl
 (x_iadd g dX11_pour_155
 (x_iload g 0 dX11_pour_156 rfl
 (x_iadd g dX11_pour_158
 (x_aload_n g 1 dX11_pour_159 rfl rfl
 (x_getS g 5 fl_RX11_27 rfl ht dX11_pour_160
 (x_bipush g dX11_pour_163 kB_60
 (x_iload_n g 2 dX11_pour_165 rfl rfl
 (x_imul g dX11_pour_166
 (x_iload_n g 3 dX11_pour_167 rfl rfl
 (x_iadd g dX11_pour_168
 (x_iload g 0 dX11_pour_169 rfl
 (x_iadd g dX11_pour_171
 (x_lald g (so_11_7 ht) dX11_pour_172
 (x_last g (so_11_7 ht) dX11_pour_173 (x_nmM (fun M26 =>
 (x_iinc (L' := [(6, .int (x6 + 1)), (7, .int v24), (0, .ref t), (1, .int x1), (2, .int x2), (3, .int x3), (4, .int x4), (5, .int x5)]) (v := (x6 + 1)) g 7 dX11_pour_174 rfl (by rw [kI_1]) hn (Nat.le_of_ble_eq_true rfl) rfl
 (x_goto g 118 dX11_pour_177 rfl
 (x_sub [2, 3, 4, 5, 6, 7, 0] rfl (ih (x6 + 1) M26)))))))))))))))))))))))))))) (fun J25 hJ25 => (x_icmp_ge g 141 dX11_pour_128 rfl
 (fun _ => (x_iload g 6 dX11_pour_141 rfl
 (hJ25 x6)))
 (fun _ => (x_iload g 5 dX11_pour_131 rfl
 (x_iconst g dX11_pour_133 kI_1
 (x_isub g dX11_pour_134
 (x_iload g 6 dX11_pour_135 rfl
 (x_isub g dX11_pour_137
 (x_goto g 143 dX11_pour_138 rfl
 (hJ25 ((x5 - (1 : Int32)) - x6))))))))))))))))))
def fX11_pour (φ : Nat) (t : Nat) (a1 : Int32) (a2 : Int32) (a3 : Int32) (a4 : Int32) (a5 : Int32) (M : Mem) : Option (Int32 × Mem) :=
  (fX11_isTray a1 M).bind fun v1 =>
 if v1 = 0 then
 bd (fX11_is t (1 : Int32) M) fun v2 M3 =>
 if v2 = 0 ∨ v2 = 1 then some (v2, M3) else none
 else
 (fX11_isTray a3 M).bind fun v5 =>
 if v5 = 0 then
 bd (fX11_is t (1 : Int32) M) fun v6 M7 =>
 if v6 = 0 ∨ v6 = 1 then some (v6, M7) else none
 else
 if a2 < 0 then
 bd (fX11_is t (1 : Int32) M) fun v9 M10 =>
 if v9 = 0 ∨ v9 = 1 then some (v9, M10) else none
 else
 if a4 < 0 then
 bd (fX11_is t (1 : Int32) M) fun v12 M13 =>
 if v12 = 0 ∨ v12 = 1 then some (v12, M13) else none
 else
 if 0 ≤ a5 then
 ixk a1 4 (
 if (M.1 (t + 4) a1.toNatClampNeg) = (-1 : Int32) then
 bd (fX11_is t (2 : Int32) M) fun v15 M16 =>
 if v15 = 0 ∨ v15 = 1 then some (v15, M16) else none
 else
 ixk a3 4 (
 if (M.1 (t + 4) a3.toNatClampNeg) = (-1 : Int32) then
 bd (fX11_is t (2 : Int32) M) fun v33 M34 =>
 if v33 = 0 ∨ v33 = 1 then some (v33, M34) else none
 else
 ixk a1 4 (
 ixk a3 4 (
 if (M.1 (t + 3) a1.toNatClampNeg) = (M.1 (t + 3) a3.toNatClampNeg) then
 ixk a1 4 (
 if ((M.1 (t + 4) a1.toNatClampNeg) - a2) < a5 then
 bd (fX11_is t (3 : Int32) M) fun v18 M19 =>
 if v18 = 0 ∨ v18 = 1 then some (v18, M19) else none
 else
 ixk a3 4 (
 if a5 ≤ ((M.1 (t + 4) a3.toNatClampNeg) - a4) then
 lX11_pour_118 t a1 a2 a3 a4 a5 φ (0 : Int32) M
 else
 bd (fX11_is t (3 : Int32) M) fun v27 M28 =>
 if v27 = 0 ∨ v27 = 1 then some (v27, M28) else none))
 else
 bd (fX11_is t (8 : Int32) M) fun v30 M31 =>
 if v30 = 0 ∨ v30 = 1 then some (v30, M31) else none))))
 else
 bd (fX11_is t (1 : Int32) M) fun v36 M37 =>
 if v36 = 0 ∨ v36 = 1 then some (v36, M37) else none
set_option maxRecDepth 100000 in
set_option maxHeartbeats 4000000 in
theorem kX11_pour (φ : Nat) (t : Nat) (a1 : Int32) (a2 : Int32) (a3 : Int32) (a4 : Int32) (a5 : Int32) (M : Mem) (ht : isO 11 t) (l : Launch) (G : GT) {b : (Int32 × Mem)} (hE : fX11_pour φ t a1 a2 a3 a4 a5 M = some b) : Ok l G yX11_pour cX11_pour 8 (some .boolean) 1 21 [.ref t, .int a1, .int a2, .int a3, .int a4, .int a5] M ((fun q : Int32 × Mem => (some (Value.int q.1), q.2)) b).1 ((fun q : Int32 × Mem => (some (Value.int q.1), q.2)) b).2 := by
  refine Ok.ofX (pj := (fun q : Int32 × Mem => (some (Value.int q.1), q.2))) (by decide) (Nat.le_of_ble_eq_true rfl) hE (fun J g hr hG hl hR hn => ?_)
  show X J (fun q : Int32 × Mem => (some (Value.int q.1), q.2)) (fX11_pour φ t a1 a2 a3 a4 a5 M) 0 [(0, .ref t), (1, .int a1), (2, .int a2), (3, .int a3), (4, .int a4), (5, .int a5)] [] M
  unfold fX11_pour
  exact (x_iload_n g 1 dX11_pour_0 rfl rfl
 (x_callSip (As := [.int a1]) g mv_X11_isTray ms_X11_isTray lk_RX11_113 (fun b hb => kX11_isTray a1 M _ _ hb) rfl rfl hR ⟨Nat.le_of_ble_eq_true rfl, Nat.le_of_ble_eq_true rfl⟩ (Nat.le_of_ble_eq_true rfl) dX11_pour_1 (fun v1 =>
 (x_if_eq g 28 dX11_pour_4 rfl
 (fun _ => (x_aload_n g 0 dX11_pour_28 rfl rfl
 (x_iconst g dX11_pour_29 kI_1
 (x_callVi (As := [.int (1 : Int32)]) g mv_X11_is mi_X11_is lk_RX11_109 ht (fun b Mh_ hb => kX11_is t (1 : Int32) M ht _ _ hb) rfl rfl hR ⟨Nat.le_of_ble_eq_true rfl, Nat.le_of_ble_eq_true rfl⟩ (Nat.le_of_ble_eq_true rfl) dX11_pour_30 (fun v2 M3 =>
 (x_ck (fun hq4 => x_iret g hr (nbz hq4) rfl dX11_pour_33)))))))
 (fun _ => (x_iload_n g 3 dX11_pour_7 rfl rfl
 (x_callSip (As := [.int a3]) g mv_X11_isTray ms_X11_isTray lk_RX11_113 (fun b hb => kX11_isTray a3 M _ _ hb) rfl rfl hR ⟨Nat.le_of_ble_eq_true rfl, Nat.le_of_ble_eq_true rfl⟩ (Nat.le_of_ble_eq_true rfl) dX11_pour_8 (fun v5 =>
 (x_if_eq g 28 dX11_pour_11 rfl
 (fun _ => (x_aload_n g 0 dX11_pour_28 rfl rfl
 (x_iconst g dX11_pour_29 kI_1
 (x_callVi (As := [.int (1 : Int32)]) g mv_X11_is mi_X11_is lk_RX11_109 ht (fun b Mh_ hb => kX11_is t (1 : Int32) M ht _ _ hb) rfl rfl hR ⟨Nat.le_of_ble_eq_true rfl, Nat.le_of_ble_eq_true rfl⟩ (Nat.le_of_ble_eq_true rfl) dX11_pour_30 (fun v6 M7 =>
 (x_ck (fun hq8 => x_iret g hr (nbz hq8) rfl dX11_pour_33)))))))
 (fun _ => (x_iload_n g 2 dX11_pour_14 rfl rfl
 (x_if_lt g 28 dX11_pour_15 rfl
 (fun _ => (x_aload_n g 0 dX11_pour_28 rfl rfl
 (x_iconst g dX11_pour_29 kI_1
 (x_callVi (As := [.int (1 : Int32)]) g mv_X11_is mi_X11_is lk_RX11_109 ht (fun b Mh_ hb => kX11_is t (1 : Int32) M ht _ _ hb) rfl rfl hR ⟨Nat.le_of_ble_eq_true rfl, Nat.le_of_ble_eq_true rfl⟩ (Nat.le_of_ble_eq_true rfl) dX11_pour_30 (fun v9 M10 =>
 (x_ck (fun hq11 => x_iret g hr (nbz hq11) rfl dX11_pour_33)))))))
 (fun _ => (x_iload g 4 dX11_pour_18 rfl
 (x_if_lt g 28 dX11_pour_20 rfl
 (fun _ => (x_aload_n g 0 dX11_pour_28 rfl rfl
 (x_iconst g dX11_pour_29 kI_1
 (x_callVi (As := [.int (1 : Int32)]) g mv_X11_is mi_X11_is lk_RX11_109 ht (fun b Mh_ hb => kX11_is t (1 : Int32) M ht _ _ hb) rfl rfl hR ⟨Nat.le_of_ble_eq_true rfl, Nat.le_of_ble_eq_true rfl⟩ (Nat.le_of_ble_eq_true rfl) dX11_pour_30 (fun v12 M13 =>
 (x_ck (fun hq14 => x_iret g hr (nbz hq14) rfl dX11_pour_33)))))))
 (fun _ => (x_iload g 5 dX11_pour_23 rfl
 (x_if_ge g 34 dX11_pour_25 rfl
 (fun _ => (x_aload_n g 0 dX11_pour_34 rfl rfl
 (x_getS g 4 fl_RX11_24 rfl ht dX11_pour_35
 (x_iload_n g 1 dX11_pour_38 rfl rfl
 (x_iald g (so_11_6 ht) dX11_pour_39
 (x_iconst g dX11_pour_40 kI_m1
 (x_icmp_eq g 54 dX11_pour_41 rfl
 (fun _ => (x_aload_n g 0 dX11_pour_54 rfl rfl
 (x_iconst g dX11_pour_55 kI_2
 (x_callVi (As := [.int (2 : Int32)]) g mv_X11_is mi_X11_is lk_RX11_109 ht (fun b Mh_ hb => kX11_is t (2 : Int32) M ht _ _ hb) rfl rfl hR ⟨Nat.le_of_ble_eq_true rfl, Nat.le_of_ble_eq_true rfl⟩ (Nat.le_of_ble_eq_true rfl) dX11_pour_56 (fun v15 M16 =>
 (x_ck (fun hq17 => x_iret g hr (nbz hq17) rfl dX11_pour_59)))))))
 (fun _ => (x_aload_n g 0 dX11_pour_44 rfl rfl
 (x_getS g 4 fl_RX11_24 rfl ht dX11_pour_45
 (x_iload_n g 3 dX11_pour_48 rfl rfl
 (x_iald g (so_11_6 ht) dX11_pour_49
 (x_iconst g dX11_pour_50 kI_m1
 (x_icmp_ne g 60 dX11_pour_51 rfl
 (fun _ => (x_aload_n g 0 dX11_pour_60 rfl rfl
 (x_getS g 3 fl_RX11_21 rfl ht dX11_pour_61
 (x_iload_n g 1 dX11_pour_64 rfl rfl
 (x_iald g (so_11_5 ht) dX11_pour_65
 (x_aload_n g 0 dX11_pour_66 rfl rfl
 (x_getS g 3 fl_RX11_21 rfl ht dX11_pour_67
 (x_iload_n g 3 dX11_pour_70 rfl rfl
 (x_iald g (so_11_5 ht) dX11_pour_71
 (x_icmp_eq g 82 dX11_pour_72 rfl
 (fun _ => (x_iload g 5 dX11_pour_82 rfl
 (x_aload_n g 0 dX11_pour_84 rfl rfl
 (x_getS g 4 fl_RX11_24 rfl ht dX11_pour_85
 (x_iload_n g 1 dX11_pour_88 rfl rfl
 (x_iald g (so_11_6 ht) dX11_pour_89
 (x_iload_n g 2 dX11_pour_90 rfl rfl
 (x_isub g dX11_pour_91
 (x_icmp_gt g 109 dX11_pour_92 rfl
 (fun _ => (x_aload_n g 0 dX11_pour_109 rfl rfl
 (x_iconst g dX11_pour_110 kI_3
 (x_callVi (As := [.int (3 : Int32)]) g mv_X11_is mi_X11_is lk_RX11_109 ht (fun b Mh_ hb => kX11_is t (3 : Int32) M ht _ _ hb) rfl rfl hR ⟨Nat.le_of_ble_eq_true rfl, Nat.le_of_ble_eq_true rfl⟩ (Nat.le_of_ble_eq_true rfl) dX11_pour_111 (fun v18 M19 =>
 (x_ck (fun hq20 => x_iret g hr (nbz hq20) rfl dX11_pour_114)))))))
 (fun _ => (x_iload g 5 dX11_pour_95 rfl
 (x_aload_n g 0 dX11_pour_97 rfl rfl
 (x_getS g 4 fl_RX11_24 rfl ht dX11_pour_98
 (x_iload_n g 3 dX11_pour_101 rfl rfl
 (x_iald g (so_11_6 ht) dX11_pour_102
 (x_iload g 4 dX11_pour_103 rfl
 (x_isub g dX11_pour_105
 (x_icmp_le g 115 dX11_pour_106 rfl
 (fun _ => (x_iconst g dX11_pour_115 kI_0
 (x_istore (L' := [(6, .int (0 : Int32)), (0, .ref t), (1, .int a1), (2, .int a2), (3, .int a3), (4, .int a4), (5, .int a5)]) g dX11_pour_116 hn (Nat.le_of_ble_eq_true rfl) rfl
 (x_sub [1, 2, 3, 4, 5, 6, 0] rfl (wlX11_pour_118 g hr hR hn  t a1 a2 a3 a4 a5 ht φ (0 : Int32) M)))))
 (fun _ => (x_aload_n g 0 dX11_pour_109 rfl rfl
 (x_iconst g dX11_pour_110 kI_3
 (x_callVi (As := [.int (3 : Int32)]) g mv_X11_is mi_X11_is lk_RX11_109 ht (fun b Mh_ hb => kX11_is t (3 : Int32) M ht _ _ hb) rfl rfl hR ⟨Nat.le_of_ble_eq_true rfl, Nat.le_of_ble_eq_true rfl⟩ (Nat.le_of_ble_eq_true rfl) dX11_pour_111 (fun v27 M28 =>
 (x_ck (fun hq29 => x_iret g hr (nbz hq29) rfl dX11_pour_114)))))))))))))))))))))))))
 (fun _ => (x_aload_n g 0 dX11_pour_75 rfl rfl
 (x_bipush g dX11_pour_76 kB_8
 (x_callVi (As := [.int (8 : Int32)]) g mv_X11_is mi_X11_is lk_RX11_109 ht (fun b Mh_ hb => kX11_is t (8 : Int32) M ht _ _ hb) rfl rfl hR ⟨Nat.le_of_ble_eq_true rfl, Nat.le_of_ble_eq_true rfl⟩ (Nat.le_of_ble_eq_true rfl) dX11_pour_78 (fun v30 M31 =>
 (x_ck (fun hq32 => x_iret g hr (nbz hq32) rfl dX11_pour_81)))))))))))))))))
 (fun _ => (x_aload_n g 0 dX11_pour_54 rfl rfl
 (x_iconst g dX11_pour_55 kI_2
 (x_callVi (As := [.int (2 : Int32)]) g mv_X11_is mi_X11_is lk_RX11_109 ht (fun b Mh_ hb => kX11_is t (2 : Int32) M ht _ _ hb) rfl rfl hR ⟨Nat.le_of_ble_eq_true rfl, Nat.le_of_ble_eq_true rfl⟩ (Nat.le_of_ble_eq_true rfl) dX11_pour_56 (fun v33 M34 =>
 (x_ck (fun hq35 => x_iret g hr (nbz hq35) rfl dX11_pour_59)))))))))))))))))))))
 (fun _ => (x_aload_n g 0 dX11_pour_28 rfl rfl
 (x_iconst g dX11_pour_29 kI_1
 (x_callVi (As := [.int (1 : Int32)]) g mv_X11_is mi_X11_is lk_RX11_109 ht (fun b Mh_ hb => kX11_is t (1 : Int32) M ht _ _ hb) rfl rfl hR ⟨Nat.le_of_ble_eq_true rfl, Nat.le_of_ble_eq_true rfl⟩ (Nat.le_of_ble_eq_true rfl) dX11_pour_30 (fun v36 M37 =>
 (x_ck (fun hq38 => x_iret g hr (nbz hq38) rfl dX11_pour_33)))))))))))))))))))))))))
def lX11_four_3 (t : Nat) (x1 : Int32) : Nat → Int32 → Mem → Option (Unit × Mem)
  | 0, _, _ => none
  | n + 1, x2, M =>
    if x2 < 0 then
 some ((), M)
 else
 ixk (M.1 t 10) 900 (nm (stI M (t + 6) (M.1 t 10).toNatClampNeg (vp_nar .byte ((x1 >>> (x2 &&& 31)).toInt8.toInt32))) (fun M1 =>
 nm (stI M1 t 10 ((M1.1 t 10) + (1 : Int32))) (fun M2 =>
 lX11_four_3 t x1 n (x2 + (-8)) M2)))
theorem lX11_four_3_s (t : Nat) (x1 : Int32) (n : Nat) (x2 : Int32) (M : Mem) : lX11_four_3 t x1 (n + 1) x2 M =
    if x2 < 0 then
 some ((), M)
 else
 ixk (M.1 t 10) 900 (nm (stI M (t + 6) (M.1 t 10).toNatClampNeg (vp_nar .byte ((x1 >>> (x2 &&& 31)).toInt8.toInt32))) (fun M1 =>
 nm (stI M1 t 10 ((M1.1 t 10) + (1 : Int32))) (fun M2 =>
 lX11_four_3 t x1 n (x2 + (-8)) M2))) := rfl
theorem lX11_four_3_0 (t : Nat) (x1 : Int32) (x2 : Int32) (M : Mem) : lX11_four_3 t x1 0 x2 M = none := rfl
set_option maxRecDepth 100000 in
set_option maxHeartbeats 4000000 in
theorem wlX11_four_3 {J : JT} (g : Gd J cX11_four RX11) (hr : Rt J none) (hR : (JR J).frames = 0 ∧ (JR J).locals = 0) (hn : Jn J = 3) (t : Nat) (x1 : Int32) (ht : isO 11 t) : ∀ (n : Nat) (x2 : Int32) (M : Mem), X J (fun q : Unit × Mem => ((none : Option Value), q.2)) (lX11_four_3 t x1 n x2 M) 3 [(0, .ref t), (1, .int x1), (2, .int x2)] [] M := by
  intro n
  induction n with
  | zero =>
    intro x2 M
    exact x_none
  | succ n ih =>
    intro x2 M
    rw [lX11_four_3_s]
    exact (x_iload_n g 2 dX11_four_3 rfl rfl
 (x_if_lt g 36 dX11_four_4 rfl
 (fun _ => (x_vret g hr rfl dX11_four_36))
 (fun _ => (x_aload_n g 0 dX11_four_7 rfl rfl
 (x_getS g 6 fl_RX11_30 rfl ht dX11_four_8
 (x_aload_n g 0 dX11_four_11 rfl rfl
 (x_getI g fl_RX11_126 rfl ht dX11_four_12
 (x_iload_n g 1 dX11_four_15 rfl rfl
 (x_iload_n g 2 dX11_four_16 rfl rfl
 (x_ishr g dX11_four_17
 (x_i2b g dX11_four_18
 (x_bast g (so_11_8 ht) dX11_four_19 (x_nmM (fun M1 =>
 (x_aload_n g 0 dX11_four_20 rfl rfl
 (x_dup g dX11_four_21 rfl
 (x_getI g fl_RX11_126 rfl ht dX11_four_22
 (x_iconst g dX11_four_25 kI_1
 (x_iadd g dX11_four_26
 (x_putI g fp_RX11_126 rfl (Nat.le_of_ble_eq_true rfl) ht dX11_four_27 (x_nmM (fun M2 =>
 (x_iinc (L' := [(2, .int (x2 + (-8))), (0, .ref t), (1, .int x1)]) (v := (x2 + (-8))) g 2 dX11_four_30 rfl (by rw [kI_m8]) hn (Nat.le_of_ble_eq_true rfl) rfl
 (x_goto g 3 dX11_four_33 rfl
 (x_sub [1, 2, 0] rfl (ih (x2 + (-8)) M2))))))))))))))))))))))))))
def fX11_four (φ : Nat) (t : Nat) (a1 : Int32) (M : Mem) : Option (Unit × Mem) :=
  lX11_four_3 t a1 φ (24 : Int32) M
set_option maxRecDepth 100000 in
set_option maxHeartbeats 4000000 in
theorem kX11_four (φ : Nat) (t : Nat) (a1 : Int32) (M : Mem) (ht : isO 11 t) (l : Launch) (G : GT) {b : (Unit × Mem)} (hE : fX11_four φ t a1 M = some b) : Ok l G yX11_four cX11_four 3 none 0 0 [.ref t, .int a1] M ((fun q : Unit × Mem => ((none : Option Value), q.2)) b).1 ((fun q : Unit × Mem => ((none : Option Value), q.2)) b).2 := by
  refine Ok.ofX (pj := (fun q : Unit × Mem => ((none : Option Value), q.2))) (by decide) (Nat.le_of_ble_eq_true rfl) hE (fun J g hr hG hl hR hn => ?_)
  show X J (fun q : Unit × Mem => ((none : Option Value), q.2)) (fX11_four φ t a1 M) 0 [(0, .ref t), (1, .int a1)] [] M
  unfold fX11_four
  exact (x_bipush g dX11_four_0 kB_24
 (x_istore_n (L' := [(2, .int (24 : Int32)), (0, .ref t), (1, .int a1)]) g dX11_four_2 rfl hn (Nat.le_of_ble_eq_true rfl) rfl
 (x_sub [1, 2, 0] rfl (wlX11_four_3 g hr hR hn  t a1 ht φ (24 : Int32) M))))
def fX11_feed (φ : Nat) (t : Nat) (a1 : Int32) (a2 : Int32) (a3 : Int32) (a4 : Int32) (a5 : Int32) (M : Mem) : Option (Int32 × Mem) :=
  if ((M.1 t 10) + (20 : Int32)) ≤ (900 : Int32) then
 bd (fX11_four φ t a1 M) fun vu1 M2 =>
 bd (fX11_four φ t a2 M2) fun vu3 M4 =>
 bd (fX11_four φ t a3 M4) fun vu5 M6 =>
 bd (fX11_four φ t a4 M6) fun vu7 M8 =>
 bd (fX11_four φ t a5 M8) fun vu9 M10 =>
 some ((M10.1 t 10), M10)
 else
 some ((-1 : Int32), M)
set_option maxRecDepth 100000 in
set_option maxHeartbeats 4000000 in
theorem kX11_feed (φ : Nat) (t : Nat) (a1 : Int32) (a2 : Int32) (a3 : Int32) (a4 : Int32) (a5 : Int32) (M : Mem) (ht : isO 11 t) (l : Launch) (G : GT) {b : (Int32 × Mem)} (hE : fX11_feed φ t a1 a2 a3 a4 a5 M = some b) : Ok l G yX11_feed cX11_feed 6 (some .int) 1 22 [.ref t, .int a1, .int a2, .int a3, .int a4, .int a5] M ((fun q : Int32 × Mem => (some (Value.int q.1), q.2)) b).1 ((fun q : Int32 × Mem => (some (Value.int q.1), q.2)) b).2 := by
  refine Ok.ofX (pj := (fun q : Int32 × Mem => (some (Value.int q.1), q.2))) (by decide) (Nat.le_of_ble_eq_true rfl) hE (fun J g hr hG hl hR hn => ?_)
  show X J (fun q : Int32 × Mem => (some (Value.int q.1), q.2)) (fX11_feed φ t a1 a2 a3 a4 a5 M) 0 [(0, .ref t), (1, .int a1), (2, .int a2), (3, .int a3), (4, .int a4), (5, .int a5)] [] M
  unfold fX11_feed
  exact (x_aload_n g 0 dX11_feed_0 rfl rfl
 (x_getI g fl_RX11_126 rfl ht dX11_feed_1
 (x_bipush g dX11_feed_4 kB_20
 (x_iadd g dX11_feed_6
 (x_sipush g dX11_feed_7 kS_900
 (x_icmp_le g 15 dX11_feed_10 rfl
 (fun _ => (x_aload_n g 0 dX11_feed_15 rfl rfl
 (x_iload_n g 1 dX11_feed_16 rfl rfl
 (x_callVv (As := [.int a1]) g mv_X11_four mi_X11_four lk_RX11_129 ht (fun b Mh_ hb => kX11_four φ t a1 M ht _ _ hb) rfl rfl hR ⟨Nat.le_of_ble_eq_true rfl, Nat.le_of_ble_eq_true rfl⟩ (Nat.le_of_ble_eq_true rfl) dX11_feed_17 (fun vu1 M2 =>
 (x_aload_n g 0 dX11_feed_20 rfl rfl
 (x_iload_n g 2 dX11_feed_21 rfl rfl
 (x_callVv (As := [.int a2]) g mv_X11_four mi_X11_four lk_RX11_129 ht (fun b Mh_ hb => kX11_four φ t a2 M2 ht _ _ hb) rfl rfl hR ⟨Nat.le_of_ble_eq_true rfl, Nat.le_of_ble_eq_true rfl⟩ (Nat.le_of_ble_eq_true rfl) dX11_feed_22 (fun vu3 M4 =>
 (x_aload_n g 0 dX11_feed_25 rfl rfl
 (x_iload_n g 3 dX11_feed_26 rfl rfl
 (x_callVv (As := [.int a3]) g mv_X11_four mi_X11_four lk_RX11_129 ht (fun b Mh_ hb => kX11_four φ t a3 M4 ht _ _ hb) rfl rfl hR ⟨Nat.le_of_ble_eq_true rfl, Nat.le_of_ble_eq_true rfl⟩ (Nat.le_of_ble_eq_true rfl) dX11_feed_27 (fun vu5 M6 =>
 (x_aload_n g 0 dX11_feed_30 rfl rfl
 (x_iload g 4 dX11_feed_31 rfl
 (x_callVv (As := [.int a4]) g mv_X11_four mi_X11_four lk_RX11_129 ht (fun b Mh_ hb => kX11_four φ t a4 M6 ht _ _ hb) rfl rfl hR ⟨Nat.le_of_ble_eq_true rfl, Nat.le_of_ble_eq_true rfl⟩ (Nat.le_of_ble_eq_true rfl) dX11_feed_33 (fun vu7 M8 =>
 (x_aload_n g 0 dX11_feed_36 rfl rfl
 (x_iload g 5 dX11_feed_37 rfl
 (x_callVv (As := [.int a5]) g mv_X11_four mi_X11_four lk_RX11_129 ht (fun b Mh_ hb => kX11_four φ t a5 M8 ht _ _ hb) rfl rfl hR ⟨Nat.le_of_ble_eq_true rfl, Nat.le_of_ble_eq_true rfl⟩ (Nat.le_of_ble_eq_true rfl) dX11_feed_39 (fun vu9 M10 =>
 (x_aload_n g 0 dX11_feed_42 rfl rfl
 (x_getI g fl_RX11_126 rfl ht dX11_feed_43
 (x_iret g hr rfl rfl dX11_feed_46))))))))))))))))))))))))
 (fun _ => (x_iconst g dX11_feed_13 kI_m1
 (x_iret g hr rfl rfl dX11_feed_14)))))))))
def fX11_fault (t : Nat) (a1 : Int32) (M : Mem) : Option Int32 :=
  if a1 = 0 then
 some (M.1 t 16)
 else
 if a1 = (1 : Int32) then
 some (M.1 t 17)
 else
 some (-1 : Int32)
set_option maxRecDepth 100000 in
set_option maxHeartbeats 4000000 in
theorem kX11_fault (t : Nat) (a1 : Int32) (M : Mem) (ht : isO 11 t) (l : Launch) (G : GT) {b : Int32} (hE : fX11_fault t a1 M = some b) : Ok l G yX11_fault cX11_fault 2 (some .int) 0 0 [.ref t, .int a1] M ((fun b : Int32 => (some (Value.int b), M)) b).1 ((fun b : Int32 => (some (Value.int b), M)) b).2 := by
  refine Ok.ofX (pj := (fun b : Int32 => (some (Value.int b), M))) (by decide) (Nat.le_of_ble_eq_true rfl) hE (fun J g hr hG hl hR hn => ?_)
  show X J (fun b : Int32 => (some (Value.int b), M)) (fX11_fault t a1 M) 0 [(0, .ref t), (1, .int a1)] [] M
  unfold fX11_fault
  exact (x_iload_n g 1 dX11_fault_0 rfl rfl
 (x_if_ne g 11 dX11_fault_1 rfl
 (fun _ => (x_iload_n g 1 dX11_fault_11 rfl rfl
 (x_iconst g dX11_fault_12 kI_1
 (x_icmp_ne g 23 dX11_fault_13 rfl
 (fun _ => (x_iconst g dX11_fault_23 kI_m1
 (x_iret g hr rfl rfl dX11_fault_24)))
 (fun _ => (x_aload_n g 0 dX11_fault_16 rfl rfl
 (x_getI g fl_RX11_41 rfl ht dX11_fault_17
 (x_goto g 24 dX11_fault_20 rfl
 (x_iret g hr rfl rfl dX11_fault_24)))))))))
 (fun _ => (x_aload_n g 0 dX11_fault_4 rfl rfl
 (x_getI g fl_RX11_37 rfl ht dX11_fault_5
 (x_goto g 24 dX11_fault_8 rfl
 (x_iret g hr rfl rfl dX11_fault_24)))))))
def fX11_byteAt (t : Nat) (a1 : Int32) (M : Mem) : Option Int32 :=
  if (M.1 t 11) ≤ a1 then
 some (-1 : Int32)
 else
 ixk a1 900 (
 some ((M.1 (t + 7) a1.toNatClampNeg) &&& (255 : Int32)))
set_option maxRecDepth 100000 in
set_option maxHeartbeats 4000000 in
theorem kX11_byteAt (t : Nat) (a1 : Int32) (M : Mem) (ht : isO 11 t) (l : Launch) (G : GT) {b : Int32} (hE : fX11_byteAt t a1 M = some b) : Ok l G yX11_byteAt cX11_byteAt 2 (some .int) 0 0 [.ref t, .int a1] M ((fun b : Int32 => (some (Value.int b), M)) b).1 ((fun b : Int32 => (some (Value.int b), M)) b).2 := by
  refine Ok.ofX (pj := (fun b : Int32 => (some (Value.int b), M))) (by decide) (Nat.le_of_ble_eq_true rfl) hE (fun J g hr hG hl hR hn => ?_)
  show X J (fun b : Int32 => (some (Value.int b), M)) (fX11_byteAt t a1 M) 0 [(0, .ref t), (1, .int a1)] [] M
  unfold fX11_byteAt
  exact (x_iload_n g 1 dX11_byteAt_0 rfl rfl
 (x_aload_n g 0 dX11_byteAt_1 rfl rfl
 (x_getI g fl_RX11_133 rfl ht dX11_byteAt_2
 (x_icmp_ge g 21 dX11_byteAt_5 rfl
 (fun _ => (x_iconst g dX11_byteAt_21 kI_m1
 (x_iret g hr rfl rfl dX11_byteAt_22)))
 (fun _ => (x_aload_n g 0 dX11_byteAt_8 rfl rfl
 (x_getS g 7 fl_RX11_34 rfl ht dX11_byteAt_9
 (x_iload_n g 1 dX11_byteAt_12 rfl rfl
 (x_bald g (so_11_9 ht) dX11_byteAt_13
 (x_sipush g dX11_byteAt_14 kS_255
 (x_iand g dX11_byteAt_17
 (x_goto g 22 dX11_byteAt_18 rfl
 (x_iret g hr rfl rfl dX11_byteAt_22)))))))))))))
def fX11_isSmall (a1 : Int32) (M : Mem) : Option Int32 :=
  if a1 < (97 : Int32) then
 some (0 : Int32)
 else
 if (122 : Int32) < a1 then
 some (0 : Int32)
 else
 some (1 : Int32)
set_option maxRecDepth 100000 in
set_option maxHeartbeats 4000000 in
theorem kX11_isSmall (a1 : Int32) (M : Mem) (l : Launch) (G : GT) {b : Int32} (hE : fX11_isSmall a1 M = some b) : Ok l G yX11_isSmall cX11_isSmall 1 (some .boolean) 0 0 [.int a1] M ((fun b : Int32 => (some (Value.int b), M)) b).1 ((fun b : Int32 => (some (Value.int b), M)) b).2 := by
  refine Ok.ofX (pj := (fun b : Int32 => (some (Value.int b), M))) (by decide) (Nat.le_of_ble_eq_true rfl) hE (fun J g hr hG hl hR hn => ?_)
  show X J (fun b : Int32 => (some (Value.int b), M)) (fX11_isSmall a1 M) 0 [(0, .int a1)] [] M
  unfold fX11_isSmall
  exact (x_iload_n g 0 dX11_isSmall_0 rfl rfl
 (x_bipush g dX11_isSmall_1 kB_97
 (x_icmp_lt g 16 dX11_isSmall_3 rfl
 (fun _ => (x_iconst g dX11_isSmall_16 kI_0
 (x_iret g hr rfl rfl dX11_isSmall_17)))
 (fun _ => (x_iload_n g 0 dX11_isSmall_6 rfl rfl
 (x_bipush g dX11_isSmall_7 kB_122
 (x_icmp_gt g 16 dX11_isSmall_9 rfl
 (fun _ => (x_iconst g dX11_isSmall_16 kI_0
 (x_iret g hr rfl rfl dX11_isSmall_17)))
 (fun _ => (x_iconst g dX11_isSmall_12 kI_1
 (x_goto g 17 dX11_isSmall_13 rfl
 (x_iret g hr rfl rfl dX11_isSmall_17)))))))))))
def fX11_isDigit (a1 : Int32) (M : Mem) : Option Int32 :=
  if a1 < (48 : Int32) then
 some (0 : Int32)
 else
 if (57 : Int32) < a1 then
 some (0 : Int32)
 else
 some (1 : Int32)
set_option maxRecDepth 100000 in
set_option maxHeartbeats 4000000 in
theorem kX11_isDigit (a1 : Int32) (M : Mem) (l : Launch) (G : GT) {b : Int32} (hE : fX11_isDigit a1 M = some b) : Ok l G yX11_isDigit cX11_isDigit 1 (some .boolean) 0 0 [.int a1] M ((fun b : Int32 => (some (Value.int b), M)) b).1 ((fun b : Int32 => (some (Value.int b), M)) b).2 := by
  refine Ok.ofX (pj := (fun b : Int32 => (some (Value.int b), M))) (by decide) (Nat.le_of_ble_eq_true rfl) hE (fun J g hr hG hl hR hn => ?_)
  show X J (fun b : Int32 => (some (Value.int b), M)) (fX11_isDigit a1 M) 0 [(0, .int a1)] [] M
  unfold fX11_isDigit
  exact (x_iload_n g 0 dX11_isDigit_0 rfl rfl
 (x_bipush g dX11_isDigit_1 kB_48
 (x_icmp_lt g 16 dX11_isDigit_3 rfl
 (fun _ => (x_iconst g dX11_isDigit_16 kI_0
 (x_iret g hr rfl rfl dX11_isDigit_17)))
 (fun _ => (x_iload_n g 0 dX11_isDigit_6 rfl rfl
 (x_bipush g dX11_isDigit_7 kB_57
 (x_icmp_gt g 16 dX11_isDigit_9 rfl
 (fun _ => (x_iconst g dX11_isDigit_16 kI_0
 (x_iret g hr rfl rfl dX11_isDigit_17)))
 (fun _ => (x_iconst g dX11_isDigit_12 kI_1
 (x_goto g 17 dX11_isDigit_13 rfl
 (x_iret g hr rfl rfl dX11_isDigit_17)))))))))))
def lX11_ahead_0 (K39 : Mem → Option (Unit × Mem)) (t : Nat) : Nat → Mem → Option (Unit × Mem)
  | 0, _ => none
  | n + 1, M =>
    (fX11_byteAt t (M.1 t 14) M).bind fun v1 =>
 jn (nm (stI M t 14 ((M.1 t 14) + (1 : Int32))) (fun M3 =>
 lX11_ahead_0 K39 t n M3)) (fun J2 => if v1 = (32 : Int32) then
 J2
 else
 (fX11_byteAt t (M.1 t 14) M).bind fun v4 =>
 if v4 = (10 : Int32) then
 J2
 else
 K39 M)
theorem lX11_ahead_0_s (K39 : Mem → Option (Unit × Mem)) (t : Nat) (n : Nat) (M : Mem) : lX11_ahead_0 K39 t (n + 1) M =
    (fX11_byteAt t (M.1 t 14) M).bind fun v1 =>
 jn (nm (stI M t 14 ((M.1 t 14) + (1 : Int32))) (fun M3 =>
 lX11_ahead_0 K39 t n M3)) (fun J2 => if v1 = (32 : Int32) then
 J2
 else
 (fX11_byteAt t (M.1 t 14) M).bind fun v4 =>
 if v4 = (10 : Int32) then
 J2
 else
 K39 M) := rfl
theorem lX11_ahead_0_0 (K39 : Mem → Option (Unit × Mem)) (t : Nat) (M : Mem) : lX11_ahead_0 K39 t 0 M = none := rfl
set_option maxRecDepth 100000 in
set_option maxHeartbeats 4000000 in
theorem wlX11_ahead_0 {J : JT} (g : Gd J cX11_ahead RX11) (hr : Rt J none) (hR : (JR J).frames = 1 ∧ (JR J).locals = 30) (hn : Jn J = 2) (K39 : Mem → Option (Unit × Mem)) (t : Nat) (ht : isO 11 t) (hK39 : ∀ (M : Mem), X J (fun q : Unit × Mem => ((none : Option Value), q.2)) (K39 M) 39 [(0, .ref t)] [] M) : ∀ (n : Nat) (M : Mem), X J (fun q : Unit × Mem => ((none : Option Value), q.2)) (lX11_ahead_0 K39 t n M) 0 [(0, .ref t)] [] M := by
  intro n
  induction n with
  | zero =>
    intro M
    exact x_none
  | succ n ih =>
    intro M
    rw [lX11_ahead_0_s]
    exact (x_aload_n g 0 dX11_ahead_0 rfl rfl
 (x_aload_n g 0 dX11_ahead_1 rfl rfl
 (x_getI g fl_RX11_136 rfl ht dX11_ahead_2
 (x_callVip (As := [.int (M.1 t 14)]) g mv_X11_byteAt mi_X11_byteAt lk_RX11_139 ht (fun b hb => kX11_byteAt t (M.1 t 14) M ht _ _ hb) rfl rfl hR ⟨Nat.le_of_ble_eq_true rfl, Nat.le_of_ble_eq_true rfl⟩ (Nat.le_of_ble_eq_true rfl) dX11_ahead_5 (fun v1 =>
 (x_bipush g dX11_ahead_8 kB_32
 (x_jn (fun (J2 : Option (Unit × Mem)) => X J (fun q : Unit × Mem => ((none : Option Value), q.2)) J2 26 [(0, .ref t)] [] M) (x_aload_n g 0 dX11_ahead_26 rfl rfl
 (x_dup g dX11_ahead_27 rfl
 (x_getI g fl_RX11_136 rfl ht dX11_ahead_28
 (x_iconst g dX11_ahead_31 kI_1
 (x_iadd g dX11_ahead_32
 (x_putI g fp_RX11_136 rfl (Nat.le_of_ble_eq_true rfl) ht dX11_ahead_33 (x_nmM (fun M3 =>
 (x_goto g 0 dX11_ahead_36 rfl
 (ih M3)))))))))) (fun J2 hJ2 => (x_icmp_eq g 26 dX11_ahead_10 rfl
 (fun _ => (hJ2))
 (fun _ => (x_aload_n g 0 dX11_ahead_13 rfl rfl
 (x_aload_n g 0 dX11_ahead_14 rfl rfl
 (x_getI g fl_RX11_136 rfl ht dX11_ahead_15
 (x_callVip (As := [.int (M.1 t 14)]) g mv_X11_byteAt mi_X11_byteAt lk_RX11_139 ht (fun b hb => kX11_byteAt t (M.1 t 14) M ht _ _ hb) rfl rfl hR ⟨Nat.le_of_ble_eq_true rfl, Nat.le_of_ble_eq_true rfl⟩ (Nat.le_of_ble_eq_true rfl) dX11_ahead_18 (fun v4 =>
 (x_bipush g dX11_ahead_21 kB_10
 (x_icmp_ne g 39 dX11_ahead_23 rfl
 (fun _ => (hK39 M))
 (fun _ => (hJ2)))))))))))))))))))
def lX11_ahead_128 (K183 : Mem → Option (Unit × Mem)) (t : Nat) : Nat → Mem → Option (Unit × Mem)
  | 0, _ => none
  | n + 1, M =>
    (fX11_byteAt t (M.1 t 14) M).bind fun v18 =>
 (fX11_isDigit v18 M).bind fun v19 =>
 if v19 = 0 then
 K183 M
 else
 (fX11_byteAt t (M.1 t 14) M).bind fun v20 =>
 nm (stI M t 15 (if ((((10 : Int32) * (M.1 t 15)) + v20) - (48 : Int32)) < (100000 : Int32) then ((((10 : Int32) * (M.1 t 15)) + v20) - (48 : Int32)) else (100000 : Int32))) (fun M21 =>
 nm (stI M21 t 14 ((M21.1 t 14) + (1 : Int32))) (fun M22 =>
 lX11_ahead_128 K183 t n M22))
theorem lX11_ahead_128_s (K183 : Mem → Option (Unit × Mem)) (t : Nat) (n : Nat) (M : Mem) : lX11_ahead_128 K183 t (n + 1) M =
    (fX11_byteAt t (M.1 t 14) M).bind fun v18 =>
 (fX11_isDigit v18 M).bind fun v19 =>
 if v19 = 0 then
 K183 M
 else
 (fX11_byteAt t (M.1 t 14) M).bind fun v20 =>
 nm (stI M t 15 (if ((((10 : Int32) * (M.1 t 15)) + v20) - (48 : Int32)) < (100000 : Int32) then ((((10 : Int32) * (M.1 t 15)) + v20) - (48 : Int32)) else (100000 : Int32))) (fun M21 =>
 nm (stI M21 t 14 ((M21.1 t 14) + (1 : Int32))) (fun M22 =>
 lX11_ahead_128 K183 t n M22)) := rfl
theorem lX11_ahead_128_0 (K183 : Mem → Option (Unit × Mem)) (t : Nat) (M : Mem) : lX11_ahead_128 K183 t 0 M = none := rfl
set_option maxRecDepth 100000 in
set_option maxHeartbeats 4000000 in
theorem wlX11_ahead_128 {J : JT} (g : Gd J cX11_ahead RX11) (hr : Rt J none) (hR : (JR J).frames = 1 ∧ (JR J).locals = 30) (hn : Jn J = 2) (K183 : Mem → Option (Unit × Mem)) (t : Nat) (ht : isO 11 t) (hK183 : ∀ (M : Mem), X J (fun q : Unit × Mem => ((none : Option Value), q.2)) (K183 M) 183 [(0, .ref t)] [] M) : ∀ (n : Nat) (M : Mem), X J (fun q : Unit × Mem => ((none : Option Value), q.2)) (lX11_ahead_128 K183 t n M) 128 [(0, .ref t)] [] M := by
  intro n
  induction n with
  | zero =>
    intro M
    exact x_none
  | succ n ih =>
    intro M
    rw [lX11_ahead_128_s]
    exact (x_aload_n g 0 dX11_ahead_128 rfl rfl
 (x_aload_n g 0 dX11_ahead_129 rfl rfl
 (x_getI g fl_RX11_136 rfl ht dX11_ahead_130
 (x_callVip (As := [.int (M.1 t 14)]) g mv_X11_byteAt mi_X11_byteAt lk_RX11_139 ht (fun b hb => kX11_byteAt t (M.1 t 14) M ht _ _ hb) rfl rfl hR ⟨Nat.le_of_ble_eq_true rfl, Nat.le_of_ble_eq_true rfl⟩ (Nat.le_of_ble_eq_true rfl) dX11_ahead_133 (fun v18 =>
 (x_callSip (As := [.int v18]) g mv_X11_isDigit ms_X11_isDigit lk_RX11_154 (fun b hb => kX11_isDigit v18 M _ _ hb) rfl rfl hR ⟨Nat.le_of_ble_eq_true rfl, Nat.le_of_ble_eq_true rfl⟩ (Nat.le_of_ble_eq_true rfl) dX11_ahead_136 (fun v19 =>
 (x_if_eq g 183 dX11_ahead_139 rfl
 (fun _ => (hK183 M))
 (fun _ => (x_aload_n g 0 dX11_ahead_142 rfl rfl
 (x_ldc g cw_RX11_157 dX11_ahead_143
 (x_bipush g dX11_ahead_145 kB_10
 (x_aload_n g 0 dX11_ahead_147 rfl rfl
 (x_getI g fl_RX11_145 rfl ht dX11_ahead_148
 (x_imul g dX11_ahead_151
 (x_aload_n g 0 dX11_ahead_152 rfl rfl
 (x_aload_n g 0 dX11_ahead_153 rfl rfl
 (x_getI g fl_RX11_136 rfl ht dX11_ahead_154
 (x_callVip (As := [.int (M.1 t 14)]) g mv_X11_byteAt mi_X11_byteAt lk_RX11_139 ht (fun b hb => kX11_byteAt t (M.1 t 14) M ht _ _ hb) rfl rfl hR ⟨Nat.le_of_ble_eq_true rfl, Nat.le_of_ble_eq_true rfl⟩ (Nat.le_of_ble_eq_true rfl) dX11_ahead_157 (fun v20 =>
 (x_iadd g dX11_ahead_160
 (x_bipush g dX11_ahead_161 kB_48
 (x_isub g dX11_ahead_163
 (x_mmin g hR lk_RX11_158 ok_mins ok_math ok_min (Nat.le_of_ble_eq_true rfl) (Nat.le_of_ble_eq_true rfl) dX11_ahead_164
 (x_putI g fp_RX11_145 rfl (Nat.le_of_ble_eq_true rfl) ht dX11_ahead_167 (x_nmM (fun M21 =>
 (x_aload_n g 0 dX11_ahead_170 rfl rfl
 (x_dup g dX11_ahead_171 rfl
 (x_getI g fl_RX11_136 rfl ht dX11_ahead_172
 (x_iconst g dX11_ahead_175 kI_1
 (x_iadd g dX11_ahead_176
 (x_putI g fp_RX11_136 rfl (Nat.le_of_ble_eq_true rfl) ht dX11_ahead_177 (x_nmM (fun M22 =>
 (x_goto g 128 dX11_ahead_180 rfl
 (ih M22)))))))))))))))))))))))))))))))))))))
def lX11_ahead_81 (t : Nat) : Nat → Mem → Option (Unit × Mem)
  | 0, _ => none
  | n + 1, M =>
    (fX11_byteAt t (M.1 t 14) M).bind fun v26 =>
 (fX11_isSmall v26 M).bind fun v27 =>
 if v27 = 0 then
 nm (stI M t 12 (2 : Int32)) (fun M28 =>
 some ((), M28))
 else
 nm (stI M t 14 ((M.1 t 14) + (1 : Int32))) (fun M29 =>
 lX11_ahead_81 t n M29)
theorem lX11_ahead_81_s (t : Nat) (n : Nat) (M : Mem) : lX11_ahead_81 t (n + 1) M =
    (fX11_byteAt t (M.1 t 14) M).bind fun v26 =>
 (fX11_isSmall v26 M).bind fun v27 =>
 if v27 = 0 then
 nm (stI M t 12 (2 : Int32)) (fun M28 =>
 some ((), M28))
 else
 nm (stI M t 14 ((M.1 t 14) + (1 : Int32))) (fun M29 =>
 lX11_ahead_81 t n M29) := rfl
theorem lX11_ahead_81_0 (t : Nat) (M : Mem) : lX11_ahead_81 t 0 M = none := rfl
set_option maxRecDepth 100000 in
set_option maxHeartbeats 4000000 in
theorem wlX11_ahead_81 {J : JT} (g : Gd J cX11_ahead RX11) (hr : Rt J none) (hR : (JR J).frames = 1 ∧ (JR J).locals = 30) (hn : Jn J = 2) (t : Nat) (ht : isO 11 t) : ∀ (n : Nat) (M : Mem), X J (fun q : Unit × Mem => ((none : Option Value), q.2)) (lX11_ahead_81 t n M) 81 [(0, .ref t)] [] M := by
  intro n
  induction n with
  | zero =>
    intro M
    exact x_none
  | succ n ih =>
    intro M
    rw [lX11_ahead_81_s]
    exact (x_aload_n g 0 dX11_ahead_81 rfl rfl
 (x_aload_n g 0 dX11_ahead_82 rfl rfl
 (x_getI g fl_RX11_136 rfl ht dX11_ahead_83
 (x_callVip (As := [.int (M.1 t 14)]) g mv_X11_byteAt mi_X11_byteAt lk_RX11_139 ht (fun b hb => kX11_byteAt t (M.1 t 14) M ht _ _ hb) rfl rfl hR ⟨Nat.le_of_ble_eq_true rfl, Nat.le_of_ble_eq_true rfl⟩ (Nat.le_of_ble_eq_true rfl) dX11_ahead_86 (fun v26 =>
 (x_callSip (As := [.int v26]) g mv_X11_isSmall ms_X11_isSmall lk_RX11_151 (fun b hb => kX11_isSmall v26 M _ _ hb) rfl rfl hR ⟨Nat.le_of_ble_eq_true rfl, Nat.le_of_ble_eq_true rfl⟩ (Nat.le_of_ble_eq_true rfl) dX11_ahead_89 (fun v27 =>
 (x_if_eq g 108 dX11_ahead_92 rfl
 (fun _ => (x_aload_n g 0 dX11_ahead_108 rfl rfl
 (x_iconst g dX11_ahead_109 kI_2
 (x_putI g fp_RX11_148 rfl (Nat.le_of_ble_eq_true rfl) ht dX11_ahead_110 (x_nmM (fun M28 =>
 (x_goto g 251 dX11_ahead_113 rfl
 (x_vret g hr rfl dX11_ahead_251))))))))
 (fun _ => (x_aload_n g 0 dX11_ahead_95 rfl rfl
 (x_dup g dX11_ahead_96 rfl
 (x_getI g fl_RX11_136 rfl ht dX11_ahead_97
 (x_iconst g dX11_ahead_100 kI_1
 (x_iadd g dX11_ahead_101
 (x_putI g fp_RX11_136 rfl (Nat.le_of_ble_eq_true rfl) ht dX11_ahead_102 (x_nmM (fun M29 =>
 (x_goto g 81 dX11_ahead_105 rfl
 (ih M29)))))))))))))))))))
def fX11_ahead (φ : Nat) (t : Nat) (M : Mem) : Option (Unit × Mem) :=
  lX11_ahead_0 (fun (M5 : Mem) => nm (stI M5 t 13 (M5.1 t 14)) (fun M6 =>
 (fX11_byteAt t (M6.1 t 14) M6).bind fun v7 =>
 nm (stI M6 t 15 v7) (fun M8 =>
 if v7 = (-1 : Int32) then
 nm (stI M8 t 12 (0 : Int32)) (fun M30 =>
 some ((), M30))
 else
 (fX11_isSmall v7 M8).bind fun v9 =>
 if v9 = 0 then
 (fX11_isDigit v7 M8).bind fun v10 =>
 if v10 = 0 then
 nm (stI M8 t 14 ((M8.1 t 14) + (1 : Int32))) (fun M11 =>
 if v7 = (59 : Int32) then
 nm (stI M11 t 12 (4 : Int32)) (fun M12 =>
 some ((), M12))
 else
 if v7 = (60 : Int32) then
 nm (stI M11 t 12 (4 : Int32)) (fun M13 =>
 some ((), M13))
 else
 if v7 = (62 : Int32) then
 nm (stI M11 t 12 (4 : Int32)) (fun M14 =>
 some ((), M14))
 else
 if v7 = (61 : Int32) then
 nm (stI M11 t 12 (4 : Int32)) (fun M16 =>
 some ((), M16))
 else
 nm (stI M11 t 12 (1 : Int32)) (fun M15 =>
 some ((), M15)))
 else
 nm (stI M8 t 15 (0 : Int32)) (fun M17 =>
 lX11_ahead_128 (fun (M23 : Mem) => if ((M23.1 t 14) - (M23.1 t 13)) ≤ (4 : Int32) then
 nm (stI M23 t 12 (3 : Int32)) (fun M24 =>
 some ((), M24))
 else
 nm (stI M23 t 12 (1 : Int32)) (fun M25 =>
 some ((), M25))) t φ M17)
 else
 lX11_ahead_81 t φ M8))) t φ M
set_option maxRecDepth 100000 in
set_option maxHeartbeats 4000000 in
theorem kX11_ahead (φ : Nat) (t : Nat) (M : Mem) (ht : isO 11 t) (l : Launch) (G : GT) {b : (Unit × Mem)} (hE : fX11_ahead φ t M = some b) : Ok l G yX11_ahead cX11_ahead 2 none 1 30 [.ref t] M ((fun q : Unit × Mem => ((none : Option Value), q.2)) b).1 ((fun q : Unit × Mem => ((none : Option Value), q.2)) b).2 := by
  refine Ok.ofX (pj := (fun q : Unit × Mem => ((none : Option Value), q.2))) (by decide) (Nat.le_of_ble_eq_true rfl) hE (fun J g hr hG hl hR hn => ?_)
  show X J (fun q : Unit × Mem => ((none : Option Value), q.2)) (fX11_ahead φ t M) 0 [(0, .ref t)] [] M
  unfold fX11_ahead
  exact (wlX11_ahead_0 g hr hR hn _ t ht
 (fun M5 => by exact (x_aload_n g 0 dX11_ahead_39 rfl rfl
 (x_aload_n g 0 dX11_ahead_40 rfl rfl
 (x_getI g fl_RX11_136 rfl ht dX11_ahead_41
 (x_putI g fp_RX11_142 rfl (Nat.le_of_ble_eq_true rfl) ht dX11_ahead_44 (x_nmM (fun M6 =>
 (x_aload_n g 0 dX11_ahead_47 rfl rfl
 (x_aload_n g 0 dX11_ahead_48 rfl rfl
 (x_getI g fl_RX11_136 rfl ht dX11_ahead_49
 (x_callVip (As := [.int (M6.1 t 14)]) g mv_X11_byteAt mi_X11_byteAt lk_RX11_139 ht (fun b hb => kX11_byteAt t (M6.1 t 14) M6 ht _ _ hb) rfl rfl hR ⟨Nat.le_of_ble_eq_true rfl, Nat.le_of_ble_eq_true rfl⟩ (Nat.le_of_ble_eq_true rfl) dX11_ahead_52 (fun v7 =>
 (x_istore_n (L' := [(1, .int v7), (0, .ref t)]) g dX11_ahead_55 rfl hn (Nat.le_of_ble_eq_true rfl) rfl
 (x_aload_n g 1 dX11_ahead_56 rfl rfl
 (x_iload_n g 0 dX11_ahead_57 rfl rfl
 (x_putI g fp_RX11_145 rfl (Nat.le_of_ble_eq_true rfl) ht dX11_ahead_58 (x_nmM (fun M8 =>
 (x_iload_n g 0 dX11_ahead_61 rfl rfl
 (x_iconst g dX11_ahead_62 kI_m1
 (x_icmp_ne g 74 dX11_ahead_63 rfl
 (fun _ => (x_iload_n g 0 dX11_ahead_74 rfl rfl
 (x_callSip (As := [.int v7]) g mv_X11_isSmall ms_X11_isSmall lk_RX11_151 (fun b hb => kX11_isSmall v7 M8 _ _ hb) rfl rfl hR ⟨Nat.le_of_ble_eq_true rfl, Nat.le_of_ble_eq_true rfl⟩ (Nat.le_of_ble_eq_true rfl) dX11_ahead_75 (fun v9 =>
 (x_if_eq g 116 dX11_ahead_78 rfl
 (fun _ => (x_iload_n g 0 dX11_ahead_116 rfl rfl
 (x_callSip (As := [.int v7]) g mv_X11_isDigit ms_X11_isDigit lk_RX11_154 (fun b hb => kX11_isDigit v7 M8 _ _ hb) rfl rfl hR ⟨Nat.le_of_ble_eq_true rfl, Nat.le_of_ble_eq_true rfl⟩ (Nat.le_of_ble_eq_true rfl) dX11_ahead_117 (fun v10 =>
 (x_if_eq g 208 dX11_ahead_120 rfl
 (fun _ => (x_aload_n g 1 dX11_ahead_208 rfl rfl
 (x_dup g dX11_ahead_209 rfl
 (x_getI g fl_RX11_136 rfl ht dX11_ahead_210
 (x_iconst g dX11_ahead_213 kI_1
 (x_iadd g dX11_ahead_214
 (x_putI g fp_RX11_136 rfl (Nat.le_of_ble_eq_true rfl) ht dX11_ahead_215 (x_nmM (fun M11 =>
 (x_aload_n g 1 dX11_ahead_218 rfl rfl
 (x_iload_n g 0 dX11_ahead_219 rfl rfl
 (x_bipush g dX11_ahead_220 kB_59
 (x_icmp_eq g 243 dX11_ahead_222 rfl
 (fun _ => (x_iconst g dX11_ahead_243 kI_4
 (x_goto g 248 dX11_ahead_244 rfl
 (x_putI g fp_RX11_148 rfl (Nat.le_of_ble_eq_true rfl) ht dX11_ahead_248 (x_nmM (fun M12 =>
 (x_vret g hr rfl dX11_ahead_251)))))))
 (fun _ => (x_iload_n g 0 dX11_ahead_225 rfl rfl
 (x_bipush g dX11_ahead_226 kB_60
 (x_icmp_eq g 243 dX11_ahead_228 rfl
 (fun _ => (x_iconst g dX11_ahead_243 kI_4
 (x_goto g 248 dX11_ahead_244 rfl
 (x_putI g fp_RX11_148 rfl (Nat.le_of_ble_eq_true rfl) ht dX11_ahead_248 (x_nmM (fun M13 =>
 (x_vret g hr rfl dX11_ahead_251)))))))
 (fun _ => (x_iload_n g 0 dX11_ahead_231 rfl rfl
 (x_bipush g dX11_ahead_232 kB_62
 (x_icmp_eq g 243 dX11_ahead_234 rfl
 (fun _ => (x_iconst g dX11_ahead_243 kI_4
 (x_goto g 248 dX11_ahead_244 rfl
 (x_putI g fp_RX11_148 rfl (Nat.le_of_ble_eq_true rfl) ht dX11_ahead_248 (x_nmM (fun M14 =>
 (x_vret g hr rfl dX11_ahead_251)))))))
 (fun _ => (x_iload_n g 0 dX11_ahead_237 rfl rfl
 (x_bipush g dX11_ahead_238 kB_61
 (x_icmp_ne g 247 dX11_ahead_240 rfl
 (fun _ => (x_iconst g dX11_ahead_247 kI_1
 (x_putI g fp_RX11_148 rfl (Nat.le_of_ble_eq_true rfl) ht dX11_ahead_248 (x_nmM (fun M15 =>
 (x_vret g hr rfl dX11_ahead_251))))))
 (fun _ => (x_iconst g dX11_ahead_243 kI_4
 (x_goto g 248 dX11_ahead_244 rfl
 (x_putI g fp_RX11_148 rfl (Nat.le_of_ble_eq_true rfl) ht dX11_ahead_248 (x_nmM (fun M16 =>
 (x_vret g hr rfl dX11_ahead_251))))))))))))))))))))))))))))))))
 (fun _ => (x_aload_n g 1 dX11_ahead_123 rfl rfl
 (x_iconst g dX11_ahead_124 kI_0
 (x_putI g fp_RX11_145 rfl (Nat.le_of_ble_eq_true rfl) ht dX11_ahead_125 (x_nmM (fun M17 =>
 (x_sub [1] rfl (wlX11_ahead_128 g hr hR hn _ t ht
 (fun M23 => by exact (x_aload_n g 0 dX11_ahead_183 rfl rfl
 (x_aload_n g 0 dX11_ahead_184 rfl rfl
 (x_getI g fl_RX11_136 rfl ht dX11_ahead_185
 (x_aload_n g 0 dX11_ahead_188 rfl rfl
 (x_getI g fl_RX11_142 rfl ht dX11_ahead_189
 (x_isub g dX11_ahead_192
 (x_iconst g dX11_ahead_193 kI_4
 (x_icmp_le g 201 dX11_ahead_194 rfl
 (fun _ => (x_iconst g dX11_ahead_201 kI_3
 (x_putI g fp_RX11_148 rfl (Nat.le_of_ble_eq_true rfl) ht dX11_ahead_202 (x_nmM (fun M24 =>
 (x_goto g 251 dX11_ahead_205 rfl
 (x_vret g hr rfl dX11_ahead_251)))))))
 (fun _ => (x_iconst g dX11_ahead_197 kI_1
 (x_goto g 202 dX11_ahead_198 rfl
 (x_putI g fp_RX11_148 rfl (Nat.le_of_ble_eq_true rfl) ht dX11_ahead_202 (x_nmM (fun M25 =>
 (x_goto g 251 dX11_ahead_205 rfl
 (x_vret g hr rfl dX11_ahead_251))))))))))))))))) φ M17)))))))))))))
 (fun _ => (x_sub [1] rfl (wlX11_ahead_81 g hr hR hn  t ht φ M8))))))))
 (fun _ => (x_aload_n g 1 dX11_ahead_66 rfl rfl
 (x_iconst g dX11_ahead_67 kI_0
 (x_putI g fp_RX11_148 rfl (Nat.le_of_ble_eq_true rfl) ht dX11_ahead_68 (x_nmM (fun M30 =>
 (x_goto g 251 dX11_ahead_71 rfl
 (x_vret g hr rfl dX11_ahead_251))))))))))))))))))))))))))))) φ M)
def lX11_begins_26 (K49 : Mem → Option (Int32 × Mem)) (t : Nat) (x1 : Int32) : Nat → Int32 → Mem → Option (Int32 × Mem)
  | 0, _, _ => none
  | n + 1, x3, M =>
    if x1 ≤ x3 then
 K49 M
 else
 ixk x3 900 (
 ixk x3 900 (nm (stI M (t + 7) x3.toNatClampNeg (vp_nar .byte (M.1 (t + 6) x3.toNatClampNeg))) (fun M2 =>
 lX11_begins_26 K49 t x1 n (x3 + 1) M2)))
theorem lX11_begins_26_s (K49 : Mem → Option (Int32 × Mem)) (t : Nat) (x1 : Int32) (n : Nat) (x3 : Int32) (M : Mem) : lX11_begins_26 K49 t x1 (n + 1) x3 M =
    if x1 ≤ x3 then
 K49 M
 else
 ixk x3 900 (
 ixk x3 900 (nm (stI M (t + 7) x3.toNatClampNeg (vp_nar .byte (M.1 (t + 6) x3.toNatClampNeg))) (fun M2 =>
 lX11_begins_26 K49 t x1 n (x3 + 1) M2))) := rfl
theorem lX11_begins_26_0 (K49 : Mem → Option (Int32 × Mem)) (t : Nat) (x1 : Int32) (x3 : Int32) (M : Mem) : lX11_begins_26 K49 t x1 0 x3 M = none := rfl
set_option maxRecDepth 100000 in
set_option maxHeartbeats 4000000 in
theorem wlX11_begins_26 {J : JT} (g : Gd J cX11_begins RX11) (hr : Rt J (some .boolean)) (hR : (JR J).frames = 2 ∧ (JR J).locals = 51) (hn : Jn J = 4) (K49 : Mem → Option (Int32 × Mem)) (t : Nat) (x1 : Int32) (ht : isO 11 t) (hK49 : ∀ (M : Mem), X J (fun q : Int32 × Mem => (some (Value.int q.1), q.2)) (K49 M) 49 [(0, .ref t)] [] M) : ∀ (n : Nat) (x3 : Int32) (M : Mem), X J (fun q : Int32 × Mem => (some (Value.int q.1), q.2)) (lX11_begins_26 K49 t x1 n x3 M) 26 [(0, .ref t), (1, .int x1), (3, .int x3)] [] M := by
  intro n
  induction n with
  | zero =>
    intro x3 M
    exact x_none
  | succ n ih =>
    intro x3 M
    rw [lX11_begins_26_s]
    exact (x_iload_n g 2 dX11_begins_26 rfl rfl
 (x_iload_n g 1 dX11_begins_27 rfl rfl
 (x_icmp_ge g 49 dX11_begins_28 rfl
 (fun _ => (x_sub [0] rfl (hK49 M)))
 (fun _ => (x_aload_n g 0 dX11_begins_31 rfl rfl
 (x_getS g 7 fl_RX11_34 rfl ht dX11_begins_32
 (x_iload_n g 2 dX11_begins_35 rfl rfl
 (x_aload_n g 0 dX11_begins_36 rfl rfl
 (x_getS g 6 fl_RX11_30 rfl ht dX11_begins_37
 (x_iload_n g 2 dX11_begins_40 rfl rfl
 (x_bald g (so_11_8 ht) dX11_begins_41
 (x_bast g (so_11_9 ht) dX11_begins_42 (x_nmM (fun M2 =>
 (x_iinc (L' := [(3, .int (x3 + 1)), (0, .ref t), (1, .int x1)]) (v := (x3 + 1)) g 2 dX11_begins_43 rfl (by rw [kI_1]) hn (Nat.le_of_ble_eq_true rfl) rfl
 (x_goto g 26 dX11_begins_46 rfl
 (x_sub [1, 2, 0] rfl (ih (x3 + 1) M2))))))))))))))))))
def fX11_begins (φ : Nat) (t : Nat) (a1 : Int32) (a2 : Int32) (M : Mem) : Option (Int32 × Mem) :=
  if a1 < 0 then
 some ((0 : Int32), M)
 else
 if (M.1 t 10) < a1 then
 some ((0 : Int32), M)
 else
 if a1 ≤ a2 then
 nm (stI M t 11 a1) (fun M1 =>
 lX11_begins_26 (fun (M3 : Mem) => nm (stI M3 t 10 (0 : Int32)) (fun M4 =>
 nm (stI M4 t 18 (0 : Int32)) (fun M5 =>
 nm (stI M5 t 17 (-1 : Int32)) (fun M6 =>
 nm (stI M6 t 14 (0 : Int32)) (fun M7 =>
 nm (stI M7 t 19 (0 : Int32)) (fun M8 =>
 bd (fX11_ahead φ t M8) fun vu9 M10 =>
 some ((1 : Int32), M10))))))) t a1 φ (0 : Int32) M1)
 else
 some ((0 : Int32), M)
set_option maxRecDepth 100000 in
set_option maxHeartbeats 4000000 in
theorem kX11_begins (φ : Nat) (t : Nat) (a1 : Int32) (a2 : Int32) (M : Mem) (ht : isO 11 t) (l : Launch) (G : GT) {b : (Int32 × Mem)} (hE : fX11_begins φ t a1 a2 M = some b) : Ok l G yX11_begins cX11_begins 4 (some .boolean) 2 51 [.ref t, .int a1, .int a2] M ((fun q : Int32 × Mem => (some (Value.int q.1), q.2)) b).1 ((fun q : Int32 × Mem => (some (Value.int q.1), q.2)) b).2 := by
  refine Ok.ofX (pj := (fun q : Int32 × Mem => (some (Value.int q.1), q.2))) (by decide) (Nat.le_of_ble_eq_true rfl) hE (fun J g hr hG hl hR hn => ?_)
  show X J (fun q : Int32 × Mem => (some (Value.int q.1), q.2)) (fX11_begins φ t a1 a2 M) 0 [(0, .ref t), (1, .int a1), (2, .int a2)] [] M
  unfold fX11_begins
  exact (x_iload_n g 1 dX11_begins_0 rfl rfl
 (x_if_lt g 17 dX11_begins_1 rfl
 (fun _ => (x_iconst g dX11_begins_17 kI_0
 (x_iret g hr rfl rfl dX11_begins_18)))
 (fun _ => (x_iload_n g 1 dX11_begins_4 rfl rfl
 (x_aload_n g 0 dX11_begins_5 rfl rfl
 (x_getI g fl_RX11_126 rfl ht dX11_begins_6
 (x_icmp_gt g 17 dX11_begins_9 rfl
 (fun _ => (x_iconst g dX11_begins_17 kI_0
 (x_iret g hr rfl rfl dX11_begins_18)))
 (fun _ => (x_iload_n g 1 dX11_begins_12 rfl rfl
 (x_iload_n g 2 dX11_begins_13 rfl rfl
 (x_icmp_le g 19 dX11_begins_14 rfl
 (fun _ => (x_aload_n g 0 dX11_begins_19 rfl rfl
 (x_iload_n g 1 dX11_begins_20 rfl rfl
 (x_putI g fp_RX11_133 rfl (Nat.le_of_ble_eq_true rfl) ht dX11_begins_21 (x_nmM (fun M1 =>
 (x_iconst g dX11_begins_24 kI_0
 (x_istore_n (L' := [(3, .int (0 : Int32)), (0, .ref t), (1, .int a1), (2, .int a2)]) g dX11_begins_25 rfl hn (Nat.le_of_ble_eq_true rfl) rfl
 (x_sub [1, 2, 0] rfl (wlX11_begins_26 g hr hR hn _ t a1 ht
 (fun M3 => by exact (x_aload_n g 0 dX11_begins_49 rfl rfl
 (x_iconst g dX11_begins_50 kI_0
 (x_putI g fp_RX11_126 rfl (Nat.le_of_ble_eq_true rfl) ht dX11_begins_51 (x_nmM (fun M4 =>
 (x_aload_n g 0 dX11_begins_54 rfl rfl
 (x_iconst g dX11_begins_55 kI_0
 (x_putI g fp_RX11_173 rfl (Nat.le_of_ble_eq_true rfl) ht dX11_begins_56 (x_nmM (fun M5 =>
 (x_aload_n g 0 dX11_begins_59 rfl rfl
 (x_iconst g dX11_begins_60 kI_m1
 (x_putI g fp_RX11_41 rfl (Nat.le_of_ble_eq_true rfl) ht dX11_begins_61 (x_nmM (fun M6 =>
 (x_aload_n g 0 dX11_begins_64 rfl rfl
 (x_iconst g dX11_begins_65 kI_0
 (x_putI g fp_RX11_136 rfl (Nat.le_of_ble_eq_true rfl) ht dX11_begins_66 (x_nmM (fun M7 =>
 (x_aload_n g 0 dX11_begins_69 rfl rfl
 (x_iconst g dX11_begins_70 kI_0
 (x_putI g fp_RX11_176 rfl (Nat.le_of_ble_eq_true rfl) ht dX11_begins_71 (x_nmM (fun M8 =>
 (x_aload_n g 0 dX11_begins_74 rfl rfl
 (x_callVv (As := []) g mv_X11_ahead mi_X11_ahead lk_RX11_179 ht (fun b Mh_ hb => kX11_ahead φ t M8 ht _ _ hb) rfl rfl hR ⟨Nat.le_of_ble_eq_true rfl, Nat.le_of_ble_eq_true rfl⟩ (Nat.le_of_ble_eq_true rfl) dX11_begins_75 (fun vu9 M10 =>
 (x_iconst g dX11_begins_78 kI_1
 (x_iret g hr rfl rfl dX11_begins_79))))))))))))))))))))))))))))))) φ (0 : Int32) M1))))))))))
 (fun _ => (x_iconst g dX11_begins_17 kI_0
 (x_iret g hr rfl rfl dX11_begins_18))))))))))))))
def fX11_refuse (t : Nat) (a1 : Int32) (M : Mem) : Option (Int32 × Mem) :=
  nm (stI M t 2 a1) (fun M1 =>
 some ((-1 : Int32), M1))
set_option maxRecDepth 100000 in
set_option maxHeartbeats 4000000 in
theorem kX11_refuse (t : Nat) (a1 : Int32) (M : Mem) (ht : isO 11 t) (l : Launch) (G : GT) {b : (Int32 × Mem)} (hE : fX11_refuse t a1 M = some b) : Ok l G yX11_refuse cX11_refuse 2 (some .int) 0 0 [.ref t, .int a1] M ((fun q : Int32 × Mem => (some (Value.int q.1), q.2)) b).1 ((fun q : Int32 × Mem => (some (Value.int q.1), q.2)) b).2 := by
  refine Ok.ofX (pj := (fun q : Int32 × Mem => (some (Value.int q.1), q.2))) (by decide) (Nat.le_of_ble_eq_true rfl) hE (fun J g hr hG hl hR hn => ?_)
  show X J (fun q : Int32 × Mem => (some (Value.int q.1), q.2)) (fX11_refuse t a1 M) 0 [(0, .ref t), (1, .int a1)] [] M
  unfold fX11_refuse
  exact (x_aload_n g 0 dX11_refuse_0 rfl rfl
 (x_iload_n g 1 dX11_refuse_1 rfl rfl
 (x_putI g fp_RX11_96 rfl (Nat.le_of_ble_eq_true rfl) ht dX11_refuse_2 (x_nmM (fun M1 =>
 (x_iconst g dX11_refuse_5 kI_m1
 (x_iret g hr rfl rfl dX11_refuse_6)))))))
