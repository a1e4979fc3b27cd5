theorem dX9_passRest_0 : decode cX9_passRest 0 = .ok (.iload_n 2, 1) := by decide +kernel
theorem dX9_passRest_1 : decode cX9_passRest 1 = .ok (.tableswitch 199 13 21 #[51, 84, 134, 109, 199, 143, 177, 177, 134], 51) := by decide +kernel
theorem dX9_passRest_52 : decode cX9_passRest 52 = .ok (.aload_n 0, 1) := by decide +kernel
theorem dX9_passRest_53 : decode cX9_passRest 53 = .ok (.iload_n 1, 1) := by decide +kernel
theorem dX9_passRest_54 : decode cX9_passRest 54 = .ok (.invokevirtual 83, 3) := by decide +kernel
theorem dX9_passRest_57 : decode cX9_passRest 57 = .ok (.ifCond .eq 26, 3) := by decide +kernel
theorem dX9_passRest_60 : decode cX9_passRest 60 = .ok (.aload_n 0, 1) := by decide +kernel
theorem dX9_passRest_61 : decode cX9_passRest 61 = .ok (.iload_n 1, 1) := by decide +kernel
theorem dX9_passRest_62 : decode cX9_passRest 62 = .ok (.invokevirtual 86, 3) := by decide +kernel
theorem dX9_passRest_65 : decode cX9_passRest 65 = .ok (.ifCond .eq 18, 3) := by decide +kernel
theorem dX9_passRest_68 : decode cX9_passRest 68 = .ok (.aload_n 0, 1) := by decide +kernel
theorem dX9_passRest_69 : decode cX9_passRest 69 = .ok (.iload_n 1, 1) := by decide +kernel
theorem dX9_passRest_70 : decode cX9_passRest 70 = .ok (.iconst 1, 1) := by decide +kernel
theorem dX9_passRest_71 : decode cX9_passRest 71 = .ok (.bipush 99, 2) := by decide +kernel
theorem dX9_passRest_73 : decode cX9_passRest 73 = .ok (.invokevirtual 89, 3) := by decide +kernel
theorem dX9_passRest_76 : decode cX9_passRest 76 = .ok (.ifCond .eq 7, 3) := by decide +kernel
theorem dX9_passRest_79 : decode cX9_passRest 79 = .ok (.iconst 1, 1) := by decide +kernel
theorem dX9_passRest_80 : decode cX9_passRest 80 = .ok (.goto 4, 3) := by decide +kernel
theorem dX9_passRest_83 : decode cX9_passRest 83 = .ok (.iconst 0, 1) := by decide +kernel
theorem dX9_passRest_84 : decode cX9_passRest 84 = .ok (.ireturn, 1) := by decide +kernel
theorem dX9_passRest_85 : decode cX9_passRest 85 = .ok (.aload_n 0, 1) := by decide +kernel
theorem dX9_passRest_86 : decode cX9_passRest 86 = .ok (.iload_n 1, 1) := by decide +kernel
theorem dX9_passRest_87 : decode cX9_passRest 87 = .ok (.invokevirtual 83, 3) := by decide +kernel
theorem dX9_passRest_90 : decode cX9_passRest 90 = .ok (.ifCond .eq 18, 3) := by decide +kernel
theorem dX9_passRest_93 : decode cX9_passRest 93 = .ok (.aload_n 0, 1) := by decide +kernel
theorem dX9_passRest_94 : decode cX9_passRest 94 = .ok (.iload_n 1, 1) := by decide +kernel
theorem dX9_passRest_95 : decode cX9_passRest 95 = .ok (.iconst 1, 1) := by decide +kernel
theorem dX9_passRest_96 : decode cX9_passRest 96 = .ok (.bipush 99, 2) := by decide +kernel
theorem dX9_passRest_98 : decode cX9_passRest 98 = .ok (.invokevirtual 89, 3) := by decide +kernel
theorem dX9_passRest_101 : decode cX9_passRest 101 = .ok (.ifCond .eq 7, 3) := by decide +kernel
theorem dX9_passRest_104 : decode cX9_passRest 104 = .ok (.iconst 1, 1) := by decide +kernel
theorem dX9_passRest_105 : decode cX9_passRest 105 = .ok (.goto 4, 3) := by decide +kernel
theorem dX9_passRest_108 : decode cX9_passRest 108 = .ok (.iconst 0, 1) := by decide +kernel
theorem dX9_passRest_109 : decode cX9_passRest 109 = .ok (.ireturn, 1) := by decide +kernel
theorem dX9_passRest_110 : decode cX9_passRest 110 = .ok (.aload_n 0, 1) := by decide +kernel
theorem dX9_passRest_111 : decode cX9_passRest 111 = .ok (.iload_n 1, 1) := by decide +kernel
theorem dX9_passRest_112 : decode cX9_passRest 112 = .ok (.invokevirtual 93, 3) := by decide +kernel
theorem dX9_passRest_115 : decode cX9_passRest 115 = .ok (.ifCond .eq 18, 3) := by decide +kernel
theorem dX9_passRest_118 : decode cX9_passRest 118 = .ok (.aload_n 0, 1) := by decide +kernel
theorem dX9_passRest_119 : decode cX9_passRest 119 = .ok (.iload_n 1, 1) := by decide +kernel
theorem dX9_passRest_120 : decode cX9_passRest 120 = .ok (.iconst 1, 1) := by decide +kernel
theorem dX9_passRest_121 : decode cX9_passRest 121 = .ok (.bipush 99, 2) := by decide +kernel
theorem dX9_passRest_123 : decode cX9_passRest 123 = .ok (.invokevirtual 89, 3) := by decide +kernel
theorem dX9_passRest_126 : decode cX9_passRest 126 = .ok (.ifCond .eq 7, 3) := by decide +kernel
theorem dX9_passRest_129 : decode cX9_passRest 129 = .ok (.iconst 1, 1) := by decide +kernel
theorem dX9_passRest_130 : decode cX9_passRest 130 = .ok (.goto 4, 3) := by decide +kernel
theorem dX9_passRest_133 : decode cX9_passRest 133 = .ok (.iconst 0, 1) := by decide +kernel
theorem dX9_passRest_134 : decode cX9_passRest 134 = .ok (.ireturn, 1) := by decide +kernel
theorem dX9_passRest_135 : decode cX9_passRest 135 = .ok (.aload_n 0, 1) := by decide +kernel
theorem dX9_passRest_136 : decode cX9_passRest 136 = .ok (.iload_n 1, 1) := by decide +kernel
theorem dX9_passRest_137 : decode cX9_passRest 137 = .ok (.iconst 1, 1) := by decide +kernel
theorem dX9_passRest_138 : decode cX9_passRest 138 = .ok (.bipush 99, 2) := by decide +kernel
theorem dX9_passRest_140 : decode cX9_passRest 140 = .ok (.invokevirtual 89, 3) := by decide +kernel
theorem dX9_passRest_143 : decode cX9_passRest 143 = .ok (.ireturn, 1) := by decide +kernel
theorem dX9_passRest_144 : decode cX9_passRest 144 = .ok (.aload_n 0, 1) := by decide +kernel
theorem dX9_passRest_145 : decode cX9_passRest 145 = .ok (.iload_n 1, 1) := by decide +kernel
theorem dX9_passRest_146 : decode cX9_passRest 146 = .ok (.invokevirtual 83, 3) := by decide +kernel
theorem dX9_passRest_149 : decode cX9_passRest 149 = .ok (.ifCond .eq 27, 3) := by decide +kernel
theorem dX9_passRest_152 : decode cX9_passRest 152 = .ok (.aload_n 0, 1) := by decide +kernel
theorem dX9_passRest_153 : decode cX9_passRest 153 = .ok (.iload_n 1, 1) := by decide +kernel
theorem dX9_passRest_154 : decode cX9_passRest 154 = .ok (.invokevirtual 96, 3) := by decide +kernel
theorem dX9_passRest_157 : decode cX9_passRest 157 = .ok (.ifCond .eq 19, 3) := by decide +kernel
theorem dX9_passRest_160 : decode cX9_passRest 160 = .ok (.aload_n 0, 1) := by decide +kernel
theorem dX9_passRest_161 : decode cX9_passRest 161 = .ok (.iload_n 1, 1) := by decide +kernel
theorem dX9_passRest_162 : decode cX9_passRest 162 = .ok (.iconst 0, 1) := by decide +kernel
theorem dX9_passRest_163 : decode cX9_passRest 163 = .ok (.sipush 9999, 3) := by decide +kernel
theorem dX9_passRest_166 : decode cX9_passRest 166 = .ok (.invokevirtual 89, 3) := by decide +kernel
theorem dX9_passRest_169 : decode cX9_passRest 169 = .ok (.ifCond .eq 7, 3) := by decide +kernel
theorem dX9_passRest_172 : decode cX9_passRest 172 = .ok (.iconst 1, 1) := by decide +kernel
theorem dX9_passRest_173 : decode cX9_passRest 173 = .ok (.goto 4, 3) := by decide +kernel
theorem dX9_passRest_176 : decode cX9_passRest 176 = .ok (.iconst 0, 1) := by decide +kernel
theorem dX9_passRest_177 : decode cX9_passRest 177 = .ok (.ireturn, 1) := by decide +kernel
theorem dX9_passRest_178 : decode cX9_passRest 178 = .ok (.aload_n 0, 1) := by decide +kernel
theorem dX9_passRest_179 : decode cX9_passRest 179 = .ok (.iload_n 1, 1) := by decide +kernel
theorem dX9_passRest_180 : decode cX9_passRest 180 = .ok (.invokevirtual 83, 3) := by decide +kernel
theorem dX9_passRest_183 : decode cX9_passRest 183 = .ok (.ifCond .eq 15, 3) := by decide +kernel
theorem dX9_passRest_186 : decode cX9_passRest 186 = .ok (.aload_n 0, 1) := by decide +kernel
theorem dX9_passRest_187 : decode cX9_passRest 187 = .ok (.iload_n 1, 1) := by decide +kernel
theorem dX9_passRest_188 : decode cX9_passRest 188 = .ok (.invokevirtual 86, 3) := by decide +kernel
theorem dX9_passRest_191 : decode cX9_passRest 191 = .ok (.ifCond .eq 7, 3) := by decide +kernel
theorem dX9_passRest_194 : decode cX9_passRest 194 = .ok (.iconst 1, 1) := by decide +kernel
theorem dX9_passRest_195 : decode cX9_passRest 195 = .ok (.goto 4, 3) := by decide +kernel
theorem dX9_passRest_198 : decode cX9_passRest 198 = .ok (.iconst 0, 1) := by decide +kernel
theorem dX9_passRest_199 : decode cX9_passRest 199 = .ok (.ireturn, 1) := by decide +kernel
theorem dX9_passRest_200 : decode cX9_passRest 200 = .ok (.iconst 1, 1) := by decide +kernel
theorem dX9_passRest_201 : decode cX9_passRest 201 = .ok (.ireturn, 1) := by decide +kernel
theorem dX9_passStep_0 : decode cX9_passStep 0 = .ok (.aload_n 0, 1) := by decide +kernel
theorem dX9_passStep_1 : decode cX9_passStep 1 = .ok (.getfield 19, 3) := by decide +kernel
theorem dX9_passStep_4 : decode cX9_passStep 4 = .ok (.invokevirtual 53, 3) := by decide +kernel
theorem dX9_passStep_7 : decode cX9_passStep 7 = .ok (.istore_n 1, 1) := by decide +kernel
theorem dX9_passStep_8 : decode cX9_passStep 8 = .ok (.iload_n 1, 1) := by decide +kernel
theorem dX9_passStep_9 : decode cX9_passStep 9 = .ok (.bipush 22, 2) := by decide +kernel
theorem dX9_passStep_11 : decode cX9_passStep 11 = .ok (.if_icmp .ne 8, 3) := by decide +kernel
theorem dX9_passStep_14 : decode cX9_passStep 14 = .ok (.aload_n 0, 1) := by decide +kernel
theorem dX9_passStep_15 : decode cX9_passStep 15 = .ok (.invokevirtual 57, 3) := by decide +kernel
theorem dX9_passStep_18 : decode cX9_passStep 18 = .ok (.ireturn, 1) := by decide +kernel
theorem dX9_passStep_19 : decode cX9_passStep 19 = .ok (.iload_n 1, 1) := by decide +kernel
theorem dX9_passStep_20 : decode cX9_passStep 20 = .ok (.bipush 17, 2) := by decide +kernel
theorem dX9_passStep_22 : decode cX9_passStep 22 = .ok (.if_icmp .eq 9, 3) := by decide +kernel
theorem dX9_passStep_25 : decode cX9_passStep 25 = .ok (.iload_n 1, 1) := by decide +kernel
theorem dX9_passStep_26 : decode cX9_passStep 26 = .ok (.bipush 21, 2) := by decide +kernel
theorem dX9_passStep_28 : decode cX9_passStep 28 = .ok (.if_icmp .ne 7, 3) := by decide +kernel
theorem dX9_passStep_31 : decode cX9_passStep 31 = .ok (.iconst 1, 1) := by decide +kernel
theorem dX9_passStep_32 : decode cX9_passStep 32 = .ok (.goto 4, 3) := by decide +kernel
theorem dX9_passStep_35 : decode cX9_passStep 35 = .ok (.iconst 0, 1) := by decide +kernel
theorem dX9_passStep_36 : decode cX9_passStep 36 = .ok (.istore_n 2, 1) := by decide +kernel
theorem dX9_passStep_37 : decode cX9_passStep 37 = .ok (.iload_n 2, 1) := by decide +kernel
theorem dX9_passStep_38 : decode cX9_passStep 38 = .ok (.ifCond .ne 19, 3) := by decide +kernel
theorem dX9_passStep_41 : decode cX9_passStep 41 = .ok (.iload_n 1, 1) := by decide +kernel
theorem dX9_passStep_42 : decode cX9_passStep 42 = .ok (.invokestatic 60, 3) := by decide +kernel
theorem dX9_passStep_45 : decode cX9_passStep 45 = .ok (.ifCond .ne 12, 3) := by decide +kernel
theorem dX9_passStep_48 : decode cX9_passStep 48 = .ok (.aload_n 0, 1) := by decide +kernel
theorem dX9_passStep_49 : decode cX9_passStep 49 = .ok (.getfield 19, 3) := by decide +kernel
theorem dX9_passStep_52 : decode cX9_passStep 52 = .ok (.iconst 2, 1) := by decide +kernel
theorem dX9_passStep_53 : decode cX9_passStep 53 = .ok (.invokevirtual 45, 3) := by decide +kernel
theorem dX9_passStep_56 : decode cX9_passStep 56 = .ok (.ireturn, 1) := by decide +kernel
theorem dX9_passStep_57 : decode cX9_passStep 57 = .ok (.aload_n 0, 1) := by decide +kernel
theorem dX9_passStep_58 : decode cX9_passStep 58 = .ok (.getfield 27, 3) := by decide +kernel
theorem dX9_passStep_61 : decode cX9_passStep 61 = .ok (.invokevirtual 63, 3) := by decide +kernel
theorem dX9_passStep_64 : decode cX9_passStep 64 = .ok (.ifCond .eq 13, 3) := by decide +kernel
theorem dX9_passStep_67 : decode cX9_passStep 67 = .ok (.aload_n 0, 1) := by decide +kernel
theorem dX9_passStep_68 : decode cX9_passStep 68 = .ok (.getfield 19, 3) := by decide +kernel
theorem dX9_passStep_71 : decode cX9_passStep 71 = .ok (.bipush 6, 2) := by decide +kernel
theorem dX9_passStep_73 : decode cX9_passStep 73 = .ok (.invokevirtual 45, 3) := by decide +kernel
theorem dX9_passStep_76 : decode cX9_passStep 76 = .ok (.ireturn, 1) := by decide +kernel
theorem dX9_passStep_77 : decode cX9_passStep 77 = .ok (.iload_n 2, 1) := by decide +kernel
theorem dX9_passStep_78 : decode cX9_passStep 78 = .ok (.ifCond .eq 21, 3) := by decide +kernel
theorem dX9_passStep_81 : decode cX9_passStep 81 = .ok (.aload_n 0, 1) := by decide +kernel
theorem dX9_passStep_82 : decode cX9_passStep 82 = .ok (.getfield 15, 3) := by decide +kernel
theorem dX9_passStep_85 : decode cX9_passStep 85 = .ok (.iconst 3, 1) := by decide +kernel
theorem dX9_passStep_86 : decode cX9_passStep 86 = .ok (.if_icmp .lt 13, 3) := by decide +kernel
theorem dX9_passStep_89 : decode cX9_passStep 89 = .ok (.aload_n 0, 1) := by decide +kernel
theorem dX9_passStep_90 : decode cX9_passStep 90 = .ok (.getfield 19, 3) := by decide +kernel
theorem dX9_passStep_93 : decode cX9_passStep 93 = .ok (.bipush 7, 2) := by decide +kernel
theorem dX9_passStep_95 : decode cX9_passStep 95 = .ok (.invokevirtual 45, 3) := by decide +kernel
theorem dX9_passStep_98 : decode cX9_passStep 98 = .ok (.ireturn, 1) := by decide +kernel
theorem dX9_passStep_99 : decode cX9_passStep 99 = .ok (.aload_n 0, 1) := by decide +kernel
theorem dX9_passStep_100 : decode cX9_passStep 100 = .ok (.getfield 19, 3) := by decide +kernel
theorem dX9_passStep_103 : decode cX9_passStep 103 = .ok (.invokevirtual 66, 3) := by decide +kernel
theorem dX9_passStep_106 : decode cX9_passStep 106 = .ok (.iload_n 1, 1) := by decide +kernel
theorem dX9_passStep_107 : decode cX9_passStep 107 = .ok (.bipush 17, 2) := by decide +kernel
theorem dX9_passStep_109 : decode cX9_passStep 109 = .ok (.if_icmp .ne 45, 3) := by decide +kernel
theorem dX9_passStep_112 : decode cX9_passStep 112 = .ok (.aload_n 0, 1) := by decide +kernel
theorem dX9_passStep_113 : decode cX9_passStep 113 = .ok (.getfield 19, 3) := by decide +kernel
theorem dX9_passStep_116 : decode cX9_passStep 116 = .ok (.invokevirtual 53, 3) := by decide +kernel
theorem dX9_passStep_119 : decode cX9_passStep 119 = .ok (.istore_n 1, 1) := by decide +kernel
theorem dX9_passStep_120 : decode cX9_passStep 120 = .ok (.iload_n 1, 1) := by decide +kernel
theorem dX9_passStep_121 : decode cX9_passStep 121 = .ok (.bipush 18, 2) := by decide +kernel
theorem dX9_passStep_123 : decode cX9_passStep 123 = .ok (.if_icmp .eq 24, 3) := by decide +kernel
theorem dX9_passStep_126 : decode cX9_passStep 126 = .ok (.iload_n 1, 1) := by decide +kernel
theorem dX9_passStep_127 : decode cX9_passStep 127 = .ok (.bipush 19, 2) := by decide +kernel
theorem dX9_passStep_129 : decode cX9_passStep 129 = .ok (.if_icmp .eq 18, 3) := by decide +kernel
theorem dX9_passStep_132 : decode cX9_passStep 132 = .ok (.iload_n 1, 1) := by decide +kernel
theorem dX9_passStep_133 : decode cX9_passStep 133 = .ok (.bipush 20, 2) := by decide +kernel
theorem dX9_passStep_135 : decode cX9_passStep 135 = .ok (.if_icmp .eq 12, 3) := by decide +kernel
theorem dX9_passStep_138 : decode cX9_passStep 138 = .ok (.aload_n 0, 1) := by decide +kernel
theorem dX9_passStep_139 : decode cX9_passStep 139 = .ok (.getfield 19, 3) := by decide +kernel
theorem dX9_passStep_142 : decode cX9_passStep 142 = .ok (.iconst 2, 1) := by decide +kernel
theorem dX9_passStep_143 : decode cX9_passStep 143 = .ok (.invokevirtual 45, 3) := by decide +kernel
theorem dX9_passStep_146 : decode cX9_passStep 146 = .ok (.ireturn, 1) := by decide +kernel
theorem dX9_passStep_147 : decode cX9_passStep 147 = .ok (.aload_n 0, 1) := by decide +kernel
theorem dX9_passStep_148 : decode cX9_passStep 148 = .ok (.getfield 19, 3) := by decide +kernel
theorem dX9_passStep_151 : decode cX9_passStep 151 = .ok (.invokevirtual 66, 3) := by decide +kernel
theorem dX9_passStep_154 : decode cX9_passStep 154 = .ok (.aload_n 0, 1) := by decide +kernel
theorem dX9_passStep_155 : decode cX9_passStep 155 = .ok (.getfield 27, 3) := by decide +kernel
theorem dX9_passStep_158 : decode cX9_passStep 158 = .ok (.iload_n 1, 1) := by decide +kernel
theorem dX9_passStep_159 : decode cX9_passStep 159 = .ok (.invokevirtual 69, 3) := by decide +kernel
theorem dX9_passStep_162 : decode cX9_passStep 162 = .ok (.istore_n 3, 1) := by decide +kernel
theorem dX9_passStep_163 : decode cX9_passStep 163 = .ok (.iload_n 2, 1) := by decide +kernel
theorem dX9_passStep_164 : decode cX9_passStep 164 = .ok (.ifCond .eq 23, 3) := by decide +kernel
theorem dX9_passStep_167 : decode cX9_passStep 167 = .ok (.aload_n 0, 1) := by decide +kernel
theorem dX9_passStep_168 : decode cX9_passStep 168 = .ok (.getfield 11, 3) := by decide +kernel
theorem dX9_passStep_171 : decode cX9_passStep 171 = .ok (.aload_n 0, 1) := by decide +kernel
theorem dX9_passStep_172 : decode cX9_passStep 172 = .ok (.getfield 15, 3) := by decide +kernel
theorem dX9_passStep_175 : decode cX9_passStep 175 = .ok (.iload_n 3, 1) := by decide +kernel
theorem dX9_passStep_176 : decode cX9_passStep 176 = .ok (.iastore, 1) := by decide +kernel
theorem dX9_passStep_177 : decode cX9_passStep 177 = .ok (.aload_n 0, 1) := by decide +kernel
theorem dX9_passStep_178 : decode cX9_passStep 178 = .ok (.dup, 1) := by decide +kernel
theorem dX9_passStep_179 : decode cX9_passStep 179 = .ok (.getfield 15, 3) := by decide +kernel
theorem dX9_passStep_182 : decode cX9_passStep 182 = .ok (.iconst 1, 1) := by decide +kernel
theorem dX9_passStep_183 : decode cX9_passStep 183 = .ok (.iadd, 1) := by decide +kernel
theorem dX9_passStep_184 : decode cX9_passStep 184 = .ok (.putfield 15, 3) := by decide +kernel
theorem dX9_passStep_187 : decode cX9_passStep 187 = .ok (.aload_n 0, 1) := by decide +kernel
theorem dX9_passStep_188 : decode cX9_passStep 188 = .ok (.iload_n 3, 1) := by decide +kernel
theorem dX9_passStep_189 : decode cX9_passStep 189 = .ok (.iload_n 1, 1) := by decide +kernel
theorem dX9_passStep_190 : decode cX9_passStep 190 = .ok (.invokevirtual 73, 3) := by decide +kernel
theorem dX9_passStep_193 : decode cX9_passStep 193 = .ok (.ifCond .eq 17, 3) := by decide +kernel
theorem dX9_passStep_196 : decode cX9_passStep 196 = .ok (.aload_n 0, 1) := by decide +kernel
theorem dX9_passStep_197 : decode cX9_passStep 197 = .ok (.getfield 19, 3) := by decide +kernel
theorem dX9_passStep_200 : decode cX9_passStep 200 = .ok (.invokevirtual 77, 3) := by decide +kernel
theorem dX9_passStep_203 : decode cX9_passStep 203 = .ok (.ifCond .eq 7, 3) := by decide +kernel
theorem dX9_passStep_206 : decode cX9_passStep 206 = .ok (.iconst 1, 1) := by decide +kernel
theorem dX9_passStep_207 : decode cX9_passStep 207 = .ok (.goto 4, 3) := by decide +kernel
theorem dX9_passStep_210 : decode cX9_passStep 210 = .ok (.iconst 0, 1) := by decide +kernel
theorem dX9_passStep_211 : decode cX9_passStep 211 = .ok (.ireturn, 1) := by decide +kernel
theorem dX9_isTaken_0 : decode cX9_isTaken 0 = .ok (.aload_n 0, 1) := by decide +kernel
theorem dX9_isTaken_1 : decode cX9_isTaken 1 = .ok (.aload_n 1, 1) := by decide +kernel
theorem dX9_isTaken_2 : decode cX9_isTaken 2 = .ok (.putfield 19, 3) := by decide +kernel
theorem dX9_isTaken_5 : decode cX9_isTaken 5 = .ok (.aload_n 0, 1) := by decide +kernel
theorem dX9_isTaken_6 : decode cX9_isTaken 6 = .ok (.aload_n 2, 1) := by decide +kernel
theorem dX9_isTaken_7 : decode cX9_isTaken 7 = .ok (.putfield 23, 3) := by decide +kernel
theorem dX9_isTaken_10 : decode cX9_isTaken 10 = .ok (.aload_n 0, 1) := by decide +kernel
theorem dX9_isTaken_11 : decode cX9_isTaken 11 = .ok (.aload_n 3, 1) := by decide +kernel
theorem dX9_isTaken_12 : decode cX9_isTaken 12 = .ok (.putfield 27, 3) := by decide +kernel
theorem dX9_isTaken_15 : decode cX9_isTaken 15 = .ok (.aload_n 0, 1) := by decide +kernel
theorem dX9_isTaken_16 : decode cX9_isTaken 16 = .ok (.iconst 0, 1) := by decide +kernel
theorem dX9_isTaken_17 : decode cX9_isTaken 17 = .ok (.putfield 15, 3) := by decide +kernel
theorem dX9_isTaken_20 : decode cX9_isTaken 20 = .ok (.aload_n 0, 1) := by decide +kernel
theorem dX9_isTaken_21 : decode cX9_isTaken 21 = .ok (.getfield 27, 3) := by decide +kernel
theorem dX9_isTaken_24 : decode cX9_isTaken 24 = .ok (.invokevirtual 31, 3) := by decide +kernel
theorem dX9_isTaken_27 : decode cX9_isTaken 27 = .ok (.iconst 0, 1) := by decide +kernel
theorem dX9_isTaken_28 : decode cX9_isTaken 28 = .ok (.istore 4, 2) := by decide +kernel
theorem dX9_isTaken_30 : decode cX9_isTaken 30 = .ok (.iload 4, 2) := by decide +kernel
theorem dX9_isTaken_32 : decode cX9_isTaken 32 = .ok (.sipush 900, 3) := by decide +kernel
theorem dX9_isTaken_35 : decode cX9_isTaken 35 = .ok (.if_icmp .ge 28, 3) := by decide +kernel
theorem dX9_isTaken_38 : decode cX9_isTaken 38 = .ok (.aload_n 0, 1) := by decide +kernel
theorem dX9_isTaken_39 : decode cX9_isTaken 39 = .ok (.getfield 19, 3) := by decide +kernel
theorem dX9_isTaken_42 : decode cX9_isTaken 42 = .ok (.invokevirtual 36, 3) := by decide +kernel
theorem dX9_isTaken_45 : decode cX9_isTaken 45 = .ok (.ifCond .ne 18, 3) := by decide +kernel
theorem dX9_isTaken_48 : decode cX9_isTaken 48 = .ok (.aload_n 0, 1) := by decide +kernel
theorem dX9_isTaken_49 : decode cX9_isTaken 49 = .ok (.invokevirtual 42, 3) := by decide +kernel
theorem dX9_isTaken_52 : decode cX9_isTaken 52 = .ok (.ifCond .ne 5, 3) := by decide +kernel
theorem dX9_isTaken_55 : decode cX9_isTaken 55 = .ok (.iconst 0, 1) := by decide +kernel
theorem dX9_isTaken_56 : decode cX9_isTaken 56 = .ok (.ireturn, 1) := by decide +kernel
theorem dX9_isTaken_57 : decode cX9_isTaken 57 = .ok (.iinc 4 1, 3) := by decide +kernel
theorem dX9_isTaken_60 : decode cX9_isTaken 60 = .ok (.goto (-30), 3) := by decide +kernel
theorem dX9_isTaken_63 : decode cX9_isTaken 63 = .ok (.aload_n 0, 1) := by decide +kernel
theorem dX9_isTaken_64 : decode cX9_isTaken 64 = .ok (.getfield 15, 3) := by decide +kernel
theorem dX9_isTaken_67 : decode cX9_isTaken 67 = .ok (.ifCond .le 12, 3) := by decide +kernel
theorem dX9_isTaken_70 : decode cX9_isTaken 70 = .ok (.aload_n 0, 1) := by decide +kernel
theorem dX9_isTaken_71 : decode cX9_isTaken 71 = .ok (.getfield 19, 3) := by decide +kernel
theorem dX9_isTaken_74 : decode cX9_isTaken 74 = .ok (.iconst 2, 1) := by decide +kernel
theorem dX9_isTaken_75 : decode cX9_isTaken 75 = .ok (.invokevirtual 45, 3) := by decide +kernel
theorem dX9_isTaken_78 : decode cX9_isTaken 78 = .ok (.ireturn, 1) := by decide +kernel
theorem dX9_isTaken_79 : decode cX9_isTaken 79 = .ok (.aload_n 0, 1) := by decide +kernel
theorem dX9_isTaken_80 : decode cX9_isTaken 80 = .ok (.getfield 27, 3) := by decide +kernel
theorem dX9_isTaken_83 : decode cX9_isTaken 83 = .ok (.iconst 1, 1) := by decide +kernel
theorem dX9_isTaken_84 : decode cX9_isTaken 84 = .ok (.putfield 49, 3) := by decide +kernel
theorem dX9_isTaken_87 : decode cX9_isTaken 87 = .ok (.iconst 1, 1) := by decide +kernel
theorem dX9_isTaken_88 : decode cX9_isTaken 88 = .ok (.ireturn, 1) := by decide +kernel
theorem dX10_years_0 : decode cX10_years 0 = .ok (.iload_n 1, 1) := by decide +kernel
theorem dX10_years_1 : decode cX10_years 1 = .ok (.ifCond .lt 21, 3) := by decide +kernel
theorem dX10_years_4 : decode cX10_years 4 = .ok (.iload_n 1, 1) := by decide +kernel
theorem dX10_years_5 : decode cX10_years 5 = .ok (.aload_n 0, 1) := by decide +kernel
theorem dX10_years_6 : decode cX10_years 6 = .ok (.getfield 29, 3) := by decide +kernel
theorem dX10_years_9 : decode cX10_years 9 = .ok (.getfield 168, 3) := by decide +kernel
theorem dX10_years_12 : decode cX10_years 12 = .ok (.if_icmp .gt 10, 3) := by decide +kernel
theorem dX10_years_15 : decode cX10_years 15 = .ok (.iload_n 1, 1) := by decide +kernel
theorem dX10_years_16 : decode cX10_years 16 = .ok (.sipush 300, 3) := by decide +kernel
theorem dX10_years_19 : decode cX10_years 19 = .ok (.if_icmp .le 9, 3) := by decide +kernel
theorem dX10_years_22 : decode cX10_years 22 = .ok (.aload_n 0, 1) := by decide +kernel
theorem dX10_years_23 : decode cX10_years 23 = .ok (.iconst 1, 1) := by decide +kernel
theorem dX10_years_24 : decode cX10_years 24 = .ok (.invokevirtual 137, 3) := by decide +kernel
theorem dX10_years_27 : decode cX10_years 27 = .ok (.ireturn, 1) := by decide +kernel
theorem dX10_years_28 : decode cX10_years 28 = .ok (.aload_n 0, 1) := by decide +kernel
theorem dX10_years_29 : decode cX10_years 29 = .ok (.getfield 29, 3) := by decide +kernel
theorem dX10_years_32 : decode cX10_years 32 = .ok (.iload_n 1, 1) := by decide +kernel
theorem dX10_years_33 : decode cX10_years 33 = .ok (.invokevirtual 171, 3) := by decide +kernel
theorem dX10_years_36 : decode cX10_years 36 = .ok (.aload_n 0, 1) := by decide +kernel
theorem dX10_years_37 : decode cX10_years 37 = .ok (.getfield 43, 3) := by decide +kernel
theorem dX10_years_40 : decode cX10_years 40 = .ok (.aload_n 0, 1) := by decide +kernel
theorem dX10_years_41 : decode cX10_years 41 = .ok (.getfield 29, 3) := by decide +kernel
theorem dX10_years_44 : decode cX10_years 44 = .ok (.aload_n 0, 1) := by decide +kernel
theorem dX10_years_45 : decode cX10_years 45 = .ok (.getfield 50, 3) := by decide +kernel
theorem dX10_years_48 : decode cX10_years 48 = .ok (.aload_n 0, 1) := by decide +kernel
theorem dX10_years_49 : decode cX10_years 49 = .ok (.getfield 64, 3) := by decide +kernel
theorem dX10_years_52 : decode cX10_years 52 = .ok (.invokevirtual 190, 3) := by decide +kernel
theorem dX10_years_55 : decode cX10_years 55 = .ok (.ifCond .ne 10, 3) := by decide +kernel
theorem dX10_years_58 : decode cX10_years 58 = .ok (.aload_n 0, 1) := by decide +kernel
theorem dX10_years_59 : decode cX10_years 59 = .ok (.bipush 9, 2) := by decide +kernel
theorem dX10_years_61 : decode cX10_years 61 = .ok (.invokevirtual 137, 3) := by decide +kernel
theorem dX10_years_64 : decode cX10_years 64 = .ok (.ireturn, 1) := by decide +kernel
theorem dX10_years_65 : decode cX10_years 65 = .ok (.aload_n 0, 1) := by decide +kernel
theorem dX10_years_66 : decode cX10_years 66 = .ok (.getfield 60, 3) := by decide +kernel
theorem dX10_years_69 : decode cX10_years 69 = .ok (.astore_n 2, 1) := by decide +kernel
theorem dX10_years_70 : decode cX10_years 70 = .ok (.aload_n 0, 1) := by decide +kernel
theorem dX10_years_71 : decode cX10_years 71 = .ok (.aload_n 0, 1) := by decide +kernel
theorem dX10_years_72 : decode cX10_years 72 = .ok (.getfield 64, 3) := by decide +kernel
theorem dX10_years_75 : decode cX10_years 75 = .ok (.putfield 60, 3) := by decide +kernel
theorem dX10_years_78 : decode cX10_years 78 = .ok (.aload_n 0, 1) := by decide +kernel
theorem dX10_years_79 : decode cX10_years 79 = .ok (.aload_n 2, 1) := by decide +kernel
theorem dX10_years_80 : decode cX10_years 80 = .ok (.putfield 64, 3) := by decide +kernel
theorem dX10_years_83 : decode cX10_years 83 = .ok (.aload_n 0, 1) := by decide +kernel
theorem dX10_years_84 : decode cX10_years 84 = .ok (.aload_n 0, 1) := by decide +kernel
theorem dX10_years_85 : decode cX10_years 85 = .ok (.getfield 60, 3) := by decide +kernel
theorem dX10_years_88 : decode cX10_years 88 = .ok (.getfield 193, 3) := by decide +kernel
theorem dX10_years_91 : decode cX10_years 91 = .ok (.invokevirtual 187, 3) := by decide +kernel
theorem dX10_years_94 : decode cX10_years 94 = .ok (.ireturn, 1) := by decide +kernel
theorem dX10_fault_0 : decode cX10_fault 0 = .ok (.aload_n 0, 1) := by decide +kernel
theorem dX10_fault_1 : decode cX10_fault 1 = .ok (.getfield 29, 3) := by decide +kernel
theorem dX10_fault_4 : decode cX10_fault 4 = .ok (.getfield 196, 3) := by decide +kernel
theorem dX10_fault_7 : decode cX10_fault 7 = .ok (.ifCond .ne 5, 3) := by decide +kernel
theorem dX10_fault_10 : decode cX10_fault 10 = .ok (.iconst (-1), 1) := by decide +kernel
theorem dX10_fault_11 : decode cX10_fault 11 = .ok (.ireturn, 1) := by decide +kernel
theorem dX10_fault_12 : decode cX10_fault 12 = .ok (.iload_n 1, 1) := by decide +kernel
theorem dX10_fault_13 : decode cX10_fault 13 = .ok (.lookupswitch 43 #[(0, 27), (1, 35)], 27) := by decide +kernel
theorem dX10_fault_40 : decode cX10_fault 40 = .ok (.aload_n 0, 1) := by decide +kernel
theorem dX10_fault_41 : decode cX10_fault 41 = .ok (.getfield 29, 3) := by decide +kernel
theorem dX10_fault_44 : decode cX10_fault 44 = .ok (.getfield 200, 3) := by decide +kernel
theorem dX10_fault_47 : decode cX10_fault 47 = .ok (.ireturn, 1) := by decide +kernel
theorem dX10_fault_48 : decode cX10_fault 48 = .ok (.aload_n 0, 1) := by decide +kernel
theorem dX10_fault_49 : decode cX10_fault 49 = .ok (.getfield 29, 3) := by decide +kernel
theorem dX10_fault_52 : decode cX10_fault 52 = .ok (.getfield 203, 3) := by decide +kernel
theorem dX10_fault_55 : decode cX10_fault 55 = .ok (.ireturn, 1) := by decide +kernel
theorem dX10_fault_56 : decode cX10_fault 56 = .ok (.iconst (-1), 1) := by decide +kernel
theorem dX10_fault_57 : decode cX10_fault 57 = .ok (.ireturn, 1) := by decide +kernel
theorem dX10_told_0 : decode cX10_told 0 = .ok (.iload_n 1, 1) := by decide +kernel
theorem dX10_told_1 : decode cX10_told 1 = .ok (.tableswitch 79 0 3 #[31, 43, 55, 67], 31) := by decide +kernel
theorem dX10_told_32 : decode cX10_told 32 = .ok (.aload_n 0, 1) := by decide +kernel
theorem dX10_told_33 : decode cX10_told 33 = .ok (.aload_n 0, 1) := by decide +kernel
theorem dX10_told_34 : decode cX10_told 34 = .ok (.getfield 50, 3) := by decide +kernel
theorem dX10_told_37 : decode cX10_told 37 = .ok (.getfield 206, 3) := by decide +kernel
theorem dX10_told_40 : decode cX10_told 40 = .ok (.invokevirtual 187, 3) := by decide +kernel
theorem dX10_told_43 : decode cX10_told 43 = .ok (.ireturn, 1) := by decide +kernel
theorem dX10_told_44 : decode cX10_told 44 = .ok (.aload_n 0, 1) := by decide +kernel
theorem dX10_told_45 : decode cX10_told 45 = .ok (.aload_n 0, 1) := by decide +kernel
theorem dX10_told_46 : decode cX10_told 46 = .ok (.getfield 50, 3) := by decide +kernel
theorem dX10_told_49 : decode cX10_told 49 = .ok (.getfield 184, 3) := by decide +kernel
theorem dX10_told_52 : decode cX10_told 52 = .ok (.invokevirtual 187, 3) := by decide +kernel
theorem dX10_told_55 : decode cX10_told 55 = .ok (.ireturn, 1) := by decide +kernel
theorem dX10_told_56 : decode cX10_told 56 = .ok (.aload_n 0, 1) := by decide +kernel
theorem dX10_told_57 : decode cX10_told 57 = .ok (.aload_n 0, 1) := by decide +kernel
theorem dX10_told_58 : decode cX10_told 58 = .ok (.getfield 50, 3) := by decide +kernel
theorem dX10_told_61 : decode cX10_told 61 = .ok (.getfield 209, 3) := by decide +kernel
theorem dX10_told_64 : decode cX10_told 64 = .ok (.invokevirtual 187, 3) := by decide +kernel
theorem dX10_told_67 : decode cX10_told 67 = .ok (.ireturn, 1) := by decide +kernel
theorem dX10_told_68 : decode cX10_told 68 = .ok (.aload_n 0, 1) := by decide +kernel
theorem dX10_told_69 : decode cX10_told 69 = .ok (.aload_n 0, 1) := by decide +kernel
theorem dX10_told_70 : decode cX10_told 70 = .ok (.getfield 50, 3) := by decide +kernel
theorem dX10_told_73 : decode cX10_told 73 = .ok (.getfield 212, 3) := by decide +kernel
theorem dX10_told_76 : decode cX10_told 76 = .ok (.invokevirtual 187, 3) := by decide +kernel
theorem dX10_told_79 : decode cX10_told 79 = .ok (.ireturn, 1) := by decide +kernel
theorem dX10_told_80 : decode cX10_told 80 = .ok (.aload_n 0, 1) := by decide +kernel
theorem dX10_told_81 : decode cX10_told 81 = .ok (.iconst 1, 1) := by decide +kernel
theorem dX10_told_82 : decode cX10_told 82 = .ok (.invokevirtual 137, 3) := by decide +kernel
theorem dX10_told_85 : decode cX10_told 85 = .ok (.ireturn, 1) := by decide +kernel
theorem dX2_isRock_0 : decode cX2_isRock 0 = .ok (.iload_n 1, 1) := by decide +kernel
theorem dX2_isRock_1 : decode cX2_isRock 1 = .ok (.ifCond .lt 15, 3) := by decide +kernel
theorem dX2_isRock_4 : decode cX2_isRock 4 = .ok (.iload_n 1, 1) := by decide +kernel
theorem dX2_isRock_5 : decode cX2_isRock 5 = .ok (.aload_n 0, 1) := by decide +kernel
theorem dX2_isRock_6 : decode cX2_isRock 6 = .ok (.getfield 9, 3) := by decide +kernel
theorem dX2_isRock_9 : decode cX2_isRock 9 = .ok (.if_icmp .ge 7, 3) := by decide +kernel
theorem dX2_isRock_12 : decode cX2_isRock 12 = .ok (.iconst 1, 1) := by decide +kernel
theorem dX2_isRock_13 : decode cX2_isRock 13 = .ok (.goto 4, 3) := by decide +kernel
theorem dX2_isRock_16 : decode cX2_isRock 16 = .ok (.iconst 0, 1) := by decide +kernel
theorem dX2_isRock_17 : decode cX2_isRock 17 = .ok (.ireturn, 1) := by decide +kernel
theorem dX10_skip_0 : decode cX10_skip 0 = .ok (.aload_n 0, 1) := by decide +kernel
theorem dX10_skip_1 : decode cX10_skip 1 = .ok (.getfield 50, 3) := by decide +kernel
theorem dX10_skip_4 : decode cX10_skip 4 = .ok (.iload_n 1, 1) := by decide +kernel
theorem dX10_skip_5 : decode cX10_skip 5 = .ok (.invokevirtual 215, 3) := by decide +kernel
theorem dX10_skip_8 : decode cX10_skip 8 = .ok (.ifCond .ne 9, 3) := by decide +kernel
theorem dX10_skip_11 : decode cX10_skip 11 = .ok (.aload_n 0, 1) := by decide +kernel
theorem dX10_skip_12 : decode cX10_skip 12 = .ok (.iconst 1, 1) := by decide +kernel
theorem dX10_skip_13 : decode cX10_skip 13 = .ok (.invokevirtual 137, 3) := by decide +kernel
theorem dX10_skip_16 : decode cX10_skip 16 = .ok (.ireturn, 1) := by decide +kernel
theorem dX10_skip_17 : decode cX10_skip 17 = .ok (.aload_n 0, 1) := by decide +kernel
theorem dX10_skip_18 : decode cX10_skip 18 = .ok (.aload_n 0, 1) := by decide +kernel
theorem dX10_skip_19 : decode cX10_skip 19 = .ok (.getfield 50, 3) := by decide +kernel
theorem dX10_skip_22 : decode cX10_skip 22 = .ok (.getfield 218, 3) := by decide +kernel
theorem dX10_skip_25 : decode cX10_skip 25 = .ok (.iload_n 1, 1) := by decide +kernel
theorem dX10_skip_26 : decode cX10_skip 26 = .ok (.iaload, 1) := by decide +kernel
theorem dX10_skip_27 : decode cX10_skip 27 = .ok (.invokevirtual 187, 3) := by decide +kernel
theorem dX10_skip_30 : decode cX10_skip 30 = .ok (.ireturn, 1) := by decide +kernel
theorem dX2_costOfTwo_0 : decode cX2_costOfTwo 0 = .ok (.aload_n 0, 1) := by decide +kernel
theorem dX2_costOfTwo_1 : decode cX2_costOfTwo 1 = .ok (.getfield 23, 3) := by decide +kernel
theorem dX2_costOfTwo_4 : decode cX2_costOfTwo 4 = .ok (.iload_n 1, 1) := by decide +kernel
theorem dX2_costOfTwo_5 : decode cX2_costOfTwo 5 = .ok (.bipush 8, 2) := by decide +kernel
theorem dX2_costOfTwo_7 : decode cX2_costOfTwo 7 = .ok (.imul, 1) := by decide +kernel
theorem dX2_costOfTwo_8 : decode cX2_costOfTwo 8 = .ok (.iload_n 2, 1) := by decide +kernel
theorem dX2_costOfTwo_9 : decode cX2_costOfTwo 9 = .ok (.iadd, 1) := by decide +kernel
theorem dX2_costOfTwo_10 : decode cX2_costOfTwo 10 = .ok (.iaload, 1) := by decide +kernel
theorem dX2_costOfTwo_11 : decode cX2_costOfTwo 11 = .ok (.ireturn, 1) := by decide +kernel
theorem dX10_unlike_0 : decode cX10_unlike 0 = .ok (.aload_n 0, 1) := by decide +kernel
theorem dX10_unlike_1 : decode cX10_unlike 1 = .ok (.getfield 50, 3) := by decide +kernel
theorem dX10_unlike_4 : decode cX10_unlike 4 = .ok (.iload_n 1, 1) := by decide +kernel
theorem dX10_unlike_5 : decode cX10_unlike 5 = .ok (.invokevirtual 215, 3) := by decide +kernel
theorem dX10_unlike_8 : decode cX10_unlike 8 = .ok (.ifCond .eq 14, 3) := by decide +kernel
theorem dX10_unlike_11 : decode cX10_unlike 11 = .ok (.aload_n 0, 1) := by decide +kernel
theorem dX10_unlike_12 : decode cX10_unlike 12 = .ok (.getfield 50, 3) := by decide +kernel
theorem dX10_unlike_15 : decode cX10_unlike 15 = .ok (.iload_n 2, 1) := by decide +kernel
theorem dX10_unlike_16 : decode cX10_unlike 16 = .ok (.invokevirtual 215, 3) := by decide +kernel
theorem dX10_unlike_19 : decode cX10_unlike 19 = .ok (.ifCond .ne 9, 3) := by decide +kernel
theorem dX10_unlike_22 : decode cX10_unlike 22 = .ok (.aload_n 0, 1) := by decide +kernel
theorem dX10_unlike_23 : decode cX10_unlike 23 = .ok (.iconst 1, 1) := by decide +kernel
theorem dX10_unlike_24 : decode cX10_unlike 24 = .ok (.invokevirtual 137, 3) := by decide +kernel
theorem dX10_unlike_27 : decode cX10_unlike 27 = .ok (.ireturn, 1) := by decide +kernel
theorem dX10_unlike_28 : decode cX10_unlike 28 = .ok (.aload_n 0, 1) := by decide +kernel
theorem dX10_unlike_29 : decode cX10_unlike 29 = .ok (.aload_n 0, 1) := by decide +kernel
theorem dX10_unlike_30 : decode cX10_unlike 30 = .ok (.getfield 50, 3) := by decide +kernel
theorem dX10_unlike_33 : decode cX10_unlike 33 = .ok (.iload_n 1, 1) := by decide +kernel
theorem dX10_unlike_34 : decode cX10_unlike 34 = .ok (.iload_n 2, 1) := by decide +kernel
theorem dX10_unlike_35 : decode cX10_unlike 35 = .ok (.invokevirtual 222, 3) := by decide +kernel
theorem dX10_unlike_38 : decode cX10_unlike 38 = .ok (.invokevirtual 187, 3) := by decide +kernel
theorem dX10_unlike_41 : decode cX10_unlike 41 = .ok (.ireturn, 1) := by decide +kernel
theorem dX2_isHole_0 : decode cX2_isHole 0 = .ok (.iload_n 1, 1) := by decide +kernel
theorem dX2_isHole_1 : decode cX2_isHole 1 = .ok (.ifCond .lt 15, 3) := by decide +kernel
theorem dX2_isHole_4 : decode cX2_isHole 4 = .ok (.iload_n 1, 1) := by decide +kernel
theorem dX2_isHole_5 : decode cX2_isHole 5 = .ok (.aload_n 0, 1) := by decide +kernel
theorem dX2_isHole_6 : decode cX2_isHole 6 = .ok (.getfield 26, 3) := by decide +kernel
theorem dX2_isHole_9 : decode cX2_isHole 9 = .ok (.if_icmp .ge 7, 3) := by decide +kernel
theorem dX2_isHole_12 : decode cX2_isHole 12 = .ok (.iconst 1, 1) := by decide +kernel
theorem dX2_isHole_13 : decode cX2_isHole 13 = .ok (.goto 4, 3) := by decide +kernel
theorem dX2_isHole_16 : decode cX2_isHole 16 = .ok (.iconst 0, 1) := by decide +kernel
theorem dX2_isHole_17 : decode cX2_isHole 17 = .ok (.ireturn, 1) := by decide +kernel
theorem dX2_thickAbove_0 : decode cX2_thickAbove 0 = .ok (.iconst 0, 1) := by decide +kernel
theorem dX2_thickAbove_1 : decode cX2_thickAbove 1 = .ok (.istore_n 3, 1) := by decide +kernel
theorem dX2_thickAbove_2 : decode cX2_thickAbove 2 = .ok (.iconst 0, 1) := by decide +kernel
theorem dX2_thickAbove_3 : decode cX2_thickAbove 3 = .ok (.istore 4, 2) := by decide +kernel
theorem dX2_thickAbove_5 : decode cX2_thickAbove 5 = .ok (.iload 4, 2) := by decide +kernel
theorem dX2_thickAbove_7 : decode cX2_thickAbove 7 = .ok (.iload_n 2, 1) := by decide +kernel
theorem dX2_thickAbove_8 : decode cX2_thickAbove 8 = .ok (.if_icmp .ge 23, 3) := by decide +kernel
theorem dX2_thickAbove_11 : decode cX2_thickAbove 11 = .ok (.iload_n 3, 1) := by decide +kernel
theorem dX2_thickAbove_12 : decode cX2_thickAbove 12 = .ok (.aload_n 0, 1) := by decide +kernel
theorem dX2_thickAbove_13 : decode cX2_thickAbove 13 = .ok (.getfield 44, 3) := by decide +kernel
theorem dX2_thickAbove_16 : decode cX2_thickAbove 16 = .ok (.iload_n 1, 1) := by decide +kernel
theorem dX2_thickAbove_17 : decode cX2_thickAbove 17 = .ok (.iload 4, 2) := by decide +kernel
theorem dX2_thickAbove_19 : decode cX2_thickAbove 19 = .ok (.invokestatic 93, 3) := by decide +kernel
theorem dX2_thickAbove_22 : decode cX2_thickAbove 22 = .ok (.iaload, 1) := by decide +kernel
theorem dX2_thickAbove_23 : decode cX2_thickAbove 23 = .ok (.iadd, 1) := by decide +kernel
theorem dX2_thickAbove_24 : decode cX2_thickAbove 24 = .ok (.istore_n 3, 1) := by decide +kernel
theorem dX2_thickAbove_25 : decode cX2_thickAbove 25 = .ok (.iinc 4 1, 3) := by decide +kernel
theorem dX2_thickAbove_28 : decode cX2_thickAbove 28 = .ok (.goto (-23), 3) := by decide +kernel
theorem dX2_thickAbove_31 : decode cX2_thickAbove 31 = .ok (.iload_n 3, 1) := by decide +kernel
theorem dX2_thickAbove_32 : decode cX2_thickAbove 32 = .ok (.ireturn, 1) := by decide +kernel
theorem dX2_allThick_0 : decode cX2_allThick 0 = .ok (.aload_n 0, 1) := by decide +kernel
theorem dX2_allThick_1 : decode cX2_allThick 1 = .ok (.iload_n 1, 1) := by decide +kernel
theorem dX2_allThick_2 : decode cX2_allThick 2 = .ok (.aload_n 0, 1) := by decide +kernel
theorem dX2_allThick_3 : decode cX2_allThick 3 = .ok (.getfield 38, 3) := by decide +kernel
theorem dX2_allThick_6 : decode cX2_allThick 6 = .ok (.iload_n 1, 1) := by decide +kernel
theorem dX2_allThick_7 : decode cX2_allThick 7 = .ok (.iaload, 1) := by decide +kernel
theorem dX2_allThick_8 : decode cX2_allThick 8 = .ok (.invokevirtual 97, 3) := by decide +kernel
theorem dX2_allThick_11 : decode cX2_allThick 11 = .ok (.ireturn, 1) := by decide +kernel
theorem dX2_isOnRight_0 : decode cX2_isOnRight 0 = .ok (.iload_n 1, 1) := by decide +kernel
theorem dX2_isOnRight_1 : decode cX2_isOnRight 1 = .ok (.iconst 4, 1) := by decide +kernel
theorem dX2_isOnRight_2 : decode cX2_isOnRight 2 = .ok (.imul, 1) := by decide +kernel
theorem dX2_isOnRight_3 : decode cX2_isOnRight 3 = .ok (.istore_n 3, 1) := by decide +kernel
theorem dX2_isOnRight_4 : decode cX2_isOnRight 4 = .ok (.aload_n 0, 1) := by decide +kernel
theorem dX2_isOnRight_5 : decode cX2_isOnRight 5 = .ok (.getfield 59, 3) := by decide +kernel
theorem dX2_isOnRight_8 : decode cX2_isOnRight 8 = .ok (.iload_n 3, 1) := by decide +kernel
theorem dX2_isOnRight_9 : decode cX2_isOnRight 9 = .ok (.iaload, 1) := by decide +kernel
theorem dX2_isOnRight_10 : decode cX2_isOnRight 10 = .ok (.aload_n 0, 1) := by decide +kernel
theorem dX2_isOnRight_11 : decode cX2_isOnRight 11 = .ok (.getfield 59, 3) := by decide +kernel
theorem dX2_isOnRight_14 : decode cX2_isOnRight 14 = .ok (.iload_n 3, 1) := by decide +kernel
theorem dX2_isOnRight_15 : decode cX2_isOnRight 15 = .ok (.iconst 1, 1) := by decide +kernel
theorem dX2_isOnRight_16 : decode cX2_isOnRight 16 = .ok (.iadd, 1) := by decide +kernel
theorem dX2_isOnRight_17 : decode cX2_isOnRight 17 = .ok (.iaload, 1) := by decide +kernel
theorem dX2_isOnRight_18 : decode cX2_isOnRight 18 = .ok (.aload_n 0, 1) := by decide +kernel
theorem dX2_isOnRight_19 : decode cX2_isOnRight 19 = .ok (.getfield 59, 3) := by decide +kernel
theorem dX2_isOnRight_22 : decode cX2_isOnRight 22 = .ok (.iload_n 3, 1) := by decide +kernel
theorem dX2_isOnRight_23 : decode cX2_isOnRight 23 = .ok (.iconst 2, 1) := by decide +kernel
theorem dX2_isOnRight_24 : decode cX2_isOnRight 24 = .ok (.iadd, 1) := by decide +kernel
theorem dX2_isOnRight_25 : decode cX2_isOnRight 25 = .ok (.iaload, 1) := by decide +kernel
theorem dX2_isOnRight_26 : decode cX2_isOnRight 26 = .ok (.aload_n 0, 1) := by decide +kernel
theorem dX2_isOnRight_27 : decode cX2_isOnRight 27 = .ok (.getfield 59, 3) := by decide +kernel
theorem dX2_isOnRight_30 : decode cX2_isOnRight 30 = .ok (.iload_n 3, 1) := by decide +kernel
theorem dX2_isOnRight_31 : decode cX2_isOnRight 31 = .ok (.iconst 3, 1) := by decide +kernel
theorem dX2_isOnRight_32 : decode cX2_isOnRight 32 = .ok (.iadd, 1) := by decide +kernel
theorem dX2_isOnRight_33 : decode cX2_isOnRight 33 = .ok (.iaload, 1) := by decide +kernel
theorem dX2_isOnRight_34 : decode cX2_isOnRight 34 = .ok (.aload_n 0, 1) := by decide +kernel
theorem dX2_isOnRight_35 : decode cX2_isOnRight 35 = .ok (.getfield 32, 3) := by decide +kernel
theorem dX2_isOnRight_38 : decode cX2_isOnRight 38 = .ok (.iload_n 2, 1) := by decide +kernel
theorem dX2_isOnRight_39 : decode cX2_isOnRight 39 = .ok (.iaload, 1) := by decide +kernel
theorem dX2_isOnRight_40 : decode cX2_isOnRight 40 = .ok (.aload_n 0, 1) := by decide +kernel
theorem dX2_isOnRight_41 : decode cX2_isOnRight 41 = .ok (.getfield 35, 3) := by decide +kernel
theorem dX2_isOnRight_44 : decode cX2_isOnRight 44 = .ok (.iload_n 2, 1) := by decide +kernel
theorem dX2_isOnRight_45 : decode cX2_isOnRight 45 = .ok (.iaload, 1) := by decide +kernel
theorem dX2_isOnRight_46 : decode cX2_isOnRight 46 = .ok (.invokestatic 116, 3) := by decide +kernel
theorem dX2_isOnRight_49 : decode cX2_isOnRight 49 = .ok (.ifCond .ge 7, 3) := by decide +kernel
theorem dX2_isOnRight_52 : decode cX2_isOnRight 52 = .ok (.iconst 1, 1) := by decide +kernel
theorem dX2_isOnRight_53 : decode cX2_isOnRight 53 = .ok (.goto 4, 3) := by decide +kernel
theorem dX2_isOnRight_56 : decode cX2_isOnRight 56 = .ok (.iconst 0, 1) := by decide +kernel
theorem dX2_isOnRight_57 : decode cX2_isOnRight 57 = .ok (.ireturn, 1) := by decide +kernel
theorem dX2_thrownDown_0 : decode cX2_thrownDown 0 = .ok (.iconst 0, 1) := by decide +kernel
theorem dX2_thrownDown_1 : decode cX2_thrownDown 1 = .ok (.istore_n 2, 1) := by decide +kernel
theorem dX2_thrownDown_2 : decode cX2_thrownDown 2 = .ok (.iconst 0, 1) := by decide +kernel
theorem dX2_thrownDown_3 : decode cX2_thrownDown 3 = .ok (.istore_n 3, 1) := by decide +kernel
theorem dX2_thrownDown_4 : decode cX2_thrownDown 4 = .ok (.iload_n 3, 1) := by decide +kernel
theorem dX2_thrownDown_5 : decode cX2_thrownDown 5 = .ok (.aload_n 0, 1) := by decide +kernel
theorem dX2_thrownDown_6 : decode cX2_thrownDown 6 = .ok (.getfield 53, 3) := by decide +kernel
theorem dX2_thrownDown_9 : decode cX2_thrownDown 9 = .ok (.if_icmp .ge 27, 3) := by decide +kernel
theorem dX2_thrownDown_12 : decode cX2_thrownDown 12 = .ok (.aload_n 0, 1) := by decide +kernel
theorem dX2_thrownDown_13 : decode cX2_thrownDown 13 = .ok (.iload_n 3, 1) := by decide +kernel
theorem dX2_thrownDown_14 : decode cX2_thrownDown 14 = .ok (.iload_n 1, 1) := by decide +kernel
theorem dX2_thrownDown_15 : decode cX2_thrownDown 15 = .ok (.invokevirtual 100, 3) := by decide +kernel
theorem dX2_thrownDown_18 : decode cX2_thrownDown 18 = .ok (.ifCond .eq 12, 3) := by decide +kernel
theorem dX2_thrownDown_21 : decode cX2_thrownDown 21 = .ok (.iload_n 2, 1) := by decide +kernel
theorem dX2_thrownDown_22 : decode cX2_thrownDown 22 = .ok (.aload_n 0, 1) := by decide +kernel
theorem dX2_thrownDown_23 : decode cX2_thrownDown 23 = .ok (.getfield 62, 3) := by decide +kernel
theorem dX2_thrownDown_26 : decode cX2_thrownDown 26 = .ok (.iload_n 3, 1) := by decide +kernel
theorem dX2_thrownDown_27 : decode cX2_thrownDown 27 = .ok (.iaload, 1) := by decide +kernel
theorem dX2_thrownDown_28 : decode cX2_thrownDown 28 = .ok (.iadd, 1) := by decide +kernel
theorem dX2_thrownDown_29 : decode cX2_thrownDown 29 = .ok (.istore_n 2, 1) := by decide +kernel
theorem dX2_thrownDown_30 : decode cX2_thrownDown 30 = .ok (.iinc 3 1, 3) := by decide +kernel
theorem dX2_thrownDown_33 : decode cX2_thrownDown 33 = .ok (.goto (-29), 3) := by decide +kernel
theorem dX2_thrownDown_36 : decode cX2_thrownDown 36 = .ok (.iload_n 2, 1) := by decide +kernel
theorem dX2_thrownDown_37 : decode cX2_thrownDown 37 = .ok (.ireturn, 1) := by decide +kernel
theorem dX10_hole_0 : decode cX10_hole 0 = .ok (.aload_n 0, 1) := by decide +kernel
theorem dX10_hole_1 : decode cX10_hole 1 = .ok (.getfield 50, 3) := by decide +kernel
theorem dX10_hole_4 : decode cX10_hole 4 = .ok (.iload_n 1, 1) := by decide +kernel
theorem dX10_hole_5 : decode cX10_hole 5 = .ok (.invokevirtual 225, 3) := by decide +kernel
theorem dX10_hole_8 : decode cX10_hole 8 = .ok (.ifCond .ne 9, 3) := by decide +kernel
theorem dX10_hole_11 : decode cX10_hole 11 = .ok (.aload_n 0, 1) := by decide +kernel
theorem dX10_hole_12 : decode cX10_hole 12 = .ok (.iconst 1, 1) := by decide +kernel
theorem dX10_hole_13 : decode cX10_hole 13 = .ok (.invokevirtual 137, 3) := by decide +kernel
theorem dX10_hole_16 : decode cX10_hole 16 = .ok (.ireturn, 1) := by decide +kernel
theorem dX10_hole_17 : decode cX10_hole 17 = .ok (.iload_n 2, 1) := by decide +kernel
theorem dX10_hole_18 : decode cX10_hole 18 = .ok (.tableswitch 102 0 4 #[34, 48, 62, 76, 89], 34) := by decide +kernel
theorem dX10_hole_52 : decode cX10_hole 52 = .ok (.aload_n 0, 1) := by decide +kernel
theorem dX10_hole_53 : decode cX10_hole 53 = .ok (.aload_n 0, 1) := by decide +kernel
theorem dX10_hole_54 : decode cX10_hole 54 = .ok (.getfield 50, 3) := by decide +kernel
theorem dX10_hole_57 : decode cX10_hole 57 = .ok (.getfield 228, 3) := by decide +kernel
theorem dX10_hole_60 : decode cX10_hole 60 = .ok (.iload_n 1, 1) := by decide +kernel
theorem dX10_hole_61 : decode cX10_hole 61 = .ok (.iaload, 1) := by decide +kernel
theorem dX10_hole_62 : decode cX10_hole 62 = .ok (.invokevirtual 187, 3) := by decide +kernel
theorem dX10_hole_65 : decode cX10_hole 65 = .ok (.ireturn, 1) := by decide +kernel
theorem dX10_hole_66 : decode cX10_hole 66 = .ok (.aload_n 0, 1) := by decide +kernel
theorem dX10_hole_67 : decode cX10_hole 67 = .ok (.aload_n 0, 1) := by decide +kernel
theorem dX10_hole_68 : decode cX10_hole 68 = .ok (.getfield 50, 3) := by decide +kernel
theorem dX10_hole_71 : decode cX10_hole 71 = .ok (.getfield 231, 3) := by decide +kernel
theorem dX10_hole_74 : decode cX10_hole 74 = .ok (.iload_n 1, 1) := by decide +kernel
theorem dX10_hole_75 : decode cX10_hole 75 = .ok (.iaload, 1) := by decide +kernel
theorem dX10_hole_76 : decode cX10_hole 76 = .ok (.invokevirtual 187, 3) := by decide +kernel
theorem dX10_hole_79 : decode cX10_hole 79 = .ok (.ireturn, 1) := by decide +kernel
theorem dX10_hole_80 : decode cX10_hole 80 = .ok (.aload_n 0, 1) := by decide +kernel
theorem dX10_hole_81 : decode cX10_hole 81 = .ok (.aload_n 0, 1) := by decide +kernel
theorem dX10_hole_82 : decode cX10_hole 82 = .ok (.getfield 50, 3) := by decide +kernel
theorem dX10_hole_85 : decode cX10_hole 85 = .ok (.getfield 234, 3) := by decide +kernel
theorem dX10_hole_88 : decode cX10_hole 88 = .ok (.iload_n 1, 1) := by decide +kernel
theorem dX10_hole_89 : decode cX10_hole 89 = .ok (.iaload, 1) := by decide +kernel
theorem dX10_hole_90 : decode cX10_hole 90 = .ok (.invokevirtual 187, 3) := by decide +kernel
theorem dX10_hole_93 : decode cX10_hole 93 = .ok (.ireturn, 1) := by decide +kernel
theorem dX10_hole_94 : decode cX10_hole 94 = .ok (.aload_n 0, 1) := by decide +kernel
theorem dX10_hole_95 : decode cX10_hole 95 = .ok (.aload_n 0, 1) := by decide +kernel
theorem dX10_hole_96 : decode cX10_hole 96 = .ok (.getfield 50, 3) := by decide +kernel
theorem dX10_hole_99 : decode cX10_hole 99 = .ok (.iload_n 1, 1) := by decide +kernel
theorem dX10_hole_100 : decode cX10_hole 100 = .ok (.invokevirtual 237, 3) := by decide +kernel
theorem dX10_hole_103 : decode cX10_hole 103 = .ok (.invokevirtual 187, 3) := by decide +kernel
theorem dX10_hole_106 : decode cX10_hole 106 = .ok (.ireturn, 1) := by decide +kernel
theorem dX10_hole_107 : decode cX10_hole 107 = .ok (.aload_n 0, 1) := by decide +kernel
theorem dX10_hole_108 : decode cX10_hole 108 = .ok (.aload_n 0, 1) := by decide +kernel
theorem dX10_hole_109 : decode cX10_hole 109 = .ok (.getfield 50, 3) := by decide +kernel
theorem dX10_hole_112 : decode cX10_hole 112 = .ok (.iload_n 1, 1) := by decide +kernel
theorem dX10_hole_113 : decode cX10_hole 113 = .ok (.invokevirtual 240, 3) := by decide +kernel
theorem dX10_hole_116 : decode cX10_hole 116 = .ok (.invokevirtual 187, 3) := by decide +kernel
theorem dX10_hole_119 : decode cX10_hole 119 = .ok (.ireturn, 1) := by decide +kernel
theorem dX10_hole_120 : decode cX10_hole 120 = .ok (.aload_n 0, 1) := by decide +kernel
theorem dX10_hole_121 : decode cX10_hole 121 = .ok (.iconst 1, 1) := by decide +kernel
theorem dX10_hole_122 : decode cX10_hole 122 = .ok (.invokevirtual 137, 3) := by decide +kernel
theorem dX10_hole_125 : decode cX10_hole 125 = .ok (.ireturn, 1) := by decide +kernel
theorem dX2_isLayer_0 : decode cX2_isLayer 0 = .ok (.aload_n 0, 1) := by decide +kernel
theorem dX2_isLayer_1 : decode cX2_isLayer 1 = .ok (.iload_n 1, 1) := by decide +kernel
theorem dX2_isLayer_2 : decode cX2_isLayer 2 = .ok (.invokevirtual 71, 3) := by decide +kernel
theorem dX2_isLayer_5 : decode cX2_isLayer 5 = .ok (.ifCond .eq 21, 3) := by decide +kernel
theorem dX2_isLayer_8 : decode cX2_isLayer 8 = .ok (.iload_n 2, 1) := by decide +kernel
theorem dX2_isLayer_9 : decode cX2_isLayer 9 = .ok (.ifCond .lt 17, 3) := by decide +kernel
theorem dX2_isLayer_12 : decode cX2_isLayer 12 = .ok (.iload_n 2, 1) := by decide +kernel
theorem dX2_isLayer_13 : decode cX2_isLayer 13 = .ok (.aload_n 0, 1) := by decide +kernel
theorem dX2_isLayer_14 : decode cX2_isLayer 14 = .ok (.getfield 38, 3) := by decide +kernel
theorem dX2_isLayer_17 : decode cX2_isLayer 17 = .ok (.iload_n 1, 1) := by decide +kernel
theorem dX2_isLayer_18 : decode cX2_isLayer 18 = .ok (.iaload, 1) := by decide +kernel
theorem dX2_isLayer_19 : decode cX2_isLayer 19 = .ok (.if_icmp .ge 7, 3) := by decide +kernel
theorem dX2_isLayer_22 : decode cX2_isLayer 22 = .ok (.iconst 1, 1) := by decide +kernel
theorem dX2_isLayer_23 : decode cX2_isLayer 23 = .ok (.goto 4, 3) := by decide +kernel
theorem dX2_isLayer_26 : decode cX2_isLayer 26 = .ok (.iconst 0, 1) := by decide +kernel
theorem dX2_isLayer_27 : decode cX2_isLayer 27 = .ok (.ireturn, 1) := by decide +kernel
theorem dX2_depthOf_0 : decode cX2_depthOf 0 = .ok (.aload_n 0, 1) := by decide +kernel
theorem dX2_depthOf_1 : decode cX2_depthOf 1 = .ok (.iload_n 1, 1) := by decide +kernel
theorem dX2_depthOf_2 : decode cX2_depthOf 2 = .ok (.iload_n 2, 1) := by decide +kernel
theorem dX2_depthOf_3 : decode cX2_depthOf 3 = .ok (.invokevirtual 97, 3) := by decide +kernel
theorem dX2_depthOf_6 : decode cX2_depthOf 6 = .ok (.aload_n 0, 1) := by decide +kernel
theorem dX2_depthOf_7 : decode cX2_depthOf 7 = .ok (.iload_n 1, 1) := by decide +kernel
theorem dX2_depthOf_8 : decode cX2_depthOf 8 = .ok (.invokevirtual 104, 3) := by decide +kernel
theorem dX2_depthOf_11 : decode cX2_depthOf 11 = .ok (.iadd, 1) := by decide +kernel
theorem dX2_depthOf_12 : decode cX2_depthOf 12 = .ok (.ireturn, 1) := by decide +kernel
theorem dX10_layer_0 : decode cX10_layer 0 = .ok (.aload_n 0, 1) := by decide +kernel
theorem dX10_layer_1 : decode cX10_layer 1 = .ok (.getfield 50, 3) := by decide +kernel
theorem dX10_layer_4 : decode cX10_layer 4 = .ok (.iload_n 1, 1) := by decide +kernel
theorem dX10_layer_5 : decode cX10_layer 5 = .ok (.iload_n 2, 1) := by decide +kernel
theorem dX10_layer_6 : decode cX10_layer 6 = .ok (.invokevirtual 243, 3) := by decide +kernel
theorem dX10_layer_9 : decode cX10_layer 9 = .ok (.ifCond .ne 9, 3) := by decide +kernel
theorem dX10_layer_12 : decode cX10_layer 12 = .ok (.aload_n 0, 1) := by decide +kernel
theorem dX10_layer_13 : decode cX10_layer 13 = .ok (.iconst 1, 1) := by decide +kernel
theorem dX10_layer_14 : decode cX10_layer 14 = .ok (.invokevirtual 137, 3) := by decide +kernel
theorem dX10_layer_17 : decode cX10_layer 17 = .ok (.ireturn, 1) := by decide +kernel
theorem dX10_layer_18 : decode cX10_layer 18 = .ok (.iload_n 3, 1) := by decide +kernel
theorem dX10_layer_19 : decode cX10_layer 19 = .ok (.tableswitch 75 0 2 #[25, 43, 61], 25) := by decide +kernel
theorem dX10_layer_44 : decode cX10_layer 44 = .ok (.aload_n 0, 1) := by decide +kernel
theorem dX10_layer_45 : decode cX10_layer 45 = .ok (.aload_n 0, 1) := by decide +kernel
theorem dX10_layer_46 : decode cX10_layer 46 = .ok (.getfield 50, 3) := by decide +kernel
theorem dX10_layer_49 : decode cX10_layer 49 = .ok (.getfield 246, 3) := by decide +kernel
theorem dX10_layer_52 : decode cX10_layer 52 = .ok (.iload_n 1, 1) := by decide +kernel
theorem dX10_layer_53 : decode cX10_layer 53 = .ok (.iload_n 2, 1) := by decide +kernel
theorem dX10_layer_54 : decode cX10_layer 54 = .ok (.invokestatic 249, 3) := by decide +kernel
theorem dX10_layer_57 : decode cX10_layer 57 = .ok (.iaload, 1) := by decide +kernel
theorem dX10_layer_58 : decode cX10_layer 58 = .ok (.invokevirtual 187, 3) := by decide +kernel
theorem dX10_layer_61 : decode cX10_layer 61 = .ok (.ireturn, 1) := by decide +kernel
theorem dX10_layer_62 : decode cX10_layer 62 = .ok (.aload_n 0, 1) := by decide +kernel
theorem dX10_layer_63 : decode cX10_layer 63 = .ok (.aload_n 0, 1) := by decide +kernel
theorem dX10_layer_64 : decode cX10_layer 64 = .ok (.getfield 50, 3) := by decide +kernel
theorem dX10_layer_67 : decode cX10_layer 67 = .ok (.getfield 252, 3) := by decide +kernel
theorem dX10_layer_70 : decode cX10_layer 70 = .ok (.iload_n 1, 1) := by decide +kernel
theorem dX10_layer_71 : decode cX10_layer 71 = .ok (.iload_n 2, 1) := by decide +kernel
theorem dX10_layer_72 : decode cX10_layer 72 = .ok (.invokestatic 249, 3) := by decide +kernel
theorem dX10_layer_75 : decode cX10_layer 75 = .ok (.iaload, 1) := by decide +kernel
theorem dX10_layer_76 : decode cX10_layer 76 = .ok (.invokevirtual 187, 3) := by decide +kernel
theorem dX10_layer_79 : decode cX10_layer 79 = .ok (.ireturn, 1) := by decide +kernel
theorem dX10_layer_80 : decode cX10_layer 80 = .ok (.aload_n 0, 1) := by decide +kernel
theorem dX10_layer_81 : decode cX10_layer 81 = .ok (.aload_n 0, 1) := by decide +kernel
theorem dX10_layer_82 : decode cX10_layer 82 = .ok (.getfield 50, 3) := by decide +kernel
theorem dX10_layer_85 : decode cX10_layer 85 = .ok (.iload_n 1, 1) := by decide +kernel
theorem dX10_layer_86 : decode cX10_layer 86 = .ok (.iload_n 2, 1) := by decide +kernel
theorem dX10_layer_87 : decode cX10_layer 87 = .ok (.invokevirtual 255, 3) := by decide +kernel
theorem dX10_layer_90 : decode cX10_layer 90 = .ok (.invokevirtual 187, 3) := by decide +kernel
theorem dX10_layer_93 : decode cX10_layer 93 = .ok (.ireturn, 1) := by decide +kernel
theorem dX10_layer_94 : decode cX10_layer 94 = .ok (.aload_n 0, 1) := by decide +kernel
theorem dX10_layer_95 : decode cX10_layer 95 = .ok (.iconst 1, 1) := by decide +kernel
theorem dX10_layer_96 : decode cX10_layer 96 = .ok (.invokevirtual 137, 3) := by decide +kernel
theorem dX10_layer_99 : decode cX10_layer 99 = .ok (.ireturn, 1) := by decide +kernel
theorem dX2_layerWithUnit_0 : decode cX2_layerWithUnit 0 = .ok (.iload_n 2, 1) := by decide +kernel
theorem dX2_layerWithUnit_1 : decode cX2_layerWithUnit 1 = .ok (.ifCond .ge 5, 3) := by decide +kernel
theorem dX2_layerWithUnit_4 : decode cX2_layerWithUnit 4 = .ok (.iconst (-1), 1) := by decide +kernel
theorem dX2_layerWithUnit_5 : decode cX2_layerWithUnit 5 = .ok (.ireturn, 1) := by decide +kernel
theorem dX2_layerWithUnit_6 : decode cX2_layerWithUnit 6 = .ok (.iconst 0, 1) := by decide +kernel
theorem dX2_layerWithUnit_7 : decode cX2_layerWithUnit 7 = .ok (.istore_n 3, 1) := by decide +kernel
theorem dX2_layerWithUnit_8 : decode cX2_layerWithUnit 8 = .ok (.iconst 0, 1) := by decide +kernel
theorem dX2_layerWithUnit_9 : decode cX2_layerWithUnit 9 = .ok (.istore 4, 2) := by decide +kernel
theorem dX2_layerWithUnit_11 : decode cX2_layerWithUnit 11 = .ok (.iload 4, 2) := by decide +kernel
theorem dX2_layerWithUnit_13 : decode cX2_layerWithUnit 13 = .ok (.aload_n 0, 1) := by decide +kernel
theorem dX2_layerWithUnit_14 : decode cX2_layerWithUnit 14 = .ok (.getfield 38, 3) := by decide +kernel
theorem dX2_layerWithUnit_17 : decode cX2_layerWithUnit 17 = .ok (.iload_n 1, 1) := by decide +kernel
theorem dX2_layerWithUnit_18 : decode cX2_layerWithUnit 18 = .ok (.iaload, 1) := by decide +kernel
theorem dX2_layerWithUnit_19 : decode cX2_layerWithUnit 19 = .ok (.if_icmp .ge 31, 3) := by decide +kernel
theorem dX2_layerWithUnit_22 : decode cX2_layerWithUnit 22 = .ok (.iload_n 3, 1) := by decide +kernel
theorem dX2_layerWithUnit_23 : decode cX2_layerWithUnit 23 = .ok (.aload_n 0, 1) := by decide +kernel
theorem dX2_layerWithUnit_24 : decode cX2_layerWithUnit 24 = .ok (.getfield 44, 3) := by decide +kernel
theorem dX2_layerWithUnit_27 : decode cX2_layerWithUnit 27 = .ok (.iload_n 1, 1) := by decide +kernel
theorem dX2_layerWithUnit_28 : decode cX2_layerWithUnit 28 = .ok (.iload 4, 2) := by decide +kernel
theorem dX2_layerWithUnit_30 : decode cX2_layerWithUnit 30 = .ok (.invokestatic 93, 3) := by decide +kernel
theorem dX2_layerWithUnit_33 : decode cX2_layerWithUnit 33 = .ok (.iaload, 1) := by decide +kernel
theorem dX2_layerWithUnit_34 : decode cX2_layerWithUnit 34 = .ok (.iadd, 1) := by decide +kernel
theorem dX2_layerWithUnit_35 : decode cX2_layerWithUnit 35 = .ok (.istore_n 3, 1) := by decide +kernel
theorem dX2_layerWithUnit_36 : decode cX2_layerWithUnit 36 = .ok (.iload_n 2, 1) := by decide +kernel
theorem dX2_layerWithUnit_37 : decode cX2_layerWithUnit 37 = .ok (.iload_n 3, 1) := by decide +kernel
theorem dX2_layerWithUnit_38 : decode cX2_layerWithUnit 38 = .ok (.if_icmp .ge 6, 3) := by decide +kernel
theorem dX2_layerWithUnit_41 : decode cX2_layerWithUnit 41 = .ok (.iload 4, 2) := by decide +kernel
theorem dX2_layerWithUnit_43 : decode cX2_layerWithUnit 43 = .ok (.ireturn, 1) := by decide +kernel
theorem dX2_layerWithUnit_44 : decode cX2_layerWithUnit 44 = .ok (.iinc 4 1, 3) := by decide +kernel
theorem dX2_layerWithUnit_47 : decode cX2_layerWithUnit 47 = .ok (.goto (-36), 3) := by decide +kernel
theorem dX2_layerWithUnit_50 : decode cX2_layerWithUnit 50 = .ok (.iconst (-1), 1) := by decide +kernel
theorem dX2_layerWithUnit_51 : decode cX2_layerWithUnit 51 = .ok (.ireturn, 1) := by decide +kernel
theorem dX10_answerOrNoSuch_0 : decode cX10_answerOrNoSuch 0 = .ok (.iload_n 1, 1) := by decide +kernel
theorem dX10_answerOrNoSuch_1 : decode cX10_answerOrNoSuch 1 = .ok (.iconst (-1), 1) := by decide +kernel
theorem dX10_answerOrNoSuch_2 : decode cX10_answerOrNoSuch 2 = .ok (.if_icmp .ne 12, 3) := by decide +kernel
theorem dX10_answerOrNoSuch_5 : decode cX10_answerOrNoSuch 5 = .ok (.aload_n 0, 1) := by decide +kernel
theorem dX10_answerOrNoSuch_6 : decode cX10_answerOrNoSuch 6 = .ok (.bipush 6, 2) := by decide +kernel
theorem dX10_answerOrNoSuch_8 : decode cX10_answerOrNoSuch 8 = .ok (.invokevirtual 137, 3) := by decide +kernel
theorem dX10_answerOrNoSuch_11 : decode cX10_answerOrNoSuch 11 = .ok (.goto 8, 3) := by decide +kernel
theorem dX10_answerOrNoSuch_14 : decode cX10_answerOrNoSuch 14 = .ok (.aload_n 0, 1) := by decide +kernel
theorem dX10_answerOrNoSuch_15 : decode cX10_answerOrNoSuch 15 = .ok (.iload_n 1, 1) := by decide +kernel
theorem dX10_answerOrNoSuch_16 : decode cX10_answerOrNoSuch 16 = .ok (.invokevirtual 187, 3) := by decide +kernel
theorem dX10_answerOrNoSuch_19 : decode cX10_answerOrNoSuch 19 = .ok (.ireturn, 1) := by decide +kernel
theorem dX10_layerAt_0 : decode cX10_layerAt 0 = .ok (.aload_n 0, 1) := by decide +kernel
theorem dX10_layerAt_1 : decode cX10_layerAt 1 = .ok (.getfield 50, 3) := by decide +kernel
theorem dX10_layerAt_4 : decode cX10_layerAt 4 = .ok (.iload_n 1, 1) := by decide +kernel
theorem dX10_layerAt_5 : decode cX10_layerAt 5 = .ok (.invokevirtual 225, 3) := by decide +kernel
theorem dX10_layerAt_8 : decode cX10_layerAt 8 = .ok (.ifCond .eq 7, 3) := by decide +kernel
theorem dX10_layerAt_11 : decode cX10_layerAt 11 = .ok (.iload_n 2, 1) := by decide +kernel
theorem dX10_layerAt_12 : decode cX10_layerAt 12 = .ok (.ifCond .ge 9, 3) := by decide +kernel
theorem dX10_layerAt_15 : decode cX10_layerAt 15 = .ok (.aload_n 0, 1) := by decide +kernel
theorem dX10_layerAt_16 : decode cX10_layerAt 16 = .ok (.iconst 1, 1) := by decide +kernel
theorem dX10_layerAt_17 : decode cX10_layerAt 17 = .ok (.invokevirtual 137, 3) := by decide +kernel
theorem dX10_layerAt_20 : decode cX10_layerAt 20 = .ok (.ireturn, 1) := by decide +kernel
theorem dX10_layerAt_21 : decode cX10_layerAt 21 = .ok (.aload_n 0, 1) := by decide +kernel
theorem dX10_layerAt_22 : decode cX10_layerAt 22 = .ok (.aload_n 0, 1) := by decide +kernel
theorem dX10_layerAt_23 : decode cX10_layerAt 23 = .ok (.getfield 50, 3) := by decide +kernel
theorem dX10_layerAt_26 : decode cX10_layerAt 26 = .ok (.iload_n 1, 1) := by decide +kernel
theorem dX10_layerAt_27 : decode cX10_layerAt 27 = .ok (.iload_n 2, 1) := by decide +kernel
theorem dX10_layerAt_28 : decode cX10_layerAt 28 = .ok (.aload_n 0, 1) := by decide +kernel
theorem dX10_layerAt_29 : decode cX10_layerAt 29 = .ok (.getfield 50, 3) := by decide +kernel
theorem dX10_layerAt_32 : decode cX10_layerAt 32 = .ok (.iload_n 1, 1) := by decide +kernel
theorem dX10_layerAt_33 : decode cX10_layerAt 33 = .ok (.invokevirtual 240, 3) := by decide +kernel
theorem dX10_layerAt_36 : decode cX10_layerAt 36 = .ok (.isub, 1) := by decide +kernel
theorem dX10_layerAt_37 : decode cX10_layerAt 37 = .ok (.invokevirtual 258, 3) := by decide +kernel
theorem dX10_layerAt_40 : decode cX10_layerAt 40 = .ok (.invokevirtual 261, 3) := by decide +kernel
theorem dX10_layerAt_43 : decode cX10_layerAt 43 = .ok (.ireturn, 1) := by decide +kernel
theorem dX2_isFault_0 : decode cX2_isFault 0 = .ok (.iload_n 1, 1) := by decide +kernel
theorem dX2_isFault_1 : decode cX2_isFault 1 = .ok (.ifCond .lt 15, 3) := by decide +kernel
theorem dX2_isFault_4 : decode cX2_isFault 4 = .ok (.iload_n 1, 1) := by decide +kernel
theorem dX2_isFault_5 : decode cX2_isFault 5 = .ok (.aload_n 0, 1) := by decide +kernel
theorem dX2_isFault_6 : decode cX2_isFault 6 = .ok (.getfield 53, 3) := by decide +kernel
theorem dX2_isFault_9 : decode cX2_isFault 9 = .ok (.if_icmp .ge 7, 3) := by decide +kernel
theorem dX2_isFault_12 : decode cX2_isFault 12 = .ok (.iconst 1, 1) := by decide +kernel
theorem dX2_isFault_13 : decode cX2_isFault 13 = .ok (.goto 4, 3) := by decide +kernel
theorem dX2_isFault_16 : decode cX2_isFault 16 = .ok (.iconst 0, 1) := by decide +kernel
theorem dX2_isFault_17 : decode cX2_isFault 17 = .ok (.ireturn, 1) := by decide +kernel
theorem dX10_answerYes_0 : decode cX10_answerYes 0 = .ok (.aload_n 0, 1) := by decide +kernel
theorem dX10_answerYes_1 : decode cX10_answerYes 1 = .ok (.iload_n 1, 1) := by decide +kernel
theorem dX10_answerYes_2 : decode cX10_answerYes 2 = .ok (.ifCond .eq 7, 3) := by decide +kernel
theorem dX10_answerYes_5 : decode cX10_answerYes 5 = .ok (.iconst 1, 1) := by decide +kernel
theorem dX10_answerYes_6 : decode cX10_answerYes 6 = .ok (.goto 4, 3) := by decide +kernel
theorem dX10_answerYes_9 : decode cX10_answerYes 9 = .ok (.iconst 0, 1) := by decide +kernel
theorem dX10_answerYes_10 : decode cX10_answerYes 10 = .ok (.invokevirtual 187, 3) := by decide +kernel
theorem dX10_answerYes_13 : decode cX10_answerYes 13 = .ok (.ireturn, 1) := by decide +kernel
theorem dX10_side_0 : decode cX10_side 0 = .ok (.aload_n 0, 1) := by decide +kernel
theorem dX10_side_1 : decode cX10_side 1 = .ok (.getfield 50, 3) := by decide +kernel
theorem dX10_side_4 : decode cX10_side 4 = .ok (.iload_n 1, 1) := by decide +kernel
theorem dX10_side_5 : decode cX10_side 5 = .ok (.invokevirtual 264, 3) := by decide +kernel
theorem dX10_side_8 : decode cX10_side 8 = .ok (.ifCond .eq 14, 3) := by decide +kernel
theorem dX10_side_11 : decode cX10_side 11 = .ok (.aload_n 0, 1) := by decide +kernel
theorem dX10_side_12 : decode cX10_side 12 = .ok (.getfield 50, 3) := by decide +kernel
theorem dX10_side_15 : decode cX10_side 15 = .ok (.iload_n 2, 1) := by decide +kernel
theorem dX10_side_16 : decode cX10_side 16 = .ok (.invokevirtual 225, 3) := by decide +kernel
theorem dX10_side_19 : decode cX10_side 19 = .ok (.ifCond .ne 9, 3) := by decide +kernel
theorem dX10_side_22 : decode cX10_side 22 = .ok (.aload_n 0, 1) := by decide +kernel
theorem dX10_side_23 : decode cX10_side 23 = .ok (.iconst 1, 1) := by decide +kernel
theorem dX10_side_24 : decode cX10_side 24 = .ok (.invokevirtual 137, 3) := by decide +kernel
theorem dX10_side_27 : decode cX10_side 27 = .ok (.ireturn, 1) := by decide +kernel
theorem dX10_side_28 : decode cX10_side 28 = .ok (.aload_n 0, 1) := by decide +kernel
theorem dX10_side_29 : decode cX10_side 29 = .ok (.aload_n 0, 1) := by decide +kernel
theorem dX10_side_30 : decode cX10_side 30 = .ok (.getfield 50, 3) := by decide +kernel
theorem dX10_side_33 : decode cX10_side 33 = .ok (.iload_n 1, 1) := by decide +kernel
theorem dX10_side_34 : decode cX10_side 34 = .ok (.iload_n 2, 1) := by decide +kernel
theorem dX10_side_35 : decode cX10_side 35 = .ok (.invokevirtual 267, 3) := by decide +kernel
theorem dX10_side_38 : decode cX10_side 38 = .ok (.invokevirtual 270, 3) := by decide +kernel
theorem dX10_side_41 : decode cX10_side 41 = .ok (.ireturn, 1) := by decide +kernel
theorem dX5_pairCost_0 : decode cX5_pairCost 0 = .ok (.aload_n 0, 1) := by decide +kernel
theorem dX5_pairCost_1 : decode cX5_pairCost 1 = .ok (.aload_n 0, 1) := by decide +kernel
theorem dX5_pairCost_2 : decode cX5_pairCost 2 = .ok (.getfield 56, 3) := by decide +kernel
theorem dX5_pairCost_5 : decode cX5_pairCost 5 = .ok (.iload_n 1, 1) := by decide +kernel
theorem dX5_pairCost_6 : decode cX5_pairCost 6 = .ok (.iaload, 1) := by decide +kernel
theorem dX5_pairCost_7 : decode cX5_pairCost 7 = .ok (.aload_n 0, 1) := by decide +kernel
theorem dX5_pairCost_8 : decode cX5_pairCost 8 = .ok (.getfield 56, 3) := by decide +kernel
theorem dX5_pairCost_11 : decode cX5_pairCost 11 = .ok (.iload_n 2, 1) := by decide +kernel
theorem dX5_pairCost_12 : decode cX5_pairCost 12 = .ok (.iaload, 1) := by decide +kernel
theorem dX5_pairCost_13 : decode cX5_pairCost 13 = .ok (.invokevirtual 59, 3) := by decide +kernel
theorem dX5_pairCost_16 : decode cX5_pairCost 16 = .ok (.aload_n 0, 1) := by decide +kernel
theorem dX5_pairCost_17 : decode cX5_pairCost 17 = .ok (.getfield 62, 3) := by decide +kernel
theorem dX5_pairCost_20 : decode cX5_pairCost 20 = .ok (.iload_n 1, 1) := by decide +kernel
theorem dX5_pairCost_21 : decode cX5_pairCost 21 = .ok (.iaload, 1) := by decide +kernel
theorem dX5_pairCost_22 : decode cX5_pairCost 22 = .ok (.aload_n 0, 1) := by decide +kernel
theorem dX5_pairCost_23 : decode cX5_pairCost 23 = .ok (.getfield 62, 3) := by decide +kernel
theorem dX5_pairCost_26 : decode cX5_pairCost 26 = .ok (.iload_n 2, 1) := by decide +kernel
theorem dX5_pairCost_27 : decode cX5_pairCost 27 = .ok (.iaload, 1) := by decide +kernel
theorem dX5_pairCost_28 : decode cX5_pairCost 28 = .ok (.isub, 1) := by decide +kernel
theorem dX5_pairCost_29 : decode cX5_pairCost 29 = .ok (.invokestatic 65, 3) := by decide +kernel
theorem dX5_pairCost_32 : decode cX5_pairCost 32 = .ok (.iadd, 1) := by decide +kernel
theorem dX5_pairCost_33 : decode cX5_pairCost 33 = .ok (.ireturn, 1) := by decide +kernel
theorem dX5_leftOutCost_0 : decode cX5_leftOutCost 0 = .ok (.aload_n 0, 1) := by decide +kernel
theorem dX5_leftOutCost_1 : decode cX5_leftOutCost 1 = .ok (.getfield 69, 3) := by decide +kernel
theorem dX5_leftOutCost_4 : decode cX5_leftOutCost 4 = .ok (.aload_n 0, 1) := by decide +kernel
theorem dX5_leftOutCost_5 : decode cX5_leftOutCost 5 = .ok (.getfield 56, 3) := by decide +kernel
theorem dX5_leftOutCost_8 : decode cX5_leftOutCost 8 = .ok (.iload_n 1, 1) := by decide +kernel
theorem dX5_leftOutCost_9 : decode cX5_leftOutCost 9 = .ok (.iaload, 1) := by decide +kernel
theorem dX5_leftOutCost_10 : decode cX5_leftOutCost 10 = .ok (.iaload, 1) := by decide +kernel
theorem dX5_leftOutCost_11 : decode cX5_leftOutCost 11 = .ok (.aload_n 0, 1) := by decide +kernel
theorem dX5_leftOutCost_12 : decode cX5_leftOutCost 12 = .ok (.getfield 62, 3) := by decide +kernel
theorem dX5_leftOutCost_15 : decode cX5_leftOutCost 15 = .ok (.iload_n 1, 1) := by decide +kernel
theorem dX5_leftOutCost_16 : decode cX5_leftOutCost 16 = .ok (.iaload, 1) := by decide +kernel
theorem dX5_leftOutCost_17 : decode cX5_leftOutCost 17 = .ok (.iadd, 1) := by decide +kernel
theorem dX5_leftOutCost_18 : decode cX5_leftOutCost 18 = .ok (.ireturn, 1) := by decide +kernel
theorem dX5_leastFrom_0 : decode cX5_leastFrom 0 = .ok (.iload_n 3, 1) := by decide +kernel
theorem dX5_leastFrom_1 : decode cX5_leastFrom 1 = .ok (.aload_n 1, 1) := by decide +kernel
theorem dX5_leastFrom_2 : decode cX5_leastFrom 2 = .ok (.getfield 25, 3) := by decide +kernel
theorem dX5_leastFrom_5 : decode cX5_leastFrom 5 = .ok (.iload_n 2, 1) := by decide +kernel
theorem dX5_leastFrom_6 : decode cX5_leastFrom 6 = .ok (.iaload, 1) := by decide +kernel
theorem dX5_leastFrom_7 : decode cX5_leastFrom 7 = .ok (.if_icmp .ge 7, 3) := by decide +kernel
theorem dX5_leastFrom_10 : decode cX5_leastFrom 10 = .ok (.iconst 1, 1) := by decide +kernel
theorem dX5_leastFrom_11 : decode cX5_leastFrom 11 = .ok (.goto 4, 3) := by decide +kernel
theorem dX5_leastFrom_14 : decode cX5_leastFrom 14 = .ok (.iconst 0, 1) := by decide +kernel
theorem dX5_leastFrom_15 : decode cX5_leastFrom 15 = .ok (.istore 6, 2) := by decide +kernel
theorem dX5_leastFrom_17 : decode cX5_leastFrom 17 = .ok (.iload 5, 2) := by decide +kernel
theorem dX5_leastFrom_19 : decode cX5_leastFrom 19 = .ok (.aload_n 1, 1) := by decide +kernel
theorem dX5_leastFrom_20 : decode cX5_leastFrom 20 = .ok (.getfield 25, 3) := by decide +kernel
theorem dX5_leastFrom_23 : decode cX5_leastFrom 23 = .ok (.iload 4, 2) := by decide +kernel
theorem dX5_leastFrom_25 : decode cX5_leastFrom 25 = .ok (.iaload, 1) := by decide +kernel
theorem dX5_leastFrom_26 : decode cX5_leastFrom 26 = .ok (.if_icmp .ge 7, 3) := by decide +kernel
theorem dX5_leastFrom_29 : decode cX5_leastFrom 29 = .ok (.iconst 1, 1) := by decide +kernel
theorem dX5_leastFrom_30 : decode cX5_leastFrom 30 = .ok (.goto 4, 3) := by decide +kernel
theorem dX5_leastFrom_33 : decode cX5_leastFrom 33 = .ok (.iconst 0, 1) := by decide +kernel
theorem dX5_leastFrom_34 : decode cX5_leastFrom 34 = .ok (.istore 7, 2) := by decide +kernel
theorem dX5_leastFrom_36 : decode cX5_leastFrom 36 = .ok (.iload 6, 2) := by decide +kernel
theorem dX5_leastFrom_38 : decode cX5_leastFrom 38 = .ok (.ifCond .ne 10, 3) := by decide +kernel
theorem dX5_leastFrom_41 : decode cX5_leastFrom 41 = .ok (.iload 7, 2) := by decide +kernel
theorem dX5_leastFrom_43 : decode cX5_leastFrom 43 = .ok (.ifCond .ne 5, 3) := by decide +kernel
theorem dX5_leastFrom_46 : decode cX5_leastFrom 46 = .ok (.iconst 0, 1) := by decide +kernel
theorem dX5_leastFrom_47 : decode cX5_leastFrom 47 = .ok (.ireturn, 1) := by decide +kernel
theorem dX5_leastFrom_48 : decode cX5_leastFrom 48 = .ok (.iload_n 2, 1) := by decide +kernel
theorem dX5_leastFrom_49 : decode cX5_leastFrom 49 = .ok (.iload_n 3, 1) := by decide +kernel
theorem dX5_leastFrom_50 : decode cX5_leastFrom 50 = .ok (.invokestatic 38, 3) := by decide +kernel
theorem dX5_leastFrom_53 : decode cX5_leastFrom 53 = .ok (.istore 8, 2) := by decide +kernel
theorem dX5_leastFrom_55 : decode cX5_leastFrom 55 = .ok (.iload 4, 2) := by decide +kernel
theorem dX5_leastFrom_57 : decode cX5_leastFrom 57 = .ok (.iload 5, 2) := by decide +kernel
theorem dX5_leastFrom_59 : decode cX5_leastFrom 59 = .ok (.invokestatic 38, 3) := by decide +kernel
theorem dX5_leastFrom_62 : decode cX5_leastFrom 62 = .ok (.istore 9, 2) := by decide +kernel
theorem dX5_leastFrom_64 : decode cX5_leastFrom 64 = .ok (.iload_n 3, 1) := by decide +kernel
theorem dX5_leastFrom_65 : decode cX5_leastFrom 65 = .ok (.bipush 13, 2) := by decide +kernel
theorem dX5_leastFrom_67 : decode cX5_leastFrom 67 = .ok (.imul, 1) := by decide +kernel
theorem dX5_leastFrom_68 : decode cX5_leastFrom 68 = .ok (.iload 5, 2) := by decide +kernel
theorem dX5_leastFrom_70 : decode cX5_leastFrom 70 = .ok (.iadd, 1) := by decide +kernel
theorem dX5_leastFrom_71 : decode cX5_leastFrom 71 = .ok (.istore 10, 2) := by decide +kernel
theorem dX5_leastFrom_73 : decode cX5_leastFrom 73 = .ok (.ldc 42, 2) := by decide +kernel
theorem dX5_leastFrom_75 : decode cX5_leastFrom 75 = .ok (.istore 11, 2) := by decide +kernel
theorem dX5_leastFrom_77 : decode cX5_leastFrom 77 = .ok (.iload 6, 2) := by decide +kernel
theorem dX5_leastFrom_79 : decode cX5_leastFrom 79 = .ok (.ifCond .eq 31, 3) := by decide +kernel
theorem dX5_leastFrom_82 : decode cX5_leastFrom 82 = .ok (.iload 7, 2) := by decide +kernel
theorem dX5_leastFrom_84 : decode cX5_leastFrom 84 = .ok (.ifCond .eq 26, 3) := by decide +kernel
theorem dX5_leastFrom_87 : decode cX5_leastFrom 87 = .ok (.aload_n 1, 1) := by decide +kernel
theorem dX5_leastFrom_88 : decode cX5_leastFrom 88 = .ok (.iload 8, 2) := by decide +kernel
theorem dX5_leastFrom_90 : decode cX5_leastFrom 90 = .ok (.iload 9, 2) := by decide +kernel
theorem dX5_leastFrom_92 : decode cX5_leastFrom 92 = .ok (.invokestatic 43, 3) := by decide +kernel
theorem dX5_leastFrom_95 : decode cX5_leastFrom 95 = .ok (.aload_n 0, 1) := by decide +kernel
theorem dX5_leastFrom_96 : decode cX5_leastFrom 96 = .ok (.getfield 11, 3) := by decide +kernel
theorem dX5_leastFrom_99 : decode cX5_leastFrom 99 = .ok (.iload 10, 2) := by decide +kernel
theorem dX5_leastFrom_101 : decode cX5_leastFrom 101 = .ok (.bipush 13, 2) := by decide +kernel
theorem dX5_leastFrom_103 : decode cX5_leastFrom 103 = .ok (.iadd, 1) := by decide +kernel
theorem dX5_leastFrom_104 : decode cX5_leastFrom 104 = .ok (.iconst 1, 1) := by decide +kernel
theorem dX5_leastFrom_105 : decode cX5_leastFrom 105 = .ok (.iadd, 1) := by decide +kernel
theorem dX5_leastFrom_106 : decode cX5_leastFrom 106 = .ok (.iaload, 1) := by decide +kernel
theorem dX5_leastFrom_107 : decode cX5_leastFrom 107 = .ok (.iadd, 1) := by decide +kernel
theorem dX5_leastFrom_108 : decode cX5_leastFrom 108 = .ok (.istore 11, 2) := by decide +kernel
theorem dX5_leastFrom_110 : decode cX5_leastFrom 110 = .ok (.iload 6, 2) := by decide +kernel
theorem dX5_leastFrom_112 : decode cX5_leastFrom 112 = .ok (.ifCond .eq 27, 3) := by decide +kernel
theorem dX5_leastFrom_115 : decode cX5_leastFrom 115 = .ok (.iload 11, 2) := by decide +kernel
theorem dX5_leastFrom_117 : decode cX5_leastFrom 117 = .ok (.aload_n 1, 1) := by decide +kernel
theorem dX5_leastFrom_118 : decode cX5_leastFrom 118 = .ok (.iload 8, 2) := by decide +kernel
theorem dX5_leastFrom_120 : decode cX5_leastFrom 120 = .ok (.invokestatic 47, 3) := by decide +kernel
theorem dX5_leastFrom_123 : decode cX5_leastFrom 123 = .ok (.aload_n 0, 1) := by decide +kernel
theorem dX5_leastFrom_124 : decode cX5_leastFrom 124 = .ok (.getfield 11, 3) := by decide +kernel
theorem dX5_leastFrom_127 : decode cX5_leastFrom 127 = .ok (.iload 10, 2) := by decide +kernel
theorem dX5_leastFrom_129 : decode cX5_leastFrom 129 = .ok (.bipush 13, 2) := by decide +kernel
theorem dX5_leastFrom_131 : decode cX5_leastFrom 131 = .ok (.iadd, 1) := by decide +kernel
theorem dX5_leastFrom_132 : decode cX5_leastFrom 132 = .ok (.iaload, 1) := by decide +kernel
theorem dX5_leastFrom_133 : decode cX5_leastFrom 133 = .ok (.iadd, 1) := by decide +kernel
theorem dX5_leastFrom_134 : decode cX5_leastFrom 134 = .ok (.invokestatic 51, 3) := by decide +kernel
theorem dX5_leastFrom_137 : decode cX5_leastFrom 137 = .ok (.istore 11, 2) := by decide +kernel
theorem dX5_leastFrom_139 : decode cX5_leastFrom 139 = .ok (.iload 7, 2) := by decide +kernel
theorem dX5_leastFrom_141 : decode cX5_leastFrom 141 = .ok (.ifCond .eq 26, 3) := by decide +kernel
theorem dX5_leastFrom_144 : decode cX5_leastFrom 144 = .ok (.iload 11, 2) := by decide +kernel
theorem dX5_leastFrom_146 : decode cX5_leastFrom 146 = .ok (.aload_n 1, 1) := by decide +kernel
theorem dX5_leastFrom_147 : decode cX5_leastFrom 147 = .ok (.iload 9, 2) := by decide +kernel
theorem dX5_leastFrom_149 : decode cX5_leastFrom 149 = .ok (.invokestatic 47, 3) := by decide +kernel
theorem dX5_leastFrom_152 : decode cX5_leastFrom 152 = .ok (.aload_n 0, 1) := by decide +kernel
theorem dX5_leastFrom_153 : decode cX5_leastFrom 153 = .ok (.getfield 11, 3) := by decide +kernel
theorem dX5_leastFrom_156 : decode cX5_leastFrom 156 = .ok (.iload 10, 2) := by decide +kernel
theorem dX5_leastFrom_158 : decode cX5_leastFrom 158 = .ok (.iconst 1, 1) := by decide +kernel
theorem dX5_leastFrom_159 : decode cX5_leastFrom 159 = .ok (.iadd, 1) := by decide +kernel
theorem dX5_leastFrom_160 : decode cX5_leastFrom 160 = .ok (.iaload, 1) := by decide +kernel
theorem dX5_leastFrom_161 : decode cX5_leastFrom 161 = .ok (.iadd, 1) := by decide +kernel
theorem dX5_leastFrom_162 : decode cX5_leastFrom 162 = .ok (.invokestatic 51, 3) := by decide +kernel
theorem dX5_leastFrom_165 : decode cX5_leastFrom 165 = .ok (.istore 11, 2) := by decide +kernel
theorem dX5_leastFrom_167 : decode cX5_leastFrom 167 = .ok (.iload 11, 2) := by decide +kernel
theorem dX5_leastFrom_169 : decode cX5_leastFrom 169 = .ok (.ireturn, 1) := by decide +kernel
theorem dX5_trace_0 : decode cX5_trace 0 = .ok (.aload_n 0, 1) := by decide +kernel
theorem dX5_trace_1 : decode cX5_trace 1 = .ok (.aload_n 1, 1) := by decide +kernel
theorem dX5_trace_2 : decode cX5_trace 2 = .ok (.getfield 25, 3) := by decide +kernel
theorem dX5_trace_5 : decode cX5_trace 5 = .ok (.iload_n 2, 1) := by decide +kernel
theorem dX5_trace_6 : decode cX5_trace 6 = .ok (.iaload, 1) := by decide +kernel
theorem dX5_trace_7 : decode cX5_trace 7 = .ok (.putfield 18, 3) := by decide +kernel
theorem dX5_trace_10 : decode cX5_trace 10 = .ok (.aload_n 0, 1) := by decide +kernel
theorem dX5_trace_11 : decode cX5_trace 11 = .ok (.iconst 0, 1) := by decide +kernel
theorem dX5_trace_12 : decode cX5_trace 12 = .ok (.putfield 22, 3) := by decide +kernel
theorem dX5_trace_15 : decode cX5_trace 15 = .ok (.iconst 0, 1) := by decide +kernel
theorem dX5_trace_16 : decode cX5_trace 16 = .ok (.istore 4, 2) := by decide +kernel
theorem dX5_trace_18 : decode cX5_trace 18 = .ok (.iconst 0, 1) := by decide +kernel
theorem dX5_trace_19 : decode cX5_trace 19 = .ok (.istore 5, 2) := by decide +kernel
theorem dX5_trace_21 : decode cX5_trace 21 = .ok (.iconst 0, 1) := by decide +kernel
theorem dX5_trace_22 : decode cX5_trace 22 = .ok (.istore 6, 2) := by decide +kernel
theorem dX5_trace_24 : decode cX5_trace 24 = .ok (.iload 6, 2) := by decide +kernel
theorem dX5_trace_26 : decode cX5_trace 26 = .ok (.bipush 24, 2) := by decide +kernel
theorem dX5_trace_28 : decode cX5_trace 28 = .ok (.if_icmp .ge 171, 3) := by decide +kernel
theorem dX5_trace_31 : decode cX5_trace 31 = .ok (.iload 4, 2) := by decide +kernel
theorem dX5_trace_33 : decode cX5_trace 33 = .ok (.aload_n 0, 1) := by decide +kernel
theorem dX5_trace_34 : decode cX5_trace 34 = .ok (.getfield 18, 3) := by decide +kernel
theorem dX5_trace_37 : decode cX5_trace 37 = .ok (.if_icmp .ge 162, 3) := by decide +kernel
theorem dX5_trace_40 : decode cX5_trace 40 = .ok (.iload 4, 2) := by decide +kernel
theorem dX5_trace_42 : decode cX5_trace 42 = .ok (.bipush 13, 2) := by decide +kernel
theorem dX5_trace_44 : decode cX5_trace 44 = .ok (.imul, 1) := by decide +kernel
theorem dX5_trace_45 : decode cX5_trace 45 = .ok (.iload 5, 2) := by decide +kernel
theorem dX5_trace_47 : decode cX5_trace 47 = .ok (.iadd, 1) := by decide +kernel
theorem dX5_trace_48 : decode cX5_trace 48 = .ok (.istore 7, 2) := by decide +kernel
theorem dX5_trace_50 : decode cX5_trace 50 = .ok (.iload 5, 2) := by decide +kernel
theorem dX5_trace_52 : decode cX5_trace 52 = .ok (.aload_n 1, 1) := by decide +kernel
theorem dX5_trace_53 : decode cX5_trace 53 = .ok (.getfield 25, 3) := by decide +kernel
theorem dX5_trace_56 : decode cX5_trace 56 = .ok (.iload_n 3, 1) := by decide +kernel
theorem dX5_trace_57 : decode cX5_trace 57 = .ok (.iaload, 1) := by decide +kernel
theorem dX5_trace_58 : decode cX5_trace 58 = .ok (.if_icmp .ge 7, 3) := by decide +kernel
theorem dX5_trace_61 : decode cX5_trace 61 = .ok (.iconst 1, 1) := by decide +kernel
theorem dX5_trace_62 : decode cX5_trace 62 = .ok (.goto 4, 3) := by decide +kernel
theorem dX5_trace_65 : decode cX5_trace 65 = .ok (.iconst 0, 1) := by decide +kernel
theorem dX5_trace_66 : decode cX5_trace 66 = .ok (.istore 8, 2) := by decide +kernel
theorem dX5_trace_68 : decode cX5_trace 68 = .ok (.iload 8, 2) := by decide +kernel
theorem dX5_trace_70 : decode cX5_trace 70 = .ok (.ifCond .eq 70, 3) := by decide +kernel
theorem dX5_trace_73 : decode cX5_trace 73 = .ok (.aload_n 0, 1) := by decide +kernel
theorem dX5_trace_74 : decode cX5_trace 74 = .ok (.getfield 11, 3) := by decide +kernel
theorem dX5_trace_77 : decode cX5_trace 77 = .ok (.iload 7, 2) := by decide +kernel
theorem dX5_trace_79 : decode cX5_trace 79 = .ok (.iaload, 1) := by decide +kernel
theorem dX5_trace_80 : decode cX5_trace 80 = .ok (.aload_n 1, 1) := by decide +kernel
theorem dX5_trace_81 : decode cX5_trace 81 = .ok (.iload_n 2, 1) := by decide +kernel
theorem dX5_trace_82 : decode cX5_trace 82 = .ok (.iload 4, 2) := by decide +kernel
theorem dX5_trace_84 : decode cX5_trace 84 = .ok (.invokestatic 38, 3) := by decide +kernel
theorem dX5_trace_87 : decode cX5_trace 87 = .ok (.iload_n 3, 1) := by decide +kernel
theorem dX5_trace_88 : decode cX5_trace 88 = .ok (.iload 5, 2) := by decide +kernel
theorem dX5_trace_90 : decode cX5_trace 90 = .ok (.invokestatic 38, 3) := by decide +kernel
theorem dX5_trace_93 : decode cX5_trace 93 = .ok (.invokestatic 43, 3) := by decide +kernel
theorem dX5_trace_96 : decode cX5_trace 96 = .ok (.aload_n 0, 1) := by decide +kernel
theorem dX5_trace_97 : decode cX5_trace 97 = .ok (.getfield 11, 3) := by decide +kernel
theorem dX5_trace_100 : decode cX5_trace 100 = .ok (.iload 7, 2) := by decide +kernel
theorem dX5_trace_102 : decode cX5_trace 102 = .ok (.bipush 13, 2) := by decide +kernel
theorem dX5_trace_104 : decode cX5_trace 104 = .ok (.iadd, 1) := by decide +kernel
theorem dX5_trace_105 : decode cX5_trace 105 = .ok (.iconst 1, 1) := by decide +kernel
theorem dX5_trace_106 : decode cX5_trace 106 = .ok (.iadd, 1) := by decide +kernel
theorem dX5_trace_107 : decode cX5_trace 107 = .ok (.iaload, 1) := by decide +kernel
theorem dX5_trace_108 : decode cX5_trace 108 = .ok (.iadd, 1) := by decide +kernel
theorem dX5_trace_109 : decode cX5_trace 109 = .ok (.if_icmp .ne 31, 3) := by decide +kernel
theorem dX5_trace_112 : decode cX5_trace 112 = .ok (.aload_n 0, 1) := by decide +kernel
theorem dX5_trace_113 : decode cX5_trace 113 = .ok (.getfield 15, 3) := by decide +kernel
theorem dX5_trace_116 : decode cX5_trace 116 = .ok (.iload 4, 2) := by decide +kernel
theorem dX5_trace_118 : decode cX5_trace 118 = .ok (.iload 5, 2) := by decide +kernel
theorem dX5_trace_120 : decode cX5_trace 120 = .ok (.iastore, 1) := by decide +kernel
theorem dX5_trace_121 : decode cX5_trace 121 = .ok (.aload_n 0, 1) := by decide +kernel
theorem dX5_trace_122 : decode cX5_trace 122 = .ok (.dup, 1) := by decide +kernel
theorem dX5_trace_123 : decode cX5_trace 123 = .ok (.getfield 22, 3) := by decide +kernel
theorem dX5_trace_126 : decode cX5_trace 126 = .ok (.iconst 1, 1) := by decide +kernel
theorem dX5_trace_127 : decode cX5_trace 127 = .ok (.iadd, 1) := by decide +kernel
theorem dX5_trace_128 : decode cX5_trace 128 = .ok (.putfield 22, 3) := by decide +kernel
theorem dX5_trace_131 : decode cX5_trace 131 = .ok (.iinc 4 1, 3) := by decide +kernel
theorem dX5_trace_134 : decode cX5_trace 134 = .ok (.iinc 5 1, 3) := by decide +kernel
theorem dX5_trace_137 : decode cX5_trace 137 = .ok (.goto 56, 3) := by decide +kernel
theorem dX5_trace_140 : decode cX5_trace 140 = .ok (.iload 8, 2) := by decide +kernel
theorem dX5_trace_142 : decode cX5_trace 142 = .ok (.ifCond .eq 34, 3) := by decide +kernel
theorem dX5_trace_145 : decode cX5_trace 145 = .ok (.aload_n 0, 1) := by decide +kernel
theorem dX5_trace_146 : decode cX5_trace 146 = .ok (.getfield 11, 3) := by decide +kernel
theorem dX5_trace_149 : decode cX5_trace 149 = .ok (.iload 7, 2) := by decide +kernel
theorem dX5_trace_151 : decode cX5_trace 151 = .ok (.iaload, 1) := by decide +kernel
theorem dX5_trace_152 : decode cX5_trace 152 = .ok (.aload_n 1, 1) := by decide +kernel
theorem dX5_trace_153 : decode cX5_trace 153 = .ok (.iload_n 2, 1) := by decide +kernel
theorem dX5_trace_154 : decode cX5_trace 154 = .ok (.iload 4, 2) := by decide +kernel
theorem dX5_trace_156 : decode cX5_trace 156 = .ok (.invokestatic 38, 3) := by decide +kernel
theorem dX5_trace_159 : decode cX5_trace 159 = .ok (.invokestatic 47, 3) := by decide +kernel
theorem dX5_trace_162 : decode cX5_trace 162 = .ok (.aload_n 0, 1) := by decide +kernel
theorem dX5_trace_163 : decode cX5_trace 163 = .ok (.getfield 11, 3) := by decide +kernel
theorem dX5_trace_166 : decode cX5_trace 166 = .ok (.iload 7, 2) := by decide +kernel
theorem dX5_trace_168 : decode cX5_trace 168 = .ok (.bipush 13, 2) := by decide +kernel
theorem dX5_trace_170 : decode cX5_trace 170 = .ok (.iadd, 1) := by decide +kernel
theorem dX5_trace_171 : decode cX5_trace 171 = .ok (.iaload, 1) := by decide +kernel
theorem dX5_trace_172 : decode cX5_trace 172 = .ok (.iadd, 1) := by decide +kernel
theorem dX5_trace_173 : decode cX5_trace 173 = .ok (.if_icmp .ne 17, 3) := by decide +kernel
theorem dX5_trace_176 : decode cX5_trace 176 = .ok (.aload_n 0, 1) := by decide +kernel
theorem dX5_trace_177 : decode cX5_trace 177 = .ok (.getfield 15, 3) := by decide +kernel
theorem dX5_trace_180 : decode cX5_trace 180 = .ok (.iload 4, 2) := by decide +kernel
theorem dX5_trace_182 : decode cX5_trace 182 = .ok (.iconst (-1), 1) := by decide +kernel
theorem dX5_trace_183 : decode cX5_trace 183 = .ok (.iastore, 1) := by decide +kernel
theorem dX5_trace_184 : decode cX5_trace 184 = .ok (.iinc 4 1, 3) := by decide +kernel
theorem dX5_trace_187 : decode cX5_trace 187 = .ok (.goto 6, 3) := by decide +kernel
theorem dX5_trace_190 : decode cX5_trace 190 = .ok (.iinc 5 1, 3) := by decide +kernel
theorem dX5_trace_193 : decode cX5_trace 193 = .ok (.iinc 6 1, 3) := by decide +kernel
theorem dX5_trace_196 : decode cX5_trace 196 = .ok (.goto (-172), 3) := by decide +kernel
theorem dX5_trace_199 : decode cX5_trace 199 = .ok (.return_, 1) := by decide +kernel
theorem dX5_workOut_0 : decode cX5_workOut 0 = .ok (.aload_n 1, 1) := by decide +kernel
theorem dX5_workOut_1 : decode cX5_workOut 1 = .ok (.getfield 25, 3) := by decide +kernel
theorem dX5_workOut_4 : decode cX5_workOut 4 = .ok (.iload_n 2, 1) := by decide +kernel
theorem dX5_workOut_5 : decode cX5_workOut 5 = .ok (.iaload, 1) := by decide +kernel
theorem dX5_workOut_6 : decode cX5_workOut 6 = .ok (.istore 4, 2) := by decide +kernel
theorem dX5_workOut_8 : decode cX5_workOut 8 = .ok (.iload 4, 2) := by decide +kernel
theorem dX5_workOut_10 : decode cX5_workOut 10 = .ok (.ifCond .lt 52, 3) := by decide +kernel
theorem dX5_workOut_13 : decode cX5_workOut 13 = .ok (.aload_n 1, 1) := by decide +kernel
theorem dX5_workOut_14 : decode cX5_workOut 14 = .ok (.getfield 25, 3) := by decide +kernel
theorem dX5_workOut_17 : decode cX5_workOut 17 = .ok (.iload_n 3, 1) := by decide +kernel
theorem dX5_workOut_18 : decode cX5_workOut 18 = .ok (.iaload, 1) := by decide +kernel
theorem dX5_workOut_19 : decode cX5_workOut 19 = .ok (.istore 5, 2) := by decide +kernel
theorem dX5_workOut_21 : decode cX5_workOut 21 = .ok (.iload 5, 2) := by decide +kernel
theorem dX5_workOut_23 : decode cX5_workOut 23 = .ok (.ifCond .lt 33, 3) := by decide +kernel
theorem dX5_workOut_26 : decode cX5_workOut 26 = .ok (.aload_n 0, 1) := by decide +kernel
theorem dX5_workOut_27 : decode cX5_workOut 27 = .ok (.getfield 11, 3) := by decide +kernel
theorem dX5_workOut_30 : decode cX5_workOut 30 = .ok (.iload 4, 2) := by decide +kernel
theorem dX5_workOut_32 : decode cX5_workOut 32 = .ok (.bipush 13, 2) := by decide +kernel
theorem dX5_workOut_34 : decode cX5_workOut 34 = .ok (.imul, 1) := by decide +kernel
theorem dX5_workOut_35 : decode cX5_workOut 35 = .ok (.iload 5, 2) := by decide +kernel
theorem dX5_workOut_37 : decode cX5_workOut 37 = .ok (.iadd, 1) := by decide +kernel
theorem dX5_workOut_38 : decode cX5_workOut 38 = .ok (.aload_n 0, 1) := by decide +kernel
theorem dX5_workOut_39 : decode cX5_workOut 39 = .ok (.aload_n 1, 1) := by decide +kernel
theorem dX5_workOut_40 : decode cX5_workOut 40 = .ok (.iload_n 2, 1) := by decide +kernel
theorem dX5_workOut_41 : decode cX5_workOut 41 = .ok (.iload 4, 2) := by decide +kernel
theorem dX5_workOut_43 : decode cX5_workOut 43 = .ok (.iload_n 3, 1) := by decide +kernel
theorem dX5_workOut_44 : decode cX5_workOut 44 = .ok (.iload 5, 2) := by decide +kernel
theorem dX5_workOut_46 : decode cX5_workOut 46 = .ok (.invokevirtual 30, 3) := by decide +kernel
theorem dX5_workOut_49 : decode cX5_workOut 49 = .ok (.iastore, 1) := by decide +kernel
theorem dX5_workOut_50 : decode cX5_workOut 50 = .ok (.iinc 5 (-1), 3) := by decide +kernel
theorem dX5_workOut_53 : decode cX5_workOut 53 = .ok (.goto (-32), 3) := by decide +kernel
theorem dX5_workOut_56 : decode cX5_workOut 56 = .ok (.iinc 4 (-1), 3) := by decide +kernel
theorem dX5_workOut_59 : decode cX5_workOut 59 = .ok (.goto (-51), 3) := by decide +kernel
theorem dX5_workOut_62 : decode cX5_workOut 62 = .ok (.aload_n 0, 1) := by decide +kernel
theorem dX5_workOut_63 : decode cX5_workOut 63 = .ok (.aload_n 1, 1) := by decide +kernel
theorem dX5_workOut_64 : decode cX5_workOut 64 = .ok (.iload_n 2, 1) := by decide +kernel
theorem dX5_workOut_65 : decode cX5_workOut 65 = .ok (.iload_n 3, 1) := by decide +kernel
theorem dX5_workOut_66 : decode cX5_workOut 66 = .ok (.invokevirtual 34, 3) := by decide +kernel
theorem dX5_workOut_69 : decode cX5_workOut 69 = .ok (.aload_n 0, 1) := by decide +kernel
theorem dX5_workOut_70 : decode cX5_workOut 70 = .ok (.getfield 11, 3) := by decide +kernel
theorem dX5_workOut_73 : decode cX5_workOut 73 = .ok (.iconst 0, 1) := by decide +kernel
theorem dX5_workOut_74 : decode cX5_workOut 74 = .ok (.iaload, 1) := by decide +kernel
theorem dX5_workOut_75 : decode cX5_workOut 75 = .ok (.ireturn, 1) := by decide +kernel
theorem dX10_match_0 : decode cX10_match 0 = .ok (.aload_n 0, 1) := by decide +kernel
theorem dX10_match_1 : decode cX10_match 1 = .ok (.getfield 50, 3) := by decide +kernel
theorem dX10_match_4 : decode cX10_match 4 = .ok (.iload_n 1, 1) := by decide +kernel
theorem dX10_match_5 : decode cX10_match 5 = .ok (.invokevirtual 225, 3) := by decide +kernel
theorem dX10_match_8 : decode cX10_match 8 = .ok (.ifCond .eq 19, 3) := by decide +kernel
theorem dX10_match_11 : decode cX10_match 11 = .ok (.aload_n 0, 1) := by decide +kernel
theorem dX10_match_12 : decode cX10_match 12 = .ok (.getfield 50, 3) := by decide +kernel
theorem dX10_match_15 : decode cX10_match 15 = .ok (.iload_n 2, 1) := by decide +kernel
theorem dX10_match_16 : decode cX10_match 16 = .ok (.invokevirtual 225, 3) := by decide +kernel
theorem dX10_match_19 : decode cX10_match 19 = .ok (.ifCond .eq 8, 3) := by decide +kernel
theorem dX10_match_22 : decode cX10_match 22 = .ok (.iload_n 1, 1) := by decide +kernel
theorem dX10_match_23 : decode cX10_match 23 = .ok (.iload_n 2, 1) := by decide +kernel
theorem dX10_match_24 : decode cX10_match 24 = .ok (.if_icmp .ne 9, 3) := by decide +kernel
theorem dX10_match_27 : decode cX10_match 27 = .ok (.aload_n 0, 1) := by decide +kernel
theorem dX10_match_28 : decode cX10_match 28 = .ok (.iconst 1, 1) := by decide +kernel
theorem dX10_match_29 : decode cX10_match 29 = .ok (.invokevirtual 137, 3) := by decide +kernel
theorem dX10_match_32 : decode cX10_match 32 = .ok (.ireturn, 1) := by decide +kernel
theorem dX10_match_33 : decode cX10_match 33 = .ok (.aload_n 0, 1) := by decide +kernel
theorem dX10_match_34 : decode cX10_match 34 = .ok (.aload_n 0, 1) := by decide +kernel
theorem dX10_match_35 : decode cX10_match 35 = .ok (.getfield 81, 3) := by decide +kernel
theorem dX10_match_38 : decode cX10_match 38 = .ok (.aload_n 0, 1) := by decide +kernel
theorem dX10_match_39 : decode cX10_match 39 = .ok (.getfield 50, 3) := by decide +kernel
theorem dX10_match_42 : decode cX10_match 42 = .ok (.iload_n 1, 1) := by decide +kernel
theorem dX10_match_43 : decode cX10_match 43 = .ok (.iload_n 2, 1) := by decide +kernel
theorem dX10_match_44 : decode cX10_match 44 = .ok (.invokevirtual 274, 3) := by decide +kernel
theorem dX10_match_47 : decode cX10_match 47 = .ok (.invokevirtual 187, 3) := by decide +kernel
theorem dX10_match_50 : decode cX10_match 50 = .ok (.ireturn, 1) := by decide +kernel
theorem dX5_mateOf_0 : decode cX5_mateOf 0 = .ok (.iload_n 1, 1) := by decide +kernel
theorem dX5_mateOf_1 : decode cX5_mateOf 1 = .ok (.ifCond .lt 20, 3) := by decide +kernel
theorem dX5_mateOf_4 : decode cX5_mateOf 4 = .ok (.iload_n 1, 1) := by decide +kernel
theorem dX5_mateOf_5 : decode cX5_mateOf 5 = .ok (.aload_n 0, 1) := by decide +kernel
theorem dX5_mateOf_6 : decode cX5_mateOf 6 = .ok (.getfield 18, 3) := by decide +kernel
theorem dX5_mateOf_9 : decode cX5_mateOf 9 = .ok (.if_icmp .ge 12, 3) := by decide +kernel
theorem dX5_mateOf_12 : decode cX5_mateOf 12 = .ok (.aload_n 0, 1) := by decide +kernel
theorem dX5_mateOf_13 : decode cX5_mateOf 13 = .ok (.getfield 15, 3) := by decide +kernel
theorem dX5_mateOf_16 : decode cX5_mateOf 16 = .ok (.iload_n 1, 1) := by decide +kernel
theorem dX5_mateOf_17 : decode cX5_mateOf 17 = .ok (.iaload, 1) := by decide +kernel
theorem dX5_mateOf_18 : decode cX5_mateOf 18 = .ok (.goto 4, 3) := by decide +kernel
theorem dX5_mateOf_21 : decode cX5_mateOf 21 = .ok (.iconst (-1), 1) := by decide +kernel
theorem dX5_mateOf_22 : decode cX5_mateOf 22 = .ok (.ireturn, 1) := by decide +kernel
theorem dX10_pairOf_0 : decode cX10_pairOf 0 = .ok (.aload_n 0, 1) := by decide +kernel
theorem dX10_pairOf_1 : decode cX10_pairOf 1 = .ok (.aload_n 0, 1) := by decide +kernel
theorem dX10_pairOf_2 : decode cX10_pairOf 2 = .ok (.getfield 81, 3) := by decide +kernel
theorem dX10_pairOf_5 : decode cX10_pairOf 5 = .ok (.iload_n 1, 1) := by decide +kernel
theorem dX10_pairOf_6 : decode cX10_pairOf 6 = .ok (.invokevirtual 278, 3) := by decide +kernel
theorem dX10_pairOf_9 : decode cX10_pairOf 9 = .ok (.invokevirtual 261, 3) := by decide +kernel
theorem dX10_pairOf_12 : decode cX10_pairOf 12 = .ok (.ireturn, 1) := by decide +kernel
def fX9_passRest (φ : Nat) (t : Nat) (a1 : Int32) (a2 : Int32) (M : Mem) : Option (Int32 × Mem) :=
  if a2 = 13 then
 bd (fX9_passHole φ t a1 M) fun v46 M47 =>
 if v46 = 0 then
 some ((0 : Int32), M47)
 else
 bd (fX9_passRock φ t a1 M47) fun v48 M49 =>
 if v48 = 0 then
 some ((0 : Int32), M49)
 else
 bd (fX9_passNumber t a1 (1 : Int32) (99 : Int32) M49) fun v50 M51 =>
 if v50 = 0 then
 some ((0 : Int32), M51)
 else
 some ((1 : Int32), M51)
 else
 if a2 = 14 then
 bd (fX9_passHole φ t a1 M) fun v41 M42 =>
 if v41 = 0 then
 some ((0 : Int32), M42)
 else
 bd (fX9_passNumber t a1 (1 : Int32) (99 : Int32) M42) fun v43 M44 =>
 if v43 = 0 then
 some ((0 : Int32), M44)
 else
 some ((1 : Int32), M44)
 else
 if a2 = 15 then
 bd (fX9_passNumber t a1 (1 : Int32) (99 : Int32) M) fun v37 M38 =>
 if v37 = 0 ∨ v37 = 1 then some (v37, M38) else none
 else
 if a2 = 16 then
 bd (fX9_passFault φ t a1 M) fun v32 M33 =>
 if v32 = 0 then
 some ((0 : Int32), M33)
 else
 bd (fX9_passNumber t a1 (1 : Int32) (99 : Int32) M33) fun v34 M35 =>
 if v34 = 0 then
 some ((0 : Int32), M35)
 else
 some ((1 : Int32), M35)
 else
 if a2 = 17 then
 some ((1 : Int32), M)
 else
 if a2 = 18 then
 bd (fX9_passHole φ t a1 M) fun v24 M25 =>
 if v24 = 0 then
 some ((0 : Int32), M25)
 else
 bd (fX9_passComparison t a1 M25) fun v26 M27 =>
 if v26 = 0 then
 some ((0 : Int32), M27)
 else
 bd (fX9_passNumber t a1 (0 : Int32) (9999 : Int32) M27) fun v28 M29 =>
 if v28 = 0 then
 some ((0 : Int32), M29)
 else
 some ((1 : Int32), M29)
 else
 if a2 = 19 then
 bd (fX9_passHole φ t a1 M) fun v19 M20 =>
 if v19 = 0 then
 some ((0 : Int32), M20)
 else
 bd (fX9_passRock φ t a1 M20) fun v21 M22 =>
 if v21 = 0 then
 some ((0 : Int32), M22)
 else
 some ((1 : Int32), M22)
 else
 if a2 = 20 then
 bd (fX9_passHole φ t a1 M) fun v14 M15 =>
 if v14 = 0 then
 some ((0 : Int32), M15)
 else
 bd (fX9_passRock φ t a1 M15) fun v16 M17 =>
 if v16 = 0 then
 some ((0 : Int32), M17)
 else
 some ((1 : Int32), M17)
 else
 if a2 = 21 then
 bd (fX9_passNumber t a1 (1 : Int32) (99 : Int32) M) fun v10 M11 =>
 if v10 = 0 ∨ v10 = 1 then some (v10, M11) else none
 else
 some ((1 : Int32), M)
set_option maxRecDepth 100000 in
set_option maxHeartbeats 4000000 in
theorem kX9_passRest (φ : Nat) (t : Nat) (a1 : Int32) (a2 : Int32) (M : Mem) (ht : isO 9 t) (l : Launch) (G : GT) {b : (Int32 × Mem)} (hE : fX9_passRest φ t a1 a2 M = some b) : Ok l G yX9_passRest cX9_passRest 3 (some .boolean) 4 82 [.ref t, .int a1, .int a2] M ((fun q : Int32 × Mem => (some (Value.int q.1), q.2)) b).1 ((fun q : Int32 × Mem => (some (Value.int q.1), q.2)) b).2 := by
  refine Ok.ofX (pj := (fun q : Int32 × Mem => (some (Value.int q.1), q.2))) (by decide) (Nat.le_of_ble_eq_true rfl) hE (fun J g hr hG hl hR hn => ?_)
  show X J (fun q : Int32 × Mem => (some (Value.int q.1), q.2)) (fX9_passRest φ t a1 a2 M) 0 [(0, .ref t), (1, .int a1), (2, .int a2)] [] M
  unfold fX9_passRest
  exact (x_iload_n g 2 dX9_passRest_0 rfl rfl
 (x_if (fun he52 => x_tabIn (off := 51) g (13 : Int32) 52 dX9_passRest_1 he52 (by decide) rfl rfl
 (x_aload_n g 0 dX9_passRest_52 rfl rfl
 (x_iload_n g 1 dX9_passRest_53 rfl rfl
 (x_callVi (As := [.int a1]) g mv_X9_passHole mi_X9_passHole lk_RX9_83 ht (fun b Mh_ hb => kX9_passHole φ t a1 M ht _ _ hb) rfl rfl hR ⟨Nat.le_of_ble_eq_true rfl, Nat.le_of_ble_eq_true rfl⟩ (Nat.le_of_ble_eq_true rfl) dX9_passRest_54 (fun v46 M47 =>
 (x_if_eq g 83 dX9_passRest_57 rfl
 (fun _ => (x_iconst g dX9_passRest_83 kI_0
 (x_iret g hr rfl rfl dX9_passRest_84)))
 (fun _ => (x_aload_n g 0 dX9_passRest_60 rfl rfl
 (x_iload_n g 1 dX9_passRest_61 rfl rfl
 (x_callVi (As := [.int a1]) g mv_X9_passRock mi_X9_passRock lk_RX9_86 ht (fun b Mh_ hb => kX9_passRock φ t a1 M47 ht _ _ hb) rfl rfl hR ⟨Nat.le_of_ble_eq_true rfl, Nat.le_of_ble_eq_true rfl⟩ (Nat.le_of_ble_eq_true rfl) dX9_passRest_62 (fun v48 M49 =>
 (x_if_eq g 83 dX9_passRest_65 rfl
 (fun _ => (x_iconst g dX9_passRest_83 kI_0
 (x_iret g hr rfl rfl dX9_passRest_84)))
 (fun _ => (x_aload_n g 0 dX9_passRest_68 rfl rfl
 (x_iload_n g 1 dX9_passRest_69 rfl rfl
 (x_iconst g dX9_passRest_70 kI_1
 (x_bipush g dX9_passRest_71 kB_99
 (x_callVi (As := [.int a1, .int (1 : Int32), .int (99 : Int32)]) g mv_X9_passNumber mi_X9_passNumber lk_RX9_89 ht (fun b Mh_ hb => kX9_passNumber t a1 (1 : Int32) (99 : Int32) M49 ht _ _ hb) rfl rfl hR ⟨Nat.le_of_ble_eq_true rfl, Nat.le_of_ble_eq_true rfl⟩ (Nat.le_of_ble_eq_true rfl) dX9_passRest_73 (fun v50 M51 =>
 (x_if_eq g 83 dX9_passRest_76 rfl
 (fun _ => (x_iconst g dX9_passRest_83 kI_0
 (x_iret g hr rfl rfl dX9_passRest_84)))
 (fun _ => (x_iconst g dX9_passRest_79 kI_1
 (x_goto g 84 dX9_passRest_80 rfl
 (x_iret g hr rfl rfl dX9_passRest_84)))))))))))))))))))))))) (fun hq1 => (x_if (fun he45 => x_tabIn (off := 84) g (14 : Int32) 85 dX9_passRest_1 he45 (by decide) rfl rfl
 (x_aload_n g 0 dX9_passRest_85 rfl rfl
 (x_iload_n g 1 dX9_passRest_86 rfl rfl
 (x_callVi (As := [.int a1]) g mv_X9_passHole mi_X9_passHole lk_RX9_83 ht (fun b Mh_ hb => kX9_passHole φ t a1 M ht _ _ hb) rfl rfl hR ⟨Nat.le_of_ble_eq_true rfl, Nat.le_of_ble_eq_true rfl⟩ (Nat.le_of_ble_eq_true rfl) dX9_passRest_87 (fun v41 M42 =>
 (x_if_eq g 108 dX9_passRest_90 rfl
 (fun _ => (x_iconst g dX9_passRest_108 kI_0
 (x_iret g hr rfl rfl dX9_passRest_109)))
 (fun _ => (x_aload_n g 0 dX9_passRest_93 rfl rfl
 (x_iload_n g 1 dX9_passRest_94 rfl rfl
 (x_iconst g dX9_passRest_95 kI_1
 (x_bipush g dX9_passRest_96 kB_99
 (x_callVi (As := [.int a1, .int (1 : Int32), .int (99 : Int32)]) g mv_X9_passNumber mi_X9_passNumber lk_RX9_89 ht (fun b Mh_ hb => kX9_passNumber t a1 (1 : Int32) (99 : Int32) M42 ht _ _ hb) rfl rfl hR ⟨Nat.le_of_ble_eq_true rfl, Nat.le_of_ble_eq_true rfl⟩ (Nat.le_of_ble_eq_true rfl) dX9_passRest_98 (fun v43 M44 =>
 (x_if_eq g 108 dX9_passRest_101 rfl
 (fun _ => (x_iconst g dX9_passRest_108 kI_0
 (x_iret g hr rfl rfl dX9_passRest_109)))
 (fun _ => (x_iconst g dX9_passRest_104 kI_1
 (x_goto g 109 dX9_passRest_105 rfl
 (x_iret g hr rfl rfl dX9_passRest_109)))))))))))))))))) (fun hq2 => (x_if (fun he40 => x_tabIn (off := 134) g (15 : Int32) 135 dX9_passRest_1 he40 (by decide) rfl rfl
 (x_aload_n g 0 dX9_passRest_135 rfl rfl
 (x_iload_n g 1 dX9_passRest_136 rfl rfl
 (x_iconst g dX9_passRest_137 kI_1
 (x_bipush g dX9_passRest_138 kB_99
 (x_callVi (As := [.int a1, .int (1 : Int32), .int (99 : Int32)]) g mv_X9_passNumber mi_X9_passNumber lk_RX9_89 ht (fun b Mh_ hb => kX9_passNumber t a1 (1 : Int32) (99 : Int32) M ht _ _ hb) rfl rfl hR ⟨Nat.le_of_ble_eq_true rfl, Nat.le_of_ble_eq_true rfl⟩ (Nat.le_of_ble_eq_true rfl) dX9_passRest_140 (fun v37 M38 =>
 (x_ck (fun hq39 => x_iret g hr (nbz hq39) rfl dX9_passRest_143))))))))) (fun hq3 => (x_if (fun he36 => x_tabIn (off := 109) g (16 : Int32) 110 dX9_passRest_1 he36 (by decide) rfl rfl
 (x_aload_n g 0 dX9_passRest_110 rfl rfl
 (x_iload_n g 1 dX9_passRest_111 rfl rfl
 (x_callVi (As := [.int a1]) g mv_X9_passFault mi_X9_passFault lk_RX9_93 ht (fun b Mh_ hb => kX9_passFault φ t a1 M ht _ _ hb) rfl rfl hR ⟨Nat.le_of_ble_eq_true rfl, Nat.le_of_ble_eq_true rfl⟩ (Nat.le_of_ble_eq_true rfl) dX9_passRest_112 (fun v32 M33 =>
 (x_if_eq g 133 dX9_passRest_115 rfl
 (fun _ => (x_iconst g dX9_passRest_133 kI_0
 (x_iret g hr rfl rfl dX9_passRest_134)))
 (fun _ => (x_aload_n g 0 dX9_passRest_118 rfl rfl
 (x_iload_n g 1 dX9_passRest_119 rfl rfl
 (x_iconst g dX9_passRest_120 kI_1
 (x_bipush g dX9_passRest_121 kB_99
 (x_callVi (As := [.int a1, .int (1 : Int32), .int (99 : Int32)]) g mv_X9_passNumber mi_X9_passNumber lk_RX9_89 ht (fun b Mh_ hb => kX9_passNumber t a1 (1 : Int32) (99 : Int32) M33 ht _ _ hb) rfl rfl hR ⟨Nat.le_of_ble_eq_true rfl, Nat.le_of_ble_eq_true rfl⟩ (Nat.le_of_ble_eq_true rfl) dX9_passRest_123 (fun v34 M35 =>
 (x_if_eq g 133 dX9_passRest_126 rfl
 (fun _ => (x_iconst g dX9_passRest_133 kI_0
 (x_iret g hr rfl rfl dX9_passRest_134)))
 (fun _ => (x_iconst g dX9_passRest_129 kI_1
 (x_goto g 134 dX9_passRest_130 rfl
 (x_iret g hr rfl rfl dX9_passRest_134)))))))))))))))))) (fun hq4 => (x_if (fun he31 => x_tabIn (off := 199) g (17 : Int32) 200 dX9_passRest_1 he31 (by decide) rfl rfl
 (x_iconst g dX9_passRest_200 kI_1
 (x_iret g hr rfl rfl dX9_passRest_201))) (fun hq5 => (x_if (fun he30 => x_tabIn (off := 143) g (18 : Int32) 144 dX9_passRest_1 he30 (by decide) rfl rfl
 (x_aload_n g 0 dX9_passRest_144 rfl rfl
 (x_iload_n g 1 dX9_passRest_145 rfl rfl
 (x_callVi (As := [.int a1]) g mv_X9_passHole mi_X9_passHole lk_RX9_83 ht (fun b Mh_ hb => kX9_passHole φ t a1 M ht _ _ hb) rfl rfl hR ⟨Nat.le_of_ble_eq_true rfl, Nat.le_of_ble_eq_true rfl⟩ (Nat.le_of_ble_eq_true rfl) dX9_passRest_146 (fun v24 M25 =>
 (x_if_eq g 176 dX9_passRest_149 rfl
 (fun _ => (x_iconst g dX9_passRest_176 kI_0
 (x_iret g hr rfl rfl dX9_passRest_177)))
 (fun _ => (x_aload_n g 0 dX9_passRest_152 rfl rfl
 (x_iload_n g 1 dX9_passRest_153 rfl rfl
 (x_callVi (As := [.int a1]) g mv_X9_passComparison mi_X9_passComparison lk_RX9_96 ht (fun b Mh_ hb => kX9_passComparison t a1 M25 ht _ _ hb) rfl rfl hR ⟨Nat.le_of_ble_eq_true rfl, Nat.le_of_ble_eq_true rfl⟩ (Nat.le_of_ble_eq_true rfl) dX9_passRest_154 (fun v26 M27 =>
 (x_if_eq g 176 dX9_passRest_157 rfl
 (fun _ => (x_iconst g dX9_passRest_176 kI_0
 (x_iret g hr rfl rfl dX9_passRest_177)))
 (fun _ => (x_aload_n g 0 dX9_passRest_160 rfl rfl
 (x_iload_n g 1 dX9_passRest_161 rfl rfl
 (x_iconst g dX9_passRest_162 kI_0
 (x_sipush g dX9_passRest_163 kS_9999
 (x_callVi (As := [.int a1, .int (0 : Int32), .int (9999 : Int32)]) g mv_X9_passNumber mi_X9_passNumber lk_RX9_89 ht (fun b Mh_ hb => kX9_passNumber t a1 (0 : Int32) (9999 : Int32) M27 ht _ _ hb) rfl rfl hR ⟨Nat.le_of_ble_eq_true rfl, Nat.le_of_ble_eq_true rfl⟩ (Nat.le_of_ble_eq_true rfl) dX9_passRest_166 (fun v28 M29 =>
 (x_if_eq g 176 dX9_passRest_169 rfl
 (fun _ => (x_iconst g dX9_passRest_176 kI_0
 (x_iret g hr rfl rfl dX9_passRest_177)))
 (fun _ => (x_iconst g dX9_passRest_172 kI_1
 (x_goto g 177 dX9_passRest_173 rfl
 (x_iret g hr rfl rfl dX9_passRest_177)))))))))))))))))))))))) (fun hq6 => (x_if (fun he23 => x_tabIn (off := 177) g (19 : Int32) 178 dX9_passRest_1 he23 (by decide) rfl rfl
 (x_aload_n g 0 dX9_passRest_178 rfl rfl
 (x_iload_n g 1 dX9_passRest_179 rfl rfl
 (x_callVi (As := [.int a1]) g mv_X9_passHole mi_X9_passHole lk_RX9_83 ht (fun b Mh_ hb => kX9_passHole φ t a1 M ht _ _ hb) rfl rfl hR ⟨Nat.le_of_ble_eq_true rfl, Nat.le_of_ble_eq_true rfl⟩ (Nat.le_of_ble_eq_true rfl) dX9_passRest_180 (fun v19 M20 =>
 (x_if_eq g 198 dX9_passRest_183 rfl
 (fun _ => (x_iconst g dX9_passRest_198 kI_0
 (x_iret g hr rfl rfl dX9_passRest_199)))
 (fun _ => (x_aload_n g 0 dX9_passRest_186 rfl rfl
 (x_iload_n g 1 dX9_passRest_187 rfl rfl
 (x_callVi (As := [.int a1]) g mv_X9_passRock mi_X9_passRock lk_RX9_86 ht (fun b Mh_ hb => kX9_passRock φ t a1 M20 ht _ _ hb) rfl rfl hR ⟨Nat.le_of_ble_eq_true rfl, Nat.le_of_ble_eq_true rfl⟩ (Nat.le_of_ble_eq_true rfl) dX9_passRest_188 (fun v21 M22 =>
 (x_if_eq g 198 dX9_passRest_191 rfl
 (fun _ => (x_iconst g dX9_passRest_198 kI_0
 (x_iret g hr rfl rfl dX9_passRest_199)))
 (fun _ => (x_iconst g dX9_passRest_194 kI_1
 (x_goto g 199 dX9_passRest_195 rfl
 (x_iret g hr rfl rfl dX9_passRest_199)))))))))))))))) (fun hq7 => (x_if (fun he18 => x_tabIn (off := 177) g (20 : Int32) 178 dX9_passRest_1 he18 (by decide) rfl rfl
 (x_aload_n g 0 dX9_passRest_178 rfl rfl
 (x_iload_n g 1 dX9_passRest_179 rfl rfl
 (x_callVi (As := [.int a1]) g mv_X9_passHole mi_X9_passHole lk_RX9_83 ht (fun b Mh_ hb => kX9_passHole φ t a1 M ht _ _ hb) rfl rfl hR ⟨Nat.le_of_ble_eq_true rfl, Nat.le_of_ble_eq_true rfl⟩ (Nat.le_of_ble_eq_true rfl) dX9_passRest_180 (fun v14 M15 =>
 (x_if_eq g 198 dX9_passRest_183 rfl
 (fun _ => (x_iconst g dX9_passRest_198 kI_0
 (x_iret g hr rfl rfl dX9_passRest_199)))
 (fun _ => (x_aload_n g 0 dX9_passRest_186 rfl rfl
 (x_iload_n g 1 dX9_passRest_187 rfl rfl
 (x_callVi (As := [.int a1]) g mv_X9_passRock mi_X9_passRock lk_RX9_86 ht (fun b Mh_ hb => kX9_passRock φ t a1 M15 ht _ _ hb) rfl rfl hR ⟨Nat.le_of_ble_eq_true rfl, Nat.le_of_ble_eq_true rfl⟩ (Nat.le_of_ble_eq_true rfl) dX9_passRest_188 (fun v16 M17 =>
 (x_if_eq g 198 dX9_passRest_191 rfl
 (fun _ => (x_iconst g dX9_passRest_198 kI_0
 (x_iret g hr rfl rfl dX9_passRest_199)))
 (fun _ => (x_iconst g dX9_passRest_194 kI_1
 (x_goto g 199 dX9_passRest_195 rfl
 (x_iret g hr rfl rfl dX9_passRest_199)))))))))))))))) (fun hq8 => (x_if (fun he13 => x_tabIn (off := 134) g (21 : Int32) 135 dX9_passRest_1 he13 (by decide) rfl rfl
 (x_aload_n g 0 dX9_passRest_135 rfl rfl
 (x_iload_n g 1 dX9_passRest_136 rfl rfl
 (x_iconst g dX9_passRest_137 kI_1
 (x_bipush g dX9_passRest_138 kB_99
 (x_callVi (As := [.int a1, .int (1 : Int32), .int (99 : Int32)]) g mv_X9_passNumber mi_X9_passNumber lk_RX9_89 ht (fun b Mh_ hb => kX9_passNumber t a1 (1 : Int32) (99 : Int32) M ht _ _ hb) rfl rfl hR ⟨Nat.le_of_ble_eq_true rfl, Nat.le_of_ble_eq_true rfl⟩ (Nat.le_of_ble_eq_true rfl) dX9_passRest_140 (fun v10 M11 =>
 (x_ck (fun hq12 => x_iret g hr (nbz hq12) rfl dX9_passRest_143))))))))) (fun hq9 => (x_tabOut g 200 dX9_passRest_1 (by have a0 := tab_ne hq1 (by decide : (13 : Int32).toInt = 13); have a1 := tab_ne hq2 (by decide : (14 : Int32).toInt = 14); have a2 := tab_ne hq3 (by decide : (15 : Int32).toInt = 15); have a3 := tab_ne hq4 (by decide : (16 : Int32).toInt = 16); have a4 := tab_ne hq5 (by decide : (17 : Int32).toInt = 17); have a5 := tab_ne hq6 (by decide : (18 : Int32).toInt = 18); have a6 := tab_ne hq7 (by decide : (19 : Int32).toInt = 19); have a7 := tab_ne hq8 (by decide : (20 : Int32).toInt = 20); have a8 := tab_ne hq9 (by decide : (21 : Int32).toInt = 21); omega) rfl
 (x_iconst g dX9_passRest_200 kI_1
 (x_iret g hr rfl rfl dX9_passRest_201))))))))))))))))))))))
def fX9_passStep (φ : Nat) (t : Nat) (M : Mem) : Option (Int32 × Mem) :=
  (ldr 6 (M.2.2 t 2)).bind fun vr1 =>
 (fX6_word vr1 M).bind fun v2 =>
 if v2 = (22 : Int32) then
 bd (fX9_passEnd t M) fun v51 M52 =>
 if v51 = 0 ∨ v51 = 1 then some (v51, M52) else none
 else
 jn (fun (v3 : Int32) => jn ((ldr 8 (M.2.2 t 4)).bind fun vr6 =>
 (fX8_isFull vr6 M).bind fun v7 =>
 if v7 = 0 then
 jn ((ldr 6 (M.2.2 t 2)).bind fun vr9 =>
 bd (fX6_goOn vr9 M) fun vu10 M11 =>
 jn (fun (v12 : Int32) (M13 : Mem) => (ldr 8 (M13.2.2 t 4)).bind fun vr15 =>
 bd (fX8_add vr15 v12 M13) fun v16 M17 =>
 jn (fun (M18 : Mem) => bd (fX9_passRest φ t v16 v12 M18) fun v20 M21 =>
 if v20 = 0 then
 some ((0 : Int32), M21)
 else
 (ldr 6 (M21.2.2 t 2)).bind fun vr22 =>
 bd (fX6_passSemicolon vr22 M21) fun v23 M24 =>
 if v23 = 0 then
 some ((0 : Int32), M24)
 else
 some ((1 : Int32), M24)) (fun J19 => if v3 = 0 then
 J19 M17
 else
 ixk (M17.1 t 1) 3 (nm (stI M17 (t + 1) (M17.1 t 1).toNatClampNeg v16) (fun M25 =>
 nm (stI M25 t 1 ((M25.1 t 1) + (1 : Int32))) (fun M26 =>
 J19 M26))))) (fun J14 => if v2 = (17 : Int32) then
 (ldr 6 (M11.2.2 t 2)).bind fun vr27 =>
 (fX6_word vr27 M11).bind fun v28 =>
 jn ((ldr 6 (M11.2.2 t 2)).bind fun vr30 =>
 bd (fX6_goOn vr30 M11) fun vu31 M32 =>
 J14 v28 M32) (fun J29 => if v28 = (18 : Int32) then
 J29
 else
 if v28 = (19 : Int32) then
 J29
 else
 if v28 = (20 : Int32) then
 J29
 else
 (ldr 6 (M11.2.2 t 2)).bind fun vr33 =>
 bd (fX6_refuseToken vr33 (2 : Int32) M11) fun v34 M35 =>
 if v34 = 0 ∨ v34 = 1 then some (v34, M35) else none)
 else
 J14 v2 M11)) (fun J8 => if v3 = 0 then
 J8
 else
 if (M.1 t 1) < (3 : Int32) then
 J8
 else
 (ldr 6 (M.2.2 t 2)).bind fun vr37 =>
 bd (fX6_refuseToken vr37 (7 : Int32) M) fun v38 M39 =>
 if v38 = 0 ∨ v38 = 1 then some (v38, M39) else none)
 else
 (ldr 6 (M.2.2 t 2)).bind fun vr41 =>
 bd (fX6_refuseToken vr41 (6 : Int32) M) fun v42 M43 =>
 if v42 = 0 ∨ v42 = 1 then some (v42, M43) else none) (fun J5 => if v3 = 0 then
 (fX9_isDoing v2 M).bind fun v45 =>
 if v45 = 0 then
 (ldr 6 (M.2.2 t 2)).bind fun vr46 =>
 bd (fX6_refuseToken vr46 (2 : Int32) M) fun v47 M48 =>
 if v47 = 0 ∨ v47 = 1 then some (v47, M48) else none
 else
 J5
 else
 J5)) (fun J4 => jn (J4 (1 : Int32)) (fun J50 => if v2 = (17 : Int32) then
 J50
 else
 if v2 = (21 : Int32) then
 J50
 else
 J4 (0 : Int32)))
set_option maxRecDepth 100000 in
set_option maxHeartbeats 4000000 in
theorem kX9_passStep (φ : Nat) (t : Nat) (M : Mem) (ht : isO 9 t) (l : Launch) (G : GT) {b : (Int32 × Mem)} (hE : fX9_passStep φ t M = some b) : Ok l G yX9_passStep cX9_passStep 4 (some .boolean) 5 104 [.ref t] M ((fun q : Int32 × Mem => (some (Value.int q.1), q.2)) b).1 ((fun q : Int32 × Mem => (some (Value.int q.1), q.2)) b).2 := by
  refine Ok.ofX (pj := (fun q : Int32 × Mem => (some (Value.int q.1), q.2))) (by decide) (Nat.le_of_ble_eq_true rfl) hE (fun J g hr hG hl hR hn => ?_)
  show X J (fun q : Int32 × Mem => (some (Value.int q.1), q.2)) (fX9_passStep φ t M) 0 [(0, .ref t)] [] M
  unfold fX9_passStep
  exact (x_aload_n g 0 dX9_passStep_0 rfl rfl
 (x_getD g fl_RX9_19 rfl ht dX9_passStep_1 (fun vr1 hvr1 =>
 (x_callVip (As := []) g mv_X6_word mi_X6_word lk_RX9_53 hvr1 (fun b hb => kX6_word vr1 M hvr1 _ _ hb) rfl rfl hR ⟨Nat.le_of_ble_eq_true rfl, Nat.le_of_ble_eq_true rfl⟩ (Nat.le_of_ble_eq_true rfl) dX9_passStep_4 (fun v2 =>
 (x_istore_n (L' := [(1, .int v2), (0, .ref t)]) g dX9_passStep_7 rfl hn (Nat.le_of_ble_eq_true rfl) rfl
 (x_iload_n g 0 dX9_passStep_8 rfl rfl
 (x_bipush g dX9_passStep_9 kB_22
 (x_icmp_ne g 19 dX9_passStep_11 rfl
 (fun _ => (x_iload_n g 0 dX9_passStep_19 rfl rfl
 (x_bipush g dX9_passStep_20 kB_17
 (x_jn (fun (J4 : Int32 → Option (Int32 × Mem)) => ∀ (v3 : Int32), X J (fun q : Int32 × Mem => (some (Value.int q.1), q.2)) (J4 v3) 36 [(0, .ref t), (1, .int v2)] [.int v3] M) (fun v3 => (x_istore_n (L' := [(2, .int v3), (0, .ref t), (1, .int v2)]) g dX9_passStep_36 rfl hn (Nat.le_of_ble_eq_true rfl) rfl
 (x_iload_n g 0 dX9_passStep_37 rfl rfl
 (x_jn (fun (J5 : Option (Int32 × Mem)) => X J (fun q : Int32 × Mem => (some (Value.int q.1), q.2)) J5 57 [(0, .ref t), (1, .int v2), (2, .int v3)] [] M) (x_aload_n g 0 dX9_passStep_57 rfl rfl
 (x_getD g fl_RX9_27 rfl ht dX9_passStep_58 (fun vr6 hvr6 =>
 (x_callVip (As := []) g mv_X8_isFull mi_X8_isFull lk_RX9_63 hvr6 (fun b hb => kX8_isFull vr6 M hvr6 _ _ hb) rfl rfl hR ⟨Nat.le_of_ble_eq_true rfl, Nat.le_of_ble_eq_true rfl⟩ (Nat.le_of_ble_eq_true rfl) dX9_passStep_61 (fun v7 =>
 (x_if_eq g 77 dX9_passStep_64 rfl
 (fun _ => (x_iload_n g 2 dX9_passStep_77 rfl rfl
 (x_jn (fun (J8 : Option (Int32 × Mem)) => X J (fun q : Int32 × Mem => (some (Value.int q.1), q.2)) J8 99 [(0, .ref t), (1, .int v2), (2, .int v3)] [] M) (x_aload_n g 0 dX9_passStep_99 rfl rfl
 (x_getD g fl_RX9_19 rfl ht dX9_passStep_100 (fun vr9 hvr9 =>
 (x_callVv (As := []) g mv_X6_goOn mi_X6_goOn lk_RX9_66 hvr9 (fun b Mh_ hb => kX6_goOn vr9 M hvr9 _ _ hb) rfl rfl hR ⟨Nat.le_of_ble_eq_true rfl, Nat.le_of_ble_eq_true rfl⟩ (Nat.le_of_ble_eq_true rfl) dX9_passStep_103 (fun vu10 M11 =>
 (x_iload_n g 1 dX9_passStep_106 rfl rfl
 (x_bipush g dX9_passStep_107 kB_17
 (x_jn (fun (J14 : Int32 → Mem → Option (Int32 × Mem)) => ∀ (v12 : Int32) (M13 : Mem), X J (fun q : Int32 × Mem => (some (Value.int q.1), q.2)) (J14 v12 M13) 154 [(0, .ref t), (1, .int v12), (2, .int v3)] [] M13) (fun v12 M13 => (x_aload_n g 0 dX9_passStep_154 rfl rfl
 (x_getD g fl_RX9_27 rfl ht dX9_passStep_155 (fun vr15 hvr15 =>
 (x_iload_n g 1 dX9_passStep_158 rfl rfl
 (x_callVi (As := [.int v12]) g mv_X8_add mi_X8_add lk_RX9_69 hvr15 (fun b Mh_ hb => kX8_add vr15 v12 M13 hvr15 _ _ hb) rfl rfl hR ⟨Nat.le_of_ble_eq_true rfl, Nat.le_of_ble_eq_true rfl⟩ (Nat.le_of_ble_eq_true rfl) dX9_passStep_159 (fun v16 M17 =>
 (x_istore_n (L' := [(3, .int v16), (0, .ref t), (1, .int v12), (2, .int v3)]) g dX9_passStep_162 rfl hn (Nat.le_of_ble_eq_true rfl) rfl
 (x_iload_n g 3 dX9_passStep_163 rfl rfl
 (x_jn (fun (J19 : Mem → Option (Int32 × Mem)) => ∀ (M18 : Mem), X J (fun q : Int32 × Mem => (some (Value.int q.1), q.2)) (J19 M18) 187 [(0, .ref t), (1, .int v12), (3, .int v16)] [] M18) (fun M18 => (x_aload_n g 0 dX9_passStep_187 rfl rfl
 (x_iload_n g 2 dX9_passStep_188 rfl rfl
 (x_iload_n g 1 dX9_passStep_189 rfl rfl
 (x_callVi (As := [.int v16, .int v12]) g mv_X9_passRest mi_X9_passRest lk_RX9_73 ht (fun b Mh_ hb => kX9_passRest φ t v16 v12 M18 ht _ _ hb) rfl rfl hR ⟨Nat.le_of_ble_eq_true rfl, Nat.le_of_ble_eq_true rfl⟩ (Nat.le_of_ble_eq_true rfl) dX9_passStep_190 (fun v20 M21 =>
 (x_if_eq g 210 dX9_passStep_193 rfl
 (fun _ => (x_iconst g dX9_passStep_210 kI_0
 (x_iret g hr rfl rfl dX9_passStep_211)))
 (fun _ => (x_aload_n g 0 dX9_passStep_196 rfl rfl
 (x_getD g fl_RX9_19 rfl ht dX9_passStep_197 (fun vr22 hvr22 =>
 (x_callVi (As := []) g mv_X6_passSemicolon mi_X6_passSemicolon lk_RX9_77 hvr22 (fun b Mh_ hb => kX6_passSemicolon vr22 M21 hvr22 _ _ hb) rfl rfl hR ⟨Nat.le_of_ble_eq_true rfl, Nat.le_of_ble_eq_true rfl⟩ (Nat.le_of_ble_eq_true rfl) dX9_passStep_200 (fun v23 M24 =>
 (x_if_eq g 210 dX9_passStep_203 rfl
 (fun _ => (x_iconst g dX9_passStep_210 kI_0
 (x_iret g hr rfl rfl dX9_passStep_211)))
 (fun _ => (x_iconst g dX9_passStep_206 kI_1
 (x_goto g 211 dX9_passStep_207 rfl
 (x_iret g hr rfl rfl dX9_passStep_211)))))))))))))))))) (fun J19 hJ19 => (x_if_eq g 187 dX9_passStep_164 rfl
 (fun _ => (x_sub [1, 2, 0] rfl (hJ19 M17)))
 (fun _ => (x_aload_n g 1 dX9_passStep_167 rfl rfl
 (x_getS g 1 fl_RX9_11 rfl ht dX9_passStep_168
 (x_aload_n g 1 dX9_passStep_171 rfl rfl
 (x_getI g fl_RX9_15 rfl ht dX9_passStep_172
 (x_iload_n g 0 dX9_passStep_175 rfl rfl
 (x_iast g (so_9_0 ht) dX9_passStep_176 (x_nmM (fun M25 =>
 (x_aload_n g 1 dX9_passStep_177 rfl rfl
 (x_dup g dX9_passStep_178 rfl
 (x_getI g fl_RX9_15 rfl ht dX9_passStep_179
 (x_iconst g dX9_passStep_182 kI_1
 (x_iadd g dX9_passStep_183
 (x_putI g fp_RX9_15 rfl (Nat.le_of_ble_eq_true rfl) ht dX9_passStep_184 (x_nmM (fun M26 =>
 (x_sub [1, 2, 0] rfl (hJ19 M26))))))))))))))))))))))))))))))) (fun J14 hJ14 => (x_icmp_ne g 154 dX9_passStep_109 rfl
 (fun _ => (hJ14 v2 M11))
 (fun _ => (x_aload_n g 0 dX9_passStep_112 rfl rfl
 (x_getD g fl_RX9_19 rfl ht dX9_passStep_113 (fun vr27 hvr27 =>
 (x_callVip (As := []) g mv_X6_word mi_X6_word lk_RX9_53 hvr27 (fun b hb => kX6_word vr27 M11 hvr27 _ _ hb) rfl rfl hR ⟨Nat.le_of_ble_eq_true rfl, Nat.le_of_ble_eq_true rfl⟩ (Nat.le_of_ble_eq_true rfl) dX9_passStep_116 (fun v28 =>
 (x_istore_n (L' := [(1, .int v28), (0, .ref t), (2, .int v3)]) g dX9_passStep_119 rfl hn (Nat.le_of_ble_eq_true rfl) rfl
 (x_iload_n g 0 dX9_passStep_120 rfl rfl
 (x_bipush g dX9_passStep_121 kB_18
 (x_jn (fun (J29 : Option (Int32 × Mem)) => X J (fun q : Int32 × Mem => (some (Value.int q.1), q.2)) J29 147 [(0, .ref t), (1, .int v28), (2, .int v3)] [] M11) (x_aload_n g 0 dX9_passStep_147 rfl rfl
 (x_getD g fl_RX9_19 rfl ht dX9_passStep_148 (fun vr30 hvr30 =>
 (x_callVv (As := []) g mv_X6_goOn mi_X6_goOn lk_RX9_66 hvr30 (fun b Mh_ hb => kX6_goOn vr30 M11 hvr30 _ _ hb) rfl rfl hR ⟨Nat.le_of_ble_eq_true rfl, Nat.le_of_ble_eq_true rfl⟩ (Nat.le_of_ble_eq_true rfl) dX9_passStep_151 (fun vu31 M32 =>
 (hJ14 v28 M32)))))) (fun J29 hJ29 => (x_icmp_eq g 147 dX9_passStep_123 rfl
 (fun _ => (x_sub [1, 0, 2] rfl (hJ29)))
 (fun _ => (x_iload_n g 0 dX9_passStep_126 rfl rfl
 (x_bipush g dX9_passStep_127 kB_19
 (x_icmp_eq g 147 dX9_passStep_129 rfl
 (fun _ => (x_sub [1, 0, 2] rfl (hJ29)))
 (fun _ => (x_iload_n g 0 dX9_passStep_132 rfl rfl
 (x_bipush g dX9_passStep_133 kB_20
 (x_icmp_eq g 147 dX9_passStep_135 rfl
 (fun _ => (x_sub [1, 0, 2] rfl (hJ29)))
 (fun _ => (x_aload_n g 1 dX9_passStep_138 rfl rfl
 (x_getD g fl_RX9_19 rfl ht dX9_passStep_139 (fun vr33 hvr33 =>
 (x_iconst g dX9_passStep_142 kI_2
 (x_callVi (As := [.int (2 : Int32)]) g mv_X6_refuseToken mi_X6_refuseToken lk_RX9_45 hvr33 (fun b Mh_ hb => kX6_refuseToken vr33 (2 : Int32) M11 hvr33 _ _ hb) rfl rfl hR ⟨Nat.le_of_ble_eq_true rfl, Nat.le_of_ble_eq_true rfl⟩ (Nat.le_of_ble_eq_true rfl) dX9_passStep_143 (fun v34 M35 =>
 (x_ck (fun hq36 => x_iret g hr (nbz hq36) rfl dX9_passStep_146))))))))))))))))))))))))))))))))))))))) (fun J8 hJ8 => (x_if_eq g 99 dX9_passStep_78 rfl
 (fun _ => (hJ8))
 (fun _ => (x_aload_n g 0 dX9_passStep_81 rfl rfl
 (x_getI g fl_RX9_15 rfl ht dX9_passStep_82
 (x_iconst g dX9_passStep_85 kI_3
 (x_icmp_lt g 99 dX9_passStep_86 rfl
 (fun _ => (hJ8))
 (fun _ => (x_aload_n g 0 dX9_passStep_89 rfl rfl
 (x_getD g fl_RX9_19 rfl ht dX9_passStep_90 (fun vr37 hvr37 =>
 (x_bipush g dX9_passStep_93 kB_7
 (x_callVi (As := [.int (7 : Int32)]) g mv_X6_refuseToken mi_X6_refuseToken lk_RX9_45 hvr37 (fun b Mh_ hb => kX6_refuseToken vr37 (7 : Int32) M hvr37 _ _ hb) rfl rfl hR ⟨Nat.le_of_ble_eq_true rfl, Nat.le_of_ble_eq_true rfl⟩ (Nat.le_of_ble_eq_true rfl) dX9_passStep_95 (fun v38 M39 =>
 (x_ck (fun hq40 => x_iret g hr (nbz hq40) rfl dX9_passStep_98)))))))))))))))))))
 (fun _ => (x_aload_n g 0 dX9_passStep_67 rfl rfl
 (x_getD g fl_RX9_19 rfl ht dX9_passStep_68 (fun vr41 hvr41 =>
 (x_bipush g dX9_passStep_71 kB_6
 (x_callVi (As := [.int (6 : Int32)]) g mv_X6_refuseToken mi_X6_refuseToken lk_RX9_45 hvr41 (fun b Mh_ hb => kX6_refuseToken vr41 (6 : Int32) M hvr41 _ _ hb) rfl rfl hR ⟨Nat.le_of_ble_eq_true rfl, Nat.le_of_ble_eq_true rfl⟩ (Nat.le_of_ble_eq_true rfl) dX9_passStep_73 (fun v42 M43 =>
 (x_ck (fun hq44 => x_iret g hr (nbz hq44) rfl dX9_passStep_76))))))))))))))) (fun J5 hJ5 => (x_if_ne g 57 dX9_passStep_38 rfl
 (fun _ => (x_sub [1, 2, 0] rfl (hJ5)))
 (fun _ => (x_iload_n g 2 dX9_passStep_41 rfl rfl
 (x_callSip (As := [.int v2]) g mv_X9_isDoing ms_X9_isDoing lk_RX9_60 (fun b hb => kX9_isDoing v2 M _ _ hb) rfl rfl hR ⟨Nat.le_of_ble_eq_true rfl, Nat.le_of_ble_eq_true rfl⟩ (Nat.le_of_ble_eq_true rfl) dX9_passStep_42 (fun v45 =>
 (x_if_ne g 57 dX9_passStep_45 rfl
 (fun _ => (x_sub [1, 2, 0] rfl (hJ5)))
 (fun _ => (x_aload_n g 1 dX9_passStep_48 rfl rfl
 (x_getD g fl_RX9_19 rfl ht dX9_passStep_49 (fun vr46 hvr46 =>
 (x_iconst g dX9_passStep_52 kI_2
 (x_callVi (As := [.int (2 : Int32)]) g mv_X6_refuseToken mi_X6_refuseToken lk_RX9_45 hvr46 (fun b Mh_ hb => kX6_refuseToken vr46 (2 : Int32) M hvr46 _ _ hb) rfl rfl hR ⟨Nat.le_of_ble_eq_true rfl, Nat.le_of_ble_eq_true rfl⟩ (Nat.le_of_ble_eq_true rfl) dX9_passStep_53 (fun v47 M48 =>
 (x_ck (fun hq49 => x_iret g hr (nbz hq49) rfl dX9_passStep_56)))))))))))))))))))) (fun J4 hJ4 => (x_jn (fun (J50 : Option (Int32 × Mem)) => X J (fun q : Int32 × Mem => (some (Value.int q.1), q.2)) J50 31 [(0, .ref t), (1, .int v2)] [] M) (x_iconst g dX9_passStep_31 kI_1
 (x_goto g 36 dX9_passStep_32 rfl
 (hJ4 (1 : Int32)))) (fun J50 hJ50 => (x_icmp_eq g 31 dX9_passStep_22 rfl
 (fun _ => (x_sub [1, 0] rfl (hJ50)))
 (fun _ => (x_iload_n g 0 dX9_passStep_25 rfl rfl
 (x_bipush g dX9_passStep_26 kB_21
 (x_icmp_ne g 35 dX9_passStep_28 rfl
 (fun _ => (x_iconst g dX9_passStep_35 kI_0
 (x_sub [1, 0] rfl (hJ4 (0 : Int32)))))
 (fun _ => (x_sub [1, 0] rfl (hJ50)))))))))))))))
 (fun _ => (x_aload_n g 1 dX9_passStep_14 rfl rfl
 (x_callVi (As := []) g mv_X9_passEnd mi_X9_passEnd lk_RX9_57 ht (fun b Mh_ hb => kX9_passEnd t M ht _ _ hb) rfl rfl hR ⟨Nat.le_of_ble_eq_true rfl, Nat.le_of_ble_eq_true rfl⟩ (Nat.le_of_ble_eq_true rfl) dX9_passStep_15 (fun v51 M52 =>
 (x_ck (fun hq53 => x_iret g hr (nbz hq53) rfl dX9_passStep_18)))))))))))))))
def lX9_isTaken_30 (K63 : Mem → Option (Int32 × Mem)) (φ : Nat) (t : Nat) : Nat → Int32 → Mem → Option (Int32 × Mem)
  | 0, _, _ => none
  | n + 1, x4, M =>
    if (900 : Int32) ≤ x4 then
 K63 M
 else
 (ldr 6 (M.2.2 t 2)).bind fun vr8 =>
 (fX6_isAtEnd vr8 M).bind fun v9 =>
 if v9 = 0 then
 bd (fX9_passStep φ t M) fun v10 M11 =>
 if v10 = 0 then
 some ((0 : Int32), M11)
 else
 lX9_isTaken_30 K63 φ t n (x4 + 1) M11
 else
 K63 M
theorem lX9_isTaken_30_s (K63 : Mem → Option (Int32 × Mem)) (φ : Nat) (t : Nat) (n : Nat) (x4 : Int32) (M : Mem) : lX9_isTaken_30 K63 φ t (n + 1) x4 M =
    if (900 : Int32) ≤ x4 then
 K63 M
 else
 (ldr 6 (M.2.2 t 2)).bind fun vr8 =>
 (fX6_isAtEnd vr8 M).bind fun v9 =>
 if v9 = 0 then
 bd (fX9_passStep φ t M) fun v10 M11 =>
 if v10 = 0 then
 some ((0 : Int32), M11)
 else
 lX9_isTaken_30 K63 φ t n (x4 + 1) M11
 else
 K63 M := rfl
theorem lX9_isTaken_30_0 (K63 : Mem → Option (Int32 × Mem)) (φ : Nat) (t : Nat) (x4 : Int32) (M : Mem) : lX9_isTaken_30 K63 φ t 0 x4 M = none := rfl
set_option maxRecDepth 100000 in
set_option maxHeartbeats 4000000 in
theorem wlX9_isTaken_30 {J : JT} (g : Gd J cX9_isTaken RX9) (hr : Rt J (some .boolean)) (hR : (JR J).frames = 6 ∧ (JR J).locals = 127) (hn : Jn J = 5) (K63 : Mem → Option (Int32 × Mem)) (φ : Nat) (t : Nat) (ht : isO 9 t) (hK63 : ∀ (M : Mem), X J (fun q : Int32 × Mem => (some (Value.int q.1), q.2)) (K63 M) 63 [(0, .ref t)] [] M) : ∀ (n : Nat) (x4 : Int32) (M : Mem), X J (fun q : Int32 × Mem => (some (Value.int q.1), q.2)) (lX9_isTaken_30 K63 φ t n x4 M) 30 [(0, .ref t), (4, .int x4)] [] M := by
  intro n
  induction n with
  | zero =>
    intro x4 M
    exact x_none
  | succ n ih =>
    intro x4 M
    rw [lX9_isTaken_30_s]
    exact (x_iload g 1 dX9_isTaken_30 rfl
 (x_sipush g dX9_isTaken_32 kS_900
 (x_icmp_ge g 63 dX9_isTaken_35 rfl
 (fun _ => (x_sub [0] rfl (hK63 M)))
 (fun _ => (x_aload_n g 0 dX9_isTaken_38 rfl rfl
 (x_getD g fl_RX9_19 rfl ht dX9_isTaken_39 (fun vr8 hvr8 =>
 (x_callVip (As := []) g mv_X6_isAtEnd mi_X6_isAtEnd lk_RX9_36 hvr8 (fun b hb => kX6_isAtEnd vr8 M hvr8 _ _ hb) rfl rfl hR ⟨Nat.le_of_ble_eq_true rfl, Nat.le_of_ble_eq_true rfl⟩ (Nat.le_of_ble_eq_true rfl) dX9_isTaken_42 (fun v9 =>
 (x_if_ne g 63 dX9_isTaken_45 rfl
 (fun _ => (x_sub [0] rfl (hK63 M)))
 (fun _ => (x_aload_n g 0 dX9_isTaken_48 rfl rfl
 (x_callVi (As := []) g mv_X9_passStep mi_X9_passStep lk_RX9_42 ht (fun b Mh_ hb => kX9_passStep φ t M ht _ _ hb) rfl rfl hR ⟨Nat.le_of_ble_eq_true rfl, Nat.le_of_ble_eq_true rfl⟩ (Nat.le_of_ble_eq_true rfl) dX9_isTaken_49 (fun v10 M11 =>
 (x_if_ne g 57 dX9_isTaken_52 rfl
 (fun _ => (x_iinc (L' := [(4, .int (x4 + 1)), (0, .ref t)]) (v := (x4 + 1)) g 1 dX9_isTaken_57 rfl (by rw [kI_1]) hn (Nat.le_of_ble_eq_true rfl) rfl
 (x_goto g 30 dX9_isTaken_60 rfl
 (x_sub [1, 0] rfl (ih (x4 + 1) M11)))))
 (fun _ => (x_iconst g dX9_isTaken_55 kI_0
 (x_iret g hr rfl rfl dX9_isTaken_56))))))))))))))))))
def fX9_isTaken (φ : Nat) (t : Nat) (a1 : Nat) (a2 : Nat) (a3 : Nat) (M : Mem) : Option (Int32 × Mem) :=
  nm (stR M t 2 a1) (fun M1 =>
 nm (stR M1 t 3 a2) (fun M2 =>
 nm (stR M2 t 4 a3) (fun M3 =>
 nm (stI M3 t 1 (0 : Int32)) (fun M4 =>
 (ldr 8 (M4.2.2 t 4)).bind fun vr5 =>
 bd (fX8_forget vr5 M4) fun vu6 M7 =>
 lX9_isTaken_30 (fun (M12 : Mem) => if (M12.1 t 1) ≤ 0 then
 (ldr 8 (M12.2.2 t 4)).bind fun vr13 =>
 nm (stI M12 vr13 0 (1 : Int32)) (fun M14 =>
 some ((1 : Int32), M14))
 else
 (ldr 6 (M12.2.2 t 2)).bind fun vr15 =>
 bd (fX6_refuseToken vr15 (2 : Int32) M12) fun v16 M17 =>
 if v16 = 0 ∨ v16 = 1 then some (v16, M17) else none) φ t φ (0 : Int32) M7))))
set_option maxRecDepth 100000 in
set_option maxHeartbeats 4000000 in
theorem kX9_isTaken (φ : Nat) (t : Nat) (a1 : Nat) (a2 : Nat) (a3 : Nat) (M : Mem) (ht : isO 9 t) (ha1 : isO 6 a1) (ha2 : isO 2 a2) (ha3 : isO 8 a3) (l : Launch) (G : GT) {b : (Int32 × Mem)} (hE : fX9_isTaken φ t a1 a2 a3 M = some b) : Ok l G yX9_isTaken cX9_isTaken 5 (some .boolean) 6 127 [.ref t, .ref a1, .ref a2, .ref a3] M ((fun q : Int32 × Mem => (some (Value.int q.1), q.2)) b).1 ((fun q : Int32 × Mem => (some (Value.int q.1), q.2)) b).2 := by
  refine Ok.ofX (pj := (fun q : Int32 × Mem => (some (Value.int q.1), q.2))) (by decide) (Nat.le_of_ble_eq_true rfl) hE (fun J g hr hG hl hR hn => ?_)
  show X J (fun q : Int32 × Mem => (some (Value.int q.1), q.2)) (fX9_isTaken φ t a1 a2 a3 M) 0 [(0, .ref t), (1, .ref a1), (2, .ref a2), (3, .ref a3)] [] M
  unfold fX9_isTaken
  exact (x_aload_n g 0 dX9_isTaken_0 rfl rfl
 (x_aload_n g 1 dX9_isTaken_1 rfl rfl
 (x_putR g fp_RX9_19 rfl (Nat.le_of_ble_eq_true rfl) ht dX9_isTaken_2 (x_nmM (fun M1 =>
 (x_aload_n g 0 dX9_isTaken_5 rfl rfl
 (x_aload_n g 2 dX9_isTaken_6 rfl rfl
 (x_putR g fp_RX9_23 rfl (Nat.le_of_ble_eq_true rfl) ht dX9_isTaken_7 (x_nmM (fun M2 =>
 (x_aload_n g 0 dX9_isTaken_10 rfl rfl
 (x_aload_n g 3 dX9_isTaken_11 rfl rfl
 (x_putR g fp_RX9_27 rfl (Nat.le_of_ble_eq_true rfl) ht dX9_isTaken_12 (x_nmM (fun M3 =>
 (x_aload_n g 0 dX9_isTaken_15 rfl rfl
 (x_iconst g dX9_isTaken_16 kI_0
 (x_putI g fp_RX9_15 rfl (Nat.le_of_ble_eq_true rfl) ht dX9_isTaken_17 (x_nmM (fun M4 =>
 (x_aload_n g 0 dX9_isTaken_20 rfl rfl
 (x_getD g fl_RX9_27 rfl ht dX9_isTaken_21 (fun vr5 hvr5 =>
 (x_callVv (As := []) g mv_X8_forget mi_X8_forget lk_RX9_31 hvr5 (fun b Mh_ hb => kX8_forget vr5 M4 hvr5 _ _ hb) rfl rfl hR ⟨Nat.le_of_ble_eq_true rfl, Nat.le_of_ble_eq_true rfl⟩ (Nat.le_of_ble_eq_true rfl) dX9_isTaken_24 (fun vu6 M7 =>
 (x_iconst g dX9_isTaken_27 kI_0
 (x_istore (L' := [(4, .int (0 : Int32)), (0, .ref t), (1, .ref a1), (2, .ref a2), (3, .ref a3)]) g dX9_isTaken_28 hn (Nat.le_of_ble_eq_true rfl) rfl
 (x_sub [1, 0] rfl (wlX9_isTaken_30 g hr hR hn _ φ t ht
 (fun M12 => by exact (x_aload_n g 0 dX9_isTaken_63 rfl rfl
 (x_getI g fl_RX9_15 rfl ht dX9_isTaken_64
 (x_if_le g 79 dX9_isTaken_67 rfl
 (fun _ => (x_aload_n g 0 dX9_isTaken_79 rfl rfl
 (x_getD g fl_RX9_27 rfl ht dX9_isTaken_80 (fun vr13 hvr13 =>
 (x_iconst g dX9_isTaken_83 kI_1
 (x_putZ g fp_RX9_49 rfl (Nat.le_of_ble_eq_true rfl) hvr13 (Or.inr rfl) dX9_isTaken_84 (x_nmM (fun M14 =>
 (x_iconst g dX9_isTaken_87 kI_1
 (x_iret g hr rfl rfl dX9_isTaken_88))))))))))
 (fun _ => (x_aload_n g 0 dX9_isTaken_70 rfl rfl
 (x_getD g fl_RX9_19 rfl ht dX9_isTaken_71 (fun vr15 hvr15 =>
 (x_iconst g dX9_isTaken_74 kI_2
 (x_callVi (As := [.int (2 : Int32)]) g mv_X6_refuseToken mi_X6_refuseToken lk_RX9_45 hvr15 (fun b Mh_ hb => kX6_refuseToken vr15 (2 : Int32) M12 hvr15 _ _ hb) rfl rfl hR ⟨Nat.le_of_ble_eq_true rfl, Nat.le_of_ble_eq_true rfl⟩ (Nat.le_of_ble_eq_true rfl) dX9_isTaken_75 (fun v16 M17 =>
 (x_ck (fun hq18 => x_iret g hr (nbz hq18) rfl dX9_isTaken_78))))))))))))) φ (0 : Int32) M7)))))))))))))))))))))))))))))
def fX10_years (φ : Nat) (t : Nat) (a1 : Int32) (M : Mem) : Option (Int32 × Mem) :=
  if a1 < 0 then
 bd (fX10_refuse t (1 : Int32) M) fun v1 M2 =>
 some (v1, M2)
 else
 if (M.1 (t + 2) 1) < a1 then
 bd (fX10_refuse t (1 : Int32) M) fun v3 M4 =>
 some (v3, M4)
 else
 if a1 ≤ (300 : Int32) then
 bd (fX6_begin φ (t + 2) a1 M) fun vu5 M6 =>
 (ldr 2 (M6.2.2 t 7)).bind fun vr7 =>
 (ldr 8 (M6.2.2 t 10)).bind fun vr8 =>
 bd (fX9_isTaken φ (t + 10) (t + 2) vr7 vr8 M6) fun v9 M10 =>
 if v9 = 0 then
 bd (fX10_refuse t (9 : Int32) M10) fun v18 M19 =>
 some (v18, M19)
 else
 (ldr 8 (M10.2.2 t 9)).bind fun vr11 =>
 (ldr 8 (M10.2.2 t 10)).bind fun vr12 =>
 nm (stR M10 t 9 vr12) (fun M13 =>
 nm (stR M13 t 10 vr11) (fun M14 =>
 (ldr 8 (M14.2.2 t 9)).bind fun vr15 =>
 bd (fX10_answer t (M14.1 vr15 1) M14) fun v16 M17 =>
 some (v16, M17)))
 else
 bd (fX10_refuse t (1 : Int32) M) fun v20 M21 =>
 some (v20, M21)
set_option maxRecDepth 100000 in
set_option maxHeartbeats 4000000 in
theorem kX10_years (φ : Nat) (t : Nat) (a1 : Int32) (M : Mem) (ht : isO 10 t) (l : Launch) (G : GT) {b : (Int32 × Mem)} (hE : fX10_years φ t a1 M = some b) : Ok l G yX10_years cX10_years 3 (some .int) 9 242 [.ref t, .int a1] M ((fun q : Int32 × Mem => (some (Value.int q.1), q.2)) b).1 ((fun q : Int32 × Mem => (some (Value.int q.1), q.2)) b).2 := by
  refine Ok.ofX (pj := (fun q : Int32 × Mem => (some (Value.int q.1), q.2))) (by decide) (Nat.le_of_ble_eq_true rfl) hE (fun J g hr hG hl hR hn => ?_)
  show X J (fun q : Int32 × Mem => (some (Value.int q.1), q.2)) (fX10_years φ t a1 M) 0 [(0, .ref t), (1, .int a1)] [] M
  unfold fX10_years
  exact (x_iload_n g 1 dX10_years_0 rfl rfl
 (x_if_lt g 22 dX10_years_1 rfl
 (fun _ => (x_aload_n g 0 dX10_years_22 rfl rfl
 (x_iconst g dX10_years_23 kI_1
 (x_callVi (As := [.int (1 : Int32)]) g mv_X10_refuse mi_X10_refuse lk_RX10_137 ht (fun b Mh_ hb => kX10_refuse t (1 : Int32) M ht _ _ hb) rfl rfl hR ⟨Nat.le_of_ble_eq_true rfl, Nat.le_of_ble_eq_true rfl⟩ (Nat.le_of_ble_eq_true rfl) dX10_years_24 (fun v1 M2 =>
 (x_iret g hr rfl rfl dX10_years_27))))))
 (fun _ => (x_iload_n g 1 dX10_years_4 rfl rfl
 (x_aload_n g 0 dX10_years_5 rfl rfl
 (x_getS g 2 fl_RX10_29 rfl ht dX10_years_6
 (x_getI g fl_RX10_168 rfl (so_10_4 ht) dX10_years_9
 (x_icmp_gt g 22 dX10_years_12 rfl
 (fun _ => (x_aload_n g 0 dX10_years_22 rfl rfl
 (x_iconst g dX10_years_23 kI_1
 (x_callVi (As := [.int (1 : Int32)]) g mv_X10_refuse mi_X10_refuse lk_RX10_137 ht (fun b Mh_ hb => kX10_refuse t (1 : Int32) M ht _ _ hb) rfl rfl hR ⟨Nat.le_of_ble_eq_true rfl, Nat.le_of_ble_eq_true rfl⟩ (Nat.le_of_ble_eq_true rfl) dX10_years_24 (fun v3 M4 =>
 (x_iret g hr rfl rfl dX10_years_27))))))
 (fun _ => (x_iload_n g 1 dX10_years_15 rfl rfl
 (x_sipush g dX10_years_16 kS_300
 (x_icmp_le g 28 dX10_years_19 rfl
 (fun _ => (x_aload_n g 0 dX10_years_28 rfl rfl
 (x_getS g 2 fl_RX10_29 rfl ht dX10_years_29
 (x_iload_n g 1 dX10_years_32 rfl rfl
 (x_callVv (As := [.int a1]) g mv_X6_begin mi_X6_begin lk_RX10_171 (so_10_4 ht) (fun b Mh_ hb => kX6_begin φ (t + 2) a1 M (so_10_4 ht) _ _ hb) rfl rfl hR ⟨Nat.le_of_ble_eq_true rfl, Nat.le_of_ble_eq_true rfl⟩ (Nat.le_of_ble_eq_true rfl) dX10_years_33 (fun vu5 M6 =>
 (x_aload_n g 0 dX10_years_36 rfl rfl
 (x_getS g 10 fl_RX10_43 rfl ht dX10_years_37
 (x_aload_n g 0 dX10_years_40 rfl rfl
 (x_getS g 2 fl_RX10_29 rfl ht dX10_years_41
 (x_aload_n g 0 dX10_years_44 rfl rfl
 (x_getD g fl_RX10_50 rfl ht dX10_years_45 (fun vr7 hvr7 =>
 (x_aload_n g 0 dX10_years_48 rfl rfl
 (x_getD g fl_RX10_64 rfl ht dX10_years_49 (fun vr8 hvr8 =>
 (x_callVi (As := [.ref (t + 2), .ref vr7, .ref vr8]) g mv_X9_isTaken mi_X9_isTaken lk_RX10_190 (so_10_6 ht) (fun b Mh_ hb => kX9_isTaken φ (t + 10) (t + 2) vr7 vr8 M6 (so_10_6 ht) (so_10_4 ht) hvr7 hvr8 _ _ hb) rfl rfl hR ⟨Nat.le_of_ble_eq_true rfl, Nat.le_of_ble_eq_true rfl⟩ (Nat.le_of_ble_eq_true rfl) dX10_years_52 (fun v9 M10 =>
 (x_if_ne g 65 dX10_years_55 rfl
 (fun _ => (x_aload_n g 0 dX10_years_65 rfl rfl
 (x_getD g fl_RX10_60 rfl ht dX10_years_66 (fun vr11 hvr11 =>
 (x_astore_n (L' := [(2, .ref vr11), (0, .ref t), (1, .int a1)]) g dX10_years_69 rfl hn (Nat.le_of_ble_eq_true rfl) rfl
 (x_aload_n g 1 dX10_years_70 rfl rfl
 (x_aload_n g 1 dX10_years_71 rfl rfl
 (x_getD g fl_RX10_64 rfl ht dX10_years_72 (fun vr12 hvr12 =>
 (x_putR g fp_RX10_60 rfl (Nat.le_of_ble_eq_true rfl) ht dX10_years_75 (x_nmM (fun M13 =>
 (x_aload_n g 1 dX10_years_78 rfl rfl
 (x_aload_n g 0 dX10_years_79 rfl rfl
 (x_putR g fp_RX10_64 rfl (Nat.le_of_ble_eq_true rfl) ht dX10_years_80 (x_nmM (fun M14 =>
 (x_aload_n g 1 dX10_years_83 rfl rfl
 (x_aload_n g 1 dX10_years_84 rfl rfl
 (x_getD g fl_RX10_60 rfl ht dX10_years_85 (fun vr15 hvr15 =>
 (x_getI g fl_RX10_193 rfl hvr15 dX10_years_88
 (x_callVi (As := [.int (M14.1 vr15 1)]) g mv_X10_answer mi_X10_answer lk_RX10_187 ht (fun b Mh_ hb => kX10_answer t (M14.1 vr15 1) M14 ht _ _ hb) rfl rfl hR ⟨Nat.le_of_ble_eq_true rfl, Nat.le_of_ble_eq_true rfl⟩ (Nat.le_of_ble_eq_true rfl) dX10_years_91 (fun v16 M17 =>
 (x_iret g hr rfl rfl dX10_years_94)))))))))))))))))))))))))
 (fun _ => (x_aload_n g 0 dX10_years_58 rfl rfl
 (x_bipush g dX10_years_59 kB_9
 (x_callVi (As := [.int (9 : Int32)]) g mv_X10_refuse mi_X10_refuse lk_RX10_137 ht (fun b Mh_ hb => kX10_refuse t (9 : Int32) M10 ht _ _ hb) rfl rfl hR ⟨Nat.le_of_ble_eq_true rfl, Nat.le_of_ble_eq_true rfl⟩ (Nat.le_of_ble_eq_true rfl) dX10_years_61 (fun v18 M19 =>
 (x_iret g hr rfl rfl dX10_years_64)))))))))))))))))))))))))
 (fun _ => (x_aload_n g 0 dX10_years_22 rfl rfl
 (x_iconst g dX10_years_23 kI_1
 (x_callVi (As := [.int (1 : Int32)]) g mv_X10_refuse mi_X10_refuse lk_RX10_137 ht (fun b Mh_ hb => kX10_refuse t (1 : Int32) M ht _ _ hb) rfl rfl hR ⟨Nat.le_of_ble_eq_true rfl, Nat.le_of_ble_eq_true rfl⟩ (Nat.le_of_ble_eq_true rfl) dX10_years_24 (fun v20 M21 =>
 (x_iret g hr rfl rfl dX10_years_27))))))))))))))))))
def fX10_fault (t : Nat) (a1 : Int32) (M : Mem) : Option Int32 :=
  if (M.1 (t + 2) 8) = 0 then
 some (-1 : Int32)
 else
 if a1 = 0 then
 some (M.1 (t + 2) 9)
 else
 if a1 = 1 then
 some (M.1 (t + 2) 10)
 else
 some (-1 : Int32)
set_option maxRecDepth 100000 in
set_option maxHeartbeats 4000000 in
theorem kX10_fault (t : Nat) (a1 : Int32) (M : Mem) (ht : isO 10 t) (l : Launch) (G : GT) {b : Int32} (hE : fX10_fault t a1 M = some b) : Ok l G yX10_fault cX10_fault 2 (some .int) 0 0 [.ref t, .int a1] M ((fun b : Int32 => (some (Value.int b), M)) b).1 ((fun b : Int32 => (some (Value.int b), M)) b).2 := by
  refine Ok.ofX (pj := (fun b : Int32 => (some (Value.int b), M))) (by decide) (Nat.le_of_ble_eq_true rfl) hE (fun J g hr hG hl hR hn => ?_)
  show X J (fun b : Int32 => (some (Value.int b), M)) (fX10_fault t a1 M) 0 [(0, .ref t), (1, .int a1)] [] M
  unfold fX10_fault
  exact (x_aload_n g 0 dX10_fault_0 rfl rfl
 (x_getS g 2 fl_RX10_29 rfl ht dX10_fault_1
 (x_getI g fl_RX10_196 rfl (so_10_4 ht) dX10_fault_4
 (x_if_ne g 12 dX10_fault_7 rfl
 (fun _ => (x_iload_n g 1 dX10_fault_12 rfl rfl
 (x_if (fun he4 => x_look (off := 27) g 40 dX10_fault_13 rfl (by rw [he4]; rfl) rfl
 (x_aload_n g 0 dX10_fault_40 rfl rfl
 (x_getS g 2 fl_RX10_29 rfl ht dX10_fault_41
 (x_getI g fl_RX10_200 rfl (so_10_4 ht) dX10_fault_44
 (x_iret g hr rfl rfl dX10_fault_47))))) (fun hq1 => (x_if (fun he3 => x_look (off := 35) g 48 dX10_fault_13 rfl (by rw [he3]; rfl) rfl
 (x_aload_n g 0 dX10_fault_48 rfl rfl
 (x_getS g 2 fl_RX10_29 rfl ht dX10_fault_49
 (x_getI g fl_RX10_203 rfl (so_10_4 ht) dX10_fault_52
 (x_iret g hr rfl rfl dX10_fault_55))))) (fun hq2 => (x_look (off := 43) g 56 dX10_fault_13 rfl (by show Op.lookupswitch.offset (_ :: _) _ _ = _; rw [lv_osw (a := 0) hq1 (by decide), lv_osw (a := 1) hq2 (by decide)]; rfl) rfl
 (x_iconst g dX10_fault_56 kI_m1
 (x_iret g hr rfl rfl dX10_fault_57)))))))))
 (fun _ => (x_iconst g dX10_fault_10 kI_m1
 (x_iret g hr rfl rfl dX10_fault_11)))))))
def fX10_told (t : Nat) (a1 : Int32) (M : Mem) : Option (Int32 × Mem) :=
  if a1 = 0 then
 (ldr 2 (M.2.2 t 7)).bind fun vr19 =>
 bd (fX10_answer t (M.1 vr19 0) M) fun v20 M21 =>
 some (v20, M21)
 else
 if a1 = 1 then
 (ldr 2 (M.2.2 t 7)).bind fun vr15 =>
 bd (fX10_answer t (M.1 vr15 4) M) fun v16 M17 =>
 some (v16, M17)
 else
 if a1 = 2 then
 (ldr 2 (M.2.2 t 7)).bind fun vr11 =>
 bd (fX10_answer t (M.1 vr11 11) M) fun v12 M13 =>
 some (v12, M13)
 else
 if a1 = 3 then
 (ldr 2 (M.2.2 t 7)).bind fun vr7 =>
 bd (fX10_answer t (M.1 vr7 13) M) fun v8 M9 =>
 some (v8, M9)
 else
 bd (fX10_refuse t (1 : Int32) M) fun v1 M2 =>
 some (v1, M2)
set_option maxRecDepth 100000 in
set_option maxHeartbeats 4000000 in
theorem kX10_told (t : Nat) (a1 : Int32) (M : Mem) (ht : isO 10 t) (l : Launch) (G : GT) {b : (Int32 × Mem)} (hE : fX10_told t a1 M = some b) : Ok l G yX10_told cX10_told 2 (some .int) 1 21 [.ref t, .int a1] M ((fun q : Int32 × Mem => (some (Value.int q.1), q.2)) b).1 ((fun q : Int32 × Mem => (some (Value.int q.1), q.2)) b).2 := by
  refine Ok.ofX (pj := (fun q : Int32 × Mem => (some (Value.int q.1), q.2))) (by decide) (Nat.le_of_ble_eq_true rfl) hE (fun J g hr hG hl hR hn => ?_)
  show X J (fun q : Int32 × Mem => (some (Value.int q.1), q.2)) (fX10_told t a1 M) 0 [(0, .ref t), (1, .int a1)] [] M
  unfold fX10_told
  exact (x_iload_n g 1 dX10_told_0 rfl rfl
 (x_if (fun he22 => x_tabIn (off := 31) g (0 : Int32) 32 dX10_told_1 he22 (by decide) rfl rfl
 (x_aload_n g 0 dX10_told_32 rfl rfl
 (x_aload_n g 0 dX10_told_33 rfl rfl
 (x_getD g fl_RX10_50 rfl ht dX10_told_34 (fun vr19 hvr19 =>
 (x_getI g fl_RX10_206 rfl hvr19 dX10_told_37
 (x_callVi (As := [.int (M.1 vr19 0)]) g mv_X10_answer mi_X10_answer lk_RX10_187 ht (fun b Mh_ hb => kX10_answer t (M.1 vr19 0) M ht _ _ hb) rfl rfl hR ⟨Nat.le_of_ble_eq_true rfl, Nat.le_of_ble_eq_true rfl⟩ (Nat.le_of_ble_eq_true rfl) dX10_told_40 (fun v20 M21 =>
 (x_iret g hr rfl rfl dX10_told_43))))))))) (fun hq3 => (x_if (fun he18 => x_tabIn (off := 43) g (1 : Int32) 44 dX10_told_1 he18 (by decide) rfl rfl
 (x_aload_n g 0 dX10_told_44 rfl rfl
 (x_aload_n g 0 dX10_told_45 rfl rfl
 (x_getD g fl_RX10_50 rfl ht dX10_told_46 (fun vr15 hvr15 =>
 (x_getI g fl_RX10_184 rfl hvr15 dX10_told_49
 (x_callVi (As := [.int (M.1 vr15 4)]) g mv_X10_answer mi_X10_answer lk_RX10_187 ht (fun b Mh_ hb => kX10_answer t (M.1 vr15 4) M ht _ _ hb) rfl rfl hR ⟨Nat.le_of_ble_eq_true rfl, Nat.le_of_ble_eq_true rfl⟩ (Nat.le_of_ble_eq_true rfl) dX10_told_52 (fun v16 M17 =>
 (x_iret g hr rfl rfl dX10_told_55))))))))) (fun hq4 => (x_if (fun he14 => x_tabIn (off := 55) g (2 : Int32) 56 dX10_told_1 he14 (by decide) rfl rfl
 (x_aload_n g 0 dX10_told_56 rfl rfl
 (x_aload_n g 0 dX10_told_57 rfl rfl
 (x_getD g fl_RX10_50 rfl ht dX10_told_58 (fun vr11 hvr11 =>
 (x_getI g fl_RX10_209 rfl hvr11 dX10_told_61
 (x_callVi (As := [.int (M.1 vr11 11)]) g mv_X10_answer mi_X10_answer lk_RX10_187 ht (fun b Mh_ hb => kX10_answer t (M.1 vr11 11) M ht _ _ hb) rfl rfl hR ⟨Nat.le_of_ble_eq_true rfl, Nat.le_of_ble_eq_true rfl⟩ (Nat.le_of_ble_eq_true rfl) dX10_told_64 (fun v12 M13 =>
 (x_iret g hr rfl rfl dX10_told_67))))))))) (fun hq5 => (x_if (fun he10 => x_tabIn (off := 67) g (3 : Int32) 68 dX10_told_1 he10 (by decide) rfl rfl
 (x_aload_n g 0 dX10_told_68 rfl rfl
 (x_aload_n g 0 dX10_told_69 rfl rfl
 (x_getD g fl_RX10_50 rfl ht dX10_told_70 (fun vr7 hvr7 =>
 (x_getI g fl_RX10_212 rfl hvr7 dX10_told_73
 (x_callVi (As := [.int (M.1 vr7 13)]) g mv_X10_answer mi_X10_answer lk_RX10_187 ht (fun b Mh_ hb => kX10_answer t (M.1 vr7 13) M ht _ _ hb) rfl rfl hR ⟨Nat.le_of_ble_eq_true rfl, Nat.le_of_ble_eq_true rfl⟩ (Nat.le_of_ble_eq_true rfl) dX10_told_76 (fun v8 M9 =>
 (x_iret g hr rfl rfl dX10_told_79))))))))) (fun hq6 => (x_tabOut g 80 dX10_told_1 (by have a0 := tab_ne hq3 (by decide : (0 : Int32).toInt = 0); have a1 := tab_ne hq4 (by decide : (1 : Int32).toInt = 1); have a2 := tab_ne hq5 (by decide : (2 : Int32).toInt = 2); have a3 := tab_ne hq6 (by decide : (3 : Int32).toInt = 3); omega) rfl
 (x_aload_n g 0 dX10_told_80 rfl rfl
 (x_iconst g dX10_told_81 kI_1
 (x_callVi (As := [.int (1 : Int32)]) g mv_X10_refuse mi_X10_refuse lk_RX10_137 ht (fun b Mh_ hb => kX10_refuse t (1 : Int32) M ht _ _ hb) rfl rfl hR ⟨Nat.le_of_ble_eq_true rfl, Nat.le_of_ble_eq_true rfl⟩ (Nat.le_of_ble_eq_true rfl) dX10_told_82 (fun v1 M2 =>
 (x_iret g hr rfl rfl dX10_told_85)))))))))))))))
def fX2_isRock (t : Nat) (a1 : Int32) (M : Mem) : Option Int32 :=
  if a1 < 0 then
 some (0 : Int32)
 else
 if (M.1 t 0) ≤ a1 then
 some (0 : Int32)
 else
 some (1 : Int32)
set_option maxRecDepth 100000 in
set_option maxHeartbeats 4000000 in
theorem kX2_isRock (t : Nat) (a1 : Int32) (M : Mem) (ht : isO 2 t) (l : Launch) (G : GT) {b : Int32} (hE : fX2_isRock t a1 M = some b) : Ok l G yX2_isRock cX2_isRock 2 (some .boolean) 0 0 [.ref t, .int a1] M ((fun b : Int32 => (some (Value.int b), M)) b).1 ((fun b : Int32 => (some (Value.int b), M)) b).2 := by
  refine Ok.ofX (pj := (fun b : Int32 => (some (Value.int b), M))) (by decide) (Nat.le_of_ble_eq_true rfl) hE (fun J g hr hG hl hR hn => ?_)
  show X J (fun b : Int32 => (some (Value.int b), M)) (fX2_isRock t a1 M) 0 [(0, .ref t), (1, .int a1)] [] M
  unfold fX2_isRock
  exact (x_iload_n g 1 dX2_isRock_0 rfl rfl
 (x_if_lt g 16 dX2_isRock_1 rfl
 (fun _ => (x_iconst g dX2_isRock_16 kI_0
 (x_iret g hr rfl rfl dX2_isRock_17)))
 (fun _ => (x_iload_n g 1 dX2_isRock_4 rfl rfl
 (x_aload_n g 0 dX2_isRock_5 rfl rfl
 (x_getI g fl_RX2_9 rfl ht dX2_isRock_6
 (x_icmp_ge g 16 dX2_isRock_9 rfl
 (fun _ => (x_iconst g dX2_isRock_16 kI_0
 (x_iret g hr rfl rfl dX2_isRock_17)))
 (fun _ => (x_iconst g dX2_isRock_12 kI_1
 (x_goto g 17 dX2_isRock_13 rfl
 (x_iret g hr rfl rfl dX2_isRock_17)))))))))))
def fX10_skip (t : Nat) (a1 : Int32) (M : Mem) : Option (Int32 × Mem) :=
  (ldr 2 (M.2.2 t 7)).bind fun vr1 =>
 (fX2_isRock vr1 a1 M).bind fun v2 =>
 if v2 = 0 then
 bd (fX10_refuse t (1 : Int32) M) fun v6 M7 =>
 some (v6, M7)
 else
 (ldr 2 (M.2.2 t 7)).bind fun vr3 =>
 ixk a1 8 (
 bd (fX10_answer t (M.1 (vr3 + 2) a1.toNatClampNeg) M) fun v4 M5 =>
 some (v4, M5))
set_option maxRecDepth 100000 in
set_option maxHeartbeats 4000000 in
theorem kX10_skip (t : Nat) (a1 : Int32) (M : Mem) (ht : isO 10 t) (l : Launch) (G : GT) {b : (Int32 × Mem)} (hE : fX10_skip t a1 M = some b) : Ok l G yX10_skip cX10_skip 2 (some .int) 1 21 [.ref t, .int a1] M ((fun q : Int32 × Mem => (some (Value.int q.1), q.2)) b).1 ((fun q : Int32 × Mem => (some (Value.int q.1), q.2)) b).2 := by
  refine Ok.ofX (pj := (fun q : Int32 × Mem => (some (Value.int q.1), q.2))) (by decide) (Nat.le_of_ble_eq_true rfl) hE (fun J g hr hG hl hR hn => ?_)
  show X J (fun q : Int32 × Mem => (some (Value.int q.1), q.2)) (fX10_skip t a1 M) 0 [(0, .ref t), (1, .int a1)] [] M
  unfold fX10_skip
  exact (x_aload_n g 0 dX10_skip_0 rfl rfl
 (x_getD g fl_RX10_50 rfl ht dX10_skip_1 (fun vr1 hvr1 =>
 (x_iload_n g 1 dX10_skip_4 rfl rfl
 (x_callVip (As := [.int a1]) g mv_X2_isRock mi_X2_isRock lk_RX10_215 hvr1 (fun b hb => kX2_isRock vr1 a1 M hvr1 _ _ hb) rfl rfl hR ⟨Nat.le_of_ble_eq_true rfl, Nat.le_of_ble_eq_true rfl⟩ (Nat.le_of_ble_eq_true rfl) dX10_skip_5 (fun v2 =>
 (x_if_ne g 17 dX10_skip_8 rfl
 (fun _ => (x_aload_n g 0 dX10_skip_17 rfl rfl
 (x_aload_n g 0 dX10_skip_18 rfl rfl
 (x_getD g fl_RX10_50 rfl ht dX10_skip_19 (fun vr3 hvr3 =>
 (x_getS g 2 fl_RX10_218 rfl hvr3 dX10_skip_22
 (x_iload_n g 1 dX10_skip_25 rfl rfl
 (x_iald g (so_2_2 hvr3) dX10_skip_26
 (x_callVi (As := [.int (M.1 (vr3 + 2) a1.toNatClampNeg)]) g mv_X10_answer mi_X10_answer lk_RX10_187 ht (fun b Mh_ hb => kX10_answer t (M.1 (vr3 + 2) a1.toNatClampNeg) M ht _ _ hb) rfl rfl hR ⟨Nat.le_of_ble_eq_true rfl, Nat.le_of_ble_eq_true rfl⟩ (Nat.le_of_ble_eq_true rfl) dX10_skip_27 (fun v4 M5 =>
 (x_iret g hr rfl rfl dX10_skip_30)))))))))))
 (fun _ => (x_aload_n g 0 dX10_skip_11 rfl rfl
 (x_iconst g dX10_skip_12 kI_1
 (x_callVi (As := [.int (1 : Int32)]) g mv_X10_refuse mi_X10_refuse lk_RX10_137 ht (fun b Mh_ hb => kX10_refuse t (1 : Int32) M ht _ _ hb) rfl rfl hR ⟨Nat.le_of_ble_eq_true rfl, Nat.le_of_ble_eq_true rfl⟩ (Nat.le_of_ble_eq_true rfl) dX10_skip_13 (fun v6 M7 =>
 (x_iret g hr rfl rfl dX10_skip_16)))))))))))))
def fX2_costOfTwo (t : Nat) (a1 : Int32) (a2 : Int32) (M : Mem) : Option Int32 :=
  ixk ((a1 * (8 : Int32)) + a2) 64 (
 some (M.1 (t + 3) ((a1 * (8 : Int32)) + a2).toNatClampNeg))
set_option maxRecDepth 100000 in
set_option maxHeartbeats 4000000 in
theorem kX2_costOfTwo (t : Nat) (a1 : Int32) (a2 : Int32) (M : Mem) (ht : isO 2 t) (l : Launch) (G : GT) {b : Int32} (hE : fX2_costOfTwo t a1 a2 M = some b) : Ok l G yX2_costOfTwo cX2_costOfTwo 3 (some .int) 0 0 [.ref t, .int a1, .int a2] M ((fun b : Int32 => (some (Value.int b), M)) b).1 ((fun b : Int32 => (some (Value.int b), M)) b).2 := by
  refine Ok.ofX (pj := (fun b : Int32 => (some (Value.int b), M))) (by decide) (Nat.le_of_ble_eq_true rfl) hE (fun J g hr hG hl hR hn => ?_)
  show X J (fun b : Int32 => (some (Value.int b), M)) (fX2_costOfTwo t a1 a2 M) 0 [(0, .ref t), (1, .int a1), (2, .int a2)] [] M
  unfold fX2_costOfTwo
  exact (x_aload_n g 0 dX2_costOfTwo_0 rfl rfl
 (x_getS g 3 fl_RX2_23 rfl ht dX2_costOfTwo_1
 (x_iload_n g 1 dX2_costOfTwo_4 rfl rfl
 (x_bipush g dX2_costOfTwo_5 kB_8
 (x_imul g dX2_costOfTwo_7
 (x_iload_n g 2 dX2_costOfTwo_8 rfl rfl
 (x_iadd g dX2_costOfTwo_9
 (x_iald g (so_2_3 ht) dX2_costOfTwo_10
 (x_iret g hr rfl rfl dX2_costOfTwo_11)))))))))
def fX10_unlike (t : Nat) (a1 : Int32) (a2 : Int32) (M : Mem) : Option (Int32 × Mem) :=
  (ldr 2 (M.2.2 t 7)).bind fun vr1 =>
 (fX2_isRock vr1 a1 M).bind fun v2 =>
 if v2 = 0 then
 bd (fX10_refuse t (1 : Int32) M) fun v3 M4 =>
 some (v3, M4)
 else
 (ldr 2 (M.2.2 t 7)).bind fun vr5 =>
 (fX2_isRock vr5 a2 M).bind fun v6 =>
 if v6 = 0 then
 bd (fX10_refuse t (1 : Int32) M) fun v11 M12 =>
 some (v11, M12)
 else
 (ldr 2 (M.2.2 t 7)).bind fun vr7 =>
 (fX2_costOfTwo vr7 a1 a2 M).bind fun v8 =>
 bd (fX10_answer t v8 M) fun v9 M10 =>
 some (v9, M10)
set_option maxRecDepth 100000 in
set_option maxHeartbeats 4000000 in
theorem kX10_unlike (t : Nat) (a1 : Int32) (a2 : Int32) (M : Mem) (ht : isO 10 t) (l : Launch) (G : GT) {b : (Int32 × Mem)} (hE : fX10_unlike t a1 a2 M = some b) : Ok l G yX10_unlike cX10_unlike 3 (some .int) 1 22 [.ref t, .int a1, .int a2] M ((fun q : Int32 × Mem => (some (Value.int q.1), q.2)) b).1 ((fun q : Int32 × Mem => (some (Value.int q.1), q.2)) b).2 := by
  refine Ok.ofX (pj := (fun q : Int32 × Mem => (some (Value.int q.1), q.2))) (by decide) (Nat.le_of_ble_eq_true rfl) hE (fun J g hr hG hl hR hn => ?_)
  show X J (fun q : Int32 × Mem => (some (Value.int q.1), q.2)) (fX10_unlike t a1 a2 M) 0 [(0, .ref t), (1, .int a1), (2, .int a2)] [] M
  unfold fX10_unlike
  exact (x_aload_n g 0 dX10_unlike_0 rfl rfl
 (x_getD g fl_RX10_50 rfl ht dX10_unlike_1 (fun vr1 hvr1 =>
 (x_iload_n g 1 dX10_unlike_4 rfl rfl
 (x_callVip (As := [.int a1]) g mv_X2_isRock mi_X2_isRock lk_RX10_215 hvr1 (fun b hb => kX2_isRock vr1 a1 M hvr1 _ _ hb) rfl rfl hR ⟨Nat.le_of_ble_eq_true rfl, Nat.le_of_ble_eq_true rfl⟩ (Nat.le_of_ble_eq_true rfl) dX10_unlike_5 (fun v2 =>
 (x_if_eq g 22 dX10_unlike_8 rfl
 (fun _ => (x_aload_n g 0 dX10_unlike_22 rfl rfl
 (x_iconst g dX10_unlike_23 kI_1
 (x_callVi (As := [.int (1 : Int32)]) g mv_X10_refuse mi_X10_refuse lk_RX10_137 ht (fun b Mh_ hb => kX10_refuse t (1 : Int32) M ht _ _ hb) rfl rfl hR ⟨Nat.le_of_ble_eq_true rfl, Nat.le_of_ble_eq_true rfl⟩ (Nat.le_of_ble_eq_true rfl) dX10_unlike_24 (fun v3 M4 =>
 (x_iret g hr rfl rfl dX10_unlike_27))))))
 (fun _ => (x_aload_n g 0 dX10_unlike_11 rfl rfl
 (x_getD g fl_RX10_50 rfl ht dX10_unlike_12 (fun vr5 hvr5 =>
 (x_iload_n g 2 dX10_unlike_15 rfl rfl
 (x_callVip (As := [.int a2]) g mv_X2_isRock mi_X2_isRock lk_RX10_215 hvr5 (fun b hb => kX2_isRock vr5 a2 M hvr5 _ _ hb) rfl rfl hR ⟨Nat.le_of_ble_eq_true rfl, Nat.le_of_ble_eq_true rfl⟩ (Nat.le_of_ble_eq_true rfl) dX10_unlike_16 (fun v6 =>
 (x_if_ne g 28 dX10_unlike_19 rfl
 (fun _ => (x_aload_n g 0 dX10_unlike_28 rfl rfl
 (x_aload_n g 0 dX10_unlike_29 rfl rfl
 (x_getD g fl_RX10_50 rfl ht dX10_unlike_30 (fun vr7 hvr7 =>
 (x_iload_n g 1 dX10_unlike_33 rfl rfl
 (x_iload_n g 2 dX10_unlike_34 rfl rfl
 (x_callVip (As := [.int a1, .int a2]) g mv_X2_costOfTwo mi_X2_costOfTwo lk_RX10_222 hvr7 (fun b hb => kX2_costOfTwo vr7 a1 a2 M hvr7 _ _ hb) rfl rfl hR ⟨Nat.le_of_ble_eq_true rfl, Nat.le_of_ble_eq_true rfl⟩ (Nat.le_of_ble_eq_true rfl) dX10_unlike_35 (fun v8 =>
 (x_callVi (As := [.int v8]) g mv_X10_answer mi_X10_answer lk_RX10_187 ht (fun b Mh_ hb => kX10_answer t v8 M ht _ _ hb) rfl rfl hR ⟨Nat.le_of_ble_eq_true rfl, Nat.le_of_ble_eq_true rfl⟩ (Nat.le_of_ble_eq_true rfl) dX10_unlike_38 (fun v9 M10 =>
 (x_iret g hr rfl rfl dX10_unlike_41))))))))))))
 (fun _ => (x_aload_n g 0 dX10_unlike_22 rfl rfl
 (x_iconst g dX10_unlike_23 kI_1
 (x_callVi (As := [.int (1 : Int32)]) g mv_X10_refuse mi_X10_refuse lk_RX10_137 ht (fun b Mh_ hb => kX10_refuse t (1 : Int32) M ht _ _ hb) rfl rfl hR ⟨Nat.le_of_ble_eq_true rfl, Nat.le_of_ble_eq_true rfl⟩ (Nat.le_of_ble_eq_true rfl) dX10_unlike_24 (fun v11 M12 =>
 (x_iret g hr rfl rfl dX10_unlike_27)))))))))))))))))))))
def fX2_isHole (t : Nat) (a1 : Int32) (M : Mem) : Option Int32 :=
  if a1 < 0 then
 some (0 : Int32)
 else
 if (M.1 t 4) ≤ a1 then
 some (0 : Int32)
 else
 some (1 : Int32)
set_option maxRecDepth 100000 in
set_option maxHeartbeats 4000000 in
theorem kX2_isHole (t : Nat) (a1 : Int32) (M : Mem) (ht : isO 2 t) (l : Launch) (G : GT) {b : Int32} (hE : fX2_isHole t a1 M = some b) : Ok l G yX2_isHole cX2_isHole 2 (some .boolean) 0 0 [.ref t, .int a1] M ((fun b : Int32 => (some (Value.int b), M)) b).1 ((fun b : Int32 => (some (Value.int b), M)) b).2 := by
  refine Ok.ofX (pj := (fun b : Int32 => (some (Value.int b), M))) (by decide) (Nat.le_of_ble_eq_true rfl) hE (fun J g hr hG hl hR hn => ?_)
  show X J (fun b : Int32 => (some (Value.int b), M)) (fX2_isHole t a1 M) 0 [(0, .ref t), (1, .int a1)] [] M
  unfold fX2_isHole
  exact (x_iload_n g 1 dX2_isHole_0 rfl rfl
 (x_if_lt g 16 dX2_isHole_1 rfl
 (fun _ => (x_iconst g dX2_isHole_16 kI_0
 (x_iret g hr rfl rfl dX2_isHole_17)))
 (fun _ => (x_iload_n g 1 dX2_isHole_4 rfl rfl
 (x_aload_n g 0 dX2_isHole_5 rfl rfl
 (x_getI g fl_RX2_26 rfl ht dX2_isHole_6
 (x_icmp_ge g 16 dX2_isHole_9 rfl
 (fun _ => (x_iconst g dX2_isHole_16 kI_0
 (x_iret g hr rfl rfl dX2_isHole_17)))
 (fun _ => (x_iconst g dX2_isHole_12 kI_1
 (x_goto g 17 dX2_isHole_13 rfl
 (x_iret g hr rfl rfl dX2_isHole_17)))))))))))
def lX2_thickAbove_5 (t : Nat) (x1 : Int32) (x2 : Int32) (M : Mem) : Nat → Int32 → Int32 → Option Int32
  | 0, _, _ => none
  | n + 1, x3, x4 =>
    if x2 ≤ x4 then
 some x3
 else
 (fX10_slot x1 x4 M).bind fun v1 =>
 ixk v1 72 (
 nm (x3 + (M.1 (t + 9) v1.toNatClampNeg)) (fun v2 =>
 lX2_thickAbove_5 t x1 x2 M n v2 (x4 + 1)))
theorem lX2_thickAbove_5_s (t : Nat) (x1 : Int32) (x2 : Int32) (M : Mem) (n : Nat) (x3 : Int32) (x4 : Int32) : lX2_thickAbove_5 t x1 x2 M (n + 1) x3 x4 =
    if x2 ≤ x4 then
 some x3
 else
 (fX10_slot x1 x4 M).bind fun v1 =>
 ixk v1 72 (
 nm (x3 + (M.1 (t + 9) v1.toNatClampNeg)) (fun v2 =>
 lX2_thickAbove_5 t x1 x2 M n v2 (x4 + 1))) := rfl
theorem lX2_thickAbove_5_0 (t : Nat) (x1 : Int32) (x2 : Int32) (M : Mem) (x3 : Int32) (x4 : Int32) : lX2_thickAbove_5 t x1 x2 M 0 x3 x4 = none := rfl
set_option maxRecDepth 100000 in
set_option maxHeartbeats 4000000 in
theorem wlX2_thickAbove_5 {J : JT} (g : Gd J cX2_thickAbove RX2) (hr : Rt J (some .int)) (hR : (JR J).frames = 1 ∧ (JR J).locals = 21) (hn : Jn J = 5) (t : Nat) (x1 : Int32) (x2 : Int32) (M : Mem) (ht : isO 2 t) : ∀ (n : Nat) (x3 : Int32) (x4 : Int32), X J (fun b : Int32 => (some (Value.int b), M)) (lX2_thickAbove_5 t x1 x2 M n x3 x4) 5 [(0, .ref t), (1, .int x1), (2, .int x2), (3, .int x3), (4, .int x4)] [] M := by
  intro n
  induction n with
  | zero =>
    intro x3 x4
    exact x_none
  | succ n ih =>
    intro x3 x4
    rw [lX2_thickAbove_5_s]
    exact (x_iload g 4 dX2_thickAbove_5 rfl
 (x_iload_n g 2 dX2_thickAbove_7 rfl rfl
 (x_icmp_ge g 31 dX2_thickAbove_8 rfl
 (fun _ => (x_iload_n g 3 dX2_thickAbove_31 rfl rfl
 (x_iret g hr rfl rfl dX2_thickAbove_32)))
 (fun _ => (x_iload_n g 3 dX2_thickAbove_11 rfl rfl
 (x_aload_n g 0 dX2_thickAbove_12 rfl rfl
 (x_getS g 9 fl_RX2_44 rfl ht dX2_thickAbove_13
 (x_iload_n g 1 dX2_thickAbove_16 rfl rfl
 (x_iload g 4 dX2_thickAbove_17 rfl
 (x_callSip (As := [.int x1, .int x4]) g mv_X10_slot ms_X10_slot lk_RX2_93 (fun b hb => kX10_slot x1 x4 M _ _ hb) rfl rfl hR ⟨Nat.le_of_ble_eq_true rfl, Nat.le_of_ble_eq_true rfl⟩ (Nat.le_of_ble_eq_true rfl) dX2_thickAbove_19 (fun v1 =>
 (x_iald g (so_2_10 ht) dX2_thickAbove_22
 (x_iadd g dX2_thickAbove_23
 (x_nmI (fun v2 => (x_istore_n (L' := [(3, .int v2), (0, .ref t), (1, .int x1), (2, .int x2), (4, .int x4)]) g dX2_thickAbove_24 rfl hn (Nat.le_of_ble_eq_true rfl) rfl
 (x_iinc (L' := [(4, .int (x4 + 1)), (3, .int v2), (0, .ref t), (1, .int x1), (2, .int x2)]) (v := (x4 + 1)) g 4 dX2_thickAbove_25 rfl (by rw [kI_1]) hn (Nat.le_of_ble_eq_true rfl) rfl
 (x_goto g 5 dX2_thickAbove_28 rfl
 (x_sub [2, 3, 4, 1, 0] rfl (ih v2 (x4 + 1)))))))))))))))))))))
def fX2_thickAbove (φ : Nat) (t : Nat) (a1 : Int32) (a2 : Int32) (M : Mem) : Option Int32 :=
  lX2_thickAbove_5 t a1 a2 M φ (0 : Int32) (0 : Int32)
set_option maxRecDepth 100000 in
set_option maxHeartbeats 4000000 in
theorem kX2_thickAbove (φ : Nat) (t : Nat) (a1 : Int32) (a2 : Int32) (M : Mem) (ht : isO 2 t) (l : Launch) (G : GT) {b : Int32} (hE : fX2_thickAbove φ t a1 a2 M = some b) : Ok l G yX2_thickAbove cX2_thickAbove 5 (some .int) 1 21 [.ref t, .int a1, .int a2] M ((fun b : Int32 => (some (Value.int b), M)) b).1 ((fun b : Int32 => (some (Value.int b), M)) b).2 := by
  refine Ok.ofX (pj := (fun b : Int32 => (some (Value.int b), M))) (by decide) (Nat.le_of_ble_eq_true rfl) hE (fun J g hr hG hl hR hn => ?_)
  show X J (fun b : Int32 => (some (Value.int b), M)) (fX2_thickAbove φ t a1 a2 M) 0 [(0, .ref t), (1, .int a1), (2, .int a2)] [] M
  unfold fX2_thickAbove
  exact (x_iconst g dX2_thickAbove_0 kI_0
 (x_istore_n (L' := [(3, .int (0 : Int32)), (0, .ref t), (1, .int a1), (2, .int a2)]) g dX2_thickAbove_1 rfl hn (Nat.le_of_ble_eq_true rfl) rfl
 (x_iconst g dX2_thickAbove_2 kI_0
 (x_istore (L' := [(4, .int (0 : Int32)), (3, .int (0 : Int32)), (0, .ref t), (1, .int a1), (2, .int a2)]) g dX2_thickAbove_3 hn (Nat.le_of_ble_eq_true rfl) rfl
 (x_sub [2, 3, 4, 1, 0] rfl (wlX2_thickAbove_5 g hr hR hn  t a1 a2 M ht φ (0 : Int32) (0 : Int32)))))))
def fX2_allThick (φ : Nat) (t : Nat) (a1 : Int32) (M : Mem) : Option Int32 :=
  ixk a1 6 (
 (fX2_thickAbove φ t a1 (M.1 (t + 7) a1.toNatClampNeg) M).bind fun v1 =>
 some v1)
set_option maxRecDepth 100000 in
set_option maxHeartbeats 4000000 in
theorem kX2_allThick (φ : Nat) (t : Nat) (a1 : Int32) (M : Mem) (ht : isO 2 t) (l : Launch) (G : GT) {b : Int32} (hE : fX2_allThick φ t a1 M = some b) : Ok l G yX2_allThick cX2_allThick 2 (some .int) 2 45 [.ref t, .int a1] M ((fun b : Int32 => (some (Value.int b), M)) b).1 ((fun b : Int32 => (some (Value.int b), M)) b).2 := by
  refine Ok.ofX (pj := (fun b : Int32 => (some (Value.int b), M))) (by decide) (Nat.le_of_ble_eq_true rfl) hE (fun J g hr hG hl hR hn => ?_)
  show X J (fun b : Int32 => (some (Value.int b), M)) (fX2_allThick φ t a1 M) 0 [(0, .ref t), (1, .int a1)] [] M
  unfold fX2_allThick
  exact (x_aload_n g 0 dX2_allThick_0 rfl rfl
 (x_iload_n g 1 dX2_allThick_1 rfl rfl
 (x_aload_n g 0 dX2_allThick_2 rfl rfl
 (x_getS g 7 fl_RX2_38 rfl ht dX2_allThick_3
 (x_iload_n g 1 dX2_allThick_6 rfl rfl
 (x_iald g (so_2_8 ht) dX2_allThick_7
 (x_callVip (As := [.int a1, .int (M.1 (t + 7) a1.toNatClampNeg)]) g mv_X2_thickAbove mi_X2_thickAbove lk_RX2_97 ht (fun b hb => kX2_thickAbove φ t a1 (M.1 (t + 7) a1.toNatClampNeg) M ht _ _ hb) rfl rfl hR ⟨Nat.le_of_ble_eq_true rfl, Nat.le_of_ble_eq_true rfl⟩ (Nat.le_of_ble_eq_true rfl) dX2_allThick_8 (fun v1 =>
 (x_iret g hr rfl rfl dX2_allThick_11)))))))))
def fX2_isOnRight (t : Nat) (a1 : Int32) (a2 : Int32) (M : Mem) : Option Int32 :=
  nm (a1 * (4 : Int32)) (fun v1 =>
 ixk v1 8 (
 ixk (v1 + (1 : Int32)) 8 (
 ixk (v1 + (2 : Int32)) 8 (
 ixk (v1 + (3 : Int32)) 8 (
 ixk a2 6 (
 ixk a2 6 (
 (fX2_turnOf (M.1 (t + 12) v1.toNatClampNeg) (M.1 (t + 12) (v1 + (1 : Int32)).toNatClampNeg) (M.1 (t + 12) (v1 + (2 : Int32)).toNatClampNeg) (M.1 (t + 12) (v1 + (3 : Int32)).toNatClampNeg) (M.1 (t + 5) a2.toNatClampNeg) (M.1 (t + 6) a2.toNatClampNeg) M).bind fun v2 =>
 if 0 ≤ v2 then
 some (0 : Int32)
 else
 some (1 : Int32))))))))
set_option maxRecDepth 100000 in
set_option maxHeartbeats 4000000 in
theorem kX2_isOnRight (t : Nat) (a1 : Int32) (a2 : Int32) (M : Mem) (ht : isO 2 t) (l : Launch) (G : GT) {b : Int32} (hE : fX2_isOnRight t a1 a2 M = some b) : Ok l G yX2_isOnRight cX2_isOnRight 4 (some .boolean) 1 25 [.ref t, .int a1, .int a2] M ((fun b : Int32 => (some (Value.int b), M)) b).1 ((fun b : Int32 => (some (Value.int b), M)) b).2 := by
  refine Ok.ofX (pj := (fun b : Int32 => (some (Value.int b), M))) (by decide) (Nat.le_of_ble_eq_true rfl) hE (fun J g hr hG hl hR hn => ?_)
  show X J (fun b : Int32 => (some (Value.int b), M)) (fX2_isOnRight t a1 a2 M) 0 [(0, .ref t), (1, .int a1), (2, .int a2)] [] M
  unfold fX2_isOnRight
  exact (x_iload_n g 1 dX2_isOnRight_0 rfl rfl
 (x_iconst g dX2_isOnRight_1 kI_4
 (x_imul g dX2_isOnRight_2
 (x_nmI (fun v1 => (x_istore_n (L' := [(3, .int v1), (0, .ref t), (1, .int a1), (2, .int a2)]) g dX2_isOnRight_3 rfl hn (Nat.le_of_ble_eq_true rfl) rfl
 (x_aload_n g 1 dX2_isOnRight_4 rfl rfl
 (x_getS g 12 fl_RX2_59 rfl ht dX2_isOnRight_5
 (x_iload_n g 0 dX2_isOnRight_8 rfl rfl
 (x_iald g (so_2_15 ht) dX2_isOnRight_9
 (x_aload_n g 1 dX2_isOnRight_10 rfl rfl
 (x_getS g 12 fl_RX2_59 rfl ht dX2_isOnRight_11
 (x_iload_n g 0 dX2_isOnRight_14 rfl rfl
 (x_iconst g dX2_isOnRight_15 kI_1
 (x_iadd g dX2_isOnRight_16
 (x_iald g (so_2_15 ht) dX2_isOnRight_17
 (x_aload_n g 1 dX2_isOnRight_18 rfl rfl
 (x_getS g 12 fl_RX2_59 rfl ht dX2_isOnRight_19
 (x_iload_n g 0 dX2_isOnRight_22 rfl rfl
 (x_iconst g dX2_isOnRight_23 kI_2
 (x_iadd g dX2_isOnRight_24
 (x_iald g (so_2_15 ht) dX2_isOnRight_25
 (x_aload_n g 1 dX2_isOnRight_26 rfl rfl
 (x_getS g 12 fl_RX2_59 rfl ht dX2_isOnRight_27
 (x_iload_n g 0 dX2_isOnRight_30 rfl rfl
 (x_iconst g dX2_isOnRight_31 kI_3
 (x_iadd g dX2_isOnRight_32
 (x_iald g (so_2_15 ht) dX2_isOnRight_33
 (x_aload_n g 1 dX2_isOnRight_34 rfl rfl
 (x_getS g 5 fl_RX2_32 rfl ht dX2_isOnRight_35
 (x_iload_n g 3 dX2_isOnRight_38 rfl rfl
 (x_iald g (so_2_6 ht) dX2_isOnRight_39
 (x_aload_n g 1 dX2_isOnRight_40 rfl rfl
 (x_getS g 6 fl_RX2_35 rfl ht dX2_isOnRight_41
 (x_iload_n g 3 dX2_isOnRight_44 rfl rfl
 (x_iald g (so_2_7 ht) dX2_isOnRight_45
 (x_callSip (As := [.int (M.1 (t + 12) v1.toNatClampNeg), .int (M.1 (t + 12) (v1 + (1 : Int32)).toNatClampNeg), .int (M.1 (t + 12) (v1 + (2 : Int32)).toNatClampNeg), .int (M.1 (t + 12) (v1 + (3 : Int32)).toNatClampNeg), .int (M.1 (t + 5) a2.toNatClampNeg), .int (M.1 (t + 6) a2.toNatClampNeg)]) g mv_X2_turnOf ms_X2_turnOf lk_RX2_116 (fun b hb => kX2_turnOf (M.1 (t + 12) v1.toNatClampNeg) (M.1 (t + 12) (v1 + (1 : Int32)).toNatClampNeg) (M.1 (t + 12) (v1 + (2 : Int32)).toNatClampNeg) (M.1 (t + 12) (v1 + (3 : Int32)).toNatClampNeg) (M.1 (t + 5) a2.toNatClampNeg) (M.1 (t + 6) a2.toNatClampNeg) M _ _ hb) rfl rfl hR ⟨Nat.le_of_ble_eq_true rfl, Nat.le_of_ble_eq_true rfl⟩ (Nat.le_of_ble_eq_true rfl) dX2_isOnRight_46 (fun v2 =>
 (x_if_ge g 56 dX2_isOnRight_49 rfl
 (fun _ => (x_iconst g dX2_isOnRight_56 kI_0
 (x_iret g hr rfl rfl dX2_isOnRight_57)))
 (fun _ => (x_iconst g dX2_isOnRight_52 kI_1
 (x_goto g 57 dX2_isOnRight_53 rfl
 (x_iret g hr rfl rfl dX2_isOnRight_57)))))))))))))))))))))))))))))))))))))))))))
def lX2_thrownDown_4 (t : Nat) (x1 : Int32) (M : Mem) : Nat → Int32 → Int32 → Option Int32
  | 0, _, _ => none
  | n + 1, x2, x3 =>
    if (M.1 t 13) ≤ x3 then
 some x2
 else
 (fX2_isOnRight t x3 x1 M).bind fun v1 =>
 jn (fun (v2 : Int32) => lX2_thrownDown_4 t x1 M n v2 (x3 + 1)) (fun J3 => if v1 = 0 then
 J3 x2
 else
 ixk x3 2 (
 nm (x2 + (M.1 (t + 13) x3.toNatClampNeg)) (fun v4 =>
 J3 v4)))
theorem lX2_thrownDown_4_s (t : Nat) (x1 : Int32) (M : Mem) (n : Nat) (x2 : Int32) (x3 : Int32) : lX2_thrownDown_4 t x1 M (n + 1) x2 x3 =
    if (M.1 t 13) ≤ x3 then
 some x2
 else
 (fX2_isOnRight t x3 x1 M).bind fun v1 =>
 jn (fun (v2 : Int32) => lX2_thrownDown_4 t x1 M n v2 (x3 + 1)) (fun J3 => if v1 = 0 then
 J3 x2
 else
 ixk x3 2 (
 nm (x2 + (M.1 (t + 13) x3.toNatClampNeg)) (fun v4 =>
 J3 v4))) := rfl
theorem lX2_thrownDown_4_0 (t : Nat) (x1 : Int32) (M : Mem) (x2 : Int32) (x3 : Int32) : lX2_thrownDown_4 t x1 M 0 x2 x3 = none := rfl
set_option maxRecDepth 100000 in
set_option maxHeartbeats 4000000 in
theorem wlX2_thrownDown_4 {J : JT} (g : Gd J cX2_thrownDown RX2) (hr : Rt J (some .int)) (hR : (JR J).frames = 2 ∧ (JR J).locals = 48) (hn : Jn J = 4) (t : Nat) (x1 : Int32) (M : Mem) (ht : isO 2 t) : ∀ (n : Nat) (x2 : Int32) (x3 : Int32), X J (fun b : Int32 => (some (Value.int b), M)) (lX2_thrownDown_4 t x1 M n x2 x3) 4 [(0, .ref t), (1, .int x1), (2, .int x2), (3, .int x3)] [] M := by
  intro n
  induction n with
  | zero =>
    intro x2 x3
    exact x_none
  | succ n ih =>
    intro x2 x3
    rw [lX2_thrownDown_4_s]
    exact (x_iload_n g 3 dX2_thrownDown_4 rfl rfl
 (x_aload_n g 0 dX2_thrownDown_5 rfl rfl
 (x_getI g fl_RX2_53 rfl ht dX2_thrownDown_6
 (x_icmp_ge g 36 dX2_thrownDown_9 rfl
 (fun _ => (x_iload_n g 2 dX2_thrownDown_36 rfl rfl
 (x_iret g hr rfl rfl dX2_thrownDown_37)))
 (fun _ => (x_aload_n g 0 dX2_thrownDown_12 rfl rfl
 (x_iload_n g 3 dX2_thrownDown_13 rfl rfl
 (x_iload_n g 1 dX2_thrownDown_14 rfl rfl
 (x_callVip (As := [.int x3, .int x1]) g mv_X2_isOnRight mi_X2_isOnRight lk_RX2_100 ht (fun b hb => kX2_isOnRight t x3 x1 M ht _ _ hb) rfl rfl hR ⟨Nat.le_of_ble_eq_true rfl, Nat.le_of_ble_eq_true rfl⟩ (Nat.le_of_ble_eq_true rfl) dX2_thrownDown_15 (fun v1 =>
 (x_jn (fun (J3 : Int32 → Option Int32) => ∀ (v2 : Int32), X J (fun b : Int32 => (some (Value.int b), M)) (J3 v2) 30 [(0, .ref t), (1, .int x1), (2, .int v2), (3, .int x3)] [] M) (fun v2 => (x_iinc (L' := [(3, .int (x3 + 1)), (0, .ref t), (1, .int x1), (2, .int v2)]) (v := (x3 + 1)) g 3 dX2_thrownDown_30 rfl (by rw [kI_1]) hn (Nat.le_of_ble_eq_true rfl) rfl
 (x_goto g 4 dX2_thrownDown_33 rfl
 (x_sub [1, 2, 3, 0] rfl (ih v2 (x3 + 1)))))) (fun J3 hJ3 => (x_if_eq g 30 dX2_thrownDown_18 rfl
 (fun _ => (hJ3 x2))
 (fun _ => (x_iload_n g 2 dX2_thrownDown_21 rfl rfl
 (x_aload_n g 0 dX2_thrownDown_22 rfl rfl
 (x_getS g 13 fl_RX2_62 rfl ht dX2_thrownDown_23
 (x_iload_n g 3 dX2_thrownDown_26 rfl rfl
 (x_iald g (so_2_16 ht) dX2_thrownDown_27
 (x_iadd g dX2_thrownDown_28
 (x_nmI (fun v4 => (x_istore_n (L' := [(2, .int v4), (0, .ref t), (1, .int x1), (3, .int x3)]) g dX2_thrownDown_29 rfl hn (Nat.le_of_ble_eq_true rfl) rfl
 (x_sub [1, 2, 0, 3] rfl (hJ3 v4)))))))))))))))))))))))))
def fX2_thrownDown (φ : Nat) (t : Nat) (a1 : Int32) (M : Mem) : Option Int32 :=
  lX2_thrownDown_4 t a1 M φ (0 : Int32) (0 : Int32)
set_option maxRecDepth 100000 in
set_option maxHeartbeats 4000000 in
theorem kX2_thrownDown (φ : Nat) (t : Nat) (a1 : Int32) (M : Mem) (ht : isO 2 t) (l : Launch) (G : GT) {b : Int32} (hE : fX2_thrownDown φ t a1 M = some b) : Ok l G yX2_thrownDown cX2_thrownDown 4 (some .int) 2 48 [.ref t, .int a1] M ((fun b : Int32 => (some (Value.int b), M)) b).1 ((fun b : Int32 => (some (Value.int b), M)) b).2 := by
  refine Ok.ofX (pj := (fun b : Int32 => (some (Value.int b), M))) (by decide) (Nat.le_of_ble_eq_true rfl) hE (fun J g hr hG hl hR hn => ?_)
  show X J (fun b : Int32 => (some (Value.int b), M)) (fX2_thrownDown φ t a1 M) 0 [(0, .ref t), (1, .int a1)] [] M
  unfold fX2_thrownDown
  exact (x_iconst g dX2_thrownDown_0 kI_0
 (x_istore_n (L' := [(2, .int (0 : Int32)), (0, .ref t), (1, .int a1)]) g dX2_thrownDown_1 rfl hn (Nat.le_of_ble_eq_true rfl) rfl
 (x_iconst g dX2_thrownDown_2 kI_0
 (x_istore_n (L' := [(3, .int (0 : Int32)), (2, .int (0 : Int32)), (0, .ref t), (1, .int a1)]) g dX2_thrownDown_3 rfl hn (Nat.le_of_ble_eq_true rfl) rfl
 (x_sub [2, 3, 1, 0] rfl (wlX2_thrownDown_4 g hr hR hn  t a1 M ht φ (0 : Int32) (0 : Int32)))))))
def fX10_hole (φ : Nat) (t : Nat) (a1 : Int32) (a2 : Int32) (M : Mem) : Option (Int32 × Mem) :=
  (ldr 2 (M.2.2 t 7)).bind fun vr1 =>
 (fX2_isHole vr1 a1 M).bind fun v2 =>
 if v2 = 0 then
 bd (fX10_refuse t (1 : Int32) M) fun v32 M33 =>
 some (v32, M33)
 else
 if a2 = 0 then
 (ldr 2 (M.2.2 t 7)).bind fun vr28 =>
 ixk a1 6 (
 bd (fX10_answer t (M.1 (vr28 + 5) a1.toNatClampNeg) M) fun v29 M30 =>
 some (v29, M30))
 else
 if a2 = 1 then
 (ldr 2 (M.2.2 t 7)).bind fun vr24 =>
 ixk a1 6 (
 bd (fX10_answer t (M.1 (vr24 + 6) a1.toNatClampNeg) M) fun v25 M26 =>
 some (v25, M26))
 else
 if a2 = 2 then
 (ldr 2 (M.2.2 t 7)).bind fun vr20 =>
 ixk a1 6 (
 bd (fX10_answer t (M.1 (vr20 + 7) a1.toNatClampNeg) M) fun v21 M22 =>
 some (v21, M22))
 else
 if a2 = 3 then
 (ldr 2 (M.2.2 t 7)).bind fun vr15 =>
 (fX2_allThick φ vr15 a1 M).bind fun v16 =>
 bd (fX10_answer t v16 M) fun v17 M18 =>
 some (v17, M18)
 else
 if a2 = 4 then
 (ldr 2 (M.2.2 t 7)).bind fun vr10 =>
 (fX2_thrownDown φ vr10 a1 M).bind fun v11 =>
 bd (fX10_answer t v11 M) fun v12 M13 =>
 some (v12, M13)
 else
 bd (fX10_refuse t (1 : Int32) M) fun v3 M4 =>
 some (v3, M4)
set_option maxRecDepth 100000 in
set_option maxHeartbeats 4000000 in
theorem kX10_hole (φ : Nat) (t : Nat) (a1 : Int32) (a2 : Int32) (M : Mem) (ht : isO 10 t) (l : Launch) (G : GT) {b : (Int32 × Mem)} (hE : fX10_hole φ t a1 a2 M = some b) : Ok l G yX10_hole cX10_hole 3 (some .int) 3 71 [.ref t, .int a1, .int a2] M ((fun q : Int32 × Mem => (some (Value.int q.1), q.2)) b).1 ((fun q : Int32 × Mem => (some (Value.int q.1), q.2)) b).2 := by
  refine Ok.ofX (pj := (fun q : Int32 × Mem => (some (Value.int q.1), q.2))) (by decide) (Nat.le_of_ble_eq_true rfl) hE (fun J g hr hG hl hR hn => ?_)
  show X J (fun q : Int32 × Mem => (some (Value.int q.1), q.2)) (fX10_hole φ t a1 a2 M) 0 [(0, .ref t), (1, .int a1), (2, .int a2)] [] M
  unfold fX10_hole
  exact (x_aload_n g 0 dX10_hole_0 rfl rfl
 (x_getD g fl_RX10_50 rfl ht dX10_hole_1 (fun vr1 hvr1 =>
 (x_iload_n g 1 dX10_hole_4 rfl rfl
 (x_callVip (As := [.int a1]) g mv_X2_isHole mi_X2_isHole lk_RX10_225 hvr1 (fun b hb => kX2_isHole vr1 a1 M hvr1 _ _ hb) rfl rfl hR ⟨Nat.le_of_ble_eq_true rfl, Nat.le_of_ble_eq_true rfl⟩ (Nat.le_of_ble_eq_true rfl) dX10_hole_5 (fun v2 =>
 (x_if_ne g 17 dX10_hole_8 rfl
 (fun _ => (x_iload_n g 2 dX10_hole_17 rfl rfl
 (x_if (fun he31 => x_tabIn (off := 34) g (0 : Int32) 52 dX10_hole_18 he31 (by decide) rfl rfl
 (x_aload_n g 0 dX10_hole_52 rfl rfl
 (x_aload_n g 0 dX10_hole_53 rfl rfl
 (x_getD g fl_RX10_50 rfl ht dX10_hole_54 (fun vr28 hvr28 =>
 (x_getS g 5 fl_RX10_228 rfl hvr28 dX10_hole_57
 (x_iload_n g 1 dX10_hole_60 rfl rfl
 (x_iald g (so_2_6 hvr28) dX10_hole_61
 (x_callVi (As := [.int (M.1 (vr28 + 5) a1.toNatClampNeg)]) g mv_X10_answer mi_X10_answer lk_RX10_187 ht (fun b Mh_ hb => kX10_answer t (M.1 (vr28 + 5) a1.toNatClampNeg) M ht _ _ hb) rfl rfl hR ⟨Nat.le_of_ble_eq_true rfl, Nat.le_of_ble_eq_true rfl⟩ (Nat.le_of_ble_eq_true rfl) dX10_hole_62 (fun v29 M30 =>
 (x_iret g hr rfl rfl dX10_hole_65))))))))))) (fun hq5 => (x_if (fun he27 => x_tabIn (off := 48) g (1 : Int32) 66 dX10_hole_18 he27 (by decide) rfl rfl
 (x_aload_n g 0 dX10_hole_66 rfl rfl
 (x_aload_n g 0 dX10_hole_67 rfl rfl
 (x_getD g fl_RX10_50 rfl ht dX10_hole_68 (fun vr24 hvr24 =>
 (x_getS g 6 fl_RX10_231 rfl hvr24 dX10_hole_71
 (x_iload_n g 1 dX10_hole_74 rfl rfl
 (x_iald g (so_2_7 hvr24) dX10_hole_75
 (x_callVi (As := [.int (M.1 (vr24 + 6) a1.toNatClampNeg)]) g mv_X10_answer mi_X10_answer lk_RX10_187 ht (fun b Mh_ hb => kX10_answer t (M.1 (vr24 + 6) a1.toNatClampNeg) M ht _ _ hb) rfl rfl hR ⟨Nat.le_of_ble_eq_true rfl, Nat.le_of_ble_eq_true rfl⟩ (Nat.le_of_ble_eq_true rfl) dX10_hole_76 (fun v25 M26 =>
 (x_iret g hr rfl rfl dX10_hole_79))))))))))) (fun hq6 => (x_if (fun he23 => x_tabIn (off := 62) g (2 : Int32) 80 dX10_hole_18 he23 (by decide) rfl rfl
 (x_aload_n g 0 dX10_hole_80 rfl rfl
 (x_aload_n g 0 dX10_hole_81 rfl rfl
 (x_getD g fl_RX10_50 rfl ht dX10_hole_82 (fun vr20 hvr20 =>
 (x_getS g 7 fl_RX10_234 rfl hvr20 dX10_hole_85
 (x_iload_n g 1 dX10_hole_88 rfl rfl
 (x_iald g (so_2_8 hvr20) dX10_hole_89
 (x_callVi (As := [.int (M.1 (vr20 + 7) a1.toNatClampNeg)]) g mv_X10_answer mi_X10_answer lk_RX10_187 ht (fun b Mh_ hb => kX10_answer t (M.1 (vr20 + 7) a1.toNatClampNeg) M ht _ _ hb) rfl rfl hR ⟨Nat.le_of_ble_eq_true rfl, Nat.le_of_ble_eq_true rfl⟩ (Nat.le_of_ble_eq_true rfl) dX10_hole_90 (fun v21 M22 =>
 (x_iret g hr rfl rfl dX10_hole_93))))))))))) (fun hq7 => (x_if (fun he19 => x_tabIn (off := 76) g (3 : Int32) 94 dX10_hole_18 he19 (by decide) rfl rfl
 (x_aload_n g 0 dX10_hole_94 rfl rfl
 (x_aload_n g 0 dX10_hole_95 rfl rfl
 (x_getD g fl_RX10_50 rfl ht dX10_hole_96 (fun vr15 hvr15 =>
 (x_iload_n g 1 dX10_hole_99 rfl rfl
 (x_callVip (As := [.int a1]) g mv_X2_allThick mi_X2_allThick lk_RX10_237 hvr15 (fun b hb => kX2_allThick φ vr15 a1 M hvr15 _ _ hb) rfl rfl hR ⟨Nat.le_of_ble_eq_true rfl, Nat.le_of_ble_eq_true rfl⟩ (Nat.le_of_ble_eq_true rfl) dX10_hole_100 (fun v16 =>
 (x_callVi (As := [.int v16]) g mv_X10_answer mi_X10_answer lk_RX10_187 ht (fun b Mh_ hb => kX10_answer t v16 M ht _ _ hb) rfl rfl hR ⟨Nat.le_of_ble_eq_true rfl, Nat.le_of_ble_eq_true rfl⟩ (Nat.le_of_ble_eq_true rfl) dX10_hole_103 (fun v17 M18 =>
 (x_iret g hr rfl rfl dX10_hole_106))))))))))) (fun hq8 => (x_if (fun he14 => x_tabIn (off := 89) g (4 : Int32) 107 dX10_hole_18 he14 (by decide) rfl rfl
 (x_aload_n g 0 dX10_hole_107 rfl rfl
 (x_aload_n g 0 dX10_hole_108 rfl rfl
 (x_getD g fl_RX10_50 rfl ht dX10_hole_109 (fun vr10 hvr10 =>
 (x_iload_n g 1 dX10_hole_112 rfl rfl
 (x_callVip (As := [.int a1]) g mv_X2_thrownDown mi_X2_thrownDown lk_RX10_240 hvr10 (fun b hb => kX2_thrownDown φ vr10 a1 M hvr10 _ _ hb) rfl rfl hR ⟨Nat.le_of_ble_eq_true rfl, Nat.le_of_ble_eq_true rfl⟩ (Nat.le_of_ble_eq_true rfl) dX10_hole_113 (fun v11 =>
 (x_callVi (As := [.int v11]) g mv_X10_answer mi_X10_answer lk_RX10_187 ht (fun b Mh_ hb => kX10_answer t v11 M ht _ _ hb) rfl rfl hR ⟨Nat.le_of_ble_eq_true rfl, Nat.le_of_ble_eq_true rfl⟩ (Nat.le_of_ble_eq_true rfl) dX10_hole_116 (fun v12 M13 =>
 (x_iret g hr rfl rfl dX10_hole_119))))))))))) (fun hq9 => (x_tabOut g 120 dX10_hole_18 (by have a0 := tab_ne hq5 (by decide : (0 : Int32).toInt = 0); have a1 := tab_ne hq6 (by decide : (1 : Int32).toInt = 1); have a2 := tab_ne hq7 (by decide : (2 : Int32).toInt = 2); have a3 := tab_ne hq8 (by decide : (3 : Int32).toInt = 3); have a4 := tab_ne hq9 (by decide : (4 : Int32).toInt = 4); omega) rfl
 (x_aload_n g 0 dX10_hole_120 rfl rfl
 (x_iconst g dX10_hole_121 kI_1
 (x_callVi (As := [.int (1 : Int32)]) g mv_X10_refuse mi_X10_refuse lk_RX10_137 ht (fun b Mh_ hb => kX10_refuse t (1 : Int32) M ht _ _ hb) rfl rfl hR ⟨Nat.le_of_ble_eq_true rfl, Nat.le_of_ble_eq_true rfl⟩ (Nat.le_of_ble_eq_true rfl) dX10_hole_122 (fun v3 M4 =>
 (x_iret g hr rfl rfl dX10_hole_125))))))))))))))))))
 (fun _ => (x_aload_n g 0 dX10_hole_11 rfl rfl
 (x_iconst g dX10_hole_12 kI_1
 (x_callVi (As := [.int (1 : Int32)]) g mv_X10_refuse mi_X10_refuse lk_RX10_137 ht (fun b Mh_ hb => kX10_refuse t (1 : Int32) M ht _ _ hb) rfl rfl hR ⟨Nat.le_of_ble_eq_true rfl, Nat.le_of_ble_eq_true rfl⟩ (Nat.le_of_ble_eq_true rfl) dX10_hole_13 (fun v32 M33 =>
 (x_iret g hr rfl rfl dX10_hole_16)))))))))))))
def fX2_isLayer (t : Nat) (a1 : Int32) (a2 : Int32) (M : Mem) : Option Int32 :=
  (fX2_isHole t a1 M).bind fun v1 =>
 if v1 = 0 then
 some (0 : Int32)
 else
 if a2 < 0 then
 some (0 : Int32)
 else
 ixk a1 6 (
 if (M.1 (t + 7) a1.toNatClampNeg) ≤ a2 then
 some (0 : Int32)
 else
 some (1 : Int32))
set_option maxRecDepth 100000 in
set_option maxHeartbeats 4000000 in
theorem kX2_isLayer (t : Nat) (a1 : Int32) (a2 : Int32) (M : Mem) (ht : isO 2 t) (l : Launch) (G : GT) {b : Int32} (hE : fX2_isLayer t a1 a2 M = some b) : Ok l G yX2_isLayer cX2_isLayer 3 (some .boolean) 1 21 [.ref t, .int a1, .int a2] M ((fun b : Int32 => (some (Value.int b), M)) b).1 ((fun b : Int32 => (some (Value.int b), M)) b).2 := by
  refine Ok.ofX (pj := (fun b : Int32 => (some (Value.int b), M))) (by decide) (Nat.le_of_ble_eq_true rfl) hE (fun J g hr hG hl hR hn => ?_)
  show X J (fun b : Int32 => (some (Value.int b), M)) (fX2_isLayer t a1 a2 M) 0 [(0, .ref t), (1, .int a1), (2, .int a2)] [] M
  unfold fX2_isLayer
  exact (x_aload_n g 0 dX2_isLayer_0 rfl rfl
 (x_iload_n g 1 dX2_isLayer_1 rfl rfl
 (x_callVip (As := [.int a1]) g mv_X2_isHole mi_X2_isHole lk_RX2_71 ht (fun b hb => kX2_isHole t a1 M ht _ _ hb) rfl rfl hR ⟨Nat.le_of_ble_eq_true rfl, Nat.le_of_ble_eq_true rfl⟩ (Nat.le_of_ble_eq_true rfl) dX2_isLayer_2 (fun v1 =>
 (x_if_eq g 26 dX2_isLayer_5 rfl
 (fun _ => (x_iconst g dX2_isLayer_26 kI_0
 (x_iret g hr rfl rfl dX2_isLayer_27)))
 (fun _ => (x_iload_n g 2 dX2_isLayer_8 rfl rfl
 (x_if_lt g 26 dX2_isLayer_9 rfl
 (fun _ => (x_iconst g dX2_isLayer_26 kI_0
 (x_iret g hr rfl rfl dX2_isLayer_27)))
 (fun _ => (x_iload_n g 2 dX2_isLayer_12 rfl rfl
 (x_aload_n g 0 dX2_isLayer_13 rfl rfl
 (x_getS g 7 fl_RX2_38 rfl ht dX2_isLayer_14
 (x_iload_n g 1 dX2_isLayer_17 rfl rfl
 (x_iald g (so_2_8 ht) dX2_isLayer_18
 (x_icmp_ge g 26 dX2_isLayer_19 rfl
 (fun _ => (x_iconst g dX2_isLayer_26 kI_0
 (x_iret g hr rfl rfl dX2_isLayer_27)))
 (fun _ => (x_iconst g dX2_isLayer_22 kI_1
 (x_goto g 27 dX2_isLayer_23 rfl
 (x_iret g hr rfl rfl dX2_isLayer_27)))))))))))))))))))
def fX2_depthOf (φ : Nat) (t : Nat) (a1 : Int32) (a2 : Int32) (M : Mem) : Option Int32 :=
  (fX2_thickAbove φ t a1 a2 M).bind fun v1 =>
 (fX2_thrownDown φ t a1 M).bind fun v2 =>
 some (v1 + v2)
set_option maxRecDepth 100000 in
set_option maxHeartbeats 4000000 in
theorem kX2_depthOf (φ : Nat) (t : Nat) (a1 : Int32) (a2 : Int32) (M : Mem) (ht : isO 2 t) (l : Launch) (G : GT) {b : Int32} (hE : fX2_depthOf φ t a1 a2 M = some b) : Ok l G yX2_depthOf cX2_depthOf 3 (some .int) 3 71 [.ref t, .int a1, .int a2] M ((fun b : Int32 => (some (Value.int b), M)) b).1 ((fun b : Int32 => (some (Value.int b), M)) b).2 := by
  refine Ok.ofX (pj := (fun b : Int32 => (some (Value.int b), M))) (by decide) (Nat.le_of_ble_eq_true rfl) hE (fun J g hr hG hl hR hn => ?_)
  show X J (fun b : Int32 => (some (Value.int b), M)) (fX2_depthOf φ t a1 a2 M) 0 [(0, .ref t), (1, .int a1), (2, .int a2)] [] M
  unfold fX2_depthOf
  exact (x_aload_n g 0 dX2_depthOf_0 rfl rfl
 (x_iload_n g 1 dX2_depthOf_1 rfl rfl
 (x_iload_n g 2 dX2_depthOf_2 rfl rfl
 (x_callVip (As := [.int a1, .int a2]) g mv_X2_thickAbove mi_X2_thickAbove lk_RX2_97 ht (fun b hb => kX2_thickAbove φ t a1 a2 M ht _ _ hb) rfl rfl hR ⟨Nat.le_of_ble_eq_true rfl, Nat.le_of_ble_eq_true rfl⟩ (Nat.le_of_ble_eq_true rfl) dX2_depthOf_3 (fun v1 =>
 (x_aload_n g 0 dX2_depthOf_6 rfl rfl
 (x_iload_n g 1 dX2_depthOf_7 rfl rfl
 (x_callVip (As := [.int a1]) g mv_X2_thrownDown mi_X2_thrownDown lk_RX2_104 ht (fun b hb => kX2_thrownDown φ t a1 M ht _ _ hb) rfl rfl hR ⟨Nat.le_of_ble_eq_true rfl, Nat.le_of_ble_eq_true rfl⟩ (Nat.le_of_ble_eq_true rfl) dX2_depthOf_8 (fun v2 =>
 (x_iadd g dX2_depthOf_11
 (x_iret g hr rfl rfl dX2_depthOf_12)))))))))))
def fX10_layer (φ : Nat) (t : Nat) (a1 : Int32) (a2 : Int32) (a3 : Int32) (M : Mem) : Option (Int32 × Mem) :=
  (ldr 2 (M.2.2 t 7)).bind fun vr1 =>
 (fX2_isLayer vr1 a1 a2 M).bind fun v2 =>
 if v2 = 0 then
 bd (fX10_refuse t (1 : Int32) M) fun v23 M24 =>
 some (v23, M24)
 else
 if a3 = 0 then
 (ldr 2 (M.2.2 t 7)).bind fun vr18 =>
 (fX10_slot a1 a2 M).bind fun v19 =>
 ixk v19 72 (
 bd (fX10_answer t (M.1 (vr18 + 8) v19.toNatClampNeg) M) fun v20 M21 =>
 some (v20, M21))
 else
 if a3 = 1 then
 (ldr 2 (M.2.2 t 7)).bind fun vr13 =>
 (fX10_slot a1 a2 M).bind fun v14 =>
 ixk v14 72 (
 bd (fX10_answer t (M.1 (vr13 + 9) v14.toNatClampNeg) M) fun v15 M16 =>
 some (v15, M16))
 else
 if a3 = 2 then
 (ldr 2 (M.2.2 t 7)).bind fun vr8 =>
 (fX2_depthOf φ vr8 a1 a2 M).bind fun v9 =>
 bd (fX10_answer t v9 M) fun v10 M11 =>
 some (v10, M11)
 else
 bd (fX10_refuse t (1 : Int32) M) fun v3 M4 =>
 some (v3, M4)
set_option maxRecDepth 100000 in
set_option maxHeartbeats 4000000 in
theorem kX10_layer (φ : Nat) (t : Nat) (a1 : Int32) (a2 : Int32) (a3 : Int32) (M : Mem) (ht : isO 10 t) (l : Launch) (G : GT) {b : (Int32 × Mem)} (hE : fX10_layer φ t a1 a2 a3 M = some b) : Ok l G yX10_layer cX10_layer 4 (some .int) 4 93 [.ref t, .int a1, .int a2, .int a3] M ((fun q : Int32 × Mem => (some (Value.int q.1), q.2)) b).1 ((fun q : Int32 × Mem => (some (Value.int q.1), q.2)) b).2 := by
  refine Ok.ofX (pj := (fun q : Int32 × Mem => (some (Value.int q.1), q.2))) (by decide) (Nat.le_of_ble_eq_true rfl) hE (fun J g hr hG hl hR hn => ?_)
  show X J (fun q : Int32 × Mem => (some (Value.int q.1), q.2)) (fX10_layer φ t a1 a2 a3 M) 0 [(0, .ref t), (1, .int a1), (2, .int a2), (3, .int a3)] [] M
  unfold fX10_layer
  exact (x_aload_n g 0 dX10_layer_0 rfl rfl
 (x_getD g fl_RX10_50 rfl ht dX10_layer_1 (fun vr1 hvr1 =>
 (x_iload_n g 1 dX10_layer_4 rfl rfl
 (x_iload_n g 2 dX10_layer_5 rfl rfl
 (x_callVip (As := [.int a1, .int a2]) g mv_X2_isLayer mi_X2_isLayer lk_RX10_243 hvr1 (fun b hb => kX2_isLayer vr1 a1 a2 M hvr1 _ _ hb) rfl rfl hR ⟨Nat.le_of_ble_eq_true rfl, Nat.le_of_ble_eq_true rfl⟩ (Nat.le_of_ble_eq_true rfl) dX10_layer_6 (fun v2 =>
 (x_if_ne g 18 dX10_layer_9 rfl
 (fun _ => (x_iload_n g 3 dX10_layer_18 rfl rfl
 (x_if (fun he22 => x_tabIn (off := 25) g (0 : Int32) 44 dX10_layer_19 he22 (by decide) rfl rfl
 (x_aload_n g 0 dX10_layer_44 rfl rfl
 (x_aload_n g 0 dX10_layer_45 rfl rfl
 (x_getD g fl_RX10_50 rfl ht dX10_layer_46 (fun vr18 hvr18 =>
 (x_getS g 8 fl_RX10_246 rfl hvr18 dX10_layer_49
 (x_iload_n g 1 dX10_layer_52 rfl rfl
 (x_iload_n g 2 dX10_layer_53 rfl rfl
 (x_callSip (As := [.int a1, .int a2]) g mv_X10_slot ms_X10_slot lk_RX10_249 (fun b hb => kX10_slot a1 a2 M _ _ hb) rfl rfl hR ⟨Nat.le_of_ble_eq_true rfl, Nat.le_of_ble_eq_true rfl⟩ (Nat.le_of_ble_eq_true rfl) dX10_layer_54 (fun v19 =>
 (x_iald g (so_2_9 hvr18) dX10_layer_57
 (x_callVi (As := [.int (M.1 (vr18 + 8) v19.toNatClampNeg)]) g mv_X10_answer mi_X10_answer lk_RX10_187 ht (fun b Mh_ hb => kX10_answer t (M.1 (vr18 + 8) v19.toNatClampNeg) M ht _ _ hb) rfl rfl hR ⟨Nat.le_of_ble_eq_true rfl, Nat.le_of_ble_eq_true rfl⟩ (Nat.le_of_ble_eq_true rfl) dX10_layer_58 (fun v20 M21 =>
 (x_iret g hr rfl rfl dX10_layer_61)))))))))))))) (fun hq5 => (x_if (fun he17 => x_tabIn (off := 43) g (1 : Int32) 62 dX10_layer_19 he17 (by decide) rfl rfl
 (x_aload_n g 0 dX10_layer_62 rfl rfl
 (x_aload_n g 0 dX10_layer_63 rfl rfl
 (x_getD g fl_RX10_50 rfl ht dX10_layer_64 (fun vr13 hvr13 =>
 (x_getS g 9 fl_RX10_252 rfl hvr13 dX10_layer_67
 (x_iload_n g 1 dX10_layer_70 rfl rfl
 (x_iload_n g 2 dX10_layer_71 rfl rfl
 (x_callSip (As := [.int a1, .int a2]) g mv_X10_slot ms_X10_slot lk_RX10_249 (fun b hb => kX10_slot a1 a2 M _ _ hb) rfl rfl hR ⟨Nat.le_of_ble_eq_true rfl, Nat.le_of_ble_eq_true rfl⟩ (Nat.le_of_ble_eq_true rfl) dX10_layer_72 (fun v14 =>
 (x_iald g (so_2_10 hvr13) dX10_layer_75
 (x_callVi (As := [.int (M.1 (vr13 + 9) v14.toNatClampNeg)]) g mv_X10_answer mi_X10_answer lk_RX10_187 ht (fun b Mh_ hb => kX10_answer t (M.1 (vr13 + 9) v14.toNatClampNeg) M ht _ _ hb) rfl rfl hR ⟨Nat.le_of_ble_eq_true rfl, Nat.le_of_ble_eq_true rfl⟩ (Nat.le_of_ble_eq_true rfl) dX10_layer_76 (fun v15 M16 =>
 (x_iret g hr rfl rfl dX10_layer_79)))))))))))))) (fun hq6 => (x_if (fun he12 => x_tabIn (off := 61) g (2 : Int32) 80 dX10_layer_19 he12 (by decide) rfl rfl
 (x_aload_n g 0 dX10_layer_80 rfl rfl
 (x_aload_n g 0 dX10_layer_81 rfl rfl
 (x_getD g fl_RX10_50 rfl ht dX10_layer_82 (fun vr8 hvr8 =>
 (x_iload_n g 1 dX10_layer_85 rfl rfl
 (x_iload_n g 2 dX10_layer_86 rfl rfl
 (x_callVip (As := [.int a1, .int a2]) g mv_X2_depthOf mi_X2_depthOf lk_RX10_255 hvr8 (fun b hb => kX2_depthOf φ vr8 a1 a2 M hvr8 _ _ hb) rfl rfl hR ⟨Nat.le_of_ble_eq_true rfl, Nat.le_of_ble_eq_true rfl⟩ (Nat.le_of_ble_eq_true rfl) dX10_layer_87 (fun v9 =>
 (x_callVi (As := [.int v9]) g mv_X10_answer mi_X10_answer lk_RX10_187 ht (fun b Mh_ hb => kX10_answer t v9 M ht _ _ hb) rfl rfl hR ⟨Nat.le_of_ble_eq_true rfl, Nat.le_of_ble_eq_true rfl⟩ (Nat.le_of_ble_eq_true rfl) dX10_layer_90 (fun v10 M11 =>
 (x_iret g hr rfl rfl dX10_layer_93)))))))))))) (fun hq7 => (x_tabOut g 94 dX10_layer_19 (by have a0 := tab_ne hq5 (by decide : (0 : Int32).toInt = 0); have a1 := tab_ne hq6 (by decide : (1 : Int32).toInt = 1); have a2 := tab_ne hq7 (by decide : (2 : Int32).toInt = 2); omega) rfl
 (x_aload_n g 0 dX10_layer_94 rfl rfl
 (x_iconst g dX10_layer_95 kI_1
 (x_callVi (As := [.int (1 : Int32)]) g mv_X10_refuse mi_X10_refuse lk_RX10_137 ht (fun b Mh_ hb => kX10_refuse t (1 : Int32) M ht _ _ hb) rfl rfl hR ⟨Nat.le_of_ble_eq_true rfl, Nat.le_of_ble_eq_true rfl⟩ (Nat.le_of_ble_eq_true rfl) dX10_layer_96 (fun v3 M4 =>
 (x_iret g hr rfl rfl dX10_layer_99))))))))))))))
 (fun _ => (x_aload_n g 0 dX10_layer_12 rfl rfl
 (x_iconst g dX10_layer_13 kI_1
 (x_callVi (As := [.int (1 : Int32)]) g mv_X10_refuse mi_X10_refuse lk_RX10_137 ht (fun b Mh_ hb => kX10_refuse t (1 : Int32) M ht _ _ hb) rfl rfl hR ⟨Nat.le_of_ble_eq_true rfl, Nat.le_of_ble_eq_true rfl⟩ (Nat.le_of_ble_eq_true rfl) dX10_layer_14 (fun v23 M24 =>
 (x_iret g hr rfl rfl dX10_layer_17))))))))))))))
def lX2_layerWithUnit_11 (t : Nat) (x1 : Int32) (x2 : Int32) (M : Mem) : Nat → Int32 → Int32 → Option Int32
  | 0, _, _ => none
  | n + 1, x3, x4 =>
    ixk x1 6 (
 if (M.1 (t + 7) x1.toNatClampNeg) ≤ x4 then
 some (-1 : Int32)
 else
 (fX10_slot x1 x4 M).bind fun v1 =>
 ixk v1 72 (
 nm (x3 + (M.1 (t + 9) v1.toNatClampNeg)) (fun v2 =>
 if v2 ≤ x2 then
 lX2_layerWithUnit_11 t x1 x2 M n v2 (x4 + 1)
 else
 some x4)))
theorem lX2_layerWithUnit_11_s (t : Nat) (x1 : Int32) (x2 : Int32) (M : Mem) (n : Nat) (x3 : Int32) (x4 : Int32) : lX2_layerWithUnit_11 t x1 x2 M (n + 1) x3 x4 =
    ixk x1 6 (
 if (M.1 (t + 7) x1.toNatClampNeg) ≤ x4 then
 some (-1 : Int32)
 else
 (fX10_slot x1 x4 M).bind fun v1 =>
 ixk v1 72 (
 nm (x3 + (M.1 (t + 9) v1.toNatClampNeg)) (fun v2 =>
 if v2 ≤ x2 then
 lX2_layerWithUnit_11 t x1 x2 M n v2 (x4 + 1)
 else
 some x4))) := rfl
theorem lX2_layerWithUnit_11_0 (t : Nat) (x1 : Int32) (x2 : Int32) (M : Mem) (x3 : Int32) (x4 : Int32) : lX2_layerWithUnit_11 t x1 x2 M 0 x3 x4 = none := rfl
set_option maxRecDepth 100000 in
set_option maxHeartbeats 4000000 in
theorem wlX2_layerWithUnit_11 {J : JT} (g : Gd J cX2_layerWithUnit RX2) (hr : Rt J (some .int)) (hR : (JR J).frames = 1 ∧ (JR J).locals = 21) (hn : Jn J = 5) (t : Nat) (x1 : Int32) (x2 : Int32) (M : Mem) (ht : isO 2 t) : ∀ (n : Nat) (x3 : Int32) (x4 : Int32), X J (fun b : Int32 => (some (Value.int b), M)) (lX2_layerWithUnit_11 t x1 x2 M n x3 x4) 11 [(0, .ref t), (1, .int x1), (2, .int x2), (3, .int x3), (4, .int x4)] [] M := by
  intro n
  induction n with
  | zero =>
    intro x3 x4
    exact x_none
  | succ n ih =>
    intro x3 x4
    rw [lX2_layerWithUnit_11_s]
    exact (x_iload g 4 dX2_layerWithUnit_11 rfl
 (x_aload_n g 0 dX2_layerWithUnit_13 rfl rfl
 (x_getS g 7 fl_RX2_38 rfl ht dX2_layerWithUnit_14
 (x_iload_n g 1 dX2_layerWithUnit_17 rfl rfl
 (x_iald g (so_2_8 ht) dX2_layerWithUnit_18
 (x_icmp_ge g 50 dX2_layerWithUnit_19 rfl
 (fun _ => (x_iconst g dX2_layerWithUnit_50 kI_m1
 (x_iret g hr rfl rfl dX2_layerWithUnit_51)))
 (fun _ => (x_iload_n g 3 dX2_layerWithUnit_22 rfl rfl
 (x_aload_n g 0 dX2_layerWithUnit_23 rfl rfl
 (x_getS g 9 fl_RX2_44 rfl ht dX2_layerWithUnit_24
 (x_iload_n g 1 dX2_layerWithUnit_27 rfl rfl
 (x_iload g 4 dX2_layerWithUnit_28 rfl
 (x_callSip (As := [.int x1, .int x4]) g mv_X10_slot ms_X10_slot lk_RX2_93 (fun b hb => kX10_slot x1 x4 M _ _ hb) rfl rfl hR ⟨Nat.le_of_ble_eq_true rfl, Nat.le_of_ble_eq_true rfl⟩ (Nat.le_of_ble_eq_true rfl) dX2_layerWithUnit_30 (fun v1 =>
 (x_iald g (so_2_10 ht) dX2_layerWithUnit_33
 (x_iadd g dX2_layerWithUnit_34
 (x_nmI (fun v2 => (x_istore_n (L' := [(3, .int v2), (0, .ref t), (1, .int x1), (2, .int x2), (4, .int x4)]) g dX2_layerWithUnit_35 rfl hn (Nat.le_of_ble_eq_true rfl) rfl
 (x_iload_n g 3 dX2_layerWithUnit_36 rfl rfl
 (x_iload_n g 0 dX2_layerWithUnit_37 rfl rfl
 (x_icmp_ge g 44 dX2_layerWithUnit_38 rfl
 (fun _ => (x_iinc (L' := [(4, .int (x4 + 1)), (3, .int v2), (0, .ref t), (1, .int x1), (2, .int x2)]) (v := (x4 + 1)) g 4 dX2_layerWithUnit_44 rfl (by rw [kI_1]) hn (Nat.le_of_ble_eq_true rfl) rfl
 (x_goto g 11 dX2_layerWithUnit_47 rfl
 (x_sub [2, 3, 4, 1, 0] rfl (ih v2 (x4 + 1))))))
 (fun _ => (x_iload g 4 dX2_layerWithUnit_41 rfl
 (x_iret g hr rfl rfl dX2_layerWithUnit_43)))))))))))))))))))))))))
def fX2_layerWithUnit (φ : Nat) (t : Nat) (a1 : Int32) (a2 : Int32) (M : Mem) : Option Int32 :=
  if 0 ≤ a2 then
 lX2_layerWithUnit_11 t a1 a2 M φ (0 : Int32) (0 : Int32)
 else
 some (-1 : Int32)
set_option maxRecDepth 100000 in
set_option maxHeartbeats 4000000 in
theorem kX2_layerWithUnit (φ : Nat) (t : Nat) (a1 : Int32) (a2 : Int32) (M : Mem) (ht : isO 2 t) (l : Launch) (G : GT) {b : Int32} (hE : fX2_layerWithUnit φ t a1 a2 M = some b) : Ok l G yX2_layerWithUnit cX2_layerWithUnit 5 (some .int) 1 21 [.ref t, .int a1, .int a2] M ((fun b : Int32 => (some (Value.int b), M)) b).1 ((fun b : Int32 => (some (Value.int b), M)) b).2 := by
  refine Ok.ofX (pj := (fun b : Int32 => (some (Value.int b), M))) (by decide) (Nat.le_of_ble_eq_true rfl) hE (fun J g hr hG hl hR hn => ?_)
  show X J (fun b : Int32 => (some (Value.int b), M)) (fX2_layerWithUnit φ t a1 a2 M) 0 [(0, .ref t), (1, .int a1), (2, .int a2)] [] M
  unfold fX2_layerWithUnit
  exact (x_iload_n g 2 dX2_layerWithUnit_0 rfl rfl
 (x_if_ge g 6 dX2_layerWithUnit_1 rfl
 (fun _ => (x_iconst g dX2_layerWithUnit_6 kI_0
 (x_istore_n (L' := [(3, .int (0 : Int32)), (0, .ref t), (1, .int a1), (2, .int a2)]) g dX2_layerWithUnit_7 rfl hn (Nat.le_of_ble_eq_true rfl) rfl
 (x_iconst g dX2_layerWithUnit_8 kI_0
 (x_istore (L' := [(4, .int (0 : Int32)), (3, .int (0 : Int32)), (0, .ref t), (1, .int a1), (2, .int a2)]) g dX2_layerWithUnit_9 hn (Nat.le_of_ble_eq_true rfl) rfl
 (x_sub [2, 3, 4, 1, 0] rfl (wlX2_layerWithUnit_11 g hr hR hn  t a1 a2 M ht φ (0 : Int32) (0 : Int32))))))))
 (fun _ => (x_iconst g dX2_layerWithUnit_4 kI_m1
 (x_iret g hr rfl rfl dX2_layerWithUnit_5)))))
def fX10_answerOrNoSuch (t : Nat) (a1 : Int32) (M : Mem) : Option (Int32 × Mem) :=
  if a1 = (-1 : Int32) then
 bd (fX10_refuse t (6 : Int32) M) fun v3 M4 =>
 some (v3, M4)
 else
 bd (fX10_answer t a1 M) fun v1 M2 =>
 some (v1, M2)
set_option maxRecDepth 100000 in
set_option maxHeartbeats 4000000 in
theorem kX10_answerOrNoSuch (t : Nat) (a1 : Int32) (M : Mem) (ht : isO 10 t) (l : Launch) (G : GT) {b : (Int32 × Mem)} (hE : fX10_answerOrNoSuch t a1 M = some b) : Ok l G yX10_answerOrNoSuch cX10_answerOrNoSuch 2 (some .int) 1 21 [.ref t, .int a1] M ((fun q : Int32 × Mem => (some (Value.int q.1), q.2)) b).1 ((fun q : Int32 × Mem => (some (Value.int q.1), q.2)) b).2 := by
  refine Ok.ofX (pj := (fun q : Int32 × Mem => (some (Value.int q.1), q.2))) (by decide) (Nat.le_of_ble_eq_true rfl) hE (fun J g hr hG hl hR hn => ?_)
  show X J (fun q : Int32 × Mem => (some (Value.int q.1), q.2)) (fX10_answerOrNoSuch t a1 M) 0 [(0, .ref t), (1, .int a1)] [] M
  unfold fX10_answerOrNoSuch
  exact (x_iload_n g 1 dX10_answerOrNoSuch_0 rfl rfl
 (x_iconst g dX10_answerOrNoSuch_1 kI_m1
 (x_icmp_ne g 14 dX10_answerOrNoSuch_2 rfl
 (fun _ => (x_aload_n g 0 dX10_answerOrNoSuch_14 rfl rfl
 (x_iload_n g 1 dX10_answerOrNoSuch_15 rfl rfl
 (x_callVi (As := [.int a1]) g mv_X10_answer mi_X10_answer lk_RX10_187 ht (fun b Mh_ hb => kX10_answer t a1 M ht _ _ hb) rfl rfl hR ⟨Nat.le_of_ble_eq_true rfl, Nat.le_of_ble_eq_true rfl⟩ (Nat.le_of_ble_eq_true rfl) dX10_answerOrNoSuch_16 (fun v1 M2 =>
 (x_iret g hr rfl rfl dX10_answerOrNoSuch_19))))))
 (fun _ => (x_aload_n g 0 dX10_answerOrNoSuch_5 rfl rfl
 (x_bipush g dX10_answerOrNoSuch_6 kB_6
 (x_callVi (As := [.int (6 : Int32)]) g mv_X10_refuse mi_X10_refuse lk_RX10_137 ht (fun b Mh_ hb => kX10_refuse t (6 : Int32) M ht _ _ hb) rfl rfl hR ⟨Nat.le_of_ble_eq_true rfl, Nat.le_of_ble_eq_true rfl⟩ (Nat.le_of_ble_eq_true rfl) dX10_answerOrNoSuch_8 (fun v3 M4 =>
 (x_goto g 19 dX10_answerOrNoSuch_11 rfl
 (x_iret g hr rfl rfl dX10_answerOrNoSuch_19))))))))))
def fX10_layerAt (φ : Nat) (t : Nat) (a1 : Int32) (a2 : Int32) (M : Mem) : Option (Int32 × Mem) :=
  (ldr 2 (M.2.2 t 7)).bind fun vr1 =>
 (fX2_isHole vr1 a1 M).bind fun v2 =>
 if v2 = 0 then
 bd (fX10_refuse t (1 : Int32) M) fun v3 M4 =>
 some (v3, M4)
 else
 if 0 ≤ a2 then
 (ldr 2 (M.2.2 t 7)).bind fun vr5 =>
 (ldr 2 (M.2.2 t 7)).bind fun vr6 =>
 (fX2_thrownDown φ vr6 a1 M).bind fun v7 =>
 (fX2_layerWithUnit φ vr5 a1 (a2 - v7) M).bind fun v8 =>
 bd (fX10_answerOrNoSuch t v8 M) fun v9 M10 =>
 some (v9, M10)
 else
 bd (fX10_refuse t (1 : Int32) M) fun v11 M12 =>
 some (v11, M12)
set_option maxRecDepth 100000 in
set_option maxHeartbeats 4000000 in
theorem kX10_layerAt (φ : Nat) (t : Nat) (a1 : Int32) (a2 : Int32) (M : Mem) (ht : isO 10 t) (l : Launch) (G : GT) {b : (Int32 × Mem)} (hE : fX10_layerAt φ t a1 a2 M = some b) : Ok l G yX10_layerAt cX10_layerAt 3 (some .int) 3 71 [.ref t, .int a1, .int a2] M ((fun q : Int32 × Mem => (some (Value.int q.1), q.2)) b).1 ((fun q : Int32 × Mem => (some (Value.int q.1), q.2)) b).2 := by
  refine Ok.ofX (pj := (fun q : Int32 × Mem => (some (Value.int q.1), q.2))) (by decide) (Nat.le_of_ble_eq_true rfl) hE (fun J g hr hG hl hR hn => ?_)
  show X J (fun q : Int32 × Mem => (some (Value.int q.1), q.2)) (fX10_layerAt φ t a1 a2 M) 0 [(0, .ref t), (1, .int a1), (2, .int a2)] [] M
  unfold fX10_layerAt
  exact (x_aload_n g 0 dX10_layerAt_0 rfl rfl
 (x_getD g fl_RX10_50 rfl ht dX10_layerAt_1 (fun vr1 hvr1 =>
 (x_iload_n g 1 dX10_layerAt_4 rfl rfl
 (x_callVip (As := [.int a1]) g mv_X2_isHole mi_X2_isHole lk_RX10_225 hvr1 (fun b hb => kX2_isHole vr1 a1 M hvr1 _ _ hb) rfl rfl hR ⟨Nat.le_of_ble_eq_true rfl, Nat.le_of_ble_eq_true rfl⟩ (Nat.le_of_ble_eq_true rfl) dX10_layerAt_5 (fun v2 =>
 (x_if_eq g 15 dX10_layerAt_8 rfl
 (fun _ => (x_aload_n g 0 dX10_layerAt_15 rfl rfl
 (x_iconst g dX10_layerAt_16 kI_1
 (x_callVi (As := [.int (1 : Int32)]) g mv_X10_refuse mi_X10_refuse lk_RX10_137 ht (fun b Mh_ hb => kX10_refuse t (1 : Int32) M ht _ _ hb) rfl rfl hR ⟨Nat.le_of_ble_eq_true rfl, Nat.le_of_ble_eq_true rfl⟩ (Nat.le_of_ble_eq_true rfl) dX10_layerAt_17 (fun v3 M4 =>
 (x_iret g hr rfl rfl dX10_layerAt_20))))))
 (fun _ => (x_iload_n g 2 dX10_layerAt_11 rfl rfl
 (x_if_ge g 21 dX10_layerAt_12 rfl
 (fun _ => (x_aload_n g 0 dX10_layerAt_21 rfl rfl
 (x_aload_n g 0 dX10_layerAt_22 rfl rfl
 (x_getD g fl_RX10_50 rfl ht dX10_layerAt_23 (fun vr5 hvr5 =>
 (x_iload_n g 1 dX10_layerAt_26 rfl rfl
 (x_iload_n g 2 dX10_layerAt_27 rfl rfl
 (x_aload_n g 0 dX10_layerAt_28 rfl rfl
 (x_getD g fl_RX10_50 rfl ht dX10_layerAt_29 (fun vr6 hvr6 =>
 (x_iload_n g 1 dX10_layerAt_32 rfl rfl
 (x_callVip (As := [.int a1]) g mv_X2_thrownDown mi_X2_thrownDown lk_RX10_240 hvr6 (fun b hb => kX2_thrownDown φ vr6 a1 M hvr6 _ _ hb) rfl rfl hR ⟨Nat.le_of_ble_eq_true rfl, Nat.le_of_ble_eq_true rfl⟩ (Nat.le_of_ble_eq_true rfl) dX10_layerAt_33 (fun v7 =>
 (x_isub g dX10_layerAt_36
 (x_callVip (As := [.int a1, .int (a2 - v7)]) g mv_X2_layerWithUnit mi_X2_layerWithUnit lk_RX10_258 hvr5 (fun b hb => kX2_layerWithUnit φ vr5 a1 (a2 - v7) M hvr5 _ _ hb) rfl rfl hR ⟨Nat.le_of_ble_eq_true rfl, Nat.le_of_ble_eq_true rfl⟩ (Nat.le_of_ble_eq_true rfl) dX10_layerAt_37 (fun v8 =>
 (x_callVi (As := [.int v8]) g mv_X10_answerOrNoSuch mi_X10_answerOrNoSuch lk_RX10_261 ht (fun b Mh_ hb => kX10_answerOrNoSuch t v8 M ht _ _ hb) rfl rfl hR ⟨Nat.le_of_ble_eq_true rfl, Nat.le_of_ble_eq_true rfl⟩ (Nat.le_of_ble_eq_true rfl) dX10_layerAt_40 (fun v9 M10 =>
 (x_iret g hr rfl rfl dX10_layerAt_43)))))))))))))))))))
 (fun _ => (x_aload_n g 0 dX10_layerAt_15 rfl rfl
 (x_iconst g dX10_layerAt_16 kI_1
 (x_callVi (As := [.int (1 : Int32)]) g mv_X10_refuse mi_X10_refuse lk_RX10_137 ht (fun b Mh_ hb => kX10_refuse t (1 : Int32) M ht _ _ hb) rfl rfl hR ⟨Nat.le_of_ble_eq_true rfl, Nat.le_of_ble_eq_true rfl⟩ (Nat.le_of_ble_eq_true rfl) dX10_layerAt_17 (fun v11 M12 =>
 (x_iret g hr rfl rfl dX10_layerAt_20))))))))))))))))
def fX2_isFault (t : Nat) (a1 : Int32) (M : Mem) : Option Int32 :=
  if a1 < 0 then
 some (0 : Int32)
 else
 if (M.1 t 13) ≤ a1 then
 some (0 : Int32)
 else
 some (1 : Int32)
set_option maxRecDepth 100000 in
set_option maxHeartbeats 4000000 in
theorem kX2_isFault (t : Nat) (a1 : Int32) (M : Mem) (ht : isO 2 t) (l : Launch) (G : GT) {b : Int32} (hE : fX2_isFault t a1 M = some b) : Ok l G yX2_isFault cX2_isFault 2 (some .boolean) 0 0 [.ref t, .int a1] M ((fun b : Int32 => (some (Value.int b), M)) b).1 ((fun b : Int32 => (some (Value.int b), M)) b).2 := by
  refine Ok.ofX (pj := (fun b : Int32 => (some (Value.int b), M))) (by decide) (Nat.le_of_ble_eq_true rfl) hE (fun J g hr hG hl hR hn => ?_)
  show X J (fun b : Int32 => (some (Value.int b), M)) (fX2_isFault t a1 M) 0 [(0, .ref t), (1, .int a1)] [] M
  unfold fX2_isFault
  exact (x_iload_n g 1 dX2_isFault_0 rfl rfl
 (x_if_lt g 16 dX2_isFault_1 rfl
 (fun _ => (x_iconst g dX2_isFault_16 kI_0
 (x_iret g hr rfl rfl dX2_isFault_17)))
 (fun _ => (x_iload_n g 1 dX2_isFault_4 rfl rfl
 (x_aload_n g 0 dX2_isFault_5 rfl rfl
 (x_getI g fl_RX2_53 rfl ht dX2_isFault_6
 (x_icmp_ge g 16 dX2_isFault_9 rfl
 (fun _ => (x_iconst g dX2_isFault_16 kI_0
 (x_iret g hr rfl rfl dX2_isFault_17)))
 (fun _ => (x_iconst g dX2_isFault_12 kI_1
 (x_goto g 17 dX2_isFault_13 rfl
 (x_iret g hr rfl rfl dX2_isFault_17)))))))))))
def fX10_answerYes (t : Nat) (a1 : Int32) (M : Mem) : Option (Int32 × Mem) :=
  if a1 = 0 then
 bd (fX10_answer t (0 : Int32) M) fun v1 M2 =>
 some (v1, M2)
 else
 bd (fX10_answer t (1 : Int32) M) fun v3 M4 =>
 some (v3, M4)
set_option maxRecDepth 100000 in
set_option maxHeartbeats 4000000 in
theorem kX10_answerYes (t : Nat) (a1 : Int32) (M : Mem) (ht : isO 10 t) (l : Launch) (G : GT) {b : (Int32 × Mem)} (hE : fX10_answerYes t a1 M = some b) : Ok l G yX10_answerYes cX10_answerYes 2 (some .int) 1 21 [.ref t, .int a1] M ((fun q : Int32 × Mem => (some (Value.int q.1), q.2)) b).1 ((fun q : Int32 × Mem => (some (Value.int q.1), q.2)) b).2 := by
  refine Ok.ofX (pj := (fun q : Int32 × Mem => (some (Value.int q.1), q.2))) (by decide) (Nat.le_of_ble_eq_true rfl) hE (fun J g hr hG hl hR hn => ?_)
  show X J (fun q : Int32 × Mem => (some (Value.int q.1), q.2)) (fX10_answerYes t a1 M) 0 [(0, .ref t), (1, .int a1)] [] M
  unfold fX10_answerYes
  exact (x_aload_n g 0 dX10_answerYes_0 rfl rfl
 (x_iload_n g 1 dX10_answerYes_1 rfl rfl
 (x_if_eq g 9 dX10_answerYes_2 rfl
 (fun _ => (x_iconst g dX10_answerYes_9 kI_0
 (x_callVi (As := [.int (0 : Int32)]) g mv_X10_answer mi_X10_answer lk_RX10_187 ht (fun b Mh_ hb => kX10_answer t (0 : Int32) M ht _ _ hb) rfl rfl hR ⟨Nat.le_of_ble_eq_true rfl, Nat.le_of_ble_eq_true rfl⟩ (Nat.le_of_ble_eq_true rfl) dX10_answerYes_10 (fun v1 M2 =>
 (x_iret g hr rfl rfl dX10_answerYes_13)))))
 (fun _ => (x_iconst g dX10_answerYes_5 kI_1
 (x_goto g 10 dX10_answerYes_6 rfl
 (x_callVi (As := [.int (1 : Int32)]) g mv_X10_answer mi_X10_answer lk_RX10_187 ht (fun b Mh_ hb => kX10_answer t (1 : Int32) M ht _ _ hb) rfl rfl hR ⟨Nat.le_of_ble_eq_true rfl, Nat.le_of_ble_eq_true rfl⟩ (Nat.le_of_ble_eq_true rfl) dX10_answerYes_10 (fun v3 M4 =>
 (x_iret g hr rfl rfl dX10_answerYes_13)))))))))
def fX10_side (t : Nat) (a1 : Int32) (a2 : Int32) (M : Mem) : Option (Int32 × Mem) :=
  (ldr 2 (M.2.2 t 7)).bind fun vr1 =>
 (fX2_isFault vr1 a1 M).bind fun v2 =>
 if v2 = 0 then
 bd (fX10_refuse t (1 : Int32) M) fun v3 M4 =>
 some (v3, M4)
 else
 (ldr 2 (M.2.2 t 7)).bind fun vr5 =>
 (fX2_isHole vr5 a2 M).bind fun v6 =>
 if v6 = 0 then
 bd (fX10_refuse t (1 : Int32) M) fun v11 M12 =>
 some (v11, M12)
 else
 (ldr 2 (M.2.2 t 7)).bind fun vr7 =>
 (fX2_isOnRight vr7 a1 a2 M).bind fun v8 =>
 bd (fX10_answerYes t v8 M) fun v9 M10 =>
 some (v9, M10)
set_option maxRecDepth 100000 in
set_option maxHeartbeats 4000000 in
theorem kX10_side (t : Nat) (a1 : Int32) (a2 : Int32) (M : Mem) (ht : isO 10 t) (l : Launch) (G : GT) {b : (Int32 × Mem)} (hE : fX10_side t a1 a2 M = some b) : Ok l G yX10_side cX10_side 3 (some .int) 2 48 [.ref t, .int a1, .int a2] M ((fun q : Int32 × Mem => (some (Value.int q.1), q.2)) b).1 ((fun q : Int32 × Mem => (some (Value.int q.1), q.2)) b).2 := by
  refine Ok.ofX (pj := (fun q : Int32 × Mem => (some (Value.int q.1), q.2))) (by decide) (Nat.le_of_ble_eq_true rfl) hE (fun J g hr hG hl hR hn => ?_)
  show X J (fun q : Int32 × Mem => (some (Value.int q.1), q.2)) (fX10_side t a1 a2 M) 0 [(0, .ref t), (1, .int a1), (2, .int a2)] [] M
  unfold fX10_side
  exact (x_aload_n g 0 dX10_side_0 rfl rfl
 (x_getD g fl_RX10_50 rfl ht dX10_side_1 (fun vr1 hvr1 =>
 (x_iload_n g 1 dX10_side_4 rfl rfl
 (x_callVip (As := [.int a1]) g mv_X2_isFault mi_X2_isFault lk_RX10_264 hvr1 (fun b hb => kX2_isFault vr1 a1 M hvr1 _ _ hb) rfl rfl hR ⟨Nat.le_of_ble_eq_true rfl, Nat.le_of_ble_eq_true rfl⟩ (Nat.le_of_ble_eq_true rfl) dX10_side_5 (fun v2 =>
 (x_if_eq g 22 dX10_side_8 rfl
 (fun _ => (x_aload_n g 0 dX10_side_22 rfl rfl
 (x_iconst g dX10_side_23 kI_1
 (x_callVi (As := [.int (1 : Int32)]) g mv_X10_refuse mi_X10_refuse lk_RX10_137 ht (fun b Mh_ hb => kX10_refuse t (1 : Int32) M ht _ _ hb) rfl rfl hR ⟨Nat.le_of_ble_eq_true rfl, Nat.le_of_ble_eq_true rfl⟩ (Nat.le_of_ble_eq_true rfl) dX10_side_24 (fun v3 M4 =>
 (x_iret g hr rfl rfl dX10_side_27))))))
 (fun _ => (x_aload_n g 0 dX10_side_11 rfl rfl
 (x_getD g fl_RX10_50 rfl ht dX10_side_12 (fun vr5 hvr5 =>
 (x_iload_n g 2 dX10_side_15 rfl rfl
 (x_callVip (As := [.int a2]) g mv_X2_isHole mi_X2_isHole lk_RX10_225 hvr5 (fun b hb => kX2_isHole vr5 a2 M hvr5 _ _ hb) rfl rfl hR ⟨Nat.le_of_ble_eq_true rfl, Nat.le_of_ble_eq_true rfl⟩ (Nat.le_of_ble_eq_true rfl) dX10_side_16 (fun v6 =>
 (x_if_ne g 28 dX10_side_19 rfl
 (fun _ => (x_aload_n g 0 dX10_side_28 rfl rfl
 (x_aload_n g 0 dX10_side_29 rfl rfl
 (x_getD g fl_RX10_50 rfl ht dX10_side_30 (fun vr7 hvr7 =>
 (x_iload_n g 1 dX10_side_33 rfl rfl
 (x_iload_n g 2 dX10_side_34 rfl rfl
 (x_callVip (As := [.int a1, .int a2]) g mv_X2_isOnRight mi_X2_isOnRight lk_RX10_267 hvr7 (fun b hb => kX2_isOnRight vr7 a1 a2 M hvr7 _ _ hb) rfl rfl hR ⟨Nat.le_of_ble_eq_true rfl, Nat.le_of_ble_eq_true rfl⟩ (Nat.le_of_ble_eq_true rfl) dX10_side_35 (fun v8 =>
 (x_callVi (As := [.int v8]) g mv_X10_answerYes mi_X10_answerYes lk_RX10_270 ht (fun b Mh_ hb => kX10_answerYes t v8 M ht _ _ hb) rfl rfl hR ⟨Nat.le_of_ble_eq_true rfl, Nat.le_of_ble_eq_true rfl⟩ (Nat.le_of_ble_eq_true rfl) dX10_side_38 (fun v9 M10 =>
 (x_iret g hr rfl rfl dX10_side_41))))))))))))
 (fun _ => (x_aload_n g 0 dX10_side_22 rfl rfl
 (x_iconst g dX10_side_23 kI_1
 (x_callVi (As := [.int (1 : Int32)]) g mv_X10_refuse mi_X10_refuse lk_RX10_137 ht (fun b Mh_ hb => kX10_refuse t (1 : Int32) M ht _ _ hb) rfl rfl hR ⟨Nat.le_of_ble_eq_true rfl, Nat.le_of_ble_eq_true rfl⟩ (Nat.le_of_ble_eq_true rfl) dX10_side_24 (fun v11 M12 =>
 (x_iret g hr rfl rfl dX10_side_27)))))))))))))))))))))
def fX5_pairCost (a1 : Nat) (a2 : Int32) (a3 : Int32) (M : Mem) : Option Int32 :=
  ixk a2 72 (
 ixk a3 72 (
 (fX2_costOfTwo a1 (M.1 (a1 + 8) a2.toNatClampNeg) (M.1 (a1 + 8) a3.toNatClampNeg) M).bind fun v1 =>
 ixk a2 72 (
 ixk a3 72 (
 some (v1 + (if 0 ≤ ((M.1 (a1 + 9) a2.toNatClampNeg) - (M.1 (a1 + 9) a3.toNatClampNeg)) then ((M.1 (a1 + 9) a2.toNatClampNeg) - (M.1 (a1 + 9) a3.toNatClampNeg)) else 0 - ((M.1 (a1 + 9) a2.toNatClampNeg) - (M.1 (a1 + 9) a3.toNatClampNeg))))))))
set_option maxRecDepth 100000 in
set_option maxHeartbeats 4000000 in
theorem kX5_pairCost (a1 : Nat) (a2 : Int32) (a3 : Int32) (M : Mem) (ha1 : isO 2 a1) (l : Launch) (G : GT) {b : Int32} (hE : fX5_pairCost a1 a2 a3 M = some b) : Ok l G yX5_pairCost cX5_pairCost 3 (some .int) 1 30 [.ref a1, .int a2, .int a3] M ((fun b : Int32 => (some (Value.int b), M)) b).1 ((fun b : Int32 => (some (Value.int b), M)) b).2 := by
  refine Ok.ofX (pj := (fun b : Int32 => (some (Value.int b), M))) (by decide) (Nat.le_of_ble_eq_true rfl) hE (fun J g hr hG hl hR hn => ?_)
  show X J (fun b : Int32 => (some (Value.int b), M)) (fX5_pairCost a1 a2 a3 M) 0 [(0, .ref a1), (1, .int a2), (2, .int a3)] [] M
  unfold fX5_pairCost
  exact (x_aload_n g 0 dX5_pairCost_0 rfl rfl
 (x_aload_n g 0 dX5_pairCost_1 rfl rfl
 (x_getS g 8 fl_RX5_56 rfl ha1 dX5_pairCost_2
 (x_iload_n g 1 dX5_pairCost_5 rfl rfl
 (x_iald g (so_2_9 ha1) dX5_pairCost_6
 (x_aload_n g 0 dX5_pairCost_7 rfl rfl
 (x_getS g 8 fl_RX5_56 rfl ha1 dX5_pairCost_8
 (x_iload_n g 2 dX5_pairCost_11 rfl rfl
 (x_iald g (so_2_9 ha1) dX5_pairCost_12
 (x_callVip (As := [.int (M.1 (a1 + 8) a2.toNatClampNeg), .int (M.1 (a1 + 8) a3.toNatClampNeg)]) g mv_X2_costOfTwo mi_X2_costOfTwo lk_RX5_59 ha1 (fun b hb => kX2_costOfTwo a1 (M.1 (a1 + 8) a2.toNatClampNeg) (M.1 (a1 + 8) a3.toNatClampNeg) M ha1 _ _ hb) rfl rfl hR ⟨Nat.le_of_ble_eq_true rfl, Nat.le_of_ble_eq_true rfl⟩ (Nat.le_of_ble_eq_true rfl) dX5_pairCost_13 (fun v1 =>
 (x_aload_n g 0 dX5_pairCost_16 rfl rfl
 (x_getS g 9 fl_RX5_62 rfl ha1 dX5_pairCost_17
 (x_iload_n g 1 dX5_pairCost_20 rfl rfl
 (x_iald g (so_2_10 ha1) dX5_pairCost_21
 (x_aload_n g 0 dX5_pairCost_22 rfl rfl
 (x_getS g 9 fl_RX5_62 rfl ha1 dX5_pairCost_23
 (x_iload_n g 2 dX5_pairCost_26 rfl rfl
 (x_iald g (so_2_10 ha1) dX5_pairCost_27
 (x_isub g dX5_pairCost_28
 (x_mabs g hR lk_RX5_65 ok_abss ok_math ok_abs (Nat.le_of_ble_eq_true rfl) (Nat.le_of_ble_eq_true rfl) dX5_pairCost_29
 (x_iadd g dX5_pairCost_32
 (x_iret g hr rfl rfl dX5_pairCost_33)))))))))))))))))))))))
def fX5_leftOutCost (a1 : Nat) (a2 : Int32) (M : Mem) : Option Int32 :=
  ixk a2 72 (
 ixk (M.1 (a1 + 8) a2.toNatClampNeg) 8 (
 ixk a2 72 (
 some ((M.1 (a1 + 2) (M.1 (a1 + 8) a2.toNatClampNeg).toNatClampNeg) + (M.1 (a1 + 9) a2.toNatClampNeg)))))
set_option maxRecDepth 100000 in
set_option maxHeartbeats 4000000 in
theorem kX5_leftOutCost (a1 : Nat) (a2 : Int32) (M : Mem) (ha1 : isO 2 a1) (l : Launch) (G : GT) {b : Int32} (hE : fX5_leftOutCost a1 a2 M = some b) : Ok l G yX5_leftOutCost cX5_leftOutCost 2 (some .int) 0 0 [.ref a1, .int a2] M ((fun b : Int32 => (some (Value.int b), M)) b).1 ((fun b : Int32 => (some (Value.int b), M)) b).2 := by
  refine Ok.ofX (pj := (fun b : Int32 => (some (Value.int b), M))) (by decide) (Nat.le_of_ble_eq_true rfl) hE (fun J g hr hG hl hR hn => ?_)
  show X J (fun b : Int32 => (some (Value.int b), M)) (fX5_leftOutCost a1 a2 M) 0 [(0, .ref a1), (1, .int a2)] [] M
  unfold fX5_leftOutCost
  exact (x_aload_n g 0 dX5_leftOutCost_0 rfl rfl
 (x_getS g 2 fl_RX5_69 rfl ha1 dX5_leftOutCost_1
 (x_aload_n g 0 dX5_leftOutCost_4 rfl rfl
 (x_getS g 8 fl_RX5_56 rfl ha1 dX5_leftOutCost_5
 (x_iload_n g 1 dX5_leftOutCost_8 rfl rfl
 (x_iald g (so_2_9 ha1) dX5_leftOutCost_9
 (x_iald g (so_2_2 ha1) dX5_leftOutCost_10
 (x_aload_n g 0 dX5_leftOutCost_11 rfl rfl
 (x_getS g 9 fl_RX5_62 rfl ha1 dX5_leftOutCost_12
 (x_iload_n g 1 dX5_leftOutCost_15 rfl rfl
 (x_iald g (so_2_10 ha1) dX5_leftOutCost_16
 (x_iadd g dX5_leftOutCost_17
 (x_iret g hr rfl rfl dX5_leftOutCost_18)))))))))))))
def fX5_leastFrom (t : Nat) (a1 : Nat) (a2 : Int32) (a3 : Int32) (a4 : Int32) (a5 : Int32) (M : Mem) : Option Int32 :=
  ixk a2 6 (
 jn (fun (v1 : Int32) => ixk a4 6 (
 jn (fun (v3 : Int32) => jn ((fX10_slot a2 a3 M).bind fun v6 =>
 (fX10_slot a4 a5 M).bind fun v7 =>
 nm ((a3 * (13 : Int32)) + a5) (fun v8 =>
 jn (fun (v9 : Int32) => jn (fun (v11 : Int32) => if v3 = 0 then
 some v11
 else
 (fX5_leftOutCost a1 v7 M).bind fun v13 =>
 ixk (v8 + (1 : Int32)) 169 (
 nm (if (v13 + (M.1 (t + 1) (v8 + (1 : Int32)).toNatClampNeg)) < v11 then (v13 + (M.1 (t + 1) (v8 + (1 : Int32)).toNatClampNeg)) else v11) (fun v14 =>
 some v14))) (fun J12 => if v1 = 0 then
 J12 v9
 else
 (fX5_leftOutCost a1 v6 M).bind fun v15 =>
 ixk (v8 + (13 : Int32)) 169 (
 nm (if (v15 + (M.1 (t + 1) (v8 + (13 : Int32)).toNatClampNeg)) < v9 then (v15 + (M.1 (t + 1) (v8 + (13 : Int32)).toNatClampNeg)) else v9) (fun v16 =>
 J12 v16)))) (fun J10 => if v1 = 0 then
 J10 (2147483647 : Int32)
 else
 if v3 = 0 then
 J10 (2147483647 : Int32)
 else
 (fX5_pairCost a1 v6 v7 M).bind fun v17 =>
 ixk ((v8 + (13 : Int32)) + (1 : Int32)) 169 (
 nm (v17 + (M.1 (t + 1) ((v8 + (13 : Int32)) + (1 : Int32)).toNatClampNeg)) (fun v18 =>
 J10 v18))))) (fun J5 => if v1 = 0 then
 if v3 = 0 then
 some (0 : Int32)
 else
 J5
 else
 J5)) (fun J4 => if (M.1 (a1 + 7) a4.toNatClampNeg) ≤ a5 then
 J4 (0 : Int32)
 else
 J4 (1 : Int32)))) (fun J2 => if (M.1 (a1 + 7) a2.toNatClampNeg) ≤ a3 then
 J2 (0 : Int32)
 else
 J2 (1 : Int32)))
set_option maxRecDepth 100000 in
set_option maxHeartbeats 4000000 in
theorem kX5_leastFrom (t : Nat) (a1 : Nat) (a2 : Int32) (a3 : Int32) (a4 : Int32) (a5 : Int32) (M : Mem) (ht : isO 5 t) (ha1 : isO 2 a1) (l : Launch) (G : GT) {b : Int32} (hE : fX5_leastFrom t a1 a2 a3 a4 a5 M = some b) : Ok l G yX5_leastFrom cX5_leastFrom 12 (some .int) 2 52 [.ref t, .ref a1, .int a2, .int a3, .int a4, .int a5] M ((fun b : Int32 => (some (Value.int b), M)) b).1 ((fun b : Int32 => (some (Value.int b), M)) b).2 := by
  refine Ok.ofX (pj := (fun b : Int32 => (some (Value.int b), M))) (by decide) (Nat.le_of_ble_eq_true rfl) hE (fun J g hr hG hl hR hn => ?_)
  show X J (fun b : Int32 => (some (Value.int b), M)) (fX5_leastFrom t a1 a2 a3 a4 a5 M) 0 [(0, .ref t), (1, .ref a1), (2, .int a2), (3, .int a3), (4, .int a4), (5, .int a5)] [] M
  unfold fX5_leastFrom
  exact (x_iload_n g 3 dX5_leastFrom_0 rfl rfl
 (x_aload_n g 1 dX5_leastFrom_1 rfl rfl
 (x_getS g 7 fl_RX5_25 rfl ha1 dX5_leastFrom_2
 (x_iload_n g 2 dX5_leastFrom_5 rfl rfl
 (x_iald g (so_2_8 ha1) dX5_leastFrom_6
 (x_jn (fun (J2 : Int32 → Option Int32) => ∀ (v1 : Int32), X J (fun b : Int32 => (some (Value.int b), M)) (J2 v1) 15 [(0, .ref t), (1, .ref a1), (2, .int a2), (3, .int a3), (4, .int a4), (5, .int a5)] [.int v1] M) (fun v1 => (x_istore (L' := [(6, .int v1), (0, .ref t), (1, .ref a1), (2, .int a2), (3, .int a3), (4, .int a4), (5, .int a5)]) g dX5_leastFrom_15 hn (Nat.le_of_ble_eq_true rfl) rfl
 (x_iload g 6 dX5_leastFrom_17 rfl
 (x_aload_n g 2 dX5_leastFrom_19 rfl rfl
 (x_getS g 7 fl_RX5_25 rfl ha1 dX5_leastFrom_20
 (x_iload g 5 dX5_leastFrom_23 rfl
 (x_iald g (so_2_8 ha1) dX5_leastFrom_25
 (x_jn (fun (J4 : Int32 → Option Int32) => ∀ (v3 : Int32), X J (fun b : Int32 => (some (Value.int b), M)) (J4 v3) 34 [(0, .ref t), (1, .ref a1), (2, .int a2), (3, .int a3), (4, .int a4), (5, .int a5), (6, .int v1)] [.int v3] M) (fun v3 => (x_istore (L' := [(7, .int v3), (0, .ref t), (1, .ref a1), (2, .int a2), (3, .int a3), (4, .int a4), (5, .int a5), (6, .int v1)]) g dX5_leastFrom_34 hn (Nat.le_of_ble_eq_true rfl) rfl
 (x_iload g 7 dX5_leastFrom_36 rfl
 (x_jn (fun (J5 : Option Int32) => X J (fun b : Int32 => (some (Value.int b), M)) J5 48 [(0, .ref t), (1, .ref a1), (2, .int a2), (3, .int a3), (4, .int a4), (5, .int a5), (6, .int v1), (7, .int v3)] [] M) (x_iload_n g 2 dX5_leastFrom_48 rfl rfl
 (x_iload_n g 3 dX5_leastFrom_49 rfl rfl
 (x_callSip (As := [.int a2, .int a3]) g mv_X10_slot ms_X10_slot lk_RX5_38 (fun b hb => kX10_slot a2 a3 M _ _ hb) rfl rfl hR ⟨Nat.le_of_ble_eq_true rfl, Nat.le_of_ble_eq_true rfl⟩ (Nat.le_of_ble_eq_true rfl) dX5_leastFrom_50 (fun v6 =>
 (x_istore (L' := [(8, .int v6), (0, .ref t), (1, .ref a1), (2, .int a2), (3, .int a3), (4, .int a4), (5, .int a5), (6, .int v1), (7, .int v3)]) g dX5_leastFrom_53 hn (Nat.le_of_ble_eq_true rfl) rfl
 (x_iload g 5 dX5_leastFrom_55 rfl
 (x_iload g 6 dX5_leastFrom_57 rfl
 (x_callSip (As := [.int a4, .int a5]) g mv_X10_slot ms_X10_slot lk_RX5_38 (fun b hb => kX10_slot a4 a5 M _ _ hb) rfl rfl hR ⟨Nat.le_of_ble_eq_true rfl, Nat.le_of_ble_eq_true rfl⟩ (Nat.le_of_ble_eq_true rfl) dX5_leastFrom_59 (fun v7 =>
 (x_istore (L' := [(9, .int v7), (8, .int v6), (0, .ref t), (1, .ref a1), (2, .int a2), (3, .int a3), (4, .int a4), (5, .int a5), (6, .int v1), (7, .int v3)]) g dX5_leastFrom_62 hn (Nat.le_of_ble_eq_true rfl) rfl
 (x_iload_n g 5 dX5_leastFrom_64 rfl rfl
 (x_bipush g dX5_leastFrom_65 kB_13
 (x_imul g dX5_leastFrom_67
 (x_iload g 7 dX5_leastFrom_68 rfl
 (x_iadd g dX5_leastFrom_70
 (x_nmI (fun v8 => (x_istore (L' := [(10, .int v8), (9, .int v7), (8, .int v6), (0, .ref t), (1, .ref a1), (2, .int a2), (3, .int a3), (4, .int a4), (5, .int a5), (6, .int v1), (7, .int v3)]) g dX5_leastFrom_71 hn (Nat.le_of_ble_eq_true rfl) rfl
 (x_ldc g cw_RX5_42 dX5_leastFrom_73
 (x_istore (L' := [(11, .int (2147483647 : Int32)), (10, .int v8), (9, .int v7), (8, .int v6), (0, .ref t), (1, .ref a1), (2, .int a2), (3, .int a3), (4, .int a4), (5, .int a5), (6, .int v1), (7, .int v3)]) g dX5_leastFrom_75 hn (Nat.le_of_ble_eq_true rfl) rfl
 (x_iload g 10 dX5_leastFrom_77 rfl
 (x_jn (fun (J10 : Int32 → Option Int32) => ∀ (v9 : Int32), X J (fun b : Int32 => (some (Value.int b), M)) (J10 v9) 110 [(0, .ref t), (1, .ref a1), (6, .int v1), (7, .int v3), (8, .int v6), (9, .int v7), (10, .int v8), (11, .int v9)] [] M) (fun v9 => (x_iload g 2 dX5_leastFrom_110 rfl
 (x_jn (fun (J12 : Int32 → Option Int32) => ∀ (v11 : Int32), X J (fun b : Int32 => (some (Value.int b), M)) (J12 v11) 139 [(0, .ref t), (1, .ref a1), (7, .int v3), (9, .int v7), (10, .int v8), (11, .int v11)] [] M) (fun v11 => (x_iload g 2 dX5_leastFrom_139 rfl
 (x_if_eq g 167 dX5_leastFrom_141 rfl
 (fun _ => (x_iload g 5 dX5_leastFrom_167 rfl
 (x_iret g hr rfl rfl dX5_leastFrom_169)))
 (fun _ => (x_iload g 5 dX5_leastFrom_144 rfl
 (x_aload_n g 1 dX5_leastFrom_146 rfl rfl
 (x_iload g 3 dX5_leastFrom_147 rfl
 (x_callSip (As := [.ref a1, .int v7]) g mv_X5_leftOutCost ms_X5_leftOutCost lk_RX5_47 (fun b hb => kX5_leftOutCost a1 v7 M ha1 _ _ hb) rfl rfl hR ⟨Nat.le_of_ble_eq_true rfl, Nat.le_of_ble_eq_true rfl⟩ (Nat.le_of_ble_eq_true rfl) dX5_leastFrom_149 (fun v13 =>
 (x_aload_n g 0 dX5_leastFrom_152 rfl rfl
 (x_getS g 1 fl_RX5_11 rfl ht dX5_leastFrom_153
 (x_iload g 4 dX5_leastFrom_156 rfl
 (x_iconst g dX5_leastFrom_158 kI_1
 (x_iadd g dX5_leastFrom_159
 (x_iald g (so_5_0 ht) dX5_leastFrom_160
 (x_iadd g dX5_leastFrom_161
 (x_mmin g hR lk_RX5_51 ok_mins ok_math ok_min (Nat.le_of_ble_eq_true rfl) (Nat.le_of_ble_eq_true rfl) dX5_leastFrom_162
 (x_nmI (fun v14 => (x_istore (L' := [(11, .int v14), (0, .ref t), (1, .ref a1), (7, .int v3), (9, .int v7), (10, .int v8)]) g dX5_leastFrom_165 hn (Nat.le_of_ble_eq_true rfl) rfl
 (x_iload g 0 dX5_leastFrom_167 rfl
 (x_iret g hr rfl rfl dX5_leastFrom_169)))))))))))))))))))))) (fun J12 hJ12 => (x_if_eq g 139 dX5_leastFrom_112 rfl
 (fun _ => (x_sub [0, 1, 3, 5, 6, 7] rfl (hJ12 v9)))
 (fun _ => (x_iload g 7 dX5_leastFrom_115 rfl
 (x_aload_n g 1 dX5_leastFrom_117 rfl rfl
 (x_iload g 4 dX5_leastFrom_118 rfl
 (x_callSip (As := [.ref a1, .int v6]) g mv_X5_leftOutCost ms_X5_leftOutCost lk_RX5_47 (fun b hb => kX5_leftOutCost a1 v6 M ha1 _ _ hb) rfl rfl hR ⟨Nat.le_of_ble_eq_true rfl, Nat.le_of_ble_eq_true rfl⟩ (Nat.le_of_ble_eq_true rfl) dX5_leastFrom_120 (fun v15 =>
 (x_aload_n g 0 dX5_leastFrom_123 rfl rfl
 (x_getS g 1 fl_RX5_11 rfl ht dX5_leastFrom_124
 (x_iload g 6 dX5_leastFrom_127 rfl
 (x_bipush g dX5_leastFrom_129 kB_13
 (x_iadd g dX5_leastFrom_131
 (x_iald g (so_5_0 ht) dX5_leastFrom_132
 (x_iadd g dX5_leastFrom_133
 (x_mmin g hR lk_RX5_51 ok_mins ok_math ok_min (Nat.le_of_ble_eq_true rfl) (Nat.le_of_ble_eq_true rfl) dX5_leastFrom_134
 (x_nmI (fun v16 => (x_istore (L' := [(11, .int v16), (0, .ref t), (1, .ref a1), (6, .int v1), (7, .int v3), (8, .int v6), (9, .int v7), (10, .int v8)]) g dX5_leastFrom_137 hn (Nat.le_of_ble_eq_true rfl) rfl
 (x_sub [1, 2, 4, 6, 7, 0] rfl (hJ12 v16)))))))))))))))))))))))) (fun J10 hJ10 => (x_if_eq g 110 dX5_leastFrom_79 rfl
 (fun _ => (x_sub [4, 5, 10, 11, 3, 2, 1, 0] rfl (hJ10 (2147483647 : Int32))))
 (fun _ => (x_iload g 11 dX5_leastFrom_82 rfl
 (x_if_eq g 110 dX5_leastFrom_84 rfl
 (fun _ => (x_sub [4, 5, 10, 11, 3, 2, 1, 0] rfl (hJ10 (2147483647 : Int32))))
 (fun _ => (x_aload_n g 5 dX5_leastFrom_87 rfl rfl
 (x_iload g 3 dX5_leastFrom_88 rfl
 (x_iload g 2 dX5_leastFrom_90 rfl
 (x_callSip (As := [.ref a1, .int v6, .int v7]) g mv_X5_pairCost ms_X5_pairCost lk_RX5_43 (fun b hb => kX5_pairCost a1 v6 v7 M ha1 _ _ hb) rfl rfl hR ⟨Nat.le_of_ble_eq_true rfl, Nat.le_of_ble_eq_true rfl⟩ (Nat.le_of_ble_eq_true rfl) dX5_leastFrom_92 (fun v17 =>
 (x_aload_n g 4 dX5_leastFrom_95 rfl rfl
 (x_getS g 1 fl_RX5_11 rfl ht dX5_leastFrom_96
 (x_iload g 1 dX5_leastFrom_99 rfl
 (x_bipush g dX5_leastFrom_101 kB_13
 (x_iadd g dX5_leastFrom_103
 (x_iconst g dX5_leastFrom_104 kI_1
 (x_iadd g dX5_leastFrom_105
 (x_iald g (so_5_0 ht) dX5_leastFrom_106
 (x_iadd g dX5_leastFrom_107
 (x_nmI (fun v18 => (x_istore (L' := [(11, .int v18), (10, .int v8), (9, .int v7), (8, .int v6), (0, .ref t), (1, .ref a1), (2, .int a2), (3, .int a3), (4, .int a4), (5, .int a5), (6, .int v1), (7, .int v3)]) g dX5_leastFrom_108 hn (Nat.le_of_ble_eq_true rfl) rfl
 (x_sub [4, 5, 10, 11, 3, 2, 1, 0] rfl (hJ10 v18))))))))))))))))))))))))))))))))))))))))))))))) (fun J5 hJ5 => (x_if_ne g 48 dX5_leastFrom_38 rfl
 (fun _ => (x_sub [1, 2, 3, 4, 5, 6, 7, 0] rfl (hJ5)))
 (fun _ => (x_iload g 0 dX5_leastFrom_41 rfl
 (x_if_ne g 48 dX5_leastFrom_43 rfl
 (fun _ => (x_sub [1, 2, 3, 4, 5, 6, 7, 0] rfl (hJ5)))
 (fun _ => (x_iconst g dX5_leastFrom_46 kI_0
 (x_iret g hr rfl rfl dX5_leastFrom_47)))))))))))) (fun J4 hJ4 => (x_icmp_ge g 33 dX5_leastFrom_26 rfl
 (fun _ => (x_iconst g dX5_leastFrom_33 kI_0
 (x_sub [1, 2, 3, 4, 5, 6, 0] rfl (hJ4 (0 : Int32)))))
 (fun _ => (x_iconst g dX5_leastFrom_29 kI_1
 (x_goto g 34 dX5_leastFrom_30 rfl
 (x_sub [1, 2, 3, 4, 5, 6, 0] rfl (hJ4 (1 : Int32)))))))))))))))) (fun J2 hJ2 => (x_icmp_ge g 14 dX5_leastFrom_7 rfl
 (fun _ => (x_iconst g dX5_leastFrom_14 kI_0
 (hJ2 (0 : Int32))))
 (fun _ => (x_iconst g dX5_leastFrom_10 kI_1
 (x_goto g 15 dX5_leastFrom_11 rfl
 (hJ2 (1 : Int32)))))))))))))
def lX5_trace_24 (t : Nat) (xr1 : Nat) (x2 : Int32) (x3 : Int32) : Nat → Int32 → Int32 → Int32 → Mem → Option (Unit × Mem)
  | 0, _, _, _, _ => none
  | n + 1, x4, x5, x6, M =>
    if (24 : Int32) ≤ x6 then
 some ((), M)
 else
 if (M.1 t 2) ≤ x4 then
 some ((), M)
 else
 nm ((x4 * (13 : Int32)) + x5) (fun v3 =>
 ixk x3 6 (
 jn (fun (v4 : Int32) => jn (fun (v6 : Int32) (v7 : Int32) (M8 : Mem) => lX5_trace_24 t xr1 x2 x3 n v6 v7 (x6 + 1) M8) (fun J9 => jn (jn (ixk x4 12 (nm (stI M (t + 2) x4.toNatClampNeg (-1 : Int32)) (fun M12 =>
 J9 (x4 + 1) x5 M12))) (fun J11 => if v4 = 0 then
 J11
 else
 ixk v3 169 (
 (fX10_slot x2 x4 M).bind fun v13 =>
 (fX5_leftOutCost xr1 v13 M).bind fun v14 =>
 ixk (v3 + (13 : Int32)) 169 (
 if (M.1 (t + 1) v3.toNatClampNeg) = (v14 + (M.1 (t + 1) (v3 + (13 : Int32)).toNatClampNeg)) then
 J11
 else
 J9 x4 (x5 + 1) M)))) (fun J10 => if v4 = 0 then
 J10
 else
 ixk v3 169 (
 (fX10_slot x2 x4 M).bind fun v15 =>
 (fX10_slot x3 x5 M).bind fun v16 =>
 (fX5_pairCost xr1 v15 v16 M).bind fun v17 =>
 ixk ((v3 + (13 : Int32)) + (1 : Int32)) 169 (
 if (M.1 (t + 1) v3.toNatClampNeg) = (v17 + (M.1 (t + 1) ((v3 + (13 : Int32)) + (1 : Int32)).toNatClampNeg)) then
 ixk x4 12 (nm (stI M (t + 2) x4.toNatClampNeg x5) (fun M18 =>
 nm (stI M18 t 3 ((M18.1 t 3) + (1 : Int32))) (fun M19 =>
 J9 (x4 + 1) (x5 + 1) M19)))
 else
 J10))))) (fun J5 => if (M.1 (xr1 + 7) x3.toNatClampNeg) ≤ x5 then
 J5 (0 : Int32)
 else
 J5 (1 : Int32))))
theorem lX5_trace_24_s (t : Nat) (xr1 : Nat) (x2 : Int32) (x3 : Int32) (n : Nat) (x4 : Int32) (x5 : Int32) (x6 : Int32) (M : Mem) : lX5_trace_24 t xr1 x2 x3 (n + 1) x4 x5 x6 M =
    if (24 : Int32) ≤ x6 then
 some ((), M)
 else
 if (M.1 t 2) ≤ x4 then
 some ((), M)
 else
 nm ((x4 * (13 : Int32)) + x5) (fun v3 =>
 ixk x3 6 (
 jn (fun (v4 : Int32) => jn (fun (v6 : Int32) (v7 : Int32) (M8 : Mem) => lX5_trace_24 t xr1 x2 x3 n v6 v7 (x6 + 1) M8) (fun J9 => jn (jn (ixk x4 12 (nm (stI M (t + 2) x4.toNatClampNeg (-1 : Int32)) (fun M12 =>
 J9 (x4 + 1) x5 M12))) (fun J11 => if v4 = 0 then
 J11
 else
 ixk v3 169 (
 (fX10_slot x2 x4 M).bind fun v13 =>
 (fX5_leftOutCost xr1 v13 M).bind fun v14 =>
 ixk (v3 + (13 : Int32)) 169 (
 if (M.1 (t + 1) v3.toNatClampNeg) = (v14 + (M.1 (t + 1) (v3 + (13 : Int32)).toNatClampNeg)) then
 J11
 else
 J9 x4 (x5 + 1) M)))) (fun J10 => if v4 = 0 then
 J10
 else
 ixk v3 169 (
 (fX10_slot x2 x4 M).bind fun v15 =>
 (fX10_slot x3 x5 M).bind fun v16 =>
 (fX5_pairCost xr1 v15 v16 M).bind fun v17 =>
 ixk ((v3 + (13 : Int32)) + (1 : Int32)) 169 (
 if (M.1 (t + 1) v3.toNatClampNeg) = (v17 + (M.1 (t + 1) ((v3 + (13 : Int32)) + (1 : Int32)).toNatClampNeg)) then
 ixk x4 12 (nm (stI M (t + 2) x4.toNatClampNeg x5) (fun M18 =>
 nm (stI M18 t 3 ((M18.1 t 3) + (1 : Int32))) (fun M19 =>
 J9 (x4 + 1) (x5 + 1) M19)))
 else
 J10))))) (fun J5 => if (M.1 (xr1 + 7) x3.toNatClampNeg) ≤ x5 then
 J5 (0 : Int32)
 else
 J5 (1 : Int32)))) := rfl
theorem lX5_trace_24_0 (t : Nat) (xr1 : Nat) (x2 : Int32) (x3 : Int32) (x4 : Int32) (x5 : Int32) (x6 : Int32) (M : Mem) : lX5_trace_24 t xr1 x2 x3 0 x4 x5 x6 M = none := rfl
set_option maxRecDepth 100000 in
set_option maxHeartbeats 4000000 in
theorem wlX5_trace_24 {J : JT} (g : Gd J cX5_trace RX5) (hr : Rt J none) (hR : (JR J).frames = 2 ∧ (JR J).locals = 52) (hn : Jn J = 9) (t : Nat) (xr1 : Nat) (x2 : Int32) (x3 : Int32) (ht : isO 5 t) (hxr1 : isO 2 xr1) : ∀ (n : Nat) (x4 : Int32) (x5 : Int32) (x6 : Int32) (M : Mem), X J (fun q : Unit × Mem => ((none : Option Value), q.2)) (lX5_trace_24 t xr1 x2 x3 n x4 x5 x6 M) 24 [(0, .ref t), (1, .ref xr1), (2, .int x2), (3, .int x3), (4, .int x4), (5, .int x5), (6, .int x6)] [] M := by
  intro n
  induction n with
  | zero =>
    intro x4 x5 x6 M
    exact x_none
  | succ n ih =>
    intro x4 x5 x6 M
    rw [lX5_trace_24_s]
    exact (x_iload g 6 dX5_trace_24 rfl
 (x_bipush g dX5_trace_26 kB_24
 (x_icmp_ge g 199 dX5_trace_28 rfl
 (fun _ => (x_vret g hr rfl dX5_trace_199))
 (fun _ => (x_iload g 4 dX5_trace_31 rfl
 (x_aload_n g 0 dX5_trace_33 rfl rfl
 (x_getI g fl_RX5_18 rfl ht dX5_trace_34
 (x_icmp_ge g 199 dX5_trace_37 rfl
 (fun _ => (x_vret g hr rfl dX5_trace_199))
 (fun _ => (x_iload g 4 dX5_trace_40 rfl
 (x_bipush g dX5_trace_42 kB_13
 (x_imul g dX5_trace_44
 (x_iload g 5 dX5_trace_45 rfl
 (x_iadd g dX5_trace_47
 (x_nmI (fun v3 => (x_istore (L' := [(7, .int v3), (0, .ref t), (1, .ref xr1), (2, .int x2), (3, .int x3), (4, .int x4), (5, .int x5), (6, .int x6)]) g dX5_trace_48 hn (Nat.le_of_ble_eq_true rfl) rfl
 (x_iload g 6 dX5_trace_50 rfl
 (x_aload_n g 2 dX5_trace_52 rfl rfl
 (x_getS g 7 fl_RX5_25 rfl hxr1 dX5_trace_53
 (x_iload_n g 4 dX5_trace_56 rfl rfl
 (x_iald g (so_2_8 hxr1) dX5_trace_57
 (x_jn (fun (J5 : Int32 → Option (Unit × Mem)) => ∀ (v4 : Int32), X J (fun q : Unit × Mem => ((none : Option Value), q.2)) (J5 v4) 66 [(0, .ref t), (1, .ref xr1), (2, .int x2), (3, .int x3), (4, .int x4), (5, .int x5), (6, .int x6), (7, .int v3)] [.int v4] M) (fun v4 => (x_istore (L' := [(8, .int v4), (0, .ref t), (1, .ref xr1), (2, .int x2), (3, .int x3), (4, .int x4), (5, .int x5), (6, .int x6), (7, .int v3)]) g dX5_trace_66 hn (Nat.le_of_ble_eq_true rfl) rfl
 (x_iload g 0 dX5_trace_68 rfl
 (x_jn (fun (J9 : Int32 → Int32 → Mem → Option (Unit × Mem)) => ∀ (v6 : Int32) (v7 : Int32) (M8 : Mem), X J (fun q : Unit × Mem => ((none : Option Value), q.2)) (J9 v6 v7 M8) 193 [(0, .ref t), (1, .ref xr1), (2, .int x2), (3, .int x3), (4, .int v6), (5, .int v7), (6, .int x6)] [] M8) (fun v6 v7 M8 => (x_iinc (L' := [(6, .int (x6 + 1)), (0, .ref t), (1, .ref xr1), (2, .int x2), (3, .int x3), (4, .int v6), (5, .int v7)]) (v := (x6 + 1)) g 6 dX5_trace_193 rfl (by rw [kI_1]) hn (Nat.le_of_ble_eq_true rfl) rfl
 (x_goto g 24 dX5_trace_196 rfl
 (x_sub [1, 2, 3, 4, 5, 6, 0] rfl (ih v6 v7 (x6 + 1) M8))))) (fun J9 hJ9 => (x_jn (fun (J10 : Option (Unit × Mem)) => X J (fun q : Unit × Mem => ((none : Option Value), q.2)) J10 140 [(0, .ref t), (1, .ref xr1), (2, .int x2), (3, .int x3), (4, .int x4), (5, .int x5), (6, .int x6), (7, .int v3), (8, .int v4)] [] M) (x_iload g 8 dX5_trace_140 rfl
 (x_jn (fun (J11 : Option (Unit × Mem)) => X J (fun q : Unit × Mem => ((none : Option Value), q.2)) J11 176 [(0, .ref t), (1, .ref xr1), (2, .int x2), (3, .int x3), (4, .int x4), (5, .int x5), (6, .int x6)] [] M) (x_aload_n g 0 dX5_trace_176 rfl rfl
 (x_getS g 2 fl_RX5_15 rfl ht dX5_trace_177
 (x_iload g 4 dX5_trace_180 rfl
 (x_iconst g dX5_trace_182 kI_m1
 (x_iast g (so_5_1 ht) dX5_trace_183 (x_nmM (fun M12 =>
 (x_iinc (L' := [(4, .int (x4 + 1)), (0, .ref t), (1, .ref xr1), (2, .int x2), (3, .int x3), (5, .int x5), (6, .int x6)]) (v := (x4 + 1)) g 4 dX5_trace_184 rfl (by rw [kI_1]) hn (Nat.le_of_ble_eq_true rfl) rfl
 (x_goto g 193 dX5_trace_187 rfl
 (x_sub [1, 2, 3, 4, 0, 5, 6] rfl (hJ9 (x4 + 1) x5 M12))))))))))) (fun J11 hJ11 => (x_if_eq g 176 dX5_trace_142 rfl
 (fun _ => (x_sub [0, 1, 2, 3, 4, 5, 6] rfl (hJ11)))
 (fun _ => (x_aload_n g 0 dX5_trace_145 rfl rfl
 (x_getS g 1 fl_RX5_11 rfl ht dX5_trace_146
 (x_iload g 7 dX5_trace_149 rfl
 (x_iald g (so_5_0 ht) dX5_trace_151
 (x_aload_n g 1 dX5_trace_152 rfl rfl
 (x_iload_n g 2 dX5_trace_153 rfl rfl
 (x_iload g 4 dX5_trace_154 rfl
 (x_callSip (As := [.int x2, .int x4]) g mv_X10_slot ms_X10_slot lk_RX5_38 (fun b hb => kX10_slot x2 x4 M _ _ hb) rfl rfl hR ⟨Nat.le_of_ble_eq_true rfl, Nat.le_of_ble_eq_true rfl⟩ (Nat.le_of_ble_eq_true rfl) dX5_trace_156 (fun v13 =>
 (x_callSip (As := [.ref xr1, .int v13]) g mv_X5_leftOutCost ms_X5_leftOutCost lk_RX5_47 (fun b hb => kX5_leftOutCost xr1 v13 M hxr1 _ _ hb) rfl rfl hR ⟨Nat.le_of_ble_eq_true rfl, Nat.le_of_ble_eq_true rfl⟩ (Nat.le_of_ble_eq_true rfl) dX5_trace_159 (fun v14 =>
 (x_aload_n g 0 dX5_trace_162 rfl rfl
 (x_getS g 1 fl_RX5_11 rfl ht dX5_trace_163
 (x_iload g 7 dX5_trace_166 rfl
 (x_bipush g dX5_trace_168 kB_13
 (x_iadd g dX5_trace_170
 (x_iald g (so_5_0 ht) dX5_trace_171
 (x_iadd g dX5_trace_172
 (x_icmp_ne g 190 dX5_trace_173 rfl
 (fun _ => (x_iinc (L' := [(5, .int (x5 + 1)), (0, .ref t), (1, .ref xr1), (2, .int x2), (3, .int x3), (4, .int x4), (6, .int x6), (7, .int v3), (8, .int v4)]) (v := (x5 + 1)) g 5 dX5_trace_190 rfl (by rw [kI_1]) hn (Nat.le_of_ble_eq_true rfl) rfl
 (x_sub [1, 2, 3, 4, 5, 0, 6] rfl (hJ9 x4 (x5 + 1) M))))
 (fun _ => (x_sub [0, 1, 2, 3, 4, 5, 6] rfl (hJ11))))))))))))))))))))))))))) (fun J10 hJ10 => (x_if_eq g 140 dX5_trace_70 rfl
 (fun _ => (x_sub [1, 2, 3, 4, 5, 6, 7, 8, 0] rfl (hJ10)))
 (fun _ => (x_aload_n g 1 dX5_trace_73 rfl rfl
 (x_getS g 1 fl_RX5_11 rfl ht dX5_trace_74
 (x_iload g 8 dX5_trace_77 rfl
 (x_iald g (so_5_0 ht) dX5_trace_79
 (x_aload_n g 2 dX5_trace_80 rfl rfl
 (x_iload_n g 3 dX5_trace_81 rfl rfl
 (x_iload g 5 dX5_trace_82 rfl
 (x_callSip (As := [.int x2, .int x4]) g mv_X10_slot ms_X10_slot lk_RX5_38 (fun b hb => kX10_slot x2 x4 M _ _ hb) rfl rfl hR ⟨Nat.le_of_ble_eq_true rfl, Nat.le_of_ble_eq_true rfl⟩ (Nat.le_of_ble_eq_true rfl) dX5_trace_84 (fun v15 =>
 (x_iload_n g 4 dX5_trace_87 rfl rfl
 (x_iload g 6 dX5_trace_88 rfl
 (x_callSip (As := [.int x3, .int x5]) g mv_X10_slot ms_X10_slot lk_RX5_38 (fun b hb => kX10_slot x3 x5 M _ _ hb) rfl rfl hR ⟨Nat.le_of_ble_eq_true rfl, Nat.le_of_ble_eq_true rfl⟩ (Nat.le_of_ble_eq_true rfl) dX5_trace_90 (fun v16 =>
 (x_callSip (As := [.ref xr1, .int v15, .int v16]) g mv_X5_pairCost ms_X5_pairCost lk_RX5_43 (fun b hb => kX5_pairCost xr1 v15 v16 M hxr1 _ _ hb) rfl rfl hR ⟨Nat.le_of_ble_eq_true rfl, Nat.le_of_ble_eq_true rfl⟩ (Nat.le_of_ble_eq_true rfl) dX5_trace_93 (fun v17 =>
 (x_aload_n g 1 dX5_trace_96 rfl rfl
 (x_getS g 1 fl_RX5_11 rfl ht dX5_trace_97
 (x_iload g 8 dX5_trace_100 rfl
 (x_bipush g dX5_trace_102 kB_13
 (x_iadd g dX5_trace_104
 (x_iconst g dX5_trace_105 kI_1
 (x_iadd g dX5_trace_106
 (x_iald g (so_5_0 ht) dX5_trace_107
 (x_iadd g dX5_trace_108
 (x_icmp_ne g 140 dX5_trace_109 rfl
 (fun _ => (x_sub [1, 2, 3, 4, 5, 6, 7, 8, 0] rfl (hJ10)))
 (fun _ => (x_aload_n g 1 dX5_trace_112 rfl rfl
 (x_getS g 2 fl_RX5_15 rfl ht dX5_trace_113
 (x_iload g 5 dX5_trace_116 rfl
 (x_iload g 6 dX5_trace_118 rfl
 (x_iast g (so_5_1 ht) dX5_trace_120 (x_nmM (fun M18 =>
 (x_aload_n g 1 dX5_trace_121 rfl rfl
 (x_dup g dX5_trace_122 rfl
 (x_getI g fl_RX5_22 rfl ht dX5_trace_123
 (x_iconst g dX5_trace_126 kI_1
 (x_iadd g dX5_trace_127
 (x_putI g fp_RX5_22 rfl (Nat.le_of_ble_eq_true rfl) ht dX5_trace_128 (x_nmM (fun M19 =>
 (x_iinc (L' := [(4, .int (x4 + 1)), (8, .int v4), (0, .ref t), (1, .ref xr1), (2, .int x2), (3, .int x3), (5, .int x5), (6, .int x6), (7, .int v3)]) (v := (x4 + 1)) g 5 dX5_trace_131 rfl (by rw [kI_1]) hn (Nat.le_of_ble_eq_true rfl) rfl
 (x_iinc (L' := [(5, .int (x5 + 1)), (4, .int (x4 + 1)), (8, .int v4), (0, .ref t), (1, .ref xr1), (2, .int x2), (3, .int x3), (6, .int x6), (7, .int v3)]) (v := (x5 + 1)) g 6 dX5_trace_134 rfl (by rw [kI_1]) hn (Nat.le_of_ble_eq_true rfl) rfl
 (x_goto g 193 dX5_trace_137 rfl
 (x_sub [3, 4, 5, 6, 1, 0, 7] rfl (hJ9 (x4 + 1) (x5 + 1) M19))))))))))))))))))))))))))))))))))))))))))))))))))))))) (fun J5 hJ5 => (x_icmp_ge g 65 dX5_trace_58 rfl
 (fun _ => (x_iconst g dX5_trace_65 kI_0
 (x_sub [1, 2, 3, 4, 5, 6, 7, 0] rfl (hJ5 (0 : Int32)))))
 (fun _ => (x_iconst g dX5_trace_61 kI_1
 (x_goto g 66 dX5_trace_62 rfl
 (x_sub [1, 2, 3, 4, 5, 6, 7, 0] rfl (hJ5 (1 : Int32)))))))))))))))))))))))))))))))
def fX5_trace (φ : Nat) (t : Nat) (a1 : Nat) (a2 : Int32) (a3 : Int32) (M : Mem) : Option (Unit × Mem) :=
  ixk a2 6 (
 nm (stI M t 2 (M.1 (a1 + 7) a2.toNatClampNeg)) (fun M1 =>
 nm (stI M1 t 3 (0 : Int32)) (fun M2 =>
 lX5_trace_24 t a1 a2 a3 φ (0 : Int32) (0 : Int32) (0 : Int32) M2)))
set_option maxRecDepth 100000 in
set_option maxHeartbeats 4000000 in
theorem kX5_trace (φ : Nat) (t : Nat) (a1 : Nat) (a2 : Int32) (a3 : Int32) (M : Mem) (ht : isO 5 t) (ha1 : isO 2 a1) (l : Launch) (G : GT) {b : (Unit × Mem)} (hE : fX5_trace φ t a1 a2 a3 M = some b) : Ok l G yX5_trace cX5_trace 9 none 2 52 [.ref t, .ref a1, .int a2, .int a3] M ((fun q : Unit × Mem => ((none : Option Value), q.2)) b).1 ((fun q : Unit × Mem => ((none : Option Value), q.2)) b).2 := by
  refine Ok.ofX (pj := (fun q : Unit × Mem => ((none : Option Value), q.2))) (by decide) (Nat.le_of_ble_eq_true rfl) hE (fun J g hr hG hl hR hn => ?_)
  show X J (fun q : Unit × Mem => ((none : Option Value), q.2)) (fX5_trace φ t a1 a2 a3 M) 0 [(0, .ref t), (1, .ref a1), (2, .int a2), (3, .int a3)] [] M
  unfold fX5_trace
  exact (x_aload_n g 0 dX5_trace_0 rfl rfl
 (x_aload_n g 1 dX5_trace_1 rfl rfl
 (x_getS g 7 fl_RX5_25 rfl ha1 dX5_trace_2
 (x_iload_n g 2 dX5_trace_5 rfl rfl
 (x_iald g (so_2_8 ha1) dX5_trace_6
 (x_putI g fp_RX5_18 rfl (Nat.le_of_ble_eq_true rfl) ht dX5_trace_7 (x_nmM (fun M1 =>
 (x_aload_n g 0 dX5_trace_10 rfl rfl
 (x_iconst g dX5_trace_11 kI_0
 (x_putI g fp_RX5_22 rfl (Nat.le_of_ble_eq_true rfl) ht dX5_trace_12 (x_nmM (fun M2 =>
 (x_iconst g dX5_trace_15 kI_0
 (x_istore (L' := [(4, .int (0 : Int32)), (0, .ref t), (1, .ref a1), (2, .int a2), (3, .int a3)]) g dX5_trace_16 hn (Nat.le_of_ble_eq_true rfl) rfl
 (x_iconst g dX5_trace_18 kI_0
 (x_istore (L' := [(5, .int (0 : Int32)), (4, .int (0 : Int32)), (0, .ref t), (1, .ref a1), (2, .int a2), (3, .int a3)]) g dX5_trace_19 hn (Nat.le_of_ble_eq_true rfl) rfl
 (x_iconst g dX5_trace_21 kI_0
 (x_istore (L' := [(6, .int (0 : Int32)), (5, .int (0 : Int32)), (4, .int (0 : Int32)), (0, .ref t), (1, .ref a1), (2, .int a2), (3, .int a3)]) g dX5_trace_22 hn (Nat.le_of_ble_eq_true rfl) rfl
 (x_sub [3, 4, 5, 6, 2, 1, 0] rfl (wlX5_trace_24 g hr hR hn  t a1 a2 a3 ht ha1 φ (0 : Int32) (0 : Int32) (0 : Int32) M2)))))))))))))))))))))
def lX5_workOut_21 (K56 : Mem → Option (Int32 × Mem)) (t : Nat) (xr1 : Nat) (x2 : Int32) (x3 : Int32) (x4 : Int32) : Nat → Int32 → Mem → Option (Int32 × Mem)
  | 0, _, _ => none
  | n + 1, x5, M =>
    if x5 < 0 then
 K56 M
 else
 (fX5_leastFrom t xr1 x2 x4 x3 x5 M).bind fun v3 =>
 ixk ((x4 * (13 : Int32)) + x5) 169 (nm (stI M (t + 1) ((x4 * (13 : Int32)) + x5).toNatClampNeg v3) (fun M4 =>
 lX5_workOut_21 K56 t xr1 x2 x3 x4 n (x5 + (-1)) M4))
theorem lX5_workOut_21_s (K56 : Mem → Option (Int32 × Mem)) (t : Nat) (xr1 : Nat) (x2 : Int32) (x3 : Int32) (x4 : Int32) (n : Nat) (x5 : Int32) (M : Mem) : lX5_workOut_21 K56 t xr1 x2 x3 x4 (n + 1) x5 M =
    if x5 < 0 then
 K56 M
 else
 (fX5_leastFrom t xr1 x2 x4 x3 x5 M).bind fun v3 =>
 ixk ((x4 * (13 : Int32)) + x5) 169 (nm (stI M (t + 1) ((x4 * (13 : Int32)) + x5).toNatClampNeg v3) (fun M4 =>
 lX5_workOut_21 K56 t xr1 x2 x3 x4 n (x5 + (-1)) M4)) := rfl
theorem lX5_workOut_21_0 (K56 : Mem → Option (Int32 × Mem)) (t : Nat) (xr1 : Nat) (x2 : Int32) (x3 : Int32) (x4 : Int32) (x5 : Int32) (M : Mem) : lX5_workOut_21 K56 t xr1 x2 x3 x4 0 x5 M = none := rfl
set_option maxRecDepth 100000 in
set_option maxHeartbeats 4000000 in
theorem wlX5_workOut_21 {J : JT} (g : Gd J cX5_workOut RX5) (hr : Rt J (some .int)) (hR : (JR J).frames = 3 ∧ (JR J).locals = 83) (hn : Jn J = 6) (K56 : Mem → Option (Int32 × Mem)) (t : Nat) (xr1 : Nat) (x2 : Int32) (x3 : Int32) (x4 : Int32) (ht : isO 5 t) (hxr1 : isO 2 xr1) (hK56 : ∀ (M : Mem), X J (fun q : Int32 × Mem => (some (Value.int q.1), q.2)) (K56 M) 56 [(0, .ref t), (1, .ref xr1), (2, .int x2), (3, .int x3), (4, .int x4)] [] M) : ∀ (n : Nat) (x5 : Int32) (M : Mem), X J (fun q : Int32 × Mem => (some (Value.int q.1), q.2)) (lX5_workOut_21 K56 t xr1 x2 x3 x4 n x5 M) 21 [(0, .ref t), (1, .ref xr1), (2, .int x2), (3, .int x3), (4, .int x4), (5, .int x5)] [] M := by
  intro n
  induction n with
  | zero =>
    intro x5 M
    exact x_none
  | succ n ih =>
    intro x5 M
    rw [lX5_workOut_21_s]
    exact (x_iload g 5 dX5_workOut_21 rfl
 (x_if_lt g 56 dX5_workOut_23 rfl
 (fun _ => (x_sub [0, 1, 2, 3, 4] rfl (hK56 M)))
 (fun _ => (x_aload_n g 0 dX5_workOut_26 rfl rfl
 (x_getS g 1 fl_RX5_11 rfl ht dX5_workOut_27
 (x_iload g 4 dX5_workOut_30 rfl
 (x_bipush g dX5_workOut_32 kB_13
 (x_imul g dX5_workOut_34
 (x_iload g 5 dX5_workOut_35 rfl
 (x_iadd g dX5_workOut_37
 (x_aload_n g 0 dX5_workOut_38 rfl rfl
 (x_aload_n g 1 dX5_workOut_39 rfl rfl
 (x_iload_n g 2 dX5_workOut_40 rfl rfl
 (x_iload g 4 dX5_workOut_41 rfl
 (x_iload_n g 3 dX5_workOut_43 rfl rfl
 (x_iload g 5 dX5_workOut_44 rfl
 (x_callVip (As := [.ref xr1, .int x2, .int x4, .int x3, .int x5]) g mv_X5_leastFrom mi_X5_leastFrom lk_RX5_30 ht (fun b hb => kX5_leastFrom t xr1 x2 x4 x3 x5 M ht hxr1 _ _ hb) rfl rfl hR ⟨Nat.le_of_ble_eq_true rfl, Nat.le_of_ble_eq_true rfl⟩ (Nat.le_of_ble_eq_true rfl) dX5_workOut_46 (fun v3 =>
 (x_iast g (so_5_0 ht) dX5_workOut_49 (x_nmM (fun M4 =>
 (x_iinc (L' := [(5, .int (x5 + (-1))), (0, .ref t), (1, .ref xr1), (2, .int x2), (3, .int x3), (4, .int x4)]) (v := (x5 + (-1))) g 5 dX5_workOut_50 rfl (by rw [kI_m1]) hn (Nat.le_of_ble_eq_true rfl) rfl
 (x_goto g 21 dX5_workOut_53 rfl
 (x_sub [1, 2, 3, 4, 5, 0] rfl (ih (x5 + (-1)) M4)))))))))))))))))))))))))
def lX5_workOut_8 (K62 : Mem → Option (Int32 × Mem)) (φ : Nat) (t : Nat) (xr1 : Nat) (x2 : Int32) (x3 : Int32) : Nat → Int32 → Mem → Option (Int32 × Mem)
  | 0, _, _ => none
  | n + 1, x4, M =>
    if x4 < 0 then
 K62 M
 else
 ixk x3 6 (
 nm (M.1 (xr1 + 7) x3.toNatClampNeg) (fun v2 =>
 lX5_workOut_21 (fun (M5 : Mem) => lX5_workOut_8 K62 φ t xr1 x2 x3 n (x4 + (-1)) M5) t xr1 x2 x3 x4 φ v2 M))
theorem lX5_workOut_8_s (K62 : Mem → Option (Int32 × Mem)) (φ : Nat) (t : Nat) (xr1 : Nat) (x2 : Int32) (x3 : Int32) (n : Nat) (x4 : Int32) (M : Mem) : lX5_workOut_8 K62 φ t xr1 x2 x3 (n + 1) x4 M =
    if x4 < 0 then
 K62 M
 else
 ixk x3 6 (
 nm (M.1 (xr1 + 7) x3.toNatClampNeg) (fun v2 =>
 lX5_workOut_21 (fun (M5 : Mem) => lX5_workOut_8 K62 φ t xr1 x2 x3 n (x4 + (-1)) M5) t xr1 x2 x3 x4 φ v2 M)) := rfl
theorem lX5_workOut_8_0 (K62 : Mem → Option (Int32 × Mem)) (φ : Nat) (t : Nat) (xr1 : Nat) (x2 : Int32) (x3 : Int32) (x4 : Int32) (M : Mem) : lX5_workOut_8 K62 φ t xr1 x2 x3 0 x4 M = none := rfl
set_option maxRecDepth 100000 in
set_option maxHeartbeats 4000000 in
theorem wlX5_workOut_8 {J : JT} (g : Gd J cX5_workOut RX5) (hr : Rt J (some .int)) (hR : (JR J).frames = 3 ∧ (JR J).locals = 83) (hn : Jn J = 6) (K62 : Mem → Option (Int32 × Mem)) (φ : Nat) (t : Nat) (xr1 : Nat) (x2 : Int32) (x3 : Int32) (ht : isO 5 t) (hxr1 : isO 2 xr1) (hK62 : ∀ (M : Mem), X J (fun q : Int32 × Mem => (some (Value.int q.1), q.2)) (K62 M) 62 [(0, .ref t), (1, .ref xr1), (2, .int x2), (3, .int x3)] [] M) : ∀ (n : Nat) (x4 : Int32) (M : Mem), X J (fun q : Int32 × Mem => (some (Value.int q.1), q.2)) (lX5_workOut_8 K62 φ t xr1 x2 x3 n x4 M) 8 [(0, .ref t), (1, .ref xr1), (2, .int x2), (3, .int x3), (4, .int x4)] [] M := by
  intro n
  induction n with
  | zero =>
    intro x4 M
    exact x_none
  | succ n ih =>
    intro x4 M
    rw [lX5_workOut_8_s]
    exact (x_iload g 4 dX5_workOut_8 rfl
 (x_if_lt g 62 dX5_workOut_10 rfl
 (fun _ => (x_sub [0, 1, 2, 3] rfl (hK62 M)))
 (fun _ => (x_aload_n g 1 dX5_workOut_13 rfl rfl
 (x_getS g 7 fl_RX5_25 rfl hxr1 dX5_workOut_14
 (x_iload_n g 3 dX5_workOut_17 rfl rfl
 (x_iald g (so_2_8 hxr1) dX5_workOut_18
 (x_nmI (fun v2 => (x_istore (L' := [(5, .int v2), (0, .ref t), (1, .ref xr1), (2, .int x2), (3, .int x3), (4, .int x4)]) g dX5_workOut_19 hn (Nat.le_of_ble_eq_true rfl) rfl
 (x_sub [1, 2, 3, 4, 5, 0] rfl (wlX5_workOut_21 g hr hR hn _ t xr1 x2 x3 x4 ht hxr1
 (fun M5 => by exact (x_iinc (L' := [(4, .int (x4 + (-1))), (0, .ref t), (1, .ref xr1), (2, .int x2), (3, .int x3)]) (v := (x4 + (-1))) g 4 dX5_workOut_56 rfl (by rw [kI_m1]) hn (Nat.le_of_ble_eq_true rfl) rfl
 (x_goto g 8 dX5_workOut_59 rfl
 (x_sub [1, 2, 3, 4, 0] rfl (ih (x4 + (-1)) M5))))) φ v2 M))))))))))))
def fX5_workOut (φ : Nat) (t : Nat) (a1 : Nat) (a2 : Int32) (a3 : Int32) (M : Mem) : Option (Int32 × Mem) :=
  ixk a2 6 (
 nm (M.1 (a1 + 7) a2.toNatClampNeg) (fun v1 =>
 lX5_workOut_8 (fun (M6 : Mem) => bd (fX5_trace φ t a1 a2 a3 M6) fun vu7 M8 =>
 ixk (0 : Int32) 169 (
 some ((M8.1 (t + 1) (0 : Int32).toNatClampNeg), M8))) φ t a1 a2 a3 φ v1 M))
set_option maxRecDepth 100000 in
set_option maxHeartbeats 4000000 in
theorem kX5_workOut (φ : Nat) (t : Nat) (a1 : Nat) (a2 : Int32) (a3 : Int32) (M : Mem) (ht : isO 5 t) (ha1 : isO 2 a1) (l : Launch) (G : GT) {b : (Int32 × Mem)} (hE : fX5_workOut φ t a1 a2 a3 M = some b) : Ok l G yX5_workOut cX5_workOut 6 (some .int) 3 83 [.ref t, .ref a1, .int a2, .int a3] M ((fun q : Int32 × Mem => (some (Value.int q.1), q.2)) b).1 ((fun q : Int32 × Mem => (some (Value.int q.1), q.2)) b).2 := by
  refine Ok.ofX (pj := (fun q : Int32 × Mem => (some (Value.int q.1), q.2))) (by decide) (Nat.le_of_ble_eq_true rfl) hE (fun J g hr hG hl hR hn => ?_)
  show X J (fun q : Int32 × Mem => (some (Value.int q.1), q.2)) (fX5_workOut φ t a1 a2 a3 M) 0 [(0, .ref t), (1, .ref a1), (2, .int a2), (3, .int a3)] [] M
  unfold fX5_workOut
  exact (x_aload_n g 1 dX5_workOut_0 rfl rfl
 (x_getS g 7 fl_RX5_25 rfl ha1 dX5_workOut_1
 (x_iload_n g 2 dX5_workOut_4 rfl rfl
 (x_iald g (so_2_8 ha1) dX5_workOut_5
 (x_nmI (fun v1 => (x_istore (L' := [(4, .int v1), (0, .ref t), (1, .ref a1), (2, .int a2), (3, .int a3)]) g dX5_workOut_6 hn (Nat.le_of_ble_eq_true rfl) rfl
 (x_sub [1, 2, 3, 4, 0] rfl (wlX5_workOut_8 g hr hR hn _ φ t a1 a2 a3 ht ha1
 (fun M6 => by exact (x_aload_n g 0 dX5_workOut_62 rfl rfl
 (x_aload_n g 1 dX5_workOut_63 rfl rfl
 (x_iload_n g 2 dX5_workOut_64 rfl rfl
 (x_iload_n g 3 dX5_workOut_65 rfl rfl
 (x_callVv (As := [.ref a1, .int a2, .int a3]) g mv_X5_trace mi_X5_trace lk_RX5_34 ht (fun b Mh_ hb => kX5_trace φ t a1 a2 a3 M6 ht ha1 _ _ hb) rfl rfl hR ⟨Nat.le_of_ble_eq_true rfl, Nat.le_of_ble_eq_true rfl⟩ (Nat.le_of_ble_eq_true rfl) dX5_workOut_66 (fun vu7 M8 =>
 (x_aload_n g 0 dX5_workOut_69 rfl rfl
 (x_getS g 1 fl_RX5_11 rfl ht dX5_workOut_70
 (x_iconst g dX5_workOut_73 kI_0
 (x_iald g (so_5_0 ht) dX5_workOut_74
 (x_iret g hr rfl rfl dX5_workOut_75)))))))))))) φ v1 M)))))))))
def fX10_match (φ : Nat) (t : Nat) (a1 : Int32) (a2 : Int32) (M : Mem) : Option (Int32 × Mem) :=
  (ldr 2 (M.2.2 t 7)).bind fun vr1 =>
 (fX2_isHole vr1 a1 M).bind fun v2 =>
 if v2 = 0 then
 bd (fX10_refuse t (1 : Int32) M) fun v3 M4 =>
 some (v3, M4)
 else
 (ldr 2 (M.2.2 t 7)).bind fun vr5 =>
 (fX2_isHole vr5 a2 M).bind fun v6 =>
 if v6 = 0 then
 bd (fX10_refuse t (1 : Int32) M) fun v7 M8 =>
 some (v7, M8)
 else
 if a1 = a2 then
 bd (fX10_refuse t (1 : Int32) M) fun v14 M15 =>
 some (v14, M15)
 else
 (ldr 2 (M.2.2 t 7)).bind fun vr9 =>
 bd (fX5_workOut φ (t + 54) vr9 a1 a2 M) fun v10 M11 =>
 bd (fX10_answer t v10 M11) fun v12 M13 =>
 some (v12, M13)
set_option maxRecDepth 100000 in
set_option maxHeartbeats 4000000 in
theorem kX10_match (φ : Nat) (t : Nat) (a1 : Int32) (a2 : Int32) (M : Mem) (ht : isO 10 t) (l : Launch) (G : GT) {b : (Int32 × Mem)} (hE : fX10_match φ t a1 a2 M = some b) : Ok l G yX10_match cX10_match 3 (some .int) 4 108 [.ref t, .int a1, .int a2] M ((fun q : Int32 × Mem => (some (Value.int q.1), q.2)) b).1 ((fun q : Int32 × Mem => (some (Value.int q.1), q.2)) b).2 := by
  refine Ok.ofX (pj := (fun q : Int32 × Mem => (some (Value.int q.1), q.2))) (by decide) (Nat.le_of_ble_eq_true rfl) hE (fun J g hr hG hl hR hn => ?_)
  show X J (fun q : Int32 × Mem => (some (Value.int q.1), q.2)) (fX10_match φ t a1 a2 M) 0 [(0, .ref t), (1, .int a1), (2, .int a2)] [] M
  unfold fX10_match
  exact (x_aload_n g 0 dX10_match_0 rfl rfl
 (x_getD g fl_RX10_50 rfl ht dX10_match_1 (fun vr1 hvr1 =>
 (x_iload_n g 1 dX10_match_4 rfl rfl
 (x_callVip (As := [.int a1]) g mv_X2_isHole mi_X2_isHole lk_RX10_225 hvr1 (fun b hb => kX2_isHole vr1 a1 M hvr1 _ _ hb) rfl rfl hR ⟨Nat.le_of_ble_eq_true rfl, Nat.le_of_ble_eq_true rfl⟩ (Nat.le_of_ble_eq_true rfl) dX10_match_5 (fun v2 =>
 (x_if_eq g 27 dX10_match_8 rfl
 (fun _ => (x_aload_n g 0 dX10_match_27 rfl rfl
 (x_iconst g dX10_match_28 kI_1
 (x_callVi (As := [.int (1 : Int32)]) g mv_X10_refuse mi_X10_refuse lk_RX10_137 ht (fun b Mh_ hb => kX10_refuse t (1 : Int32) M ht _ _ hb) rfl rfl hR ⟨Nat.le_of_ble_eq_true rfl, Nat.le_of_ble_eq_true rfl⟩ (Nat.le_of_ble_eq_true rfl) dX10_match_29 (fun v3 M4 =>
 (x_iret g hr rfl rfl dX10_match_32))))))
 (fun _ => (x_aload_n g 0 dX10_match_11 rfl rfl
 (x_getD g fl_RX10_50 rfl ht dX10_match_12 (fun vr5 hvr5 =>
 (x_iload_n g 2 dX10_match_15 rfl rfl
 (x_callVip (As := [.int a2]) g mv_X2_isHole mi_X2_isHole lk_RX10_225 hvr5 (fun b hb => kX2_isHole vr5 a2 M hvr5 _ _ hb) rfl rfl hR ⟨Nat.le_of_ble_eq_true rfl, Nat.le_of_ble_eq_true rfl⟩ (Nat.le_of_ble_eq_true rfl) dX10_match_16 (fun v6 =>
 (x_if_eq g 27 dX10_match_19 rfl
 (fun _ => (x_aload_n g 0 dX10_match_27 rfl rfl
 (x_iconst g dX10_match_28 kI_1
 (x_callVi (As := [.int (1 : Int32)]) g mv_X10_refuse mi_X10_refuse lk_RX10_137 ht (fun b Mh_ hb => kX10_refuse t (1 : Int32) M ht _ _ hb) rfl rfl hR ⟨Nat.le_of_ble_eq_true rfl, Nat.le_of_ble_eq_true rfl⟩ (Nat.le_of_ble_eq_true rfl) dX10_match_29 (fun v7 M8 =>
 (x_iret g hr rfl rfl dX10_match_32))))))
 (fun _ => (x_iload_n g 1 dX10_match_22 rfl rfl
 (x_iload_n g 2 dX10_match_23 rfl rfl
 (x_icmp_ne g 33 dX10_match_24 rfl
 (fun _ => (x_aload_n g 0 dX10_match_33 rfl rfl
 (x_aload_n g 0 dX10_match_34 rfl rfl
 (x_getS g 54 fl_RX10_81 rfl ht dX10_match_35
 (x_aload_n g 0 dX10_match_38 rfl rfl
 (x_getD g fl_RX10_50 rfl ht dX10_match_39 (fun vr9 hvr9 =>
 (x_iload_n g 1 dX10_match_42 rfl rfl
 (x_iload_n g 2 dX10_match_43 rfl rfl
 (x_callVi (As := [.ref vr9, .int a1, .int a2]) g mv_X5_workOut mi_X5_workOut lk_RX10_274 (so_10_14 ht) (fun b Mh_ hb => kX5_workOut φ (t + 54) vr9 a1 a2 M (so_10_14 ht) hvr9 _ _ hb) rfl rfl hR ⟨Nat.le_of_ble_eq_true rfl, Nat.le_of_ble_eq_true rfl⟩ (Nat.le_of_ble_eq_true rfl) dX10_match_44 (fun v10 M11 =>
 (x_callVi (As := [.int v10]) g mv_X10_answer mi_X10_answer lk_RX10_187 ht (fun b Mh_ hb => kX10_answer t v10 M11 ht _ _ hb) rfl rfl hR ⟨Nat.le_of_ble_eq_true rfl, Nat.le_of_ble_eq_true rfl⟩ (Nat.le_of_ble_eq_true rfl) dX10_match_47 (fun v12 M13 =>
 (x_iret g hr rfl rfl dX10_match_50))))))))))))))
 (fun _ => (x_aload_n g 0 dX10_match_27 rfl rfl
 (x_iconst g dX10_match_28 kI_1
 (x_callVi (As := [.int (1 : Int32)]) g mv_X10_refuse mi_X10_refuse lk_RX10_137 ht (fun b Mh_ hb => kX10_refuse t (1 : Int32) M ht _ _ hb) rfl rfl hR ⟨Nat.le_of_ble_eq_true rfl, Nat.le_of_ble_eq_true rfl⟩ (Nat.le_of_ble_eq_true rfl) dX10_match_29 (fun v14 M15 =>
 (x_iret g hr rfl rfl dX10_match_32)))))))))))))))))))))))))
def fX5_mateOf (t : Nat) (a1 : Int32) (M : Mem) : Option Int32 :=
  if a1 < 0 then
 some (-1 : Int32)
 else
 if (M.1 t 2) ≤ a1 then
 some (-1 : Int32)
 else
 ixk a1 12 (
 some (M.1 (t + 2) a1.toNatClampNeg))
set_option maxRecDepth 100000 in
set_option maxHeartbeats 4000000 in
theorem kX5_mateOf (t : Nat) (a1 : Int32) (M : Mem) (ht : isO 5 t) (l : Launch) (G : GT) {b : Int32} (hE : fX5_mateOf t a1 M = some b) : Ok l G yX5_mateOf cX5_mateOf 2 (some .int) 0 0 [.ref t, .int a1] M ((fun b : Int32 => (some (Value.int b), M)) b).1 ((fun b : Int32 => (some (Value.int b), M)) b).2 := by
  refine Ok.ofX (pj := (fun b : Int32 => (some (Value.int b), M))) (by decide) (Nat.le_of_ble_eq_true rfl) hE (fun J g hr hG hl hR hn => ?_)
  show X J (fun b : Int32 => (some (Value.int b), M)) (fX5_mateOf t a1 M) 0 [(0, .ref t), (1, .int a1)] [] M
  unfold fX5_mateOf
  exact (x_iload_n g 1 dX5_mateOf_0 rfl rfl
 (x_if_lt g 21 dX5_mateOf_1 rfl
 (fun _ => (x_iconst g dX5_mateOf_21 kI_m1
 (x_iret g hr rfl rfl dX5_mateOf_22)))
 (fun _ => (x_iload_n g 1 dX5_mateOf_4 rfl rfl
 (x_aload_n g 0 dX5_mateOf_5 rfl rfl
 (x_getI g fl_RX5_18 rfl ht dX5_mateOf_6
 (x_icmp_ge g 21 dX5_mateOf_9 rfl
 (fun _ => (x_iconst g dX5_mateOf_21 kI_m1
 (x_iret g hr rfl rfl dX5_mateOf_22)))
 (fun _ => (x_aload_n g 0 dX5_mateOf_12 rfl rfl
 (x_getS g 2 fl_RX5_15 rfl ht dX5_mateOf_13
 (x_iload_n g 1 dX5_mateOf_16 rfl rfl
 (x_iald g (so_5_1 ht) dX5_mateOf_17
 (x_goto g 22 dX5_mateOf_18 rfl
 (x_iret g hr rfl rfl dX5_mateOf_22))))))))))))))
def fX10_pairOf (t : Nat) (a1 : Int32) (M : Mem) : Option (Int32 × Mem) :=
  (fX5_mateOf (t + 54) a1 M).bind fun v1 =>
 bd (fX10_answerOrNoSuch t v1 M) fun v2 M3 =>
 some (v2, M3)
set_option maxRecDepth 100000 in
set_option maxHeartbeats 4000000 in
theorem kX10_pairOf (t : Nat) (a1 : Int32) (M : Mem) (ht : isO 10 t) (l : Launch) (G : GT) {b : (Int32 × Mem)} (hE : fX10_pairOf t a1 M = some b) : Ok l G yX10_pairOf cX10_pairOf 2 (some .int) 2 42 [.ref t, .int a1] M ((fun q : Int32 × Mem => (some (Value.int q.1), q.2)) b).1 ((fun q : Int32 × Mem => (some (Value.int q.1), q.2)) b).2 := by
  refine Ok.ofX (pj := (fun q : Int32 × Mem => (some (Value.int q.1), q.2))) (by decide) (Nat.le_of_ble_eq_true rfl) hE (fun J g hr hG hl hR hn => ?_)
  show X J (fun q : Int32 × Mem => (some (Value.int q.1), q.2)) (fX10_pairOf t a1 M) 0 [(0, .ref t), (1, .int a1)] [] M
  unfold fX10_pairOf
  exact (x_aload_n g 0 dX10_pairOf_0 rfl rfl
 (x_aload_n g 0 dX10_pairOf_1 rfl rfl
 (x_getS g 54 fl_RX10_81 rfl ht dX10_pairOf_2
 (x_iload_n g 1 dX10_pairOf_5 rfl rfl
 (x_callVip (As := [.int a1]) g mv_X5_mateOf mi_X5_mateOf lk_RX10_278 (so_10_14 ht) (fun b hb => kX5_mateOf (t + 54) a1 M (so_10_14 ht) _ _ hb) rfl rfl hR ⟨Nat.le_of_ble_eq_true rfl, Nat.le_of_ble_eq_true rfl⟩ (Nat.le_of_ble_eq_true rfl) dX10_pairOf_6 (fun v1 =>
 (x_callVi (As := [.int v1]) g mv_X10_answerOrNoSuch mi_X10_answerOrNoSuch lk_RX10_261 ht (fun b Mh_ hb => kX10_answerOrNoSuch t v1 M ht _ _ hb) rfl rfl hR ⟨Nat.le_of_ble_eq_true rfl, Nat.le_of_ble_eq_true rfl⟩ (Nat.le_of_ble_eq_true rfl) dX10_pairOf_9 (fun v2 M3 =>
 (x_iret g hr rfl rfl dX10_pairOf_12)))))))))
