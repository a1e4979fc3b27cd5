theorem dX11_live_0 : decode cX11_live 0 = .ok (.iload_n 1, 1) := by decide +kernel
theorem dX11_live_1 : decode cX11_live 1 = .ok (.i2l, 1) := by decide +kernel
theorem dX11_live_2 : decode cX11_live 2 = .ok (.lconst 0, 1) := by decide +kernel
theorem dX11_live_3 : decode cX11_live 3 = .ok (.ldc2_w 474, 3) := by decide +kernel
theorem dX11_live_6 : decode cX11_live 6 = .ok (.invokestatic 399, 3) := by decide +kernel
theorem dX11_live_9 : decode cX11_live 9 = .ok (.ifCond .ne 9, 3) := by decide +kernel
theorem dX11_live_12 : decode cX11_live 12 = .ok (.aload_n 0, 1) := by decide +kernel
theorem dX11_live_13 : decode cX11_live 13 = .ok (.iconst 1, 1) := by decide +kernel
theorem dX11_live_14 : decode cX11_live 14 = .ok (.invokevirtual 102, 3) := by decide +kernel
theorem dX11_live_17 : decode cX11_live 17 = .ok (.ireturn, 1) := by decide +kernel
theorem dX11_live_18 : decode cX11_live 18 = .ok (.aload_n 0, 1) := by decide +kernel
theorem dX11_live_19 : decode cX11_live 19 = .ok (.getfield 7, 3) := by decide +kernel
theorem dX11_live_22 : decode cX11_live 22 = .ok (.iconst 4, 1) := by decide +kernel
theorem dX11_live_23 : decode cX11_live 23 = .ok (.iaload, 1) := by decide +kernel
theorem dX11_live_24 : decode cX11_live 24 = .ok (.iconst (-1), 1) := by decide +kernel
theorem dX11_live_25 : decode cX11_live 25 = .ok (.if_icmp .ne 10, 3) := by decide +kernel
theorem dX11_live_28 : decode cX11_live 28 = .ok (.aload_n 0, 1) := by decide +kernel
theorem dX11_live_29 : decode cX11_live 29 = .ok (.bipush 6, 2) := by decide +kernel
theorem dX11_live_31 : decode cX11_live 31 = .ok (.invokevirtual 102, 3) := by decide +kernel
theorem dX11_live_34 : decode cX11_live 34 = .ok (.ireturn, 1) := by decide +kernel
theorem dX11_live_35 : decode cX11_live 35 = .ok (.aload_n 0, 1) := by decide +kernel
theorem dX11_live_36 : decode cX11_live 36 = .ok (.iload_n 1, 1) := by decide +kernel
theorem dX11_live_37 : decode cX11_live 37 = .ok (.invokevirtual 476, 3) := by decide +kernel
theorem dX11_live_40 : decode cX11_live 40 = .ok (.iconst 0, 1) := by decide +kernel
theorem dX11_live_41 : decode cX11_live 41 = .ok (.istore_n 2, 1) := by decide +kernel
theorem dX11_live_42 : decode cX11_live 42 = .ok (.iload_n 2, 1) := by decide +kernel
theorem dX11_live_43 : decode cX11_live 43 = .ok (.iconst 4, 1) := by decide +kernel
theorem dX11_live_44 : decode cX11_live 44 = .ok (.if_icmp .ge 21, 3) := by decide +kernel
theorem dX11_live_47 : decode cX11_live 47 = .ok (.aload_n 0, 1) := by decide +kernel
theorem dX11_live_48 : decode cX11_live 48 = .ok (.getfield 93, 3) := by decide +kernel
theorem dX11_live_51 : decode cX11_live 51 = .ok (.iload_n 2, 1) := by decide +kernel
theorem dX11_live_52 : decode cX11_live 52 = .ok (.aload_n 0, 1) := by decide +kernel
theorem dX11_live_53 : decode cX11_live 53 = .ok (.getfield 90, 3) := by decide +kernel
theorem dX11_live_56 : decode cX11_live 56 = .ok (.iload_n 2, 1) := by decide +kernel
theorem dX11_live_57 : decode cX11_live 57 = .ok (.iaload, 1) := by decide +kernel
theorem dX11_live_58 : decode cX11_live 58 = .ok (.iastore, 1) := by decide +kernel
theorem dX11_live_59 : decode cX11_live 59 = .ok (.iinc 2 1, 3) := by decide +kernel
theorem dX11_live_62 : decode cX11_live 62 = .ok (.goto (-20), 3) := by decide +kernel
theorem dX11_live_65 : decode cX11_live 65 = .ok (.aload_n 0, 1) := by decide +kernel
theorem dX11_live_66 : decode cX11_live 66 = .ok (.iconst 1, 1) := by decide +kernel
theorem dX11_live_67 : decode cX11_live 67 = .ok (.putfield 479, 3) := by decide +kernel
theorem dX11_live_70 : decode cX11_live 70 = .ok (.aload_n 0, 1) := by decide +kernel
theorem dX11_live_71 : decode cX11_live 71 = .ok (.aload_n 0, 1) := by decide +kernel
theorem dX11_live_72 : decode cX11_live 72 = .ok (.getfield 462, 3) := by decide +kernel
theorem dX11_live_75 : decode cX11_live 75 = .ok (.invokevirtual 106, 3) := by decide +kernel
theorem dX11_live_78 : decode cX11_live 78 = .ok (.ireturn, 1) := by decide +kernel
theorem dX11_lived_0 : decode cX11_lived 0 = .ok (.iload_n 1, 1) := by decide +kernel
theorem dX11_lived_1 : decode cX11_lived 1 = .ok (.ifCond .lt 8, 3) := by decide +kernel
theorem dX11_lived_4 : decode cX11_lived 4 = .ok (.iload_n 1, 1) := by decide +kernel
theorem dX11_lived_5 : decode cX11_lived 5 = .ok (.iconst 3, 1) := by decide +kernel
theorem dX11_lived_6 : decode cX11_lived 6 = .ok (.if_icmp .le 11, 3) := by decide +kernel
theorem dX11_lived_9 : decode cX11_lived 9 = .ok (.aload_n 0, 1) := by decide +kernel
theorem dX11_lived_10 : decode cX11_lived 10 = .ok (.iconst 1, 1) := by decide +kernel
theorem dX11_lived_11 : decode cX11_lived 11 = .ok (.invokevirtual 102, 3) := by decide +kernel
theorem dX11_lived_14 : decode cX11_lived 14 = .ok (.goto 29, 3) := by decide +kernel
theorem dX11_lived_17 : decode cX11_lived 17 = .ok (.aload_n 0, 1) := by decide +kernel
theorem dX11_lived_18 : decode cX11_lived 18 = .ok (.getfield 479, 3) := by decide +kernel
theorem dX11_lived_21 : decode cX11_lived 21 = .ok (.ifCond .eq 16, 3) := by decide +kernel
theorem dX11_lived_24 : decode cX11_lived 24 = .ok (.aload_n 0, 1) := by decide +kernel
theorem dX11_lived_25 : decode cX11_lived 25 = .ok (.aload_n 0, 1) := by decide +kernel
theorem dX11_lived_26 : decode cX11_lived 26 = .ok (.getfield 93, 3) := by decide +kernel
theorem dX11_lived_29 : decode cX11_lived 29 = .ok (.iload_n 1, 1) := by decide +kernel
theorem dX11_lived_30 : decode cX11_lived 30 = .ok (.iaload, 1) := by decide +kernel
theorem dX11_lived_31 : decode cX11_lived 31 = .ok (.invokevirtual 106, 3) := by decide +kernel
theorem dX11_lived_34 : decode cX11_lived 34 = .ok (.goto 9, 3) := by decide +kernel
theorem dX11_lived_37 : decode cX11_lived 37 = .ok (.aload_n 0, 1) := by decide +kernel
theorem dX11_lived_38 : decode cX11_lived 38 = .ok (.bipush 6, 2) := by decide +kernel
theorem dX11_lived_40 : decode cX11_lived 40 = .ok (.invokevirtual 102, 3) := by decide +kernel
theorem dX11_lived_43 : decode cX11_lived 43 = .ok (.ireturn, 1) := by decide +kernel
theorem dX11_odds_0 : decode cX11_odds 0 = .ok (.aload_n 0, 1) := by decide +kernel
theorem dX11_odds_1 : decode cX11_odds 1 = .ok (.iload_n 1, 1) := by decide +kernel
theorem dX11_odds_2 : decode cX11_odds 2 = .ok (.invokevirtual 302, 3) := by decide +kernel
theorem dX11_odds_5 : decode cX11_odds 5 = .ok (.ifCond .eq 49, 3) := by decide +kernel
theorem dX11_odds_8 : decode cX11_odds 8 = .ok (.aload_n 0, 1) := by decide +kernel
theorem dX11_odds_9 : decode cX11_odds 9 = .ok (.iload_n 2, 1) := by decide +kernel
theorem dX11_odds_10 : decode cX11_odds 10 = .ok (.i2l, 1) := by decide +kernel
theorem dX11_odds_11 : decode cX11_odds 11 = .ok (.invokevirtual 283, 3) := by decide +kernel
theorem dX11_odds_14 : decode cX11_odds 14 = .ok (.ifCond .eq 40, 3) := by decide +kernel
theorem dX11_odds_17 : decode cX11_odds 17 = .ok (.iload_n 3, 1) := by decide +kernel
theorem dX11_odds_18 : decode cX11_odds 18 = .ok (.i2l, 1) := by decide +kernel
theorem dX11_odds_19 : decode cX11_odds 19 = .ok (.lconst 0, 1) := by decide +kernel
theorem dX11_odds_20 : decode cX11_odds 20 = .ok (.ldc2_w 474, 3) := by decide +kernel
theorem dX11_odds_23 : decode cX11_odds 23 = .ok (.invokestatic 399, 3) := by decide +kernel
theorem dX11_odds_26 : decode cX11_odds 26 = .ok (.ifCond .eq 28, 3) := by decide +kernel
theorem dX11_odds_29 : decode cX11_odds 29 = .ok (.iload 4, 2) := by decide +kernel
theorem dX11_odds_31 : decode cX11_odds 31 = .ok (.i2l, 1) := by decide +kernel
theorem dX11_odds_32 : decode cX11_odds 32 = .ok (.lconst 1, 1) := by decide +kernel
theorem dX11_odds_33 : decode cX11_odds 33 = .ok (.ldc2_w 483, 3) := by decide +kernel
theorem dX11_odds_36 : decode cX11_odds 36 = .ok (.invokestatic 399, 3) := by decide +kernel
theorem dX11_odds_39 : decode cX11_odds 39 = .ok (.ifCond .eq 15, 3) := by decide +kernel
theorem dX11_odds_42 : decode cX11_odds 42 = .ok (.iload_n 3, 1) := by decide +kernel
theorem dX11_odds_43 : decode cX11_odds 43 = .ok (.iload 4, 2) := by decide +kernel
theorem dX11_odds_45 : decode cX11_odds 45 = .ok (.iadd, 1) := by decide +kernel
theorem dX11_odds_46 : decode cX11_odds 46 = .ok (.iconst 1, 1) := by decide +kernel
theorem dX11_odds_47 : decode cX11_odds 47 = .ok (.isub, 1) := by decide +kernel
theorem dX11_odds_48 : decode cX11_odds 48 = .ok (.sipush 9999, 3) := by decide +kernel
theorem dX11_odds_51 : decode cX11_odds 51 = .ok (.if_icmp .le 9, 3) := by decide +kernel
theorem dX11_odds_54 : decode cX11_odds 54 = .ok (.aload_n 0, 1) := by decide +kernel
theorem dX11_odds_55 : decode cX11_odds 55 = .ok (.iconst 1, 1) := by decide +kernel
theorem dX11_odds_56 : decode cX11_odds 56 = .ok (.invokevirtual 109, 3) := by decide +kernel
theorem dX11_odds_59 : decode cX11_odds 59 = .ok (.ireturn, 1) := by decide +kernel
theorem dX11_odds_60 : decode cX11_odds 60 = .ok (.aload_n 0, 1) := by decide +kernel
theorem dX11_odds_61 : decode cX11_odds 61 = .ok (.getfield 7, 3) := by decide +kernel
theorem dX11_odds_64 : decode cX11_odds 64 = .ok (.iconst 4, 1) := by decide +kernel
theorem dX11_odds_65 : decode cX11_odds 65 = .ok (.iaload, 1) := by decide +kernel
theorem dX11_odds_66 : decode cX11_odds 66 = .ok (.iconst (-1), 1) := by decide +kernel
theorem dX11_odds_67 : decode cX11_odds 67 = .ok (.if_icmp .ne 10, 3) := by decide +kernel
theorem dX11_odds_70 : decode cX11_odds 70 = .ok (.aload_n 0, 1) := by decide +kernel
theorem dX11_odds_71 : decode cX11_odds 71 = .ok (.bipush 6, 2) := by decide +kernel
theorem dX11_odds_73 : decode cX11_odds 73 = .ok (.invokevirtual 109, 3) := by decide +kernel
theorem dX11_odds_76 : decode cX11_odds 76 = .ok (.ireturn, 1) := by decide +kernel
theorem dX11_odds_77 : decode cX11_odds 77 = .ok (.iconst 0, 1) := by decide +kernel
theorem dX11_odds_78 : decode cX11_odds 78 = .ok (.istore 5, 2) := by decide +kernel
theorem dX11_odds_80 : decode cX11_odds 80 = .ok (.iload 5, 2) := by decide +kernel
theorem dX11_odds_82 : decode cX11_odds 82 = .ok (.sipush 280, 3) := by decide +kernel
theorem dX11_odds_85 : decode cX11_odds 85 = .ok (.if_icmp .ge 27, 3) := by decide +kernel
theorem dX11_odds_88 : decode cX11_odds 88 = .ok (.aload_n 0, 1) := by decide +kernel
theorem dX11_odds_89 : decode cX11_odds 89 = .ok (.getfield 7, 3) := by decide +kernel
theorem dX11_odds_92 : decode cX11_odds 92 = .ok (.sipush 3250, 3) := by decide +kernel
theorem dX11_odds_95 : decode cX11_odds 95 = .ok (.iload 5, 2) := by decide +kernel
theorem dX11_odds_97 : decode cX11_odds 97 = .ok (.iadd, 1) := by decide +kernel
theorem dX11_odds_98 : decode cX11_odds 98 = .ok (.aload_n 0, 1) := by decide +kernel
theorem dX11_odds_99 : decode cX11_odds 99 = .ok (.getfield 7, 3) := by decide +kernel
theorem dX11_odds_102 : decode cX11_odds 102 = .ok (.iload 5, 2) := by decide +kernel
theorem dX11_odds_104 : decode cX11_odds 104 = .ok (.iaload, 1) := by decide +kernel
theorem dX11_odds_105 : decode cX11_odds 105 = .ok (.iastore, 1) := by decide +kernel
theorem dX11_odds_106 : decode cX11_odds 106 = .ok (.iinc 5 1, 3) := by decide +kernel
theorem dX11_odds_109 : decode cX11_odds 109 = .ok (.goto (-29), 3) := by decide +kernel
theorem dX11_odds_112 : decode cX11_odds 112 = .ok (.iconst 0, 1) := by decide +kernel
theorem dX11_odds_113 : decode cX11_odds 113 = .ok (.istore 5, 2) := by decide +kernel
theorem dX11_odds_115 : decode cX11_odds 115 = .ok (.iconst 0, 1) := by decide +kernel
theorem dX11_odds_116 : decode cX11_odds 116 = .ok (.istore 6, 2) := by decide +kernel
theorem dX11_odds_118 : decode cX11_odds 118 = .ok (.iload 6, 2) := by decide +kernel
theorem dX11_odds_120 : decode cX11_odds 120 = .ok (.iload 4, 2) := by decide +kernel
theorem dX11_odds_122 : decode cX11_odds 122 = .ok (.if_icmp .ge 71, 3) := by decide +kernel
theorem dX11_odds_125 : decode cX11_odds 125 = .ok (.aload_n 0, 1) := by decide +kernel
theorem dX11_odds_126 : decode cX11_odds 126 = .ok (.iload_n 3, 1) := by decide +kernel
theorem dX11_odds_127 : decode cX11_odds 127 = .ok (.iload 6, 2) := by decide +kernel
theorem dX11_odds_129 : decode cX11_odds 129 = .ok (.iadd, 1) := by decide +kernel
theorem dX11_odds_130 : decode cX11_odds 130 = .ok (.invokevirtual 476, 3) := by decide +kernel
theorem dX11_odds_133 : decode cX11_odds 133 = .ok (.iload 5, 2) := by decide +kernel
theorem dX11_odds_135 : decode cX11_odds 135 = .ok (.aload_n 0, 1) := by decide +kernel
theorem dX11_odds_136 : decode cX11_odds 136 = .ok (.iload_n 1, 1) := by decide +kernel
theorem dX11_odds_137 : decode cX11_odds 137 = .ok (.iload_n 2, 1) := by decide +kernel
theorem dX11_odds_138 : decode cX11_odds 138 = .ok (.invokevirtual 459, 3) := by decide +kernel
theorem dX11_odds_141 : decode cX11_odds 141 = .ok (.ifCond .eq 7, 3) := by decide +kernel
theorem dX11_odds_144 : decode cX11_odds 144 = .ok (.iconst 1, 1) := by decide +kernel
theorem dX11_odds_145 : decode cX11_odds 145 = .ok (.goto 4, 3) := by decide +kernel
theorem dX11_odds_148 : decode cX11_odds 148 = .ok (.iconst 0, 1) := by decide +kernel
theorem dX11_odds_149 : decode cX11_odds 149 = .ok (.iadd, 1) := by decide +kernel
theorem dX11_odds_150 : decode cX11_odds 150 = .ok (.istore 5, 2) := by decide +kernel
theorem dX11_odds_152 : decode cX11_odds 152 = .ok (.iconst 0, 1) := by decide +kernel
theorem dX11_odds_153 : decode cX11_odds 153 = .ok (.istore 7, 2) := by decide +kernel
theorem dX11_odds_155 : decode cX11_odds 155 = .ok (.iload 7, 2) := by decide +kernel
theorem dX11_odds_157 : decode cX11_odds 157 = .ok (.sipush 280, 3) := by decide +kernel
theorem dX11_odds_160 : decode cX11_odds 160 = .ok (.if_icmp .ge 27, 3) := by decide +kernel
theorem dX11_odds_163 : decode cX11_odds 163 = .ok (.aload_n 0, 1) := by decide +kernel
theorem dX11_odds_164 : decode cX11_odds 164 = .ok (.getfield 7, 3) := by decide +kernel
theorem dX11_odds_167 : decode cX11_odds 167 = .ok (.iload 7, 2) := by decide +kernel
theorem dX11_odds_169 : decode cX11_odds 169 = .ok (.aload_n 0, 1) := by decide +kernel
theorem dX11_odds_170 : decode cX11_odds 170 = .ok (.getfield 7, 3) := by decide +kernel
theorem dX11_odds_173 : decode cX11_odds 173 = .ok (.sipush 3250, 3) := by decide +kernel
theorem dX11_odds_176 : decode cX11_odds 176 = .ok (.iload 7, 2) := by decide +kernel
theorem dX11_odds_178 : decode cX11_odds 178 = .ok (.iadd, 1) := by decide +kernel
theorem dX11_odds_179 : decode cX11_odds 179 = .ok (.iaload, 1) := by decide +kernel
theorem dX11_odds_180 : decode cX11_odds 180 = .ok (.iastore, 1) := by decide +kernel
theorem dX11_odds_181 : decode cX11_odds 181 = .ok (.iinc 7 1, 3) := by decide +kernel
theorem dX11_odds_184 : decode cX11_odds 184 = .ok (.goto (-29), 3) := by decide +kernel
theorem dX11_odds_187 : decode cX11_odds 187 = .ok (.iinc 6 1, 3) := by decide +kernel
theorem dX11_odds_190 : decode cX11_odds 190 = .ok (.goto (-72), 3) := by decide +kernel
theorem dX11_odds_193 : decode cX11_odds 193 = .ok (.aload_n 0, 1) := by decide +kernel
theorem dX11_odds_194 : decode cX11_odds 194 = .ok (.iload 5, 2) := by decide +kernel
theorem dX11_odds_196 : decode cX11_odds 196 = .ok (.i2l, 1) := by decide +kernel
theorem dX11_odds_197 : decode cX11_odds 197 = .ok (.iload 4, 2) := by decide +kernel
theorem dX11_odds_199 : decode cX11_odds 199 = .ok (.i2l, 1) := by decide +kernel
theorem dX11_odds_200 : decode cX11_odds 200 = .ok (.invokevirtual 387, 3) := by decide +kernel
theorem dX11_odds_203 : decode cX11_odds 203 = .ok (.ireturn, 1) := by decide +kernel
theorem dX11_copies_0 : decode cX11_copies 0 = .ok (.iconst 0, 1) := by decide +kernel
theorem dX11_copies_1 : decode cX11_copies 1 = .ok (.istore_n 3, 1) := by decide +kernel
theorem dX11_copies_2 : decode cX11_copies 2 = .ok (.iload_n 3, 1) := by decide +kernel
theorem dX11_copies_3 : decode cX11_copies 3 = .ok (.sipush 650, 3) := by decide +kernel
theorem dX11_copies_6 : decode cX11_copies 6 = .ok (.if_icmp .ge 33, 3) := by decide +kernel
theorem dX11_copies_9 : decode cX11_copies 9 = .ok (.aload_n 0, 1) := by decide +kernel
theorem dX11_copies_10 : decode cX11_copies 10 = .ok (.getfield 7, 3) := by decide +kernel
theorem dX11_copies_13 : decode cX11_copies 13 = .ok (.sipush 650, 3) := by decide +kernel
theorem dX11_copies_16 : decode cX11_copies 16 = .ok (.iload_n 2, 1) := by decide +kernel
theorem dX11_copies_17 : decode cX11_copies 17 = .ok (.imul, 1) := by decide +kernel
theorem dX11_copies_18 : decode cX11_copies 18 = .ok (.iload_n 3, 1) := by decide +kernel
theorem dX11_copies_19 : decode cX11_copies 19 = .ok (.iadd, 1) := by decide +kernel
theorem dX11_copies_20 : decode cX11_copies 20 = .ok (.aload_n 0, 1) := by decide +kernel
theorem dX11_copies_21 : decode cX11_copies 21 = .ok (.getfield 7, 3) := by decide +kernel
theorem dX11_copies_24 : decode cX11_copies 24 = .ok (.sipush 650, 3) := by decide +kernel
theorem dX11_copies_27 : decode cX11_copies 27 = .ok (.iload_n 1, 1) := by decide +kernel
theorem dX11_copies_28 : decode cX11_copies 28 = .ok (.imul, 1) := by decide +kernel
theorem dX11_copies_29 : decode cX11_copies 29 = .ok (.iload_n 3, 1) := by decide +kernel
theorem dX11_copies_30 : decode cX11_copies 30 = .ok (.iadd, 1) := by decide +kernel
theorem dX11_copies_31 : decode cX11_copies 31 = .ok (.iaload, 1) := by decide +kernel
theorem dX11_copies_32 : decode cX11_copies 32 = .ok (.iastore, 1) := by decide +kernel
theorem dX11_copies_33 : decode cX11_copies 33 = .ok (.iinc 3 1, 3) := by decide +kernel
theorem dX11_copies_36 : decode cX11_copies 36 = .ok (.goto (-34), 3) := by decide +kernel
theorem dX11_copies_39 : decode cX11_copies 39 = .ok (.iconst 0, 1) := by decide +kernel
theorem dX11_copies_40 : decode cX11_copies 40 = .ok (.istore_n 3, 1) := by decide +kernel
theorem dX11_copies_41 : decode cX11_copies 41 = .ok (.iload_n 3, 1) := by decide +kernel
theorem dX11_copies_42 : decode cX11_copies 42 = .ok (.bipush 16, 2) := by decide +kernel
theorem dX11_copies_44 : decode cX11_copies 44 = .ok (.if_icmp .ge 31, 3) := by decide +kernel
theorem dX11_copies_47 : decode cX11_copies 47 = .ok (.aload_n 0, 1) := by decide +kernel
theorem dX11_copies_48 : decode cX11_copies 48 = .ok (.getfield 13, 3) := by decide +kernel
theorem dX11_copies_51 : decode cX11_copies 51 = .ok (.bipush 16, 2) := by decide +kernel
theorem dX11_copies_53 : decode cX11_copies 53 = .ok (.iload_n 2, 1) := by decide +kernel
theorem dX11_copies_54 : decode cX11_copies 54 = .ok (.imul, 1) := by decide +kernel
theorem dX11_copies_55 : decode cX11_copies 55 = .ok (.iload_n 3, 1) := by decide +kernel
theorem dX11_copies_56 : decode cX11_copies 56 = .ok (.iadd, 1) := by decide +kernel
theorem dX11_copies_57 : decode cX11_copies 57 = .ok (.aload_n 0, 1) := by decide +kernel
theorem dX11_copies_58 : decode cX11_copies 58 = .ok (.getfield 13, 3) := by decide +kernel
theorem dX11_copies_61 : decode cX11_copies 61 = .ok (.bipush 16, 2) := by decide +kernel
theorem dX11_copies_63 : decode cX11_copies 63 = .ok (.iload_n 1, 1) := by decide +kernel
theorem dX11_copies_64 : decode cX11_copies 64 = .ok (.imul, 1) := by decide +kernel
theorem dX11_copies_65 : decode cX11_copies 65 = .ok (.iload_n 3, 1) := by decide +kernel
theorem dX11_copies_66 : decode cX11_copies 66 = .ok (.iadd, 1) := by decide +kernel
theorem dX11_copies_67 : decode cX11_copies 67 = .ok (.laload, 1) := by decide +kernel
theorem dX11_copies_68 : decode cX11_copies 68 = .ok (.lastore, 1) := by decide +kernel
theorem dX11_copies_69 : decode cX11_copies 69 = .ok (.iinc 3 1, 3) := by decide +kernel
theorem dX11_copies_72 : decode cX11_copies 72 = .ok (.goto (-31), 3) := by decide +kernel
theorem dX11_copies_75 : decode cX11_copies 75 = .ok (.return_, 1) := by decide +kernel
theorem dX11_mark_0 : decode cX11_mark 0 = .ok (.aload_n 0, 1) := by decide +kernel
theorem dX11_mark_1 : decode cX11_mark 1 = .ok (.getfield 485, 3) := by decide +kernel
theorem dX11_mark_4 : decode cX11_mark 4 = .ok (.iconst 3, 1) := by decide +kernel
theorem dX11_mark_5 : decode cX11_mark 5 = .ok (.if_icmp .ne 9, 3) := by decide +kernel
theorem dX11_mark_8 : decode cX11_mark 8 = .ok (.aload_n 0, 1) := by decide +kernel
theorem dX11_mark_9 : decode cX11_mark 9 = .ok (.iconst 4, 1) := by decide +kernel
theorem dX11_mark_10 : decode cX11_mark 10 = .ok (.invokevirtual 102, 3) := by decide +kernel
theorem dX11_mark_13 : decode cX11_mark 13 = .ok (.ireturn, 1) := by decide +kernel
theorem dX11_mark_14 : decode cX11_mark 14 = .ok (.aload_n 0, 1) := by decide +kernel
theorem dX11_mark_15 : decode cX11_mark 15 = .ok (.dup, 1) := by decide +kernel
theorem dX11_mark_16 : decode cX11_mark 16 = .ok (.getfield 485, 3) := by decide +kernel
theorem dX11_mark_19 : decode cX11_mark 19 = .ok (.iconst 1, 1) := by decide +kernel
theorem dX11_mark_20 : decode cX11_mark 20 = .ok (.iadd, 1) := by decide +kernel
theorem dX11_mark_21 : decode cX11_mark 21 = .ok (.putfield 485, 3) := by decide +kernel
theorem dX11_mark_24 : decode cX11_mark 24 = .ok (.aload_n 0, 1) := by decide +kernel
theorem dX11_mark_25 : decode cX11_mark 25 = .ok (.iconst 0, 1) := by decide +kernel
theorem dX11_mark_26 : decode cX11_mark 26 = .ok (.aload_n 0, 1) := by decide +kernel
theorem dX11_mark_27 : decode cX11_mark 27 = .ok (.getfield 485, 3) := by decide +kernel
theorem dX11_mark_30 : decode cX11_mark 30 = .ok (.invokevirtual 488, 3) := by decide +kernel
theorem dX11_mark_33 : decode cX11_mark 33 = .ok (.aload_n 0, 1) := by decide +kernel
theorem dX11_mark_34 : decode cX11_mark 34 = .ok (.aload_n 0, 1) := by decide +kernel
theorem dX11_mark_35 : decode cX11_mark 35 = .ok (.getfield 485, 3) := by decide +kernel
theorem dX11_mark_38 : decode cX11_mark 38 = .ok (.invokevirtual 106, 3) := by decide +kernel
theorem dX11_mark_41 : decode cX11_mark 41 = .ok (.ireturn, 1) := by decide +kernel
theorem dX11_back_0 : decode cX11_back 0 = .ok (.aload_n 0, 1) := by decide +kernel
theorem dX11_back_1 : decode cX11_back 1 = .ok (.getfield 485, 3) := by decide +kernel
theorem dX11_back_4 : decode cX11_back 4 = .ok (.ifCond .ne 10, 3) := by decide +kernel
theorem dX11_back_7 : decode cX11_back 7 = .ok (.aload_n 0, 1) := by decide +kernel
theorem dX11_back_8 : decode cX11_back 8 = .ok (.bipush 6, 2) := by decide +kernel
theorem dX11_back_10 : decode cX11_back 10 = .ok (.invokevirtual 102, 3) := by decide +kernel
theorem dX11_back_13 : decode cX11_back 13 = .ok (.ireturn, 1) := by decide +kernel
theorem dX11_back_14 : decode cX11_back 14 = .ok (.aload_n 0, 1) := by decide +kernel
theorem dX11_back_15 : decode cX11_back 15 = .ok (.aload_n 0, 1) := by decide +kernel
theorem dX11_back_16 : decode cX11_back 16 = .ok (.getfield 485, 3) := by decide +kernel
theorem dX11_back_19 : decode cX11_back 19 = .ok (.iconst 0, 1) := by decide +kernel
theorem dX11_back_20 : decode cX11_back 20 = .ok (.invokevirtual 488, 3) := by decide +kernel
theorem dX11_back_23 : decode cX11_back 23 = .ok (.aload_n 0, 1) := by decide +kernel
theorem dX11_back_24 : decode cX11_back 24 = .ok (.dup, 1) := by decide +kernel
theorem dX11_back_25 : decode cX11_back 25 = .ok (.getfield 485, 3) := by decide +kernel
theorem dX11_back_28 : decode cX11_back 28 = .ok (.iconst 1, 1) := by decide +kernel
theorem dX11_back_29 : decode cX11_back 29 = .ok (.isub, 1) := by decide +kernel
theorem dX11_back_30 : decode cX11_back 30 = .ok (.putfield 485, 3) := by decide +kernel
theorem dX11_back_33 : decode cX11_back 33 = .ok (.aload_n 0, 1) := by decide +kernel
theorem dX11_back_34 : decode cX11_back 34 = .ok (.aload_n 0, 1) := by decide +kernel
theorem dX11_back_35 : decode cX11_back 35 = .ok (.getfield 485, 3) := by decide +kernel
theorem dX11_back_38 : decode cX11_back 38 = .ok (.invokevirtual 106, 3) := by decide +kernel
theorem dX11_back_41 : decode cX11_back 41 = .ok (.ireturn, 1) := by decide +kernel
def lX11_live_42 (K65 : Mem → Option (Int32 × Mem)) (t : Nat) : Nat → Int32 → Mem → Option (Int32 × Mem)
  | 0, _, _ => none
  | n + 1, x2, M =>
    if (4 : Int32) ≤ x2 then
 K65 M
 else
 ixk x2 4 (
 ixk x2 4 (nm (stI M (t + 23) x2.toNatClampNeg (M.1 (t + 22) x2.toNatClampNeg)) (fun M4 =>
 lX11_live_42 K65 t n (x2 + 1) M4)))
theorem lX11_live_42_s (K65 : Mem → Option (Int32 × Mem)) (t : Nat) (n : Nat) (x2 : Int32) (M : Mem) : lX11_live_42 K65 t (n + 1) x2 M =
    if (4 : Int32) ≤ x2 then
 K65 M
 else
 ixk x2 4 (
 ixk x2 4 (nm (stI M (t + 23) x2.toNatClampNeg (M.1 (t + 22) x2.toNatClampNeg)) (fun M4 =>
 lX11_live_42 K65 t n (x2 + 1) M4))) := rfl
theorem lX11_live_42_0 (K65 : Mem → Option (Int32 × Mem)) (t : Nat) (x2 : Int32) (M : Mem) : lX11_live_42 K65 t 0 x2 M = none := rfl
set_option maxRecDepth 100000 in
set_option maxHeartbeats 4000000 in
theorem wlX11_live_42 {J : JT} (g : Gd J cX11_live RX11) (hr : Rt J (some .int)) (hR : (JR J).frames = 5 ∧ (JR J).locals = 115) (hn : Jn J = 3) (K65 : Mem → Option (Int32 × Mem)) (t : Nat) (ht : isO 11 t) (hK65 : ∀ (M : Mem), X J (fun q : Int32 × Mem => (some (Value.int q.1), q.2)) (K65 M) 65 [(0, .ref t)] [] M) : ∀ (n : Nat) (x2 : Int32) (M : Mem), X J (fun q : Int32 × Mem => (some (Value.int q.1), q.2)) (lX11_live_42 K65 t n x2 M) 42 [(0, .ref t), (2, .int x2)] [] M := by
  intro n
  induction n with
  | zero =>
    intro x2 M
    exact x_none
  | succ n ih =>
    intro x2 M
    rw [lX11_live_42_s]
    exact (x_iload_n g 1 dX11_live_42 rfl rfl
 (x_iconst g dX11_live_43 kI_4
 (x_icmp_ge g 65 dX11_live_44 rfl
 (fun _ => (x_sub [0] rfl (hK65 M)))
 (fun _ => (x_aload_n g 0 dX11_live_47 rfl rfl
 (x_getS g 23 fl_RX11_93 rfl ht dX11_live_48
 (x_iload_n g 1 dX11_live_51 rfl rfl
 (x_aload_n g 0 dX11_live_52 rfl rfl
 (x_getS g 22 fl_RX11_90 rfl ht dX11_live_53
 (x_iload_n g 1 dX11_live_56 rfl rfl
 (x_iald g (so_11_42 ht) dX11_live_57
 (x_iast g (so_11_43 ht) dX11_live_58 (x_nmM (fun M4 =>
 (x_iinc (L' := [(2, .int (x2 + 1)), (0, .ref t)]) (v := (x2 + 1)) g 1 dX11_live_59 rfl (by rw [kI_1]) hn (Nat.le_of_ble_eq_true rfl) rfl
 (x_goto g 42 dX11_live_62 rfl
 (x_sub [1, 0] rfl (ih (x2 + 1) M4))))))))))))))))))
def fX11_live (φ : Nat) (t : Nat) (a1 : Int32) (M : Mem) : Option (Int32 × Mem) :=
  (fX11_isFrom (a1.toInt64) (0 : Int64) (9999 : Int64) M).bind fun v1 =>
 if v1 = 0 then
 bd (fX11_refuse t (1 : Int32) M) fun v11 M12 =>
 some (v11, M12)
 else
 ixk (4 : Int32) 3900 (
 if (M.1 (t + 1) (4 : Int32).toNatClampNeg) = (-1 : Int32) then
 bd (fX11_refuse t (6 : Int32) M) fun v9 M10 =>
 some (v9, M10)
 else
 bd (fX11_lives φ t a1 M) fun vu2 M3 =>
 lX11_live_42 (fun (M5 : Mem) => nm (stI M5 t 44 (1 : Int32)) (fun M6 =>
 bd (fX11_gives t (M6.1 t 40) M6) fun v7 M8 =>
 some (v7, M8))) t φ (0 : Int32) M3)
set_option maxRecDepth 100000 in
set_option maxHeartbeats 4000000 in
theorem kX11_live (φ : Nat) (t : Nat) (a1 : Int32) (M : Mem) (ht : isO 11 t) (l : Launch) (G : GT) {b : (Int32 × Mem)} (hE : fX11_live φ t a1 M = some b) : Ok l G yX11_live cX11_live 3 (some .int) 5 115 [.ref t, .int a1] M ((fun q : Int32 × Mem => (some (Value.int q.1), q.2)) b).1 ((fun q : Int32 × Mem => (some (Value.int q.1), q.2)) b).2 := by
  refine Ok.ofX (pj := (fun q : Int32 × Mem => (some (Value.int q.1), q.2))) (by decide) (Nat.le_of_ble_eq_true rfl) hE (fun J g hr hG hl hR hn => ?_)
  show X J (fun q : Int32 × Mem => (some (Value.int q.1), q.2)) (fX11_live φ t a1 M) 0 [(0, .ref t), (1, .int a1)] [] M
  unfold fX11_live
  exact (x_iload_n g 1 dX11_live_0 rfl rfl
 (x_i2l g dX11_live_1
 (x_lconst g dX11_live_2 kL_0
 (x_ldc2 g cw_RX11_474 dX11_live_3
 (x_callSip (As := [.long (a1.toInt64), .long (0 : Int64), .long (9999 : Int64)]) g mv_X11_isFrom ms_X11_isFrom lk_RX11_399 (fun b hb => kX11_isFrom (a1.toInt64) (0 : Int64) (9999 : Int64) M _ _ hb) rfl rfl hR ⟨Nat.le_of_ble_eq_true rfl, Nat.le_of_ble_eq_true rfl⟩ (Nat.le_of_ble_eq_true rfl) dX11_live_6 (fun v1 =>
 (x_if_ne g 18 dX11_live_9 rfl
 (fun _ => (x_aload_n g 0 dX11_live_18 rfl rfl
 (x_getS g 1 fl_RX11_7 rfl ht dX11_live_19
 (x_iconst g dX11_live_22 kI_4
 (x_iald g (so_11_0 ht) dX11_live_23
 (x_iconst g dX11_live_24 kI_m1
 (x_icmp_ne g 35 dX11_live_25 rfl
 (fun _ => (x_aload_n g 0 dX11_live_35 rfl rfl
 (x_iload_n g 1 dX11_live_36 rfl rfl
 (x_callVv (As := [.int a1]) g mv_X11_lives mi_X11_lives lk_RX11_476 ht (fun b Mh_ hb => kX11_lives φ t a1 M ht _ _ hb) rfl rfl hR ⟨Nat.le_of_ble_eq_true rfl, Nat.le_of_ble_eq_true rfl⟩ (Nat.le_of_ble_eq_true rfl) dX11_live_37 (fun vu2 M3 =>
 (x_iconst g dX11_live_40 kI_0
 (x_istore_n (L' := [(2, .int (0 : Int32)), (0, .ref t), (1, .int a1)]) g dX11_live_41 rfl hn (Nat.le_of_ble_eq_true rfl) rfl
 (x_sub [1, 0] rfl (wlX11_live_42 g hr hR hn _ t ht
 (fun M5 => by exact (x_aload_n g 0 dX11_live_65 rfl rfl
 (x_iconst g dX11_live_66 kI_1
 (x_putZ g fp_RX11_479 rfl (Nat.le_of_ble_eq_true rfl) ht (Or.inr rfl) dX11_live_67 (x_nmM (fun M6 =>
 (x_aload_n g 0 dX11_live_70 rfl rfl
 (x_aload_n g 0 dX11_live_71 rfl rfl
 (x_getI g fl_RX11_462 rfl ht dX11_live_72
 (x_callVi (As := [.int (M6.1 t 40)]) g mv_X11_gives mi_X11_gives lk_RX11_106 ht (fun b Mh_ hb => kX11_gives t (M6.1 t 40) M6 ht _ _ hb) rfl rfl hR ⟨Nat.le_of_ble_eq_true rfl, Nat.le_of_ble_eq_true rfl⟩ (Nat.le_of_ble_eq_true rfl) dX11_live_75 (fun v7 M8 =>
 (x_iret g hr rfl rfl dX11_live_78)))))))))))) φ (0 : Int32) M3)))))))))
 (fun _ => (x_aload_n g 0 dX11_live_28 rfl rfl
 (x_bipush g dX11_live_29 kB_6
 (x_callVi (As := [.int (6 : Int32)]) g mv_X11_refuse mi_X11_refuse lk_RX11_102 ht (fun b Mh_ hb => kX11_refuse t (6 : Int32) M ht _ _ hb) rfl rfl hR ⟨Nat.le_of_ble_eq_true rfl, Nat.le_of_ble_eq_true rfl⟩ (Nat.le_of_ble_eq_true rfl) dX11_live_31 (fun v9 M10 =>
 (x_iret g hr rfl rfl dX11_live_34)))))))))))))
 (fun _ => (x_aload_n g 0 dX11_live_12 rfl rfl
 (x_iconst g dX11_live_13 kI_1
 (x_callVi (As := [.int (1 : Int32)]) g mv_X11_refuse mi_X11_refuse lk_RX11_102 ht (fun b Mh_ hb => kX11_refuse t (1 : Int32) M ht _ _ hb) rfl rfl hR ⟨Nat.le_of_ble_eq_true rfl, Nat.le_of_ble_eq_true rfl⟩ (Nat.le_of_ble_eq_true rfl) dX11_live_14 (fun v11 M12 =>
 (x_iret g hr rfl rfl dX11_live_17)))))))))))))
def fX11_lived (t : Nat) (a1 : Int32) (M : Mem) : Option (Int32 × Mem) :=
  if a1 < 0 then
 bd (fX11_refuse t (1 : Int32) M) fun v1 M2 =>
 some (v1, M2)
 else
 if a1 ≤ (3 : Int32) then
 if (M.1 t 44) = 0 then
 bd (fX11_refuse t (6 : Int32) M) fun v3 M4 =>
 some (v3, M4)
 else
 ixk a1 4 (
 bd (fX11_gives t (M.1 (t + 23) a1.toNatClampNeg) M) fun v5 M6 =>
 some (v5, M6))
 else
 bd (fX11_refuse t (1 : Int32) M) fun v7 M8 =>
 some (v7, M8)
set_option maxRecDepth 100000 in
set_option maxHeartbeats 4000000 in
theorem kX11_lived (t : Nat) (a1 : Int32) (M : Mem) (ht : isO 11 t) (l : Launch) (G : GT) {b : (Int32 × Mem)} (hE : fX11_lived t a1 M = some b) : Ok l G yX11_lived cX11_lived 2 (some .int) 1 21 [.ref t, .int a1] M ((fun q : Int32 × Mem => (some (Value.int q.1), q.2)) b).1 ((fun q : Int32 × Mem => (some (Value.int q.1), q.2)) b).2 := by
  refine Ok.ofX (pj := (fun q : Int32 × Mem => (some (Value.int q.1), q.2))) (by decide) (Nat.le_of_ble_eq_true rfl) hE (fun J g hr hG hl hR hn => ?_)
  show X J (fun q : Int32 × Mem => (some (Value.int q.1), q.2)) (fX11_lived t a1 M) 0 [(0, .ref t), (1, .int a1)] [] M
  unfold fX11_lived
  exact (x_iload_n g 1 dX11_lived_0 rfl rfl
 (x_if_lt g 9 dX11_lived_1 rfl
 (fun _ => (x_aload_n g 0 dX11_lived_9 rfl rfl
 (x_iconst g dX11_lived_10 kI_1
 (x_callVi (As := [.int (1 : Int32)]) g mv_X11_refuse mi_X11_refuse lk_RX11_102 ht (fun b Mh_ hb => kX11_refuse t (1 : Int32) M ht _ _ hb) rfl rfl hR ⟨Nat.le_of_ble_eq_true rfl, Nat.le_of_ble_eq_true rfl⟩ (Nat.le_of_ble_eq_true rfl) dX11_lived_11 (fun v1 M2 =>
 (x_goto g 43 dX11_lived_14 rfl
 (x_iret g hr rfl rfl dX11_lived_43)))))))
 (fun _ => (x_iload_n g 1 dX11_lived_4 rfl rfl
 (x_iconst g dX11_lived_5 kI_3
 (x_icmp_le g 17 dX11_lived_6 rfl
 (fun _ => (x_aload_n g 0 dX11_lived_17 rfl rfl
 (x_getI g fl_RX11_479 rfl ht dX11_lived_18
 (x_if_eq g 37 dX11_lived_21 rfl
 (fun _ => (x_aload_n g 0 dX11_lived_37 rfl rfl
 (x_bipush g dX11_lived_38 kB_6
 (x_callVi (As := [.int (6 : Int32)]) g mv_X11_refuse mi_X11_refuse lk_RX11_102 ht (fun b Mh_ hb => kX11_refuse t (6 : Int32) M ht _ _ hb) rfl rfl hR ⟨Nat.le_of_ble_eq_true rfl, Nat.le_of_ble_eq_true rfl⟩ (Nat.le_of_ble_eq_true rfl) dX11_lived_40 (fun v3 M4 =>
 (x_iret g hr rfl rfl dX11_lived_43))))))
 (fun _ => (x_aload_n g 0 dX11_lived_24 rfl rfl
 (x_aload_n g 0 dX11_lived_25 rfl rfl
 (x_getS g 23 fl_RX11_93 rfl ht dX11_lived_26
 (x_iload_n g 1 dX11_lived_29 rfl rfl
 (x_iald g (so_11_43 ht) dX11_lived_30
 (x_callVi (As := [.int (M.1 (t + 23) a1.toNatClampNeg)]) g mv_X11_gives mi_X11_gives lk_RX11_106 ht (fun b Mh_ hb => kX11_gives t (M.1 (t + 23) a1.toNatClampNeg) M ht _ _ hb) rfl rfl hR ⟨Nat.le_of_ble_eq_true rfl, Nat.le_of_ble_eq_true rfl⟩ (Nat.le_of_ble_eq_true rfl) dX11_lived_31 (fun v5 M6 =>
 (x_goto g 43 dX11_lived_34 rfl
 (x_iret g hr rfl rfl dX11_lived_43))))))))))))))
 (fun _ => (x_aload_n g 0 dX11_lived_9 rfl rfl
 (x_iconst g dX11_lived_10 kI_1
 (x_callVi (As := [.int (1 : Int32)]) g mv_X11_refuse mi_X11_refuse lk_RX11_102 ht (fun b Mh_ hb => kX11_refuse t (1 : Int32) M ht _ _ hb) rfl rfl hR ⟨Nat.le_of_ble_eq_true rfl, Nat.le_of_ble_eq_true rfl⟩ (Nat.le_of_ble_eq_true rfl) dX11_lived_11 (fun v7 M8 =>
 (x_goto g 43 dX11_lived_14 rfl
 (x_iret g hr rfl rfl dX11_lived_43)))))))))))))
def lX11_odds_80 (K112 : Mem → Option (Int32 × Mem)) (t : Nat) (x1 : Int32) (x2 : Int32) (x3 : Int32) (x4 : Int32) : Nat → Int32 → Mem → Option (Int32 × Mem)
  | 0, _, _ => none
  | n + 1, x5, M =>
    if (280 : Int32) ≤ x5 then
 K112 M
 else
 ixk x5 3900 (
 ixk ((3250 : Int32) + x5) 3900 (nm (stI M (t + 1) ((3250 : Int32) + x5).toNatClampNeg (M.1 (t + 1) x5.toNatClampNeg)) (fun M17 =>
 lX11_odds_80 K112 t x1 x2 x3 x4 n (x5 + 1) M17)))
theorem lX11_odds_80_s (K112 : Mem → Option (Int32 × Mem)) (t : Nat) (x1 : Int32) (x2 : Int32) (x3 : Int32) (x4 : Int32) (n : Nat) (x5 : Int32) (M : Mem) : lX11_odds_80 K112 t x1 x2 x3 x4 (n + 1) x5 M =
    if (280 : Int32) ≤ x5 then
 K112 M
 else
 ixk x5 3900 (
 ixk ((3250 : Int32) + x5) 3900 (nm (stI M (t + 1) ((3250 : Int32) + x5).toNatClampNeg (M.1 (t + 1) x5.toNatClampNeg)) (fun M17 =>
 lX11_odds_80 K112 t x1 x2 x3 x4 n (x5 + 1) M17))) := rfl
theorem lX11_odds_80_0 (K112 : Mem → Option (Int32 × Mem)) (t : Nat) (x1 : Int32) (x2 : Int32) (x3 : Int32) (x4 : Int32) (x5 : Int32) (M : Mem) : lX11_odds_80 K112 t x1 x2 x3 x4 0 x5 M = none := rfl
set_option maxRecDepth 100000 in
set_option maxHeartbeats 4000000 in
theorem wlX11_odds_80 {J : JT} (g : Gd J cX11_odds RX11) (hr : Rt J (some .boolean)) (hR : (JR J).frames = 5 ∧ (JR J).locals = 115) (hn : Jn J = 8) (K112 : Mem → Option (Int32 × Mem)) (t : Nat) (x1 : Int32) (x2 : Int32) (x3 : Int32) (x4 : Int32) (ht : isO 11 t) (hK112 : ∀ (M : Mem), X J (fun q : Int32 × Mem => (some (Value.int q.1), q.2)) (K112 M) 112 [(0, .ref t), (1, .int x1), (2, .int x2), (3, .int x3), (4, .int x4)] [] M) : ∀ (n : Nat) (x5 : Int32) (M : Mem), X J (fun q : Int32 × Mem => (some (Value.int q.1), q.2)) (lX11_odds_80 K112 t x1 x2 x3 x4 n x5 M) 80 [(0, .ref t), (1, .int x1), (2, .int x2), (3, .int x3), (4, .int x4), (5, .int x5)] [] M := by
  intro n
  induction n with
  | zero =>
    intro x5 M
    exact x_none
  | succ n ih =>
    intro x5 M
    rw [lX11_odds_80_s]
    exact (x_iload g 5 dX11_odds_80 rfl
 (x_sipush g dX11_odds_82 kS_280
 (x_icmp_ge g 112 dX11_odds_85 rfl
 (fun _ => (x_sub [0, 1, 2, 3, 4] rfl (hK112 M)))
 (fun _ => (x_aload_n g 0 dX11_odds_88 rfl rfl
 (x_getS g 1 fl_RX11_7 rfl ht dX11_odds_89
 (x_sipush g dX11_odds_92 kS_3250
 (x_iload g 5 dX11_odds_95 rfl
 (x_iadd g dX11_odds_97
 (x_aload_n g 0 dX11_odds_98 rfl rfl
 (x_getS g 1 fl_RX11_7 rfl ht dX11_odds_99
 (x_iload g 5 dX11_odds_102 rfl
 (x_iald g (so_11_0 ht) dX11_odds_104
 (x_iast g (so_11_0 ht) dX11_odds_105 (x_nmM (fun M17 =>
 (x_iinc (L' := [(5, .int (x5 + 1)), (0, .ref t), (1, .int x1), (2, .int x2), (3, .int x3), (4, .int x4)]) (v := (x5 + 1)) g 5 dX11_odds_106 rfl (by rw [kI_1]) hn (Nat.le_of_ble_eq_true rfl) rfl
 (x_goto g 80 dX11_odds_109 rfl
 (x_sub [1, 2, 3, 4, 5, 0] rfl (ih (x5 + 1) M17))))))))))))))))))))
def lX11_odds_155 (K187 : Mem → Option (Int32 × Mem)) (t : Nat) (x1 : Int32) (x2 : Int32) (x3 : Int32) (x4 : Int32) (x5 : Int32) (x6 : Int32) : Nat → Int32 → Mem → Option (Int32 × Mem)
  | 0, _, _ => none
  | n + 1, x7, M =>
    if (280 : Int32) ≤ x7 then
 K187 M
 else
 ixk ((3250 : Int32) + x7) 3900 (
 ixk x7 3900 (nm (stI M (t + 1) x7.toNatClampNeg (M.1 (t + 1) ((3250 : Int32) + x7).toNatClampNeg)) (fun M25 =>
 lX11_odds_155 K187 t x1 x2 x3 x4 x5 x6 n (x7 + 1) M25)))
theorem lX11_odds_155_s (K187 : Mem → Option (Int32 × Mem)) (t : Nat) (x1 : Int32) (x2 : Int32) (x3 : Int32) (x4 : Int32) (x5 : Int32) (x6 : Int32) (n : Nat) (x7 : Int32) (M : Mem) : lX11_odds_155 K187 t x1 x2 x3 x4 x5 x6 (n + 1) x7 M =
    if (280 : Int32) ≤ x7 then
 K187 M
 else
 ixk ((3250 : Int32) + x7) 3900 (
 ixk x7 3900 (nm (stI M (t + 1) x7.toNatClampNeg (M.1 (t + 1) ((3250 : Int32) + x7).toNatClampNeg)) (fun M25 =>
 lX11_odds_155 K187 t x1 x2 x3 x4 x5 x6 n (x7 + 1) M25))) := rfl
theorem lX11_odds_155_0 (K187 : Mem → Option (Int32 × Mem)) (t : Nat) (x1 : Int32) (x2 : Int32) (x3 : Int32) (x4 : Int32) (x5 : Int32) (x6 : Int32) (x7 : Int32) (M : Mem) : lX11_odds_155 K187 t x1 x2 x3 x4 x5 x6 0 x7 M = none := rfl
set_option maxRecDepth 100000 in
set_option maxHeartbeats 4000000 in
theorem wlX11_odds_155 {J : JT} (g : Gd J cX11_odds RX11) (hr : Rt J (some .boolean)) (hR : (JR J).frames = 5 ∧ (JR J).locals = 115) (hn : Jn J = 8) (K187 : Mem → Option (Int32 × Mem)) (t : Nat) (x1 : Int32) (x2 : Int32) (x3 : Int32) (x4 : Int32) (x5 : Int32) (x6 : Int32) (ht : isO 11 t) (hK187 : ∀ (M : Mem), X J (fun q : Int32 × Mem => (some (Value.int q.1), q.2)) (K187 M) 187 [(0, .ref t), (1, .int x1), (2, .int x2), (3, .int x3), (4, .int x4), (5, .int x5), (6, .int x6)] [] M) : ∀ (n : Nat) (x7 : Int32) (M : Mem), X J (fun q : Int32 × Mem => (some (Value.int q.1), q.2)) (lX11_odds_155 K187 t x1 x2 x3 x4 x5 x6 n x7 M) 155 [(0, .ref t), (1, .int x1), (2, .int x2), (3, .int x3), (4, .int x4), (5, .int x5), (6, .int x6), (7, .int x7)] [] M := by
  intro n
  induction n with
  | zero =>
    intro x7 M
    exact x_none
  | succ n ih =>
    intro x7 M
    rw [lX11_odds_155_s]
    exact (x_iload g 7 dX11_odds_155 rfl
 (x_sipush g dX11_odds_157 kS_280
 (x_icmp_ge g 187 dX11_odds_160 rfl
 (fun _ => (x_sub [0, 1, 2, 3, 4, 5, 6] rfl (hK187 M)))
 (fun _ => (x_aload_n g 0 dX11_odds_163 rfl rfl
 (x_getS g 1 fl_RX11_7 rfl ht dX11_odds_164
 (x_iload g 7 dX11_odds_167 rfl
 (x_aload_n g 0 dX11_odds_169 rfl rfl
 (x_getS g 1 fl_RX11_7 rfl ht dX11_odds_170
 (x_sipush g dX11_odds_173 kS_3250
 (x_iload g 7 dX11_odds_176 rfl
 (x_iadd g dX11_odds_178
 (x_iald g (so_11_0 ht) dX11_odds_179
 (x_iast g (so_11_0 ht) dX11_odds_180 (x_nmM (fun M25 =>
 (x_iinc (L' := [(7, .int (x7 + 1)), (0, .ref t), (1, .int x1), (2, .int x2), (3, .int x3), (4, .int x4), (5, .int x5), (6, .int x6)]) (v := (x7 + 1)) g 7 dX11_odds_181 rfl (by rw [kI_1]) hn (Nat.le_of_ble_eq_true rfl) rfl
 (x_goto g 155 dX11_odds_184 rfl
 (x_sub [1, 2, 3, 4, 5, 6, 7, 0] rfl (ih (x7 + 1) M25))))))))))))))))))))
def lX11_odds_118 (K193 : Int32 → Mem → Option (Int32 × Mem)) (φ : Nat) (t : Nat) (x1 : Int32) (x2 : Int32) (x3 : Int32) (x4 : Int32) : Nat → Int32 → Int32 → Mem → Option (Int32 × Mem)
  | 0, _, _, _ => none
  | n + 1, x5, x6, M =>
    if x4 ≤ x6 then
 K193 x5 M
 else
 bd (fX11_lives φ t (x3 + x6) M) fun vu19 M20 =>
 (fX11_hasRock φ t x1 x2 M20).bind fun v21 =>
 jn (fun (v22 : Int32) => nm (x5 + v22) (fun v24 =>
 lX11_odds_155 (fun (M26 : Mem) => lX11_odds_118 K193 φ t x1 x2 x3 x4 n v24 (x6 + 1) M26) t x1 x2 x3 x4 v24 x6 φ (0 : Int32) M20)) (fun J23 => if v21 = 0 then
 J23 (0 : Int32)
 else
 J23 (1 : Int32))
theorem lX11_odds_118_s (K193 : Int32 → Mem → Option (Int32 × Mem)) (φ : Nat) (t : Nat) (x1 : Int32) (x2 : Int32) (x3 : Int32) (x4 : Int32) (n : Nat) (x5 : Int32) (x6 : Int32) (M : Mem) : lX11_odds_118 K193 φ t x1 x2 x3 x4 (n + 1) x5 x6 M =
    if x4 ≤ x6 then
 K193 x5 M
 else
 bd (fX11_lives φ t (x3 + x6) M) fun vu19 M20 =>
 (fX11_hasRock φ t x1 x2 M20).bind fun v21 =>
 jn (fun (v22 : Int32) => nm (x5 + v22) (fun v24 =>
 lX11_odds_155 (fun (M26 : Mem) => lX11_odds_118 K193 φ t x1 x2 x3 x4 n v24 (x6 + 1) M26) t x1 x2 x3 x4 v24 x6 φ (0 : Int32) M20)) (fun J23 => if v21 = 0 then
 J23 (0 : Int32)
 else
 J23 (1 : Int32)) := rfl
theorem lX11_odds_118_0 (K193 : Int32 → Mem → Option (Int32 × Mem)) (φ : Nat) (t : Nat) (x1 : Int32) (x2 : Int32) (x3 : Int32) (x4 : Int32) (x5 : Int32) (x6 : Int32) (M : Mem) : lX11_odds_118 K193 φ t x1 x2 x3 x4 0 x5 x6 M = none := rfl
set_option maxRecDepth 100000 in
set_option maxHeartbeats 4000000 in
theorem wlX11_odds_118 {J : JT} (g : Gd J cX11_odds RX11) (hr : Rt J (some .boolean)) (hR : (JR J).frames = 5 ∧ (JR J).locals = 115) (hn : Jn J = 8) (K193 : Int32 → Mem → Option (Int32 × Mem)) (φ : Nat) (t : Nat) (x1 : Int32) (x2 : Int32) (x3 : Int32) (x4 : Int32) (ht : isO 11 t) (hK193 : ∀ (y5 : Int32) (M : Mem), X J (fun q : Int32 × Mem => (some (Value.int q.1), q.2)) (K193 y5 M) 193 [(0, .ref t), (4, .int x4), (5, .int y5)] [] M) : ∀ (n : Nat) (x5 : Int32) (x6 : Int32) (M : Mem), X J (fun q : Int32 × Mem => (some (Value.int q.1), q.2)) (lX11_odds_118 K193 φ t x1 x2 x3 x4 n x5 x6 M) 118 [(0, .ref t), (1, .int x1), (2, .int x2), (3, .int x3), (4, .int x4), (5, .int x5), (6, .int x6)] [] M := by
  intro n
  induction n with
  | zero =>
    intro x5 x6 M
    exact x_none
  | succ n ih =>
    intro x5 x6 M
    rw [lX11_odds_118_s]
    exact (x_iload g 6 dX11_odds_118 rfl
 (x_iload g 4 dX11_odds_120 rfl
 (x_icmp_ge g 193 dX11_odds_122 rfl
 (fun _ => (x_sub [0, 4, 5] rfl (hK193 x5 M)))
 (fun _ => (x_aload_n g 0 dX11_odds_125 rfl rfl
 (x_iload_n g 3 dX11_odds_126 rfl rfl
 (x_iload g 6 dX11_odds_127 rfl
 (x_iadd g dX11_odds_129
 (x_callVv (As := [.int (x3 + x6)]) g mv_X11_lives mi_X11_lives lk_RX11_476 ht (fun b Mh_ hb => kX11_lives φ t (x3 + x6) M ht _ _ hb) rfl rfl hR ⟨Nat.le_of_ble_eq_true rfl, Nat.le_of_ble_eq_true rfl⟩ (Nat.le_of_ble_eq_true rfl) dX11_odds_130 (fun vu19 M20 =>
 (x_iload g 5 dX11_odds_133 rfl
 (x_aload_n g 0 dX11_odds_135 rfl rfl
 (x_iload_n g 1 dX11_odds_136 rfl rfl
 (x_iload_n g 2 dX11_odds_137 rfl rfl
 (x_callVip (As := [.int x1, .int x2]) g mv_X11_hasRock mi_X11_hasRock lk_RX11_459 ht (fun b hb => kX11_hasRock φ t x1 x2 M20 ht _ _ hb) rfl rfl hR ⟨Nat.le_of_ble_eq_true rfl, Nat.le_of_ble_eq_true rfl⟩ (Nat.le_of_ble_eq_true rfl) dX11_odds_138 (fun v21 =>
 (x_jn (fun (J23 : Int32 → Option (Int32 × Mem)) => ∀ (v22 : Int32), X J (fun q : Int32 × Mem => (some (Value.int q.1), q.2)) (J23 v22) 149 [(0, .ref t), (1, .int x1), (2, .int x2), (3, .int x3), (4, .int x4), (6, .int x6)] [.int v22, .int x5] M20) (fun v22 => (x_iadd g dX11_odds_149
 (x_nmI (fun v24 => (x_istore (L' := [(5, .int v24), (0, .ref t), (1, .int x1), (2, .int x2), (3, .int x3), (4, .int x4), (6, .int x6)]) g dX11_odds_150 hn (Nat.le_of_ble_eq_true rfl) rfl
 (x_iconst g dX11_odds_152 kI_0
 (x_istore (L' := [(7, .int (0 : Int32)), (5, .int v24), (0, .ref t), (1, .int x1), (2, .int x2), (3, .int x3), (4, .int x4), (6, .int x6)]) g dX11_odds_153 hn (Nat.le_of_ble_eq_true rfl) rfl
 (x_sub [2, 3, 4, 5, 6, 1, 7, 0] rfl (wlX11_odds_155 g hr hR hn _ t x1 x2 x3 x4 v24 x6 ht
 (fun M26 => by exact (x_iinc (L' := [(6, .int (x6 + 1)), (0, .ref t), (1, .int x1), (2, .int x2), (3, .int x3), (4, .int x4), (5, .int v24)]) (v := (x6 + 1)) g 6 dX11_odds_187 rfl (by rw [kI_1]) hn (Nat.le_of_ble_eq_true rfl) rfl
 (x_goto g 118 dX11_odds_190 rfl
 (x_sub [1, 2, 3, 4, 5, 6, 0] rfl (ih v24 (x6 + 1) M26))))) φ (0 : Int32) M20))))))))) (fun J23 hJ23 => (x_if_eq g 148 dX11_odds_141 rfl
 (fun _ => (x_iconst g dX11_odds_148 kI_0
 (x_sub [0, 1, 2, 3, 4, 6] rfl (hJ23 (0 : Int32)))))
 (fun _ => (x_iconst g dX11_odds_144 kI_1
 (x_goto g 149 dX11_odds_145 rfl
 (x_sub [0, 1, 2, 3, 4, 6] rfl (hJ23 (1 : Int32)))))))))))))))))))))))))
def fX11_odds (φ : Nat) (t : Nat) (a1 : Int32) (a2 : Int32) (a3 : Int32) (a4 : Int32) (M : Mem) : Option (Int32 × Mem) :=
  (fX11_isHole t a1 M).bind fun v1 =>
 if v1 = 0 then
 bd (fX11_is t (1 : Int32) M) fun v2 M3 =>
 if v2 = 0 ∨ v2 = 1 then some (v2, M3) else none
 else
 (fX11_isRock t (a2.toInt64) M).bind fun v5 =>
 if v5 = 0 then
 bd (fX11_is t (1 : Int32) M) fun v6 M7 =>
 if v6 = 0 ∨ v6 = 1 then some (v6, M7) else none
 else
 (fX11_isFrom (a3.toInt64) (0 : Int64) (9999 : Int64) M).bind fun v9 =>
 if v9 = 0 then
 bd (fX11_is t (1 : Int32) M) fun v10 M11 =>
 if v10 = 0 ∨ v10 = 1 then some (v10, M11) else none
 else
 (fX11_isFrom (a4.toInt64) (1 : Int64) (10 : Int64) M).bind fun v13 =>
 if v13 = 0 then
 bd (fX11_is t (1 : Int32) M) fun v14 M15 =>
 if v14 = 0 ∨ v14 = 1 then some (v14, M15) else none
 else
 if ((a3 + a4) - (1 : Int32)) ≤ (9999 : Int32) then
 ixk (4 : Int32) 3900 (
 if (M.1 (t + 1) (4 : Int32).toNatClampNeg) = (-1 : Int32) then
 bd (fX11_is t (6 : Int32) M) fun v32 M33 =>
 if v32 = 0 ∨ v32 = 1 then some (v32, M33) else none
 else
 lX11_odds_80 (fun (M18 : Mem) => lX11_odds_118 (fun (v27 : Int32) (M28 : Mem) => bd (fX11_tellsBy φ t (v27.toInt64) (a4.toInt64) M28) fun v29 M30 =>
 if v29 = 0 ∨ v29 = 1 then some (v29, M30) else none) φ t a1 a2 a3 a4 φ (0 : Int32) (0 : Int32) M18) t a1 a2 a3 a4 φ (0 : Int32) M)
 else
 bd (fX11_is t (1 : Int32) M) fun v35 M36 =>
 if v35 = 0 ∨ v35 = 1 then some (v35, M36) else none
set_option maxRecDepth 100000 in
set_option maxHeartbeats 4000000 in
theorem kX11_odds (φ : Nat) (t : Nat) (a1 : Int32) (a2 : Int32) (a3 : Int32) (a4 : Int32) (M : Mem) (ht : isO 11 t) (l : Launch) (G : GT) {b : (Int32 × Mem)} (hE : fX11_odds φ t a1 a2 a3 a4 M = some b) : Ok l G yX11_odds cX11_odds 8 (some .boolean) 5 115 [.ref t, .int a1, .int a2, .int a3, .int a4] M ((fun q : Int32 × Mem => (some (Value.int q.1), q.2)) b).1 ((fun q : Int32 × Mem => (some (Value.int q.1), q.2)) b).2 := by
  refine Ok.ofX (pj := (fun q : Int32 × Mem => (some (Value.int q.1), q.2))) (by decide) (Nat.le_of_ble_eq_true rfl) hE (fun J g hr hG hl hR hn => ?_)
  show X J (fun q : Int32 × Mem => (some (Value.int q.1), q.2)) (fX11_odds φ t a1 a2 a3 a4 M) 0 [(0, .ref t), (1, .int a1), (2, .int a2), (3, .int a3), (4, .int a4)] [] M
  unfold fX11_odds
  exact (x_aload_n g 0 dX11_odds_0 rfl rfl
 (x_iload_n g 1 dX11_odds_1 rfl rfl
 (x_callVip (As := [.int a1]) g mv_X11_isHole mi_X11_isHole lk_RX11_302 ht (fun b hb => kX11_isHole t a1 M ht _ _ hb) rfl rfl hR ⟨Nat.le_of_ble_eq_true rfl, Nat.le_of_ble_eq_true rfl⟩ (Nat.le_of_ble_eq_true rfl) dX11_odds_2 (fun v1 =>
 (x_if_eq g 54 dX11_odds_5 rfl
 (fun _ => (x_aload_n g 0 dX11_odds_54 rfl rfl
 (x_iconst g dX11_odds_55 kI_1
 (x_callVi (As := [.int (1 : Int32)]) g mv_X11_is mi_X11_is lk_RX11_109 ht (fun b Mh_ hb => kX11_is t (1 : Int32) M ht _ _ hb) rfl rfl hR ⟨Nat.le_of_ble_eq_true rfl, Nat.le_of_ble_eq_true rfl⟩ (Nat.le_of_ble_eq_true rfl) dX11_odds_56 (fun v2 M3 =>
 (x_ck (fun hq4 => x_iret g hr (nbz hq4) rfl dX11_odds_59)))))))
 (fun _ => (x_aload_n g 0 dX11_odds_8 rfl rfl
 (x_iload_n g 2 dX11_odds_9 rfl rfl
 (x_i2l g dX11_odds_10
 (x_callVip (As := [.long (a2.toInt64)]) g mv_X11_isRock mi_X11_isRock lk_RX11_283 ht (fun b hb => kX11_isRock t (a2.toInt64) M ht _ _ hb) rfl rfl hR ⟨Nat.le_of_ble_eq_true rfl, Nat.le_of_ble_eq_true rfl⟩ (Nat.le_of_ble_eq_true rfl) dX11_odds_11 (fun v5 =>
 (x_if_eq g 54 dX11_odds_14 rfl
 (fun _ => (x_aload_n g 0 dX11_odds_54 rfl rfl
 (x_iconst g dX11_odds_55 kI_1
 (x_callVi (As := [.int (1 : Int32)]) g mv_X11_is mi_X11_is lk_RX11_109 ht (fun b Mh_ hb => kX11_is t (1 : Int32) M ht _ _ hb) rfl rfl hR ⟨Nat.le_of_ble_eq_true rfl, Nat.le_of_ble_eq_true rfl⟩ (Nat.le_of_ble_eq_true rfl) dX11_odds_56 (fun v6 M7 =>
 (x_ck (fun hq8 => x_iret g hr (nbz hq8) rfl dX11_odds_59)))))))
 (fun _ => (x_iload_n g 3 dX11_odds_17 rfl rfl
 (x_i2l g dX11_odds_18
 (x_lconst g dX11_odds_19 kL_0
 (x_ldc2 g cw_RX11_474 dX11_odds_20
 (x_callSip (As := [.long (a3.toInt64), .long (0 : Int64), .long (9999 : Int64)]) g mv_X11_isFrom ms_X11_isFrom lk_RX11_399 (fun b hb => kX11_isFrom (a3.toInt64) (0 : Int64) (9999 : Int64) M _ _ hb) rfl rfl hR ⟨Nat.le_of_ble_eq_true rfl, Nat.le_of_ble_eq_true rfl⟩ (Nat.le_of_ble_eq_true rfl) dX11_odds_23 (fun v9 =>
 (x_if_eq g 54 dX11_odds_26 rfl
 (fun _ => (x_aload_n g 0 dX11_odds_54 rfl rfl
 (x_iconst g dX11_odds_55 kI_1
 (x_callVi (As := [.int (1 : Int32)]) g mv_X11_is mi_X11_is lk_RX11_109 ht (fun b Mh_ hb => kX11_is t (1 : Int32) M ht _ _ hb) rfl rfl hR ⟨Nat.le_of_ble_eq_true rfl, Nat.le_of_ble_eq_true rfl⟩ (Nat.le_of_ble_eq_true rfl) dX11_odds_56 (fun v10 M11 =>
 (x_ck (fun hq12 => x_iret g hr (nbz hq12) rfl dX11_odds_59)))))))
 (fun _ => (x_iload g 4 dX11_odds_29 rfl
 (x_i2l g dX11_odds_31
 (x_lconst g dX11_odds_32 kL_1
 (x_ldc2 g cw_RX11_483 dX11_odds_33
 (x_callSip (As := [.long (a4.toInt64), .long (1 : Int64), .long (10 : Int64)]) g mv_X11_isFrom ms_X11_isFrom lk_RX11_399 (fun b hb => kX11_isFrom (a4.toInt64) (1 : Int64) (10 : Int64) M _ _ hb) rfl rfl hR ⟨Nat.le_of_ble_eq_true rfl, Nat.le_of_ble_eq_true rfl⟩ (Nat.le_of_ble_eq_true rfl) dX11_odds_36 (fun v13 =>
 (x_if_eq g 54 dX11_odds_39 rfl
 (fun _ => (x_aload_n g 0 dX11_odds_54 rfl rfl
 (x_iconst g dX11_odds_55 kI_1
 (x_callVi (As := [.int (1 : Int32)]) g mv_X11_is mi_X11_is lk_RX11_109 ht (fun b Mh_ hb => kX11_is t (1 : Int32) M ht _ _ hb) rfl rfl hR ⟨Nat.le_of_ble_eq_true rfl, Nat.le_of_ble_eq_true rfl⟩ (Nat.le_of_ble_eq_true rfl) dX11_odds_56 (fun v14 M15 =>
 (x_ck (fun hq16 => x_iret g hr (nbz hq16) rfl dX11_odds_59)))))))
 (fun _ => (x_iload_n g 3 dX11_odds_42 rfl rfl
 (x_iload g 4 dX11_odds_43 rfl
 (x_iadd g dX11_odds_45
 (x_iconst g dX11_odds_46 kI_1
 (x_isub g dX11_odds_47
 (x_sipush g dX11_odds_48 kS_9999
 (x_icmp_le g 60 dX11_odds_51 rfl
 (fun _ => (x_aload_n g 0 dX11_odds_60 rfl rfl
 (x_getS g 1 fl_RX11_7 rfl ht dX11_odds_61
 (x_iconst g dX11_odds_64 kI_4
 (x_iald g (so_11_0 ht) dX11_odds_65
 (x_iconst g dX11_odds_66 kI_m1
 (x_icmp_ne g 77 dX11_odds_67 rfl
 (fun _ => (x_iconst g dX11_odds_77 kI_0
 (x_istore (L' := [(5, .int (0 : Int32)), (0, .ref t), (1, .int a1), (2, .int a2), (3, .int a3), (4, .int a4)]) g dX11_odds_78 hn (Nat.le_of_ble_eq_true rfl) rfl
 (x_sub [1, 2, 3, 4, 5, 0] rfl (wlX11_odds_80 g hr hR hn _ t a1 a2 a3 a4 ht
 (fun M18 => by exact (x_iconst g dX11_odds_112 kI_0
 (x_istore (L' := [(5, .int (0 : Int32)), (0, .ref t), (1, .int a1), (2, .int a2), (3, .int a3), (4, .int a4)]) g dX11_odds_113 hn (Nat.le_of_ble_eq_true rfl) rfl
 (x_iconst g dX11_odds_115 kI_0
 (x_istore (L' := [(6, .int (0 : Int32)), (5, .int (0 : Int32)), (0, .ref t), (1, .int a1), (2, .int a2), (3, .int a3), (4, .int a4)]) g dX11_odds_116 hn (Nat.le_of_ble_eq_true rfl) rfl
 (x_sub [2, 3, 4, 5, 6, 1, 0] rfl (wlX11_odds_118 g hr hR hn _ φ t a1 a2 a3 a4 ht
 (fun v27 M28 => by exact (x_aload_n g 0 dX11_odds_193 rfl rfl
 (x_iload g 2 dX11_odds_194 rfl
 (x_i2l g dX11_odds_196
 (x_iload g 1 dX11_odds_197 rfl
 (x_i2l g dX11_odds_199
 (x_callVi (As := [.long (v27.toInt64), .long (a4.toInt64)]) g mv_X11_tellsBy mi_X11_tellsBy lk_RX11_387 ht (fun b Mh_ hb => kX11_tellsBy φ t (v27.toInt64) (a4.toInt64) M28 ht _ _ hb) rfl rfl hR ⟨Nat.le_of_ble_eq_true rfl, Nat.le_of_ble_eq_true rfl⟩ (Nat.le_of_ble_eq_true rfl) dX11_odds_200 (fun v29 M30 =>
 (x_ck (fun hq31 => x_iret g hr (nbz hq31) rfl dX11_odds_203)))))))))) φ (0 : Int32) (0 : Int32) M18))))))) φ (0 : Int32) M)))))
 (fun _ => (x_aload_n g 0 dX11_odds_70 rfl rfl
 (x_bipush g dX11_odds_71 kB_6
 (x_callVi (As := [.int (6 : Int32)]) g mv_X11_is mi_X11_is lk_RX11_109 ht (fun b Mh_ hb => kX11_is t (6 : Int32) M ht _ _ hb) rfl rfl hR ⟨Nat.le_of_ble_eq_true rfl, Nat.le_of_ble_eq_true rfl⟩ (Nat.le_of_ble_eq_true rfl) dX11_odds_73 (fun v32 M33 =>
 (x_ck (fun hq34 => x_iret g hr (nbz hq34) rfl dX11_odds_76))))))))))))))
 (fun _ => (x_aload_n g 0 dX11_odds_54 rfl rfl
 (x_iconst g dX11_odds_55 kI_1
 (x_callVi (As := [.int (1 : Int32)]) g mv_X11_is mi_X11_is lk_RX11_109 ht (fun b Mh_ hb => kX11_is t (1 : Int32) M ht _ _ hb) rfl rfl hR ⟨Nat.le_of_ble_eq_true rfl, Nat.le_of_ble_eq_true rfl⟩ (Nat.le_of_ble_eq_true rfl) dX11_odds_56 (fun v35 M36 =>
 (x_ck (fun hq37 => x_iret g hr (nbz hq37) rfl dX11_odds_59)))))))))))))))))))))))))))))))))))))))))))
def lX11_copies_2 (K39 : Mem → Option (Unit × Mem)) (t : Nat) (x1 : Int32) (x2 : Int32) : Nat → Int32 → Mem → Option (Unit × Mem)
  | 0, _, _ => none
  | n + 1, x3, M =>
    if (650 : Int32) ≤ x3 then
 K39 M
 else
 ixk (((650 : Int32) * x1) + x3) 3900 (
 ixk (((650 : Int32) * x2) + x3) 3900 (nm (stI M (t + 1) (((650 : Int32) * x2) + x3).toNatClampNeg (M.1 (t + 1) (((650 : Int32) * x1) + x3).toNatClampNeg)) (fun M1 =>
 lX11_copies_2 K39 t x1 x2 n (x3 + 1) M1)))
theorem lX11_copies_2_s (K39 : Mem → Option (Unit × Mem)) (t : Nat) (x1 : Int32) (x2 : Int32) (n : Nat) (x3 : Int32) (M : Mem) : lX11_copies_2 K39 t x1 x2 (n + 1) x3 M =
    if (650 : Int32) ≤ x3 then
 K39 M
 else
 ixk (((650 : Int32) * x1) + x3) 3900 (
 ixk (((650 : Int32) * x2) + x3) 3900 (nm (stI M (t + 1) (((650 : Int32) * x2) + x3).toNatClampNeg (M.1 (t + 1) (((650 : Int32) * x1) + x3).toNatClampNeg)) (fun M1 =>
 lX11_copies_2 K39 t x1 x2 n (x3 + 1) M1))) := rfl
theorem lX11_copies_2_0 (K39 : Mem → Option (Unit × Mem)) (t : Nat) (x1 : Int32) (x2 : Int32) (x3 : Int32) (M : Mem) : lX11_copies_2 K39 t x1 x2 0 x3 M = none := rfl
set_option maxRecDepth 100000 in
set_option maxHeartbeats 4000000 in
theorem wlX11_copies_2 {J : JT} (g : Gd J cX11_copies RX11) (hr : Rt J none) (hR : (JR J).frames = 0 ∧ (JR J).locals = 0) (hn : Jn J = 4) (K39 : Mem → Option (Unit × Mem)) (t : Nat) (x1 : Int32) (x2 : Int32) (ht : isO 11 t) (hK39 : ∀ (M : Mem), X J (fun q : Unit × Mem => ((none : Option Value), q.2)) (K39 M) 39 [(0, .ref t), (1, .int x1), (2, .int x2)] [] M) : ∀ (n : Nat) (x3 : Int32) (M : Mem), X J (fun q : Unit × Mem => ((none : Option Value), q.2)) (lX11_copies_2 K39 t x1 x2 n x3 M) 2 [(0, .ref t), (1, .int x1), (2, .int x2), (3, .int x3)] [] M := by
  intro n
  induction n with
  | zero =>
    intro x3 M
    exact x_none
  | succ n ih =>
    intro x3 M
    rw [lX11_copies_2_s]
    exact (x_iload_n g 3 dX11_copies_2 rfl rfl
 (x_sipush g dX11_copies_3 kS_650
 (x_icmp_ge g 39 dX11_copies_6 rfl
 (fun _ => (x_sub [0, 1, 2] rfl (hK39 M)))
 (fun _ => (x_aload_n g 0 dX11_copies_9 rfl rfl
 (x_getS g 1 fl_RX11_7 rfl ht dX11_copies_10
 (x_sipush g dX11_copies_13 kS_650
 (x_iload_n g 2 dX11_copies_16 rfl rfl
 (x_imul g dX11_copies_17
 (x_iload_n g 3 dX11_copies_18 rfl rfl
 (x_iadd g dX11_copies_19
 (x_aload_n g 0 dX11_copies_20 rfl rfl
 (x_getS g 1 fl_RX11_7 rfl ht dX11_copies_21
 (x_sipush g dX11_copies_24 kS_650
 (x_iload_n g 1 dX11_copies_27 rfl rfl
 (x_imul g dX11_copies_28
 (x_iload_n g 3 dX11_copies_29 rfl rfl
 (x_iadd g dX11_copies_30
 (x_iald g (so_11_0 ht) dX11_copies_31
 (x_iast g (so_11_0 ht) dX11_copies_32 (x_nmM (fun M1 =>
 (x_iinc (L' := [(3, .int (x3 + 1)), (0, .ref t), (1, .int x1), (2, .int x2)]) (v := (x3 + 1)) g 3 dX11_copies_33 rfl (by rw [kI_1]) hn (Nat.le_of_ble_eq_true rfl) rfl
 (x_goto g 2 dX11_copies_36 rfl
 (x_sub [1, 2, 3, 0] rfl (ih (x3 + 1) M1))))))))))))))))))))))))))
def lX11_copies_41 (t : Nat) (x1 : Int32) (x2 : Int32) : Nat → Int32 → Mem → Option (Unit × Mem)
  | 0, _, _ => none
  | n + 1, x3, M =>
    if (16 : Int32) ≤ x3 then
 some ((), M)
 else
 ixk (((16 : Int32) * x1) + x3) 90 (
 ixk (((16 : Int32) * x2) + x3) 90 (nm (stL M (t + 2) (((16 : Int32) * x2) + x3).toNatClampNeg (M.2.1 (t + 2) (((16 : Int32) * x1) + x3).toNatClampNeg)) (fun M3 =>
 lX11_copies_41 t x1 x2 n (x3 + 1) M3)))
theorem lX11_copies_41_s (t : Nat) (x1 : Int32) (x2 : Int32) (n : Nat) (x3 : Int32) (M : Mem) : lX11_copies_41 t x1 x2 (n + 1) x3 M =
    if (16 : Int32) ≤ x3 then
 some ((), M)
 else
 ixk (((16 : Int32) * x1) + x3) 90 (
 ixk (((16 : Int32) * x2) + x3) 90 (nm (stL M (t + 2) (((16 : Int32) * x2) + x3).toNatClampNeg (M.2.1 (t + 2) (((16 : Int32) * x1) + x3).toNatClampNeg)) (fun M3 =>
 lX11_copies_41 t x1 x2 n (x3 + 1) M3))) := rfl
theorem lX11_copies_41_0 (t : Nat) (x1 : Int32) (x2 : Int32) (x3 : Int32) (M : Mem) : lX11_copies_41 t x1 x2 0 x3 M = none := rfl
set_option maxRecDepth 100000 in
set_option maxHeartbeats 4000000 in
theorem wlX11_copies_41 {J : JT} (g : Gd J cX11_copies RX11) (hr : Rt J none) (hR : (JR J).frames = 0 ∧ (JR J).locals = 0) (hn : Jn J = 4) (t : Nat) (x1 : Int32) (x2 : Int32) (ht : isO 11 t) : ∀ (n : Nat) (x3 : Int32) (M : Mem), X J (fun q : Unit × Mem => ((none : Option Value), q.2)) (lX11_copies_41 t x1 x2 n x3 M) 41 [(0, .ref t), (1, .int x1), (2, .int x2), (3, .int x3)] [] M := by
  intro n
  induction n with
  | zero =>
    intro x3 M
    exact x_none
  | succ n ih =>
    intro x3 M
    rw [lX11_copies_41_s]
    exact (x_iload_n g 3 dX11_copies_41 rfl rfl
 (x_bipush g dX11_copies_42 kB_16
 (x_icmp_ge g 75 dX11_copies_44 rfl
 (fun _ => (x_vret g hr rfl dX11_copies_75))
 (fun _ => (x_aload_n g 0 dX11_copies_47 rfl rfl
 (x_getS g 2 fl_RX11_13 rfl ht dX11_copies_48
 (x_bipush g dX11_copies_51 kB_16
 (x_iload_n g 2 dX11_copies_53 rfl rfl
 (x_imul g dX11_copies_54
 (x_iload_n g 3 dX11_copies_55 rfl rfl
 (x_iadd g dX11_copies_56
 (x_aload_n g 0 dX11_copies_57 rfl rfl
 (x_getS g 2 fl_RX11_13 rfl ht dX11_copies_58
 (x_bipush g dX11_copies_61 kB_16
 (x_iload_n g 1 dX11_copies_63 rfl rfl
 (x_imul g dX11_copies_64
 (x_iload_n g 3 dX11_copies_65 rfl rfl
 (x_iadd g dX11_copies_66
 (x_lald g (so_11_1 ht) dX11_copies_67
 (x_last g (so_11_1 ht) dX11_copies_68 (x_nmM (fun M3 =>
 (x_iinc (L' := [(3, .int (x3 + 1)), (0, .ref t), (1, .int x1), (2, .int x2)]) (v := (x3 + 1)) g 3 dX11_copies_69 rfl (by rw [kI_1]) hn (Nat.le_of_ble_eq_true rfl) rfl
 (x_goto g 41 dX11_copies_72 rfl
 (x_sub [1, 2, 3, 0] rfl (ih (x3 + 1) M3))))))))))))))))))))))))))
def fX11_copies (φ : Nat) (t : Nat) (a1 : Int32) (a2 : Int32) (M : Mem) : Option (Unit × Mem) :=
  lX11_copies_2 (fun (M2 : Mem) => lX11_copies_41 t a1 a2 φ (0 : Int32) M2) t a1 a2 φ (0 : Int32) M
set_option maxRecDepth 100000 in
set_option maxHeartbeats 4000000 in
theorem kX11_copies (φ : Nat) (t : Nat) (a1 : Int32) (a2 : Int32) (M : Mem) (ht : isO 11 t) (l : Launch) (G : GT) {b : (Unit × Mem)} (hE : fX11_copies φ t a1 a2 M = some b) : Ok l G yX11_copies cX11_copies 4 none 0 0 [.ref t, .int a1, .int a2] M ((fun q : Unit × Mem => ((none : Option Value), q.2)) b).1 ((fun q : Unit × Mem => ((none : Option Value), q.2)) b).2 := by
  refine Ok.ofX (pj := (fun q : Unit × Mem => ((none : Option Value), q.2))) (by decide) (Nat.le_of_ble_eq_true rfl) hE (fun J g hr hG hl hR hn => ?_)
  show X J (fun q : Unit × Mem => ((none : Option Value), q.2)) (fX11_copies φ t a1 a2 M) 0 [(0, .ref t), (1, .int a1), (2, .int a2)] [] M
  unfold fX11_copies
  exact (x_iconst g dX11_copies_0 kI_0
 (x_istore_n (L' := [(3, .int (0 : Int32)), (0, .ref t), (1, .int a1), (2, .int a2)]) g dX11_copies_1 rfl hn (Nat.le_of_ble_eq_true rfl) rfl
 (x_sub [1, 2, 3, 0] rfl (wlX11_copies_2 g hr hR hn _ t a1 a2 ht
 (fun M2 => by exact (x_iconst g dX11_copies_39 kI_0
 (x_istore_n (L' := [(3, .int (0 : Int32)), (0, .ref t), (1, .int a1), (2, .int a2)]) g dX11_copies_40 rfl hn (Nat.le_of_ble_eq_true rfl) rfl
 (x_sub [1, 2, 3, 0] rfl (wlX11_copies_41 g hr hR hn  t a1 a2 ht φ (0 : Int32) M2))))) φ (0 : Int32) M))))
def fX11_mark (φ : Nat) (t : Nat) (M : Mem) : Option (Int32 × Mem) :=
  if (M.1 t 45) = (3 : Int32) then
 bd (fX11_refuse t (4 : Int32) M) fun v6 M7 =>
 some (v6, M7)
 else
 nm (stI M t 45 ((M.1 t 45) + (1 : Int32))) (fun M1 =>
 bd (fX11_copies φ t (0 : Int32) (M1.1 t 45) M1) fun vu2 M3 =>
 bd (fX11_gives t (M3.1 t 45) M3) fun v4 M5 =>
 some (v4, M5))
set_option maxRecDepth 100000 in
set_option maxHeartbeats 4000000 in
theorem kX11_mark (φ : Nat) (t : Nat) (M : Mem) (ht : isO 11 t) (l : Launch) (G : GT) {b : (Int32 × Mem)} (hE : fX11_mark φ t M = some b) : Ok l G yX11_mark cX11_mark 1 (some .int) 1 23 [.ref t] M ((fun q : Int32 × Mem => (some (Value.int q.1), q.2)) b).1 ((fun q : Int32 × Mem => (some (Value.int q.1), q.2)) b).2 := by
  refine Ok.ofX (pj := (fun q : Int32 × Mem => (some (Value.int q.1), q.2))) (by decide) (Nat.le_of_ble_eq_true rfl) hE (fun J g hr hG hl hR hn => ?_)
  show X J (fun q : Int32 × Mem => (some (Value.int q.1), q.2)) (fX11_mark φ t M) 0 [(0, .ref t)] [] M
  unfold fX11_mark
  exact (x_aload_n g 0 dX11_mark_0 rfl rfl
 (x_getI g fl_RX11_485 rfl ht dX11_mark_1
 (x_iconst g dX11_mark_4 kI_3
 (x_icmp_ne g 14 dX11_mark_5 rfl
 (fun _ => (x_aload_n g 0 dX11_mark_14 rfl rfl
 (x_dup g dX11_mark_15 rfl
 (x_getI g fl_RX11_485 rfl ht dX11_mark_16
 (x_iconst g dX11_mark_19 kI_1
 (x_iadd g dX11_mark_20
 (x_putI g fp_RX11_485 rfl (Nat.le_of_ble_eq_true rfl) ht dX11_mark_21 (x_nmM (fun M1 =>
 (x_aload_n g 0 dX11_mark_24 rfl rfl
 (x_iconst g dX11_mark_25 kI_0
 (x_aload_n g 0 dX11_mark_26 rfl rfl
 (x_getI g fl_RX11_485 rfl ht dX11_mark_27
 (x_callVv (As := [.int (0 : Int32), .int (M1.1 t 45)]) g mv_X11_copies mi_X11_copies lk_RX11_488 ht (fun b Mh_ hb => kX11_copies φ t (0 : Int32) (M1.1 t 45) M1 ht _ _ hb) rfl rfl hR ⟨Nat.le_of_ble_eq_true rfl, Nat.le_of_ble_eq_true rfl⟩ (Nat.le_of_ble_eq_true rfl) dX11_mark_30 (fun vu2 M3 =>
 (x_aload_n g 0 dX11_mark_33 rfl rfl
 (x_aload_n g 0 dX11_mark_34 rfl rfl
 (x_getI g fl_RX11_485 rfl ht dX11_mark_35
 (x_callVi (As := [.int (M3.1 t 45)]) g mv_X11_gives mi_X11_gives lk_RX11_106 ht (fun b Mh_ hb => kX11_gives t (M3.1 t 45) M3 ht _ _ hb) rfl rfl hR ⟨Nat.le_of_ble_eq_true rfl, Nat.le_of_ble_eq_true rfl⟩ (Nat.le_of_ble_eq_true rfl) dX11_mark_38 (fun v4 M5 =>
 (x_iret g hr rfl rfl dX11_mark_41)))))))))))))))))))))
 (fun _ => (x_aload_n g 0 dX11_mark_8 rfl rfl
 (x_iconst g dX11_mark_9 kI_4
 (x_callVi (As := [.int (4 : Int32)]) g mv_X11_refuse mi_X11_refuse lk_RX11_102 ht (fun b Mh_ hb => kX11_refuse t (4 : Int32) M ht _ _ hb) rfl rfl hR ⟨Nat.le_of_ble_eq_true rfl, Nat.le_of_ble_eq_true rfl⟩ (Nat.le_of_ble_eq_true rfl) dX11_mark_10 (fun v6 M7 =>
 (x_iret g hr rfl rfl dX11_mark_13))))))))))
def fX11_back (φ : Nat) (t : Nat) (M : Mem) : Option (Int32 × Mem) :=
  if (M.1 t 45) = 0 then
 bd (fX11_refuse t (6 : Int32) M) fun v6 M7 =>
 some (v6, M7)
 else
 bd (fX11_copies φ t (M.1 t 45) (0 : Int32) M) fun vu1 M2 =>
 nm (stI M2 t 45 ((M2.1 t 45) - (1 : Int32))) (fun M3 =>
 bd (fX11_gives t (M3.1 t 45) M3) fun v4 M5 =>
 some (v4, M5))
set_option maxRecDepth 100000 in
set_option maxHeartbeats 4000000 in
theorem kX11_back (φ : Nat) (t : Nat) (M : Mem) (ht : isO 11 t) (l : Launch) (G : GT) {b : (Int32 × Mem)} (hE : fX11_back φ t M = some b) : Ok l G yX11_back cX11_back 1 (some .int) 1 23 [.ref t] M ((fun q : Int32 × Mem => (some (Value.int q.1), q.2)) b).1 ((fun q : Int32 × Mem => (some (Value.int q.1), q.2)) b).2 := by
  refine Ok.ofX (pj := (fun q : Int32 × Mem => (some (Value.int q.1), q.2))) (by decide) (Nat.le_of_ble_eq_true rfl) hE (fun J g hr hG hl hR hn => ?_)
  show X J (fun q : Int32 × Mem => (some (Value.int q.1), q.2)) (fX11_back φ t M) 0 [(0, .ref t)] [] M
  unfold fX11_back
  exact (x_aload_n g 0 dX11_back_0 rfl rfl
 (x_getI g fl_RX11_485 rfl ht dX11_back_1
 (x_if_ne g 14 dX11_back_4 rfl
 (fun _ => (x_aload_n g 0 dX11_back_14 rfl rfl
 (x_aload_n g 0 dX11_back_15 rfl rfl
 (x_getI g fl_RX11_485 rfl ht dX11_back_16
 (x_iconst g dX11_back_19 kI_0
 (x_callVv (As := [.int (M.1 t 45), .int (0 : Int32)]) g mv_X11_copies mi_X11_copies lk_RX11_488 ht (fun b Mh_ hb => kX11_copies φ t (M.1 t 45) (0 : Int32) M ht _ _ hb) rfl rfl hR ⟨Nat.le_of_ble_eq_true rfl, Nat.le_of_ble_eq_true rfl⟩ (Nat.le_of_ble_eq_true rfl) dX11_back_20 (fun vu1 M2 =>
 (x_aload_n g 0 dX11_back_23 rfl rfl
 (x_dup g dX11_back_24 rfl
 (x_getI g fl_RX11_485 rfl ht dX11_back_25
 (x_iconst g dX11_back_28 kI_1
 (x_isub g dX11_back_29
 (x_putI g fp_RX11_485 rfl (Nat.le_of_ble_eq_true rfl) ht dX11_back_30 (x_nmM (fun M3 =>
 (x_aload_n g 0 dX11_back_33 rfl rfl
 (x_aload_n g 0 dX11_back_34 rfl rfl
 (x_getI g fl_RX11_485 rfl ht dX11_back_35
 (x_callVi (As := [.int (M3.1 t 45)]) g mv_X11_gives mi_X11_gives lk_RX11_106 ht (fun b Mh_ hb => kX11_gives t (M3.1 t 45) M3 ht _ _ hb) rfl rfl hR ⟨Nat.le_of_ble_eq_true rfl, Nat.le_of_ble_eq_true rfl⟩ (Nat.le_of_ble_eq_true rfl) dX11_back_38 (fun v4 M5 =>
 (x_iret g hr rfl rfl dX11_back_41)))))))))))))))))))))
 (fun _ => (x_aload_n g 0 dX11_back_7 rfl rfl
 (x_bipush g dX11_back_8 kB_6
 (x_callVi (As := [.int (6 : Int32)]) g mv_X11_refuse mi_X11_refuse lk_RX11_102 ht (fun b Mh_ hb => kX11_refuse t (6 : Int32) M ht _ _ hb) rfl rfl hR ⟨Nat.le_of_ble_eq_true rfl, Nat.le_of_ble_eq_true rfl⟩ (Nat.le_of_ble_eq_true rfl) dX11_back_10 (fun v6 M7 =>
 (x_iret g hr rfl rfl dX11_back_13)))))))))
