theorem dX11_square_0 : decode cX11_square 0 = .ok (.aload_n 0, 1) := by decide +kernel
theorem dX11_square_1 : decode cX11_square 1 = .ok (.getfield 7, 3) := by decide +kernel
theorem dX11_square_4 : decode cX11_square 4 = .ok (.iload_n 1, 1) := by decide +kernel
theorem dX11_square_5 : decode cX11_square 5 = .ok (.invokestatic 280, 3) := by decide +kernel
theorem dX11_square_8 : decode cX11_square 8 = .ok (.iaload, 1) := by decide +kernel
theorem dX11_square_9 : decode cX11_square 9 = .ok (.aload_n 0, 1) := by decide +kernel
theorem dX11_square_10 : decode cX11_square 10 = .ok (.getfield 7, 3) := by decide +kernel
theorem dX11_square_13 : decode cX11_square 13 = .ok (.iload_n 2, 1) := by decide +kernel
theorem dX11_square_14 : decode cX11_square 14 = .ok (.invokestatic 280, 3) := by decide +kernel
theorem dX11_square_17 : decode cX11_square 17 = .ok (.iaload, 1) := by decide +kernel
theorem dX11_square_18 : decode cX11_square 18 = .ok (.isub, 1) := by decide +kernel
theorem dX11_square_19 : decode cX11_square 19 = .ok (.istore_n 3, 1) := by decide +kernel
theorem dX11_square_20 : decode cX11_square 20 = .ok (.aload_n 0, 1) := by decide +kernel
theorem dX11_square_21 : decode cX11_square 21 = .ok (.getfield 7, 3) := by decide +kernel
theorem dX11_square_24 : decode cX11_square 24 = .ok (.iload_n 1, 1) := by decide +kernel
theorem dX11_square_25 : decode cX11_square 25 = .ok (.invokestatic 280, 3) := by decide +kernel
theorem dX11_square_28 : decode cX11_square 28 = .ok (.iconst 1, 1) := by decide +kernel
theorem dX11_square_29 : decode cX11_square 29 = .ok (.iadd, 1) := by decide +kernel
theorem dX11_square_30 : decode cX11_square 30 = .ok (.iaload, 1) := by decide +kernel
theorem dX11_square_31 : decode cX11_square 31 = .ok (.aload_n 0, 1) := by decide +kernel
theorem dX11_square_32 : decode cX11_square 32 = .ok (.getfield 7, 3) := by decide +kernel
theorem dX11_square_35 : decode cX11_square 35 = .ok (.iload_n 2, 1) := by decide +kernel
theorem dX11_square_36 : decode cX11_square 36 = .ok (.invokestatic 280, 3) := by decide +kernel
theorem dX11_square_39 : decode cX11_square 39 = .ok (.iconst 1, 1) := by decide +kernel
theorem dX11_square_40 : decode cX11_square 40 = .ok (.iadd, 1) := by decide +kernel
theorem dX11_square_41 : decode cX11_square 41 = .ok (.iaload, 1) := by decide +kernel
theorem dX11_square_42 : decode cX11_square 42 = .ok (.isub, 1) := by decide +kernel
theorem dX11_square_43 : decode cX11_square 43 = .ok (.istore 4, 2) := by decide +kernel
theorem dX11_square_45 : decode cX11_square 45 = .ok (.iload_n 3, 1) := by decide +kernel
theorem dX11_square_46 : decode cX11_square 46 = .ok (.iload_n 3, 1) := by decide +kernel
theorem dX11_square_47 : decode cX11_square 47 = .ok (.imul, 1) := by decide +kernel
theorem dX11_square_48 : decode cX11_square 48 = .ok (.iload 4, 2) := by decide +kernel
theorem dX11_square_50 : decode cX11_square 50 = .ok (.iload 4, 2) := by decide +kernel
theorem dX11_square_52 : decode cX11_square 52 = .ok (.imul, 1) := by decide +kernel
theorem dX11_square_53 : decode cX11_square 53 = .ok (.iadd, 1) := by decide +kernel
theorem dX11_square_54 : decode cX11_square 54 = .ok (.ireturn, 1) := by decide +kernel
theorem dX11_laysTree_0 : decode cX11_laysTree 0 = .ok (.aload_n 0, 1) := by decide +kernel
theorem dX11_laysTree_1 : decode cX11_laysTree 1 = .ok (.getfield 7, 3) := by decide +kernel
theorem dX11_laysTree_4 : decode cX11_laysTree 4 = .ok (.iconst 1, 1) := by decide +kernel
theorem dX11_laysTree_5 : decode cX11_laysTree 5 = .ok (.iaload, 1) := by decide +kernel
theorem dX11_laysTree_6 : decode cX11_laysTree 6 = .ok (.istore_n 1, 1) := by decide +kernel
theorem dX11_laysTree_7 : decode cX11_laysTree 7 = .ok (.iconst 0, 1) := by decide +kernel
theorem dX11_laysTree_8 : decode cX11_laysTree 8 = .ok (.istore_n 2, 1) := by decide +kernel
theorem dX11_laysTree_9 : decode cX11_laysTree 9 = .ok (.iload_n 2, 1) := by decide +kernel
theorem dX11_laysTree_10 : decode cX11_laysTree 10 = .ok (.iload_n 1, 1) := by decide +kernel
theorem dX11_laysTree_11 : decode cX11_laysTree 11 = .ok (.if_icmp .ge 16, 3) := by decide +kernel
theorem dX11_laysTree_14 : decode cX11_laysTree 14 = .ok (.aload_n 0, 1) := by decide +kernel
theorem dX11_laysTree_15 : decode cX11_laysTree 15 = .ok (.getfield 65, 3) := by decide +kernel
theorem dX11_laysTree_18 : decode cX11_laysTree 18 = .ok (.iload_n 2, 1) := by decide +kernel
theorem dX11_laysTree_19 : decode cX11_laysTree 19 = .ok (.iload_n 2, 1) := by decide +kernel
theorem dX11_laysTree_20 : decode cX11_laysTree 20 = .ok (.iastore, 1) := by decide +kernel
theorem dX11_laysTree_21 : decode cX11_laysTree 21 = .ok (.iinc 2 1, 3) := by decide +kernel
theorem dX11_laysTree_24 : decode cX11_laysTree 24 = .ok (.goto (-15), 3) := by decide +kernel
theorem dX11_laysTree_27 : decode cX11_laysTree 27 = .ok (.aload_n 0, 1) := by decide +kernel
theorem dX11_laysTree_28 : decode cX11_laysTree 28 = .ok (.iconst 0, 1) := by decide +kernel
theorem dX11_laysTree_29 : decode cX11_laysTree 29 = .ok (.putfield 336, 3) := by decide +kernel
theorem dX11_laysTree_32 : decode cX11_laysTree 32 = .ok (.aload_n 0, 1) := by decide +kernel
theorem dX11_laysTree_33 : decode cX11_laysTree 33 = .ok (.getfield 336, 3) := by decide +kernel
theorem dX11_laysTree_36 : decode cX11_laysTree 36 = .ok (.iload_n 1, 1) := by decide +kernel
theorem dX11_laysTree_37 : decode cX11_laysTree 37 = .ok (.iconst 1, 1) := by decide +kernel
theorem dX11_laysTree_38 : decode cX11_laysTree 38 = .ok (.isub, 1) := by decide +kernel
theorem dX11_laysTree_39 : decode cX11_laysTree 39 = .ok (.if_icmp .ge 169, 3) := by decide +kernel
theorem dX11_laysTree_42 : decode cX11_laysTree 42 = .ok (.iconst (-1), 1) := by decide +kernel
theorem dX11_laysTree_43 : decode cX11_laysTree 43 = .ok (.istore_n 2, 1) := by decide +kernel
theorem dX11_laysTree_44 : decode cX11_laysTree 44 = .ok (.iconst (-1), 1) := by decide +kernel
theorem dX11_laysTree_45 : decode cX11_laysTree 45 = .ok (.istore_n 3, 1) := by decide +kernel
theorem dX11_laysTree_46 : decode cX11_laysTree 46 = .ok (.iconst 0, 1) := by decide +kernel
theorem dX11_laysTree_47 : decode cX11_laysTree 47 = .ok (.istore 4, 2) := by decide +kernel
theorem dX11_laysTree_49 : decode cX11_laysTree 49 = .ok (.iload 4, 2) := by decide +kernel
theorem dX11_laysTree_51 : decode cX11_laysTree 51 = .ok (.iload_n 1, 1) := by decide +kernel
theorem dX11_laysTree_52 : decode cX11_laysTree 52 = .ok (.if_icmp .ge 75, 3) := by decide +kernel
theorem dX11_laysTree_55 : decode cX11_laysTree 55 = .ok (.iload 4, 2) := by decide +kernel
theorem dX11_laysTree_57 : decode cX11_laysTree 57 = .ok (.iconst 1, 1) := by decide +kernel
theorem dX11_laysTree_58 : decode cX11_laysTree 58 = .ok (.iadd, 1) := by decide +kernel
theorem dX11_laysTree_59 : decode cX11_laysTree 59 = .ok (.istore 5, 2) := by decide +kernel
theorem dX11_laysTree_61 : decode cX11_laysTree 61 = .ok (.iload 5, 2) := by decide +kernel
theorem dX11_laysTree_63 : decode cX11_laysTree 63 = .ok (.iload_n 1, 1) := by decide +kernel
theorem dX11_laysTree_64 : decode cX11_laysTree 64 = .ok (.if_icmp .ge 57, 3) := by decide +kernel
theorem dX11_laysTree_67 : decode cX11_laysTree 67 = .ok (.aload_n 0, 1) := by decide +kernel
theorem dX11_laysTree_68 : decode cX11_laysTree 68 = .ok (.getfield 65, 3) := by decide +kernel
theorem dX11_laysTree_71 : decode cX11_laysTree 71 = .ok (.iload 4, 2) := by decide +kernel
theorem dX11_laysTree_73 : decode cX11_laysTree 73 = .ok (.iaload, 1) := by decide +kernel
theorem dX11_laysTree_74 : decode cX11_laysTree 74 = .ok (.aload_n 0, 1) := by decide +kernel
theorem dX11_laysTree_75 : decode cX11_laysTree 75 = .ok (.getfield 65, 3) := by decide +kernel
theorem dX11_laysTree_78 : decode cX11_laysTree 78 = .ok (.iload 5, 2) := by decide +kernel
theorem dX11_laysTree_80 : decode cX11_laysTree 80 = .ok (.iaload, 1) := by decide +kernel
theorem dX11_laysTree_81 : decode cX11_laysTree 81 = .ok (.if_icmp .eq 34, 3) := by decide +kernel
theorem dX11_laysTree_84 : decode cX11_laysTree 84 = .ok (.iload_n 2, 1) := by decide +kernel
theorem dX11_laysTree_85 : decode cX11_laysTree 85 = .ok (.iconst (-1), 1) := by decide +kernel
theorem dX11_laysTree_86 : decode cX11_laysTree 86 = .ok (.if_icmp .eq 23, 3) := by decide +kernel
theorem dX11_laysTree_89 : decode cX11_laysTree 89 = .ok (.aload_n 0, 1) := by decide +kernel
theorem dX11_laysTree_90 : decode cX11_laysTree 90 = .ok (.iload 4, 2) := by decide +kernel
theorem dX11_laysTree_92 : decode cX11_laysTree 92 = .ok (.iload 5, 2) := by decide +kernel
theorem dX11_laysTree_94 : decode cX11_laysTree 94 = .ok (.invokevirtual 339, 3) := by decide +kernel
theorem dX11_laysTree_97 : decode cX11_laysTree 97 = .ok (.aload_n 0, 1) := by decide +kernel
theorem dX11_laysTree_98 : decode cX11_laysTree 98 = .ok (.iload_n 2, 1) := by decide +kernel
theorem dX11_laysTree_99 : decode cX11_laysTree 99 = .ok (.iload_n 3, 1) := by decide +kernel
theorem dX11_laysTree_100 : decode cX11_laysTree 100 = .ok (.invokevirtual 339, 3) := by decide +kernel
theorem dX11_laysTree_103 : decode cX11_laysTree 103 = .ok (.if_icmp .lt 6, 3) := by decide +kernel
theorem dX11_laysTree_106 : decode cX11_laysTree 106 = .ok (.goto 9, 3) := by decide +kernel
theorem dX11_laysTree_109 : decode cX11_laysTree 109 = .ok (.iload 4, 2) := by decide +kernel
theorem dX11_laysTree_111 : decode cX11_laysTree 111 = .ok (.istore_n 2, 1) := by decide +kernel
theorem dX11_laysTree_112 : decode cX11_laysTree 112 = .ok (.iload 5, 2) := by decide +kernel
theorem dX11_laysTree_114 : decode cX11_laysTree 114 = .ok (.istore_n 3, 1) := by decide +kernel
theorem dX11_laysTree_115 : decode cX11_laysTree 115 = .ok (.iinc 5 1, 3) := by decide +kernel
theorem dX11_laysTree_118 : decode cX11_laysTree 118 = .ok (.goto (-57), 3) := by decide +kernel
theorem dX11_laysTree_121 : decode cX11_laysTree 121 = .ok (.iinc 4 1, 3) := by decide +kernel
theorem dX11_laysTree_124 : decode cX11_laysTree 124 = .ok (.goto (-75), 3) := by decide +kernel
theorem dX11_laysTree_127 : decode cX11_laysTree 127 = .ok (.aload_n 0, 1) := by decide +kernel
theorem dX11_laysTree_128 : decode cX11_laysTree 128 = .ok (.getfield 59, 3) := by decide +kernel
theorem dX11_laysTree_131 : decode cX11_laysTree 131 = .ok (.aload_n 0, 1) := by decide +kernel
theorem dX11_laysTree_132 : decode cX11_laysTree 132 = .ok (.getfield 336, 3) := by decide +kernel
theorem dX11_laysTree_135 : decode cX11_laysTree 135 = .ok (.iload_n 2, 1) := by decide +kernel
theorem dX11_laysTree_136 : decode cX11_laysTree 136 = .ok (.iastore, 1) := by decide +kernel
theorem dX11_laysTree_137 : decode cX11_laysTree 137 = .ok (.aload_n 0, 1) := by decide +kernel
theorem dX11_laysTree_138 : decode cX11_laysTree 138 = .ok (.getfield 62, 3) := by decide +kernel
theorem dX11_laysTree_141 : decode cX11_laysTree 141 = .ok (.aload_n 0, 1) := by decide +kernel
theorem dX11_laysTree_142 : decode cX11_laysTree 142 = .ok (.getfield 336, 3) := by decide +kernel
theorem dX11_laysTree_145 : decode cX11_laysTree 145 = .ok (.iload_n 3, 1) := by decide +kernel
theorem dX11_laysTree_146 : decode cX11_laysTree 146 = .ok (.iastore, 1) := by decide +kernel
theorem dX11_laysTree_147 : decode cX11_laysTree 147 = .ok (.aload_n 0, 1) := by decide +kernel
theorem dX11_laysTree_148 : decode cX11_laysTree 148 = .ok (.getfield 65, 3) := by decide +kernel
theorem dX11_laysTree_151 : decode cX11_laysTree 151 = .ok (.iload_n 3, 1) := by decide +kernel
theorem dX11_laysTree_152 : decode cX11_laysTree 152 = .ok (.iaload, 1) := by decide +kernel
theorem dX11_laysTree_153 : decode cX11_laysTree 153 = .ok (.istore 4, 2) := by decide +kernel
theorem dX11_laysTree_155 : decode cX11_laysTree 155 = .ok (.iconst 0, 1) := by decide +kernel
theorem dX11_laysTree_156 : decode cX11_laysTree 156 = .ok (.istore 5, 2) := by decide +kernel
theorem dX11_laysTree_158 : decode cX11_laysTree 158 = .ok (.iload 5, 2) := by decide +kernel
theorem dX11_laysTree_160 : decode cX11_laysTree 160 = .ok (.iload_n 1, 1) := by decide +kernel
theorem dX11_laysTree_161 : decode cX11_laysTree 161 = .ok (.if_icmp .ge 34, 3) := by decide +kernel
theorem dX11_laysTree_164 : decode cX11_laysTree 164 = .ok (.aload_n 0, 1) := by decide +kernel
theorem dX11_laysTree_165 : decode cX11_laysTree 165 = .ok (.getfield 65, 3) := by decide +kernel
theorem dX11_laysTree_168 : decode cX11_laysTree 168 = .ok (.iload 5, 2) := by decide +kernel
theorem dX11_laysTree_170 : decode cX11_laysTree 170 = .ok (.iaload, 1) := by decide +kernel
theorem dX11_laysTree_171 : decode cX11_laysTree 171 = .ok (.iload 4, 2) := by decide +kernel
theorem dX11_laysTree_173 : decode cX11_laysTree 173 = .ok (.if_icmp .ne 16, 3) := by decide +kernel
theorem dX11_laysTree_176 : decode cX11_laysTree 176 = .ok (.aload_n 0, 1) := by decide +kernel
theorem dX11_laysTree_177 : decode cX11_laysTree 177 = .ok (.getfield 65, 3) := by decide +kernel
theorem dX11_laysTree_180 : decode cX11_laysTree 180 = .ok (.iload 5, 2) := by decide +kernel
theorem dX11_laysTree_182 : decode cX11_laysTree 182 = .ok (.aload_n 0, 1) := by decide +kernel
theorem dX11_laysTree_183 : decode cX11_laysTree 183 = .ok (.getfield 65, 3) := by decide +kernel
theorem dX11_laysTree_186 : decode cX11_laysTree 186 = .ok (.iload_n 2, 1) := by decide +kernel
theorem dX11_laysTree_187 : decode cX11_laysTree 187 = .ok (.iaload, 1) := by decide +kernel
theorem dX11_laysTree_188 : decode cX11_laysTree 188 = .ok (.iastore, 1) := by decide +kernel
theorem dX11_laysTree_189 : decode cX11_laysTree 189 = .ok (.iinc 5 1, 3) := by decide +kernel
theorem dX11_laysTree_192 : decode cX11_laysTree 192 = .ok (.goto (-34), 3) := by decide +kernel
theorem dX11_laysTree_195 : decode cX11_laysTree 195 = .ok (.aload_n 0, 1) := by decide +kernel
theorem dX11_laysTree_196 : decode cX11_laysTree 196 = .ok (.dup, 1) := by decide +kernel
theorem dX11_laysTree_197 : decode cX11_laysTree 197 = .ok (.getfield 336, 3) := by decide +kernel
theorem dX11_laysTree_200 : decode cX11_laysTree 200 = .ok (.iconst 1, 1) := by decide +kernel
theorem dX11_laysTree_201 : decode cX11_laysTree 201 = .ok (.iadd, 1) := by decide +kernel
theorem dX11_laysTree_202 : decode cX11_laysTree 202 = .ok (.putfield 336, 3) := by decide +kernel
theorem dX11_laysTree_205 : decode cX11_laysTree 205 = .ok (.goto (-173), 3) := by decide +kernel
theorem dX11_laysTree_208 : decode cX11_laysTree 208 = .ok (.return_, 1) := by decide +kernel
theorem dX11_tree_0 : decode cX11_tree 0 = .ok (.iload_n 2, 1) := by decide +kernel
theorem dX11_tree_1 : decode cX11_tree 1 = .ok (.ifCond .lt 8, 3) := by decide +kernel
theorem dX11_tree_4 : decode cX11_tree 4 = .ok (.iload_n 2, 1) := by decide +kernel
theorem dX11_tree_5 : decode cX11_tree 5 = .ok (.iconst 2, 1) := by decide +kernel
theorem dX11_tree_6 : decode cX11_tree 6 = .ok (.if_icmp .le 9, 3) := by decide +kernel
theorem dX11_tree_9 : decode cX11_tree 9 = .ok (.aload_n 0, 1) := by decide +kernel
theorem dX11_tree_10 : decode cX11_tree 10 = .ok (.iconst 1, 1) := by decide +kernel
theorem dX11_tree_11 : decode cX11_tree 11 = .ok (.invokevirtual 102, 3) := by decide +kernel
theorem dX11_tree_14 : decode cX11_tree 14 = .ok (.ireturn, 1) := by decide +kernel
theorem dX11_tree_15 : decode cX11_tree 15 = .ok (.aload_n 0, 1) := by decide +kernel
theorem dX11_tree_16 : decode cX11_tree 16 = .ok (.invokevirtual 342, 3) := by decide +kernel
theorem dX11_tree_19 : decode cX11_tree 19 = .ok (.iload_n 1, 1) := by decide +kernel
theorem dX11_tree_20 : decode cX11_tree 20 = .ok (.ifCond .lt 11, 3) := by decide +kernel
theorem dX11_tree_23 : decode cX11_tree 23 = .ok (.iload_n 1, 1) := by decide +kernel
theorem dX11_tree_24 : decode cX11_tree 24 = .ok (.aload_n 0, 1) := by decide +kernel
theorem dX11_tree_25 : decode cX11_tree 25 = .ok (.getfield 336, 3) := by decide +kernel
theorem dX11_tree_28 : decode cX11_tree 28 = .ok (.if_icmp .lt 10, 3) := by decide +kernel
theorem dX11_tree_31 : decode cX11_tree 31 = .ok (.aload_n 0, 1) := by decide +kernel
theorem dX11_tree_32 : decode cX11_tree 32 = .ok (.bipush 6, 2) := by decide +kernel
theorem dX11_tree_34 : decode cX11_tree 34 = .ok (.invokevirtual 102, 3) := by decide +kernel
theorem dX11_tree_37 : decode cX11_tree 37 = .ok (.ireturn, 1) := by decide +kernel
theorem dX11_tree_38 : decode cX11_tree 38 = .ok (.aload_n 0, 1) := by decide +kernel
theorem dX11_tree_39 : decode cX11_tree 39 = .ok (.iload_n 2, 1) := by decide +kernel
theorem dX11_tree_40 : decode cX11_tree 40 = .ok (.ifCond .ne 12, 3) := by decide +kernel
theorem dX11_tree_43 : decode cX11_tree 43 = .ok (.aload_n 0, 1) := by decide +kernel
theorem dX11_tree_44 : decode cX11_tree 44 = .ok (.getfield 59, 3) := by decide +kernel
theorem dX11_tree_47 : decode cX11_tree 47 = .ok (.iload_n 1, 1) := by decide +kernel
theorem dX11_tree_48 : decode cX11_tree 48 = .ok (.iaload, 1) := by decide +kernel
theorem dX11_tree_49 : decode cX11_tree 49 = .ok (.goto 33, 3) := by decide +kernel
theorem dX11_tree_52 : decode cX11_tree 52 = .ok (.iload_n 2, 1) := by decide +kernel
theorem dX11_tree_53 : decode cX11_tree 53 = .ok (.iconst 1, 1) := by decide +kernel
theorem dX11_tree_54 : decode cX11_tree 54 = .ok (.if_icmp .ne 12, 3) := by decide +kernel
theorem dX11_tree_57 : decode cX11_tree 57 = .ok (.aload_n 0, 1) := by decide +kernel
theorem dX11_tree_58 : decode cX11_tree 58 = .ok (.getfield 62, 3) := by decide +kernel
theorem dX11_tree_61 : decode cX11_tree 61 = .ok (.iload_n 1, 1) := by decide +kernel
theorem dX11_tree_62 : decode cX11_tree 62 = .ok (.iaload, 1) := by decide +kernel
theorem dX11_tree_63 : decode cX11_tree 63 = .ok (.goto 19, 3) := by decide +kernel
theorem dX11_tree_66 : decode cX11_tree 66 = .ok (.aload_n 0, 1) := by decide +kernel
theorem dX11_tree_67 : decode cX11_tree 67 = .ok (.aload_n 0, 1) := by decide +kernel
theorem dX11_tree_68 : decode cX11_tree 68 = .ok (.getfield 59, 3) := by decide +kernel
theorem dX11_tree_71 : decode cX11_tree 71 = .ok (.iload_n 1, 1) := by decide +kernel
theorem dX11_tree_72 : decode cX11_tree 72 = .ok (.iaload, 1) := by decide +kernel
theorem dX11_tree_73 : decode cX11_tree 73 = .ok (.aload_n 0, 1) := by decide +kernel
theorem dX11_tree_74 : decode cX11_tree 74 = .ok (.getfield 62, 3) := by decide +kernel
theorem dX11_tree_77 : decode cX11_tree 77 = .ok (.iload_n 1, 1) := by decide +kernel
theorem dX11_tree_78 : decode cX11_tree 78 = .ok (.iaload, 1) := by decide +kernel
theorem dX11_tree_79 : decode cX11_tree 79 = .ok (.invokevirtual 339, 3) := by decide +kernel
theorem dX11_tree_82 : decode cX11_tree 82 = .ok (.invokevirtual 106, 3) := by decide +kernel
theorem dX11_tree_85 : decode cX11_tree 85 = .ok (.ireturn, 1) := by decide +kernel
theorem dX11_treeCost_0 : decode cX11_treeCost 0 = .ok (.aload_n 0, 1) := by decide +kernel
theorem dX11_treeCost_1 : decode cX11_treeCost 1 = .ok (.invokevirtual 342, 3) := by decide +kernel
theorem dX11_treeCost_4 : decode cX11_treeCost 4 = .ok (.iconst 0, 1) := by decide +kernel
theorem dX11_treeCost_5 : decode cX11_treeCost 5 = .ok (.istore_n 1, 1) := by decide +kernel
theorem dX11_treeCost_6 : decode cX11_treeCost 6 = .ok (.iconst 0, 1) := by decide +kernel
theorem dX11_treeCost_7 : decode cX11_treeCost 7 = .ok (.istore_n 2, 1) := by decide +kernel
theorem dX11_treeCost_8 : decode cX11_treeCost 8 = .ok (.iload_n 2, 1) := by decide +kernel
theorem dX11_treeCost_9 : decode cX11_treeCost 9 = .ok (.aload_n 0, 1) := by decide +kernel
theorem dX11_treeCost_10 : decode cX11_treeCost 10 = .ok (.getfield 336, 3) := by decide +kernel
theorem dX11_treeCost_13 : decode cX11_treeCost 13 = .ok (.if_icmp .ge 28, 3) := by decide +kernel
theorem dX11_treeCost_16 : decode cX11_treeCost 16 = .ok (.iload_n 1, 1) := by decide +kernel
theorem dX11_treeCost_17 : decode cX11_treeCost 17 = .ok (.aload_n 0, 1) := by decide +kernel
theorem dX11_treeCost_18 : decode cX11_treeCost 18 = .ok (.aload_n 0, 1) := by decide +kernel
theorem dX11_treeCost_19 : decode cX11_treeCost 19 = .ok (.getfield 59, 3) := by decide +kernel
theorem dX11_treeCost_22 : decode cX11_treeCost 22 = .ok (.iload_n 2, 1) := by decide +kernel
theorem dX11_treeCost_23 : decode cX11_treeCost 23 = .ok (.iaload, 1) := by decide +kernel
theorem dX11_treeCost_24 : decode cX11_treeCost 24 = .ok (.aload_n 0, 1) := by decide +kernel
theorem dX11_treeCost_25 : decode cX11_treeCost 25 = .ok (.getfield 62, 3) := by decide +kernel
theorem dX11_treeCost_28 : decode cX11_treeCost 28 = .ok (.iload_n 2, 1) := by decide +kernel
theorem dX11_treeCost_29 : decode cX11_treeCost 29 = .ok (.iaload, 1) := by decide +kernel
theorem dX11_treeCost_30 : decode cX11_treeCost 30 = .ok (.invokevirtual 330, 3) := by decide +kernel
theorem dX11_treeCost_33 : decode cX11_treeCost 33 = .ok (.iadd, 1) := by decide +kernel
theorem dX11_treeCost_34 : decode cX11_treeCost 34 = .ok (.istore_n 1, 1) := by decide +kernel
theorem dX11_treeCost_35 : decode cX11_treeCost 35 = .ok (.iinc 2 1, 3) := by decide +kernel
theorem dX11_treeCost_38 : decode cX11_treeCost 38 = .ok (.goto (-30), 3) := by decide +kernel
theorem dX11_treeCost_41 : decode cX11_treeCost 41 = .ok (.aload_n 0, 1) := by decide +kernel
theorem dX11_treeCost_42 : decode cX11_treeCost 42 = .ok (.iload_n 1, 1) := by decide +kernel
theorem dX11_treeCost_43 : decode cX11_treeCost 43 = .ok (.invokevirtual 106, 3) := by decide +kernel
theorem dX11_treeCost_46 : decode cX11_treeCost 46 = .ok (.ireturn, 1) := by decide +kernel
theorem dX11_laysBeds_0 : decode cX11_laysBeds 0 = .ok (.aload_n 0, 1) := by decide +kernel
theorem dX11_laysBeds_1 : decode cX11_laysBeds 1 = .ok (.invokevirtual 342, 3) := by decide +kernel
theorem dX11_laysBeds_4 : decode cX11_laysBeds 4 = .ok (.iconst 0, 1) := by decide +kernel
theorem dX11_laysBeds_5 : decode cX11_laysBeds 5 = .ok (.istore_n 1, 1) := by decide +kernel
theorem dX11_laysBeds_6 : decode cX11_laysBeds 6 = .ok (.iload_n 1, 1) := by decide +kernel
theorem dX11_laysBeds_7 : decode cX11_laysBeds 7 = .ok (.bipush 72, 2) := by decide +kernel
theorem dX11_laysBeds_9 : decode cX11_laysBeds 9 = .ok (.if_icmp .ge 16, 3) := by decide +kernel
theorem dX11_laysBeds_12 : decode cX11_laysBeds 12 = .ok (.aload_n 0, 1) := by decide +kernel
theorem dX11_laysBeds_13 : decode cX11_laysBeds 13 = .ok (.getfield 68, 3) := by decide +kernel
theorem dX11_laysBeds_16 : decode cX11_laysBeds 16 = .ok (.iload_n 1, 1) := by decide +kernel
theorem dX11_laysBeds_17 : decode cX11_laysBeds 17 = .ok (.iload_n 1, 1) := by decide +kernel
theorem dX11_laysBeds_18 : decode cX11_laysBeds 18 = .ok (.iastore, 1) := by decide +kernel
theorem dX11_laysBeds_19 : decode cX11_laysBeds 19 = .ok (.iinc 1 1, 3) := by decide +kernel
theorem dX11_laysBeds_22 : decode cX11_laysBeds 22 = .ok (.goto (-16), 3) := by decide +kernel
theorem dX11_laysBeds_25 : decode cX11_laysBeds 25 = .ok (.iconst 0, 1) := by decide +kernel
theorem dX11_laysBeds_26 : decode cX11_laysBeds 26 = .ok (.istore_n 1, 1) := by decide +kernel
theorem dX11_laysBeds_27 : decode cX11_laysBeds 27 = .ok (.iload_n 1, 1) := by decide +kernel
theorem dX11_laysBeds_28 : decode cX11_laysBeds 28 = .ok (.aload_n 0, 1) := by decide +kernel
theorem dX11_laysBeds_29 : decode cX11_laysBeds 29 = .ok (.getfield 336, 3) := by decide +kernel
theorem dX11_laysBeds_32 : decode cX11_laysBeds 32 = .ok (.if_icmp .ge 137, 3) := by decide +kernel
theorem dX11_laysBeds_35 : decode cX11_laysBeds 35 = .ok (.aload_n 0, 1) := by decide +kernel
theorem dX11_laysBeds_36 : decode cX11_laysBeds 36 = .ok (.aload_n 0, 1) := by decide +kernel
theorem dX11_laysBeds_37 : decode cX11_laysBeds 37 = .ok (.getfield 59, 3) := by decide +kernel
theorem dX11_laysBeds_40 : decode cX11_laysBeds 40 = .ok (.iload_n 1, 1) := by decide +kernel
theorem dX11_laysBeds_41 : decode cX11_laysBeds 41 = .ok (.iaload, 1) := by decide +kernel
theorem dX11_laysBeds_42 : decode cX11_laysBeds 42 = .ok (.aload_n 0, 1) := by decide +kernel
theorem dX11_laysBeds_43 : decode cX11_laysBeds 43 = .ok (.getfield 62, 3) := by decide +kernel
theorem dX11_laysBeds_46 : decode cX11_laysBeds 46 = .ok (.iload_n 1, 1) := by decide +kernel
theorem dX11_laysBeds_47 : decode cX11_laysBeds 47 = .ok (.iaload, 1) := by decide +kernel
theorem dX11_laysBeds_48 : decode cX11_laysBeds 48 = .ok (.invokevirtual 330, 3) := by decide +kernel
theorem dX11_laysBeds_51 : decode cX11_laysBeds 51 = .ok (.pop, 1) := by decide +kernel
theorem dX11_laysBeds_52 : decode cX11_laysBeds 52 = .ok (.iconst 0, 1) := by decide +kernel
theorem dX11_laysBeds_53 : decode cX11_laysBeds 53 = .ok (.istore_n 2, 1) := by decide +kernel
theorem dX11_laysBeds_54 : decode cX11_laysBeds 54 = .ok (.iload_n 2, 1) := by decide +kernel
theorem dX11_laysBeds_55 : decode cX11_laysBeds 55 = .ok (.aload_n 0, 1) := by decide +kernel
theorem dX11_laysBeds_56 : decode cX11_laysBeds 56 = .ok (.aload_n 0, 1) := by decide +kernel
theorem dX11_laysBeds_57 : decode cX11_laysBeds 57 = .ok (.getfield 59, 3) := by decide +kernel
theorem dX11_laysBeds_60 : decode cX11_laysBeds 60 = .ok (.iload_n 1, 1) := by decide +kernel
theorem dX11_laysBeds_61 : decode cX11_laysBeds 61 = .ok (.iaload, 1) := by decide +kernel
theorem dX11_laysBeds_62 : decode cX11_laysBeds 62 = .ok (.invokevirtual 305, 3) := by decide +kernel
theorem dX11_laysBeds_65 : decode cX11_laysBeds 65 = .ok (.if_icmp .ge 98, 3) := by decide +kernel
theorem dX11_laysBeds_68 : decode cX11_laysBeds 68 = .ok (.aload_n 0, 1) := by decide +kernel
theorem dX11_laysBeds_69 : decode cX11_laysBeds 69 = .ok (.getfield 50, 3) := by decide +kernel
theorem dX11_laysBeds_72 : decode cX11_laysBeds 72 = .ok (.iload_n 2, 1) := by decide +kernel
theorem dX11_laysBeds_73 : decode cX11_laysBeds 73 = .ok (.iaload, 1) := by decide +kernel
theorem dX11_laysBeds_74 : decode cX11_laysBeds 74 = .ok (.iconst (-1), 1) := by decide +kernel
theorem dX11_laysBeds_75 : decode cX11_laysBeds 75 = .ok (.if_icmp .ne 6, 3) := by decide +kernel
theorem dX11_laysBeds_78 : decode cX11_laysBeds 78 = .ok (.goto 79, 3) := by decide +kernel
theorem dX11_laysBeds_81 : decode cX11_laysBeds 81 = .ok (.aload_n 0, 1) := by decide +kernel
theorem dX11_laysBeds_82 : decode cX11_laysBeds 82 = .ok (.getfield 68, 3) := by decide +kernel
theorem dX11_laysBeds_85 : decode cX11_laysBeds 85 = .ok (.bipush 12, 2) := by decide +kernel
theorem dX11_laysBeds_87 : decode cX11_laysBeds 87 = .ok (.aload_n 0, 1) := by decide +kernel
theorem dX11_laysBeds_88 : decode cX11_laysBeds 88 = .ok (.getfield 59, 3) := by decide +kernel
theorem dX11_laysBeds_91 : decode cX11_laysBeds 91 = .ok (.iload_n 1, 1) := by decide +kernel
theorem dX11_laysBeds_92 : decode cX11_laysBeds 92 = .ok (.iaload, 1) := by decide +kernel
theorem dX11_laysBeds_93 : decode cX11_laysBeds 93 = .ok (.imul, 1) := by decide +kernel
theorem dX11_laysBeds_94 : decode cX11_laysBeds 94 = .ok (.iload_n 2, 1) := by decide +kernel
theorem dX11_laysBeds_95 : decode cX11_laysBeds 95 = .ok (.iadd, 1) := by decide +kernel
theorem dX11_laysBeds_96 : decode cX11_laysBeds 96 = .ok (.iaload, 1) := by decide +kernel
theorem dX11_laysBeds_97 : decode cX11_laysBeds 97 = .ok (.istore_n 3, 1) := by decide +kernel
theorem dX11_laysBeds_98 : decode cX11_laysBeds 98 = .ok (.aload_n 0, 1) := by decide +kernel
theorem dX11_laysBeds_99 : decode cX11_laysBeds 99 = .ok (.getfield 68, 3) := by decide +kernel
theorem dX11_laysBeds_102 : decode cX11_laysBeds 102 = .ok (.bipush 12, 2) := by decide +kernel
theorem dX11_laysBeds_104 : decode cX11_laysBeds 104 = .ok (.aload_n 0, 1) := by decide +kernel
theorem dX11_laysBeds_105 : decode cX11_laysBeds 105 = .ok (.getfield 62, 3) := by decide +kernel
theorem dX11_laysBeds_108 : decode cX11_laysBeds 108 = .ok (.iload_n 1, 1) := by decide +kernel
theorem dX11_laysBeds_109 : decode cX11_laysBeds 109 = .ok (.iaload, 1) := by decide +kernel
theorem dX11_laysBeds_110 : decode cX11_laysBeds 110 = .ok (.imul, 1) := by decide +kernel
theorem dX11_laysBeds_111 : decode cX11_laysBeds 111 = .ok (.aload_n 0, 1) := by decide +kernel
theorem dX11_laysBeds_112 : decode cX11_laysBeds 112 = .ok (.getfield 50, 3) := by decide +kernel
theorem dX11_laysBeds_115 : decode cX11_laysBeds 115 = .ok (.iload_n 2, 1) := by decide +kernel
theorem dX11_laysBeds_116 : decode cX11_laysBeds 116 = .ok (.iaload, 1) := by decide +kernel
theorem dX11_laysBeds_117 : decode cX11_laysBeds 117 = .ok (.iadd, 1) := by decide +kernel
theorem dX11_laysBeds_118 : decode cX11_laysBeds 118 = .ok (.iaload, 1) := by decide +kernel
theorem dX11_laysBeds_119 : decode cX11_laysBeds 119 = .ok (.istore 4, 2) := by decide +kernel
theorem dX11_laysBeds_121 : decode cX11_laysBeds 121 = .ok (.iconst 0, 1) := by decide +kernel
theorem dX11_laysBeds_122 : decode cX11_laysBeds 122 = .ok (.istore 5, 2) := by decide +kernel
theorem dX11_laysBeds_124 : decode cX11_laysBeds 124 = .ok (.iload 5, 2) := by decide +kernel
theorem dX11_laysBeds_126 : decode cX11_laysBeds 126 = .ok (.bipush 72, 2) := by decide +kernel
theorem dX11_laysBeds_128 : decode cX11_laysBeds 128 = .ok (.if_icmp .ge 29, 3) := by decide +kernel
theorem dX11_laysBeds_131 : decode cX11_laysBeds 131 = .ok (.aload_n 0, 1) := by decide +kernel
theorem dX11_laysBeds_132 : decode cX11_laysBeds 132 = .ok (.getfield 68, 3) := by decide +kernel
theorem dX11_laysBeds_135 : decode cX11_laysBeds 135 = .ok (.iload 5, 2) := by decide +kernel
theorem dX11_laysBeds_137 : decode cX11_laysBeds 137 = .ok (.iaload, 1) := by decide +kernel
theorem dX11_laysBeds_138 : decode cX11_laysBeds 138 = .ok (.iload 4, 2) := by decide +kernel
theorem dX11_laysBeds_140 : decode cX11_laysBeds 140 = .ok (.if_icmp .ne 11, 3) := by decide +kernel
theorem dX11_laysBeds_143 : decode cX11_laysBeds 143 = .ok (.aload_n 0, 1) := by decide +kernel
theorem dX11_laysBeds_144 : decode cX11_laysBeds 144 = .ok (.getfield 68, 3) := by decide +kernel
theorem dX11_laysBeds_147 : decode cX11_laysBeds 147 = .ok (.iload 5, 2) := by decide +kernel
theorem dX11_laysBeds_149 : decode cX11_laysBeds 149 = .ok (.iload_n 3, 1) := by decide +kernel
theorem dX11_laysBeds_150 : decode cX11_laysBeds 150 = .ok (.iastore, 1) := by decide +kernel
theorem dX11_laysBeds_151 : decode cX11_laysBeds 151 = .ok (.iinc 5 1, 3) := by decide +kernel
theorem dX11_laysBeds_154 : decode cX11_laysBeds 154 = .ok (.goto (-30), 3) := by decide +kernel
theorem dX11_laysBeds_157 : decode cX11_laysBeds 157 = .ok (.iinc 2 1, 3) := by decide +kernel
theorem dX11_laysBeds_160 : decode cX11_laysBeds 160 = .ok (.goto (-106), 3) := by decide +kernel
theorem dX11_laysBeds_163 : decode cX11_laysBeds 163 = .ok (.iinc 1 1, 3) := by decide +kernel
theorem dX11_laysBeds_166 : decode cX11_laysBeds 166 = .ok (.goto (-139), 3) := by decide +kernel
theorem dX11_laysBeds_169 : decode cX11_laysBeds 169 = .ok (.aload_n 0, 1) := by decide +kernel
theorem dX11_laysBeds_170 : decode cX11_laysBeds 170 = .ok (.iconst 0, 1) := by decide +kernel
theorem dX11_laysBeds_171 : decode cX11_laysBeds 171 = .ok (.putfield 345, 3) := by decide +kernel
theorem dX11_laysBeds_174 : decode cX11_laysBeds 174 = .ok (.iconst 0, 1) := by decide +kernel
theorem dX11_laysBeds_175 : decode cX11_laysBeds 175 = .ok (.istore_n 1, 1) := by decide +kernel
theorem dX11_laysBeds_176 : decode cX11_laysBeds 176 = .ok (.iload_n 1, 1) := by decide +kernel
theorem dX11_laysBeds_177 : decode cX11_laysBeds 177 = .ok (.aload_n 0, 1) := by decide +kernel
theorem dX11_laysBeds_178 : decode cX11_laysBeds 178 = .ok (.getfield 7, 3) := by decide +kernel
theorem dX11_laysBeds_181 : decode cX11_laysBeds 181 = .ok (.iconst 1, 1) := by decide +kernel
theorem dX11_laysBeds_182 : decode cX11_laysBeds 182 = .ok (.iaload, 1) := by decide +kernel
theorem dX11_laysBeds_183 : decode cX11_laysBeds 183 = .ok (.if_icmp .ge 94, 3) := by decide +kernel
theorem dX11_laysBeds_186 : decode cX11_laysBeds 186 = .ok (.iconst 0, 1) := by decide +kernel
theorem dX11_laysBeds_187 : decode cX11_laysBeds 187 = .ok (.istore_n 2, 1) := by decide +kernel
theorem dX11_laysBeds_188 : decode cX11_laysBeds 188 = .ok (.iload_n 2, 1) := by decide +kernel
theorem dX11_laysBeds_189 : decode cX11_laysBeds 189 = .ok (.aload_n 0, 1) := by decide +kernel
theorem dX11_laysBeds_190 : decode cX11_laysBeds 190 = .ok (.iload_n 1, 1) := by decide +kernel
theorem dX11_laysBeds_191 : decode cX11_laysBeds 191 = .ok (.invokevirtual 305, 3) := by decide +kernel
theorem dX11_laysBeds_194 : decode cX11_laysBeds 194 = .ok (.if_icmp .ge 77, 3) := by decide +kernel
theorem dX11_laysBeds_197 : decode cX11_laysBeds 197 = .ok (.aload_n 0, 1) := by decide +kernel
theorem dX11_laysBeds_198 : decode cX11_laysBeds 198 = .ok (.getfield 68, 3) := by decide +kernel
theorem dX11_laysBeds_201 : decode cX11_laysBeds 201 = .ok (.bipush 12, 2) := by decide +kernel
theorem dX11_laysBeds_203 : decode cX11_laysBeds 203 = .ok (.iload_n 1, 1) := by decide +kernel
theorem dX11_laysBeds_204 : decode cX11_laysBeds 204 = .ok (.imul, 1) := by decide +kernel
theorem dX11_laysBeds_205 : decode cX11_laysBeds 205 = .ok (.iload_n 2, 1) := by decide +kernel
theorem dX11_laysBeds_206 : decode cX11_laysBeds 206 = .ok (.iadd, 1) := by decide +kernel
theorem dX11_laysBeds_207 : decode cX11_laysBeds 207 = .ok (.iaload, 1) := by decide +kernel
theorem dX11_laysBeds_208 : decode cX11_laysBeds 208 = .ok (.istore_n 3, 1) := by decide +kernel
theorem dX11_laysBeds_209 : decode cX11_laysBeds 209 = .ok (.iload_n 3, 1) := by decide +kernel
theorem dX11_laysBeds_210 : decode cX11_laysBeds 210 = .ok (.ifCond .ge 6, 3) := by decide +kernel
theorem dX11_laysBeds_213 : decode cX11_laysBeds 213 = .ok (.goto 52, 3) := by decide +kernel
theorem dX11_laysBeds_216 : decode cX11_laysBeds 216 = .ok (.aload_n 0, 1) := by decide +kernel
theorem dX11_laysBeds_217 : decode cX11_laysBeds 217 = .ok (.dup, 1) := by decide +kernel
theorem dX11_laysBeds_218 : decode cX11_laysBeds 218 = .ok (.getfield 345, 3) := by decide +kernel
theorem dX11_laysBeds_221 : decode cX11_laysBeds 221 = .ok (.iconst 1, 1) := by decide +kernel
theorem dX11_laysBeds_222 : decode cX11_laysBeds 222 = .ok (.iadd, 1) := by decide +kernel
theorem dX11_laysBeds_223 : decode cX11_laysBeds 223 = .ok (.putfield 345, 3) := by decide +kernel
theorem dX11_laysBeds_226 : decode cX11_laysBeds 226 = .ok (.iconst 0, 1) := by decide +kernel
theorem dX11_laysBeds_227 : decode cX11_laysBeds 227 = .ok (.istore 4, 2) := by decide +kernel
theorem dX11_laysBeds_229 : decode cX11_laysBeds 229 = .ok (.iload 4, 2) := by decide +kernel
theorem dX11_laysBeds_231 : decode cX11_laysBeds 231 = .ok (.bipush 72, 2) := by decide +kernel
theorem dX11_laysBeds_233 : decode cX11_laysBeds 233 = .ok (.if_icmp .ge 32, 3) := by decide +kernel
theorem dX11_laysBeds_236 : decode cX11_laysBeds 236 = .ok (.aload_n 0, 1) := by decide +kernel
theorem dX11_laysBeds_237 : decode cX11_laysBeds 237 = .ok (.getfield 68, 3) := by decide +kernel
theorem dX11_laysBeds_240 : decode cX11_laysBeds 240 = .ok (.iload 4, 2) := by decide +kernel
theorem dX11_laysBeds_242 : decode cX11_laysBeds 242 = .ok (.iaload, 1) := by decide +kernel
theorem dX11_laysBeds_243 : decode cX11_laysBeds 243 = .ok (.iload_n 3, 1) := by decide +kernel
theorem dX11_laysBeds_244 : decode cX11_laysBeds 244 = .ok (.if_icmp .ne 15, 3) := by decide +kernel
theorem dX11_laysBeds_247 : decode cX11_laysBeds 247 = .ok (.aload_n 0, 1) := by decide +kernel
theorem dX11_laysBeds_248 : decode cX11_laysBeds 248 = .ok (.getfield 68, 3) := by decide +kernel
theorem dX11_laysBeds_251 : decode cX11_laysBeds 251 = .ok (.iload 4, 2) := by decide +kernel
theorem dX11_laysBeds_253 : decode cX11_laysBeds 253 = .ok (.aload_n 0, 1) := by decide +kernel
theorem dX11_laysBeds_254 : decode cX11_laysBeds 254 = .ok (.getfield 345, 3) := by decide +kernel
theorem dX11_laysBeds_257 : decode cX11_laysBeds 257 = .ok (.ineg, 1) := by decide +kernel
theorem dX11_laysBeds_258 : decode cX11_laysBeds 258 = .ok (.iastore, 1) := by decide +kernel
theorem dX11_laysBeds_259 : decode cX11_laysBeds 259 = .ok (.iinc 4 1, 3) := by decide +kernel
theorem dX11_laysBeds_262 : decode cX11_laysBeds 262 = .ok (.goto (-33), 3) := by decide +kernel
theorem dX11_laysBeds_265 : decode cX11_laysBeds 265 = .ok (.iinc 2 1, 3) := by decide +kernel
theorem dX11_laysBeds_268 : decode cX11_laysBeds 268 = .ok (.goto (-80), 3) := by decide +kernel
theorem dX11_laysBeds_271 : decode cX11_laysBeds 271 = .ok (.iinc 1 1, 3) := by decide +kernel
theorem dX11_laysBeds_274 : decode cX11_laysBeds 274 = .ok (.goto (-98), 3) := by decide +kernel
theorem dX11_laysBeds_277 : decode cX11_laysBeds 277 = .ok (.iconst 0, 1) := by decide +kernel
theorem dX11_laysBeds_278 : decode cX11_laysBeds 278 = .ok (.istore_n 1, 1) := by decide +kernel
theorem dX11_laysBeds_279 : decode cX11_laysBeds 279 = .ok (.iload_n 1, 1) := by decide +kernel
theorem dX11_laysBeds_280 : decode cX11_laysBeds 280 = .ok (.bipush 6, 2) := by decide +kernel
theorem dX11_laysBeds_282 : decode cX11_laysBeds 282 = .ok (.if_icmp .ge 71, 3) := by decide +kernel
theorem dX11_laysBeds_285 : decode cX11_laysBeds 285 = .ok (.iconst 0, 1) := by decide +kernel
theorem dX11_laysBeds_286 : decode cX11_laysBeds 286 = .ok (.istore_n 2, 1) := by decide +kernel
theorem dX11_laysBeds_287 : decode cX11_laysBeds 287 = .ok (.iload_n 2, 1) := by decide +kernel
theorem dX11_laysBeds_288 : decode cX11_laysBeds 288 = .ok (.bipush 12, 2) := by decide +kernel
theorem dX11_laysBeds_290 : decode cX11_laysBeds 290 = .ok (.if_icmp .ge 57, 3) := by decide +kernel
theorem dX11_laysBeds_293 : decode cX11_laysBeds 293 = .ok (.aload_n 0, 1) := by decide +kernel
theorem dX11_laysBeds_294 : decode cX11_laysBeds 294 = .ok (.getfield 68, 3) := by decide +kernel
theorem dX11_laysBeds_297 : decode cX11_laysBeds 297 = .ok (.bipush 12, 2) := by decide +kernel
theorem dX11_laysBeds_299 : decode cX11_laysBeds 299 = .ok (.iload_n 1, 1) := by decide +kernel
theorem dX11_laysBeds_300 : decode cX11_laysBeds 300 = .ok (.imul, 1) := by decide +kernel
theorem dX11_laysBeds_301 : decode cX11_laysBeds 301 = .ok (.iload_n 2, 1) := by decide +kernel
theorem dX11_laysBeds_302 : decode cX11_laysBeds 302 = .ok (.iadd, 1) := by decide +kernel
theorem dX11_laysBeds_303 : decode cX11_laysBeds 303 = .ok (.iload_n 1, 1) := by decide +kernel
theorem dX11_laysBeds_304 : decode cX11_laysBeds 304 = .ok (.aload_n 0, 1) := by decide +kernel
theorem dX11_laysBeds_305 : decode cX11_laysBeds 305 = .ok (.getfield 7, 3) := by decide +kernel
theorem dX11_laysBeds_308 : decode cX11_laysBeds 308 = .ok (.iconst 1, 1) := by decide +kernel
theorem dX11_laysBeds_309 : decode cX11_laysBeds 309 = .ok (.iaload, 1) := by decide +kernel
theorem dX11_laysBeds_310 : decode cX11_laysBeds 310 = .ok (.if_icmp .ge 29, 3) := by decide +kernel
theorem dX11_laysBeds_313 : decode cX11_laysBeds 313 = .ok (.iload_n 2, 1) := by decide +kernel
theorem dX11_laysBeds_314 : decode cX11_laysBeds 314 = .ok (.aload_n 0, 1) := by decide +kernel
theorem dX11_laysBeds_315 : decode cX11_laysBeds 315 = .ok (.iload_n 1, 1) := by decide +kernel
theorem dX11_laysBeds_316 : decode cX11_laysBeds 316 = .ok (.invokevirtual 305, 3) := by decide +kernel
theorem dX11_laysBeds_319 : decode cX11_laysBeds 319 = .ok (.if_icmp .ge 20, 3) := by decide +kernel
theorem dX11_laysBeds_322 : decode cX11_laysBeds 322 = .ok (.aload_n 0, 1) := by decide +kernel
theorem dX11_laysBeds_323 : decode cX11_laysBeds 323 = .ok (.getfield 68, 3) := by decide +kernel
theorem dX11_laysBeds_326 : decode cX11_laysBeds 326 = .ok (.bipush 12, 2) := by decide +kernel
theorem dX11_laysBeds_328 : decode cX11_laysBeds 328 = .ok (.iload_n 1, 1) := by decide +kernel
theorem dX11_laysBeds_329 : decode cX11_laysBeds 329 = .ok (.imul, 1) := by decide +kernel
theorem dX11_laysBeds_330 : decode cX11_laysBeds 330 = .ok (.iload_n 2, 1) := by decide +kernel
theorem dX11_laysBeds_331 : decode cX11_laysBeds 331 = .ok (.iadd, 1) := by decide +kernel
theorem dX11_laysBeds_332 : decode cX11_laysBeds 332 = .ok (.iaload, 1) := by decide +kernel
theorem dX11_laysBeds_333 : decode cX11_laysBeds 333 = .ok (.ineg, 1) := by decide +kernel
theorem dX11_laysBeds_334 : decode cX11_laysBeds 334 = .ok (.iconst 1, 1) := by decide +kernel
theorem dX11_laysBeds_335 : decode cX11_laysBeds 335 = .ok (.isub, 1) := by decide +kernel
theorem dX11_laysBeds_336 : decode cX11_laysBeds 336 = .ok (.goto 4, 3) := by decide +kernel
theorem dX11_laysBeds_339 : decode cX11_laysBeds 339 = .ok (.iconst (-1), 1) := by decide +kernel
theorem dX11_laysBeds_340 : decode cX11_laysBeds 340 = .ok (.iastore, 1) := by decide +kernel
theorem dX11_laysBeds_341 : decode cX11_laysBeds 341 = .ok (.iinc 2 1, 3) := by decide +kernel
theorem dX11_laysBeds_344 : decode cX11_laysBeds 344 = .ok (.goto (-57), 3) := by decide +kernel
theorem dX11_laysBeds_347 : decode cX11_laysBeds 347 = .ok (.iinc 1 1, 3) := by decide +kernel
theorem dX11_laysBeds_350 : decode cX11_laysBeds 350 = .ok (.goto (-71), 3) := by decide +kernel
theorem dX11_laysBeds_353 : decode cX11_laysBeds 353 = .ok (.return_, 1) := by decide +kernel
theorem dX11_beds_0 : decode cX11_beds 0 = .ok (.aload_n 0, 1) := by decide +kernel
theorem dX11_beds_1 : decode cX11_beds 1 = .ok (.invokevirtual 348, 3) := by decide +kernel
theorem dX11_beds_4 : decode cX11_beds 4 = .ok (.aload_n 0, 1) := by decide +kernel
theorem dX11_beds_5 : decode cX11_beds 5 = .ok (.aload_n 0, 1) := by decide +kernel
theorem dX11_beds_6 : decode cX11_beds 6 = .ok (.getfield 345, 3) := by decide +kernel
theorem dX11_beds_9 : decode cX11_beds 9 = .ok (.invokevirtual 106, 3) := by decide +kernel
theorem dX11_beds_12 : decode cX11_beds 12 = .ok (.ireturn, 1) := by decide +kernel
theorem dX11_bedOf_0 : decode cX11_bedOf 0 = .ok (.aload_n 0, 1) := by decide +kernel
theorem dX11_bedOf_1 : decode cX11_bedOf 1 = .ok (.iload_n 1, 1) := by decide +kernel
theorem dX11_bedOf_2 : decode cX11_bedOf 2 = .ok (.iload_n 2, 1) := by decide +kernel
theorem dX11_bedOf_3 : decode cX11_bedOf 3 = .ok (.invokevirtual 308, 3) := by decide +kernel
theorem dX11_bedOf_6 : decode cX11_bedOf 6 = .ok (.ifCond .ne 9, 3) := by decide +kernel
theorem dX11_bedOf_9 : decode cX11_bedOf 9 = .ok (.aload_n 0, 1) := by decide +kernel
theorem dX11_bedOf_10 : decode cX11_bedOf 10 = .ok (.iconst 1, 1) := by decide +kernel
theorem dX11_bedOf_11 : decode cX11_bedOf 11 = .ok (.invokevirtual 102, 3) := by decide +kernel
theorem dX11_bedOf_14 : decode cX11_bedOf 14 = .ok (.ireturn, 1) := by decide +kernel
theorem dX11_bedOf_15 : decode cX11_bedOf 15 = .ok (.aload_n 0, 1) := by decide +kernel
theorem dX11_bedOf_16 : decode cX11_bedOf 16 = .ok (.invokevirtual 348, 3) := by decide +kernel
theorem dX11_bedOf_19 : decode cX11_bedOf 19 = .ok (.aload_n 0, 1) := by decide +kernel
theorem dX11_bedOf_20 : decode cX11_bedOf 20 = .ok (.aload_n 0, 1) := by decide +kernel
theorem dX11_bedOf_21 : decode cX11_bedOf 21 = .ok (.getfield 68, 3) := by decide +kernel
theorem dX11_bedOf_24 : decode cX11_bedOf 24 = .ok (.bipush 12, 2) := by decide +kernel
theorem dX11_bedOf_26 : decode cX11_bedOf 26 = .ok (.iload_n 1, 1) := by decide +kernel
theorem dX11_bedOf_27 : decode cX11_bedOf 27 = .ok (.imul, 1) := by decide +kernel
theorem dX11_bedOf_28 : decode cX11_bedOf 28 = .ok (.iload_n 2, 1) := by decide +kernel
theorem dX11_bedOf_29 : decode cX11_bedOf 29 = .ok (.iadd, 1) := by decide +kernel
theorem dX11_bedOf_30 : decode cX11_bedOf 30 = .ok (.iaload, 1) := by decide +kernel
theorem dX11_bedOf_31 : decode cX11_bedOf 31 = .ok (.invokevirtual 106, 3) := by decide +kernel
theorem dX11_bedOf_34 : decode cX11_bedOf 34 = .ok (.ireturn, 1) := by decide +kernel
theorem dX11_isBed_0 : decode cX11_isBed 0 = .ok (.iload_n 1, 1) := by decide +kernel
theorem dX11_isBed_1 : decode cX11_isBed 1 = .ok (.ifCond .lt 15, 3) := by decide +kernel
theorem dX11_isBed_4 : decode cX11_isBed 4 = .ok (.iload_n 1, 1) := by decide +kernel
theorem dX11_isBed_5 : decode cX11_isBed 5 = .ok (.aload_n 0, 1) := by decide +kernel
theorem dX11_isBed_6 : decode cX11_isBed 6 = .ok (.getfield 345, 3) := by decide +kernel
theorem dX11_isBed_9 : decode cX11_isBed 9 = .ok (.if_icmp .ge 7, 3) := by decide +kernel
theorem dX11_isBed_12 : decode cX11_isBed 12 = .ok (.iconst 1, 1) := by decide +kernel
theorem dX11_isBed_13 : decode cX11_isBed 13 = .ok (.goto 4, 3) := by decide +kernel
theorem dX11_isBed_16 : decode cX11_isBed 16 = .ok (.iconst 0, 1) := by decide +kernel
theorem dX11_isBed_17 : decode cX11_isBed 17 = .ok (.ireturn, 1) := by decide +kernel
theorem dX11_firstOf_0 : decode cX11_firstOf 0 = .ok (.iconst 0, 1) := by decide +kernel
theorem dX11_firstOf_1 : decode cX11_firstOf 1 = .ok (.istore_n 3, 1) := by decide +kernel
theorem dX11_firstOf_2 : decode cX11_firstOf 2 = .ok (.iload_n 3, 1) := by decide +kernel
theorem dX11_firstOf_3 : decode cX11_firstOf 3 = .ok (.aload_n 0, 1) := by decide +kernel
theorem dX11_firstOf_4 : decode cX11_firstOf 4 = .ok (.iload_n 2, 1) := by decide +kernel
theorem dX11_firstOf_5 : decode cX11_firstOf 5 = .ok (.invokevirtual 305, 3) := by decide +kernel
theorem dX11_firstOf_8 : decode cX11_firstOf 8 = .ok (.if_icmp .ge 26, 3) := by decide +kernel
theorem dX11_firstOf_11 : decode cX11_firstOf 11 = .ok (.aload_n 0, 1) := by decide +kernel
theorem dX11_firstOf_12 : decode cX11_firstOf 12 = .ok (.getfield 68, 3) := by decide +kernel
theorem dX11_firstOf_15 : decode cX11_firstOf 15 = .ok (.bipush 12, 2) := by decide +kernel
theorem dX11_firstOf_17 : decode cX11_firstOf 17 = .ok (.iload_n 2, 1) := by decide +kernel
theorem dX11_firstOf_18 : decode cX11_firstOf 18 = .ok (.imul, 1) := by decide +kernel
theorem dX11_firstOf_19 : decode cX11_firstOf 19 = .ok (.iload_n 3, 1) := by decide +kernel
theorem dX11_firstOf_20 : decode cX11_firstOf 20 = .ok (.iadd, 1) := by decide +kernel
theorem dX11_firstOf_21 : decode cX11_firstOf 21 = .ok (.iaload, 1) := by decide +kernel
theorem dX11_firstOf_22 : decode cX11_firstOf 22 = .ok (.iload_n 1, 1) := by decide +kernel
theorem dX11_firstOf_23 : decode cX11_firstOf 23 = .ok (.if_icmp .ne 5, 3) := by decide +kernel
theorem dX11_firstOf_26 : decode cX11_firstOf 26 = .ok (.iload_n 3, 1) := by decide +kernel
theorem dX11_firstOf_27 : decode cX11_firstOf 27 = .ok (.ireturn, 1) := by decide +kernel
theorem dX11_firstOf_28 : decode cX11_firstOf 28 = .ok (.iinc 3 1, 3) := by decide +kernel
theorem dX11_firstOf_31 : decode cX11_firstOf 31 = .ok (.goto (-29), 3) := by decide +kernel
theorem dX11_firstOf_34 : decode cX11_firstOf 34 = .ok (.iconst (-1), 1) := by decide +kernel
theorem dX11_firstOf_35 : decode cX11_firstOf 35 = .ok (.ireturn, 1) := by decide +kernel
theorem dX11_holesWith_0 : decode cX11_holesWith 0 = .ok (.iconst 0, 1) := by decide +kernel
theorem dX11_holesWith_1 : decode cX11_holesWith 1 = .ok (.istore_n 2, 1) := by decide +kernel
theorem dX11_holesWith_2 : decode cX11_holesWith 2 = .ok (.iconst 0, 1) := by decide +kernel
theorem dX11_holesWith_3 : decode cX11_holesWith 3 = .ok (.istore_n 3, 1) := by decide +kernel
theorem dX11_holesWith_4 : decode cX11_holesWith 4 = .ok (.iload_n 3, 1) := by decide +kernel
theorem dX11_holesWith_5 : decode cX11_holesWith 5 = .ok (.aload_n 0, 1) := by decide +kernel
theorem dX11_holesWith_6 : decode cX11_holesWith 6 = .ok (.getfield 7, 3) := by decide +kernel
theorem dX11_holesWith_9 : decode cX11_holesWith 9 = .ok (.iconst 1, 1) := by decide +kernel
theorem dX11_holesWith_10 : decode cX11_holesWith 10 = .ok (.iaload, 1) := by decide +kernel
theorem dX11_holesWith_11 : decode cX11_holesWith 11 = .ok (.if_icmp .ge 29, 3) := by decide +kernel
theorem dX11_holesWith_14 : decode cX11_holesWith 14 = .ok (.iload_n 2, 1) := by decide +kernel
theorem dX11_holesWith_15 : decode cX11_holesWith 15 = .ok (.aload_n 0, 1) := by decide +kernel
theorem dX11_holesWith_16 : decode cX11_holesWith 16 = .ok (.iload_n 1, 1) := by decide +kernel
theorem dX11_holesWith_17 : decode cX11_holesWith 17 = .ok (.iload_n 3, 1) := by decide +kernel
theorem dX11_holesWith_18 : decode cX11_holesWith 18 = .ok (.invokevirtual 351, 3) := by decide +kernel
theorem dX11_holesWith_21 : decode cX11_holesWith 21 = .ok (.iconst (-1), 1) := by decide +kernel
theorem dX11_holesWith_22 : decode cX11_holesWith 22 = .ok (.if_icmp .ne 7, 3) := by decide +kernel
theorem dX11_holesWith_25 : decode cX11_holesWith 25 = .ok (.iconst 0, 1) := by decide +kernel
theorem dX11_holesWith_26 : decode cX11_holesWith 26 = .ok (.goto 6, 3) := by decide +kernel
theorem dX11_holesWith_29 : decode cX11_holesWith 29 = .ok (.iconst 1, 1) := by decide +kernel
theorem dX11_holesWith_30 : decode cX11_holesWith 30 = .ok (.iload_n 3, 1) := by decide +kernel
theorem dX11_holesWith_31 : decode cX11_holesWith 31 = .ok (.ishl, 1) := by decide +kernel
theorem dX11_holesWith_32 : decode cX11_holesWith 32 = .ok (.ior, 1) := by decide +kernel
theorem dX11_holesWith_33 : decode cX11_holesWith 33 = .ok (.istore_n 2, 1) := by decide +kernel
theorem dX11_holesWith_34 : decode cX11_holesWith 34 = .ok (.iinc 3 1, 3) := by decide +kernel
theorem dX11_holesWith_37 : decode cX11_holesWith 37 = .ok (.goto (-33), 3) := by decide +kernel
theorem dX11_holesWith_40 : decode cX11_holesWith 40 = .ok (.iload_n 2, 1) := by decide +kernel
theorem dX11_holesWith_41 : decode cX11_holesWith 41 = .ok (.ireturn, 1) := by decide +kernel
theorem dX11_holesOf_0 : decode cX11_holesOf 0 = .ok (.aload_n 0, 1) := by decide +kernel
theorem dX11_holesOf_1 : decode cX11_holesOf 1 = .ok (.invokevirtual 348, 3) := by decide +kernel
theorem dX11_holesOf_4 : decode cX11_holesOf 4 = .ok (.aload_n 0, 1) := by decide +kernel
theorem dX11_holesOf_5 : decode cX11_holesOf 5 = .ok (.iload_n 1, 1) := by decide +kernel
theorem dX11_holesOf_6 : decode cX11_holesOf 6 = .ok (.invokevirtual 354, 3) := by decide +kernel
theorem dX11_holesOf_9 : decode cX11_holesOf 9 = .ok (.ifCond .eq 15, 3) := by decide +kernel
theorem dX11_holesOf_12 : decode cX11_holesOf 12 = .ok (.aload_n 0, 1) := by decide +kernel
theorem dX11_holesOf_13 : decode cX11_holesOf 13 = .ok (.aload_n 0, 1) := by decide +kernel
theorem dX11_holesOf_14 : decode cX11_holesOf 14 = .ok (.iload_n 1, 1) := by decide +kernel
theorem dX11_holesOf_15 : decode cX11_holesOf 15 = .ok (.invokevirtual 357, 3) := by decide +kernel
theorem dX11_holesOf_18 : decode cX11_holesOf 18 = .ok (.invokevirtual 106, 3) := by decide +kernel
theorem dX11_holesOf_21 : decode cX11_holesOf 21 = .ok (.goto 8, 3) := by decide +kernel
theorem dX11_holesOf_24 : decode cX11_holesOf 24 = .ok (.aload_n 0, 1) := by decide +kernel
theorem dX11_holesOf_25 : decode cX11_holesOf 25 = .ok (.iconst 1, 1) := by decide +kernel
theorem dX11_holesOf_26 : decode cX11_holesOf 26 = .ok (.invokevirtual 102, 3) := by decide +kernel
theorem dX11_holesOf_29 : decode cX11_holesOf 29 = .ok (.ireturn, 1) := by decide +kernel
theorem dX11_thickIn_0 : decode cX11_thickIn 0 = .ok (.iconst 0, 1) := by decide +kernel
theorem dX11_thickIn_1 : decode cX11_thickIn 1 = .ok (.istore_n 3, 1) := by decide +kernel
theorem dX11_thickIn_2 : decode cX11_thickIn 2 = .ok (.iconst 0, 1) := by decide +kernel
theorem dX11_thickIn_3 : decode cX11_thickIn 3 = .ok (.istore 4, 2) := by decide +kernel
theorem dX11_thickIn_5 : decode cX11_thickIn 5 = .ok (.iload 4, 2) := by decide +kernel
theorem dX11_thickIn_7 : decode cX11_thickIn 7 = .ok (.aload_n 0, 1) := by decide +kernel
theorem dX11_thickIn_8 : decode cX11_thickIn 8 = .ok (.iload_n 2, 1) := by decide +kernel
theorem dX11_thickIn_9 : decode cX11_thickIn 9 = .ok (.invokevirtual 305, 3) := by decide +kernel
theorem dX11_thickIn_12 : decode cX11_thickIn 12 = .ok (.if_icmp .ge 39, 3) := by decide +kernel
theorem dX11_thickIn_15 : decode cX11_thickIn 15 = .ok (.iload_n 3, 1) := by decide +kernel
theorem dX11_thickIn_16 : decode cX11_thickIn 16 = .ok (.aload_n 0, 1) := by decide +kernel
theorem dX11_thickIn_17 : decode cX11_thickIn 17 = .ok (.getfield 68, 3) := by decide +kernel
theorem dX11_thickIn_20 : decode cX11_thickIn 20 = .ok (.bipush 12, 2) := by decide +kernel
theorem dX11_thickIn_22 : decode cX11_thickIn 22 = .ok (.iload_n 2, 1) := by decide +kernel
theorem dX11_thickIn_23 : decode cX11_thickIn 23 = .ok (.imul, 1) := by decide +kernel
theorem dX11_thickIn_24 : decode cX11_thickIn 24 = .ok (.iload 4, 2) := by decide +kernel
theorem dX11_thickIn_26 : decode cX11_thickIn 26 = .ok (.iadd, 1) := by decide +kernel
theorem dX11_thickIn_27 : decode cX11_thickIn 27 = .ok (.iaload, 1) := by decide +kernel
theorem dX11_thickIn_28 : decode cX11_thickIn 28 = .ok (.iload_n 1, 1) := by decide +kernel
theorem dX11_thickIn_29 : decode cX11_thickIn 29 = .ok (.if_icmp .ne 13, 3) := by decide +kernel
theorem dX11_thickIn_32 : decode cX11_thickIn 32 = .ok (.aload_n 0, 1) := by decide +kernel
theorem dX11_thickIn_33 : decode cX11_thickIn 33 = .ok (.iload_n 2, 1) := by decide +kernel
theorem dX11_thickIn_34 : decode cX11_thickIn 34 = .ok (.iload 4, 2) := by decide +kernel
theorem dX11_thickIn_36 : decode cX11_thickIn 36 = .ok (.invokevirtual 290, 3) := by decide +kernel
theorem dX11_thickIn_39 : decode cX11_thickIn 39 = .ok (.goto 4, 3) := by decide +kernel
theorem dX11_thickIn_42 : decode cX11_thickIn 42 = .ok (.iconst 0, 1) := by decide +kernel
theorem dX11_thickIn_43 : decode cX11_thickIn 43 = .ok (.iadd, 1) := by decide +kernel
theorem dX11_thickIn_44 : decode cX11_thickIn 44 = .ok (.istore_n 3, 1) := by decide +kernel
theorem dX11_thickIn_45 : decode cX11_thickIn 45 = .ok (.iinc 4 1, 3) := by decide +kernel
theorem dX11_thickIn_48 : decode cX11_thickIn 48 = .ok (.goto (-43), 3) := by decide +kernel
theorem dX11_thickIn_51 : decode cX11_thickIn 51 = .ok (.iload_n 3, 1) := by decide +kernel
theorem dX11_thickIn_52 : decode cX11_thickIn 52 = .ok (.ireturn, 1) := by decide +kernel
theorem dX11_bed_0 : decode cX11_bed 0 = .ok (.aload_n 0, 1) := by decide +kernel
theorem dX11_bed_1 : decode cX11_bed 1 = .ok (.invokevirtual 348, 3) := by decide +kernel
theorem dX11_bed_4 : decode cX11_bed 4 = .ok (.aload_n 0, 1) := by decide +kernel
theorem dX11_bed_5 : decode cX11_bed 5 = .ok (.iload_n 1, 1) := by decide +kernel
theorem dX11_bed_6 : decode cX11_bed 6 = .ok (.invokevirtual 354, 3) := by decide +kernel
theorem dX11_bed_9 : decode cX11_bed 9 = .ok (.ifCond .eq 20, 3) := by decide +kernel
theorem dX11_bed_12 : decode cX11_bed 12 = .ok (.aload_n 0, 1) := by decide +kernel
theorem dX11_bed_13 : decode cX11_bed 13 = .ok (.iload_n 2, 1) := by decide +kernel
theorem dX11_bed_14 : decode cX11_bed 14 = .ok (.invokevirtual 302, 3) := by decide +kernel
theorem dX11_bed_17 : decode cX11_bed 17 = .ok (.ifCond .eq 12, 3) := by decide +kernel
theorem dX11_bed_20 : decode cX11_bed 20 = .ok (.iload_n 3, 1) := by decide +kernel
theorem dX11_bed_21 : decode cX11_bed 21 = .ok (.ifCond .lt 8, 3) := by decide +kernel
theorem dX11_bed_24 : decode cX11_bed 24 = .ok (.iload_n 3, 1) := by decide +kernel
theorem dX11_bed_25 : decode cX11_bed 25 = .ok (.iconst 2, 1) := by decide +kernel
theorem dX11_bed_26 : decode cX11_bed 26 = .ok (.if_icmp .le 9, 3) := by decide +kernel
theorem dX11_bed_29 : decode cX11_bed 29 = .ok (.aload_n 0, 1) := by decide +kernel
theorem dX11_bed_30 : decode cX11_bed 30 = .ok (.iconst 1, 1) := by decide +kernel
theorem dX11_bed_31 : decode cX11_bed 31 = .ok (.invokevirtual 102, 3) := by decide +kernel
theorem dX11_bed_34 : decode cX11_bed 34 = .ok (.ireturn, 1) := by decide +kernel
theorem dX11_bed_35 : decode cX11_bed 35 = .ok (.aload_n 0, 1) := by decide +kernel
theorem dX11_bed_36 : decode cX11_bed 36 = .ok (.iload_n 1, 1) := by decide +kernel
theorem dX11_bed_37 : decode cX11_bed 37 = .ok (.iload_n 2, 1) := by decide +kernel
theorem dX11_bed_38 : decode cX11_bed 38 = .ok (.invokevirtual 351, 3) := by decide +kernel
theorem dX11_bed_41 : decode cX11_bed 41 = .ok (.istore 4, 2) := by decide +kernel
theorem dX11_bed_43 : decode cX11_bed 43 = .ok (.iload 4, 2) := by decide +kernel
theorem dX11_bed_45 : decode cX11_bed 45 = .ok (.iconst (-1), 1) := by decide +kernel
theorem dX11_bed_46 : decode cX11_bed 46 = .ok (.if_icmp .ne 10, 3) := by decide +kernel
theorem dX11_bed_49 : decode cX11_bed 49 = .ok (.aload_n 0, 1) := by decide +kernel
theorem dX11_bed_50 : decode cX11_bed 50 = .ok (.bipush 6, 2) := by decide +kernel
theorem dX11_bed_52 : decode cX11_bed 52 = .ok (.invokevirtual 102, 3) := by decide +kernel
theorem dX11_bed_55 : decode cX11_bed 55 = .ok (.ireturn, 1) := by decide +kernel
theorem dX11_bed_56 : decode cX11_bed 56 = .ok (.aload_n 0, 1) := by decide +kernel
theorem dX11_bed_57 : decode cX11_bed 57 = .ok (.iload_n 3, 1) := by decide +kernel
theorem dX11_bed_58 : decode cX11_bed 58 = .ok (.ifCond .ne 13, 3) := by decide +kernel
theorem dX11_bed_61 : decode cX11_bed 61 = .ok (.aload_n 0, 1) := by decide +kernel
theorem dX11_bed_62 : decode cX11_bed 62 = .ok (.iload_n 2, 1) := by decide +kernel
theorem dX11_bed_63 : decode cX11_bed 63 = .ok (.iload 4, 2) := by decide +kernel
theorem dX11_bed_65 : decode cX11_bed 65 = .ok (.invokevirtual 314, 3) := by decide +kernel
theorem dX11_bed_68 : decode cX11_bed 68 = .ok (.goto 19, 3) := by decide +kernel
theorem dX11_bed_71 : decode cX11_bed 71 = .ok (.iload_n 3, 1) := by decide +kernel
theorem dX11_bed_72 : decode cX11_bed 72 = .ok (.iconst 1, 1) := by decide +kernel
theorem dX11_bed_73 : decode cX11_bed 73 = .ok (.if_icmp .ne 12, 3) := by decide +kernel
theorem dX11_bed_76 : decode cX11_bed 76 = .ok (.aload_n 0, 1) := by decide +kernel
theorem dX11_bed_77 : decode cX11_bed 77 = .ok (.iload_n 1, 1) := by decide +kernel
theorem dX11_bed_78 : decode cX11_bed 78 = .ok (.iload_n 2, 1) := by decide +kernel
theorem dX11_bed_79 : decode cX11_bed 79 = .ok (.invokevirtual 360, 3) := by decide +kernel
theorem dX11_bed_82 : decode cX11_bed 82 = .ok (.goto 5, 3) := by decide +kernel
theorem dX11_bed_85 : decode cX11_bed 85 = .ok (.iload 4, 2) := by decide +kernel
theorem dX11_bed_87 : decode cX11_bed 87 = .ok (.invokevirtual 106, 3) := by decide +kernel
theorem dX11_bed_90 : decode cX11_bed 90 = .ok (.ireturn, 1) := by decide +kernel
theorem dX11_isAbove_0 : decode cX11_isAbove 0 = .ok (.iconst 0, 1) := by decide +kernel
theorem dX11_isAbove_1 : decode cX11_isAbove 1 = .ok (.istore_n 3, 1) := by decide +kernel
theorem dX11_isAbove_2 : decode cX11_isAbove 2 = .ok (.iload_n 3, 1) := by decide +kernel
theorem dX11_isAbove_3 : decode cX11_isAbove 3 = .ok (.aload_n 0, 1) := by decide +kernel
theorem dX11_isAbove_4 : decode cX11_isAbove 4 = .ok (.getfield 7, 3) := by decide +kernel
theorem dX11_isAbove_7 : decode cX11_isAbove 7 = .ok (.iconst 1, 1) := by decide +kernel
theorem dX11_isAbove_8 : decode cX11_isAbove 8 = .ok (.iaload, 1) := by decide +kernel
theorem dX11_isAbove_9 : decode cX11_isAbove 9 = .ok (.if_icmp .ge 46, 3) := by decide +kernel
theorem dX11_isAbove_12 : decode cX11_isAbove 12 = .ok (.aload_n 0, 1) := by decide +kernel
theorem dX11_isAbove_13 : decode cX11_isAbove 13 = .ok (.iload_n 1, 1) := by decide +kernel
theorem dX11_isAbove_14 : decode cX11_isAbove 14 = .ok (.iload_n 3, 1) := by decide +kernel
theorem dX11_isAbove_15 : decode cX11_isAbove 15 = .ok (.invokevirtual 351, 3) := by decide +kernel
theorem dX11_isAbove_18 : decode cX11_isAbove 18 = .ok (.iconst (-1), 1) := by decide +kernel
theorem dX11_isAbove_19 : decode cX11_isAbove 19 = .ok (.if_icmp .eq 30, 3) := by decide +kernel
theorem dX11_isAbove_22 : decode cX11_isAbove 22 = .ok (.aload_n 0, 1) := by decide +kernel
theorem dX11_isAbove_23 : decode cX11_isAbove 23 = .ok (.iload_n 2, 1) := by decide +kernel
theorem dX11_isAbove_24 : decode cX11_isAbove 24 = .ok (.iload_n 3, 1) := by decide +kernel
theorem dX11_isAbove_25 : decode cX11_isAbove 25 = .ok (.invokevirtual 351, 3) := by decide +kernel
theorem dX11_isAbove_28 : decode cX11_isAbove 28 = .ok (.iconst (-1), 1) := by decide +kernel
theorem dX11_isAbove_29 : decode cX11_isAbove 29 = .ok (.if_icmp .eq 20, 3) := by decide +kernel
theorem dX11_isAbove_32 : decode cX11_isAbove 32 = .ok (.aload_n 0, 1) := by decide +kernel
theorem dX11_isAbove_33 : decode cX11_isAbove 33 = .ok (.iload_n 1, 1) := by decide +kernel
theorem dX11_isAbove_34 : decode cX11_isAbove 34 = .ok (.iload_n 3, 1) := by decide +kernel
theorem dX11_isAbove_35 : decode cX11_isAbove 35 = .ok (.invokevirtual 351, 3) := by decide +kernel
theorem dX11_isAbove_38 : decode cX11_isAbove 38 = .ok (.aload_n 0, 1) := by decide +kernel
theorem dX11_isAbove_39 : decode cX11_isAbove 39 = .ok (.iload_n 2, 1) := by decide +kernel
theorem dX11_isAbove_40 : decode cX11_isAbove 40 = .ok (.iload_n 3, 1) := by decide +kernel
theorem dX11_isAbove_41 : decode cX11_isAbove 41 = .ok (.invokevirtual 351, 3) := by decide +kernel
theorem dX11_isAbove_44 : decode cX11_isAbove 44 = .ok (.if_icmp .ge 5, 3) := by decide +kernel
theorem dX11_isAbove_47 : decode cX11_isAbove 47 = .ok (.iconst 1, 1) := by decide +kernel
theorem dX11_isAbove_48 : decode cX11_isAbove 48 = .ok (.ireturn, 1) := by decide +kernel
theorem dX11_isAbove_49 : decode cX11_isAbove 49 = .ok (.iinc 3 1, 3) := by decide +kernel
theorem dX11_isAbove_52 : decode cX11_isAbove 52 = .ok (.goto (-50), 3) := by decide +kernel
theorem dX11_isAbove_55 : decode cX11_isAbove 55 = .ok (.iconst 0, 1) := by decide +kernel
theorem dX11_isAbove_56 : decode cX11_isAbove 56 = .ok (.ireturn, 1) := by decide +kernel
theorem dX11_above_0 : decode cX11_above 0 = .ok (.aload_n 0, 1) := by decide +kernel
theorem dX11_above_1 : decode cX11_above 1 = .ok (.invokevirtual 348, 3) := by decide +kernel
theorem dX11_above_4 : decode cX11_above 4 = .ok (.aload_n 0, 1) := by decide +kernel
theorem dX11_above_5 : decode cX11_above 5 = .ok (.iload_n 1, 1) := by decide +kernel
theorem dX11_above_6 : decode cX11_above 6 = .ok (.invokevirtual 354, 3) := by decide +kernel
theorem dX11_above_9 : decode cX11_above 9 = .ok (.ifCond .eq 32, 3) := by decide +kernel
theorem dX11_above_12 : decode cX11_above 12 = .ok (.aload_n 0, 1) := by decide +kernel
theorem dX11_above_13 : decode cX11_above 13 = .ok (.iload_n 2, 1) := by decide +kernel
theorem dX11_above_14 : decode cX11_above 14 = .ok (.invokevirtual 354, 3) := by decide +kernel
theorem dX11_above_17 : decode cX11_above 17 = .ok (.ifCond .eq 24, 3) := by decide +kernel
theorem dX11_above_20 : decode cX11_above 20 = .ok (.aload_n 0, 1) := by decide +kernel
theorem dX11_above_21 : decode cX11_above 21 = .ok (.aload_n 0, 1) := by decide +kernel
theorem dX11_above_22 : decode cX11_above 22 = .ok (.iload_n 1, 1) := by decide +kernel
theorem dX11_above_23 : decode cX11_above 23 = .ok (.iload_n 2, 1) := by decide +kernel
theorem dX11_above_24 : decode cX11_above 24 = .ok (.invokevirtual 363, 3) := by decide +kernel
theorem dX11_above_27 : decode cX11_above 27 = .ok (.ifCond .eq 7, 3) := by decide +kernel
theorem dX11_above_30 : decode cX11_above 30 = .ok (.iconst 1, 1) := by decide +kernel
theorem dX11_above_31 : decode cX11_above 31 = .ok (.goto 4, 3) := by decide +kernel
theorem dX11_above_34 : decode cX11_above 34 = .ok (.iconst 0, 1) := by decide +kernel
theorem dX11_above_35 : decode cX11_above 35 = .ok (.invokevirtual 106, 3) := by decide +kernel
theorem dX11_above_38 : decode cX11_above 38 = .ok (.goto 8, 3) := by decide +kernel
theorem dX11_above_41 : decode cX11_above 41 = .ok (.aload_n 0, 1) := by decide +kernel
theorem dX11_above_42 : decode cX11_above 42 = .ok (.iconst 1, 1) := by decide +kernel
theorem dX11_above_43 : decode cX11_above 43 = .ok (.invokevirtual 102, 3) := by decide +kernel
theorem dX11_above_46 : decode cX11_above 46 = .ok (.ireturn, 1) := by decide +kernel
theorem dX11_orders_0 : decode cX11_orders 0 = .ok (.iconst 0, 1) := by decide +kernel
theorem dX11_orders_1 : decode cX11_orders 1 = .ok (.istore_n 1, 1) := by decide +kernel
theorem dX11_orders_2 : decode cX11_orders 2 = .ok (.iload_n 1, 1) := by decide +kernel
theorem dX11_orders_3 : decode cX11_orders 3 = .ok (.aload_n 0, 1) := by decide +kernel
theorem dX11_orders_4 : decode cX11_orders 4 = .ok (.getfield 345, 3) := by decide +kernel
theorem dX11_orders_7 : decode cX11_orders 7 = .ok (.if_icmp .ge 16, 3) := by decide +kernel
theorem dX11_orders_10 : decode cX11_orders 10 = .ok (.aload_n 0, 1) := by decide +kernel
theorem dX11_orders_11 : decode cX11_orders 11 = .ok (.getfield 71, 3) := by decide +kernel
theorem dX11_orders_14 : decode cX11_orders 14 = .ok (.iload_n 1, 1) := by decide +kernel
theorem dX11_orders_15 : decode cX11_orders 15 = .ok (.iconst 0, 1) := by decide +kernel
theorem dX11_orders_16 : decode cX11_orders 16 = .ok (.bastore, 1) := by decide +kernel
theorem dX11_orders_17 : decode cX11_orders 17 = .ok (.iinc 1 1, 3) := by decide +kernel
theorem dX11_orders_20 : decode cX11_orders 20 = .ok (.goto (-18), 3) := by decide +kernel
theorem dX11_orders_23 : decode cX11_orders 23 = .ok (.iconst 0, 1) := by decide +kernel
theorem dX11_orders_24 : decode cX11_orders 24 = .ok (.istore_n 1, 1) := by decide +kernel
theorem dX11_orders_25 : decode cX11_orders 25 = .ok (.iload_n 1, 1) := by decide +kernel
theorem dX11_orders_26 : decode cX11_orders 26 = .ok (.aload_n 0, 1) := by decide +kernel
theorem dX11_orders_27 : decode cX11_orders 27 = .ok (.getfield 345, 3) := by decide +kernel
theorem dX11_orders_30 : decode cX11_orders 30 = .ok (.if_icmp .ge 132, 3) := by decide +kernel
theorem dX11_orders_33 : decode cX11_orders 33 = .ok (.iconst (-1), 1) := by decide +kernel
theorem dX11_orders_34 : decode cX11_orders 34 = .ok (.istore_n 2, 1) := by decide +kernel
theorem dX11_orders_35 : decode cX11_orders 35 = .ok (.iconst 0, 1) := by decide +kernel
theorem dX11_orders_36 : decode cX11_orders 36 = .ok (.istore_n 3, 1) := by decide +kernel
theorem dX11_orders_37 : decode cX11_orders 37 = .ok (.iload_n 3, 1) := by decide +kernel
theorem dX11_orders_38 : decode cX11_orders 38 = .ok (.aload_n 0, 1) := by decide +kernel
theorem dX11_orders_39 : decode cX11_orders 39 = .ok (.getfield 345, 3) := by decide +kernel
theorem dX11_orders_42 : decode cX11_orders 42 = .ok (.if_icmp .ge 93, 3) := by decide +kernel
theorem dX11_orders_45 : decode cX11_orders 45 = .ok (.iload_n 2, 1) := by decide +kernel
theorem dX11_orders_46 : decode cX11_orders 46 = .ok (.iconst (-1), 1) := by decide +kernel
theorem dX11_orders_47 : decode cX11_orders 47 = .ok (.if_icmp .ne 88, 3) := by decide +kernel
theorem dX11_orders_50 : decode cX11_orders 50 = .ok (.aload_n 0, 1) := by decide +kernel
theorem dX11_orders_51 : decode cX11_orders 51 = .ok (.getfield 71, 3) := by decide +kernel
theorem dX11_orders_54 : decode cX11_orders 54 = .ok (.iload_n 3, 1) := by decide +kernel
theorem dX11_orders_55 : decode cX11_orders 55 = .ok (.baload, 1) := by decide +kernel
theorem dX11_orders_56 : decode cX11_orders 56 = .ok (.ifCond .ne 7, 3) := by decide +kernel
theorem dX11_orders_59 : decode cX11_orders 59 = .ok (.iconst 1, 1) := by decide +kernel
theorem dX11_orders_60 : decode cX11_orders 60 = .ok (.goto 4, 3) := by decide +kernel
theorem dX11_orders_63 : decode cX11_orders 63 = .ok (.iconst 0, 1) := by decide +kernel
theorem dX11_orders_64 : decode cX11_orders 64 = .ok (.istore 4, 2) := by decide +kernel
theorem dX11_orders_66 : decode cX11_orders 66 = .ok (.iconst 0, 1) := by decide +kernel
theorem dX11_orders_67 : decode cX11_orders 67 = .ok (.istore 5, 2) := by decide +kernel
theorem dX11_orders_69 : decode cX11_orders 69 = .ok (.iload 5, 2) := by decide +kernel
theorem dX11_orders_71 : decode cX11_orders 71 = .ok (.aload_n 0, 1) := by decide +kernel
theorem dX11_orders_72 : decode cX11_orders 72 = .ok (.getfield 345, 3) := by decide +kernel
theorem dX11_orders_75 : decode cX11_orders 75 = .ok (.if_icmp .ge 47, 3) := by decide +kernel
theorem dX11_orders_78 : decode cX11_orders 78 = .ok (.iload 4, 2) := by decide +kernel
theorem dX11_orders_80 : decode cX11_orders 80 = .ok (.ifCond .eq 42, 3) := by decide +kernel
theorem dX11_orders_83 : decode cX11_orders 83 = .ok (.iload 5, 2) := by decide +kernel
theorem dX11_orders_85 : decode cX11_orders 85 = .ok (.iload_n 3, 1) := by decide +kernel
theorem dX11_orders_86 : decode cX11_orders 86 = .ok (.if_icmp .eq 23, 3) := by decide +kernel
theorem dX11_orders_89 : decode cX11_orders 89 = .ok (.aload_n 0, 1) := by decide +kernel
theorem dX11_orders_90 : decode cX11_orders 90 = .ok (.getfield 71, 3) := by decide +kernel
theorem dX11_orders_93 : decode cX11_orders 93 = .ok (.iload 5, 2) := by decide +kernel
theorem dX11_orders_95 : decode cX11_orders 95 = .ok (.baload, 1) := by decide +kernel
theorem dX11_orders_96 : decode cX11_orders 96 = .ok (.ifCond .ne 13, 3) := by decide +kernel
theorem dX11_orders_99 : decode cX11_orders 99 = .ok (.aload_n 0, 1) := by decide +kernel
theorem dX11_orders_100 : decode cX11_orders 100 = .ok (.iload 5, 2) := by decide +kernel
theorem dX11_orders_102 : decode cX11_orders 102 = .ok (.iload_n 3, 1) := by decide +kernel
theorem dX11_orders_103 : decode cX11_orders 103 = .ok (.invokevirtual 363, 3) := by decide +kernel
theorem dX11_orders_106 : decode cX11_orders 106 = .ok (.ifCond .ne 7, 3) := by decide +kernel
theorem dX11_orders_109 : decode cX11_orders 109 = .ok (.iconst 1, 1) := by decide +kernel
theorem dX11_orders_110 : decode cX11_orders 110 = .ok (.goto 4, 3) := by decide +kernel
theorem dX11_orders_113 : decode cX11_orders 113 = .ok (.iconst 0, 1) := by decide +kernel
theorem dX11_orders_114 : decode cX11_orders 114 = .ok (.istore 4, 2) := by decide +kernel
theorem dX11_orders_116 : decode cX11_orders 116 = .ok (.iinc 5 1, 3) := by decide +kernel
theorem dX11_orders_119 : decode cX11_orders 119 = .ok (.goto (-50), 3) := by decide +kernel
theorem dX11_orders_122 : decode cX11_orders 122 = .ok (.iload 4, 2) := by decide +kernel
theorem dX11_orders_124 : decode cX11_orders 124 = .ok (.ifCond .eq 5, 3) := by decide +kernel
theorem dX11_orders_127 : decode cX11_orders 127 = .ok (.iload_n 3, 1) := by decide +kernel
theorem dX11_orders_128 : decode cX11_orders 128 = .ok (.istore_n 2, 1) := by decide +kernel
theorem dX11_orders_129 : decode cX11_orders 129 = .ok (.iinc 3 1, 3) := by decide +kernel
theorem dX11_orders_132 : decode cX11_orders 132 = .ok (.goto (-95), 3) := by decide +kernel
theorem dX11_orders_135 : decode cX11_orders 135 = .ok (.iload_n 2, 1) := by decide +kernel
theorem dX11_orders_136 : decode cX11_orders 136 = .ok (.iconst (-1), 1) := by decide +kernel
theorem dX11_orders_137 : decode cX11_orders 137 = .ok (.if_icmp .ne 5, 3) := by decide +kernel
theorem dX11_orders_140 : decode cX11_orders 140 = .ok (.iconst 0, 1) := by decide +kernel
theorem dX11_orders_141 : decode cX11_orders 141 = .ok (.ireturn, 1) := by decide +kernel
theorem dX11_orders_142 : decode cX11_orders 142 = .ok (.aload_n 0, 1) := by decide +kernel
theorem dX11_orders_143 : decode cX11_orders 143 = .ok (.getfield 71, 3) := by decide +kernel
theorem dX11_orders_146 : decode cX11_orders 146 = .ok (.iload_n 2, 1) := by decide +kernel
theorem dX11_orders_147 : decode cX11_orders 147 = .ok (.iconst 1, 1) := by decide +kernel
theorem dX11_orders_148 : decode cX11_orders 148 = .ok (.bastore, 1) := by decide +kernel
theorem dX11_orders_149 : decode cX11_orders 149 = .ok (.aload_n 0, 1) := by decide +kernel
theorem dX11_orders_150 : decode cX11_orders 150 = .ok (.getfield 75, 3) := by decide +kernel
theorem dX11_orders_153 : decode cX11_orders 153 = .ok (.iload_n 1, 1) := by decide +kernel
theorem dX11_orders_154 : decode cX11_orders 154 = .ok (.iload_n 2, 1) := by decide +kernel
theorem dX11_orders_155 : decode cX11_orders 155 = .ok (.iastore, 1) := by decide +kernel
theorem dX11_orders_156 : decode cX11_orders 156 = .ok (.iinc 1 1, 3) := by decide +kernel
theorem dX11_orders_159 : decode cX11_orders 159 = .ok (.goto (-134), 3) := by decide +kernel
theorem dX11_orders_162 : decode cX11_orders 162 = .ok (.iconst 1, 1) := by decide +kernel
theorem dX11_orders_163 : decode cX11_orders 163 = .ok (.ireturn, 1) := by decide +kernel
theorem dX11_order_0 : decode cX11_order 0 = .ok (.iload_n 1, 1) := by decide +kernel
theorem dX11_order_1 : decode cX11_order 1 = .ok (.ifCond .ge 9, 3) := by decide +kernel
theorem dX11_order_4 : decode cX11_order 4 = .ok (.aload_n 0, 1) := by decide +kernel
theorem dX11_order_5 : decode cX11_order 5 = .ok (.iconst 1, 1) := by decide +kernel
theorem dX11_order_6 : decode cX11_order 6 = .ok (.invokevirtual 102, 3) := by decide +kernel
theorem dX11_order_9 : decode cX11_order 9 = .ok (.ireturn, 1) := by decide +kernel
theorem dX11_order_10 : decode cX11_order 10 = .ok (.aload_n 0, 1) := by decide +kernel
theorem dX11_order_11 : decode cX11_order 11 = .ok (.invokevirtual 348, 3) := by decide +kernel
theorem dX11_order_14 : decode cX11_order 14 = .ok (.iload_n 1, 1) := by decide +kernel
theorem dX11_order_15 : decode cX11_order 15 = .ok (.aload_n 0, 1) := by decide +kernel
theorem dX11_order_16 : decode cX11_order 16 = .ok (.getfield 345, 3) := by decide +kernel
theorem dX11_order_19 : decode cX11_order 19 = .ok (.if_icmp .lt 10, 3) := by decide +kernel
theorem dX11_order_22 : decode cX11_order 22 = .ok (.aload_n 0, 1) := by decide +kernel
theorem dX11_order_23 : decode cX11_order 23 = .ok (.bipush 6, 2) := by decide +kernel
theorem dX11_order_25 : decode cX11_order 25 = .ok (.invokevirtual 102, 3) := by decide +kernel
theorem dX11_order_28 : decode cX11_order 28 = .ok (.ireturn, 1) := by decide +kernel
theorem dX11_order_29 : decode cX11_order 29 = .ok (.aload_n 0, 1) := by decide +kernel
theorem dX11_order_30 : decode cX11_order 30 = .ok (.invokevirtual 366, 3) := by decide +kernel
theorem dX11_order_33 : decode cX11_order 33 = .ok (.ifCond .eq 16, 3) := by decide +kernel
theorem dX11_order_36 : decode cX11_order 36 = .ok (.aload_n 0, 1) := by decide +kernel
theorem dX11_order_37 : decode cX11_order 37 = .ok (.aload_n 0, 1) := by decide +kernel
theorem dX11_order_38 : decode cX11_order 38 = .ok (.getfield 75, 3) := by decide +kernel
theorem dX11_order_41 : decode cX11_order 41 = .ok (.iload_n 1, 1) := by decide +kernel
theorem dX11_order_42 : decode cX11_order 42 = .ok (.iaload, 1) := by decide +kernel
theorem dX11_order_43 : decode cX11_order 43 = .ok (.invokevirtual 106, 3) := by decide +kernel
theorem dX11_order_46 : decode cX11_order 46 = .ok (.goto 9, 3) := by decide +kernel
theorem dX11_order_49 : decode cX11_order 49 = .ok (.aload_n 0, 1) := by decide +kernel
theorem dX11_order_50 : decode cX11_order 50 = .ok (.bipush 7, 2) := by decide +kernel
theorem dX11_order_52 : decode cX11_order 52 = .ok (.invokevirtual 102, 3) := by decide +kernel
theorem dX11_order_55 : decode cX11_order 55 = .ok (.ireturn, 1) := by decide +kernel
theorem dX11_bits_0 : decode cX11_bits 0 = .ok (.iconst 0, 1) := by decide +kernel
theorem dX11_bits_1 : decode cX11_bits 1 = .ok (.istore_n 1, 1) := by decide +kernel
theorem dX11_bits_2 : decode cX11_bits 2 = .ok (.iload_n 0, 1) := by decide +kernel
theorem dX11_bits_3 : decode cX11_bits 3 = .ok (.istore_n 2, 1) := by decide +kernel
theorem dX11_bits_4 : decode cX11_bits 4 = .ok (.iload_n 2, 1) := by decide +kernel
theorem dX11_bits_5 : decode cX11_bits 5 = .ok (.ifCond .eq 15, 3) := by decide +kernel
theorem dX11_bits_8 : decode cX11_bits 8 = .ok (.iinc 1 1, 3) := by decide +kernel
theorem dX11_bits_11 : decode cX11_bits 11 = .ok (.iload_n 2, 1) := by decide +kernel
theorem dX11_bits_12 : decode cX11_bits 12 = .ok (.iload_n 2, 1) := by decide +kernel
theorem dX11_bits_13 : decode cX11_bits 13 = .ok (.iconst 1, 1) := by decide +kernel
theorem dX11_bits_14 : decode cX11_bits 14 = .ok (.isub, 1) := by decide +kernel
theorem dX11_bits_15 : decode cX11_bits 15 = .ok (.iand, 1) := by decide +kernel
theorem dX11_bits_16 : decode cX11_bits 16 = .ok (.istore_n 2, 1) := by decide +kernel
theorem dX11_bits_17 : decode cX11_bits 17 = .ok (.goto (-13), 3) := by decide +kernel
theorem dX11_bits_20 : decode cX11_bits 20 = .ok (.iload_n 1, 1) := by decide +kernel
theorem dX11_bits_21 : decode cX11_bits 21 = .ok (.ireturn, 1) := by decide +kernel
theorem dX11_widest_0 : decode cX11_widest 0 = .ok (.aload_n 0, 1) := by decide +kernel
theorem dX11_widest_1 : decode cX11_widest 1 = .ok (.invokevirtual 348, 3) := by decide +kernel
theorem dX11_widest_4 : decode cX11_widest 4 = .ok (.iconst (-1), 1) := by decide +kernel
theorem dX11_widest_5 : decode cX11_widest 5 = .ok (.istore_n 1, 1) := by decide +kernel
theorem dX11_widest_6 : decode cX11_widest 6 = .ok (.iconst 0, 1) := by decide +kernel
theorem dX11_widest_7 : decode cX11_widest 7 = .ok (.istore_n 2, 1) := by decide +kernel
theorem dX11_widest_8 : decode cX11_widest 8 = .ok (.iload_n 2, 1) := by decide +kernel
theorem dX11_widest_9 : decode cX11_widest 9 = .ok (.aload_n 0, 1) := by decide +kernel
theorem dX11_widest_10 : decode cX11_widest 10 = .ok (.getfield 345, 3) := by decide +kernel
theorem dX11_widest_13 : decode cX11_widest 13 = .ok (.if_icmp .ge 35, 3) := by decide +kernel
theorem dX11_widest_16 : decode cX11_widest 16 = .ok (.iload_n 1, 1) := by decide +kernel
theorem dX11_widest_17 : decode cX11_widest 17 = .ok (.iconst (-1), 1) := by decide +kernel
theorem dX11_widest_18 : decode cX11_widest 18 = .ok (.if_icmp .eq 22, 3) := by decide +kernel
theorem dX11_widest_21 : decode cX11_widest 21 = .ok (.aload_n 0, 1) := by decide +kernel
theorem dX11_widest_22 : decode cX11_widest 22 = .ok (.iload_n 2, 1) := by decide +kernel
theorem dX11_widest_23 : decode cX11_widest 23 = .ok (.invokevirtual 357, 3) := by decide +kernel
theorem dX11_widest_26 : decode cX11_widest 26 = .ok (.invokestatic 369, 3) := by decide +kernel
theorem dX11_widest_29 : decode cX11_widest 29 = .ok (.aload_n 0, 1) := by decide +kernel
theorem dX11_widest_30 : decode cX11_widest 30 = .ok (.iload_n 1, 1) := by decide +kernel
theorem dX11_widest_31 : decode cX11_widest 31 = .ok (.invokevirtual 357, 3) := by decide +kernel
theorem dX11_widest_34 : decode cX11_widest 34 = .ok (.invokestatic 369, 3) := by decide +kernel
theorem dX11_widest_37 : decode cX11_widest 37 = .ok (.if_icmp .le 5, 3) := by decide +kernel
theorem dX11_widest_40 : decode cX11_widest 40 = .ok (.iload_n 2, 1) := by decide +kernel
theorem dX11_widest_41 : decode cX11_widest 41 = .ok (.istore_n 1, 1) := by decide +kernel
theorem dX11_widest_42 : decode cX11_widest 42 = .ok (.iinc 2 1, 3) := by decide +kernel
theorem dX11_widest_45 : decode cX11_widest 45 = .ok (.goto (-37), 3) := by decide +kernel
theorem dX11_widest_48 : decode cX11_widest 48 = .ok (.aload_n 0, 1) := by decide +kernel
theorem dX11_widest_49 : decode cX11_widest 49 = .ok (.iload_n 1, 1) := by decide +kernel
theorem dX11_widest_50 : decode cX11_widest 50 = .ok (.invokevirtual 333, 3) := by decide +kernel
theorem dX11_widest_53 : decode cX11_widest 53 = .ok (.ireturn, 1) := by decide +kernel
theorem dX11_isTriangle_0 : decode cX11_isTriangle 0 = .ok (.iload_n 1, 1) := by decide +kernel
theorem dX11_isTriangle_1 : decode cX11_isTriangle 1 = .ok (.ifCond .lt 17, 3) := by decide +kernel
theorem dX11_isTriangle_4 : decode cX11_isTriangle 4 = .ok (.iload_n 1, 1) := by decide +kernel
theorem dX11_isTriangle_5 : decode cX11_isTriangle 5 = .ok (.aload_n 0, 1) := by decide +kernel
theorem dX11_isTriangle_6 : decode cX11_isTriangle 6 = .ok (.getfield 7, 3) := by decide +kernel
theorem dX11_isTriangle_9 : decode cX11_isTriangle 9 = .ok (.iconst 2, 1) := by decide +kernel
theorem dX11_isTriangle_10 : decode cX11_isTriangle 10 = .ok (.iaload, 1) := by decide +kernel
theorem dX11_isTriangle_11 : decode cX11_isTriangle 11 = .ok (.if_icmp .ge 7, 3) := by decide +kernel
theorem dX11_isTriangle_14 : decode cX11_isTriangle 14 = .ok (.iconst 1, 1) := by decide +kernel
theorem dX11_isTriangle_15 : decode cX11_isTriangle 15 = .ok (.goto 4, 3) := by decide +kernel
theorem dX11_isTriangle_18 : decode cX11_isTriangle 18 = .ok (.iconst 0, 1) := by decide +kernel
theorem dX11_isTriangle_19 : decode cX11_isTriangle 19 = .ok (.ireturn, 1) := by decide +kernel
theorem dX11_corner_0 : decode cX11_corner 0 = .ok (.aload_n 0, 1) := by decide +kernel
theorem dX11_corner_1 : decode cX11_corner 1 = .ok (.getfield 7, 3) := by decide +kernel
theorem dX11_corner_4 : decode cX11_corner 4 = .ok (.sipush 244, 3) := by decide +kernel
theorem dX11_corner_7 : decode cX11_corner 7 = .ok (.iconst 3, 1) := by decide +kernel
theorem dX11_corner_8 : decode cX11_corner 8 = .ok (.iload_n 1, 1) := by decide +kernel
theorem dX11_corner_9 : decode cX11_corner 9 = .ok (.imul, 1) := by decide +kernel
theorem dX11_corner_10 : decode cX11_corner 10 = .ok (.iadd, 1) := by decide +kernel
theorem dX11_corner_11 : decode cX11_corner 11 = .ok (.iload_n 2, 1) := by decide +kernel
theorem dX11_corner_12 : decode cX11_corner 12 = .ok (.iadd, 1) := by decide +kernel
theorem dX11_corner_13 : decode cX11_corner 13 = .ok (.iaload, 1) := by decide +kernel
theorem dX11_corner_14 : decode cX11_corner 14 = .ok (.ireturn, 1) := by decide +kernel
theorem dX11_twiceArea_0 : decode cX11_twiceArea 0 = .ok (.aload_n 0, 1) := by decide +kernel
theorem dX11_twiceArea_1 : decode cX11_twiceArea 1 = .ok (.iconst 0, 1) := by decide +kernel
theorem dX11_twiceArea_2 : decode cX11_twiceArea 2 = .ok (.aload_n 0, 1) := by decide +kernel
theorem dX11_twiceArea_3 : decode cX11_twiceArea 3 = .ok (.iload_n 1, 1) := by decide +kernel
theorem dX11_twiceArea_4 : decode cX11_twiceArea 4 = .ok (.iconst 0, 1) := by decide +kernel
theorem dX11_twiceArea_5 : decode cX11_twiceArea 5 = .ok (.invokevirtual 372, 3) := by decide +kernel
theorem dX11_twiceArea_8 : decode cX11_twiceArea 8 = .ok (.aload_n 0, 1) := by decide +kernel
theorem dX11_twiceArea_9 : decode cX11_twiceArea 9 = .ok (.iload_n 1, 1) := by decide +kernel
theorem dX11_twiceArea_10 : decode cX11_twiceArea 10 = .ok (.iconst 1, 1) := by decide +kernel
theorem dX11_twiceArea_11 : decode cX11_twiceArea 11 = .ok (.invokevirtual 372, 3) := by decide +kernel
theorem dX11_twiceArea_14 : decode cX11_twiceArea 14 = .ok (.aload_n 0, 1) := by decide +kernel
theorem dX11_twiceArea_15 : decode cX11_twiceArea 15 = .ok (.iload_n 1, 1) := by decide +kernel
theorem dX11_twiceArea_16 : decode cX11_twiceArea 16 = .ok (.iconst 2, 1) := by decide +kernel
theorem dX11_twiceArea_17 : decode cX11_twiceArea 17 = .ok (.invokevirtual 372, 3) := by decide +kernel
theorem dX11_twiceArea_20 : decode cX11_twiceArea 20 = .ok (.invokevirtual 226, 3) := by decide +kernel
theorem dX11_twiceArea_23 : decode cX11_twiceArea 23 = .ok (.lreturn, 1) := by decide +kernel
theorem dX11_size_0 : decode cX11_size 0 = .ok (.lload_n 0, 1) := by decide +kernel
theorem dX11_size_1 : decode cX11_size 1 = .ok (.lconst 0, 1) := by decide +kernel
theorem dX11_size_2 : decode cX11_size 2 = .ok (.lcmp, 1) := by decide +kernel
theorem dX11_size_3 : decode cX11_size 3 = .ok (.ifCond .ge 8, 3) := by decide +kernel
theorem dX11_size_6 : decode cX11_size 6 = .ok (.lload_n 0, 1) := by decide +kernel
theorem dX11_size_7 : decode cX11_size 7 = .ok (.lneg, 1) := by decide +kernel
theorem dX11_size_8 : decode cX11_size 8 = .ok (.goto 4, 3) := by decide +kernel
theorem dX11_size_11 : decode cX11_size 11 = .ok (.lload_n 0, 1) := by decide +kernel
theorem dX11_size_12 : decode cX11_size 12 = .ok (.lreturn, 1) := by decide +kernel
theorem dX11_tellsBy_0 : decode cX11_tellsBy 0 = .ok (.lload_n 1, 1) := by decide +kernel
theorem dX11_tellsBy_1 : decode cX11_tellsBy 1 = .ok (.lconst 0, 1) := by decide +kernel
theorem dX11_tellsBy_2 : decode cX11_tellsBy 2 = .ok (.lcmp, 1) := by decide +kernel
theorem dX11_tellsBy_3 : decode cX11_tellsBy 3 = .ok (.ifCond .ge 8, 3) := by decide +kernel
theorem dX11_tellsBy_6 : decode cX11_tellsBy 6 = .ok (.lload_n 1, 1) := by decide +kernel
theorem dX11_tellsBy_7 : decode cX11_tellsBy 7 = .ok (.lneg, 1) := by decide +kernel
theorem dX11_tellsBy_8 : decode cX11_tellsBy 8 = .ok (.goto 4, 3) := by decide +kernel
theorem dX11_tellsBy_11 : decode cX11_tellsBy 11 = .ok (.lload_n 1, 1) := by decide +kernel
theorem dX11_tellsBy_12 : decode cX11_tellsBy 12 = .ok (.lstore 5, 2) := by decide +kernel
theorem dX11_tellsBy_14 : decode cX11_tellsBy 14 = .ok (.lload_n 3, 1) := by decide +kernel
theorem dX11_tellsBy_15 : decode cX11_tellsBy 15 = .ok (.lstore 7, 2) := by decide +kernel
theorem dX11_tellsBy_17 : decode cX11_tellsBy 17 = .ok (.lload 7, 2) := by decide +kernel
theorem dX11_tellsBy_19 : decode cX11_tellsBy 19 = .ok (.lconst 0, 1) := by decide +kernel
theorem dX11_tellsBy_20 : decode cX11_tellsBy 20 = .ok (.lcmp, 1) := by decide +kernel
theorem dX11_tellsBy_21 : decode cX11_tellsBy 21 = .ok (.ifCond .eq 21, 3) := by decide +kernel
theorem dX11_tellsBy_24 : decode cX11_tellsBy 24 = .ok (.lload 5, 2) := by decide +kernel
theorem dX11_tellsBy_26 : decode cX11_tellsBy 26 = .ok (.lload 7, 2) := by decide +kernel
theorem dX11_tellsBy_28 : decode cX11_tellsBy 28 = .ok (.lrem, 1) := by decide +kernel
theorem dX11_tellsBy_29 : decode cX11_tellsBy 29 = .ok (.lstore 9, 2) := by decide +kernel
theorem dX11_tellsBy_31 : decode cX11_tellsBy 31 = .ok (.lload 7, 2) := by decide +kernel
theorem dX11_tellsBy_33 : decode cX11_tellsBy 33 = .ok (.lstore 5, 2) := by decide +kernel
theorem dX11_tellsBy_35 : decode cX11_tellsBy 35 = .ok (.lload 9, 2) := by decide +kernel
theorem dX11_tellsBy_37 : decode cX11_tellsBy 37 = .ok (.lstore 7, 2) := by decide +kernel
theorem dX11_tellsBy_39 : decode cX11_tellsBy 39 = .ok (.goto (-22), 3) := by decide +kernel
theorem dX11_tellsBy_42 : decode cX11_tellsBy 42 = .ok (.aload_n 0, 1) := by decide +kernel
theorem dX11_tellsBy_43 : decode cX11_tellsBy 43 = .ok (.lload_n 1, 1) := by decide +kernel
theorem dX11_tellsBy_44 : decode cX11_tellsBy 44 = .ok (.lload 5, 2) := by decide +kernel
theorem dX11_tellsBy_46 : decode cX11_tellsBy 46 = .ok (.ldiv, 1) := by decide +kernel
theorem dX11_tellsBy_47 : decode cX11_tellsBy 47 = .ok (.putfield 99, 3) := by decide +kernel
theorem dX11_tellsBy_50 : decode cX11_tellsBy 50 = .ok (.aload_n 0, 1) := by decide +kernel
theorem dX11_tellsBy_51 : decode cX11_tellsBy 51 = .ok (.lload_n 3, 1) := by decide +kernel
theorem dX11_tellsBy_52 : decode cX11_tellsBy 52 = .ok (.lload 5, 2) := by decide +kernel
theorem dX11_tellsBy_54 : decode cX11_tellsBy 54 = .ok (.ldiv, 1) := by decide +kernel
theorem dX11_tellsBy_55 : decode cX11_tellsBy 55 = .ok (.putfield 17, 3) := by decide +kernel
theorem dX11_tellsBy_58 : decode cX11_tellsBy 58 = .ok (.aload_n 0, 1) := by decide +kernel
theorem dX11_tellsBy_59 : decode cX11_tellsBy 59 = .ok (.iconst 0, 1) := by decide +kernel
theorem dX11_tellsBy_60 : decode cX11_tellsBy 60 = .ok (.invokevirtual 109, 3) := by decide +kernel
theorem dX11_tellsBy_63 : decode cX11_tellsBy 63 = .ok (.ireturn, 1) := by decide +kernel
def fX11_square (t : Nat) (a1 : Int32) (a2 : Int32) (M : Mem) : Option Int32 :=
  (fX11_holeRow a1 M).bind fun v1 =>
 ixk v1 3900 (
 (fX11_holeRow a2 M).bind fun v2 =>
 ixk v2 3900 (
 nm ((M.1 (t + 1) v1.toNatClampNeg) - (M.1 (t + 1) v2.toNatClampNeg)) (fun v3 =>
 (fX11_holeRow a1 M).bind fun v4 =>
 ixk (v4 + (1 : Int32)) 3900 (
 (fX11_holeRow a2 M).bind fun v5 =>
 ixk (v5 + (1 : Int32)) 3900 (
 nm ((M.1 (t + 1) (v4 + (1 : Int32)).toNatClampNeg) - (M.1 (t + 1) (v5 + (1 : Int32)).toNatClampNeg)) (fun v6 =>
 some ((v3 * v3) + (v6 * v6))))))))
set_option maxRecDepth 100000 in
set_option maxHeartbeats 4000000 in
theorem kX11_square (t : Nat) (a1 : Int32) (a2 : Int32) (M : Mem) (ht : isO 11 t) (l : Launch) (G : GT) {b : Int32} (hE : fX11_square t a1 a2 M = some b) : Ok l G yX11_square cX11_square 5 (some .int) 1 20 [.ref t, .int a1, .int a2] M ((fun b : Int32 => (some (Value.int b), M)) b).1 ((fun b : Int32 => (some (Value.int b), M)) b).2 := by
  refine Ok.ofX (pj := (fun b : Int32 => (some (Value.int b), M))) (by decide) (Nat.le_of_ble_eq_true rfl) hE (fun J g hr hG hl hR hn => ?_)
  show X J (fun b : Int32 => (some (Value.int b), M)) (fX11_square t a1 a2 M) 0 [(0, .ref t), (1, .int a1), (2, .int a2)] [] M
  unfold fX11_square
  exact (x_aload_n g 0 dX11_square_0 rfl rfl
 (x_getS g 1 fl_RX11_7 rfl ht dX11_square_1
 (x_iload_n g 1 dX11_square_4 rfl rfl
 (x_callSip (As := [.int a1]) g mv_X11_holeRow ms_X11_holeRow lk_RX11_280 (fun b hb => kX11_holeRow a1 M _ _ hb) rfl rfl hR ⟨Nat.le_of_ble_eq_true rfl, Nat.le_of_ble_eq_true rfl⟩ (Nat.le_of_ble_eq_true rfl) dX11_square_5 (fun v1 =>
 (x_iald g (so_11_0 ht) dX11_square_8
 (x_aload_n g 0 dX11_square_9 rfl rfl
 (x_getS g 1 fl_RX11_7 rfl ht dX11_square_10
 (x_iload_n g 2 dX11_square_13 rfl rfl
 (x_callSip (As := [.int a2]) g mv_X11_holeRow ms_X11_holeRow lk_RX11_280 (fun b hb => kX11_holeRow a2 M _ _ hb) rfl rfl hR ⟨Nat.le_of_ble_eq_true rfl, Nat.le_of_ble_eq_true rfl⟩ (Nat.le_of_ble_eq_true rfl) dX11_square_14 (fun v2 =>
 (x_iald g (so_11_0 ht) dX11_square_17
 (x_isub g dX11_square_18
 (x_nmI (fun v3 => (x_istore_n (L' := [(3, .int v3), (0, .ref t), (1, .int a1), (2, .int a2)]) g dX11_square_19 rfl hn (Nat.le_of_ble_eq_true rfl) rfl
 (x_aload_n g 1 dX11_square_20 rfl rfl
 (x_getS g 1 fl_RX11_7 rfl ht dX11_square_21
 (x_iload_n g 2 dX11_square_24 rfl rfl
 (x_callSip (As := [.int a1]) g mv_X11_holeRow ms_X11_holeRow lk_RX11_280 (fun b hb => kX11_holeRow a1 M _ _ hb) rfl rfl hR ⟨Nat.le_of_ble_eq_true rfl, Nat.le_of_ble_eq_true rfl⟩ (Nat.le_of_ble_eq_true rfl) dX11_square_25 (fun v4 =>
 (x_iconst g dX11_square_28 kI_1
 (x_iadd g dX11_square_29
 (x_iald g (so_11_0 ht) dX11_square_30
 (x_aload_n g 1 dX11_square_31 rfl rfl
 (x_getS g 1 fl_RX11_7 rfl ht dX11_square_32
 (x_iload_n g 3 dX11_square_35 rfl rfl
 (x_callSip (As := [.int a2]) g mv_X11_holeRow ms_X11_holeRow lk_RX11_280 (fun b hb => kX11_holeRow a2 M _ _ hb) rfl rfl hR ⟨Nat.le_of_ble_eq_true rfl, Nat.le_of_ble_eq_true rfl⟩ (Nat.le_of_ble_eq_true rfl) dX11_square_36 (fun v5 =>
 (x_iconst g dX11_square_39 kI_1
 (x_iadd g dX11_square_40
 (x_iald g (so_11_0 ht) dX11_square_41
 (x_isub g dX11_square_42
 (x_nmI (fun v6 => (x_istore (L' := [(4, .int v6), (3, .int v3), (0, .ref t), (1, .int a1), (2, .int a2)]) g dX11_square_43 hn (Nat.le_of_ble_eq_true rfl) rfl
 (x_iload_n g 1 dX11_square_45 rfl rfl
 (x_iload_n g 1 dX11_square_46 rfl rfl
 (x_imul g dX11_square_47
 (x_iload g 0 dX11_square_48 rfl
 (x_iload g 0 dX11_square_50 rfl
 (x_imul g dX11_square_52
 (x_iadd g dX11_square_53
 (x_iret g hr rfl rfl dX11_square_54))))))))))))))))))))))))))))))))))))))))))))
def lX11_laysTree_9 (K27 : Mem → Option (Unit × Mem)) (t : Nat) (x1 : Int32) : Nat → Int32 → Mem → Option (Unit × Mem)
  | 0, _, _ => none
  | n + 1, x2, M =>
    if x1 ≤ x2 then
 K27 M
 else
 ixk x2 6 (nm (stI M (t + 14) x2.toNatClampNeg x2) (fun M2 =>
 lX11_laysTree_9 K27 t x1 n (x2 + 1) M2))
theorem lX11_laysTree_9_s (K27 : Mem → Option (Unit × Mem)) (t : Nat) (x1 : Int32) (n : Nat) (x2 : Int32) (M : Mem) : lX11_laysTree_9 K27 t x1 (n + 1) x2 M =
    if x1 ≤ x2 then
 K27 M
 else
 ixk x2 6 (nm (stI M (t + 14) x2.toNatClampNeg x2) (fun M2 =>
 lX11_laysTree_9 K27 t x1 n (x2 + 1) M2)) := rfl
theorem lX11_laysTree_9_0 (K27 : Mem → Option (Unit × Mem)) (t : Nat) (x1 : Int32) (x2 : Int32) (M : Mem) : lX11_laysTree_9 K27 t x1 0 x2 M = none := rfl
set_option maxRecDepth 100000 in
set_option maxHeartbeats 4000000 in
theorem wlX11_laysTree_9 {J : JT} (g : Gd J cX11_laysTree RX11) (hr : Rt J none) (hR : (JR J).frames = 2 ∧ (JR J).locals = 44) (hn : Jn J = 6) (K27 : Mem → Option (Unit × Mem)) (t : Nat) (x1 : Int32) (ht : isO 11 t) (hK27 : ∀ (M : Mem), X J (fun q : Unit × Mem => ((none : Option Value), q.2)) (K27 M) 27 [(0, .ref t), (1, .int x1)] [] M) : ∀ (n : Nat) (x2 : Int32) (M : Mem), X J (fun q : Unit × Mem => ((none : Option Value), q.2)) (lX11_laysTree_9 K27 t x1 n x2 M) 9 [(0, .ref t), (1, .int x1), (2, .int x2)] [] M := by
  intro n
  induction n with
  | zero =>
    intro x2 M
    exact x_none
  | succ n ih =>
    intro x2 M
    rw [lX11_laysTree_9_s]
    exact (x_iload_n g 2 dX11_laysTree_9 rfl rfl
 (x_iload_n g 1 dX11_laysTree_10 rfl rfl
 (x_icmp_ge g 27 dX11_laysTree_11 rfl
 (fun _ => (x_sub [0, 1] rfl (hK27 M)))
 (fun _ => (x_aload_n g 0 dX11_laysTree_14 rfl rfl
 (x_getS g 14 fl_RX11_65 rfl ht dX11_laysTree_15
 (x_iload_n g 2 dX11_laysTree_18 rfl rfl
 (x_iload_n g 2 dX11_laysTree_19 rfl rfl
 (x_iast g (so_11_29 ht) dX11_laysTree_20 (x_nmM (fun M2 =>
 (x_iinc (L' := [(2, .int (x2 + 1)), (0, .ref t), (1, .int x1)]) (v := (x2 + 1)) g 2 dX11_laysTree_21 rfl (by rw [kI_1]) hn (Nat.le_of_ble_eq_true rfl) rfl
 (x_goto g 9 dX11_laysTree_24 rfl
 (x_sub [1, 2, 0] rfl (ih (x2 + 1) M2)))))))))))))))
def lX11_laysTree_61 (K121 : Int32 → Int32 → Option (Unit × Mem)) (t : Nat) (x1 : Int32) (x4 : Int32) (M : Mem) : Nat → Int32 → Int32 → Int32 → Option (Unit × Mem)
  | 0, _, _, _ => none
  | n + 1, x2, x3, x5 =>
    if x1 ≤ x5 then
 K121 x2 x3
 else
 ixk x4 6 (
 ixk x5 6 (
 jn (fun (v6 : Int32) (v7 : Int32) => lX11_laysTree_61 K121 t x1 x4 M n v6 v7 (x5 + 1)) (fun J8 => if (M.1 (t + 14) x4.toNatClampNeg) = (M.1 (t + 14) x5.toNatClampNeg) then
 J8 x2 x3
 else
 jn (J8 x4 x5) (fun J9 => if x2 = (-1 : Int32) then
 J9
 else
 (fX11_square t x4 x5 M).bind fun v10 =>
 (fX11_square t x2 x3 M).bind fun v11 =>
 if v10 < v11 then
 J9
 else
 J8 x2 x3))))
theorem lX11_laysTree_61_s (K121 : Int32 → Int32 → Option (Unit × Mem)) (t : Nat) (x1 : Int32) (x4 : Int32) (M : Mem) (n : Nat) (x2 : Int32) (x3 : Int32) (x5 : Int32) : lX11_laysTree_61 K121 t x1 x4 M (n + 1) x2 x3 x5 =
    if x1 ≤ x5 then
 K121 x2 x3
 else
 ixk x4 6 (
 ixk x5 6 (
 jn (fun (v6 : Int32) (v7 : Int32) => lX11_laysTree_61 K121 t x1 x4 M n v6 v7 (x5 + 1)) (fun J8 => if (M.1 (t + 14) x4.toNatClampNeg) = (M.1 (t + 14) x5.toNatClampNeg) then
 J8 x2 x3
 else
 jn (J8 x4 x5) (fun J9 => if x2 = (-1 : Int32) then
 J9
 else
 (fX11_square t x4 x5 M).bind fun v10 =>
 (fX11_square t x2 x3 M).bind fun v11 =>
 if v10 < v11 then
 J9
 else
 J8 x2 x3)))) := rfl
theorem lX11_laysTree_61_0 (K121 : Int32 → Int32 → Option (Unit × Mem)) (t : Nat) (x1 : Int32) (x4 : Int32) (M : Mem) (x2 : Int32) (x3 : Int32) (x5 : Int32) : lX11_laysTree_61 K121 t x1 x4 M 0 x2 x3 x5 = none := rfl
set_option maxRecDepth 100000 in
set_option maxHeartbeats 4000000 in
theorem wlX11_laysTree_61 {J : JT} (g : Gd J cX11_laysTree RX11) (hr : Rt J none) (hR : (JR J).frames = 2 ∧ (JR J).locals = 44) (hn : Jn J = 6) (K121 : Int32 → Int32 → Option (Unit × Mem)) (t : Nat) (x1 : Int32) (x4 : Int32) (M : Mem) (ht : isO 11 t) (hK121 : ∀ (y2 : Int32) (y3 : Int32), X J (fun q : Unit × Mem => ((none : Option Value), q.2)) (K121 y2 y3) 121 [(0, .ref t), (1, .int x1), (2, .int y2), (3, .int y3), (4, .int x4)] [] M) : ∀ (n : Nat) (x2 : Int32) (x3 : Int32) (x5 : Int32), X J (fun q : Unit × Mem => ((none : Option Value), q.2)) (lX11_laysTree_61 K121 t x1 x4 M n x2 x3 x5) 61 [(0, .ref t), (1, .int x1), (2, .int x2), (3, .int x3), (4, .int x4), (5, .int x5)] [] M := by
  intro n
  induction n with
  | zero =>
    intro x2 x3 x5
    exact x_none
  | succ n ih =>
    intro x2 x3 x5
    rw [lX11_laysTree_61_s]
    exact (x_iload g 5 dX11_laysTree_61 rfl
 (x_iload_n g 1 dX11_laysTree_63 rfl rfl
 (x_icmp_ge g 121 dX11_laysTree_64 rfl
 (fun _ => (x_sub [0, 1, 2, 3, 4] rfl (hK121 x2 x3)))
 (fun _ => (x_aload_n g 0 dX11_laysTree_67 rfl rfl
 (x_getS g 14 fl_RX11_65 rfl ht dX11_laysTree_68
 (x_iload g 4 dX11_laysTree_71 rfl
 (x_iald g (so_11_29 ht) dX11_laysTree_73
 (x_aload_n g 0 dX11_laysTree_74 rfl rfl
 (x_getS g 14 fl_RX11_65 rfl ht dX11_laysTree_75
 (x_iload g 5 dX11_laysTree_78 rfl
 (x_iald g (so_11_29 ht) dX11_laysTree_80
 (x_jn (fun (J8 : Int32 → Int32 → Option (Unit × Mem)) => ∀ (v6 : Int32) (v7 : Int32), X J (fun q : Unit × Mem => ((none : Option Value), q.2)) (J8 v6 v7) 115 [(0, .ref t), (1, .int x1), (2, .int v6), (3, .int v7), (4, .int x4), (5, .int x5)] [] M) (fun v6 v7 => (x_iinc (L' := [(5, .int (x5 + 1)), (0, .ref t), (1, .int x1), (2, .int v6), (3, .int v7), (4, .int x4)]) (v := (x5 + 1)) g 5 dX11_laysTree_115 rfl (by rw [kI_1]) hn (Nat.le_of_ble_eq_true rfl) rfl
 (x_goto g 61 dX11_laysTree_118 rfl
 (x_sub [1, 2, 3, 4, 5, 0] rfl (ih v6 v7 (x5 + 1)))))) (fun J8 hJ8 => (x_icmp_eq g 115 dX11_laysTree_81 rfl
 (fun _ => (hJ8 x2 x3))
 (fun _ => (x_iload_n g 2 dX11_laysTree_84 rfl rfl
 (x_iconst g dX11_laysTree_85 kI_m1
 (x_jn (fun (J9 : Option (Unit × Mem)) => X J (fun q : Unit × Mem => ((none : Option Value), q.2)) J9 109 [(0, .ref t), (1, .int x1), (4, .int x4), (5, .int x5)] [] M) (x_iload g 2 dX11_laysTree_109 rfl
 (x_istore_n (L' := [(2, .int x4), (0, .ref t), (1, .int x1), (4, .int x4), (5, .int x5)]) g dX11_laysTree_111 rfl hn (Nat.le_of_ble_eq_true rfl) rfl
 (x_iload g 4 dX11_laysTree_112 rfl
 (x_istore_n (L' := [(3, .int x5), (2, .int x4), (0, .ref t), (1, .int x1), (4, .int x4), (5, .int x5)]) g dX11_laysTree_114 rfl hn (Nat.le_of_ble_eq_true rfl) rfl
 (x_sub [2, 3, 1, 0, 4, 5] rfl (hJ8 x4 x5)))))) (fun J9 hJ9 => (x_icmp_eq g 109 dX11_laysTree_86 rfl
 (fun _ => (x_sub [0, 1, 4, 5] rfl (hJ9)))
 (fun _ => (x_aload_n g 0 dX11_laysTree_89 rfl rfl
 (x_iload g 4 dX11_laysTree_90 rfl
 (x_iload g 5 dX11_laysTree_92 rfl
 (x_callVip (As := [.int x4, .int x5]) g mv_X11_square mi_X11_square lk_RX11_339 ht (fun b hb => kX11_square t x4 x5 M ht _ _ hb) rfl rfl hR ⟨Nat.le_of_ble_eq_true rfl, Nat.le_of_ble_eq_true rfl⟩ (Nat.le_of_ble_eq_true rfl) dX11_laysTree_94 (fun v10 =>
 (x_aload_n g 0 dX11_laysTree_97 rfl rfl
 (x_iload_n g 2 dX11_laysTree_98 rfl rfl
 (x_iload_n g 3 dX11_laysTree_99 rfl rfl
 (x_callVip (As := [.int x2, .int x3]) g mv_X11_square mi_X11_square lk_RX11_339 ht (fun b hb => kX11_square t x2 x3 M ht _ _ hb) rfl rfl hR ⟨Nat.le_of_ble_eq_true rfl, Nat.le_of_ble_eq_true rfl⟩ (Nat.le_of_ble_eq_true rfl) dX11_laysTree_100 (fun v11 =>
 (x_icmp_lt g 109 dX11_laysTree_103 rfl
 (fun _ => (x_sub [0, 1, 4, 5] rfl (hJ9)))
 (fun _ => (x_goto g 115 dX11_laysTree_106 rfl
 (hJ8 x2 x3))))))))))))))))))))))))))))))))))))
def lX11_laysTree_49 (K127 : Int32 → Int32 → Option (Unit × Mem)) (φ : Nat) (t : Nat) (x1 : Int32) (M : Mem) : Nat → Int32 → Int32 → Int32 → Option (Unit × Mem)
  | 0, _, _, _ => none
  | n + 1, x2, x3, x4 =>
    if x1 ≤ x4 then
 K127 x2 x3
 else
 nm (x4 + (1 : Int32)) (fun v5 =>
 lX11_laysTree_61 (fun (v12 : Int32) (v13 : Int32) => lX11_laysTree_49 K127 φ t x1 M n v12 v13 (x4 + 1)) t x1 x4 M φ x2 x3 v5)
theorem lX11_laysTree_49_s (K127 : Int32 → Int32 → Option (Unit × Mem)) (φ : Nat) (t : Nat) (x1 : Int32) (M : Mem) (n : Nat) (x2 : Int32) (x3 : Int32) (x4 : Int32) : lX11_laysTree_49 K127 φ t x1 M (n + 1) x2 x3 x4 =
    if x1 ≤ x4 then
 K127 x2 x3
 else
 nm (x4 + (1 : Int32)) (fun v5 =>
 lX11_laysTree_61 (fun (v12 : Int32) (v13 : Int32) => lX11_laysTree_49 K127 φ t x1 M n v12 v13 (x4 + 1)) t x1 x4 M φ x2 x3 v5) := rfl
theorem lX11_laysTree_49_0 (K127 : Int32 → Int32 → Option (Unit × Mem)) (φ : Nat) (t : Nat) (x1 : Int32) (M : Mem) (x2 : Int32) (x3 : Int32) (x4 : Int32) : lX11_laysTree_49 K127 φ t x1 M 0 x2 x3 x4 = none := rfl
set_option maxRecDepth 100000 in
set_option maxHeartbeats 4000000 in
theorem wlX11_laysTree_49 {J : JT} (g : Gd J cX11_laysTree RX11) (hr : Rt J none) (hR : (JR J).frames = 2 ∧ (JR J).locals = 44) (hn : Jn J = 6) (K127 : Int32 → Int32 → Option (Unit × Mem)) (φ : Nat) (t : Nat) (x1 : Int32) (M : Mem) (ht : isO 11 t) (hK127 : ∀ (y2 : Int32) (y3 : Int32), X J (fun q : Unit × Mem => ((none : Option Value), q.2)) (K127 y2 y3) 127 [(0, .ref t), (1, .int x1), (2, .int y2), (3, .int y3)] [] M) : ∀ (n : Nat) (x2 : Int32) (x3 : Int32) (x4 : Int32), X J (fun q : Unit × Mem => ((none : Option Value), q.2)) (lX11_laysTree_49 K127 φ t x1 M n x2 x3 x4) 49 [(0, .ref t), (1, .int x1), (2, .int x2), (3, .int x3), (4, .int x4)] [] M := by
  intro n
  induction n with
  | zero =>
    intro x2 x3 x4
    exact x_none
  | succ n ih =>
    intro x2 x3 x4
    rw [lX11_laysTree_49_s]
    exact (x_iload g 4 dX11_laysTree_49 rfl
 (x_iload_n g 1 dX11_laysTree_51 rfl rfl
 (x_icmp_ge g 127 dX11_laysTree_52 rfl
 (fun _ => (x_sub [0, 1, 2, 3] rfl (hK127 x2 x3)))
 (fun _ => (x_iload g 4 dX11_laysTree_55 rfl
 (x_iconst g dX11_laysTree_57 kI_1
 (x_iadd g dX11_laysTree_58
 (x_nmI (fun v5 => (x_istore (L' := [(5, .int v5), (0, .ref t), (1, .int x1), (2, .int x2), (3, .int x3), (4, .int x4)]) g dX11_laysTree_59 hn (Nat.le_of_ble_eq_true rfl) rfl
 (x_sub [1, 2, 3, 4, 5, 0] rfl (wlX11_laysTree_61 g hr hR hn _ t x1 x4 M ht
 (fun v12 v13 => by exact (x_iinc (L' := [(4, .int (x4 + 1)), (0, .ref t), (1, .int x1), (2, .int v12), (3, .int v13)]) (v := (x4 + 1)) g 4 dX11_laysTree_121 rfl (by rw [kI_1]) hn (Nat.le_of_ble_eq_true rfl) rfl
 (x_goto g 49 dX11_laysTree_124 rfl
 (x_sub [1, 2, 3, 4, 0] rfl (ih v12 v13 (x4 + 1)))))) φ x2 x3 v5))))))))))))
def lX11_laysTree_158 (K195 : Mem → Option (Unit × Mem)) (t : Nat) (x1 : Int32) (x2 : Int32) (x4 : Int32) : Nat → Int32 → Mem → Option (Unit × Mem)
  | 0, _, _ => none
  | n + 1, x5, M =>
    if x1 ≤ x5 then
 K195 M
 else
 ixk x5 6 (
 jn (fun (M19 : Mem) => lX11_laysTree_158 K195 t x1 x2 x4 n (x5 + 1) M19) (fun J20 => if (M.1 (t + 14) x5.toNatClampNeg) = x4 then
 ixk x2 6 (
 ixk x5 6 (nm (stI M (t + 14) x5.toNatClampNeg (M.1 (t + 14) x2.toNatClampNeg)) (fun M21 =>
 J20 M21)))
 else
 J20 M))
theorem lX11_laysTree_158_s (K195 : Mem → Option (Unit × Mem)) (t : Nat) (x1 : Int32) (x2 : Int32) (x4 : Int32) (n : Nat) (x5 : Int32) (M : Mem) : lX11_laysTree_158 K195 t x1 x2 x4 (n + 1) x5 M =
    if x1 ≤ x5 then
 K195 M
 else
 ixk x5 6 (
 jn (fun (M19 : Mem) => lX11_laysTree_158 K195 t x1 x2 x4 n (x5 + 1) M19) (fun J20 => if (M.1 (t + 14) x5.toNatClampNeg) = x4 then
 ixk x2 6 (
 ixk x5 6 (nm (stI M (t + 14) x5.toNatClampNeg (M.1 (t + 14) x2.toNatClampNeg)) (fun M21 =>
 J20 M21)))
 else
 J20 M)) := rfl
theorem lX11_laysTree_158_0 (K195 : Mem → Option (Unit × Mem)) (t : Nat) (x1 : Int32) (x2 : Int32) (x4 : Int32) (x5 : Int32) (M : Mem) : lX11_laysTree_158 K195 t x1 x2 x4 0 x5 M = none := rfl
set_option maxRecDepth 100000 in
set_option maxHeartbeats 4000000 in
theorem wlX11_laysTree_158 {J : JT} (g : Gd J cX11_laysTree RX11) (hr : Rt J none) (hR : (JR J).frames = 2 ∧ (JR J).locals = 44) (hn : Jn J = 6) (K195 : Mem → Option (Unit × Mem)) (t : Nat) (x1 : Int32) (x2 : Int32) (x4 : Int32) (ht : isO 11 t) (hK195 : ∀ (M : Mem), X J (fun q : Unit × Mem => ((none : Option Value), q.2)) (K195 M) 195 [(0, .ref t), (1, .int x1)] [] M) : ∀ (n : Nat) (x5 : Int32) (M : Mem), X J (fun q : Unit × Mem => ((none : Option Value), q.2)) (lX11_laysTree_158 K195 t x1 x2 x4 n x5 M) 158 [(0, .ref t), (1, .int x1), (2, .int x2), (4, .int x4), (5, .int x5)] [] M := by
  intro n
  induction n with
  | zero =>
    intro x5 M
    exact x_none
  | succ n ih =>
    intro x5 M
    rw [lX11_laysTree_158_s]
    exact (x_iload g 4 dX11_laysTree_158 rfl
 (x_iload_n g 1 dX11_laysTree_160 rfl rfl
 (x_icmp_ge g 195 dX11_laysTree_161 rfl
 (fun _ => (x_sub [0, 1] rfl (hK195 M)))
 (fun _ => (x_aload_n g 0 dX11_laysTree_164 rfl rfl
 (x_getS g 14 fl_RX11_65 rfl ht dX11_laysTree_165
 (x_iload g 4 dX11_laysTree_168 rfl
 (x_iald g (so_11_29 ht) dX11_laysTree_170
 (x_iload g 3 dX11_laysTree_171 rfl
 (x_jn (fun (J20 : Mem → Option (Unit × Mem)) => ∀ (M19 : Mem), X J (fun q : Unit × Mem => ((none : Option Value), q.2)) (J20 M19) 189 [(0, .ref t), (1, .int x1), (2, .int x2), (4, .int x4), (5, .int x5)] [] M19) (fun M19 => (x_iinc (L' := [(5, .int (x5 + 1)), (0, .ref t), (1, .int x1), (2, .int x2), (4, .int x4)]) (v := (x5 + 1)) g 4 dX11_laysTree_189 rfl (by rw [kI_1]) hn (Nat.le_of_ble_eq_true rfl) rfl
 (x_goto g 158 dX11_laysTree_192 rfl
 (x_sub [1, 2, 3, 4, 0] rfl (ih (x5 + 1) M19))))) (fun J20 hJ20 => (x_icmp_ne g 189 dX11_laysTree_173 rfl
 (fun _ => (hJ20 M))
 (fun _ => (x_aload_n g 0 dX11_laysTree_176 rfl rfl
 (x_getS g 14 fl_RX11_65 rfl ht dX11_laysTree_177
 (x_iload g 4 dX11_laysTree_180 rfl
 (x_aload_n g 0 dX11_laysTree_182 rfl rfl
 (x_getS g 14 fl_RX11_65 rfl ht dX11_laysTree_183
 (x_iload_n g 2 dX11_laysTree_186 rfl rfl
 (x_iald g (so_11_29 ht) dX11_laysTree_187
 (x_iast g (so_11_29 ht) dX11_laysTree_188 (x_nmM (fun M21 =>
 (hJ20 M21))))))))))))))))))))))))
def lX11_laysTree_32 (φ : Nat) (t : Nat) (x1 : Int32) : Nat → Mem → Option (Unit × Mem)
  | 0, _ => none
  | n + 1, M =>
    if (x1 - (1 : Int32)) ≤ (M.1 t 30) then
 some ((), M)
 else
 lX11_laysTree_49 (fun (v14 : Int32) (v15 : Int32) => ixk (M.1 t 30) 6 (nm (stI M (t + 12) (M.1 t 30).toNatClampNeg v14) (fun M16 =>
 ixk (M16.1 t 30) 6 (nm (stI M16 (t + 13) (M16.1 t 30).toNatClampNeg v15) (fun M17 =>
 ixk v15 6 (
 nm (M17.1 (t + 14) v15.toNatClampNeg) (fun v18 =>
 lX11_laysTree_158 (fun (M22 : Mem) => nm (stI M22 t 30 ((M22.1 t 30) + (1 : Int32))) (fun M23 =>
 lX11_laysTree_32 φ t x1 n M23)) t x1 v14 v18 φ (0 : Int32) M17))))))) φ t x1 M φ (-1 : Int32) (-1 : Int32) (0 : Int32)
theorem lX11_laysTree_32_s (φ : Nat) (t : Nat) (x1 : Int32) (n : Nat) (M : Mem) : lX11_laysTree_32 φ t x1 (n + 1) M =
    if (x1 - (1 : Int32)) ≤ (M.1 t 30) then
 some ((), M)
 else
 lX11_laysTree_49 (fun (v14 : Int32) (v15 : Int32) => ixk (M.1 t 30) 6 (nm (stI M (t + 12) (M.1 t 30).toNatClampNeg v14) (fun M16 =>
 ixk (M16.1 t 30) 6 (nm (stI M16 (t + 13) (M16.1 t 30).toNatClampNeg v15) (fun M17 =>
 ixk v15 6 (
 nm (M17.1 (t + 14) v15.toNatClampNeg) (fun v18 =>
 lX11_laysTree_158 (fun (M22 : Mem) => nm (stI M22 t 30 ((M22.1 t 30) + (1 : Int32))) (fun M23 =>
 lX11_laysTree_32 φ t x1 n M23)) t x1 v14 v18 φ (0 : Int32) M17))))))) φ t x1 M φ (-1 : Int32) (-1 : Int32) (0 : Int32) := rfl
theorem lX11_laysTree_32_0 (φ : Nat) (t : Nat) (x1 : Int32) (M : Mem) : lX11_laysTree_32 φ t x1 0 M = none := rfl
set_option maxRecDepth 100000 in
set_option maxHeartbeats 4000000 in
theorem wlX11_laysTree_32 {J : JT} (g : Gd J cX11_laysTree RX11) (hr : Rt J none) (hR : (JR J).frames = 2 ∧ (JR J).locals = 44) (hn : Jn J = 6) (φ : Nat) (t : Nat) (x1 : Int32) (ht : isO 11 t) : ∀ (n : Nat) (M : Mem), X J (fun q : Unit × Mem => ((none : Option Value), q.2)) (lX11_laysTree_32 φ t x1 n M) 32 [(0, .ref t), (1, .int x1)] [] M := by
  intro n
  induction n with
  | zero =>
    intro M
    exact x_none
  | succ n ih =>
    intro M
    rw [lX11_laysTree_32_s]
    exact (x_aload_n g 0 dX11_laysTree_32 rfl rfl
 (x_getI g fl_RX11_336 rfl ht dX11_laysTree_33
 (x_iload_n g 1 dX11_laysTree_36 rfl rfl
 (x_iconst g dX11_laysTree_37 kI_1
 (x_isub g dX11_laysTree_38
 (x_icmp_ge g 208 dX11_laysTree_39 rfl
 (fun _ => (x_vret g hr rfl dX11_laysTree_208))
 (fun _ => (x_iconst g dX11_laysTree_42 kI_m1
 (x_istore_n (L' := [(2, .int (-1 : Int32)), (0, .ref t), (1, .int x1)]) g dX11_laysTree_43 rfl hn (Nat.le_of_ble_eq_true rfl) rfl
 (x_iconst g dX11_laysTree_44 kI_m1
 (x_istore_n (L' := [(3, .int (-1 : Int32)), (2, .int (-1 : Int32)), (0, .ref t), (1, .int x1)]) g dX11_laysTree_45 rfl hn (Nat.le_of_ble_eq_true rfl) rfl
 (x_iconst g dX11_laysTree_46 kI_0
 (x_istore (L' := [(4, .int (0 : Int32)), (3, .int (-1 : Int32)), (2, .int (-1 : Int32)), (0, .ref t), (1, .int x1)]) g dX11_laysTree_47 hn (Nat.le_of_ble_eq_true rfl) rfl
 (x_sub [3, 4, 2, 1, 0] rfl (wlX11_laysTree_49 g hr hR hn _ φ t x1 M ht
 (fun v14 v15 => by exact (x_aload_n g 0 dX11_laysTree_127 rfl rfl
 (x_getS g 12 fl_RX11_59 rfl ht dX11_laysTree_128
 (x_aload_n g 0 dX11_laysTree_131 rfl rfl
 (x_getI g fl_RX11_336 rfl ht dX11_laysTree_132
 (x_iload_n g 2 dX11_laysTree_135 rfl rfl
 (x_iast g (so_11_27 ht) dX11_laysTree_136 (x_nmM (fun M16 =>
 (x_aload_n g 0 dX11_laysTree_137 rfl rfl
 (x_getS g 13 fl_RX11_62 rfl ht dX11_laysTree_138
 (x_aload_n g 0 dX11_laysTree_141 rfl rfl
 (x_getI g fl_RX11_336 rfl ht dX11_laysTree_142
 (x_iload_n g 3 dX11_laysTree_145 rfl rfl
 (x_iast g (so_11_28 ht) dX11_laysTree_146 (x_nmM (fun M17 =>
 (x_aload_n g 0 dX11_laysTree_147 rfl rfl
 (x_getS g 14 fl_RX11_65 rfl ht dX11_laysTree_148
 (x_iload_n g 3 dX11_laysTree_151 rfl rfl
 (x_iald g (so_11_29 ht) dX11_laysTree_152
 (x_nmI (fun v18 => (x_istore (L' := [(4, .int v18), (0, .ref t), (1, .int x1), (2, .int v14), (3, .int v15)]) g dX11_laysTree_153 hn (Nat.le_of_ble_eq_true rfl) rfl
 (x_iconst g dX11_laysTree_155 kI_0
 (x_istore (L' := [(5, .int (0 : Int32)), (4, .int v18), (0, .ref t), (1, .int x1), (2, .int v14), (3, .int v15)]) g dX11_laysTree_156 hn (Nat.le_of_ble_eq_true rfl) rfl
 (x_sub [2, 3, 4, 1, 0] rfl (wlX11_laysTree_158 g hr hR hn _ t x1 v14 v18 ht
 (fun M22 => by exact (x_aload_n g 0 dX11_laysTree_195 rfl rfl
 (x_dup g dX11_laysTree_196 rfl
 (x_getI g fl_RX11_336 rfl ht dX11_laysTree_197
 (x_iconst g dX11_laysTree_200 kI_1
 (x_iadd g dX11_laysTree_201
 (x_putI g fp_RX11_336 rfl (Nat.le_of_ble_eq_true rfl) ht dX11_laysTree_202 (x_nmM (fun M23 =>
 (x_goto g 32 dX11_laysTree_205 rfl
 (ih M23))))))))))) φ (0 : Int32) M17)))))))))))))))))))))))))))) φ (-1 : Int32) (-1 : Int32) (0 : Int32))))))))))))))))
def fX11_laysTree (φ : Nat) (t : Nat) (M : Mem) : Option (Unit × Mem) :=
  ixk (1 : Int32) 3900 (
 nm (M.1 (t + 1) (1 : Int32).toNatClampNeg) (fun v1 =>
 lX11_laysTree_9 (fun (M3 : Mem) => nm (stI M3 t 30 (0 : Int32)) (fun M4 =>
 lX11_laysTree_32 φ t v1 φ M4)) t v1 φ (0 : Int32) M))
set_option maxRecDepth 100000 in
set_option maxHeartbeats 4000000 in
theorem kX11_laysTree (φ : Nat) (t : Nat) (M : Mem) (ht : isO 11 t) (l : Launch) (G : GT) {b : (Unit × Mem)} (hE : fX11_laysTree φ t M = some b) : Ok l G yX11_laysTree cX11_laysTree 6 none 2 44 [.ref t] M ((fun q : Unit × Mem => ((none : Option Value), q.2)) b).1 ((fun q : Unit × Mem => ((none : Option Value), q.2)) b).2 := by
  refine Ok.ofX (pj := (fun q : Unit × Mem => ((none : Option Value), q.2))) (by decide) (Nat.le_of_ble_eq_true rfl) hE (fun J g hr hG hl hR hn => ?_)
  show X J (fun q : Unit × Mem => ((none : Option Value), q.2)) (fX11_laysTree φ t M) 0 [(0, .ref t)] [] M
  unfold fX11_laysTree
  exact (x_aload_n g 0 dX11_laysTree_0 rfl rfl
 (x_getS g 1 fl_RX11_7 rfl ht dX11_laysTree_1
 (x_iconst g dX11_laysTree_4 kI_1
 (x_iald g (so_11_0 ht) dX11_laysTree_5
 (x_nmI (fun v1 => (x_istore_n (L' := [(1, .int v1), (0, .ref t)]) g dX11_laysTree_6 rfl hn (Nat.le_of_ble_eq_true rfl) rfl
 (x_iconst g dX11_laysTree_7 kI_0
 (x_istore_n (L' := [(2, .int (0 : Int32)), (1, .int v1), (0, .ref t)]) g dX11_laysTree_8 rfl hn (Nat.le_of_ble_eq_true rfl) rfl
 (x_sub [2, 1, 0] rfl (wlX11_laysTree_9 g hr hR hn _ t v1 ht
 (fun M3 => by exact (x_aload_n g 0 dX11_laysTree_27 rfl rfl
 (x_iconst g dX11_laysTree_28 kI_0
 (x_putI g fp_RX11_336 rfl (Nat.le_of_ble_eq_true rfl) ht dX11_laysTree_29 (x_nmM (fun M4 =>
 (wlX11_laysTree_32 g hr hR hn  φ t v1 ht φ M4))))))) φ (0 : Int32) M)))))))))))
def fX11_tree (φ : Nat) (t : Nat) (a1 : Int32) (a2 : Int32) (M : Mem) : Option (Int32 × Mem) :=
  if a2 < 0 then
 bd (fX11_refuse t (1 : Int32) M) fun v1 M2 =>
 some (v1, M2)
 else
 if a2 ≤ (2 : Int32) then
 bd (fX11_laysTree φ t M) fun vu3 M4 =>
 if a1 < 0 then
 bd (fX11_refuse t (6 : Int32) M4) fun v5 M6 =>
 some (v5, M6)
 else
 if a1 < (M4.1 t 30) then
 if a2 = 0 then
 ixk a1 6 (
 bd (fX11_gives t (M4.1 (t + 12) a1.toNatClampNeg) M4) fun v12 M13 =>
 some (v12, M13))
 else
 if a2 = (1 : Int32) then
 ixk a1 6 (
 bd (fX11_gives t (M4.1 (t + 13) a1.toNatClampNeg) M4) fun v10 M11 =>
 some (v10, M11))
 else
 ixk a1 6 (
 ixk a1 6 (
 (fX11_square t (M4.1 (t + 12) a1.toNatClampNeg) (M4.1 (t + 13) a1.toNatClampNeg) M4).bind fun v7 =>
 bd (fX11_gives t v7 M4) fun v8 M9 =>
 some (v8, M9)))
 else
 bd (fX11_refuse t (6 : Int32) M4) fun v14 M15 =>
 some (v14, M15)
 else
 bd (fX11_refuse t (1 : Int32) M) fun v16 M17 =>
 some (v16, M17)
set_option maxRecDepth 100000 in
set_option maxHeartbeats 4000000 in
theorem kX11_tree (φ : Nat) (t : Nat) (a1 : Int32) (a2 : Int32) (M : Mem) (ht : isO 11 t) (l : Launch) (G : GT) {b : (Int32 × Mem)} (hE : fX11_tree φ t a1 a2 M = some b) : Ok l G yX11_tree cX11_tree 3 (some .int) 3 69 [.ref t, .int a1, .int a2] M ((fun q : Int32 × Mem => (some (Value.int q.1), q.2)) b).1 ((fun q : Int32 × Mem => (some (Value.int q.1), q.2)) b).2 := by
  refine Ok.ofX (pj := (fun q : Int32 × Mem => (some (Value.int q.1), q.2))) (by decide) (Nat.le_of_ble_eq_true rfl) hE (fun J g hr hG hl hR hn => ?_)
  show X J (fun q : Int32 × Mem => (some (Value.int q.1), q.2)) (fX11_tree φ t a1 a2 M) 0 [(0, .ref t), (1, .int a1), (2, .int a2)] [] M
  unfold fX11_tree
  exact (x_iload_n g 2 dX11_tree_0 rfl rfl
 (x_if_lt g 9 dX11_tree_1 rfl
 (fun _ => (x_aload_n g 0 dX11_tree_9 rfl rfl
 (x_iconst g dX11_tree_10 kI_1
 (x_callVi (As := [.int (1 : Int32)]) g mv_X11_refuse mi_X11_refuse lk_RX11_102 ht (fun b Mh_ hb => kX11_refuse t (1 : Int32) M ht _ _ hb) rfl rfl hR ⟨Nat.le_of_ble_eq_true rfl, Nat.le_of_ble_eq_true rfl⟩ (Nat.le_of_ble_eq_true rfl) dX11_tree_11 (fun v1 M2 =>
 (x_iret g hr rfl rfl dX11_tree_14))))))
 (fun _ => (x_iload_n g 2 dX11_tree_4 rfl rfl
 (x_iconst g dX11_tree_5 kI_2
 (x_icmp_le g 15 dX11_tree_6 rfl
 (fun _ => (x_aload_n g 0 dX11_tree_15 rfl rfl
 (x_callVv (As := []) g mv_X11_laysTree mi_X11_laysTree lk_RX11_342 ht (fun b Mh_ hb => kX11_laysTree φ t M ht _ _ hb) rfl rfl hR ⟨Nat.le_of_ble_eq_true rfl, Nat.le_of_ble_eq_true rfl⟩ (Nat.le_of_ble_eq_true rfl) dX11_tree_16 (fun vu3 M4 =>
 (x_iload_n g 1 dX11_tree_19 rfl rfl
 (x_if_lt g 31 dX11_tree_20 rfl
 (fun _ => (x_aload_n g 0 dX11_tree_31 rfl rfl
 (x_bipush g dX11_tree_32 kB_6
 (x_callVi (As := [.int (6 : Int32)]) g mv_X11_refuse mi_X11_refuse lk_RX11_102 ht (fun b Mh_ hb => kX11_refuse t (6 : Int32) M4 ht _ _ hb) rfl rfl hR ⟨Nat.le_of_ble_eq_true rfl, Nat.le_of_ble_eq_true rfl⟩ (Nat.le_of_ble_eq_true rfl) dX11_tree_34 (fun v5 M6 =>
 (x_iret g hr rfl rfl dX11_tree_37))))))
 (fun _ => (x_iload_n g 1 dX11_tree_23 rfl rfl
 (x_aload_n g 0 dX11_tree_24 rfl rfl
 (x_getI g fl_RX11_336 rfl ht dX11_tree_25
 (x_icmp_lt g 38 dX11_tree_28 rfl
 (fun _ => (x_aload_n g 0 dX11_tree_38 rfl rfl
 (x_iload_n g 2 dX11_tree_39 rfl rfl
 (x_if_ne g 52 dX11_tree_40 rfl
 (fun _ => (x_iload_n g 2 dX11_tree_52 rfl rfl
 (x_iconst g dX11_tree_53 kI_1
 (x_icmp_ne g 66 dX11_tree_54 rfl
 (fun _ => (x_aload_n g 0 dX11_tree_66 rfl rfl
 (x_aload_n g 0 dX11_tree_67 rfl rfl
 (x_getS g 12 fl_RX11_59 rfl ht dX11_tree_68
 (x_iload_n g 1 dX11_tree_71 rfl rfl
 (x_iald g (so_11_27 ht) dX11_tree_72
 (x_aload_n g 0 dX11_tree_73 rfl rfl
 (x_getS g 13 fl_RX11_62 rfl ht dX11_tree_74
 (x_iload_n g 1 dX11_tree_77 rfl rfl
 (x_iald g (so_11_28 ht) dX11_tree_78
 (x_callVip (As := [.int (M4.1 (t + 12) a1.toNatClampNeg), .int (M4.1 (t + 13) a1.toNatClampNeg)]) g mv_X11_square mi_X11_square lk_RX11_339 ht (fun b hb => kX11_square t (M4.1 (t + 12) a1.toNatClampNeg) (M4.1 (t + 13) a1.toNatClampNeg) M4 ht _ _ hb) rfl rfl hR ⟨Nat.le_of_ble_eq_true rfl, Nat.le_of_ble_eq_true rfl⟩ (Nat.le_of_ble_eq_true rfl) dX11_tree_79 (fun v7 =>
 (x_callVi (As := [.int v7]) g mv_X11_gives mi_X11_gives lk_RX11_106 ht (fun b Mh_ hb => kX11_gives t v7 M4 ht _ _ hb) rfl rfl hR ⟨Nat.le_of_ble_eq_true rfl, Nat.le_of_ble_eq_true rfl⟩ (Nat.le_of_ble_eq_true rfl) dX11_tree_82 (fun v8 M9 =>
 (x_iret g hr rfl rfl dX11_tree_85)))))))))))))))
 (fun _ => (x_aload_n g 0 dX11_tree_57 rfl rfl
 (x_getS g 13 fl_RX11_62 rfl ht dX11_tree_58
 (x_iload_n g 1 dX11_tree_61 rfl rfl
 (x_iald g (so_11_28 ht) dX11_tree_62
 (x_goto g 82 dX11_tree_63 rfl
 (x_callVi (As := [.int (M4.1 (t + 13) a1.toNatClampNeg)]) g mv_X11_gives mi_X11_gives lk_RX11_106 ht (fun b Mh_ hb => kX11_gives t (M4.1 (t + 13) a1.toNatClampNeg) M4 ht _ _ hb) rfl rfl hR ⟨Nat.le_of_ble_eq_true rfl, Nat.le_of_ble_eq_true rfl⟩ (Nat.le_of_ble_eq_true rfl) dX11_tree_82 (fun v10 M11 =>
 (x_iret g hr rfl rfl dX11_tree_85)))))))))))))
 (fun _ => (x_aload_n g 0 dX11_tree_43 rfl rfl
 (x_getS g 12 fl_RX11_59 rfl ht dX11_tree_44
 (x_iload_n g 1 dX11_tree_47 rfl rfl
 (x_iald g (so_11_27 ht) dX11_tree_48
 (x_goto g 82 dX11_tree_49 rfl
 (x_callVi (As := [.int (M4.1 (t + 12) a1.toNatClampNeg)]) g mv_X11_gives mi_X11_gives lk_RX11_106 ht (fun b Mh_ hb => kX11_gives t (M4.1 (t + 12) a1.toNatClampNeg) M4 ht _ _ hb) rfl rfl hR ⟨Nat.le_of_ble_eq_true rfl, Nat.le_of_ble_eq_true rfl⟩ (Nat.le_of_ble_eq_true rfl) dX11_tree_82 (fun v12 M13 =>
 (x_iret g hr rfl rfl dX11_tree_85)))))))))))))
 (fun _ => (x_aload_n g 0 dX11_tree_31 rfl rfl
 (x_bipush g dX11_tree_32 kB_6
 (x_callVi (As := [.int (6 : Int32)]) g mv_X11_refuse mi_X11_refuse lk_RX11_102 ht (fun b Mh_ hb => kX11_refuse t (6 : Int32) M4 ht _ _ hb) rfl rfl hR ⟨Nat.le_of_ble_eq_true rfl, Nat.le_of_ble_eq_true rfl⟩ (Nat.le_of_ble_eq_true rfl) dX11_tree_34 (fun v14 M15 =>
 (x_iret g hr rfl rfl dX11_tree_37)))))))))))))))))
 (fun _ => (x_aload_n g 0 dX11_tree_9 rfl rfl
 (x_iconst g dX11_tree_10 kI_1
 (x_callVi (As := [.int (1 : Int32)]) g mv_X11_refuse mi_X11_refuse lk_RX11_102 ht (fun b Mh_ hb => kX11_refuse t (1 : Int32) M ht _ _ hb) rfl rfl hR ⟨Nat.le_of_ble_eq_true rfl, Nat.le_of_ble_eq_true rfl⟩ (Nat.le_of_ble_eq_true rfl) dX11_tree_11 (fun v16 M17 =>
 (x_iret g hr rfl rfl dX11_tree_14))))))))))))
def lX11_treeCost_8 (φ : Nat) (t : Nat) : Nat → Int32 → Int32 → Mem → Option (Int32 × Mem)
  | 0, _, _, _ => none
  | n + 1, x1, x2, M =>
    if (M.1 t 30) ≤ x2 then
 bd (fX11_gives t x1 M) fun v3 M4 =>
 some (v3, M4)
 else
 ixk x2 6 (
 ixk x2 6 (
 bd (fX11_matches φ t (M.1 (t + 12) x2.toNatClampNeg) (M.1 (t + 13) x2.toNatClampNeg) M) fun v5 M6 =>
 nm (x1 + v5) (fun v7 =>
 lX11_treeCost_8 φ t n v7 (x2 + 1) M6)))
theorem lX11_treeCost_8_s (φ : Nat) (t : Nat) (n : Nat) (x1 : Int32) (x2 : Int32) (M : Mem) : lX11_treeCost_8 φ t (n + 1) x1 x2 M =
    if (M.1 t 30) ≤ x2 then
 bd (fX11_gives t x1 M) fun v3 M4 =>
 some (v3, M4)
 else
 ixk x2 6 (
 ixk x2 6 (
 bd (fX11_matches φ t (M.1 (t + 12) x2.toNatClampNeg) (M.1 (t + 13) x2.toNatClampNeg) M) fun v5 M6 =>
 nm (x1 + v5) (fun v7 =>
 lX11_treeCost_8 φ t n v7 (x2 + 1) M6))) := rfl
theorem lX11_treeCost_8_0 (φ : Nat) (t : Nat) (x1 : Int32) (x2 : Int32) (M : Mem) : lX11_treeCost_8 φ t 0 x1 x2 M = none := rfl
set_option maxRecDepth 100000 in
set_option maxHeartbeats 4000000 in
theorem wlX11_treeCost_8 {J : JT} (g : Gd J cX11_treeCost RX11) (hr : Rt J (some .int)) (hR : (JR J).frames = 4 ∧ (JR J).locals = 93) (hn : Jn J = 3) (φ : Nat) (t : Nat) (ht : isO 11 t) : ∀ (n : Nat) (x1 : Int32) (x2 : Int32) (M : Mem), X J (fun q : Int32 × Mem => (some (Value.int q.1), q.2)) (lX11_treeCost_8 φ t n x1 x2 M) 8 [(0, .ref t), (1, .int x1), (2, .int x2)] [] M := by
  intro n
  induction n with
  | zero =>
    intro x1 x2 M
    exact x_none
  | succ n ih =>
    intro x1 x2 M
    rw [lX11_treeCost_8_s]
    exact (x_iload_n g 2 dX11_treeCost_8 rfl rfl
 (x_aload_n g 0 dX11_treeCost_9 rfl rfl
 (x_getI g fl_RX11_336 rfl ht dX11_treeCost_10
 (x_icmp_ge g 41 dX11_treeCost_13 rfl
 (fun _ => (x_aload_n g 0 dX11_treeCost_41 rfl rfl
 (x_iload_n g 1 dX11_treeCost_42 rfl rfl
 (x_callVi (As := [.int x1]) g mv_X11_gives mi_X11_gives lk_RX11_106 ht (fun b Mh_ hb => kX11_gives t x1 M ht _ _ hb) rfl rfl hR ⟨Nat.le_of_ble_eq_true rfl, Nat.le_of_ble_eq_true rfl⟩ (Nat.le_of_ble_eq_true rfl) dX11_treeCost_43 (fun v3 M4 =>
 (x_iret g hr rfl rfl dX11_treeCost_46))))))
 (fun _ => (x_iload_n g 1 dX11_treeCost_16 rfl rfl
 (x_aload_n g 0 dX11_treeCost_17 rfl rfl
 (x_aload_n g 0 dX11_treeCost_18 rfl rfl
 (x_getS g 12 fl_RX11_59 rfl ht dX11_treeCost_19
 (x_iload_n g 2 dX11_treeCost_22 rfl rfl
 (x_iald g (so_11_27 ht) dX11_treeCost_23
 (x_aload_n g 0 dX11_treeCost_24 rfl rfl
 (x_getS g 13 fl_RX11_62 rfl ht dX11_treeCost_25
 (x_iload_n g 2 dX11_treeCost_28 rfl rfl
 (x_iald g (so_11_28 ht) dX11_treeCost_29
 (x_callVi (As := [.int (M.1 (t + 12) x2.toNatClampNeg), .int (M.1 (t + 13) x2.toNatClampNeg)]) g mv_X11_matches mi_X11_matches lk_RX11_330 ht (fun b Mh_ hb => kX11_matches φ t (M.1 (t + 12) x2.toNatClampNeg) (M.1 (t + 13) x2.toNatClampNeg) M ht _ _ hb) rfl rfl hR ⟨Nat.le_of_ble_eq_true rfl, Nat.le_of_ble_eq_true rfl⟩ (Nat.le_of_ble_eq_true rfl) dX11_treeCost_30 (fun v5 M6 =>
 (x_iadd g dX11_treeCost_33
 (x_nmI (fun v7 => (x_istore_n (L' := [(1, .int v7), (0, .ref t), (2, .int x2)]) g dX11_treeCost_34 rfl hn (Nat.le_of_ble_eq_true rfl) rfl
 (x_iinc (L' := [(2, .int (x2 + 1)), (1, .int v7), (0, .ref t)]) (v := (x2 + 1)) g 2 dX11_treeCost_35 rfl (by rw [kI_1]) hn (Nat.le_of_ble_eq_true rfl) rfl
 (x_goto g 8 dX11_treeCost_38 rfl
 (x_sub [2, 1, 0] rfl (ih v7 (x2 + 1) M6)))))))))))))))))))))))))
def fX11_treeCost (φ : Nat) (t : Nat) (M : Mem) : Option (Int32 × Mem) :=
  bd (fX11_laysTree φ t M) fun vu1 M2 =>
 lX11_treeCost_8 φ t φ (0 : Int32) (0 : Int32) M2
set_option maxRecDepth 100000 in
set_option maxHeartbeats 4000000 in
theorem kX11_treeCost (φ : Nat) (t : Nat) (M : Mem) (ht : isO 11 t) (l : Launch) (G : GT) {b : (Int32 × Mem)} (hE : fX11_treeCost φ t M = some b) : Ok l G yX11_treeCost cX11_treeCost 3 (some .int) 4 93 [.ref t] M ((fun q : Int32 × Mem => (some (Value.int q.1), q.2)) b).1 ((fun q : Int32 × Mem => (some (Value.int q.1), q.2)) b).2 := by
  refine Ok.ofX (pj := (fun q : Int32 × Mem => (some (Value.int q.1), q.2))) (by decide) (Nat.le_of_ble_eq_true rfl) hE (fun J g hr hG hl hR hn => ?_)
  show X J (fun q : Int32 × Mem => (some (Value.int q.1), q.2)) (fX11_treeCost φ t M) 0 [(0, .ref t)] [] M
  unfold fX11_treeCost
  exact (x_aload_n g 0 dX11_treeCost_0 rfl rfl
 (x_callVv (As := []) g mv_X11_laysTree mi_X11_laysTree lk_RX11_342 ht (fun b Mh_ hb => kX11_laysTree φ t M ht _ _ hb) rfl rfl hR ⟨Nat.le_of_ble_eq_true rfl, Nat.le_of_ble_eq_true rfl⟩ (Nat.le_of_ble_eq_true rfl) dX11_treeCost_1 (fun vu1 M2 =>
 (x_iconst g dX11_treeCost_4 kI_0
 (x_istore_n (L' := [(1, .int (0 : Int32)), (0, .ref t)]) g dX11_treeCost_5 rfl hn (Nat.le_of_ble_eq_true rfl) rfl
 (x_iconst g dX11_treeCost_6 kI_0
 (x_istore_n (L' := [(2, .int (0 : Int32)), (1, .int (0 : Int32)), (0, .ref t)]) g dX11_treeCost_7 rfl hn (Nat.le_of_ble_eq_true rfl) rfl
 (x_sub [2, 1, 0] rfl (wlX11_treeCost_8 g hr hR hn  φ t ht φ (0 : Int32) (0 : Int32) M2)))))))))
def lX11_laysBeds_6 (K25 : Mem → Option (Unit × Mem)) (t : Nat) : Nat → Int32 → Mem → Option (Unit × Mem)
  | 0, _, _ => none
  | n + 1, x1, M =>
    if (72 : Int32) ≤ x1 then
 K25 M
 else
 ixk x1 72 (nm (stI M (t + 15) x1.toNatClampNeg x1) (fun M3 =>
 lX11_laysBeds_6 K25 t n (x1 + 1) M3))
theorem lX11_laysBeds_6_s (K25 : Mem → Option (Unit × Mem)) (t : Nat) (n : Nat) (x1 : Int32) (M : Mem) : lX11_laysBeds_6 K25 t (n + 1) x1 M =
    if (72 : Int32) ≤ x1 then
 K25 M
 else
 ixk x1 72 (nm (stI M (t + 15) x1.toNatClampNeg x1) (fun M3 =>
 lX11_laysBeds_6 K25 t n (x1 + 1) M3)) := rfl
theorem lX11_laysBeds_6_0 (K25 : Mem → Option (Unit × Mem)) (t : Nat) (x1 : Int32) (M : Mem) : lX11_laysBeds_6 K25 t 0 x1 M = none := rfl
set_option maxRecDepth 100000 in
set_option maxHeartbeats 4000000 in
theorem wlX11_laysBeds_6 {J : JT} (g : Gd J cX11_laysBeds RX11) (hr : Rt J none) (hR : (JR J).frames = 4 ∧ (JR J).locals = 93) (hn : Jn J = 6) (K25 : Mem → Option (Unit × Mem)) (t : Nat) (ht : isO 11 t) (hK25 : ∀ (M : Mem), X J (fun q : Unit × Mem => ((none : Option Value), q.2)) (K25 M) 25 [(0, .ref t)] [] M) : ∀ (n : Nat) (x1 : Int32) (M : Mem), X J (fun q : Unit × Mem => ((none : Option Value), q.2)) (lX11_laysBeds_6 K25 t n x1 M) 6 [(0, .ref t), (1, .int x1)] [] M := by
  intro n
  induction n with
  | zero =>
    intro x1 M
    exact x_none
  | succ n ih =>
    intro x1 M
    rw [lX11_laysBeds_6_s]
    exact (x_iload_n g 1 dX11_laysBeds_6 rfl rfl
 (x_bipush g dX11_laysBeds_7 kB_72
 (x_icmp_ge g 25 dX11_laysBeds_9 rfl
 (fun _ => (x_sub [0] rfl (hK25 M)))
 (fun _ => (x_aload_n g 0 dX11_laysBeds_12 rfl rfl
 (x_getS g 15 fl_RX11_68 rfl ht dX11_laysBeds_13
 (x_iload_n g 1 dX11_laysBeds_16 rfl rfl
 (x_iload_n g 1 dX11_laysBeds_17 rfl rfl
 (x_iast g (so_11_31 ht) dX11_laysBeds_18 (x_nmM (fun M3 =>
 (x_iinc (L' := [(1, .int (x1 + 1)), (0, .ref t)]) (v := (x1 + 1)) g 1 dX11_laysBeds_19 rfl (by rw [kI_1]) hn (Nat.le_of_ble_eq_true rfl) rfl
 (x_goto g 6 dX11_laysBeds_22 rfl
 (x_sub [1, 0] rfl (ih (x1 + 1) M3)))))))))))))))
def lX11_laysBeds_124 (K157 : Mem → Option (Unit × Mem)) (t : Nat) (x1 : Int32) (x2 : Int32) (x3 : Int32) (x4 : Int32) : Nat → Int32 → Mem → Option (Unit × Mem)
  | 0, _, _ => none
  | n + 1, x5, M =>
    if (72 : Int32) ≤ x5 then
 K157 M
 else
 ixk x5 72 (
 jn (fun (M12 : Mem) => lX11_laysBeds_124 K157 t x1 x2 x3 x4 n (x5 + 1) M12) (fun J13 => if (M.1 (t + 15) x5.toNatClampNeg) = x4 then
 ixk x5 72 (nm (stI M (t + 15) x5.toNatClampNeg x3) (fun M14 =>
 J13 M14))
 else
 J13 M))
theorem lX11_laysBeds_124_s (K157 : Mem → Option (Unit × Mem)) (t : Nat) (x1 : Int32) (x2 : Int32) (x3 : Int32) (x4 : Int32) (n : Nat) (x5 : Int32) (M : Mem) : lX11_laysBeds_124 K157 t x1 x2 x3 x4 (n + 1) x5 M =
    if (72 : Int32) ≤ x5 then
 K157 M
 else
 ixk x5 72 (
 jn (fun (M12 : Mem) => lX11_laysBeds_124 K157 t x1 x2 x3 x4 n (x5 + 1) M12) (fun J13 => if (M.1 (t + 15) x5.toNatClampNeg) = x4 then
 ixk x5 72 (nm (stI M (t + 15) x5.toNatClampNeg x3) (fun M14 =>
 J13 M14))
 else
 J13 M)) := rfl
theorem lX11_laysBeds_124_0 (K157 : Mem → Option (Unit × Mem)) (t : Nat) (x1 : Int32) (x2 : Int32) (x3 : Int32) (x4 : Int32) (x5 : Int32) (M : Mem) : lX11_laysBeds_124 K157 t x1 x2 x3 x4 0 x5 M = none := rfl
set_option maxRecDepth 100000 in
set_option maxHeartbeats 4000000 in
theorem wlX11_laysBeds_124 {J : JT} (g : Gd J cX11_laysBeds RX11) (hr : Rt J none) (hR : (JR J).frames = 4 ∧ (JR J).locals = 93) (hn : Jn J = 6) (K157 : Mem → Option (Unit × Mem)) (t : Nat) (x1 : Int32) (x2 : Int32) (x3 : Int32) (x4 : Int32) (ht : isO 11 t) (hK157 : ∀ (M : Mem), X J (fun q : Unit × Mem => ((none : Option Value), q.2)) (K157 M) 157 [(0, .ref t), (1, .int x1), (2, .int x2)] [] M) : ∀ (n : Nat) (x5 : Int32) (M : Mem), X J (fun q : Unit × Mem => ((none : Option Value), q.2)) (lX11_laysBeds_124 K157 t x1 x2 x3 x4 n x5 M) 124 [(0, .ref t), (1, .int x1), (2, .int x2), (3, .int x3), (4, .int x4), (5, .int x5)] [] M := by
  intro n
  induction n with
  | zero =>
    intro x5 M
    exact x_none
  | succ n ih =>
    intro x5 M
    rw [lX11_laysBeds_124_s]
    exact (x_iload g 5 dX11_laysBeds_124 rfl
 (x_bipush g dX11_laysBeds_126 kB_72
 (x_icmp_ge g 157 dX11_laysBeds_128 rfl
 (fun _ => (x_sub [0, 1, 2] rfl (hK157 M)))
 (fun _ => (x_aload_n g 0 dX11_laysBeds_131 rfl rfl
 (x_getS g 15 fl_RX11_68 rfl ht dX11_laysBeds_132
 (x_iload g 5 dX11_laysBeds_135 rfl
 (x_iald g (so_11_31 ht) dX11_laysBeds_137
 (x_iload g 4 dX11_laysBeds_138 rfl
 (x_jn (fun (J13 : Mem → Option (Unit × Mem)) => ∀ (M12 : Mem), X J (fun q : Unit × Mem => ((none : Option Value), q.2)) (J13 M12) 151 [(0, .ref t), (1, .int x1), (2, .int x2), (3, .int x3), (4, .int x4), (5, .int x5)] [] M12) (fun M12 => (x_iinc (L' := [(5, .int (x5 + 1)), (0, .ref t), (1, .int x1), (2, .int x2), (3, .int x3), (4, .int x4)]) (v := (x5 + 1)) g 5 dX11_laysBeds_151 rfl (by rw [kI_1]) hn (Nat.le_of_ble_eq_true rfl) rfl
 (x_goto g 124 dX11_laysBeds_154 rfl
 (x_sub [1, 2, 3, 4, 5, 0] rfl (ih (x5 + 1) M12))))) (fun J13 hJ13 => (x_icmp_ne g 151 dX11_laysBeds_140 rfl
 (fun _ => (hJ13 M))
 (fun _ => (x_aload_n g 0 dX11_laysBeds_143 rfl rfl
 (x_getS g 15 fl_RX11_68 rfl ht dX11_laysBeds_144
 (x_iload g 5 dX11_laysBeds_147 rfl
 (x_iload_n g 3 dX11_laysBeds_149 rfl rfl
 (x_iast g (so_11_31 ht) dX11_laysBeds_150 (x_nmM (fun M14 =>
 (hJ13 M14)))))))))))))))))))))
def lX11_laysBeds_54 (K163 : Mem → Option (Unit × Mem)) (φ : Nat) (t : Nat) (x1 : Int32) : Nat → Int32 → Mem → Option (Unit × Mem)
  | 0, _, _ => none
  | n + 1, x2, M =>
    ixk x1 6 (
 (fX11_layersOf t (M.1 (t + 12) x1.toNatClampNeg) M).bind fun v7 =>
 if v7 ≤ x2 then
 K163 M
 else
 ixk x2 12 (
 jn (fun (M8 : Mem) => lX11_laysBeds_54 K163 φ t x1 n (x2 + 1) M8) (fun J9 => if (M.1 (t + 10) x2.toNatClampNeg) = (-1 : Int32) then
 J9 M
 else
 ixk x1 6 (
 ixk (((12 : Int32) * (M.1 (t + 12) x1.toNatClampNeg)) + x2) 72 (
 nm (M.1 (t + 15) (((12 : Int32) * (M.1 (t + 12) x1.toNatClampNeg)) + x2).toNatClampNeg) (fun v10 =>
 ixk x1 6 (
 ixk x2 12 (
 ixk (((12 : Int32) * (M.1 (t + 13) x1.toNatClampNeg)) + (M.1 (t + 10) x2.toNatClampNeg)) 72 (
 nm (M.1 (t + 15) (((12 : Int32) * (M.1 (t + 13) x1.toNatClampNeg)) + (M.1 (t + 10) x2.toNatClampNeg)).toNatClampNeg) (fun v11 =>
 lX11_laysBeds_124 (fun (M15 : Mem) => J9 M15) t x1 x2 v10 v11 φ (0 : Int32) M))))))))))
theorem lX11_laysBeds_54_s (K163 : Mem → Option (Unit × Mem)) (φ : Nat) (t : Nat) (x1 : Int32) (n : Nat) (x2 : Int32) (M : Mem) : lX11_laysBeds_54 K163 φ t x1 (n + 1) x2 M =
    ixk x1 6 (
 (fX11_layersOf t (M.1 (t + 12) x1.toNatClampNeg) M).bind fun v7 =>
 if v7 ≤ x2 then
 K163 M
 else
 ixk x2 12 (
 jn (fun (M8 : Mem) => lX11_laysBeds_54 K163 φ t x1 n (x2 + 1) M8) (fun J9 => if (M.1 (t + 10) x2.toNatClampNeg) = (-1 : Int32) then
 J9 M
 else
 ixk x1 6 (
 ixk (((12 : Int32) * (M.1 (t + 12) x1.toNatClampNeg)) + x2) 72 (
 nm (M.1 (t + 15) (((12 : Int32) * (M.1 (t + 12) x1.toNatClampNeg)) + x2).toNatClampNeg) (fun v10 =>
 ixk x1 6 (
 ixk x2 12 (
 ixk (((12 : Int32) * (M.1 (t + 13) x1.toNatClampNeg)) + (M.1 (t + 10) x2.toNatClampNeg)) 72 (
 nm (M.1 (t + 15) (((12 : Int32) * (M.1 (t + 13) x1.toNatClampNeg)) + (M.1 (t + 10) x2.toNatClampNeg)).toNatClampNeg) (fun v11 =>
 lX11_laysBeds_124 (fun (M15 : Mem) => J9 M15) t x1 x2 v10 v11 φ (0 : Int32) M)))))))))) := rfl
theorem lX11_laysBeds_54_0 (K163 : Mem → Option (Unit × Mem)) (φ : Nat) (t : Nat) (x1 : Int32) (x2 : Int32) (M : Mem) : lX11_laysBeds_54 K163 φ t x1 0 x2 M = none := rfl
set_option maxRecDepth 100000 in
set_option maxHeartbeats 4000000 in
theorem wlX11_laysBeds_54 {J : JT} (g : Gd J cX11_laysBeds RX11) (hr : Rt J none) (hR : (JR J).frames = 4 ∧ (JR J).locals = 93) (hn : Jn J = 6) (K163 : Mem → Option (Unit × Mem)) (φ : Nat) (t : Nat) (x1 : Int32) (ht : isO 11 t) (hK163 : ∀ (M : Mem), X J (fun q : Unit × Mem => ((none : Option Value), q.2)) (K163 M) 163 [(0, .ref t), (1, .int x1)] [] M) : ∀ (n : Nat) (x2 : Int32) (M : Mem), X J (fun q : Unit × Mem => ((none : Option Value), q.2)) (lX11_laysBeds_54 K163 φ t x1 n x2 M) 54 [(0, .ref t), (1, .int x1), (2, .int x2)] [] M := by
  intro n
  induction n with
  | zero =>
    intro x2 M
    exact x_none
  | succ n ih =>
    intro x2 M
    rw [lX11_laysBeds_54_s]
    exact (x_iload_n g 2 dX11_laysBeds_54 rfl rfl
 (x_aload_n g 0 dX11_laysBeds_55 rfl rfl
 (x_aload_n g 0 dX11_laysBeds_56 rfl rfl
 (x_getS g 12 fl_RX11_59 rfl ht dX11_laysBeds_57
 (x_iload_n g 1 dX11_laysBeds_60 rfl rfl
 (x_iald g (so_11_27 ht) dX11_laysBeds_61
 (x_callVip (As := [.int (M.1 (t + 12) x1.toNatClampNeg)]) g mv_X11_layersOf mi_X11_layersOf lk_RX11_305 ht (fun b hb => kX11_layersOf t (M.1 (t + 12) x1.toNatClampNeg) M ht _ _ hb) rfl rfl hR ⟨Nat.le_of_ble_eq_true rfl, Nat.le_of_ble_eq_true rfl⟩ (Nat.le_of_ble_eq_true rfl) dX11_laysBeds_62 (fun v7 =>
 (x_icmp_ge g 163 dX11_laysBeds_65 rfl
 (fun _ => (x_sub [0, 1] rfl (hK163 M)))
 (fun _ => (x_aload_n g 0 dX11_laysBeds_68 rfl rfl
 (x_getS g 10 fl_RX11_50 rfl ht dX11_laysBeds_69
 (x_iload_n g 2 dX11_laysBeds_72 rfl rfl
 (x_iald g (so_11_24 ht) dX11_laysBeds_73
 (x_iconst g dX11_laysBeds_74 kI_m1
 (x_jn (fun (J9 : Mem → Option (Unit × Mem)) => ∀ (M8 : Mem), X J (fun q : Unit × Mem => ((none : Option Value), q.2)) (J9 M8) 157 [(0, .ref t), (1, .int x1), (2, .int x2)] [] M8) (fun M8 => (x_iinc (L' := [(2, .int (x2 + 1)), (0, .ref t), (1, .int x1)]) (v := (x2 + 1)) g 2 dX11_laysBeds_157 rfl (by rw [kI_1]) hn (Nat.le_of_ble_eq_true rfl) rfl
 (x_goto g 54 dX11_laysBeds_160 rfl
 (x_sub [1, 2, 0] rfl (ih (x2 + 1) M8))))) (fun J9 hJ9 => (x_icmp_ne g 81 dX11_laysBeds_75 rfl
 (fun _ => (x_aload_n g 0 dX11_laysBeds_81 rfl rfl
 (x_getS g 15 fl_RX11_68 rfl ht dX11_laysBeds_82
 (x_bipush g dX11_laysBeds_85 kB_12
 (x_aload_n g 0 dX11_laysBeds_87 rfl rfl
 (x_getS g 12 fl_RX11_59 rfl ht dX11_laysBeds_88
 (x_iload_n g 1 dX11_laysBeds_91 rfl rfl
 (x_iald g (so_11_27 ht) dX11_laysBeds_92
 (x_imul g dX11_laysBeds_93
 (x_iload_n g 2 dX11_laysBeds_94 rfl rfl
 (x_iadd g dX11_laysBeds_95
 (x_iald g (so_11_31 ht) dX11_laysBeds_96
 (x_nmI (fun v10 => (x_istore_n (L' := [(3, .int v10), (0, .ref t), (1, .int x1), (2, .int x2)]) g dX11_laysBeds_97 rfl hn (Nat.le_of_ble_eq_true rfl) rfl
 (x_aload_n g 1 dX11_laysBeds_98 rfl rfl
 (x_getS g 15 fl_RX11_68 rfl ht dX11_laysBeds_99
 (x_bipush g dX11_laysBeds_102 kB_12
 (x_aload_n g 1 dX11_laysBeds_104 rfl rfl
 (x_getS g 13 fl_RX11_62 rfl ht dX11_laysBeds_105
 (x_iload_n g 2 dX11_laysBeds_108 rfl rfl
 (x_iald g (so_11_28 ht) dX11_laysBeds_109
 (x_imul g dX11_laysBeds_110
 (x_aload_n g 1 dX11_laysBeds_111 rfl rfl
 (x_getS g 10 fl_RX11_50 rfl ht dX11_laysBeds_112
 (x_iload_n g 3 dX11_laysBeds_115 rfl rfl
 (x_iald g (so_11_24 ht) dX11_laysBeds_116
 (x_iadd g dX11_laysBeds_117
 (x_iald g (so_11_31 ht) dX11_laysBeds_118
 (x_nmI (fun v11 => (x_istore (L' := [(4, .int v11), (3, .int v10), (0, .ref t), (1, .int x1), (2, .int x2)]) g dX11_laysBeds_119 hn (Nat.le_of_ble_eq_true rfl) rfl
 (x_iconst g dX11_laysBeds_121 kI_0
 (x_istore (L' := [(5, .int (0 : Int32)), (4, .int v11), (3, .int v10), (0, .ref t), (1, .int x1), (2, .int x2)]) g dX11_laysBeds_122 hn (Nat.le_of_ble_eq_true rfl) rfl
 (x_sub [3, 4, 5, 2, 1, 0] rfl (wlX11_laysBeds_124 g hr hR hn _ t x1 x2 v10 v11 ht
 (fun M15 => by exact (hJ9 M15)) φ (0 : Int32) M))))))))))))))))))))))))))))))))))))
 (fun _ => (x_goto g 157 dX11_laysBeds_78 rfl
 (hJ9 M)))))))))))))))))))))
def lX11_laysBeds_27 (K169 : Mem → Option (Unit × Mem)) (φ : Nat) (t : Nat) : Nat → Int32 → Mem → Option (Unit × Mem)
  | 0, _, _ => none
  | n + 1, x1, M =>
    if (M.1 t 30) ≤ x1 then
 K169 M
 else
 ixk x1 6 (
 ixk x1 6 (
 bd (fX11_matches φ t (M.1 (t + 12) x1.toNatClampNeg) (M.1 (t + 13) x1.toNatClampNeg) M) fun v5 M6 =>
 lX11_laysBeds_54 (fun (M16 : Mem) => lX11_laysBeds_27 K169 φ t n (x1 + 1) M16) φ t x1 φ (0 : Int32) M6))
theorem lX11_laysBeds_27_s (K169 : Mem → Option (Unit × Mem)) (φ : Nat) (t : Nat) (n : Nat) (x1 : Int32) (M : Mem) : lX11_laysBeds_27 K169 φ t (n + 1) x1 M =
    if (M.1 t 30) ≤ x1 then
 K169 M
 else
 ixk x1 6 (
 ixk x1 6 (
 bd (fX11_matches φ t (M.1 (t + 12) x1.toNatClampNeg) (M.1 (t + 13) x1.toNatClampNeg) M) fun v5 M6 =>
 lX11_laysBeds_54 (fun (M16 : Mem) => lX11_laysBeds_27 K169 φ t n (x1 + 1) M16) φ t x1 φ (0 : Int32) M6)) := rfl
theorem lX11_laysBeds_27_0 (K169 : Mem → Option (Unit × Mem)) (φ : Nat) (t : Nat) (x1 : Int32) (M : Mem) : lX11_laysBeds_27 K169 φ t 0 x1 M = none := rfl
set_option maxRecDepth 100000 in
set_option maxHeartbeats 4000000 in
theorem wlX11_laysBeds_27 {J : JT} (g : Gd J cX11_laysBeds RX11) (hr : Rt J none) (hR : (JR J).frames = 4 ∧ (JR J).locals = 93) (hn : Jn J = 6) (K169 : Mem → Option (Unit × Mem)) (φ : Nat) (t : Nat) (ht : isO 11 t) (hK169 : ∀ (M : Mem), X J (fun q : Unit × Mem => ((none : Option Value), q.2)) (K169 M) 169 [(0, .ref t)] [] M) : ∀ (n : Nat) (x1 : Int32) (M : Mem), X J (fun q : Unit × Mem => ((none : Option Value), q.2)) (lX11_laysBeds_27 K169 φ t n x1 M) 27 [(0, .ref t), (1, .int x1)] [] M := by
  intro n
  induction n with
  | zero =>
    intro x1 M
    exact x_none
  | succ n ih =>
    intro x1 M
    rw [lX11_laysBeds_27_s]
    exact (x_iload_n g 1 dX11_laysBeds_27 rfl rfl
 (x_aload_n g 0 dX11_laysBeds_28 rfl rfl
 (x_getI g fl_RX11_336 rfl ht dX11_laysBeds_29
 (x_icmp_ge g 169 dX11_laysBeds_32 rfl
 (fun _ => (x_sub [0] rfl (hK169 M)))
 (fun _ => (x_aload_n g 0 dX11_laysBeds_35 rfl rfl
 (x_aload_n g 0 dX11_laysBeds_36 rfl rfl
 (x_getS g 12 fl_RX11_59 rfl ht dX11_laysBeds_37
 (x_iload_n g 1 dX11_laysBeds_40 rfl rfl
 (x_iald g (so_11_27 ht) dX11_laysBeds_41
 (x_aload_n g 0 dX11_laysBeds_42 rfl rfl
 (x_getS g 13 fl_RX11_62 rfl ht dX11_laysBeds_43
 (x_iload_n g 1 dX11_laysBeds_46 rfl rfl
 (x_iald g (so_11_28 ht) dX11_laysBeds_47
 (x_callVi (As := [.int (M.1 (t + 12) x1.toNatClampNeg), .int (M.1 (t + 13) x1.toNatClampNeg)]) g mv_X11_matches mi_X11_matches lk_RX11_330 ht (fun b Mh_ hb => kX11_matches φ t (M.1 (t + 12) x1.toNatClampNeg) (M.1 (t + 13) x1.toNatClampNeg) M ht _ _ hb) rfl rfl hR ⟨Nat.le_of_ble_eq_true rfl, Nat.le_of_ble_eq_true rfl⟩ (Nat.le_of_ble_eq_true rfl) dX11_laysBeds_48 (fun v5 M6 =>
 (x_pop g dX11_laysBeds_51 rfl
 (x_iconst g dX11_laysBeds_52 kI_0
 (x_istore_n (L' := [(2, .int (0 : Int32)), (0, .ref t), (1, .int x1)]) g dX11_laysBeds_53 rfl hn (Nat.le_of_ble_eq_true rfl) rfl
 (x_sub [1, 2, 0] rfl (wlX11_laysBeds_54 g hr hR hn _ φ t x1 ht
 (fun M16 => by exact (x_iinc (L' := [(1, .int (x1 + 1)), (0, .ref t)]) (v := (x1 + 1)) g 1 dX11_laysBeds_163 rfl (by rw [kI_1]) hn (Nat.le_of_ble_eq_true rfl) rfl
 (x_goto g 27 dX11_laysBeds_166 rfl
 (x_sub [1, 0] rfl (ih (x1 + 1) M16))))) φ (0 : Int32) M6)))))))))))))))))))))
def lX11_laysBeds_229 (K265 : Mem → Option (Unit × Mem)) (t : Nat) (x1 : Int32) (x2 : Int32) (x3 : Int32) : Nat → Int32 → Mem → Option (Unit × Mem)
  | 0, _, _ => none
  | n + 1, x4, M =>
    if (72 : Int32) ≤ x4 then
 K265 M
 else
 ixk x4 72 (
 jn (fun (M24 : Mem) => lX11_laysBeds_229 K265 t x1 x2 x3 n (x4 + 1) M24) (fun J25 => if (M.1 (t + 15) x4.toNatClampNeg) = x3 then
 ixk x4 72 (nm (stI M (t + 15) x4.toNatClampNeg (-(M.1 t 32))) (fun M26 =>
 J25 M26))
 else
 J25 M))
theorem lX11_laysBeds_229_s (K265 : Mem → Option (Unit × Mem)) (t : Nat) (x1 : Int32) (x2 : Int32) (x3 : Int32) (n : Nat) (x4 : Int32) (M : Mem) : lX11_laysBeds_229 K265 t x1 x2 x3 (n + 1) x4 M =
    if (72 : Int32) ≤ x4 then
 K265 M
 else
 ixk x4 72 (
 jn (fun (M24 : Mem) => lX11_laysBeds_229 K265 t x1 x2 x3 n (x4 + 1) M24) (fun J25 => if (M.1 (t + 15) x4.toNatClampNeg) = x3 then
 ixk x4 72 (nm (stI M (t + 15) x4.toNatClampNeg (-(M.1 t 32))) (fun M26 =>
 J25 M26))
 else
 J25 M)) := rfl
theorem lX11_laysBeds_229_0 (K265 : Mem → Option (Unit × Mem)) (t : Nat) (x1 : Int32) (x2 : Int32) (x3 : Int32) (x4 : Int32) (M : Mem) : lX11_laysBeds_229 K265 t x1 x2 x3 0 x4 M = none := rfl
set_option maxRecDepth 100000 in
set_option maxHeartbeats 4000000 in
theorem wlX11_laysBeds_229 {J : JT} (g : Gd J cX11_laysBeds RX11) (hr : Rt J none) (hR : (JR J).frames = 4 ∧ (JR J).locals = 93) (hn : Jn J = 6) (K265 : Mem → Option (Unit × Mem)) (t : Nat) (x1 : Int32) (x2 : Int32) (x3 : Int32) (ht : isO 11 t) (hK265 : ∀ (M : Mem), X J (fun q : Unit × Mem => ((none : Option Value), q.2)) (K265 M) 265 [(0, .ref t), (1, .int x1), (2, .int x2)] [] M) : ∀ (n : Nat) (x4 : Int32) (M : Mem), X J (fun q : Unit × Mem => ((none : Option Value), q.2)) (lX11_laysBeds_229 K265 t x1 x2 x3 n x4 M) 229 [(0, .ref t), (1, .int x1), (2, .int x2), (3, .int x3), (4, .int x4)] [] M := by
  intro n
  induction n with
  | zero =>
    intro x4 M
    exact x_none
  | succ n ih =>
    intro x4 M
    rw [lX11_laysBeds_229_s]
    exact (x_iload g 4 dX11_laysBeds_229 rfl
 (x_bipush g dX11_laysBeds_231 kB_72
 (x_icmp_ge g 265 dX11_laysBeds_233 rfl
 (fun _ => (x_sub [0, 1, 2] rfl (hK265 M)))
 (fun _ => (x_aload_n g 0 dX11_laysBeds_236 rfl rfl
 (x_getS g 15 fl_RX11_68 rfl ht dX11_laysBeds_237
 (x_iload g 4 dX11_laysBeds_240 rfl
 (x_iald g (so_11_31 ht) dX11_laysBeds_242
 (x_iload_n g 3 dX11_laysBeds_243 rfl rfl
 (x_jn (fun (J25 : Mem → Option (Unit × Mem)) => ∀ (M24 : Mem), X J (fun q : Unit × Mem => ((none : Option Value), q.2)) (J25 M24) 259 [(0, .ref t), (1, .int x1), (2, .int x2), (3, .int x3), (4, .int x4)] [] M24) (fun M24 => (x_iinc (L' := [(4, .int (x4 + 1)), (0, .ref t), (1, .int x1), (2, .int x2), (3, .int x3)]) (v := (x4 + 1)) g 4 dX11_laysBeds_259 rfl (by rw [kI_1]) hn (Nat.le_of_ble_eq_true rfl) rfl
 (x_goto g 229 dX11_laysBeds_262 rfl
 (x_sub [1, 2, 3, 4, 0] rfl (ih (x4 + 1) M24))))) (fun J25 hJ25 => (x_icmp_ne g 259 dX11_laysBeds_244 rfl
 (fun _ => (hJ25 M))
 (fun _ => (x_aload_n g 0 dX11_laysBeds_247 rfl rfl
 (x_getS g 15 fl_RX11_68 rfl ht dX11_laysBeds_248
 (x_iload g 4 dX11_laysBeds_251 rfl
 (x_aload_n g 0 dX11_laysBeds_253 rfl rfl
 (x_getI g fl_RX11_345 rfl ht dX11_laysBeds_254
 (x_ineg g dX11_laysBeds_257
 (x_iast g (so_11_31 ht) dX11_laysBeds_258 (x_nmM (fun M26 =>
 (hJ25 M26)))))))))))))))))))))))
def lX11_laysBeds_188 (K271 : Mem → Option (Unit × Mem)) (φ : Nat) (t : Nat) (x1 : Int32) : Nat → Int32 → Mem → Option (Unit × Mem)
  | 0, _, _ => none
  | n + 1, x2, M =>
    (fX11_layersOf t x1 M).bind fun v19 =>
 if v19 ≤ x2 then
 K271 M
 else
 ixk (((12 : Int32) * x1) + x2) 72 (
 nm (M.1 (t + 15) (((12 : Int32) * x1) + x2).toNatClampNeg) (fun v20 =>
 jn (fun (M21 : Mem) => lX11_laysBeds_188 K271 φ t x1 n (x2 + 1) M21) (fun J22 => if 0 ≤ v20 then
 nm (stI M t 32 ((M.1 t 32) + (1 : Int32))) (fun M23 =>
 lX11_laysBeds_229 (fun (M27 : Mem) => J22 M27) t x1 x2 v20 φ (0 : Int32) M23)
 else
 J22 M)))
theorem lX11_laysBeds_188_s (K271 : Mem → Option (Unit × Mem)) (φ : Nat) (t : Nat) (x1 : Int32) (n : Nat) (x2 : Int32) (M : Mem) : lX11_laysBeds_188 K271 φ t x1 (n + 1) x2 M =
    (fX11_layersOf t x1 M).bind fun v19 =>
 if v19 ≤ x2 then
 K271 M
 else
 ixk (((12 : Int32) * x1) + x2) 72 (
 nm (M.1 (t + 15) (((12 : Int32) * x1) + x2).toNatClampNeg) (fun v20 =>
 jn (fun (M21 : Mem) => lX11_laysBeds_188 K271 φ t x1 n (x2 + 1) M21) (fun J22 => if 0 ≤ v20 then
 nm (stI M t 32 ((M.1 t 32) + (1 : Int32))) (fun M23 =>
 lX11_laysBeds_229 (fun (M27 : Mem) => J22 M27) t x1 x2 v20 φ (0 : Int32) M23)
 else
 J22 M))) := rfl
theorem lX11_laysBeds_188_0 (K271 : Mem → Option (Unit × Mem)) (φ : Nat) (t : Nat) (x1 : Int32) (x2 : Int32) (M : Mem) : lX11_laysBeds_188 K271 φ t x1 0 x2 M = none := rfl
set_option maxRecDepth 100000 in
set_option maxHeartbeats 4000000 in
theorem wlX11_laysBeds_188 {J : JT} (g : Gd J cX11_laysBeds RX11) (hr : Rt J none) (hR : (JR J).frames = 4 ∧ (JR J).locals = 93) (hn : Jn J = 6) (K271 : Mem → Option (Unit × Mem)) (φ : Nat) (t : Nat) (x1 : Int32) (ht : isO 11 t) (hK271 : ∀ (M : Mem), X J (fun q : Unit × Mem => ((none : Option Value), q.2)) (K271 M) 271 [(0, .ref t), (1, .int x1)] [] M) : ∀ (n : Nat) (x2 : Int32) (M : Mem), X J (fun q : Unit × Mem => ((none : Option Value), q.2)) (lX11_laysBeds_188 K271 φ t x1 n x2 M) 188 [(0, .ref t), (1, .int x1), (2, .int x2)] [] M := by
  intro n
  induction n with
  | zero =>
    intro x2 M
    exact x_none
  | succ n ih =>
    intro x2 M
    rw [lX11_laysBeds_188_s]
    exact (x_iload_n g 2 dX11_laysBeds_188 rfl rfl
 (x_aload_n g 0 dX11_laysBeds_189 rfl rfl
 (x_iload_n g 1 dX11_laysBeds_190 rfl rfl
 (x_callVip (As := [.int x1]) g mv_X11_layersOf mi_X11_layersOf lk_RX11_305 ht (fun b hb => kX11_layersOf t x1 M ht _ _ hb) rfl rfl hR ⟨Nat.le_of_ble_eq_true rfl, Nat.le_of_ble_eq_true rfl⟩ (Nat.le_of_ble_eq_true rfl) dX11_laysBeds_191 (fun v19 =>
 (x_icmp_ge g 271 dX11_laysBeds_194 rfl
 (fun _ => (x_sub [0, 1] rfl (hK271 M)))
 (fun _ => (x_aload_n g 0 dX11_laysBeds_197 rfl rfl
 (x_getS g 15 fl_RX11_68 rfl ht dX11_laysBeds_198
 (x_bipush g dX11_laysBeds_201 kB_12
 (x_iload_n g 1 dX11_laysBeds_203 rfl rfl
 (x_imul g dX11_laysBeds_204
 (x_iload_n g 2 dX11_laysBeds_205 rfl rfl
 (x_iadd g dX11_laysBeds_206
 (x_iald g (so_11_31 ht) dX11_laysBeds_207
 (x_nmI (fun v20 => (x_istore_n (L' := [(3, .int v20), (0, .ref t), (1, .int x1), (2, .int x2)]) g dX11_laysBeds_208 rfl hn (Nat.le_of_ble_eq_true rfl) rfl
 (x_iload_n g 0 dX11_laysBeds_209 rfl rfl
 (x_jn (fun (J22 : Mem → Option (Unit × Mem)) => ∀ (M21 : Mem), X J (fun q : Unit × Mem => ((none : Option Value), q.2)) (J22 M21) 265 [(0, .ref t), (1, .int x1), (2, .int x2)] [] M21) (fun M21 => (x_iinc (L' := [(2, .int (x2 + 1)), (0, .ref t), (1, .int x1)]) (v := (x2 + 1)) g 2 dX11_laysBeds_265 rfl (by rw [kI_1]) hn (Nat.le_of_ble_eq_true rfl) rfl
 (x_goto g 188 dX11_laysBeds_268 rfl
 (x_sub [1, 2, 0] rfl (ih (x2 + 1) M21))))) (fun J22 hJ22 => (x_if_ge g 216 dX11_laysBeds_210 rfl
 (fun _ => (x_aload_n g 1 dX11_laysBeds_216 rfl rfl
 (x_dup g dX11_laysBeds_217 rfl
 (x_getI g fl_RX11_345 rfl ht dX11_laysBeds_218
 (x_iconst g dX11_laysBeds_221 kI_1
 (x_iadd g dX11_laysBeds_222
 (x_putI g fp_RX11_345 rfl (Nat.le_of_ble_eq_true rfl) ht dX11_laysBeds_223 (x_nmM (fun M23 =>
 (x_iconst g dX11_laysBeds_226 kI_0
 (x_istore (L' := [(4, .int (0 : Int32)), (3, .int v20), (0, .ref t), (1, .int x1), (2, .int x2)]) g dX11_laysBeds_227 hn (Nat.le_of_ble_eq_true rfl) rfl
 (x_sub [2, 3, 4, 1, 0] rfl (wlX11_laysBeds_229 g hr hR hn _ t x1 x2 v20 ht
 (fun M27 => by exact (hJ22 M27)) φ (0 : Int32) M23)))))))))))))
 (fun _ => (x_goto g 265 dX11_laysBeds_213 rfl
 (x_sub [1, 2, 3] rfl (hJ22 M))))))))))))))))))))))))))
def lX11_laysBeds_176 (K277 : Mem → Option (Unit × Mem)) (φ : Nat) (t : Nat) : Nat → Int32 → Mem → Option (Unit × Mem)
  | 0, _, _ => none
  | n + 1, x1, M =>
    ixk (1 : Int32) 3900 (
 if (M.1 (t + 1) (1 : Int32).toNatClampNeg) ≤ x1 then
 K277 M
 else
 lX11_laysBeds_188 (fun (M28 : Mem) => lX11_laysBeds_176 K277 φ t n (x1 + 1) M28) φ t x1 φ (0 : Int32) M)
theorem lX11_laysBeds_176_s (K277 : Mem → Option (Unit × Mem)) (φ : Nat) (t : Nat) (n : Nat) (x1 : Int32) (M : Mem) : lX11_laysBeds_176 K277 φ t (n + 1) x1 M =
    ixk (1 : Int32) 3900 (
 if (M.1 (t + 1) (1 : Int32).toNatClampNeg) ≤ x1 then
 K277 M
 else
 lX11_laysBeds_188 (fun (M28 : Mem) => lX11_laysBeds_176 K277 φ t n (x1 + 1) M28) φ t x1 φ (0 : Int32) M) := rfl
theorem lX11_laysBeds_176_0 (K277 : Mem → Option (Unit × Mem)) (φ : Nat) (t : Nat) (x1 : Int32) (M : Mem) : lX11_laysBeds_176 K277 φ t 0 x1 M = none := rfl
set_option maxRecDepth 100000 in
set_option maxHeartbeats 4000000 in
theorem wlX11_laysBeds_176 {J : JT} (g : Gd J cX11_laysBeds RX11) (hr : Rt J none) (hR : (JR J).frames = 4 ∧ (JR J).locals = 93) (hn : Jn J = 6) (K277 : Mem → Option (Unit × Mem)) (φ : Nat) (t : Nat) (ht : isO 11 t) (hK277 : ∀ (M : Mem), X J (fun q : Unit × Mem => ((none : Option Value), q.2)) (K277 M) 277 [(0, .ref t)] [] M) : ∀ (n : Nat) (x1 : Int32) (M : Mem), X J (fun q : Unit × Mem => ((none : Option Value), q.2)) (lX11_laysBeds_176 K277 φ t n x1 M) 176 [(0, .ref t), (1, .int x1)] [] M := by
  intro n
  induction n with
  | zero =>
    intro x1 M
    exact x_none
  | succ n ih =>
    intro x1 M
    rw [lX11_laysBeds_176_s]
    exact (x_iload_n g 1 dX11_laysBeds_176 rfl rfl
 (x_aload_n g 0 dX11_laysBeds_177 rfl rfl
 (x_getS g 1 fl_RX11_7 rfl ht dX11_laysBeds_178
 (x_iconst g dX11_laysBeds_181 kI_1
 (x_iald g (so_11_0 ht) dX11_laysBeds_182
 (x_icmp_ge g 277 dX11_laysBeds_183 rfl
 (fun _ => (x_sub [0] rfl (hK277 M)))
 (fun _ => (x_iconst g dX11_laysBeds_186 kI_0
 (x_istore_n (L' := [(2, .int (0 : Int32)), (0, .ref t), (1, .int x1)]) g dX11_laysBeds_187 rfl hn (Nat.le_of_ble_eq_true rfl) rfl
 (x_sub [1, 2, 0] rfl (wlX11_laysBeds_188 g hr hR hn _ φ t x1 ht
 (fun M28 => by exact (x_iinc (L' := [(1, .int (x1 + 1)), (0, .ref t)]) (v := (x1 + 1)) g 1 dX11_laysBeds_271 rfl (by rw [kI_1]) hn (Nat.le_of_ble_eq_true rfl) rfl
 (x_goto g 176 dX11_laysBeds_274 rfl
 (x_sub [1, 0] rfl (ih (x1 + 1) M28))))) φ (0 : Int32) M)))))))))))
def lX11_laysBeds_287 (K347 : Mem → Option (Unit × Mem)) (t : Nat) (x1 : Int32) : Nat → Int32 → Mem → Option (Unit × Mem)
  | 0, _, _ => none
  | n + 1, x2, M =>
    if (12 : Int32) ≤ x2 then
 K347 M
 else
 ixk (1 : Int32) 3900 (
 jn (fun (v30 : Int32) => ixk (((12 : Int32) * x1) + x2) 72 (nm (stI M (t + 15) (((12 : Int32) * x1) + x2).toNatClampNeg v30) (fun M32 =>
 lX11_laysBeds_287 K347 t x1 n (x2 + 1) M32))) (fun J31 => jn (J31 (-1 : Int32)) (fun J33 => if (M.1 (t + 1) (1 : Int32).toNatClampNeg) ≤ x1 then
 J33
 else
 (fX11_layersOf t x1 M).bind fun v34 =>
 if v34 ≤ x2 then
 J33
 else
 ixk (((12 : Int32) * x1) + x2) 72 (
 J31 ((-(M.1 (t + 15) (((12 : Int32) * x1) + x2).toNatClampNeg)) - (1 : Int32))))))
theorem lX11_laysBeds_287_s (K347 : Mem → Option (Unit × Mem)) (t : Nat) (x1 : Int32) (n : Nat) (x2 : Int32) (M : Mem) : lX11_laysBeds_287 K347 t x1 (n + 1) x2 M =
    if (12 : Int32) ≤ x2 then
 K347 M
 else
 ixk (1 : Int32) 3900 (
 jn (fun (v30 : Int32) => ixk (((12 : Int32) * x1) + x2) 72 (nm (stI M (t + 15) (((12 : Int32) * x1) + x2).toNatClampNeg v30) (fun M32 =>
 lX11_laysBeds_287 K347 t x1 n (x2 + 1) M32))) (fun J31 => jn (J31 (-1 : Int32)) (fun J33 => if (M.1 (t + 1) (1 : Int32).toNatClampNeg) ≤ x1 then
 J33
 else
 (fX11_layersOf t x1 M).bind fun v34 =>
 if v34 ≤ x2 then
 J33
 else
 ixk (((12 : Int32) * x1) + x2) 72 (
 J31 ((-(M.1 (t + 15) (((12 : Int32) * x1) + x2).toNatClampNeg)) - (1 : Int32)))))) := rfl
theorem lX11_laysBeds_287_0 (K347 : Mem → Option (Unit × Mem)) (t : Nat) (x1 : Int32) (x2 : Int32) (M : Mem) : lX11_laysBeds_287 K347 t x1 0 x2 M = none := rfl
set_option maxRecDepth 100000 in
set_option maxHeartbeats 4000000 in
theorem wlX11_laysBeds_287 {J : JT} (g : Gd J cX11_laysBeds RX11) (hr : Rt J none) (hR : (JR J).frames = 4 ∧ (JR J).locals = 93) (hn : Jn J = 6) (K347 : Mem → Option (Unit × Mem)) (t : Nat) (x1 : Int32) (ht : isO 11 t) (hK347 : ∀ (M : Mem), X J (fun q : Unit × Mem => ((none : Option Value), q.2)) (K347 M) 347 [(0, .ref t), (1, .int x1)] [] M) : ∀ (n : Nat) (x2 : Int32) (M : Mem), X J (fun q : Unit × Mem => ((none : Option Value), q.2)) (lX11_laysBeds_287 K347 t x1 n x2 M) 287 [(0, .ref t), (1, .int x1), (2, .int x2)] [] M := by
  intro n
  induction n with
  | zero =>
    intro x2 M
    exact x_none
  | succ n ih =>
    intro x2 M
    rw [lX11_laysBeds_287_s]
    exact (x_iload_n g 2 dX11_laysBeds_287 rfl rfl
 (x_bipush g dX11_laysBeds_288 kB_12
 (x_icmp_ge g 347 dX11_laysBeds_290 rfl
 (fun _ => (x_sub [0, 1] rfl (hK347 M)))
 (fun _ => (x_aload_n g 0 dX11_laysBeds_293 rfl rfl
 (x_getS g 15 fl_RX11_68 rfl ht dX11_laysBeds_294
 (x_bipush g dX11_laysBeds_297 kB_12
 (x_iload_n g 1 dX11_laysBeds_299 rfl rfl
 (x_imul g dX11_laysBeds_300
 (x_iload_n g 2 dX11_laysBeds_301 rfl rfl
 (x_iadd g dX11_laysBeds_302
 (x_iload_n g 1 dX11_laysBeds_303 rfl rfl
 (x_aload_n g 0 dX11_laysBeds_304 rfl rfl
 (x_getS g 1 fl_RX11_7 rfl ht dX11_laysBeds_305
 (x_iconst g dX11_laysBeds_308 kI_1
 (x_iald g (so_11_0 ht) dX11_laysBeds_309
 (x_jn (fun (J31 : Int32 → Option (Unit × Mem)) => ∀ (v30 : Int32), X J (fun q : Unit × Mem => ((none : Option Value), q.2)) (J31 v30) 340 [(0, .ref t), (1, .int x1), (2, .int x2)] [.int v30, .int (((12 : Int32) * x1) + x2), .ref (t + 15)] M) (fun v30 => (x_iast g (so_11_31 ht) dX11_laysBeds_340 (x_nmM (fun M32 =>
 (x_iinc (L' := [(2, .int (x2 + 1)), (0, .ref t), (1, .int x1)]) (v := (x2 + 1)) g 2 dX11_laysBeds_341 rfl (by rw [kI_1]) hn (Nat.le_of_ble_eq_true rfl) rfl
 (x_goto g 287 dX11_laysBeds_344 rfl
 (x_sub [1, 2, 0] rfl (ih (x2 + 1) M32)))))))) (fun J31 hJ31 => (x_jn (fun (J33 : Option (Unit × Mem)) => X J (fun q : Unit × Mem => ((none : Option Value), q.2)) J33 339 [(0, .ref t), (1, .int x1), (2, .int x2)] [.int (((12 : Int32) * x1) + x2), .ref (t + 15)] M) (x_iconst g dX11_laysBeds_339 kI_m1
 (hJ31 (-1 : Int32))) (fun J33 hJ33 => (x_icmp_ge g 339 dX11_laysBeds_310 rfl
 (fun _ => (hJ33))
 (fun _ => (x_iload_n g 2 dX11_laysBeds_313 rfl rfl
 (x_aload_n g 0 dX11_laysBeds_314 rfl rfl
 (x_iload_n g 1 dX11_laysBeds_315 rfl rfl
 (x_callVip (As := [.int x1]) g mv_X11_layersOf mi_X11_layersOf lk_RX11_305 ht (fun b hb => kX11_layersOf t x1 M ht _ _ hb) rfl rfl hR ⟨Nat.le_of_ble_eq_true rfl, Nat.le_of_ble_eq_true rfl⟩ (Nat.le_of_ble_eq_true rfl) dX11_laysBeds_316 (fun v34 =>
 (x_icmp_ge g 339 dX11_laysBeds_319 rfl
 (fun _ => (hJ33))
 (fun _ => (x_aload_n g 0 dX11_laysBeds_322 rfl rfl
 (x_getS g 15 fl_RX11_68 rfl ht dX11_laysBeds_323
 (x_bipush g dX11_laysBeds_326 kB_12
 (x_iload_n g 1 dX11_laysBeds_328 rfl rfl
 (x_imul g dX11_laysBeds_329
 (x_iload_n g 2 dX11_laysBeds_330 rfl rfl
 (x_iadd g dX11_laysBeds_331
 (x_iald g (so_11_31 ht) dX11_laysBeds_332
 (x_ineg g dX11_laysBeds_333
 (x_iconst g dX11_laysBeds_334 kI_1
 (x_isub g dX11_laysBeds_335
 (x_goto g 340 dX11_laysBeds_336 rfl
 (hJ31 ((-(M.1 (t + 15) (((12 : Int32) * x1) + x2).toNatClampNeg)) - (1 : Int32))))))))))))))))))))))))))))))))))))))))))))
def lX11_laysBeds_279 (φ : Nat) (t : Nat) : Nat → Int32 → Mem → Option (Unit × Mem)
  | 0, _, _ => none
  | n + 1, x1, M =>
    if (6 : Int32) ≤ x1 then
 some ((), M)
 else
 lX11_laysBeds_287 (fun (M35 : Mem) => lX11_laysBeds_279 φ t n (x1 + 1) M35) t x1 φ (0 : Int32) M
theorem lX11_laysBeds_279_s (φ : Nat) (t : Nat) (n : Nat) (x1 : Int32) (M : Mem) : lX11_laysBeds_279 φ t (n + 1) x1 M =
    if (6 : Int32) ≤ x1 then
 some ((), M)
 else
 lX11_laysBeds_287 (fun (M35 : Mem) => lX11_laysBeds_279 φ t n (x1 + 1) M35) t x1 φ (0 : Int32) M := rfl
theorem lX11_laysBeds_279_0 (φ : Nat) (t : Nat) (x1 : Int32) (M : Mem) : lX11_laysBeds_279 φ t 0 x1 M = none := rfl
set_option maxRecDepth 100000 in
set_option maxHeartbeats 4000000 in
theorem wlX11_laysBeds_279 {J : JT} (g : Gd J cX11_laysBeds RX11) (hr : Rt J none) (hR : (JR J).frames = 4 ∧ (JR J).locals = 93) (hn : Jn J = 6) (φ : Nat) (t : Nat) (ht : isO 11 t) : ∀ (n : Nat) (x1 : Int32) (M : Mem), X J (fun q : Unit × Mem => ((none : Option Value), q.2)) (lX11_laysBeds_279 φ t n x1 M) 279 [(0, .ref t), (1, .int x1)] [] M := by
  intro n
  induction n with
  | zero =>
    intro x1 M
    exact x_none
  | succ n ih =>
    intro x1 M
    rw [lX11_laysBeds_279_s]
    exact (x_iload_n g 1 dX11_laysBeds_279 rfl rfl
 (x_bipush g dX11_laysBeds_280 kB_6
 (x_icmp_ge g 353 dX11_laysBeds_282 rfl
 (fun _ => (x_vret g hr rfl dX11_laysBeds_353))
 (fun _ => (x_iconst g dX11_laysBeds_285 kI_0
 (x_istore_n (L' := [(2, .int (0 : Int32)), (0, .ref t), (1, .int x1)]) g dX11_laysBeds_286 rfl hn (Nat.le_of_ble_eq_true rfl) rfl
 (x_sub [1, 2, 0] rfl (wlX11_laysBeds_287 g hr hR hn _ t x1 ht
 (fun M35 => by exact (x_iinc (L' := [(1, .int (x1 + 1)), (0, .ref t)]) (v := (x1 + 1)) g 1 dX11_laysBeds_347 rfl (by rw [kI_1]) hn (Nat.le_of_ble_eq_true rfl) rfl
 (x_goto g 279 dX11_laysBeds_350 rfl
 (x_sub [1, 0] rfl (ih (x1 + 1) M35))))) φ (0 : Int32) M))))))))
def fX11_laysBeds (φ : Nat) (t : Nat) (M : Mem) : Option (Unit × Mem) :=
  bd (fX11_laysTree φ t M) fun vu1 M2 =>
 lX11_laysBeds_6 (fun (M4 : Mem) => lX11_laysBeds_27 (fun (M17 : Mem) => nm (stI M17 t 32 (0 : Int32)) (fun M18 =>
 lX11_laysBeds_176 (fun (M29 : Mem) => lX11_laysBeds_279 φ t φ (0 : Int32) M29) φ t φ (0 : Int32) M18)) φ t φ (0 : Int32) M4) t φ (0 : Int32) M2
set_option maxRecDepth 100000 in
set_option maxHeartbeats 4000000 in
theorem kX11_laysBeds (φ : Nat) (t : Nat) (M : Mem) (ht : isO 11 t) (l : Launch) (G : GT) {b : (Unit × Mem)} (hE : fX11_laysBeds φ t M = some b) : Ok l G yX11_laysBeds cX11_laysBeds 6 none 4 93 [.ref t] M ((fun q : Unit × Mem => ((none : Option Value), q.2)) b).1 ((fun q : Unit × Mem => ((none : Option Value), q.2)) b).2 := by
  refine Ok.ofX (pj := (fun q : Unit × Mem => ((none : Option Value), q.2))) (by decide) (Nat.le_of_ble_eq_true rfl) hE (fun J g hr hG hl hR hn => ?_)
  show X J (fun q : Unit × Mem => ((none : Option Value), q.2)) (fX11_laysBeds φ t M) 0 [(0, .ref t)] [] M
  unfold fX11_laysBeds
  exact (x_aload_n g 0 dX11_laysBeds_0 rfl rfl
 (x_callVv (As := []) g mv_X11_laysTree mi_X11_laysTree lk_RX11_342 ht (fun b Mh_ hb => kX11_laysTree φ t M ht _ _ hb) rfl rfl hR ⟨Nat.le_of_ble_eq_true rfl, Nat.le_of_ble_eq_true rfl⟩ (Nat.le_of_ble_eq_true rfl) dX11_laysBeds_1 (fun vu1 M2 =>
 (x_iconst g dX11_laysBeds_4 kI_0
 (x_istore_n (L' := [(1, .int (0 : Int32)), (0, .ref t)]) g dX11_laysBeds_5 rfl hn (Nat.le_of_ble_eq_true rfl) rfl
 (x_sub [1, 0] rfl (wlX11_laysBeds_6 g hr hR hn _ t ht
 (fun M4 => by exact (x_iconst g dX11_laysBeds_25 kI_0
 (x_istore_n (L' := [(1, .int (0 : Int32)), (0, .ref t)]) g dX11_laysBeds_26 rfl hn (Nat.le_of_ble_eq_true rfl) rfl
 (x_sub [1, 0] rfl (wlX11_laysBeds_27 g hr hR hn _ φ t ht
 (fun M17 => by exact (x_aload_n g 0 dX11_laysBeds_169 rfl rfl
 (x_iconst g dX11_laysBeds_170 kI_0
 (x_putI g fp_RX11_345 rfl (Nat.le_of_ble_eq_true rfl) ht dX11_laysBeds_171 (x_nmM (fun M18 =>
 (x_iconst g dX11_laysBeds_174 kI_0
 (x_istore_n (L' := [(1, .int (0 : Int32)), (0, .ref t)]) g dX11_laysBeds_175 rfl hn (Nat.le_of_ble_eq_true rfl) rfl
 (x_sub [1, 0] rfl (wlX11_laysBeds_176 g hr hR hn _ φ t ht
 (fun M29 => by exact (x_iconst g dX11_laysBeds_277 kI_0
 (x_istore_n (L' := [(1, .int (0 : Int32)), (0, .ref t)]) g dX11_laysBeds_278 rfl hn (Nat.le_of_ble_eq_true rfl) rfl
 (x_sub [1, 0] rfl (wlX11_laysBeds_279 g hr hR hn  φ t ht φ (0 : Int32) M29))))) φ (0 : Int32) M18)))))))))) φ (0 : Int32) M4))))) φ (0 : Int32) M2)))))))
def fX11_beds (φ : Nat) (t : Nat) (M : Mem) : Option (Int32 × Mem) :=
  bd (fX11_laysBeds φ t M) fun vu1 M2 =>
 bd (fX11_gives t (M2.1 t 32) M2) fun v3 M4 =>
 some (v3, M4)
set_option maxRecDepth 100000 in
set_option maxHeartbeats 4000000 in
theorem kX11_beds (φ : Nat) (t : Nat) (M : Mem) (ht : isO 11 t) (l : Launch) (G : GT) {b : (Int32 × Mem)} (hE : fX11_beds φ t M = some b) : Ok l G yX11_beds cX11_beds 1 (some .int) 5 118 [.ref t] M ((fun q : Int32 × Mem => (some (Value.int q.1), q.2)) b).1 ((fun q : Int32 × Mem => (some (Value.int q.1), q.2)) b).2 := by
  refine Ok.ofX (pj := (fun q : Int32 × Mem => (some (Value.int q.1), q.2))) (by decide) (Nat.le_of_ble_eq_true rfl) hE (fun J g hr hG hl hR hn => ?_)
  show X J (fun q : Int32 × Mem => (some (Value.int q.1), q.2)) (fX11_beds φ t M) 0 [(0, .ref t)] [] M
  unfold fX11_beds
  exact (x_aload_n g 0 dX11_beds_0 rfl rfl
 (x_callVv (As := []) g mv_X11_laysBeds mi_X11_laysBeds lk_RX11_348 ht (fun b Mh_ hb => kX11_laysBeds φ t M ht _ _ hb) rfl rfl hR ⟨Nat.le_of_ble_eq_true rfl, Nat.le_of_ble_eq_true rfl⟩ (Nat.le_of_ble_eq_true rfl) dX11_beds_1 (fun vu1 M2 =>
 (x_aload_n g 0 dX11_beds_4 rfl rfl
 (x_aload_n g 0 dX11_beds_5 rfl rfl
 (x_getI g fl_RX11_345 rfl ht dX11_beds_6
 (x_callVi (As := [.int (M2.1 t 32)]) g mv_X11_gives mi_X11_gives lk_RX11_106 ht (fun b Mh_ hb => kX11_gives t (M2.1 t 32) M2 ht _ _ hb) rfl rfl hR ⟨Nat.le_of_ble_eq_true rfl, Nat.le_of_ble_eq_true rfl⟩ (Nat.le_of_ble_eq_true rfl) dX11_beds_9 (fun v3 M4 =>
 (x_iret g hr rfl rfl dX11_beds_12)))))))))
def fX11_bedOf (φ : Nat) (t : Nat) (a1 : Int32) (a2 : Int32) (M : Mem) : Option (Int32 × Mem) :=
  (fX11_isLayer t a1 a2 M).bind fun v1 =>
 if v1 = 0 then
 bd (fX11_refuse t (1 : Int32) M) fun v6 M7 =>
 some (v6, M7)
 else
 bd (fX11_laysBeds φ t M) fun vu2 M3 =>
 ixk (((12 : Int32) * a1) + a2) 72 (
 bd (fX11_gives t (M3.1 (t + 15) (((12 : Int32) * a1) + a2).toNatClampNeg) M3) fun v4 M5 =>
 some (v4, M5))
set_option maxRecDepth 100000 in
set_option maxHeartbeats 4000000 in
theorem kX11_bedOf (φ : Nat) (t : Nat) (a1 : Int32) (a2 : Int32) (M : Mem) (ht : isO 11 t) (l : Launch) (G : GT) {b : (Int32 × Mem)} (hE : fX11_bedOf φ t a1 a2 M = some b) : Ok l G yX11_bedOf cX11_bedOf 3 (some .int) 5 118 [.ref t, .int a1, .int a2] M ((fun q : Int32 × Mem => (some (Value.int q.1), q.2)) b).1 ((fun q : Int32 × Mem => (some (Value.int q.1), q.2)) b).2 := by
  refine Ok.ofX (pj := (fun q : Int32 × Mem => (some (Value.int q.1), q.2))) (by decide) (Nat.le_of_ble_eq_true rfl) hE (fun J g hr hG hl hR hn => ?_)
  show X J (fun q : Int32 × Mem => (some (Value.int q.1), q.2)) (fX11_bedOf φ t a1 a2 M) 0 [(0, .ref t), (1, .int a1), (2, .int a2)] [] M
  unfold fX11_bedOf
  exact (x_aload_n g 0 dX11_bedOf_0 rfl rfl
 (x_iload_n g 1 dX11_bedOf_1 rfl rfl
 (x_iload_n g 2 dX11_bedOf_2 rfl rfl
 (x_callVip (As := [.int a1, .int a2]) g mv_X11_isLayer mi_X11_isLayer lk_RX11_308 ht (fun b hb => kX11_isLayer t a1 a2 M ht _ _ hb) rfl rfl hR ⟨Nat.le_of_ble_eq_true rfl, Nat.le_of_ble_eq_true rfl⟩ (Nat.le_of_ble_eq_true rfl) dX11_bedOf_3 (fun v1 =>
 (x_if_ne g 15 dX11_bedOf_6 rfl
 (fun _ => (x_aload_n g 0 dX11_bedOf_15 rfl rfl
 (x_callVv (As := []) g mv_X11_laysBeds mi_X11_laysBeds lk_RX11_348 ht (fun b Mh_ hb => kX11_laysBeds φ t M ht _ _ hb) rfl rfl hR ⟨Nat.le_of_ble_eq_true rfl, Nat.le_of_ble_eq_true rfl⟩ (Nat.le_of_ble_eq_true rfl) dX11_bedOf_16 (fun vu2 M3 =>
 (x_aload_n g 0 dX11_bedOf_19 rfl rfl
 (x_aload_n g 0 dX11_bedOf_20 rfl rfl
 (x_getS g 15 fl_RX11_68 rfl ht dX11_bedOf_21
 (x_bipush g dX11_bedOf_24 kB_12
 (x_iload_n g 1 dX11_bedOf_26 rfl rfl
 (x_imul g dX11_bedOf_27
 (x_iload_n g 2 dX11_bedOf_28 rfl rfl
 (x_iadd g dX11_bedOf_29
 (x_iald g (so_11_31 ht) dX11_bedOf_30
 (x_callVi (As := [.int (M3.1 (t + 15) (((12 : Int32) * a1) + a2).toNatClampNeg)]) g mv_X11_gives mi_X11_gives lk_RX11_106 ht (fun b Mh_ hb => kX11_gives t (M3.1 (t + 15) (((12 : Int32) * a1) + a2).toNatClampNeg) M3 ht _ _ hb) rfl rfl hR ⟨Nat.le_of_ble_eq_true rfl, Nat.le_of_ble_eq_true rfl⟩ (Nat.le_of_ble_eq_true rfl) dX11_bedOf_31 (fun v4 M5 =>
 (x_iret g hr rfl rfl dX11_bedOf_34))))))))))))))))
 (fun _ => (x_aload_n g 0 dX11_bedOf_9 rfl rfl
 (x_iconst g dX11_bedOf_10 kI_1
 (x_callVi (As := [.int (1 : Int32)]) g mv_X11_refuse mi_X11_refuse lk_RX11_102 ht (fun b Mh_ hb => kX11_refuse t (1 : Int32) M ht _ _ hb) rfl rfl hR ⟨Nat.le_of_ble_eq_true rfl, Nat.le_of_ble_eq_true rfl⟩ (Nat.le_of_ble_eq_true rfl) dX11_bedOf_11 (fun v6 M7 =>
 (x_iret g hr rfl rfl dX11_bedOf_14))))))))))))
def fX11_isBed (t : Nat) (a1 : Int32) (M : Mem) : Option Int32 :=
  if a1 < 0 then
 some (0 : Int32)
 else
 if (M.1 t 32) ≤ a1 then
 some (0 : Int32)
 else
 some (1 : Int32)
set_option maxRecDepth 100000 in
set_option maxHeartbeats 4000000 in
theorem kX11_isBed (t : Nat) (a1 : Int32) (M : Mem) (ht : isO 11 t) (l : Launch) (G : GT) {b : Int32} (hE : fX11_isBed t a1 M = some b) : Ok l G yX11_isBed cX11_isBed 2 (some .boolean) 0 0 [.ref t, .int a1] M ((fun b : Int32 => (some (Value.int b), M)) b).1 ((fun b : Int32 => (some (Value.int b), M)) b).2 := by
  refine Ok.ofX (pj := (fun b : Int32 => (some (Value.int b), M))) (by decide) (Nat.le_of_ble_eq_true rfl) hE (fun J g hr hG hl hR hn => ?_)
  show X J (fun b : Int32 => (some (Value.int b), M)) (fX11_isBed t a1 M) 0 [(0, .ref t), (1, .int a1)] [] M
  unfold fX11_isBed
  exact (x_iload_n g 1 dX11_isBed_0 rfl rfl
 (x_if_lt g 16 dX11_isBed_1 rfl
 (fun _ => (x_iconst g dX11_isBed_16 kI_0
 (x_iret g hr rfl rfl dX11_isBed_17)))
 (fun _ => (x_iload_n g 1 dX11_isBed_4 rfl rfl
 (x_aload_n g 0 dX11_isBed_5 rfl rfl
 (x_getI g fl_RX11_345 rfl ht dX11_isBed_6
 (x_icmp_ge g 16 dX11_isBed_9 rfl
 (fun _ => (x_iconst g dX11_isBed_16 kI_0
 (x_iret g hr rfl rfl dX11_isBed_17)))
 (fun _ => (x_iconst g dX11_isBed_12 kI_1
 (x_goto g 17 dX11_isBed_13 rfl
 (x_iret g hr rfl rfl dX11_isBed_17)))))))))))
def lX11_firstOf_2 (t : Nat) (x1 : Int32) (x2 : Int32) (M : Mem) : Nat → Int32 → Option Int32
  | 0, _ => none
  | n + 1, x3 =>
    (fX11_layersOf t x2 M).bind fun v1 =>
 if v1 ≤ x3 then
 some (-1 : Int32)
 else
 ixk (((12 : Int32) * x2) + x3) 72 (
 if (M.1 (t + 15) (((12 : Int32) * x2) + x3).toNatClampNeg) = x1 then
 some x3
 else
 lX11_firstOf_2 t x1 x2 M n (x3 + 1))
theorem lX11_firstOf_2_s (t : Nat) (x1 : Int32) (x2 : Int32) (M : Mem) (n : Nat) (x3 : Int32) : lX11_firstOf_2 t x1 x2 M (n + 1) x3 =
    (fX11_layersOf t x2 M).bind fun v1 =>
 if v1 ≤ x3 then
 some (-1 : Int32)
 else
 ixk (((12 : Int32) * x2) + x3) 72 (
 if (M.1 (t + 15) (((12 : Int32) * x2) + x3).toNatClampNeg) = x1 then
 some x3
 else
 lX11_firstOf_2 t x1 x2 M n (x3 + 1)) := rfl
theorem lX11_firstOf_2_0 (t : Nat) (x1 : Int32) (x2 : Int32) (M : Mem) (x3 : Int32) : lX11_firstOf_2 t x1 x2 M 0 x3 = none := rfl
set_option maxRecDepth 100000 in
set_option maxHeartbeats 4000000 in
theorem wlX11_firstOf_2 {J : JT} (g : Gd J cX11_firstOf RX11) (hr : Rt J (some .int)) (hR : (JR J).frames = 2 ∧ (JR J).locals = 41) (hn : Jn J = 4) (t : Nat) (x1 : Int32) (x2 : Int32) (M : Mem) (ht : isO 11 t) : ∀ (n : Nat) (x3 : Int32), X J (fun b : Int32 => (some (Value.int b), M)) (lX11_firstOf_2 t x1 x2 M n x3) 2 [(0, .ref t), (1, .int x1), (2, .int x2), (3, .int x3)] [] M := by
  intro n
  induction n with
  | zero =>
    intro x3
    exact x_none
  | succ n ih =>
    intro x3
    rw [lX11_firstOf_2_s]
    exact (x_iload_n g 3 dX11_firstOf_2 rfl rfl
 (x_aload_n g 0 dX11_firstOf_3 rfl rfl
 (x_iload_n g 2 dX11_firstOf_4 rfl rfl
 (x_callVip (As := [.int x2]) g mv_X11_layersOf mi_X11_layersOf lk_RX11_305 ht (fun b hb => kX11_layersOf t x2 M ht _ _ hb) rfl rfl hR ⟨Nat.le_of_ble_eq_true rfl, Nat.le_of_ble_eq_true rfl⟩ (Nat.le_of_ble_eq_true rfl) dX11_firstOf_5 (fun v1 =>
 (x_icmp_ge g 34 dX11_firstOf_8 rfl
 (fun _ => (x_iconst g dX11_firstOf_34 kI_m1
 (x_iret g hr rfl rfl dX11_firstOf_35)))
 (fun _ => (x_aload_n g 0 dX11_firstOf_11 rfl rfl
 (x_getS g 15 fl_RX11_68 rfl ht dX11_firstOf_12
 (x_bipush g dX11_firstOf_15 kB_12
 (x_iload_n g 2 dX11_firstOf_17 rfl rfl
 (x_imul g dX11_firstOf_18
 (x_iload_n g 3 dX11_firstOf_19 rfl rfl
 (x_iadd g dX11_firstOf_20
 (x_iald g (so_11_31 ht) dX11_firstOf_21
 (x_iload_n g 1 dX11_firstOf_22 rfl rfl
 (x_icmp_ne g 28 dX11_firstOf_23 rfl
 (fun _ => (x_iinc (L' := [(3, .int (x3 + 1)), (0, .ref t), (1, .int x1), (2, .int x2)]) (v := (x3 + 1)) g 3 dX11_firstOf_28 rfl (by rw [kI_1]) hn (Nat.le_of_ble_eq_true rfl) rfl
 (x_goto g 2 dX11_firstOf_31 rfl
 (x_sub [1, 2, 3, 0] rfl (ih (x3 + 1))))))
 (fun _ => (x_iload_n g 3 dX11_firstOf_26 rfl rfl
 (x_iret g hr rfl rfl dX11_firstOf_27))))))))))))))))))))
def fX11_firstOf (φ : Nat) (t : Nat) (a1 : Int32) (a2 : Int32) (M : Mem) : Option Int32 :=
  lX11_firstOf_2 t a1 a2 M φ (0 : Int32)
set_option maxRecDepth 100000 in
set_option maxHeartbeats 4000000 in
theorem kX11_firstOf (φ : Nat) (t : Nat) (a1 : Int32) (a2 : Int32) (M : Mem) (ht : isO 11 t) (l : Launch) (G : GT) {b : Int32} (hE : fX11_firstOf φ t a1 a2 M = some b) : Ok l G yX11_firstOf cX11_firstOf 4 (some .int) 2 41 [.ref t, .int a1, .int a2] M ((fun b : Int32 => (some (Value.int b), M)) b).1 ((fun b : Int32 => (some (Value.int b), M)) b).2 := by
  refine Ok.ofX (pj := (fun b : Int32 => (some (Value.int b), M))) (by decide) (Nat.le_of_ble_eq_true rfl) hE (fun J g hr hG hl hR hn => ?_)
  show X J (fun b : Int32 => (some (Value.int b), M)) (fX11_firstOf φ t a1 a2 M) 0 [(0, .ref t), (1, .int a1), (2, .int a2)] [] M
  unfold fX11_firstOf
  exact (x_iconst g dX11_firstOf_0 kI_0
 (x_istore_n (L' := [(3, .int (0 : Int32)), (0, .ref t), (1, .int a1), (2, .int a2)]) g dX11_firstOf_1 rfl hn (Nat.le_of_ble_eq_true rfl) rfl
 (x_sub [1, 2, 3, 0] rfl (wlX11_firstOf_2 g hr hR hn  t a1 a2 M ht φ (0 : Int32)))))
def lX11_holesWith_4 (φ : Nat) (t : Nat) (x1 : Int32) (M : Mem) : Nat → Int32 → Int32 → Option Int32
  | 0, _, _ => none
  | n + 1, x2, x3 =>
    ixk (1 : Int32) 3900 (
 if (M.1 (t + 1) (1 : Int32).toNatClampNeg) ≤ x3 then
 some x2
 else
 (fX11_firstOf φ t x1 x3 M).bind fun v1 =>
 jn (fun (v2 : Int32) => nm (x2 ||| v2) (fun v4 =>
 lX11_holesWith_4 φ t x1 M n v4 (x3 + 1))) (fun J3 => if v1 = (-1 : Int32) then
 J3 (0 : Int32)
 else
 J3 ((1 : Int32) <<< (x3 &&& 31))))
theorem lX11_holesWith_4_s (φ : Nat) (t : Nat) (x1 : Int32) (M : Mem) (n : Nat) (x2 : Int32) (x3 : Int32) : lX11_holesWith_4 φ t x1 M (n + 1) x2 x3 =
    ixk (1 : Int32) 3900 (
 if (M.1 (t + 1) (1 : Int32).toNatClampNeg) ≤ x3 then
 some x2
 else
 (fX11_firstOf φ t x1 x3 M).bind fun v1 =>
 jn (fun (v2 : Int32) => nm (x2 ||| v2) (fun v4 =>
 lX11_holesWith_4 φ t x1 M n v4 (x3 + 1))) (fun J3 => if v1 = (-1 : Int32) then
 J3 (0 : Int32)
 else
 J3 ((1 : Int32) <<< (x3 &&& 31)))) := rfl
theorem lX11_holesWith_4_0 (φ : Nat) (t : Nat) (x1 : Int32) (M : Mem) (x2 : Int32) (x3 : Int32) : lX11_holesWith_4 φ t x1 M 0 x2 x3 = none := rfl
set_option maxRecDepth 100000 in
set_option maxHeartbeats 4000000 in
theorem wlX11_holesWith_4 {J : JT} (g : Gd J cX11_holesWith RX11) (hr : Rt J (some .int)) (hR : (JR J).frames = 3 ∧ (JR J).locals = 64) (hn : Jn J = 4) (φ : Nat) (t : Nat) (x1 : Int32) (M : Mem) (ht : isO 11 t) : ∀ (n : Nat) (x2 : Int32) (x3 : Int32), X J (fun b : Int32 => (some (Value.int b), M)) (lX11_holesWith_4 φ t x1 M n x2 x3) 4 [(0, .ref t), (1, .int x1), (2, .int x2), (3, .int x3)] [] M := by
  intro n
  induction n with
  | zero =>
    intro x2 x3
    exact x_none
  | succ n ih =>
    intro x2 x3
    rw [lX11_holesWith_4_s]
    exact (x_iload_n g 3 dX11_holesWith_4 rfl rfl
 (x_aload_n g 0 dX11_holesWith_5 rfl rfl
 (x_getS g 1 fl_RX11_7 rfl ht dX11_holesWith_6
 (x_iconst g dX11_holesWith_9 kI_1
 (x_iald g (so_11_0 ht) dX11_holesWith_10
 (x_icmp_ge g 40 dX11_holesWith_11 rfl
 (fun _ => (x_iload_n g 2 dX11_holesWith_40 rfl rfl
 (x_iret g hr rfl rfl dX11_holesWith_41)))
 (fun _ => (x_iload_n g 2 dX11_holesWith_14 rfl rfl
 (x_aload_n g 0 dX11_holesWith_15 rfl rfl
 (x_iload_n g 1 dX11_holesWith_16 rfl rfl
 (x_iload_n g 3 dX11_holesWith_17 rfl rfl
 (x_callVip (As := [.int x1, .int x3]) g mv_X11_firstOf mi_X11_firstOf lk_RX11_351 ht (fun b hb => kX11_firstOf φ t x1 x3 M ht _ _ hb) rfl rfl hR ⟨Nat.le_of_ble_eq_true rfl, Nat.le_of_ble_eq_true rfl⟩ (Nat.le_of_ble_eq_true rfl) dX11_holesWith_18 (fun v1 =>
 (x_iconst g dX11_holesWith_21 kI_m1
 (x_jn (fun (J3 : Int32 → Option Int32) => ∀ (v2 : Int32), X J (fun b : Int32 => (some (Value.int b), M)) (J3 v2) 32 [(0, .ref t), (1, .int x1), (3, .int x3)] [.int v2, .int x2] M) (fun v2 => (x_ior g dX11_holesWith_32
 (x_nmI (fun v4 => (x_istore_n (L' := [(2, .int v4), (0, .ref t), (1, .int x1), (3, .int x3)]) g dX11_holesWith_33 rfl hn (Nat.le_of_ble_eq_true rfl) rfl
 (x_iinc (L' := [(3, .int (x3 + 1)), (2, .int v4), (0, .ref t), (1, .int x1)]) (v := (x3 + 1)) g 3 dX11_holesWith_34 rfl (by rw [kI_1]) hn (Nat.le_of_ble_eq_true rfl) rfl
 (x_goto g 4 dX11_holesWith_37 rfl
 (x_sub [2, 3, 1, 0] rfl (ih v4 (x3 + 1)))))))))) (fun J3 hJ3 => (x_icmp_ne g 29 dX11_holesWith_22 rfl
 (fun _ => (x_iconst g dX11_holesWith_29 kI_1
 (x_iload_n g 3 dX11_holesWith_30 rfl rfl
 (x_ishl g dX11_holesWith_31
 (x_sub [0, 1, 3] rfl (hJ3 ((1 : Int32) <<< (x3 &&& 31))))))))
 (fun _ => (x_iconst g dX11_holesWith_25 kI_0
 (x_goto g 32 dX11_holesWith_26 rfl
 (x_sub [0, 1, 3] rfl (hJ3 (0 : Int32)))))))))))))))))))))))
def fX11_holesWith (φ : Nat) (t : Nat) (a1 : Int32) (M : Mem) : Option Int32 :=
  lX11_holesWith_4 φ t a1 M φ (0 : Int32) (0 : Int32)
set_option maxRecDepth 100000 in
set_option maxHeartbeats 4000000 in
theorem kX11_holesWith (φ : Nat) (t : Nat) (a1 : Int32) (M : Mem) (ht : isO 11 t) (l : Launch) (G : GT) {b : Int32} (hE : fX11_holesWith φ t a1 M = some b) : Ok l G yX11_holesWith cX11_holesWith 4 (some .int) 3 64 [.ref t, .int a1] M ((fun b : Int32 => (some (Value.int b), M)) b).1 ((fun b : Int32 => (some (Value.int b), M)) b).2 := by
  refine Ok.ofX (pj := (fun b : Int32 => (some (Value.int b), M))) (by decide) (Nat.le_of_ble_eq_true rfl) hE (fun J g hr hG hl hR hn => ?_)
  show X J (fun b : Int32 => (some (Value.int b), M)) (fX11_holesWith φ t a1 M) 0 [(0, .ref t), (1, .int a1)] [] M
  unfold fX11_holesWith
  exact (x_iconst g dX11_holesWith_0 kI_0
 (x_istore_n (L' := [(2, .int (0 : Int32)), (0, .ref t), (1, .int a1)]) g dX11_holesWith_1 rfl hn (Nat.le_of_ble_eq_true rfl) rfl
 (x_iconst g dX11_holesWith_2 kI_0
 (x_istore_n (L' := [(3, .int (0 : Int32)), (2, .int (0 : Int32)), (0, .ref t), (1, .int a1)]) g dX11_holesWith_3 rfl hn (Nat.le_of_ble_eq_true rfl) rfl
 (x_sub [2, 3, 1, 0] rfl (wlX11_holesWith_4 g hr hR hn  φ t a1 M ht φ (0 : Int32) (0 : Int32)))))))
def fX11_holesOf (φ : Nat) (t : Nat) (a1 : Int32) (M : Mem) : Option (Int32 × Mem) :=
  bd (fX11_laysBeds φ t M) fun vu1 M2 =>
 (fX11_isBed t a1 M2).bind fun v3 =>
 if v3 = 0 then
 bd (fX11_refuse t (1 : Int32) M2) fun v4 M5 =>
 some (v4, M5)
 else
 (fX11_holesWith φ t a1 M2).bind fun v6 =>
 bd (fX11_gives t v6 M2) fun v7 M8 =>
 some (v7, M8)
set_option maxRecDepth 100000 in
set_option maxHeartbeats 4000000 in
theorem kX11_holesOf (φ : Nat) (t : Nat) (a1 : Int32) (M : Mem) (ht : isO 11 t) (l : Launch) (G : GT) {b : (Int32 × Mem)} (hE : fX11_holesOf φ t a1 M = some b) : Ok l G yX11_holesOf cX11_holesOf 2 (some .int) 5 118 [.ref t, .int a1] M ((fun q : Int32 × Mem => (some (Value.int q.1), q.2)) b).1 ((fun q : Int32 × Mem => (some (Value.int q.1), q.2)) b).2 := by
  refine Ok.ofX (pj := (fun q : Int32 × Mem => (some (Value.int q.1), q.2))) (by decide) (Nat.le_of_ble_eq_true rfl) hE (fun J g hr hG hl hR hn => ?_)
  show X J (fun q : Int32 × Mem => (some (Value.int q.1), q.2)) (fX11_holesOf φ t a1 M) 0 [(0, .ref t), (1, .int a1)] [] M
  unfold fX11_holesOf
  exact (x_aload_n g 0 dX11_holesOf_0 rfl rfl
 (x_callVv (As := []) g mv_X11_laysBeds mi_X11_laysBeds lk_RX11_348 ht (fun b Mh_ hb => kX11_laysBeds φ t M ht _ _ hb) rfl rfl hR ⟨Nat.le_of_ble_eq_true rfl, Nat.le_of_ble_eq_true rfl⟩ (Nat.le_of_ble_eq_true rfl) dX11_holesOf_1 (fun vu1 M2 =>
 (x_aload_n g 0 dX11_holesOf_4 rfl rfl
 (x_iload_n g 1 dX11_holesOf_5 rfl rfl
 (x_callVip (As := [.int a1]) g mv_X11_isBed mi_X11_isBed lk_RX11_354 ht (fun b hb => kX11_isBed t a1 M2 ht _ _ hb) rfl rfl hR ⟨Nat.le_of_ble_eq_true rfl, Nat.le_of_ble_eq_true rfl⟩ (Nat.le_of_ble_eq_true rfl) dX11_holesOf_6 (fun v3 =>
 (x_if_eq g 24 dX11_holesOf_9 rfl
 (fun _ => (x_aload_n g 0 dX11_holesOf_24 rfl rfl
 (x_iconst g dX11_holesOf_25 kI_1
 (x_callVi (As := [.int (1 : Int32)]) g mv_X11_refuse mi_X11_refuse lk_RX11_102 ht (fun b Mh_ hb => kX11_refuse t (1 : Int32) M2 ht _ _ hb) rfl rfl hR ⟨Nat.le_of_ble_eq_true rfl, Nat.le_of_ble_eq_true rfl⟩ (Nat.le_of_ble_eq_true rfl) dX11_holesOf_26 (fun v4 M5 =>
 (x_iret g hr rfl rfl dX11_holesOf_29))))))
 (fun _ => (x_aload_n g 0 dX11_holesOf_12 rfl rfl
 (x_aload_n g 0 dX11_holesOf_13 rfl rfl
 (x_iload_n g 1 dX11_holesOf_14 rfl rfl
 (x_callVip (As := [.int a1]) g mv_X11_holesWith mi_X11_holesWith lk_RX11_357 ht (fun b hb => kX11_holesWith φ t a1 M2 ht _ _ hb) rfl rfl hR ⟨Nat.le_of_ble_eq_true rfl, Nat.le_of_ble_eq_true rfl⟩ (Nat.le_of_ble_eq_true rfl) dX11_holesOf_15 (fun v6 =>
 (x_callVi (As := [.int v6]) g mv_X11_gives mi_X11_gives lk_RX11_106 ht (fun b Mh_ hb => kX11_gives t v6 M2 ht _ _ hb) rfl rfl hR ⟨Nat.le_of_ble_eq_true rfl, Nat.le_of_ble_eq_true rfl⟩ (Nat.le_of_ble_eq_true rfl) dX11_holesOf_18 (fun v7 M8 =>
 (x_goto g 29 dX11_holesOf_21 rfl
 (x_iret g hr rfl rfl dX11_holesOf_29))))))))))))))))))
def lX11_thickIn_5 (t : Nat) (x1 : Int32) (x2 : Int32) (M : Mem) : Nat → Int32 → Int32 → Option Int32
  | 0, _, _ => none
  | n + 1, x3, x4 =>
    (fX11_layersOf t x2 M).bind fun v1 =>
 if v1 ≤ x4 then
 some x3
 else
 ixk (((12 : Int32) * x2) + x4) 72 (
 jn (fun (v2 : Int32) => nm (x3 + v2) (fun v4 =>
 lX11_thickIn_5 t x1 x2 M n v4 (x4 + 1))) (fun J3 => if (M.1 (t + 15) (((12 : Int32) * x2) + x4).toNatClampNeg) = x1 then
 (fX11_thickOf t x2 x4 M).bind fun v5 =>
 J3 v5
 else
 J3 (0 : Int32)))
theorem lX11_thickIn_5_s (t : Nat) (x1 : Int32) (x2 : Int32) (M : Mem) (n : Nat) (x3 : Int32) (x4 : Int32) : lX11_thickIn_5 t x1 x2 M (n + 1) x3 x4 =
    (fX11_layersOf t x2 M).bind fun v1 =>
 if v1 ≤ x4 then
 some x3
 else
 ixk (((12 : Int32) * x2) + x4) 72 (
 jn (fun (v2 : Int32) => nm (x3 + v2) (fun v4 =>
 lX11_thickIn_5 t x1 x2 M n v4 (x4 + 1))) (fun J3 => if (M.1 (t + 15) (((12 : Int32) * x2) + x4).toNatClampNeg) = x1 then
 (fX11_thickOf t x2 x4 M).bind fun v5 =>
 J3 v5
 else
 J3 (0 : Int32))) := rfl
theorem lX11_thickIn_5_0 (t : Nat) (x1 : Int32) (x2 : Int32) (M : Mem) (x3 : Int32) (x4 : Int32) : lX11_thickIn_5 t x1 x2 M 0 x3 x4 = none := rfl
set_option maxRecDepth 100000 in
set_option maxHeartbeats 4000000 in
theorem wlX11_thickIn_5 {J : JT} (g : Gd J cX11_thickIn RX11) (hr : Rt J (some .int)) (hR : (JR J).frames = 2 ∧ (JR J).locals = 42) (hn : Jn J = 5) (t : Nat) (x1 : Int32) (x2 : Int32) (M : Mem) (ht : isO 11 t) : ∀ (n : Nat) (x3 : Int32) (x4 : Int32), X J (fun b : Int32 => (some (Value.int b), M)) (lX11_thickIn_5 t x1 x2 M n x3 x4) 5 [(0, .ref t), (1, .int x1), (2, .int x2), (3, .int x3), (4, .int x4)] [] M := by
  intro n
  induction n with
  | zero =>
    intro x3 x4
    exact x_none
  | succ n ih =>
    intro x3 x4
    rw [lX11_thickIn_5_s]
    exact (x_iload g 4 dX11_thickIn_5 rfl
 (x_aload_n g 0 dX11_thickIn_7 rfl rfl
 (x_iload_n g 2 dX11_thickIn_8 rfl rfl
 (x_callVip (As := [.int x2]) g mv_X11_layersOf mi_X11_layersOf lk_RX11_305 ht (fun b hb => kX11_layersOf t x2 M ht _ _ hb) rfl rfl hR ⟨Nat.le_of_ble_eq_true rfl, Nat.le_of_ble_eq_true rfl⟩ (Nat.le_of_ble_eq_true rfl) dX11_thickIn_9 (fun v1 =>
 (x_icmp_ge g 51 dX11_thickIn_12 rfl
 (fun _ => (x_iload_n g 3 dX11_thickIn_51 rfl rfl
 (x_iret g hr rfl rfl dX11_thickIn_52)))
 (fun _ => (x_iload_n g 3 dX11_thickIn_15 rfl rfl
 (x_aload_n g 0 dX11_thickIn_16 rfl rfl
 (x_getS g 15 fl_RX11_68 rfl ht dX11_thickIn_17
 (x_bipush g dX11_thickIn_20 kB_12
 (x_iload_n g 2 dX11_thickIn_22 rfl rfl
 (x_imul g dX11_thickIn_23
 (x_iload g 4 dX11_thickIn_24 rfl
 (x_iadd g dX11_thickIn_26
 (x_iald g (so_11_31 ht) dX11_thickIn_27
 (x_iload_n g 1 dX11_thickIn_28 rfl rfl
 (x_jn (fun (J3 : Int32 → Option Int32) => ∀ (v2 : Int32), X J (fun b : Int32 => (some (Value.int b), M)) (J3 v2) 43 [(0, .ref t), (1, .int x1), (2, .int x2), (4, .int x4)] [.int v2, .int x3] M) (fun v2 => (x_iadd g dX11_thickIn_43
 (x_nmI (fun v4 => (x_istore_n (L' := [(3, .int v4), (0, .ref t), (1, .int x1), (2, .int x2), (4, .int x4)]) g dX11_thickIn_44 rfl hn (Nat.le_of_ble_eq_true rfl) rfl
 (x_iinc (L' := [(4, .int (x4 + 1)), (3, .int v4), (0, .ref t), (1, .int x1), (2, .int x2)]) (v := (x4 + 1)) g 4 dX11_thickIn_45 rfl (by rw [kI_1]) hn (Nat.le_of_ble_eq_true rfl) rfl
 (x_goto g 5 dX11_thickIn_48 rfl
 (x_sub [2, 3, 4, 1, 0] rfl (ih v4 (x4 + 1)))))))))) (fun J3 hJ3 => (x_icmp_ne g 42 dX11_thickIn_29 rfl
 (fun _ => (x_iconst g dX11_thickIn_42 kI_0
 (x_sub [0, 1, 2, 4] rfl (hJ3 (0 : Int32)))))
 (fun _ => (x_aload_n g 0 dX11_thickIn_32 rfl rfl
 (x_iload_n g 2 dX11_thickIn_33 rfl rfl
 (x_iload g 4 dX11_thickIn_34 rfl
 (x_callVip (As := [.int x2, .int x4]) g mv_X11_thickOf mi_X11_thickOf lk_RX11_290 ht (fun b hb => kX11_thickOf t x2 x4 M ht _ _ hb) rfl rfl hR ⟨Nat.le_of_ble_eq_true rfl, Nat.le_of_ble_eq_true rfl⟩ (Nat.le_of_ble_eq_true rfl) dX11_thickIn_36 (fun v5 =>
 (x_goto g 43 dX11_thickIn_39 rfl
 (x_sub [0, 1, 2, 4] rfl (hJ3 v5)))))))))))))))))))))))))))))
def fX11_thickIn (φ : Nat) (t : Nat) (a1 : Int32) (a2 : Int32) (M : Mem) : Option Int32 :=
  lX11_thickIn_5 t a1 a2 M φ (0 : Int32) (0 : Int32)
set_option maxRecDepth 100000 in
set_option maxHeartbeats 4000000 in
theorem kX11_thickIn (φ : Nat) (t : Nat) (a1 : Int32) (a2 : Int32) (M : Mem) (ht : isO 11 t) (l : Launch) (G : GT) {b : Int32} (hE : fX11_thickIn φ t a1 a2 M = some b) : Ok l G yX11_thickIn cX11_thickIn 5 (some .int) 2 42 [.ref t, .int a1, .int a2] M ((fun b : Int32 => (some (Value.int b), M)) b).1 ((fun b : Int32 => (some (Value.int b), M)) b).2 := by
  refine Ok.ofX (pj := (fun b : Int32 => (some (Value.int b), M))) (by decide) (Nat.le_of_ble_eq_true rfl) hE (fun J g hr hG hl hR hn => ?_)
  show X J (fun b : Int32 => (some (Value.int b), M)) (fX11_thickIn φ t a1 a2 M) 0 [(0, .ref t), (1, .int a1), (2, .int a2)] [] M
  unfold fX11_thickIn
  exact (x_iconst g dX11_thickIn_0 kI_0
 (x_istore_n (L' := [(3, .int (0 : Int32)), (0, .ref t), (1, .int a1), (2, .int a2)]) g dX11_thickIn_1 rfl hn (Nat.le_of_ble_eq_true rfl) rfl
 (x_iconst g dX11_thickIn_2 kI_0
 (x_istore (L' := [(4, .int (0 : Int32)), (3, .int (0 : Int32)), (0, .ref t), (1, .int a1), (2, .int a2)]) g dX11_thickIn_3 hn (Nat.le_of_ble_eq_true rfl) rfl
 (x_sub [2, 3, 4, 1, 0] rfl (wlX11_thickIn_5 g hr hR hn  t a1 a2 M ht φ (0 : Int32) (0 : Int32)))))))
def fX11_bed (φ : Nat) (t : Nat) (a1 : Int32) (a2 : Int32) (a3 : Int32) (M : Mem) : Option (Int32 × Mem) :=
  bd (fX11_laysBeds φ t M) fun vu1 M2 =>
 (fX11_isBed t a1 M2).bind fun v3 =>
 if v3 = 0 then
 bd (fX11_refuse t (1 : Int32) M2) fun v4 M5 =>
 some (v4, M5)
 else
 (fX11_isHole t a2 M2).bind fun v6 =>
 if v6 = 0 then
 bd (fX11_refuse t (1 : Int32) M2) fun v7 M8 =>
 some (v7, M8)
 else
 if a3 < 0 then
 bd (fX11_refuse t (1 : Int32) M2) fun v9 M10 =>
 some (v9, M10)
 else
 if a3 ≤ (2 : Int32) then
 (fX11_firstOf φ t a1 a2 M2).bind fun v11 =>
 if v11 = (-1 : Int32) then
 bd (fX11_refuse t (6 : Int32) M2) fun v20 M21 =>
 some (v20, M21)
 else
 if a3 = 0 then
 (fX11_depthOf φ t a2 v11 M2).bind fun v17 =>
 bd (fX11_gives t v17 M2) fun v18 M19 =>
 some (v18, M19)
 else
 if a3 = (1 : Int32) then
 (fX11_thickIn φ t a1 a2 M2).bind fun v14 =>
 bd (fX11_gives t v14 M2) fun v15 M16 =>
 some (v15, M16)
 else
 bd (fX11_gives t v11 M2) fun v12 M13 =>
 some (v12, M13)
 else
 bd (fX11_refuse t (1 : Int32) M2) fun v22 M23 =>
 some (v22, M23)
set_option maxRecDepth 100000 in
set_option maxHeartbeats 4000000 in
theorem kX11_bed (φ : Nat) (t : Nat) (a1 : Int32) (a2 : Int32) (a3 : Int32) (M : Mem) (ht : isO 11 t) (l : Launch) (G : GT) {b : (Int32 × Mem)} (hE : fX11_bed φ t a1 a2 a3 M = some b) : Ok l G yX11_bed cX11_bed 5 (some .int) 5 118 [.ref t, .int a1, .int a2, .int a3] M ((fun q : Int32 × Mem => (some (Value.int q.1), q.2)) b).1 ((fun q : Int32 × Mem => (some (Value.int q.1), q.2)) b).2 := by
  refine Ok.ofX (pj := (fun q : Int32 × Mem => (some (Value.int q.1), q.2))) (by decide) (Nat.le_of_ble_eq_true rfl) hE (fun J g hr hG hl hR hn => ?_)
  show X J (fun q : Int32 × Mem => (some (Value.int q.1), q.2)) (fX11_bed φ t a1 a2 a3 M) 0 [(0, .ref t), (1, .int a1), (2, .int a2), (3, .int a3)] [] M
  unfold fX11_bed
  exact (x_aload_n g 0 dX11_bed_0 rfl rfl
 (x_callVv (As := []) g mv_X11_laysBeds mi_X11_laysBeds lk_RX11_348 ht (fun b Mh_ hb => kX11_laysBeds φ t M ht _ _ hb) rfl rfl hR ⟨Nat.le_of_ble_eq_true rfl, Nat.le_of_ble_eq_true rfl⟩ (Nat.le_of_ble_eq_true rfl) dX11_bed_1 (fun vu1 M2 =>
 (x_aload_n g 0 dX11_bed_4 rfl rfl
 (x_iload_n g 1 dX11_bed_5 rfl rfl
 (x_callVip (As := [.int a1]) g mv_X11_isBed mi_X11_isBed lk_RX11_354 ht (fun b hb => kX11_isBed t a1 M2 ht _ _ hb) rfl rfl hR ⟨Nat.le_of_ble_eq_true rfl, Nat.le_of_ble_eq_true rfl⟩ (Nat.le_of_ble_eq_true rfl) dX11_bed_6 (fun v3 =>
 (x_if_eq g 29 dX11_bed_9 rfl
 (fun _ => (x_aload_n g 0 dX11_bed_29 rfl rfl
 (x_iconst g dX11_bed_30 kI_1
 (x_callVi (As := [.int (1 : Int32)]) g mv_X11_refuse mi_X11_refuse lk_RX11_102 ht (fun b Mh_ hb => kX11_refuse t (1 : Int32) M2 ht _ _ hb) rfl rfl hR ⟨Nat.le_of_ble_eq_true rfl, Nat.le_of_ble_eq_true rfl⟩ (Nat.le_of_ble_eq_true rfl) dX11_bed_31 (fun v4 M5 =>
 (x_iret g hr rfl rfl dX11_bed_34))))))
 (fun _ => (x_aload_n g 0 dX11_bed_12 rfl rfl
 (x_iload_n g 2 dX11_bed_13 rfl rfl
 (x_callVip (As := [.int a2]) g mv_X11_isHole mi_X11_isHole lk_RX11_302 ht (fun b hb => kX11_isHole t a2 M2 ht _ _ hb) rfl rfl hR ⟨Nat.le_of_ble_eq_true rfl, Nat.le_of_ble_eq_true rfl⟩ (Nat.le_of_ble_eq_true rfl) dX11_bed_14 (fun v6 =>
 (x_if_eq g 29 dX11_bed_17 rfl
 (fun _ => (x_aload_n g 0 dX11_bed_29 rfl rfl
 (x_iconst g dX11_bed_30 kI_1
 (x_callVi (As := [.int (1 : Int32)]) g mv_X11_refuse mi_X11_refuse lk_RX11_102 ht (fun b Mh_ hb => kX11_refuse t (1 : Int32) M2 ht _ _ hb) rfl rfl hR ⟨Nat.le_of_ble_eq_true rfl, Nat.le_of_ble_eq_true rfl⟩ (Nat.le_of_ble_eq_true rfl) dX11_bed_31 (fun v7 M8 =>
 (x_iret g hr rfl rfl dX11_bed_34))))))
 (fun _ => (x_iload_n g 3 dX11_bed_20 rfl rfl
 (x_if_lt g 29 dX11_bed_21 rfl
 (fun _ => (x_aload_n g 0 dX11_bed_29 rfl rfl
 (x_iconst g dX11_bed_30 kI_1
 (x_callVi (As := [.int (1 : Int32)]) g mv_X11_refuse mi_X11_refuse lk_RX11_102 ht (fun b Mh_ hb => kX11_refuse t (1 : Int32) M2 ht _ _ hb) rfl rfl hR ⟨Nat.le_of_ble_eq_true rfl, Nat.le_of_ble_eq_true rfl⟩ (Nat.le_of_ble_eq_true rfl) dX11_bed_31 (fun v9 M10 =>
 (x_iret g hr rfl rfl dX11_bed_34))))))
 (fun _ => (x_iload_n g 3 dX11_bed_24 rfl rfl
 (x_iconst g dX11_bed_25 kI_2
 (x_icmp_le g 35 dX11_bed_26 rfl
 (fun _ => (x_aload_n g 0 dX11_bed_35 rfl rfl
 (x_iload_n g 1 dX11_bed_36 rfl rfl
 (x_iload_n g 2 dX11_bed_37 rfl rfl
 (x_callVip (As := [.int a1, .int a2]) g mv_X11_firstOf mi_X11_firstOf lk_RX11_351 ht (fun b hb => kX11_firstOf φ t a1 a2 M2 ht _ _ hb) rfl rfl hR ⟨Nat.le_of_ble_eq_true rfl, Nat.le_of_ble_eq_true rfl⟩ (Nat.le_of_ble_eq_true rfl) dX11_bed_38 (fun v11 =>
 (x_istore (L' := [(4, .int v11), (0, .ref t), (1, .int a1), (2, .int a2), (3, .int a3)]) g dX11_bed_41 hn (Nat.le_of_ble_eq_true rfl) rfl
 (x_iload g 0 dX11_bed_43 rfl
 (x_iconst g dX11_bed_45 kI_m1
 (x_icmp_ne g 56 dX11_bed_46 rfl
 (fun _ => (x_aload_n g 1 dX11_bed_56 rfl rfl
 (x_iload_n g 4 dX11_bed_57 rfl rfl
 (x_if_ne g 71 dX11_bed_58 rfl
 (fun _ => (x_iload_n g 4 dX11_bed_71 rfl rfl
 (x_iconst g dX11_bed_72 kI_1
 (x_icmp_ne g 85 dX11_bed_73 rfl
 (fun _ => (x_iload g 0 dX11_bed_85 rfl
 (x_callVi (As := [.int v11]) g mv_X11_gives mi_X11_gives lk_RX11_106 ht (fun b Mh_ hb => kX11_gives t v11 M2 ht _ _ hb) rfl rfl hR ⟨Nat.le_of_ble_eq_true rfl, Nat.le_of_ble_eq_true rfl⟩ (Nat.le_of_ble_eq_true rfl) dX11_bed_87 (fun v12 M13 =>
 (x_iret g hr rfl rfl dX11_bed_90)))))
 (fun _ => (x_aload_n g 1 dX11_bed_76 rfl rfl
 (x_iload_n g 2 dX11_bed_77 rfl rfl
 (x_iload_n g 3 dX11_bed_78 rfl rfl
 (x_callVip (As := [.int a1, .int a2]) g mv_X11_thickIn mi_X11_thickIn lk_RX11_360 ht (fun b hb => kX11_thickIn φ t a1 a2 M2 ht _ _ hb) rfl rfl hR ⟨Nat.le_of_ble_eq_true rfl, Nat.le_of_ble_eq_true rfl⟩ (Nat.le_of_ble_eq_true rfl) dX11_bed_79 (fun v14 =>
 (x_goto g 87 dX11_bed_82 rfl
 (x_callVi (As := [.int v14]) g mv_X11_gives mi_X11_gives lk_RX11_106 ht (fun b Mh_ hb => kX11_gives t v14 M2 ht _ _ hb) rfl rfl hR ⟨Nat.le_of_ble_eq_true rfl, Nat.le_of_ble_eq_true rfl⟩ (Nat.le_of_ble_eq_true rfl) dX11_bed_87 (fun v15 M16 =>
 (x_iret g hr rfl rfl dX11_bed_90))))))))))))))
 (fun _ => (x_aload_n g 1 dX11_bed_61 rfl rfl
 (x_iload_n g 3 dX11_bed_62 rfl rfl
 (x_iload g 0 dX11_bed_63 rfl
 (x_callVip (As := [.int a2, .int v11]) g mv_X11_depthOf mi_X11_depthOf lk_RX11_314 ht (fun b hb => kX11_depthOf φ t a2 v11 M2 ht _ _ hb) rfl rfl hR ⟨Nat.le_of_ble_eq_true rfl, Nat.le_of_ble_eq_true rfl⟩ (Nat.le_of_ble_eq_true rfl) dX11_bed_65 (fun v17 =>
 (x_goto g 87 dX11_bed_68 rfl
 (x_callVi (As := [.int v17]) g mv_X11_gives mi_X11_gives lk_RX11_106 ht (fun b Mh_ hb => kX11_gives t v17 M2 ht _ _ hb) rfl rfl hR ⟨Nat.le_of_ble_eq_true rfl, Nat.le_of_ble_eq_true rfl⟩ (Nat.le_of_ble_eq_true rfl) dX11_bed_87 (fun v18 M19 =>
 (x_iret g hr rfl rfl dX11_bed_90))))))))))))))
 (fun _ => (x_aload_n g 1 dX11_bed_49 rfl rfl
 (x_bipush g dX11_bed_50 kB_6
 (x_callVi (As := [.int (6 : Int32)]) g mv_X11_refuse mi_X11_refuse lk_RX11_102 ht (fun b Mh_ hb => kX11_refuse t (6 : Int32) M2 ht _ _ hb) rfl rfl hR ⟨Nat.le_of_ble_eq_true rfl, Nat.le_of_ble_eq_true rfl⟩ (Nat.le_of_ble_eq_true rfl) dX11_bed_52 (fun v20 M21 =>
 (x_iret g hr rfl rfl dX11_bed_55))))))))))))))))
 (fun _ => (x_aload_n g 0 dX11_bed_29 rfl rfl
 (x_iconst g dX11_bed_30 kI_1
 (x_callVi (As := [.int (1 : Int32)]) g mv_X11_refuse mi_X11_refuse lk_RX11_102 ht (fun b Mh_ hb => kX11_refuse t (1 : Int32) M2 ht _ _ hb) rfl rfl hR ⟨Nat.le_of_ble_eq_true rfl, Nat.le_of_ble_eq_true rfl⟩ (Nat.le_of_ble_eq_true rfl) dX11_bed_31 (fun v22 M23 =>
 (x_iret g hr rfl rfl dX11_bed_34)))))))))))))))))))))))))))
def lX11_isAbove_2 (φ : Nat) (t : Nat) (x1 : Int32) (x2 : Int32) (M : Mem) : Nat → Int32 → Option Int32
  | 0, _ => none
  | n + 1, x3 =>
    ixk (1 : Int32) 3900 (
 if (M.1 (t + 1) (1 : Int32).toNatClampNeg) ≤ x3 then
 some (0 : Int32)
 else
 (fX11_firstOf φ t x1 x3 M).bind fun v1 =>
 jn (lX11_isAbove_2 φ t x1 x2 M n (x3 + 1)) (fun J2 => if v1 = (-1 : Int32) then
 J2
 else
 (fX11_firstOf φ t x2 x3 M).bind fun v3 =>
 if v3 = (-1 : Int32) then
 J2
 else
 (fX11_firstOf φ t x1 x3 M).bind fun v4 =>
 (fX11_firstOf φ t x2 x3 M).bind fun v5 =>
 if v5 ≤ v4 then
 J2
 else
 some (1 : Int32)))
theorem lX11_isAbove_2_s (φ : Nat) (t : Nat) (x1 : Int32) (x2 : Int32) (M : Mem) (n : Nat) (x3 : Int32) : lX11_isAbove_2 φ t x1 x2 M (n + 1) x3 =
    ixk (1 : Int32) 3900 (
 if (M.1 (t + 1) (1 : Int32).toNatClampNeg) ≤ x3 then
 some (0 : Int32)
 else
 (fX11_firstOf φ t x1 x3 M).bind fun v1 =>
 jn (lX11_isAbove_2 φ t x1 x2 M n (x3 + 1)) (fun J2 => if v1 = (-1 : Int32) then
 J2
 else
 (fX11_firstOf φ t x2 x3 M).bind fun v3 =>
 if v3 = (-1 : Int32) then
 J2
 else
 (fX11_firstOf φ t x1 x3 M).bind fun v4 =>
 (fX11_firstOf φ t x2 x3 M).bind fun v5 =>
 if v5 ≤ v4 then
 J2
 else
 some (1 : Int32))) := rfl
theorem lX11_isAbove_2_0 (φ : Nat) (t : Nat) (x1 : Int32) (x2 : Int32) (M : Mem) (x3 : Int32) : lX11_isAbove_2 φ t x1 x2 M 0 x3 = none := rfl
set_option maxRecDepth 100000 in
set_option maxHeartbeats 4000000 in
theorem wlX11_isAbove_2 {J : JT} (g : Gd J cX11_isAbove RX11) (hr : Rt J (some .boolean)) (hR : (JR J).frames = 3 ∧ (JR J).locals = 64) (hn : Jn J = 4) (φ : Nat) (t : Nat) (x1 : Int32) (x2 : Int32) (M : Mem) (ht : isO 11 t) : ∀ (n : Nat) (x3 : Int32), X J (fun b : Int32 => (some (Value.int b), M)) (lX11_isAbove_2 φ t x1 x2 M n x3) 2 [(0, .ref t), (1, .int x1), (2, .int x2), (3, .int x3)] [] M := by
  intro n
  induction n with
  | zero =>
    intro x3
    exact x_none
  | succ n ih =>
    intro x3
    rw [lX11_isAbove_2_s]
    exact (x_iload_n g 3 dX11_isAbove_2 rfl rfl
 (x_aload_n g 0 dX11_isAbove_3 rfl rfl
 (x_getS g 1 fl_RX11_7 rfl ht dX11_isAbove_4
 (x_iconst g dX11_isAbove_7 kI_1
 (x_iald g (so_11_0 ht) dX11_isAbove_8
 (x_icmp_ge g 55 dX11_isAbove_9 rfl
 (fun _ => (x_iconst g dX11_isAbove_55 kI_0
 (x_iret g hr rfl rfl dX11_isAbove_56)))
 (fun _ => (x_aload_n g 0 dX11_isAbove_12 rfl rfl
 (x_iload_n g 1 dX11_isAbove_13 rfl rfl
 (x_iload_n g 3 dX11_isAbove_14 rfl rfl
 (x_callVip (As := [.int x1, .int x3]) g mv_X11_firstOf mi_X11_firstOf lk_RX11_351 ht (fun b hb => kX11_firstOf φ t x1 x3 M ht _ _ hb) rfl rfl hR ⟨Nat.le_of_ble_eq_true rfl, Nat.le_of_ble_eq_true rfl⟩ (Nat.le_of_ble_eq_true rfl) dX11_isAbove_15 (fun v1 =>
 (x_iconst g dX11_isAbove_18 kI_m1
 (x_jn (fun (J2 : Option Int32) => X J (fun b : Int32 => (some (Value.int b), M)) J2 49 [(0, .ref t), (1, .int x1), (2, .int x2), (3, .int x3)] [] M) (x_iinc (L' := [(3, .int (x3 + 1)), (0, .ref t), (1, .int x1), (2, .int x2)]) (v := (x3 + 1)) g 3 dX11_isAbove_49 rfl (by rw [kI_1]) hn (Nat.le_of_ble_eq_true rfl) rfl
 (x_goto g 2 dX11_isAbove_52 rfl
 (x_sub [1, 2, 3, 0] rfl (ih (x3 + 1))))) (fun J2 hJ2 => (x_icmp_eq g 49 dX11_isAbove_19 rfl
 (fun _ => (hJ2))
 (fun _ => (x_aload_n g 0 dX11_isAbove_22 rfl rfl
 (x_iload_n g 2 dX11_isAbove_23 rfl rfl
 (x_iload_n g 3 dX11_isAbove_24 rfl rfl
 (x_callVip (As := [.int x2, .int x3]) g mv_X11_firstOf mi_X11_firstOf lk_RX11_351 ht (fun b hb => kX11_firstOf φ t x2 x3 M ht _ _ hb) rfl rfl hR ⟨Nat.le_of_ble_eq_true rfl, Nat.le_of_ble_eq_true rfl⟩ (Nat.le_of_ble_eq_true rfl) dX11_isAbove_25 (fun v3 =>
 (x_iconst g dX11_isAbove_28 kI_m1
 (x_icmp_eq g 49 dX11_isAbove_29 rfl
 (fun _ => (hJ2))
 (fun _ => (x_aload_n g 0 dX11_isAbove_32 rfl rfl
 (x_iload_n g 1 dX11_isAbove_33 rfl rfl
 (x_iload_n g 3 dX11_isAbove_34 rfl rfl
 (x_callVip (As := [.int x1, .int x3]) g mv_X11_firstOf mi_X11_firstOf lk_RX11_351 ht (fun b hb => kX11_firstOf φ t x1 x3 M ht _ _ hb) rfl rfl hR ⟨Nat.le_of_ble_eq_true rfl, Nat.le_of_ble_eq_true rfl⟩ (Nat.le_of_ble_eq_true rfl) dX11_isAbove_35 (fun v4 =>
 (x_aload_n g 0 dX11_isAbove_38 rfl rfl
 (x_iload_n g 2 dX11_isAbove_39 rfl rfl
 (x_iload_n g 3 dX11_isAbove_40 rfl rfl
 (x_callVip (As := [.int x2, .int x3]) g mv_X11_firstOf mi_X11_firstOf lk_RX11_351 ht (fun b hb => kX11_firstOf φ t x2 x3 M ht _ _ hb) rfl rfl hR ⟨Nat.le_of_ble_eq_true rfl, Nat.le_of_ble_eq_true rfl⟩ (Nat.le_of_ble_eq_true rfl) dX11_isAbove_41 (fun v5 =>
 (x_icmp_ge g 49 dX11_isAbove_44 rfl
 (fun _ => (hJ2))
 (fun _ => (x_iconst g dX11_isAbove_47 kI_1
 (x_iret g hr rfl rfl dX11_isAbove_48)))))))))))))))))))))))))))))))))))))))
def fX11_isAbove (φ : Nat) (t : Nat) (a1 : Int32) (a2 : Int32) (M : Mem) : Option Int32 :=
  lX11_isAbove_2 φ t a1 a2 M φ (0 : Int32)
set_option maxRecDepth 100000 in
set_option maxHeartbeats 4000000 in
theorem kX11_isAbove (φ : Nat) (t : Nat) (a1 : Int32) (a2 : Int32) (M : Mem) (ht : isO 11 t) (l : Launch) (G : GT) {b : Int32} (hE : fX11_isAbove φ t a1 a2 M = some b) : Ok l G yX11_isAbove cX11_isAbove 4 (some .boolean) 3 64 [.ref t, .int a1, .int a2] M ((fun b : Int32 => (some (Value.int b), M)) b).1 ((fun b : Int32 => (some (Value.int b), M)) b).2 := by
  refine Ok.ofX (pj := (fun b : Int32 => (some (Value.int b), M))) (by decide) (Nat.le_of_ble_eq_true rfl) hE (fun J g hr hG hl hR hn => ?_)
  show X J (fun b : Int32 => (some (Value.int b), M)) (fX11_isAbove φ t a1 a2 M) 0 [(0, .ref t), (1, .int a1), (2, .int a2)] [] M
  unfold fX11_isAbove
  exact (x_iconst g dX11_isAbove_0 kI_0
 (x_istore_n (L' := [(3, .int (0 : Int32)), (0, .ref t), (1, .int a1), (2, .int a2)]) g dX11_isAbove_1 rfl hn (Nat.le_of_ble_eq_true rfl) rfl
 (x_sub [1, 2, 3, 0] rfl (wlX11_isAbove_2 g hr hR hn  φ t a1 a2 M ht φ (0 : Int32)))))
def fX11_above (φ : Nat) (t : Nat) (a1 : Int32) (a2 : Int32) (M : Mem) : Option (Int32 × Mem) :=
  bd (fX11_laysBeds φ t M) fun vu1 M2 =>
 (fX11_isBed t a1 M2).bind fun v3 =>
 if v3 = 0 then
 bd (fX11_refuse t (1 : Int32) M2) fun v4 M5 =>
 some (v4, M5)
 else
 (fX11_isBed t a2 M2).bind fun v6 =>
 if v6 = 0 then
 bd (fX11_refuse t (1 : Int32) M2) fun v7 M8 =>
 some (v7, M8)
 else
 (fX11_isAbove φ t a1 a2 M2).bind fun v9 =>
 if v9 = 0 then
 bd (fX11_gives t (0 : Int32) M2) fun v10 M11 =>
 some (v10, M11)
 else
 bd (fX11_gives t (1 : Int32) M2) fun v12 M13 =>
 some (v12, M13)
set_option maxRecDepth 100000 in
set_option maxHeartbeats 4000000 in
theorem kX11_above (φ : Nat) (t : Nat) (a1 : Int32) (a2 : Int32) (M : Mem) (ht : isO 11 t) (l : Launch) (G : GT) {b : (Int32 × Mem)} (hE : fX11_above φ t a1 a2 M = some b) : Ok l G yX11_above cX11_above 3 (some .int) 5 118 [.ref t, .int a1, .int a2] M ((fun q : Int32 × Mem => (some (Value.int q.1), q.2)) b).1 ((fun q : Int32 × Mem => (some (Value.int q.1), q.2)) b).2 := by
  refine Ok.ofX (pj := (fun q : Int32 × Mem => (some (Value.int q.1), q.2))) (by decide) (Nat.le_of_ble_eq_true rfl) hE (fun J g hr hG hl hR hn => ?_)
  show X J (fun q : Int32 × Mem => (some (Value.int q.1), q.2)) (fX11_above φ t a1 a2 M) 0 [(0, .ref t), (1, .int a1), (2, .int a2)] [] M
  unfold fX11_above
  exact (x_aload_n g 0 dX11_above_0 rfl rfl
 (x_callVv (As := []) g mv_X11_laysBeds mi_X11_laysBeds lk_RX11_348 ht (fun b Mh_ hb => kX11_laysBeds φ t M ht _ _ hb) rfl rfl hR ⟨Nat.le_of_ble_eq_true rfl, Nat.le_of_ble_eq_true rfl⟩ (Nat.le_of_ble_eq_true rfl) dX11_above_1 (fun vu1 M2 =>
 (x_aload_n g 0 dX11_above_4 rfl rfl
 (x_iload_n g 1 dX11_above_5 rfl rfl
 (x_callVip (As := [.int a1]) g mv_X11_isBed mi_X11_isBed lk_RX11_354 ht (fun b hb => kX11_isBed t a1 M2 ht _ _ hb) rfl rfl hR ⟨Nat.le_of_ble_eq_true rfl, Nat.le_of_ble_eq_true rfl⟩ (Nat.le_of_ble_eq_true rfl) dX11_above_6 (fun v3 =>
 (x_if_eq g 41 dX11_above_9 rfl
 (fun _ => (x_aload_n g 0 dX11_above_41 rfl rfl
 (x_iconst g dX11_above_42 kI_1
 (x_callVi (As := [.int (1 : Int32)]) g mv_X11_refuse mi_X11_refuse lk_RX11_102 ht (fun b Mh_ hb => kX11_refuse t (1 : Int32) M2 ht _ _ hb) rfl rfl hR ⟨Nat.le_of_ble_eq_true rfl, Nat.le_of_ble_eq_true rfl⟩ (Nat.le_of_ble_eq_true rfl) dX11_above_43 (fun v4 M5 =>
 (x_iret g hr rfl rfl dX11_above_46))))))
 (fun _ => (x_aload_n g 0 dX11_above_12 rfl rfl
 (x_iload_n g 2 dX11_above_13 rfl rfl
 (x_callVip (As := [.int a2]) g mv_X11_isBed mi_X11_isBed lk_RX11_354 ht (fun b hb => kX11_isBed t a2 M2 ht _ _ hb) rfl rfl hR ⟨Nat.le_of_ble_eq_true rfl, Nat.le_of_ble_eq_true rfl⟩ (Nat.le_of_ble_eq_true rfl) dX11_above_14 (fun v6 =>
 (x_if_eq g 41 dX11_above_17 rfl
 (fun _ => (x_aload_n g 0 dX11_above_41 rfl rfl
 (x_iconst g dX11_above_42 kI_1
 (x_callVi (As := [.int (1 : Int32)]) g mv_X11_refuse mi_X11_refuse lk_RX11_102 ht (fun b Mh_ hb => kX11_refuse t (1 : Int32) M2 ht _ _ hb) rfl rfl hR ⟨Nat.le_of_ble_eq_true rfl, Nat.le_of_ble_eq_true rfl⟩ (Nat.le_of_ble_eq_true rfl) dX11_above_43 (fun v7 M8 =>
 (x_iret g hr rfl rfl dX11_above_46))))))
 (fun _ => (x_aload_n g 0 dX11_above_20 rfl rfl
 (x_aload_n g 0 dX11_above_21 rfl rfl
 (x_iload_n g 1 dX11_above_22 rfl rfl
 (x_iload_n g 2 dX11_above_23 rfl rfl
 (x_callVip (As := [.int a1, .int a2]) g mv_X11_isAbove mi_X11_isAbove lk_RX11_363 ht (fun b hb => kX11_isAbove φ t a1 a2 M2 ht _ _ hb) rfl rfl hR ⟨Nat.le_of_ble_eq_true rfl, Nat.le_of_ble_eq_true rfl⟩ (Nat.le_of_ble_eq_true rfl) dX11_above_24 (fun v9 =>
 (x_if_eq g 34 dX11_above_27 rfl
 (fun _ => (x_iconst g dX11_above_34 kI_0
 (x_callVi (As := [.int (0 : Int32)]) g mv_X11_gives mi_X11_gives lk_RX11_106 ht (fun b Mh_ hb => kX11_gives t (0 : Int32) M2 ht _ _ hb) rfl rfl hR ⟨Nat.le_of_ble_eq_true rfl, Nat.le_of_ble_eq_true rfl⟩ (Nat.le_of_ble_eq_true rfl) dX11_above_35 (fun v10 M11 =>
 (x_goto g 46 dX11_above_38 rfl
 (x_iret g hr rfl rfl dX11_above_46))))))
 (fun _ => (x_iconst g dX11_above_30 kI_1
 (x_goto g 35 dX11_above_31 rfl
 (x_callVi (As := [.int (1 : Int32)]) g mv_X11_gives mi_X11_gives lk_RX11_106 ht (fun b Mh_ hb => kX11_gives t (1 : Int32) M2 ht _ _ hb) rfl rfl hR ⟨Nat.le_of_ble_eq_true rfl, Nat.le_of_ble_eq_true rfl⟩ (Nat.le_of_ble_eq_true rfl) dX11_above_35 (fun v12 M13 =>
 (x_goto g 46 dX11_above_38 rfl
 (x_iret g hr rfl rfl dX11_above_46)))))))))))))))))))))))))))))
def lX11_orders_2 (K23 : Mem → Option (Int32 × Mem)) (t : Nat) : Nat → Int32 → Mem → Option (Int32 × Mem)
  | 0, _, _ => none
  | n + 1, x1, M =>
    if (M.1 t 32) ≤ x1 then
 K23 M
 else
 ixk x1 72 (nm (stI M (t + 16) x1.toNatClampNeg (vp_nar .boolean (0 : Int32))) (fun M1 =>
 lX11_orders_2 K23 t n (x1 + 1) M1))
theorem lX11_orders_2_s (K23 : Mem → Option (Int32 × Mem)) (t : Nat) (n : Nat) (x1 : Int32) (M : Mem) : lX11_orders_2 K23 t (n + 1) x1 M =
    if (M.1 t 32) ≤ x1 then
 K23 M
 else
 ixk x1 72 (nm (stI M (t + 16) x1.toNatClampNeg (vp_nar .boolean (0 : Int32))) (fun M1 =>
 lX11_orders_2 K23 t n (x1 + 1) M1)) := rfl
theorem lX11_orders_2_0 (K23 : Mem → Option (Int32 × Mem)) (t : Nat) (x1 : Int32) (M : Mem) : lX11_orders_2 K23 t 0 x1 M = none := rfl
set_option maxRecDepth 100000 in
set_option maxHeartbeats 4000000 in
theorem wlX11_orders_2 {J : JT} (g : Gd J cX11_orders RX11) (hr : Rt J (some .boolean)) (hR : (JR J).frames = 4 ∧ (JR J).locals = 87) (hn : Jn J = 6) (K23 : Mem → Option (Int32 × Mem)) (t : Nat) (ht : isO 11 t) (hK23 : ∀ (M : Mem), X J (fun q : Int32 × Mem => (some (Value.int q.1), q.2)) (K23 M) 23 [(0, .ref t)] [] M) : ∀ (n : Nat) (x1 : Int32) (M : Mem), X J (fun q : Int32 × Mem => (some (Value.int q.1), q.2)) (lX11_orders_2 K23 t n x1 M) 2 [(0, .ref t), (1, .int x1)] [] M := by
  intro n
  induction n with
  | zero =>
    intro x1 M
    exact x_none
  | succ n ih =>
    intro x1 M
    rw [lX11_orders_2_s]
    exact (x_iload_n g 1 dX11_orders_2 rfl rfl
 (x_aload_n g 0 dX11_orders_3 rfl rfl
 (x_getI g fl_RX11_345 rfl ht dX11_orders_4
 (x_icmp_ge g 23 dX11_orders_7 rfl
 (fun _ => (x_sub [0] rfl (hK23 M)))
 (fun _ => (x_aload_n g 0 dX11_orders_10 rfl rfl
 (x_getS g 16 fl_RX11_71 rfl ht dX11_orders_11
 (x_iload_n g 1 dX11_orders_14 rfl rfl
 (x_iconst g dX11_orders_15 kI_0
 (x_zast g (so_11_33 ht) dX11_orders_16 (x_nmM (fun M1 =>
 (x_iinc (L' := [(1, .int (x1 + 1)), (0, .ref t)]) (v := (x1 + 1)) g 1 dX11_orders_17 rfl (by rw [kI_1]) hn (Nat.le_of_ble_eq_true rfl) rfl
 (x_goto g 2 dX11_orders_20 rfl
 (x_sub [1, 0] rfl (ih (x1 + 1) M1))))))))))))))))
def lX11_orders_69 (K122 : Int32 → Option (Int32 × Mem)) (φ : Nat) (t : Nat) (x1 : Int32) (x2 : Int32) (x3 : Int32) (M : Mem) : Nat → Int32 → Int32 → Option (Int32 × Mem)
  | 0, _, _ => none
  | n + 1, x4, x5 =>
    if (M.1 t 32) ≤ x5 then
 K122 x4
 else
 if x4 = 0 then
 K122 x4
 else
 jn (fun (v5 : Int32) => lX11_orders_69 K122 φ t x1 x2 x3 M n v5 (x5 + 1)) (fun J6 => jn (J6 (1 : Int32)) (fun J7 => if x5 = x3 then
 J7
 else
 ixk x5 72 (
 if (M.1 (t + 16) x5.toNatClampNeg) = 0 then
 (fX11_isAbove φ t x5 x3 M).bind fun v8 =>
 if v8 = 0 then
 J7
 else
 J6 (0 : Int32)
 else
 J7)))
theorem lX11_orders_69_s (K122 : Int32 → Option (Int32 × Mem)) (φ : Nat) (t : Nat) (x1 : Int32) (x2 : Int32) (x3 : Int32) (M : Mem) (n : Nat) (x4 : Int32) (x5 : Int32) : lX11_orders_69 K122 φ t x1 x2 x3 M (n + 1) x4 x5 =
    if (M.1 t 32) ≤ x5 then
 K122 x4
 else
 if x4 = 0 then
 K122 x4
 else
 jn (fun (v5 : Int32) => lX11_orders_69 K122 φ t x1 x2 x3 M n v5 (x5 + 1)) (fun J6 => jn (J6 (1 : Int32)) (fun J7 => if x5 = x3 then
 J7
 else
 ixk x5 72 (
 if (M.1 (t + 16) x5.toNatClampNeg) = 0 then
 (fX11_isAbove φ t x5 x3 M).bind fun v8 =>
 if v8 = 0 then
 J7
 else
 J6 (0 : Int32)
 else
 J7))) := rfl
theorem lX11_orders_69_0 (K122 : Int32 → Option (Int32 × Mem)) (φ : Nat) (t : Nat) (x1 : Int32) (x2 : Int32) (x3 : Int32) (M : Mem) (x4 : Int32) (x5 : Int32) : lX11_orders_69 K122 φ t x1 x2 x3 M 0 x4 x5 = none := rfl
set_option maxRecDepth 100000 in
set_option maxHeartbeats 4000000 in
theorem wlX11_orders_69 {J : JT} (g : Gd J cX11_orders RX11) (hr : Rt J (some .boolean)) (hR : (JR J).frames = 4 ∧ (JR J).locals = 87) (hn : Jn J = 6) (K122 : Int32 → Option (Int32 × Mem)) (φ : Nat) (t : Nat) (x1 : Int32) (x2 : Int32) (x3 : Int32) (M : Mem) (ht : isO 11 t) (hK122 : ∀ (y4 : Int32), X J (fun q : Int32 × Mem => (some (Value.int q.1), q.2)) (K122 y4) 122 [(0, .ref t), (1, .int x1), (2, .int x2), (3, .int x3), (4, .int y4)] [] M) : ∀ (n : Nat) (x4 : Int32) (x5 : Int32), X J (fun q : Int32 × Mem => (some (Value.int q.1), q.2)) (lX11_orders_69 K122 φ t x1 x2 x3 M n x4 x5) 69 [(0, .ref t), (1, .int x1), (2, .int x2), (3, .int x3), (4, .int x4), (5, .int x5)] [] M := by
  intro n
  induction n with
  | zero =>
    intro x4 x5
    exact x_none
  | succ n ih =>
    intro x4 x5
    rw [lX11_orders_69_s]
    exact (x_iload g 5 dX11_orders_69 rfl
 (x_aload_n g 0 dX11_orders_71 rfl rfl
 (x_getI g fl_RX11_345 rfl ht dX11_orders_72
 (x_icmp_ge g 122 dX11_orders_75 rfl
 (fun _ => (x_sub [0, 1, 2, 3, 4] rfl (hK122 x4)))
 (fun _ => (x_iload g 4 dX11_orders_78 rfl
 (x_if_eq g 122 dX11_orders_80 rfl
 (fun _ => (x_sub [0, 1, 2, 3, 4] rfl (hK122 x4)))
 (fun _ => (x_iload g 5 dX11_orders_83 rfl
 (x_iload_n g 3 dX11_orders_85 rfl rfl
 (x_jn (fun (J6 : Int32 → Option (Int32 × Mem)) => ∀ (v5 : Int32), X J (fun q : Int32 × Mem => (some (Value.int q.1), q.2)) (J6 v5) 114 [(0, .ref t), (1, .int x1), (2, .int x2), (3, .int x3), (5, .int x5)] [.int v5] M) (fun v5 => (x_istore (L' := [(4, .int v5), (0, .ref t), (1, .int x1), (2, .int x2), (3, .int x3), (5, .int x5)]) g dX11_orders_114 hn (Nat.le_of_ble_eq_true rfl) rfl
 (x_iinc (L' := [(5, .int (x5 + 1)), (4, .int v5), (0, .ref t), (1, .int x1), (2, .int x2), (3, .int x3)]) (v := (x5 + 1)) g 5 dX11_orders_116 rfl (by rw [kI_1]) hn (Nat.le_of_ble_eq_true rfl) rfl
 (x_goto g 69 dX11_orders_119 rfl
 (x_sub [2, 3, 4, 5, 1, 0] rfl (ih v5 (x5 + 1))))))) (fun J6 hJ6 => (x_jn (fun (J7 : Option (Int32 × Mem)) => X J (fun q : Int32 × Mem => (some (Value.int q.1), q.2)) J7 109 [(0, .ref t), (1, .int x1), (2, .int x2), (3, .int x3), (5, .int x5)] [] M) (x_iconst g dX11_orders_109 kI_1
 (x_goto g 114 dX11_orders_110 rfl
 (hJ6 (1 : Int32)))) (fun J7 hJ7 => (x_icmp_eq g 109 dX11_orders_86 rfl
 (fun _ => (x_sub [0, 1, 2, 3, 5] rfl (hJ7)))
 (fun _ => (x_aload_n g 0 dX11_orders_89 rfl rfl
 (x_getS g 16 fl_RX11_71 rfl ht dX11_orders_90
 (x_iload g 5 dX11_orders_93 rfl
 (x_zald g (so_11_33 ht) dX11_orders_95
 (x_if_ne g 109 dX11_orders_96 rfl
 (fun _ => (x_sub [0, 1, 2, 3, 5] rfl (hJ7)))
 (fun _ => (x_aload_n g 0 dX11_orders_99 rfl rfl
 (x_iload g 5 dX11_orders_100 rfl
 (x_iload_n g 3 dX11_orders_102 rfl rfl
 (x_callVip (As := [.int x5, .int x3]) g mv_X11_isAbove mi_X11_isAbove lk_RX11_363 ht (fun b hb => kX11_isAbove φ t x5 x3 M ht _ _ hb) rfl rfl hR ⟨Nat.le_of_ble_eq_true rfl, Nat.le_of_ble_eq_true rfl⟩ (Nat.le_of_ble_eq_true rfl) dX11_orders_103 (fun v8 =>
 (x_if_ne g 113 dX11_orders_106 rfl
 (fun _ => (x_iconst g dX11_orders_113 kI_0
 (x_sub [0, 1, 2, 3, 5] rfl (hJ6 (0 : Int32)))))
 (fun _ => (x_sub [0, 1, 2, 3, 5] rfl (hJ7)))))))))))))))))))))))))))))))
def lX11_orders_37 (K135 : Int32 → Option (Int32 × Mem)) (φ : Nat) (t : Nat) (x1 : Int32) (M : Mem) : Nat → Int32 → Int32 → Option (Int32 × Mem)
  | 0, _, _ => none
  | n + 1, x2, x3 =>
    if (M.1 t 32) ≤ x3 then
 K135 x2
 else
 if x2 = (-1 : Int32) then
 ixk x3 72 (
 jn (fun (v3 : Int32) => lX11_orders_69 (fun (v9 : Int32) => jn (fun (v10 : Int32) => lX11_orders_37 K135 φ t x1 M n v10 (x3 + 1)) (fun J11 => if v9 = 0 then
 J11 x2
 else
 J11 x3)) φ t x1 x2 x3 M φ v3 (0 : Int32)) (fun J4 => if (M.1 (t + 16) x3.toNatClampNeg) = 0 then
 J4 (1 : Int32)
 else
 J4 (0 : Int32)))
 else
 K135 x2
theorem lX11_orders_37_s (K135 : Int32 → Option (Int32 × Mem)) (φ : Nat) (t : Nat) (x1 : Int32) (M : Mem) (n : Nat) (x2 : Int32) (x3 : Int32) : lX11_orders_37 K135 φ t x1 M (n + 1) x2 x3 =
    if (M.1 t 32) ≤ x3 then
 K135 x2
 else
 if x2 = (-1 : Int32) then
 ixk x3 72 (
 jn (fun (v3 : Int32) => lX11_orders_69 (fun (v9 : Int32) => jn (fun (v10 : Int32) => lX11_orders_37 K135 φ t x1 M n v10 (x3 + 1)) (fun J11 => if v9 = 0 then
 J11 x2
 else
 J11 x3)) φ t x1 x2 x3 M φ v3 (0 : Int32)) (fun J4 => if (M.1 (t + 16) x3.toNatClampNeg) = 0 then
 J4 (1 : Int32)
 else
 J4 (0 : Int32)))
 else
 K135 x2 := rfl
theorem lX11_orders_37_0 (K135 : Int32 → Option (Int32 × Mem)) (φ : Nat) (t : Nat) (x1 : Int32) (M : Mem) (x2 : Int32) (x3 : Int32) : lX11_orders_37 K135 φ t x1 M 0 x2 x3 = none := rfl
set_option maxRecDepth 100000 in
set_option maxHeartbeats 4000000 in
theorem wlX11_orders_37 {J : JT} (g : Gd J cX11_orders RX11) (hr : Rt J (some .boolean)) (hR : (JR J).frames = 4 ∧ (JR J).locals = 87) (hn : Jn J = 6) (K135 : Int32 → Option (Int32 × Mem)) (φ : Nat) (t : Nat) (x1 : Int32) (M : Mem) (ht : isO 11 t) (hK135 : ∀ (y2 : Int32), X J (fun q : Int32 × Mem => (some (Value.int q.1), q.2)) (K135 y2) 135 [(0, .ref t), (1, .int x1), (2, .int y2)] [] M) : ∀ (n : Nat) (x2 : Int32) (x3 : Int32), X J (fun q : Int32 × Mem => (some (Value.int q.1), q.2)) (lX11_orders_37 K135 φ t x1 M n x2 x3) 37 [(0, .ref t), (1, .int x1), (2, .int x2), (3, .int x3)] [] M := by
  intro n
  induction n with
  | zero =>
    intro x2 x3
    exact x_none
  | succ n ih =>
    intro x2 x3
    rw [lX11_orders_37_s]
    exact (x_iload_n g 3 dX11_orders_37 rfl rfl
 (x_aload_n g 0 dX11_orders_38 rfl rfl
 (x_getI g fl_RX11_345 rfl ht dX11_orders_39
 (x_icmp_ge g 135 dX11_orders_42 rfl
 (fun _ => (x_sub [0, 1, 2] rfl (hK135 x2)))
 (fun _ => (x_iload_n g 2 dX11_orders_45 rfl rfl
 (x_iconst g dX11_orders_46 kI_m1
 (x_icmp_ne g 135 dX11_orders_47 rfl
 (fun _ => (x_sub [0, 1, 2] rfl (hK135 x2)))
 (fun _ => (x_aload_n g 0 dX11_orders_50 rfl rfl
 (x_getS g 16 fl_RX11_71 rfl ht dX11_orders_51
 (x_iload_n g 3 dX11_orders_54 rfl rfl
 (x_zald g (so_11_33 ht) dX11_orders_55
 (x_jn (fun (J4 : Int32 → Option (Int32 × Mem)) => ∀ (v3 : Int32), X J (fun q : Int32 × Mem => (some (Value.int q.1), q.2)) (J4 v3) 64 [(0, .ref t), (1, .int x1), (2, .int x2), (3, .int x3)] [.int v3] M) (fun v3 => (x_istore (L' := [(4, .int v3), (0, .ref t), (1, .int x1), (2, .int x2), (3, .int x3)]) g dX11_orders_64 hn (Nat.le_of_ble_eq_true rfl) rfl
 (x_iconst g dX11_orders_66 kI_0
 (x_istore (L' := [(5, .int (0 : Int32)), (4, .int v3), (0, .ref t), (1, .int x1), (2, .int x2), (3, .int x3)]) g dX11_orders_67 hn (Nat.le_of_ble_eq_true rfl) rfl
 (x_sub [2, 3, 4, 5, 1, 0] rfl (wlX11_orders_69 g hr hR hn _ φ t x1 x2 x3 M ht
 (fun v9 => by exact (x_iload g 4 dX11_orders_122 rfl
 (x_jn (fun (J11 : Int32 → Option (Int32 × Mem)) => ∀ (v10 : Int32), X J (fun q : Int32 × Mem => (some (Value.int q.1), q.2)) (J11 v10) 129 [(0, .ref t), (1, .int x1), (2, .int v10), (3, .int x3)] [] M) (fun v10 => (x_iinc (L' := [(3, .int (x3 + 1)), (0, .ref t), (1, .int x1), (2, .int v10)]) (v := (x3 + 1)) g 3 dX11_orders_129 rfl (by rw [kI_1]) hn (Nat.le_of_ble_eq_true rfl) rfl
 (x_goto g 37 dX11_orders_132 rfl
 (x_sub [1, 2, 3, 0] rfl (ih v10 (x3 + 1)))))) (fun J11 hJ11 => (x_if_eq g 129 dX11_orders_124 rfl
 (fun _ => (x_sub [0, 1, 2, 3] rfl (hJ11 x2)))
 (fun _ => (x_iload_n g 3 dX11_orders_127 rfl rfl
 (x_istore_n (L' := [(2, .int x3), (0, .ref t), (1, .int x1), (3, .int x3), (4, .int v9)]) g dX11_orders_128 rfl hn (Nat.le_of_ble_eq_true rfl) rfl
 (x_sub [1, 2, 0, 3] rfl (hJ11 x3)))))))))) φ v3 (0 : Int32))))))) (fun J4 hJ4 => (x_if_ne g 63 dX11_orders_56 rfl
 (fun _ => (x_iconst g dX11_orders_63 kI_0
 (hJ4 (0 : Int32))))
 (fun _ => (x_iconst g dX11_orders_59 kI_1
 (x_goto g 64 dX11_orders_60 rfl
 (hJ4 (1 : Int32)))))))))))))))))))))
def lX11_orders_25 (φ : Nat) (t : Nat) : Nat → Int32 → Mem → Option (Int32 × Mem)
  | 0, _, _ => none
  | n + 1, x1, M =>
    if (M.1 t 32) ≤ x1 then
 some ((1 : Int32), M)
 else
 lX11_orders_37 (fun (v12 : Int32) => if v12 = (-1 : Int32) then
 some ((0 : Int32), M)
 else
 ixk v12 72 (nm (stI M (t + 16) v12.toNatClampNeg (vp_nar .boolean (1 : Int32))) (fun M13 =>
 ixk x1 72 (nm (stI M13 (t + 17) x1.toNatClampNeg v12) (fun M14 =>
 lX11_orders_25 φ t n (x1 + 1) M14))))) φ t x1 M φ (-1 : Int32) (0 : Int32)
theorem lX11_orders_25_s (φ : Nat) (t : Nat) (n : Nat) (x1 : Int32) (M : Mem) : lX11_orders_25 φ t (n + 1) x1 M =
    if (M.1 t 32) ≤ x1 then
 some ((1 : Int32), M)
 else
 lX11_orders_37 (fun (v12 : Int32) => if v12 = (-1 : Int32) then
 some ((0 : Int32), M)
 else
 ixk v12 72 (nm (stI M (t + 16) v12.toNatClampNeg (vp_nar .boolean (1 : Int32))) (fun M13 =>
 ixk x1 72 (nm (stI M13 (t + 17) x1.toNatClampNeg v12) (fun M14 =>
 lX11_orders_25 φ t n (x1 + 1) M14))))) φ t x1 M φ (-1 : Int32) (0 : Int32) := rfl
theorem lX11_orders_25_0 (φ : Nat) (t : Nat) (x1 : Int32) (M : Mem) : lX11_orders_25 φ t 0 x1 M = none := rfl
set_option maxRecDepth 100000 in
set_option maxHeartbeats 4000000 in
theorem wlX11_orders_25 {J : JT} (g : Gd J cX11_orders RX11) (hr : Rt J (some .boolean)) (hR : (JR J).frames = 4 ∧ (JR J).locals = 87) (hn : Jn J = 6) (φ : Nat) (t : Nat) (ht : isO 11 t) : ∀ (n : Nat) (x1 : Int32) (M : Mem), X J (fun q : Int32 × Mem => (some (Value.int q.1), q.2)) (lX11_orders_25 φ t n x1 M) 25 [(0, .ref t), (1, .int x1)] [] M := by
  intro n
  induction n with
  | zero =>
    intro x1 M
    exact x_none
  | succ n ih =>
    intro x1 M
    rw [lX11_orders_25_s]
    exact (x_iload_n g 1 dX11_orders_25 rfl rfl
 (x_aload_n g 0 dX11_orders_26 rfl rfl
 (x_getI g fl_RX11_345 rfl ht dX11_orders_27
 (x_icmp_ge g 162 dX11_orders_30 rfl
 (fun _ => (x_iconst g dX11_orders_162 kI_1
 (x_iret g hr rfl rfl dX11_orders_163)))
 (fun _ => (x_iconst g dX11_orders_33 kI_m1
 (x_istore_n (L' := [(2, .int (-1 : Int32)), (0, .ref t), (1, .int x1)]) g dX11_orders_34 rfl hn (Nat.le_of_ble_eq_true rfl) rfl
 (x_iconst g dX11_orders_35 kI_0
 (x_istore_n (L' := [(3, .int (0 : Int32)), (2, .int (-1 : Int32)), (0, .ref t), (1, .int x1)]) g dX11_orders_36 rfl hn (Nat.le_of_ble_eq_true rfl) rfl
 (x_sub [2, 3, 1, 0] rfl (wlX11_orders_37 g hr hR hn _ φ t x1 M ht
 (fun v12 => by exact (x_iload_n g 2 dX11_orders_135 rfl rfl
 (x_iconst g dX11_orders_136 kI_m1
 (x_icmp_ne g 142 dX11_orders_137 rfl
 (fun _ => (x_aload_n g 0 dX11_orders_142 rfl rfl
 (x_getS g 16 fl_RX11_71 rfl ht dX11_orders_143
 (x_iload_n g 2 dX11_orders_146 rfl rfl
 (x_iconst g dX11_orders_147 kI_1
 (x_zast g (so_11_33 ht) dX11_orders_148 (x_nmM (fun M13 =>
 (x_aload_n g 0 dX11_orders_149 rfl rfl
 (x_getS g 17 fl_RX11_75 rfl ht dX11_orders_150
 (x_iload_n g 1 dX11_orders_153 rfl rfl
 (x_iload_n g 2 dX11_orders_154 rfl rfl
 (x_iast g (so_11_34 ht) dX11_orders_155 (x_nmM (fun M14 =>
 (x_iinc (L' := [(1, .int (x1 + 1)), (0, .ref t), (2, .int v12)]) (v := (x1 + 1)) g 1 dX11_orders_156 rfl (by rw [kI_1]) hn (Nat.le_of_ble_eq_true rfl) rfl
 (x_goto g 25 dX11_orders_159 rfl
 (x_sub [1, 0] rfl (ih (x1 + 1) M14)))))))))))))))))))
 (fun _ => (x_iconst g dX11_orders_140 kI_0
 (x_iret g hr rfl rfl dX11_orders_141))))))) φ (-1 : Int32) (0 : Int32))))))))))))
def fX11_orders (φ : Nat) (t : Nat) (M : Mem) : Option (Int32 × Mem) :=
  lX11_orders_2 (fun (M2 : Mem) => lX11_orders_25 φ t φ (0 : Int32) M2) t φ (0 : Int32) M
set_option maxRecDepth 100000 in
set_option maxHeartbeats 4000000 in
theorem kX11_orders (φ : Nat) (t : Nat) (M : Mem) (ht : isO 11 t) (l : Launch) (G : GT) {b : (Int32 × Mem)} (hE : fX11_orders φ t M = some b) : Ok l G yX11_orders cX11_orders 6 (some .boolean) 4 87 [.ref t] M ((fun q : Int32 × Mem => (some (Value.int q.1), q.2)) b).1 ((fun q : Int32 × Mem => (some (Value.int q.1), q.2)) b).2 := by
  refine Ok.ofX (pj := (fun q : Int32 × Mem => (some (Value.int q.1), q.2))) (by decide) (Nat.le_of_ble_eq_true rfl) hE (fun J g hr hG hl hR hn => ?_)
  show X J (fun q : Int32 × Mem => (some (Value.int q.1), q.2)) (fX11_orders φ t M) 0 [(0, .ref t)] [] M
  unfold fX11_orders
  exact (x_iconst g dX11_orders_0 kI_0
 (x_istore_n (L' := [(1, .int (0 : Int32)), (0, .ref t)]) g dX11_orders_1 rfl hn (Nat.le_of_ble_eq_true rfl) rfl
 (x_sub [1, 0] rfl (wlX11_orders_2 g hr hR hn _ t ht
 (fun M2 => by exact (x_iconst g dX11_orders_23 kI_0
 (x_istore_n (L' := [(1, .int (0 : Int32)), (0, .ref t)]) g dX11_orders_24 rfl hn (Nat.le_of_ble_eq_true rfl) rfl
 (x_sub [1, 0] rfl (wlX11_orders_25 g hr hR hn  φ t ht φ (0 : Int32) M2))))) φ (0 : Int32) M))))
def fX11_order (φ : Nat) (t : Nat) (a1 : Int32) (M : Mem) : Option (Int32 × Mem) :=
  if 0 ≤ a1 then
 bd (fX11_laysBeds φ t M) fun vu1 M2 =>
 if a1 < (M2.1 t 32) then
 bd (fX11_orders φ t M2) fun v3 M4 =>
 if v3 = 0 then
 bd (fX11_refuse t (7 : Int32) M4) fun v5 M6 =>
 some (v5, M6)
 else
 ixk a1 72 (
 bd (fX11_gives t (M4.1 (t + 17) a1.toNatClampNeg) M4) fun v7 M8 =>
 some (v7, M8))
 else
 bd (fX11_refuse t (6 : Int32) M2) fun v9 M10 =>
 some (v9, M10)
 else
 bd (fX11_refuse t (1 : Int32) M) fun v11 M12 =>
 some (v11, M12)
set_option maxRecDepth 100000 in
set_option maxHeartbeats 4000000 in
theorem kX11_order (φ : Nat) (t : Nat) (a1 : Int32) (M : Mem) (ht : isO 11 t) (l : Launch) (G : GT) {b : (Int32 × Mem)} (hE : fX11_order φ t a1 M = some b) : Ok l G yX11_order cX11_order 2 (some .int) 5 118 [.ref t, .int a1] M ((fun q : Int32 × Mem => (some (Value.int q.1), q.2)) b).1 ((fun q : Int32 × Mem => (some (Value.int q.1), q.2)) b).2 := by
  refine Ok.ofX (pj := (fun q : Int32 × Mem => (some (Value.int q.1), q.2))) (by decide) (Nat.le_of_ble_eq_true rfl) hE (fun J g hr hG hl hR hn => ?_)
  show X J (fun q : Int32 × Mem => (some (Value.int q.1), q.2)) (fX11_order φ t a1 M) 0 [(0, .ref t), (1, .int a1)] [] M
  unfold fX11_order
  exact (x_iload_n g 1 dX11_order_0 rfl rfl
 (x_if_ge g 10 dX11_order_1 rfl
 (fun _ => (x_aload_n g 0 dX11_order_10 rfl rfl
 (x_callVv (As := []) g mv_X11_laysBeds mi_X11_laysBeds lk_RX11_348 ht (fun b Mh_ hb => kX11_laysBeds φ t M ht _ _ hb) rfl rfl hR ⟨Nat.le_of_ble_eq_true rfl, Nat.le_of_ble_eq_true rfl⟩ (Nat.le_of_ble_eq_true rfl) dX11_order_11 (fun vu1 M2 =>
 (x_iload_n g 1 dX11_order_14 rfl rfl
 (x_aload_n g 0 dX11_order_15 rfl rfl
 (x_getI g fl_RX11_345 rfl ht dX11_order_16
 (x_icmp_lt g 29 dX11_order_19 rfl
 (fun _ => (x_aload_n g 0 dX11_order_29 rfl rfl
 (x_callVi (As := []) g mv_X11_orders mi_X11_orders lk_RX11_366 ht (fun b Mh_ hb => kX11_orders φ t M2 ht _ _ hb) rfl rfl hR ⟨Nat.le_of_ble_eq_true rfl, Nat.le_of_ble_eq_true rfl⟩ (Nat.le_of_ble_eq_true rfl) dX11_order_30 (fun v3 M4 =>
 (x_if_eq g 49 dX11_order_33 rfl
 (fun _ => (x_aload_n g 0 dX11_order_49 rfl rfl
 (x_bipush g dX11_order_50 kB_7
 (x_callVi (As := [.int (7 : Int32)]) g mv_X11_refuse mi_X11_refuse lk_RX11_102 ht (fun b Mh_ hb => kX11_refuse t (7 : Int32) M4 ht _ _ hb) rfl rfl hR ⟨Nat.le_of_ble_eq_true rfl, Nat.le_of_ble_eq_true rfl⟩ (Nat.le_of_ble_eq_true rfl) dX11_order_52 (fun v5 M6 =>
 (x_iret g hr rfl rfl dX11_order_55))))))
 (fun _ => (x_aload_n g 0 dX11_order_36 rfl rfl
 (x_aload_n g 0 dX11_order_37 rfl rfl
 (x_getS g 17 fl_RX11_75 rfl ht dX11_order_38
 (x_iload_n g 1 dX11_order_41 rfl rfl
 (x_iald g (so_11_34 ht) dX11_order_42
 (x_callVi (As := [.int (M4.1 (t + 17) a1.toNatClampNeg)]) g mv_X11_gives mi_X11_gives lk_RX11_106 ht (fun b Mh_ hb => kX11_gives t (M4.1 (t + 17) a1.toNatClampNeg) M4 ht _ _ hb) rfl rfl hR ⟨Nat.le_of_ble_eq_true rfl, Nat.le_of_ble_eq_true rfl⟩ (Nat.le_of_ble_eq_true rfl) dX11_order_43 (fun v7 M8 =>
 (x_goto g 55 dX11_order_46 rfl
 (x_iret g hr rfl rfl dX11_order_55)))))))))))))))
 (fun _ => (x_aload_n g 0 dX11_order_22 rfl rfl
 (x_bipush g dX11_order_23 kB_6
 (x_callVi (As := [.int (6 : Int32)]) g mv_X11_refuse mi_X11_refuse lk_RX11_102 ht (fun b Mh_ hb => kX11_refuse t (6 : Int32) M2 ht _ _ hb) rfl rfl hR ⟨Nat.le_of_ble_eq_true rfl, Nat.le_of_ble_eq_true rfl⟩ (Nat.le_of_ble_eq_true rfl) dX11_order_25 (fun v9 M10 =>
 (x_iret g hr rfl rfl dX11_order_28))))))))))))))
 (fun _ => (x_aload_n g 0 dX11_order_4 rfl rfl
 (x_iconst g dX11_order_5 kI_1
 (x_callVi (As := [.int (1 : Int32)]) g mv_X11_refuse mi_X11_refuse lk_RX11_102 ht (fun b Mh_ hb => kX11_refuse t (1 : Int32) M ht _ _ hb) rfl rfl hR ⟨Nat.le_of_ble_eq_true rfl, Nat.le_of_ble_eq_true rfl⟩ (Nat.le_of_ble_eq_true rfl) dX11_order_6 (fun v11 M12 =>
 (x_iret g hr rfl rfl dX11_order_9))))))))
def lX11_bits_4 (M : Mem) : Nat → Int32 → Int32 → Option Int32
  | 0, _, _ => none
  | n + 1, x1, x2 =>
    if x2 = 0 then
 some x1
 else
 nm (x2 &&& (x2 - (1 : Int32))) (fun v1 =>
 lX11_bits_4 M n (x1 + 1) v1)
theorem lX11_bits_4_s (M : Mem) (n : Nat) (x1 : Int32) (x2 : Int32) : lX11_bits_4  M (n + 1) x1 x2 =
    if x2 = 0 then
 some x1
 else
 nm (x2 &&& (x2 - (1 : Int32))) (fun v1 =>
 lX11_bits_4 M n (x1 + 1) v1) := rfl
theorem lX11_bits_4_0 (M : Mem) (x1 : Int32) (x2 : Int32) : lX11_bits_4  M 0 x1 x2 = none := rfl
set_option maxRecDepth 100000 in
set_option maxHeartbeats 4000000 in
theorem wlX11_bits_4 {J : JT} (g : Gd J cX11_bits RX11) (hr : Rt J (some .int)) (hR : (JR J).frames = 0 ∧ (JR J).locals = 0) (hn : Jn J = 3) (M : Mem) : ∀ (n : Nat) (x1 : Int32) (x2 : Int32), X J (fun b : Int32 => (some (Value.int b), M)) (lX11_bits_4  M n x1 x2) 4 [(1, .int x1), (2, .int x2)] [] M := by
  intro n
  induction n with
  | zero =>
    intro x1 x2
    exact x_none
  | succ n ih =>
    intro x1 x2
    rw [lX11_bits_4_s]
    exact (x_iload_n g 1 dX11_bits_4 rfl rfl
 (x_if_eq g 20 dX11_bits_5 rfl
 (fun _ => (x_iload_n g 0 dX11_bits_20 rfl rfl
 (x_iret g hr rfl rfl dX11_bits_21)))
 (fun _ => (x_iinc (L' := [(1, .int (x1 + 1)), (2, .int x2)]) (v := (x1 + 1)) g 0 dX11_bits_8 rfl (by rw [kI_1]) hn (Nat.le_of_ble_eq_true rfl) rfl
 (x_iload_n g 1 dX11_bits_11 rfl rfl
 (x_iload_n g 1 dX11_bits_12 rfl rfl
 (x_iconst g dX11_bits_13 kI_1
 (x_isub g dX11_bits_14
 (x_iand g dX11_bits_15
 (x_nmI (fun v1 => (x_istore_n (L' := [(2, .int v1), (1, .int (x1 + 1))]) g dX11_bits_16 rfl hn (Nat.le_of_ble_eq_true rfl) rfl
 (x_goto g 4 dX11_bits_17 rfl
 (x_sub [1, 0] rfl (ih (x1 + 1) v1)))))))))))))))
def fX11_bits (φ : Nat) (a1 : Int32) (M : Mem) : Option Int32 :=
  lX11_bits_4 M φ (0 : Int32) a1
set_option maxRecDepth 100000 in
set_option maxHeartbeats 4000000 in
theorem kX11_bits (φ : Nat) (a1 : Int32) (M : Mem) (l : Launch) (G : GT) {b : Int32} (hE : fX11_bits φ a1 M = some b) : Ok l G yX11_bits cX11_bits 3 (some .int) 0 0 [.int a1] M ((fun b : Int32 => (some (Value.int b), M)) b).1 ((fun b : Int32 => (some (Value.int b), M)) b).2 := by
  refine Ok.ofX (pj := (fun b : Int32 => (some (Value.int b), M))) (by decide) (Nat.le_of_ble_eq_true rfl) hE (fun J g hr hG hl hR hn => ?_)
  show X J (fun b : Int32 => (some (Value.int b), M)) (fX11_bits φ a1 M) 0 [(0, .int a1)] [] M
  unfold fX11_bits
  exact (x_iconst g dX11_bits_0 kI_0
 (x_istore_n (L' := [(1, .int (0 : Int32)), (0, .int a1)]) g dX11_bits_1 rfl hn (Nat.le_of_ble_eq_true rfl) rfl
 (x_iload_n g 1 dX11_bits_2 rfl rfl
 (x_istore_n (L' := [(2, .int a1), (1, .int (0 : Int32)), (0, .int a1)]) g dX11_bits_3 rfl hn (Nat.le_of_ble_eq_true rfl) rfl
 (x_sub [1, 0] rfl (wlX11_bits_4 g hr hR hn  M φ (0 : Int32) a1))))))
def lX11_widest_8 (φ : Nat) (t : Nat) (M : Mem) : Nat → Int32 → Int32 → Option (Int32 × Mem)
  | 0, _, _ => none
  | n + 1, x1, x2 =>
    if (M.1 t 32) ≤ x2 then
 bd (fX11_orNone t x1 M) fun v3 M4 =>
 some (v3, M4)
 else
 jn (fun (v5 : Int32) => lX11_widest_8 φ t M n v5 (x2 + 1)) (fun J6 => jn (J6 x2) (fun J7 => if x1 = (-1 : Int32) then
 J7
 else
 (fX11_holesWith φ t x2 M).bind fun v8 =>
 (fX11_bits φ v8 M).bind fun v9 =>
 (fX11_holesWith φ t x1 M).bind fun v10 =>
 (fX11_bits φ v10 M).bind fun v11 =>
 if v9 ≤ v11 then
 J6 x1
 else
 J7))
theorem lX11_widest_8_s (φ : Nat) (t : Nat) (M : Mem) (n : Nat) (x1 : Int32) (x2 : Int32) : lX11_widest_8 φ t M (n + 1) x1 x2 =
    if (M.1 t 32) ≤ x2 then
 bd (fX11_orNone t x1 M) fun v3 M4 =>
 some (v3, M4)
 else
 jn (fun (v5 : Int32) => lX11_widest_8 φ t M n v5 (x2 + 1)) (fun J6 => jn (J6 x2) (fun J7 => if x1 = (-1 : Int32) then
 J7
 else
 (fX11_holesWith φ t x2 M).bind fun v8 =>
 (fX11_bits φ v8 M).bind fun v9 =>
 (fX11_holesWith φ t x1 M).bind fun v10 =>
 (fX11_bits φ v10 M).bind fun v11 =>
 if v9 ≤ v11 then
 J6 x1
 else
 J7)) := rfl
theorem lX11_widest_8_0 (φ : Nat) (t : Nat) (M : Mem) (x1 : Int32) (x2 : Int32) : lX11_widest_8 φ t M 0 x1 x2 = none := rfl
set_option maxRecDepth 100000 in
set_option maxHeartbeats 4000000 in
theorem wlX11_widest_8 {J : JT} (g : Gd J cX11_widest RX11) (hr : Rt J (some .int)) (hR : (JR J).frames = 5 ∧ (JR J).locals = 118) (hn : Jn J = 3) (φ : Nat) (t : Nat) (M : Mem) (ht : isO 11 t) : ∀ (n : Nat) (x1 : Int32) (x2 : Int32), X J (fun q : Int32 × Mem => (some (Value.int q.1), q.2)) (lX11_widest_8 φ t M n x1 x2) 8 [(0, .ref t), (1, .int x1), (2, .int x2)] [] M := by
  intro n
  induction n with
  | zero =>
    intro x1 x2
    exact x_none
  | succ n ih =>
    intro x1 x2
    rw [lX11_widest_8_s]
    exact (x_iload_n g 2 dX11_widest_8 rfl rfl
 (x_aload_n g 0 dX11_widest_9 rfl rfl
 (x_getI g fl_RX11_345 rfl ht dX11_widest_10
 (x_icmp_ge g 48 dX11_widest_13 rfl
 (fun _ => (x_aload_n g 0 dX11_widest_48 rfl rfl
 (x_iload_n g 1 dX11_widest_49 rfl rfl
 (x_callVi (As := [.int x1]) g mv_X11_orNone mi_X11_orNone lk_RX11_333 ht (fun b Mh_ hb => kX11_orNone t x1 M ht _ _ hb) rfl rfl hR ⟨Nat.le_of_ble_eq_true rfl, Nat.le_of_ble_eq_true rfl⟩ (Nat.le_of_ble_eq_true rfl) dX11_widest_50 (fun v3 M4 =>
 (x_iret g hr rfl rfl dX11_widest_53))))))
 (fun _ => (x_iload_n g 1 dX11_widest_16 rfl rfl
 (x_iconst g dX11_widest_17 kI_m1
 (x_jn (fun (J6 : Int32 → Option (Int32 × Mem)) => ∀ (v5 : Int32), X J (fun q : Int32 × Mem => (some (Value.int q.1), q.2)) (J6 v5) 42 [(0, .ref t), (1, .int v5), (2, .int x2)] [] M) (fun v5 => (x_iinc (L' := [(2, .int (x2 + 1)), (0, .ref t), (1, .int v5)]) (v := (x2 + 1)) g 2 dX11_widest_42 rfl (by rw [kI_1]) hn (Nat.le_of_ble_eq_true rfl) rfl
 (x_goto g 8 dX11_widest_45 rfl
 (x_sub [1, 2, 0] rfl (ih v5 (x2 + 1)))))) (fun J6 hJ6 => (x_jn (fun (J7 : Option (Int32 × Mem)) => X J (fun q : Int32 × Mem => (some (Value.int q.1), q.2)) J7 40 [(0, .ref t), (2, .int x2)] [] M) (x_iload_n g 1 dX11_widest_40 rfl rfl
 (x_istore_n (L' := [(1, .int x2), (0, .ref t), (2, .int x2)]) g dX11_widest_41 rfl hn (Nat.le_of_ble_eq_true rfl) rfl
 (x_sub [1, 0, 2] rfl (hJ6 x2)))) (fun J7 hJ7 => (x_icmp_eq g 40 dX11_widest_18 rfl
 (fun _ => (x_sub [0, 2] rfl (hJ7)))
 (fun _ => (x_aload_n g 0 dX11_widest_21 rfl rfl
 (x_iload_n g 2 dX11_widest_22 rfl rfl
 (x_callVip (As := [.int x2]) g mv_X11_holesWith mi_X11_holesWith lk_RX11_357 ht (fun b hb => kX11_holesWith φ t x2 M ht _ _ hb) rfl rfl hR ⟨Nat.le_of_ble_eq_true rfl, Nat.le_of_ble_eq_true rfl⟩ (Nat.le_of_ble_eq_true rfl) dX11_widest_23 (fun v8 =>
 (x_callSip (As := [.int v8]) g mv_X11_bits ms_X11_bits lk_RX11_369 (fun b hb => kX11_bits φ v8 M _ _ hb) rfl rfl hR ⟨Nat.le_of_ble_eq_true rfl, Nat.le_of_ble_eq_true rfl⟩ (Nat.le_of_ble_eq_true rfl) dX11_widest_26 (fun v9 =>
 (x_aload_n g 0 dX11_widest_29 rfl rfl
 (x_iload_n g 1 dX11_widest_30 rfl rfl
 (x_callVip (As := [.int x1]) g mv_X11_holesWith mi_X11_holesWith lk_RX11_357 ht (fun b hb => kX11_holesWith φ t x1 M ht _ _ hb) rfl rfl hR ⟨Nat.le_of_ble_eq_true rfl, Nat.le_of_ble_eq_true rfl⟩ (Nat.le_of_ble_eq_true rfl) dX11_widest_31 (fun v10 =>
 (x_callSip (As := [.int v10]) g mv_X11_bits ms_X11_bits lk_RX11_369 (fun b hb => kX11_bits φ v10 M _ _ hb) rfl rfl hR ⟨Nat.le_of_ble_eq_true rfl, Nat.le_of_ble_eq_true rfl⟩ (Nat.le_of_ble_eq_true rfl) dX11_widest_34 (fun v11 =>
 (x_icmp_le g 42 dX11_widest_37 rfl
 (fun _ => (hJ6 x1))
 (fun _ => (x_sub [0, 2] rfl (hJ7)))))))))))))))))))))))))))))
def fX11_widest (φ : Nat) (t : Nat) (M : Mem) : Option (Int32 × Mem) :=
  bd (fX11_laysBeds φ t M) fun vu1 M2 =>
 lX11_widest_8 φ t M2 φ (-1 : Int32) (0 : Int32)
set_option maxRecDepth 100000 in
set_option maxHeartbeats 4000000 in
theorem kX11_widest (φ : Nat) (t : Nat) (M : Mem) (ht : isO 11 t) (l : Launch) (G : GT) {b : (Int32 × Mem)} (hE : fX11_widest φ t M = some b) : Ok l G yX11_widest cX11_widest 3 (some .int) 5 118 [.ref t] M ((fun q : Int32 × Mem => (some (Value.int q.1), q.2)) b).1 ((fun q : Int32 × Mem => (some (Value.int q.1), q.2)) b).2 := by
  refine Ok.ofX (pj := (fun q : Int32 × Mem => (some (Value.int q.1), q.2))) (by decide) (Nat.le_of_ble_eq_true rfl) hE (fun J g hr hG hl hR hn => ?_)
  show X J (fun q : Int32 × Mem => (some (Value.int q.1), q.2)) (fX11_widest φ t M) 0 [(0, .ref t)] [] M
  unfold fX11_widest
  exact (x_aload_n g 0 dX11_widest_0 rfl rfl
 (x_callVv (As := []) g mv_X11_laysBeds mi_X11_laysBeds lk_RX11_348 ht (fun b Mh_ hb => kX11_laysBeds φ t M ht _ _ hb) rfl rfl hR ⟨Nat.le_of_ble_eq_true rfl, Nat.le_of_ble_eq_true rfl⟩ (Nat.le_of_ble_eq_true rfl) dX11_widest_1 (fun vu1 M2 =>
 (x_iconst g dX11_widest_4 kI_m1
 (x_istore_n (L' := [(1, .int (-1 : Int32)), (0, .ref t)]) g dX11_widest_5 rfl hn (Nat.le_of_ble_eq_true rfl) rfl
 (x_iconst g dX11_widest_6 kI_0
 (x_istore_n (L' := [(2, .int (0 : Int32)), (1, .int (-1 : Int32)), (0, .ref t)]) g dX11_widest_7 rfl hn (Nat.le_of_ble_eq_true rfl) rfl
 (x_sub [2, 1, 0] rfl (wlX11_widest_8 g hr hR hn  φ t M2 ht φ (-1 : Int32) (0 : Int32))))))))))
def fX11_isTriangle (t : Nat) (a1 : Int32) (M : Mem) : Option Int32 :=
  if a1 < 0 then
 some (0 : Int32)
 else
 ixk (2 : Int32) 3900 (
 if (M.1 (t + 1) (2 : Int32).toNatClampNeg) ≤ a1 then
 some (0 : Int32)
 else
 some (1 : Int32))
set_option maxRecDepth 100000 in
set_option maxHeartbeats 4000000 in
theorem kX11_isTriangle (t : Nat) (a1 : Int32) (M : Mem) (ht : isO 11 t) (l : Launch) (G : GT) {b : Int32} (hE : fX11_isTriangle t a1 M = some b) : Ok l G yX11_isTriangle cX11_isTriangle 2 (some .boolean) 0 0 [.ref t, .int a1] M ((fun b : Int32 => (some (Value.int b), M)) b).1 ((fun b : Int32 => (some (Value.int b), M)) b).2 := by
  refine Ok.ofX (pj := (fun b : Int32 => (some (Value.int b), M))) (by decide) (Nat.le_of_ble_eq_true rfl) hE (fun J g hr hG hl hR hn => ?_)
  show X J (fun b : Int32 => (some (Value.int b), M)) (fX11_isTriangle t a1 M) 0 [(0, .ref t), (1, .int a1)] [] M
  unfold fX11_isTriangle
  exact (x_iload_n g 1 dX11_isTriangle_0 rfl rfl
 (x_if_lt g 18 dX11_isTriangle_1 rfl
 (fun _ => (x_iconst g dX11_isTriangle_18 kI_0
 (x_iret g hr rfl rfl dX11_isTriangle_19)))
 (fun _ => (x_iload_n g 1 dX11_isTriangle_4 rfl rfl
 (x_aload_n g 0 dX11_isTriangle_5 rfl rfl
 (x_getS g 1 fl_RX11_7 rfl ht dX11_isTriangle_6
 (x_iconst g dX11_isTriangle_9 kI_2
 (x_iald g (so_11_0 ht) dX11_isTriangle_10
 (x_icmp_ge g 18 dX11_isTriangle_11 rfl
 (fun _ => (x_iconst g dX11_isTriangle_18 kI_0
 (x_iret g hr rfl rfl dX11_isTriangle_19)))
 (fun _ => (x_iconst g dX11_isTriangle_14 kI_1
 (x_goto g 19 dX11_isTriangle_15 rfl
 (x_iret g hr rfl rfl dX11_isTriangle_19)))))))))))))
def fX11_corner (t : Nat) (a1 : Int32) (a2 : Int32) (M : Mem) : Option Int32 :=
  ixk (((244 : Int32) + ((3 : Int32) * a1)) + a2) 3900 (
 some (M.1 (t + 1) (((244 : Int32) + ((3 : Int32) * a1)) + a2).toNatClampNeg))
set_option maxRecDepth 100000 in
set_option maxHeartbeats 4000000 in
theorem kX11_corner (t : Nat) (a1 : Int32) (a2 : Int32) (M : Mem) (ht : isO 11 t) (l : Launch) (G : GT) {b : Int32} (hE : fX11_corner t a1 a2 M = some b) : Ok l G yX11_corner cX11_corner 3 (some .int) 0 0 [.ref t, .int a1, .int a2] M ((fun b : Int32 => (some (Value.int b), M)) b).1 ((fun b : Int32 => (some (Value.int b), M)) b).2 := by
  refine Ok.ofX (pj := (fun b : Int32 => (some (Value.int b), M))) (by decide) (Nat.le_of_ble_eq_true rfl) hE (fun J g hr hG hl hR hn => ?_)
  show X J (fun b : Int32 => (some (Value.int b), M)) (fX11_corner t a1 a2 M) 0 [(0, .ref t), (1, .int a1), (2, .int a2)] [] M
  unfold fX11_corner
  exact (x_aload_n g 0 dX11_corner_0 rfl rfl
 (x_getS g 1 fl_RX11_7 rfl ht dX11_corner_1
 (x_sipush g dX11_corner_4 kS_244
 (x_iconst g dX11_corner_7 kI_3
 (x_iload_n g 1 dX11_corner_8 rfl rfl
 (x_imul g dX11_corner_9
 (x_iadd g dX11_corner_10
 (x_iload_n g 2 dX11_corner_11 rfl rfl
 (x_iadd g dX11_corner_12
 (x_iald g (so_11_0 ht) dX11_corner_13
 (x_iret g hr rfl rfl dX11_corner_14)))))))))))
def fX11_twiceArea (t : Nat) (a1 : Int32) (M : Mem) : Option Int64 :=
  (fX11_corner t a1 (0 : Int32) M).bind fun v1 =>
 (fX11_corner t a1 (1 : Int32) M).bind fun v2 =>
 (fX11_corner t a1 (2 : Int32) M).bind fun v3 =>
 (fX11_cornersOf t (0 : Int32) v1 v2 v3 M).bind fun vz4 =>
 some vz4
set_option maxRecDepth 100000 in
set_option maxHeartbeats 4000000 in
theorem kX11_twiceArea (t : Nat) (a1 : Int32) (M : Mem) (ht : isO 11 t) (l : Launch) (G : GT) {b : Int64} (hE : fX11_twiceArea t a1 M = some b) : Ok l G yX11_twiceArea cX11_twiceArea 2 (some .long) 2 52 [.ref t, .int a1] M ((fun b : Int64 => (some (Value.long b), M)) b).1 ((fun b : Int64 => (some (Value.long b), M)) b).2 := by
  refine Ok.ofX (pj := (fun b : Int64 => (some (Value.long b), M))) (by decide) (Nat.le_of_ble_eq_true rfl) hE (fun J g hr hG hl hR hn => ?_)
  show X J (fun b : Int64 => (some (Value.long b), M)) (fX11_twiceArea t a1 M) 0 [(0, .ref t), (1, .int a1)] [] M
  unfold fX11_twiceArea
  exact (x_aload_n g 0 dX11_twiceArea_0 rfl rfl
 (x_iconst g dX11_twiceArea_1 kI_0
 (x_aload_n g 0 dX11_twiceArea_2 rfl rfl
 (x_iload_n g 1 dX11_twiceArea_3 rfl rfl
 (x_iconst g dX11_twiceArea_4 kI_0
 (x_callVip (As := [.int a1, .int (0 : Int32)]) g mv_X11_corner mi_X11_corner lk_RX11_372 ht (fun b hb => kX11_corner t a1 (0 : Int32) M ht _ _ hb) rfl rfl hR ⟨Nat.le_of_ble_eq_true rfl, Nat.le_of_ble_eq_true rfl⟩ (Nat.le_of_ble_eq_true rfl) dX11_twiceArea_5 (fun v1 =>
 (x_aload_n g 0 dX11_twiceArea_8 rfl rfl
 (x_iload_n g 1 dX11_twiceArea_9 rfl rfl
 (x_iconst g dX11_twiceArea_10 kI_1
 (x_callVip (As := [.int a1, .int (1 : Int32)]) g mv_X11_corner mi_X11_corner lk_RX11_372 ht (fun b hb => kX11_corner t a1 (1 : Int32) M ht _ _ hb) rfl rfl hR ⟨Nat.le_of_ble_eq_true rfl, Nat.le_of_ble_eq_true rfl⟩ (Nat.le_of_ble_eq_true rfl) dX11_twiceArea_11 (fun v2 =>
 (x_aload_n g 0 dX11_twiceArea_14 rfl rfl
 (x_iload_n g 1 dX11_twiceArea_15 rfl rfl
 (x_iconst g dX11_twiceArea_16 kI_2
 (x_callVip (As := [.int a1, .int (2 : Int32)]) g mv_X11_corner mi_X11_corner lk_RX11_372 ht (fun b hb => kX11_corner t a1 (2 : Int32) M ht _ _ hb) rfl rfl hR ⟨Nat.le_of_ble_eq_true rfl, Nat.le_of_ble_eq_true rfl⟩ (Nat.le_of_ble_eq_true rfl) dX11_twiceArea_17 (fun v3 =>
 (x_callVlp (As := [.int (0 : Int32), .int v1, .int v2, .int v3]) g mv_X11_cornersOf mi_X11_cornersOf lk_RX11_226 ht (fun b hb => kX11_cornersOf t (0 : Int32) v1 v2 v3 M ht _ _ hb) rfl rfl hR ⟨Nat.le_of_ble_eq_true rfl, Nat.le_of_ble_eq_true rfl⟩ (Nat.le_of_ble_eq_true rfl) dX11_twiceArea_20 (fun vz4 =>
 (x_lret g hr rfl dX11_twiceArea_23))))))))))))))))))))
def fX11_size (a1 : Int64) (M : Mem) : Option Int64 :=
  if (0 : Int64) ≤ a1 then
 some a1
 else
 some (-a1)
set_option maxRecDepth 100000 in
set_option maxHeartbeats 4000000 in
theorem kX11_size (a1 : Int64) (M : Mem) (l : Launch) (G : GT) {b : Int64} (hE : fX11_size a1 M = some b) : Ok l G yX11_size cX11_size 2 (some .long) 0 0 [.long a1] M ((fun b : Int64 => (some (Value.long b), M)) b).1 ((fun b : Int64 => (some (Value.long b), M)) b).2 := by
  refine Ok.ofX (pj := (fun b : Int64 => (some (Value.long b), M))) (by decide) (Nat.le_of_ble_eq_true rfl) hE (fun J g hr hG hl hR hn => ?_)
  show X J (fun b : Int64 => (some (Value.long b), M)) (fX11_size a1 M) 0 [(0, .long a1)] [] M
  unfold fX11_size
  exact (x_lload_n g 0 dX11_size_0 rfl rfl
 (x_lconst g dX11_size_1 kL_0
 (x_l_ge g 11 dX11_size_2 dX11_size_3 rfl
 (fun _ => (x_lload_n g 0 dX11_size_11 rfl rfl
 (x_lret g hr rfl dX11_size_12)))
 (fun _ => (x_lload_n g 0 dX11_size_6 rfl rfl
 (x_lneg g dX11_size_7
 (x_goto g 12 dX11_size_8 rfl
 (x_lret g hr rfl dX11_size_12))))))))
def lX11_tellsBy_17 (K42 : Int64 → Option (Int32 × Mem)) (t : Nat) (xz1 : Int64) (xz3 : Int64) (M : Mem) : Nat → Int64 → Int64 → Option (Int32 × Mem)
  | 0, _, _ => none
  | n + 1, xz5, xz7 =>
    if xz7 = (0 : Int64) then
 K42 xz5
 else
 if ¬ xz7 = 0 then
 nm (xz5 - xz5 / xz7 * xz7) (fun vz4 =>
 lX11_tellsBy_17 K42 t xz1 xz3 M n xz7 vz4)
 else none
theorem lX11_tellsBy_17_s (K42 : Int64 → Option (Int32 × Mem)) (t : Nat) (xz1 : Int64) (xz3 : Int64) (M : Mem) (n : Nat) (xz5 : Int64) (xz7 : Int64) : lX11_tellsBy_17 K42 t xz1 xz3 M (n + 1) xz5 xz7 =
    if xz7 = (0 : Int64) then
 K42 xz5
 else
 if ¬ xz7 = 0 then
 nm (xz5 - xz5 / xz7 * xz7) (fun vz4 =>
 lX11_tellsBy_17 K42 t xz1 xz3 M n xz7 vz4)
 else none := rfl
theorem lX11_tellsBy_17_0 (K42 : Int64 → Option (Int32 × Mem)) (t : Nat) (xz1 : Int64) (xz3 : Int64) (M : Mem) (xz5 : Int64) (xz7 : Int64) : lX11_tellsBy_17 K42 t xz1 xz3 M 0 xz5 xz7 = none := rfl
set_option maxRecDepth 100000 in
set_option maxHeartbeats 4000000 in
theorem wlX11_tellsBy_17 {J : JT} (g : Gd J cX11_tellsBy RX11) (hr : Rt J (some .boolean)) (hR : (JR J).frames = 1 ∧ (JR J).locals = 21) (hn : Jn J = 11) (K42 : Int64 → Option (Int32 × Mem)) (t : Nat) (xz1 : Int64) (xz3 : Int64) (M : Mem) (ht : isO 11 t) (hK42 : ∀ (yz5 : Int64), X J (fun q : Int32 × Mem => (some (Value.int q.1), q.2)) (K42 yz5) 42 [(0, .ref t), (1, .long xz1), (3, .long xz3), (5, .long yz5)] [] M) : ∀ (n : Nat) (xz5 : Int64) (xz7 : Int64), X J (fun q : Int32 × Mem => (some (Value.int q.1), q.2)) (lX11_tellsBy_17 K42 t xz1 xz3 M n xz5 xz7) 17 [(0, .ref t), (1, .long xz1), (3, .long xz3), (5, .long xz5), (7, .long xz7)] [] M := by
  intro n
  induction n with
  | zero =>
    intro xz5 xz7
    exact x_none
  | succ n ih =>
    intro xz5 xz7
    rw [lX11_tellsBy_17_s]
    exact (x_lload g 4 dX11_tellsBy_17 rfl
 (x_lconst g dX11_tellsBy_19 kL_0
 (x_l_eq g 42 dX11_tellsBy_20 dX11_tellsBy_21 rfl
 (fun _ => (x_sub [0, 1, 2, 3] rfl (hK42 xz5)))
 (fun _ => (x_lload g 3 dX11_tellsBy_24 rfl
 (x_lload g 4 dX11_tellsBy_26 rfl
 (x_ck (fun hq3 => x_lrem g dX11_tellsBy_28 hq3
 (x_nmL (fun vz4 => (x_lstore (L' := [(9, .long vz4), (0, .ref t), (1, .long xz1), (3, .long xz3), (5, .long xz5), (7, .long xz7)]) g dX11_tellsBy_29 hn (Nat.le_of_ble_eq_true rfl) rfl
 (x_lload g 5 dX11_tellsBy_31 rfl
 (x_lstore (L' := [(5, .long xz7), (9, .long vz4), (0, .ref t), (1, .long xz1), (3, .long xz3), (7, .long xz7)]) g dX11_tellsBy_33 hn (Nat.le_of_ble_eq_true rfl) rfl
 (x_lload g 1 dX11_tellsBy_35 rfl
 (x_lstore (L' := [(7, .long vz4), (5, .long xz7), (9, .long vz4), (0, .ref t), (1, .long xz1), (3, .long xz3)]) g dX11_tellsBy_37 hn (Nat.le_of_ble_eq_true rfl) rfl
 (x_goto g 17 dX11_tellsBy_39 rfl
 (x_sub [3, 4, 5, 1, 0] rfl (ih xz7 vz4))))))))))))))))))
def fX11_tellsBy (φ : Nat) (t : Nat) (a1 : Int64) (a2 : Int64) (M : Mem) : Option (Int32 × Mem) :=
  jn (fun (vz1 : Int64) => lX11_tellsBy_17 (fun (vz5 : Int64) => if ¬ vz5 = 0 then
 nm (stL M t 3 (a1 / vz5)) (fun M7 =>
 if ¬ vz5 = 0 then
 nm (stL M7 t 4 (a2 / vz5)) (fun M9 =>
 bd (fX11_is t (0 : Int32) M9) fun v10 M11 =>
 if v10 = 0 ∨ v10 = 1 then some (v10, M11) else none)
 else none)
 else none) t a1 a2 M φ vz1 a2) (fun J2 => if (0 : Int64) ≤ a1 then
 J2 a1
 else
 J2 (-a1))
set_option maxRecDepth 100000 in
set_option maxHeartbeats 4000000 in
theorem kX11_tellsBy (φ : Nat) (t : Nat) (a1 : Int64) (a2 : Int64) (M : Mem) (ht : isO 11 t) (l : Launch) (G : GT) {b : (Int32 × Mem)} (hE : fX11_tellsBy φ t a1 a2 M = some b) : Ok l G yX11_tellsBy cX11_tellsBy 11 (some .boolean) 1 21 [.ref t, .long a1, .long a2] M ((fun q : Int32 × Mem => (some (Value.int q.1), q.2)) b).1 ((fun q : Int32 × Mem => (some (Value.int q.1), q.2)) b).2 := by
  refine Ok.ofX (pj := (fun q : Int32 × Mem => (some (Value.int q.1), q.2))) (by decide) (Nat.le_of_ble_eq_true rfl) hE (fun J g hr hG hl hR hn => ?_)
  show X J (fun q : Int32 × Mem => (some (Value.int q.1), q.2)) (fX11_tellsBy φ t a1 a2 M) 0 [(0, .ref t), (1, .long a1), (3, .long a2)] [] M
  unfold fX11_tellsBy
  exact (x_lload_n g 1 dX11_tellsBy_0 rfl rfl
 (x_lconst g dX11_tellsBy_1 kL_0
 (x_jn (fun (J2 : Int64 → Option (Int32 × Mem)) => ∀ (vz1 : Int64), X J (fun q : Int32 × Mem => (some (Value.int q.1), q.2)) (J2 vz1) 12 [(0, .ref t), (1, .long a1), (3, .long a2)] [.long vz1] M) (fun vz1 => (x_lstore (L' := [(5, .long vz1), (0, .ref t), (1, .long a1), (3, .long a2)]) g dX11_tellsBy_12 hn (Nat.le_of_ble_eq_true rfl) rfl
 (x_lload_n g 3 dX11_tellsBy_14 rfl rfl
 (x_lstore (L' := [(7, .long a2), (5, .long vz1), (0, .ref t), (1, .long a1), (3, .long a2)]) g dX11_tellsBy_15 hn (Nat.le_of_ble_eq_true rfl) rfl
 (x_sub [2, 3, 4, 1, 0] rfl (wlX11_tellsBy_17 g hr hR hn _ t a1 a2 M ht
 (fun vz5 => by exact (x_aload_n g 0 dX11_tellsBy_42 rfl rfl
 (x_lload_n g 1 dX11_tellsBy_43 rfl rfl
 (x_lload g 3 dX11_tellsBy_44 rfl
 (x_ck (fun hq6 => x_ldiv g dX11_tellsBy_46 hq6
 (x_putL g fp_RX11_99 rfl (Nat.le_of_ble_eq_true rfl) ht dX11_tellsBy_47 (x_nmM (fun M7 =>
 (x_aload_n g 0 dX11_tellsBy_50 rfl rfl
 (x_lload_n g 2 dX11_tellsBy_51 rfl rfl
 (x_lload g 3 dX11_tellsBy_52 rfl
 (x_ck (fun hq8 => x_ldiv g dX11_tellsBy_54 hq8
 (x_putL g fp_RX11_17 rfl (Nat.le_of_ble_eq_true rfl) ht dX11_tellsBy_55 (x_nmM (fun M9 =>
 (x_aload_n g 0 dX11_tellsBy_58 rfl rfl
 (x_iconst g dX11_tellsBy_59 kI_0
 (x_callVi (As := [.int (0 : Int32)]) g mv_X11_is mi_X11_is lk_RX11_109 ht (fun b Mh_ hb => kX11_is t (0 : Int32) M9 ht _ _ hb) rfl rfl hR ⟨Nat.le_of_ble_eq_true rfl, Nat.le_of_ble_eq_true rfl⟩ (Nat.le_of_ble_eq_true rfl) dX11_tellsBy_60 (fun v10 M11 =>
 (x_ck (fun hq12 => x_iret g hr (nbz hq12) rfl dX11_tellsBy_63))))))))))))))))))))))) φ vz1 a2)))))) (fun J2 hJ2 => (x_l_ge g 11 dX11_tellsBy_2 dX11_tellsBy_3 rfl
 (fun _ => (x_lload_n g 1 dX11_tellsBy_11 rfl rfl
 (hJ2 a1)))
 (fun _ => (x_lload_n g 1 dX11_tellsBy_6 rfl rfl
 (x_lneg g dX11_tellsBy_7
 (x_goto g 12 dX11_tellsBy_8 rfl
 (hJ2 (-a1)))))))))))
