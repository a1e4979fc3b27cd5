theorem dX10_pairs_0 : decode cX10_pairs 0 = .ok (.aload_n 0, 1) := by decide +kernel
theorem dX10_pairs_1 : decode cX10_pairs 1 = .ok (.getfield 81, 3) := by decide +kernel
theorem dX10_pairs_4 : decode cX10_pairs 4 = .ok (.getfield 281, 3) := by decide +kernel
theorem dX10_pairs_7 : decode cX10_pairs 7 = .ok (.iconst (-1), 1) := by decide +kernel
theorem dX10_pairs_8 : decode cX10_pairs 8 = .ok (.if_icmp .ne 10, 3) := by decide +kernel
theorem dX10_pairs_11 : decode cX10_pairs 11 = .ok (.aload_n 0, 1) := by decide +kernel
theorem dX10_pairs_12 : decode cX10_pairs 12 = .ok (.bipush 6, 2) := by decide +kernel
theorem dX10_pairs_14 : decode cX10_pairs 14 = .ok (.invokevirtual 137, 3) := by decide +kernel
theorem dX10_pairs_17 : decode cX10_pairs 17 = .ok (.ireturn, 1) := by decide +kernel
theorem dX10_pairs_18 : decode cX10_pairs 18 = .ok (.aload_n 0, 1) := by decide +kernel
theorem dX10_pairs_19 : decode cX10_pairs 19 = .ok (.aload_n 0, 1) := by decide +kernel
theorem dX10_pairs_20 : decode cX10_pairs 20 = .ok (.getfield 81, 3) := by decide +kernel
theorem dX10_pairs_23 : decode cX10_pairs 23 = .ok (.getfield 284, 3) := by decide +kernel
theorem dX10_pairs_26 : decode cX10_pairs 26 = .ok (.invokevirtual 187, 3) := by decide +kernel
theorem dX10_pairs_29 : decode cX10_pairs 29 = .ok (.ireturn, 1) := by decide +kernel
theorem dX0_squareApart_0 : decode cX0_squareApart 0 = .ok (.aload_n 0, 1) := by decide +kernel
theorem dX0_squareApart_1 : decode cX0_squareApart 1 = .ok (.getfield 101, 3) := by decide +kernel
theorem dX0_squareApart_4 : decode cX0_squareApart 4 = .ok (.iload_n 1, 1) := by decide +kernel
theorem dX0_squareApart_5 : decode cX0_squareApart 5 = .ok (.iaload, 1) := by decide +kernel
theorem dX0_squareApart_6 : decode cX0_squareApart 6 = .ok (.aload_n 0, 1) := by decide +kernel
theorem dX0_squareApart_7 : decode cX0_squareApart 7 = .ok (.getfield 101, 3) := by decide +kernel
theorem dX0_squareApart_10 : decode cX0_squareApart 10 = .ok (.iload_n 2, 1) := by decide +kernel
theorem dX0_squareApart_11 : decode cX0_squareApart 11 = .ok (.iaload, 1) := by decide +kernel
theorem dX0_squareApart_12 : decode cX0_squareApart 12 = .ok (.isub, 1) := by decide +kernel
theorem dX0_squareApart_13 : decode cX0_squareApart 13 = .ok (.istore_n 3, 1) := by decide +kernel
theorem dX0_squareApart_14 : decode cX0_squareApart 14 = .ok (.aload_n 0, 1) := by decide +kernel
theorem dX0_squareApart_15 : decode cX0_squareApart 15 = .ok (.getfield 104, 3) := by decide +kernel
theorem dX0_squareApart_18 : decode cX0_squareApart 18 = .ok (.iload_n 1, 1) := by decide +kernel
theorem dX0_squareApart_19 : decode cX0_squareApart 19 = .ok (.iaload, 1) := by decide +kernel
theorem dX0_squareApart_20 : decode cX0_squareApart 20 = .ok (.aload_n 0, 1) := by decide +kernel
theorem dX0_squareApart_21 : decode cX0_squareApart 21 = .ok (.getfield 104, 3) := by decide +kernel
theorem dX0_squareApart_24 : decode cX0_squareApart 24 = .ok (.iload_n 2, 1) := by decide +kernel
theorem dX0_squareApart_25 : decode cX0_squareApart 25 = .ok (.iaload, 1) := by decide +kernel
theorem dX0_squareApart_26 : decode cX0_squareApart 26 = .ok (.isub, 1) := by decide +kernel
theorem dX0_squareApart_27 : decode cX0_squareApart 27 = .ok (.istore 4, 2) := by decide +kernel
theorem dX0_squareApart_29 : decode cX0_squareApart 29 = .ok (.iload_n 3, 1) := by decide +kernel
theorem dX0_squareApart_30 : decode cX0_squareApart 30 = .ok (.iload_n 3, 1) := by decide +kernel
theorem dX0_squareApart_31 : decode cX0_squareApart 31 = .ok (.imul, 1) := by decide +kernel
theorem dX0_squareApart_32 : decode cX0_squareApart 32 = .ok (.iload 4, 2) := by decide +kernel
theorem dX0_squareApart_34 : decode cX0_squareApart 34 = .ok (.iload 4, 2) := by decide +kernel
theorem dX0_squareApart_36 : decode cX0_squareApart 36 = .ok (.imul, 1) := by decide +kernel
theorem dX0_squareApart_37 : decode cX0_squareApart 37 = .ok (.iadd, 1) := by decide +kernel
theorem dX0_squareApart_38 : decode cX0_squareApart 38 = .ok (.ireturn, 1) := by decide +kernel
theorem dX0_relabel_0 : decode cX0_relabel 0 = .ok (.iconst 0, 1) := by decide +kernel
theorem dX0_relabel_1 : decode cX0_relabel 1 = .ok (.istore 4, 2) := by decide +kernel
theorem dX0_relabel_3 : decode cX0_relabel 3 = .ok (.iload 4, 2) := by decide +kernel
theorem dX0_relabel_5 : decode cX0_relabel 5 = .ok (.iload_n 1, 1) := by decide +kernel
theorem dX0_relabel_6 : decode cX0_relabel 6 = .ok (.if_icmp .ge 22, 3) := by decide +kernel
theorem dX0_relabel_9 : decode cX0_relabel 9 = .ok (.aload_n 0, 1) := by decide +kernel
theorem dX0_relabel_10 : decode cX0_relabel 10 = .ok (.iload 4, 2) := by decide +kernel
theorem dX0_relabel_12 : decode cX0_relabel 12 = .ok (.iaload, 1) := by decide +kernel
theorem dX0_relabel_13 : decode cX0_relabel 13 = .ok (.iload_n 2, 1) := by decide +kernel
theorem dX0_relabel_14 : decode cX0_relabel 14 = .ok (.if_icmp .ne 8, 3) := by decide +kernel
theorem dX0_relabel_17 : decode cX0_relabel 17 = .ok (.aload_n 0, 1) := by decide +kernel
theorem dX0_relabel_18 : decode cX0_relabel 18 = .ok (.iload 4, 2) := by decide +kernel
theorem dX0_relabel_20 : decode cX0_relabel 20 = .ok (.iload_n 3, 1) := by decide +kernel
theorem dX0_relabel_21 : decode cX0_relabel 21 = .ok (.iastore, 1) := by decide +kernel
theorem dX0_relabel_22 : decode cX0_relabel 22 = .ok (.iinc 4 1, 3) := by decide +kernel
theorem dX0_relabel_25 : decode cX0_relabel 25 = .ok (.goto (-22), 3) := by decide +kernel
theorem dX0_relabel_28 : decode cX0_relabel 28 = .ok (.return_, 1) := by decide +kernel
theorem dX0_addNearest_0 : decode cX0_addNearest 0 = .ok (.ldc 93, 2) := by decide +kernel
theorem dX0_addNearest_2 : decode cX0_addNearest 2 = .ok (.istore_n 2, 1) := by decide +kernel
theorem dX0_addNearest_3 : decode cX0_addNearest 3 = .ok (.iconst 0, 1) := by decide +kernel
theorem dX0_addNearest_4 : decode cX0_addNearest 4 = .ok (.istore_n 3, 1) := by decide +kernel
theorem dX0_addNearest_5 : decode cX0_addNearest 5 = .ok (.iload_n 3, 1) := by decide +kernel
theorem dX0_addNearest_6 : decode cX0_addNearest 6 = .ok (.aload_n 1, 1) := by decide +kernel
theorem dX0_addNearest_7 : decode cX0_addNearest 7 = .ok (.getfield 85, 3) := by decide +kernel
theorem dX0_addNearest_10 : decode cX0_addNearest 10 = .ok (.if_icmp .ge 84, 3) := by decide +kernel
theorem dX0_addNearest_13 : decode cX0_addNearest 13 = .ok (.iload_n 3, 1) := by decide +kernel
theorem dX0_addNearest_14 : decode cX0_addNearest 14 = .ok (.iconst 1, 1) := by decide +kernel
theorem dX0_addNearest_15 : decode cX0_addNearest 15 = .ok (.iadd, 1) := by decide +kernel
theorem dX0_addNearest_16 : decode cX0_addNearest 16 = .ok (.istore 4, 2) := by decide +kernel
theorem dX0_addNearest_18 : decode cX0_addNearest 18 = .ok (.iload 4, 2) := by decide +kernel
theorem dX0_addNearest_20 : decode cX0_addNearest 20 = .ok (.aload_n 1, 1) := by decide +kernel
theorem dX0_addNearest_21 : decode cX0_addNearest 21 = .ok (.getfield 85, 3) := by decide +kernel
theorem dX0_addNearest_24 : decode cX0_addNearest 24 = .ok (.if_icmp .ge 64, 3) := by decide +kernel
theorem dX0_addNearest_27 : decode cX0_addNearest 27 = .ok (.aload_n 1, 1) := by decide +kernel
theorem dX0_addNearest_28 : decode cX0_addNearest 28 = .ok (.iload_n 3, 1) := by decide +kernel
theorem dX0_addNearest_29 : decode cX0_addNearest 29 = .ok (.iload 4, 2) := by decide +kernel
theorem dX0_addNearest_31 : decode cX0_addNearest 31 = .ok (.invokestatic 94, 3) := by decide +kernel
theorem dX0_addNearest_34 : decode cX0_addNearest 34 = .ok (.istore 5, 2) := by decide +kernel
theorem dX0_addNearest_36 : decode cX0_addNearest 36 = .ok (.aload_n 0, 1) := by decide +kernel
theorem dX0_addNearest_37 : decode cX0_addNearest 37 = .ok (.getfield 42, 3) := by decide +kernel
theorem dX0_addNearest_40 : decode cX0_addNearest 40 = .ok (.iload_n 3, 1) := by decide +kernel
theorem dX0_addNearest_41 : decode cX0_addNearest 41 = .ok (.iaload, 1) := by decide +kernel
theorem dX0_addNearest_42 : decode cX0_addNearest 42 = .ok (.aload_n 0, 1) := by decide +kernel
theorem dX0_addNearest_43 : decode cX0_addNearest 43 = .ok (.getfield 42, 3) := by decide +kernel
theorem dX0_addNearest_46 : decode cX0_addNearest 46 = .ok (.iload 4, 2) := by decide +kernel
theorem dX0_addNearest_48 : decode cX0_addNearest 48 = .ok (.iaload, 1) := by decide +kernel
theorem dX0_addNearest_49 : decode cX0_addNearest 49 = .ok (.if_icmp .eq 33, 3) := by decide +kernel
theorem dX0_addNearest_52 : decode cX0_addNearest 52 = .ok (.iload 5, 2) := by decide +kernel
theorem dX0_addNearest_54 : decode cX0_addNearest 54 = .ok (.iload_n 2, 1) := by decide +kernel
theorem dX0_addNearest_55 : decode cX0_addNearest 55 = .ok (.if_icmp .ge 27, 3) := by decide +kernel
theorem dX0_addNearest_58 : decode cX0_addNearest 58 = .ok (.iload 5, 2) := by decide +kernel
theorem dX0_addNearest_60 : decode cX0_addNearest 60 = .ok (.istore_n 2, 1) := by decide +kernel
theorem dX0_addNearest_61 : decode cX0_addNearest 61 = .ok (.aload_n 0, 1) := by decide +kernel
theorem dX0_addNearest_62 : decode cX0_addNearest 62 = .ok (.getfield 26, 3) := by decide +kernel
theorem dX0_addNearest_65 : decode cX0_addNearest 65 = .ok (.aload_n 0, 1) := by decide +kernel
theorem dX0_addNearest_66 : decode cX0_addNearest 66 = .ok (.getfield 22, 3) := by decide +kernel
theorem dX0_addNearest_69 : decode cX0_addNearest 69 = .ok (.iload_n 3, 1) := by decide +kernel
theorem dX0_addNearest_70 : decode cX0_addNearest 70 = .ok (.iastore, 1) := by decide +kernel
theorem dX0_addNearest_71 : decode cX0_addNearest 71 = .ok (.aload_n 0, 1) := by decide +kernel
theorem dX0_addNearest_72 : decode cX0_addNearest 72 = .ok (.getfield 30, 3) := by decide +kernel
theorem dX0_addNearest_75 : decode cX0_addNearest 75 = .ok (.aload_n 0, 1) := by decide +kernel
theorem dX0_addNearest_76 : decode cX0_addNearest 76 = .ok (.getfield 22, 3) := by decide +kernel
theorem dX0_addNearest_79 : decode cX0_addNearest 79 = .ok (.iload 4, 2) := by decide +kernel
theorem dX0_addNearest_81 : decode cX0_addNearest 81 = .ok (.iastore, 1) := by decide +kernel
theorem dX0_addNearest_82 : decode cX0_addNearest 82 = .ok (.iinc 4 1, 3) := by decide +kernel
theorem dX0_addNearest_85 : decode cX0_addNearest 85 = .ok (.goto (-67), 3) := by decide +kernel
theorem dX0_addNearest_88 : decode cX0_addNearest 88 = .ok (.iinc 3 1, 3) := by decide +kernel
theorem dX0_addNearest_91 : decode cX0_addNearest 91 = .ok (.goto (-86), 3) := by decide +kernel
theorem dX0_addNearest_94 : decode cX0_addNearest 94 = .ok (.aload_n 0, 1) := by decide +kernel
theorem dX0_addNearest_95 : decode cX0_addNearest 95 = .ok (.getfield 33, 3) := by decide +kernel
theorem dX0_addNearest_98 : decode cX0_addNearest 98 = .ok (.aload_n 0, 1) := by decide +kernel
theorem dX0_addNearest_99 : decode cX0_addNearest 99 = .ok (.getfield 22, 3) := by decide +kernel
theorem dX0_addNearest_102 : decode cX0_addNearest 102 = .ok (.iload_n 2, 1) := by decide +kernel
theorem dX0_addNearest_103 : decode cX0_addNearest 103 = .ok (.iastore, 1) := by decide +kernel
theorem dX0_addNearest_104 : decode cX0_addNearest 104 = .ok (.aload_n 0, 1) := by decide +kernel
theorem dX0_addNearest_105 : decode cX0_addNearest 105 = .ok (.getfield 42, 3) := by decide +kernel
theorem dX0_addNearest_108 : decode cX0_addNearest 108 = .ok (.aload_n 1, 1) := by decide +kernel
theorem dX0_addNearest_109 : decode cX0_addNearest 109 = .ok (.getfield 85, 3) := by decide +kernel
theorem dX0_addNearest_112 : decode cX0_addNearest 112 = .ok (.aload_n 0, 1) := by decide +kernel
theorem dX0_addNearest_113 : decode cX0_addNearest 113 = .ok (.getfield 42, 3) := by decide +kernel
theorem dX0_addNearest_116 : decode cX0_addNearest 116 = .ok (.aload_n 0, 1) := by decide +kernel
theorem dX0_addNearest_117 : decode cX0_addNearest 117 = .ok (.getfield 30, 3) := by decide +kernel
theorem dX0_addNearest_120 : decode cX0_addNearest 120 = .ok (.aload_n 0, 1) := by decide +kernel
theorem dX0_addNearest_121 : decode cX0_addNearest 121 = .ok (.getfield 22, 3) := by decide +kernel
theorem dX0_addNearest_124 : decode cX0_addNearest 124 = .ok (.iaload, 1) := by decide +kernel
theorem dX0_addNearest_125 : decode cX0_addNearest 125 = .ok (.iaload, 1) := by decide +kernel
theorem dX0_addNearest_126 : decode cX0_addNearest 126 = .ok (.aload_n 0, 1) := by decide +kernel
theorem dX0_addNearest_127 : decode cX0_addNearest 127 = .ok (.getfield 42, 3) := by decide +kernel
theorem dX0_addNearest_130 : decode cX0_addNearest 130 = .ok (.aload_n 0, 1) := by decide +kernel
theorem dX0_addNearest_131 : decode cX0_addNearest 131 = .ok (.getfield 26, 3) := by decide +kernel
theorem dX0_addNearest_134 : decode cX0_addNearest 134 = .ok (.aload_n 0, 1) := by decide +kernel
theorem dX0_addNearest_135 : decode cX0_addNearest 135 = .ok (.getfield 22, 3) := by decide +kernel
theorem dX0_addNearest_138 : decode cX0_addNearest 138 = .ok (.iaload, 1) := by decide +kernel
theorem dX0_addNearest_139 : decode cX0_addNearest 139 = .ok (.iaload, 1) := by decide +kernel
theorem dX0_addNearest_140 : decode cX0_addNearest 140 = .ok (.invokestatic 97, 3) := by decide +kernel
theorem dX0_addNearest_143 : decode cX0_addNearest 143 = .ok (.aload_n 0, 1) := by decide +kernel
theorem dX0_addNearest_144 : decode cX0_addNearest 144 = .ok (.dup, 1) := by decide +kernel
theorem dX0_addNearest_145 : decode cX0_addNearest 145 = .ok (.getfield 22, 3) := by decide +kernel
theorem dX0_addNearest_148 : decode cX0_addNearest 148 = .ok (.iconst 1, 1) := by decide +kernel
theorem dX0_addNearest_149 : decode cX0_addNearest 149 = .ok (.iadd, 1) := by decide +kernel
theorem dX0_addNearest_150 : decode cX0_addNearest 150 = .ok (.putfield 22, 3) := by decide +kernel
theorem dX0_addNearest_153 : decode cX0_addNearest 153 = .ok (.return_, 1) := by decide +kernel
theorem dX0_growTree_0 : decode cX0_growTree 0 = .ok (.aload_n 0, 1) := by decide +kernel
theorem dX0_growTree_1 : decode cX0_growTree 1 = .ok (.iconst 0, 1) := by decide +kernel
theorem dX0_growTree_2 : decode cX0_growTree 2 = .ok (.putfield 22, 3) := by decide +kernel
theorem dX0_growTree_5 : decode cX0_growTree 5 = .ok (.iconst 0, 1) := by decide +kernel
theorem dX0_growTree_6 : decode cX0_growTree 6 = .ok (.istore_n 2, 1) := by decide +kernel
theorem dX0_growTree_7 : decode cX0_growTree 7 = .ok (.iload_n 2, 1) := by decide +kernel
theorem dX0_growTree_8 : decode cX0_growTree 8 = .ok (.aload_n 1, 1) := by decide +kernel
theorem dX0_growTree_9 : decode cX0_growTree 9 = .ok (.getfield 85, 3) := by decide +kernel
theorem dX0_growTree_12 : decode cX0_growTree 12 = .ok (.if_icmp .ge 16, 3) := by decide +kernel
theorem dX0_growTree_15 : decode cX0_growTree 15 = .ok (.aload_n 0, 1) := by decide +kernel
theorem dX0_growTree_16 : decode cX0_growTree 16 = .ok (.getfield 42, 3) := by decide +kernel
theorem dX0_growTree_19 : decode cX0_growTree 19 = .ok (.iload_n 2, 1) := by decide +kernel
theorem dX0_growTree_20 : decode cX0_growTree 20 = .ok (.iload_n 2, 1) := by decide +kernel
theorem dX0_growTree_21 : decode cX0_growTree 21 = .ok (.iastore, 1) := by decide +kernel
theorem dX0_growTree_22 : decode cX0_growTree 22 = .ok (.iinc 2 1, 3) := by decide +kernel
theorem dX0_growTree_25 : decode cX0_growTree 25 = .ok (.goto (-18), 3) := by decide +kernel
theorem dX0_growTree_28 : decode cX0_growTree 28 = .ok (.iconst 1, 1) := by decide +kernel
theorem dX0_growTree_29 : decode cX0_growTree 29 = .ok (.istore_n 2, 1) := by decide +kernel
theorem dX0_growTree_30 : decode cX0_growTree 30 = .ok (.iload_n 2, 1) := by decide +kernel
theorem dX0_growTree_31 : decode cX0_growTree 31 = .ok (.aload_n 1, 1) := by decide +kernel
theorem dX0_growTree_32 : decode cX0_growTree 32 = .ok (.getfield 85, 3) := by decide +kernel
theorem dX0_growTree_35 : decode cX0_growTree 35 = .ok (.if_icmp .ge 14, 3) := by decide +kernel
theorem dX0_growTree_38 : decode cX0_growTree 38 = .ok (.aload_n 0, 1) := by decide +kernel
theorem dX0_growTree_39 : decode cX0_growTree 39 = .ok (.aload_n 1, 1) := by decide +kernel
theorem dX0_growTree_40 : decode cX0_growTree 40 = .ok (.invokevirtual 90, 3) := by decide +kernel
theorem dX0_growTree_43 : decode cX0_growTree 43 = .ok (.iinc 2 1, 3) := by decide +kernel
theorem dX0_growTree_46 : decode cX0_growTree 46 = .ok (.goto (-16), 3) := by decide +kernel
theorem dX0_growTree_49 : decode cX0_growTree 49 = .ok (.return_, 1) := by decide +kernel
theorem dX0_joinPairs_0 : decode cX0_joinPairs 0 = .ok (.iconst 0, 1) := by decide +kernel
theorem dX0_joinPairs_1 : decode cX0_joinPairs 1 = .ok (.istore_n 3, 1) := by decide +kernel
theorem dX0_joinPairs_2 : decode cX0_joinPairs 2 = .ok (.iload_n 3, 1) := by decide +kernel
theorem dX0_joinPairs_3 : decode cX0_joinPairs 3 = .ok (.aload_n 0, 1) := by decide +kernel
theorem dX0_joinPairs_4 : decode cX0_joinPairs 4 = .ok (.getfield 12, 3) := by decide +kernel
theorem dX0_joinPairs_7 : decode cX0_joinPairs 7 = .ok (.getfield 107, 3) := by decide +kernel
theorem dX0_joinPairs_10 : decode cX0_joinPairs 10 = .ok (.if_icmp .ge 55, 3) := by decide +kernel
theorem dX0_joinPairs_13 : decode cX0_joinPairs 13 = .ok (.aload_n 0, 1) := by decide +kernel
theorem dX0_joinPairs_14 : decode cX0_joinPairs 14 = .ok (.getfield 12, 3) := by decide +kernel
theorem dX0_joinPairs_17 : decode cX0_joinPairs 17 = .ok (.iload_n 3, 1) := by decide +kernel
theorem dX0_joinPairs_18 : decode cX0_joinPairs 18 = .ok (.invokevirtual 110, 3) := by decide +kernel
theorem dX0_joinPairs_21 : decode cX0_joinPairs 21 = .ok (.istore 4, 2) := by decide +kernel
theorem dX0_joinPairs_23 : decode cX0_joinPairs 23 = .ok (.iload 4, 2) := by decide +kernel
theorem dX0_joinPairs_25 : decode cX0_joinPairs 25 = .ok (.iconst (-1), 1) := by decide +kernel
theorem dX0_joinPairs_26 : decode cX0_joinPairs 26 = .ok (.if_icmp .eq 33, 3) := by decide +kernel
theorem dX0_joinPairs_29 : decode cX0_joinPairs 29 = .ok (.aload_n 0, 1) := by decide +kernel
theorem dX0_joinPairs_30 : decode cX0_joinPairs 30 = .ok (.getfield 45, 3) := by decide +kernel
theorem dX0_joinPairs_33 : decode cX0_joinPairs 33 = .ok (.bipush 72, 2) := by decide +kernel
theorem dX0_joinPairs_35 : decode cX0_joinPairs 35 = .ok (.aload_n 0, 1) := by decide +kernel
theorem dX0_joinPairs_36 : decode cX0_joinPairs 36 = .ok (.getfield 45, 3) := by decide +kernel
theorem dX0_joinPairs_39 : decode cX0_joinPairs 39 = .ok (.iload_n 2, 1) := by decide +kernel
theorem dX0_joinPairs_40 : decode cX0_joinPairs 40 = .ok (.iload 4, 2) := by decide +kernel
theorem dX0_joinPairs_42 : decode cX0_joinPairs 42 = .ok (.invokestatic 114, 3) := by decide +kernel
theorem dX0_joinPairs_45 : decode cX0_joinPairs 45 = .ok (.iaload, 1) := by decide +kernel
theorem dX0_joinPairs_46 : decode cX0_joinPairs 46 = .ok (.aload_n 0, 1) := by decide +kernel
theorem dX0_joinPairs_47 : decode cX0_joinPairs 47 = .ok (.getfield 45, 3) := by decide +kernel
theorem dX0_joinPairs_50 : decode cX0_joinPairs 50 = .ok (.iload_n 1, 1) := by decide +kernel
theorem dX0_joinPairs_51 : decode cX0_joinPairs 51 = .ok (.iload_n 3, 1) := by decide +kernel
theorem dX0_joinPairs_52 : decode cX0_joinPairs 52 = .ok (.invokestatic 114, 3) := by decide +kernel
theorem dX0_joinPairs_55 : decode cX0_joinPairs 55 = .ok (.iaload, 1) := by decide +kernel
theorem dX0_joinPairs_56 : decode cX0_joinPairs 56 = .ok (.invokestatic 97, 3) := by decide +kernel
theorem dX0_joinPairs_59 : decode cX0_joinPairs 59 = .ok (.iinc 3 1, 3) := by decide +kernel
theorem dX0_joinPairs_62 : decode cX0_joinPairs 62 = .ok (.goto (-60), 3) := by decide +kernel
theorem dX0_joinPairs_65 : decode cX0_joinPairs 65 = .ok (.return_, 1) := by decide +kernel
theorem dX0_numberBeds_0 : decode cX0_numberBeds 0 = .ok (.aload_n 0, 1) := by decide +kernel
theorem dX0_numberBeds_1 : decode cX0_numberBeds 1 = .ok (.iconst 0, 1) := by decide +kernel
theorem dX0_numberBeds_2 : decode cX0_numberBeds 2 = .ok (.putfield 39, 3) := by decide +kernel
theorem dX0_numberBeds_5 : decode cX0_numberBeds 5 = .ok (.iconst 0, 1) := by decide +kernel
theorem dX0_numberBeds_6 : decode cX0_numberBeds 6 = .ok (.istore_n 2, 1) := by decide +kernel
theorem dX0_numberBeds_7 : decode cX0_numberBeds 7 = .ok (.iload_n 2, 1) := by decide +kernel
theorem dX0_numberBeds_8 : decode cX0_numberBeds 8 = .ok (.bipush 72, 2) := by decide +kernel
theorem dX0_numberBeds_10 : decode cX0_numberBeds 10 = .ok (.if_icmp .ge 16, 3) := by decide +kernel
theorem dX0_numberBeds_13 : decode cX0_numberBeds 13 = .ok (.aload_n 0, 1) := by decide +kernel
theorem dX0_numberBeds_14 : decode cX0_numberBeds 14 = .ok (.getfield 51, 3) := by decide +kernel
theorem dX0_numberBeds_17 : decode cX0_numberBeds 17 = .ok (.iload_n 2, 1) := by decide +kernel
theorem dX0_numberBeds_18 : decode cX0_numberBeds 18 = .ok (.iconst (-1), 1) := by decide +kernel
theorem dX0_numberBeds_19 : decode cX0_numberBeds 19 = .ok (.iastore, 1) := by decide +kernel
theorem dX0_numberBeds_20 : decode cX0_numberBeds 20 = .ok (.iinc 2 1, 3) := by decide +kernel
theorem dX0_numberBeds_23 : decode cX0_numberBeds 23 = .ok (.goto (-16), 3) := by decide +kernel
theorem dX0_numberBeds_26 : decode cX0_numberBeds 26 = .ok (.iconst 0, 1) := by decide +kernel
theorem dX0_numberBeds_27 : decode cX0_numberBeds 27 = .ok (.istore_n 2, 1) := by decide +kernel
theorem dX0_numberBeds_28 : decode cX0_numberBeds 28 = .ok (.iload_n 2, 1) := by decide +kernel
theorem dX0_numberBeds_29 : decode cX0_numberBeds 29 = .ok (.sipush 432, 3) := by decide +kernel
theorem dX0_numberBeds_32 : decode cX0_numberBeds 32 = .ok (.if_icmp .ge 16, 3) := by decide +kernel
theorem dX0_numberBeds_35 : decode cX0_numberBeds 35 = .ok (.aload_n 0, 1) := by decide +kernel
theorem dX0_numberBeds_36 : decode cX0_numberBeds 36 = .ok (.getfield 54, 3) := by decide +kernel
theorem dX0_numberBeds_39 : decode cX0_numberBeds 39 = .ok (.iload_n 2, 1) := by decide +kernel
theorem dX0_numberBeds_40 : decode cX0_numberBeds 40 = .ok (.iconst (-1), 1) := by decide +kernel
theorem dX0_numberBeds_41 : decode cX0_numberBeds 41 = .ok (.iastore, 1) := by decide +kernel
theorem dX0_numberBeds_42 : decode cX0_numberBeds 42 = .ok (.iinc 2 1, 3) := by decide +kernel
theorem dX0_numberBeds_45 : decode cX0_numberBeds 45 = .ok (.goto (-17), 3) := by decide +kernel
theorem dX0_numberBeds_48 : decode cX0_numberBeds 48 = .ok (.iconst 0, 1) := by decide +kernel
theorem dX0_numberBeds_49 : decode cX0_numberBeds 49 = .ok (.istore_n 2, 1) := by decide +kernel
theorem dX0_numberBeds_50 : decode cX0_numberBeds 50 = .ok (.iload_n 2, 1) := by decide +kernel
theorem dX0_numberBeds_51 : decode cX0_numberBeds 51 = .ok (.aload_n 1, 1) := by decide +kernel
theorem dX0_numberBeds_52 : decode cX0_numberBeds 52 = .ok (.getfield 85, 3) := by decide +kernel
theorem dX0_numberBeds_55 : decode cX0_numberBeds 55 = .ok (.if_icmp .ge 113, 3) := by decide +kernel
theorem dX0_numberBeds_58 : decode cX0_numberBeds 58 = .ok (.iconst 0, 1) := by decide +kernel
theorem dX0_numberBeds_59 : decode cX0_numberBeds 59 = .ok (.istore_n 3, 1) := by decide +kernel
theorem dX0_numberBeds_60 : decode cX0_numberBeds 60 = .ok (.iload_n 3, 1) := by decide +kernel
theorem dX0_numberBeds_61 : decode cX0_numberBeds 61 = .ok (.aload_n 1, 1) := by decide +kernel
theorem dX0_numberBeds_62 : decode cX0_numberBeds 62 = .ok (.getfield 118, 3) := by decide +kernel
theorem dX0_numberBeds_65 : decode cX0_numberBeds 65 = .ok (.iload_n 2, 1) := by decide +kernel
theorem dX0_numberBeds_66 : decode cX0_numberBeds 66 = .ok (.iaload, 1) := by decide +kernel
theorem dX0_numberBeds_67 : decode cX0_numberBeds 67 = .ok (.if_icmp .ge 95, 3) := by decide +kernel
theorem dX0_numberBeds_70 : decode cX0_numberBeds 70 = .ok (.iload_n 2, 1) := by decide +kernel
theorem dX0_numberBeds_71 : decode cX0_numberBeds 71 = .ok (.iload_n 3, 1) := by decide +kernel
theorem dX0_numberBeds_72 : decode cX0_numberBeds 72 = .ok (.invokestatic 114, 3) := by decide +kernel
theorem dX0_numberBeds_75 : decode cX0_numberBeds 75 = .ok (.istore 4, 2) := by decide +kernel
theorem dX0_numberBeds_77 : decode cX0_numberBeds 77 = .ok (.aload_n 0, 1) := by decide +kernel
theorem dX0_numberBeds_78 : decode cX0_numberBeds 78 = .ok (.getfield 51, 3) := by decide +kernel
theorem dX0_numberBeds_81 : decode cX0_numberBeds 81 = .ok (.aload_n 0, 1) := by decide +kernel
theorem dX0_numberBeds_82 : decode cX0_numberBeds 82 = .ok (.getfield 45, 3) := by decide +kernel
theorem dX0_numberBeds_85 : decode cX0_numberBeds 85 = .ok (.iload 4, 2) := by decide +kernel
theorem dX0_numberBeds_87 : decode cX0_numberBeds 87 = .ok (.iaload, 1) := by decide +kernel
theorem dX0_numberBeds_88 : decode cX0_numberBeds 88 = .ok (.iaload, 1) := by decide +kernel
theorem dX0_numberBeds_89 : decode cX0_numberBeds 89 = .ok (.iconst (-1), 1) := by decide +kernel
theorem dX0_numberBeds_90 : decode cX0_numberBeds 90 = .ok (.if_icmp .ne 29, 3) := by decide +kernel
theorem dX0_numberBeds_93 : decode cX0_numberBeds 93 = .ok (.aload_n 0, 1) := by decide +kernel
theorem dX0_numberBeds_94 : decode cX0_numberBeds 94 = .ok (.getfield 51, 3) := by decide +kernel
theorem dX0_numberBeds_97 : decode cX0_numberBeds 97 = .ok (.aload_n 0, 1) := by decide +kernel
theorem dX0_numberBeds_98 : decode cX0_numberBeds 98 = .ok (.getfield 45, 3) := by decide +kernel
theorem dX0_numberBeds_101 : decode cX0_numberBeds 101 = .ok (.iload 4, 2) := by decide +kernel
theorem dX0_numberBeds_103 : decode cX0_numberBeds 103 = .ok (.iaload, 1) := by decide +kernel
theorem dX0_numberBeds_104 : decode cX0_numberBeds 104 = .ok (.aload_n 0, 1) := by decide +kernel
theorem dX0_numberBeds_105 : decode cX0_numberBeds 105 = .ok (.getfield 39, 3) := by decide +kernel
theorem dX0_numberBeds_108 : decode cX0_numberBeds 108 = .ok (.iastore, 1) := by decide +kernel
theorem dX0_numberBeds_109 : decode cX0_numberBeds 109 = .ok (.aload_n 0, 1) := by decide +kernel
theorem dX0_numberBeds_110 : decode cX0_numberBeds 110 = .ok (.dup, 1) := by decide +kernel
theorem dX0_numberBeds_111 : decode cX0_numberBeds 111 = .ok (.getfield 39, 3) := by decide +kernel
theorem dX0_numberBeds_114 : decode cX0_numberBeds 114 = .ok (.iconst 1, 1) := by decide +kernel
theorem dX0_numberBeds_115 : decode cX0_numberBeds 115 = .ok (.iadd, 1) := by decide +kernel
theorem dX0_numberBeds_116 : decode cX0_numberBeds 116 = .ok (.putfield 39, 3) := by decide +kernel
theorem dX0_numberBeds_119 : decode cX0_numberBeds 119 = .ok (.aload_n 0, 1) := by decide +kernel
theorem dX0_numberBeds_120 : decode cX0_numberBeds 120 = .ok (.getfield 48, 3) := by decide +kernel
theorem dX0_numberBeds_123 : decode cX0_numberBeds 123 = .ok (.iload 4, 2) := by decide +kernel
theorem dX0_numberBeds_125 : decode cX0_numberBeds 125 = .ok (.aload_n 0, 1) := by decide +kernel
theorem dX0_numberBeds_126 : decode cX0_numberBeds 126 = .ok (.getfield 51, 3) := by decide +kernel
theorem dX0_numberBeds_129 : decode cX0_numberBeds 129 = .ok (.aload_n 0, 1) := by decide +kernel
theorem dX0_numberBeds_130 : decode cX0_numberBeds 130 = .ok (.getfield 45, 3) := by decide +kernel
theorem dX0_numberBeds_133 : decode cX0_numberBeds 133 = .ok (.iload 4, 2) := by decide +kernel
theorem dX0_numberBeds_135 : decode cX0_numberBeds 135 = .ok (.iaload, 1) := by decide +kernel
theorem dX0_numberBeds_136 : decode cX0_numberBeds 136 = .ok (.iaload, 1) := by decide +kernel
theorem dX0_numberBeds_137 : decode cX0_numberBeds 137 = .ok (.iastore, 1) := by decide +kernel
theorem dX0_numberBeds_138 : decode cX0_numberBeds 138 = .ok (.aload_n 0, 1) := by decide +kernel
theorem dX0_numberBeds_139 : decode cX0_numberBeds 139 = .ok (.getfield 54, 3) := by decide +kernel
theorem dX0_numberBeds_142 : decode cX0_numberBeds 142 = .ok (.aload_n 0, 1) := by decide +kernel
theorem dX0_numberBeds_143 : decode cX0_numberBeds 143 = .ok (.getfield 48, 3) := by decide +kernel
theorem dX0_numberBeds_146 : decode cX0_numberBeds 146 = .ok (.iload 4, 2) := by decide +kernel
theorem dX0_numberBeds_148 : decode cX0_numberBeds 148 = .ok (.iaload, 1) := by decide +kernel
theorem dX0_numberBeds_149 : decode cX0_numberBeds 149 = .ok (.bipush 6, 2) := by decide +kernel
theorem dX0_numberBeds_151 : decode cX0_numberBeds 151 = .ok (.imul, 1) := by decide +kernel
theorem dX0_numberBeds_152 : decode cX0_numberBeds 152 = .ok (.iload_n 2, 1) := by decide +kernel
theorem dX0_numberBeds_153 : decode cX0_numberBeds 153 = .ok (.iadd, 1) := by decide +kernel
theorem dX0_numberBeds_154 : decode cX0_numberBeds 154 = .ok (.iload_n 3, 1) := by decide +kernel
theorem dX0_numberBeds_155 : decode cX0_numberBeds 155 = .ok (.iastore, 1) := by decide +kernel
theorem dX0_numberBeds_156 : decode cX0_numberBeds 156 = .ok (.iinc 3 1, 3) := by decide +kernel
theorem dX0_numberBeds_159 : decode cX0_numberBeds 159 = .ok (.goto (-99), 3) := by decide +kernel
theorem dX0_numberBeds_162 : decode cX0_numberBeds 162 = .ok (.iinc 2 1, 3) := by decide +kernel
theorem dX0_numberBeds_165 : decode cX0_numberBeds 165 = .ok (.goto (-115), 3) := by decide +kernel
theorem dX0_numberBeds_168 : decode cX0_numberBeds 168 = .ok (.return_, 1) := by decide +kernel
theorem dX0_refresh_0 : decode cX0_refresh 0 = .ok (.aload_n 0, 1) := by decide +kernel
theorem dX0_refresh_1 : decode cX0_refresh 1 = .ok (.getfield 18, 3) := by decide +kernel
theorem dX0_refresh_4 : decode cX0_refresh 4 = .ok (.ifCond .ne 4, 3) := by decide +kernel
theorem dX0_refresh_7 : decode cX0_refresh 7 = .ok (.return_, 1) := by decide +kernel
theorem dX0_refresh_8 : decode cX0_refresh 8 = .ok (.aload_n 0, 1) := by decide +kernel
theorem dX0_refresh_9 : decode cX0_refresh 9 = .ok (.iconst 0, 1) := by decide +kernel
theorem dX0_refresh_10 : decode cX0_refresh 10 = .ok (.putfield 18, 3) := by decide +kernel
theorem dX0_refresh_13 : decode cX0_refresh 13 = .ok (.aload_n 0, 1) := by decide +kernel
theorem dX0_refresh_14 : decode cX0_refresh 14 = .ok (.iconst 1, 1) := by decide +kernel
theorem dX0_refresh_15 : decode cX0_refresh 15 = .ok (.putfield 57, 3) := by decide +kernel
theorem dX0_refresh_18 : decode cX0_refresh 18 = .ok (.aload_n 0, 1) := by decide +kernel
theorem dX0_refresh_19 : decode cX0_refresh 19 = .ok (.aload_n 1, 1) := by decide +kernel
theorem dX0_refresh_20 : decode cX0_refresh 20 = .ok (.invokevirtual 70, 3) := by decide +kernel
theorem dX0_refresh_23 : decode cX0_refresh 23 = .ok (.aload_n 0, 1) := by decide +kernel
theorem dX0_refresh_24 : decode cX0_refresh 24 = .ok (.iconst 0, 1) := by decide +kernel
theorem dX0_refresh_25 : decode cX0_refresh 25 = .ok (.putfield 36, 3) := by decide +kernel
theorem dX0_refresh_28 : decode cX0_refresh 28 = .ok (.iconst 0, 1) := by decide +kernel
theorem dX0_refresh_29 : decode cX0_refresh 29 = .ok (.istore_n 2, 1) := by decide +kernel
theorem dX0_refresh_30 : decode cX0_refresh 30 = .ok (.iload_n 2, 1) := by decide +kernel
theorem dX0_refresh_31 : decode cX0_refresh 31 = .ok (.bipush 72, 2) := by decide +kernel
theorem dX0_refresh_33 : decode cX0_refresh 33 = .ok (.if_icmp .ge 16, 3) := by decide +kernel
theorem dX0_refresh_36 : decode cX0_refresh 36 = .ok (.aload_n 0, 1) := by decide +kernel
theorem dX0_refresh_37 : decode cX0_refresh 37 = .ok (.getfield 45, 3) := by decide +kernel
theorem dX0_refresh_40 : decode cX0_refresh 40 = .ok (.iload_n 2, 1) := by decide +kernel
theorem dX0_refresh_41 : decode cX0_refresh 41 = .ok (.iload_n 2, 1) := by decide +kernel
theorem dX0_refresh_42 : decode cX0_refresh 42 = .ok (.iastore, 1) := by decide +kernel
theorem dX0_refresh_43 : decode cX0_refresh 43 = .ok (.iinc 2 1, 3) := by decide +kernel
theorem dX0_refresh_46 : decode cX0_refresh 46 = .ok (.goto (-16), 3) := by decide +kernel
theorem dX0_refresh_49 : decode cX0_refresh 49 = .ok (.iconst 0, 1) := by decide +kernel
theorem dX0_refresh_50 : decode cX0_refresh 50 = .ok (.istore_n 2, 1) := by decide +kernel
theorem dX0_refresh_51 : decode cX0_refresh 51 = .ok (.iload_n 2, 1) := by decide +kernel
theorem dX0_refresh_52 : decode cX0_refresh 52 = .ok (.aload_n 0, 1) := by decide +kernel
theorem dX0_refresh_53 : decode cX0_refresh 53 = .ok (.getfield 22, 3) := by decide +kernel
theorem dX0_refresh_56 : decode cX0_refresh 56 = .ok (.if_icmp .ge 54, 3) := by decide +kernel
theorem dX0_refresh_59 : decode cX0_refresh 59 = .ok (.aload_n 0, 1) := by decide +kernel
theorem dX0_refresh_60 : decode cX0_refresh 60 = .ok (.dup, 1) := by decide +kernel
theorem dX0_refresh_61 : decode cX0_refresh 61 = .ok (.getfield 36, 3) := by decide +kernel
theorem dX0_refresh_64 : decode cX0_refresh 64 = .ok (.aload_n 0, 1) := by decide +kernel
theorem dX0_refresh_65 : decode cX0_refresh 65 = .ok (.getfield 12, 3) := by decide +kernel
theorem dX0_refresh_68 : decode cX0_refresh 68 = .ok (.aload_n 1, 1) := by decide +kernel
theorem dX0_refresh_69 : decode cX0_refresh 69 = .ok (.aload_n 0, 1) := by decide +kernel
theorem dX0_refresh_70 : decode cX0_refresh 70 = .ok (.getfield 26, 3) := by decide +kernel
theorem dX0_refresh_73 : decode cX0_refresh 73 = .ok (.iload_n 2, 1) := by decide +kernel
theorem dX0_refresh_74 : decode cX0_refresh 74 = .ok (.iaload, 1) := by decide +kernel
theorem dX0_refresh_75 : decode cX0_refresh 75 = .ok (.aload_n 0, 1) := by decide +kernel
theorem dX0_refresh_76 : decode cX0_refresh 76 = .ok (.getfield 30, 3) := by decide +kernel
theorem dX0_refresh_79 : decode cX0_refresh 79 = .ok (.iload_n 2, 1) := by decide +kernel
theorem dX0_refresh_80 : decode cX0_refresh 80 = .ok (.iaload, 1) := by decide +kernel
theorem dX0_refresh_81 : decode cX0_refresh 81 = .ok (.invokevirtual 74, 3) := by decide +kernel
theorem dX0_refresh_84 : decode cX0_refresh 84 = .ok (.iadd, 1) := by decide +kernel
theorem dX0_refresh_85 : decode cX0_refresh 85 = .ok (.putfield 36, 3) := by decide +kernel
theorem dX0_refresh_88 : decode cX0_refresh 88 = .ok (.aload_n 0, 1) := by decide +kernel
theorem dX0_refresh_89 : decode cX0_refresh 89 = .ok (.aload_n 0, 1) := by decide +kernel
theorem dX0_refresh_90 : decode cX0_refresh 90 = .ok (.getfield 26, 3) := by decide +kernel
theorem dX0_refresh_93 : decode cX0_refresh 93 = .ok (.iload_n 2, 1) := by decide +kernel
theorem dX0_refresh_94 : decode cX0_refresh 94 = .ok (.iaload, 1) := by decide +kernel
theorem dX0_refresh_95 : decode cX0_refresh 95 = .ok (.aload_n 0, 1) := by decide +kernel
theorem dX0_refresh_96 : decode cX0_refresh 96 = .ok (.getfield 30, 3) := by decide +kernel
theorem dX0_refresh_99 : decode cX0_refresh 99 = .ok (.iload_n 2, 1) := by decide +kernel
theorem dX0_refresh_100 : decode cX0_refresh 100 = .ok (.iaload, 1) := by decide +kernel
theorem dX0_refresh_101 : decode cX0_refresh 101 = .ok (.invokevirtual 78, 3) := by decide +kernel
theorem dX0_refresh_104 : decode cX0_refresh 104 = .ok (.iinc 2 1, 3) := by decide +kernel
theorem dX0_refresh_107 : decode cX0_refresh 107 = .ok (.goto (-56), 3) := by decide +kernel
theorem dX0_refresh_110 : decode cX0_refresh 110 = .ok (.aload_n 0, 1) := by decide +kernel
theorem dX0_refresh_111 : decode cX0_refresh 111 = .ok (.aload_n 1, 1) := by decide +kernel
theorem dX0_refresh_112 : decode cX0_refresh 112 = .ok (.invokevirtual 82, 3) := by decide +kernel
theorem dX0_refresh_115 : decode cX0_refresh 115 = .ok (.return_, 1) := by decide +kernel
theorem dX10_tree_0 : decode cX10_tree 0 = .ok (.iload_n 2, 1) := by decide +kernel
theorem dX10_tree_1 : decode cX10_tree 1 = .ok (.iconst 0, 1) := by decide +kernel
theorem dX10_tree_2 : decode cX10_tree 2 = .ok (.iconst 2, 1) := by decide +kernel
theorem dX10_tree_3 : decode cX10_tree 3 = .ok (.invokestatic 114, 3) := by decide +kernel
theorem dX10_tree_6 : decode cX10_tree 6 = .ok (.ifCond .ne 9, 3) := by decide +kernel
theorem dX10_tree_9 : decode cX10_tree 9 = .ok (.aload_n 0, 1) := by decide +kernel
theorem dX10_tree_10 : decode cX10_tree 10 = .ok (.iconst 1, 1) := by decide +kernel
theorem dX10_tree_11 : decode cX10_tree 11 = .ok (.invokevirtual 137, 3) := by decide +kernel
theorem dX10_tree_14 : decode cX10_tree 14 = .ok (.ireturn, 1) := by decide +kernel
theorem dX10_tree_15 : decode cX10_tree 15 = .ok (.aload_n 0, 1) := by decide +kernel
theorem dX10_tree_16 : decode cX10_tree 16 = .ok (.getfield 88, 3) := by decide +kernel
theorem dX10_tree_19 : decode cX10_tree 19 = .ok (.aload_n 0, 1) := by decide +kernel
theorem dX10_tree_20 : decode cX10_tree 20 = .ok (.getfield 50, 3) := by decide +kernel
theorem dX10_tree_23 : decode cX10_tree 23 = .ok (.invokevirtual 287, 3) := by decide +kernel
theorem dX10_tree_26 : decode cX10_tree 26 = .ok (.iload_n 1, 1) := by decide +kernel
theorem dX10_tree_27 : decode cX10_tree 27 = .ok (.ifCond .lt 14, 3) := by decide +kernel
theorem dX10_tree_30 : decode cX10_tree 30 = .ok (.iload_n 1, 1) := by decide +kernel
theorem dX10_tree_31 : decode cX10_tree 31 = .ok (.aload_n 0, 1) := by decide +kernel
theorem dX10_tree_32 : decode cX10_tree 32 = .ok (.getfield 88, 3) := by decide +kernel
theorem dX10_tree_35 : decode cX10_tree 35 = .ok (.getfield 291, 3) := by decide +kernel
theorem dX10_tree_38 : decode cX10_tree 38 = .ok (.if_icmp .lt 10, 3) := by decide +kernel
theorem dX10_tree_41 : decode cX10_tree 41 = .ok (.aload_n 0, 1) := by decide +kernel
theorem dX10_tree_42 : decode cX10_tree 42 = .ok (.bipush 6, 2) := by decide +kernel
theorem dX10_tree_44 : decode cX10_tree 44 = .ok (.invokevirtual 137, 3) := by decide +kernel
theorem dX10_tree_47 : decode cX10_tree 47 = .ok (.ireturn, 1) := by decide +kernel
theorem dX10_tree_48 : decode cX10_tree 48 = .ok (.iload_n 2, 1) := by decide +kernel
theorem dX10_tree_49 : decode cX10_tree 49 = .ok (.iconst 2, 1) := by decide +kernel
theorem dX10_tree_50 : decode cX10_tree 50 = .ok (.if_icmp .ne 17, 3) := by decide +kernel
theorem dX10_tree_53 : decode cX10_tree 53 = .ok (.aload_n 0, 1) := by decide +kernel
theorem dX10_tree_54 : decode cX10_tree 54 = .ok (.aload_n 0, 1) := by decide +kernel
theorem dX10_tree_55 : decode cX10_tree 55 = .ok (.getfield 88, 3) := by decide +kernel
theorem dX10_tree_58 : decode cX10_tree 58 = .ok (.getfield 294, 3) := by decide +kernel
theorem dX10_tree_61 : decode cX10_tree 61 = .ok (.iload_n 1, 1) := by decide +kernel
theorem dX10_tree_62 : decode cX10_tree 62 = .ok (.iaload, 1) := by decide +kernel
theorem dX10_tree_63 : decode cX10_tree 63 = .ok (.invokevirtual 187, 3) := by decide +kernel
theorem dX10_tree_66 : decode cX10_tree 66 = .ok (.ireturn, 1) := by decide +kernel
theorem dX10_tree_67 : decode cX10_tree 67 = .ok (.aload_n 0, 1) := by decide +kernel
theorem dX10_tree_68 : decode cX10_tree 68 = .ok (.iload_n 2, 1) := by decide +kernel
theorem dX10_tree_69 : decode cX10_tree 69 = .ok (.ifCond .ne 15, 3) := by decide +kernel
theorem dX10_tree_72 : decode cX10_tree 72 = .ok (.aload_n 0, 1) := by decide +kernel
theorem dX10_tree_73 : decode cX10_tree 73 = .ok (.getfield 88, 3) := by decide +kernel
theorem dX10_tree_76 : decode cX10_tree 76 = .ok (.getfield 297, 3) := by decide +kernel
theorem dX10_tree_79 : decode cX10_tree 79 = .ok (.iload_n 1, 1) := by decide +kernel
theorem dX10_tree_80 : decode cX10_tree 80 = .ok (.iaload, 1) := by decide +kernel
theorem dX10_tree_81 : decode cX10_tree 81 = .ok (.goto 12, 3) := by decide +kernel
theorem dX10_tree_84 : decode cX10_tree 84 = .ok (.aload_n 0, 1) := by decide +kernel
theorem dX10_tree_85 : decode cX10_tree 85 = .ok (.getfield 88, 3) := by decide +kernel
theorem dX10_tree_88 : decode cX10_tree 88 = .ok (.getfield 300, 3) := by decide +kernel
theorem dX10_tree_91 : decode cX10_tree 91 = .ok (.iload_n 1, 1) := by decide +kernel
theorem dX10_tree_92 : decode cX10_tree 92 = .ok (.iaload, 1) := by decide +kernel
theorem dX10_tree_93 : decode cX10_tree 93 = .ok (.invokevirtual 187, 3) := by decide +kernel
theorem dX10_tree_96 : decode cX10_tree 96 = .ok (.ireturn, 1) := by decide +kernel
theorem dX10_treeCost_0 : decode cX10_treeCost 0 = .ok (.aload_n 0, 1) := by decide +kernel
theorem dX10_treeCost_1 : decode cX10_treeCost 1 = .ok (.getfield 88, 3) := by decide +kernel
theorem dX10_treeCost_4 : decode cX10_treeCost 4 = .ok (.aload_n 0, 1) := by decide +kernel
theorem dX10_treeCost_5 : decode cX10_treeCost 5 = .ok (.getfield 50, 3) := by decide +kernel
theorem dX10_treeCost_8 : decode cX10_treeCost 8 = .ok (.invokevirtual 287, 3) := by decide +kernel
theorem dX10_treeCost_11 : decode cX10_treeCost 11 = .ok (.aload_n 0, 1) := by decide +kernel
theorem dX10_treeCost_12 : decode cX10_treeCost 12 = .ok (.aload_n 0, 1) := by decide +kernel
theorem dX10_treeCost_13 : decode cX10_treeCost 13 = .ok (.getfield 88, 3) := by decide +kernel
theorem dX10_treeCost_16 : decode cX10_treeCost 16 = .ok (.getfield 303, 3) := by decide +kernel
theorem dX10_treeCost_19 : decode cX10_treeCost 19 = .ok (.invokevirtual 187, 3) := by decide +kernel
theorem dX10_treeCost_22 : decode cX10_treeCost 22 = .ok (.ireturn, 1) := by decide +kernel
theorem dX10_beds_0 : decode cX10_beds 0 = .ok (.aload_n 0, 1) := by decide +kernel
theorem dX10_beds_1 : decode cX10_beds 1 = .ok (.getfield 88, 3) := by decide +kernel
theorem dX10_beds_4 : decode cX10_beds 4 = .ok (.aload_n 0, 1) := by decide +kernel
theorem dX10_beds_5 : decode cX10_beds 5 = .ok (.getfield 50, 3) := by decide +kernel
theorem dX10_beds_8 : decode cX10_beds 8 = .ok (.invokevirtual 287, 3) := by decide +kernel
theorem dX10_beds_11 : decode cX10_beds 11 = .ok (.aload_n 0, 1) := by decide +kernel
theorem dX10_beds_12 : decode cX10_beds 12 = .ok (.aload_n 0, 1) := by decide +kernel
theorem dX10_beds_13 : decode cX10_beds 13 = .ok (.getfield 88, 3) := by decide +kernel
theorem dX10_beds_16 : decode cX10_beds 16 = .ok (.getfield 306, 3) := by decide +kernel
theorem dX10_beds_19 : decode cX10_beds 19 = .ok (.invokevirtual 187, 3) := by decide +kernel
theorem dX10_beds_22 : decode cX10_beds 22 = .ok (.ireturn, 1) := by decide +kernel
theorem dX10_bedOf_0 : decode cX10_bedOf 0 = .ok (.aload_n 0, 1) := by decide +kernel
theorem dX10_bedOf_1 : decode cX10_bedOf 1 = .ok (.getfield 50, 3) := by decide +kernel
theorem dX10_bedOf_4 : decode cX10_bedOf 4 = .ok (.iload_n 1, 1) := by decide +kernel
theorem dX10_bedOf_5 : decode cX10_bedOf 5 = .ok (.iload_n 2, 1) := by decide +kernel
theorem dX10_bedOf_6 : decode cX10_bedOf 6 = .ok (.invokevirtual 243, 3) := by decide +kernel
theorem dX10_bedOf_9 : decode cX10_bedOf 9 = .ok (.ifCond .ne 9, 3) := by decide +kernel
theorem dX10_bedOf_12 : decode cX10_bedOf 12 = .ok (.aload_n 0, 1) := by decide +kernel
theorem dX10_bedOf_13 : decode cX10_bedOf 13 = .ok (.iconst 1, 1) := by decide +kernel
theorem dX10_bedOf_14 : decode cX10_bedOf 14 = .ok (.invokevirtual 137, 3) := by decide +kernel
theorem dX10_bedOf_17 : decode cX10_bedOf 17 = .ok (.ireturn, 1) := by decide +kernel
theorem dX10_bedOf_18 : decode cX10_bedOf 18 = .ok (.aload_n 0, 1) := by decide +kernel
theorem dX10_bedOf_19 : decode cX10_bedOf 19 = .ok (.getfield 88, 3) := by decide +kernel
theorem dX10_bedOf_22 : decode cX10_bedOf 22 = .ok (.aload_n 0, 1) := by decide +kernel
theorem dX10_bedOf_23 : decode cX10_bedOf 23 = .ok (.getfield 50, 3) := by decide +kernel
theorem dX10_bedOf_26 : decode cX10_bedOf 26 = .ok (.invokevirtual 287, 3) := by decide +kernel
theorem dX10_bedOf_29 : decode cX10_bedOf 29 = .ok (.aload_n 0, 1) := by decide +kernel
theorem dX10_bedOf_30 : decode cX10_bedOf 30 = .ok (.aload_n 0, 1) := by decide +kernel
theorem dX10_bedOf_31 : decode cX10_bedOf 31 = .ok (.getfield 88, 3) := by decide +kernel
theorem dX10_bedOf_34 : decode cX10_bedOf 34 = .ok (.getfield 309, 3) := by decide +kernel
theorem dX10_bedOf_37 : decode cX10_bedOf 37 = .ok (.iload_n 1, 1) := by decide +kernel
theorem dX10_bedOf_38 : decode cX10_bedOf 38 = .ok (.iload_n 2, 1) := by decide +kernel
theorem dX10_bedOf_39 : decode cX10_bedOf 39 = .ok (.invokestatic 249, 3) := by decide +kernel
theorem dX10_bedOf_42 : decode cX10_bedOf 42 = .ok (.iaload, 1) := by decide +kernel
theorem dX10_bedOf_43 : decode cX10_bedOf 43 = .ok (.invokevirtual 187, 3) := by decide +kernel
theorem dX10_bedOf_46 : decode cX10_bedOf 46 = .ok (.ireturn, 1) := by decide +kernel
theorem dX10_isBed_0 : decode cX10_isBed 0 = .ok (.aload_n 0, 1) := by decide +kernel
theorem dX10_isBed_1 : decode cX10_isBed 1 = .ok (.getfield 88, 3) := by decide +kernel
theorem dX10_isBed_4 : decode cX10_isBed 4 = .ok (.aload_n 0, 1) := by decide +kernel
theorem dX10_isBed_5 : decode cX10_isBed 5 = .ok (.getfield 50, 3) := by decide +kernel
theorem dX10_isBed_8 : decode cX10_isBed 8 = .ok (.invokevirtual 287, 3) := by decide +kernel
theorem dX10_isBed_11 : decode cX10_isBed 11 = .ok (.iload_n 1, 1) := by decide +kernel
theorem dX10_isBed_12 : decode cX10_isBed 12 = .ok (.ifCond .lt 18, 3) := by decide +kernel
theorem dX10_isBed_15 : decode cX10_isBed 15 = .ok (.iload_n 1, 1) := by decide +kernel
theorem dX10_isBed_16 : decode cX10_isBed 16 = .ok (.aload_n 0, 1) := by decide +kernel
theorem dX10_isBed_17 : decode cX10_isBed 17 = .ok (.getfield 88, 3) := by decide +kernel
theorem dX10_isBed_20 : decode cX10_isBed 20 = .ok (.getfield 306, 3) := by decide +kernel
theorem dX10_isBed_23 : decode cX10_isBed 23 = .ok (.if_icmp .ge 7, 3) := by decide +kernel
theorem dX10_isBed_26 : decode cX10_isBed 26 = .ok (.iconst 1, 1) := by decide +kernel
theorem dX10_isBed_27 : decode cX10_isBed 27 = .ok (.goto 4, 3) := by decide +kernel
theorem dX10_isBed_30 : decode cX10_isBed 30 = .ok (.iconst 0, 1) := by decide +kernel
theorem dX10_isBed_31 : decode cX10_isBed 31 = .ok (.ireturn, 1) := by decide +kernel
theorem dX0_layerIn_0 : decode cX0_layerIn 0 = .ok (.aload_n 0, 1) := by decide +kernel
theorem dX0_layerIn_1 : decode cX0_layerIn 1 = .ok (.getfield 54, 3) := by decide +kernel
theorem dX0_layerIn_4 : decode cX0_layerIn 4 = .ok (.iload_n 1, 1) := by decide +kernel
theorem dX0_layerIn_5 : decode cX0_layerIn 5 = .ok (.bipush 6, 2) := by decide +kernel
theorem dX0_layerIn_7 : decode cX0_layerIn 7 = .ok (.imul, 1) := by decide +kernel
theorem dX0_layerIn_8 : decode cX0_layerIn 8 = .ok (.iload_n 2, 1) := by decide +kernel
theorem dX0_layerIn_9 : decode cX0_layerIn 9 = .ok (.iadd, 1) := by decide +kernel
theorem dX0_layerIn_10 : decode cX0_layerIn 10 = .ok (.iaload, 1) := by decide +kernel
theorem dX0_layerIn_11 : decode cX0_layerIn 11 = .ok (.ireturn, 1) := by decide +kernel
theorem dX0_setOfHoles_0 : decode cX0_setOfHoles 0 = .ok (.iconst 0, 1) := by decide +kernel
theorem dX0_setOfHoles_1 : decode cX0_setOfHoles 1 = .ok (.istore_n 2, 1) := by decide +kernel
theorem dX0_setOfHoles_2 : decode cX0_setOfHoles 2 = .ok (.iconst 0, 1) := by decide +kernel
theorem dX0_setOfHoles_3 : decode cX0_setOfHoles 3 = .ok (.istore_n 3, 1) := by decide +kernel
theorem dX0_setOfHoles_4 : decode cX0_setOfHoles 4 = .ok (.iload_n 3, 1) := by decide +kernel
theorem dX0_setOfHoles_5 : decode cX0_setOfHoles 5 = .ok (.bipush 6, 2) := by decide +kernel
theorem dX0_setOfHoles_7 : decode cX0_setOfHoles 7 = .ok (.if_icmp .ge 25, 3) := by decide +kernel
theorem dX0_setOfHoles_10 : decode cX0_setOfHoles 10 = .ok (.aload_n 0, 1) := by decide +kernel
theorem dX0_setOfHoles_11 : decode cX0_setOfHoles 11 = .ok (.iload_n 1, 1) := by decide +kernel
theorem dX0_setOfHoles_12 : decode cX0_setOfHoles 12 = .ok (.iload_n 3, 1) := by decide +kernel
theorem dX0_setOfHoles_13 : decode cX0_setOfHoles 13 = .ok (.invokevirtual 121, 3) := by decide +kernel
theorem dX0_setOfHoles_16 : decode cX0_setOfHoles 16 = .ok (.iconst (-1), 1) := by decide +kernel
theorem dX0_setOfHoles_17 : decode cX0_setOfHoles 17 = .ok (.if_icmp .eq 9, 3) := by decide +kernel
theorem dX0_setOfHoles_20 : decode cX0_setOfHoles 20 = .ok (.iload_n 2, 1) := by decide +kernel
theorem dX0_setOfHoles_21 : decode cX0_setOfHoles 21 = .ok (.iconst 1, 1) := by decide +kernel
theorem dX0_setOfHoles_22 : decode cX0_setOfHoles 22 = .ok (.iload_n 3, 1) := by decide +kernel
theorem dX0_setOfHoles_23 : decode cX0_setOfHoles 23 = .ok (.ishl, 1) := by decide +kernel
theorem dX0_setOfHoles_24 : decode cX0_setOfHoles 24 = .ok (.ior, 1) := by decide +kernel
theorem dX0_setOfHoles_25 : decode cX0_setOfHoles 25 = .ok (.istore_n 2, 1) := by decide +kernel
theorem dX0_setOfHoles_26 : decode cX0_setOfHoles 26 = .ok (.iinc 3 1, 3) := by decide +kernel
theorem dX0_setOfHoles_29 : decode cX0_setOfHoles 29 = .ok (.goto (-25), 3) := by decide +kernel
theorem dX0_setOfHoles_32 : decode cX0_setOfHoles 32 = .ok (.iload_n 2, 1) := by decide +kernel
theorem dX0_setOfHoles_33 : decode cX0_setOfHoles 33 = .ok (.ireturn, 1) := by decide +kernel
theorem dX10_holesOf_0 : decode cX10_holesOf 0 = .ok (.aload_n 0, 1) := by decide +kernel
theorem dX10_holesOf_1 : decode cX10_holesOf 1 = .ok (.iload_n 1, 1) := by decide +kernel
theorem dX10_holesOf_2 : decode cX10_holesOf 2 = .ok (.invokevirtual 312, 3) := by decide +kernel
theorem dX10_holesOf_5 : decode cX10_holesOf 5 = .ok (.ifCond .ne 9, 3) := by decide +kernel
theorem dX10_holesOf_8 : decode cX10_holesOf 8 = .ok (.aload_n 0, 1) := by decide +kernel
theorem dX10_holesOf_9 : decode cX10_holesOf 9 = .ok (.iconst 1, 1) := by decide +kernel
theorem dX10_holesOf_10 : decode cX10_holesOf 10 = .ok (.invokevirtual 137, 3) := by decide +kernel
theorem dX10_holesOf_13 : decode cX10_holesOf 13 = .ok (.ireturn, 1) := by decide +kernel
theorem dX10_holesOf_14 : decode cX10_holesOf 14 = .ok (.aload_n 0, 1) := by decide +kernel
theorem dX10_holesOf_15 : decode cX10_holesOf 15 = .ok (.aload_n 0, 1) := by decide +kernel
theorem dX10_holesOf_16 : decode cX10_holesOf 16 = .ok (.getfield 88, 3) := by decide +kernel
theorem dX10_holesOf_19 : decode cX10_holesOf 19 = .ok (.iload_n 1, 1) := by decide +kernel
theorem dX10_holesOf_20 : decode cX10_holesOf 20 = .ok (.invokevirtual 315, 3) := by decide +kernel
theorem dX10_holesOf_23 : decode cX10_holesOf 23 = .ok (.invokevirtual 187, 3) := by decide +kernel
theorem dX10_holesOf_26 : decode cX10_holesOf 26 = .ok (.ireturn, 1) := by decide +kernel
theorem dX10_bed_0 : decode cX10_bed 0 = .ok (.aload_n 0, 1) := by decide +kernel
theorem dX10_bed_1 : decode cX10_bed 1 = .ok (.iload_n 1, 1) := by decide +kernel
theorem dX10_bed_2 : decode cX10_bed 2 = .ok (.invokevirtual 312, 3) := by decide +kernel
theorem dX10_bed_5 : decode cX10_bed 5 = .ok (.ifCond .eq 23, 3) := by decide +kernel
theorem dX10_bed_8 : decode cX10_bed 8 = .ok (.aload_n 0, 1) := by decide +kernel
theorem dX10_bed_9 : decode cX10_bed 9 = .ok (.getfield 50, 3) := by decide +kernel
theorem dX10_bed_12 : decode cX10_bed 12 = .ok (.iload_n 2, 1) := by decide +kernel
theorem dX10_bed_13 : decode cX10_bed 13 = .ok (.invokevirtual 225, 3) := by decide +kernel
theorem dX10_bed_16 : decode cX10_bed 16 = .ok (.ifCond .eq 12, 3) := by decide +kernel
theorem dX10_bed_19 : decode cX10_bed 19 = .ok (.iload_n 3, 1) := by decide +kernel
theorem dX10_bed_20 : decode cX10_bed 20 = .ok (.iconst 0, 1) := by decide +kernel
theorem dX10_bed_21 : decode cX10_bed 21 = .ok (.iconst 2, 1) := by decide +kernel
theorem dX10_bed_22 : decode cX10_bed 22 = .ok (.invokestatic 114, 3) := by decide +kernel
theorem dX10_bed_25 : decode cX10_bed 25 = .ok (.ifCond .ne 9, 3) := by decide +kernel
theorem dX10_bed_28 : decode cX10_bed 28 = .ok (.aload_n 0, 1) := by decide +kernel
theorem dX10_bed_29 : decode cX10_bed 29 = .ok (.iconst 1, 1) := by decide +kernel
theorem dX10_bed_30 : decode cX10_bed 30 = .ok (.invokevirtual 137, 3) := by decide +kernel
theorem dX10_bed_33 : decode cX10_bed 33 = .ok (.ireturn, 1) := by decide +kernel
theorem dX10_bed_34 : decode cX10_bed 34 = .ok (.aload_n 0, 1) := by decide +kernel
theorem dX10_bed_35 : decode cX10_bed 35 = .ok (.getfield 88, 3) := by decide +kernel
theorem dX10_bed_38 : decode cX10_bed 38 = .ok (.iload_n 1, 1) := by decide +kernel
theorem dX10_bed_39 : decode cX10_bed 39 = .ok (.iload_n 2, 1) := by decide +kernel
theorem dX10_bed_40 : decode cX10_bed 40 = .ok (.invokevirtual 318, 3) := by decide +kernel
theorem dX10_bed_43 : decode cX10_bed 43 = .ok (.istore 4, 2) := by decide +kernel
theorem dX10_bed_45 : decode cX10_bed 45 = .ok (.iload 4, 2) := by decide +kernel
theorem dX10_bed_47 : decode cX10_bed 47 = .ok (.iconst (-1), 1) := by decide +kernel
theorem dX10_bed_48 : decode cX10_bed 48 = .ok (.if_icmp .ne 10, 3) := by decide +kernel
theorem dX10_bed_51 : decode cX10_bed 51 = .ok (.aload_n 0, 1) := by decide +kernel
theorem dX10_bed_52 : decode cX10_bed 52 = .ok (.bipush 6, 2) := by decide +kernel
theorem dX10_bed_54 : decode cX10_bed 54 = .ok (.invokevirtual 137, 3) := by decide +kernel
theorem dX10_bed_57 : decode cX10_bed 57 = .ok (.ireturn, 1) := by decide +kernel
theorem dX10_bed_58 : decode cX10_bed 58 = .ok (.iload_n 3, 1) := by decide +kernel
theorem dX10_bed_59 : decode cX10_bed 59 = .ok (.iconst 2, 1) := by decide +kernel
theorem dX10_bed_60 : decode cX10_bed 60 = .ok (.if_icmp .ne 10, 3) := by decide +kernel
theorem dX10_bed_63 : decode cX10_bed 63 = .ok (.aload_n 0, 1) := by decide +kernel
theorem dX10_bed_64 : decode cX10_bed 64 = .ok (.iload 4, 2) := by decide +kernel
theorem dX10_bed_66 : decode cX10_bed 66 = .ok (.invokevirtual 187, 3) := by decide +kernel
theorem dX10_bed_69 : decode cX10_bed 69 = .ok (.ireturn, 1) := by decide +kernel
theorem dX10_bed_70 : decode cX10_bed 70 = .ok (.aload_n 0, 1) := by decide +kernel
theorem dX10_bed_71 : decode cX10_bed 71 = .ok (.iload_n 3, 1) := by decide +kernel
theorem dX10_bed_72 : decode cX10_bed 72 = .ok (.ifCond .ne 16, 3) := by decide +kernel
theorem dX10_bed_75 : decode cX10_bed 75 = .ok (.aload_n 0, 1) := by decide +kernel
theorem dX10_bed_76 : decode cX10_bed 76 = .ok (.getfield 50, 3) := by decide +kernel
theorem dX10_bed_79 : decode cX10_bed 79 = .ok (.iload_n 2, 1) := by decide +kernel
theorem dX10_bed_80 : decode cX10_bed 80 = .ok (.iload 4, 2) := by decide +kernel
theorem dX10_bed_82 : decode cX10_bed 82 = .ok (.invokevirtual 255, 3) := by decide +kernel
theorem dX10_bed_85 : decode cX10_bed 85 = .ok (.goto 17, 3) := by decide +kernel
theorem dX10_bed_88 : decode cX10_bed 88 = .ok (.aload_n 0, 1) := by decide +kernel
theorem dX10_bed_89 : decode cX10_bed 89 = .ok (.getfield 50, 3) := by decide +kernel
theorem dX10_bed_92 : decode cX10_bed 92 = .ok (.getfield 252, 3) := by decide +kernel
theorem dX10_bed_95 : decode cX10_bed 95 = .ok (.iload_n 2, 1) := by decide +kernel
theorem dX10_bed_96 : decode cX10_bed 96 = .ok (.iload 4, 2) := by decide +kernel
theorem dX10_bed_98 : decode cX10_bed 98 = .ok (.invokestatic 249, 3) := by decide +kernel
theorem dX10_bed_101 : decode cX10_bed 101 = .ok (.iaload, 1) := by decide +kernel
theorem dX10_bed_102 : decode cX10_bed 102 = .ok (.invokevirtual 187, 3) := by decide +kernel
theorem dX10_bed_105 : decode cX10_bed 105 = .ok (.ireturn, 1) := by decide +kernel
theorem dX0_isHigher_0 : decode cX0_isHigher 0 = .ok (.iconst 0, 1) := by decide +kernel
theorem dX0_isHigher_1 : decode cX0_isHigher 1 = .ok (.istore_n 3, 1) := by decide +kernel
theorem dX0_isHigher_2 : decode cX0_isHigher 2 = .ok (.iload_n 3, 1) := by decide +kernel
theorem dX0_isHigher_3 : decode cX0_isHigher 3 = .ok (.bipush 6, 2) := by decide +kernel
theorem dX0_isHigher_5 : decode cX0_isHigher 5 = .ok (.if_icmp .ge 36, 3) := by decide +kernel
theorem dX0_isHigher_8 : decode cX0_isHigher 8 = .ok (.aload_n 0, 1) := by decide +kernel
theorem dX0_isHigher_9 : decode cX0_isHigher 9 = .ok (.iload_n 1, 1) := by decide +kernel
theorem dX0_isHigher_10 : decode cX0_isHigher 10 = .ok (.iload_n 3, 1) := by decide +kernel
theorem dX0_isHigher_11 : decode cX0_isHigher 11 = .ok (.invokevirtual 121, 3) := by decide +kernel
theorem dX0_isHigher_14 : decode cX0_isHigher 14 = .ok (.iconst (-1), 1) := by decide +kernel
theorem dX0_isHigher_15 : decode cX0_isHigher 15 = .ok (.if_icmp .eq 20, 3) := by decide +kernel
theorem dX0_isHigher_18 : decode cX0_isHigher 18 = .ok (.aload_n 0, 1) := by decide +kernel
theorem dX0_isHigher_19 : decode cX0_isHigher 19 = .ok (.iload_n 1, 1) := by decide +kernel
theorem dX0_isHigher_20 : decode cX0_isHigher 20 = .ok (.iload_n 3, 1) := by decide +kernel
theorem dX0_isHigher_21 : decode cX0_isHigher 21 = .ok (.invokevirtual 121, 3) := by decide +kernel
theorem dX0_isHigher_24 : decode cX0_isHigher 24 = .ok (.aload_n 0, 1) := by decide +kernel
theorem dX0_isHigher_25 : decode cX0_isHigher 25 = .ok (.iload_n 2, 1) := by decide +kernel
theorem dX0_isHigher_26 : decode cX0_isHigher 26 = .ok (.iload_n 3, 1) := by decide +kernel
theorem dX0_isHigher_27 : decode cX0_isHigher 27 = .ok (.invokevirtual 121, 3) := by decide +kernel
theorem dX0_isHigher_30 : decode cX0_isHigher 30 = .ok (.if_icmp .ge 5, 3) := by decide +kernel
theorem dX0_isHigher_33 : decode cX0_isHigher 33 = .ok (.iconst 1, 1) := by decide +kernel
theorem dX0_isHigher_34 : decode cX0_isHigher 34 = .ok (.ireturn, 1) := by decide +kernel
theorem dX0_isHigher_35 : decode cX0_isHigher 35 = .ok (.iinc 3 1, 3) := by decide +kernel
theorem dX0_isHigher_38 : decode cX0_isHigher 38 = .ok (.goto (-36), 3) := by decide +kernel
theorem dX0_isHigher_41 : decode cX0_isHigher 41 = .ok (.iconst 0, 1) := by decide +kernel
theorem dX0_isHigher_42 : decode cX0_isHigher 42 = .ok (.ireturn, 1) := by decide +kernel
theorem dX10_above_0 : decode cX10_above 0 = .ok (.aload_n 0, 1) := by decide +kernel
theorem dX10_above_1 : decode cX10_above 1 = .ok (.iload_n 1, 1) := by decide +kernel
theorem dX10_above_2 : decode cX10_above 2 = .ok (.invokevirtual 312, 3) := by decide +kernel
theorem dX10_above_5 : decode cX10_above 5 = .ok (.ifCond .eq 11, 3) := by decide +kernel
theorem dX10_above_8 : decode cX10_above 8 = .ok (.aload_n 0, 1) := by decide +kernel
theorem dX10_above_9 : decode cX10_above 9 = .ok (.iload_n 2, 1) := by decide +kernel
theorem dX10_above_10 : decode cX10_above 10 = .ok (.invokevirtual 312, 3) := by decide +kernel
theorem dX10_above_13 : decode cX10_above 13 = .ok (.ifCond .ne 9, 3) := by decide +kernel
theorem dX10_above_16 : decode cX10_above 16 = .ok (.aload_n 0, 1) := by decide +kernel
theorem dX10_above_17 : decode cX10_above 17 = .ok (.iconst 1, 1) := by decide +kernel
theorem dX10_above_18 : decode cX10_above 18 = .ok (.invokevirtual 137, 3) := by decide +kernel
theorem dX10_above_21 : decode cX10_above 21 = .ok (.ireturn, 1) := by decide +kernel
theorem dX10_above_22 : decode cX10_above 22 = .ok (.aload_n 0, 1) := by decide +kernel
theorem dX10_above_23 : decode cX10_above 23 = .ok (.aload_n 0, 1) := by decide +kernel
theorem dX10_above_24 : decode cX10_above 24 = .ok (.getfield 88, 3) := by decide +kernel
theorem dX10_above_27 : decode cX10_above 27 = .ok (.iload_n 1, 1) := by decide +kernel
theorem dX10_above_28 : decode cX10_above 28 = .ok (.iload_n 2, 1) := by decide +kernel
theorem dX10_above_29 : decode cX10_above 29 = .ok (.invokevirtual 321, 3) := by decide +kernel
theorem dX10_above_32 : decode cX10_above 32 = .ok (.invokevirtual 270, 3) := by decide +kernel
theorem dX10_above_35 : decode cX10_above 35 = .ok (.ireturn, 1) := by decide +kernel
theorem dX0_isFree_0 : decode cX0_isFree 0 = .ok (.iconst 0, 1) := by decide +kernel
theorem dX0_isFree_1 : decode cX0_isFree 1 = .ok (.istore_n 2, 1) := by decide +kernel
theorem dX0_isFree_2 : decode cX0_isFree 2 = .ok (.iload_n 2, 1) := by decide +kernel
theorem dX0_isFree_3 : decode cX0_isFree 3 = .ok (.aload_n 0, 1) := by decide +kernel
theorem dX0_isFree_4 : decode cX0_isFree 4 = .ok (.getfield 39, 3) := by decide +kernel
theorem dX0_isFree_7 : decode cX0_isFree 7 = .ok (.if_icmp .ge 29, 3) := by decide +kernel
theorem dX0_isFree_10 : decode cX0_isFree 10 = .ok (.aload_n 0, 1) := by decide +kernel
theorem dX0_isFree_11 : decode cX0_isFree 11 = .ok (.getfield 66, 3) := by decide +kernel
theorem dX0_isFree_14 : decode cX0_isFree 14 = .ok (.iload_n 2, 1) := by decide +kernel
theorem dX0_isFree_15 : decode cX0_isFree 15 = .ok (.baload, 1) := by decide +kernel
theorem dX0_isFree_16 : decode cX0_isFree 16 = .ok (.ifCond .ne 14, 3) := by decide +kernel
theorem dX0_isFree_19 : decode cX0_isFree 19 = .ok (.aload_n 0, 1) := by decide +kernel
theorem dX0_isFree_20 : decode cX0_isFree 20 = .ok (.iload_n 2, 1) := by decide +kernel
theorem dX0_isFree_21 : decode cX0_isFree 21 = .ok (.iload_n 1, 1) := by decide +kernel
theorem dX0_isFree_22 : decode cX0_isFree 22 = .ok (.invokevirtual 144, 3) := by decide +kernel
theorem dX0_isFree_25 : decode cX0_isFree 25 = .ok (.ifCond .eq 5, 3) := by decide +kernel
theorem dX0_isFree_28 : decode cX0_isFree 28 = .ok (.iconst 0, 1) := by decide +kernel
theorem dX0_isFree_29 : decode cX0_isFree 29 = .ok (.ireturn, 1) := by decide +kernel
theorem dX0_isFree_30 : decode cX0_isFree 30 = .ok (.iinc 2 1, 3) := by decide +kernel
theorem dX0_isFree_33 : decode cX0_isFree 33 = .ok (.goto (-31), 3) := by decide +kernel
theorem dX0_isFree_36 : decode cX0_isFree 36 = .ok (.iconst 1, 1) := by decide +kernel
theorem dX0_isFree_37 : decode cX0_isFree 37 = .ok (.ireturn, 1) := by decide +kernel
theorem dX0_firstFree_0 : decode cX0_firstFree 0 = .ok (.iconst 0, 1) := by decide +kernel
theorem dX0_firstFree_1 : decode cX0_firstFree 1 = .ok (.istore_n 1, 1) := by decide +kernel
theorem dX0_firstFree_2 : decode cX0_firstFree 2 = .ok (.iload_n 1, 1) := by decide +kernel
theorem dX0_firstFree_3 : decode cX0_firstFree 3 = .ok (.aload_n 0, 1) := by decide +kernel
theorem dX0_firstFree_4 : decode cX0_firstFree 4 = .ok (.getfield 39, 3) := by decide +kernel
theorem dX0_firstFree_7 : decode cX0_firstFree 7 = .ok (.if_icmp .ge 28, 3) := by decide +kernel
theorem dX0_firstFree_10 : decode cX0_firstFree 10 = .ok (.aload_n 0, 1) := by decide +kernel
theorem dX0_firstFree_11 : decode cX0_firstFree 11 = .ok (.getfield 66, 3) := by decide +kernel
theorem dX0_firstFree_14 : decode cX0_firstFree 14 = .ok (.iload_n 1, 1) := by decide +kernel
theorem dX0_firstFree_15 : decode cX0_firstFree 15 = .ok (.baload, 1) := by decide +kernel
theorem dX0_firstFree_16 : decode cX0_firstFree 16 = .ok (.ifCond .ne 13, 3) := by decide +kernel
theorem dX0_firstFree_19 : decode cX0_firstFree 19 = .ok (.aload_n 0, 1) := by decide +kernel
theorem dX0_firstFree_20 : decode cX0_firstFree 20 = .ok (.iload_n 1, 1) := by decide +kernel
theorem dX0_firstFree_21 : decode cX0_firstFree 21 = .ok (.invokevirtual 140, 3) := by decide +kernel
theorem dX0_firstFree_24 : decode cX0_firstFree 24 = .ok (.ifCond .eq 5, 3) := by decide +kernel
theorem dX0_firstFree_27 : decode cX0_firstFree 27 = .ok (.iload_n 1, 1) := by decide +kernel
theorem dX0_firstFree_28 : decode cX0_firstFree 28 = .ok (.ireturn, 1) := by decide +kernel
theorem dX0_firstFree_29 : decode cX0_firstFree 29 = .ok (.iinc 1 1, 3) := by decide +kernel
theorem dX0_firstFree_32 : decode cX0_firstFree 32 = .ok (.goto (-30), 3) := by decide +kernel
theorem dX0_firstFree_35 : decode cX0_firstFree 35 = .ok (.iconst (-1), 1) := by decide +kernel
theorem dX0_firstFree_36 : decode cX0_firstFree 36 = .ok (.ireturn, 1) := by decide +kernel
theorem dX0_putInOrder_0 : decode cX0_putInOrder 0 = .ok (.iconst 0, 1) := by decide +kernel
theorem dX0_putInOrder_1 : decode cX0_putInOrder 1 = .ok (.istore_n 1, 1) := by decide +kernel
theorem dX0_putInOrder_2 : decode cX0_putInOrder 2 = .ok (.iload_n 1, 1) := by decide +kernel
theorem dX0_putInOrder_3 : decode cX0_putInOrder 3 = .ok (.aload_n 0, 1) := by decide +kernel
theorem dX0_putInOrder_4 : decode cX0_putInOrder 4 = .ok (.getfield 39, 3) := by decide +kernel
theorem dX0_putInOrder_7 : decode cX0_putInOrder 7 = .ok (.if_icmp .ge 16, 3) := by decide +kernel
theorem dX0_putInOrder_10 : decode cX0_putInOrder 10 = .ok (.aload_n 0, 1) := by decide +kernel
theorem dX0_putInOrder_11 : decode cX0_putInOrder 11 = .ok (.getfield 66, 3) := by decide +kernel
theorem dX0_putInOrder_14 : decode cX0_putInOrder 14 = .ok (.iload_n 1, 1) := by decide +kernel
theorem dX0_putInOrder_15 : decode cX0_putInOrder 15 = .ok (.iconst 0, 1) := by decide +kernel
theorem dX0_putInOrder_16 : decode cX0_putInOrder 16 = .ok (.bastore, 1) := by decide +kernel
theorem dX0_putInOrder_17 : decode cX0_putInOrder 17 = .ok (.iinc 1 1, 3) := by decide +kernel
theorem dX0_putInOrder_20 : decode cX0_putInOrder 20 = .ok (.goto (-18), 3) := by decide +kernel
theorem dX0_putInOrder_23 : decode cX0_putInOrder 23 = .ok (.iconst 0, 1) := by decide +kernel
theorem dX0_putInOrder_24 : decode cX0_putInOrder 24 = .ok (.istore_n 1, 1) := by decide +kernel
theorem dX0_putInOrder_25 : decode cX0_putInOrder 25 = .ok (.iload_n 1, 1) := by decide +kernel
theorem dX0_putInOrder_26 : decode cX0_putInOrder 26 = .ok (.aload_n 0, 1) := by decide +kernel
theorem dX0_putInOrder_27 : decode cX0_putInOrder 27 = .ok (.getfield 39, 3) := by decide +kernel
theorem dX0_putInOrder_30 : decode cX0_putInOrder 30 = .ok (.if_icmp .ge 35, 3) := by decide +kernel
theorem dX0_putInOrder_33 : decode cX0_putInOrder 33 = .ok (.aload_n 0, 1) := by decide +kernel
theorem dX0_putInOrder_34 : decode cX0_putInOrder 34 = .ok (.invokevirtual 136, 3) := by decide +kernel
theorem dX0_putInOrder_37 : decode cX0_putInOrder 37 = .ok (.istore_n 2, 1) := by decide +kernel
theorem dX0_putInOrder_38 : decode cX0_putInOrder 38 = .ok (.iload_n 2, 1) := by decide +kernel
theorem dX0_putInOrder_39 : decode cX0_putInOrder 39 = .ok (.iconst (-1), 1) := by decide +kernel
theorem dX0_putInOrder_40 : decode cX0_putInOrder 40 = .ok (.if_icmp .ne 5, 3) := by decide +kernel
theorem dX0_putInOrder_43 : decode cX0_putInOrder 43 = .ok (.iconst 0, 1) := by decide +kernel
theorem dX0_putInOrder_44 : decode cX0_putInOrder 44 = .ok (.ireturn, 1) := by decide +kernel
theorem dX0_putInOrder_45 : decode cX0_putInOrder 45 = .ok (.aload_n 0, 1) := by decide +kernel
theorem dX0_putInOrder_46 : decode cX0_putInOrder 46 = .ok (.getfield 63, 3) := by decide +kernel
theorem dX0_putInOrder_49 : decode cX0_putInOrder 49 = .ok (.iload_n 1, 1) := by decide +kernel
theorem dX0_putInOrder_50 : decode cX0_putInOrder 50 = .ok (.iload_n 2, 1) := by decide +kernel
theorem dX0_putInOrder_51 : decode cX0_putInOrder 51 = .ok (.iastore, 1) := by decide +kernel
theorem dX0_putInOrder_52 : decode cX0_putInOrder 52 = .ok (.aload_n 0, 1) := by decide +kernel
theorem dX0_putInOrder_53 : decode cX0_putInOrder 53 = .ok (.getfield 66, 3) := by decide +kernel
theorem dX0_putInOrder_56 : decode cX0_putInOrder 56 = .ok (.iload_n 2, 1) := by decide +kernel
theorem dX0_putInOrder_57 : decode cX0_putInOrder 57 = .ok (.iconst 1, 1) := by decide +kernel
theorem dX0_putInOrder_58 : decode cX0_putInOrder 58 = .ok (.bastore, 1) := by decide +kernel
theorem dX0_putInOrder_59 : decode cX0_putInOrder 59 = .ok (.iinc 1 1, 3) := by decide +kernel
theorem dX0_putInOrder_62 : decode cX0_putInOrder 62 = .ok (.goto (-37), 3) := by decide +kernel
theorem dX0_putInOrder_65 : decode cX0_putInOrder 65 = .ok (.iconst 1, 1) := by decide +kernel
theorem dX0_putInOrder_66 : decode cX0_putInOrder 66 = .ok (.ireturn, 1) := by decide +kernel
theorem dX0_isOrdered_0 : decode cX0_isOrdered 0 = .ok (.aload_n 0, 1) := by decide +kernel
theorem dX0_isOrdered_1 : decode cX0_isOrdered 1 = .ok (.getfield 57, 3) := by decide +kernel
theorem dX0_isOrdered_4 : decode cX0_isOrdered 4 = .ok (.ifCond .eq 16, 3) := by decide +kernel
theorem dX0_isOrdered_7 : decode cX0_isOrdered 7 = .ok (.aload_n 0, 1) := by decide +kernel
theorem dX0_isOrdered_8 : decode cX0_isOrdered 8 = .ok (.iconst 0, 1) := by decide +kernel
theorem dX0_isOrdered_9 : decode cX0_isOrdered 9 = .ok (.putfield 57, 3) := by decide +kernel
theorem dX0_isOrdered_12 : decode cX0_isOrdered 12 = .ok (.aload_n 0, 1) := by decide +kernel
theorem dX0_isOrdered_13 : decode cX0_isOrdered 13 = .ok (.aload_n 0, 1) := by decide +kernel
theorem dX0_isOrdered_14 : decode cX0_isOrdered 14 = .ok (.invokevirtual 132, 3) := by decide +kernel
theorem dX0_isOrdered_17 : decode cX0_isOrdered 17 = .ok (.putfield 60, 3) := by decide +kernel
theorem dX0_isOrdered_20 : decode cX0_isOrdered 20 = .ok (.aload_n 0, 1) := by decide +kernel
theorem dX0_isOrdered_21 : decode cX0_isOrdered 21 = .ok (.getfield 60, 3) := by decide +kernel
theorem dX0_isOrdered_24 : decode cX0_isOrdered 24 = .ok (.ireturn, 1) := by decide +kernel
theorem dX10_order_0 : decode cX10_order 0 = .ok (.iload_n 1, 1) := by decide +kernel
theorem dX10_order_1 : decode cX10_order 1 = .ok (.ifCond .ge 9, 3) := by decide +kernel
theorem dX10_order_4 : decode cX10_order 4 = .ok (.aload_n 0, 1) := by decide +kernel
theorem dX10_order_5 : decode cX10_order 5 = .ok (.iconst 1, 1) := by decide +kernel
theorem dX10_order_6 : decode cX10_order 6 = .ok (.invokevirtual 137, 3) := by decide +kernel
theorem dX10_order_9 : decode cX10_order 9 = .ok (.ireturn, 1) := by decide +kernel
theorem dX10_order_10 : decode cX10_order 10 = .ok (.aload_n 0, 1) := by decide +kernel
theorem dX10_order_11 : decode cX10_order 11 = .ok (.getfield 88, 3) := by decide +kernel
theorem dX10_order_14 : decode cX10_order 14 = .ok (.aload_n 0, 1) := by decide +kernel
theorem dX10_order_15 : decode cX10_order 15 = .ok (.getfield 50, 3) := by decide +kernel
theorem dX10_order_18 : decode cX10_order 18 = .ok (.invokevirtual 287, 3) := by decide +kernel
theorem dX10_order_21 : decode cX10_order 21 = .ok (.iload_n 1, 1) := by decide +kernel
theorem dX10_order_22 : decode cX10_order 22 = .ok (.aload_n 0, 1) := by decide +kernel
theorem dX10_order_23 : decode cX10_order 23 = .ok (.getfield 88, 3) := by decide +kernel
theorem dX10_order_26 : decode cX10_order 26 = .ok (.getfield 306, 3) := by decide +kernel
theorem dX10_order_29 : decode cX10_order 29 = .ok (.if_icmp .lt 10, 3) := by decide +kernel
theorem dX10_order_32 : decode cX10_order 32 = .ok (.aload_n 0, 1) := by decide +kernel
theorem dX10_order_33 : decode cX10_order 33 = .ok (.bipush 6, 2) := by decide +kernel
theorem dX10_order_35 : decode cX10_order 35 = .ok (.invokevirtual 137, 3) := by decide +kernel
theorem dX10_order_38 : decode cX10_order 38 = .ok (.ireturn, 1) := by decide +kernel
theorem dX10_order_39 : decode cX10_order 39 = .ok (.aload_n 0, 1) := by decide +kernel
theorem dX10_order_40 : decode cX10_order 40 = .ok (.getfield 88, 3) := by decide +kernel
theorem dX10_order_43 : decode cX10_order 43 = .ok (.invokevirtual 324, 3) := by decide +kernel
theorem dX10_order_46 : decode cX10_order 46 = .ok (.ifCond .ne 10, 3) := by decide +kernel
theorem dX10_order_49 : decode cX10_order 49 = .ok (.aload_n 0, 1) := by decide +kernel
theorem dX10_order_50 : decode cX10_order 50 = .ok (.bipush 7, 2) := by decide +kernel
theorem dX10_order_52 : decode cX10_order 52 = .ok (.invokevirtual 137, 3) := by decide +kernel
theorem dX10_order_55 : decode cX10_order 55 = .ok (.ireturn, 1) := by decide +kernel
theorem dX10_order_56 : decode cX10_order 56 = .ok (.aload_n 0, 1) := by decide +kernel
theorem dX10_order_57 : decode cX10_order 57 = .ok (.aload_n 0, 1) := by decide +kernel
theorem dX10_order_58 : decode cX10_order 58 = .ok (.getfield 88, 3) := by decide +kernel
theorem dX10_order_61 : decode cX10_order 61 = .ok (.getfield 327, 3) := by decide +kernel
theorem dX10_order_64 : decode cX10_order 64 = .ok (.iload_n 1, 1) := by decide +kernel
theorem dX10_order_65 : decode cX10_order 65 = .ok (.iaload, 1) := by decide +kernel
theorem dX10_order_66 : decode cX10_order 66 = .ok (.invokevirtual 187, 3) := by decide +kernel
theorem dX10_order_69 : decode cX10_order 69 = .ok (.ireturn, 1) := by decide +kernel
theorem dJ6_bitCount_0f7a4_0 : decode cJ6_bitCount_0f7a4 0 = .ok (.iload_n 0, 1) := by decide +kernel
theorem dJ6_bitCount_0f7a4_1 : decode cJ6_bitCount_0f7a4 1 = .ok (.iload_n 0, 1) := by decide +kernel
theorem dJ6_bitCount_0f7a4_2 : decode cJ6_bitCount_0f7a4 2 = .ok (.iconst 1, 1) := by decide +kernel
theorem dJ6_bitCount_0f7a4_3 : decode cJ6_bitCount_0f7a4 3 = .ok (.iushr, 1) := by decide +kernel
theorem dJ6_bitCount_0f7a4_4 : decode cJ6_bitCount_0f7a4 4 = .ok (.ldc_w 265, 3) := by decide +kernel
theorem dJ6_bitCount_0f7a4_7 : decode cJ6_bitCount_0f7a4 7 = .ok (.iand, 1) := by decide +kernel
theorem dJ6_bitCount_0f7a4_8 : decode cJ6_bitCount_0f7a4 8 = .ok (.isub, 1) := by decide +kernel
theorem dJ6_bitCount_0f7a4_9 : decode cJ6_bitCount_0f7a4 9 = .ok (.istore_n 0, 1) := by decide +kernel
theorem dJ6_bitCount_0f7a4_10 : decode cJ6_bitCount_0f7a4 10 = .ok (.iload_n 0, 1) := by decide +kernel
theorem dJ6_bitCount_0f7a4_11 : decode cJ6_bitCount_0f7a4 11 = .ok (.ldc_w 266, 3) := by decide +kernel
theorem dJ6_bitCount_0f7a4_14 : decode cJ6_bitCount_0f7a4 14 = .ok (.iand, 1) := by decide +kernel
theorem dJ6_bitCount_0f7a4_15 : decode cJ6_bitCount_0f7a4 15 = .ok (.iload_n 0, 1) := by decide +kernel
theorem dJ6_bitCount_0f7a4_16 : decode cJ6_bitCount_0f7a4 16 = .ok (.iconst 2, 1) := by decide +kernel
theorem dJ6_bitCount_0f7a4_17 : decode cJ6_bitCount_0f7a4 17 = .ok (.iushr, 1) := by decide +kernel
theorem dJ6_bitCount_0f7a4_18 : decode cJ6_bitCount_0f7a4 18 = .ok (.ldc_w 266, 3) := by decide +kernel
theorem dJ6_bitCount_0f7a4_21 : decode cJ6_bitCount_0f7a4 21 = .ok (.iand, 1) := by decide +kernel
theorem dJ6_bitCount_0f7a4_22 : decode cJ6_bitCount_0f7a4 22 = .ok (.iadd, 1) := by decide +kernel
theorem dJ6_bitCount_0f7a4_23 : decode cJ6_bitCount_0f7a4 23 = .ok (.istore_n 0, 1) := by decide +kernel
theorem dJ6_bitCount_0f7a4_24 : decode cJ6_bitCount_0f7a4 24 = .ok (.iload_n 0, 1) := by decide +kernel
theorem dJ6_bitCount_0f7a4_25 : decode cJ6_bitCount_0f7a4 25 = .ok (.iload_n 0, 1) := by decide +kernel
theorem dJ6_bitCount_0f7a4_26 : decode cJ6_bitCount_0f7a4 26 = .ok (.iconst 4, 1) := by decide +kernel
theorem dJ6_bitCount_0f7a4_27 : decode cJ6_bitCount_0f7a4 27 = .ok (.iushr, 1) := by decide +kernel
theorem dJ6_bitCount_0f7a4_28 : decode cJ6_bitCount_0f7a4 28 = .ok (.iadd, 1) := by decide +kernel
theorem dJ6_bitCount_0f7a4_29 : decode cJ6_bitCount_0f7a4 29 = .ok (.ldc_w 267, 3) := by decide +kernel
theorem dJ6_bitCount_0f7a4_32 : decode cJ6_bitCount_0f7a4 32 = .ok (.iand, 1) := by decide +kernel
theorem dJ6_bitCount_0f7a4_33 : decode cJ6_bitCount_0f7a4 33 = .ok (.istore_n 0, 1) := by decide +kernel
theorem dJ6_bitCount_0f7a4_34 : decode cJ6_bitCount_0f7a4 34 = .ok (.iload_n 0, 1) := by decide +kernel
theorem dJ6_bitCount_0f7a4_35 : decode cJ6_bitCount_0f7a4 35 = .ok (.iload_n 0, 1) := by decide +kernel
theorem dJ6_bitCount_0f7a4_36 : decode cJ6_bitCount_0f7a4 36 = .ok (.bipush 8, 2) := by decide +kernel
theorem dJ6_bitCount_0f7a4_38 : decode cJ6_bitCount_0f7a4 38 = .ok (.iushr, 1) := by decide +kernel
theorem dJ6_bitCount_0f7a4_39 : decode cJ6_bitCount_0f7a4 39 = .ok (.iadd, 1) := by decide +kernel
theorem dJ6_bitCount_0f7a4_40 : decode cJ6_bitCount_0f7a4 40 = .ok (.istore_n 0, 1) := by decide +kernel
theorem dJ6_bitCount_0f7a4_41 : decode cJ6_bitCount_0f7a4 41 = .ok (.iload_n 0, 1) := by decide +kernel
theorem dJ6_bitCount_0f7a4_42 : decode cJ6_bitCount_0f7a4 42 = .ok (.iload_n 0, 1) := by decide +kernel
theorem dJ6_bitCount_0f7a4_43 : decode cJ6_bitCount_0f7a4 43 = .ok (.bipush 16, 2) := by decide +kernel
theorem dJ6_bitCount_0f7a4_45 : decode cJ6_bitCount_0f7a4 45 = .ok (.iushr, 1) := by decide +kernel
theorem dJ6_bitCount_0f7a4_46 : decode cJ6_bitCount_0f7a4 46 = .ok (.iadd, 1) := by decide +kernel
theorem dJ6_bitCount_0f7a4_47 : decode cJ6_bitCount_0f7a4 47 = .ok (.istore_n 0, 1) := by decide +kernel
theorem dJ6_bitCount_0f7a4_48 : decode cJ6_bitCount_0f7a4 48 = .ok (.iload_n 0, 1) := by decide +kernel
theorem dJ6_bitCount_0f7a4_49 : decode cJ6_bitCount_0f7a4 49 = .ok (.bipush 63, 2) := by decide +kernel
theorem dJ6_bitCount_0f7a4_51 : decode cJ6_bitCount_0f7a4 51 = .ok (.iand, 1) := by decide +kernel
theorem dJ6_bitCount_0f7a4_52 : decode cJ6_bitCount_0f7a4 52 = .ok (.ireturn, 1) := by decide +kernel
theorem dX0_widestBed_0 : decode cX0_widestBed 0 = .ok (.iconst (-1), 1) := by decide +kernel
theorem dX0_widestBed_1 : decode cX0_widestBed 1 = .ok (.istore_n 1, 1) := by decide +kernel
theorem dX0_widestBed_2 : decode cX0_widestBed 2 = .ok (.iconst 0, 1) := by decide +kernel
theorem dX0_widestBed_3 : decode cX0_widestBed 3 = .ok (.istore_n 2, 1) := by decide +kernel
theorem dX0_widestBed_4 : decode cX0_widestBed 4 = .ok (.iconst 0, 1) := by decide +kernel
theorem dX0_widestBed_5 : decode cX0_widestBed 5 = .ok (.istore_n 3, 1) := by decide +kernel
theorem dX0_widestBed_6 : decode cX0_widestBed 6 = .ok (.iload_n 3, 1) := by decide +kernel
theorem dX0_widestBed_7 : decode cX0_widestBed 7 = .ok (.aload_n 0, 1) := by decide +kernel
theorem dX0_widestBed_8 : decode cX0_widestBed 8 = .ok (.getfield 39, 3) := by decide +kernel
theorem dX0_widestBed_11 : decode cX0_widestBed 11 = .ok (.if_icmp .ge 30, 3) := by decide +kernel
theorem dX0_widestBed_14 : decode cX0_widestBed 14 = .ok (.aload_n 0, 1) := by decide +kernel
theorem dX0_widestBed_15 : decode cX0_widestBed 15 = .ok (.iload_n 3, 1) := by decide +kernel
theorem dX0_widestBed_16 : decode cX0_widestBed 16 = .ok (.invokevirtual 124, 3) := by decide +kernel
theorem dX0_widestBed_19 : decode cX0_widestBed 19 = .ok (.invokestatic 127, 3) := by decide +kernel
theorem dX0_widestBed_22 : decode cX0_widestBed 22 = .ok (.istore 4, 2) := by decide +kernel
theorem dX0_widestBed_24 : decode cX0_widestBed 24 = .ok (.iload 4, 2) := by decide +kernel
theorem dX0_widestBed_26 : decode cX0_widestBed 26 = .ok (.iload_n 2, 1) := by decide +kernel
theorem dX0_widestBed_27 : decode cX0_widestBed 27 = .ok (.if_icmp .le 8, 3) := by decide +kernel
theorem dX0_widestBed_30 : decode cX0_widestBed 30 = .ok (.iload_n 3, 1) := by decide +kernel
theorem dX0_widestBed_31 : decode cX0_widestBed 31 = .ok (.istore_n 1, 1) := by decide +kernel
theorem dX0_widestBed_32 : decode cX0_widestBed 32 = .ok (.iload 4, 2) := by decide +kernel
theorem dX0_widestBed_34 : decode cX0_widestBed 34 = .ok (.istore_n 2, 1) := by decide +kernel
theorem dX0_widestBed_35 : decode cX0_widestBed 35 = .ok (.iinc 3 1, 3) := by decide +kernel
theorem dX0_widestBed_38 : decode cX0_widestBed 38 = .ok (.goto (-32), 3) := by decide +kernel
theorem dX0_widestBed_41 : decode cX0_widestBed 41 = .ok (.iload_n 1, 1) := by decide +kernel
theorem dX0_widestBed_42 : decode cX0_widestBed 42 = .ok (.ireturn, 1) := by decide +kernel
theorem dX10_widest_0 : decode cX10_widest 0 = .ok (.aload_n 0, 1) := by decide +kernel
theorem dX10_widest_1 : decode cX10_widest 1 = .ok (.getfield 88, 3) := by decide +kernel
theorem dX10_widest_4 : decode cX10_widest 4 = .ok (.aload_n 0, 1) := by decide +kernel
theorem dX10_widest_5 : decode cX10_widest 5 = .ok (.getfield 50, 3) := by decide +kernel
theorem dX10_widest_8 : decode cX10_widest 8 = .ok (.invokevirtual 287, 3) := by decide +kernel
theorem dX10_widest_11 : decode cX10_widest 11 = .ok (.aload_n 0, 1) := by decide +kernel
theorem dX10_widest_12 : decode cX10_widest 12 = .ok (.aload_n 0, 1) := by decide +kernel
theorem dX10_widest_13 : decode cX10_widest 13 = .ok (.getfield 88, 3) := by decide +kernel
theorem dX10_widest_16 : decode cX10_widest 16 = .ok (.invokevirtual 330, 3) := by decide +kernel
theorem dX10_widest_19 : decode cX10_widest 19 = .ok (.invokevirtual 261, 3) := by decide +kernel
theorem dX10_widest_22 : decode cX10_widest 22 = .ok (.ireturn, 1) := by decide +kernel
theorem dX2_isTriangle_0 : decode cX2_isTriangle 0 = .ok (.iload_n 1, 1) := by decide +kernel
theorem dX2_isTriangle_1 : decode cX2_isTriangle 1 = .ok (.ifCond .lt 15, 3) := by decide +kernel
theorem dX2_isTriangle_4 : decode cX2_isTriangle 4 = .ok (.iload_n 1, 1) := by decide +kernel
theorem dX2_isTriangle_5 : decode cX2_isTriangle 5 = .ok (.aload_n 0, 1) := by decide +kernel
theorem dX2_isTriangle_6 : decode cX2_isTriangle 6 = .ok (.getfield 47, 3) := by decide +kernel
theorem dX2_isTriangle_9 : decode cX2_isTriangle 9 = .ok (.if_icmp .ge 7, 3) := by decide +kernel
theorem dX2_isTriangle_12 : decode cX2_isTriangle 12 = .ok (.iconst 1, 1) := by decide +kernel
theorem dX2_isTriangle_13 : decode cX2_isTriangle 13 = .ok (.goto 4, 3) := by decide +kernel
theorem dX2_isTriangle_16 : decode cX2_isTriangle 16 = .ok (.iconst 0, 1) := by decide +kernel
theorem dX2_isTriangle_17 : decode cX2_isTriangle 17 = .ok (.ireturn, 1) := by decide +kernel
theorem dX2_cornerHole_0 : decode cX2_cornerHole 0 = .ok (.aload_n 0, 1) := by decide +kernel
theorem dX2_cornerHole_1 : decode cX2_cornerHole 1 = .ok (.getfield 50, 3) := by decide +kernel
theorem dX2_cornerHole_4 : decode cX2_cornerHole 4 = .ok (.iload_n 1, 1) := by decide +kernel
theorem dX2_cornerHole_5 : decode cX2_cornerHole 5 = .ok (.iconst 3, 1) := by decide +kernel
theorem dX2_cornerHole_6 : decode cX2_cornerHole 6 = .ok (.imul, 1) := by decide +kernel
theorem dX2_cornerHole_7 : decode cX2_cornerHole 7 = .ok (.iload_n 2, 1) := by decide +kernel
theorem dX2_cornerHole_8 : decode cX2_cornerHole 8 = .ok (.iadd, 1) := by decide +kernel
theorem dX2_cornerHole_9 : decode cX2_cornerHole 9 = .ok (.iaload, 1) := by decide +kernel
theorem dX2_cornerHole_10 : decode cX2_cornerHole 10 = .ok (.ireturn, 1) := by decide +kernel
theorem dX2_turn_0 : decode cX2_turn 0 = .ok (.aload_n 0, 1) := by decide +kernel
theorem dX2_turn_1 : decode cX2_turn 1 = .ok (.aload_n 0, 1) := by decide +kernel
theorem dX2_turn_2 : decode cX2_turn 2 = .ok (.iload_n 1, 1) := by decide +kernel
theorem dX2_turn_3 : decode cX2_turn 3 = .ok (.iconst 0, 1) := by decide +kernel
theorem dX2_turn_4 : decode cX2_turn 4 = .ok (.invokevirtual 120, 3) := by decide +kernel
theorem dX2_turn_7 : decode cX2_turn 7 = .ok (.aload_n 0, 1) := by decide +kernel
theorem dX2_turn_8 : decode cX2_turn 8 = .ok (.iload_n 1, 1) := by decide +kernel
theorem dX2_turn_9 : decode cX2_turn 9 = .ok (.iconst 1, 1) := by decide +kernel
theorem dX2_turn_10 : decode cX2_turn 10 = .ok (.invokevirtual 120, 3) := by decide +kernel
theorem dX2_turn_13 : decode cX2_turn 13 = .ok (.aload_n 0, 1) := by decide +kernel
theorem dX2_turn_14 : decode cX2_turn 14 = .ok (.iload_n 1, 1) := by decide +kernel
theorem dX2_turn_15 : decode cX2_turn 15 = .ok (.iconst 2, 1) := by decide +kernel
theorem dX2_turn_16 : decode cX2_turn 16 = .ok (.invokevirtual 120, 3) := by decide +kernel
theorem dX2_turn_19 : decode cX2_turn 19 = .ok (.invokevirtual 123, 3) := by decide +kernel
theorem dX2_turn_22 : decode cX2_turn 22 = .ok (.ireturn, 1) := by decide +kernel
theorem dX2_twiceArea_0 : decode cX2_twiceArea 0 = .ok (.aload_n 0, 1) := by decide +kernel
theorem dX2_twiceArea_1 : decode cX2_twiceArea 1 = .ok (.iload_n 1, 1) := by decide +kernel
theorem dX2_twiceArea_2 : decode cX2_twiceArea 2 = .ok (.invokevirtual 127, 3) := by decide +kernel
theorem dX2_twiceArea_5 : decode cX2_twiceArea 5 = .ok (.invokestatic 130, 3) := by decide +kernel
theorem dX2_twiceArea_8 : decode cX2_twiceArea 8 = .ok (.ireturn, 1) := by decide +kernel
theorem dX10_commonDivisor_0 : decode cX10_commonDivisor 0 = .ok (.lload_n 0, 1) := by decide +kernel
theorem dX10_commonDivisor_1 : decode cX10_commonDivisor 1 = .ok (.invokestatic 474, 3) := by decide +kernel
theorem dX10_commonDivisor_4 : decode cX10_commonDivisor 4 = .ok (.lstore 4, 2) := by decide +kernel
theorem dX10_commonDivisor_6 : decode cX10_commonDivisor 6 = .ok (.lload_n 2, 1) := by decide +kernel
theorem dX10_commonDivisor_7 : decode cX10_commonDivisor 7 = .ok (.invokestatic 474, 3) := by decide +kernel
theorem dX10_commonDivisor_10 : decode cX10_commonDivisor 10 = .ok (.lstore 6, 2) := by decide +kernel
theorem dX10_commonDivisor_12 : decode cX10_commonDivisor 12 = .ok (.iconst 0, 1) := by decide +kernel
theorem dX10_commonDivisor_13 : decode cX10_commonDivisor 13 = .ok (.istore 8, 2) := by decide +kernel
theorem dX10_commonDivisor_15 : decode cX10_commonDivisor 15 = .ok (.iload 8, 2) := by decide +kernel
theorem dX10_commonDivisor_17 : decode cX10_commonDivisor 17 = .ok (.bipush 100, 2) := by decide +kernel
theorem dX10_commonDivisor_19 : decode cX10_commonDivisor 19 = .ok (.if_icmp .ge 31, 3) := by decide +kernel
theorem dX10_commonDivisor_22 : decode cX10_commonDivisor 22 = .ok (.lload 6, 2) := by decide +kernel
theorem dX10_commonDivisor_24 : decode cX10_commonDivisor 24 = .ok (.lconst 0, 1) := by decide +kernel
theorem dX10_commonDivisor_25 : decode cX10_commonDivisor 25 = .ok (.lcmp, 1) := by decide +kernel
theorem dX10_commonDivisor_26 : decode cX10_commonDivisor 26 = .ok (.ifCond .eq 24, 3) := by decide +kernel
theorem dX10_commonDivisor_29 : decode cX10_commonDivisor 29 = .ok (.lload 4, 2) := by decide +kernel
theorem dX10_commonDivisor_31 : decode cX10_commonDivisor 31 = .ok (.lload 6, 2) := by decide +kernel
theorem dX10_commonDivisor_33 : decode cX10_commonDivisor 33 = .ok (.lrem, 1) := by decide +kernel
theorem dX10_commonDivisor_34 : decode cX10_commonDivisor 34 = .ok (.lstore 9, 2) := by decide +kernel
theorem dX10_commonDivisor_36 : decode cX10_commonDivisor 36 = .ok (.lload 6, 2) := by decide +kernel
theorem dX10_commonDivisor_38 : decode cX10_commonDivisor 38 = .ok (.lstore 4, 2) := by decide +kernel
theorem dX10_commonDivisor_40 : decode cX10_commonDivisor 40 = .ok (.lload 9, 2) := by decide +kernel
theorem dX10_commonDivisor_42 : decode cX10_commonDivisor 42 = .ok (.lstore 6, 2) := by decide +kernel
theorem dX10_commonDivisor_44 : decode cX10_commonDivisor 44 = .ok (.iinc 8 1, 3) := by decide +kernel
theorem dX10_commonDivisor_47 : decode cX10_commonDivisor 47 = .ok (.goto (-32), 3) := by decide +kernel
theorem dX10_commonDivisor_50 : decode cX10_commonDivisor 50 = .ok (.lload 4, 2) := by decide +kernel
theorem dX10_commonDivisor_52 : decode cX10_commonDivisor 52 = .ok (.lreturn, 1) := by decide +kernel
theorem dX10_tell_0 : decode cX10_tell 0 = .ok (.lload_n 1, 1) := by decide +kernel
theorem dX10_tell_1 : decode cX10_tell 1 = .ok (.lload_n 3, 1) := by decide +kernel
theorem dX10_tell_2 : decode cX10_tell 2 = .ok (.invokestatic 468, 3) := by decide +kernel
theorem dX10_tell_5 : decode cX10_tell 5 = .ok (.lstore 5, 2) := by decide +kernel
theorem dX10_tell_7 : decode cX10_tell 7 = .ok (.lload 5, 2) := by decide +kernel
theorem dX10_tell_9 : decode cX10_tell 9 = .ok (.lconst 0, 1) := by decide +kernel
theorem dX10_tell_10 : decode cX10_tell 10 = .ok (.lcmp, 1) := by decide +kernel
theorem dX10_tell_11 : decode cX10_tell 11 = .ok (.ifCond .ne 10, 3) := by decide +kernel
theorem dX10_tell_14 : decode cX10_tell 14 = .ok (.aload_n 0, 1) := by decide +kernel
theorem dX10_tell_15 : decode cX10_tell 15 = .ok (.bipush 7, 2) := by decide +kernel
theorem dX10_tell_17 : decode cX10_tell 17 = .ok (.invokevirtual 118, 3) := by decide +kernel
theorem dX10_tell_20 : decode cX10_tell 20 = .ok (.ireturn, 1) := by decide +kernel
theorem dX10_tell_21 : decode cX10_tell 21 = .ok (.lload_n 3, 1) := by decide +kernel
theorem dX10_tell_22 : decode cX10_tell 22 = .ok (.lconst 0, 1) := by decide +kernel
theorem dX10_tell_23 : decode cX10_tell 23 = .ok (.lcmp, 1) := by decide +kernel
theorem dX10_tell_24 : decode cX10_tell 24 = .ok (.ifCond .ge 9, 3) := by decide +kernel
theorem dX10_tell_27 : decode cX10_tell 27 = .ok (.ldc2_w 472, 3) := by decide +kernel
theorem dX10_tell_30 : decode cX10_tell 30 = .ok (.goto 4, 3) := by decide +kernel
theorem dX10_tell_33 : decode cX10_tell 33 = .ok (.lconst 1, 1) := by decide +kernel
theorem dX10_tell_34 : decode cX10_tell 34 = .ok (.lstore 7, 2) := by decide +kernel
theorem dX10_tell_36 : decode cX10_tell 36 = .ok (.aload_n 0, 1) := by decide +kernel
theorem dX10_tell_37 : decode cX10_tell 37 = .ok (.lload 7, 2) := by decide +kernel
theorem dX10_tell_39 : decode cX10_tell 39 = .ok (.lload_n 1, 1) := by decide +kernel
theorem dX10_tell_40 : decode cX10_tell 40 = .ok (.lload 5, 2) := by decide +kernel
theorem dX10_tell_42 : decode cX10_tell 42 = .ok (.ldiv, 1) := by decide +kernel
theorem dX10_tell_43 : decode cX10_tell 43 = .ok (.lmul, 1) := by decide +kernel
theorem dX10_tell_44 : decode cX10_tell 44 = .ok (.putfield 13, 3) := by decide +kernel
theorem dX10_tell_47 : decode cX10_tell 47 = .ok (.aload_n 0, 1) := by decide +kernel
theorem dX10_tell_48 : decode cX10_tell 48 = .ok (.lload 7, 2) := by decide +kernel
theorem dX10_tell_50 : decode cX10_tell 50 = .ok (.lload_n 3, 1) := by decide +kernel
theorem dX10_tell_51 : decode cX10_tell 51 = .ok (.lload 5, 2) := by decide +kernel
theorem dX10_tell_53 : decode cX10_tell 53 = .ok (.ldiv, 1) := by decide +kernel
theorem dX10_tell_54 : decode cX10_tell 54 = .ok (.lmul, 1) := by decide +kernel
theorem dX10_tell_55 : decode cX10_tell 55 = .ok (.putfield 17, 3) := by decide +kernel
theorem dX10_tell_58 : decode cX10_tell 58 = .ok (.aload_n 0, 1) := by decide +kernel
theorem dX10_tell_59 : decode cX10_tell 59 = .ok (.invokevirtual 125, 3) := by decide +kernel
theorem dX10_tell_62 : decode cX10_tell 62 = .ok (.ireturn, 1) := by decide +kernel
theorem dX10_area_0 : decode cX10_area 0 = .ok (.aload_n 0, 1) := by decide +kernel
theorem dX10_area_1 : decode cX10_area 1 = .ok (.getfield 50, 3) := by decide +kernel
theorem dX10_area_4 : decode cX10_area 4 = .ok (.iload_n 1, 1) := by decide +kernel
theorem dX10_area_5 : decode cX10_area 5 = .ok (.invokevirtual 334, 3) := by decide +kernel
theorem dX10_area_8 : decode cX10_area 8 = .ok (.ifCond .ne 9, 3) := by decide +kernel
theorem dX10_area_11 : decode cX10_area 11 = .ok (.aload_n 0, 1) := by decide +kernel
theorem dX10_area_12 : decode cX10_area 12 = .ok (.iconst 1, 1) := by decide +kernel
theorem dX10_area_13 : decode cX10_area 13 = .ok (.invokevirtual 118, 3) := by decide +kernel
theorem dX10_area_16 : decode cX10_area 16 = .ok (.ireturn, 1) := by decide +kernel
theorem dX10_area_17 : decode cX10_area 17 = .ok (.aload_n 0, 1) := by decide +kernel
theorem dX10_area_18 : decode cX10_area 18 = .ok (.aload_n 0, 1) := by decide +kernel
theorem dX10_area_19 : decode cX10_area 19 = .ok (.getfield 50, 3) := by decide +kernel
theorem dX10_area_22 : decode cX10_area 22 = .ok (.iload_n 1, 1) := by decide +kernel
theorem dX10_area_23 : decode cX10_area 23 = .ok (.invokevirtual 337, 3) := by decide +kernel
theorem dX10_area_26 : decode cX10_area 26 = .ok (.i2l, 1) := by decide +kernel
theorem dX10_area_27 : decode cX10_area 27 = .ok (.ldc2_w 340, 3) := by decide +kernel
theorem dX10_area_30 : decode cX10_area 30 = .ok (.invokevirtual 342, 3) := by decide +kernel
theorem dX10_area_33 : decode cX10_area 33 = .ok (.ireturn, 1) := by decide +kernel
def fX10_pairs (t : Nat) (M : Mem) : Option (Int32 × Mem) :=
  if (M.1 (t + 54) 2) = (-1 : Int32) then
 bd (fX10_refuse t (6 : Int32) M) fun v3 M4 =>
 some (v3, M4)
 else
 bd (fX10_answer t (M.1 (t + 54) 3) M) fun v1 M2 =>
 some (v1, M2)
set_option maxRecDepth 100000 in
set_option maxHeartbeats 4000000 in
theorem kX10_pairs (t : Nat) (M : Mem) (ht : isO 10 t) (l : Launch) (G : GT) {b : (Int32 × Mem)} (hE : fX10_pairs t M = some b) : Ok l G yX10_pairs cX10_pairs 1 (some .int) 1 21 [.ref t] M ((fun q : Int32 × Mem => (some (Value.int q.1), q.2)) b).1 ((fun q : Int32 × Mem => (some (Value.int q.1), q.2)) b).2 := by
  refine Ok.ofX (pj := (fun q : Int32 × Mem => (some (Value.int q.1), q.2))) (by decide) (Nat.le_of_ble_eq_true rfl) hE (fun J g hr hG hl hR hn => ?_)
  show X J (fun q : Int32 × Mem => (some (Value.int q.1), q.2)) (fX10_pairs t M) 0 [(0, .ref t)] [] M
  unfold fX10_pairs
  exact (x_aload_n g 0 dX10_pairs_0 rfl rfl
 (x_getS g 54 fl_RX10_81 rfl ht dX10_pairs_1
 (x_getI g fl_RX10_281 rfl (so_10_14 ht) dX10_pairs_4
 (x_iconst g dX10_pairs_7 kI_m1
 (x_icmp_ne g 18 dX10_pairs_8 rfl
 (fun _ => (x_aload_n g 0 dX10_pairs_18 rfl rfl
 (x_aload_n g 0 dX10_pairs_19 rfl rfl
 (x_getS g 54 fl_RX10_81 rfl ht dX10_pairs_20
 (x_getI g fl_RX10_284 rfl (so_10_14 ht) dX10_pairs_23
 (x_callVi (As := [.int (M.1 (t + 54) 3)]) g mv_X10_answer mi_X10_answer lk_RX10_187 ht (fun b Mh_ hb => kX10_answer t (M.1 (t + 54) 3) M ht _ _ hb) rfl rfl hR ⟨Nat.le_of_ble_eq_true rfl, Nat.le_of_ble_eq_true rfl⟩ (Nat.le_of_ble_eq_true rfl) dX10_pairs_26 (fun v1 M2 =>
 (x_iret g hr rfl rfl dX10_pairs_29))))))))
 (fun _ => (x_aload_n g 0 dX10_pairs_11 rfl rfl
 (x_bipush g dX10_pairs_12 kB_6
 (x_callVi (As := [.int (6 : Int32)]) g mv_X10_refuse mi_X10_refuse lk_RX10_137 ht (fun b Mh_ hb => kX10_refuse t (6 : Int32) M ht _ _ hb) rfl rfl hR ⟨Nat.le_of_ble_eq_true rfl, Nat.le_of_ble_eq_true rfl⟩ (Nat.le_of_ble_eq_true rfl) dX10_pairs_14 (fun v3 M4 =>
 (x_iret g hr rfl rfl dX10_pairs_17)))))))))))
def fX0_squareApart (a1 : Nat) (a2 : Int32) (a3 : Int32) (M : Mem) : Option Int32 :=
  ixk a2 6 (
 ixk a3 6 (
 nm ((M.1 (a1 + 5) a2.toNatClampNeg) - (M.1 (a1 + 5) a3.toNatClampNeg)) (fun v1 =>
 ixk a2 6 (
 ixk a3 6 (
 nm ((M.1 (a1 + 6) a2.toNatClampNeg) - (M.1 (a1 + 6) a3.toNatClampNeg)) (fun v2 =>
 some ((v1 * v1) + (v2 * v2))))))))
set_option maxRecDepth 100000 in
set_option maxHeartbeats 4000000 in
theorem kX0_squareApart (a1 : Nat) (a2 : Int32) (a3 : Int32) (M : Mem) (ha1 : isO 2 a1) (l : Launch) (G : GT) {b : Int32} (hE : fX0_squareApart a1 a2 a3 M = some b) : Ok l G yX0_squareApart cX0_squareApart 5 (some .int) 0 0 [.ref a1, .int a2, .int a3] M ((fun b : Int32 => (some (Value.int b), M)) b).1 ((fun b : Int32 => (some (Value.int b), M)) b).2 := by
  refine Ok.ofX (pj := (fun b : Int32 => (some (Value.int b), M))) (by decide) (Nat.le_of_ble_eq_true rfl) hE (fun J g hr hG hl hR hn => ?_)
  show X J (fun b : Int32 => (some (Value.int b), M)) (fX0_squareApart a1 a2 a3 M) 0 [(0, .ref a1), (1, .int a2), (2, .int a3)] [] M
  unfold fX0_squareApart
  exact (x_aload_n g 0 dX0_squareApart_0 rfl rfl
 (x_getS g 5 fl_RX0_101 rfl ha1 dX0_squareApart_1
 (x_iload_n g 1 dX0_squareApart_4 rfl rfl
 (x_iald g (so_2_6 ha1) dX0_squareApart_5
 (x_aload_n g 0 dX0_squareApart_6 rfl rfl
 (x_getS g 5 fl_RX0_101 rfl ha1 dX0_squareApart_7
 (x_iload_n g 2 dX0_squareApart_10 rfl rfl
 (x_iald g (so_2_6 ha1) dX0_squareApart_11
 (x_isub g dX0_squareApart_12
 (x_nmI (fun v1 => (x_istore_n (L' := [(3, .int v1), (0, .ref a1), (1, .int a2), (2, .int a3)]) g dX0_squareApart_13 rfl hn (Nat.le_of_ble_eq_true rfl) rfl
 (x_aload_n g 1 dX0_squareApart_14 rfl rfl
 (x_getS g 6 fl_RX0_104 rfl ha1 dX0_squareApart_15
 (x_iload_n g 2 dX0_squareApart_18 rfl rfl
 (x_iald g (so_2_7 ha1) dX0_squareApart_19
 (x_aload_n g 1 dX0_squareApart_20 rfl rfl
 (x_getS g 6 fl_RX0_104 rfl ha1 dX0_squareApart_21
 (x_iload_n g 3 dX0_squareApart_24 rfl rfl
 (x_iald g (so_2_7 ha1) dX0_squareApart_25
 (x_isub g dX0_squareApart_26
 (x_nmI (fun v2 => (x_istore (L' := [(4, .int v2), (3, .int v1), (0, .ref a1), (1, .int a2), (2, .int a3)]) g dX0_squareApart_27 hn (Nat.le_of_ble_eq_true rfl) rfl
 (x_iload_n g 1 dX0_squareApart_29 rfl rfl
 (x_iload_n g 1 dX0_squareApart_30 rfl rfl
 (x_imul g dX0_squareApart_31
 (x_iload g 0 dX0_squareApart_32 rfl
 (x_iload g 0 dX0_squareApart_34 rfl
 (x_imul g dX0_squareApart_36
 (x_iadd g dX0_squareApart_37
 (x_iret g hr rfl rfl dX0_squareApart_38))))))))))))))))))))))))))))))))
def lX0_relabel_3 (nt : Nat) (t : Nat) (x1 : Int32) (x2 : Int32) (x3 : Int32) : Nat → Int32 → Mem → Option (Unit × Mem)
  | 0, _, _ => none
  | n + 1, x4, M =>
    if x1 ≤ x4 then
 some ((), M)
 else
 ixk x4 nt (
 jn (fun (M1 : Mem) => lX0_relabel_3 nt t x1 x2 x3 n (x4 + 1) M1) (fun J2 => if (M.1 t x4.toNatClampNeg) = x2 then
 ixk x4 nt (nm (stI M t x4.toNatClampNeg x3) (fun M3 =>
 J2 M3))
 else
 J2 M))
theorem lX0_relabel_3_s (nt : Nat) (t : Nat) (x1 : Int32) (x2 : Int32) (x3 : Int32) (n : Nat) (x4 : Int32) (M : Mem) : lX0_relabel_3 nt t x1 x2 x3 (n + 1) x4 M =
    if x1 ≤ x4 then
 some ((), M)
 else
 ixk x4 nt (
 jn (fun (M1 : Mem) => lX0_relabel_3 nt t x1 x2 x3 n (x4 + 1) M1) (fun J2 => if (M.1 t x4.toNatClampNeg) = x2 then
 ixk x4 nt (nm (stI M t x4.toNatClampNeg x3) (fun M3 =>
 J2 M3))
 else
 J2 M)) := rfl
theorem lX0_relabel_3_0 (nt : Nat) (t : Nat) (x1 : Int32) (x2 : Int32) (x3 : Int32) (x4 : Int32) (M : Mem) : lX0_relabel_3 nt t x1 x2 x3 0 x4 M = none := rfl
set_option maxRecDepth 100000 in
set_option maxHeartbeats 4000000 in
theorem wlX0_relabel_3 {J : JT} (g : Gd J cX0_relabel RX0) (hr : Rt J none) (hR : (JR J).frames = 0 ∧ (JR J).locals = 0) (hn : Jn J = 5) (nt : Nat) (t : Nat) (x1 : Int32) (x2 : Int32) (x3 : Int32) (ht : isA .int nt t) : ∀ (n : Nat) (x4 : Int32) (M : Mem), X J (fun q : Unit × Mem => ((none : Option Value), q.2)) (lX0_relabel_3 nt t x1 x2 x3 n x4 M) 3 [(0, .ref t), (1, .int x1), (2, .int x2), (3, .int x3), (4, .int x4)] [] M := by
  intro n
  induction n with
  | zero =>
    intro x4 M
    exact x_none
  | succ n ih =>
    intro x4 M
    rw [lX0_relabel_3_s]
    exact (x_iload g 4 dX0_relabel_3 rfl
 (x_iload_n g 1 dX0_relabel_5 rfl rfl
 (x_icmp_ge g 28 dX0_relabel_6 rfl
 (fun _ => (x_vret g hr rfl dX0_relabel_28))
 (fun _ => (x_aload_n g 0 dX0_relabel_9 rfl rfl
 (x_iload g 4 dX0_relabel_10 rfl
 (x_iald g ht dX0_relabel_12
 (x_iload_n g 2 dX0_relabel_13 rfl rfl
 (x_jn (fun (J2 : Mem → Option (Unit × Mem)) => ∀ (M1 : Mem), X J (fun q : Unit × Mem => ((none : Option Value), q.2)) (J2 M1) 22 [(0, .ref t), (1, .int x1), (2, .int x2), (3, .int x3), (4, .int x4)] [] M1) (fun M1 => (x_iinc (L' := [(4, .int (x4 + 1)), (0, .ref t), (1, .int x1), (2, .int x2), (3, .int x3)]) (v := (x4 + 1)) g 4 dX0_relabel_22 rfl (by rw [kI_1]) hn (Nat.le_of_ble_eq_true rfl) rfl
 (x_goto g 3 dX0_relabel_25 rfl
 (x_sub [1, 2, 3, 4, 0] rfl (ih (x4 + 1) M1))))) (fun J2 hJ2 => (x_icmp_ne g 22 dX0_relabel_14 rfl
 (fun _ => (hJ2 M))
 (fun _ => (x_aload_n g 0 dX0_relabel_17 rfl rfl
 (x_iload g 4 dX0_relabel_18 rfl
 (x_iload_n g 3 dX0_relabel_20 rfl rfl
 (x_iast g ht dX0_relabel_21 (x_nmM (fun M3 =>
 (hJ2 M3)))))))))))))))))))
def fX0_relabel (φ : Nat) (n1 : Nat) (a1 : Nat) (a2 : Int32) (a3 : Int32) (a4 : Int32) (M : Mem) : Option (Unit × Mem) :=
  lX0_relabel_3 n1 a1 a2 a3 a4 φ (0 : Int32) M
set_option maxRecDepth 100000 in
set_option maxHeartbeats 4000000 in
theorem kX0_relabel (φ : Nat) (n1 : Nat) (a1 : Nat) (a2 : Int32) (a3 : Int32) (a4 : Int32) (M : Mem) (ha1 : isA .int n1 a1) (l : Launch) (G : GT) {b : (Unit × Mem)} (hE : fX0_relabel φ n1 a1 a2 a3 a4 M = some b) : Ok l G yX0_relabel cX0_relabel 5 none 0 0 [.ref a1, .int a2, .int a3, .int a4] M ((fun q : Unit × Mem => ((none : Option Value), q.2)) b).1 ((fun q : Unit × Mem => ((none : Option Value), q.2)) b).2 := by
  refine Ok.ofX (pj := (fun q : Unit × Mem => ((none : Option Value), q.2))) (by decide) (Nat.le_of_ble_eq_true rfl) hE (fun J g hr hG hl hR hn => ?_)
  show X J (fun q : Unit × Mem => ((none : Option Value), q.2)) (fX0_relabel φ n1 a1 a2 a3 a4 M) 0 [(0, .ref a1), (1, .int a2), (2, .int a3), (3, .int a4)] [] M
  unfold fX0_relabel
  exact (x_iconst g dX0_relabel_0 kI_0
 (x_istore (L' := [(4, .int (0 : Int32)), (0, .ref a1), (1, .int a2), (2, .int a3), (3, .int a4)]) g dX0_relabel_1 hn (Nat.le_of_ble_eq_true rfl) rfl
 (x_sub [1, 2, 3, 4, 0] rfl (wlX0_relabel_3 g hr hR hn  n1 a1 a2 a3 a4 ha1 φ (0 : Int32) M))))
def lX0_addNearest_18 (K88 : Int32 → Mem → Option (Unit × Mem)) (t : Nat) (xr1 : Nat) (x3 : Int32) : Nat → Int32 → Int32 → Mem → Option (Unit × Mem)
  | 0, _, _, _ => none
  | n + 1, x2, x4, M =>
    if (M.1 xr1 4) ≤ x4 then
 K88 x2 M
 else
 (fX0_squareApart xr1 x3 x4 M).bind fun v2 =>
 ixk x3 6 (
 ixk x4 6 (
 jn (fun (v3 : Int32) (M4 : Mem) => lX0_addNearest_18 K88 t xr1 x3 n v3 (x4 + 1) M4) (fun J5 => if (M.1 (t + 7) x3.toNatClampNeg) = (M.1 (t + 7) x4.toNatClampNeg) then
 J5 x2 M
 else
 if x2 ≤ v2 then
 J5 x2 M
 else
 ixk (M.1 t 2) 6 (nm (stI M (t + 4) (M.1 t 2).toNatClampNeg x3) (fun M6 =>
 ixk (M6.1 t 2) 6 (nm (stI M6 (t + 5) (M6.1 t 2).toNatClampNeg x4) (fun M7 =>
 J5 v2 M7)))))))
theorem lX0_addNearest_18_s (K88 : Int32 → Mem → Option (Unit × Mem)) (t : Nat) (xr1 : Nat) (x3 : Int32) (n : Nat) (x2 : Int32) (x4 : Int32) (M : Mem) : lX0_addNearest_18 K88 t xr1 x3 (n + 1) x2 x4 M =
    if (M.1 xr1 4) ≤ x4 then
 K88 x2 M
 else
 (fX0_squareApart xr1 x3 x4 M).bind fun v2 =>
 ixk x3 6 (
 ixk x4 6 (
 jn (fun (v3 : Int32) (M4 : Mem) => lX0_addNearest_18 K88 t xr1 x3 n v3 (x4 + 1) M4) (fun J5 => if (M.1 (t + 7) x3.toNatClampNeg) = (M.1 (t + 7) x4.toNatClampNeg) then
 J5 x2 M
 else
 if x2 ≤ v2 then
 J5 x2 M
 else
 ixk (M.1 t 2) 6 (nm (stI M (t + 4) (M.1 t 2).toNatClampNeg x3) (fun M6 =>
 ixk (M6.1 t 2) 6 (nm (stI M6 (t + 5) (M6.1 t 2).toNatClampNeg x4) (fun M7 =>
 J5 v2 M7))))))) := rfl
theorem lX0_addNearest_18_0 (K88 : Int32 → Mem → Option (Unit × Mem)) (t : Nat) (xr1 : Nat) (x3 : Int32) (x2 : Int32) (x4 : Int32) (M : Mem) : lX0_addNearest_18 K88 t xr1 x3 0 x2 x4 M = none := rfl
set_option maxRecDepth 100000 in
set_option maxHeartbeats 4000000 in
theorem wlX0_addNearest_18 {J : JT} (g : Gd J cX0_addNearest RX0) (hr : Rt J none) (hR : (JR J).frames = 1 ∧ (JR J).locals = 24) (hn : Jn J = 6) (K88 : Int32 → Mem → Option (Unit × Mem)) (t : Nat) (xr1 : Nat) (x3 : Int32) (ht : isO 0 t) (hxr1 : isO 2 xr1) (hK88 : ∀ (y2 : Int32) (M : Mem), X J (fun q : Unit × Mem => ((none : Option Value), q.2)) (K88 y2 M) 88 [(0, .ref t), (1, .ref xr1), (2, .int y2), (3, .int x3)] [] M) : ∀ (n : Nat) (x2 : Int32) (x4 : Int32) (M : Mem), X J (fun q : Unit × Mem => ((none : Option Value), q.2)) (lX0_addNearest_18 K88 t xr1 x3 n x2 x4 M) 18 [(0, .ref t), (1, .ref xr1), (2, .int x2), (3, .int x3), (4, .int x4)] [] M := by
  intro n
  induction n with
  | zero =>
    intro x2 x4 M
    exact x_none
  | succ n ih =>
    intro x2 x4 M
    rw [lX0_addNearest_18_s]
    exact (x_iload g 4 dX0_addNearest_18 rfl
 (x_aload_n g 1 dX0_addNearest_20 rfl rfl
 (x_getI g fl_RX0_85 rfl hxr1 dX0_addNearest_21
 (x_icmp_ge g 88 dX0_addNearest_24 rfl
 (fun _ => (x_sub [0, 1, 2, 3] rfl (hK88 x2 M)))
 (fun _ => (x_aload_n g 1 dX0_addNearest_27 rfl rfl
 (x_iload_n g 3 dX0_addNearest_28 rfl rfl
 (x_iload g 4 dX0_addNearest_29 rfl
 (x_callSip (As := [.ref xr1, .int x3, .int x4]) g mv_X0_squareApart ms_X0_squareApart lk_RX0_94 (fun b hb => kX0_squareApart xr1 x3 x4 M hxr1 _ _ hb) rfl rfl hR ⟨Nat.le_of_ble_eq_true rfl, Nat.le_of_ble_eq_true rfl⟩ (Nat.le_of_ble_eq_true rfl) dX0_addNearest_31 (fun v2 =>
 (x_istore (L' := [(5, .int v2), (0, .ref t), (1, .ref xr1), (2, .int x2), (3, .int x3), (4, .int x4)]) g dX0_addNearest_34 hn (Nat.le_of_ble_eq_true rfl) rfl
 (x_aload_n g 1 dX0_addNearest_36 rfl rfl
 (x_getS g 7 fl_RX0_42 rfl ht dX0_addNearest_37
 (x_iload_n g 4 dX0_addNearest_40 rfl rfl
 (x_iald g (so_0_8 ht) dX0_addNearest_41
 (x_aload_n g 1 dX0_addNearest_42 rfl rfl
 (x_getS g 7 fl_RX0_42 rfl ht dX0_addNearest_43
 (x_iload g 5 dX0_addNearest_46 rfl
 (x_iald g (so_0_8 ht) dX0_addNearest_48
 (x_jn (fun (J5 : Int32 → Mem → Option (Unit × Mem)) => ∀ (v3 : Int32) (M4 : Mem), X J (fun q : Unit × Mem => ((none : Option Value), q.2)) (J5 v3 M4) 82 [(0, .ref t), (1, .ref xr1), (2, .int v3), (3, .int x3), (4, .int x4)] [] M4) (fun v3 M4 => (x_iinc (L' := [(4, .int (x4 + 1)), (0, .ref t), (1, .ref xr1), (2, .int v3), (3, .int x3)]) (v := (x4 + 1)) g 4 dX0_addNearest_82 rfl (by rw [kI_1]) hn (Nat.le_of_ble_eq_true rfl) rfl
 (x_goto g 18 dX0_addNearest_85 rfl
 (x_sub [1, 2, 3, 4, 0] rfl (ih v3 (x4 + 1) M4))))) (fun J5 hJ5 => (x_icmp_eq g 82 dX0_addNearest_49 rfl
 (fun _ => (x_sub [1, 2, 3, 4, 5] rfl (hJ5 x2 M)))
 (fun _ => (x_iload g 0 dX0_addNearest_52 rfl
 (x_iload_n g 3 dX0_addNearest_54 rfl rfl
 (x_icmp_ge g 82 dX0_addNearest_55 rfl
 (fun _ => (x_sub [1, 2, 3, 4, 5] rfl (hJ5 x2 M)))
 (fun _ => (x_iload g 0 dX0_addNearest_58 rfl
 (x_istore_n (L' := [(2, .int v2), (5, .int v2), (0, .ref t), (1, .ref xr1), (3, .int x3), (4, .int x4)]) g dX0_addNearest_60 rfl hn (Nat.le_of_ble_eq_true rfl) rfl
 (x_aload_n g 2 dX0_addNearest_61 rfl rfl
 (x_getS g 4 fl_RX0_26 rfl ht dX0_addNearest_62
 (x_aload_n g 2 dX0_addNearest_65 rfl rfl
 (x_getI g fl_RX0_22 rfl ht dX0_addNearest_66
 (x_iload_n g 4 dX0_addNearest_69 rfl rfl
 (x_iast g (so_0_3 ht) dX0_addNearest_70 (x_nmM (fun M6 =>
 (x_aload_n g 2 dX0_addNearest_71 rfl rfl
 (x_getS g 5 fl_RX0_30 rfl ht dX0_addNearest_72
 (x_aload_n g 2 dX0_addNearest_75 rfl rfl
 (x_getI g fl_RX0_22 rfl ht dX0_addNearest_76
 (x_iload g 5 dX0_addNearest_79 rfl
 (x_iast g (so_0_4 ht) dX0_addNearest_81 (x_nmM (fun M7 =>
 (x_sub [2, 3, 0, 4, 5] rfl (hJ5 v2 M7)))))))))))))))))))))))))))))))))))))))))))))))
def lX0_addNearest_5 (K94 : Int32 → Mem → Option (Unit × Mem)) (φ : Nat) (t : Nat) (xr1 : Nat) : Nat → Int32 → Int32 → Mem → Option (Unit × Mem)
  | 0, _, _, _ => none
  | n + 1, x2, x3, M =>
    if (M.1 xr1 4) ≤ x3 then
 K94 x2 M
 else
 nm (x3 + (1 : Int32)) (fun v1 =>
 lX0_addNearest_18 (fun (v8 : Int32) (M9 : Mem) => lX0_addNearest_5 K94 φ t xr1 n v8 (x3 + 1) M9) t xr1 x3 φ x2 v1 M)
theorem lX0_addNearest_5_s (K94 : Int32 → Mem → Option (Unit × Mem)) (φ : Nat) (t : Nat) (xr1 : Nat) (n : Nat) (x2 : Int32) (x3 : Int32) (M : Mem) : lX0_addNearest_5 K94 φ t xr1 (n + 1) x2 x3 M =
    if (M.1 xr1 4) ≤ x3 then
 K94 x2 M
 else
 nm (x3 + (1 : Int32)) (fun v1 =>
 lX0_addNearest_18 (fun (v8 : Int32) (M9 : Mem) => lX0_addNearest_5 K94 φ t xr1 n v8 (x3 + 1) M9) t xr1 x3 φ x2 v1 M) := rfl
theorem lX0_addNearest_5_0 (K94 : Int32 → Mem → Option (Unit × Mem)) (φ : Nat) (t : Nat) (xr1 : Nat) (x2 : Int32) (x3 : Int32) (M : Mem) : lX0_addNearest_5 K94 φ t xr1 0 x2 x3 M = none := rfl
set_option maxRecDepth 100000 in
set_option maxHeartbeats 4000000 in
theorem wlX0_addNearest_5 {J : JT} (g : Gd J cX0_addNearest RX0) (hr : Rt J none) (hR : (JR J).frames = 1 ∧ (JR J).locals = 24) (hn : Jn J = 6) (K94 : Int32 → Mem → Option (Unit × Mem)) (φ : Nat) (t : Nat) (xr1 : Nat) (ht : isO 0 t) (hxr1 : isO 2 xr1) (hK94 : ∀ (y2 : Int32) (M : Mem), X J (fun q : Unit × Mem => ((none : Option Value), q.2)) (K94 y2 M) 94 [(0, .ref t), (1, .ref xr1), (2, .int y2)] [] M) : ∀ (n : Nat) (x2 : Int32) (x3 : Int32) (M : Mem), X J (fun q : Unit × Mem => ((none : Option Value), q.2)) (lX0_addNearest_5 K94 φ t xr1 n x2 x3 M) 5 [(0, .ref t), (1, .ref xr1), (2, .int x2), (3, .int x3)] [] M := by
  intro n
  induction n with
  | zero =>
    intro x2 x3 M
    exact x_none
  | succ n ih =>
    intro x2 x3 M
    rw [lX0_addNearest_5_s]
    exact (x_iload_n g 3 dX0_addNearest_5 rfl rfl
 (x_aload_n g 1 dX0_addNearest_6 rfl rfl
 (x_getI g fl_RX0_85 rfl hxr1 dX0_addNearest_7
 (x_icmp_ge g 94 dX0_addNearest_10 rfl
 (fun _ => (x_sub [0, 1, 2] rfl (hK94 x2 M)))
 (fun _ => (x_iload_n g 3 dX0_addNearest_13 rfl rfl
 (x_iconst g dX0_addNearest_14 kI_1
 (x_iadd g dX0_addNearest_15
 (x_nmI (fun v1 => (x_istore (L' := [(4, .int v1), (0, .ref t), (1, .ref xr1), (2, .int x2), (3, .int x3)]) g dX0_addNearest_16 hn (Nat.le_of_ble_eq_true rfl) rfl
 (x_sub [1, 2, 3, 4, 0] rfl (wlX0_addNearest_18 g hr hR hn _ t xr1 x3 ht hxr1
 (fun v8 M9 => by exact (x_iinc (L' := [(3, .int (x3 + 1)), (0, .ref t), (1, .ref xr1), (2, .int v8)]) (v := (x3 + 1)) g 3 dX0_addNearest_88 rfl (by rw [kI_1]) hn (Nat.le_of_ble_eq_true rfl) rfl
 (x_goto g 5 dX0_addNearest_91 rfl
 (x_sub [1, 2, 3, 0] rfl (ih v8 (x3 + 1) M9))))) φ x2 v1 M)))))))))))))
def fX0_addNearest (φ : Nat) (t : Nat) (a1 : Nat) (M : Mem) : Option (Unit × Mem) :=
  lX0_addNearest_5 (fun (v10 : Int32) (M11 : Mem) => ixk (M11.1 t 2) 6 (nm (stI M11 (t + 6) (M11.1 t 2).toNatClampNeg v10) (fun M12 =>
 ixk (M12.1 t 2) 6 (
 ixk (M12.1 (t + 5) (M12.1 t 2).toNatClampNeg) 6 (
 ixk (M12.1 t 2) 6 (
 ixk (M12.1 (t + 4) (M12.1 t 2).toNatClampNeg) 6 (
 bd (fX0_relabel φ 6 (t + 7) (M12.1 a1 4) (M12.1 (t + 7) (M12.1 (t + 5) (M12.1 t 2).toNatClampNeg).toNatClampNeg) (M12.1 (t + 7) (M12.1 (t + 4) (M12.1 t 2).toNatClampNeg).toNatClampNeg) M12) fun vu13 M14 =>
 nm (stI M14 t 2 ((M14.1 t 2) + (1 : Int32))) (fun M15 =>
 some ((), M15))))))))) φ t a1 φ (2147483647 : Int32) (0 : Int32) M
set_option maxRecDepth 100000 in
set_option maxHeartbeats 4000000 in
theorem kX0_addNearest (φ : Nat) (t : Nat) (a1 : Nat) (M : Mem) (ht : isO 0 t) (ha1 : isO 2 a1) (l : Launch) (G : GT) {b : (Unit × Mem)} (hE : fX0_addNearest φ t a1 M = some b) : Ok l G yX0_addNearest cX0_addNearest 6 none 1 24 [.ref t, .ref a1] M ((fun q : Unit × Mem => ((none : Option Value), q.2)) b).1 ((fun q : Unit × Mem => ((none : Option Value), q.2)) b).2 := by
  refine Ok.ofX (pj := (fun q : Unit × Mem => ((none : Option Value), q.2))) (by decide) (Nat.le_of_ble_eq_true rfl) hE (fun J g hr hG hl hR hn => ?_)
  show X J (fun q : Unit × Mem => ((none : Option Value), q.2)) (fX0_addNearest φ t a1 M) 0 [(0, .ref t), (1, .ref a1)] [] M
  unfold fX0_addNearest
  exact (x_ldc g cw_RX0_93 dX0_addNearest_0
 (x_istore_n (L' := [(2, .int (2147483647 : Int32)), (0, .ref t), (1, .ref a1)]) g dX0_addNearest_2 rfl hn (Nat.le_of_ble_eq_true rfl) rfl
 (x_iconst g dX0_addNearest_3 kI_0
 (x_istore_n (L' := [(3, .int (0 : Int32)), (2, .int (2147483647 : Int32)), (0, .ref t), (1, .ref a1)]) g dX0_addNearest_4 rfl hn (Nat.le_of_ble_eq_true rfl) rfl
 (x_sub [2, 3, 1, 0] rfl (wlX0_addNearest_5 g hr hR hn _ φ t a1 ht ha1
 (fun v10 M11 => by exact (x_aload_n g 0 dX0_addNearest_94 rfl rfl
 (x_getS g 6 fl_RX0_33 rfl ht dX0_addNearest_95
 (x_aload_n g 0 dX0_addNearest_98 rfl rfl
 (x_getI g fl_RX0_22 rfl ht dX0_addNearest_99
 (x_iload_n g 2 dX0_addNearest_102 rfl rfl
 (x_iast g (so_0_5 ht) dX0_addNearest_103 (x_nmM (fun M12 =>
 (x_aload_n g 0 dX0_addNearest_104 rfl rfl
 (x_getS g 7 fl_RX0_42 rfl ht dX0_addNearest_105
 (x_aload_n g 1 dX0_addNearest_108 rfl rfl
 (x_getI g fl_RX0_85 rfl ha1 dX0_addNearest_109
 (x_aload_n g 0 dX0_addNearest_112 rfl rfl
 (x_getS g 7 fl_RX0_42 rfl ht dX0_addNearest_113
 (x_aload_n g 0 dX0_addNearest_116 rfl rfl
 (x_getS g 5 fl_RX0_30 rfl ht dX0_addNearest_117
 (x_aload_n g 0 dX0_addNearest_120 rfl rfl
 (x_getI g fl_RX0_22 rfl ht dX0_addNearest_121
 (x_iald g (so_0_4 ht) dX0_addNearest_124
 (x_iald g (so_0_8 ht) dX0_addNearest_125
 (x_aload_n g 0 dX0_addNearest_126 rfl rfl
 (x_getS g 7 fl_RX0_42 rfl ht dX0_addNearest_127
 (x_aload_n g 0 dX0_addNearest_130 rfl rfl
 (x_getS g 4 fl_RX0_26 rfl ht dX0_addNearest_131
 (x_aload_n g 0 dX0_addNearest_134 rfl rfl
 (x_getI g fl_RX0_22 rfl ht dX0_addNearest_135
 (x_iald g (so_0_3 ht) dX0_addNearest_138
 (x_iald g (so_0_8 ht) dX0_addNearest_139
 (x_callSv (As := [.ref (t + 7), .int (M12.1 a1 4), .int (M12.1 (t + 7) (M12.1 (t + 5) (M12.1 t 2).toNatClampNeg).toNatClampNeg), .int (M12.1 (t + 7) (M12.1 (t + 4) (M12.1 t 2).toNatClampNeg).toNatClampNeg)]) g mv_X0_relabel ms_X0_relabel lk_RX0_97 (fun b Mh_ hb => kX0_relabel φ 6 (t + 7) (M12.1 a1 4) (M12.1 (t + 7) (M12.1 (t + 5) (M12.1 t 2).toNatClampNeg).toNatClampNeg) (M12.1 (t + 7) (M12.1 (t + 4) (M12.1 t 2).toNatClampNeg).toNatClampNeg) M12 (so_0_8 ht) _ _ hb) rfl rfl hR ⟨Nat.le_of_ble_eq_true rfl, Nat.le_of_ble_eq_true rfl⟩ (Nat.le_of_ble_eq_true rfl) dX0_addNearest_140 (fun vu13 M14 =>
 (x_aload_n g 0 dX0_addNearest_143 rfl rfl
 (x_dup g dX0_addNearest_144 rfl
 (x_getI g fl_RX0_22 rfl ht dX0_addNearest_145
 (x_iconst g dX0_addNearest_148 kI_1
 (x_iadd g dX0_addNearest_149
 (x_putI g fp_RX0_22 rfl (Nat.le_of_ble_eq_true rfl) ht dX0_addNearest_150 (x_nmM (fun M15 =>
 (x_vret g hr rfl dX0_addNearest_153)))))))))))))))))))))))))))))))))))))))) φ (2147483647 : Int32) (0 : Int32) M))))))
def lX0_growTree_7 (K28 : Mem → Option (Unit × Mem)) (t : Nat) (xr1 : Nat) : Nat → Int32 → Mem → Option (Unit × Mem)
  | 0, _, _ => none
  | n + 1, x2, M =>
    if (M.1 xr1 4) ≤ x2 then
 K28 M
 else
 ixk x2 6 (nm (stI M (t + 7) x2.toNatClampNeg x2) (fun M2 =>
 lX0_growTree_7 K28 t xr1 n (x2 + 1) M2))
theorem lX0_growTree_7_s (K28 : Mem → Option (Unit × Mem)) (t : Nat) (xr1 : Nat) (n : Nat) (x2 : Int32) (M : Mem) : lX0_growTree_7 K28 t xr1 (n + 1) x2 M =
    if (M.1 xr1 4) ≤ x2 then
 K28 M
 else
 ixk x2 6 (nm (stI M (t + 7) x2.toNatClampNeg x2) (fun M2 =>
 lX0_growTree_7 K28 t xr1 n (x2 + 1) M2)) := rfl
theorem lX0_growTree_7_0 (K28 : Mem → Option (Unit × Mem)) (t : Nat) (xr1 : Nat) (x2 : Int32) (M : Mem) : lX0_growTree_7 K28 t xr1 0 x2 M = none := rfl
set_option maxRecDepth 100000 in
set_option maxHeartbeats 4000000 in
theorem wlX0_growTree_7 {J : JT} (g : Gd J cX0_growTree RX0) (hr : Rt J none) (hR : (JR J).frames = 2 ∧ (JR J).locals = 49) (hn : Jn J = 3) (K28 : Mem → Option (Unit × Mem)) (t : Nat) (xr1 : Nat) (ht : isO 0 t) (hxr1 : isO 2 xr1) (hK28 : ∀ (M : Mem), X J (fun q : Unit × Mem => ((none : Option Value), q.2)) (K28 M) 28 [(0, .ref t), (1, .ref xr1)] [] M) : ∀ (n : Nat) (x2 : Int32) (M : Mem), X J (fun q : Unit × Mem => ((none : Option Value), q.2)) (lX0_growTree_7 K28 t xr1 n x2 M) 7 [(0, .ref t), (1, .ref xr1), (2, .int x2)] [] M := by
  intro n
  induction n with
  | zero =>
    intro x2 M
    exact x_none
  | succ n ih =>
    intro x2 M
    rw [lX0_growTree_7_s]
    exact (x_iload_n g 2 dX0_growTree_7 rfl rfl
 (x_aload_n g 1 dX0_growTree_8 rfl rfl
 (x_getI g fl_RX0_85 rfl hxr1 dX0_growTree_9
 (x_icmp_ge g 28 dX0_growTree_12 rfl
 (fun _ => (x_sub [0, 1] rfl (hK28 M)))
 (fun _ => (x_aload_n g 0 dX0_growTree_15 rfl rfl
 (x_getS g 7 fl_RX0_42 rfl ht dX0_growTree_16
 (x_iload_n g 2 dX0_growTree_19 rfl rfl
 (x_iload_n g 2 dX0_growTree_20 rfl rfl
 (x_iast g (so_0_8 ht) dX0_growTree_21 (x_nmM (fun M2 =>
 (x_iinc (L' := [(2, .int (x2 + 1)), (0, .ref t), (1, .ref xr1)]) (v := (x2 + 1)) g 2 dX0_growTree_22 rfl (by rw [kI_1]) hn (Nat.le_of_ble_eq_true rfl) rfl
 (x_goto g 7 dX0_growTree_25 rfl
 (x_sub [1, 2, 0] rfl (ih (x2 + 1) M2))))))))))))))))
def lX0_growTree_30 (φ : Nat) (t : Nat) (xr1 : Nat) : Nat → Int32 → Mem → Option (Unit × Mem)
  | 0, _, _ => none
  | n + 1, x2, M =>
    if (M.1 xr1 4) ≤ x2 then
 some ((), M)
 else
 bd (fX0_addNearest φ t xr1 M) fun vu4 M5 =>
 lX0_growTree_30 φ t xr1 n (x2 + 1) M5
theorem lX0_growTree_30_s (φ : Nat) (t : Nat) (xr1 : Nat) (n : Nat) (x2 : Int32) (M : Mem) : lX0_growTree_30 φ t xr1 (n + 1) x2 M =
    if (M.1 xr1 4) ≤ x2 then
 some ((), M)
 else
 bd (fX0_addNearest φ t xr1 M) fun vu4 M5 =>
 lX0_growTree_30 φ t xr1 n (x2 + 1) M5 := rfl
theorem lX0_growTree_30_0 (φ : Nat) (t : Nat) (xr1 : Nat) (x2 : Int32) (M : Mem) : lX0_growTree_30 φ t xr1 0 x2 M = none := rfl
set_option maxRecDepth 100000 in
set_option maxHeartbeats 4000000 in
theorem wlX0_growTree_30 {J : JT} (g : Gd J cX0_growTree RX0) (hr : Rt J none) (hR : (JR J).frames = 2 ∧ (JR J).locals = 49) (hn : Jn J = 3) (φ : Nat) (t : Nat) (xr1 : Nat) (ht : isO 0 t) (hxr1 : isO 2 xr1) : ∀ (n : Nat) (x2 : Int32) (M : Mem), X J (fun q : Unit × Mem => ((none : Option Value), q.2)) (lX0_growTree_30 φ t xr1 n x2 M) 30 [(0, .ref t), (1, .ref xr1), (2, .int x2)] [] M := by
  intro n
  induction n with
  | zero =>
    intro x2 M
    exact x_none
  | succ n ih =>
    intro x2 M
    rw [lX0_growTree_30_s]
    exact (x_iload_n g 2 dX0_growTree_30 rfl rfl
 (x_aload_n g 1 dX0_growTree_31 rfl rfl
 (x_getI g fl_RX0_85 rfl hxr1 dX0_growTree_32
 (x_icmp_ge g 49 dX0_growTree_35 rfl
 (fun _ => (x_vret g hr rfl dX0_growTree_49))
 (fun _ => (x_aload_n g 0 dX0_growTree_38 rfl rfl
 (x_aload_n g 1 dX0_growTree_39 rfl rfl
 (x_callVv (As := [.ref xr1]) g mv_X0_addNearest mi_X0_addNearest lk_RX0_90 ht (fun b Mh_ hb => kX0_addNearest φ t xr1 M ht hxr1 _ _ hb) rfl rfl hR ⟨Nat.le_of_ble_eq_true rfl, Nat.le_of_ble_eq_true rfl⟩ (Nat.le_of_ble_eq_true rfl) dX0_growTree_40 (fun vu4 M5 =>
 (x_iinc (L' := [(2, .int (x2 + 1)), (0, .ref t), (1, .ref xr1)]) (v := (x2 + 1)) g 2 dX0_growTree_43 rfl (by rw [kI_1]) hn (Nat.le_of_ble_eq_true rfl) rfl
 (x_goto g 30 dX0_growTree_46 rfl
 (x_sub [1, 2, 0] rfl (ih (x2 + 1) M5)))))))))))))
def fX0_growTree (φ : Nat) (t : Nat) (a1 : Nat) (M : Mem) : Option (Unit × Mem) :=
  nm (stI M t 2 (0 : Int32)) (fun M1 =>
 lX0_growTree_7 (fun (M3 : Mem) => lX0_growTree_30 φ t a1 φ (1 : Int32) M3) t a1 φ (0 : Int32) M1)
set_option maxRecDepth 100000 in
set_option maxHeartbeats 4000000 in
theorem kX0_growTree (φ : Nat) (t : Nat) (a1 : Nat) (M : Mem) (ht : isO 0 t) (ha1 : isO 2 a1) (l : Launch) (G : GT) {b : (Unit × Mem)} (hE : fX0_growTree φ t a1 M = some b) : Ok l G yX0_growTree cX0_growTree 3 none 2 49 [.ref t, .ref a1] M ((fun q : Unit × Mem => ((none : Option Value), q.2)) b).1 ((fun q : Unit × Mem => ((none : Option Value), q.2)) b).2 := by
  refine Ok.ofX (pj := (fun q : Unit × Mem => ((none : Option Value), q.2))) (by decide) (Nat.le_of_ble_eq_true rfl) hE (fun J g hr hG hl hR hn => ?_)
  show X J (fun q : Unit × Mem => ((none : Option Value), q.2)) (fX0_growTree φ t a1 M) 0 [(0, .ref t), (1, .ref a1)] [] M
  unfold fX0_growTree
  exact (x_aload_n g 0 dX0_growTree_0 rfl rfl
 (x_iconst g dX0_growTree_1 kI_0
 (x_putI g fp_RX0_22 rfl (Nat.le_of_ble_eq_true rfl) ht dX0_growTree_2 (x_nmM (fun M1 =>
 (x_iconst g dX0_growTree_5 kI_0
 (x_istore_n (L' := [(2, .int (0 : Int32)), (0, .ref t), (1, .ref a1)]) g dX0_growTree_6 rfl hn (Nat.le_of_ble_eq_true rfl) rfl
 (x_sub [1, 2, 0] rfl (wlX0_growTree_7 g hr hR hn _ t a1 ht ha1
 (fun M3 => by exact (x_iconst g dX0_growTree_28 kI_1
 (x_istore_n (L' := [(2, .int (1 : Int32)), (0, .ref t), (1, .ref a1)]) g dX0_growTree_29 rfl hn (Nat.le_of_ble_eq_true rfl) rfl
 (x_sub [1, 2, 0] rfl (wlX0_growTree_30 g hr hR hn  φ t a1 ht ha1 φ (1 : Int32) M3))))) φ (0 : Int32) M1)))))))))
def lX0_joinPairs_2 (φ : Nat) (t : Nat) (x1 : Int32) (x2 : Int32) : Nat → Int32 → Mem → Option (Unit × Mem)
  | 0, _, _ => none
  | n + 1, x3, M =>
    if (M.1 (t + 1) 2) ≤ x3 then
 some ((), M)
 else
 (fX5_mateOf (t + 1) x3 M).bind fun v1 =>
 jn (fun (M2 : Mem) => lX0_joinPairs_2 φ t x1 x2 n (x3 + 1) M2) (fun J3 => if v1 = (-1 : Int32) then
 J3 M
 else
 (fX10_slot x2 v1 M).bind fun v4 =>
 ixk v4 72 (
 (fX10_slot x1 x3 M).bind fun v5 =>
 ixk v5 72 (
 bd (fX0_relabel φ 72 (t + 8) (72 : Int32) (M.1 (t + 8) v4.toNatClampNeg) (M.1 (t + 8) v5.toNatClampNeg) M) fun vu6 M7 =>
 J3 M7)))
theorem lX0_joinPairs_2_s (φ : Nat) (t : Nat) (x1 : Int32) (x2 : Int32) (n : Nat) (x3 : Int32) (M : Mem) : lX0_joinPairs_2 φ t x1 x2 (n + 1) x3 M =
    if (M.1 (t + 1) 2) ≤ x3 then
 some ((), M)
 else
 (fX5_mateOf (t + 1) x3 M).bind fun v1 =>
 jn (fun (M2 : Mem) => lX0_joinPairs_2 φ t x1 x2 n (x3 + 1) M2) (fun J3 => if v1 = (-1 : Int32) then
 J3 M
 else
 (fX10_slot x2 v1 M).bind fun v4 =>
 ixk v4 72 (
 (fX10_slot x1 x3 M).bind fun v5 =>
 ixk v5 72 (
 bd (fX0_relabel φ 72 (t + 8) (72 : Int32) (M.1 (t + 8) v4.toNatClampNeg) (M.1 (t + 8) v5.toNatClampNeg) M) fun vu6 M7 =>
 J3 M7))) := rfl
theorem lX0_joinPairs_2_0 (φ : Nat) (t : Nat) (x1 : Int32) (x2 : Int32) (x3 : Int32) (M : Mem) : lX0_joinPairs_2 φ t x1 x2 0 x3 M = none := rfl
set_option maxRecDepth 100000 in
set_option maxHeartbeats 4000000 in
theorem wlX0_joinPairs_2 {J : JT} (g : Gd J cX0_joinPairs RX0) (hr : Rt J none) (hR : (JR J).frames = 1 ∧ (JR J).locals = 24) (hn : Jn J = 5) (φ : Nat) (t : Nat) (x1 : Int32) (x2 : Int32) (ht : isO 0 t) : ∀ (n : Nat) (x3 : Int32) (M : Mem), X J (fun q : Unit × Mem => ((none : Option Value), q.2)) (lX0_joinPairs_2 φ t x1 x2 n x3 M) 2 [(0, .ref t), (1, .int x1), (2, .int x2), (3, .int x3)] [] M := by
  intro n
  induction n with
  | zero =>
    intro x3 M
    exact x_none
  | succ n ih =>
    intro x3 M
    rw [lX0_joinPairs_2_s]
    exact (x_iload_n g 3 dX0_joinPairs_2 rfl rfl
 (x_aload_n g 0 dX0_joinPairs_3 rfl rfl
 (x_getS g 1 fl_RX0_12 rfl ht dX0_joinPairs_4
 (x_getI g fl_RX0_107 rfl (so_0_0 ht) dX0_joinPairs_7
 (x_icmp_ge g 65 dX0_joinPairs_10 rfl
 (fun _ => (x_vret g hr rfl dX0_joinPairs_65))
 (fun _ => (x_aload_n g 0 dX0_joinPairs_13 rfl rfl
 (x_getS g 1 fl_RX0_12 rfl ht dX0_joinPairs_14
 (x_iload_n g 3 dX0_joinPairs_17 rfl rfl
 (x_callVip (As := [.int x3]) g mv_X5_mateOf mi_X5_mateOf lk_RX0_110 (so_0_0 ht) (fun b hb => kX5_mateOf (t + 1) x3 M (so_0_0 ht) _ _ hb) rfl rfl hR ⟨Nat.le_of_ble_eq_true rfl, Nat.le_of_ble_eq_true rfl⟩ (Nat.le_of_ble_eq_true rfl) dX0_joinPairs_18 (fun v1 =>
 (x_istore (L' := [(4, .int v1), (0, .ref t), (1, .int x1), (2, .int x2), (3, .int x3)]) g dX0_joinPairs_21 hn (Nat.le_of_ble_eq_true rfl) rfl
 (x_iload g 0 dX0_joinPairs_23 rfl
 (x_iconst g dX0_joinPairs_25 kI_m1
 (x_jn (fun (J3 : Mem → Option (Unit × Mem)) => ∀ (M2 : Mem), X J (fun q : Unit × Mem => ((none : Option Value), q.2)) (J3 M2) 59 [(0, .ref t), (1, .int x1), (2, .int x2), (3, .int x3)] [] M2) (fun M2 => (x_iinc (L' := [(3, .int (x3 + 1)), (0, .ref t), (1, .int x1), (2, .int x2)]) (v := (x3 + 1)) g 3 dX0_joinPairs_59 rfl (by rw [kI_1]) hn (Nat.le_of_ble_eq_true rfl) rfl
 (x_goto g 2 dX0_joinPairs_62 rfl
 (x_sub [1, 2, 3, 0] rfl (ih (x3 + 1) M2))))) (fun J3 hJ3 => (x_icmp_eq g 59 dX0_joinPairs_26 rfl
 (fun _ => (x_sub [1, 2, 3, 4] rfl (hJ3 M)))
 (fun _ => (x_aload_n g 1 dX0_joinPairs_29 rfl rfl
 (x_getS g 8 fl_RX0_45 rfl ht dX0_joinPairs_30
 (x_bipush g dX0_joinPairs_33 kB_72
 (x_aload_n g 1 dX0_joinPairs_35 rfl rfl
 (x_getS g 8 fl_RX0_45 rfl ht dX0_joinPairs_36
 (x_iload_n g 3 dX0_joinPairs_39 rfl rfl
 (x_iload g 0 dX0_joinPairs_40 rfl
 (x_callSip (As := [.int x2, .int v1]) g mv_X10_slot ms_X10_slot lk_RX0_114 (fun b hb => kX10_slot x2 v1 M _ _ hb) rfl rfl hR ⟨Nat.le_of_ble_eq_true rfl, Nat.le_of_ble_eq_true rfl⟩ (Nat.le_of_ble_eq_true rfl) dX0_joinPairs_42 (fun v4 =>
 (x_iald g (so_0_9 ht) dX0_joinPairs_45
 (x_aload_n g 1 dX0_joinPairs_46 rfl rfl
 (x_getS g 8 fl_RX0_45 rfl ht dX0_joinPairs_47
 (x_iload_n g 2 dX0_joinPairs_50 rfl rfl
 (x_iload_n g 4 dX0_joinPairs_51 rfl rfl
 (x_callSip (As := [.int x1, .int x3]) g mv_X10_slot ms_X10_slot lk_RX0_114 (fun b hb => kX10_slot x1 x3 M _ _ hb) rfl rfl hR ⟨Nat.le_of_ble_eq_true rfl, Nat.le_of_ble_eq_true rfl⟩ (Nat.le_of_ble_eq_true rfl) dX0_joinPairs_52 (fun v5 =>
 (x_iald g (so_0_9 ht) dX0_joinPairs_55
 (x_callSv (As := [.ref (t + 8), .int (72 : Int32), .int (M.1 (t + 8) v4.toNatClampNeg), .int (M.1 (t + 8) v5.toNatClampNeg)]) g mv_X0_relabel ms_X0_relabel lk_RX0_97 (fun b Mh_ hb => kX0_relabel φ 72 (t + 8) (72 : Int32) (M.1 (t + 8) v4.toNatClampNeg) (M.1 (t + 8) v5.toNatClampNeg) M (so_0_9 ht) _ _ hb) rfl rfl hR ⟨Nat.le_of_ble_eq_true rfl, Nat.le_of_ble_eq_true rfl⟩ (Nat.le_of_ble_eq_true rfl) dX0_joinPairs_56 (fun vu6 M7 =>
 (x_sub [1, 2, 3, 4] rfl (hJ3 M7)))))))))))))))))))))))))))))))))))))))
def fX0_joinPairs (φ : Nat) (t : Nat) (a1 : Int32) (a2 : Int32) (M : Mem) : Option (Unit × Mem) :=
  lX0_joinPairs_2 φ t a1 a2 φ (0 : Int32) M
set_option maxRecDepth 100000 in
set_option maxHeartbeats 4000000 in
theorem kX0_joinPairs (φ : Nat) (t : Nat) (a1 : Int32) (a2 : Int32) (M : Mem) (ht : isO 0 t) (l : Launch) (G : GT) {b : (Unit × Mem)} (hE : fX0_joinPairs φ t a1 a2 M = some b) : Ok l G yX0_joinPairs cX0_joinPairs 5 none 1 24 [.ref t, .int a1, .int a2] M ((fun q : Unit × Mem => ((none : Option Value), q.2)) b).1 ((fun q : Unit × Mem => ((none : Option Value), q.2)) b).2 := by
  refine Ok.ofX (pj := (fun q : Unit × Mem => ((none : Option Value), q.2))) (by decide) (Nat.le_of_ble_eq_true rfl) hE (fun J g hr hG hl hR hn => ?_)
  show X J (fun q : Unit × Mem => ((none : Option Value), q.2)) (fX0_joinPairs φ t a1 a2 M) 0 [(0, .ref t), (1, .int a1), (2, .int a2)] [] M
  unfold fX0_joinPairs
  exact (x_iconst g dX0_joinPairs_0 kI_0
 (x_istore_n (L' := [(3, .int (0 : Int32)), (0, .ref t), (1, .int a1), (2, .int a2)]) g dX0_joinPairs_1 rfl hn (Nat.le_of_ble_eq_true rfl) rfl
 (x_sub [1, 2, 3, 0] rfl (wlX0_joinPairs_2 g hr hR hn  φ t a1 a2 ht φ (0 : Int32) M))))
def lX0_numberBeds_7 (K26 : Mem → Option (Unit × Mem)) (t : Nat) (xr1 : Nat) : Nat → Int32 → Mem → Option (Unit × Mem)
  | 0, _, _ => none
  | n + 1, x2, M =>
    if (72 : Int32) ≤ x2 then
 K26 M
 else
 ixk x2 72 (nm (stI M (t + 10) x2.toNatClampNeg (-1 : Int32)) (fun M2 =>
 lX0_numberBeds_7 K26 t xr1 n (x2 + 1) M2))
theorem lX0_numberBeds_7_s (K26 : Mem → Option (Unit × Mem)) (t : Nat) (xr1 : Nat) (n : Nat) (x2 : Int32) (M : Mem) : lX0_numberBeds_7 K26 t xr1 (n + 1) x2 M =
    if (72 : Int32) ≤ x2 then
 K26 M
 else
 ixk x2 72 (nm (stI M (t + 10) x2.toNatClampNeg (-1 : Int32)) (fun M2 =>
 lX0_numberBeds_7 K26 t xr1 n (x2 + 1) M2)) := rfl
theorem lX0_numberBeds_7_0 (K26 : Mem → Option (Unit × Mem)) (t : Nat) (xr1 : Nat) (x2 : Int32) (M : Mem) : lX0_numberBeds_7 K26 t xr1 0 x2 M = none := rfl
set_option maxRecDepth 100000 in
set_option maxHeartbeats 4000000 in
theorem wlX0_numberBeds_7 {J : JT} (g : Gd J cX0_numberBeds RX0) (hr : Rt J none) (hR : (JR J).frames = 1 ∧ (JR J).locals = 21) (hn : Jn J = 5) (K26 : Mem → Option (Unit × Mem)) (t : Nat) (xr1 : Nat) (ht : isO 0 t) (hxr1 : isO 2 xr1) (hK26 : ∀ (M : Mem), X J (fun q : Unit × Mem => ((none : Option Value), q.2)) (K26 M) 26 [(0, .ref t), (1, .ref xr1)] [] M) : ∀ (n : Nat) (x2 : Int32) (M : Mem), X J (fun q : Unit × Mem => ((none : Option Value), q.2)) (lX0_numberBeds_7 K26 t xr1 n x2 M) 7 [(0, .ref t), (1, .ref xr1), (2, .int x2)] [] M := by
  intro n
  induction n with
  | zero =>
    intro x2 M
    exact x_none
  | succ n ih =>
    intro x2 M
    rw [lX0_numberBeds_7_s]
    exact (x_iload_n g 2 dX0_numberBeds_7 rfl rfl
 (x_bipush g dX0_numberBeds_8 kB_72
 (x_icmp_ge g 26 dX0_numberBeds_10 rfl
 (fun _ => (x_sub [0, 1] rfl (hK26 M)))
 (fun _ => (x_aload_n g 0 dX0_numberBeds_13 rfl rfl
 (x_getS g 10 fl_RX0_51 rfl ht dX0_numberBeds_14
 (x_iload_n g 2 dX0_numberBeds_17 rfl rfl
 (x_iconst g dX0_numberBeds_18 kI_m1
 (x_iast g (so_0_11 ht) dX0_numberBeds_19 (x_nmM (fun M2 =>
 (x_iinc (L' := [(2, .int (x2 + 1)), (0, .ref t), (1, .ref xr1)]) (v := (x2 + 1)) g 2 dX0_numberBeds_20 rfl (by rw [kI_1]) hn (Nat.le_of_ble_eq_true rfl) rfl
 (x_goto g 7 dX0_numberBeds_23 rfl
 (x_sub [1, 2, 0] rfl (ih (x2 + 1) M2)))))))))))))))
def lX0_numberBeds_28 (K48 : Mem → Option (Unit × Mem)) (t : Nat) (xr1 : Nat) : Nat → Int32 → Mem → Option (Unit × Mem)
  | 0, _, _ => none
  | n + 1, x2, M =>
    if (432 : Int32) ≤ x2 then
 K48 M
 else
 ixk x2 432 (nm (stI M (t + 11) x2.toNatClampNeg (-1 : Int32)) (fun M4 =>
 lX0_numberBeds_28 K48 t xr1 n (x2 + 1) M4))
theorem lX0_numberBeds_28_s (K48 : Mem → Option (Unit × Mem)) (t : Nat) (xr1 : Nat) (n : Nat) (x2 : Int32) (M : Mem) : lX0_numberBeds_28 K48 t xr1 (n + 1) x2 M =
    if (432 : Int32) ≤ x2 then
 K48 M
 else
 ixk x2 432 (nm (stI M (t + 11) x2.toNatClampNeg (-1 : Int32)) (fun M4 =>
 lX0_numberBeds_28 K48 t xr1 n (x2 + 1) M4)) := rfl
theorem lX0_numberBeds_28_0 (K48 : Mem → Option (Unit × Mem)) (t : Nat) (xr1 : Nat) (x2 : Int32) (M : Mem) : lX0_numberBeds_28 K48 t xr1 0 x2 M = none := rfl
set_option maxRecDepth 100000 in
set_option maxHeartbeats 4000000 in
theorem wlX0_numberBeds_28 {J : JT} (g : Gd J cX0_numberBeds RX0) (hr : Rt J none) (hR : (JR J).frames = 1 ∧ (JR J).locals = 21) (hn : Jn J = 5) (K48 : Mem → Option (Unit × Mem)) (t : Nat) (xr1 : Nat) (ht : isO 0 t) (hxr1 : isO 2 xr1) (hK48 : ∀ (M : Mem), X J (fun q : Unit × Mem => ((none : Option Value), q.2)) (K48 M) 48 [(0, .ref t), (1, .ref xr1)] [] M) : ∀ (n : Nat) (x2 : Int32) (M : Mem), X J (fun q : Unit × Mem => ((none : Option Value), q.2)) (lX0_numberBeds_28 K48 t xr1 n x2 M) 28 [(0, .ref t), (1, .ref xr1), (2, .int x2)] [] M := by
  intro n
  induction n with
  | zero =>
    intro x2 M
    exact x_none
  | succ n ih =>
    intro x2 M
    rw [lX0_numberBeds_28_s]
    exact (x_iload_n g 2 dX0_numberBeds_28 rfl rfl
 (x_sipush g dX0_numberBeds_29 kS_432
 (x_icmp_ge g 48 dX0_numberBeds_32 rfl
 (fun _ => (x_sub [0, 1] rfl (hK48 M)))
 (fun _ => (x_aload_n g 0 dX0_numberBeds_35 rfl rfl
 (x_getS g 11 fl_RX0_54 rfl ht dX0_numberBeds_36
 (x_iload_n g 2 dX0_numberBeds_39 rfl rfl
 (x_iconst g dX0_numberBeds_40 kI_m1
 (x_iast g (so_0_12 ht) dX0_numberBeds_41 (x_nmM (fun M4 =>
 (x_iinc (L' := [(2, .int (x2 + 1)), (0, .ref t), (1, .ref xr1)]) (v := (x2 + 1)) g 2 dX0_numberBeds_42 rfl (by rw [kI_1]) hn (Nat.le_of_ble_eq_true rfl) rfl
 (x_goto g 28 dX0_numberBeds_45 rfl
 (x_sub [1, 2, 0] rfl (ih (x2 + 1) M4)))))))))))))))
def lX0_numberBeds_60 (K162 : Mem → Option (Unit × Mem)) (t : Nat) (xr1 : Nat) (x2 : Int32) : Nat → Int32 → Mem → Option (Unit × Mem)
  | 0, _, _ => none
  | n + 1, x3, M =>
    ixk x2 6 (
 if (M.1 (xr1 + 7) x2.toNatClampNeg) ≤ x3 then
 K162 M
 else
 (fX10_slot x2 x3 M).bind fun v6 =>
 ixk v6 72 (
 ixk (M.1 (t + 8) v6.toNatClampNeg) 72 (
 jn (fun (M7 : Mem) => ixk v6 72 (
 ixk (M7.1 (t + 8) v6.toNatClampNeg) 72 (
 ixk v6 72 (nm (stI M7 (t + 9) v6.toNatClampNeg (M7.1 (t + 10) (M7.1 (t + 8) v6.toNatClampNeg).toNatClampNeg)) (fun M9 =>
 ixk v6 72 (
 ixk (((M9.1 (t + 9) v6.toNatClampNeg) * (6 : Int32)) + x2) 432 (nm (stI M9 (t + 11) (((M9.1 (t + 9) v6.toNatClampNeg) * (6 : Int32)) + x2).toNatClampNeg x3) (fun M10 =>
 lX0_numberBeds_60 K162 t xr1 x2 n (x3 + 1) M10)))))))) (fun J8 => if (M.1 (t + 10) (M.1 (t + 8) v6.toNatClampNeg).toNatClampNeg) = (-1 : Int32) then
 ixk v6 72 (
 ixk (M.1 (t + 8) v6.toNatClampNeg) 72 (nm (stI M (t + 10) (M.1 (t + 8) v6.toNatClampNeg).toNatClampNeg (M.1 t 7)) (fun M11 =>
 nm (stI M11 t 7 ((M11.1 t 7) + (1 : Int32))) (fun M12 =>
 J8 M12))))
 else
 J8 M))))
theorem lX0_numberBeds_60_s (K162 : Mem → Option (Unit × Mem)) (t : Nat) (xr1 : Nat) (x2 : Int32) (n : Nat) (x3 : Int32) (M : Mem) : lX0_numberBeds_60 K162 t xr1 x2 (n + 1) x3 M =
    ixk x2 6 (
 if (M.1 (xr1 + 7) x2.toNatClampNeg) ≤ x3 then
 K162 M
 else
 (fX10_slot x2 x3 M).bind fun v6 =>
 ixk v6 72 (
 ixk (M.1 (t + 8) v6.toNatClampNeg) 72 (
 jn (fun (M7 : Mem) => ixk v6 72 (
 ixk (M7.1 (t + 8) v6.toNatClampNeg) 72 (
 ixk v6 72 (nm (stI M7 (t + 9) v6.toNatClampNeg (M7.1 (t + 10) (M7.1 (t + 8) v6.toNatClampNeg).toNatClampNeg)) (fun M9 =>
 ixk v6 72 (
 ixk (((M9.1 (t + 9) v6.toNatClampNeg) * (6 : Int32)) + x2) 432 (nm (stI M9 (t + 11) (((M9.1 (t + 9) v6.toNatClampNeg) * (6 : Int32)) + x2).toNatClampNeg x3) (fun M10 =>
 lX0_numberBeds_60 K162 t xr1 x2 n (x3 + 1) M10)))))))) (fun J8 => if (M.1 (t + 10) (M.1 (t + 8) v6.toNatClampNeg).toNatClampNeg) = (-1 : Int32) then
 ixk v6 72 (
 ixk (M.1 (t + 8) v6.toNatClampNeg) 72 (nm (stI M (t + 10) (M.1 (t + 8) v6.toNatClampNeg).toNatClampNeg (M.1 t 7)) (fun M11 =>
 nm (stI M11 t 7 ((M11.1 t 7) + (1 : Int32))) (fun M12 =>
 J8 M12))))
 else
 J8 M)))) := rfl
theorem lX0_numberBeds_60_0 (K162 : Mem → Option (Unit × Mem)) (t : Nat) (xr1 : Nat) (x2 : Int32) (x3 : Int32) (M : Mem) : lX0_numberBeds_60 K162 t xr1 x2 0 x3 M = none := rfl
set_option maxRecDepth 100000 in
set_option maxHeartbeats 4000000 in
theorem wlX0_numberBeds_60 {J : JT} (g : Gd J cX0_numberBeds RX0) (hr : Rt J none) (hR : (JR J).frames = 1 ∧ (JR J).locals = 21) (hn : Jn J = 5) (K162 : Mem → Option (Unit × Mem)) (t : Nat) (xr1 : Nat) (x2 : Int32) (ht : isO 0 t) (hxr1 : isO 2 xr1) (hK162 : ∀ (M : Mem), X J (fun q : Unit × Mem => ((none : Option Value), q.2)) (K162 M) 162 [(0, .ref t), (1, .ref xr1), (2, .int x2)] [] M) : ∀ (n : Nat) (x3 : Int32) (M : Mem), X J (fun q : Unit × Mem => ((none : Option Value), q.2)) (lX0_numberBeds_60 K162 t xr1 x2 n x3 M) 60 [(0, .ref t), (1, .ref xr1), (2, .int x2), (3, .int x3)] [] M := by
  intro n
  induction n with
  | zero =>
    intro x3 M
    exact x_none
  | succ n ih =>
    intro x3 M
    rw [lX0_numberBeds_60_s]
    exact (x_iload_n g 3 dX0_numberBeds_60 rfl rfl
 (x_aload_n g 1 dX0_numberBeds_61 rfl rfl
 (x_getS g 7 fl_RX0_118 rfl hxr1 dX0_numberBeds_62
 (x_iload_n g 2 dX0_numberBeds_65 rfl rfl
 (x_iald g (so_2_8 hxr1) dX0_numberBeds_66
 (x_icmp_ge g 162 dX0_numberBeds_67 rfl
 (fun _ => (x_sub [0, 1, 2] rfl (hK162 M)))
 (fun _ => (x_iload_n g 2 dX0_numberBeds_70 rfl rfl
 (x_iload_n g 3 dX0_numberBeds_71 rfl rfl
 (x_callSip (As := [.int x2, .int x3]) g mv_X10_slot ms_X10_slot lk_RX0_114 (fun b hb => kX10_slot x2 x3 M _ _ hb) rfl rfl hR ⟨Nat.le_of_ble_eq_true rfl, Nat.le_of_ble_eq_true rfl⟩ (Nat.le_of_ble_eq_true rfl) dX0_numberBeds_72 (fun v6 =>
 (x_istore (L' := [(4, .int v6), (0, .ref t), (1, .ref xr1), (2, .int x2), (3, .int x3)]) g dX0_numberBeds_75 hn (Nat.le_of_ble_eq_true rfl) rfl
 (x_aload_n g 1 dX0_numberBeds_77 rfl rfl
 (x_getS g 10 fl_RX0_51 rfl ht dX0_numberBeds_78
 (x_aload_n g 1 dX0_numberBeds_81 rfl rfl
 (x_getS g 8 fl_RX0_45 rfl ht dX0_numberBeds_82
 (x_iload g 0 dX0_numberBeds_85 rfl
 (x_iald g (so_0_9 ht) dX0_numberBeds_87
 (x_iald g (so_0_11 ht) dX0_numberBeds_88
 (x_iconst g dX0_numberBeds_89 kI_m1
 (x_jn (fun (J8 : Mem → Option (Unit × Mem)) => ∀ (M7 : Mem), X J (fun q : Unit × Mem => ((none : Option Value), q.2)) (J8 M7) 119 [(0, .ref t), (1, .ref xr1), (2, .int x2), (3, .int x3), (4, .int v6)] [] M7) (fun M7 => (x_aload_n g 0 dX0_numberBeds_119 rfl rfl
 (x_getS g 9 fl_RX0_48 rfl ht dX0_numberBeds_120
 (x_iload g 4 dX0_numberBeds_123 rfl
 (x_aload_n g 0 dX0_numberBeds_125 rfl rfl
 (x_getS g 10 fl_RX0_51 rfl ht dX0_numberBeds_126
 (x_aload_n g 0 dX0_numberBeds_129 rfl rfl
 (x_getS g 8 fl_RX0_45 rfl ht dX0_numberBeds_130
 (x_iload g 4 dX0_numberBeds_133 rfl
 (x_iald g (so_0_9 ht) dX0_numberBeds_135
 (x_iald g (so_0_11 ht) dX0_numberBeds_136
 (x_iast g (so_0_10 ht) dX0_numberBeds_137 (x_nmM (fun M9 =>
 (x_aload_n g 0 dX0_numberBeds_138 rfl rfl
 (x_getS g 11 fl_RX0_54 rfl ht dX0_numberBeds_139
 (x_aload_n g 0 dX0_numberBeds_142 rfl rfl
 (x_getS g 9 fl_RX0_48 rfl ht dX0_numberBeds_143
 (x_iload g 4 dX0_numberBeds_146 rfl
 (x_iald g (so_0_10 ht) dX0_numberBeds_148
 (x_bipush g dX0_numberBeds_149 kB_6
 (x_imul g dX0_numberBeds_151
 (x_iload_n g 2 dX0_numberBeds_152 rfl rfl
 (x_iadd g dX0_numberBeds_153
 (x_iload_n g 3 dX0_numberBeds_154 rfl rfl
 (x_iast g (so_0_12 ht) dX0_numberBeds_155 (x_nmM (fun M10 =>
 (x_iinc (L' := [(3, .int (x3 + 1)), (0, .ref t), (1, .ref xr1), (2, .int x2), (4, .int v6)]) (v := (x3 + 1)) g 3 dX0_numberBeds_156 rfl (by rw [kI_1]) hn (Nat.le_of_ble_eq_true rfl) rfl
 (x_goto g 60 dX0_numberBeds_159 rfl
 (x_sub [1, 2, 3, 0] rfl (ih (x3 + 1) M10)))))))))))))))))))))))))))))))) (fun J8 hJ8 => (x_icmp_ne g 119 dX0_numberBeds_90 rfl
 (fun _ => (x_sub [1, 2, 3, 4, 0] rfl (hJ8 M)))
 (fun _ => (x_aload_n g 1 dX0_numberBeds_93 rfl rfl
 (x_getS g 10 fl_RX0_51 rfl ht dX0_numberBeds_94
 (x_aload_n g 1 dX0_numberBeds_97 rfl rfl
 (x_getS g 8 fl_RX0_45 rfl ht dX0_numberBeds_98
 (x_iload g 0 dX0_numberBeds_101 rfl
 (x_iald g (so_0_9 ht) dX0_numberBeds_103
 (x_aload_n g 1 dX0_numberBeds_104 rfl rfl
 (x_getI g fl_RX0_39 rfl ht dX0_numberBeds_105
 (x_iast g (so_0_11 ht) dX0_numberBeds_108 (x_nmM (fun M11 =>
 (x_aload_n g 1 dX0_numberBeds_109 rfl rfl
 (x_dup g dX0_numberBeds_110 rfl
 (x_getI g fl_RX0_39 rfl ht dX0_numberBeds_111
 (x_iconst g dX0_numberBeds_114 kI_1
 (x_iadd g dX0_numberBeds_115
 (x_putI g fp_RX0_39 rfl (Nat.le_of_ble_eq_true rfl) ht dX0_numberBeds_116 (x_nmM (fun M12 =>
 (x_sub [1, 2, 3, 4, 0] rfl (hJ8 M12)))))))))))))))))))))))))))))))))))))))))))))
def lX0_numberBeds_50 (φ : Nat) (t : Nat) (xr1 : Nat) : Nat → Int32 → Mem → Option (Unit × Mem)
  | 0, _, _ => none
  | n + 1, x2, M =>
    if (M.1 xr1 4) ≤ x2 then
 some ((), M)
 else
 lX0_numberBeds_60 (fun (M13 : Mem) => lX0_numberBeds_50 φ t xr1 n (x2 + 1) M13) t xr1 x2 φ (0 : Int32) M
theorem lX0_numberBeds_50_s (φ : Nat) (t : Nat) (xr1 : Nat) (n : Nat) (x2 : Int32) (M : Mem) : lX0_numberBeds_50 φ t xr1 (n + 1) x2 M =
    if (M.1 xr1 4) ≤ x2 then
 some ((), M)
 else
 lX0_numberBeds_60 (fun (M13 : Mem) => lX0_numberBeds_50 φ t xr1 n (x2 + 1) M13) t xr1 x2 φ (0 : Int32) M := rfl
theorem lX0_numberBeds_50_0 (φ : Nat) (t : Nat) (xr1 : Nat) (x2 : Int32) (M : Mem) : lX0_numberBeds_50 φ t xr1 0 x2 M = none := rfl
set_option maxRecDepth 100000 in
set_option maxHeartbeats 4000000 in
theorem wlX0_numberBeds_50 {J : JT} (g : Gd J cX0_numberBeds RX0) (hr : Rt J none) (hR : (JR J).frames = 1 ∧ (JR J).locals = 21) (hn : Jn J = 5) (φ : Nat) (t : Nat) (xr1 : Nat) (ht : isO 0 t) (hxr1 : isO 2 xr1) : ∀ (n : Nat) (x2 : Int32) (M : Mem), X J (fun q : Unit × Mem => ((none : Option Value), q.2)) (lX0_numberBeds_50 φ t xr1 n x2 M) 50 [(0, .ref t), (1, .ref xr1), (2, .int x2)] [] M := by
  intro n
  induction n with
  | zero =>
    intro x2 M
    exact x_none
  | succ n ih =>
    intro x2 M
    rw [lX0_numberBeds_50_s]
    exact (x_iload_n g 2 dX0_numberBeds_50 rfl rfl
 (x_aload_n g 1 dX0_numberBeds_51 rfl rfl
 (x_getI g fl_RX0_85 rfl hxr1 dX0_numberBeds_52
 (x_icmp_ge g 168 dX0_numberBeds_55 rfl
 (fun _ => (x_vret g hr rfl dX0_numberBeds_168))
 (fun _ => (x_iconst g dX0_numberBeds_58 kI_0
 (x_istore_n (L' := [(3, .int (0 : Int32)), (0, .ref t), (1, .ref xr1), (2, .int x2)]) g dX0_numberBeds_59 rfl hn (Nat.le_of_ble_eq_true rfl) rfl
 (x_sub [1, 2, 3, 0] rfl (wlX0_numberBeds_60 g hr hR hn _ t xr1 x2 ht hxr1
 (fun M13 => by exact (x_iinc (L' := [(2, .int (x2 + 1)), (0, .ref t), (1, .ref xr1)]) (v := (x2 + 1)) g 2 dX0_numberBeds_162 rfl (by rw [kI_1]) hn (Nat.le_of_ble_eq_true rfl) rfl
 (x_goto g 50 dX0_numberBeds_165 rfl
 (x_sub [1, 2, 0] rfl (ih (x2 + 1) M13))))) φ (0 : Int32) M)))))))))
def fX0_numberBeds (φ : Nat) (t : Nat) (a1 : Nat) (M : Mem) : Option (Unit × Mem) :=
  nm (stI M t 7 (0 : Int32)) (fun M1 =>
 lX0_numberBeds_7 (fun (M3 : Mem) => lX0_numberBeds_28 (fun (M5 : Mem) => lX0_numberBeds_50 φ t a1 φ (0 : Int32) M5) t a1 φ (0 : Int32) M3) t a1 φ (0 : Int32) M1)
set_option maxRecDepth 100000 in
set_option maxHeartbeats 4000000 in
theorem kX0_numberBeds (φ : Nat) (t : Nat) (a1 : Nat) (M : Mem) (ht : isO 0 t) (ha1 : isO 2 a1) (l : Launch) (G : GT) {b : (Unit × Mem)} (hE : fX0_numberBeds φ t a1 M = some b) : Ok l G yX0_numberBeds cX0_numberBeds 5 none 1 21 [.ref t, .ref a1] M ((fun q : Unit × Mem => ((none : Option Value), q.2)) b).1 ((fun q : Unit × Mem => ((none : Option Value), q.2)) b).2 := by
  refine Ok.ofX (pj := (fun q : Unit × Mem => ((none : Option Value), q.2))) (by decide) (Nat.le_of_ble_eq_true rfl) hE (fun J g hr hG hl hR hn => ?_)
  show X J (fun q : Unit × Mem => ((none : Option Value), q.2)) (fX0_numberBeds φ t a1 M) 0 [(0, .ref t), (1, .ref a1)] [] M
  unfold fX0_numberBeds
  exact (x_aload_n g 0 dX0_numberBeds_0 rfl rfl
 (x_iconst g dX0_numberBeds_1 kI_0
 (x_putI g fp_RX0_39 rfl (Nat.le_of_ble_eq_true rfl) ht dX0_numberBeds_2 (x_nmM (fun M1 =>
 (x_iconst g dX0_numberBeds_5 kI_0
 (x_istore_n (L' := [(2, .int (0 : Int32)), (0, .ref t), (1, .ref a1)]) g dX0_numberBeds_6 rfl hn (Nat.le_of_ble_eq_true rfl) rfl
 (x_sub [1, 2, 0] rfl (wlX0_numberBeds_7 g hr hR hn _ t a1 ht ha1
 (fun M3 => by exact (x_iconst g dX0_numberBeds_26 kI_0
 (x_istore_n (L' := [(2, .int (0 : Int32)), (0, .ref t), (1, .ref a1)]) g dX0_numberBeds_27 rfl hn (Nat.le_of_ble_eq_true rfl) rfl
 (x_sub [1, 2, 0] rfl (wlX0_numberBeds_28 g hr hR hn _ t a1 ht ha1
 (fun M5 => by exact (x_iconst g dX0_numberBeds_48 kI_0
 (x_istore_n (L' := [(2, .int (0 : Int32)), (0, .ref t), (1, .ref a1)]) g dX0_numberBeds_49 rfl hn (Nat.le_of_ble_eq_true rfl) rfl
 (x_sub [1, 2, 0] rfl (wlX0_numberBeds_50 g hr hR hn  φ t a1 ht ha1 φ (0 : Int32) M5))))) φ (0 : Int32) M3))))) φ (0 : Int32) M1)))))))))
def lX0_refresh_30 (K49 : Mem → Option (Unit × Mem)) (t : Nat) (xr1 : Nat) : Nat → Int32 → Mem → Option (Unit × Mem)
  | 0, _, _ => none
  | n + 1, x2, M =>
    if (72 : Int32) ≤ x2 then
 K49 M
 else
 ixk x2 72 (nm (stI M (t + 8) x2.toNatClampNeg x2) (fun M6 =>
 lX0_refresh_30 K49 t xr1 n (x2 + 1) M6))
theorem lX0_refresh_30_s (K49 : Mem → Option (Unit × Mem)) (t : Nat) (xr1 : Nat) (n : Nat) (x2 : Int32) (M : Mem) : lX0_refresh_30 K49 t xr1 (n + 1) x2 M =
    if (72 : Int32) ≤ x2 then
 K49 M
 else
 ixk x2 72 (nm (stI M (t + 8) x2.toNatClampNeg x2) (fun M6 =>
 lX0_refresh_30 K49 t xr1 n (x2 + 1) M6)) := rfl
theorem lX0_refresh_30_0 (K49 : Mem → Option (Unit × Mem)) (t : Nat) (xr1 : Nat) (x2 : Int32) (M : Mem) : lX0_refresh_30 K49 t xr1 0 x2 M = none := rfl
set_option maxRecDepth 100000 in
set_option maxHeartbeats 4000000 in
theorem wlX0_refresh_30 {J : JT} (g : Gd J cX0_refresh RX0) (hr : Rt J none) (hR : (JR J).frames = 4 ∧ (JR J).locals = 108) (hn : Jn J = 3) (K49 : Mem → Option (Unit × Mem)) (t : Nat) (xr1 : Nat) (ht : isO 0 t) (hxr1 : isO 2 xr1) (hK49 : ∀ (M : Mem), X J (fun q : Unit × Mem => ((none : Option Value), q.2)) (K49 M) 49 [(0, .ref t), (1, .ref xr1)] [] M) : ∀ (n : Nat) (x2 : Int32) (M : Mem), X J (fun q : Unit × Mem => ((none : Option Value), q.2)) (lX0_refresh_30 K49 t xr1 n x2 M) 30 [(0, .ref t), (1, .ref xr1), (2, .int x2)] [] M := by
  intro n
  induction n with
  | zero =>
    intro x2 M
    exact x_none
  | succ n ih =>
    intro x2 M
    rw [lX0_refresh_30_s]
    exact (x_iload_n g 2 dX0_refresh_30 rfl rfl
 (x_bipush g dX0_refresh_31 kB_72
 (x_icmp_ge g 49 dX0_refresh_33 rfl
 (fun _ => (x_sub [0, 1] rfl (hK49 M)))
 (fun _ => (x_aload_n g 0 dX0_refresh_36 rfl rfl
 (x_getS g 8 fl_RX0_45 rfl ht dX0_refresh_37
 (x_iload_n g 2 dX0_refresh_40 rfl rfl
 (x_iload_n g 2 dX0_refresh_41 rfl rfl
 (x_iast g (so_0_9 ht) dX0_refresh_42 (x_nmM (fun M6 =>
 (x_iinc (L' := [(2, .int (x2 + 1)), (0, .ref t), (1, .ref xr1)]) (v := (x2 + 1)) g 2 dX0_refresh_43 rfl (by rw [kI_1]) hn (Nat.le_of_ble_eq_true rfl) rfl
 (x_goto g 30 dX0_refresh_46 rfl
 (x_sub [1, 2, 0] rfl (ih (x2 + 1) M6)))))))))))))))
def lX0_refresh_51 (φ : Nat) (t : Nat) (xr1 : Nat) : Nat → Int32 → Mem → Option (Unit × Mem)
  | 0, _, _ => none
  | n + 1, x2, M =>
    if (M.1 t 2) ≤ x2 then
 bd (fX0_numberBeds φ t xr1 M) fun vu8 M9 =>
 some ((), M9)
 else
 ixk x2 6 (
 ixk x2 6 (
 bd (fX5_workOut φ (t + 1) xr1 (M.1 (t + 4) x2.toNatClampNeg) (M.1 (t + 5) x2.toNatClampNeg) M) fun v10 M11 =>
 nm (stI M11 t 6 ((M.1 t 6) + v10)) (fun M12 =>
 ixk x2 6 (
 ixk x2 6 (
 bd (fX0_joinPairs φ t (M12.1 (t + 4) x2.toNatClampNeg) (M12.1 (t + 5) x2.toNatClampNeg) M12) fun vu13 M14 =>
 lX0_refresh_51 φ t xr1 n (x2 + 1) M14)))))
theorem lX0_refresh_51_s (φ : Nat) (t : Nat) (xr1 : Nat) (n : Nat) (x2 : Int32) (M : Mem) : lX0_refresh_51 φ t xr1 (n + 1) x2 M =
    if (M.1 t 2) ≤ x2 then
 bd (fX0_numberBeds φ t xr1 M) fun vu8 M9 =>
 some ((), M9)
 else
 ixk x2 6 (
 ixk x2 6 (
 bd (fX5_workOut φ (t + 1) xr1 (M.1 (t + 4) x2.toNatClampNeg) (M.1 (t + 5) x2.toNatClampNeg) M) fun v10 M11 =>
 nm (stI M11 t 6 ((M.1 t 6) + v10)) (fun M12 =>
 ixk x2 6 (
 ixk x2 6 (
 bd (fX0_joinPairs φ t (M12.1 (t + 4) x2.toNatClampNeg) (M12.1 (t + 5) x2.toNatClampNeg) M12) fun vu13 M14 =>
 lX0_refresh_51 φ t xr1 n (x2 + 1) M14))))) := rfl
theorem lX0_refresh_51_0 (φ : Nat) (t : Nat) (xr1 : Nat) (x2 : Int32) (M : Mem) : lX0_refresh_51 φ t xr1 0 x2 M = none := rfl
set_option maxRecDepth 100000 in
set_option maxHeartbeats 4000000 in
theorem wlX0_refresh_51 {J : JT} (g : Gd J cX0_refresh RX0) (hr : Rt J none) (hR : (JR J).frames = 4 ∧ (JR J).locals = 108) (hn : Jn J = 3) (φ : Nat) (t : Nat) (xr1 : Nat) (ht : isO 0 t) (hxr1 : isO 2 xr1) : ∀ (n : Nat) (x2 : Int32) (M : Mem), X J (fun q : Unit × Mem => ((none : Option Value), q.2)) (lX0_refresh_51 φ t xr1 n x2 M) 51 [(0, .ref t), (1, .ref xr1), (2, .int x2)] [] M := by
  intro n
  induction n with
  | zero =>
    intro x2 M
    exact x_none
  | succ n ih =>
    intro x2 M
    rw [lX0_refresh_51_s]
    exact (x_iload_n g 2 dX0_refresh_51 rfl rfl
 (x_aload_n g 0 dX0_refresh_52 rfl rfl
 (x_getI g fl_RX0_22 rfl ht dX0_refresh_53
 (x_icmp_ge g 110 dX0_refresh_56 rfl
 (fun _ => (x_aload_n g 0 dX0_refresh_110 rfl rfl
 (x_aload_n g 1 dX0_refresh_111 rfl rfl
 (x_callVv (As := [.ref xr1]) g mv_X0_numberBeds mi_X0_numberBeds lk_RX0_82 ht (fun b Mh_ hb => kX0_numberBeds φ t xr1 M ht hxr1 _ _ hb) rfl rfl hR ⟨Nat.le_of_ble_eq_true rfl, Nat.le_of_ble_eq_true rfl⟩ (Nat.le_of_ble_eq_true rfl) dX0_refresh_112 (fun vu8 M9 =>
 (x_vret g hr rfl dX0_refresh_115))))))
 (fun _ => (x_aload_n g 0 dX0_refresh_59 rfl rfl
 (x_dup g dX0_refresh_60 rfl
 (x_getI g fl_RX0_36 rfl ht dX0_refresh_61
 (x_aload_n g 0 dX0_refresh_64 rfl rfl
 (x_getS g 1 fl_RX0_12 rfl ht dX0_refresh_65
 (x_aload_n g 1 dX0_refresh_68 rfl rfl
 (x_aload_n g 0 dX0_refresh_69 rfl rfl
 (x_getS g 4 fl_RX0_26 rfl ht dX0_refresh_70
 (x_iload_n g 2 dX0_refresh_73 rfl rfl
 (x_iald g (so_0_3 ht) dX0_refresh_74
 (x_aload_n g 0 dX0_refresh_75 rfl rfl
 (x_getS g 5 fl_RX0_30 rfl ht dX0_refresh_76
 (x_iload_n g 2 dX0_refresh_79 rfl rfl
 (x_iald g (so_0_4 ht) dX0_refresh_80
 (x_callVi (As := [.ref xr1, .int (M.1 (t + 4) x2.toNatClampNeg), .int (M.1 (t + 5) x2.toNatClampNeg)]) g mv_X5_workOut mi_X5_workOut lk_RX0_74 (so_0_0 ht) (fun b Mh_ hb => kX5_workOut φ (t + 1) xr1 (M.1 (t + 4) x2.toNatClampNeg) (M.1 (t + 5) x2.toNatClampNeg) M (so_0_0 ht) hxr1 _ _ hb) rfl rfl hR ⟨Nat.le_of_ble_eq_true rfl, Nat.le_of_ble_eq_true rfl⟩ (Nat.le_of_ble_eq_true rfl) dX0_refresh_81 (fun v10 M11 =>
 (x_iadd g dX0_refresh_84
 (x_putI g fp_RX0_36 rfl (Nat.le_of_ble_eq_true rfl) ht dX0_refresh_85 (x_nmM (fun M12 =>
 (x_aload_n g 0 dX0_refresh_88 rfl rfl
 (x_aload_n g 0 dX0_refresh_89 rfl rfl
 (x_getS g 4 fl_RX0_26 rfl ht dX0_refresh_90
 (x_iload_n g 2 dX0_refresh_93 rfl rfl
 (x_iald g (so_0_3 ht) dX0_refresh_94
 (x_aload_n g 0 dX0_refresh_95 rfl rfl
 (x_getS g 5 fl_RX0_30 rfl ht dX0_refresh_96
 (x_iload_n g 2 dX0_refresh_99 rfl rfl
 (x_iald g (so_0_4 ht) dX0_refresh_100
 (x_callVv (As := [.int (M12.1 (t + 4) x2.toNatClampNeg), .int (M12.1 (t + 5) x2.toNatClampNeg)]) g mv_X0_joinPairs mi_X0_joinPairs lk_RX0_78 ht (fun b Mh_ hb => kX0_joinPairs φ t (M12.1 (t + 4) x2.toNatClampNeg) (M12.1 (t + 5) x2.toNatClampNeg) M12 ht _ _ hb) rfl rfl hR ⟨Nat.le_of_ble_eq_true rfl, Nat.le_of_ble_eq_true rfl⟩ (Nat.le_of_ble_eq_true rfl) dX0_refresh_101 (fun vu13 M14 =>
 (x_iinc (L' := [(2, .int (x2 + 1)), (0, .ref t), (1, .ref xr1)]) (v := (x2 + 1)) g 2 dX0_refresh_104 rfl (by rw [kI_1]) hn (Nat.le_of_ble_eq_true rfl) rfl
 (x_goto g 51 dX0_refresh_107 rfl
 (x_sub [1, 2, 0] rfl (ih (x2 + 1) M14))))))))))))))))))))))))))))))))))))))))
def fX0_refresh (φ : Nat) (t : Nat) (a1 : Nat) (M : Mem) : Option (Unit × Mem) :=
  if (M.1 t 1) = 0 then
 some ((), M)
 else
 nm (stI M t 1 (0 : Int32)) (fun M1 =>
 nm (stI M1 t 13 (1 : Int32)) (fun M2 =>
 bd (fX0_growTree φ t a1 M2) fun vu3 M4 =>
 nm (stI M4 t 6 (0 : Int32)) (fun M5 =>
 lX0_refresh_30 (fun (M7 : Mem) => lX0_refresh_51 φ t a1 φ (0 : Int32) M7) t a1 φ (0 : Int32) M5)))
set_option maxRecDepth 100000 in
set_option maxHeartbeats 4000000 in
theorem kX0_refresh (φ : Nat) (t : Nat) (a1 : Nat) (M : Mem) (ht : isO 0 t) (ha1 : isO 2 a1) (l : Launch) (G : GT) {b : (Unit × Mem)} (hE : fX0_refresh φ t a1 M = some b) : Ok l G yX0_refresh cX0_refresh 3 none 4 108 [.ref t, .ref a1] M ((fun q : Unit × Mem => ((none : Option Value), q.2)) b).1 ((fun q : Unit × Mem => ((none : Option Value), q.2)) b).2 := by
  refine Ok.ofX (pj := (fun q : Unit × Mem => ((none : Option Value), q.2))) (by decide) (Nat.le_of_ble_eq_true rfl) hE (fun J g hr hG hl hR hn => ?_)
  show X J (fun q : Unit × Mem => ((none : Option Value), q.2)) (fX0_refresh φ t a1 M) 0 [(0, .ref t), (1, .ref a1)] [] M
  unfold fX0_refresh
  exact (x_aload_n g 0 dX0_refresh_0 rfl rfl
 (x_getI g fl_RX0_18 rfl ht dX0_refresh_1
 (x_if_ne g 8 dX0_refresh_4 rfl
 (fun _ => (x_aload_n g 0 dX0_refresh_8 rfl rfl
 (x_iconst g dX0_refresh_9 kI_0
 (x_putZ g fp_RX0_18 rfl (Nat.le_of_ble_eq_true rfl) ht (Or.inl rfl) dX0_refresh_10 (x_nmM (fun M1 =>
 (x_aload_n g 0 dX0_refresh_13 rfl rfl
 (x_iconst g dX0_refresh_14 kI_1
 (x_putZ g fp_RX0_57 rfl (Nat.le_of_ble_eq_true rfl) ht (Or.inr rfl) dX0_refresh_15 (x_nmM (fun M2 =>
 (x_aload_n g 0 dX0_refresh_18 rfl rfl
 (x_aload_n g 1 dX0_refresh_19 rfl rfl
 (x_callVv (As := [.ref a1]) g mv_X0_growTree mi_X0_growTree lk_RX0_70 ht (fun b Mh_ hb => kX0_growTree φ t a1 M2 ht ha1 _ _ hb) rfl rfl hR ⟨Nat.le_of_ble_eq_true rfl, Nat.le_of_ble_eq_true rfl⟩ (Nat.le_of_ble_eq_true rfl) dX0_refresh_20 (fun vu3 M4 =>
 (x_aload_n g 0 dX0_refresh_23 rfl rfl
 (x_iconst g dX0_refresh_24 kI_0
 (x_putI g fp_RX0_36 rfl (Nat.le_of_ble_eq_true rfl) ht dX0_refresh_25 (x_nmM (fun M5 =>
 (x_iconst g dX0_refresh_28 kI_0
 (x_istore_n (L' := [(2, .int (0 : Int32)), (0, .ref t), (1, .ref a1)]) g dX0_refresh_29 rfl hn (Nat.le_of_ble_eq_true rfl) rfl
 (x_sub [1, 2, 0] rfl (wlX0_refresh_30 g hr hR hn _ t a1 ht ha1
 (fun M7 => by exact (x_iconst g dX0_refresh_49 kI_0
 (x_istore_n (L' := [(2, .int (0 : Int32)), (0, .ref t), (1, .ref a1)]) g dX0_refresh_50 rfl hn (Nat.le_of_ble_eq_true rfl) rfl
 (x_sub [1, 2, 0] rfl (wlX0_refresh_51 g hr hR hn  φ t a1 ht ha1 φ (0 : Int32) M7))))) φ (0 : Int32) M5))))))))))))))))))))))))
 (fun _ => (x_vret g hr rfl dX0_refresh_7)))))
def fX10_tree (φ : Nat) (t : Nat) (a1 : Int32) (a2 : Int32) (M : Mem) : Option (Int32 × Mem) :=
  (fX10_isWithin a2 (0 : Int32) (2 : Int32) M).bind fun v1 =>
 if v1 = 0 then
 bd (fX10_refuse t (1 : Int32) M) fun v15 M16 =>
 some (v15, M16)
 else
 (ldr 2 (M.2.2 t 7)).bind fun vr2 =>
 bd (fX0_refresh φ (t + 57) vr2 M) fun vu3 M4 =>
 if a1 < 0 then
 bd (fX10_refuse t (6 : Int32) M4) fun v5 M6 =>
 some (v5, M6)
 else
 if a1 < (M4.1 (t + 57) 2) then
 if a2 = (2 : Int32) then
 ixk a1 6 (
 bd (fX10_answer t (M4.1 ((t + 57) + 6) a1.toNatClampNeg) M4) fun v11 M12 =>
 some (v11, M12))
 else
 if a2 = 0 then
 ixk a1 6 (
 bd (fX10_answer t (M4.1 ((t + 57) + 4) a1.toNatClampNeg) M4) fun v9 M10 =>
 some (v9, M10))
 else
 ixk a1 6 (
 bd (fX10_answer t (M4.1 ((t + 57) + 5) a1.toNatClampNeg) M4) fun v7 M8 =>
 some (v7, M8))
 else
 bd (fX10_refuse t (6 : Int32) M4) fun v13 M14 =>
 some (v13, M14)
set_option maxRecDepth 100000 in
set_option maxHeartbeats 4000000 in
theorem kX10_tree (φ : Nat) (t : Nat) (a1 : Int32) (a2 : Int32) (M : Mem) (ht : isO 10 t) (l : Launch) (G : GT) {b : (Int32 × Mem)} (hE : fX10_tree φ t a1 a2 M = some b) : Ok l G yX10_tree cX10_tree 3 (some .int) 5 130 [.ref t, .int a1, .int a2] M ((fun q : Int32 × Mem => (some (Value.int q.1), q.2)) b).1 ((fun q : Int32 × Mem => (some (Value.int q.1), q.2)) b).2 := by
  refine Ok.ofX (pj := (fun q : Int32 × Mem => (some (Value.int q.1), q.2))) (by decide) (Nat.le_of_ble_eq_true rfl) hE (fun J g hr hG hl hR hn => ?_)
  show X J (fun q : Int32 × Mem => (some (Value.int q.1), q.2)) (fX10_tree φ t a1 a2 M) 0 [(0, .ref t), (1, .int a1), (2, .int a2)] [] M
  unfold fX10_tree
  exact (x_iload_n g 2 dX10_tree_0 rfl rfl
 (x_iconst g dX10_tree_1 kI_0
 (x_iconst g dX10_tree_2 kI_2
 (x_callSip (As := [.int a2, .int (0 : Int32), .int (2 : Int32)]) g mv_X10_isWithin ms_X10_isWithin lk_RX10_114 (fun b hb => kX10_isWithin a2 (0 : Int32) (2 : Int32) M _ _ hb) rfl rfl hR ⟨Nat.le_of_ble_eq_true rfl, Nat.le_of_ble_eq_true rfl⟩ (Nat.le_of_ble_eq_true rfl) dX10_tree_3 (fun v1 =>
 (x_if_ne g 15 dX10_tree_6 rfl
 (fun _ => (x_aload_n g 0 dX10_tree_15 rfl rfl
 (x_getS g 57 fl_RX10_88 rfl ht dX10_tree_16
 (x_aload_n g 0 dX10_tree_19 rfl rfl
 (x_getD g fl_RX10_50 rfl ht dX10_tree_20 (fun vr2 hvr2 =>
 (x_callVv (As := [.ref vr2]) g mv_X0_refresh mi_X0_refresh lk_RX10_287 (so_10_15 ht) (fun b Mh_ hb => kX0_refresh φ (t + 57) vr2 M (so_10_15 ht) hvr2 _ _ hb) rfl rfl hR ⟨Nat.le_of_ble_eq_true rfl, Nat.le_of_ble_eq_true rfl⟩ (Nat.le_of_ble_eq_true rfl) dX10_tree_23 (fun vu3 M4 =>
 (x_iload_n g 1 dX10_tree_26 rfl rfl
 (x_if_lt g 41 dX10_tree_27 rfl
 (fun _ => (x_aload_n g 0 dX10_tree_41 rfl rfl
 (x_bipush g dX10_tree_42 kB_6
 (x_callVi (As := [.int (6 : Int32)]) g mv_X10_refuse mi_X10_refuse lk_RX10_137 ht (fun b Mh_ hb => kX10_refuse t (6 : Int32) M4 ht _ _ hb) rfl rfl hR ⟨Nat.le_of_ble_eq_true rfl, Nat.le_of_ble_eq_true rfl⟩ (Nat.le_of_ble_eq_true rfl) dX10_tree_44 (fun v5 M6 =>
 (x_iret g hr rfl rfl dX10_tree_47))))))
 (fun _ => (x_iload_n g 1 dX10_tree_30 rfl rfl
 (x_aload_n g 0 dX10_tree_31 rfl rfl
 (x_getS g 57 fl_RX10_88 rfl ht dX10_tree_32
 (x_getI g fl_RX10_291 rfl (so_10_15 ht) dX10_tree_35
 (x_icmp_lt g 48 dX10_tree_38 rfl
 (fun _ => (x_iload_n g 2 dX10_tree_48 rfl rfl
 (x_iconst g dX10_tree_49 kI_2
 (x_icmp_ne g 67 dX10_tree_50 rfl
 (fun _ => (x_aload_n g 0 dX10_tree_67 rfl rfl
 (x_iload_n g 2 dX10_tree_68 rfl rfl
 (x_if_ne g 84 dX10_tree_69 rfl
 (fun _ => (x_aload_n g 0 dX10_tree_84 rfl rfl
 (x_getS g 57 fl_RX10_88 rfl ht dX10_tree_85
 (x_getS g 5 fl_RX10_300 rfl (so_10_15 ht) dX10_tree_88
 (x_iload_n g 1 dX10_tree_91 rfl rfl
 (x_iald g (so_0_4 (so_10_15 ht)) dX10_tree_92
 (x_callVi (As := [.int (M4.1 ((t + 57) + 5) a1.toNatClampNeg)]) g mv_X10_answer mi_X10_answer lk_RX10_187 ht (fun b Mh_ hb => kX10_answer t (M4.1 ((t + 57) + 5) a1.toNatClampNeg) M4 ht _ _ hb) rfl rfl hR ⟨Nat.le_of_ble_eq_true rfl, Nat.le_of_ble_eq_true rfl⟩ (Nat.le_of_ble_eq_true rfl) dX10_tree_93 (fun v7 M8 =>
 (x_iret g hr rfl rfl dX10_tree_96)))))))))
 (fun _ => (x_aload_n g 0 dX10_tree_72 rfl rfl
 (x_getS g 57 fl_RX10_88 rfl ht dX10_tree_73
 (x_getS g 4 fl_RX10_297 rfl (so_10_15 ht) dX10_tree_76
 (x_iload_n g 1 dX10_tree_79 rfl rfl
 (x_iald g (so_0_3 (so_10_15 ht)) dX10_tree_80
 (x_goto g 93 dX10_tree_81 rfl
 (x_callVi (As := [.int (M4.1 ((t + 57) + 4) a1.toNatClampNeg)]) g mv_X10_answer mi_X10_answer lk_RX10_187 ht (fun b Mh_ hb => kX10_answer t (M4.1 ((t + 57) + 4) a1.toNatClampNeg) M4 ht _ _ hb) rfl rfl hR ⟨Nat.le_of_ble_eq_true rfl, Nat.le_of_ble_eq_true rfl⟩ (Nat.le_of_ble_eq_true rfl) dX10_tree_93 (fun v9 M10 =>
 (x_iret g hr rfl rfl dX10_tree_96))))))))))))))
 (fun _ => (x_aload_n g 0 dX10_tree_53 rfl rfl
 (x_aload_n g 0 dX10_tree_54 rfl rfl
 (x_getS g 57 fl_RX10_88 rfl ht dX10_tree_55
 (x_getS g 6 fl_RX10_294 rfl (so_10_15 ht) dX10_tree_58
 (x_iload_n g 1 dX10_tree_61 rfl rfl
 (x_iald g (so_0_5 (so_10_15 ht)) dX10_tree_62
 (x_callVi (As := [.int (M4.1 ((t + 57) + 6) a1.toNatClampNeg)]) g mv_X10_answer mi_X10_answer lk_RX10_187 ht (fun b Mh_ hb => kX10_answer t (M4.1 ((t + 57) + 6) a1.toNatClampNeg) M4 ht _ _ hb) rfl rfl hR ⟨Nat.le_of_ble_eq_true rfl, Nat.le_of_ble_eq_true rfl⟩ (Nat.le_of_ble_eq_true rfl) dX10_tree_63 (fun v11 M12 =>
 (x_iret g hr rfl rfl dX10_tree_66))))))))))))))
 (fun _ => (x_aload_n g 0 dX10_tree_41 rfl rfl
 (x_bipush g dX10_tree_42 kB_6
 (x_callVi (As := [.int (6 : Int32)]) g mv_X10_refuse mi_X10_refuse lk_RX10_137 ht (fun b Mh_ hb => kX10_refuse t (6 : Int32) M4 ht _ _ hb) rfl rfl hR ⟨Nat.le_of_ble_eq_true rfl, Nat.le_of_ble_eq_true rfl⟩ (Nat.le_of_ble_eq_true rfl) dX10_tree_44 (fun v13 M14 =>
 (x_iret g hr rfl rfl dX10_tree_47))))))))))))))))))))))
 (fun _ => (x_aload_n g 0 dX10_tree_9 rfl rfl
 (x_iconst g dX10_tree_10 kI_1
 (x_callVi (As := [.int (1 : Int32)]) g mv_X10_refuse mi_X10_refuse lk_RX10_137 ht (fun b Mh_ hb => kX10_refuse t (1 : Int32) M ht _ _ hb) rfl rfl hR ⟨Nat.le_of_ble_eq_true rfl, Nat.le_of_ble_eq_true rfl⟩ (Nat.le_of_ble_eq_true rfl) dX10_tree_11 (fun v15 M16 =>
 (x_iret g hr rfl rfl dX10_tree_14))))))))))))
def fX10_treeCost (φ : Nat) (t : Nat) (M : Mem) : Option (Int32 × Mem) :=
  (ldr 2 (M.2.2 t 7)).bind fun vr1 =>
 bd (fX0_refresh φ (t + 57) vr1 M) fun vu2 M3 =>
 bd (fX10_answer t (M3.1 (t + 57) 6) M3) fun v4 M5 =>
 some (v4, M5)
set_option maxRecDepth 100000 in
set_option maxHeartbeats 4000000 in
theorem kX10_treeCost (φ : Nat) (t : Nat) (M : Mem) (ht : isO 10 t) (l : Launch) (G : GT) {b : (Int32 × Mem)} (hE : fX10_treeCost φ t M = some b) : Ok l G yX10_treeCost cX10_treeCost 1 (some .int) 5 130 [.ref t] M ((fun q : Int32 × Mem => (some (Value.int q.1), q.2)) b).1 ((fun q : Int32 × Mem => (some (Value.int q.1), q.2)) b).2 := by
  refine Ok.ofX (pj := (fun q : Int32 × Mem => (some (Value.int q.1), q.2))) (by decide) (Nat.le_of_ble_eq_true rfl) hE (fun J g hr hG hl hR hn => ?_)
  show X J (fun q : Int32 × Mem => (some (Value.int q.1), q.2)) (fX10_treeCost φ t M) 0 [(0, .ref t)] [] M
  unfold fX10_treeCost
  exact (x_aload_n g 0 dX10_treeCost_0 rfl rfl
 (x_getS g 57 fl_RX10_88 rfl ht dX10_treeCost_1
 (x_aload_n g 0 dX10_treeCost_4 rfl rfl
 (x_getD g fl_RX10_50 rfl ht dX10_treeCost_5 (fun vr1 hvr1 =>
 (x_callVv (As := [.ref vr1]) g mv_X0_refresh mi_X0_refresh lk_RX10_287 (so_10_15 ht) (fun b Mh_ hb => kX0_refresh φ (t + 57) vr1 M (so_10_15 ht) hvr1 _ _ hb) rfl rfl hR ⟨Nat.le_of_ble_eq_true rfl, Nat.le_of_ble_eq_true rfl⟩ (Nat.le_of_ble_eq_true rfl) dX10_treeCost_8 (fun vu2 M3 =>
 (x_aload_n g 0 dX10_treeCost_11 rfl rfl
 (x_aload_n g 0 dX10_treeCost_12 rfl rfl
 (x_getS g 57 fl_RX10_88 rfl ht dX10_treeCost_13
 (x_getI g fl_RX10_303 rfl (so_10_15 ht) dX10_treeCost_16
 (x_callVi (As := [.int (M3.1 (t + 57) 6)]) g mv_X10_answer mi_X10_answer lk_RX10_187 ht (fun b Mh_ hb => kX10_answer t (M3.1 (t + 57) 6) M3 ht _ _ hb) rfl rfl hR ⟨Nat.le_of_ble_eq_true rfl, Nat.le_of_ble_eq_true rfl⟩ (Nat.le_of_ble_eq_true rfl) dX10_treeCost_19 (fun v4 M5 =>
 (x_iret g hr rfl rfl dX10_treeCost_22))))))))))))))
def fX10_beds (φ : Nat) (t : Nat) (M : Mem) : Option (Int32 × Mem) :=
  (ldr 2 (M.2.2 t 7)).bind fun vr1 =>
 bd (fX0_refresh φ (t + 57) vr1 M) fun vu2 M3 =>
 bd (fX10_answer t (M3.1 (t + 57) 7) M3) fun v4 M5 =>
 some (v4, M5)
set_option maxRecDepth 100000 in
set_option maxHeartbeats 4000000 in
theorem kX10_beds (φ : Nat) (t : Nat) (M : Mem) (ht : isO 10 t) (l : Launch) (G : GT) {b : (Int32 × Mem)} (hE : fX10_beds φ t M = some b) : Ok l G yX10_beds cX10_beds 1 (some .int) 5 130 [.ref t] M ((fun q : Int32 × Mem => (some (Value.int q.1), q.2)) b).1 ((fun q : Int32 × Mem => (some (Value.int q.1), q.2)) b).2 := by
  refine Ok.ofX (pj := (fun q : Int32 × Mem => (some (Value.int q.1), q.2))) (by decide) (Nat.le_of_ble_eq_true rfl) hE (fun J g hr hG hl hR hn => ?_)
  show X J (fun q : Int32 × Mem => (some (Value.int q.1), q.2)) (fX10_beds φ t M) 0 [(0, .ref t)] [] M
  unfold fX10_beds
  exact (x_aload_n g 0 dX10_beds_0 rfl rfl
 (x_getS g 57 fl_RX10_88 rfl ht dX10_beds_1
 (x_aload_n g 0 dX10_beds_4 rfl rfl
 (x_getD g fl_RX10_50 rfl ht dX10_beds_5 (fun vr1 hvr1 =>
 (x_callVv (As := [.ref vr1]) g mv_X0_refresh mi_X0_refresh lk_RX10_287 (so_10_15 ht) (fun b Mh_ hb => kX0_refresh φ (t + 57) vr1 M (so_10_15 ht) hvr1 _ _ hb) rfl rfl hR ⟨Nat.le_of_ble_eq_true rfl, Nat.le_of_ble_eq_true rfl⟩ (Nat.le_of_ble_eq_true rfl) dX10_beds_8 (fun vu2 M3 =>
 (x_aload_n g 0 dX10_beds_11 rfl rfl
 (x_aload_n g 0 dX10_beds_12 rfl rfl
 (x_getS g 57 fl_RX10_88 rfl ht dX10_beds_13
 (x_getI g fl_RX10_306 rfl (so_10_15 ht) dX10_beds_16
 (x_callVi (As := [.int (M3.1 (t + 57) 7)]) g mv_X10_answer mi_X10_answer lk_RX10_187 ht (fun b Mh_ hb => kX10_answer t (M3.1 (t + 57) 7) M3 ht _ _ hb) rfl rfl hR ⟨Nat.le_of_ble_eq_true rfl, Nat.le_of_ble_eq_true rfl⟩ (Nat.le_of_ble_eq_true rfl) dX10_beds_19 (fun v4 M5 =>
 (x_iret g hr rfl rfl dX10_beds_22))))))))))))))
def fX10_bedOf (φ : Nat) (t : Nat) (a1 : Int32) (a2 : Int32) (M : Mem) : Option (Int32 × Mem) :=
  (ldr 2 (M.2.2 t 7)).bind fun vr1 =>
 (fX2_isLayer vr1 a1 a2 M).bind fun v2 =>
 if v2 = 0 then
 bd (fX10_refuse t (1 : Int32) M) fun v9 M10 =>
 some (v9, M10)
 else
 (ldr 2 (M.2.2 t 7)).bind fun vr3 =>
 bd (fX0_refresh φ (t + 57) vr3 M) fun vu4 M5 =>
 (fX10_slot a1 a2 M5).bind fun v6 =>
 ixk v6 72 (
 bd (fX10_answer t (M5.1 ((t + 57) + 9) v6.toNatClampNeg) M5) fun v7 M8 =>
 some (v7, M8))
set_option maxRecDepth 100000 in
set_option maxHeartbeats 4000000 in
theorem kX10_bedOf (φ : Nat) (t : Nat) (a1 : Int32) (a2 : Int32) (M : Mem) (ht : isO 10 t) (l : Launch) (G : GT) {b : (Int32 × Mem)} (hE : fX10_bedOf φ t a1 a2 M = some b) : Ok l G yX10_bedOf cX10_bedOf 3 (some .int) 5 130 [.ref t, .int a1, .int a2] M ((fun q : Int32 × Mem => (some (Value.int q.1), q.2)) b).1 ((fun q : Int32 × Mem => (some (Value.int q.1), q.2)) b).2 := by
  refine Ok.ofX (pj := (fun q : Int32 × Mem => (some (Value.int q.1), q.2))) (by decide) (Nat.le_of_ble_eq_true rfl) hE (fun J g hr hG hl hR hn => ?_)
  show X J (fun q : Int32 × Mem => (some (Value.int q.1), q.2)) (fX10_bedOf φ t a1 a2 M) 0 [(0, .ref t), (1, .int a1), (2, .int a2)] [] M
  unfold fX10_bedOf
  exact (x_aload_n g 0 dX10_bedOf_0 rfl rfl
 (x_getD g fl_RX10_50 rfl ht dX10_bedOf_1 (fun vr1 hvr1 =>
 (x_iload_n g 1 dX10_bedOf_4 rfl rfl
 (x_iload_n g 2 dX10_bedOf_5 rfl rfl
 (x_callVip (As := [.int a1, .int a2]) g mv_X2_isLayer mi_X2_isLayer lk_RX10_243 hvr1 (fun b hb => kX2_isLayer vr1 a1 a2 M hvr1 _ _ hb) rfl rfl hR ⟨Nat.le_of_ble_eq_true rfl, Nat.le_of_ble_eq_true rfl⟩ (Nat.le_of_ble_eq_true rfl) dX10_bedOf_6 (fun v2 =>
 (x_if_ne g 18 dX10_bedOf_9 rfl
 (fun _ => (x_aload_n g 0 dX10_bedOf_18 rfl rfl
 (x_getS g 57 fl_RX10_88 rfl ht dX10_bedOf_19
 (x_aload_n g 0 dX10_bedOf_22 rfl rfl
 (x_getD g fl_RX10_50 rfl ht dX10_bedOf_23 (fun vr3 hvr3 =>
 (x_callVv (As := [.ref vr3]) g mv_X0_refresh mi_X0_refresh lk_RX10_287 (so_10_15 ht) (fun b Mh_ hb => kX0_refresh φ (t + 57) vr3 M (so_10_15 ht) hvr3 _ _ hb) rfl rfl hR ⟨Nat.le_of_ble_eq_true rfl, Nat.le_of_ble_eq_true rfl⟩ (Nat.le_of_ble_eq_true rfl) dX10_bedOf_26 (fun vu4 M5 =>
 (x_aload_n g 0 dX10_bedOf_29 rfl rfl
 (x_aload_n g 0 dX10_bedOf_30 rfl rfl
 (x_getS g 57 fl_RX10_88 rfl ht dX10_bedOf_31
 (x_getS g 9 fl_RX10_309 rfl (so_10_15 ht) dX10_bedOf_34
 (x_iload_n g 1 dX10_bedOf_37 rfl rfl
 (x_iload_n g 2 dX10_bedOf_38 rfl rfl
 (x_callSip (As := [.int a1, .int a2]) g mv_X10_slot ms_X10_slot lk_RX10_249 (fun b hb => kX10_slot a1 a2 M5 _ _ hb) rfl rfl hR ⟨Nat.le_of_ble_eq_true rfl, Nat.le_of_ble_eq_true rfl⟩ (Nat.le_of_ble_eq_true rfl) dX10_bedOf_39 (fun v6 =>
 (x_iald g (so_0_10 (so_10_15 ht)) dX10_bedOf_42
 (x_callVi (As := [.int (M5.1 ((t + 57) + 9) v6.toNatClampNeg)]) g mv_X10_answer mi_X10_answer lk_RX10_187 ht (fun b Mh_ hb => kX10_answer t (M5.1 ((t + 57) + 9) v6.toNatClampNeg) M5 ht _ _ hb) rfl rfl hR ⟨Nat.le_of_ble_eq_true rfl, Nat.le_of_ble_eq_true rfl⟩ (Nat.le_of_ble_eq_true rfl) dX10_bedOf_43 (fun v7 M8 =>
 (x_iret g hr rfl rfl dX10_bedOf_46))))))))))))))))))))
 (fun _ => (x_aload_n g 0 dX10_bedOf_12 rfl rfl
 (x_iconst g dX10_bedOf_13 kI_1
 (x_callVi (As := [.int (1 : Int32)]) g mv_X10_refuse mi_X10_refuse lk_RX10_137 ht (fun b Mh_ hb => kX10_refuse t (1 : Int32) M ht _ _ hb) rfl rfl hR ⟨Nat.le_of_ble_eq_true rfl, Nat.le_of_ble_eq_true rfl⟩ (Nat.le_of_ble_eq_true rfl) dX10_bedOf_14 (fun v9 M10 =>
 (x_iret g hr rfl rfl dX10_bedOf_17))))))))))))))
def fX10_isBed (φ : Nat) (t : Nat) (a1 : Int32) (M : Mem) : Option (Int32 × Mem) :=
  (ldr 2 (M.2.2 t 7)).bind fun vr1 =>
 bd (fX0_refresh φ (t + 57) vr1 M) fun vu2 M3 =>
 if a1 < 0 then
 some ((0 : Int32), M3)
 else
 if (M3.1 (t + 57) 7) ≤ a1 then
 some ((0 : Int32), M3)
 else
 some ((1 : Int32), M3)
set_option maxRecDepth 100000 in
set_option maxHeartbeats 4000000 in
theorem kX10_isBed (φ : Nat) (t : Nat) (a1 : Int32) (M : Mem) (ht : isO 10 t) (l : Launch) (G : GT) {b : (Int32 × Mem)} (hE : fX10_isBed φ t a1 M = some b) : Ok l G yX10_isBed cX10_isBed 2 (some .boolean) 5 130 [.ref t, .int a1] M ((fun q : Int32 × Mem => (some (Value.int q.1), q.2)) b).1 ((fun q : Int32 × Mem => (some (Value.int q.1), q.2)) b).2 := by
  refine Ok.ofX (pj := (fun q : Int32 × Mem => (some (Value.int q.1), q.2))) (by decide) (Nat.le_of_ble_eq_true rfl) hE (fun J g hr hG hl hR hn => ?_)
  show X J (fun q : Int32 × Mem => (some (Value.int q.1), q.2)) (fX10_isBed φ t a1 M) 0 [(0, .ref t), (1, .int a1)] [] M
  unfold fX10_isBed
  exact (x_aload_n g 0 dX10_isBed_0 rfl rfl
 (x_getS g 57 fl_RX10_88 rfl ht dX10_isBed_1
 (x_aload_n g 0 dX10_isBed_4 rfl rfl
 (x_getD g fl_RX10_50 rfl ht dX10_isBed_5 (fun vr1 hvr1 =>
 (x_callVv (As := [.ref vr1]) g mv_X0_refresh mi_X0_refresh lk_RX10_287 (so_10_15 ht) (fun b Mh_ hb => kX0_refresh φ (t + 57) vr1 M (so_10_15 ht) hvr1 _ _ hb) rfl rfl hR ⟨Nat.le_of_ble_eq_true rfl, Nat.le_of_ble_eq_true rfl⟩ (Nat.le_of_ble_eq_true rfl) dX10_isBed_8 (fun vu2 M3 =>
 (x_iload_n g 1 dX10_isBed_11 rfl rfl
 (x_if_lt g 30 dX10_isBed_12 rfl
 (fun _ => (x_iconst g dX10_isBed_30 kI_0
 (x_iret g hr rfl rfl dX10_isBed_31)))
 (fun _ => (x_iload_n g 1 dX10_isBed_15 rfl rfl
 (x_aload_n g 0 dX10_isBed_16 rfl rfl
 (x_getS g 57 fl_RX10_88 rfl ht dX10_isBed_17
 (x_getI g fl_RX10_306 rfl (so_10_15 ht) dX10_isBed_20
 (x_icmp_ge g 30 dX10_isBed_23 rfl
 (fun _ => (x_iconst g dX10_isBed_30 kI_0
 (x_iret g hr rfl rfl dX10_isBed_31)))
 (fun _ => (x_iconst g dX10_isBed_26 kI_1
 (x_goto g 31 dX10_isBed_27 rfl
 (x_iret g hr rfl rfl dX10_isBed_31)))))))))))))))))))
def fX0_layerIn (t : Nat) (a1 : Int32) (a2 : Int32) (M : Mem) : Option Int32 :=
  ixk ((a1 * (6 : Int32)) + a2) 432 (
 some (M.1 (t + 11) ((a1 * (6 : Int32)) + a2).toNatClampNeg))
set_option maxRecDepth 100000 in
set_option maxHeartbeats 4000000 in
theorem kX0_layerIn (t : Nat) (a1 : Int32) (a2 : Int32) (M : Mem) (ht : isO 0 t) (l : Launch) (G : GT) {b : Int32} (hE : fX0_layerIn t a1 a2 M = some b) : Ok l G yX0_layerIn cX0_layerIn 3 (some .int) 0 0 [.ref t, .int a1, .int a2] M ((fun b : Int32 => (some (Value.int b), M)) b).1 ((fun b : Int32 => (some (Value.int b), M)) b).2 := by
  refine Ok.ofX (pj := (fun b : Int32 => (some (Value.int b), M))) (by decide) (Nat.le_of_ble_eq_true rfl) hE (fun J g hr hG hl hR hn => ?_)
  show X J (fun b : Int32 => (some (Value.int b), M)) (fX0_layerIn t a1 a2 M) 0 [(0, .ref t), (1, .int a1), (2, .int a2)] [] M
  unfold fX0_layerIn
  exact (x_aload_n g 0 dX0_layerIn_0 rfl rfl
 (x_getS g 11 fl_RX0_54 rfl ht dX0_layerIn_1
 (x_iload_n g 1 dX0_layerIn_4 rfl rfl
 (x_bipush g dX0_layerIn_5 kB_6
 (x_imul g dX0_layerIn_7
 (x_iload_n g 2 dX0_layerIn_8 rfl rfl
 (x_iadd g dX0_layerIn_9
 (x_iald g (so_0_12 ht) dX0_layerIn_10
 (x_iret g hr rfl rfl dX0_layerIn_11)))))))))
def lX0_setOfHoles_4 (t : Nat) (x1 : Int32) (M : Mem) : Nat → Int32 → Int32 → Option Int32
  | 0, _, _ => none
  | n + 1, x2, x3 =>
    if (6 : Int32) ≤ x3 then
 some x2
 else
 (fX0_layerIn t x1 x3 M).bind fun v1 =>
 jn (fun (v2 : Int32) => lX0_setOfHoles_4 t x1 M n v2 (x3 + 1)) (fun J3 => if v1 = (-1 : Int32) then
 J3 x2
 else
 nm (x2 ||| ((1 : Int32) <<< (x3 &&& 31))) (fun v4 =>
 J3 v4))
theorem lX0_setOfHoles_4_s (t : Nat) (x1 : Int32) (M : Mem) (n : Nat) (x2 : Int32) (x3 : Int32) : lX0_setOfHoles_4 t x1 M (n + 1) x2 x3 =
    if (6 : Int32) ≤ x3 then
 some x2
 else
 (fX0_layerIn t x1 x3 M).bind fun v1 =>
 jn (fun (v2 : Int32) => lX0_setOfHoles_4 t x1 M n v2 (x3 + 1)) (fun J3 => if v1 = (-1 : Int32) then
 J3 x2
 else
 nm (x2 ||| ((1 : Int32) <<< (x3 &&& 31))) (fun v4 =>
 J3 v4)) := rfl
theorem lX0_setOfHoles_4_0 (t : Nat) (x1 : Int32) (M : Mem) (x2 : Int32) (x3 : Int32) : lX0_setOfHoles_4 t x1 M 0 x2 x3 = none := rfl
set_option maxRecDepth 100000 in
set_option maxHeartbeats 4000000 in
theorem wlX0_setOfHoles_4 {J : JT} (g : Gd J cX0_setOfHoles RX0) (hr : Rt J (some .int)) (hR : (JR J).frames = 1 ∧ (JR J).locals = 22) (hn : Jn J = 4) (t : Nat) (x1 : Int32) (M : Mem) (ht : isO 0 t) : ∀ (n : Nat) (x2 : Int32) (x3 : Int32), X J (fun b : Int32 => (some (Value.int b), M)) (lX0_setOfHoles_4 t x1 M n x2 x3) 4 [(0, .ref t), (1, .int x1), (2, .int x2), (3, .int x3)] [] M := by
  intro n
  induction n with
  | zero =>
    intro x2 x3
    exact x_none
  | succ n ih =>
    intro x2 x3
    rw [lX0_setOfHoles_4_s]
    exact (x_iload_n g 3 dX0_setOfHoles_4 rfl rfl
 (x_bipush g dX0_setOfHoles_5 kB_6
 (x_icmp_ge g 32 dX0_setOfHoles_7 rfl
 (fun _ => (x_iload_n g 2 dX0_setOfHoles_32 rfl rfl
 (x_iret g hr rfl rfl dX0_setOfHoles_33)))
 (fun _ => (x_aload_n g 0 dX0_setOfHoles_10 rfl rfl
 (x_iload_n g 1 dX0_setOfHoles_11 rfl rfl
 (x_iload_n g 3 dX0_setOfHoles_12 rfl rfl
 (x_callVip (As := [.int x1, .int x3]) g mv_X0_layerIn mi_X0_layerIn lk_RX0_121 ht (fun b hb => kX0_layerIn t x1 x3 M ht _ _ hb) rfl rfl hR ⟨Nat.le_of_ble_eq_true rfl, Nat.le_of_ble_eq_true rfl⟩ (Nat.le_of_ble_eq_true rfl) dX0_setOfHoles_13 (fun v1 =>
 (x_iconst g dX0_setOfHoles_16 kI_m1
 (x_jn (fun (J3 : Int32 → Option Int32) => ∀ (v2 : Int32), X J (fun b : Int32 => (some (Value.int b), M)) (J3 v2) 26 [(0, .ref t), (1, .int x1), (2, .int v2), (3, .int x3)] [] M) (fun v2 => (x_iinc (L' := [(3, .int (x3 + 1)), (0, .ref t), (1, .int x1), (2, .int v2)]) (v := (x3 + 1)) g 3 dX0_setOfHoles_26 rfl (by rw [kI_1]) hn (Nat.le_of_ble_eq_true rfl) rfl
 (x_goto g 4 dX0_setOfHoles_29 rfl
 (x_sub [1, 2, 3, 0] rfl (ih v2 (x3 + 1)))))) (fun J3 hJ3 => (x_icmp_eq g 26 dX0_setOfHoles_17 rfl
 (fun _ => (hJ3 x2))
 (fun _ => (x_iload_n g 2 dX0_setOfHoles_20 rfl rfl
 (x_iconst g dX0_setOfHoles_21 kI_1
 (x_iload_n g 3 dX0_setOfHoles_22 rfl rfl
 (x_ishl g dX0_setOfHoles_23
 (x_ior g dX0_setOfHoles_24
 (x_nmI (fun v4 => (x_istore_n (L' := [(2, .int v4), (0, .ref t), (1, .int x1), (3, .int x3)]) g dX0_setOfHoles_25 rfl hn (Nat.le_of_ble_eq_true rfl) rfl
 (x_sub [1, 2, 0, 3] rfl (hJ3 v4))))))))))))))))))))))))
def fX0_setOfHoles (φ : Nat) (t : Nat) (a1 : Int32) (M : Mem) : Option Int32 :=
  lX0_setOfHoles_4 t a1 M φ (0 : Int32) (0 : Int32)
set_option maxRecDepth 100000 in
set_option maxHeartbeats 4000000 in
theorem kX0_setOfHoles (φ : Nat) (t : Nat) (a1 : Int32) (M : Mem) (ht : isO 0 t) (l : Launch) (G : GT) {b : Int32} (hE : fX0_setOfHoles φ t a1 M = some b) : Ok l G yX0_setOfHoles cX0_setOfHoles 4 (some .int) 1 22 [.ref t, .int a1] M ((fun b : Int32 => (some (Value.int b), M)) b).1 ((fun b : Int32 => (some (Value.int b), M)) b).2 := by
  refine Ok.ofX (pj := (fun b : Int32 => (some (Value.int b), M))) (by decide) (Nat.le_of_ble_eq_true rfl) hE (fun J g hr hG hl hR hn => ?_)
  show X J (fun b : Int32 => (some (Value.int b), M)) (fX0_setOfHoles φ t a1 M) 0 [(0, .ref t), (1, .int a1)] [] M
  unfold fX0_setOfHoles
  exact (x_iconst g dX0_setOfHoles_0 kI_0
 (x_istore_n (L' := [(2, .int (0 : Int32)), (0, .ref t), (1, .int a1)]) g dX0_setOfHoles_1 rfl hn (Nat.le_of_ble_eq_true rfl) rfl
 (x_iconst g dX0_setOfHoles_2 kI_0
 (x_istore_n (L' := [(3, .int (0 : Int32)), (2, .int (0 : Int32)), (0, .ref t), (1, .int a1)]) g dX0_setOfHoles_3 rfl hn (Nat.le_of_ble_eq_true rfl) rfl
 (x_sub [2, 3, 1, 0] rfl (wlX0_setOfHoles_4 g hr hR hn  t a1 M ht φ (0 : Int32) (0 : Int32)))))))
def fX10_holesOf (φ : Nat) (t : Nat) (a1 : Int32) (M : Mem) : Option (Int32 × Mem) :=
  bd (fX10_isBed φ t a1 M) fun v1 M2 =>
 if v1 = 0 then
 bd (fX10_refuse t (1 : Int32) M2) fun v6 M7 =>
 some (v6, M7)
 else
 (fX0_setOfHoles φ (t + 57) a1 M2).bind fun v3 =>
 bd (fX10_answer t v3 M2) fun v4 M5 =>
 some (v4, M5)
set_option maxRecDepth 100000 in
set_option maxHeartbeats 4000000 in
theorem kX10_holesOf (φ : Nat) (t : Nat) (a1 : Int32) (M : Mem) (ht : isO 10 t) (l : Launch) (G : GT) {b : (Int32 × Mem)} (hE : fX10_holesOf φ t a1 M = some b) : Ok l G yX10_holesOf cX10_holesOf 2 (some .int) 6 151 [.ref t, .int a1] M ((fun q : Int32 × Mem => (some (Value.int q.1), q.2)) b).1 ((fun q : Int32 × Mem => (some (Value.int q.1), q.2)) b).2 := by
  refine Ok.ofX (pj := (fun q : Int32 × Mem => (some (Value.int q.1), q.2))) (by decide) (Nat.le_of_ble_eq_true rfl) hE (fun J g hr hG hl hR hn => ?_)
  show X J (fun q : Int32 × Mem => (some (Value.int q.1), q.2)) (fX10_holesOf φ t a1 M) 0 [(0, .ref t), (1, .int a1)] [] M
  unfold fX10_holesOf
  exact (x_aload_n g 0 dX10_holesOf_0 rfl rfl
 (x_iload_n g 1 dX10_holesOf_1 rfl rfl
 (x_callVi (As := [.int a1]) g mv_X10_isBed mi_X10_isBed lk_RX10_312 ht (fun b Mh_ hb => kX10_isBed φ t a1 M ht _ _ hb) rfl rfl hR ⟨Nat.le_of_ble_eq_true rfl, Nat.le_of_ble_eq_true rfl⟩ (Nat.le_of_ble_eq_true rfl) dX10_holesOf_2 (fun v1 M2 =>
 (x_if_ne g 14 dX10_holesOf_5 rfl
 (fun _ => (x_aload_n g 0 dX10_holesOf_14 rfl rfl
 (x_aload_n g 0 dX10_holesOf_15 rfl rfl
 (x_getS g 57 fl_RX10_88 rfl ht dX10_holesOf_16
 (x_iload_n g 1 dX10_holesOf_19 rfl rfl
 (x_callVip (As := [.int a1]) g mv_X0_setOfHoles mi_X0_setOfHoles lk_RX10_315 (so_10_15 ht) (fun b hb => kX0_setOfHoles φ (t + 57) a1 M2 (so_10_15 ht) _ _ hb) rfl rfl hR ⟨Nat.le_of_ble_eq_true rfl, Nat.le_of_ble_eq_true rfl⟩ (Nat.le_of_ble_eq_true rfl) dX10_holesOf_20 (fun v3 =>
 (x_callVi (As := [.int v3]) g mv_X10_answer mi_X10_answer lk_RX10_187 ht (fun b Mh_ hb => kX10_answer t v3 M2 ht _ _ hb) rfl rfl hR ⟨Nat.le_of_ble_eq_true rfl, Nat.le_of_ble_eq_true rfl⟩ (Nat.le_of_ble_eq_true rfl) dX10_holesOf_23 (fun v4 M5 =>
 (x_iret g hr rfl rfl dX10_holesOf_26))))))))))
 (fun _ => (x_aload_n g 0 dX10_holesOf_8 rfl rfl
 (x_iconst g dX10_holesOf_9 kI_1
 (x_callVi (As := [.int (1 : Int32)]) g mv_X10_refuse mi_X10_refuse lk_RX10_137 ht (fun b Mh_ hb => kX10_refuse t (1 : Int32) M2 ht _ _ hb) rfl rfl hR ⟨Nat.le_of_ble_eq_true rfl, Nat.le_of_ble_eq_true rfl⟩ (Nat.le_of_ble_eq_true rfl) dX10_holesOf_10 (fun v6 M7 =>
 (x_iret g hr rfl rfl dX10_holesOf_13)))))))))))
def fX10_bed (φ : Nat) (t : Nat) (a1 : Int32) (a2 : Int32) (a3 : Int32) (M : Mem) : Option (Int32 × Mem) :=
  bd (fX10_isBed φ t a1 M) fun v1 M2 =>
 if v1 = 0 then
 bd (fX10_refuse t (1 : Int32) M2) fun v3 M4 =>
 some (v3, M4)
 else
 (ldr 2 (M2.2.2 t 7)).bind fun vr5 =>
 (fX2_isHole vr5 a2 M2).bind fun v6 =>
 if v6 = 0 then
 bd (fX10_refuse t (1 : Int32) M2) fun v7 M8 =>
 some (v7, M8)
 else
 (fX10_isWithin a3 (0 : Int32) (2 : Int32) M2).bind fun v9 =>
 if v9 = 0 then
 bd (fX10_refuse t (1 : Int32) M2) fun v23 M24 =>
 some (v23, M24)
 else
 (fX0_layerIn (t + 57) a1 a2 M2).bind fun v10 =>
 if v10 = (-1 : Int32) then
 bd (fX10_refuse t (6 : Int32) M2) fun v21 M22 =>
 some (v21, M22)
 else
 if a3 = (2 : Int32) then
 bd (fX10_answer t v10 M2) fun v19 M20 =>
 some (v19, M20)
 else
 if a3 = 0 then
 (ldr 2 (M2.2.2 t 7)).bind fun vr15 =>
 (fX2_depthOf φ vr15 a2 v10 M2).bind fun v16 =>
 bd (fX10_answer t v16 M2) fun v17 M18 =>
 some (v17, M18)
 else
 (ldr 2 (M2.2.2 t 7)).bind fun vr11 =>
 (fX10_slot a2 v10 M2).bind fun v12 =>
 ixk v12 72 (
 bd (fX10_answer t (M2.1 (vr11 + 9) v12.toNatClampNeg) M2) fun v13 M14 =>
 some (v13, M14))
set_option maxRecDepth 100000 in
set_option maxHeartbeats 4000000 in
theorem kX10_bed (φ : Nat) (t : Nat) (a1 : Int32) (a2 : Int32) (a3 : Int32) (M : Mem) (ht : isO 10 t) (l : Launch) (G : GT) {b : (Int32 × Mem)} (hE : fX10_bed φ t a1 a2 a3 M = some b) : Ok l G yX10_bed cX10_bed 5 (some .int) 6 151 [.ref t, .int a1, .int a2, .int a3] M ((fun q : Int32 × Mem => (some (Value.int q.1), q.2)) b).1 ((fun q : Int32 × Mem => (some (Value.int q.1), q.2)) b).2 := by
  refine Ok.ofX (pj := (fun q : Int32 × Mem => (some (Value.int q.1), q.2))) (by decide) (Nat.le_of_ble_eq_true rfl) hE (fun J g hr hG hl hR hn => ?_)
  show X J (fun q : Int32 × Mem => (some (Value.int q.1), q.2)) (fX10_bed φ t a1 a2 a3 M) 0 [(0, .ref t), (1, .int a1), (2, .int a2), (3, .int a3)] [] M
  unfold fX10_bed
  exact (x_aload_n g 0 dX10_bed_0 rfl rfl
 (x_iload_n g 1 dX10_bed_1 rfl rfl
 (x_callVi (As := [.int a1]) g mv_X10_isBed mi_X10_isBed lk_RX10_312 ht (fun b Mh_ hb => kX10_isBed φ t a1 M ht _ _ hb) rfl rfl hR ⟨Nat.le_of_ble_eq_true rfl, Nat.le_of_ble_eq_true rfl⟩ (Nat.le_of_ble_eq_true rfl) dX10_bed_2 (fun v1 M2 =>
 (x_if_eq g 28 dX10_bed_5 rfl
 (fun _ => (x_aload_n g 0 dX10_bed_28 rfl rfl
 (x_iconst g dX10_bed_29 kI_1
 (x_callVi (As := [.int (1 : Int32)]) g mv_X10_refuse mi_X10_refuse lk_RX10_137 ht (fun b Mh_ hb => kX10_refuse t (1 : Int32) M2 ht _ _ hb) rfl rfl hR ⟨Nat.le_of_ble_eq_true rfl, Nat.le_of_ble_eq_true rfl⟩ (Nat.le_of_ble_eq_true rfl) dX10_bed_30 (fun v3 M4 =>
 (x_iret g hr rfl rfl dX10_bed_33))))))
 (fun _ => (x_aload_n g 0 dX10_bed_8 rfl rfl
 (x_getD g fl_RX10_50 rfl ht dX10_bed_9 (fun vr5 hvr5 =>
 (x_iload_n g 2 dX10_bed_12 rfl rfl
 (x_callVip (As := [.int a2]) g mv_X2_isHole mi_X2_isHole lk_RX10_225 hvr5 (fun b hb => kX2_isHole vr5 a2 M2 hvr5 _ _ hb) rfl rfl hR ⟨Nat.le_of_ble_eq_true rfl, Nat.le_of_ble_eq_true rfl⟩ (Nat.le_of_ble_eq_true rfl) dX10_bed_13 (fun v6 =>
 (x_if_eq g 28 dX10_bed_16 rfl
 (fun _ => (x_aload_n g 0 dX10_bed_28 rfl rfl
 (x_iconst g dX10_bed_29 kI_1
 (x_callVi (As := [.int (1 : Int32)]) g mv_X10_refuse mi_X10_refuse lk_RX10_137 ht (fun b Mh_ hb => kX10_refuse t (1 : Int32) M2 ht _ _ hb) rfl rfl hR ⟨Nat.le_of_ble_eq_true rfl, Nat.le_of_ble_eq_true rfl⟩ (Nat.le_of_ble_eq_true rfl) dX10_bed_30 (fun v7 M8 =>
 (x_iret g hr rfl rfl dX10_bed_33))))))
 (fun _ => (x_iload_n g 3 dX10_bed_19 rfl rfl
 (x_iconst g dX10_bed_20 kI_0
 (x_iconst g dX10_bed_21 kI_2
 (x_callSip (As := [.int a3, .int (0 : Int32), .int (2 : Int32)]) g mv_X10_isWithin ms_X10_isWithin lk_RX10_114 (fun b hb => kX10_isWithin a3 (0 : Int32) (2 : Int32) M2 _ _ hb) rfl rfl hR ⟨Nat.le_of_ble_eq_true rfl, Nat.le_of_ble_eq_true rfl⟩ (Nat.le_of_ble_eq_true rfl) dX10_bed_22 (fun v9 =>
 (x_if_ne g 34 dX10_bed_25 rfl
 (fun _ => (x_aload_n g 0 dX10_bed_34 rfl rfl
 (x_getS g 57 fl_RX10_88 rfl ht dX10_bed_35
 (x_iload_n g 1 dX10_bed_38 rfl rfl
 (x_iload_n g 2 dX10_bed_39 rfl rfl
 (x_callVip (As := [.int a1, .int a2]) g mv_X0_layerIn mi_X0_layerIn lk_RX10_318 (so_10_15 ht) (fun b hb => kX0_layerIn (t + 57) a1 a2 M2 (so_10_15 ht) _ _ hb) rfl rfl hR ⟨Nat.le_of_ble_eq_true rfl, Nat.le_of_ble_eq_true rfl⟩ (Nat.le_of_ble_eq_true rfl) dX10_bed_40 (fun v10 =>
 (x_istore (L' := [(4, .int v10), (0, .ref t), (1, .int a1), (2, .int a2), (3, .int a3)]) g dX10_bed_43 hn (Nat.le_of_ble_eq_true rfl) rfl
 (x_iload g 0 dX10_bed_45 rfl
 (x_iconst g dX10_bed_47 kI_m1
 (x_icmp_ne g 58 dX10_bed_48 rfl
 (fun _ => (x_iload_n g 4 dX10_bed_58 rfl rfl
 (x_iconst g dX10_bed_59 kI_2
 (x_icmp_ne g 70 dX10_bed_60 rfl
 (fun _ => (x_aload_n g 1 dX10_bed_70 rfl rfl
 (x_iload_n g 4 dX10_bed_71 rfl rfl
 (x_if_ne g 88 dX10_bed_72 rfl
 (fun _ => (x_aload_n g 1 dX10_bed_88 rfl rfl
 (x_getD g fl_RX10_50 rfl ht dX10_bed_89 (fun vr11 hvr11 =>
 (x_getS g 9 fl_RX10_252 rfl hvr11 dX10_bed_92
 (x_iload_n g 3 dX10_bed_95 rfl rfl
 (x_iload g 0 dX10_bed_96 rfl
 (x_callSip (As := [.int a2, .int v10]) g mv_X10_slot ms_X10_slot lk_RX10_249 (fun b hb => kX10_slot a2 v10 M2 _ _ hb) rfl rfl hR ⟨Nat.le_of_ble_eq_true rfl, Nat.le_of_ble_eq_true rfl⟩ (Nat.le_of_ble_eq_true rfl) dX10_bed_98 (fun v12 =>
 (x_iald g (so_2_10 hvr11) dX10_bed_101
 (x_callVi (As := [.int (M2.1 (vr11 + 9) v12.toNatClampNeg)]) g mv_X10_answer mi_X10_answer lk_RX10_187 ht (fun b Mh_ hb => kX10_answer t (M2.1 (vr11 + 9) v12.toNatClampNeg) M2 ht _ _ hb) rfl rfl hR ⟨Nat.le_of_ble_eq_true rfl, Nat.le_of_ble_eq_true rfl⟩ (Nat.le_of_ble_eq_true rfl) dX10_bed_102 (fun v13 M14 =>
 (x_iret g hr rfl rfl dX10_bed_105)))))))))))))
 (fun _ => (x_aload_n g 1 dX10_bed_75 rfl rfl
 (x_getD g fl_RX10_50 rfl ht dX10_bed_76 (fun vr15 hvr15 =>
 (x_iload_n g 3 dX10_bed_79 rfl rfl
 (x_iload g 0 dX10_bed_80 rfl
 (x_callVip (As := [.int a2, .int v10]) g mv_X2_depthOf mi_X2_depthOf lk_RX10_255 hvr15 (fun b hb => kX2_depthOf φ vr15 a2 v10 M2 hvr15 _ _ hb) rfl rfl hR ⟨Nat.le_of_ble_eq_true rfl, Nat.le_of_ble_eq_true rfl⟩ (Nat.le_of_ble_eq_true rfl) dX10_bed_82 (fun v16 =>
 (x_goto g 102 dX10_bed_85 rfl
 (x_callVi (As := [.int v16]) g mv_X10_answer mi_X10_answer lk_RX10_187 ht (fun b Mh_ hb => kX10_answer t v16 M2 ht _ _ hb) rfl rfl hR ⟨Nat.le_of_ble_eq_true rfl, Nat.le_of_ble_eq_true rfl⟩ (Nat.le_of_ble_eq_true rfl) dX10_bed_102 (fun v17 M18 =>
 (x_iret g hr rfl rfl dX10_bed_105))))))))))))))))
 (fun _ => (x_aload_n g 1 dX10_bed_63 rfl rfl
 (x_iload g 0 dX10_bed_64 rfl
 (x_callVi (As := [.int v10]) g mv_X10_answer mi_X10_answer lk_RX10_187 ht (fun b Mh_ hb => kX10_answer t v10 M2 ht _ _ hb) rfl rfl hR ⟨Nat.le_of_ble_eq_true rfl, Nat.le_of_ble_eq_true rfl⟩ (Nat.le_of_ble_eq_true rfl) dX10_bed_66 (fun v19 M20 =>
 (x_iret g hr rfl rfl dX10_bed_69))))))))))
 (fun _ => (x_aload_n g 1 dX10_bed_51 rfl rfl
 (x_bipush g dX10_bed_52 kB_6
 (x_callVi (As := [.int (6 : Int32)]) g mv_X10_refuse mi_X10_refuse lk_RX10_137 ht (fun b Mh_ hb => kX10_refuse t (6 : Int32) M2 ht _ _ hb) rfl rfl hR ⟨Nat.le_of_ble_eq_true rfl, Nat.le_of_ble_eq_true rfl⟩ (Nat.le_of_ble_eq_true rfl) dX10_bed_54 (fun v21 M22 =>
 (x_iret g hr rfl rfl dX10_bed_57)))))))))))))))))
 (fun _ => (x_aload_n g 0 dX10_bed_28 rfl rfl
 (x_iconst g dX10_bed_29 kI_1
 (x_callVi (As := [.int (1 : Int32)]) g mv_X10_refuse mi_X10_refuse lk_RX10_137 ht (fun b Mh_ hb => kX10_refuse t (1 : Int32) M2 ht _ _ hb) rfl rfl hR ⟨Nat.le_of_ble_eq_true rfl, Nat.le_of_ble_eq_true rfl⟩ (Nat.le_of_ble_eq_true rfl) dX10_bed_30 (fun v23 M24 =>
 (x_iret g hr rfl rfl dX10_bed_33))))))))))))))))))))))))))
def lX0_isHigher_2 (t : Nat) (x1 : Int32) (x2 : Int32) (M : Mem) : Nat → Int32 → Option Int32
  | 0, _ => none
  | n + 1, x3 =>
    if (6 : Int32) ≤ x3 then
 some (0 : Int32)
 else
 (fX0_layerIn t x1 x3 M).bind fun v1 =>
 jn (lX0_isHigher_2 t x1 x2 M n (x3 + 1)) (fun J2 => if v1 = (-1 : Int32) then
 J2
 else
 (fX0_layerIn t x1 x3 M).bind fun v3 =>
 (fX0_layerIn t x2 x3 M).bind fun v4 =>
 if v4 ≤ v3 then
 J2
 else
 some (1 : Int32))
theorem lX0_isHigher_2_s (t : Nat) (x1 : Int32) (x2 : Int32) (M : Mem) (n : Nat) (x3 : Int32) : lX0_isHigher_2 t x1 x2 M (n + 1) x3 =
    if (6 : Int32) ≤ x3 then
 some (0 : Int32)
 else
 (fX0_layerIn t x1 x3 M).bind fun v1 =>
 jn (lX0_isHigher_2 t x1 x2 M n (x3 + 1)) (fun J2 => if v1 = (-1 : Int32) then
 J2
 else
 (fX0_layerIn t x1 x3 M).bind fun v3 =>
 (fX0_layerIn t x2 x3 M).bind fun v4 =>
 if v4 ≤ v3 then
 J2
 else
 some (1 : Int32)) := rfl
theorem lX0_isHigher_2_0 (t : Nat) (x1 : Int32) (x2 : Int32) (M : Mem) (x3 : Int32) : lX0_isHigher_2 t x1 x2 M 0 x3 = none := rfl
set_option maxRecDepth 100000 in
set_option maxHeartbeats 4000000 in
theorem wlX0_isHigher_2 {J : JT} (g : Gd J cX0_isHigher RX0) (hr : Rt J (some .boolean)) (hR : (JR J).frames = 1 ∧ (JR J).locals = 22) (hn : Jn J = 4) (t : Nat) (x1 : Int32) (x2 : Int32) (M : Mem) (ht : isO 0 t) : ∀ (n : Nat) (x3 : Int32), X J (fun b : Int32 => (some (Value.int b), M)) (lX0_isHigher_2 t x1 x2 M n x3) 2 [(0, .ref t), (1, .int x1), (2, .int x2), (3, .int x3)] [] M := by
  intro n
  induction n with
  | zero =>
    intro x3
    exact x_none
  | succ n ih =>
    intro x3
    rw [lX0_isHigher_2_s]
    exact (x_iload_n g 3 dX0_isHigher_2 rfl rfl
 (x_bipush g dX0_isHigher_3 kB_6
 (x_icmp_ge g 41 dX0_isHigher_5 rfl
 (fun _ => (x_iconst g dX0_isHigher_41 kI_0
 (x_iret g hr rfl rfl dX0_isHigher_42)))
 (fun _ => (x_aload_n g 0 dX0_isHigher_8 rfl rfl
 (x_iload_n g 1 dX0_isHigher_9 rfl rfl
 (x_iload_n g 3 dX0_isHigher_10 rfl rfl
 (x_callVip (As := [.int x1, .int x3]) g mv_X0_layerIn mi_X0_layerIn lk_RX0_121 ht (fun b hb => kX0_layerIn t x1 x3 M ht _ _ hb) rfl rfl hR ⟨Nat.le_of_ble_eq_true rfl, Nat.le_of_ble_eq_true rfl⟩ (Nat.le_of_ble_eq_true rfl) dX0_isHigher_11 (fun v1 =>
 (x_iconst g dX0_isHigher_14 kI_m1
 (x_jn (fun (J2 : Option Int32) => X J (fun b : Int32 => (some (Value.int b), M)) J2 35 [(0, .ref t), (1, .int x1), (2, .int x2), (3, .int x3)] [] M) (x_iinc (L' := [(3, .int (x3 + 1)), (0, .ref t), (1, .int x1), (2, .int x2)]) (v := (x3 + 1)) g 3 dX0_isHigher_35 rfl (by rw [kI_1]) hn (Nat.le_of_ble_eq_true rfl) rfl
 (x_goto g 2 dX0_isHigher_38 rfl
 (x_sub [1, 2, 3, 0] rfl (ih (x3 + 1))))) (fun J2 hJ2 => (x_icmp_eq g 35 dX0_isHigher_15 rfl
 (fun _ => (hJ2))
 (fun _ => (x_aload_n g 0 dX0_isHigher_18 rfl rfl
 (x_iload_n g 1 dX0_isHigher_19 rfl rfl
 (x_iload_n g 3 dX0_isHigher_20 rfl rfl
 (x_callVip (As := [.int x1, .int x3]) g mv_X0_layerIn mi_X0_layerIn lk_RX0_121 ht (fun b hb => kX0_layerIn t x1 x3 M ht _ _ hb) rfl rfl hR ⟨Nat.le_of_ble_eq_true rfl, Nat.le_of_ble_eq_true rfl⟩ (Nat.le_of_ble_eq_true rfl) dX0_isHigher_21 (fun v3 =>
 (x_aload_n g 0 dX0_isHigher_24 rfl rfl
 (x_iload_n g 2 dX0_isHigher_25 rfl rfl
 (x_iload_n g 3 dX0_isHigher_26 rfl rfl
 (x_callVip (As := [.int x2, .int x3]) g mv_X0_layerIn mi_X0_layerIn lk_RX0_121 ht (fun b hb => kX0_layerIn t x2 x3 M ht _ _ hb) rfl rfl hR ⟨Nat.le_of_ble_eq_true rfl, Nat.le_of_ble_eq_true rfl⟩ (Nat.le_of_ble_eq_true rfl) dX0_isHigher_27 (fun v4 =>
 (x_icmp_ge g 35 dX0_isHigher_30 rfl
 (fun _ => (hJ2))
 (fun _ => (x_iconst g dX0_isHigher_33 kI_1
 (x_iret g hr rfl rfl dX0_isHigher_34))))))))))))))))))))))))))))
def fX0_isHigher (φ : Nat) (t : Nat) (a1 : Int32) (a2 : Int32) (M : Mem) : Option Int32 :=
  lX0_isHigher_2 t a1 a2 M φ (0 : Int32)
set_option maxRecDepth 100000 in
set_option maxHeartbeats 4000000 in
theorem kX0_isHigher (φ : Nat) (t : Nat) (a1 : Int32) (a2 : Int32) (M : Mem) (ht : isO 0 t) (l : Launch) (G : GT) {b : Int32} (hE : fX0_isHigher φ t a1 a2 M = some b) : Ok l G yX0_isHigher cX0_isHigher 4 (some .boolean) 1 22 [.ref t, .int a1, .int a2] M ((fun b : Int32 => (some (Value.int b), M)) b).1 ((fun b : Int32 => (some (Value.int b), M)) b).2 := by
  refine Ok.ofX (pj := (fun b : Int32 => (some (Value.int b), M))) (by decide) (Nat.le_of_ble_eq_true rfl) hE (fun J g hr hG hl hR hn => ?_)
  show X J (fun b : Int32 => (some (Value.int b), M)) (fX0_isHigher φ t a1 a2 M) 0 [(0, .ref t), (1, .int a1), (2, .int a2)] [] M
  unfold fX0_isHigher
  exact (x_iconst g dX0_isHigher_0 kI_0
 (x_istore_n (L' := [(3, .int (0 : Int32)), (0, .ref t), (1, .int a1), (2, .int a2)]) g dX0_isHigher_1 rfl hn (Nat.le_of_ble_eq_true rfl) rfl
 (x_sub [1, 2, 3, 0] rfl (wlX0_isHigher_2 g hr hR hn  t a1 a2 M ht φ (0 : Int32)))))
def fX10_above (φ : Nat) (t : Nat) (a1 : Int32) (a2 : Int32) (M : Mem) : Option (Int32 × Mem) :=
  bd (fX10_isBed φ t a1 M) fun v1 M2 =>
 if v1 = 0 then
 bd (fX10_refuse t (1 : Int32) M2) fun v3 M4 =>
 some (v3, M4)
 else
 bd (fX10_isBed φ t a2 M2) fun v5 M6 =>
 if v5 = 0 then
 bd (fX10_refuse t (1 : Int32) M6) fun v10 M11 =>
 some (v10, M11)
 else
 (fX0_isHigher φ (t + 57) a1 a2 M6).bind fun v7 =>
 bd (fX10_answerYes t v7 M6) fun v8 M9 =>
 some (v8, M9)
set_option maxRecDepth 100000 in
set_option maxHeartbeats 4000000 in
theorem kX10_above (φ : Nat) (t : Nat) (a1 : Int32) (a2 : Int32) (M : Mem) (ht : isO 10 t) (l : Launch) (G : GT) {b : (Int32 × Mem)} (hE : fX10_above φ t a1 a2 M = some b) : Ok l G yX10_above cX10_above 3 (some .int) 6 151 [.ref t, .int a1, .int a2] M ((fun q : Int32 × Mem => (some (Value.int q.1), q.2)) b).1 ((fun q : Int32 × Mem => (some (Value.int q.1), q.2)) b).2 := by
  refine Ok.ofX (pj := (fun q : Int32 × Mem => (some (Value.int q.1), q.2))) (by decide) (Nat.le_of_ble_eq_true rfl) hE (fun J g hr hG hl hR hn => ?_)
  show X J (fun q : Int32 × Mem => (some (Value.int q.1), q.2)) (fX10_above φ t a1 a2 M) 0 [(0, .ref t), (1, .int a1), (2, .int a2)] [] M
  unfold fX10_above
  exact (x_aload_n g 0 dX10_above_0 rfl rfl
 (x_iload_n g 1 dX10_above_1 rfl rfl
 (x_callVi (As := [.int a1]) g mv_X10_isBed mi_X10_isBed lk_RX10_312 ht (fun b Mh_ hb => kX10_isBed φ t a1 M ht _ _ hb) rfl rfl hR ⟨Nat.le_of_ble_eq_true rfl, Nat.le_of_ble_eq_true rfl⟩ (Nat.le_of_ble_eq_true rfl) dX10_above_2 (fun v1 M2 =>
 (x_if_eq g 16 dX10_above_5 rfl
 (fun _ => (x_aload_n g 0 dX10_above_16 rfl rfl
 (x_iconst g dX10_above_17 kI_1
 (x_callVi (As := [.int (1 : Int32)]) g mv_X10_refuse mi_X10_refuse lk_RX10_137 ht (fun b Mh_ hb => kX10_refuse t (1 : Int32) M2 ht _ _ hb) rfl rfl hR ⟨Nat.le_of_ble_eq_true rfl, Nat.le_of_ble_eq_true rfl⟩ (Nat.le_of_ble_eq_true rfl) dX10_above_18 (fun v3 M4 =>
 (x_iret g hr rfl rfl dX10_above_21))))))
 (fun _ => (x_aload_n g 0 dX10_above_8 rfl rfl
 (x_iload_n g 2 dX10_above_9 rfl rfl
 (x_callVi (As := [.int a2]) g mv_X10_isBed mi_X10_isBed lk_RX10_312 ht (fun b Mh_ hb => kX10_isBed φ t a2 M2 ht _ _ hb) rfl rfl hR ⟨Nat.le_of_ble_eq_true rfl, Nat.le_of_ble_eq_true rfl⟩ (Nat.le_of_ble_eq_true rfl) dX10_above_10 (fun v5 M6 =>
 (x_if_ne g 22 dX10_above_13 rfl
 (fun _ => (x_aload_n g 0 dX10_above_22 rfl rfl
 (x_aload_n g 0 dX10_above_23 rfl rfl
 (x_getS g 57 fl_RX10_88 rfl ht dX10_above_24
 (x_iload_n g 1 dX10_above_27 rfl rfl
 (x_iload_n g 2 dX10_above_28 rfl rfl
 (x_callVip (As := [.int a1, .int a2]) g mv_X0_isHigher mi_X0_isHigher lk_RX10_321 (so_10_15 ht) (fun b hb => kX0_isHigher φ (t + 57) a1 a2 M6 (so_10_15 ht) _ _ hb) rfl rfl hR ⟨Nat.le_of_ble_eq_true rfl, Nat.le_of_ble_eq_true rfl⟩ (Nat.le_of_ble_eq_true rfl) dX10_above_29 (fun v7 =>
 (x_callVi (As := [.int v7]) g mv_X10_answerYes mi_X10_answerYes lk_RX10_270 ht (fun b Mh_ hb => kX10_answerYes t v7 M6 ht _ _ hb) rfl rfl hR ⟨Nat.le_of_ble_eq_true rfl, Nat.le_of_ble_eq_true rfl⟩ (Nat.le_of_ble_eq_true rfl) dX10_above_32 (fun v8 M9 =>
 (x_iret g hr rfl rfl dX10_above_35)))))))))))
 (fun _ => (x_aload_n g 0 dX10_above_16 rfl rfl
 (x_iconst g dX10_above_17 kI_1
 (x_callVi (As := [.int (1 : Int32)]) g mv_X10_refuse mi_X10_refuse lk_RX10_137 ht (fun b Mh_ hb => kX10_refuse t (1 : Int32) M6 ht _ _ hb) rfl rfl hR ⟨Nat.le_of_ble_eq_true rfl, Nat.le_of_ble_eq_true rfl⟩ (Nat.le_of_ble_eq_true rfl) dX10_above_18 (fun v10 M11 =>
 (x_iret g hr rfl rfl dX10_above_21)))))))))))))))))
def lX0_isFree_2 (φ : Nat) (t : Nat) (x1 : Int32) (M : Mem) : Nat → Int32 → Option Int32
  | 0, _ => none
  | n + 1, x2 =>
    if (M.1 t 7) ≤ x2 then
 some (1 : Int32)
 else
 ixk x2 72 (
 jn (lX0_isFree_2 φ t x1 M n (x2 + 1)) (fun J1 => if (M.1 (t + 13) x2.toNatClampNeg) = 0 then
 (fX0_isHigher φ t x2 x1 M).bind fun v2 =>
 if v2 = 0 then
 J1
 else
 some (0 : Int32)
 else
 J1))
theorem lX0_isFree_2_s (φ : Nat) (t : Nat) (x1 : Int32) (M : Mem) (n : Nat) (x2 : Int32) : lX0_isFree_2 φ t x1 M (n + 1) x2 =
    if (M.1 t 7) ≤ x2 then
 some (1 : Int32)
 else
 ixk x2 72 (
 jn (lX0_isFree_2 φ t x1 M n (x2 + 1)) (fun J1 => if (M.1 (t + 13) x2.toNatClampNeg) = 0 then
 (fX0_isHigher φ t x2 x1 M).bind fun v2 =>
 if v2 = 0 then
 J1
 else
 some (0 : Int32)
 else
 J1)) := rfl
theorem lX0_isFree_2_0 (φ : Nat) (t : Nat) (x1 : Int32) (M : Mem) (x2 : Int32) : lX0_isFree_2 φ t x1 M 0 x2 = none := rfl
set_option maxRecDepth 100000 in
set_option maxHeartbeats 4000000 in
theorem wlX0_isFree_2 {J : JT} (g : Gd J cX0_isFree RX0) (hr : Rt J (some .boolean)) (hR : (JR J).frames = 2 ∧ (JR J).locals = 45) (hn : Jn J = 3) (φ : Nat) (t : Nat) (x1 : Int32) (M : Mem) (ht : isO 0 t) : ∀ (n : Nat) (x2 : Int32), X J (fun b : Int32 => (some (Value.int b), M)) (lX0_isFree_2 φ t x1 M n x2) 2 [(0, .ref t), (1, .int x1), (2, .int x2)] [] M := by
  intro n
  induction n with
  | zero =>
    intro x2
    exact x_none
  | succ n ih =>
    intro x2
    rw [lX0_isFree_2_s]
    exact (x_iload_n g 2 dX0_isFree_2 rfl rfl
 (x_aload_n g 0 dX0_isFree_3 rfl rfl
 (x_getI g fl_RX0_39 rfl ht dX0_isFree_4
 (x_icmp_ge g 36 dX0_isFree_7 rfl
 (fun _ => (x_iconst g dX0_isFree_36 kI_1
 (x_iret g hr rfl rfl dX0_isFree_37)))
 (fun _ => (x_aload_n g 0 dX0_isFree_10 rfl rfl
 (x_getS g 13 fl_RX0_66 rfl ht dX0_isFree_11
 (x_iload_n g 2 dX0_isFree_14 rfl rfl
 (x_zald g (so_0_16 ht) dX0_isFree_15
 (x_jn (fun (J1 : Option Int32) => X J (fun b : Int32 => (some (Value.int b), M)) J1 30 [(0, .ref t), (1, .int x1), (2, .int x2)] [] M) (x_iinc (L' := [(2, .int (x2 + 1)), (0, .ref t), (1, .int x1)]) (v := (x2 + 1)) g 2 dX0_isFree_30 rfl (by rw [kI_1]) hn (Nat.le_of_ble_eq_true rfl) rfl
 (x_goto g 2 dX0_isFree_33 rfl
 (x_sub [1, 2, 0] rfl (ih (x2 + 1))))) (fun J1 hJ1 => (x_if_ne g 30 dX0_isFree_16 rfl
 (fun _ => (hJ1))
 (fun _ => (x_aload_n g 0 dX0_isFree_19 rfl rfl
 (x_iload_n g 2 dX0_isFree_20 rfl rfl
 (x_iload_n g 1 dX0_isFree_21 rfl rfl
 (x_callVip (As := [.int x2, .int x1]) g mv_X0_isHigher mi_X0_isHigher lk_RX0_144 ht (fun b hb => kX0_isHigher φ t x2 x1 M ht _ _ hb) rfl rfl hR ⟨Nat.le_of_ble_eq_true rfl, Nat.le_of_ble_eq_true rfl⟩ (Nat.le_of_ble_eq_true rfl) dX0_isFree_22 (fun v2 =>
 (x_if_eq g 30 dX0_isFree_25 rfl
 (fun _ => (hJ1))
 (fun _ => (x_iconst g dX0_isFree_28 kI_0
 (x_iret g hr rfl rfl dX0_isFree_29))))))))))))))))))))))
def fX0_isFree (φ : Nat) (t : Nat) (a1 : Int32) (M : Mem) : Option Int32 :=
  lX0_isFree_2 φ t a1 M φ (0 : Int32)
set_option maxRecDepth 100000 in
set_option maxHeartbeats 4000000 in
theorem kX0_isFree (φ : Nat) (t : Nat) (a1 : Int32) (M : Mem) (ht : isO 0 t) (l : Launch) (G : GT) {b : Int32} (hE : fX0_isFree φ t a1 M = some b) : Ok l G yX0_isFree cX0_isFree 3 (some .boolean) 2 45 [.ref t, .int a1] M ((fun b : Int32 => (some (Value.int b), M)) b).1 ((fun b : Int32 => (some (Value.int b), M)) b).2 := by
  refine Ok.ofX (pj := (fun b : Int32 => (some (Value.int b), M))) (by decide) (Nat.le_of_ble_eq_true rfl) hE (fun J g hr hG hl hR hn => ?_)
  show X J (fun b : Int32 => (some (Value.int b), M)) (fX0_isFree φ t a1 M) 0 [(0, .ref t), (1, .int a1)] [] M
  unfold fX0_isFree
  exact (x_iconst g dX0_isFree_0 kI_0
 (x_istore_n (L' := [(2, .int (0 : Int32)), (0, .ref t), (1, .int a1)]) g dX0_isFree_1 rfl hn (Nat.le_of_ble_eq_true rfl) rfl
 (x_sub [1, 2, 0] rfl (wlX0_isFree_2 g hr hR hn  φ t a1 M ht φ (0 : Int32)))))
def lX0_firstFree_2 (φ : Nat) (t : Nat) (M : Mem) : Nat → Int32 → Option Int32
  | 0, _ => none
  | n + 1, x1 =>
    if (M.1 t 7) ≤ x1 then
 some (-1 : Int32)
 else
 ixk x1 72 (
 jn (lX0_firstFree_2 φ t M n (x1 + 1)) (fun J1 => if (M.1 (t + 13) x1.toNatClampNeg) = 0 then
 (fX0_isFree φ t x1 M).bind fun v2 =>
 if v2 = 0 then
 J1
 else
 some x1
 else
 J1))
theorem lX0_firstFree_2_s (φ : Nat) (t : Nat) (M : Mem) (n : Nat) (x1 : Int32) : lX0_firstFree_2 φ t M (n + 1) x1 =
    if (M.1 t 7) ≤ x1 then
 some (-1 : Int32)
 else
 ixk x1 72 (
 jn (lX0_firstFree_2 φ t M n (x1 + 1)) (fun J1 => if (M.1 (t + 13) x1.toNatClampNeg) = 0 then
 (fX0_isFree φ t x1 M).bind fun v2 =>
 if v2 = 0 then
 J1
 else
 some x1
 else
 J1)) := rfl
theorem lX0_firstFree_2_0 (φ : Nat) (t : Nat) (M : Mem) (x1 : Int32) : lX0_firstFree_2 φ t M 0 x1 = none := rfl
set_option maxRecDepth 100000 in
set_option maxHeartbeats 4000000 in
theorem wlX0_firstFree_2 {J : JT} (g : Gd J cX0_firstFree RX0) (hr : Rt J (some .int)) (hR : (JR J).frames = 3 ∧ (JR J).locals = 67) (hn : Jn J = 2) (φ : Nat) (t : Nat) (M : Mem) (ht : isO 0 t) : ∀ (n : Nat) (x1 : Int32), X J (fun b : Int32 => (some (Value.int b), M)) (lX0_firstFree_2 φ t M n x1) 2 [(0, .ref t), (1, .int x1)] [] M := by
  intro n
  induction n with
  | zero =>
    intro x1
    exact x_none
  | succ n ih =>
    intro x1
    rw [lX0_firstFree_2_s]
    exact (x_iload_n g 1 dX0_firstFree_2 rfl rfl
 (x_aload_n g 0 dX0_firstFree_3 rfl rfl
 (x_getI g fl_RX0_39 rfl ht dX0_firstFree_4
 (x_icmp_ge g 35 dX0_firstFree_7 rfl
 (fun _ => (x_iconst g dX0_firstFree_35 kI_m1
 (x_iret g hr rfl rfl dX0_firstFree_36)))
 (fun _ => (x_aload_n g 0 dX0_firstFree_10 rfl rfl
 (x_getS g 13 fl_RX0_66 rfl ht dX0_firstFree_11
 (x_iload_n g 1 dX0_firstFree_14 rfl rfl
 (x_zald g (so_0_16 ht) dX0_firstFree_15
 (x_jn (fun (J1 : Option Int32) => X J (fun b : Int32 => (some (Value.int b), M)) J1 29 [(0, .ref t), (1, .int x1)] [] M) (x_iinc (L' := [(1, .int (x1 + 1)), (0, .ref t)]) (v := (x1 + 1)) g 1 dX0_firstFree_29 rfl (by rw [kI_1]) hn (Nat.le_of_ble_eq_true rfl) rfl
 (x_goto g 2 dX0_firstFree_32 rfl
 (x_sub [1, 0] rfl (ih (x1 + 1))))) (fun J1 hJ1 => (x_if_ne g 29 dX0_firstFree_16 rfl
 (fun _ => (hJ1))
 (fun _ => (x_aload_n g 0 dX0_firstFree_19 rfl rfl
 (x_iload_n g 1 dX0_firstFree_20 rfl rfl
 (x_callVip (As := [.int x1]) g mv_X0_isFree mi_X0_isFree lk_RX0_140 ht (fun b hb => kX0_isFree φ t x1 M ht _ _ hb) rfl rfl hR ⟨Nat.le_of_ble_eq_true rfl, Nat.le_of_ble_eq_true rfl⟩ (Nat.le_of_ble_eq_true rfl) dX0_firstFree_21 (fun v2 =>
 (x_if_eq g 29 dX0_firstFree_24 rfl
 (fun _ => (hJ1))
 (fun _ => (x_iload_n g 1 dX0_firstFree_27 rfl rfl
 (x_iret g hr rfl rfl dX0_firstFree_28)))))))))))))))))))))
def fX0_firstFree (φ : Nat) (t : Nat) (M : Mem) : Option Int32 :=
  lX0_firstFree_2 φ t M φ (0 : Int32)
set_option maxRecDepth 100000 in
set_option maxHeartbeats 4000000 in
theorem kX0_firstFree (φ : Nat) (t : Nat) (M : Mem) (ht : isO 0 t) (l : Launch) (G : GT) {b : Int32} (hE : fX0_firstFree φ t M = some b) : Ok l G yX0_firstFree cX0_firstFree 2 (some .int) 3 67 [.ref t] M ((fun b : Int32 => (some (Value.int b), M)) b).1 ((fun b : Int32 => (some (Value.int b), M)) b).2 := by
  refine Ok.ofX (pj := (fun b : Int32 => (some (Value.int b), M))) (by decide) (Nat.le_of_ble_eq_true rfl) hE (fun J g hr hG hl hR hn => ?_)
  show X J (fun b : Int32 => (some (Value.int b), M)) (fX0_firstFree φ t M) 0 [(0, .ref t)] [] M
  unfold fX0_firstFree
  exact (x_iconst g dX0_firstFree_0 kI_0
 (x_istore_n (L' := [(1, .int (0 : Int32)), (0, .ref t)]) g dX0_firstFree_1 rfl hn (Nat.le_of_ble_eq_true rfl) rfl
 (x_sub [1, 0] rfl (wlX0_firstFree_2 g hr hR hn  φ t M ht φ (0 : Int32)))))
def lX0_putInOrder_2 (K23 : Mem → Option (Int32 × Mem)) (t : Nat) : Nat → Int32 → Mem → Option (Int32 × Mem)
  | 0, _, _ => none
  | n + 1, x1, M =>
    if (M.1 t 7) ≤ x1 then
 K23 M
 else
 ixk x1 72 (nm (stI M (t + 13) x1.toNatClampNeg (vp_nar .boolean (0 : Int32))) (fun M1 =>
 lX0_putInOrder_2 K23 t n (x1 + 1) M1))
theorem lX0_putInOrder_2_s (K23 : Mem → Option (Int32 × Mem)) (t : Nat) (n : Nat) (x1 : Int32) (M : Mem) : lX0_putInOrder_2 K23 t (n + 1) x1 M =
    if (M.1 t 7) ≤ x1 then
 K23 M
 else
 ixk x1 72 (nm (stI M (t + 13) x1.toNatClampNeg (vp_nar .boolean (0 : Int32))) (fun M1 =>
 lX0_putInOrder_2 K23 t n (x1 + 1) M1)) := rfl
theorem lX0_putInOrder_2_0 (K23 : Mem → Option (Int32 × Mem)) (t : Nat) (x1 : Int32) (M : Mem) : lX0_putInOrder_2 K23 t 0 x1 M = none := rfl
set_option maxRecDepth 100000 in
set_option maxHeartbeats 4000000 in
theorem wlX0_putInOrder_2 {J : JT} (g : Gd J cX0_putInOrder RX0) (hr : Rt J (some .boolean)) (hR : (JR J).frames = 4 ∧ (JR J).locals = 88) (hn : Jn J = 3) (K23 : Mem → Option (Int32 × Mem)) (t : Nat) (ht : isO 0 t) (hK23 : ∀ (M : Mem), X J (fun q : Int32 × Mem => (some (Value.int q.1), q.2)) (K23 M) 23 [(0, .ref t)] [] M) : ∀ (n : Nat) (x1 : Int32) (M : Mem), X J (fun q : Int32 × Mem => (some (Value.int q.1), q.2)) (lX0_putInOrder_2 K23 t n x1 M) 2 [(0, .ref t), (1, .int x1)] [] M := by
  intro n
  induction n with
  | zero =>
    intro x1 M
    exact x_none
  | succ n ih =>
    intro x1 M
    rw [lX0_putInOrder_2_s]
    exact (x_iload_n g 1 dX0_putInOrder_2 rfl rfl
 (x_aload_n g 0 dX0_putInOrder_3 rfl rfl
 (x_getI g fl_RX0_39 rfl ht dX0_putInOrder_4
 (x_icmp_ge g 23 dX0_putInOrder_7 rfl
 (fun _ => (x_sub [0] rfl (hK23 M)))
 (fun _ => (x_aload_n g 0 dX0_putInOrder_10 rfl rfl
 (x_getS g 13 fl_RX0_66 rfl ht dX0_putInOrder_11
 (x_iload_n g 1 dX0_putInOrder_14 rfl rfl
 (x_iconst g dX0_putInOrder_15 kI_0
 (x_zast g (so_0_16 ht) dX0_putInOrder_16 (x_nmM (fun M1 =>
 (x_iinc (L' := [(1, .int (x1 + 1)), (0, .ref t)]) (v := (x1 + 1)) g 1 dX0_putInOrder_17 rfl (by rw [kI_1]) hn (Nat.le_of_ble_eq_true rfl) rfl
 (x_goto g 2 dX0_putInOrder_20 rfl
 (x_sub [1, 0] rfl (ih (x1 + 1) M1))))))))))))))))
def lX0_putInOrder_25 (φ : Nat) (t : Nat) : Nat → Int32 → Mem → Option (Int32 × Mem)
  | 0, _, _ => none
  | n + 1, x1, M =>
    if (M.1 t 7) ≤ x1 then
 some ((1 : Int32), M)
 else
 (fX0_firstFree φ t M).bind fun v3 =>
 if v3 = (-1 : Int32) then
 some ((0 : Int32), M)
 else
 ixk x1 72 (nm (stI M (t + 12) x1.toNatClampNeg v3) (fun M4 =>
 ixk v3 72 (nm (stI M4 (t + 13) v3.toNatClampNeg (vp_nar .boolean (1 : Int32))) (fun M5 =>
 lX0_putInOrder_25 φ t n (x1 + 1) M5))))
theorem lX0_putInOrder_25_s (φ : Nat) (t : Nat) (n : Nat) (x1 : Int32) (M : Mem) : lX0_putInOrder_25 φ t (n + 1) x1 M =
    if (M.1 t 7) ≤ x1 then
 some ((1 : Int32), M)
 else
 (fX0_firstFree φ t M).bind fun v3 =>
 if v3 = (-1 : Int32) then
 some ((0 : Int32), M)
 else
 ixk x1 72 (nm (stI M (t + 12) x1.toNatClampNeg v3) (fun M4 =>
 ixk v3 72 (nm (stI M4 (t + 13) v3.toNatClampNeg (vp_nar .boolean (1 : Int32))) (fun M5 =>
 lX0_putInOrder_25 φ t n (x1 + 1) M5)))) := rfl
theorem lX0_putInOrder_25_0 (φ : Nat) (t : Nat) (x1 : Int32) (M : Mem) : lX0_putInOrder_25 φ t 0 x1 M = none := rfl
set_option maxRecDepth 100000 in
set_option maxHeartbeats 4000000 in
theorem wlX0_putInOrder_25 {J : JT} (g : Gd J cX0_putInOrder RX0) (hr : Rt J (some .boolean)) (hR : (JR J).frames = 4 ∧ (JR J).locals = 88) (hn : Jn J = 3) (φ : Nat) (t : Nat) (ht : isO 0 t) : ∀ (n : Nat) (x1 : Int32) (M : Mem), X J (fun q : Int32 × Mem => (some (Value.int q.1), q.2)) (lX0_putInOrder_25 φ t n x1 M) 25 [(0, .ref t), (1, .int x1)] [] M := by
  intro n
  induction n with
  | zero =>
    intro x1 M
    exact x_none
  | succ n ih =>
    intro x1 M
    rw [lX0_putInOrder_25_s]
    exact (x_iload_n g 1 dX0_putInOrder_25 rfl rfl
 (x_aload_n g 0 dX0_putInOrder_26 rfl rfl
 (x_getI g fl_RX0_39 rfl ht dX0_putInOrder_27
 (x_icmp_ge g 65 dX0_putInOrder_30 rfl
 (fun _ => (x_iconst g dX0_putInOrder_65 kI_1
 (x_iret g hr rfl rfl dX0_putInOrder_66)))
 (fun _ => (x_aload_n g 0 dX0_putInOrder_33 rfl rfl
 (x_callVip (As := []) g mv_X0_firstFree mi_X0_firstFree lk_RX0_136 ht (fun b hb => kX0_firstFree φ t M ht _ _ hb) rfl rfl hR ⟨Nat.le_of_ble_eq_true rfl, Nat.le_of_ble_eq_true rfl⟩ (Nat.le_of_ble_eq_true rfl) dX0_putInOrder_34 (fun v3 =>
 (x_istore_n (L' := [(2, .int v3), (0, .ref t), (1, .int x1)]) g dX0_putInOrder_37 rfl hn (Nat.le_of_ble_eq_true rfl) rfl
 (x_iload_n g 0 dX0_putInOrder_38 rfl rfl
 (x_iconst g dX0_putInOrder_39 kI_m1
 (x_icmp_ne g 45 dX0_putInOrder_40 rfl
 (fun _ => (x_aload_n g 1 dX0_putInOrder_45 rfl rfl
 (x_getS g 12 fl_RX0_63 rfl ht dX0_putInOrder_46
 (x_iload_n g 2 dX0_putInOrder_49 rfl rfl
 (x_iload_n g 0 dX0_putInOrder_50 rfl rfl
 (x_iast g (so_0_15 ht) dX0_putInOrder_51 (x_nmM (fun M4 =>
 (x_aload_n g 1 dX0_putInOrder_52 rfl rfl
 (x_getS g 13 fl_RX0_66 rfl ht dX0_putInOrder_53
 (x_iload_n g 0 dX0_putInOrder_56 rfl rfl
 (x_iconst g dX0_putInOrder_57 kI_1
 (x_zast g (so_0_16 ht) dX0_putInOrder_58 (x_nmM (fun M5 =>
 (x_iinc (L' := [(1, .int (x1 + 1)), (2, .int v3), (0, .ref t)]) (v := (x1 + 1)) g 2 dX0_putInOrder_59 rfl (by rw [kI_1]) hn (Nat.le_of_ble_eq_true rfl) rfl
 (x_goto g 25 dX0_putInOrder_62 rfl
 (x_sub [2, 0] rfl (ih (x1 + 1) M5)))))))))))))))))))
 (fun _ => (x_iconst g dX0_putInOrder_43 kI_0
 (x_iret g hr rfl rfl dX0_putInOrder_44)))))))))))))))
def fX0_putInOrder (φ : Nat) (t : Nat) (M : Mem) : Option (Int32 × Mem) :=
  lX0_putInOrder_2 (fun (M2 : Mem) => lX0_putInOrder_25 φ t φ (0 : Int32) M2) t φ (0 : Int32) M
set_option maxRecDepth 100000 in
set_option maxHeartbeats 4000000 in
theorem kX0_putInOrder (φ : Nat) (t : Nat) (M : Mem) (ht : isO 0 t) (l : Launch) (G : GT) {b : (Int32 × Mem)} (hE : fX0_putInOrder φ t M = some b) : Ok l G yX0_putInOrder cX0_putInOrder 3 (some .boolean) 4 88 [.ref t] M ((fun q : Int32 × Mem => (some (Value.int q.1), q.2)) b).1 ((fun q : Int32 × Mem => (some (Value.int q.1), q.2)) b).2 := by
  refine Ok.ofX (pj := (fun q : Int32 × Mem => (some (Value.int q.1), q.2))) (by decide) (Nat.le_of_ble_eq_true rfl) hE (fun J g hr hG hl hR hn => ?_)
  show X J (fun q : Int32 × Mem => (some (Value.int q.1), q.2)) (fX0_putInOrder φ t M) 0 [(0, .ref t)] [] M
  unfold fX0_putInOrder
  exact (x_iconst g dX0_putInOrder_0 kI_0
 (x_istore_n (L' := [(1, .int (0 : Int32)), (0, .ref t)]) g dX0_putInOrder_1 rfl hn (Nat.le_of_ble_eq_true rfl) rfl
 (x_sub [1, 0] rfl (wlX0_putInOrder_2 g hr hR hn _ t ht
 (fun M2 => by exact (x_iconst g dX0_putInOrder_23 kI_0
 (x_istore_n (L' := [(1, .int (0 : Int32)), (0, .ref t)]) g dX0_putInOrder_24 rfl hn (Nat.le_of_ble_eq_true rfl) rfl
 (x_sub [1, 0] rfl (wlX0_putInOrder_25 g hr hR hn  φ t ht φ (0 : Int32) M2))))) φ (0 : Int32) M))))
def fX0_isOrdered (φ : Nat) (t : Nat) (M : Mem) : Option (Int32 × Mem) :=
  if (M.1 t 13) = 0 then
 if (M.1 t 14) = 0 ∨ (M.1 t 14) = 1 then some ((M.1 t 14), M) else none
 else
 nm (stI M t 13 (0 : Int32)) (fun M2 =>
 bd (fX0_putInOrder φ t M2) fun v3 M4 =>
 if v3 = 0 ∨ v3 = 1 then nm (stI M4 t 14 v3) (fun M5 =>
 if (M5.1 t 14) = 0 ∨ (M5.1 t 14) = 1 then some ((M5.1 t 14), M5) else none)
 else none)
set_option maxRecDepth 100000 in
set_option maxHeartbeats 4000000 in
theorem kX0_isOrdered (φ : Nat) (t : Nat) (M : Mem) (ht : isO 0 t) (l : Launch) (G : GT) {b : (Int32 × Mem)} (hE : fX0_isOrdered φ t M = some b) : Ok l G yX0_isOrdered cX0_isOrdered 1 (some .boolean) 5 110 [.ref t] M ((fun q : Int32 × Mem => (some (Value.int q.1), q.2)) b).1 ((fun q : Int32 × Mem => (some (Value.int q.1), q.2)) b).2 := by
  refine Ok.ofX (pj := (fun q : Int32 × Mem => (some (Value.int q.1), q.2))) (by decide) (Nat.le_of_ble_eq_true rfl) hE (fun J g hr hG hl hR hn => ?_)
  show X J (fun q : Int32 × Mem => (some (Value.int q.1), q.2)) (fX0_isOrdered φ t M) 0 [(0, .ref t)] [] M
  unfold fX0_isOrdered
  exact (x_aload_n g 0 dX0_isOrdered_0 rfl rfl
 (x_getI g fl_RX0_57 rfl ht dX0_isOrdered_1
 (x_if_eq g 20 dX0_isOrdered_4 rfl
 (fun _ => (x_aload_n g 0 dX0_isOrdered_20 rfl rfl
 (x_getI g fl_RX0_60 rfl ht dX0_isOrdered_21
 (x_ck (fun hq1 => x_iret g hr (nbz hq1) rfl dX0_isOrdered_24)))))
 (fun _ => (x_aload_n g 0 dX0_isOrdered_7 rfl rfl
 (x_iconst g dX0_isOrdered_8 kI_0
 (x_putZ g fp_RX0_57 rfl (Nat.le_of_ble_eq_true rfl) ht (Or.inl rfl) dX0_isOrdered_9 (x_nmM (fun M2 =>
 (x_aload_n g 0 dX0_isOrdered_12 rfl rfl
 (x_aload_n g 0 dX0_isOrdered_13 rfl rfl
 (x_callVi (As := []) g mv_X0_putInOrder mi_X0_putInOrder lk_RX0_132 ht (fun b Mh_ hb => kX0_putInOrder φ t M2 ht _ _ hb) rfl rfl hR ⟨Nat.le_of_ble_eq_true rfl, Nat.le_of_ble_eq_true rfl⟩ (Nat.le_of_ble_eq_true rfl) dX0_isOrdered_14 (fun v3 M4 =>
 (x_ck (fun hq6 => x_putZ g fp_RX0_60 rfl (Nat.le_of_ble_eq_true rfl) ht hq6 dX0_isOrdered_17 (x_nmM (fun M5 =>
 (x_aload_n g 0 dX0_isOrdered_20 rfl rfl
 (x_getI g fl_RX0_60 rfl ht dX0_isOrdered_21
 (x_ck (fun hq7 => x_iret g hr (nbz hq7) rfl dX0_isOrdered_24)))))))))))))))))))))
def fX10_order (φ : Nat) (t : Nat) (a1 : Int32) (M : Mem) : Option (Int32 × Mem) :=
  if 0 ≤ a1 then
 (ldr 2 (M.2.2 t 7)).bind fun vr1 =>
 bd (fX0_refresh φ (t + 57) vr1 M) fun vu2 M3 =>
 if a1 < (M3.1 (t + 57) 7) then
 bd (fX0_isOrdered φ (t + 57) M3) fun v4 M5 =>
 if v4 = 0 then
 bd (fX10_refuse t (7 : Int32) M5) fun v8 M9 =>
 some (v8, M9)
 else
 ixk a1 72 (
 bd (fX10_answer t (M5.1 ((t + 57) + 12) a1.toNatClampNeg) M5) fun v6 M7 =>
 some (v6, M7))
 else
 bd (fX10_refuse t (6 : Int32) M3) fun v10 M11 =>
 some (v10, M11)
 else
 bd (fX10_refuse t (1 : Int32) M) fun v12 M13 =>
 some (v12, M13)
set_option maxRecDepth 100000 in
set_option maxHeartbeats 4000000 in
theorem kX10_order (φ : Nat) (t : Nat) (a1 : Int32) (M : Mem) (ht : isO 10 t) (l : Launch) (G : GT) {b : (Int32 × Mem)} (hE : fX10_order φ t a1 M = some b) : Ok l G yX10_order cX10_order 2 (some .int) 6 130 [.ref t, .int a1] M ((fun q : Int32 × Mem => (some (Value.int q.1), q.2)) b).1 ((fun q : Int32 × Mem => (some (Value.int q.1), q.2)) b).2 := by
  refine Ok.ofX (pj := (fun q : Int32 × Mem => (some (Value.int q.1), q.2))) (by decide) (Nat.le_of_ble_eq_true rfl) hE (fun J g hr hG hl hR hn => ?_)
  show X J (fun q : Int32 × Mem => (some (Value.int q.1), q.2)) (fX10_order φ t a1 M) 0 [(0, .ref t), (1, .int a1)] [] M
  unfold fX10_order
  exact (x_iload_n g 1 dX10_order_0 rfl rfl
 (x_if_ge g 10 dX10_order_1 rfl
 (fun _ => (x_aload_n g 0 dX10_order_10 rfl rfl
 (x_getS g 57 fl_RX10_88 rfl ht dX10_order_11
 (x_aload_n g 0 dX10_order_14 rfl rfl
 (x_getD g fl_RX10_50 rfl ht dX10_order_15 (fun vr1 hvr1 =>
 (x_callVv (As := [.ref vr1]) g mv_X0_refresh mi_X0_refresh lk_RX10_287 (so_10_15 ht) (fun b Mh_ hb => kX0_refresh φ (t + 57) vr1 M (so_10_15 ht) hvr1 _ _ hb) rfl rfl hR ⟨Nat.le_of_ble_eq_true rfl, Nat.le_of_ble_eq_true rfl⟩ (Nat.le_of_ble_eq_true rfl) dX10_order_18 (fun vu2 M3 =>
 (x_iload_n g 1 dX10_order_21 rfl rfl
 (x_aload_n g 0 dX10_order_22 rfl rfl
 (x_getS g 57 fl_RX10_88 rfl ht dX10_order_23
 (x_getI g fl_RX10_306 rfl (so_10_15 ht) dX10_order_26
 (x_icmp_lt g 39 dX10_order_29 rfl
 (fun _ => (x_aload_n g 0 dX10_order_39 rfl rfl
 (x_getS g 57 fl_RX10_88 rfl ht dX10_order_40
 (x_callVi (As := []) g mv_X0_isOrdered mi_X0_isOrdered lk_RX10_324 (so_10_15 ht) (fun b Mh_ hb => kX0_isOrdered φ (t + 57) M3 (so_10_15 ht) _ _ hb) rfl rfl hR ⟨Nat.le_of_ble_eq_true rfl, Nat.le_of_ble_eq_true rfl⟩ (Nat.le_of_ble_eq_true rfl) dX10_order_43 (fun v4 M5 =>
 (x_if_ne g 56 dX10_order_46 rfl
 (fun _ => (x_aload_n g 0 dX10_order_56 rfl rfl
 (x_aload_n g 0 dX10_order_57 rfl rfl
 (x_getS g 57 fl_RX10_88 rfl ht dX10_order_58
 (x_getS g 12 fl_RX10_327 rfl (so_10_15 ht) dX10_order_61
 (x_iload_n g 1 dX10_order_64 rfl rfl
 (x_iald g (so_0_15 (so_10_15 ht)) dX10_order_65
 (x_callVi (As := [.int (M5.1 ((t + 57) + 12) a1.toNatClampNeg)]) g mv_X10_answer mi_X10_answer lk_RX10_187 ht (fun b Mh_ hb => kX10_answer t (M5.1 ((t + 57) + 12) a1.toNatClampNeg) M5 ht _ _ hb) rfl rfl hR ⟨Nat.le_of_ble_eq_true rfl, Nat.le_of_ble_eq_true rfl⟩ (Nat.le_of_ble_eq_true rfl) dX10_order_66 (fun v6 M7 =>
 (x_iret g hr rfl rfl dX10_order_69))))))))))
 (fun _ => (x_aload_n g 0 dX10_order_49 rfl rfl
 (x_bipush g dX10_order_50 kB_7
 (x_callVi (As := [.int (7 : Int32)]) g mv_X10_refuse mi_X10_refuse lk_RX10_137 ht (fun b Mh_ hb => kX10_refuse t (7 : Int32) M5 ht _ _ hb) rfl rfl hR ⟨Nat.le_of_ble_eq_true rfl, Nat.le_of_ble_eq_true rfl⟩ (Nat.le_of_ble_eq_true rfl) dX10_order_52 (fun v8 M9 =>
 (x_iret g hr rfl rfl dX10_order_55))))))))))))
 (fun _ => (x_aload_n g 0 dX10_order_32 rfl rfl
 (x_bipush g dX10_order_33 kB_6
 (x_callVi (As := [.int (6 : Int32)]) g mv_X10_refuse mi_X10_refuse lk_RX10_137 ht (fun b Mh_ hb => kX10_refuse t (6 : Int32) M3 ht _ _ hb) rfl rfl hR ⟨Nat.le_of_ble_eq_true rfl, Nat.le_of_ble_eq_true rfl⟩ (Nat.le_of_ble_eq_true rfl) dX10_order_35 (fun v10 M11 =>
 (x_iret g hr rfl rfl dX10_order_38)))))))))))))))))))
 (fun _ => (x_aload_n g 0 dX10_order_4 rfl rfl
 (x_iconst g dX10_order_5 kI_1
 (x_callVi (As := [.int (1 : Int32)]) g mv_X10_refuse mi_X10_refuse lk_RX10_137 ht (fun b Mh_ hb => kX10_refuse t (1 : Int32) M ht _ _ hb) rfl rfl hR ⟨Nat.le_of_ble_eq_true rfl, Nat.le_of_ble_eq_true rfl⟩ (Nat.le_of_ble_eq_true rfl) dX10_order_6 (fun v12 M13 =>
 (x_iret g hr rfl rfl dX10_order_9))))))))
def fJ6_bitCount_0f7a4 (a1 : Int32) (M : Mem) : Option Int32 :=
  nm (a1 - (((a1.toUInt32 >>> ((1 : Int32).toUInt32 &&& Int32.toUInt32 31)).toInt32) &&& (1431655765 : Int32))) (fun v1 =>
 nm ((v1 &&& (858993459 : Int32)) + (((v1.toUInt32 >>> ((2 : Int32).toUInt32 &&& Int32.toUInt32 31)).toInt32) &&& (858993459 : Int32))) (fun v2 =>
 nm ((v2 + ((v2.toUInt32 >>> ((4 : Int32).toUInt32 &&& Int32.toUInt32 31)).toInt32)) &&& (252645135 : Int32)) (fun v3 =>
 nm (v3 + ((v3.toUInt32 >>> ((8 : Int32).toUInt32 &&& Int32.toUInt32 31)).toInt32)) (fun v4 =>
 nm (v4 + ((v4.toUInt32 >>> ((16 : Int32).toUInt32 &&& Int32.toUInt32 31)).toInt32)) (fun v5 =>
 some (v5 &&& (63 : Int32)))))))
set_option maxRecDepth 100000 in
set_option maxHeartbeats 4000000 in
theorem kJ6_bitCount_0f7a4 (a1 : Int32) (M : Mem) (l : Launch) (G : GT) {b : Int32} (hE : fJ6_bitCount_0f7a4 a1 M = some b) : Ok l G yJ6_bitCount_0f7a4 cJ6_bitCount_0f7a4 1 (some .int) 0 0 [.int a1] M ((fun b : Int32 => (some (Value.int b), M)) b).1 ((fun b : Int32 => (some (Value.int b), M)) b).2 := by
  refine Ok.ofX (pj := (fun b : Int32 => (some (Value.int b), M))) (by decide) (Nat.le_of_ble_eq_true rfl) hE (fun J g hr hG hl hR hn => ?_)
  show X J (fun b : Int32 => (some (Value.int b), M)) (fJ6_bitCount_0f7a4 a1 M) 0 [(0, .int a1)] [] M
  unfold fJ6_bitCount_0f7a4
  exact (x_iload_n g 0 dJ6_bitCount_0f7a4_0 rfl rfl
 (x_iload_n g 0 dJ6_bitCount_0f7a4_1 rfl rfl
 (x_iconst g dJ6_bitCount_0f7a4_2 kI_1
 (x_iushr g dJ6_bitCount_0f7a4_3
 (x_ldcw g cw_RJ6_265 dJ6_bitCount_0f7a4_4
 (x_iand g dJ6_bitCount_0f7a4_7
 (x_isub g dJ6_bitCount_0f7a4_8
 (x_nmI (fun v1 => (x_istore_n (L' := [(0, .int v1)]) g dJ6_bitCount_0f7a4_9 rfl hn (Nat.le_of_ble_eq_true rfl) rfl
 (x_iload_n g 0 dJ6_bitCount_0f7a4_10 rfl rfl
 (x_ldcw g cw_RJ6_266 dJ6_bitCount_0f7a4_11
 (x_iand g dJ6_bitCount_0f7a4_14
 (x_iload_n g 0 dJ6_bitCount_0f7a4_15 rfl rfl
 (x_iconst g dJ6_bitCount_0f7a4_16 kI_2
 (x_iushr g dJ6_bitCount_0f7a4_17
 (x_ldcw g cw_RJ6_266 dJ6_bitCount_0f7a4_18
 (x_iand g dJ6_bitCount_0f7a4_21
 (x_iadd g dJ6_bitCount_0f7a4_22
 (x_nmI (fun v2 => (x_istore_n (L' := [(0, .int v2)]) g dJ6_bitCount_0f7a4_23 rfl hn (Nat.le_of_ble_eq_true rfl) rfl
 (x_iload_n g 0 dJ6_bitCount_0f7a4_24 rfl rfl
 (x_iload_n g 0 dJ6_bitCount_0f7a4_25 rfl rfl
 (x_iconst g dJ6_bitCount_0f7a4_26 kI_4
 (x_iushr g dJ6_bitCount_0f7a4_27
 (x_iadd g dJ6_bitCount_0f7a4_28
 (x_ldcw g cw_RJ6_267 dJ6_bitCount_0f7a4_29
 (x_iand g dJ6_bitCount_0f7a4_32
 (x_nmI (fun v3 => (x_istore_n (L' := [(0, .int v3)]) g dJ6_bitCount_0f7a4_33 rfl hn (Nat.le_of_ble_eq_true rfl) rfl
 (x_iload_n g 0 dJ6_bitCount_0f7a4_34 rfl rfl
 (x_iload_n g 0 dJ6_bitCount_0f7a4_35 rfl rfl
 (x_bipush g dJ6_bitCount_0f7a4_36 kB_8
 (x_iushr g dJ6_bitCount_0f7a4_38
 (x_iadd g dJ6_bitCount_0f7a4_39
 (x_nmI (fun v4 => (x_istore_n (L' := [(0, .int v4)]) g dJ6_bitCount_0f7a4_40 rfl hn (Nat.le_of_ble_eq_true rfl) rfl
 (x_iload_n g 0 dJ6_bitCount_0f7a4_41 rfl rfl
 (x_iload_n g 0 dJ6_bitCount_0f7a4_42 rfl rfl
 (x_bipush g dJ6_bitCount_0f7a4_43 kB_16
 (x_iushr g dJ6_bitCount_0f7a4_45
 (x_iadd g dJ6_bitCount_0f7a4_46
 (x_nmI (fun v5 => (x_istore_n (L' := [(0, .int v5)]) g dJ6_bitCount_0f7a4_47 rfl hn (Nat.le_of_ble_eq_true rfl) rfl
 (x_iload_n g 0 dJ6_bitCount_0f7a4_48 rfl rfl
 (x_bipush g dJ6_bitCount_0f7a4_49 kB_63
 (x_iand g dJ6_bitCount_0f7a4_51
 (x_iret g hr rfl rfl dJ6_bitCount_0f7a4_52))))))))))))))))))))))))))))))))))))))))))))))))))))
def lX0_widestBed_6 (φ : Nat) (t : Nat) (M : Mem) : Nat → Int32 → Int32 → Int32 → Option Int32
  | 0, _, _, _ => none
  | n + 1, x1, x2, x3 =>
    if (M.1 t 7) ≤ x3 then
 some x1
 else
 (fX0_setOfHoles φ t x3 M).bind fun v1 =>
 (fJ6_bitCount_0f7a4 v1 M).bind fun v2 =>
 jn (fun (v3 : Int32) (v4 : Int32) => lX0_widestBed_6 φ t M n v3 v4 (x3 + 1)) (fun J5 => if v2 ≤ x2 then
 J5 x1 x2
 else
 J5 x3 v2)
theorem lX0_widestBed_6_s (φ : Nat) (t : Nat) (M : Mem) (n : Nat) (x1 : Int32) (x2 : Int32) (x3 : Int32) : lX0_widestBed_6 φ t M (n + 1) x1 x2 x3 =
    if (M.1 t 7) ≤ x3 then
 some x1
 else
 (fX0_setOfHoles φ t x3 M).bind fun v1 =>
 (fJ6_bitCount_0f7a4 v1 M).bind fun v2 =>
 jn (fun (v3 : Int32) (v4 : Int32) => lX0_widestBed_6 φ t M n v3 v4 (x3 + 1)) (fun J5 => if v2 ≤ x2 then
 J5 x1 x2
 else
 J5 x3 v2) := rfl
theorem lX0_widestBed_6_0 (φ : Nat) (t : Nat) (M : Mem) (x1 : Int32) (x2 : Int32) (x3 : Int32) : lX0_widestBed_6 φ t M 0 x1 x2 x3 = none := rfl
set_option maxRecDepth 100000 in
set_option maxHeartbeats 4000000 in
theorem wlX0_widestBed_6 {J : JT} (g : Gd J cX0_widestBed RX0) (hr : Rt J (some .int)) (hR : (JR J).frames = 2 ∧ (JR J).locals = 45) (hn : Jn J = 5) (φ : Nat) (t : Nat) (M : Mem) (ht : isO 0 t) : ∀ (n : Nat) (x1 : Int32) (x2 : Int32) (x3 : Int32), X J (fun b : Int32 => (some (Value.int b), M)) (lX0_widestBed_6 φ t M n x1 x2 x3) 6 [(0, .ref t), (1, .int x1), (2, .int x2), (3, .int x3)] [] M := by
  intro n
  induction n with
  | zero =>
    intro x1 x2 x3
    exact x_none
  | succ n ih =>
    intro x1 x2 x3
    rw [lX0_widestBed_6_s]
    exact (x_iload_n g 3 dX0_widestBed_6 rfl rfl
 (x_aload_n g 0 dX0_widestBed_7 rfl rfl
 (x_getI g fl_RX0_39 rfl ht dX0_widestBed_8
 (x_icmp_ge g 41 dX0_widestBed_11 rfl
 (fun _ => (x_iload_n g 1 dX0_widestBed_41 rfl rfl
 (x_iret g hr rfl rfl dX0_widestBed_42)))
 (fun _ => (x_aload_n g 0 dX0_widestBed_14 rfl rfl
 (x_iload_n g 3 dX0_widestBed_15 rfl rfl
 (x_callVip (As := [.int x3]) g mv_X0_setOfHoles mi_X0_setOfHoles lk_RX0_124 ht (fun b hb => kX0_setOfHoles φ t x3 M ht _ _ hb) rfl rfl hR ⟨Nat.le_of_ble_eq_true rfl, Nat.le_of_ble_eq_true rfl⟩ (Nat.le_of_ble_eq_true rfl) dX0_widestBed_16 (fun v1 =>
 (x_callSip (As := [.int v1]) g mv_J6_bitCount_0f7a4 ms_J6_bitCount_0f7a4 lk_RX0_127 (fun b hb => kJ6_bitCount_0f7a4 v1 M _ _ hb) rfl rfl hR ⟨Nat.le_of_ble_eq_true rfl, Nat.le_of_ble_eq_true rfl⟩ (Nat.le_of_ble_eq_true rfl) dX0_widestBed_19 (fun v2 =>
 (x_istore (L' := [(4, .int v2), (0, .ref t), (1, .int x1), (2, .int x2), (3, .int x3)]) g dX0_widestBed_22 hn (Nat.le_of_ble_eq_true rfl) rfl
 (x_iload g 0 dX0_widestBed_24 rfl
 (x_iload_n g 3 dX0_widestBed_26 rfl rfl
 (x_jn (fun (J5 : Int32 → Int32 → Option Int32) => ∀ (v3 : Int32) (v4 : Int32), X J (fun b : Int32 => (some (Value.int b), M)) (J5 v3 v4) 35 [(0, .ref t), (1, .int v3), (2, .int v4), (3, .int x3)] [] M) (fun v3 v4 => (x_iinc (L' := [(3, .int (x3 + 1)), (0, .ref t), (1, .int v3), (2, .int v4)]) (v := (x3 + 1)) g 3 dX0_widestBed_35 rfl (by rw [kI_1]) hn (Nat.le_of_ble_eq_true rfl) rfl
 (x_goto g 6 dX0_widestBed_38 rfl
 (x_sub [1, 2, 3, 0] rfl (ih v3 v4 (x3 + 1)))))) (fun J5 hJ5 => (x_icmp_le g 35 dX0_widestBed_27 rfl
 (fun _ => (x_sub [1, 2, 3, 4] rfl (hJ5 x1 x2)))
 (fun _ => (x_iload_n g 4 dX0_widestBed_30 rfl rfl
 (x_istore_n (L' := [(1, .int x3), (4, .int v2), (0, .ref t), (2, .int x2), (3, .int x3)]) g dX0_widestBed_31 rfl hn (Nat.le_of_ble_eq_true rfl) rfl
 (x_iload g 1 dX0_widestBed_32 rfl
 (x_istore_n (L' := [(2, .int v2), (1, .int x3), (4, .int v2), (0, .ref t), (3, .int x3)]) g dX0_widestBed_34 rfl hn (Nat.le_of_ble_eq_true rfl) rfl
 (x_sub [3, 1, 0, 4] rfl (hJ5 x3 v2))))))))))))))))))))))))
def fX0_widestBed (φ : Nat) (t : Nat) (M : Mem) : Option Int32 :=
  lX0_widestBed_6 φ t M φ (-1 : Int32) (0 : Int32) (0 : Int32)
set_option maxRecDepth 100000 in
set_option maxHeartbeats 4000000 in
theorem kX0_widestBed (φ : Nat) (t : Nat) (M : Mem) (ht : isO 0 t) (l : Launch) (G : GT) {b : Int32} (hE : fX0_widestBed φ t M = some b) : Ok l G yX0_widestBed cX0_widestBed 5 (some .int) 2 45 [.ref t] M ((fun b : Int32 => (some (Value.int b), M)) b).1 ((fun b : Int32 => (some (Value.int b), M)) b).2 := by
  refine Ok.ofX (pj := (fun b : Int32 => (some (Value.int b), M))) (by decide) (Nat.le_of_ble_eq_true rfl) hE (fun J g hr hG hl hR hn => ?_)
  show X J (fun b : Int32 => (some (Value.int b), M)) (fX0_widestBed φ t M) 0 [(0, .ref t)] [] M
  unfold fX0_widestBed
  exact (x_iconst g dX0_widestBed_0 kI_m1
 (x_istore_n (L' := [(1, .int (-1 : Int32)), (0, .ref t)]) g dX0_widestBed_1 rfl hn (Nat.le_of_ble_eq_true rfl) rfl
 (x_iconst g dX0_widestBed_2 kI_0
 (x_istore_n (L' := [(2, .int (0 : Int32)), (1, .int (-1 : Int32)), (0, .ref t)]) g dX0_widestBed_3 rfl hn (Nat.le_of_ble_eq_true rfl) rfl
 (x_iconst g dX0_widestBed_4 kI_0
 (x_istore_n (L' := [(3, .int (0 : Int32)), (2, .int (0 : Int32)), (1, .int (-1 : Int32)), (0, .ref t)]) g dX0_widestBed_5 rfl hn (Nat.le_of_ble_eq_true rfl) rfl
 (x_sub [3, 2, 1, 0] rfl (wlX0_widestBed_6 g hr hR hn  φ t M ht φ (-1 : Int32) (0 : Int32) (0 : Int32)))))))))
def fX10_widest (φ : Nat) (t : Nat) (M : Mem) : Option (Int32 × Mem) :=
  (ldr 2 (M.2.2 t 7)).bind fun vr1 =>
 bd (fX0_refresh φ (t + 57) vr1 M) fun vu2 M3 =>
 (fX0_widestBed φ (t + 57) M3).bind fun v4 =>
 bd (fX10_answerOrNoSuch t v4 M3) fun v5 M6 =>
 some (v5, M6)
set_option maxRecDepth 100000 in
set_option maxHeartbeats 4000000 in
theorem kX10_widest (φ : Nat) (t : Nat) (M : Mem) (ht : isO 10 t) (l : Launch) (G : GT) {b : (Int32 × Mem)} (hE : fX10_widest φ t M = some b) : Ok l G yX10_widest cX10_widest 1 (some .int) 5 130 [.ref t] M ((fun q : Int32 × Mem => (some (Value.int q.1), q.2)) b).1 ((fun q : Int32 × Mem => (some (Value.int q.1), q.2)) b).2 := by
  refine Ok.ofX (pj := (fun q : Int32 × Mem => (some (Value.int q.1), q.2))) (by decide) (Nat.le_of_ble_eq_true rfl) hE (fun J g hr hG hl hR hn => ?_)
  show X J (fun q : Int32 × Mem => (some (Value.int q.1), q.2)) (fX10_widest φ t M) 0 [(0, .ref t)] [] M
  unfold fX10_widest
  exact (x_aload_n g 0 dX10_widest_0 rfl rfl
 (x_getS g 57 fl_RX10_88 rfl ht dX10_widest_1
 (x_aload_n g 0 dX10_widest_4 rfl rfl
 (x_getD g fl_RX10_50 rfl ht dX10_widest_5 (fun vr1 hvr1 =>
 (x_callVv (As := [.ref vr1]) g mv_X0_refresh mi_X0_refresh lk_RX10_287 (so_10_15 ht) (fun b Mh_ hb => kX0_refresh φ (t + 57) vr1 M (so_10_15 ht) hvr1 _ _ hb) rfl rfl hR ⟨Nat.le_of_ble_eq_true rfl, Nat.le_of_ble_eq_true rfl⟩ (Nat.le_of_ble_eq_true rfl) dX10_widest_8 (fun vu2 M3 =>
 (x_aload_n g 0 dX10_widest_11 rfl rfl
 (x_aload_n g 0 dX10_widest_12 rfl rfl
 (x_getS g 57 fl_RX10_88 rfl ht dX10_widest_13
 (x_callVip (As := []) g mv_X0_widestBed mi_X0_widestBed lk_RX10_330 (so_10_15 ht) (fun b hb => kX0_widestBed φ (t + 57) M3 (so_10_15 ht) _ _ hb) rfl rfl hR ⟨Nat.le_of_ble_eq_true rfl, Nat.le_of_ble_eq_true rfl⟩ (Nat.le_of_ble_eq_true rfl) dX10_widest_16 (fun v4 =>
 (x_callVi (As := [.int v4]) g mv_X10_answerOrNoSuch mi_X10_answerOrNoSuch lk_RX10_261 ht (fun b Mh_ hb => kX10_answerOrNoSuch t v4 M3 ht _ _ hb) rfl rfl hR ⟨Nat.le_of_ble_eq_true rfl, Nat.le_of_ble_eq_true rfl⟩ (Nat.le_of_ble_eq_true rfl) dX10_widest_19 (fun v5 M6 =>
 (x_iret g hr rfl rfl dX10_widest_22)))))))))))))))
def fX2_isTriangle (t : Nat) (a1 : Int32) (M : Mem) : Option Int32 :=
  if a1 < 0 then
 some (0 : Int32)
 else
 if (M.1 t 11) ≤ a1 then
 some (0 : Int32)
 else
 some (1 : Int32)
set_option maxRecDepth 100000 in
set_option maxHeartbeats 4000000 in
theorem kX2_isTriangle (t : Nat) (a1 : Int32) (M : Mem) (ht : isO 2 t) (l : Launch) (G : GT) {b : Int32} (hE : fX2_isTriangle t a1 M = some b) : Ok l G yX2_isTriangle cX2_isTriangle 2 (some .boolean) 0 0 [.ref t, .int a1] M ((fun b : Int32 => (some (Value.int b), M)) b).1 ((fun b : Int32 => (some (Value.int b), M)) b).2 := by
  refine Ok.ofX (pj := (fun b : Int32 => (some (Value.int b), M))) (by decide) (Nat.le_of_ble_eq_true rfl) hE (fun J g hr hG hl hR hn => ?_)
  show X J (fun b : Int32 => (some (Value.int b), M)) (fX2_isTriangle t a1 M) 0 [(0, .ref t), (1, .int a1)] [] M
  unfold fX2_isTriangle
  exact (x_iload_n g 1 dX2_isTriangle_0 rfl rfl
 (x_if_lt g 16 dX2_isTriangle_1 rfl
 (fun _ => (x_iconst g dX2_isTriangle_16 kI_0
 (x_iret g hr rfl rfl dX2_isTriangle_17)))
 (fun _ => (x_iload_n g 1 dX2_isTriangle_4 rfl rfl
 (x_aload_n g 0 dX2_isTriangle_5 rfl rfl
 (x_getI g fl_RX2_47 rfl ht dX2_isTriangle_6
 (x_icmp_ge g 16 dX2_isTriangle_9 rfl
 (fun _ => (x_iconst g dX2_isTriangle_16 kI_0
 (x_iret g hr rfl rfl dX2_isTriangle_17)))
 (fun _ => (x_iconst g dX2_isTriangle_12 kI_1
 (x_goto g 17 dX2_isTriangle_13 rfl
 (x_iret g hr rfl rfl dX2_isTriangle_17)))))))))))
def fX2_cornerHole (t : Nat) (a1 : Int32) (a2 : Int32) (M : Mem) : Option Int32 :=
  ixk ((a1 * (3 : Int32)) + a2) 24 (
 some (M.1 (t + 10) ((a1 * (3 : Int32)) + a2).toNatClampNeg))
set_option maxRecDepth 100000 in
set_option maxHeartbeats 4000000 in
theorem kX2_cornerHole (t : Nat) (a1 : Int32) (a2 : Int32) (M : Mem) (ht : isO 2 t) (l : Launch) (G : GT) {b : Int32} (hE : fX2_cornerHole t a1 a2 M = some b) : Ok l G yX2_cornerHole cX2_cornerHole 3 (some .int) 0 0 [.ref t, .int a1, .int a2] M ((fun b : Int32 => (some (Value.int b), M)) b).1 ((fun b : Int32 => (some (Value.int b), M)) b).2 := by
  refine Ok.ofX (pj := (fun b : Int32 => (some (Value.int b), M))) (by decide) (Nat.le_of_ble_eq_true rfl) hE (fun J g hr hG hl hR hn => ?_)
  show X J (fun b : Int32 => (some (Value.int b), M)) (fX2_cornerHole t a1 a2 M) 0 [(0, .ref t), (1, .int a1), (2, .int a2)] [] M
  unfold fX2_cornerHole
  exact (x_aload_n g 0 dX2_cornerHole_0 rfl rfl
 (x_getS g 10 fl_RX2_50 rfl ht dX2_cornerHole_1
 (x_iload_n g 1 dX2_cornerHole_4 rfl rfl
 (x_iconst g dX2_cornerHole_5 kI_3
 (x_imul g dX2_cornerHole_6
 (x_iload_n g 2 dX2_cornerHole_7 rfl rfl
 (x_iadd g dX2_cornerHole_8
 (x_iald g (so_2_12 ht) dX2_cornerHole_9
 (x_iret g hr rfl rfl dX2_cornerHole_10)))))))))
def fX2_turn (t : Nat) (a1 : Int32) (M : Mem) : Option Int32 :=
  (fX2_cornerHole t a1 (0 : Int32) M).bind fun v1 =>
 (fX2_cornerHole t a1 (1 : Int32) M).bind fun v2 =>
 (fX2_cornerHole t a1 (2 : Int32) M).bind fun v3 =>
 (fX2_turnOfHoles t v1 v2 v3 M).bind fun v4 =>
 some v4
set_option maxRecDepth 100000 in
set_option maxHeartbeats 4000000 in
theorem kX2_turn (t : Nat) (a1 : Int32) (M : Mem) (ht : isO 2 t) (l : Launch) (G : GT) {b : Int32} (hE : fX2_turn t a1 M = some b) : Ok l G yX2_turn cX2_turn 2 (some .int) 2 48 [.ref t, .int a1] M ((fun b : Int32 => (some (Value.int b), M)) b).1 ((fun b : Int32 => (some (Value.int b), M)) b).2 := by
  refine Ok.ofX (pj := (fun b : Int32 => (some (Value.int b), M))) (by decide) (Nat.le_of_ble_eq_true rfl) hE (fun J g hr hG hl hR hn => ?_)
  show X J (fun b : Int32 => (some (Value.int b), M)) (fX2_turn t a1 M) 0 [(0, .ref t), (1, .int a1)] [] M
  unfold fX2_turn
  exact (x_aload_n g 0 dX2_turn_0 rfl rfl
 (x_aload_n g 0 dX2_turn_1 rfl rfl
 (x_iload_n g 1 dX2_turn_2 rfl rfl
 (x_iconst g dX2_turn_3 kI_0
 (x_callVip (As := [.int a1, .int (0 : Int32)]) g mv_X2_cornerHole mi_X2_cornerHole lk_RX2_120 ht (fun b hb => kX2_cornerHole t a1 (0 : Int32) M ht _ _ hb) rfl rfl hR ⟨Nat.le_of_ble_eq_true rfl, Nat.le_of_ble_eq_true rfl⟩ (Nat.le_of_ble_eq_true rfl) dX2_turn_4 (fun v1 =>
 (x_aload_n g 0 dX2_turn_7 rfl rfl
 (x_iload_n g 1 dX2_turn_8 rfl rfl
 (x_iconst g dX2_turn_9 kI_1
 (x_callVip (As := [.int a1, .int (1 : Int32)]) g mv_X2_cornerHole mi_X2_cornerHole lk_RX2_120 ht (fun b hb => kX2_cornerHole t a1 (1 : Int32) M ht _ _ hb) rfl rfl hR ⟨Nat.le_of_ble_eq_true rfl, Nat.le_of_ble_eq_true rfl⟩ (Nat.le_of_ble_eq_true rfl) dX2_turn_10 (fun v2 =>
 (x_aload_n g 0 dX2_turn_13 rfl rfl
 (x_iload_n g 1 dX2_turn_14 rfl rfl
 (x_iconst g dX2_turn_15 kI_2
 (x_callVip (As := [.int a1, .int (2 : Int32)]) g mv_X2_cornerHole mi_X2_cornerHole lk_RX2_120 ht (fun b hb => kX2_cornerHole t a1 (2 : Int32) M ht _ _ hb) rfl rfl hR ⟨Nat.le_of_ble_eq_true rfl, Nat.le_of_ble_eq_true rfl⟩ (Nat.le_of_ble_eq_true rfl) dX2_turn_16 (fun v3 =>
 (x_callVip (As := [.int v1, .int v2, .int v3]) g mv_X2_turnOfHoles mi_X2_turnOfHoles lk_RX2_123 ht (fun b hb => kX2_turnOfHoles t v1 v2 v3 M ht _ _ hb) rfl rfl hR ⟨Nat.le_of_ble_eq_true rfl, Nat.le_of_ble_eq_true rfl⟩ (Nat.le_of_ble_eq_true rfl) dX2_turn_19 (fun v4 =>
 (x_iret g hr rfl rfl dX2_turn_22)))))))))))))))))))
def fX2_twiceArea (t : Nat) (a1 : Int32) (M : Mem) : Option Int32 :=
  (fX2_turn t a1 M).bind fun v1 =>
 some (if 0 ≤ v1 then v1 else 0 - v1)
set_option maxRecDepth 100000 in
set_option maxHeartbeats 4000000 in
theorem kX2_twiceArea (t : Nat) (a1 : Int32) (M : Mem) (ht : isO 2 t) (l : Launch) (G : GT) {b : Int32} (hE : fX2_twiceArea t a1 M = some b) : Ok l G yX2_twiceArea cX2_twiceArea 2 (some .int) 3 69 [.ref t, .int a1] M ((fun b : Int32 => (some (Value.int b), M)) b).1 ((fun b : Int32 => (some (Value.int b), M)) b).2 := by
  refine Ok.ofX (pj := (fun b : Int32 => (some (Value.int b), M))) (by decide) (Nat.le_of_ble_eq_true rfl) hE (fun J g hr hG hl hR hn => ?_)
  show X J (fun b : Int32 => (some (Value.int b), M)) (fX2_twiceArea t a1 M) 0 [(0, .ref t), (1, .int a1)] [] M
  unfold fX2_twiceArea
  exact (x_aload_n g 0 dX2_twiceArea_0 rfl rfl
 (x_iload_n g 1 dX2_twiceArea_1 rfl rfl
 (x_callVip (As := [.int a1]) g mv_X2_turn mi_X2_turn lk_RX2_127 ht (fun b hb => kX2_turn t a1 M ht _ _ hb) rfl rfl hR ⟨Nat.le_of_ble_eq_true rfl, Nat.le_of_ble_eq_true rfl⟩ (Nat.le_of_ble_eq_true rfl) dX2_twiceArea_2 (fun v1 =>
 (x_mabs g hR lk_RX2_130 ok_abss ok_math ok_abs (Nat.le_of_ble_eq_true rfl) (Nat.le_of_ble_eq_true rfl) dX2_twiceArea_5
 (x_iret g hr rfl rfl dX2_twiceArea_8))))))
def lX10_commonDivisor_15 (M : Mem) : Nat → Int64 → Int64 → Int32 → Option Int64
  | 0, _, _, _ => none
  | n + 1, xz4, xz6, x8 =>
    if (100 : Int32) ≤ x8 then
 some xz4
 else
 if xz6 = (0 : Int64) then
 some xz4
 else
 if ¬ xz6 = 0 then
 nm (xz4 - xz4 / xz6 * xz6) (fun vz4 =>
 lX10_commonDivisor_15 M n xz6 vz4 (x8 + 1))
 else none
theorem lX10_commonDivisor_15_s (M : Mem) (n : Nat) (xz4 : Int64) (xz6 : Int64) (x8 : Int32) : lX10_commonDivisor_15  M (n + 1) xz4 xz6 x8 =
    if (100 : Int32) ≤ x8 then
 some xz4
 else
 if xz6 = (0 : Int64) then
 some xz4
 else
 if ¬ xz6 = 0 then
 nm (xz4 - xz4 / xz6 * xz6) (fun vz4 =>
 lX10_commonDivisor_15 M n xz6 vz4 (x8 + 1))
 else none := rfl
theorem lX10_commonDivisor_15_0 (M : Mem) (xz4 : Int64) (xz6 : Int64) (x8 : Int32) : lX10_commonDivisor_15  M 0 xz4 xz6 x8 = none := rfl
set_option maxRecDepth 100000 in
set_option maxHeartbeats 4000000 in
theorem wlX10_commonDivisor_15 {J : JT} (g : Gd J cX10_commonDivisor RX10) (hr : Rt J (some .long)) (hR : (JR J).frames = 1 ∧ (JR J).locals = 30) (hn : Jn J = 11) (M : Mem) : ∀ (n : Nat) (xz4 : Int64) (xz6 : Int64) (x8 : Int32), X J (fun b : Int64 => (some (Value.long b), M)) (lX10_commonDivisor_15  M n xz4 xz6 x8) 15 [(4, .long xz4), (6, .long xz6), (8, .int x8)] [] M := by
  intro n
  induction n with
  | zero =>
    intro xz4 xz6 x8
    exact x_none
  | succ n ih =>
    intro xz4 xz6 x8
    rw [lX10_commonDivisor_15_s]
    exact (x_iload g 2 dX10_commonDivisor_15 rfl
 (x_bipush g dX10_commonDivisor_17 kB_100
 (x_icmp_ge g 50 dX10_commonDivisor_19 rfl
 (fun _ => (x_lload g 0 dX10_commonDivisor_50 rfl
 (x_lret g hr rfl dX10_commonDivisor_52)))
 (fun _ => (x_lload g 1 dX10_commonDivisor_22 rfl
 (x_lconst g dX10_commonDivisor_24 kL_0
 (x_l_eq g 50 dX10_commonDivisor_25 dX10_commonDivisor_26 rfl
 (fun _ => (x_lload g 0 dX10_commonDivisor_50 rfl
 (x_lret g hr rfl dX10_commonDivisor_52)))
 (fun _ => (x_lload g 0 dX10_commonDivisor_29 rfl
 (x_lload g 1 dX10_commonDivisor_31 rfl
 (x_ck (fun hq3 => x_lrem g dX10_commonDivisor_33 hq3
 (x_nmL (fun vz4 => (x_lstore (L' := [(9, .long vz4), (4, .long xz4), (6, .long xz6), (8, .int x8)]) g dX10_commonDivisor_34 hn (Nat.le_of_ble_eq_true rfl) rfl
 (x_lload g 2 dX10_commonDivisor_36 rfl
 (x_lstore (L' := [(4, .long xz6), (9, .long vz4), (6, .long xz6), (8, .int x8)]) g dX10_commonDivisor_38 hn (Nat.le_of_ble_eq_true rfl) rfl
 (x_lload g 1 dX10_commonDivisor_40 rfl
 (x_lstore (L' := [(6, .long vz4), (4, .long xz6), (9, .long vz4), (8, .int x8)]) g dX10_commonDivisor_42 hn (Nat.le_of_ble_eq_true rfl) rfl
 (x_iinc (L' := [(8, .int (x8 + 1)), (6, .long vz4), (4, .long xz6), (9, .long vz4)]) (v := (x8 + 1)) g 3 dX10_commonDivisor_44 rfl (by rw [kI_1]) hn (Nat.le_of_ble_eq_true rfl) rfl
 (x_goto g 15 dX10_commonDivisor_47 rfl
 (x_sub [2, 1, 0] rfl (ih xz6 vz4 (x8 + 1))))))))))))))))))))))))
def fX10_commonDivisor (φ : Nat) (a1 : Int64) (a2 : Int64) (M : Mem) : Option Int64 :=
  nm (if 0 < a1 then a1 else -a1) (fun vz1 =>
 nm (if 0 < a2 then a2 else -a2) (fun vz2 =>
 lX10_commonDivisor_15 M φ vz1 vz2 (0 : Int32)))
set_option maxRecDepth 100000 in
set_option maxHeartbeats 4000000 in
theorem kX10_commonDivisor (φ : Nat) (a1 : Int64) (a2 : Int64) (M : Mem) (l : Launch) (G : GT) {b : Int64} (hE : fX10_commonDivisor φ a1 a2 M = some b) : Ok l G yX10_commonDivisor cX10_commonDivisor 11 (some .long) 1 30 [.long a1, .long a2] M ((fun b : Int64 => (some (Value.long b), M)) b).1 ((fun b : Int64 => (some (Value.long b), M)) b).2 := by
  refine Ok.ofX (pj := (fun b : Int64 => (some (Value.long b), M))) (by decide) (Nat.le_of_ble_eq_true rfl) hE (fun J g hr hG hl hR hn => ?_)
  show X J (fun b : Int64 => (some (Value.long b), M)) (fX10_commonDivisor φ a1 a2 M) 0 [(0, .long a1), (2, .long a2)] [] M
  unfold fX10_commonDivisor
  exact (x_lload_n g 0 dX10_commonDivisor_0 rfl rfl
 (x_mabsl g hR lk_RX10_474 ok_absls ok_math ok_absl (Nat.le_of_ble_eq_true rfl) (Nat.le_of_ble_eq_true rfl) dX10_commonDivisor_1
 (x_nmL (fun vz1 => (x_lstore (L' := [(4, .long vz1), (0, .long a1), (2, .long a2)]) g dX10_commonDivisor_4 hn (Nat.le_of_ble_eq_true rfl) rfl
 (x_lload_n g 2 dX10_commonDivisor_6 rfl rfl
 (x_mabsl g hR lk_RX10_474 ok_absls ok_math ok_absl (Nat.le_of_ble_eq_true rfl) (Nat.le_of_ble_eq_true rfl) dX10_commonDivisor_7
 (x_nmL (fun vz2 => (x_lstore (L' := [(6, .long vz2), (4, .long vz1), (0, .long a1), (2, .long a2)]) g dX10_commonDivisor_10 hn (Nat.le_of_ble_eq_true rfl) rfl
 (x_iconst g dX10_commonDivisor_12 kI_0
 (x_istore (L' := [(8, .int (0 : Int32)), (6, .long vz2), (4, .long vz1), (0, .long a1), (2, .long a2)]) g dX10_commonDivisor_13 hn (Nat.le_of_ble_eq_true rfl) rfl
 (x_sub [2, 1, 0] rfl (wlX10_commonDivisor_15 g hr hR hn  M φ vz1 vz2 (0 : Int32)))))))))))))))
def fX10_tell (φ : Nat) (t : Nat) (a1 : Int64) (a2 : Int64) (M : Mem) : Option (Int32 × Mem) :=
  (fX10_commonDivisor φ a1 a2 M).bind fun vz1 =>
 if vz1 = (0 : Int64) then
 bd (fX10_deny t (7 : Int32) M) fun v11 M12 =>
 if v11 = 0 ∨ v11 = 1 then some (v11, M12) else none
 else
 jn (fun (vz2 : Int64) => if ¬ vz1 = 0 then
 nm (stL M t 1 (vz2 * (a1 / vz1))) (fun M5 =>
 if ¬ vz1 = 0 then
 nm (stL M5 t 2 (vz2 * (a2 / vz1))) (fun M7 =>
 bd (fX10_grant t M7) fun v8 M9 =>
 if v8 = 0 ∨ v8 = 1 then some (v8, M9) else none)
 else none)
 else none) (fun J3 => if (0 : Int64) ≤ a2 then
 J3 (1 : Int64)
 else
 J3 (-1 : Int64))
set_option maxRecDepth 100000 in
set_option maxHeartbeats 4000000 in
theorem kX10_tell (φ : Nat) (t : Nat) (a1 : Int64) (a2 : Int64) (M : Mem) (ht : isO 10 t) (l : Launch) (G : GT) {b : (Int32 × Mem)} (hE : fX10_tell φ t a1 a2 M = some b) : Ok l G yX10_tell cX10_tell 9 (some .boolean) 2 60 [.ref t, .long a1, .long a2] M ((fun q : Int32 × Mem => (some (Value.int q.1), q.2)) b).1 ((fun q : Int32 × Mem => (some (Value.int q.1), q.2)) b).2 := by
  refine Ok.ofX (pj := (fun q : Int32 × Mem => (some (Value.int q.1), q.2))) (by decide) (Nat.le_of_ble_eq_true rfl) hE (fun J g hr hG hl hR hn => ?_)
  show X J (fun q : Int32 × Mem => (some (Value.int q.1), q.2)) (fX10_tell φ t a1 a2 M) 0 [(0, .ref t), (1, .long a1), (3, .long a2)] [] M
  unfold fX10_tell
  exact (x_lload_n g 1 dX10_tell_0 rfl rfl
 (x_lload_n g 2 dX10_tell_1 rfl rfl
 (x_callSlp (As := [.long a1, .long a2]) g mv_X10_commonDivisor ms_X10_commonDivisor lk_RX10_468 (fun b hb => kX10_commonDivisor φ a1 a2 M _ _ hb) rfl rfl hR ⟨Nat.le_of_ble_eq_true rfl, Nat.le_of_ble_eq_true rfl⟩ (Nat.le_of_ble_eq_true rfl) dX10_tell_2 (fun vz1 =>
 (x_lstore (L' := [(5, .long vz1), (0, .ref t), (1, .long a1), (3, .long a2)]) g dX10_tell_5 hn (Nat.le_of_ble_eq_true rfl) rfl
 (x_lload g 0 dX10_tell_7 rfl
 (x_lconst g dX10_tell_9 kL_0
 (x_l_ne g 21 dX10_tell_10 dX10_tell_11 rfl
 (fun _ => (x_lload_n g 3 dX10_tell_21 rfl rfl
 (x_lconst g dX10_tell_22 kL_0
 (x_jn (fun (J3 : Int64 → Option (Int32 × Mem)) => ∀ (vz2 : Int64), X J (fun q : Int32 × Mem => (some (Value.int q.1), q.2)) (J3 vz2) 34 [(0, .ref t), (1, .long a1), (3, .long a2), (5, .long vz1)] [.long vz2] M) (fun vz2 => (x_lstore (L' := [(7, .long vz2), (0, .ref t), (1, .long a1), (3, .long a2), (5, .long vz1)]) g dX10_tell_34 hn (Nat.le_of_ble_eq_true rfl) rfl
 (x_aload_n g 1 dX10_tell_36 rfl rfl
 (x_lload g 0 dX10_tell_37 rfl
 (x_lload_n g 2 dX10_tell_39 rfl rfl
 (x_lload g 4 dX10_tell_40 rfl
 (x_ck (fun hq4 => x_ldiv g dX10_tell_42 hq4
 (x_lmul g dX10_tell_43
 (x_putL g fp_RX10_13 rfl (Nat.le_of_ble_eq_true rfl) ht dX10_tell_44 (x_nmM (fun M5 =>
 (x_aload_n g 1 dX10_tell_47 rfl rfl
 (x_lload g 0 dX10_tell_48 rfl
 (x_lload_n g 3 dX10_tell_50 rfl rfl
 (x_lload g 4 dX10_tell_51 rfl
 (x_ck (fun hq6 => x_ldiv g dX10_tell_53 hq6
 (x_lmul g dX10_tell_54
 (x_putL g fp_RX10_17 rfl (Nat.le_of_ble_eq_true rfl) ht dX10_tell_55 (x_nmM (fun M7 =>
 (x_aload_n g 1 dX10_tell_58 rfl rfl
 (x_callVi (As := []) g mv_X10_grant mi_X10_grant lk_RX10_125 ht (fun b Mh_ hb => kX10_grant t M7 ht _ _ hb) rfl rfl hR ⟨Nat.le_of_ble_eq_true rfl, Nat.le_of_ble_eq_true rfl⟩ (Nat.le_of_ble_eq_true rfl) dX10_tell_59 (fun v8 M9 =>
 (x_ck (fun hq10 => x_iret g hr (nbz hq10) rfl dX10_tell_62))))))))))))))))))))))))))) (fun J3 hJ3 => (x_l_ge g 33 dX10_tell_23 dX10_tell_24 rfl
 (fun _ => (x_lconst g dX10_tell_33 kL_1
 (x_sub [1, 2, 3, 0] rfl (hJ3 (1 : Int64)))))
 (fun _ => (x_ldc2 g cw_RX10_472 dX10_tell_27
 (x_goto g 34 dX10_tell_30 rfl
 (x_sub [1, 2, 3, 0] rfl (hJ3 (-1 : Int64))))))))))))
 (fun _ => (x_aload_n g 1 dX10_tell_14 rfl rfl
 (x_bipush g dX10_tell_15 kB_7
 (x_callVi (As := [.int (7 : Int32)]) g mv_X10_deny mi_X10_deny lk_RX10_118 ht (fun b Mh_ hb => kX10_deny t (7 : Int32) M ht _ _ hb) rfl rfl hR ⟨Nat.le_of_ble_eq_true rfl, Nat.le_of_ble_eq_true rfl⟩ (Nat.le_of_ble_eq_true rfl) dX10_tell_17 (fun v11 M12 =>
 (x_ck (fun hq13 => x_iret g hr (nbz hq13) rfl dX10_tell_20)))))))))))))))
def fX10_area (φ : Nat) (t : Nat) (a1 : Int32) (M : Mem) : Option (Int32 × Mem) :=
  (ldr 2 (M.2.2 t 7)).bind fun vr1 =>
 (fX2_isTriangle vr1 a1 M).bind fun v2 =>
 if v2 = 0 then
 bd (fX10_deny t (1 : Int32) M) fun v8 M9 =>
 if v8 = 0 ∨ v8 = 1 then some (v8, M9) else none
 else
 (ldr 2 (M.2.2 t 7)).bind fun vr3 =>
 (fX2_twiceArea vr3 a1 M).bind fun v4 =>
 bd (fX10_tell φ t (v4.toInt64) (2 : Int64) M) fun v5 M6 =>
 if v5 = 0 ∨ v5 = 1 then some (v5, M6) else none
set_option maxRecDepth 100000 in
set_option maxHeartbeats 4000000 in
theorem kX10_area (φ : Nat) (t : Nat) (a1 : Int32) (M : Mem) (ht : isO 10 t) (l : Launch) (G : GT) {b : (Int32 × Mem)} (hE : fX10_area φ t a1 M = some b) : Ok l G yX10_area cX10_area 2 (some .boolean) 4 90 [.ref t, .int a1] M ((fun q : Int32 × Mem => (some (Value.int q.1), q.2)) b).1 ((fun q : Int32 × Mem => (some (Value.int q.1), q.2)) b).2 := by
  refine Ok.ofX (pj := (fun q : Int32 × Mem => (some (Value.int q.1), q.2))) (by decide) (Nat.le_of_ble_eq_true rfl) hE (fun J g hr hG hl hR hn => ?_)
  show X J (fun q : Int32 × Mem => (some (Value.int q.1), q.2)) (fX10_area φ t a1 M) 0 [(0, .ref t), (1, .int a1)] [] M
  unfold fX10_area
  exact (x_aload_n g 0 dX10_area_0 rfl rfl
 (x_getD g fl_RX10_50 rfl ht dX10_area_1 (fun vr1 hvr1 =>
 (x_iload_n g 1 dX10_area_4 rfl rfl
 (x_callVip (As := [.int a1]) g mv_X2_isTriangle mi_X2_isTriangle lk_RX10_334 hvr1 (fun b hb => kX2_isTriangle vr1 a1 M hvr1 _ _ hb) rfl rfl hR ⟨Nat.le_of_ble_eq_true rfl, Nat.le_of_ble_eq_true rfl⟩ (Nat.le_of_ble_eq_true rfl) dX10_area_5 (fun v2 =>
 (x_if_ne g 17 dX10_area_8 rfl
 (fun _ => (x_aload_n g 0 dX10_area_17 rfl rfl
 (x_aload_n g 0 dX10_area_18 rfl rfl
 (x_getD g fl_RX10_50 rfl ht dX10_area_19 (fun vr3 hvr3 =>
 (x_iload_n g 1 dX10_area_22 rfl rfl
 (x_callVip (As := [.int a1]) g mv_X2_twiceArea mi_X2_twiceArea lk_RX10_337 hvr3 (fun b hb => kX2_twiceArea vr3 a1 M hvr3 _ _ hb) rfl rfl hR ⟨Nat.le_of_ble_eq_true rfl, Nat.le_of_ble_eq_true rfl⟩ (Nat.le_of_ble_eq_true rfl) dX10_area_23 (fun v4 =>
 (x_i2l g dX10_area_26
 (x_ldc2 g cw_RX10_340 dX10_area_27
 (x_callVi (As := [.long (v4.toInt64), .long (2 : Int64)]) g mv_X10_tell mi_X10_tell lk_RX10_342 ht (fun b Mh_ hb => kX10_tell φ t (v4.toInt64) (2 : Int64) M ht _ _ hb) rfl rfl hR ⟨Nat.le_of_ble_eq_true rfl, Nat.le_of_ble_eq_true rfl⟩ (Nat.le_of_ble_eq_true rfl) dX10_area_30 (fun v5 M6 =>
 (x_ck (fun hq7 => x_iret g hr (nbz hq7) rfl dX10_area_33))))))))))))))
 (fun _ => (x_aload_n g 0 dX10_area_11 rfl rfl
 (x_iconst g dX10_area_12 kI_1
 (x_callVi (As := [.int (1 : Int32)]) g mv_X10_deny mi_X10_deny lk_RX10_118 ht (fun b Mh_ hb => kX10_deny t (1 : Int32) M ht _ _ hb) rfl rfl hR ⟨Nat.le_of_ble_eq_true rfl, Nat.le_of_ble_eq_true rfl⟩ (Nat.le_of_ble_eq_true rfl) dX10_area_13 (fun v8 M9 =>
 (x_ck (fun hq10 => x_iret g hr (nbz hq10) rfl dX10_area_16))))))))))))))
