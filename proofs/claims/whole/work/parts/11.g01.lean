theorem dX6_passWord_0 : decode cX6_passWord 0 = .ok (.aload_n 0, 1) := by decide +kernel
theorem dX6_passWord_1 : decode cX6_passWord 1 = .ok (.invokevirtual 111, 3) := by decide +kernel
theorem dX6_passWord_4 : decode cX6_passWord 4 = .ok (.iload_n 1, 1) := by decide +kernel
theorem dX6_passWord_5 : decode cX6_passWord 5 = .ok (.if_icmp .eq 9, 3) := by decide +kernel
theorem dX6_passWord_8 : decode cX6_passWord 8 = .ok (.aload_n 0, 1) := by decide +kernel
theorem dX6_passWord_9 : decode cX6_passWord 9 = .ok (.iconst 2, 1) := by decide +kernel
theorem dX6_passWord_10 : decode cX6_passWord 10 = .ok (.invokevirtual 105, 3) := by decide +kernel
theorem dX6_passWord_13 : decode cX6_passWord 13 = .ok (.ireturn, 1) := by decide +kernel
theorem dX6_passWord_14 : decode cX6_passWord 14 = .ok (.aload_n 0, 1) := by decide +kernel
theorem dX6_passWord_15 : decode cX6_passWord 15 = .ok (.invokevirtual 108, 3) := by decide +kernel
theorem dX6_passWord_18 : decode cX6_passWord 18 = .ok (.iconst 1, 1) := by decide +kernel
theorem dX6_passWord_19 : decode cX6_passWord 19 = .ok (.ireturn, 1) := by decide +kernel
theorem dX1_passUnlike_0 : decode cX1_passUnlike 0 = .ok (.aload_n 0, 1) := by decide +kernel
theorem dX1_passUnlike_1 : decode cX1_passUnlike 1 = .ok (.getfield 15, 3) := by decide +kernel
theorem dX1_passUnlike_4 : decode cX1_passUnlike 4 = .ok (.invokevirtual 64, 3) := by decide +kernel
theorem dX1_passUnlike_7 : decode cX1_passUnlike 7 = .ok (.aload_n 0, 1) := by decide +kernel
theorem dX1_passUnlike_8 : decode cX1_passUnlike 8 = .ok (.getfield 19, 3) := by decide +kernel
theorem dX1_passUnlike_11 : decode cX1_passUnlike 11 = .ok (.aload_n 0, 1) := by decide +kernel
theorem dX1_passUnlike_12 : decode cX1_passUnlike 12 = .ok (.getfield 15, 3) := by decide +kernel
theorem dX1_passUnlike_15 : decode cX1_passUnlike 15 = .ok (.invokevirtual 73, 3) := by decide +kernel
theorem dX1_passUnlike_18 : decode cX1_passUnlike 18 = .ok (.invokevirtual 91, 3) := by decide +kernel
theorem dX1_passUnlike_21 : decode cX1_passUnlike 21 = .ok (.istore_n 1, 1) := by decide +kernel
theorem dX1_passUnlike_22 : decode cX1_passUnlike 22 = .ok (.iload_n 1, 1) := by decide +kernel
theorem dX1_passUnlike_23 : decode cX1_passUnlike 23 = .ok (.iconst (-1), 1) := by decide +kernel
theorem dX1_passUnlike_24 : decode cX1_passUnlike 24 = .ok (.if_icmp .ne 18, 3) := by decide +kernel
theorem dX1_passUnlike_27 : decode cX1_passUnlike 27 = .ok (.aload_n 0, 1) := by decide +kernel
theorem dX1_passUnlike_28 : decode cX1_passUnlike 28 = .ok (.getfield 15, 3) := by decide +kernel
theorem dX1_passUnlike_31 : decode cX1_passUnlike 31 = .ok (.aload_n 0, 1) := by decide +kernel
theorem dX1_passUnlike_32 : decode cX1_passUnlike 32 = .ok (.getfield 15, 3) := by decide +kernel
theorem dX1_passUnlike_35 : decode cX1_passUnlike 35 = .ok (.invokevirtual 70, 3) := by decide +kernel
theorem dX1_passUnlike_38 : decode cX1_passUnlike 38 = .ok (.invokevirtual 56, 3) := by decide +kernel
theorem dX1_passUnlike_41 : decode cX1_passUnlike 41 = .ok (.ireturn, 1) := by decide +kernel
theorem dX1_passUnlike_42 : decode cX1_passUnlike 42 = .ok (.aload_n 0, 1) := by decide +kernel
theorem dX1_passUnlike_43 : decode cX1_passUnlike 43 = .ok (.getfield 15, 3) := by decide +kernel
theorem dX1_passUnlike_46 : decode cX1_passUnlike 46 = .ok (.invokevirtual 64, 3) := by decide +kernel
theorem dX1_passUnlike_49 : decode cX1_passUnlike 49 = .ok (.aload_n 0, 1) := by decide +kernel
theorem dX1_passUnlike_50 : decode cX1_passUnlike 50 = .ok (.getfield 19, 3) := by decide +kernel
theorem dX1_passUnlike_53 : decode cX1_passUnlike 53 = .ok (.aload_n 0, 1) := by decide +kernel
theorem dX1_passUnlike_54 : decode cX1_passUnlike 54 = .ok (.getfield 15, 3) := by decide +kernel
theorem dX1_passUnlike_57 : decode cX1_passUnlike 57 = .ok (.invokevirtual 73, 3) := by decide +kernel
theorem dX1_passUnlike_60 : decode cX1_passUnlike 60 = .ok (.invokevirtual 91, 3) := by decide +kernel
theorem dX1_passUnlike_63 : decode cX1_passUnlike 63 = .ok (.istore_n 2, 1) := by decide +kernel
theorem dX1_passUnlike_64 : decode cX1_passUnlike 64 = .ok (.iload_n 2, 1) := by decide +kernel
theorem dX1_passUnlike_65 : decode cX1_passUnlike 65 = .ok (.iconst (-1), 1) := by decide +kernel
theorem dX1_passUnlike_66 : decode cX1_passUnlike 66 = .ok (.if_icmp .ne 18, 3) := by decide +kernel
theorem dX1_passUnlike_69 : decode cX1_passUnlike 69 = .ok (.aload_n 0, 1) := by decide +kernel
theorem dX1_passUnlike_70 : decode cX1_passUnlike 70 = .ok (.getfield 15, 3) := by decide +kernel
theorem dX1_passUnlike_73 : decode cX1_passUnlike 73 = .ok (.aload_n 0, 1) := by decide +kernel
theorem dX1_passUnlike_74 : decode cX1_passUnlike 74 = .ok (.getfield 15, 3) := by decide +kernel
theorem dX1_passUnlike_77 : decode cX1_passUnlike 77 = .ok (.invokevirtual 70, 3) := by decide +kernel
theorem dX1_passUnlike_80 : decode cX1_passUnlike 80 = .ok (.invokevirtual 56, 3) := by decide +kernel
theorem dX1_passUnlike_83 : decode cX1_passUnlike 83 = .ok (.ireturn, 1) := by decide +kernel
theorem dX1_passUnlike_84 : decode cX1_passUnlike 84 = .ok (.iload_n 1, 1) := by decide +kernel
theorem dX1_passUnlike_85 : decode cX1_passUnlike 85 = .ok (.iload_n 2, 1) := by decide +kernel
theorem dX1_passUnlike_86 : decode cX1_passUnlike 86 = .ok (.if_icmp .ne 12, 3) := by decide +kernel
theorem dX1_passUnlike_89 : decode cX1_passUnlike 89 = .ok (.aload_n 0, 1) := by decide +kernel
theorem dX1_passUnlike_90 : decode cX1_passUnlike 90 = .ok (.getfield 15, 3) := by decide +kernel
theorem dX1_passUnlike_93 : decode cX1_passUnlike 93 = .ok (.iconst 5, 1) := by decide +kernel
theorem dX1_passUnlike_94 : decode cX1_passUnlike 94 = .ok (.invokevirtual 56, 3) := by decide +kernel
theorem dX1_passUnlike_97 : decode cX1_passUnlike 97 = .ok (.ireturn, 1) := by decide +kernel
theorem dX1_passUnlike_98 : decode cX1_passUnlike 98 = .ok (.aload_n 0, 1) := by decide +kernel
theorem dX1_passUnlike_99 : decode cX1_passUnlike 99 = .ok (.getfield 15, 3) := by decide +kernel
theorem dX1_passUnlike_102 : decode cX1_passUnlike 102 = .ok (.invokevirtual 64, 3) := by decide +kernel
theorem dX1_passUnlike_105 : decode cX1_passUnlike 105 = .ok (.aload_n 0, 1) := by decide +kernel
theorem dX1_passUnlike_106 : decode cX1_passUnlike 106 = .ok (.getfield 15, 3) := by decide +kernel
theorem dX1_passUnlike_109 : decode cX1_passUnlike 109 = .ok (.iconst 3, 1) := by decide +kernel
theorem dX1_passUnlike_110 : decode cX1_passUnlike 110 = .ok (.invokevirtual 95, 3) := by decide +kernel
theorem dX1_passUnlike_113 : decode cX1_passUnlike 113 = .ok (.ifCond .ne 5, 3) := by decide +kernel
theorem dX1_passUnlike_116 : decode cX1_passUnlike 116 = .ok (.iconst 0, 1) := by decide +kernel
theorem dX1_passUnlike_117 : decode cX1_passUnlike 117 = .ok (.ireturn, 1) := by decide +kernel
theorem dX1_passUnlike_118 : decode cX1_passUnlike 118 = .ok (.aload_n 0, 1) := by decide +kernel
theorem dX1_passUnlike_119 : decode cX1_passUnlike 119 = .ok (.getfield 15, 3) := by decide +kernel
theorem dX1_passUnlike_122 : decode cX1_passUnlike 122 = .ok (.invokevirtual 77, 3) := by decide +kernel
theorem dX1_passUnlike_125 : decode cX1_passUnlike 125 = .ok (.istore_n 3, 1) := by decide +kernel
theorem dX1_passUnlike_126 : decode cX1_passUnlike 126 = .ok (.aload_n 0, 1) := by decide +kernel
theorem dX1_passUnlike_127 : decode cX1_passUnlike 127 = .ok (.getfield 15, 3) := by decide +kernel
theorem dX1_passUnlike_130 : decode cX1_passUnlike 130 = .ok (.iconst 0, 1) := by decide +kernel
theorem dX1_passUnlike_131 : decode cX1_passUnlike 131 = .ok (.bipush 99, 2) := by decide +kernel
theorem dX1_passUnlike_133 : decode cX1_passUnlike 133 = .ok (.invokevirtual 80, 3) := by decide +kernel
theorem dX1_passUnlike_136 : decode cX1_passUnlike 136 = .ok (.ifCond .ne 5, 3) := by decide +kernel
theorem dX1_passUnlike_139 : decode cX1_passUnlike 139 = .ok (.iconst 0, 1) := by decide +kernel
theorem dX1_passUnlike_140 : decode cX1_passUnlike 140 = .ok (.ireturn, 1) := by decide +kernel
theorem dX1_passUnlike_141 : decode cX1_passUnlike 141 = .ok (.aload_n 0, 1) := by decide +kernel
theorem dX1_passUnlike_142 : decode cX1_passUnlike 142 = .ok (.getfield 19, 3) := by decide +kernel
theorem dX1_passUnlike_145 : decode cX1_passUnlike 145 = .ok (.iload_n 1, 1) := by decide +kernel
theorem dX1_passUnlike_146 : decode cX1_passUnlike 146 = .ok (.iload_n 2, 1) := by decide +kernel
theorem dX1_passUnlike_147 : decode cX1_passUnlike 147 = .ok (.iload_n 3, 1) := by decide +kernel
theorem dX1_passUnlike_148 : decode cX1_passUnlike 148 = .ok (.invokevirtual 98, 3) := by decide +kernel
theorem dX1_passUnlike_151 : decode cX1_passUnlike 151 = .ok (.aload_n 0, 1) := by decide +kernel
theorem dX1_passUnlike_152 : decode cX1_passUnlike 152 = .ok (.getfield 15, 3) := by decide +kernel
theorem dX1_passUnlike_155 : decode cX1_passUnlike 155 = .ok (.invokevirtual 88, 3) := by decide +kernel
theorem dX1_passUnlike_158 : decode cX1_passUnlike 158 = .ok (.ireturn, 1) := by decide +kernel
theorem dX2_isHoleAt_0 : decode cX2_isHoleAt 0 = .ok (.iconst 0, 1) := by decide +kernel
theorem dX2_isHoleAt_1 : decode cX2_isHoleAt 1 = .ok (.istore_n 3, 1) := by decide +kernel
theorem dX2_isHoleAt_2 : decode cX2_isHoleAt 2 = .ok (.iload_n 3, 1) := by decide +kernel
theorem dX2_isHoleAt_3 : decode cX2_isHoleAt 3 = .ok (.aload_n 0, 1) := by decide +kernel
theorem dX2_isHoleAt_4 : decode cX2_isHoleAt 4 = .ok (.getfield 26, 3) := by decide +kernel
theorem dX2_isHoleAt_7 : decode cX2_isHoleAt 7 = .ok (.if_icmp .ge 31, 3) := by decide +kernel
theorem dX2_isHoleAt_10 : decode cX2_isHoleAt 10 = .ok (.aload_n 0, 1) := by decide +kernel
theorem dX2_isHoleAt_11 : decode cX2_isHoleAt 11 = .ok (.getfield 32, 3) := by decide +kernel
theorem dX2_isHoleAt_14 : decode cX2_isHoleAt 14 = .ok (.iload_n 3, 1) := by decide +kernel
theorem dX2_isHoleAt_15 : decode cX2_isHoleAt 15 = .ok (.iaload, 1) := by decide +kernel
theorem dX2_isHoleAt_16 : decode cX2_isHoleAt 16 = .ok (.iload_n 1, 1) := by decide +kernel
theorem dX2_isHoleAt_17 : decode cX2_isHoleAt 17 = .ok (.if_icmp .ne 15, 3) := by decide +kernel
theorem dX2_isHoleAt_20 : decode cX2_isHoleAt 20 = .ok (.aload_n 0, 1) := by decide +kernel
theorem dX2_isHoleAt_21 : decode cX2_isHoleAt 21 = .ok (.getfield 35, 3) := by decide +kernel
theorem dX2_isHoleAt_24 : decode cX2_isHoleAt 24 = .ok (.iload_n 3, 1) := by decide +kernel
theorem dX2_isHoleAt_25 : decode cX2_isHoleAt 25 = .ok (.iaload, 1) := by decide +kernel
theorem dX2_isHoleAt_26 : decode cX2_isHoleAt 26 = .ok (.iload_n 2, 1) := by decide +kernel
theorem dX2_isHoleAt_27 : decode cX2_isHoleAt 27 = .ok (.if_icmp .ne 5, 3) := by decide +kernel
theorem dX2_isHoleAt_30 : decode cX2_isHoleAt 30 = .ok (.iconst 1, 1) := by decide +kernel
theorem dX2_isHoleAt_31 : decode cX2_isHoleAt 31 = .ok (.ireturn, 1) := by decide +kernel
theorem dX2_isHoleAt_32 : decode cX2_isHoleAt 32 = .ok (.iinc 3 1, 3) := by decide +kernel
theorem dX2_isHoleAt_35 : decode cX2_isHoleAt 35 = .ok (.goto (-33), 3) := by decide +kernel
theorem dX2_isHoleAt_38 : decode cX2_isHoleAt 38 = .ok (.iconst 0, 1) := by decide +kernel
theorem dX2_isHoleAt_39 : decode cX2_isHoleAt 39 = .ok (.ireturn, 1) := by decide +kernel
theorem dX2_addHole_0 : decode cX2_addHole 0 = .ok (.aload_n 0, 1) := by decide +kernel
theorem dX2_addHole_1 : decode cX2_addHole 1 = .ok (.getfield 29, 3) := by decide +kernel
theorem dX2_addHole_4 : decode cX2_addHole 4 = .ok (.aload_n 0, 1) := by decide +kernel
theorem dX2_addHole_5 : decode cX2_addHole 5 = .ok (.getfield 26, 3) := by decide +kernel
theorem dX2_addHole_8 : decode cX2_addHole 8 = .ok (.lload_n 1, 1) := by decide +kernel
theorem dX2_addHole_9 : decode cX2_addHole 9 = .ok (.lastore, 1) := by decide +kernel
theorem dX2_addHole_10 : decode cX2_addHole 10 = .ok (.aload_n 0, 1) := by decide +kernel
theorem dX2_addHole_11 : decode cX2_addHole 11 = .ok (.getfield 32, 3) := by decide +kernel
theorem dX2_addHole_14 : decode cX2_addHole 14 = .ok (.aload_n 0, 1) := by decide +kernel
theorem dX2_addHole_15 : decode cX2_addHole 15 = .ok (.getfield 26, 3) := by decide +kernel
theorem dX2_addHole_18 : decode cX2_addHole 18 = .ok (.iload_n 3, 1) := by decide +kernel
theorem dX2_addHole_19 : decode cX2_addHole 19 = .ok (.iastore, 1) := by decide +kernel
theorem dX2_addHole_20 : decode cX2_addHole 20 = .ok (.aload_n 0, 1) := by decide +kernel
theorem dX2_addHole_21 : decode cX2_addHole 21 = .ok (.getfield 35, 3) := by decide +kernel
theorem dX2_addHole_24 : decode cX2_addHole 24 = .ok (.aload_n 0, 1) := by decide +kernel
theorem dX2_addHole_25 : decode cX2_addHole 25 = .ok (.getfield 26, 3) := by decide +kernel
theorem dX2_addHole_28 : decode cX2_addHole 28 = .ok (.iload 4, 2) := by decide +kernel
theorem dX2_addHole_30 : decode cX2_addHole 30 = .ok (.iastore, 1) := by decide +kernel
theorem dX2_addHole_31 : decode cX2_addHole 31 = .ok (.aload_n 0, 1) := by decide +kernel
theorem dX2_addHole_32 : decode cX2_addHole 32 = .ok (.getfield 38, 3) := by decide +kernel
theorem dX2_addHole_35 : decode cX2_addHole 35 = .ok (.aload_n 0, 1) := by decide +kernel
theorem dX2_addHole_36 : decode cX2_addHole 36 = .ok (.getfield 26, 3) := by decide +kernel
theorem dX2_addHole_39 : decode cX2_addHole 39 = .ok (.iconst 0, 1) := by decide +kernel
theorem dX2_addHole_40 : decode cX2_addHole 40 = .ok (.iastore, 1) := by decide +kernel
theorem dX2_addHole_41 : decode cX2_addHole 41 = .ok (.aload_n 0, 1) := by decide +kernel
theorem dX2_addHole_42 : decode cX2_addHole 42 = .ok (.dup, 1) := by decide +kernel
theorem dX2_addHole_43 : decode cX2_addHole 43 = .ok (.getfield 26, 3) := by decide +kernel
theorem dX2_addHole_46 : decode cX2_addHole 46 = .ok (.iconst 1, 1) := by decide +kernel
theorem dX2_addHole_47 : decode cX2_addHole 47 = .ok (.iadd, 1) := by decide +kernel
theorem dX2_addHole_48 : decode cX2_addHole 48 = .ok (.putfield 26, 3) := by decide +kernel
theorem dX2_addHole_51 : decode cX2_addHole 51 = .ok (.return_, 1) := by decide +kernel
theorem dX10_slot_0 : decode cX10_slot 0 = .ok (.iload_n 0, 1) := by decide +kernel
theorem dX10_slot_1 : decode cX10_slot 1 = .ok (.bipush 12, 2) := by decide +kernel
theorem dX10_slot_3 : decode cX10_slot 3 = .ok (.imul, 1) := by decide +kernel
theorem dX10_slot_4 : decode cX10_slot 4 = .ok (.iload_n 1, 1) := by decide +kernel
theorem dX10_slot_5 : decode cX10_slot 5 = .ok (.iadd, 1) := by decide +kernel
theorem dX10_slot_6 : decode cX10_slot 6 = .ok (.ireturn, 1) := by decide +kernel
theorem dX2_addLayer_0 : decode cX2_addLayer 0 = .ok (.aload_n 0, 1) := by decide +kernel
theorem dX2_addLayer_1 : decode cX2_addLayer 1 = .ok (.getfield 26, 3) := by decide +kernel
theorem dX2_addLayer_4 : decode cX2_addLayer 4 = .ok (.iconst 1, 1) := by decide +kernel
theorem dX2_addLayer_5 : decode cX2_addLayer 5 = .ok (.isub, 1) := by decide +kernel
theorem dX2_addLayer_6 : decode cX2_addLayer 6 = .ok (.istore_n 3, 1) := by decide +kernel
theorem dX2_addLayer_7 : decode cX2_addLayer 7 = .ok (.iload_n 3, 1) := by decide +kernel
theorem dX2_addLayer_8 : decode cX2_addLayer 8 = .ok (.aload_n 0, 1) := by decide +kernel
theorem dX2_addLayer_9 : decode cX2_addLayer 9 = .ok (.getfield 38, 3) := by decide +kernel
theorem dX2_addLayer_12 : decode cX2_addLayer 12 = .ok (.iload_n 3, 1) := by decide +kernel
theorem dX2_addLayer_13 : decode cX2_addLayer 13 = .ok (.iaload, 1) := by decide +kernel
theorem dX2_addLayer_14 : decode cX2_addLayer 14 = .ok (.invokestatic 93, 3) := by decide +kernel
theorem dX2_addLayer_17 : decode cX2_addLayer 17 = .ok (.istore 4, 2) := by decide +kernel
theorem dX2_addLayer_19 : decode cX2_addLayer 19 = .ok (.aload_n 0, 1) := by decide +kernel
theorem dX2_addLayer_20 : decode cX2_addLayer 20 = .ok (.getfield 41, 3) := by decide +kernel
theorem dX2_addLayer_23 : decode cX2_addLayer 23 = .ok (.iload 4, 2) := by decide +kernel
theorem dX2_addLayer_25 : decode cX2_addLayer 25 = .ok (.iload_n 1, 1) := by decide +kernel
theorem dX2_addLayer_26 : decode cX2_addLayer 26 = .ok (.iastore, 1) := by decide +kernel
theorem dX2_addLayer_27 : decode cX2_addLayer 27 = .ok (.aload_n 0, 1) := by decide +kernel
theorem dX2_addLayer_28 : decode cX2_addLayer 28 = .ok (.getfield 44, 3) := by decide +kernel
theorem dX2_addLayer_31 : decode cX2_addLayer 31 = .ok (.iload 4, 2) := by decide +kernel
theorem dX2_addLayer_33 : decode cX2_addLayer 33 = .ok (.iload_n 2, 1) := by decide +kernel
theorem dX2_addLayer_34 : decode cX2_addLayer 34 = .ok (.iastore, 1) := by decide +kernel
theorem dX2_addLayer_35 : decode cX2_addLayer 35 = .ok (.aload_n 0, 1) := by decide +kernel
theorem dX2_addLayer_36 : decode cX2_addLayer 36 = .ok (.getfield 38, 3) := by decide +kernel
theorem dX2_addLayer_39 : decode cX2_addLayer 39 = .ok (.iload_n 3, 1) := by decide +kernel
theorem dX2_addLayer_40 : decode cX2_addLayer 40 = .ok (.dup2, 1) := by decide +kernel
theorem dX2_addLayer_41 : decode cX2_addLayer 41 = .ok (.iaload, 1) := by decide +kernel
theorem dX2_addLayer_42 : decode cX2_addLayer 42 = .ok (.iconst 1, 1) := by decide +kernel
theorem dX2_addLayer_43 : decode cX2_addLayer 43 = .ok (.iadd, 1) := by decide +kernel
theorem dX2_addLayer_44 : decode cX2_addLayer 44 = .ok (.iastore, 1) := by decide +kernel
theorem dX2_addLayer_45 : decode cX2_addLayer 45 = .ok (.return_, 1) := by decide +kernel
theorem dX1_passBeds_0 : decode cX1_passBeds 0 = .ok (.iconst 0, 1) := by decide +kernel
theorem dX1_passBeds_1 : decode cX1_passBeds 1 = .ok (.istore_n 1, 1) := by decide +kernel
theorem dX1_passBeds_2 : decode cX1_passBeds 2 = .ok (.iload_n 1, 1) := by decide +kernel
theorem dX1_passBeds_3 : decode cX1_passBeds 3 = .ok (.bipush 8, 2) := by decide +kernel
theorem dX1_passBeds_5 : decode cX1_passBeds 5 = .ok (.if_icmp .gt 132, 3) := by decide +kernel
theorem dX1_passBeds_8 : decode cX1_passBeds 8 = .ok (.aload_n 0, 1) := by decide +kernel
theorem dX1_passBeds_9 : decode cX1_passBeds 9 = .ok (.getfield 15, 3) := by decide +kernel
theorem dX1_passBeds_12 : decode cX1_passBeds 12 = .ok (.invokevirtual 37, 3) := by decide +kernel
theorem dX1_passBeds_15 : decode cX1_passBeds 15 = .ok (.bipush 6, 2) := by decide +kernel
theorem dX1_passBeds_17 : decode cX1_passBeds 17 = .ok (.if_icmp .ne 120, 3) := by decide +kernel
theorem dX1_passBeds_20 : decode cX1_passBeds 20 = .ok (.iload_n 1, 1) := by decide +kernel
theorem dX1_passBeds_21 : decode cX1_passBeds 21 = .ok (.bipush 8, 2) := by decide +kernel
theorem dX1_passBeds_23 : decode cX1_passBeds 23 = .ok (.if_icmp .ne 13, 3) := by decide +kernel
theorem dX1_passBeds_26 : decode cX1_passBeds 26 = .ok (.aload_n 0, 1) := by decide +kernel
theorem dX1_passBeds_27 : decode cX1_passBeds 27 = .ok (.getfield 15, 3) := by decide +kernel
theorem dX1_passBeds_30 : decode cX1_passBeds 30 = .ok (.bipush 6, 2) := by decide +kernel
theorem dX1_passBeds_32 : decode cX1_passBeds 32 = .ok (.invokevirtual 56, 3) := by decide +kernel
theorem dX1_passBeds_35 : decode cX1_passBeds 35 = .ok (.ireturn, 1) := by decide +kernel
theorem dX1_passBeds_36 : decode cX1_passBeds 36 = .ok (.aload_n 0, 1) := by decide +kernel
theorem dX1_passBeds_37 : decode cX1_passBeds 37 = .ok (.getfield 15, 3) := by decide +kernel
theorem dX1_passBeds_40 : decode cX1_passBeds 40 = .ok (.invokevirtual 64, 3) := by decide +kernel
theorem dX1_passBeds_43 : decode cX1_passBeds 43 = .ok (.aload_n 0, 1) := by decide +kernel
theorem dX1_passBeds_44 : decode cX1_passBeds 44 = .ok (.getfield 19, 3) := by decide +kernel
theorem dX1_passBeds_47 : decode cX1_passBeds 47 = .ok (.aload_n 0, 1) := by decide +kernel
theorem dX1_passBeds_48 : decode cX1_passBeds 48 = .ok (.getfield 15, 3) := by decide +kernel
theorem dX1_passBeds_51 : decode cX1_passBeds 51 = .ok (.invokevirtual 73, 3) := by decide +kernel
theorem dX1_passBeds_54 : decode cX1_passBeds 54 = .ok (.invokevirtual 91, 3) := by decide +kernel
theorem dX1_passBeds_57 : decode cX1_passBeds 57 = .ok (.istore_n 2, 1) := by decide +kernel
theorem dX1_passBeds_58 : decode cX1_passBeds 58 = .ok (.iload_n 2, 1) := by decide +kernel
theorem dX1_passBeds_59 : decode cX1_passBeds 59 = .ok (.iconst (-1), 1) := by decide +kernel
theorem dX1_passBeds_60 : decode cX1_passBeds 60 = .ok (.if_icmp .ne 18, 3) := by decide +kernel
theorem dX1_passBeds_63 : decode cX1_passBeds 63 = .ok (.aload_n 0, 1) := by decide +kernel
theorem dX1_passBeds_64 : decode cX1_passBeds 64 = .ok (.getfield 15, 3) := by decide +kernel
theorem dX1_passBeds_67 : decode cX1_passBeds 67 = .ok (.aload_n 0, 1) := by decide +kernel
theorem dX1_passBeds_68 : decode cX1_passBeds 68 = .ok (.getfield 15, 3) := by decide +kernel
theorem dX1_passBeds_71 : decode cX1_passBeds 71 = .ok (.invokevirtual 70, 3) := by decide +kernel
theorem dX1_passBeds_74 : decode cX1_passBeds 74 = .ok (.invokevirtual 56, 3) := by decide +kernel
theorem dX1_passBeds_77 : decode cX1_passBeds 77 = .ok (.ireturn, 1) := by decide +kernel
theorem dX1_passBeds_78 : decode cX1_passBeds 78 = .ok (.aload_n 0, 1) := by decide +kernel
theorem dX1_passBeds_79 : decode cX1_passBeds 79 = .ok (.getfield 15, 3) := by decide +kernel
theorem dX1_passBeds_82 : decode cX1_passBeds 82 = .ok (.invokevirtual 64, 3) := by decide +kernel
theorem dX1_passBeds_85 : decode cX1_passBeds 85 = .ok (.aload_n 0, 1) := by decide +kernel
theorem dX1_passBeds_86 : decode cX1_passBeds 86 = .ok (.getfield 15, 3) := by decide +kernel
theorem dX1_passBeds_89 : decode cX1_passBeds 89 = .ok (.bipush 7, 2) := by decide +kernel
theorem dX1_passBeds_91 : decode cX1_passBeds 91 = .ok (.invokevirtual 95, 3) := by decide +kernel
theorem dX1_passBeds_94 : decode cX1_passBeds 94 = .ok (.ifCond .ne 5, 3) := by decide +kernel
theorem dX1_passBeds_97 : decode cX1_passBeds 97 = .ok (.iconst 0, 1) := by decide +kernel
theorem dX1_passBeds_98 : decode cX1_passBeds 98 = .ok (.ireturn, 1) := by decide +kernel
theorem dX1_passBeds_99 : decode cX1_passBeds 99 = .ok (.aload_n 0, 1) := by decide +kernel
theorem dX1_passBeds_100 : decode cX1_passBeds 100 = .ok (.getfield 15, 3) := by decide +kernel
theorem dX1_passBeds_103 : decode cX1_passBeds 103 = .ok (.invokevirtual 77, 3) := by decide +kernel
theorem dX1_passBeds_106 : decode cX1_passBeds 106 = .ok (.istore_n 3, 1) := by decide +kernel
theorem dX1_passBeds_107 : decode cX1_passBeds 107 = .ok (.aload_n 0, 1) := by decide +kernel
theorem dX1_passBeds_108 : decode cX1_passBeds 108 = .ok (.getfield 15, 3) := by decide +kernel
theorem dX1_passBeds_111 : decode cX1_passBeds 111 = .ok (.iconst 1, 1) := by decide +kernel
theorem dX1_passBeds_112 : decode cX1_passBeds 112 = .ok (.bipush 99, 2) := by decide +kernel
theorem dX1_passBeds_114 : decode cX1_passBeds 114 = .ok (.invokevirtual 80, 3) := by decide +kernel
theorem dX1_passBeds_117 : decode cX1_passBeds 117 = .ok (.ifCond .ne 5, 3) := by decide +kernel
theorem dX1_passBeds_120 : decode cX1_passBeds 120 = .ok (.iconst 0, 1) := by decide +kernel
theorem dX1_passBeds_121 : decode cX1_passBeds 121 = .ok (.ireturn, 1) := by decide +kernel
theorem dX1_passBeds_122 : decode cX1_passBeds 122 = .ok (.aload_n 0, 1) := by decide +kernel
theorem dX1_passBeds_123 : decode cX1_passBeds 123 = .ok (.getfield 19, 3) := by decide +kernel
theorem dX1_passBeds_126 : decode cX1_passBeds 126 = .ok (.iload_n 2, 1) := by decide +kernel
theorem dX1_passBeds_127 : decode cX1_passBeds 127 = .ok (.iload_n 3, 1) := by decide +kernel
theorem dX1_passBeds_128 : decode cX1_passBeds 128 = .ok (.invokevirtual 121, 3) := by decide +kernel
theorem dX1_passBeds_131 : decode cX1_passBeds 131 = .ok (.iinc 1 1, 3) := by decide +kernel
theorem dX1_passBeds_134 : decode cX1_passBeds 134 = .ok (.goto (-132), 3) := by decide +kernel
theorem dX1_passBeds_137 : decode cX1_passBeds 137 = .ok (.iconst 1, 1) := by decide +kernel
theorem dX1_passBeds_138 : decode cX1_passBeds 138 = .ok (.ireturn, 1) := by decide +kernel
theorem dX1_passHole_0 : decode cX1_passHole 0 = .ok (.aload_n 0, 1) := by decide +kernel
theorem dX1_passHole_1 : decode cX1_passHole 1 = .ok (.getfield 19, 3) := by decide +kernel
theorem dX1_passHole_4 : decode cX1_passHole 4 = .ok (.getfield 102, 3) := by decide +kernel
theorem dX1_passHole_7 : decode cX1_passHole 7 = .ok (.bipush 6, 2) := by decide +kernel
theorem dX1_passHole_9 : decode cX1_passHole 9 = .ok (.if_icmp .lt 13, 3) := by decide +kernel
theorem dX1_passHole_12 : decode cX1_passHole 12 = .ok (.aload_n 0, 1) := by decide +kernel
theorem dX1_passHole_13 : decode cX1_passHole 13 = .ok (.getfield 15, 3) := by decide +kernel
theorem dX1_passHole_16 : decode cX1_passHole 16 = .ok (.bipush 6, 2) := by decide +kernel
theorem dX1_passHole_18 : decode cX1_passHole 18 = .ok (.invokevirtual 56, 3) := by decide +kernel
theorem dX1_passHole_21 : decode cX1_passHole 21 = .ok (.ireturn, 1) := by decide +kernel
theorem dX1_passHole_22 : decode cX1_passHole 22 = .ok (.aload_n 0, 1) := by decide +kernel
theorem dX1_passHole_23 : decode cX1_passHole 23 = .ok (.getfield 15, 3) := by decide +kernel
theorem dX1_passHole_26 : decode cX1_passHole 26 = .ok (.invokevirtual 64, 3) := by decide +kernel
theorem dX1_passHole_29 : decode cX1_passHole 29 = .ok (.aload_n 0, 1) := by decide +kernel
theorem dX1_passHole_30 : decode cX1_passHole 30 = .ok (.invokevirtual 67, 3) := by decide +kernel
theorem dX1_passHole_33 : decode cX1_passHole 33 = .ok (.ifCond .ne 18, 3) := by decide +kernel
theorem dX1_passHole_36 : decode cX1_passHole 36 = .ok (.aload_n 0, 1) := by decide +kernel
theorem dX1_passHole_37 : decode cX1_passHole 37 = .ok (.getfield 15, 3) := by decide +kernel
theorem dX1_passHole_40 : decode cX1_passHole 40 = .ok (.aload_n 0, 1) := by decide +kernel
theorem dX1_passHole_41 : decode cX1_passHole 41 = .ok (.getfield 15, 3) := by decide +kernel
theorem dX1_passHole_44 : decode cX1_passHole 44 = .ok (.invokevirtual 70, 3) := by decide +kernel
theorem dX1_passHole_47 : decode cX1_passHole 47 = .ok (.invokevirtual 56, 3) := by decide +kernel
theorem dX1_passHole_50 : decode cX1_passHole 50 = .ok (.ireturn, 1) := by decide +kernel
theorem dX1_passHole_51 : decode cX1_passHole 51 = .ok (.aload_n 0, 1) := by decide +kernel
theorem dX1_passHole_52 : decode cX1_passHole 52 = .ok (.getfield 15, 3) := by decide +kernel
theorem dX1_passHole_55 : decode cX1_passHole 55 = .ok (.invokevirtual 73, 3) := by decide +kernel
theorem dX1_passHole_58 : decode cX1_passHole 58 = .ok (.lstore_n 1, 1) := by decide +kernel
theorem dX1_passHole_59 : decode cX1_passHole 59 = .ok (.aload_n 0, 1) := by decide +kernel
theorem dX1_passHole_60 : decode cX1_passHole 60 = .ok (.getfield 15, 3) := by decide +kernel
theorem dX1_passHole_63 : decode cX1_passHole 63 = .ok (.invokevirtual 64, 3) := by decide +kernel
theorem dX1_passHole_66 : decode cX1_passHole 66 = .ok (.aload_n 0, 1) := by decide +kernel
theorem dX1_passHole_67 : decode cX1_passHole 67 = .ok (.getfield 15, 3) := by decide +kernel
theorem dX1_passHole_70 : decode cX1_passHole 70 = .ok (.iconst 5, 1) := by decide +kernel
theorem dX1_passHole_71 : decode cX1_passHole 71 = .ok (.invokevirtual 95, 3) := by decide +kernel
theorem dX1_passHole_74 : decode cX1_passHole 74 = .ok (.ifCond .ne 5, 3) := by decide +kernel
theorem dX1_passHole_77 : decode cX1_passHole 77 = .ok (.iconst 0, 1) := by decide +kernel
theorem dX1_passHole_78 : decode cX1_passHole 78 = .ok (.ireturn, 1) := by decide +kernel
theorem dX1_passHole_79 : decode cX1_passHole 79 = .ok (.aload_n 0, 1) := by decide +kernel
theorem dX1_passHole_80 : decode cX1_passHole 80 = .ok (.getfield 15, 3) := by decide +kernel
theorem dX1_passHole_83 : decode cX1_passHole 83 = .ok (.invokevirtual 77, 3) := by decide +kernel
theorem dX1_passHole_86 : decode cX1_passHole 86 = .ok (.istore_n 3, 1) := by decide +kernel
theorem dX1_passHole_87 : decode cX1_passHole 87 = .ok (.aload_n 0, 1) := by decide +kernel
theorem dX1_passHole_88 : decode cX1_passHole 88 = .ok (.getfield 15, 3) := by decide +kernel
theorem dX1_passHole_91 : decode cX1_passHole 91 = .ok (.iconst 0, 1) := by decide +kernel
theorem dX1_passHole_92 : decode cX1_passHole 92 = .ok (.sipush 999, 3) := by decide +kernel
theorem dX1_passHole_95 : decode cX1_passHole 95 = .ok (.invokevirtual 80, 3) := by decide +kernel
theorem dX1_passHole_98 : decode cX1_passHole 98 = .ok (.ifCond .ne 5, 3) := by decide +kernel
theorem dX1_passHole_101 : decode cX1_passHole 101 = .ok (.iconst 0, 1) := by decide +kernel
theorem dX1_passHole_102 : decode cX1_passHole 102 = .ok (.ireturn, 1) := by decide +kernel
theorem dX1_passHole_103 : decode cX1_passHole 103 = .ok (.aload_n 0, 1) := by decide +kernel
theorem dX1_passHole_104 : decode cX1_passHole 104 = .ok (.getfield 15, 3) := by decide +kernel
theorem dX1_passHole_107 : decode cX1_passHole 107 = .ok (.iconst 0, 1) := by decide +kernel
theorem dX1_passHole_108 : decode cX1_passHole 108 = .ok (.sipush 999, 3) := by decide +kernel
theorem dX1_passHole_111 : decode cX1_passHole 111 = .ok (.invokevirtual 105, 3) := by decide +kernel
theorem dX1_passHole_114 : decode cX1_passHole 114 = .ok (.ifCond .ne 18, 3) := by decide +kernel
theorem dX1_passHole_117 : decode cX1_passHole 117 = .ok (.aload_n 0, 1) := by decide +kernel
theorem dX1_passHole_118 : decode cX1_passHole 118 = .ok (.getfield 15, 3) := by decide +kernel
theorem dX1_passHole_121 : decode cX1_passHole 121 = .ok (.aload_n 0, 1) := by decide +kernel
theorem dX1_passHole_122 : decode cX1_passHole 122 = .ok (.getfield 15, 3) := by decide +kernel
theorem dX1_passHole_125 : decode cX1_passHole 125 = .ok (.invokevirtual 108, 3) := by decide +kernel
theorem dX1_passHole_128 : decode cX1_passHole 128 = .ok (.invokevirtual 56, 3) := by decide +kernel
theorem dX1_passHole_131 : decode cX1_passHole 131 = .ok (.ireturn, 1) := by decide +kernel
theorem dX1_passHole_132 : decode cX1_passHole 132 = .ok (.aload_n 0, 1) := by decide +kernel
theorem dX1_passHole_133 : decode cX1_passHole 133 = .ok (.getfield 19, 3) := by decide +kernel
theorem dX1_passHole_136 : decode cX1_passHole 136 = .ok (.iload_n 3, 1) := by decide +kernel
theorem dX1_passHole_137 : decode cX1_passHole 137 = .ok (.aload_n 0, 1) := by decide +kernel
theorem dX1_passHole_138 : decode cX1_passHole 138 = .ok (.getfield 15, 3) := by decide +kernel
theorem dX1_passHole_141 : decode cX1_passHole 141 = .ok (.invokevirtual 77, 3) := by decide +kernel
theorem dX1_passHole_144 : decode cX1_passHole 144 = .ok (.invokevirtual 111, 3) := by decide +kernel
theorem dX1_passHole_147 : decode cX1_passHole 147 = .ok (.ifCond .eq 12, 3) := by decide +kernel
theorem dX1_passHole_150 : decode cX1_passHole 150 = .ok (.aload_n 0, 1) := by decide +kernel
theorem dX1_passHole_151 : decode cX1_passHole 151 = .ok (.getfield 15, 3) := by decide +kernel
theorem dX1_passHole_154 : decode cX1_passHole 154 = .ok (.iconst 5, 1) := by decide +kernel
theorem dX1_passHole_155 : decode cX1_passHole 155 = .ok (.invokevirtual 56, 3) := by decide +kernel
theorem dX1_passHole_158 : decode cX1_passHole 158 = .ok (.ireturn, 1) := by decide +kernel
theorem dX1_passHole_159 : decode cX1_passHole 159 = .ok (.aload_n 0, 1) := by decide +kernel
theorem dX1_passHole_160 : decode cX1_passHole 160 = .ok (.getfield 19, 3) := by decide +kernel
theorem dX1_passHole_163 : decode cX1_passHole 163 = .ok (.lload_n 1, 1) := by decide +kernel
theorem dX1_passHole_164 : decode cX1_passHole 164 = .ok (.iload_n 3, 1) := by decide +kernel
theorem dX1_passHole_165 : decode cX1_passHole 165 = .ok (.aload_n 0, 1) := by decide +kernel
theorem dX1_passHole_166 : decode cX1_passHole 166 = .ok (.getfield 15, 3) := by decide +kernel
theorem dX1_passHole_169 : decode cX1_passHole 169 = .ok (.invokevirtual 77, 3) := by decide +kernel
theorem dX1_passHole_172 : decode cX1_passHole 172 = .ok (.invokevirtual 114, 3) := by decide +kernel
theorem dX1_passHole_175 : decode cX1_passHole 175 = .ok (.aload_n 0, 1) := by decide +kernel
theorem dX1_passHole_176 : decode cX1_passHole 176 = .ok (.getfield 15, 3) := by decide +kernel
theorem dX1_passHole_179 : decode cX1_passHole 179 = .ok (.invokevirtual 64, 3) := by decide +kernel
theorem dX1_passHole_182 : decode cX1_passHole 182 = .ok (.aload_n 0, 1) := by decide +kernel
theorem dX1_passHole_183 : decode cX1_passHole 183 = .ok (.invokevirtual 118, 3) := by decide +kernel
theorem dX1_passHole_186 : decode cX1_passHole 186 = .ok (.ifCond .eq 17, 3) := by decide +kernel
theorem dX1_passHole_189 : decode cX1_passHole 189 = .ok (.aload_n 0, 1) := by decide +kernel
theorem dX1_passHole_190 : decode cX1_passHole 190 = .ok (.getfield 15, 3) := by decide +kernel
theorem dX1_passHole_193 : decode cX1_passHole 193 = .ok (.invokevirtual 88, 3) := by decide +kernel
theorem dX1_passHole_196 : decode cX1_passHole 196 = .ok (.ifCond .eq 7, 3) := by decide +kernel
theorem dX1_passHole_199 : decode cX1_passHole 199 = .ok (.iconst 1, 1) := by decide +kernel
theorem dX1_passHole_200 : decode cX1_passHole 200 = .ok (.goto 4, 3) := by decide +kernel
theorem dX1_passHole_203 : decode cX1_passHole 203 = .ok (.iconst 0, 1) := by decide +kernel
theorem dX1_passHole_204 : decode cX1_passHole 204 = .ok (.ireturn, 1) := by decide +kernel
theorem dX2_turnOf_0 : decode cX2_turnOf 0 = .ok (.iload_n 2, 1) := by decide +kernel
theorem dX2_turnOf_1 : decode cX2_turnOf 1 = .ok (.iload_n 0, 1) := by decide +kernel
theorem dX2_turnOf_2 : decode cX2_turnOf 2 = .ok (.isub, 1) := by decide +kernel
theorem dX2_turnOf_3 : decode cX2_turnOf 3 = .ok (.iload 5, 2) := by decide +kernel
theorem dX2_turnOf_5 : decode cX2_turnOf 5 = .ok (.iload_n 1, 1) := by decide +kernel
theorem dX2_turnOf_6 : decode cX2_turnOf 6 = .ok (.isub, 1) := by decide +kernel
theorem dX2_turnOf_7 : decode cX2_turnOf 7 = .ok (.imul, 1) := by decide +kernel
theorem dX2_turnOf_8 : decode cX2_turnOf 8 = .ok (.iload 4, 2) := by decide +kernel
theorem dX2_turnOf_10 : decode cX2_turnOf 10 = .ok (.iload_n 0, 1) := by decide +kernel
theorem dX2_turnOf_11 : decode cX2_turnOf 11 = .ok (.isub, 1) := by decide +kernel
theorem dX2_turnOf_12 : decode cX2_turnOf 12 = .ok (.iload_n 3, 1) := by decide +kernel
theorem dX2_turnOf_13 : decode cX2_turnOf 13 = .ok (.iload_n 1, 1) := by decide +kernel
theorem dX2_turnOf_14 : decode cX2_turnOf 14 = .ok (.isub, 1) := by decide +kernel
theorem dX2_turnOf_15 : decode cX2_turnOf 15 = .ok (.imul, 1) := by decide +kernel
theorem dX2_turnOf_16 : decode cX2_turnOf 16 = .ok (.isub, 1) := by decide +kernel
theorem dX2_turnOf_17 : decode cX2_turnOf 17 = .ok (.ireturn, 1) := by decide +kernel
theorem dX2_turnOfHoles_0 : decode cX2_turnOfHoles 0 = .ok (.aload_n 0, 1) := by decide +kernel
theorem dX2_turnOfHoles_1 : decode cX2_turnOfHoles 1 = .ok (.getfield 32, 3) := by decide +kernel
theorem dX2_turnOfHoles_4 : decode cX2_turnOfHoles 4 = .ok (.iload_n 1, 1) := by decide +kernel
theorem dX2_turnOfHoles_5 : decode cX2_turnOfHoles 5 = .ok (.iaload, 1) := by decide +kernel
theorem dX2_turnOfHoles_6 : decode cX2_turnOfHoles 6 = .ok (.aload_n 0, 1) := by decide +kernel
theorem dX2_turnOfHoles_7 : decode cX2_turnOfHoles 7 = .ok (.getfield 35, 3) := by decide +kernel
theorem dX2_turnOfHoles_10 : decode cX2_turnOfHoles 10 = .ok (.iload_n 1, 1) := by decide +kernel
theorem dX2_turnOfHoles_11 : decode cX2_turnOfHoles 11 = .ok (.iaload, 1) := by decide +kernel
theorem dX2_turnOfHoles_12 : decode cX2_turnOfHoles 12 = .ok (.aload_n 0, 1) := by decide +kernel
theorem dX2_turnOfHoles_13 : decode cX2_turnOfHoles 13 = .ok (.getfield 32, 3) := by decide +kernel
theorem dX2_turnOfHoles_16 : decode cX2_turnOfHoles 16 = .ok (.iload_n 2, 1) := by decide +kernel
theorem dX2_turnOfHoles_17 : decode cX2_turnOfHoles 17 = .ok (.iaload, 1) := by decide +kernel
theorem dX2_turnOfHoles_18 : decode cX2_turnOfHoles 18 = .ok (.aload_n 0, 1) := by decide +kernel
theorem dX2_turnOfHoles_19 : decode cX2_turnOfHoles 19 = .ok (.getfield 35, 3) := by decide +kernel
theorem dX2_turnOfHoles_22 : decode cX2_turnOfHoles 22 = .ok (.iload_n 2, 1) := by decide +kernel
theorem dX2_turnOfHoles_23 : decode cX2_turnOfHoles 23 = .ok (.iaload, 1) := by decide +kernel
theorem dX2_turnOfHoles_24 : decode cX2_turnOfHoles 24 = .ok (.aload_n 0, 1) := by decide +kernel
theorem dX2_turnOfHoles_25 : decode cX2_turnOfHoles 25 = .ok (.getfield 32, 3) := by decide +kernel
theorem dX2_turnOfHoles_28 : decode cX2_turnOfHoles 28 = .ok (.iload_n 3, 1) := by decide +kernel
theorem dX2_turnOfHoles_29 : decode cX2_turnOfHoles 29 = .ok (.iaload, 1) := by decide +kernel
theorem dX2_turnOfHoles_30 : decode cX2_turnOfHoles 30 = .ok (.aload_n 0, 1) := by decide +kernel
theorem dX2_turnOfHoles_31 : decode cX2_turnOfHoles 31 = .ok (.getfield 35, 3) := by decide +kernel
theorem dX2_turnOfHoles_34 : decode cX2_turnOfHoles 34 = .ok (.iload_n 3, 1) := by decide +kernel
theorem dX2_turnOfHoles_35 : decode cX2_turnOfHoles 35 = .ok (.iaload, 1) := by decide +kernel
theorem dX2_turnOfHoles_36 : decode cX2_turnOfHoles 36 = .ok (.invokestatic 116, 3) := by decide +kernel
theorem dX2_turnOfHoles_39 : decode cX2_turnOfHoles 39 = .ok (.ireturn, 1) := by decide +kernel
theorem dX2_addTriangle_0 : decode cX2_addTriangle 0 = .ok (.aload_n 0, 1) := by decide +kernel
theorem dX2_addTriangle_1 : decode cX2_addTriangle 1 = .ok (.getfield 50, 3) := by decide +kernel
theorem dX2_addTriangle_4 : decode cX2_addTriangle 4 = .ok (.aload_n 0, 1) := by decide +kernel
theorem dX2_addTriangle_5 : decode cX2_addTriangle 5 = .ok (.getfield 47, 3) := by decide +kernel
theorem dX2_addTriangle_8 : decode cX2_addTriangle 8 = .ok (.iconst 3, 1) := by decide +kernel
theorem dX2_addTriangle_9 : decode cX2_addTriangle 9 = .ok (.imul, 1) := by decide +kernel
theorem dX2_addTriangle_10 : decode cX2_addTriangle 10 = .ok (.iload_n 1, 1) := by decide +kernel
theorem dX2_addTriangle_11 : decode cX2_addTriangle 11 = .ok (.iastore, 1) := by decide +kernel
theorem dX2_addTriangle_12 : decode cX2_addTriangle 12 = .ok (.aload_n 0, 1) := by decide +kernel
theorem dX2_addTriangle_13 : decode cX2_addTriangle 13 = .ok (.getfield 50, 3) := by decide +kernel
theorem dX2_addTriangle_16 : decode cX2_addTriangle 16 = .ok (.aload_n 0, 1) := by decide +kernel
theorem dX2_addTriangle_17 : decode cX2_addTriangle 17 = .ok (.getfield 47, 3) := by decide +kernel
theorem dX2_addTriangle_20 : decode cX2_addTriangle 20 = .ok (.iconst 3, 1) := by decide +kernel
theorem dX2_addTriangle_21 : decode cX2_addTriangle 21 = .ok (.imul, 1) := by decide +kernel
theorem dX2_addTriangle_22 : decode cX2_addTriangle 22 = .ok (.iconst 1, 1) := by decide +kernel
theorem dX2_addTriangle_23 : decode cX2_addTriangle 23 = .ok (.iadd, 1) := by decide +kernel
theorem dX2_addTriangle_24 : decode cX2_addTriangle 24 = .ok (.iload_n 2, 1) := by decide +kernel
theorem dX2_addTriangle_25 : decode cX2_addTriangle 25 = .ok (.iastore, 1) := by decide +kernel
theorem dX2_addTriangle_26 : decode cX2_addTriangle 26 = .ok (.aload_n 0, 1) := by decide +kernel
theorem dX2_addTriangle_27 : decode cX2_addTriangle 27 = .ok (.getfield 50, 3) := by decide +kernel
theorem dX2_addTriangle_30 : decode cX2_addTriangle 30 = .ok (.aload_n 0, 1) := by decide +kernel
theorem dX2_addTriangle_31 : decode cX2_addTriangle 31 = .ok (.getfield 47, 3) := by decide +kernel
theorem dX2_addTriangle_34 : decode cX2_addTriangle 34 = .ok (.iconst 3, 1) := by decide +kernel
theorem dX2_addTriangle_35 : decode cX2_addTriangle 35 = .ok (.imul, 1) := by decide +kernel
theorem dX2_addTriangle_36 : decode cX2_addTriangle 36 = .ok (.iconst 2, 1) := by decide +kernel
theorem dX2_addTriangle_37 : decode cX2_addTriangle 37 = .ok (.iadd, 1) := by decide +kernel
theorem dX2_addTriangle_38 : decode cX2_addTriangle 38 = .ok (.iload_n 3, 1) := by decide +kernel
theorem dX2_addTriangle_39 : decode cX2_addTriangle 39 = .ok (.iastore, 1) := by decide +kernel
theorem dX2_addTriangle_40 : decode cX2_addTriangle 40 = .ok (.aload_n 0, 1) := by decide +kernel
theorem dX2_addTriangle_41 : decode cX2_addTriangle 41 = .ok (.dup, 1) := by decide +kernel
theorem dX2_addTriangle_42 : decode cX2_addTriangle 42 = .ok (.getfield 47, 3) := by decide +kernel
theorem dX2_addTriangle_45 : decode cX2_addTriangle 45 = .ok (.iconst 1, 1) := by decide +kernel
theorem dX2_addTriangle_46 : decode cX2_addTriangle 46 = .ok (.iadd, 1) := by decide +kernel
theorem dX2_addTriangle_47 : decode cX2_addTriangle 47 = .ok (.putfield 47, 3) := by decide +kernel
theorem dX2_addTriangle_50 : decode cX2_addTriangle 50 = .ok (.return_, 1) := by decide +kernel
theorem dX1_passTriangle_0 : decode cX1_passTriangle 0 = .ok (.aload_n 0, 1) := by decide +kernel
theorem dX1_passTriangle_1 : decode cX1_passTriangle 1 = .ok (.getfield 19, 3) := by decide +kernel
theorem dX1_passTriangle_4 : decode cX1_passTriangle 4 = .ok (.getfield 125, 3) := by decide +kernel
theorem dX1_passTriangle_7 : decode cX1_passTriangle 7 = .ok (.bipush 8, 2) := by decide +kernel
theorem dX1_passTriangle_9 : decode cX1_passTriangle 9 = .ok (.if_icmp .lt 13, 3) := by decide +kernel
theorem dX1_passTriangle_12 : decode cX1_passTriangle 12 = .ok (.aload_n 0, 1) := by decide +kernel
theorem dX1_passTriangle_13 : decode cX1_passTriangle 13 = .ok (.getfield 15, 3) := by decide +kernel
theorem dX1_passTriangle_16 : decode cX1_passTriangle 16 = .ok (.bipush 6, 2) := by decide +kernel
theorem dX1_passTriangle_18 : decode cX1_passTriangle 18 = .ok (.invokevirtual 56, 3) := by decide +kernel
theorem dX1_passTriangle_21 : decode cX1_passTriangle 21 = .ok (.ireturn, 1) := by decide +kernel
theorem dX1_passTriangle_22 : decode cX1_passTriangle 22 = .ok (.aload_n 0, 1) := by decide +kernel
theorem dX1_passTriangle_23 : decode cX1_passTriangle 23 = .ok (.getfield 15, 3) := by decide +kernel
theorem dX1_passTriangle_26 : decode cX1_passTriangle 26 = .ok (.invokevirtual 64, 3) := by decide +kernel
theorem dX1_passTriangle_29 : decode cX1_passTriangle 29 = .ok (.aload_n 0, 1) := by decide +kernel
theorem dX1_passTriangle_30 : decode cX1_passTriangle 30 = .ok (.getfield 19, 3) := by decide +kernel
theorem dX1_passTriangle_33 : decode cX1_passTriangle 33 = .ok (.aload_n 0, 1) := by decide +kernel
theorem dX1_passTriangle_34 : decode cX1_passTriangle 34 = .ok (.getfield 15, 3) := by decide +kernel
theorem dX1_passTriangle_37 : decode cX1_passTriangle 37 = .ok (.invokevirtual 73, 3) := by decide +kernel
theorem dX1_passTriangle_40 : decode cX1_passTriangle 40 = .ok (.invokevirtual 128, 3) := by decide +kernel
theorem dX1_passTriangle_43 : decode cX1_passTriangle 43 = .ok (.istore_n 1, 1) := by decide +kernel
theorem dX1_passTriangle_44 : decode cX1_passTriangle 44 = .ok (.iload_n 1, 1) := by decide +kernel
theorem dX1_passTriangle_45 : decode cX1_passTriangle 45 = .ok (.iconst (-1), 1) := by decide +kernel
theorem dX1_passTriangle_46 : decode cX1_passTriangle 46 = .ok (.if_icmp .ne 18, 3) := by decide +kernel
theorem dX1_passTriangle_49 : decode cX1_passTriangle 49 = .ok (.aload_n 0, 1) := by decide +kernel
theorem dX1_passTriangle_50 : decode cX1_passTriangle 50 = .ok (.getfield 15, 3) := by decide +kernel
theorem dX1_passTriangle_53 : decode cX1_passTriangle 53 = .ok (.aload_n 0, 1) := by decide +kernel
theorem dX1_passTriangle_54 : decode cX1_passTriangle 54 = .ok (.getfield 15, 3) := by decide +kernel
theorem dX1_passTriangle_57 : decode cX1_passTriangle 57 = .ok (.invokevirtual 70, 3) := by decide +kernel
theorem dX1_passTriangle_60 : decode cX1_passTriangle 60 = .ok (.invokevirtual 56, 3) := by decide +kernel
theorem dX1_passTriangle_63 : decode cX1_passTriangle 63 = .ok (.ireturn, 1) := by decide +kernel
theorem dX1_passTriangle_64 : decode cX1_passTriangle 64 = .ok (.aload_n 0, 1) := by decide +kernel
theorem dX1_passTriangle_65 : decode cX1_passTriangle 65 = .ok (.getfield 15, 3) := by decide +kernel
theorem dX1_passTriangle_68 : decode cX1_passTriangle 68 = .ok (.invokevirtual 64, 3) := by decide +kernel
theorem dX1_passTriangle_71 : decode cX1_passTriangle 71 = .ok (.aload_n 0, 1) := by decide +kernel
theorem dX1_passTriangle_72 : decode cX1_passTriangle 72 = .ok (.getfield 19, 3) := by decide +kernel
theorem dX1_passTriangle_75 : decode cX1_passTriangle 75 = .ok (.aload_n 0, 1) := by decide +kernel
theorem dX1_passTriangle_76 : decode cX1_passTriangle 76 = .ok (.getfield 15, 3) := by decide +kernel
theorem dX1_passTriangle_79 : decode cX1_passTriangle 79 = .ok (.invokevirtual 73, 3) := by decide +kernel
theorem dX1_passTriangle_82 : decode cX1_passTriangle 82 = .ok (.invokevirtual 128, 3) := by decide +kernel
theorem dX1_passTriangle_85 : decode cX1_passTriangle 85 = .ok (.istore_n 2, 1) := by decide +kernel
theorem dX1_passTriangle_86 : decode cX1_passTriangle 86 = .ok (.iload_n 2, 1) := by decide +kernel
theorem dX1_passTriangle_87 : decode cX1_passTriangle 87 = .ok (.iconst (-1), 1) := by decide +kernel
theorem dX1_passTriangle_88 : decode cX1_passTriangle 88 = .ok (.if_icmp .ne 18, 3) := by decide +kernel
theorem dX1_passTriangle_91 : decode cX1_passTriangle 91 = .ok (.aload_n 0, 1) := by decide +kernel
theorem dX1_passTriangle_92 : decode cX1_passTriangle 92 = .ok (.getfield 15, 3) := by decide +kernel
theorem dX1_passTriangle_95 : decode cX1_passTriangle 95 = .ok (.aload_n 0, 1) := by decide +kernel
theorem dX1_passTriangle_96 : decode cX1_passTriangle 96 = .ok (.getfield 15, 3) := by decide +kernel
theorem dX1_passTriangle_99 : decode cX1_passTriangle 99 = .ok (.invokevirtual 70, 3) := by decide +kernel
theorem dX1_passTriangle_102 : decode cX1_passTriangle 102 = .ok (.invokevirtual 56, 3) := by decide +kernel
theorem dX1_passTriangle_105 : decode cX1_passTriangle 105 = .ok (.ireturn, 1) := by decide +kernel
theorem dX1_passTriangle_106 : decode cX1_passTriangle 106 = .ok (.aload_n 0, 1) := by decide +kernel
theorem dX1_passTriangle_107 : decode cX1_passTriangle 107 = .ok (.getfield 15, 3) := by decide +kernel
theorem dX1_passTriangle_110 : decode cX1_passTriangle 110 = .ok (.invokevirtual 64, 3) := by decide +kernel
theorem dX1_passTriangle_113 : decode cX1_passTriangle 113 = .ok (.aload_n 0, 1) := by decide +kernel
theorem dX1_passTriangle_114 : decode cX1_passTriangle 114 = .ok (.getfield 19, 3) := by decide +kernel
theorem dX1_passTriangle_117 : decode cX1_passTriangle 117 = .ok (.aload_n 0, 1) := by decide +kernel
theorem dX1_passTriangle_118 : decode cX1_passTriangle 118 = .ok (.getfield 15, 3) := by decide +kernel
theorem dX1_passTriangle_121 : decode cX1_passTriangle 121 = .ok (.invokevirtual 73, 3) := by decide +kernel
theorem dX1_passTriangle_124 : decode cX1_passTriangle 124 = .ok (.invokevirtual 128, 3) := by decide +kernel
theorem dX1_passTriangle_127 : decode cX1_passTriangle 127 = .ok (.istore_n 3, 1) := by decide +kernel
theorem dX1_passTriangle_128 : decode cX1_passTriangle 128 = .ok (.iload_n 3, 1) := by decide +kernel
theorem dX1_passTriangle_129 : decode cX1_passTriangle 129 = .ok (.iconst (-1), 1) := by decide +kernel
theorem dX1_passTriangle_130 : decode cX1_passTriangle 130 = .ok (.if_icmp .ne 18, 3) := by decide +kernel
theorem dX1_passTriangle_133 : decode cX1_passTriangle 133 = .ok (.aload_n 0, 1) := by decide +kernel
theorem dX1_passTriangle_134 : decode cX1_passTriangle 134 = .ok (.getfield 15, 3) := by decide +kernel
theorem dX1_passTriangle_137 : decode cX1_passTriangle 137 = .ok (.aload_n 0, 1) := by decide +kernel
theorem dX1_passTriangle_138 : decode cX1_passTriangle 138 = .ok (.getfield 15, 3) := by decide +kernel
theorem dX1_passTriangle_141 : decode cX1_passTriangle 141 = .ok (.invokevirtual 70, 3) := by decide +kernel
theorem dX1_passTriangle_144 : decode cX1_passTriangle 144 = .ok (.invokevirtual 56, 3) := by decide +kernel
theorem dX1_passTriangle_147 : decode cX1_passTriangle 147 = .ok (.ireturn, 1) := by decide +kernel
theorem dX1_passTriangle_148 : decode cX1_passTriangle 148 = .ok (.aload_n 0, 1) := by decide +kernel
theorem dX1_passTriangle_149 : decode cX1_passTriangle 149 = .ok (.getfield 19, 3) := by decide +kernel
theorem dX1_passTriangle_152 : decode cX1_passTriangle 152 = .ok (.iload_n 1, 1) := by decide +kernel
theorem dX1_passTriangle_153 : decode cX1_passTriangle 153 = .ok (.iload_n 2, 1) := by decide +kernel
theorem dX1_passTriangle_154 : decode cX1_passTriangle 154 = .ok (.iload_n 3, 1) := by decide +kernel
theorem dX1_passTriangle_155 : decode cX1_passTriangle 155 = .ok (.invokevirtual 131, 3) := by decide +kernel
theorem dX1_passTriangle_158 : decode cX1_passTriangle 158 = .ok (.ifCond .ne 12, 3) := by decide +kernel
theorem dX1_passTriangle_161 : decode cX1_passTriangle 161 = .ok (.aload_n 0, 1) := by decide +kernel
theorem dX1_passTriangle_162 : decode cX1_passTriangle 162 = .ok (.getfield 15, 3) := by decide +kernel
theorem dX1_passTriangle_165 : decode cX1_passTriangle 165 = .ok (.iconst 5, 1) := by decide +kernel
theorem dX1_passTriangle_166 : decode cX1_passTriangle 166 = .ok (.invokevirtual 56, 3) := by decide +kernel
theorem dX1_passTriangle_169 : decode cX1_passTriangle 169 = .ok (.ireturn, 1) := by decide +kernel
theorem dX1_passTriangle_170 : decode cX1_passTriangle 170 = .ok (.aload_n 0, 1) := by decide +kernel
theorem dX1_passTriangle_171 : decode cX1_passTriangle 171 = .ok (.getfield 19, 3) := by decide +kernel
theorem dX1_passTriangle_174 : decode cX1_passTriangle 174 = .ok (.iload_n 1, 1) := by decide +kernel
theorem dX1_passTriangle_175 : decode cX1_passTriangle 175 = .ok (.iload_n 2, 1) := by decide +kernel
theorem dX1_passTriangle_176 : decode cX1_passTriangle 176 = .ok (.iload_n 3, 1) := by decide +kernel
theorem dX1_passTriangle_177 : decode cX1_passTriangle 177 = .ok (.invokevirtual 135, 3) := by decide +kernel
theorem dX1_passTriangle_180 : decode cX1_passTriangle 180 = .ok (.aload_n 0, 1) := by decide +kernel
theorem dX1_passTriangle_181 : decode cX1_passTriangle 181 = .ok (.getfield 15, 3) := by decide +kernel
theorem dX1_passTriangle_184 : decode cX1_passTriangle 184 = .ok (.invokevirtual 64, 3) := by decide +kernel
theorem dX1_passTriangle_187 : decode cX1_passTriangle 187 = .ok (.aload_n 0, 1) := by decide +kernel
theorem dX1_passTriangle_188 : decode cX1_passTriangle 188 = .ok (.getfield 15, 3) := by decide +kernel
theorem dX1_passTriangle_191 : decode cX1_passTriangle 191 = .ok (.invokevirtual 88, 3) := by decide +kernel
theorem dX1_passTriangle_194 : decode cX1_passTriangle 194 = .ok (.ireturn, 1) := by decide +kernel
theorem dX1_passCoordinate_0 : decode cX1_passCoordinate 0 = .ok (.aload_n 0, 1) := by decide +kernel
theorem dX1_passCoordinate_1 : decode cX1_passCoordinate 1 = .ok (.getfield 9, 3) := by decide +kernel
theorem dX1_passCoordinate_4 : decode cX1_passCoordinate 4 = .ok (.iload_n 1, 1) := by decide +kernel
theorem dX1_passCoordinate_5 : decode cX1_passCoordinate 5 = .ok (.aload_n 0, 1) := by decide +kernel
theorem dX1_passCoordinate_6 : decode cX1_passCoordinate 6 = .ok (.getfield 15, 3) := by decide +kernel
theorem dX1_passCoordinate_9 : decode cX1_passCoordinate 9 = .ok (.invokevirtual 77, 3) := by decide +kernel
theorem dX1_passCoordinate_12 : decode cX1_passCoordinate 12 = .ok (.iastore, 1) := by decide +kernel
theorem dX1_passCoordinate_13 : decode cX1_passCoordinate 13 = .ok (.aload_n 0, 1) := by decide +kernel
theorem dX1_passCoordinate_14 : decode cX1_passCoordinate 14 = .ok (.getfield 15, 3) := by decide +kernel
theorem dX1_passCoordinate_17 : decode cX1_passCoordinate 17 = .ok (.iconst 0, 1) := by decide +kernel
theorem dX1_passCoordinate_18 : decode cX1_passCoordinate 18 = .ok (.sipush 999, 3) := by decide +kernel
theorem dX1_passCoordinate_21 : decode cX1_passCoordinate 21 = .ok (.invokevirtual 80, 3) := by decide +kernel
theorem dX1_passCoordinate_24 : decode cX1_passCoordinate 24 = .ok (.ireturn, 1) := by decide +kernel
theorem dX2_addFault_0 : decode cX2_addFault 0 = .ok (.aload_n 0, 1) := by decide +kernel
theorem dX2_addFault_1 : decode cX2_addFault 1 = .ok (.getfield 56, 3) := by decide +kernel
theorem dX2_addFault_4 : decode cX2_addFault 4 = .ok (.aload_n 0, 1) := by decide +kernel
theorem dX2_addFault_5 : decode cX2_addFault 5 = .ok (.getfield 53, 3) := by decide +kernel
theorem dX2_addFault_8 : decode cX2_addFault 8 = .ok (.lload_n 1, 1) := by decide +kernel
theorem dX2_addFault_9 : decode cX2_addFault 9 = .ok (.lastore, 1) := by decide +kernel
theorem dX2_addFault_10 : decode cX2_addFault 10 = .ok (.aload_n 3, 1) := by decide +kernel
theorem dX2_addFault_11 : decode cX2_addFault 11 = .ok (.iconst 0, 1) := by decide +kernel
theorem dX2_addFault_12 : decode cX2_addFault 12 = .ok (.aload_n 0, 1) := by decide +kernel
theorem dX2_addFault_13 : decode cX2_addFault 13 = .ok (.getfield 59, 3) := by decide +kernel
theorem dX2_addFault_16 : decode cX2_addFault 16 = .ok (.aload_n 0, 1) := by decide +kernel
theorem dX2_addFault_17 : decode cX2_addFault 17 = .ok (.getfield 53, 3) := by decide +kernel
theorem dX2_addFault_20 : decode cX2_addFault 20 = .ok (.iconst 4, 1) := by decide +kernel
theorem dX2_addFault_21 : decode cX2_addFault 21 = .ok (.imul, 1) := by decide +kernel
theorem dX2_addFault_22 : decode cX2_addFault 22 = .ok (.iconst 4, 1) := by decide +kernel
theorem dX2_addFault_23 : decode cX2_addFault 23 = .ok (.invokestatic 65, 3) := by decide +kernel
theorem dX2_addFault_26 : decode cX2_addFault 26 = .ok (.aload_n 0, 1) := by decide +kernel
theorem dX2_addFault_27 : decode cX2_addFault 27 = .ok (.getfield 62, 3) := by decide +kernel
theorem dX2_addFault_30 : decode cX2_addFault 30 = .ok (.aload_n 0, 1) := by decide +kernel
theorem dX2_addFault_31 : decode cX2_addFault 31 = .ok (.getfield 53, 3) := by decide +kernel
theorem dX2_addFault_34 : decode cX2_addFault 34 = .ok (.iload 4, 2) := by decide +kernel
theorem dX2_addFault_36 : decode cX2_addFault 36 = .ok (.iastore, 1) := by decide +kernel
theorem dX2_addFault_37 : decode cX2_addFault 37 = .ok (.aload_n 0, 1) := by decide +kernel
theorem dX2_addFault_38 : decode cX2_addFault 38 = .ok (.dup, 1) := by decide +kernel
theorem dX2_addFault_39 : decode cX2_addFault 39 = .ok (.getfield 53, 3) := by decide +kernel
theorem dX2_addFault_42 : decode cX2_addFault 42 = .ok (.iconst 1, 1) := by decide +kernel
theorem dX2_addFault_43 : decode cX2_addFault 43 = .ok (.iadd, 1) := by decide +kernel
theorem dX2_addFault_44 : decode cX2_addFault 44 = .ok (.putfield 53, 3) := by decide +kernel
theorem dX2_addFault_47 : decode cX2_addFault 47 = .ok (.return_, 1) := by decide +kernel
theorem dX1_passFault_0 : decode cX1_passFault 0 = .ok (.aload_n 0, 1) := by decide +kernel
theorem dX1_passFault_1 : decode cX1_passFault 1 = .ok (.getfield 19, 3) := by decide +kernel
theorem dX1_passFault_4 : decode cX1_passFault 4 = .ok (.getfield 138, 3) := by decide +kernel
theorem dX1_passFault_7 : decode cX1_passFault 7 = .ok (.iconst 2, 1) := by decide +kernel
theorem dX1_passFault_8 : decode cX1_passFault 8 = .ok (.if_icmp .lt 13, 3) := by decide +kernel
theorem dX1_passFault_11 : decode cX1_passFault 11 = .ok (.aload_n 0, 1) := by decide +kernel
theorem dX1_passFault_12 : decode cX1_passFault 12 = .ok (.getfield 15, 3) := by decide +kernel
theorem dX1_passFault_15 : decode cX1_passFault 15 = .ok (.bipush 6, 2) := by decide +kernel
theorem dX1_passFault_17 : decode cX1_passFault 17 = .ok (.invokevirtual 56, 3) := by decide +kernel
theorem dX1_passFault_20 : decode cX1_passFault 20 = .ok (.ireturn, 1) := by decide +kernel
theorem dX1_passFault_21 : decode cX1_passFault 21 = .ok (.aload_n 0, 1) := by decide +kernel
theorem dX1_passFault_22 : decode cX1_passFault 22 = .ok (.getfield 15, 3) := by decide +kernel
theorem dX1_passFault_25 : decode cX1_passFault 25 = .ok (.invokevirtual 64, 3) := by decide +kernel
theorem dX1_passFault_28 : decode cX1_passFault 28 = .ok (.aload_n 0, 1) := by decide +kernel
theorem dX1_passFault_29 : decode cX1_passFault 29 = .ok (.invokevirtual 67, 3) := by decide +kernel
theorem dX1_passFault_32 : decode cX1_passFault 32 = .ok (.ifCond .ne 18, 3) := by decide +kernel
theorem dX1_passFault_35 : decode cX1_passFault 35 = .ok (.aload_n 0, 1) := by decide +kernel
theorem dX1_passFault_36 : decode cX1_passFault 36 = .ok (.getfield 15, 3) := by decide +kernel
theorem dX1_passFault_39 : decode cX1_passFault 39 = .ok (.aload_n 0, 1) := by decide +kernel
theorem dX1_passFault_40 : decode cX1_passFault 40 = .ok (.getfield 15, 3) := by decide +kernel
theorem dX1_passFault_43 : decode cX1_passFault 43 = .ok (.invokevirtual 70, 3) := by decide +kernel
theorem dX1_passFault_46 : decode cX1_passFault 46 = .ok (.invokevirtual 56, 3) := by decide +kernel
theorem dX1_passFault_49 : decode cX1_passFault 49 = .ok (.ireturn, 1) := by decide +kernel
theorem dX1_passFault_50 : decode cX1_passFault 50 = .ok (.aload_n 0, 1) := by decide +kernel
theorem dX1_passFault_51 : decode cX1_passFault 51 = .ok (.getfield 15, 3) := by decide +kernel
theorem dX1_passFault_54 : decode cX1_passFault 54 = .ok (.invokevirtual 73, 3) := by decide +kernel
theorem dX1_passFault_57 : decode cX1_passFault 57 = .ok (.lstore_n 1, 1) := by decide +kernel
theorem dX1_passFault_58 : decode cX1_passFault 58 = .ok (.aload_n 0, 1) := by decide +kernel
theorem dX1_passFault_59 : decode cX1_passFault 59 = .ok (.getfield 15, 3) := by decide +kernel
theorem dX1_passFault_62 : decode cX1_passFault 62 = .ok (.invokevirtual 64, 3) := by decide +kernel
theorem dX1_passFault_65 : decode cX1_passFault 65 = .ok (.aload_n 0, 1) := by decide +kernel
theorem dX1_passFault_66 : decode cX1_passFault 66 = .ok (.getfield 15, 3) := by decide +kernel
theorem dX1_passFault_69 : decode cX1_passFault 69 = .ok (.bipush 10, 2) := by decide +kernel
theorem dX1_passFault_71 : decode cX1_passFault 71 = .ok (.invokevirtual 95, 3) := by decide +kernel
theorem dX1_passFault_74 : decode cX1_passFault 74 = .ok (.ifCond .eq 39, 3) := by decide +kernel
theorem dX1_passFault_77 : decode cX1_passFault 77 = .ok (.aload_n 0, 1) := by decide +kernel
theorem dX1_passFault_78 : decode cX1_passFault 78 = .ok (.iconst 0, 1) := by decide +kernel
theorem dX1_passFault_79 : decode cX1_passFault 79 = .ok (.invokevirtual 141, 3) := by decide +kernel
theorem dX1_passFault_82 : decode cX1_passFault 82 = .ok (.ifCond .eq 31, 3) := by decide +kernel
theorem dX1_passFault_85 : decode cX1_passFault 85 = .ok (.aload_n 0, 1) := by decide +kernel
theorem dX1_passFault_86 : decode cX1_passFault 86 = .ok (.iconst 1, 1) := by decide +kernel
theorem dX1_passFault_87 : decode cX1_passFault 87 = .ok (.invokevirtual 141, 3) := by decide +kernel
theorem dX1_passFault_90 : decode cX1_passFault 90 = .ok (.ifCond .eq 23, 3) := by decide +kernel
theorem dX1_passFault_93 : decode cX1_passFault 93 = .ok (.aload_n 0, 1) := by decide +kernel
theorem dX1_passFault_94 : decode cX1_passFault 94 = .ok (.getfield 15, 3) := by decide +kernel
theorem dX1_passFault_97 : decode cX1_passFault 97 = .ok (.bipush 11, 2) := by decide +kernel
theorem dX1_passFault_99 : decode cX1_passFault 99 = .ok (.invokevirtual 95, 3) := by decide +kernel
theorem dX1_passFault_102 : decode cX1_passFault 102 = .ok (.ifCond .eq 11, 3) := by decide +kernel
theorem dX1_passFault_105 : decode cX1_passFault 105 = .ok (.aload_n 0, 1) := by decide +kernel
theorem dX1_passFault_106 : decode cX1_passFault 106 = .ok (.iconst 2, 1) := by decide +kernel
theorem dX1_passFault_107 : decode cX1_passFault 107 = .ok (.invokevirtual 141, 3) := by decide +kernel
theorem dX1_passFault_110 : decode cX1_passFault 110 = .ok (.ifCond .ne 5, 3) := by decide +kernel
theorem dX1_passFault_113 : decode cX1_passFault 113 = .ok (.iconst 0, 1) := by decide +kernel
theorem dX1_passFault_114 : decode cX1_passFault 114 = .ok (.ireturn, 1) := by decide +kernel
theorem dX1_passFault_115 : decode cX1_passFault 115 = .ok (.aload_n 0, 1) := by decide +kernel
theorem dX1_passFault_116 : decode cX1_passFault 116 = .ok (.getfield 15, 3) := by decide +kernel
theorem dX1_passFault_119 : decode cX1_passFault 119 = .ok (.iconst 0, 1) := by decide +kernel
theorem dX1_passFault_120 : decode cX1_passFault 120 = .ok (.sipush 999, 3) := by decide +kernel
theorem dX1_passFault_123 : decode cX1_passFault 123 = .ok (.invokevirtual 105, 3) := by decide +kernel
theorem dX1_passFault_126 : decode cX1_passFault 126 = .ok (.ifCond .ne 18, 3) := by decide +kernel
theorem dX1_passFault_129 : decode cX1_passFault 129 = .ok (.aload_n 0, 1) := by decide +kernel
theorem dX1_passFault_130 : decode cX1_passFault 130 = .ok (.getfield 15, 3) := by decide +kernel
theorem dX1_passFault_133 : decode cX1_passFault 133 = .ok (.aload_n 0, 1) := by decide +kernel
theorem dX1_passFault_134 : decode cX1_passFault 134 = .ok (.getfield 15, 3) := by decide +kernel
theorem dX1_passFault_137 : decode cX1_passFault 137 = .ok (.invokevirtual 108, 3) := by decide +kernel
theorem dX1_passFault_140 : decode cX1_passFault 140 = .ok (.invokevirtual 56, 3) := by decide +kernel
theorem dX1_passFault_143 : decode cX1_passFault 143 = .ok (.ireturn, 1) := by decide +kernel
theorem dX1_passFault_144 : decode cX1_passFault 144 = .ok (.aload_n 0, 1) := by decide +kernel
theorem dX1_passFault_145 : decode cX1_passFault 145 = .ok (.getfield 9, 3) := by decide +kernel
theorem dX1_passFault_148 : decode cX1_passFault 148 = .ok (.iconst 3, 1) := by decide +kernel
theorem dX1_passFault_149 : decode cX1_passFault 149 = .ok (.aload_n 0, 1) := by decide +kernel
theorem dX1_passFault_150 : decode cX1_passFault 150 = .ok (.getfield 15, 3) := by decide +kernel
theorem dX1_passFault_153 : decode cX1_passFault 153 = .ok (.invokevirtual 77, 3) := by decide +kernel
theorem dX1_passFault_156 : decode cX1_passFault 156 = .ok (.iastore, 1) := by decide +kernel
theorem dX1_passFault_157 : decode cX1_passFault 157 = .ok (.aload_n 0, 1) := by decide +kernel
theorem dX1_passFault_158 : decode cX1_passFault 158 = .ok (.getfield 9, 3) := by decide +kernel
theorem dX1_passFault_161 : decode cX1_passFault 161 = .ok (.iconst 0, 1) := by decide +kernel
theorem dX1_passFault_162 : decode cX1_passFault 162 = .ok (.iaload, 1) := by decide +kernel
theorem dX1_passFault_163 : decode cX1_passFault 163 = .ok (.aload_n 0, 1) := by decide +kernel
theorem dX1_passFault_164 : decode cX1_passFault 164 = .ok (.getfield 9, 3) := by decide +kernel
theorem dX1_passFault_167 : decode cX1_passFault 167 = .ok (.iconst 2, 1) := by decide +kernel
theorem dX1_passFault_168 : decode cX1_passFault 168 = .ok (.iaload, 1) := by decide +kernel
theorem dX1_passFault_169 : decode cX1_passFault 169 = .ok (.if_icmp .ne 27, 3) := by decide +kernel
theorem dX1_passFault_172 : decode cX1_passFault 172 = .ok (.aload_n 0, 1) := by decide +kernel
theorem dX1_passFault_173 : decode cX1_passFault 173 = .ok (.getfield 9, 3) := by decide +kernel
theorem dX1_passFault_176 : decode cX1_passFault 176 = .ok (.iconst 1, 1) := by decide +kernel
theorem dX1_passFault_177 : decode cX1_passFault 177 = .ok (.iaload, 1) := by decide +kernel
theorem dX1_passFault_178 : decode cX1_passFault 178 = .ok (.aload_n 0, 1) := by decide +kernel
theorem dX1_passFault_179 : decode cX1_passFault 179 = .ok (.getfield 9, 3) := by decide +kernel
theorem dX1_passFault_182 : decode cX1_passFault 182 = .ok (.iconst 3, 1) := by decide +kernel
theorem dX1_passFault_183 : decode cX1_passFault 183 = .ok (.iaload, 1) := by decide +kernel
theorem dX1_passFault_184 : decode cX1_passFault 184 = .ok (.if_icmp .ne 12, 3) := by decide +kernel
theorem dX1_passFault_187 : decode cX1_passFault 187 = .ok (.aload_n 0, 1) := by decide +kernel
theorem dX1_passFault_188 : decode cX1_passFault 188 = .ok (.getfield 15, 3) := by decide +kernel
theorem dX1_passFault_191 : decode cX1_passFault 191 = .ok (.iconst 5, 1) := by decide +kernel
theorem dX1_passFault_192 : decode cX1_passFault 192 = .ok (.invokevirtual 56, 3) := by decide +kernel
theorem dX1_passFault_195 : decode cX1_passFault 195 = .ok (.ireturn, 1) := by decide +kernel
theorem dX1_passFault_196 : decode cX1_passFault 196 = .ok (.aload_n 0, 1) := by decide +kernel
theorem dX1_passFault_197 : decode cX1_passFault 197 = .ok (.getfield 15, 3) := by decide +kernel
theorem dX1_passFault_200 : decode cX1_passFault 200 = .ok (.invokevirtual 64, 3) := by decide +kernel
theorem dX1_passFault_203 : decode cX1_passFault 203 = .ok (.aload_n 0, 1) := by decide +kernel
theorem dX1_passFault_204 : decode cX1_passFault 204 = .ok (.getfield 15, 3) := by decide +kernel
theorem dX1_passFault_207 : decode cX1_passFault 207 = .ok (.bipush 12, 2) := by decide +kernel
theorem dX1_passFault_209 : decode cX1_passFault 209 = .ok (.invokevirtual 95, 3) := by decide +kernel
theorem dX1_passFault_212 : decode cX1_passFault 212 = .ok (.ifCond .ne 5, 3) := by decide +kernel
theorem dX1_passFault_215 : decode cX1_passFault 215 = .ok (.iconst 0, 1) := by decide +kernel
theorem dX1_passFault_216 : decode cX1_passFault 216 = .ok (.ireturn, 1) := by decide +kernel
theorem dX1_passFault_217 : decode cX1_passFault 217 = .ok (.aload_n 0, 1) := by decide +kernel
theorem dX1_passFault_218 : decode cX1_passFault 218 = .ok (.getfield 15, 3) := by decide +kernel
theorem dX1_passFault_221 : decode cX1_passFault 221 = .ok (.invokevirtual 77, 3) := by decide +kernel
theorem dX1_passFault_224 : decode cX1_passFault 224 = .ok (.istore_n 3, 1) := by decide +kernel
theorem dX1_passFault_225 : decode cX1_passFault 225 = .ok (.aload_n 0, 1) := by decide +kernel
theorem dX1_passFault_226 : decode cX1_passFault 226 = .ok (.getfield 15, 3) := by decide +kernel
theorem dX1_passFault_229 : decode cX1_passFault 229 = .ok (.iconst 0, 1) := by decide +kernel
theorem dX1_passFault_230 : decode cX1_passFault 230 = .ok (.sipush 999, 3) := by decide +kernel
theorem dX1_passFault_233 : decode cX1_passFault 233 = .ok (.invokevirtual 80, 3) := by decide +kernel
theorem dX1_passFault_236 : decode cX1_passFault 236 = .ok (.ifCond .ne 5, 3) := by decide +kernel
theorem dX1_passFault_239 : decode cX1_passFault 239 = .ok (.iconst 0, 1) := by decide +kernel
theorem dX1_passFault_240 : decode cX1_passFault 240 = .ok (.ireturn, 1) := by decide +kernel
theorem dX1_passFault_241 : decode cX1_passFault 241 = .ok (.aload_n 0, 1) := by decide +kernel
theorem dX1_passFault_242 : decode cX1_passFault 242 = .ok (.getfield 19, 3) := by decide +kernel
theorem dX1_passFault_245 : decode cX1_passFault 245 = .ok (.lload_n 1, 1) := by decide +kernel
theorem dX1_passFault_246 : decode cX1_passFault 246 = .ok (.aload_n 0, 1) := by decide +kernel
theorem dX1_passFault_247 : decode cX1_passFault 247 = .ok (.getfield 9, 3) := by decide +kernel
theorem dX1_passFault_250 : decode cX1_passFault 250 = .ok (.iload_n 3, 1) := by decide +kernel
theorem dX1_passFault_251 : decode cX1_passFault 251 = .ok (.invokevirtual 144, 3) := by decide +kernel
theorem dX1_passFault_254 : decode cX1_passFault 254 = .ok (.aload_n 0, 1) := by decide +kernel
theorem dX1_passFault_255 : decode cX1_passFault 255 = .ok (.getfield 15, 3) := by decide +kernel
theorem dX1_passFault_258 : decode cX1_passFault 258 = .ok (.invokevirtual 88, 3) := by decide +kernel
theorem dX1_passFault_261 : decode cX1_passFault 261 = .ok (.ireturn, 1) := by decide +kernel
theorem dX1_passPart_0 : decode cX1_passPart 0 = .ok (.aload_n 0, 1) := by decide +kernel
theorem dX1_passPart_1 : decode cX1_passPart 1 = .ok (.getfield 15, 3) := by decide +kernel
theorem dX1_passPart_4 : decode cX1_passPart 4 = .ok (.invokevirtual 37, 3) := by decide +kernel
theorem dX1_passPart_7 : decode cX1_passPart 7 = .ok (.tableswitch 78 0 9 #[53, 78, 58, 78, 63, 78, 78, 78, 68, 73], 53) := by decide +kernel
theorem dX1_passPart_60 : decode cX1_passPart 60 = .ok (.aload_n 0, 1) := by decide +kernel
theorem dX1_passPart_61 : decode cX1_passPart 61 = .ok (.invokevirtual 41, 3) := by decide +kernel
theorem dX1_passPart_64 : decode cX1_passPart 64 = .ok (.ireturn, 1) := by decide +kernel
theorem dX1_passPart_65 : decode cX1_passPart 65 = .ok (.aload_n 0, 1) := by decide +kernel
theorem dX1_passPart_66 : decode cX1_passPart 66 = .ok (.invokevirtual 44, 3) := by decide +kernel
theorem dX1_passPart_69 : decode cX1_passPart 69 = .ok (.ireturn, 1) := by decide +kernel
theorem dX1_passPart_70 : decode cX1_passPart 70 = .ok (.aload_n 0, 1) := by decide +kernel
theorem dX1_passPart_71 : decode cX1_passPart 71 = .ok (.invokevirtual 47, 3) := by decide +kernel
theorem dX1_passPart_74 : decode cX1_passPart 74 = .ok (.ireturn, 1) := by decide +kernel
theorem dX1_passPart_75 : decode cX1_passPart 75 = .ok (.aload_n 0, 1) := by decide +kernel
theorem dX1_passPart_76 : decode cX1_passPart 76 = .ok (.invokevirtual 50, 3) := by decide +kernel
theorem dX1_passPart_79 : decode cX1_passPart 79 = .ok (.ireturn, 1) := by decide +kernel
theorem dX1_passPart_80 : decode cX1_passPart 80 = .ok (.aload_n 0, 1) := by decide +kernel
theorem dX1_passPart_81 : decode cX1_passPart 81 = .ok (.invokevirtual 53, 3) := by decide +kernel
theorem dX1_passPart_84 : decode cX1_passPart 84 = .ok (.ireturn, 1) := by decide +kernel
theorem dX1_passPart_85 : decode cX1_passPart 85 = .ok (.aload_n 0, 1) := by decide +kernel
theorem dX1_passPart_86 : decode cX1_passPart 86 = .ok (.getfield 15, 3) := by decide +kernel
theorem dX1_passPart_89 : decode cX1_passPart 89 = .ok (.iconst 2, 1) := by decide +kernel
theorem dX1_passPart_90 : decode cX1_passPart 90 = .ok (.invokevirtual 56, 3) := by decide +kernel
theorem dX1_passPart_93 : decode cX1_passPart 93 = .ok (.ireturn, 1) := by decide +kernel
theorem dX1_isTaken_0 : decode cX1_isTaken 0 = .ok (.aload_n 0, 1) := by decide +kernel
theorem dX1_isTaken_1 : decode cX1_isTaken 1 = .ok (.aload_n 1, 1) := by decide +kernel
theorem dX1_isTaken_2 : decode cX1_isTaken 2 = .ok (.putfield 15, 3) := by decide +kernel
theorem dX1_isTaken_5 : decode cX1_isTaken 5 = .ok (.aload_n 0, 1) := by decide +kernel
theorem dX1_isTaken_6 : decode cX1_isTaken 6 = .ok (.aload_n 2, 1) := by decide +kernel
theorem dX1_isTaken_7 : decode cX1_isTaken 7 = .ok (.putfield 19, 3) := by decide +kernel
theorem dX1_isTaken_10 : decode cX1_isTaken 10 = .ok (.aload_n 0, 1) := by decide +kernel
theorem dX1_isTaken_11 : decode cX1_isTaken 11 = .ok (.getfield 19, 3) := by decide +kernel
theorem dX1_isTaken_14 : decode cX1_isTaken 14 = .ok (.invokevirtual 23, 3) := by decide +kernel
theorem dX1_isTaken_17 : decode cX1_isTaken 17 = .ok (.iconst 0, 1) := by decide +kernel
theorem dX1_isTaken_18 : decode cX1_isTaken 18 = .ok (.istore_n 3, 1) := by decide +kernel
theorem dX1_isTaken_19 : decode cX1_isTaken 19 = .ok (.iload_n 3, 1) := by decide +kernel
theorem dX1_isTaken_20 : decode cX1_isTaken 20 = .ok (.sipush 900, 3) := by decide +kernel
theorem dX1_isTaken_23 : decode cX1_isTaken 23 = .ok (.if_icmp .ge 28, 3) := by decide +kernel
theorem dX1_isTaken_26 : decode cX1_isTaken 26 = .ok (.aload_n 0, 1) := by decide +kernel
theorem dX1_isTaken_27 : decode cX1_isTaken 27 = .ok (.getfield 15, 3) := by decide +kernel
theorem dX1_isTaken_30 : decode cX1_isTaken 30 = .ok (.invokevirtual 28, 3) := by decide +kernel
theorem dX1_isTaken_33 : decode cX1_isTaken 33 = .ok (.ifCond .ne 18, 3) := by decide +kernel
theorem dX1_isTaken_36 : decode cX1_isTaken 36 = .ok (.aload_n 0, 1) := by decide +kernel
theorem dX1_isTaken_37 : decode cX1_isTaken 37 = .ok (.invokevirtual 34, 3) := by decide +kernel
theorem dX1_isTaken_40 : decode cX1_isTaken 40 = .ok (.ifCond .ne 5, 3) := by decide +kernel
theorem dX1_isTaken_43 : decode cX1_isTaken 43 = .ok (.iconst 0, 1) := by decide +kernel
theorem dX1_isTaken_44 : decode cX1_isTaken 44 = .ok (.ireturn, 1) := by decide +kernel
theorem dX1_isTaken_45 : decode cX1_isTaken 45 = .ok (.iinc 3 1, 3) := by decide +kernel
theorem dX1_isTaken_48 : decode cX1_isTaken 48 = .ok (.goto (-29), 3) := by decide +kernel
theorem dX1_isTaken_51 : decode cX1_isTaken 51 = .ok (.iconst 1, 1) := by decide +kernel
theorem dX1_isTaken_52 : decode cX1_isTaken 52 = .ok (.ireturn, 1) := by decide +kernel
theorem dX8_forget_0 : decode cX8_forget 0 = .ok (.aload_n 0, 1) := by decide +kernel
theorem dX8_forget_1 : decode cX8_forget 1 = .ok (.iconst 0, 1) := by decide +kernel
theorem dX8_forget_2 : decode cX8_forget 2 = .ok (.putfield 11, 3) := by decide +kernel
theorem dX8_forget_5 : decode cX8_forget 5 = .ok (.aload_n 0, 1) := by decide +kernel
theorem dX8_forget_6 : decode cX8_forget 6 = .ok (.iconst 0, 1) := by decide +kernel
theorem dX8_forget_7 : decode cX8_forget 7 = .ok (.putfield 15, 3) := by decide +kernel
theorem dX8_forget_10 : decode cX8_forget 10 = .ok (.aload_n 0, 1) := by decide +kernel
theorem dX8_forget_11 : decode cX8_forget 11 = .ok (.iconst 0, 1) := by decide +kernel
theorem dX8_forget_12 : decode cX8_forget 12 = .ok (.putfield 19, 3) := by decide +kernel
theorem dX8_forget_15 : decode cX8_forget 15 = .ok (.return_, 1) := by decide +kernel
theorem dX0_turnStale_0 : decode cX0_turnStale 0 = .ok (.aload_n 0, 1) := by decide +kernel
theorem dX0_turnStale_1 : decode cX0_turnStale 1 = .ok (.iconst 1, 1) := by decide +kernel
theorem dX0_turnStale_2 : decode cX0_turnStale 2 = .ok (.putfield 18, 3) := by decide +kernel
theorem dX0_turnStale_5 : decode cX0_turnStale 5 = .ok (.return_, 1) := by decide +kernel
theorem dX10_answer_0 : decode cX10_answer 0 = .ok (.aload_n 0, 1) := by decide +kernel
theorem dX10_answer_1 : decode cX10_answer 1 = .ok (.iconst 0, 1) := by decide +kernel
theorem dX10_answer_2 : decode cX10_answer 2 = .ok (.putfield 9, 3) := by decide +kernel
theorem dX10_answer_5 : decode cX10_answer 5 = .ok (.iload_n 1, 1) := by decide +kernel
theorem dX10_answer_6 : decode cX10_answer 6 = .ok (.ireturn, 1) := by decide +kernel
theorem dX10_field_0 : decode cX10_field 0 = .ok (.iload_n 1, 1) := by decide +kernel
theorem dX10_field_1 : decode cX10_field 1 = .ok (.ifCond .lt 14, 3) := by decide +kernel
theorem dX10_field_4 : decode cX10_field 4 = .ok (.iload_n 1, 1) := by decide +kernel
theorem dX10_field_5 : decode cX10_field 5 = .ok (.aload_n 0, 1) := by decide +kernel
theorem dX10_field_6 : decode cX10_field 6 = .ok (.getfield 29, 3) := by decide +kernel
theorem dX10_field_9 : decode cX10_field 9 = .ok (.getfield 168, 3) := by decide +kernel
theorem dX10_field_12 : decode cX10_field 12 = .ok (.if_icmp .le 9, 3) := by decide +kernel
theorem dX10_field_15 : decode cX10_field 15 = .ok (.aload_n 0, 1) := by decide +kernel
theorem dX10_field_16 : decode cX10_field 16 = .ok (.iconst 1, 1) := by decide +kernel
theorem dX10_field_17 : decode cX10_field 17 = .ok (.invokevirtual 137, 3) := by decide +kernel
theorem dX10_field_20 : decode cX10_field 20 = .ok (.ireturn, 1) := by decide +kernel
theorem dX10_field_21 : decode cX10_field 21 = .ok (.aload_n 0, 1) := by decide +kernel
theorem dX10_field_22 : decode cX10_field 22 = .ok (.getfield 29, 3) := by decide +kernel
theorem dX10_field_25 : decode cX10_field 25 = .ok (.iload_n 1, 1) := by decide +kernel
theorem dX10_field_26 : decode cX10_field 26 = .ok (.invokevirtual 171, 3) := by decide +kernel
theorem dX10_field_29 : decode cX10_field 29 = .ok (.aload_n 0, 1) := by decide +kernel
theorem dX10_field_30 : decode cX10_field 30 = .ok (.getfield 36, 3) := by decide +kernel
theorem dX10_field_33 : decode cX10_field 33 = .ok (.aload_n 0, 1) := by decide +kernel
theorem dX10_field_34 : decode cX10_field 34 = .ok (.getfield 29, 3) := by decide +kernel
theorem dX10_field_37 : decode cX10_field 37 = .ok (.aload_n 0, 1) := by decide +kernel
theorem dX10_field_38 : decode cX10_field 38 = .ok (.getfield 54, 3) := by decide +kernel
theorem dX10_field_41 : decode cX10_field 41 = .ok (.invokevirtual 174, 3) := by decide +kernel
theorem dX10_field_44 : decode cX10_field 44 = .ok (.ifCond .ne 10, 3) := by decide +kernel
theorem dX10_field_47 : decode cX10_field 47 = .ok (.aload_n 0, 1) := by decide +kernel
theorem dX10_field_48 : decode cX10_field 48 = .ok (.bipush 9, 2) := by decide +kernel
theorem dX10_field_50 : decode cX10_field 50 = .ok (.invokevirtual 137, 3) := by decide +kernel
theorem dX10_field_53 : decode cX10_field 53 = .ok (.ireturn, 1) := by decide +kernel
theorem dX10_field_54 : decode cX10_field 54 = .ok (.aload_n 0, 1) := by decide +kernel
theorem dX10_field_55 : decode cX10_field 55 = .ok (.getfield 50, 3) := by decide +kernel
theorem dX10_field_58 : decode cX10_field 58 = .ok (.astore_n 2, 1) := by decide +kernel
theorem dX10_field_59 : decode cX10_field 59 = .ok (.aload_n 0, 1) := by decide +kernel
theorem dX10_field_60 : decode cX10_field 60 = .ok (.aload_n 0, 1) := by decide +kernel
theorem dX10_field_61 : decode cX10_field 61 = .ok (.getfield 54, 3) := by decide +kernel
theorem dX10_field_64 : decode cX10_field 64 = .ok (.putfield 50, 3) := by decide +kernel
theorem dX10_field_67 : decode cX10_field 67 = .ok (.aload_n 0, 1) := by decide +kernel
theorem dX10_field_68 : decode cX10_field 68 = .ok (.aload_n 2, 1) := by decide +kernel
theorem dX10_field_69 : decode cX10_field 69 = .ok (.putfield 54, 3) := by decide +kernel
theorem dX10_field_72 : decode cX10_field 72 = .ok (.aload_n 0, 1) := by decide +kernel
theorem dX10_field_73 : decode cX10_field 73 = .ok (.getfield 60, 3) := by decide +kernel
theorem dX10_field_76 : decode cX10_field 76 = .ok (.invokevirtual 178, 3) := by decide +kernel
theorem dX10_field_79 : decode cX10_field 79 = .ok (.aload_n 0, 1) := by decide +kernel
theorem dX10_field_80 : decode cX10_field 80 = .ok (.getfield 88, 3) := by decide +kernel
theorem dX10_field_83 : decode cX10_field 83 = .ok (.invokevirtual 181, 3) := by decide +kernel
theorem dX10_field_86 : decode cX10_field 86 = .ok (.aload_n 0, 1) := by decide +kernel
theorem dX10_field_87 : decode cX10_field 87 = .ok (.aload_n 0, 1) := by decide +kernel
theorem dX10_field_88 : decode cX10_field 88 = .ok (.getfield 50, 3) := by decide +kernel
theorem dX10_field_91 : decode cX10_field 91 = .ok (.getfield 184, 3) := by decide +kernel
theorem dX10_field_94 : decode cX10_field 94 = .ok (.invokevirtual 187, 3) := by decide +kernel
theorem dX10_field_97 : decode cX10_field 97 = .ok (.ireturn, 1) := by decide +kernel
theorem dX8_add_0 : decode cX8_add 0 = .ok (.aload_n 0, 1) := by decide +kernel
theorem dX8_add_1 : decode cX8_add 1 = .ok (.getfield 19, 3) := by decide +kernel
theorem dX8_add_4 : decode cX8_add 4 = .ok (.istore_n 2, 1) := by decide +kernel
theorem dX8_add_5 : decode cX8_add 5 = .ok (.aload_n 0, 1) := by decide +kernel
theorem dX8_add_6 : decode cX8_add 6 = .ok (.getfield 22, 3) := by decide +kernel
theorem dX8_add_9 : decode cX8_add 9 = .ok (.iload_n 2, 1) := by decide +kernel
theorem dX8_add_10 : decode cX8_add 10 = .ok (.iload_n 1, 1) := by decide +kernel
theorem dX8_add_11 : decode cX8_add 11 = .ok (.iastore, 1) := by decide +kernel
theorem dX8_add_12 : decode cX8_add 12 = .ok (.aload_n 0, 1) := by decide +kernel
theorem dX8_add_13 : decode cX8_add 13 = .ok (.getfield 26, 3) := by decide +kernel
theorem dX8_add_16 : decode cX8_add 16 = .ok (.iload_n 2, 1) := by decide +kernel
theorem dX8_add_17 : decode cX8_add 17 = .ok (.iconst 0, 1) := by decide +kernel
theorem dX8_add_18 : decode cX8_add 18 = .ok (.iastore, 1) := by decide +kernel
theorem dX8_add_19 : decode cX8_add 19 = .ok (.aload_n 0, 1) := by decide +kernel
theorem dX8_add_20 : decode cX8_add 20 = .ok (.getfield 29, 3) := by decide +kernel
theorem dX8_add_23 : decode cX8_add 23 = .ok (.iload_n 2, 1) := by decide +kernel
theorem dX8_add_24 : decode cX8_add 24 = .ok (.iconst 0, 1) := by decide +kernel
theorem dX8_add_25 : decode cX8_add 25 = .ok (.iastore, 1) := by decide +kernel
theorem dX8_add_26 : decode cX8_add 26 = .ok (.aload_n 0, 1) := by decide +kernel
theorem dX8_add_27 : decode cX8_add 27 = .ok (.getfield 32, 3) := by decide +kernel
theorem dX8_add_30 : decode cX8_add 30 = .ok (.iload_n 2, 1) := by decide +kernel
theorem dX8_add_31 : decode cX8_add 31 = .ok (.iconst 0, 1) := by decide +kernel
theorem dX8_add_32 : decode cX8_add 32 = .ok (.iastore, 1) := by decide +kernel
theorem dX8_add_33 : decode cX8_add 33 = .ok (.aload_n 0, 1) := by decide +kernel
theorem dX8_add_34 : decode cX8_add 34 = .ok (.getfield 35, 3) := by decide +kernel
theorem dX8_add_37 : decode cX8_add 37 = .ok (.iload_n 2, 1) := by decide +kernel
theorem dX8_add_38 : decode cX8_add 38 = .ok (.iload_n 2, 1) := by decide +kernel
theorem dX8_add_39 : decode cX8_add 39 = .ok (.iastore, 1) := by decide +kernel
theorem dX8_add_40 : decode cX8_add 40 = .ok (.aload_n 0, 1) := by decide +kernel
theorem dX8_add_41 : decode cX8_add 41 = .ok (.dup, 1) := by decide +kernel
theorem dX8_add_42 : decode cX8_add 42 = .ok (.getfield 19, 3) := by decide +kernel
theorem dX8_add_45 : decode cX8_add 45 = .ok (.iconst 1, 1) := by decide +kernel
theorem dX8_add_46 : decode cX8_add 46 = .ok (.iadd, 1) := by decide +kernel
theorem dX8_add_47 : decode cX8_add 47 = .ok (.putfield 19, 3) := by decide +kernel
theorem dX8_add_50 : decode cX8_add 50 = .ok (.iload_n 1, 1) := by decide +kernel
theorem dX8_add_51 : decode cX8_add 51 = .ok (.bipush 22, 2) := by decide +kernel
theorem dX8_add_53 : decode cX8_add 53 = .ok (.if_icmp .eq 13, 3) := by decide +kernel
theorem dX8_add_56 : decode cX8_add 56 = .ok (.aload_n 0, 1) := by decide +kernel
theorem dX8_add_57 : decode cX8_add 57 = .ok (.dup, 1) := by decide +kernel
theorem dX8_add_58 : decode cX8_add 58 = .ok (.getfield 15, 3) := by decide +kernel
theorem dX8_add_61 : decode cX8_add 61 = .ok (.iconst 1, 1) := by decide +kernel
theorem dX8_add_62 : decode cX8_add 62 = .ok (.iadd, 1) := by decide +kernel
theorem dX8_add_63 : decode cX8_add 63 = .ok (.putfield 15, 3) := by decide +kernel
theorem dX8_add_66 : decode cX8_add 66 = .ok (.iload_n 2, 1) := by decide +kernel
theorem dX8_add_67 : decode cX8_add 67 = .ok (.ireturn, 1) := by decide +kernel
theorem dX9_passEnd_0 : decode cX9_passEnd 0 = .ok (.aload_n 0, 1) := by decide +kernel
theorem dX9_passEnd_1 : decode cX9_passEnd 1 = .ok (.getfield 15, 3) := by decide +kernel
theorem dX9_passEnd_4 : decode cX9_passEnd 4 = .ok (.ifCond .gt 12, 3) := by decide +kernel
theorem dX9_passEnd_7 : decode cX9_passEnd 7 = .ok (.aload_n 0, 1) := by decide +kernel
theorem dX9_passEnd_8 : decode cX9_passEnd 8 = .ok (.getfield 19, 3) := by decide +kernel
theorem dX9_passEnd_11 : decode cX9_passEnd 11 = .ok (.iconst 2, 1) := by decide +kernel
theorem dX9_passEnd_12 : decode cX9_passEnd 12 = .ok (.invokevirtual 45, 3) := by decide +kernel
theorem dX9_passEnd_15 : decode cX9_passEnd 15 = .ok (.ireturn, 1) := by decide +kernel
theorem dX9_passEnd_16 : decode cX9_passEnd 16 = .ok (.aload_n 0, 1) := by decide +kernel
theorem dX9_passEnd_17 : decode cX9_passEnd 17 = .ok (.dup, 1) := by decide +kernel
theorem dX9_passEnd_18 : decode cX9_passEnd 18 = .ok (.getfield 15, 3) := by decide +kernel
theorem dX9_passEnd_21 : decode cX9_passEnd 21 = .ok (.iconst 1, 1) := by decide +kernel
theorem dX9_passEnd_22 : decode cX9_passEnd 22 = .ok (.isub, 1) := by decide +kernel
theorem dX9_passEnd_23 : decode cX9_passEnd 23 = .ok (.putfield 15, 3) := by decide +kernel
theorem dX9_passEnd_26 : decode cX9_passEnd 26 = .ok (.aload_n 0, 1) := by decide +kernel
theorem dX9_passEnd_27 : decode cX9_passEnd 27 = .ok (.getfield 27, 3) := by decide +kernel
theorem dX9_passEnd_30 : decode cX9_passEnd 30 = .ok (.bipush 22, 2) := by decide +kernel
theorem dX9_passEnd_32 : decode cX9_passEnd 32 = .ok (.invokevirtual 69, 3) := by decide +kernel
theorem dX9_passEnd_35 : decode cX9_passEnd 35 = .ok (.istore_n 1, 1) := by decide +kernel
theorem dX9_passEnd_36 : decode cX9_passEnd 36 = .ok (.aload_n 0, 1) := by decide +kernel
theorem dX9_passEnd_37 : decode cX9_passEnd 37 = .ok (.getfield 27, 3) := by decide +kernel
theorem dX9_passEnd_40 : decode cX9_passEnd 40 = .ok (.getfield 80, 3) := by decide +kernel
theorem dX9_passEnd_43 : decode cX9_passEnd 43 = .ok (.iload_n 1, 1) := by decide +kernel
theorem dX9_passEnd_44 : decode cX9_passEnd 44 = .ok (.aload_n 0, 1) := by decide +kernel
theorem dX9_passEnd_45 : decode cX9_passEnd 45 = .ok (.getfield 11, 3) := by decide +kernel
theorem dX9_passEnd_48 : decode cX9_passEnd 48 = .ok (.aload_n 0, 1) := by decide +kernel
theorem dX9_passEnd_49 : decode cX9_passEnd 49 = .ok (.getfield 15, 3) := by decide +kernel
theorem dX9_passEnd_52 : decode cX9_passEnd 52 = .ok (.iaload, 1) := by decide +kernel
theorem dX9_passEnd_53 : decode cX9_passEnd 53 = .ok (.iastore, 1) := by decide +kernel
theorem dX9_passEnd_54 : decode cX9_passEnd 54 = .ok (.aload_n 0, 1) := by decide +kernel
theorem dX9_passEnd_55 : decode cX9_passEnd 55 = .ok (.getfield 27, 3) := by decide +kernel
theorem dX9_passEnd_58 : decode cX9_passEnd 58 = .ok (.getfield 80, 3) := by decide +kernel
theorem dX9_passEnd_61 : decode cX9_passEnd 61 = .ok (.aload_n 0, 1) := by decide +kernel
theorem dX9_passEnd_62 : decode cX9_passEnd 62 = .ok (.getfield 11, 3) := by decide +kernel
theorem dX9_passEnd_65 : decode cX9_passEnd 65 = .ok (.aload_n 0, 1) := by decide +kernel
theorem dX9_passEnd_66 : decode cX9_passEnd 66 = .ok (.getfield 15, 3) := by decide +kernel
theorem dX9_passEnd_69 : decode cX9_passEnd 69 = .ok (.iaload, 1) := by decide +kernel
theorem dX9_passEnd_70 : decode cX9_passEnd 70 = .ok (.iload_n 1, 1) := by decide +kernel
theorem dX9_passEnd_71 : decode cX9_passEnd 71 = .ok (.iastore, 1) := by decide +kernel
theorem dX9_passEnd_72 : decode cX9_passEnd 72 = .ok (.aload_n 0, 1) := by decide +kernel
theorem dX9_passEnd_73 : decode cX9_passEnd 73 = .ok (.getfield 19, 3) := by decide +kernel
theorem dX9_passEnd_76 : decode cX9_passEnd 76 = .ok (.invokevirtual 66, 3) := by decide +kernel
theorem dX9_passEnd_79 : decode cX9_passEnd 79 = .ok (.aload_n 0, 1) := by decide +kernel
theorem dX9_passEnd_80 : decode cX9_passEnd 80 = .ok (.getfield 19, 3) := by decide +kernel
theorem dX9_passEnd_83 : decode cX9_passEnd 83 = .ok (.invokevirtual 77, 3) := by decide +kernel
theorem dX9_passEnd_86 : decode cX9_passEnd 86 = .ok (.ireturn, 1) := by decide +kernel
theorem dX9_isDoing_0 : decode cX9_isDoing 0 = .ok (.iload_n 0, 1) := by decide +kernel
theorem dX9_isDoing_1 : decode cX9_isDoing 1 = .ok (.bipush 13, 2) := by decide +kernel
theorem dX9_isDoing_3 : decode cX9_isDoing 3 = .ok (.if_icmp .eq 27, 3) := by decide +kernel
theorem dX9_isDoing_6 : decode cX9_isDoing 6 = .ok (.iload_n 0, 1) := by decide +kernel
theorem dX9_isDoing_7 : decode cX9_isDoing 7 = .ok (.bipush 14, 2) := by decide +kernel
theorem dX9_isDoing_9 : decode cX9_isDoing 9 = .ok (.if_icmp .eq 21, 3) := by decide +kernel
theorem dX9_isDoing_12 : decode cX9_isDoing 12 = .ok (.iload_n 0, 1) := by decide +kernel
theorem dX9_isDoing_13 : decode cX9_isDoing 13 = .ok (.bipush 15, 2) := by decide +kernel
theorem dX9_isDoing_15 : decode cX9_isDoing 15 = .ok (.if_icmp .eq 15, 3) := by decide +kernel
theorem dX9_isDoing_18 : decode cX9_isDoing 18 = .ok (.iload_n 0, 1) := by decide +kernel
theorem dX9_isDoing_19 : decode cX9_isDoing 19 = .ok (.bipush 16, 2) := by decide +kernel
theorem dX9_isDoing_21 : decode cX9_isDoing 21 = .ok (.if_icmp .eq 9, 3) := by decide +kernel
theorem dX9_isDoing_24 : decode cX9_isDoing 24 = .ok (.iload_n 0, 1) := by decide +kernel
theorem dX9_isDoing_25 : decode cX9_isDoing 25 = .ok (.bipush 23, 2) := by decide +kernel
theorem dX9_isDoing_27 : decode cX9_isDoing 27 = .ok (.if_icmp .ne 7, 3) := by decide +kernel
theorem dX9_isDoing_30 : decode cX9_isDoing 30 = .ok (.iconst 1, 1) := by decide +kernel
theorem dX9_isDoing_31 : decode cX9_isDoing 31 = .ok (.goto 4, 3) := by decide +kernel
theorem dX9_isDoing_34 : decode cX9_isDoing 34 = .ok (.iconst 0, 1) := by decide +kernel
theorem dX9_isDoing_35 : decode cX9_isDoing 35 = .ok (.ireturn, 1) := by decide +kernel
theorem dX8_isFull_0 : decode cX8_isFull 0 = .ok (.aload_n 0, 1) := by decide +kernel
theorem dX8_isFull_1 : decode cX8_isFull 1 = .ok (.getfield 15, 3) := by decide +kernel
theorem dX8_isFull_4 : decode cX8_isFull 4 = .ok (.bipush 30, 2) := by decide +kernel
theorem dX8_isFull_6 : decode cX8_isFull 6 = .ok (.if_icmp .lt 7, 3) := by decide +kernel
theorem dX8_isFull_9 : decode cX8_isFull 9 = .ok (.iconst 1, 1) := by decide +kernel
theorem dX8_isFull_10 : decode cX8_isFull 10 = .ok (.goto 4, 3) := by decide +kernel
theorem dX8_isFull_13 : decode cX8_isFull 13 = .ok (.iconst 0, 1) := by decide +kernel
theorem dX8_isFull_14 : decode cX8_isFull 14 = .ok (.ireturn, 1) := by decide +kernel
theorem dX9_passNameOf_0 : decode cX9_passNameOf 0 = .ok (.iload_n 1, 1) := by decide +kernel
theorem dX9_passNameOf_1 : decode cX9_passNameOf 1 = .ok (.iconst (-1), 1) := by decide +kernel
theorem dX9_passNameOf_2 : decode cX9_passNameOf 2 = .ok (.if_icmp .ne 18, 3) := by decide +kernel
theorem dX9_passNameOf_5 : decode cX9_passNameOf 5 = .ok (.aload_n 0, 1) := by decide +kernel
theorem dX9_passNameOf_6 : decode cX9_passNameOf 6 = .ok (.getfield 19, 3) := by decide +kernel
theorem dX9_passNameOf_9 : decode cX9_passNameOf 9 = .ok (.aload_n 0, 1) := by decide +kernel
theorem dX9_passNameOf_10 : decode cX9_passNameOf 10 = .ok (.getfield 19, 3) := by decide +kernel
theorem dX9_passNameOf_13 : decode cX9_passNameOf 13 = .ok (.invokevirtual 124, 3) := by decide +kernel
theorem dX9_passNameOf_16 : decode cX9_passNameOf 16 = .ok (.invokevirtual 45, 3) := by decide +kernel
theorem dX9_passNameOf_19 : decode cX9_passNameOf 19 = .ok (.ireturn, 1) := by decide +kernel
theorem dX9_passNameOf_20 : decode cX9_passNameOf 20 = .ok (.aload_n 0, 1) := by decide +kernel
theorem dX9_passNameOf_21 : decode cX9_passNameOf 21 = .ok (.getfield 19, 3) := by decide +kernel
theorem dX9_passNameOf_24 : decode cX9_passNameOf 24 = .ok (.invokevirtual 66, 3) := by decide +kernel
theorem dX9_passNameOf_27 : decode cX9_passNameOf 27 = .ok (.iconst 1, 1) := by decide +kernel
theorem dX9_passNameOf_28 : decode cX9_passNameOf 28 = .ok (.ireturn, 1) := by decide +kernel
theorem dX9_passHole_0 : decode cX9_passHole 0 = .ok (.aload_n 0, 1) := by decide +kernel
theorem dX9_passHole_1 : decode cX9_passHole 1 = .ok (.getfield 27, 3) := by decide +kernel
theorem dX9_passHole_4 : decode cX9_passHole 4 = .ok (.getfield 99, 3) := by decide +kernel
theorem dX9_passHole_7 : decode cX9_passHole 7 = .ok (.iload_n 1, 1) := by decide +kernel
theorem dX9_passHole_8 : decode cX9_passHole 8 = .ok (.aload_n 0, 1) := by decide +kernel
theorem dX9_passHole_9 : decode cX9_passHole 9 = .ok (.getfield 23, 3) := by decide +kernel
theorem dX9_passHole_12 : decode cX9_passHole 12 = .ok (.aload_n 0, 1) := by decide +kernel
theorem dX9_passHole_13 : decode cX9_passHole 13 = .ok (.getfield 19, 3) := by decide +kernel
theorem dX9_passHole_16 : decode cX9_passHole 16 = .ok (.invokevirtual 102, 3) := by decide +kernel
theorem dX9_passHole_19 : decode cX9_passHole 19 = .ok (.invokevirtual 106, 3) := by decide +kernel
theorem dX9_passHole_22 : decode cX9_passHole 22 = .ok (.iastore, 1) := by decide +kernel
theorem dX9_passHole_23 : decode cX9_passHole 23 = .ok (.aload_n 0, 1) := by decide +kernel
theorem dX9_passHole_24 : decode cX9_passHole 24 = .ok (.aload_n 0, 1) := by decide +kernel
theorem dX9_passHole_25 : decode cX9_passHole 25 = .ok (.getfield 27, 3) := by decide +kernel
theorem dX9_passHole_28 : decode cX9_passHole 28 = .ok (.getfield 99, 3) := by decide +kernel
theorem dX9_passHole_31 : decode cX9_passHole 31 = .ok (.iload_n 1, 1) := by decide +kernel
theorem dX9_passHole_32 : decode cX9_passHole 32 = .ok (.iaload, 1) := by decide +kernel
theorem dX9_passHole_33 : decode cX9_passHole 33 = .ok (.invokevirtual 112, 3) := by decide +kernel
theorem dX9_passHole_36 : decode cX9_passHole 36 = .ok (.ireturn, 1) := by decide +kernel
theorem dX9_passRock_0 : decode cX9_passRock 0 = .ok (.aload_n 0, 1) := by decide +kernel
theorem dX9_passRock_1 : decode cX9_passRock 1 = .ok (.getfield 27, 3) := by decide +kernel
theorem dX9_passRock_4 : decode cX9_passRock 4 = .ok (.getfield 115, 3) := by decide +kernel
theorem dX9_passRock_7 : decode cX9_passRock 7 = .ok (.iload_n 1, 1) := by decide +kernel
theorem dX9_passRock_8 : decode cX9_passRock 8 = .ok (.aload_n 0, 1) := by decide +kernel
theorem dX9_passRock_9 : decode cX9_passRock 9 = .ok (.getfield 23, 3) := by decide +kernel
theorem dX9_passRock_12 : decode cX9_passRock 12 = .ok (.aload_n 0, 1) := by decide +kernel
theorem dX9_passRock_13 : decode cX9_passRock 13 = .ok (.getfield 19, 3) := by decide +kernel
theorem dX9_passRock_16 : decode cX9_passRock 16 = .ok (.invokevirtual 102, 3) := by decide +kernel
theorem dX9_passRock_19 : decode cX9_passRock 19 = .ok (.invokevirtual 118, 3) := by decide +kernel
theorem dX9_passRock_22 : decode cX9_passRock 22 = .ok (.iastore, 1) := by decide +kernel
theorem dX9_passRock_23 : decode cX9_passRock 23 = .ok (.aload_n 0, 1) := by decide +kernel
theorem dX9_passRock_24 : decode cX9_passRock 24 = .ok (.aload_n 0, 1) := by decide +kernel
theorem dX9_passRock_25 : decode cX9_passRock 25 = .ok (.getfield 27, 3) := by decide +kernel
theorem dX9_passRock_28 : decode cX9_passRock 28 = .ok (.getfield 115, 3) := by decide +kernel
theorem dX9_passRock_31 : decode cX9_passRock 31 = .ok (.iload_n 1, 1) := by decide +kernel
theorem dX9_passRock_32 : decode cX9_passRock 32 = .ok (.iaload, 1) := by decide +kernel
theorem dX9_passRock_33 : decode cX9_passRock 33 = .ok (.invokevirtual 112, 3) := by decide +kernel
theorem dX9_passRock_36 : decode cX9_passRock 36 = .ok (.ireturn, 1) := by decide +kernel
theorem dX9_passNumber_0 : decode cX9_passNumber 0 = .ok (.aload_n 0, 1) := by decide +kernel
theorem dX9_passNumber_1 : decode cX9_passNumber 1 = .ok (.getfield 27, 3) := by decide +kernel
theorem dX9_passNumber_4 : decode cX9_passNumber 4 = .ok (.getfield 127, 3) := by decide +kernel
theorem dX9_passNumber_7 : decode cX9_passNumber 7 = .ok (.iload_n 1, 1) := by decide +kernel
theorem dX9_passNumber_8 : decode cX9_passNumber 8 = .ok (.aload_n 0, 1) := by decide +kernel
theorem dX9_passNumber_9 : decode cX9_passNumber 9 = .ok (.getfield 19, 3) := by decide +kernel
theorem dX9_passNumber_12 : decode cX9_passNumber 12 = .ok (.invokevirtual 130, 3) := by decide +kernel
theorem dX9_passNumber_15 : decode cX9_passNumber 15 = .ok (.iastore, 1) := by decide +kernel
theorem dX9_passNumber_16 : decode cX9_passNumber 16 = .ok (.aload_n 0, 1) := by decide +kernel
theorem dX9_passNumber_17 : decode cX9_passNumber 17 = .ok (.getfield 19, 3) := by decide +kernel
theorem dX9_passNumber_20 : decode cX9_passNumber 20 = .ok (.iload_n 2, 1) := by decide +kernel
theorem dX9_passNumber_21 : decode cX9_passNumber 21 = .ok (.iload_n 3, 1) := by decide +kernel
theorem dX9_passNumber_22 : decode cX9_passNumber 22 = .ok (.invokevirtual 133, 3) := by decide +kernel
theorem dX9_passNumber_25 : decode cX9_passNumber 25 = .ok (.ireturn, 1) := by decide +kernel
theorem dX9_passFault_0 : decode cX9_passFault 0 = .ok (.aload_n 0, 1) := by decide +kernel
theorem dX9_passFault_1 : decode cX9_passFault 1 = .ok (.getfield 27, 3) := by decide +kernel
theorem dX9_passFault_4 : decode cX9_passFault 4 = .ok (.getfield 99, 3) := by decide +kernel
theorem dX9_passFault_7 : decode cX9_passFault 7 = .ok (.iload_n 1, 1) := by decide +kernel
theorem dX9_passFault_8 : decode cX9_passFault 8 = .ok (.aload_n 0, 1) := by decide +kernel
theorem dX9_passFault_9 : decode cX9_passFault 9 = .ok (.getfield 23, 3) := by decide +kernel
theorem dX9_passFault_12 : decode cX9_passFault 12 = .ok (.aload_n 0, 1) := by decide +kernel
theorem dX9_passFault_13 : decode cX9_passFault 13 = .ok (.getfield 19, 3) := by decide +kernel
theorem dX9_passFault_16 : decode cX9_passFault 16 = .ok (.invokevirtual 102, 3) := by decide +kernel
theorem dX9_passFault_19 : decode cX9_passFault 19 = .ok (.invokevirtual 121, 3) := by decide +kernel
theorem dX9_passFault_22 : decode cX9_passFault 22 = .ok (.iastore, 1) := by decide +kernel
theorem dX9_passFault_23 : decode cX9_passFault 23 = .ok (.aload_n 0, 1) := by decide +kernel
theorem dX9_passFault_24 : decode cX9_passFault 24 = .ok (.aload_n 0, 1) := by decide +kernel
theorem dX9_passFault_25 : decode cX9_passFault 25 = .ok (.getfield 27, 3) := by decide +kernel
theorem dX9_passFault_28 : decode cX9_passFault 28 = .ok (.getfield 99, 3) := by decide +kernel
theorem dX9_passFault_31 : decode cX9_passFault 31 = .ok (.iload_n 1, 1) := by decide +kernel
theorem dX9_passFault_32 : decode cX9_passFault 32 = .ok (.iaload, 1) := by decide +kernel
theorem dX9_passFault_33 : decode cX9_passFault 33 = .ok (.invokevirtual 112, 3) := by decide +kernel
theorem dX9_passFault_36 : decode cX9_passFault 36 = .ok (.ireturn, 1) := by decide +kernel
theorem dX9_passComparison_0 : decode cX9_passComparison 0 = .ok (.aload_n 0, 1) := by decide +kernel
theorem dX9_passComparison_1 : decode cX9_passComparison 1 = .ok (.getfield 19, 3) := by decide +kernel
theorem dX9_passComparison_4 : decode cX9_passComparison 4 = .ok (.bipush 60, 2) := by decide +kernel
theorem dX9_passComparison_6 : decode cX9_passComparison 6 = .ok (.invokevirtual 135, 3) := by decide +kernel
theorem dX9_passComparison_9 : decode cX9_passComparison 9 = .ok (.ifCond .ne 36, 3) := by decide +kernel
theorem dX9_passComparison_12 : decode cX9_passComparison 12 = .ok (.aload_n 0, 1) := by decide +kernel
theorem dX9_passComparison_13 : decode cX9_passComparison 13 = .ok (.getfield 19, 3) := by decide +kernel
theorem dX9_passComparison_16 : decode cX9_passComparison 16 = .ok (.bipush 62, 2) := by decide +kernel
theorem dX9_passComparison_18 : decode cX9_passComparison 18 = .ok (.invokevirtual 135, 3) := by decide +kernel
theorem dX9_passComparison_21 : decode cX9_passComparison 21 = .ok (.ifCond .ne 24, 3) := by decide +kernel
theorem dX9_passComparison_24 : decode cX9_passComparison 24 = .ok (.aload_n 0, 1) := by decide +kernel
theorem dX9_passComparison_25 : decode cX9_passComparison 25 = .ok (.getfield 19, 3) := by decide +kernel
theorem dX9_passComparison_28 : decode cX9_passComparison 28 = .ok (.bipush 61, 2) := by decide +kernel
theorem dX9_passComparison_30 : decode cX9_passComparison 30 = .ok (.invokevirtual 135, 3) := by decide +kernel
theorem dX9_passComparison_33 : decode cX9_passComparison 33 = .ok (.ifCond .ne 12, 3) := by decide +kernel
theorem dX9_passComparison_36 : decode cX9_passComparison 36 = .ok (.aload_n 0, 1) := by decide +kernel
theorem dX9_passComparison_37 : decode cX9_passComparison 37 = .ok (.getfield 19, 3) := by decide +kernel
theorem dX9_passComparison_40 : decode cX9_passComparison 40 = .ok (.iconst 2, 1) := by decide +kernel
theorem dX9_passComparison_41 : decode cX9_passComparison 41 = .ok (.invokevirtual 45, 3) := by decide +kernel
theorem dX9_passComparison_44 : decode cX9_passComparison 44 = .ok (.ireturn, 1) := by decide +kernel
theorem dX9_passComparison_45 : decode cX9_passComparison 45 = .ok (.aload_n 0, 1) := by decide +kernel
theorem dX9_passComparison_46 : decode cX9_passComparison 46 = .ok (.getfield 27, 3) := by decide +kernel
theorem dX9_passComparison_49 : decode cX9_passComparison 49 = .ok (.getfield 115, 3) := by decide +kernel
theorem dX9_passComparison_52 : decode cX9_passComparison 52 = .ok (.iload_n 1, 1) := by decide +kernel
theorem dX9_passComparison_53 : decode cX9_passComparison 53 = .ok (.aload_n 0, 1) := by decide +kernel
theorem dX9_passComparison_54 : decode cX9_passComparison 54 = .ok (.getfield 19, 3) := by decide +kernel
theorem dX9_passComparison_57 : decode cX9_passComparison 57 = .ok (.invokevirtual 130, 3) := by decide +kernel
theorem dX9_passComparison_60 : decode cX9_passComparison 60 = .ok (.iastore, 1) := by decide +kernel
theorem dX9_passComparison_61 : decode cX9_passComparison 61 = .ok (.aload_n 0, 1) := by decide +kernel
theorem dX9_passComparison_62 : decode cX9_passComparison 62 = .ok (.getfield 19, 3) := by decide +kernel
theorem dX9_passComparison_65 : decode cX9_passComparison 65 = .ok (.invokevirtual 66, 3) := by decide +kernel
theorem dX9_passComparison_68 : decode cX9_passComparison 68 = .ok (.iconst 1, 1) := by decide +kernel
theorem dX9_passComparison_69 : decode cX9_passComparison 69 = .ok (.ireturn, 1) := by decide +kernel
def fX6_passWord (t : Nat) (a1 : Int32) (M : Mem) : Option (Int32 × Mem) :=
  (fX6_word t M).bind fun v1 =>
 if v1 = a1 then
 bd (fX6_goOn t M) fun vu2 M3 =>
 some ((1 : Int32), M3)
 else
 bd (fX6_refuseToken t (2 : Int32) M) fun v4 M5 =>
 if v4 = 0 ∨ v4 = 1 then some (v4, M5) else none
set_option maxRecDepth 100000 in
set_option maxHeartbeats 4000000 in
theorem kX6_passWord (t : Nat) (a1 : Int32) (M : Mem) (ht : isO 6 t) (l : Launch) (G : GT) {b : (Int32 × Mem)} (hE : fX6_passWord t a1 M = some b) : Ok l G yX6_passWord cX6_passWord 2 (some .boolean) 1 21 [.ref t, .int a1] M ((fun q : Int32 × Mem => (some (Value.int q.1), q.2)) b).1 ((fun q : Int32 × Mem => (some (Value.int q.1), q.2)) b).2 := by
  refine Ok.ofX (pj := (fun q : Int32 × Mem => (some (Value.int q.1), q.2))) (by decide) (Nat.le_of_ble_eq_true rfl) hE (fun J g hr hG hl hR hn => ?_)
  show X J (fun q : Int32 × Mem => (some (Value.int q.1), q.2)) (fX6_passWord t a1 M) 0 [(0, .ref t), (1, .int a1)] [] M
  unfold fX6_passWord
  exact (x_aload_n g 0 dX6_passWord_0 rfl rfl
 (x_callVip (As := []) g mv_X6_word mi_X6_word lk_RX6_111 ht (fun b hb => kX6_word t M ht _ _ hb) rfl rfl hR ⟨Nat.le_of_ble_eq_true rfl, Nat.le_of_ble_eq_true rfl⟩ (Nat.le_of_ble_eq_true rfl) dX6_passWord_1 (fun v1 =>
 (x_iload_n g 1 dX6_passWord_4 rfl rfl
 (x_icmp_eq g 14 dX6_passWord_5 rfl
 (fun _ => (x_aload_n g 0 dX6_passWord_14 rfl rfl
 (x_callVv (As := []) g mv_X6_goOn mi_X6_goOn lk_RX6_108 ht (fun b Mh_ hb => kX6_goOn t M ht _ _ hb) rfl rfl hR ⟨Nat.le_of_ble_eq_true rfl, Nat.le_of_ble_eq_true rfl⟩ (Nat.le_of_ble_eq_true rfl) dX6_passWord_15 (fun vu2 M3 =>
 (x_iconst g dX6_passWord_18 kI_1
 (x_iret g hr rfl rfl dX6_passWord_19))))))
 (fun _ => (x_aload_n g 0 dX6_passWord_8 rfl rfl
 (x_iconst g dX6_passWord_9 kI_2
 (x_callVi (As := [.int (2 : Int32)]) g mv_X6_refuseToken mi_X6_refuseToken lk_RX6_105 ht (fun b Mh_ hb => kX6_refuseToken t (2 : Int32) M ht _ _ hb) rfl rfl hR ⟨Nat.le_of_ble_eq_true rfl, Nat.le_of_ble_eq_true rfl⟩ (Nat.le_of_ble_eq_true rfl) dX6_passWord_10 (fun v4 M5 =>
 (x_ck (fun hq6 => x_iret g hr (nbz hq6) rfl dX6_passWord_13))))))))))))
def fX1_passUnlike (φ : Nat) (t : Nat) (M : Mem) : Option (Int32 × Mem) :=
  (ldr 6 (M.2.2 t 1)).bind fun vr1 =>
 bd (fX6_goOn vr1 M) fun vu2 M3 =>
 (ldr 2 (M3.2.2 t 2)).bind fun vr4 =>
 (ldr 6 (M3.2.2 t 1)).bind fun vr5 =>
 (fX6_name vr5 M3).bind fun vz6 =>
 (fX2_rockNamed φ vr4 vz6 M3).bind fun v7 =>
 if v7 = (-1 : Int32) then
 (ldr 6 (M3.2.2 t 1)).bind fun vr43 =>
 (ldr 6 (M3.2.2 t 1)).bind fun vr44 =>
 (fX6_nameFault vr44 M3).bind fun v45 =>
 bd (fX6_refuseToken vr43 v45 M3) fun v46 M47 =>
 if v46 = 0 ∨ v46 = 1 then some (v46, M47) else none
 else
 (ldr 6 (M3.2.2 t 1)).bind fun vr8 =>
 bd (fX6_goOn vr8 M3) fun vu9 M10 =>
 (ldr 2 (M10.2.2 t 2)).bind fun vr11 =>
 (ldr 6 (M10.2.2 t 1)).bind fun vr12 =>
 (fX6_name vr12 M10).bind fun vz13 =>
 (fX2_rockNamed φ vr11 vz13 M10).bind fun v14 =>
 if v14 = (-1 : Int32) then
 (ldr 6 (M10.2.2 t 1)).bind fun vr37 =>
 (ldr 6 (M10.2.2 t 1)).bind fun vr38 =>
 (fX6_nameFault vr38 M10).bind fun v39 =>
 bd (fX6_refuseToken vr37 v39 M10) fun v40 M41 =>
 if v40 = 0 ∨ v40 = 1 then some (v40, M41) else none
 else
 if v7 = v14 then
 (ldr 6 (M10.2.2 t 1)).bind fun vr33 =>
 bd (fX6_refuseToken vr33 (5 : Int32) M10) fun v34 M35 =>
 if v34 = 0 ∨ v34 = 1 then some (v34, M35) else none
 else
 (ldr 6 (M10.2.2 t 1)).bind fun vr15 =>
 bd (fX6_goOn vr15 M10) fun vu16 M17 =>
 (ldr 6 (M17.2.2 t 1)).bind fun vr18 =>
 bd (fX6_passWord vr18 (3 : Int32) M17) fun v19 M20 =>
 if v19 = 0 then
 some ((0 : Int32), M20)
 else
 (ldr 6 (M20.2.2 t 1)).bind fun vr21 =>
 (fX6_value vr21 M20).bind fun v22 =>
 (ldr 6 (M20.2.2 t 1)).bind fun vr23 =>
 bd (fX6_passNumber vr23 (0 : Int32) (99 : Int32) M20) fun v24 M25 =>
 if v24 = 0 then
 some ((0 : Int32), M25)
 else
 (ldr 2 (M25.2.2 t 2)).bind fun vr26 =>
 bd (fX2_setCostOfTwo vr26 v7 v14 v22 M25) fun vu27 M28 =>
 (ldr 6 (M28.2.2 t 1)).bind fun vr29 =>
 bd (fX6_passSemicolon vr29 M28) fun v30 M31 =>
 if v30 = 0 ∨ v30 = 1 then some (v30, M31) else none
set_option maxRecDepth 100000 in
set_option maxHeartbeats 4000000 in
theorem kX1_passUnlike (φ : Nat) (t : Nat) (M : Mem) (ht : isO 1 t) (l : Launch) (G : GT) {b : (Int32 × Mem)} (hE : fX1_passUnlike φ t M = some b) : Ok l G yX1_passUnlike cX1_passUnlike 4 (some .boolean) 2 46 [.ref t] M ((fun q : Int32 × Mem => (some (Value.int q.1), q.2)) b).1 ((fun q : Int32 × Mem => (some (Value.int q.1), q.2)) b).2 := by
  refine Ok.ofX (pj := (fun q : Int32 × Mem => (some (Value.int q.1), q.2))) (by decide) (Nat.le_of_ble_eq_true rfl) hE (fun J g hr hG hl hR hn => ?_)
  show X J (fun q : Int32 × Mem => (some (Value.int q.1), q.2)) (fX1_passUnlike φ t M) 0 [(0, .ref t)] [] M
  unfold fX1_passUnlike
  exact (x_aload_n g 0 dX1_passUnlike_0 rfl rfl
 (x_getD g fl_RX1_15 rfl ht dX1_passUnlike_1 (fun vr1 hvr1 =>
 (x_callVv (As := []) g mv_X6_goOn mi_X6_goOn lk_RX1_64 hvr1 (fun b Mh_ hb => kX6_goOn vr1 M hvr1 _ _ hb) rfl rfl hR ⟨Nat.le_of_ble_eq_true rfl, Nat.le_of_ble_eq_true rfl⟩ (Nat.le_of_ble_eq_true rfl) dX1_passUnlike_4 (fun vu2 M3 =>
 (x_aload_n g 0 dX1_passUnlike_7 rfl rfl
 (x_getD g fl_RX1_19 rfl ht dX1_passUnlike_8 (fun vr4 hvr4 =>
 (x_aload_n g 0 dX1_passUnlike_11 rfl rfl
 (x_getD g fl_RX1_15 rfl ht dX1_passUnlike_12 (fun vr5 hvr5 =>
 (x_callVlp (As := []) g mv_X6_name mi_X6_name lk_RX1_73 hvr5 (fun b hb => kX6_name vr5 M3 hvr5 _ _ hb) rfl rfl hR ⟨Nat.le_of_ble_eq_true rfl, Nat.le_of_ble_eq_true rfl⟩ (Nat.le_of_ble_eq_true rfl) dX1_passUnlike_15 (fun vz6 =>
 (x_callVip (As := [.long vz6]) g mv_X2_rockNamed mi_X2_rockNamed lk_RX1_91 hvr4 (fun b hb => kX2_rockNamed φ vr4 vz6 M3 hvr4 _ _ hb) rfl rfl hR ⟨Nat.le_of_ble_eq_true rfl, Nat.le_of_ble_eq_true rfl⟩ (Nat.le_of_ble_eq_true rfl) dX1_passUnlike_18 (fun v7 =>
 (x_istore_n (L' := [(1, .int v7), (0, .ref t)]) g dX1_passUnlike_21 rfl hn (Nat.le_of_ble_eq_true rfl) rfl
 (x_iload_n g 0 dX1_passUnlike_22 rfl rfl
 (x_iconst g dX1_passUnlike_23 kI_m1
 (x_icmp_ne g 42 dX1_passUnlike_24 rfl
 (fun _ => (x_aload_n g 1 dX1_passUnlike_42 rfl rfl
 (x_getD g fl_RX1_15 rfl ht dX1_passUnlike_43 (fun vr8 hvr8 =>
 (x_callVv (As := []) g mv_X6_goOn mi_X6_goOn lk_RX1_64 hvr8 (fun b Mh_ hb => kX6_goOn vr8 M3 hvr8 _ _ hb) rfl rfl hR ⟨Nat.le_of_ble_eq_true rfl, Nat.le_of_ble_eq_true rfl⟩ (Nat.le_of_ble_eq_true rfl) dX1_passUnlike_46 (fun vu9 M10 =>
 (x_aload_n g 1 dX1_passUnlike_49 rfl rfl
 (x_getD g fl_RX1_19 rfl ht dX1_passUnlike_50 (fun vr11 hvr11 =>
 (x_aload_n g 1 dX1_passUnlike_53 rfl rfl
 (x_getD g fl_RX1_15 rfl ht dX1_passUnlike_54 (fun vr12 hvr12 =>
 (x_callVlp (As := []) g mv_X6_name mi_X6_name lk_RX1_73 hvr12 (fun b hb => kX6_name vr12 M10 hvr12 _ _ hb) rfl rfl hR ⟨Nat.le_of_ble_eq_true rfl, Nat.le_of_ble_eq_true rfl⟩ (Nat.le_of_ble_eq_true rfl) dX1_passUnlike_57 (fun vz13 =>
 (x_callVip (As := [.long vz13]) g mv_X2_rockNamed mi_X2_rockNamed lk_RX1_91 hvr11 (fun b hb => kX2_rockNamed φ vr11 vz13 M10 hvr11 _ _ hb) rfl rfl hR ⟨Nat.le_of_ble_eq_true rfl, Nat.le_of_ble_eq_true rfl⟩ (Nat.le_of_ble_eq_true rfl) dX1_passUnlike_60 (fun v14 =>
 (x_istore_n (L' := [(2, .int v14), (1, .int v7), (0, .ref t)]) g dX1_passUnlike_63 rfl hn (Nat.le_of_ble_eq_true rfl) rfl
 (x_iload_n g 0 dX1_passUnlike_64 rfl rfl
 (x_iconst g dX1_passUnlike_65 kI_m1
 (x_icmp_ne g 84 dX1_passUnlike_66 rfl
 (fun _ => (x_iload_n g 1 dX1_passUnlike_84 rfl rfl
 (x_iload_n g 0 dX1_passUnlike_85 rfl rfl
 (x_icmp_ne g 98 dX1_passUnlike_86 rfl
 (fun _ => (x_aload_n g 2 dX1_passUnlike_98 rfl rfl
 (x_getD g fl_RX1_15 rfl ht dX1_passUnlike_99 (fun vr15 hvr15 =>
 (x_callVv (As := []) g mv_X6_goOn mi_X6_goOn lk_RX1_64 hvr15 (fun b Mh_ hb => kX6_goOn vr15 M10 hvr15 _ _ hb) rfl rfl hR ⟨Nat.le_of_ble_eq_true rfl, Nat.le_of_ble_eq_true rfl⟩ (Nat.le_of_ble_eq_true rfl) dX1_passUnlike_102 (fun vu16 M17 =>
 (x_aload_n g 2 dX1_passUnlike_105 rfl rfl
 (x_getD g fl_RX1_15 rfl ht dX1_passUnlike_106 (fun vr18 hvr18 =>
 (x_iconst g dX1_passUnlike_109 kI_3
 (x_callVi (As := [.int (3 : Int32)]) g mv_X6_passWord mi_X6_passWord lk_RX1_95 hvr18 (fun b Mh_ hb => kX6_passWord vr18 (3 : Int32) M17 hvr18 _ _ hb) rfl rfl hR ⟨Nat.le_of_ble_eq_true rfl, Nat.le_of_ble_eq_true rfl⟩ (Nat.le_of_ble_eq_true rfl) dX1_passUnlike_110 (fun v19 M20 =>
 (x_if_ne g 118 dX1_passUnlike_113 rfl
 (fun _ => (x_aload_n g 2 dX1_passUnlike_118 rfl rfl
 (x_getD g fl_RX1_15 rfl ht dX1_passUnlike_119 (fun vr21 hvr21 =>
 (x_callVip (As := []) g mv_X6_value mi_X6_value lk_RX1_77 hvr21 (fun b hb => kX6_value vr21 M20 hvr21 _ _ hb) rfl rfl hR ⟨Nat.le_of_ble_eq_true rfl, Nat.le_of_ble_eq_true rfl⟩ (Nat.le_of_ble_eq_true rfl) dX1_passUnlike_122 (fun v22 =>
 (x_istore_n (L' := [(3, .int v22), (2, .int v14), (1, .int v7), (0, .ref t)]) g dX1_passUnlike_125 rfl hn (Nat.le_of_ble_eq_true rfl) rfl
 (x_aload_n g 3 dX1_passUnlike_126 rfl rfl
 (x_getD g fl_RX1_15 rfl ht dX1_passUnlike_127 (fun vr23 hvr23 =>
 (x_iconst g dX1_passUnlike_130 kI_0
 (x_bipush g dX1_passUnlike_131 kB_99
 (x_callVi (As := [.int (0 : Int32), .int (99 : Int32)]) g mv_X6_passNumber mi_X6_passNumber lk_RX1_80 hvr23 (fun b Mh_ hb => kX6_passNumber vr23 (0 : Int32) (99 : Int32) M20 hvr23 _ _ hb) rfl rfl hR ⟨Nat.le_of_ble_eq_true rfl, Nat.le_of_ble_eq_true rfl⟩ (Nat.le_of_ble_eq_true rfl) dX1_passUnlike_133 (fun v24 M25 =>
 (x_if_ne g 141 dX1_passUnlike_136 rfl
 (fun _ => (x_aload_n g 3 dX1_passUnlike_141 rfl rfl
 (x_getD g fl_RX1_19 rfl ht dX1_passUnlike_142 (fun vr26 hvr26 =>
 (x_iload_n g 2 dX1_passUnlike_145 rfl rfl
 (x_iload_n g 1 dX1_passUnlike_146 rfl rfl
 (x_iload_n g 0 dX1_passUnlike_147 rfl rfl
 (x_callVv (As := [.int v7, .int v14, .int v22]) g mv_X2_setCostOfTwo mi_X2_setCostOfTwo lk_RX1_98 hvr26 (fun b Mh_ hb => kX2_setCostOfTwo vr26 v7 v14 v22 M25 hvr26 _ _ hb) rfl rfl hR ⟨Nat.le_of_ble_eq_true rfl, Nat.le_of_ble_eq_true rfl⟩ (Nat.le_of_ble_eq_true rfl) dX1_passUnlike_148 (fun vu27 M28 =>
 (x_aload_n g 3 dX1_passUnlike_151 rfl rfl
 (x_getD g fl_RX1_15 rfl ht dX1_passUnlike_152 (fun vr29 hvr29 =>
 (x_callVi (As := []) g mv_X6_passSemicolon mi_X6_passSemicolon lk_RX1_88 hvr29 (fun b Mh_ hb => kX6_passSemicolon vr29 M28 hvr29 _ _ hb) rfl rfl hR ⟨Nat.le_of_ble_eq_true rfl, Nat.le_of_ble_eq_true rfl⟩ (Nat.le_of_ble_eq_true rfl) dX1_passUnlike_155 (fun v30 M31 =>
 (x_ck (fun hq32 => x_iret g hr (nbz hq32) rfl dX1_passUnlike_158))))))))))))))))
 (fun _ => (x_iconst g dX1_passUnlike_139 kI_0
 (x_iret g hr rfl rfl dX1_passUnlike_140))))))))))))))))))
 (fun _ => (x_iconst g dX1_passUnlike_116 kI_0
 (x_iret g hr rfl rfl dX1_passUnlike_117))))))))))))))))
 (fun _ => (x_aload_n g 2 dX1_passUnlike_89 rfl rfl
 (x_getD g fl_RX1_15 rfl ht dX1_passUnlike_90 (fun vr33 hvr33 =>
 (x_iconst g dX1_passUnlike_93 kI_5
 (x_callVi (As := [.int (5 : Int32)]) g mv_X6_refuseToken mi_X6_refuseToken lk_RX1_56 hvr33 (fun b Mh_ hb => kX6_refuseToken vr33 (5 : Int32) M10 hvr33 _ _ hb) rfl rfl hR ⟨Nat.le_of_ble_eq_true rfl, Nat.le_of_ble_eq_true rfl⟩ (Nat.le_of_ble_eq_true rfl) dX1_passUnlike_94 (fun v34 M35 =>
 (x_ck (fun hq36 => x_iret g hr (nbz hq36) rfl dX1_passUnlike_97)))))))))))))
 (fun _ => (x_aload_n g 2 dX1_passUnlike_69 rfl rfl
 (x_getD g fl_RX1_15 rfl ht dX1_passUnlike_70 (fun vr37 hvr37 =>
 (x_aload_n g 2 dX1_passUnlike_73 rfl rfl
 (x_getD g fl_RX1_15 rfl ht dX1_passUnlike_74 (fun vr38 hvr38 =>
 (x_callVip (As := []) g mv_X6_nameFault mi_X6_nameFault lk_RX1_70 hvr38 (fun b hb => kX6_nameFault vr38 M10 hvr38 _ _ hb) rfl rfl hR ⟨Nat.le_of_ble_eq_true rfl, Nat.le_of_ble_eq_true rfl⟩ (Nat.le_of_ble_eq_true rfl) dX1_passUnlike_77 (fun v39 =>
 (x_callVi (As := [.int v39]) g mv_X6_refuseToken mi_X6_refuseToken lk_RX1_56 hvr37 (fun b Mh_ hb => kX6_refuseToken vr37 v39 M10 hvr37 _ _ hb) rfl rfl hR ⟨Nat.le_of_ble_eq_true rfl, Nat.le_of_ble_eq_true rfl⟩ (Nat.le_of_ble_eq_true rfl) dX1_passUnlike_80 (fun v40 M41 =>
 (x_ck (fun hq42 => x_iret g hr (nbz hq42) rfl dX1_passUnlike_83)))))))))))))))))))))))))))))))))
 (fun _ => (x_aload_n g 1 dX1_passUnlike_27 rfl rfl
 (x_getD g fl_RX1_15 rfl ht dX1_passUnlike_28 (fun vr43 hvr43 =>
 (x_aload_n g 1 dX1_passUnlike_31 rfl rfl
 (x_getD g fl_RX1_15 rfl ht dX1_passUnlike_32 (fun vr44 hvr44 =>
 (x_callVip (As := []) g mv_X6_nameFault mi_X6_nameFault lk_RX1_70 hvr44 (fun b hb => kX6_nameFault vr44 M3 hvr44 _ _ hb) rfl rfl hR ⟨Nat.le_of_ble_eq_true rfl, Nat.le_of_ble_eq_true rfl⟩ (Nat.le_of_ble_eq_true rfl) dX1_passUnlike_35 (fun v45 =>
 (x_callVi (As := [.int v45]) g mv_X6_refuseToken mi_X6_refuseToken lk_RX1_56 hvr43 (fun b Mh_ hb => kX6_refuseToken vr43 v45 M3 hvr43 _ _ hb) rfl rfl hR ⟨Nat.le_of_ble_eq_true rfl, Nat.le_of_ble_eq_true rfl⟩ (Nat.le_of_ble_eq_true rfl) dX1_passUnlike_38 (fun v46 M47 =>
 (x_ck (fun hq48 => x_iret g hr (nbz hq48) rfl dX1_passUnlike_41))))))))))))))))))))))))))))))))
def lX2_isHoleAt_2 (t : Nat) (x1 : Int32) (x2 : Int32) (M : Mem) : Nat → Int32 → Option Int32
  | 0, _ => none
  | n + 1, x3 =>
    if (M.1 t 4) ≤ x3 then
 some (0 : Int32)
 else
 ixk x3 6 (
 jn (lX2_isHoleAt_2 t x1 x2 M n (x3 + 1)) (fun J1 => if (M.1 (t + 5) x3.toNatClampNeg) = x1 then
 ixk x3 6 (
 if (M.1 (t + 6) x3.toNatClampNeg) = x2 then
 some (1 : Int32)
 else
 J1)
 else
 J1))
theorem lX2_isHoleAt_2_s (t : Nat) (x1 : Int32) (x2 : Int32) (M : Mem) (n : Nat) (x3 : Int32) : lX2_isHoleAt_2 t x1 x2 M (n + 1) x3 =
    if (M.1 t 4) ≤ x3 then
 some (0 : Int32)
 else
 ixk x3 6 (
 jn (lX2_isHoleAt_2 t x1 x2 M n (x3 + 1)) (fun J1 => if (M.1 (t + 5) x3.toNatClampNeg) = x1 then
 ixk x3 6 (
 if (M.1 (t + 6) x3.toNatClampNeg) = x2 then
 some (1 : Int32)
 else
 J1)
 else
 J1)) := rfl
theorem lX2_isHoleAt_2_0 (t : Nat) (x1 : Int32) (x2 : Int32) (M : Mem) (x3 : Int32) : lX2_isHoleAt_2 t x1 x2 M 0 x3 = none := rfl
set_option maxRecDepth 100000 in
set_option maxHeartbeats 4000000 in
theorem wlX2_isHoleAt_2 {J : JT} (g : Gd J cX2_isHoleAt RX2) (hr : Rt J (some .boolean)) (hR : (JR J).frames = 0 ∧ (JR J).locals = 0) (hn : Jn J = 4) (t : Nat) (x1 : Int32) (x2 : Int32) (M : Mem) (ht : isO 2 t) : ∀ (n : Nat) (x3 : Int32), X J (fun b : Int32 => (some (Value.int b), M)) (lX2_isHoleAt_2 t x1 x2 M n x3) 2 [(0, .ref t), (1, .int x1), (2, .int x2), (3, .int x3)] [] M := by
  intro n
  induction n with
  | zero =>
    intro x3
    exact x_none
  | succ n ih =>
    intro x3
    rw [lX2_isHoleAt_2_s]
    exact (x_iload_n g 3 dX2_isHoleAt_2 rfl rfl
 (x_aload_n g 0 dX2_isHoleAt_3 rfl rfl
 (x_getI g fl_RX2_26 rfl ht dX2_isHoleAt_4
 (x_icmp_ge g 38 dX2_isHoleAt_7 rfl
 (fun _ => (x_iconst g dX2_isHoleAt_38 kI_0
 (x_iret g hr rfl rfl dX2_isHoleAt_39)))
 (fun _ => (x_aload_n g 0 dX2_isHoleAt_10 rfl rfl
 (x_getS g 5 fl_RX2_32 rfl ht dX2_isHoleAt_11
 (x_iload_n g 3 dX2_isHoleAt_14 rfl rfl
 (x_iald g (so_2_6 ht) dX2_isHoleAt_15
 (x_iload_n g 1 dX2_isHoleAt_16 rfl rfl
 (x_jn (fun (J1 : Option Int32) => X J (fun b : Int32 => (some (Value.int b), M)) J1 32 [(0, .ref t), (1, .int x1), (2, .int x2), (3, .int x3)] [] M) (x_iinc (L' := [(3, .int (x3 + 1)), (0, .ref t), (1, .int x1), (2, .int x2)]) (v := (x3 + 1)) g 3 dX2_isHoleAt_32 rfl (by rw [kI_1]) hn (Nat.le_of_ble_eq_true rfl) rfl
 (x_goto g 2 dX2_isHoleAt_35 rfl
 (x_sub [1, 2, 3, 0] rfl (ih (x3 + 1))))) (fun J1 hJ1 => (x_icmp_ne g 32 dX2_isHoleAt_17 rfl
 (fun _ => (hJ1))
 (fun _ => (x_aload_n g 0 dX2_isHoleAt_20 rfl rfl
 (x_getS g 6 fl_RX2_35 rfl ht dX2_isHoleAt_21
 (x_iload_n g 3 dX2_isHoleAt_24 rfl rfl
 (x_iald g (so_2_7 ht) dX2_isHoleAt_25
 (x_iload_n g 2 dX2_isHoleAt_26 rfl rfl
 (x_icmp_ne g 32 dX2_isHoleAt_27 rfl
 (fun _ => (hJ1))
 (fun _ => (x_iconst g dX2_isHoleAt_30 kI_1
 (x_iret g hr rfl rfl dX2_isHoleAt_31)))))))))))))))))))))))
def fX2_isHoleAt (φ : Nat) (t : Nat) (a1 : Int32) (a2 : Int32) (M : Mem) : Option Int32 :=
  lX2_isHoleAt_2 t a1 a2 M φ (0 : Int32)
set_option maxRecDepth 100000 in
set_option maxHeartbeats 4000000 in
theorem kX2_isHoleAt (φ : Nat) (t : Nat) (a1 : Int32) (a2 : Int32) (M : Mem) (ht : isO 2 t) (l : Launch) (G : GT) {b : Int32} (hE : fX2_isHoleAt φ t a1 a2 M = some b) : Ok l G yX2_isHoleAt cX2_isHoleAt 4 (some .boolean) 0 0 [.ref t, .int a1, .int a2] M ((fun b : Int32 => (some (Value.int b), M)) b).1 ((fun b : Int32 => (some (Value.int b), M)) b).2 := by
  refine Ok.ofX (pj := (fun b : Int32 => (some (Value.int b), M))) (by decide) (Nat.le_of_ble_eq_true rfl) hE (fun J g hr hG hl hR hn => ?_)
  show X J (fun b : Int32 => (some (Value.int b), M)) (fX2_isHoleAt φ t a1 a2 M) 0 [(0, .ref t), (1, .int a1), (2, .int a2)] [] M
  unfold fX2_isHoleAt
  exact (x_iconst g dX2_isHoleAt_0 kI_0
 (x_istore_n (L' := [(3, .int (0 : Int32)), (0, .ref t), (1, .int a1), (2, .int a2)]) g dX2_isHoleAt_1 rfl hn (Nat.le_of_ble_eq_true rfl) rfl
 (x_sub [1, 2, 3, 0] rfl (wlX2_isHoleAt_2 g hr hR hn  t a1 a2 M ht φ (0 : Int32)))))
def fX2_addHole (t : Nat) (a1 : Int64) (a2 : Int32) (a3 : Int32) (M : Mem) : Option (Unit × Mem) :=
  ixk (M.1 t 4) 6 (nm (stL M (t + 4) (M.1 t 4).toNatClampNeg a1) (fun M1 =>
 ixk (M1.1 t 4) 6 (nm (stI M1 (t + 5) (M1.1 t 4).toNatClampNeg a2) (fun M2 =>
 ixk (M2.1 t 4) 6 (nm (stI M2 (t + 6) (M2.1 t 4).toNatClampNeg a3) (fun M3 =>
 ixk (M3.1 t 4) 6 (nm (stI M3 (t + 7) (M3.1 t 4).toNatClampNeg (0 : Int32)) (fun M4 =>
 nm (stI M4 t 4 ((M4.1 t 4) + (1 : Int32))) (fun M5 =>
 some ((), M5))))))))))
set_option maxRecDepth 100000 in
set_option maxHeartbeats 4000000 in
theorem kX2_addHole (t : Nat) (a1 : Int64) (a2 : Int32) (a3 : Int32) (M : Mem) (ht : isO 2 t) (l : Launch) (G : GT) {b : (Unit × Mem)} (hE : fX2_addHole t a1 a2 a3 M = some b) : Ok l G yX2_addHole cX2_addHole 5 none 0 0 [.ref t, .long a1, .int a2, .int a3] M ((fun q : Unit × Mem => ((none : Option Value), q.2)) b).1 ((fun q : Unit × Mem => ((none : Option Value), q.2)) b).2 := by
  refine Ok.ofX (pj := (fun q : Unit × Mem => ((none : Option Value), q.2))) (by decide) (Nat.le_of_ble_eq_true rfl) hE (fun J g hr hG hl hR hn => ?_)
  show X J (fun q : Unit × Mem => ((none : Option Value), q.2)) (fX2_addHole t a1 a2 a3 M) 0 [(0, .ref t), (1, .long a1), (3, .int a2), (4, .int a3)] [] M
  unfold fX2_addHole
  exact (x_aload_n g 0 dX2_addHole_0 rfl rfl
 (x_getS g 4 fl_RX2_29 rfl ht dX2_addHole_1
 (x_aload_n g 0 dX2_addHole_4 rfl rfl
 (x_getI g fl_RX2_26 rfl ht dX2_addHole_5
 (x_lload_n g 1 dX2_addHole_8 rfl rfl
 (x_last g (so_2_5 ht) dX2_addHole_9 (x_nmM (fun M1 =>
 (x_aload_n g 0 dX2_addHole_10 rfl rfl
 (x_getS g 5 fl_RX2_32 rfl ht dX2_addHole_11
 (x_aload_n g 0 dX2_addHole_14 rfl rfl
 (x_getI g fl_RX2_26 rfl ht dX2_addHole_15
 (x_iload_n g 2 dX2_addHole_18 rfl rfl
 (x_iast g (so_2_6 ht) dX2_addHole_19 (x_nmM (fun M2 =>
 (x_aload_n g 0 dX2_addHole_20 rfl rfl
 (x_getS g 6 fl_RX2_35 rfl ht dX2_addHole_21
 (x_aload_n g 0 dX2_addHole_24 rfl rfl
 (x_getI g fl_RX2_26 rfl ht dX2_addHole_25
 (x_iload g 3 dX2_addHole_28 rfl
 (x_iast g (so_2_7 ht) dX2_addHole_30 (x_nmM (fun M3 =>
 (x_aload_n g 0 dX2_addHole_31 rfl rfl
 (x_getS g 7 fl_RX2_38 rfl ht dX2_addHole_32
 (x_aload_n g 0 dX2_addHole_35 rfl rfl
 (x_getI g fl_RX2_26 rfl ht dX2_addHole_36
 (x_iconst g dX2_addHole_39 kI_0
 (x_iast g (so_2_8 ht) dX2_addHole_40 (x_nmM (fun M4 =>
 (x_aload_n g 0 dX2_addHole_41 rfl rfl
 (x_dup g dX2_addHole_42 rfl
 (x_getI g fl_RX2_26 rfl ht dX2_addHole_43
 (x_iconst g dX2_addHole_46 kI_1
 (x_iadd g dX2_addHole_47
 (x_putI g fp_RX2_26 rfl (Nat.le_of_ble_eq_true rfl) ht dX2_addHole_48 (x_nmM (fun M5 =>
 (x_vret g hr rfl dX2_addHole_51)))))))))))))))))))))))))))))))))))))))))
def fX10_slot (a1 : Int32) (a2 : Int32) (M : Mem) : Option Int32 :=
  some ((a1 * (12 : Int32)) + a2)
set_option maxRecDepth 100000 in
set_option maxHeartbeats 4000000 in
theorem kX10_slot (a1 : Int32) (a2 : Int32) (M : Mem) (l : Launch) (G : GT) {b : Int32} (hE : fX10_slot a1 a2 M = some b) : Ok l G yX10_slot cX10_slot 2 (some .int) 0 0 [.int a1, .int a2] M ((fun b : Int32 => (some (Value.int b), M)) b).1 ((fun b : Int32 => (some (Value.int b), M)) b).2 := by
  refine Ok.ofX (pj := (fun b : Int32 => (some (Value.int b), M))) (by decide) (Nat.le_of_ble_eq_true rfl) hE (fun J g hr hG hl hR hn => ?_)
  show X J (fun b : Int32 => (some (Value.int b), M)) (fX10_slot a1 a2 M) 0 [(0, .int a1), (1, .int a2)] [] M
  unfold fX10_slot
  exact (x_iload_n g 0 dX10_slot_0 rfl rfl
 (x_bipush g dX10_slot_1 kB_12
 (x_imul g dX10_slot_3
 (x_iload_n g 1 dX10_slot_4 rfl rfl
 (x_iadd g dX10_slot_5
 (x_iret g hr rfl rfl dX10_slot_6))))))
def fX2_addLayer (t : Nat) (a1 : Int32) (a2 : Int32) (M : Mem) : Option (Unit × Mem) :=
  nm ((M.1 t 4) - (1 : Int32)) (fun v1 =>
 ixk v1 6 (
 (fX10_slot v1 (M.1 (t + 7) v1.toNatClampNeg) M).bind fun v2 =>
 ixk v2 72 (nm (stI M (t + 8) v2.toNatClampNeg a1) (fun M3 =>
 ixk v2 72 (nm (stI M3 (t + 9) v2.toNatClampNeg a2) (fun M4 =>
 ixk v1 6 (
 ixk v1 6 (nm (stI M4 (t + 7) v1.toNatClampNeg ((M4.1 (t + 7) v1.toNatClampNeg) + (1 : Int32))) (fun M5 =>
 some ((), M5))))))))))
set_option maxRecDepth 100000 in
set_option maxHeartbeats 4000000 in
theorem kX2_addLayer (t : Nat) (a1 : Int32) (a2 : Int32) (M : Mem) (ht : isO 2 t) (l : Launch) (G : GT) {b : (Unit × Mem)} (hE : fX2_addLayer t a1 a2 M = some b) : Ok l G yX2_addLayer cX2_addLayer 5 none 1 21 [.ref t, .int a1, .int a2] M ((fun q : Unit × Mem => ((none : Option Value), q.2)) b).1 ((fun q : Unit × Mem => ((none : Option Value), q.2)) b).2 := by
  refine Ok.ofX (pj := (fun q : Unit × Mem => ((none : Option Value), q.2))) (by decide) (Nat.le_of_ble_eq_true rfl) hE (fun J g hr hG hl hR hn => ?_)
  show X J (fun q : Unit × Mem => ((none : Option Value), q.2)) (fX2_addLayer t a1 a2 M) 0 [(0, .ref t), (1, .int a1), (2, .int a2)] [] M
  unfold fX2_addLayer
  exact (x_aload_n g 0 dX2_addLayer_0 rfl rfl
 (x_getI g fl_RX2_26 rfl ht dX2_addLayer_1
 (x_iconst g dX2_addLayer_4 kI_1
 (x_isub g dX2_addLayer_5
 (x_nmI (fun v1 => (x_istore_n (L' := [(3, .int v1), (0, .ref t), (1, .int a1), (2, .int a2)]) g dX2_addLayer_6 rfl hn (Nat.le_of_ble_eq_true rfl) rfl
 (x_iload_n g 0 dX2_addLayer_7 rfl rfl
 (x_aload_n g 1 dX2_addLayer_8 rfl rfl
 (x_getS g 7 fl_RX2_38 rfl ht dX2_addLayer_9
 (x_iload_n g 0 dX2_addLayer_12 rfl rfl
 (x_iald g (so_2_8 ht) dX2_addLayer_13
 (x_callSip (As := [.int v1, .int (M.1 (t + 7) v1.toNatClampNeg)]) g mv_X10_slot ms_X10_slot lk_RX2_93 (fun b hb => kX10_slot v1 (M.1 (t + 7) v1.toNatClampNeg) M _ _ hb) rfl rfl hR ⟨Nat.le_of_ble_eq_true rfl, Nat.le_of_ble_eq_true rfl⟩ (Nat.le_of_ble_eq_true rfl) dX2_addLayer_14 (fun v2 =>
 (x_istore (L' := [(4, .int v2), (3, .int v1), (0, .ref t), (1, .int a1), (2, .int a2)]) g dX2_addLayer_17 hn (Nat.le_of_ble_eq_true rfl) rfl
 (x_aload_n g 2 dX2_addLayer_19 rfl rfl
 (x_getS g 8 fl_RX2_41 rfl ht dX2_addLayer_20
 (x_iload g 0 dX2_addLayer_23 rfl
 (x_iload_n g 3 dX2_addLayer_25 rfl rfl
 (x_iast g (so_2_9 ht) dX2_addLayer_26 (x_nmM (fun M3 =>
 (x_aload_n g 2 dX2_addLayer_27 rfl rfl
 (x_getS g 9 fl_RX2_44 rfl ht dX2_addLayer_28
 (x_iload g 0 dX2_addLayer_31 rfl
 (x_iload_n g 4 dX2_addLayer_33 rfl rfl
 (x_iast g (so_2_10 ht) dX2_addLayer_34 (x_nmM (fun M4 =>
 (x_aload_n g 2 dX2_addLayer_35 rfl rfl
 (x_getS g 7 fl_RX2_38 rfl ht dX2_addLayer_36
 (x_iload_n g 1 dX2_addLayer_39 rfl rfl
 (x_dup2 g dX2_addLayer_40 rfl rfl
 (x_iald g (so_2_8 ht) dX2_addLayer_41
 (x_iconst g dX2_addLayer_42 kI_1
 (x_iadd g dX2_addLayer_43
 (x_iast g (so_2_8 ht) dX2_addLayer_44 (x_nmM (fun M5 =>
 (x_vret g hr rfl dX2_addLayer_45))))))))))))))))))))))))))))))))))))))))
def lX1_passBeds_2 (K63 : Mem → Option (Int32 × Mem)) (φ : Nat) (t : Nat) : Nat → Int32 → Mem → Option (Int32 × Mem)
  | 0, _, _ => none
  | n + 1, x1, M =>
    if (8 : Int32) < x1 then
 some ((1 : Int32), M)
 else
 (ldr 6 (M.2.2 t 1)).bind fun vr1 =>
 (fX6_word vr1 M).bind fun v2 =>
 if v2 = (6 : Int32) then
 if x1 = (8 : Int32) then
 (ldr 6 (M.2.2 t 1)).bind fun vr24 =>
 bd (fX6_refuseToken vr24 (6 : Int32) M) fun v25 M26 =>
 if v25 = 0 ∨ v25 = 1 then some (v25, M26) else none
 else
 (ldr 6 (M.2.2 t 1)).bind fun vr3 =>
 bd (fX6_goOn vr3 M) fun vu4 M5 =>
 (ldr 2 (M5.2.2 t 2)).bind fun vr6 =>
 (ldr 6 (M5.2.2 t 1)).bind fun vr7 =>
 (fX6_name vr7 M5).bind fun vz8 =>
 (fX2_rockNamed φ vr6 vz8 M5).bind fun v9 =>
 if v9 = (-1 : Int32) then
 K63 M5
 else
 (ldr 6 (M5.2.2 t 1)).bind fun vr10 =>
 bd (fX6_goOn vr10 M5) fun vu11 M12 =>
 (ldr 6 (M12.2.2 t 1)).bind fun vr13 =>
 bd (fX6_passWord vr13 (7 : Int32) M12) fun v14 M15 =>
 if v14 = 0 then
 some ((0 : Int32), M15)
 else
 (ldr 6 (M15.2.2 t 1)).bind fun vr16 =>
 (fX6_value vr16 M15).bind fun v17 =>
 (ldr 6 (M15.2.2 t 1)).bind fun vr18 =>
 bd (fX6_passNumber vr18 (1 : Int32) (99 : Int32) M15) fun v19 M20 =>
 if v19 = 0 then
 some ((0 : Int32), M20)
 else
 (ldr 2 (M20.2.2 t 2)).bind fun vr21 =>
 bd (fX2_addLayer vr21 v9 v17 M20) fun vu22 M23 =>
 lX1_passBeds_2 K63 φ t n (x1 + 1) M23
 else
 some ((1 : Int32), M)
theorem lX1_passBeds_2_s (K63 : Mem → Option (Int32 × Mem)) (φ : Nat) (t : Nat) (n : Nat) (x1 : Int32) (M : Mem) : lX1_passBeds_2 K63 φ t (n + 1) x1 M =
    if (8 : Int32) < x1 then
 some ((1 : Int32), M)
 else
 (ldr 6 (M.2.2 t 1)).bind fun vr1 =>
 (fX6_word vr1 M).bind fun v2 =>
 if v2 = (6 : Int32) then
 if x1 = (8 : Int32) then
 (ldr 6 (M.2.2 t 1)).bind fun vr24 =>
 bd (fX6_refuseToken vr24 (6 : Int32) M) fun v25 M26 =>
 if v25 = 0 ∨ v25 = 1 then some (v25, M26) else none
 else
 (ldr 6 (M.2.2 t 1)).bind fun vr3 =>
 bd (fX6_goOn vr3 M) fun vu4 M5 =>
 (ldr 2 (M5.2.2 t 2)).bind fun vr6 =>
 (ldr 6 (M5.2.2 t 1)).bind fun vr7 =>
 (fX6_name vr7 M5).bind fun vz8 =>
 (fX2_rockNamed φ vr6 vz8 M5).bind fun v9 =>
 if v9 = (-1 : Int32) then
 K63 M5
 else
 (ldr 6 (M5.2.2 t 1)).bind fun vr10 =>
 bd (fX6_goOn vr10 M5) fun vu11 M12 =>
 (ldr 6 (M12.2.2 t 1)).bind fun vr13 =>
 bd (fX6_passWord vr13 (7 : Int32) M12) fun v14 M15 =>
 if v14 = 0 then
 some ((0 : Int32), M15)
 else
 (ldr 6 (M15.2.2 t 1)).bind fun vr16 =>
 (fX6_value vr16 M15).bind fun v17 =>
 (ldr 6 (M15.2.2 t 1)).bind fun vr18 =>
 bd (fX6_passNumber vr18 (1 : Int32) (99 : Int32) M15) fun v19 M20 =>
 if v19 = 0 then
 some ((0 : Int32), M20)
 else
 (ldr 2 (M20.2.2 t 2)).bind fun vr21 =>
 bd (fX2_addLayer vr21 v9 v17 M20) fun vu22 M23 =>
 lX1_passBeds_2 K63 φ t n (x1 + 1) M23
 else
 some ((1 : Int32), M) := rfl
theorem lX1_passBeds_2_0 (K63 : Mem → Option (Int32 × Mem)) (φ : Nat) (t : Nat) (x1 : Int32) (M : Mem) : lX1_passBeds_2 K63 φ t 0 x1 M = none := rfl
set_option maxRecDepth 100000 in
set_option maxHeartbeats 4000000 in
theorem wlX1_passBeds_2 {J : JT} (g : Gd J cX1_passBeds RX1) (hr : Rt J (some .boolean)) (hR : (JR J).frames = 2 ∧ (JR J).locals = 46) (hn : Jn J = 4) (K63 : Mem → Option (Int32 × Mem)) (φ : Nat) (t : Nat) (ht : isO 1 t) (hK63 : ∀ (M : Mem), X J (fun q : Int32 × Mem => (some (Value.int q.1), q.2)) (K63 M) 63 [(0, .ref t)] [] M) : ∀ (n : Nat) (x1 : Int32) (M : Mem), X J (fun q : Int32 × Mem => (some (Value.int q.1), q.2)) (lX1_passBeds_2 K63 φ t n x1 M) 2 [(0, .ref t), (1, .int x1)] [] M := by
  intro n
  induction n with
  | zero =>
    intro x1 M
    exact x_none
  | succ n ih =>
    intro x1 M
    rw [lX1_passBeds_2_s]
    exact (x_iload_n g 1 dX1_passBeds_2 rfl rfl
 (x_bipush g dX1_passBeds_3 kB_8
 (x_icmp_gt g 137 dX1_passBeds_5 rfl
 (fun _ => (x_iconst g dX1_passBeds_137 kI_1
 (x_iret g hr rfl rfl dX1_passBeds_138)))
 (fun _ => (x_aload_n g 0 dX1_passBeds_8 rfl rfl
 (x_getD g fl_RX1_15 rfl ht dX1_passBeds_9 (fun vr1 hvr1 =>
 (x_callVip (As := []) g mv_X6_word mi_X6_word lk_RX1_37 hvr1 (fun b hb => kX6_word vr1 M hvr1 _ _ hb) rfl rfl hR ⟨Nat.le_of_ble_eq_true rfl, Nat.le_of_ble_eq_true rfl⟩ (Nat.le_of_ble_eq_true rfl) dX1_passBeds_12 (fun v2 =>
 (x_bipush g dX1_passBeds_15 kB_6
 (x_icmp_ne g 137 dX1_passBeds_17 rfl
 (fun _ => (x_iconst g dX1_passBeds_137 kI_1
 (x_iret g hr rfl rfl dX1_passBeds_138)))
 (fun _ => (x_iload_n g 1 dX1_passBeds_20 rfl rfl
 (x_bipush g dX1_passBeds_21 kB_8
 (x_icmp_ne g 36 dX1_passBeds_23 rfl
 (fun _ => (x_aload_n g 0 dX1_passBeds_36 rfl rfl
 (x_getD g fl_RX1_15 rfl ht dX1_passBeds_37 (fun vr3 hvr3 =>
 (x_callVv (As := []) g mv_X6_goOn mi_X6_goOn lk_RX1_64 hvr3 (fun b Mh_ hb => kX6_goOn vr3 M hvr3 _ _ hb) rfl rfl hR ⟨Nat.le_of_ble_eq_true rfl, Nat.le_of_ble_eq_true rfl⟩ (Nat.le_of_ble_eq_true rfl) dX1_passBeds_40 (fun vu4 M5 =>
 (x_aload_n g 0 dX1_passBeds_43 rfl rfl
 (x_getD g fl_RX1_19 rfl ht dX1_passBeds_44 (fun vr6 hvr6 =>
 (x_aload_n g 0 dX1_passBeds_47 rfl rfl
 (x_getD g fl_RX1_15 rfl ht dX1_passBeds_48 (fun vr7 hvr7 =>
 (x_callVlp (As := []) g mv_X6_name mi_X6_name lk_RX1_73 hvr7 (fun b hb => kX6_name vr7 M5 hvr7 _ _ hb) rfl rfl hR ⟨Nat.le_of_ble_eq_true rfl, Nat.le_of_ble_eq_true rfl⟩ (Nat.le_of_ble_eq_true rfl) dX1_passBeds_51 (fun vz8 =>
 (x_callVip (As := [.long vz8]) g mv_X2_rockNamed mi_X2_rockNamed lk_RX1_91 hvr6 (fun b hb => kX2_rockNamed φ vr6 vz8 M5 hvr6 _ _ hb) rfl rfl hR ⟨Nat.le_of_ble_eq_true rfl, Nat.le_of_ble_eq_true rfl⟩ (Nat.le_of_ble_eq_true rfl) dX1_passBeds_54 (fun v9 =>
 (x_istore_n (L' := [(2, .int v9), (0, .ref t), (1, .int x1)]) g dX1_passBeds_57 rfl hn (Nat.le_of_ble_eq_true rfl) rfl
 (x_iload_n g 0 dX1_passBeds_58 rfl rfl
 (x_iconst g dX1_passBeds_59 kI_m1
 (x_icmp_ne g 78 dX1_passBeds_60 rfl
 (fun _ => (x_aload_n g 1 dX1_passBeds_78 rfl rfl
 (x_getD g fl_RX1_15 rfl ht dX1_passBeds_79 (fun vr10 hvr10 =>
 (x_callVv (As := []) g mv_X6_goOn mi_X6_goOn lk_RX1_64 hvr10 (fun b Mh_ hb => kX6_goOn vr10 M5 hvr10 _ _ hb) rfl rfl hR ⟨Nat.le_of_ble_eq_true rfl, Nat.le_of_ble_eq_true rfl⟩ (Nat.le_of_ble_eq_true rfl) dX1_passBeds_82 (fun vu11 M12 =>
 (x_aload_n g 1 dX1_passBeds_85 rfl rfl
 (x_getD g fl_RX1_15 rfl ht dX1_passBeds_86 (fun vr13 hvr13 =>
 (x_bipush g dX1_passBeds_89 kB_7
 (x_callVi (As := [.int (7 : Int32)]) g mv_X6_passWord mi_X6_passWord lk_RX1_95 hvr13 (fun b Mh_ hb => kX6_passWord vr13 (7 : Int32) M12 hvr13 _ _ hb) rfl rfl hR ⟨Nat.le_of_ble_eq_true rfl, Nat.le_of_ble_eq_true rfl⟩ (Nat.le_of_ble_eq_true rfl) dX1_passBeds_91 (fun v14 M15 =>
 (x_if_ne g 99 dX1_passBeds_94 rfl
 (fun _ => (x_aload_n g 1 dX1_passBeds_99 rfl rfl
 (x_getD g fl_RX1_15 rfl ht dX1_passBeds_100 (fun vr16 hvr16 =>
 (x_callVip (As := []) g mv_X6_value mi_X6_value lk_RX1_77 hvr16 (fun b hb => kX6_value vr16 M15 hvr16 _ _ hb) rfl rfl hR ⟨Nat.le_of_ble_eq_true rfl, Nat.le_of_ble_eq_true rfl⟩ (Nat.le_of_ble_eq_true rfl) dX1_passBeds_103 (fun v17 =>
 (x_istore_n (L' := [(3, .int v17), (2, .int v9), (0, .ref t), (1, .int x1)]) g dX1_passBeds_106 rfl hn (Nat.le_of_ble_eq_true rfl) rfl
 (x_aload_n g 2 dX1_passBeds_107 rfl rfl
 (x_getD g fl_RX1_15 rfl ht dX1_passBeds_108 (fun vr18 hvr18 =>
 (x_iconst g dX1_passBeds_111 kI_1
 (x_bipush g dX1_passBeds_112 kB_99
 (x_callVi (As := [.int (1 : Int32), .int (99 : Int32)]) g mv_X6_passNumber mi_X6_passNumber lk_RX1_80 hvr18 (fun b Mh_ hb => kX6_passNumber vr18 (1 : Int32) (99 : Int32) M15 hvr18 _ _ hb) rfl rfl hR ⟨Nat.le_of_ble_eq_true rfl, Nat.le_of_ble_eq_true rfl⟩ (Nat.le_of_ble_eq_true rfl) dX1_passBeds_114 (fun v19 M20 =>
 (x_if_ne g 122 dX1_passBeds_117 rfl
 (fun _ => (x_aload_n g 2 dX1_passBeds_122 rfl rfl
 (x_getD g fl_RX1_19 rfl ht dX1_passBeds_123 (fun vr21 hvr21 =>
 (x_iload_n g 1 dX1_passBeds_126 rfl rfl
 (x_iload_n g 0 dX1_passBeds_127 rfl rfl
 (x_callVv (As := [.int v9, .int v17]) g mv_X2_addLayer mi_X2_addLayer lk_RX1_121 hvr21 (fun b Mh_ hb => kX2_addLayer vr21 v9 v17 M20 hvr21 _ _ hb) rfl rfl hR ⟨Nat.le_of_ble_eq_true rfl, Nat.le_of_ble_eq_true rfl⟩ (Nat.le_of_ble_eq_true rfl) dX1_passBeds_128 (fun vu22 M23 =>
 (x_iinc (L' := [(1, .int (x1 + 1)), (3, .int v17), (2, .int v9), (0, .ref t)]) (v := (x1 + 1)) g 3 dX1_passBeds_131 rfl (by rw [kI_1]) hn (Nat.le_of_ble_eq_true rfl) rfl
 (x_goto g 2 dX1_passBeds_134 rfl
 (x_sub [3, 0] rfl (ih (x1 + 1) M23))))))))))))
 (fun _ => (x_iconst g dX1_passBeds_120 kI_0
 (x_iret g hr rfl rfl dX1_passBeds_121))))))))))))))))))
 (fun _ => (x_iconst g dX1_passBeds_97 kI_0
 (x_iret g hr rfl rfl dX1_passBeds_98))))))))))))))))
 (fun _ => (x_sub [1] rfl (hK63 M5)))))))))))))))))))))))
 (fun _ => (x_aload_n g 0 dX1_passBeds_26 rfl rfl
 (x_getD g fl_RX1_15 rfl ht dX1_passBeds_27 (fun vr24 hvr24 =>
 (x_bipush g dX1_passBeds_30 kB_6
 (x_callVi (As := [.int (6 : Int32)]) g mv_X6_refuseToken mi_X6_refuseToken lk_RX1_56 hvr24 (fun b Mh_ hb => kX6_refuseToken vr24 (6 : Int32) M hvr24 _ _ hb) rfl rfl hR ⟨Nat.le_of_ble_eq_true rfl, Nat.le_of_ble_eq_true rfl⟩ (Nat.le_of_ble_eq_true rfl) dX1_passBeds_32 (fun v25 M26 =>
 (x_ck (fun hq27 => x_iret g hr (nbz hq27) rfl dX1_passBeds_35))))))))))))))))))))))))
def fX1_passBeds (φ : Nat) (t : Nat) (M : Mem) : Option (Int32 × Mem) :=
  lX1_passBeds_2 (fun (M28 : Mem) => (ldr 6 (M28.2.2 t 1)).bind fun vr29 =>
 (ldr 6 (M28.2.2 t 1)).bind fun vr30 =>
 (fX6_nameFault vr30 M28).bind fun v31 =>
 bd (fX6_refuseToken vr29 v31 M28) fun v32 M33 =>
 if v32 = 0 ∨ v32 = 1 then some (v32, M33) else none) φ t φ (0 : Int32) M
set_option maxRecDepth 100000 in
set_option maxHeartbeats 4000000 in
theorem kX1_passBeds (φ : Nat) (t : Nat) (M : Mem) (ht : isO 1 t) (l : Launch) (G : GT) {b : (Int32 × Mem)} (hE : fX1_passBeds φ t M = some b) : Ok l G yX1_passBeds cX1_passBeds 4 (some .boolean) 2 46 [.ref t] M ((fun q : Int32 × Mem => (some (Value.int q.1), q.2)) b).1 ((fun q : Int32 × Mem => (some (Value.int q.1), q.2)) b).2 := by
  refine Ok.ofX (pj := (fun q : Int32 × Mem => (some (Value.int q.1), q.2))) (by decide) (Nat.le_of_ble_eq_true rfl) hE (fun J g hr hG hl hR hn => ?_)
  show X J (fun q : Int32 × Mem => (some (Value.int q.1), q.2)) (fX1_passBeds φ t M) 0 [(0, .ref t)] [] M
  unfold fX1_passBeds
  exact (x_iconst g dX1_passBeds_0 kI_0
 (x_istore_n (L' := [(1, .int (0 : Int32)), (0, .ref t)]) g dX1_passBeds_1 rfl hn (Nat.le_of_ble_eq_true rfl) rfl
 (x_sub [1, 0] rfl (wlX1_passBeds_2 g hr hR hn _ φ t ht
 (fun M28 => by exact (x_aload_n g 0 dX1_passBeds_63 rfl rfl
 (x_getD g fl_RX1_15 rfl ht dX1_passBeds_64 (fun vr29 hvr29 =>
 (x_aload_n g 0 dX1_passBeds_67 rfl rfl
 (x_getD g fl_RX1_15 rfl ht dX1_passBeds_68 (fun vr30 hvr30 =>
 (x_callVip (As := []) g mv_X6_nameFault mi_X6_nameFault lk_RX1_70 hvr30 (fun b hb => kX6_nameFault vr30 M28 hvr30 _ _ hb) rfl rfl hR ⟨Nat.le_of_ble_eq_true rfl, Nat.le_of_ble_eq_true rfl⟩ (Nat.le_of_ble_eq_true rfl) dX1_passBeds_71 (fun v31 =>
 (x_callVi (As := [.int v31]) g mv_X6_refuseToken mi_X6_refuseToken lk_RX1_56 hvr29 (fun b Mh_ hb => kX6_refuseToken vr29 v31 M28 hvr29 _ _ hb) rfl rfl hR ⟨Nat.le_of_ble_eq_true rfl, Nat.le_of_ble_eq_true rfl⟩ (Nat.le_of_ble_eq_true rfl) dX1_passBeds_74 (fun v32 M33 =>
 (x_ck (fun hq34 => x_iret g hr (nbz hq34) rfl dX1_passBeds_77))))))))))))) φ (0 : Int32) M))))
def fX1_passHole (φ : Nat) (t : Nat) (M : Mem) : Option (Int32 × Mem) :=
  (ldr 2 (M.2.2 t 2)).bind fun vr1 =>
 if (M.1 vr1 4) < (6 : Int32) then
 (ldr 6 (M.2.2 t 1)).bind fun vr2 =>
 bd (fX6_goOn vr2 M) fun vu3 M4 =>
 (fX1_isNewName φ t M4).bind fun v5 =>
 if v5 = 0 then
 (ldr 6 (M4.2.2 t 1)).bind fun vr48 =>
 (ldr 6 (M4.2.2 t 1)).bind fun vr49 =>
 (fX6_nameFault vr49 M4).bind fun v50 =>
 bd (fX6_refuseToken vr48 v50 M4) fun v51 M52 =>
 if v51 = 0 ∨ v51 = 1 then some (v51, M52) else none
 else
 (ldr 6 (M4.2.2 t 1)).bind fun vr6 =>
 (fX6_name vr6 M4).bind fun vz7 =>
 (ldr 6 (M4.2.2 t 1)).bind fun vr8 =>
 bd (fX6_goOn vr8 M4) fun vu9 M10 =>
 (ldr 6 (M10.2.2 t 1)).bind fun vr11 =>
 bd (fX6_passWord vr11 (5 : Int32) M10) fun v12 M13 =>
 if v12 = 0 then
 some ((0 : Int32), M13)
 else
 (ldr 6 (M13.2.2 t 1)).bind fun vr14 =>
 (fX6_value vr14 M13).bind fun v15 =>
 (ldr 6 (M13.2.2 t 1)).bind fun vr16 =>
 bd (fX6_passNumber vr16 (0 : Int32) (999 : Int32) M13) fun v17 M18 =>
 if v17 = 0 then
 some ((0 : Int32), M18)
 else
 (ldr 6 (M18.2.2 t 1)).bind fun vr19 =>
 (fX6_isNumber vr19 (0 : Int32) (999 : Int32) M18).bind fun v20 =>
 if v20 = 0 then
 (ldr 6 (M18.2.2 t 1)).bind fun vr42 =>
 (ldr 6 (M18.2.2 t 1)).bind fun vr43 =>
 (fX6_numberFault vr43 M18).bind fun v44 =>
 bd (fX6_refuseToken vr42 v44 M18) fun v45 M46 =>
 if v45 = 0 ∨ v45 = 1 then some (v45, M46) else none
 else
 (ldr 2 (M18.2.2 t 2)).bind fun vr21 =>
 (ldr 6 (M18.2.2 t 1)).bind fun vr22 =>
 (fX6_value vr22 M18).bind fun v23 =>
 (fX2_isHoleAt φ vr21 v15 v23 M18).bind fun v24 =>
 if v24 = 0 then
 (ldr 2 (M18.2.2 t 2)).bind fun vr25 =>
 (ldr 6 (M18.2.2 t 1)).bind fun vr26 =>
 (fX6_value vr26 M18).bind fun v27 =>
 bd (fX2_addHole vr25 vz7 v15 v27 M18) fun vu28 M29 =>
 (ldr 6 (M29.2.2 t 1)).bind fun vr30 =>
 bd (fX6_goOn vr30 M29) fun vu31 M32 =>
 bd (fX1_passBeds φ t M32) fun v33 M34 =>
 if v33 = 0 then
 some ((0 : Int32), M34)
 else
 (ldr 6 (M34.2.2 t 1)).bind fun vr35 =>
 bd (fX6_passSemicolon vr35 M34) fun v36 M37 =>
 if v36 = 0 then
 some ((0 : Int32), M37)
 else
 some ((1 : Int32), M37)
 else
 (ldr 6 (M18.2.2 t 1)).bind fun vr38 =>
 bd (fX6_refuseToken vr38 (5 : Int32) M18) fun v39 M40 =>
 if v39 = 0 ∨ v39 = 1 then some (v39, M40) else none
 else
 (ldr 6 (M.2.2 t 1)).bind fun vr54 =>
 bd (fX6_refuseToken vr54 (6 : Int32) M) fun v55 M56 =>
 if v55 = 0 ∨ v55 = 1 then some (v55, M56) else none
set_option maxRecDepth 100000 in
set_option maxHeartbeats 4000000 in
theorem kX1_passHole (φ : Nat) (t : Nat) (M : Mem) (ht : isO 1 t) (l : Launch) (G : GT) {b : (Int32 × Mem)} (hE : fX1_passHole φ t M = some b) : Ok l G yX1_passHole cX1_passHole 4 (some .boolean) 4 88 [.ref t] M ((fun q : Int32 × Mem => (some (Value.int q.1), q.2)) b).1 ((fun q : Int32 × Mem => (some (Value.int q.1), q.2)) b).2 := by
  refine Ok.ofX (pj := (fun q : Int32 × Mem => (some (Value.int q.1), q.2))) (by decide) (Nat.le_of_ble_eq_true rfl) hE (fun J g hr hG hl hR hn => ?_)
  show X J (fun q : Int32 × Mem => (some (Value.int q.1), q.2)) (fX1_passHole φ t M) 0 [(0, .ref t)] [] M
  unfold fX1_passHole
  exact (x_aload_n g 0 dX1_passHole_0 rfl rfl
 (x_getD g fl_RX1_19 rfl ht dX1_passHole_1 (fun vr1 hvr1 =>
 (x_getI g fl_RX1_102 rfl hvr1 dX1_passHole_4
 (x_bipush g dX1_passHole_7 kB_6
 (x_icmp_lt g 22 dX1_passHole_9 rfl
 (fun _ => (x_aload_n g 0 dX1_passHole_22 rfl rfl
 (x_getD g fl_RX1_15 rfl ht dX1_passHole_23 (fun vr2 hvr2 =>
 (x_callVv (As := []) g mv_X6_goOn mi_X6_goOn lk_RX1_64 hvr2 (fun b Mh_ hb => kX6_goOn vr2 M hvr2 _ _ hb) rfl rfl hR ⟨Nat.le_of_ble_eq_true rfl, Nat.le_of_ble_eq_true rfl⟩ (Nat.le_of_ble_eq_true rfl) dX1_passHole_26 (fun vu3 M4 =>
 (x_aload_n g 0 dX1_passHole_29 rfl rfl
 (x_callVip (As := []) g mv_X1_isNewName mi_X1_isNewName lk_RX1_67 ht (fun b hb => kX1_isNewName φ t M4 ht _ _ hb) rfl rfl hR ⟨Nat.le_of_ble_eq_true rfl, Nat.le_of_ble_eq_true rfl⟩ (Nat.le_of_ble_eq_true rfl) dX1_passHole_30 (fun v5 =>
 (x_if_ne g 51 dX1_passHole_33 rfl
 (fun _ => (x_aload_n g 0 dX1_passHole_51 rfl rfl
 (x_getD g fl_RX1_15 rfl ht dX1_passHole_52 (fun vr6 hvr6 =>
 (x_callVlp (As := []) g mv_X6_name mi_X6_name lk_RX1_73 hvr6 (fun b hb => kX6_name vr6 M4 hvr6 _ _ hb) rfl rfl hR ⟨Nat.le_of_ble_eq_true rfl, Nat.le_of_ble_eq_true rfl⟩ (Nat.le_of_ble_eq_true rfl) dX1_passHole_55 (fun vz7 =>
 (x_lstore_n (L' := [(1, .long vz7), (0, .ref t)]) g dX1_passHole_58 rfl hn (Nat.le_of_ble_eq_true rfl) rfl
 (x_aload_n g 1 dX1_passHole_59 rfl rfl
 (x_getD g fl_RX1_15 rfl ht dX1_passHole_60 (fun vr8 hvr8 =>
 (x_callVv (As := []) g mv_X6_goOn mi_X6_goOn lk_RX1_64 hvr8 (fun b Mh_ hb => kX6_goOn vr8 M4 hvr8 _ _ hb) rfl rfl hR ⟨Nat.le_of_ble_eq_true rfl, Nat.le_of_ble_eq_true rfl⟩ (Nat.le_of_ble_eq_true rfl) dX1_passHole_63 (fun vu9 M10 =>
 (x_aload_n g 1 dX1_passHole_66 rfl rfl
 (x_getD g fl_RX1_15 rfl ht dX1_passHole_67 (fun vr11 hvr11 =>
 (x_iconst g dX1_passHole_70 kI_5
 (x_callVi (As := [.int (5 : Int32)]) g mv_X6_passWord mi_X6_passWord lk_RX1_95 hvr11 (fun b Mh_ hb => kX6_passWord vr11 (5 : Int32) M10 hvr11 _ _ hb) rfl rfl hR ⟨Nat.le_of_ble_eq_true rfl, Nat.le_of_ble_eq_true rfl⟩ (Nat.le_of_ble_eq_true rfl) dX1_passHole_71 (fun v12 M13 =>
 (x_if_ne g 79 dX1_passHole_74 rfl
 (fun _ => (x_aload_n g 1 dX1_passHole_79 rfl rfl
 (x_getD g fl_RX1_15 rfl ht dX1_passHole_80 (fun vr14 hvr14 =>
 (x_callVip (As := []) g mv_X6_value mi_X6_value lk_RX1_77 hvr14 (fun b hb => kX6_value vr14 M13 hvr14 _ _ hb) rfl rfl hR ⟨Nat.le_of_ble_eq_true rfl, Nat.le_of_ble_eq_true rfl⟩ (Nat.le_of_ble_eq_true rfl) dX1_passHole_83 (fun v15 =>
 (x_istore_n (L' := [(3, .int v15), (1, .long vz7), (0, .ref t)]) g dX1_passHole_86 rfl hn (Nat.le_of_ble_eq_true rfl) rfl
 (x_aload_n g 2 dX1_passHole_87 rfl rfl
 (x_getD g fl_RX1_15 rfl ht dX1_passHole_88 (fun vr16 hvr16 =>
 (x_iconst g dX1_passHole_91 kI_0
 (x_sipush g dX1_passHole_92 kS_999
 (x_callVi (As := [.int (0 : Int32), .int (999 : Int32)]) g mv_X6_passNumber mi_X6_passNumber lk_RX1_80 hvr16 (fun b Mh_ hb => kX6_passNumber vr16 (0 : Int32) (999 : Int32) M13 hvr16 _ _ hb) rfl rfl hR ⟨Nat.le_of_ble_eq_true rfl, Nat.le_of_ble_eq_true rfl⟩ (Nat.le_of_ble_eq_true rfl) dX1_passHole_95 (fun v17 M18 =>
 (x_if_ne g 103 dX1_passHole_98 rfl
 (fun _ => (x_aload_n g 2 dX1_passHole_103 rfl rfl
 (x_getD g fl_RX1_15 rfl ht dX1_passHole_104 (fun vr19 hvr19 =>
 (x_iconst g dX1_passHole_107 kI_0
 (x_sipush g dX1_passHole_108 kS_999
 (x_callVip (As := [.int (0 : Int32), .int (999 : Int32)]) g mv_X6_isNumber mi_X6_isNumber lk_RX1_105 hvr19 (fun b hb => kX6_isNumber vr19 (0 : Int32) (999 : Int32) M18 hvr19 _ _ hb) rfl rfl hR ⟨Nat.le_of_ble_eq_true rfl, Nat.le_of_ble_eq_true rfl⟩ (Nat.le_of_ble_eq_true rfl) dX1_passHole_111 (fun v20 =>
 (x_if_ne g 132 dX1_passHole_114 rfl
 (fun _ => (x_aload_n g 2 dX1_passHole_132 rfl rfl
 (x_getD g fl_RX1_19 rfl ht dX1_passHole_133 (fun vr21 hvr21 =>
 (x_iload_n g 0 dX1_passHole_136 rfl rfl
 (x_aload_n g 2 dX1_passHole_137 rfl rfl
 (x_getD g fl_RX1_15 rfl ht dX1_passHole_138 (fun vr22 hvr22 =>
 (x_callVip (As := []) g mv_X6_value mi_X6_value lk_RX1_77 hvr22 (fun b hb => kX6_value vr22 M18 hvr22 _ _ hb) rfl rfl hR ⟨Nat.le_of_ble_eq_true rfl, Nat.le_of_ble_eq_true rfl⟩ (Nat.le_of_ble_eq_true rfl) dX1_passHole_141 (fun v23 =>
 (x_callVip (As := [.int v15, .int v23]) g mv_X2_isHoleAt mi_X2_isHoleAt lk_RX1_111 hvr21 (fun b hb => kX2_isHoleAt φ vr21 v15 v23 M18 hvr21 _ _ hb) rfl rfl hR ⟨Nat.le_of_ble_eq_true rfl, Nat.le_of_ble_eq_true rfl⟩ (Nat.le_of_ble_eq_true rfl) dX1_passHole_144 (fun v24 =>
 (x_if_eq g 159 dX1_passHole_147 rfl
 (fun _ => (x_aload_n g 2 dX1_passHole_159 rfl rfl
 (x_getD g fl_RX1_19 rfl ht dX1_passHole_160 (fun vr25 hvr25 =>
 (x_lload_n g 1 dX1_passHole_163 rfl rfl
 (x_iload_n g 0 dX1_passHole_164 rfl rfl
 (x_aload_n g 2 dX1_passHole_165 rfl rfl
 (x_getD g fl_RX1_15 rfl ht dX1_passHole_166 (fun vr26 hvr26 =>
 (x_callVip (As := []) g mv_X6_value mi_X6_value lk_RX1_77 hvr26 (fun b hb => kX6_value vr26 M18 hvr26 _ _ hb) rfl rfl hR ⟨Nat.le_of_ble_eq_true rfl, Nat.le_of_ble_eq_true rfl⟩ (Nat.le_of_ble_eq_true rfl) dX1_passHole_169 (fun v27 =>
 (x_callVv (As := [.long vz7, .int v15, .int v27]) g mv_X2_addHole mi_X2_addHole lk_RX1_114 hvr25 (fun b Mh_ hb => kX2_addHole vr25 vz7 v15 v27 M18 hvr25 _ _ hb) rfl rfl hR ⟨Nat.le_of_ble_eq_true rfl, Nat.le_of_ble_eq_true rfl⟩ (Nat.le_of_ble_eq_true rfl) dX1_passHole_172 (fun vu28 M29 =>
 (x_aload_n g 2 dX1_passHole_175 rfl rfl
 (x_getD g fl_RX1_15 rfl ht dX1_passHole_176 (fun vr30 hvr30 =>
 (x_callVv (As := []) g mv_X6_goOn mi_X6_goOn lk_RX1_64 hvr30 (fun b Mh_ hb => kX6_goOn vr30 M29 hvr30 _ _ hb) rfl rfl hR ⟨Nat.le_of_ble_eq_true rfl, Nat.le_of_ble_eq_true rfl⟩ (Nat.le_of_ble_eq_true rfl) dX1_passHole_179 (fun vu31 M32 =>
 (x_aload_n g 2 dX1_passHole_182 rfl rfl
 (x_callVi (As := []) g mv_X1_passBeds mi_X1_passBeds lk_RX1_118 ht (fun b Mh_ hb => kX1_passBeds φ t M32 ht _ _ hb) rfl rfl hR ⟨Nat.le_of_ble_eq_true rfl, Nat.le_of_ble_eq_true rfl⟩ (Nat.le_of_ble_eq_true rfl) dX1_passHole_183 (fun v33 M34 =>
 (x_if_eq g 203 dX1_passHole_186 rfl
 (fun _ => (x_iconst g dX1_passHole_203 kI_0
 (x_iret g hr rfl rfl dX1_passHole_204)))
 (fun _ => (x_aload_n g 2 dX1_passHole_189 rfl rfl
 (x_getD g fl_RX1_15 rfl ht dX1_passHole_190 (fun vr35 hvr35 =>
 (x_callVi (As := []) g mv_X6_passSemicolon mi_X6_passSemicolon lk_RX1_88 hvr35 (fun b Mh_ hb => kX6_passSemicolon vr35 M34 hvr35 _ _ hb) rfl rfl hR ⟨Nat.le_of_ble_eq_true rfl, Nat.le_of_ble_eq_true rfl⟩ (Nat.le_of_ble_eq_true rfl) dX1_passHole_193 (fun v36 M37 =>
 (x_if_eq g 203 dX1_passHole_196 rfl
 (fun _ => (x_iconst g dX1_passHole_203 kI_0
 (x_iret g hr rfl rfl dX1_passHole_204)))
 (fun _ => (x_iconst g dX1_passHole_199 kI_1
 (x_goto g 204 dX1_passHole_200 rfl
 (x_iret g hr rfl rfl dX1_passHole_204)))))))))))))))))))))))))))))))))
 (fun _ => (x_aload_n g 2 dX1_passHole_150 rfl rfl
 (x_getD g fl_RX1_15 rfl ht dX1_passHole_151 (fun vr38 hvr38 =>
 (x_iconst g dX1_passHole_154 kI_5
 (x_callVi (As := [.int (5 : Int32)]) g mv_X6_refuseToken mi_X6_refuseToken lk_RX1_56 hvr38 (fun b Mh_ hb => kX6_refuseToken vr38 (5 : Int32) M18 hvr38 _ _ hb) rfl rfl hR ⟨Nat.le_of_ble_eq_true rfl, Nat.le_of_ble_eq_true rfl⟩ (Nat.le_of_ble_eq_true rfl) dX1_passHole_155 (fun v39 M40 =>
 (x_ck (fun hq41 => x_iret g hr (nbz hq41) rfl dX1_passHole_158))))))))))))))))))))))
 (fun _ => (x_aload_n g 2 dX1_passHole_117 rfl rfl
 (x_getD g fl_RX1_15 rfl ht dX1_passHole_118 (fun vr42 hvr42 =>
 (x_aload_n g 2 dX1_passHole_121 rfl rfl
 (x_getD g fl_RX1_15 rfl ht dX1_passHole_122 (fun vr43 hvr43 =>
 (x_callVip (As := []) g mv_X6_numberFault mi_X6_numberFault lk_RX1_108 hvr43 (fun b hb => kX6_numberFault vr43 M18 hvr43 _ _ hb) rfl rfl hR ⟨Nat.le_of_ble_eq_true rfl, Nat.le_of_ble_eq_true rfl⟩ (Nat.le_of_ble_eq_true rfl) dX1_passHole_125 (fun v44 =>
 (x_callVi (As := [.int v44]) g mv_X6_refuseToken mi_X6_refuseToken lk_RX1_56 hvr42 (fun b Mh_ hb => kX6_refuseToken vr42 v44 M18 hvr42 _ _ hb) rfl rfl hR ⟨Nat.le_of_ble_eq_true rfl, Nat.le_of_ble_eq_true rfl⟩ (Nat.le_of_ble_eq_true rfl) dX1_passHole_128 (fun v45 M46 =>
 (x_ck (fun hq47 => x_iret g hr (nbz hq47) rfl dX1_passHole_131))))))))))))))))))))))
 (fun _ => (x_iconst g dX1_passHole_101 kI_0
 (x_iret g hr rfl rfl dX1_passHole_102))))))))))))))))))
 (fun _ => (x_iconst g dX1_passHole_77 kI_0
 (x_iret g hr rfl rfl dX1_passHole_78))))))))))))))))))))))
 (fun _ => (x_aload_n g 0 dX1_passHole_36 rfl rfl
 (x_getD g fl_RX1_15 rfl ht dX1_passHole_37 (fun vr48 hvr48 =>
 (x_aload_n g 0 dX1_passHole_40 rfl rfl
 (x_getD g fl_RX1_15 rfl ht dX1_passHole_41 (fun vr49 hvr49 =>
 (x_callVip (As := []) g mv_X6_nameFault mi_X6_nameFault lk_RX1_70 hvr49 (fun b hb => kX6_nameFault vr49 M4 hvr49 _ _ hb) rfl rfl hR ⟨Nat.le_of_ble_eq_true rfl, Nat.le_of_ble_eq_true rfl⟩ (Nat.le_of_ble_eq_true rfl) dX1_passHole_44 (fun v50 =>
 (x_callVi (As := [.int v50]) g mv_X6_refuseToken mi_X6_refuseToken lk_RX1_56 hvr48 (fun b Mh_ hb => kX6_refuseToken vr48 v50 M4 hvr48 _ _ hb) rfl rfl hR ⟨Nat.le_of_ble_eq_true rfl, Nat.le_of_ble_eq_true rfl⟩ (Nat.le_of_ble_eq_true rfl) dX1_passHole_47 (fun v51 M52 =>
 (x_ck (fun hq53 => x_iret g hr (nbz hq53) rfl dX1_passHole_50)))))))))))))))))))))))
 (fun _ => (x_aload_n g 0 dX1_passHole_12 rfl rfl
 (x_getD g fl_RX1_15 rfl ht dX1_passHole_13 (fun vr54 hvr54 =>
 (x_bipush g dX1_passHole_16 kB_6
 (x_callVi (As := [.int (6 : Int32)]) g mv_X6_refuseToken mi_X6_refuseToken lk_RX1_56 hvr54 (fun b Mh_ hb => kX6_refuseToken vr54 (6 : Int32) M hvr54 _ _ hb) rfl rfl hR ⟨Nat.le_of_ble_eq_true rfl, Nat.le_of_ble_eq_true rfl⟩ (Nat.le_of_ble_eq_true rfl) dX1_passHole_18 (fun v55 M56 =>
 (x_ck (fun hq57 => x_iret g hr (nbz hq57) rfl dX1_passHole_21)))))))))))))))
def fX2_turnOf (a1 : Int32) (a2 : Int32) (a3 : Int32) (a4 : Int32) (a5 : Int32) (a6 : Int32) (M : Mem) : Option Int32 :=
  some (((a3 - a1) * (a6 - a2)) - ((a5 - a1) * (a4 - a2)))
set_option maxRecDepth 100000 in
set_option maxHeartbeats 4000000 in
theorem kX2_turnOf (a1 : Int32) (a2 : Int32) (a3 : Int32) (a4 : Int32) (a5 : Int32) (a6 : Int32) (M : Mem) (l : Launch) (G : GT) {b : Int32} (hE : fX2_turnOf a1 a2 a3 a4 a5 a6 M = some b) : Ok l G yX2_turnOf cX2_turnOf 6 (some .int) 0 0 [.int a1, .int a2, .int a3, .int a4, .int a5, .int a6] M ((fun b : Int32 => (some (Value.int b), M)) b).1 ((fun b : Int32 => (some (Value.int b), M)) b).2 := by
  refine Ok.ofX (pj := (fun b : Int32 => (some (Value.int b), M))) (by decide) (Nat.le_of_ble_eq_true rfl) hE (fun J g hr hG hl hR hn => ?_)
  show X J (fun b : Int32 => (some (Value.int b), M)) (fX2_turnOf a1 a2 a3 a4 a5 a6 M) 0 [(0, .int a1), (1, .int a2), (2, .int a3), (3, .int a4), (4, .int a5), (5, .int a6)] [] M
  unfold fX2_turnOf
  exact (x_iload_n g 2 dX2_turnOf_0 rfl rfl
 (x_iload_n g 0 dX2_turnOf_1 rfl rfl
 (x_isub g dX2_turnOf_2
 (x_iload g 5 dX2_turnOf_3 rfl
 (x_iload_n g 1 dX2_turnOf_5 rfl rfl
 (x_isub g dX2_turnOf_6
 (x_imul g dX2_turnOf_7
 (x_iload g 4 dX2_turnOf_8 rfl
 (x_iload_n g 0 dX2_turnOf_10 rfl rfl
 (x_isub g dX2_turnOf_11
 (x_iload_n g 3 dX2_turnOf_12 rfl rfl
 (x_iload_n g 1 dX2_turnOf_13 rfl rfl
 (x_isub g dX2_turnOf_14
 (x_imul g dX2_turnOf_15
 (x_isub g dX2_turnOf_16
 (x_iret g hr rfl rfl dX2_turnOf_17))))))))))))))))
def fX2_turnOfHoles (t : Nat) (a1 : Int32) (a2 : Int32) (a3 : Int32) (M : Mem) : Option Int32 :=
  ixk a1 6 (
 ixk a1 6 (
 ixk a2 6 (
 ixk a2 6 (
 ixk a3 6 (
 ixk a3 6 (
 (fX2_turnOf (M.1 (t + 5) a1.toNatClampNeg) (M.1 (t + 6) a1.toNatClampNeg) (M.1 (t + 5) a2.toNatClampNeg) (M.1 (t + 6) a2.toNatClampNeg) (M.1 (t + 5) a3.toNatClampNeg) (M.1 (t + 6) a3.toNatClampNeg) M).bind fun v1 =>
 some v1))))))
set_option maxRecDepth 100000 in
set_option maxHeartbeats 4000000 in
theorem kX2_turnOfHoles (t : Nat) (a1 : Int32) (a2 : Int32) (a3 : Int32) (M : Mem) (ht : isO 2 t) (l : Launch) (G : GT) {b : Int32} (hE : fX2_turnOfHoles t a1 a2 a3 M = some b) : Ok l G yX2_turnOfHoles cX2_turnOfHoles 4 (some .int) 1 25 [.ref t, .int a1, .int a2, .int a3] M ((fun b : Int32 => (some (Value.int b), M)) b).1 ((fun b : Int32 => (some (Value.int b), M)) b).2 := by
  refine Ok.ofX (pj := (fun b : Int32 => (some (Value.int b), M))) (by decide) (Nat.le_of_ble_eq_true rfl) hE (fun J g hr hG hl hR hn => ?_)
  show X J (fun b : Int32 => (some (Value.int b), M)) (fX2_turnOfHoles t a1 a2 a3 M) 0 [(0, .ref t), (1, .int a1), (2, .int a2), (3, .int a3)] [] M
  unfold fX2_turnOfHoles
  exact (x_aload_n g 0 dX2_turnOfHoles_0 rfl rfl
 (x_getS g 5 fl_RX2_32 rfl ht dX2_turnOfHoles_1
 (x_iload_n g 1 dX2_turnOfHoles_4 rfl rfl
 (x_iald g (so_2_6 ht) dX2_turnOfHoles_5
 (x_aload_n g 0 dX2_turnOfHoles_6 rfl rfl
 (x_getS g 6 fl_RX2_35 rfl ht dX2_turnOfHoles_7
 (x_iload_n g 1 dX2_turnOfHoles_10 rfl rfl
 (x_iald g (so_2_7 ht) dX2_turnOfHoles_11
 (x_aload_n g 0 dX2_turnOfHoles_12 rfl rfl
 (x_getS g 5 fl_RX2_32 rfl ht dX2_turnOfHoles_13
 (x_iload_n g 2 dX2_turnOfHoles_16 rfl rfl
 (x_iald g (so_2_6 ht) dX2_turnOfHoles_17
 (x_aload_n g 0 dX2_turnOfHoles_18 rfl rfl
 (x_getS g 6 fl_RX2_35 rfl ht dX2_turnOfHoles_19
 (x_iload_n g 2 dX2_turnOfHoles_22 rfl rfl
 (x_iald g (so_2_7 ht) dX2_turnOfHoles_23
 (x_aload_n g 0 dX2_turnOfHoles_24 rfl rfl
 (x_getS g 5 fl_RX2_32 rfl ht dX2_turnOfHoles_25
 (x_iload_n g 3 dX2_turnOfHoles_28 rfl rfl
 (x_iald g (so_2_6 ht) dX2_turnOfHoles_29
 (x_aload_n g 0 dX2_turnOfHoles_30 rfl rfl
 (x_getS g 6 fl_RX2_35 rfl ht dX2_turnOfHoles_31
 (x_iload_n g 3 dX2_turnOfHoles_34 rfl rfl
 (x_iald g (so_2_7 ht) dX2_turnOfHoles_35
 (x_callSip (As := [.int (M.1 (t + 5) a1.toNatClampNeg), .int (M.1 (t + 6) a1.toNatClampNeg), .int (M.1 (t + 5) a2.toNatClampNeg), .int (M.1 (t + 6) a2.toNatClampNeg), .int (M.1 (t + 5) a3.toNatClampNeg), .int (M.1 (t + 6) a3.toNatClampNeg)]) g mv_X2_turnOf ms_X2_turnOf lk_RX2_116 (fun b hb => kX2_turnOf (M.1 (t + 5) a1.toNatClampNeg) (M.1 (t + 6) a1.toNatClampNeg) (M.1 (t + 5) a2.toNatClampNeg) (M.1 (t + 6) a2.toNatClampNeg) (M.1 (t + 5) a3.toNatClampNeg) (M.1 (t + 6) a3.toNatClampNeg) M _ _ hb) rfl rfl hR ⟨Nat.le_of_ble_eq_true rfl, Nat.le_of_ble_eq_true rfl⟩ (Nat.le_of_ble_eq_true rfl) dX2_turnOfHoles_36 (fun v1 =>
 (x_iret g hr rfl rfl dX2_turnOfHoles_39)))))))))))))))))))))))))))
def fX2_addTriangle (t : Nat) (a1 : Int32) (a2 : Int32) (a3 : Int32) (M : Mem) : Option (Unit × Mem) :=
  ixk ((M.1 t 11) * (3 : Int32)) 24 (nm (stI M (t + 10) ((M.1 t 11) * (3 : Int32)).toNatClampNeg a1) (fun M1 =>
 ixk (((M1.1 t 11) * (3 : Int32)) + (1 : Int32)) 24 (nm (stI M1 (t + 10) (((M1.1 t 11) * (3 : Int32)) + (1 : Int32)).toNatClampNeg a2) (fun M2 =>
 ixk (((M2.1 t 11) * (3 : Int32)) + (2 : Int32)) 24 (nm (stI M2 (t + 10) (((M2.1 t 11) * (3 : Int32)) + (2 : Int32)).toNatClampNeg a3) (fun M3 =>
 nm (stI M3 t 11 ((M3.1 t 11) + (1 : Int32))) (fun M4 =>
 some ((), M4))))))))
set_option maxRecDepth 100000 in
set_option maxHeartbeats 4000000 in
theorem kX2_addTriangle (t : Nat) (a1 : Int32) (a2 : Int32) (a3 : Int32) (M : Mem) (ht : isO 2 t) (l : Launch) (G : GT) {b : (Unit × Mem)} (hE : fX2_addTriangle t a1 a2 a3 M = some b) : Ok l G yX2_addTriangle cX2_addTriangle 4 none 0 0 [.ref t, .int a1, .int a2, .int a3] M ((fun q : Unit × Mem => ((none : Option Value), q.2)) b).1 ((fun q : Unit × Mem => ((none : Option Value), q.2)) b).2 := by
  refine Ok.ofX (pj := (fun q : Unit × Mem => ((none : Option Value), q.2))) (by decide) (Nat.le_of_ble_eq_true rfl) hE (fun J g hr hG hl hR hn => ?_)
  show X J (fun q : Unit × Mem => ((none : Option Value), q.2)) (fX2_addTriangle t a1 a2 a3 M) 0 [(0, .ref t), (1, .int a1), (2, .int a2), (3, .int a3)] [] M
  unfold fX2_addTriangle
  exact (x_aload_n g 0 dX2_addTriangle_0 rfl rfl
 (x_getS g 10 fl_RX2_50 rfl ht dX2_addTriangle_1
 (x_aload_n g 0 dX2_addTriangle_4 rfl rfl
 (x_getI g fl_RX2_47 rfl ht dX2_addTriangle_5
 (x_iconst g dX2_addTriangle_8 kI_3
 (x_imul g dX2_addTriangle_9
 (x_iload_n g 1 dX2_addTriangle_10 rfl rfl
 (x_iast g (so_2_12 ht) dX2_addTriangle_11 (x_nmM (fun M1 =>
 (x_aload_n g 0 dX2_addTriangle_12 rfl rfl
 (x_getS g 10 fl_RX2_50 rfl ht dX2_addTriangle_13
 (x_aload_n g 0 dX2_addTriangle_16 rfl rfl
 (x_getI g fl_RX2_47 rfl ht dX2_addTriangle_17
 (x_iconst g dX2_addTriangle_20 kI_3
 (x_imul g dX2_addTriangle_21
 (x_iconst g dX2_addTriangle_22 kI_1
 (x_iadd g dX2_addTriangle_23
 (x_iload_n g 2 dX2_addTriangle_24 rfl rfl
 (x_iast g (so_2_12 ht) dX2_addTriangle_25 (x_nmM (fun M2 =>
 (x_aload_n g 0 dX2_addTriangle_26 rfl rfl
 (x_getS g 10 fl_RX2_50 rfl ht dX2_addTriangle_27
 (x_aload_n g 0 dX2_addTriangle_30 rfl rfl
 (x_getI g fl_RX2_47 rfl ht dX2_addTriangle_31
 (x_iconst g dX2_addTriangle_34 kI_3
 (x_imul g dX2_addTriangle_35
 (x_iconst g dX2_addTriangle_36 kI_2
 (x_iadd g dX2_addTriangle_37
 (x_iload_n g 3 dX2_addTriangle_38 rfl rfl
 (x_iast g (so_2_12 ht) dX2_addTriangle_39 (x_nmM (fun M3 =>
 (x_aload_n g 0 dX2_addTriangle_40 rfl rfl
 (x_dup g dX2_addTriangle_41 rfl
 (x_getI g fl_RX2_47 rfl ht dX2_addTriangle_42
 (x_iconst g dX2_addTriangle_45 kI_1
 (x_iadd g dX2_addTriangle_46
 (x_putI g fp_RX2_47 rfl (Nat.le_of_ble_eq_true rfl) ht dX2_addTriangle_47 (x_nmM (fun M4 =>
 (x_vret g hr rfl dX2_addTriangle_50)))))))))))))))))))))))))))))))))))))))))))
def fX1_passTriangle (φ : Nat) (t : Nat) (M : Mem) : Option (Int32 × Mem) :=
  (ldr 2 (M.2.2 t 2)).bind fun vr1 =>
 if (M.1 vr1 11) < (8 : Int32) then
 (ldr 6 (M.2.2 t 1)).bind fun vr2 =>
 bd (fX6_goOn vr2 M) fun vu3 M4 =>
 (ldr 2 (M4.2.2 t 2)).bind fun vr5 =>
 (ldr 6 (M4.2.2 t 1)).bind fun vr6 =>
 (fX6_name vr6 M4).bind fun vz7 =>
 (fX2_holeNamed φ vr5 vz7 M4).bind fun v8 =>
 if v8 = (-1 : Int32) then
 (ldr 6 (M4.2.2 t 1)).bind fun vr51 =>
 (ldr 6 (M4.2.2 t 1)).bind fun vr52 =>
 (fX6_nameFault vr52 M4).bind fun v53 =>
 bd (fX6_refuseToken vr51 v53 M4) fun v54 M55 =>
 if v54 = 0 ∨ v54 = 1 then some (v54, M55) else none
 else
 (ldr 6 (M4.2.2 t 1)).bind fun vr9 =>
 bd (fX6_goOn vr9 M4) fun vu10 M11 =>
 (ldr 2 (M11.2.2 t 2)).bind fun vr12 =>
 (ldr 6 (M11.2.2 t 1)).bind fun vr13 =>
 (fX6_name vr13 M11).bind fun vz14 =>
 (fX2_holeNamed φ vr12 vz14 M11).bind fun v15 =>
 if v15 = (-1 : Int32) then
 (ldr 6 (M11.2.2 t 1)).bind fun vr45 =>
 (ldr 6 (M11.2.2 t 1)).bind fun vr46 =>
 (fX6_nameFault vr46 M11).bind fun v47 =>
 bd (fX6_refuseToken vr45 v47 M11) fun v48 M49 =>
 if v48 = 0 ∨ v48 = 1 then some (v48, M49) else none
 else
 (ldr 6 (M11.2.2 t 1)).bind fun vr16 =>
 bd (fX6_goOn vr16 M11) fun vu17 M18 =>
 (ldr 2 (M18.2.2 t 2)).bind fun vr19 =>
 (ldr 6 (M18.2.2 t 1)).bind fun vr20 =>
 (fX6_name vr20 M18).bind fun vz21 =>
 (fX2_holeNamed φ vr19 vz21 M18).bind fun v22 =>
 if v22 = (-1 : Int32) then
 (ldr 6 (M18.2.2 t 1)).bind fun vr39 =>
 (ldr 6 (M18.2.2 t 1)).bind fun vr40 =>
 (fX6_nameFault vr40 M18).bind fun v41 =>
 bd (fX6_refuseToken vr39 v41 M18) fun v42 M43 =>
 if v42 = 0 ∨ v42 = 1 then some (v42, M43) else none
 else
 (ldr 2 (M18.2.2 t 2)).bind fun vr23 =>
 (fX2_turnOfHoles vr23 v8 v15 v22 M18).bind fun v24 =>
 if v24 = 0 then
 (ldr 6 (M18.2.2 t 1)).bind fun vr35 =>
 bd (fX6_refuseToken vr35 (5 : Int32) M18) fun v36 M37 =>
 if v36 = 0 ∨ v36 = 1 then some (v36, M37) else none
 else
 (ldr 2 (M18.2.2 t 2)).bind fun vr25 =>
 bd (fX2_addTriangle vr25 v8 v15 v22 M18) fun vu26 M27 =>
 (ldr 6 (M27.2.2 t 1)).bind fun vr28 =>
 bd (fX6_goOn vr28 M27) fun vu29 M30 =>
 (ldr 6 (M30.2.2 t 1)).bind fun vr31 =>
 bd (fX6_passSemicolon vr31 M30) fun v32 M33 =>
 if v32 = 0 ∨ v32 = 1 then some (v32, M33) else none
 else
 (ldr 6 (M.2.2 t 1)).bind fun vr57 =>
 bd (fX6_refuseToken vr57 (6 : Int32) M) fun v58 M59 =>
 if v58 = 0 ∨ v58 = 1 then some (v58, M59) else none
set_option maxRecDepth 100000 in
set_option maxHeartbeats 4000000 in
theorem kX1_passTriangle (φ : Nat) (t : Nat) (M : Mem) (ht : isO 1 t) (l : Launch) (G : GT) {b : (Int32 × Mem)} (hE : fX1_passTriangle φ t M = some b) : Ok l G yX1_passTriangle cX1_passTriangle 4 (some .boolean) 2 48 [.ref t] M ((fun q : Int32 × Mem => (some (Value.int q.1), q.2)) b).1 ((fun q : Int32 × Mem => (some (Value.int q.1), q.2)) b).2 := by
  refine Ok.ofX (pj := (fun q : Int32 × Mem => (some (Value.int q.1), q.2))) (by decide) (Nat.le_of_ble_eq_true rfl) hE (fun J g hr hG hl hR hn => ?_)
  show X J (fun q : Int32 × Mem => (some (Value.int q.1), q.2)) (fX1_passTriangle φ t M) 0 [(0, .ref t)] [] M
  unfold fX1_passTriangle
  exact (x_aload_n g 0 dX1_passTriangle_0 rfl rfl
 (x_getD g fl_RX1_19 rfl ht dX1_passTriangle_1 (fun vr1 hvr1 =>
 (x_getI g fl_RX1_125 rfl hvr1 dX1_passTriangle_4
 (x_bipush g dX1_passTriangle_7 kB_8
 (x_icmp_lt g 22 dX1_passTriangle_9 rfl
 (fun _ => (x_aload_n g 0 dX1_passTriangle_22 rfl rfl
 (x_getD g fl_RX1_15 rfl ht dX1_passTriangle_23 (fun vr2 hvr2 =>
 (x_callVv (As := []) g mv_X6_goOn mi_X6_goOn lk_RX1_64 hvr2 (fun b Mh_ hb => kX6_goOn vr2 M hvr2 _ _ hb) rfl rfl hR ⟨Nat.le_of_ble_eq_true rfl, Nat.le_of_ble_eq_true rfl⟩ (Nat.le_of_ble_eq_true rfl) dX1_passTriangle_26 (fun vu3 M4 =>
 (x_aload_n g 0 dX1_passTriangle_29 rfl rfl
 (x_getD g fl_RX1_19 rfl ht dX1_passTriangle_30 (fun vr5 hvr5 =>
 (x_aload_n g 0 dX1_passTriangle_33 rfl rfl
 (x_getD g fl_RX1_15 rfl ht dX1_passTriangle_34 (fun vr6 hvr6 =>
 (x_callVlp (As := []) g mv_X6_name mi_X6_name lk_RX1_73 hvr6 (fun b hb => kX6_name vr6 M4 hvr6 _ _ hb) rfl rfl hR ⟨Nat.le_of_ble_eq_true rfl, Nat.le_of_ble_eq_true rfl⟩ (Nat.le_of_ble_eq_true rfl) dX1_passTriangle_37 (fun vz7 =>
 (x_callVip (As := [.long vz7]) g mv_X2_holeNamed mi_X2_holeNamed lk_RX1_128 hvr5 (fun b hb => kX2_holeNamed φ vr5 vz7 M4 hvr5 _ _ hb) rfl rfl hR ⟨Nat.le_of_ble_eq_true rfl, Nat.le_of_ble_eq_true rfl⟩ (Nat.le_of_ble_eq_true rfl) dX1_passTriangle_40 (fun v8 =>
 (x_istore_n (L' := [(1, .int v8), (0, .ref t)]) g dX1_passTriangle_43 rfl hn (Nat.le_of_ble_eq_true rfl) rfl
 (x_iload_n g 0 dX1_passTriangle_44 rfl rfl
 (x_iconst g dX1_passTriangle_45 kI_m1
 (x_icmp_ne g 64 dX1_passTriangle_46 rfl
 (fun _ => (x_aload_n g 1 dX1_passTriangle_64 rfl rfl
 (x_getD g fl_RX1_15 rfl ht dX1_passTriangle_65 (fun vr9 hvr9 =>
 (x_callVv (As := []) g mv_X6_goOn mi_X6_goOn lk_RX1_64 hvr9 (fun b Mh_ hb => kX6_goOn vr9 M4 hvr9 _ _ hb) rfl rfl hR ⟨Nat.le_of_ble_eq_true rfl, Nat.le_of_ble_eq_true rfl⟩ (Nat.le_of_ble_eq_true rfl) dX1_passTriangle_68 (fun vu10 M11 =>
 (x_aload_n g 1 dX1_passTriangle_71 rfl rfl
 (x_getD g fl_RX1_19 rfl ht dX1_passTriangle_72 (fun vr12 hvr12 =>
 (x_aload_n g 1 dX1_passTriangle_75 rfl rfl
 (x_getD g fl_RX1_15 rfl ht dX1_passTriangle_76 (fun vr13 hvr13 =>
 (x_callVlp (As := []) g mv_X6_name mi_X6_name lk_RX1_73 hvr13 (fun b hb => kX6_name vr13 M11 hvr13 _ _ hb) rfl rfl hR ⟨Nat.le_of_ble_eq_true rfl, Nat.le_of_ble_eq_true rfl⟩ (Nat.le_of_ble_eq_true rfl) dX1_passTriangle_79 (fun vz14 =>
 (x_callVip (As := [.long vz14]) g mv_X2_holeNamed mi_X2_holeNamed lk_RX1_128 hvr12 (fun b hb => kX2_holeNamed φ vr12 vz14 M11 hvr12 _ _ hb) rfl rfl hR ⟨Nat.le_of_ble_eq_true rfl, Nat.le_of_ble_eq_true rfl⟩ (Nat.le_of_ble_eq_true rfl) dX1_passTriangle_82 (fun v15 =>
 (x_istore_n (L' := [(2, .int v15), (1, .int v8), (0, .ref t)]) g dX1_passTriangle_85 rfl hn (Nat.le_of_ble_eq_true rfl) rfl
 (x_iload_n g 0 dX1_passTriangle_86 rfl rfl
 (x_iconst g dX1_passTriangle_87 kI_m1
 (x_icmp_ne g 106 dX1_passTriangle_88 rfl
 (fun _ => (x_aload_n g 2 dX1_passTriangle_106 rfl rfl
 (x_getD g fl_RX1_15 rfl ht dX1_passTriangle_107 (fun vr16 hvr16 =>
 (x_callVv (As := []) g mv_X6_goOn mi_X6_goOn lk_RX1_64 hvr16 (fun b Mh_ hb => kX6_goOn vr16 M11 hvr16 _ _ hb) rfl rfl hR ⟨Nat.le_of_ble_eq_true rfl, Nat.le_of_ble_eq_true rfl⟩ (Nat.le_of_ble_eq_true rfl) dX1_passTriangle_110 (fun vu17 M18 =>
 (x_aload_n g 2 dX1_passTriangle_113 rfl rfl
 (x_getD g fl_RX1_19 rfl ht dX1_passTriangle_114 (fun vr19 hvr19 =>
 (x_aload_n g 2 dX1_passTriangle_117 rfl rfl
 (x_getD g fl_RX1_15 rfl ht dX1_passTriangle_118 (fun vr20 hvr20 =>
 (x_callVlp (As := []) g mv_X6_name mi_X6_name lk_RX1_73 hvr20 (fun b hb => kX6_name vr20 M18 hvr20 _ _ hb) rfl rfl hR ⟨Nat.le_of_ble_eq_true rfl, Nat.le_of_ble_eq_true rfl⟩ (Nat.le_of_ble_eq_true rfl) dX1_passTriangle_121 (fun vz21 =>
 (x_callVip (As := [.long vz21]) g mv_X2_holeNamed mi_X2_holeNamed lk_RX1_128 hvr19 (fun b hb => kX2_holeNamed φ vr19 vz21 M18 hvr19 _ _ hb) rfl rfl hR ⟨Nat.le_of_ble_eq_true rfl, Nat.le_of_ble_eq_true rfl⟩ (Nat.le_of_ble_eq_true rfl) dX1_passTriangle_124 (fun v22 =>
 (x_istore_n (L' := [(3, .int v22), (2, .int v15), (1, .int v8), (0, .ref t)]) g dX1_passTriangle_127 rfl hn (Nat.le_of_ble_eq_true rfl) rfl
 (x_iload_n g 0 dX1_passTriangle_128 rfl rfl
 (x_iconst g dX1_passTriangle_129 kI_m1
 (x_icmp_ne g 148 dX1_passTriangle_130 rfl
 (fun _ => (x_aload_n g 3 dX1_passTriangle_148 rfl rfl
 (x_getD g fl_RX1_19 rfl ht dX1_passTriangle_149 (fun vr23 hvr23 =>
 (x_iload_n g 2 dX1_passTriangle_152 rfl rfl
 (x_iload_n g 1 dX1_passTriangle_153 rfl rfl
 (x_iload_n g 0 dX1_passTriangle_154 rfl rfl
 (x_callVip (As := [.int v8, .int v15, .int v22]) g mv_X2_turnOfHoles mi_X2_turnOfHoles lk_RX1_131 hvr23 (fun b hb => kX2_turnOfHoles vr23 v8 v15 v22 M18 hvr23 _ _ hb) rfl rfl hR ⟨Nat.le_of_ble_eq_true rfl, Nat.le_of_ble_eq_true rfl⟩ (Nat.le_of_ble_eq_true rfl) dX1_passTriangle_155 (fun v24 =>
 (x_if_ne g 170 dX1_passTriangle_158 rfl
 (fun _ => (x_aload_n g 3 dX1_passTriangle_170 rfl rfl
 (x_getD g fl_RX1_19 rfl ht dX1_passTriangle_171 (fun vr25 hvr25 =>
 (x_iload_n g 2 dX1_passTriangle_174 rfl rfl
 (x_iload_n g 1 dX1_passTriangle_175 rfl rfl
 (x_iload_n g 0 dX1_passTriangle_176 rfl rfl
 (x_callVv (As := [.int v8, .int v15, .int v22]) g mv_X2_addTriangle mi_X2_addTriangle lk_RX1_135 hvr25 (fun b Mh_ hb => kX2_addTriangle vr25 v8 v15 v22 M18 hvr25 _ _ hb) rfl rfl hR ⟨Nat.le_of_ble_eq_true rfl, Nat.le_of_ble_eq_true rfl⟩ (Nat.le_of_ble_eq_true rfl) dX1_passTriangle_177 (fun vu26 M27 =>
 (x_aload_n g 3 dX1_passTriangle_180 rfl rfl
 (x_getD g fl_RX1_15 rfl ht dX1_passTriangle_181 (fun vr28 hvr28 =>
 (x_callVv (As := []) g mv_X6_goOn mi_X6_goOn lk_RX1_64 hvr28 (fun b Mh_ hb => kX6_goOn vr28 M27 hvr28 _ _ hb) rfl rfl hR ⟨Nat.le_of_ble_eq_true rfl, Nat.le_of_ble_eq_true rfl⟩ (Nat.le_of_ble_eq_true rfl) dX1_passTriangle_184 (fun vu29 M30 =>
 (x_aload_n g 3 dX1_passTriangle_187 rfl rfl
 (x_getD g fl_RX1_15 rfl ht dX1_passTriangle_188 (fun vr31 hvr31 =>
 (x_callVi (As := []) g mv_X6_passSemicolon mi_X6_passSemicolon lk_RX1_88 hvr31 (fun b Mh_ hb => kX6_passSemicolon vr31 M30 hvr31 _ _ hb) rfl rfl hR ⟨Nat.le_of_ble_eq_true rfl, Nat.le_of_ble_eq_true rfl⟩ (Nat.le_of_ble_eq_true rfl) dX1_passTriangle_191 (fun v32 M33 =>
 (x_ck (fun hq34 => x_iret g hr (nbz hq34) rfl dX1_passTriangle_194)))))))))))))))))))))
 (fun _ => (x_aload_n g 3 dX1_passTriangle_161 rfl rfl
 (x_getD g fl_RX1_15 rfl ht dX1_passTriangle_162 (fun vr35 hvr35 =>
 (x_iconst g dX1_passTriangle_165 kI_5
 (x_callVi (As := [.int (5 : Int32)]) g mv_X6_refuseToken mi_X6_refuseToken lk_RX1_56 hvr35 (fun b Mh_ hb => kX6_refuseToken vr35 (5 : Int32) M18 hvr35 _ _ hb) rfl rfl hR ⟨Nat.le_of_ble_eq_true rfl, Nat.le_of_ble_eq_true rfl⟩ (Nat.le_of_ble_eq_true rfl) dX1_passTriangle_166 (fun v36 M37 =>
 (x_ck (fun hq38 => x_iret g hr (nbz hq38) rfl dX1_passTriangle_169)))))))))))))))))))
 (fun _ => (x_aload_n g 3 dX1_passTriangle_133 rfl rfl
 (x_getD g fl_RX1_15 rfl ht dX1_passTriangle_134 (fun vr39 hvr39 =>
 (x_aload_n g 3 dX1_passTriangle_137 rfl rfl
 (x_getD g fl_RX1_15 rfl ht dX1_passTriangle_138 (fun vr40 hvr40 =>
 (x_callVip (As := []) g mv_X6_nameFault mi_X6_nameFault lk_RX1_70 hvr40 (fun b hb => kX6_nameFault vr40 M18 hvr40 _ _ hb) rfl rfl hR ⟨Nat.le_of_ble_eq_true rfl, Nat.le_of_ble_eq_true rfl⟩ (Nat.le_of_ble_eq_true rfl) dX1_passTriangle_141 (fun v41 =>
 (x_callVi (As := [.int v41]) g mv_X6_refuseToken mi_X6_refuseToken lk_RX1_56 hvr39 (fun b Mh_ hb => kX6_refuseToken vr39 v41 M18 hvr39 _ _ hb) rfl rfl hR ⟨Nat.le_of_ble_eq_true rfl, Nat.le_of_ble_eq_true rfl⟩ (Nat.le_of_ble_eq_true rfl) dX1_passTriangle_144 (fun v42 M43 =>
 (x_ck (fun hq44 => x_iret g hr (nbz hq44) rfl dX1_passTriangle_147)))))))))))))))))))))))))))))))))
 (fun _ => (x_aload_n g 2 dX1_passTriangle_91 rfl rfl
 (x_getD g fl_RX1_15 rfl ht dX1_passTriangle_92 (fun vr45 hvr45 =>
 (x_aload_n g 2 dX1_passTriangle_95 rfl rfl
 (x_getD g fl_RX1_15 rfl ht dX1_passTriangle_96 (fun vr46 hvr46 =>
 (x_callVip (As := []) g mv_X6_nameFault mi_X6_nameFault lk_RX1_70 hvr46 (fun b hb => kX6_nameFault vr46 M11 hvr46 _ _ hb) rfl rfl hR ⟨Nat.le_of_ble_eq_true rfl, Nat.le_of_ble_eq_true rfl⟩ (Nat.le_of_ble_eq_true rfl) dX1_passTriangle_99 (fun v47 =>
 (x_callVi (As := [.int v47]) g mv_X6_refuseToken mi_X6_refuseToken lk_RX1_56 hvr45 (fun b Mh_ hb => kX6_refuseToken vr45 v47 M11 hvr45 _ _ hb) rfl rfl hR ⟨Nat.le_of_ble_eq_true rfl, Nat.le_of_ble_eq_true rfl⟩ (Nat.le_of_ble_eq_true rfl) dX1_passTriangle_102 (fun v48 M49 =>
 (x_ck (fun hq50 => x_iret g hr (nbz hq50) rfl dX1_passTriangle_105)))))))))))))))))))))))))))))))))
 (fun _ => (x_aload_n g 1 dX1_passTriangle_49 rfl rfl
 (x_getD g fl_RX1_15 rfl ht dX1_passTriangle_50 (fun vr51 hvr51 =>
 (x_aload_n g 1 dX1_passTriangle_53 rfl rfl
 (x_getD g fl_RX1_15 rfl ht dX1_passTriangle_54 (fun vr52 hvr52 =>
 (x_callVip (As := []) g mv_X6_nameFault mi_X6_nameFault lk_RX1_70 hvr52 (fun b hb => kX6_nameFault vr52 M4 hvr52 _ _ hb) rfl rfl hR ⟨Nat.le_of_ble_eq_true rfl, Nat.le_of_ble_eq_true rfl⟩ (Nat.le_of_ble_eq_true rfl) dX1_passTriangle_57 (fun v53 =>
 (x_callVi (As := [.int v53]) g mv_X6_refuseToken mi_X6_refuseToken lk_RX1_56 hvr51 (fun b Mh_ hb => kX6_refuseToken vr51 v53 M4 hvr51 _ _ hb) rfl rfl hR ⟨Nat.le_of_ble_eq_true rfl, Nat.le_of_ble_eq_true rfl⟩ (Nat.le_of_ble_eq_true rfl) dX1_passTriangle_60 (fun v54 M55 =>
 (x_ck (fun hq56 => x_iret g hr (nbz hq56) rfl dX1_passTriangle_63)))))))))))))))))))))))))))))))))
 (fun _ => (x_aload_n g 0 dX1_passTriangle_12 rfl rfl
 (x_getD g fl_RX1_15 rfl ht dX1_passTriangle_13 (fun vr57 hvr57 =>
 (x_bipush g dX1_passTriangle_16 kB_6
 (x_callVi (As := [.int (6 : Int32)]) g mv_X6_refuseToken mi_X6_refuseToken lk_RX1_56 hvr57 (fun b Mh_ hb => kX6_refuseToken vr57 (6 : Int32) M hvr57 _ _ hb) rfl rfl hR ⟨Nat.le_of_ble_eq_true rfl, Nat.le_of_ble_eq_true rfl⟩ (Nat.le_of_ble_eq_true rfl) dX1_passTriangle_18 (fun v58 M59 =>
 (x_ck (fun hq60 => x_iret g hr (nbz hq60) rfl dX1_passTriangle_21)))))))))))))))
def fX1_passCoordinate (t : Nat) (a1 : Int32) (M : Mem) : Option (Int32 × Mem) :=
  (ldr 6 (M.2.2 t 1)).bind fun vr1 =>
 (fX6_value vr1 M).bind fun v2 =>
 ixk a1 4 (nm (stI M (t + 1) a1.toNatClampNeg v2) (fun M3 =>
 (ldr 6 (M3.2.2 t 1)).bind fun vr4 =>
 bd (fX6_passNumber vr4 (0 : Int32) (999 : Int32) M3) fun v5 M6 =>
 if v5 = 0 ∨ v5 = 1 then some (v5, M6) else none))
set_option maxRecDepth 100000 in
set_option maxHeartbeats 4000000 in
theorem kX1_passCoordinate (t : Nat) (a1 : Int32) (M : Mem) (ht : isO 1 t) (l : Launch) (G : GT) {b : (Int32 × Mem)} (hE : fX1_passCoordinate t a1 M = some b) : Ok l G yX1_passCoordinate cX1_passCoordinate 2 (some .boolean) 2 44 [.ref t, .int a1] M ((fun q : Int32 × Mem => (some (Value.int q.1), q.2)) b).1 ((fun q : Int32 × Mem => (some (Value.int q.1), q.2)) b).2 := by
  refine Ok.ofX (pj := (fun q : Int32 × Mem => (some (Value.int q.1), q.2))) (by decide) (Nat.le_of_ble_eq_true rfl) hE (fun J g hr hG hl hR hn => ?_)
  show X J (fun q : Int32 × Mem => (some (Value.int q.1), q.2)) (fX1_passCoordinate t a1 M) 0 [(0, .ref t), (1, .int a1)] [] M
  unfold fX1_passCoordinate
  exact (x_aload_n g 0 dX1_passCoordinate_0 rfl rfl
 (x_getS g 1 fl_RX1_9 rfl ht dX1_passCoordinate_1
 (x_iload_n g 1 dX1_passCoordinate_4 rfl rfl
 (x_aload_n g 0 dX1_passCoordinate_5 rfl rfl
 (x_getD g fl_RX1_15 rfl ht dX1_passCoordinate_6 (fun vr1 hvr1 =>
 (x_callVip (As := []) g mv_X6_value mi_X6_value lk_RX1_77 hvr1 (fun b hb => kX6_value vr1 M hvr1 _ _ hb) rfl rfl hR ⟨Nat.le_of_ble_eq_true rfl, Nat.le_of_ble_eq_true rfl⟩ (Nat.le_of_ble_eq_true rfl) dX1_passCoordinate_9 (fun v2 =>
 (x_iast g (so_1_0 ht) dX1_passCoordinate_12 (x_nmM (fun M3 =>
 (x_aload_n g 0 dX1_passCoordinate_13 rfl rfl
 (x_getD g fl_RX1_15 rfl ht dX1_passCoordinate_14 (fun vr4 hvr4 =>
 (x_iconst g dX1_passCoordinate_17 kI_0
 (x_sipush g dX1_passCoordinate_18 kS_999
 (x_callVi (As := [.int (0 : Int32), .int (999 : Int32)]) g mv_X6_passNumber mi_X6_passNumber lk_RX1_80 hvr4 (fun b Mh_ hb => kX6_passNumber vr4 (0 : Int32) (999 : Int32) M3 hvr4 _ _ hb) rfl rfl hR ⟨Nat.le_of_ble_eq_true rfl, Nat.le_of_ble_eq_true rfl⟩ (Nat.le_of_ble_eq_true rfl) dX1_passCoordinate_21 (fun v5 M6 =>
 (x_ck (fun hq7 => x_iret g hr (nbz hq7) rfl dX1_passCoordinate_24))))))))))))))))))))
def fX2_addFault (n2 : Nat) (t : Nat) (a1 : Int64) (a2 : Nat) (a3 : Int32) (M : Mem) : Option (Unit × Mem) :=
  ixk (M.1 t 13) 2 (nm (stL M (t + 11) (M.1 t 13).toNatClampNeg a1) (fun M1 =>
 cpk (0 : Int32) ((M1.1 t 13) * (4 : Int32)) (4 : Int32) n2 8 (nm (cpI M1 a2 (t + 12) (0 : Int32).toNatClampNeg ((M1.1 t 13) * (4 : Int32)).toNatClampNeg (4 : Int32).toNatClampNeg) (fun M2 =>
 ixk (M2.1 t 13) 2 (nm (stI M2 (t + 13) (M2.1 t 13).toNatClampNeg a3) (fun M3 =>
 nm (stI M3 t 13 ((M3.1 t 13) + (1 : Int32))) (fun M4 =>
 some ((), M4))))))))
set_option maxRecDepth 100000 in
set_option maxHeartbeats 4000000 in
theorem kX2_addFault (n2 : Nat) (t : Nat) (a1 : Int64) (a2 : Nat) (a3 : Int32) (M : Mem) (ht : isO 2 t) (ha2 : isA .int n2 a2) (l : Launch) (G : GT) {b : (Unit × Mem)} (hE : fX2_addFault n2 t a1 a2 a3 M = some b) : Ok l G yX2_addFault cX2_addFault 5 none 1 60 [.ref t, .long a1, .ref a2, .int a3] M ((fun q : Unit × Mem => ((none : Option Value), q.2)) b).1 ((fun q : Unit × Mem => ((none : Option Value), q.2)) b).2 := by
  refine Ok.ofX (pj := (fun q : Unit × Mem => ((none : Option Value), q.2))) (by decide) (Nat.le_of_ble_eq_true rfl) hE (fun J g hr hG hl hR hn => ?_)
  show X J (fun q : Unit × Mem => ((none : Option Value), q.2)) (fX2_addFault n2 t a1 a2 a3 M) 0 [(0, .ref t), (1, .long a1), (3, .ref a2), (4, .int a3)] [] M
  unfold fX2_addFault
  exact (x_aload_n g 0 dX2_addFault_0 rfl rfl
 (x_getS g 11 fl_RX2_56 rfl ht dX2_addFault_1
 (x_aload_n g 0 dX2_addFault_4 rfl rfl
 (x_getI g fl_RX2_53 rfl ht dX2_addFault_5
 (x_lload_n g 1 dX2_addFault_8 rfl rfl
 (x_last g (so_2_14 ht) dX2_addFault_9 (x_nmM (fun M1 =>
 (x_aload_n g 2 dX2_addFault_10 rfl rfl
 (x_iconst g dX2_addFault_11 kI_0
 (x_aload_n g 0 dX2_addFault_12 rfl rfl
 (x_getS g 12 fl_RX2_59 rfl ht dX2_addFault_13
 (x_aload_n g 0 dX2_addFault_16 rfl rfl
 (x_getI g fl_RX2_53 rfl ht dX2_addFault_17
 (x_iconst g dX2_addFault_20 kI_4
 (x_imul g dX2_addFault_21
 (x_iconst g dX2_addFault_22 kI_4
 (x_cpyI g hR lk_RX2_65 ok_acn ok_acs ok_sys ha2 (so_2_15 ht) (Nat.le_of_ble_eq_true rfl) (Nat.le_of_ble_eq_true rfl) dX2_addFault_23 (x_nmM (fun M2 =>
 (x_aload_n g 0 dX2_addFault_26 rfl rfl
 (x_getS g 13 fl_RX2_62 rfl ht dX2_addFault_27
 (x_aload_n g 0 dX2_addFault_30 rfl rfl
 (x_getI g fl_RX2_53 rfl ht dX2_addFault_31
 (x_iload g 3 dX2_addFault_34 rfl
 (x_iast g (so_2_16 ht) dX2_addFault_36 (x_nmM (fun M3 =>
 (x_aload_n g 0 dX2_addFault_37 rfl rfl
 (x_dup g dX2_addFault_38 rfl
 (x_getI g fl_RX2_53 rfl ht dX2_addFault_39
 (x_iconst g dX2_addFault_42 kI_1
 (x_iadd g dX2_addFault_43
 (x_putI g fp_RX2_53 rfl (Nat.le_of_ble_eq_true rfl) ht dX2_addFault_44 (x_nmM (fun M4 =>
 (x_vret g hr rfl dX2_addFault_47)))))))))))))))))))))))))))))))))))))
def fX1_passFault (φ : Nat) (t : Nat) (M : Mem) : Option (Int32 × Mem) :=
  (ldr 2 (M.2.2 t 2)).bind fun vr1 =>
 if (M.1 vr1 13) < (2 : Int32) then
 (ldr 6 (M.2.2 t 1)).bind fun vr2 =>
 bd (fX6_goOn vr2 M) fun vu3 M4 =>
 (fX1_isNewName φ t M4).bind fun v5 =>
 if v5 = 0 then
 (ldr 6 (M4.2.2 t 1)).bind fun vr57 =>
 (ldr 6 (M4.2.2 t 1)).bind fun vr58 =>
 (fX6_nameFault vr58 M4).bind fun v59 =>
 bd (fX6_refuseToken vr57 v59 M4) fun v60 M61 =>
 if v60 = 0 ∨ v60 = 1 then some (v60, M61) else none
 else
 (ldr 6 (M4.2.2 t 1)).bind fun vr6 =>
 (fX6_name vr6 M4).bind fun vz7 =>
 (ldr 6 (M4.2.2 t 1)).bind fun vr8 =>
 bd (fX6_goOn vr8 M4) fun vu9 M10 =>
 (ldr 6 (M10.2.2 t 1)).bind fun vr11 =>
 bd (fX6_passWord vr11 (10 : Int32) M10) fun v12 M13 =>
 if v12 = 0 then
 some ((0 : Int32), M13)
 else
 bd (fX1_passCoordinate t (0 : Int32) M13) fun v14 M15 =>
 if v14 = 0 then
 some ((0 : Int32), M15)
 else
 bd (fX1_passCoordinate t (1 : Int32) M15) fun v16 M17 =>
 if v16 = 0 then
 some ((0 : Int32), M17)
 else
 (ldr 6 (M17.2.2 t 1)).bind fun vr18 =>
 bd (fX6_passWord vr18 (11 : Int32) M17) fun v19 M20 =>
 if v19 = 0 then
 some ((0 : Int32), M20)
 else
 bd (fX1_passCoordinate t (2 : Int32) M20) fun v21 M22 =>
 if v21 = 0 then
 some ((0 : Int32), M22)
 else
 (ldr 6 (M22.2.2 t 1)).bind fun vr23 =>
 (fX6_isNumber vr23 (0 : Int32) (999 : Int32) M22).bind fun v24 =>
 if v24 = 0 then
 (ldr 6 (M22.2.2 t 1)).bind fun vr51 =>
 (ldr 6 (M22.2.2 t 1)).bind fun vr52 =>
 (fX6_numberFault vr52 M22).bind fun v53 =>
 bd (fX6_refuseToken vr51 v53 M22) fun v54 M55 =>
 if v54 = 0 ∨ v54 = 1 then some (v54, M55) else none
 else
 (ldr 6 (M22.2.2 t 1)).bind fun vr25 =>
 (fX6_value vr25 M22).bind fun v26 =>
 ixk (3 : Int32) 4 (nm (stI M22 (t + 1) (3 : Int32).toNatClampNeg v26) (fun M27 =>
 ixk (0 : Int32) 4 (
 ixk (2 : Int32) 4 (
 jn ((ldr 6 (M27.2.2 t 1)).bind fun vr29 =>
 bd (fX6_goOn vr29 M27) fun vu30 M31 =>
 (ldr 6 (M31.2.2 t 1)).bind fun vr32 =>
 bd (fX6_passWord vr32 (12 : Int32) M31) fun v33 M34 =>
 if v33 = 0 then
 some ((0 : Int32), M34)
 else
 (ldr 6 (M34.2.2 t 1)).bind fun vr35 =>
 (fX6_value vr35 M34).bind fun v36 =>
 (ldr 6 (M34.2.2 t 1)).bind fun vr37 =>
 bd (fX6_passNumber vr37 (0 : Int32) (999 : Int32) M34) fun v38 M39 =>
 if v38 = 0 then
 some ((0 : Int32), M39)
 else
 (ldr 2 (M39.2.2 t 2)).bind fun vr40 =>
 bd (fX2_addFault 4 vr40 vz7 (t + 1) v36 M39) fun vu41 M42 =>
 (ldr 6 (M42.2.2 t 1)).bind fun vr43 =>
 bd (fX6_passSemicolon vr43 M42) fun v44 M45 =>
 if v44 = 0 ∨ v44 = 1 then some (v44, M45) else none) (fun J28 => if (M27.1 (t + 1) (0 : Int32).toNatClampNeg) = (M27.1 (t + 1) (2 : Int32).toNatClampNeg) then
 ixk (1 : Int32) 4 (
 ixk (3 : Int32) 4 (
 if (M27.1 (t + 1) (1 : Int32).toNatClampNeg) = (M27.1 (t + 1) (3 : Int32).toNatClampNeg) then
 (ldr 6 (M27.2.2 t 1)).bind fun vr47 =>
 bd (fX6_refuseToken vr47 (5 : Int32) M27) fun v48 M49 =>
 if v48 = 0 ∨ v48 = 1 then some (v48, M49) else none
 else
 J28))
 else
 J28)))))
 else
 (ldr 6 (M.2.2 t 1)).bind fun vr63 =>
 bd (fX6_refuseToken vr63 (6 : Int32) M) fun v64 M65 =>
 if v64 = 0 ∨ v64 = 1 then some (v64, M65) else none
set_option maxRecDepth 100000 in
set_option maxHeartbeats 4000000 in
theorem kX1_passFault (φ : Nat) (t : Nat) (M : Mem) (ht : isO 1 t) (l : Launch) (G : GT) {b : (Int32 × Mem)} (hE : fX1_passFault φ t M = some b) : Ok l G yX1_passFault cX1_passFault 4 (some .boolean) 4 88 [.ref t] M ((fun q : Int32 × Mem => (some (Value.int q.1), q.2)) b).1 ((fun q : Int32 × Mem => (some (Value.int q.1), q.2)) b).2 := by
  refine Ok.ofX (pj := (fun q : Int32 × Mem => (some (Value.int q.1), q.2))) (by decide) (Nat.le_of_ble_eq_true rfl) hE (fun J g hr hG hl hR hn => ?_)
  show X J (fun q : Int32 × Mem => (some (Value.int q.1), q.2)) (fX1_passFault φ t M) 0 [(0, .ref t)] [] M
  unfold fX1_passFault
  exact (x_aload_n g 0 dX1_passFault_0 rfl rfl
 (x_getD g fl_RX1_19 rfl ht dX1_passFault_1 (fun vr1 hvr1 =>
 (x_getI g fl_RX1_138 rfl hvr1 dX1_passFault_4
 (x_iconst g dX1_passFault_7 kI_2
 (x_icmp_lt g 21 dX1_passFault_8 rfl
 (fun _ => (x_aload_n g 0 dX1_passFault_21 rfl rfl
 (x_getD g fl_RX1_15 rfl ht dX1_passFault_22 (fun vr2 hvr2 =>
 (x_callVv (As := []) g mv_X6_goOn mi_X6_goOn lk_RX1_64 hvr2 (fun b Mh_ hb => kX6_goOn vr2 M hvr2 _ _ hb) rfl rfl hR ⟨Nat.le_of_ble_eq_true rfl, Nat.le_of_ble_eq_true rfl⟩ (Nat.le_of_ble_eq_true rfl) dX1_passFault_25 (fun vu3 M4 =>
 (x_aload_n g 0 dX1_passFault_28 rfl rfl
 (x_callVip (As := []) g mv_X1_isNewName mi_X1_isNewName lk_RX1_67 ht (fun b hb => kX1_isNewName φ t M4 ht _ _ hb) rfl rfl hR ⟨Nat.le_of_ble_eq_true rfl, Nat.le_of_ble_eq_true rfl⟩ (Nat.le_of_ble_eq_true rfl) dX1_passFault_29 (fun v5 =>
 (x_if_ne g 50 dX1_passFault_32 rfl
 (fun _ => (x_aload_n g 0 dX1_passFault_50 rfl rfl
 (x_getD g fl_RX1_15 rfl ht dX1_passFault_51 (fun vr6 hvr6 =>
 (x_callVlp (As := []) g mv_X6_name mi_X6_name lk_RX1_73 hvr6 (fun b hb => kX6_name vr6 M4 hvr6 _ _ hb) rfl rfl hR ⟨Nat.le_of_ble_eq_true rfl, Nat.le_of_ble_eq_true rfl⟩ (Nat.le_of_ble_eq_true rfl) dX1_passFault_54 (fun vz7 =>
 (x_lstore_n (L' := [(1, .long vz7), (0, .ref t)]) g dX1_passFault_57 rfl hn (Nat.le_of_ble_eq_true rfl) rfl
 (x_aload_n g 1 dX1_passFault_58 rfl rfl
 (x_getD g fl_RX1_15 rfl ht dX1_passFault_59 (fun vr8 hvr8 =>
 (x_callVv (As := []) g mv_X6_goOn mi_X6_goOn lk_RX1_64 hvr8 (fun b Mh_ hb => kX6_goOn vr8 M4 hvr8 _ _ hb) rfl rfl hR ⟨Nat.le_of_ble_eq_true rfl, Nat.le_of_ble_eq_true rfl⟩ (Nat.le_of_ble_eq_true rfl) dX1_passFault_62 (fun vu9 M10 =>
 (x_aload_n g 1 dX1_passFault_65 rfl rfl
 (x_getD g fl_RX1_15 rfl ht dX1_passFault_66 (fun vr11 hvr11 =>
 (x_bipush g dX1_passFault_69 kB_10
 (x_callVi (As := [.int (10 : Int32)]) g mv_X6_passWord mi_X6_passWord lk_RX1_95 hvr11 (fun b Mh_ hb => kX6_passWord vr11 (10 : Int32) M10 hvr11 _ _ hb) rfl rfl hR ⟨Nat.le_of_ble_eq_true rfl, Nat.le_of_ble_eq_true rfl⟩ (Nat.le_of_ble_eq_true rfl) dX1_passFault_71 (fun v12 M13 =>
 (x_if_eq g 113 dX1_passFault_74 rfl
 (fun _ => (x_iconst g dX1_passFault_113 kI_0
 (x_iret g hr rfl rfl dX1_passFault_114)))
 (fun _ => (x_aload_n g 1 dX1_passFault_77 rfl rfl
 (x_iconst g dX1_passFault_78 kI_0
 (x_callVi (As := [.int (0 : Int32)]) g mv_X1_passCoordinate mi_X1_passCoordinate lk_RX1_141 ht (fun b Mh_ hb => kX1_passCoordinate t (0 : Int32) M13 ht _ _ hb) rfl rfl hR ⟨Nat.le_of_ble_eq_true rfl, Nat.le_of_ble_eq_true rfl⟩ (Nat.le_of_ble_eq_true rfl) dX1_passFault_79 (fun v14 M15 =>
 (x_if_eq g 113 dX1_passFault_82 rfl
 (fun _ => (x_iconst g dX1_passFault_113 kI_0
 (x_iret g hr rfl rfl dX1_passFault_114)))
 (fun _ => (x_aload_n g 1 dX1_passFault_85 rfl rfl
 (x_iconst g dX1_passFault_86 kI_1
 (x_callVi (As := [.int (1 : Int32)]) g mv_X1_passCoordinate mi_X1_passCoordinate lk_RX1_141 ht (fun b Mh_ hb => kX1_passCoordinate t (1 : Int32) M15 ht _ _ hb) rfl rfl hR ⟨Nat.le_of_ble_eq_true rfl, Nat.le_of_ble_eq_true rfl⟩ (Nat.le_of_ble_eq_true rfl) dX1_passFault_87 (fun v16 M17 =>
 (x_if_eq g 113 dX1_passFault_90 rfl
 (fun _ => (x_iconst g dX1_passFault_113 kI_0
 (x_iret g hr rfl rfl dX1_passFault_114)))
 (fun _ => (x_aload_n g 1 dX1_passFault_93 rfl rfl
 (x_getD g fl_RX1_15 rfl ht dX1_passFault_94 (fun vr18 hvr18 =>
 (x_bipush g dX1_passFault_97 kB_11
 (x_callVi (As := [.int (11 : Int32)]) g mv_X6_passWord mi_X6_passWord lk_RX1_95 hvr18 (fun b Mh_ hb => kX6_passWord vr18 (11 : Int32) M17 hvr18 _ _ hb) rfl rfl hR ⟨Nat.le_of_ble_eq_true rfl, Nat.le_of_ble_eq_true rfl⟩ (Nat.le_of_ble_eq_true rfl) dX1_passFault_99 (fun v19 M20 =>
 (x_if_eq g 113 dX1_passFault_102 rfl
 (fun _ => (x_iconst g dX1_passFault_113 kI_0
 (x_iret g hr rfl rfl dX1_passFault_114)))
 (fun _ => (x_aload_n g 1 dX1_passFault_105 rfl rfl
 (x_iconst g dX1_passFault_106 kI_2
 (x_callVi (As := [.int (2 : Int32)]) g mv_X1_passCoordinate mi_X1_passCoordinate lk_RX1_141 ht (fun b Mh_ hb => kX1_passCoordinate t (2 : Int32) M20 ht _ _ hb) rfl rfl hR ⟨Nat.le_of_ble_eq_true rfl, Nat.le_of_ble_eq_true rfl⟩ (Nat.le_of_ble_eq_true rfl) dX1_passFault_107 (fun v21 M22 =>
 (x_if_ne g 115 dX1_passFault_110 rfl
 (fun _ => (x_aload_n g 1 dX1_passFault_115 rfl rfl
 (x_getD g fl_RX1_15 rfl ht dX1_passFault_116 (fun vr23 hvr23 =>
 (x_iconst g dX1_passFault_119 kI_0
 (x_sipush g dX1_passFault_120 kS_999
 (x_callVip (As := [.int (0 : Int32), .int (999 : Int32)]) g mv_X6_isNumber mi_X6_isNumber lk_RX1_105 hvr23 (fun b hb => kX6_isNumber vr23 (0 : Int32) (999 : Int32) M22 hvr23 _ _ hb) rfl rfl hR ⟨Nat.le_of_ble_eq_true rfl, Nat.le_of_ble_eq_true rfl⟩ (Nat.le_of_ble_eq_true rfl) dX1_passFault_123 (fun v24 =>
 (x_if_ne g 144 dX1_passFault_126 rfl
 (fun _ => (x_aload_n g 1 dX1_passFault_144 rfl rfl
 (x_getS g 1 fl_RX1_9 rfl ht dX1_passFault_145
 (x_iconst g dX1_passFault_148 kI_3
 (x_aload_n g 1 dX1_passFault_149 rfl rfl
 (x_getD g fl_RX1_15 rfl ht dX1_passFault_150 (fun vr25 hvr25 =>
 (x_callVip (As := []) g mv_X6_value mi_X6_value lk_RX1_77 hvr25 (fun b hb => kX6_value vr25 M22 hvr25 _ _ hb) rfl rfl hR ⟨Nat.le_of_ble_eq_true rfl, Nat.le_of_ble_eq_true rfl⟩ (Nat.le_of_ble_eq_true rfl) dX1_passFault_153 (fun v26 =>
 (x_iast g (so_1_0 ht) dX1_passFault_156 (x_nmM (fun M27 =>
 (x_aload_n g 1 dX1_passFault_157 rfl rfl
 (x_getS g 1 fl_RX1_9 rfl ht dX1_passFault_158
 (x_iconst g dX1_passFault_161 kI_0
 (x_iald g (so_1_0 ht) dX1_passFault_162
 (x_aload_n g 1 dX1_passFault_163 rfl rfl
 (x_getS g 1 fl_RX1_9 rfl ht dX1_passFault_164
 (x_iconst g dX1_passFault_167 kI_2
 (x_iald g (so_1_0 ht) dX1_passFault_168
 (x_jn (fun (J28 : Option (Int32 × Mem)) => X J (fun q : Int32 × Mem => (some (Value.int q.1), q.2)) J28 196 [(0, .ref t), (1, .long vz7)] [] M27) (x_aload_n g 0 dX1_passFault_196 rfl rfl
 (x_getD g fl_RX1_15 rfl ht dX1_passFault_197 (fun vr29 hvr29 =>
 (x_callVv (As := []) g mv_X6_goOn mi_X6_goOn lk_RX1_64 hvr29 (fun b Mh_ hb => kX6_goOn vr29 M27 hvr29 _ _ hb) rfl rfl hR ⟨Nat.le_of_ble_eq_true rfl, Nat.le_of_ble_eq_true rfl⟩ (Nat.le_of_ble_eq_true rfl) dX1_passFault_200 (fun vu30 M31 =>
 (x_aload_n g 0 dX1_passFault_203 rfl rfl
 (x_getD g fl_RX1_15 rfl ht dX1_passFault_204 (fun vr32 hvr32 =>
 (x_bipush g dX1_passFault_207 kB_12
 (x_callVi (As := [.int (12 : Int32)]) g mv_X6_passWord mi_X6_passWord lk_RX1_95 hvr32 (fun b Mh_ hb => kX6_passWord vr32 (12 : Int32) M31 hvr32 _ _ hb) rfl rfl hR ⟨Nat.le_of_ble_eq_true rfl, Nat.le_of_ble_eq_true rfl⟩ (Nat.le_of_ble_eq_true rfl) dX1_passFault_209 (fun v33 M34 =>
 (x_if_ne g 217 dX1_passFault_212 rfl
 (fun _ => (x_aload_n g 0 dX1_passFault_217 rfl rfl
 (x_getD g fl_RX1_15 rfl ht dX1_passFault_218 (fun vr35 hvr35 =>
 (x_callVip (As := []) g mv_X6_value mi_X6_value lk_RX1_77 hvr35 (fun b hb => kX6_value vr35 M34 hvr35 _ _ hb) rfl rfl hR ⟨Nat.le_of_ble_eq_true rfl, Nat.le_of_ble_eq_true rfl⟩ (Nat.le_of_ble_eq_true rfl) dX1_passFault_221 (fun v36 =>
 (x_istore_n (L' := [(3, .int v36), (0, .ref t), (1, .long vz7)]) g dX1_passFault_224 rfl hn (Nat.le_of_ble_eq_true rfl) rfl
 (x_aload_n g 1 dX1_passFault_225 rfl rfl
 (x_getD g fl_RX1_15 rfl ht dX1_passFault_226 (fun vr37 hvr37 =>
 (x_iconst g dX1_passFault_229 kI_0
 (x_sipush g dX1_passFault_230 kS_999
 (x_callVi (As := [.int (0 : Int32), .int (999 : Int32)]) g mv_X6_passNumber mi_X6_passNumber lk_RX1_80 hvr37 (fun b Mh_ hb => kX6_passNumber vr37 (0 : Int32) (999 : Int32) M34 hvr37 _ _ hb) rfl rfl hR ⟨Nat.le_of_ble_eq_true rfl, Nat.le_of_ble_eq_true rfl⟩ (Nat.le_of_ble_eq_true rfl) dX1_passFault_233 (fun v38 M39 =>
 (x_if_ne g 241 dX1_passFault_236 rfl
 (fun _ => (x_aload_n g 1 dX1_passFault_241 rfl rfl
 (x_getD g fl_RX1_19 rfl ht dX1_passFault_242 (fun vr40 hvr40 =>
 (x_lload_n g 2 dX1_passFault_245 rfl rfl
 (x_aload_n g 1 dX1_passFault_246 rfl rfl
 (x_getS g 1 fl_RX1_9 rfl ht dX1_passFault_247
 (x_iload_n g 0 dX1_passFault_250 rfl rfl
 (x_callVv (As := [.long vz7, .ref (t + 1), .int v36]) g mv_X2_addFault mi_X2_addFault lk_RX1_144 hvr40 (fun b Mh_ hb => kX2_addFault 4 vr40 vz7 (t + 1) v36 M39 hvr40 (so_1_0 ht) _ _ hb) rfl rfl hR ⟨Nat.le_of_ble_eq_true rfl, Nat.le_of_ble_eq_true rfl⟩ (Nat.le_of_ble_eq_true rfl) dX1_passFault_251 (fun vu41 M42 =>
 (x_aload_n g 1 dX1_passFault_254 rfl rfl
 (x_getD g fl_RX1_15 rfl ht dX1_passFault_255 (fun vr43 hvr43 =>
 (x_callVi (As := []) g mv_X6_passSemicolon mi_X6_passSemicolon lk_RX1_88 hvr43 (fun b Mh_ hb => kX6_passSemicolon vr43 M42 hvr43 _ _ hb) rfl rfl hR ⟨Nat.le_of_ble_eq_true rfl, Nat.le_of_ble_eq_true rfl⟩ (Nat.le_of_ble_eq_true rfl) dX1_passFault_258 (fun v44 M45 =>
 (x_ck (fun hq46 => x_iret g hr (nbz hq46) rfl dX1_passFault_261)))))))))))))))))
 (fun _ => (x_iconst g dX1_passFault_239 kI_0
 (x_iret g hr rfl rfl dX1_passFault_240))))))))))))))))))
 (fun _ => (x_iconst g dX1_passFault_215 kI_0
 (x_iret g hr rfl rfl dX1_passFault_216))))))))))))))) (fun J28 hJ28 => (x_icmp_ne g 196 dX1_passFault_169 rfl
 (fun _ => (x_sub [1, 0] rfl (hJ28)))
 (fun _ => (x_aload_n g 1 dX1_passFault_172 rfl rfl
 (x_getS g 1 fl_RX1_9 rfl ht dX1_passFault_173
 (x_iconst g dX1_passFault_176 kI_1
 (x_iald g (so_1_0 ht) dX1_passFault_177
 (x_aload_n g 1 dX1_passFault_178 rfl rfl
 (x_getS g 1 fl_RX1_9 rfl ht dX1_passFault_179
 (x_iconst g dX1_passFault_182 kI_3
 (x_iald g (so_1_0 ht) dX1_passFault_183
 (x_icmp_ne g 196 dX1_passFault_184 rfl
 (fun _ => (x_sub [1, 0] rfl (hJ28)))
 (fun _ => (x_aload_n g 1 dX1_passFault_187 rfl rfl
 (x_getD g fl_RX1_15 rfl ht dX1_passFault_188 (fun vr47 hvr47 =>
 (x_iconst g dX1_passFault_191 kI_5
 (x_callVi (As := [.int (5 : Int32)]) g mv_X6_refuseToken mi_X6_refuseToken lk_RX1_56 hvr47 (fun b Mh_ hb => kX6_refuseToken vr47 (5 : Int32) M27 hvr47 _ _ hb) rfl rfl hR ⟨Nat.le_of_ble_eq_true rfl, Nat.le_of_ble_eq_true rfl⟩ (Nat.le_of_ble_eq_true rfl) dX1_passFault_192 (fun v48 M49 =>
 (x_ck (fun hq50 => x_iret g hr (nbz hq50) rfl dX1_passFault_195))))))))))))))))))))))))))))))))))))))))))
 (fun _ => (x_aload_n g 1 dX1_passFault_129 rfl rfl
 (x_getD g fl_RX1_15 rfl ht dX1_passFault_130 (fun vr51 hvr51 =>
 (x_aload_n g 1 dX1_passFault_133 rfl rfl
 (x_getD g fl_RX1_15 rfl ht dX1_passFault_134 (fun vr52 hvr52 =>
 (x_callVip (As := []) g mv_X6_numberFault mi_X6_numberFault lk_RX1_108 hvr52 (fun b hb => kX6_numberFault vr52 M22 hvr52 _ _ hb) rfl rfl hR ⟨Nat.le_of_ble_eq_true rfl, Nat.le_of_ble_eq_true rfl⟩ (Nat.le_of_ble_eq_true rfl) dX1_passFault_137 (fun v53 =>
 (x_callVi (As := [.int v53]) g mv_X6_refuseToken mi_X6_refuseToken lk_RX1_56 hvr51 (fun b Mh_ hb => kX6_refuseToken vr51 v53 M22 hvr51 _ _ hb) rfl rfl hR ⟨Nat.le_of_ble_eq_true rfl, Nat.le_of_ble_eq_true rfl⟩ (Nat.le_of_ble_eq_true rfl) dX1_passFault_140 (fun v54 M55 =>
 (x_ck (fun hq56 => x_iret g hr (nbz hq56) rfl dX1_passFault_143))))))))))))))))))))))
 (fun _ => (x_iconst g dX1_passFault_113 kI_0
 (x_iret g hr rfl rfl dX1_passFault_114))))))))))))))))))))))))))))))))))))))))))))))))
 (fun _ => (x_aload_n g 0 dX1_passFault_35 rfl rfl
 (x_getD g fl_RX1_15 rfl ht dX1_passFault_36 (fun vr57 hvr57 =>
 (x_aload_n g 0 dX1_passFault_39 rfl rfl
 (x_getD g fl_RX1_15 rfl ht dX1_passFault_40 (fun vr58 hvr58 =>
 (x_callVip (As := []) g mv_X6_nameFault mi_X6_nameFault lk_RX1_70 hvr58 (fun b hb => kX6_nameFault vr58 M4 hvr58 _ _ hb) rfl rfl hR ⟨Nat.le_of_ble_eq_true rfl, Nat.le_of_ble_eq_true rfl⟩ (Nat.le_of_ble_eq_true rfl) dX1_passFault_43 (fun v59 =>
 (x_callVi (As := [.int v59]) g mv_X6_refuseToken mi_X6_refuseToken lk_RX1_56 hvr57 (fun b Mh_ hb => kX6_refuseToken vr57 v59 M4 hvr57 _ _ hb) rfl rfl hR ⟨Nat.le_of_ble_eq_true rfl, Nat.le_of_ble_eq_true rfl⟩ (Nat.le_of_ble_eq_true rfl) dX1_passFault_46 (fun v60 M61 =>
 (x_ck (fun hq62 => x_iret g hr (nbz hq62) rfl dX1_passFault_49)))))))))))))))))))))))
 (fun _ => (x_aload_n g 0 dX1_passFault_11 rfl rfl
 (x_getD g fl_RX1_15 rfl ht dX1_passFault_12 (fun vr63 hvr63 =>
 (x_bipush g dX1_passFault_15 kB_6
 (x_callVi (As := [.int (6 : Int32)]) g mv_X6_refuseToken mi_X6_refuseToken lk_RX1_56 hvr63 (fun b Mh_ hb => kX6_refuseToken vr63 (6 : Int32) M hvr63 _ _ hb) rfl rfl hR ⟨Nat.le_of_ble_eq_true rfl, Nat.le_of_ble_eq_true rfl⟩ (Nat.le_of_ble_eq_true rfl) dX1_passFault_17 (fun v64 M65 =>
 (x_ck (fun hq66 => x_iret g hr (nbz hq66) rfl dX1_passFault_20)))))))))))))))
def fX1_passPart (φ : Nat) (t : Nat) (M : Mem) : Option (Int32 × Mem) :=
  (ldr 6 (M.2.2 t 1)).bind fun vr1 =>
 (fX6_word vr1 M).bind fun v2 =>
 if v2 = 0 then
 bd (fX1_passRock φ t M) fun v58 M59 =>
 if v58 = 0 ∨ v58 = 1 then some (v58, M59) else none
 else
 if v2 = 1 then
 (ldr 6 (M.2.2 t 1)).bind fun vr53 =>
 bd (fX6_refuseToken vr53 (2 : Int32) M) fun v54 M55 =>
 if v54 = 0 ∨ v54 = 1 then some (v54, M55) else none
 else
 if v2 = 2 then
 bd (fX1_passUnlike φ t M) fun v49 M50 =>
 if v49 = 0 ∨ v49 = 1 then some (v49, M50) else none
 else
 if v2 = 3 then
 (ldr 6 (M.2.2 t 1)).bind fun vr44 =>
 bd (fX6_refuseToken vr44 (2 : Int32) M) fun v45 M46 =>
 if v45 = 0 ∨ v45 = 1 then some (v45, M46) else none
 else
 if v2 = 4 then
 bd (fX1_passHole φ t M) fun v40 M41 =>
 if v40 = 0 ∨ v40 = 1 then some (v40, M41) else none
 else
 if v2 = 5 then
 (ldr 6 (M.2.2 t 1)).bind fun vr35 =>
 bd (fX6_refuseToken vr35 (2 : Int32) M) fun v36 M37 =>
 if v36 = 0 ∨ v36 = 1 then some (v36, M37) else none
 else
 if v2 = 6 then
 (ldr 6 (M.2.2 t 1)).bind fun vr30 =>
 bd (fX6_refuseToken vr30 (2 : Int32) M) fun v31 M32 =>
 if v31 = 0 ∨ v31 = 1 then some (v31, M32) else none
 else
 if v2 = 7 then
 (ldr 6 (M.2.2 t 1)).bind fun vr25 =>
 bd (fX6_refuseToken vr25 (2 : Int32) M) fun v26 M27 =>
 if v26 = 0 ∨ v26 = 1 then some (v26, M27) else none
 else
 if v2 = 8 then
 bd (fX1_passTriangle φ t M) fun v21 M22 =>
 if v21 = 0 ∨ v21 = 1 then some (v21, M22) else none
 else
 if v2 = 9 then
 bd (fX1_passFault φ t M) fun v17 M18 =>
 if v17 = 0 ∨ v17 = 1 then some (v17, M18) else none
 else
 (ldr 6 (M.2.2 t 1)).bind fun vr3 =>
 bd (fX6_refuseToken vr3 (2 : Int32) M) fun v4 M5 =>
 if v4 = 0 ∨ v4 = 1 then some (v4, M5) else none
set_option maxRecDepth 100000 in
set_option maxHeartbeats 4000000 in
theorem kX1_passPart (φ : Nat) (t : Nat) (M : Mem) (ht : isO 1 t) (l : Launch) (G : GT) {b : (Int32 × Mem)} (hE : fX1_passPart φ t M = some b) : Ok l G yX1_passPart cX1_passPart 1 (some .boolean) 5 111 [.ref t] M ((fun q : Int32 × Mem => (some (Value.int q.1), q.2)) b).1 ((fun q : Int32 × Mem => (some (Value.int q.1), q.2)) b).2 := by
  refine Ok.ofX (pj := (fun q : Int32 × Mem => (some (Value.int q.1), q.2))) (by decide) (Nat.le_of_ble_eq_true rfl) hE (fun J g hr hG hl hR hn => ?_)
  show X J (fun q : Int32 × Mem => (some (Value.int q.1), q.2)) (fX1_passPart φ t M) 0 [(0, .ref t)] [] M
  unfold fX1_passPart
  exact (x_aload_n g 0 dX1_passPart_0 rfl rfl
 (x_getD g fl_RX1_15 rfl ht dX1_passPart_1 (fun vr1 hvr1 =>
 (x_callVip (As := []) g mv_X6_word mi_X6_word lk_RX1_37 hvr1 (fun b hb => kX6_word vr1 M hvr1 _ _ hb) rfl rfl hR ⟨Nat.le_of_ble_eq_true rfl, Nat.le_of_ble_eq_true rfl⟩ (Nat.le_of_ble_eq_true rfl) dX1_passPart_4 (fun v2 =>
 (x_if (fun he61 => x_tabIn (off := 53) g (0 : Int32) 60 dX1_passPart_7 he61 (by decide) rfl rfl
 (x_aload_n g 0 dX1_passPart_60 rfl rfl
 (x_callVi (As := []) g mv_X1_passRock mi_X1_passRock lk_RX1_41 ht (fun b Mh_ hb => kX1_passRock φ t M ht _ _ hb) rfl rfl hR ⟨Nat.le_of_ble_eq_true rfl, Nat.le_of_ble_eq_true rfl⟩ (Nat.le_of_ble_eq_true rfl) dX1_passPart_61 (fun v58 M59 =>
 (x_ck (fun hq60 => x_iret g hr (nbz hq60) rfl dX1_passPart_64)))))) (fun hq7 => (x_if (fun he57 => x_tabIn (off := 78) g (1 : Int32) 85 dX1_passPart_7 he57 (by decide) rfl rfl
 (x_aload_n g 0 dX1_passPart_85 rfl rfl
 (x_getD g fl_RX1_15 rfl ht dX1_passPart_86 (fun vr53 hvr53 =>
 (x_iconst g dX1_passPart_89 kI_2
 (x_callVi (As := [.int (2 : Int32)]) g mv_X6_refuseToken mi_X6_refuseToken lk_RX1_56 hvr53 (fun b Mh_ hb => kX6_refuseToken vr53 (2 : Int32) M hvr53 _ _ hb) rfl rfl hR ⟨Nat.le_of_ble_eq_true rfl, Nat.le_of_ble_eq_true rfl⟩ (Nat.le_of_ble_eq_true rfl) dX1_passPart_90 (fun v54 M55 =>
 (x_ck (fun hq56 => x_iret g hr (nbz hq56) rfl dX1_passPart_93))))))))) (fun hq8 => (x_if (fun he52 => x_tabIn (off := 58) g (2 : Int32) 65 dX1_passPart_7 he52 (by decide) rfl rfl
 (x_aload_n g 0 dX1_passPart_65 rfl rfl
 (x_callVi (As := []) g mv_X1_passUnlike mi_X1_passUnlike lk_RX1_44 ht (fun b Mh_ hb => kX1_passUnlike φ t M ht _ _ hb) rfl rfl hR ⟨Nat.le_of_ble_eq_true rfl, Nat.le_of_ble_eq_true rfl⟩ (Nat.le_of_ble_eq_true rfl) dX1_passPart_66 (fun v49 M50 =>
 (x_ck (fun hq51 => x_iret g hr (nbz hq51) rfl dX1_passPart_69)))))) (fun hq9 => (x_if (fun he48 => x_tabIn (off := 78) g (3 : Int32) 85 dX1_passPart_7 he48 (by decide) rfl rfl
 (x_aload_n g 0 dX1_passPart_85 rfl rfl
 (x_getD g fl_RX1_15 rfl ht dX1_passPart_86 (fun vr44 hvr44 =>
 (x_iconst g dX1_passPart_89 kI_2
 (x_callVi (As := [.int (2 : Int32)]) g mv_X6_refuseToken mi_X6_refuseToken lk_RX1_56 hvr44 (fun b Mh_ hb => kX6_refuseToken vr44 (2 : Int32) M hvr44 _ _ hb) rfl rfl hR ⟨Nat.le_of_ble_eq_true rfl, Nat.le_of_ble_eq_true rfl⟩ (Nat.le_of_ble_eq_true rfl) dX1_passPart_90 (fun v45 M46 =>
 (x_ck (fun hq47 => x_iret g hr (nbz hq47) rfl dX1_passPart_93))))))))) (fun hq10 => (x_if (fun he43 => x_tabIn (off := 63) g (4 : Int32) 70 dX1_passPart_7 he43 (by decide) rfl rfl
 (x_aload_n g 0 dX1_passPart_70 rfl rfl
 (x_callVi (As := []) g mv_X1_passHole mi_X1_passHole lk_RX1_47 ht (fun b Mh_ hb => kX1_passHole φ t M ht _ _ hb) rfl rfl hR ⟨Nat.le_of_ble_eq_true rfl, Nat.le_of_ble_eq_true rfl⟩ (Nat.le_of_ble_eq_true rfl) dX1_passPart_71 (fun v40 M41 =>
 (x_ck (fun hq42 => x_iret g hr (nbz hq42) rfl dX1_passPart_74)))))) (fun hq11 => (x_if (fun he39 => x_tabIn (off := 78) g (5 : Int32) 85 dX1_passPart_7 he39 (by decide) rfl rfl
 (x_aload_n g 0 dX1_passPart_85 rfl rfl
 (x_getD g fl_RX1_15 rfl ht dX1_passPart_86 (fun vr35 hvr35 =>
 (x_iconst g dX1_passPart_89 kI_2
 (x_callVi (As := [.int (2 : Int32)]) g mv_X6_refuseToken mi_X6_refuseToken lk_RX1_56 hvr35 (fun b Mh_ hb => kX6_refuseToken vr35 (2 : Int32) M hvr35 _ _ hb) rfl rfl hR ⟨Nat.le_of_ble_eq_true rfl, Nat.le_of_ble_eq_true rfl⟩ (Nat.le_of_ble_eq_true rfl) dX1_passPart_90 (fun v36 M37 =>
 (x_ck (fun hq38 => x_iret g hr (nbz hq38) rfl dX1_passPart_93))))))))) (fun hq12 => (x_if (fun he34 => x_tabIn (off := 78) g (6 : Int32) 85 dX1_passPart_7 he34 (by decide) rfl rfl
 (x_aload_n g 0 dX1_passPart_85 rfl rfl
 (x_getD g fl_RX1_15 rfl ht dX1_passPart_86 (fun vr30 hvr30 =>
 (x_iconst g dX1_passPart_89 kI_2
 (x_callVi (As := [.int (2 : Int32)]) g mv_X6_refuseToken mi_X6_refuseToken lk_RX1_56 hvr30 (fun b Mh_ hb => kX6_refuseToken vr30 (2 : Int32) M hvr30 _ _ hb) rfl rfl hR ⟨Nat.le_of_ble_eq_true rfl, Nat.le_of_ble_eq_true rfl⟩ (Nat.le_of_ble_eq_true rfl) dX1_passPart_90 (fun v31 M32 =>
 (x_ck (fun hq33 => x_iret g hr (nbz hq33) rfl dX1_passPart_93))))))))) (fun hq13 => (x_if (fun he29 => x_tabIn (off := 78) g (7 : Int32) 85 dX1_passPart_7 he29 (by decide) rfl rfl
 (x_aload_n g 0 dX1_passPart_85 rfl rfl
 (x_getD g fl_RX1_15 rfl ht dX1_passPart_86 (fun vr25 hvr25 =>
 (x_iconst g dX1_passPart_89 kI_2
 (x_callVi (As := [.int (2 : Int32)]) g mv_X6_refuseToken mi_X6_refuseToken lk_RX1_56 hvr25 (fun b Mh_ hb => kX6_refuseToken vr25 (2 : Int32) M hvr25 _ _ hb) rfl rfl hR ⟨Nat.le_of_ble_eq_true rfl, Nat.le_of_ble_eq_true rfl⟩ (Nat.le_of_ble_eq_true rfl) dX1_passPart_90 (fun v26 M27 =>
 (x_ck (fun hq28 => x_iret g hr (nbz hq28) rfl dX1_passPart_93))))))))) (fun hq14 => (x_if (fun he24 => x_tabIn (off := 68) g (8 : Int32) 75 dX1_passPart_7 he24 (by decide) rfl rfl
 (x_aload_n g 0 dX1_passPart_75 rfl rfl
 (x_callVi (As := []) g mv_X1_passTriangle mi_X1_passTriangle lk_RX1_50 ht (fun b Mh_ hb => kX1_passTriangle φ t M ht _ _ hb) rfl rfl hR ⟨Nat.le_of_ble_eq_true rfl, Nat.le_of_ble_eq_true rfl⟩ (Nat.le_of_ble_eq_true rfl) dX1_passPart_76 (fun v21 M22 =>
 (x_ck (fun hq23 => x_iret g hr (nbz hq23) rfl dX1_passPart_79)))))) (fun hq15 => (x_if (fun he20 => x_tabIn (off := 73) g (9 : Int32) 80 dX1_passPart_7 he20 (by decide) rfl rfl
 (x_aload_n g 0 dX1_passPart_80 rfl rfl
 (x_callVi (As := []) g mv_X1_passFault mi_X1_passFault lk_RX1_53 ht (fun b Mh_ hb => kX1_passFault φ t M ht _ _ hb) rfl rfl hR ⟨Nat.le_of_ble_eq_true rfl, Nat.le_of_ble_eq_true rfl⟩ (Nat.le_of_ble_eq_true rfl) dX1_passPart_81 (fun v17 M18 =>
 (x_ck (fun hq19 => x_iret g hr (nbz hq19) rfl dX1_passPart_84)))))) (fun hq16 => (x_tabOut g 85 dX1_passPart_7 (by have a0 := tab_ne hq7 (by decide : (0 : Int32).toInt = 0); have a1 := tab_ne hq8 (by decide : (1 : Int32).toInt = 1); have a2 := tab_ne hq9 (by decide : (2 : Int32).toInt = 2); have a3 := tab_ne hq10 (by decide : (3 : Int32).toInt = 3); have a4 := tab_ne hq11 (by decide : (4 : Int32).toInt = 4); have a5 := tab_ne hq12 (by decide : (5 : Int32).toInt = 5); have a6 := tab_ne hq13 (by decide : (6 : Int32).toInt = 6); have a7 := tab_ne hq14 (by decide : (7 : Int32).toInt = 7); have a8 := tab_ne hq15 (by decide : (8 : Int32).toInt = 8); have a9 := tab_ne hq16 (by decide : (9 : Int32).toInt = 9); omega) rfl
 (x_aload_n g 0 dX1_passPart_85 rfl rfl
 (x_getD g fl_RX1_15 rfl ht dX1_passPart_86 (fun vr3 hvr3 =>
 (x_iconst g dX1_passPart_89 kI_2
 (x_callVi (As := [.int (2 : Int32)]) g mv_X6_refuseToken mi_X6_refuseToken lk_RX1_56 hvr3 (fun b Mh_ hb => kX6_refuseToken vr3 (2 : Int32) M hvr3 _ _ hb) rfl rfl hR ⟨Nat.le_of_ble_eq_true rfl, Nat.le_of_ble_eq_true rfl⟩ (Nat.le_of_ble_eq_true rfl) dX1_passPart_90 (fun v4 M5 =>
 (x_ck (fun hq6 => x_iret g hr (nbz hq6) rfl dX1_passPart_93))))))))))))))))))))))))))))))))))
def lX1_isTaken_19 (φ : Nat) (t : Nat) : Nat → Int32 → Mem → Option (Int32 × Mem)
  | 0, _, _ => none
  | n + 1, x3, M =>
    if (900 : Int32) ≤ x3 then
 some ((1 : Int32), M)
 else
 (ldr 6 (M.2.2 t 1)).bind fun vr6 =>
 (fX6_isAtEnd vr6 M).bind fun v7 =>
 if v7 = 0 then
 bd (fX1_passPart φ t M) fun v8 M9 =>
 if v8 = 0 then
 some ((0 : Int32), M9)
 else
 lX1_isTaken_19 φ t n (x3 + 1) M9
 else
 some ((1 : Int32), M)
theorem lX1_isTaken_19_s (φ : Nat) (t : Nat) (n : Nat) (x3 : Int32) (M : Mem) : lX1_isTaken_19 φ t (n + 1) x3 M =
    if (900 : Int32) ≤ x3 then
 some ((1 : Int32), M)
 else
 (ldr 6 (M.2.2 t 1)).bind fun vr6 =>
 (fX6_isAtEnd vr6 M).bind fun v7 =>
 if v7 = 0 then
 bd (fX1_passPart φ t M) fun v8 M9 =>
 if v8 = 0 then
 some ((0 : Int32), M9)
 else
 lX1_isTaken_19 φ t n (x3 + 1) M9
 else
 some ((1 : Int32), M) := rfl
theorem lX1_isTaken_19_0 (φ : Nat) (t : Nat) (x3 : Int32) (M : Mem) : lX1_isTaken_19 φ t 0 x3 M = none := rfl
set_option maxRecDepth 100000 in
set_option maxHeartbeats 4000000 in
theorem wlX1_isTaken_19 {J : JT} (g : Gd J cX1_isTaken RX1) (hr : Rt J (some .boolean)) (hR : (JR J).frames = 6 ∧ (JR J).locals = 131) (hn : Jn J = 4) (φ : Nat) (t : Nat) (ht : isO 1 t) : ∀ (n : Nat) (x3 : Int32) (M : Mem), X J (fun q : Int32 × Mem => (some (Value.int q.1), q.2)) (lX1_isTaken_19 φ t n x3 M) 19 [(0, .ref t), (3, .int x3)] [] M := by
  intro n
  induction n with
  | zero =>
    intro x3 M
    exact x_none
  | succ n ih =>
    intro x3 M
    rw [lX1_isTaken_19_s]
    exact (x_iload_n g 1 dX1_isTaken_19 rfl rfl
 (x_sipush g dX1_isTaken_20 kS_900
 (x_icmp_ge g 51 dX1_isTaken_23 rfl
 (fun _ => (x_iconst g dX1_isTaken_51 kI_1
 (x_iret g hr rfl rfl dX1_isTaken_52)))
 (fun _ => (x_aload_n g 0 dX1_isTaken_26 rfl rfl
 (x_getD g fl_RX1_15 rfl ht dX1_isTaken_27 (fun vr6 hvr6 =>
 (x_callVip (As := []) g mv_X6_isAtEnd mi_X6_isAtEnd lk_RX1_28 hvr6 (fun b hb => kX6_isAtEnd vr6 M hvr6 _ _ hb) rfl rfl hR ⟨Nat.le_of_ble_eq_true rfl, Nat.le_of_ble_eq_true rfl⟩ (Nat.le_of_ble_eq_true rfl) dX1_isTaken_30 (fun v7 =>
 (x_if_ne g 51 dX1_isTaken_33 rfl
 (fun _ => (x_iconst g dX1_isTaken_51 kI_1
 (x_iret g hr rfl rfl dX1_isTaken_52)))
 (fun _ => (x_aload_n g 0 dX1_isTaken_36 rfl rfl
 (x_callVi (As := []) g mv_X1_passPart mi_X1_passPart lk_RX1_34 ht (fun b Mh_ hb => kX1_passPart φ t M ht _ _ hb) rfl rfl hR ⟨Nat.le_of_ble_eq_true rfl, Nat.le_of_ble_eq_true rfl⟩ (Nat.le_of_ble_eq_true rfl) dX1_isTaken_37 (fun v8 M9 =>
 (x_if_ne g 45 dX1_isTaken_40 rfl
 (fun _ => (x_iinc (L' := [(3, .int (x3 + 1)), (0, .ref t)]) (v := (x3 + 1)) g 1 dX1_isTaken_45 rfl (by rw [kI_1]) hn (Nat.le_of_ble_eq_true rfl) rfl
 (x_goto g 19 dX1_isTaken_48 rfl
 (x_sub [1, 0] rfl (ih (x3 + 1) M9)))))
 (fun _ => (x_iconst g dX1_isTaken_43 kI_0
 (x_iret g hr rfl rfl dX1_isTaken_44))))))))))))))))))
def fX1_isTaken (φ : Nat) (t : Nat) (a1 : Nat) (a2 : Nat) (M : Mem) : Option (Int32 × Mem) :=
  nm (stR M t 1 a1) (fun M1 =>
 nm (stR M1 t 2 a2) (fun M2 =>
 (ldr 2 (M2.2.2 t 2)).bind fun vr3 =>
 bd (fX2_clear vr3 M2) fun vu4 M5 =>
 lX1_isTaken_19 φ t φ (0 : Int32) M5))
set_option maxRecDepth 100000 in
set_option maxHeartbeats 4000000 in
theorem kX1_isTaken (φ : Nat) (t : Nat) (a1 : Nat) (a2 : Nat) (M : Mem) (ht : isO 1 t) (ha1 : isO 6 a1) (ha2 : isO 2 a2) (l : Launch) (G : GT) {b : (Int32 × Mem)} (hE : fX1_isTaken φ t a1 a2 M = some b) : Ok l G yX1_isTaken cX1_isTaken 4 (some .boolean) 6 131 [.ref t, .ref a1, .ref a2] M ((fun q : Int32 × Mem => (some (Value.int q.1), q.2)) b).1 ((fun q : Int32 × Mem => (some (Value.int q.1), q.2)) b).2 := by
  refine Ok.ofX (pj := (fun q : Int32 × Mem => (some (Value.int q.1), q.2))) (by decide) (Nat.le_of_ble_eq_true rfl) hE (fun J g hr hG hl hR hn => ?_)
  show X J (fun q : Int32 × Mem => (some (Value.int q.1), q.2)) (fX1_isTaken φ t a1 a2 M) 0 [(0, .ref t), (1, .ref a1), (2, .ref a2)] [] M
  unfold fX1_isTaken
  exact (x_aload_n g 0 dX1_isTaken_0 rfl rfl
 (x_aload_n g 1 dX1_isTaken_1 rfl rfl
 (x_putR g fp_RX1_15 rfl (Nat.le_of_ble_eq_true rfl) ht dX1_isTaken_2 (x_nmM (fun M1 =>
 (x_aload_n g 0 dX1_isTaken_5 rfl rfl
 (x_aload_n g 2 dX1_isTaken_6 rfl rfl
 (x_putR g fp_RX1_19 rfl (Nat.le_of_ble_eq_true rfl) ht dX1_isTaken_7 (x_nmM (fun M2 =>
 (x_aload_n g 0 dX1_isTaken_10 rfl rfl
 (x_getD g fl_RX1_19 rfl ht dX1_isTaken_11 (fun vr3 hvr3 =>
 (x_callVv (As := []) g mv_X2_clear mi_X2_clear lk_RX1_23 hvr3 (fun b Mh_ hb => kX2_clear vr3 M2 hvr3 _ _ hb) rfl rfl hR ⟨Nat.le_of_ble_eq_true rfl, Nat.le_of_ble_eq_true rfl⟩ (Nat.le_of_ble_eq_true rfl) dX1_isTaken_14 (fun vu4 M5 =>
 (x_iconst g dX1_isTaken_17 kI_0
 (x_istore_n (L' := [(3, .int (0 : Int32)), (0, .ref t), (1, .ref a1), (2, .ref a2)]) g dX1_isTaken_18 rfl hn (Nat.le_of_ble_eq_true rfl) rfl
 (x_sub [1, 0] rfl (wlX1_isTaken_19 g hr hR hn  φ t ht φ (0 : Int32) M5)))))))))))))))))))
def fX8_forget (t : Nat) (M : Mem) : Option (Unit × Mem) :=
  nm (stI M t 0 (0 : Int32)) (fun M1 =>
 nm (stI M1 t 1 (0 : Int32)) (fun M2 =>
 nm (stI M2 t 2 (0 : Int32)) (fun M3 =>
 some ((), M3))))
set_option maxRecDepth 100000 in
set_option maxHeartbeats 4000000 in
theorem kX8_forget (t : Nat) (M : Mem) (ht : isO 8 t) (l : Launch) (G : GT) {b : (Unit × Mem)} (hE : fX8_forget t M = some b) : Ok l G yX8_forget cX8_forget 1 none 0 0 [.ref t] M ((fun q : Unit × Mem => ((none : Option Value), q.2)) b).1 ((fun q : Unit × Mem => ((none : Option Value), q.2)) b).2 := by
  refine Ok.ofX (pj := (fun q : Unit × Mem => ((none : Option Value), q.2))) (by decide) (Nat.le_of_ble_eq_true rfl) hE (fun J g hr hG hl hR hn => ?_)
  show X J (fun q : Unit × Mem => ((none : Option Value), q.2)) (fX8_forget t M) 0 [(0, .ref t)] [] M
  unfold fX8_forget
  exact (x_aload_n g 0 dX8_forget_0 rfl rfl
 (x_iconst g dX8_forget_1 kI_0
 (x_putZ g fp_RX8_11 rfl (Nat.le_of_ble_eq_true rfl) ht (Or.inl rfl) dX8_forget_2 (x_nmM (fun M1 =>
 (x_aload_n g 0 dX8_forget_5 rfl rfl
 (x_iconst g dX8_forget_6 kI_0
 (x_putI g fp_RX8_15 rfl (Nat.le_of_ble_eq_true rfl) ht dX8_forget_7 (x_nmM (fun M2 =>
 (x_aload_n g 0 dX8_forget_10 rfl rfl
 (x_iconst g dX8_forget_11 kI_0
 (x_putI g fp_RX8_19 rfl (Nat.le_of_ble_eq_true rfl) ht dX8_forget_12 (x_nmM (fun M3 =>
 (x_vret g hr rfl dX8_forget_15))))))))))))))))
def fX0_turnStale (t : Nat) (M : Mem) : Option (Unit × Mem) :=
  nm (stI M t 1 (1 : Int32)) (fun M1 =>
 some ((), M1))
set_option maxRecDepth 100000 in
set_option maxHeartbeats 4000000 in
theorem kX0_turnStale (t : Nat) (M : Mem) (ht : isO 0 t) (l : Launch) (G : GT) {b : (Unit × Mem)} (hE : fX0_turnStale t M = some b) : Ok l G yX0_turnStale cX0_turnStale 1 none 0 0 [.ref t] M ((fun q : Unit × Mem => ((none : Option Value), q.2)) b).1 ((fun q : Unit × Mem => ((none : Option Value), q.2)) b).2 := by
  refine Ok.ofX (pj := (fun q : Unit × Mem => ((none : Option Value), q.2))) (by decide) (Nat.le_of_ble_eq_true rfl) hE (fun J g hr hG hl hR hn => ?_)
  show X J (fun q : Unit × Mem => ((none : Option Value), q.2)) (fX0_turnStale t M) 0 [(0, .ref t)] [] M
  unfold fX0_turnStale
  exact (x_aload_n g 0 dX0_turnStale_0 rfl rfl
 (x_iconst g dX0_turnStale_1 kI_1
 (x_putZ g fp_RX0_18 rfl (Nat.le_of_ble_eq_true rfl) ht (Or.inr rfl) dX0_turnStale_2 (x_nmM (fun M1 =>
 (x_vret g hr rfl dX0_turnStale_5))))))
def fX10_answer (t : Nat) (a1 : Int32) (M : Mem) : Option (Int32 × Mem) :=
  nm (stI M t 0 (0 : Int32)) (fun M1 =>
 some (a1, M1))
set_option maxRecDepth 100000 in
set_option maxHeartbeats 4000000 in
theorem kX10_answer (t : Nat) (a1 : Int32) (M : Mem) (ht : isO 10 t) (l : Launch) (G : GT) {b : (Int32 × Mem)} (hE : fX10_answer t a1 M = some b) : Ok l G yX10_answer cX10_answer 2 (some .int) 0 0 [.ref t, .int a1] M ((fun q : Int32 × Mem => (some (Value.int q.1), q.2)) b).1 ((fun q : Int32 × Mem => (some (Value.int q.1), q.2)) b).2 := by
  refine Ok.ofX (pj := (fun q : Int32 × Mem => (some (Value.int q.1), q.2))) (by decide) (Nat.le_of_ble_eq_true rfl) hE (fun J g hr hG hl hR hn => ?_)
  show X J (fun q : Int32 × Mem => (some (Value.int q.1), q.2)) (fX10_answer t a1 M) 0 [(0, .ref t), (1, .int a1)] [] M
  unfold fX10_answer
  exact (x_aload_n g 0 dX10_answer_0 rfl rfl
 (x_iconst g dX10_answer_1 kI_0
 (x_putI g fp_RX10_9 rfl (Nat.le_of_ble_eq_true rfl) ht dX10_answer_2 (x_nmM (fun M1 =>
 (x_iload_n g 1 dX10_answer_5 rfl rfl
 (x_iret g hr rfl rfl dX10_answer_6)))))))
def fX10_field (φ : Nat) (t : Nat) (a1 : Int32) (M : Mem) : Option (Int32 × Mem) :=
  if a1 < 0 then
 bd (fX10_refuse t (1 : Int32) M) fun v1 M2 =>
 some (v1, M2)
 else
 if a1 ≤ (M.1 (t + 2) 1) then
 bd (fX6_begin φ (t + 2) a1 M) fun vu3 M4 =>
 (ldr 2 (M4.2.2 t 8)).bind fun vr5 =>
 bd (fX1_isTaken φ (t + 8) (t + 2) vr5 M4) fun v6 M7 =>
 if v6 = 0 then
 bd (fX10_refuse t (9 : Int32) M7) fun v20 M21 =>
 some (v20, M21)
 else
 (ldr 2 (M7.2.2 t 7)).bind fun vr8 =>
 (ldr 2 (M7.2.2 t 8)).bind fun vr9 =>
 nm (stR M7 t 7 vr9) (fun M10 =>
 nm (stR M10 t 8 vr8) (fun M11 =>
 (ldr 8 (M11.2.2 t 9)).bind fun vr12 =>
 bd (fX8_forget vr12 M11) fun vu13 M14 =>
 bd (fX0_turnStale (t + 57) M14) fun vu15 M16 =>
 (ldr 2 (M16.2.2 t 7)).bind fun vr17 =>
 bd (fX10_answer t (M16.1 vr17 4) M16) fun v18 M19 =>
 some (v18, M19)))
 else
 bd (fX10_refuse t (1 : Int32) M) fun v22 M23 =>
 some (v22, M23)
set_option maxRecDepth 100000 in
set_option maxHeartbeats 4000000 in
theorem kX10_field (φ : Nat) (t : Nat) (a1 : Int32) (M : Mem) (ht : isO 10 t) (l : Launch) (G : GT) {b : (Int32 × Mem)} (hE : fX10_field φ t a1 M = some b) : Ok l G yX10_field cX10_field 3 (some .int) 9 242 [.ref t, .int a1] M ((fun q : Int32 × Mem => (some (Value.int q.1), q.2)) b).1 ((fun q : Int32 × Mem => (some (Value.int q.1), q.2)) b).2 := by
  refine Ok.ofX (pj := (fun q : Int32 × Mem => (some (Value.int q.1), q.2))) (by decide) (Nat.le_of_ble_eq_true rfl) hE (fun J g hr hG hl hR hn => ?_)
  show X J (fun q : Int32 × Mem => (some (Value.int q.1), q.2)) (fX10_field φ t a1 M) 0 [(0, .ref t), (1, .int a1)] [] M
  unfold fX10_field
  exact (x_iload_n g 1 dX10_field_0 rfl rfl
 (x_if_lt g 15 dX10_field_1 rfl
 (fun _ => (x_aload_n g 0 dX10_field_15 rfl rfl
 (x_iconst g dX10_field_16 kI_1
 (x_callVi (As := [.int (1 : Int32)]) g mv_X10_refuse mi_X10_refuse lk_RX10_137 ht (fun b Mh_ hb => kX10_refuse t (1 : Int32) M ht _ _ hb) rfl rfl hR ⟨Nat.le_of_ble_eq_true rfl, Nat.le_of_ble_eq_true rfl⟩ (Nat.le_of_ble_eq_true rfl) dX10_field_17 (fun v1 M2 =>
 (x_iret g hr rfl rfl dX10_field_20))))))
 (fun _ => (x_iload_n g 1 dX10_field_4 rfl rfl
 (x_aload_n g 0 dX10_field_5 rfl rfl
 (x_getS g 2 fl_RX10_29 rfl ht dX10_field_6
 (x_getI g fl_RX10_168 rfl (so_10_4 ht) dX10_field_9
 (x_icmp_le g 21 dX10_field_12 rfl
 (fun _ => (x_aload_n g 0 dX10_field_21 rfl rfl
 (x_getS g 2 fl_RX10_29 rfl ht dX10_field_22
 (x_iload_n g 1 dX10_field_25 rfl rfl
 (x_callVv (As := [.int a1]) g mv_X6_begin mi_X6_begin lk_RX10_171 (so_10_4 ht) (fun b Mh_ hb => kX6_begin φ (t + 2) a1 M (so_10_4 ht) _ _ hb) rfl rfl hR ⟨Nat.le_of_ble_eq_true rfl, Nat.le_of_ble_eq_true rfl⟩ (Nat.le_of_ble_eq_true rfl) dX10_field_26 (fun vu3 M4 =>
 (x_aload_n g 0 dX10_field_29 rfl rfl
 (x_getS g 8 fl_RX10_36 rfl ht dX10_field_30
 (x_aload_n g 0 dX10_field_33 rfl rfl
 (x_getS g 2 fl_RX10_29 rfl ht dX10_field_34
 (x_aload_n g 0 dX10_field_37 rfl rfl
 (x_getD g fl_RX10_54 rfl ht dX10_field_38 (fun vr5 hvr5 =>
 (x_callVi (As := [.ref (t + 2), .ref vr5]) g mv_X1_isTaken mi_X1_isTaken lk_RX10_174 (so_10_5 ht) (fun b Mh_ hb => kX1_isTaken φ (t + 8) (t + 2) vr5 M4 (so_10_5 ht) (so_10_4 ht) hvr5 _ _ hb) rfl rfl hR ⟨Nat.le_of_ble_eq_true rfl, Nat.le_of_ble_eq_true rfl⟩ (Nat.le_of_ble_eq_true rfl) dX10_field_41 (fun v6 M7 =>
 (x_if_ne g 54 dX10_field_44 rfl
 (fun _ => (x_aload_n g 0 dX10_field_54 rfl rfl
 (x_getD g fl_RX10_50 rfl ht dX10_field_55 (fun vr8 hvr8 =>
 (x_astore_n (L' := [(2, .ref vr8), (0, .ref t), (1, .int a1)]) g dX10_field_58 rfl hn (Nat.le_of_ble_eq_true rfl) rfl
 (x_aload_n g 1 dX10_field_59 rfl rfl
 (x_aload_n g 1 dX10_field_60 rfl rfl
 (x_getD g fl_RX10_54 rfl ht dX10_field_61 (fun vr9 hvr9 =>
 (x_putR g fp_RX10_50 rfl (Nat.le_of_ble_eq_true rfl) ht dX10_field_64 (x_nmM (fun M10 =>
 (x_aload_n g 1 dX10_field_67 rfl rfl
 (x_aload_n g 0 dX10_field_68 rfl rfl
 (x_putR g fp_RX10_54 rfl (Nat.le_of_ble_eq_true rfl) ht dX10_field_69 (x_nmM (fun M11 =>
 (x_aload_n g 1 dX10_field_72 rfl rfl
 (x_getD g fl_RX10_60 rfl ht dX10_field_73 (fun vr12 hvr12 =>
 (x_callVv (As := []) g mv_X8_forget mi_X8_forget lk_RX10_178 hvr12 (fun b Mh_ hb => kX8_forget vr12 M11 hvr12 _ _ hb) rfl rfl hR ⟨Nat.le_of_ble_eq_true rfl, Nat.le_of_ble_eq_true rfl⟩ (Nat.le_of_ble_eq_true rfl) dX10_field_76 (fun vu13 M14 =>
 (x_aload_n g 1 dX10_field_79 rfl rfl
 (x_getS g 57 fl_RX10_88 rfl ht dX10_field_80
 (x_callVv (As := []) g mv_X0_turnStale mi_X0_turnStale lk_RX10_181 (so_10_15 ht) (fun b Mh_ hb => kX0_turnStale (t + 57) M14 (so_10_15 ht) _ _ hb) rfl rfl hR ⟨Nat.le_of_ble_eq_true rfl, Nat.le_of_ble_eq_true rfl⟩ (Nat.le_of_ble_eq_true rfl) dX10_field_83 (fun vu15 M16 =>
 (x_aload_n g 1 dX10_field_86 rfl rfl
 (x_aload_n g 1 dX10_field_87 rfl rfl
 (x_getD g fl_RX10_50 rfl ht dX10_field_88 (fun vr17 hvr17 =>
 (x_getI g fl_RX10_184 rfl hvr17 dX10_field_91
 (x_callVi (As := [.int (M16.1 vr17 4)]) g mv_X10_answer mi_X10_answer lk_RX10_187 ht (fun b Mh_ hb => kX10_answer t (M16.1 vr17 4) M16 ht _ _ hb) rfl rfl hR ⟨Nat.le_of_ble_eq_true rfl, Nat.le_of_ble_eq_true rfl⟩ (Nat.le_of_ble_eq_true rfl) dX10_field_94 (fun v18 M19 =>
 (x_iret g hr rfl rfl dX10_field_97))))))))))))))))))))))))))))))))))
 (fun _ => (x_aload_n g 0 dX10_field_47 rfl rfl
 (x_bipush g dX10_field_48 kB_9
 (x_callVi (As := [.int (9 : Int32)]) g mv_X10_refuse mi_X10_refuse lk_RX10_137 ht (fun b Mh_ hb => kX10_refuse t (9 : Int32) M7 ht _ _ hb) rfl rfl hR ⟨Nat.le_of_ble_eq_true rfl, Nat.le_of_ble_eq_true rfl⟩ (Nat.le_of_ble_eq_true rfl) dX10_field_50 (fun v20 M21 =>
 (x_iret g hr rfl rfl dX10_field_53))))))))))))))))))))))
 (fun _ => (x_aload_n g 0 dX10_field_15 rfl rfl
 (x_iconst g dX10_field_16 kI_1
 (x_callVi (As := [.int (1 : Int32)]) g mv_X10_refuse mi_X10_refuse lk_RX10_137 ht (fun b Mh_ hb => kX10_refuse t (1 : Int32) M ht _ _ hb) rfl rfl hR ⟨Nat.le_of_ble_eq_true rfl, Nat.le_of_ble_eq_true rfl⟩ (Nat.le_of_ble_eq_true rfl) dX10_field_17 (fun v22 M23 =>
 (x_iret g hr rfl rfl dX10_field_20))))))))))))))
def fX8_add (t : Nat) (a1 : Int32) (M : Mem) : Option (Int32 × Mem) :=
  nm (M.1 t 2) (fun v1 =>
 ixk v1 60 (nm (stI M (t + 1) v1.toNatClampNeg a1) (fun M2 =>
 ixk v1 60 (nm (stI M2 (t + 2) v1.toNatClampNeg (0 : Int32)) (fun M3 =>
 ixk v1 60 (nm (stI M3 (t + 3) v1.toNatClampNeg (0 : Int32)) (fun M4 =>
 ixk v1 60 (nm (stI M4 (t + 4) v1.toNatClampNeg (0 : Int32)) (fun M5 =>
 ixk v1 60 (nm (stI M5 (t + 5) v1.toNatClampNeg v1) (fun M6 =>
 nm (stI M6 t 2 ((M6.1 t 2) + (1 : Int32))) (fun M7 =>
 if a1 = (22 : Int32) then
 some (v1, M7)
 else
 nm (stI M7 t 1 ((M7.1 t 1) + (1 : Int32))) (fun M8 =>
 some (v1, M8))))))))))))))
set_option maxRecDepth 100000 in
set_option maxHeartbeats 4000000 in
theorem kX8_add (t : Nat) (a1 : Int32) (M : Mem) (ht : isO 8 t) (l : Launch) (G : GT) {b : (Int32 × Mem)} (hE : fX8_add t a1 M = some b) : Ok l G yX8_add cX8_add 3 (some .int) 0 0 [.ref t, .int a1] M ((fun q : Int32 × Mem => (some (Value.int q.1), q.2)) b).1 ((fun q : Int32 × Mem => (some (Value.int q.1), q.2)) b).2 := by
  refine Ok.ofX (pj := (fun q : Int32 × Mem => (some (Value.int q.1), q.2))) (by decide) (Nat.le_of_ble_eq_true rfl) hE (fun J g hr hG hl hR hn => ?_)
  show X J (fun q : Int32 × Mem => (some (Value.int q.1), q.2)) (fX8_add t a1 M) 0 [(0, .ref t), (1, .int a1)] [] M
  unfold fX8_add
  exact (x_aload_n g 0 dX8_add_0 rfl rfl
 (x_getI g fl_RX8_19 rfl ht dX8_add_1
 (x_nmI (fun v1 => (x_istore_n (L' := [(2, .int v1), (0, .ref t), (1, .int a1)]) g dX8_add_4 rfl hn (Nat.le_of_ble_eq_true rfl) rfl
 (x_aload_n g 1 dX8_add_5 rfl rfl
 (x_getS g 1 fl_RX8_22 rfl ht dX8_add_6
 (x_iload_n g 0 dX8_add_9 rfl rfl
 (x_iload_n g 2 dX8_add_10 rfl rfl
 (x_iast g (so_8_3 ht) dX8_add_11 (x_nmM (fun M2 =>
 (x_aload_n g 1 dX8_add_12 rfl rfl
 (x_getS g 2 fl_RX8_26 rfl ht dX8_add_13
 (x_iload_n g 0 dX8_add_16 rfl rfl
 (x_iconst g dX8_add_17 kI_0
 (x_iast g (so_8_4 ht) dX8_add_18 (x_nmM (fun M3 =>
 (x_aload_n g 1 dX8_add_19 rfl rfl
 (x_getS g 3 fl_RX8_29 rfl ht dX8_add_20
 (x_iload_n g 0 dX8_add_23 rfl rfl
 (x_iconst g dX8_add_24 kI_0
 (x_iast g (so_8_5 ht) dX8_add_25 (x_nmM (fun M4 =>
 (x_aload_n g 1 dX8_add_26 rfl rfl
 (x_getS g 4 fl_RX8_32 rfl ht dX8_add_27
 (x_iload_n g 0 dX8_add_30 rfl rfl
 (x_iconst g dX8_add_31 kI_0
 (x_iast g (so_8_6 ht) dX8_add_32 (x_nmM (fun M5 =>
 (x_aload_n g 1 dX8_add_33 rfl rfl
 (x_getS g 5 fl_RX8_35 rfl ht dX8_add_34
 (x_iload_n g 0 dX8_add_37 rfl rfl
 (x_iload_n g 0 dX8_add_38 rfl rfl
 (x_iast g (so_8_7 ht) dX8_add_39 (x_nmM (fun M6 =>
 (x_aload_n g 1 dX8_add_40 rfl rfl
 (x_dup g dX8_add_41 rfl
 (x_getI g fl_RX8_19 rfl ht dX8_add_42
 (x_iconst g dX8_add_45 kI_1
 (x_iadd g dX8_add_46
 (x_putI g fp_RX8_19 rfl (Nat.le_of_ble_eq_true rfl) ht dX8_add_47 (x_nmM (fun M7 =>
 (x_iload_n g 2 dX8_add_50 rfl rfl
 (x_bipush g dX8_add_51 kB_22
 (x_icmp_eq g 66 dX8_add_53 rfl
 (fun _ => (x_iload_n g 0 dX8_add_66 rfl rfl
 (x_iret g hr rfl rfl dX8_add_67)))
 (fun _ => (x_aload_n g 1 dX8_add_56 rfl rfl
 (x_dup g dX8_add_57 rfl
 (x_getI g fl_RX8_15 rfl ht dX8_add_58
 (x_iconst g dX8_add_61 kI_1
 (x_iadd g dX8_add_62
 (x_putI g fp_RX8_15 rfl (Nat.le_of_ble_eq_true rfl) ht dX8_add_63 (x_nmM (fun M8 =>
 (x_iload_n g 0 dX8_add_66 rfl rfl
 (x_iret g hr rfl rfl dX8_add_67))))))))))))))))))))))))))))))))))))))))))))))))))))))))))))))
def fX9_passEnd (t : Nat) (M : Mem) : Option (Int32 × Mem) :=
  if 0 < (M.1 t 1) then
 nm (stI M t 1 ((M.1 t 1) - (1 : Int32))) (fun M1 =>
 (ldr 8 (M1.2.2 t 4)).bind fun vr2 =>
 bd (fX8_add vr2 (22 : Int32) M1) fun v3 M4 =>
 (ldr 8 (M4.2.2 t 4)).bind fun vr5 =>
 ixk (M4.1 t 1) 3 (
 ixk v3 60 (nm (stI M4 (vr5 + 5) v3.toNatClampNeg (M4.1 (t + 1) (M4.1 t 1).toNatClampNeg)) (fun M6 =>
 (ldr 8 (M6.2.2 t 4)).bind fun vr7 =>
 ixk (M6.1 t 1) 3 (
 ixk (M6.1 (t + 1) (M6.1 t 1).toNatClampNeg) 60 (nm (stI M6 (vr7 + 5) (M6.1 (t + 1) (M6.1 t 1).toNatClampNeg).toNatClampNeg v3) (fun M8 =>
 (ldr 6 (M8.2.2 t 2)).bind fun vr9 =>
 bd (fX6_goOn vr9 M8) fun vu10 M11 =>
 (ldr 6 (M11.2.2 t 2)).bind fun vr12 =>
 bd (fX6_passSemicolon vr12 M11) fun v13 M14 =>
 if v13 = 0 ∨ v13 = 1 then some (v13, M14) else none)))))))
 else
 (ldr 6 (M.2.2 t 2)).bind fun vr16 =>
 bd (fX6_refuseToken vr16 (2 : Int32) M) fun v17 M18 =>
 if v17 = 0 ∨ v17 = 1 then some (v17, M18) else none
set_option maxRecDepth 100000 in
set_option maxHeartbeats 4000000 in
theorem kX9_passEnd (t : Nat) (M : Mem) (ht : isO 9 t) (l : Launch) (G : GT) {b : (Int32 × Mem)} (hE : fX9_passEnd t M = some b) : Ok l G yX9_passEnd cX9_passEnd 2 (some .boolean) 2 41 [.ref t] M ((fun q : Int32 × Mem => (some (Value.int q.1), q.2)) b).1 ((fun q : Int32 × Mem => (some (Value.int q.1), q.2)) b).2 := by
  refine Ok.ofX (pj := (fun q : Int32 × Mem => (some (Value.int q.1), q.2))) (by decide) (Nat.le_of_ble_eq_true rfl) hE (fun J g hr hG hl hR hn => ?_)
  show X J (fun q : Int32 × Mem => (some (Value.int q.1), q.2)) (fX9_passEnd t M) 0 [(0, .ref t)] [] M
  unfold fX9_passEnd
  exact (x_aload_n g 0 dX9_passEnd_0 rfl rfl
 (x_getI g fl_RX9_15 rfl ht dX9_passEnd_1
 (x_if_gt g 16 dX9_passEnd_4 rfl
 (fun _ => (x_aload_n g 0 dX9_passEnd_16 rfl rfl
 (x_dup g dX9_passEnd_17 rfl
 (x_getI g fl_RX9_15 rfl ht dX9_passEnd_18
 (x_iconst g dX9_passEnd_21 kI_1
 (x_isub g dX9_passEnd_22
 (x_putI g fp_RX9_15 rfl (Nat.le_of_ble_eq_true rfl) ht dX9_passEnd_23 (x_nmM (fun M1 =>
 (x_aload_n g 0 dX9_passEnd_26 rfl rfl
 (x_getD g fl_RX9_27 rfl ht dX9_passEnd_27 (fun vr2 hvr2 =>
 (x_bipush g dX9_passEnd_30 kB_22
 (x_callVi (As := [.int (22 : Int32)]) g mv_X8_add mi_X8_add lk_RX9_69 hvr2 (fun b Mh_ hb => kX8_add vr2 (22 : Int32) M1 hvr2 _ _ hb) rfl rfl hR ⟨Nat.le_of_ble_eq_true rfl, Nat.le_of_ble_eq_true rfl⟩ (Nat.le_of_ble_eq_true rfl) dX9_passEnd_32 (fun v3 M4 =>
 (x_istore_n (L' := [(1, .int v3), (0, .ref t)]) g dX9_passEnd_35 rfl hn (Nat.le_of_ble_eq_true rfl) rfl
 (x_aload_n g 1 dX9_passEnd_36 rfl rfl
 (x_getD g fl_RX9_27 rfl ht dX9_passEnd_37 (fun vr5 hvr5 =>
 (x_getS g 5 fl_RX9_80 rfl hvr5 dX9_passEnd_40
 (x_iload_n g 0 dX9_passEnd_43 rfl rfl
 (x_aload_n g 1 dX9_passEnd_44 rfl rfl
 (x_getS g 1 fl_RX9_11 rfl ht dX9_passEnd_45
 (x_aload_n g 1 dX9_passEnd_48 rfl rfl
 (x_getI g fl_RX9_15 rfl ht dX9_passEnd_49
 (x_iald g (so_9_0 ht) dX9_passEnd_52
 (x_iast g (so_8_7 hvr5) dX9_passEnd_53 (x_nmM (fun M6 =>
 (x_aload_n g 1 dX9_passEnd_54 rfl rfl
 (x_getD g fl_RX9_27 rfl ht dX9_passEnd_55 (fun vr7 hvr7 =>
 (x_getS g 5 fl_RX9_80 rfl hvr7 dX9_passEnd_58
 (x_aload_n g 1 dX9_passEnd_61 rfl rfl
 (x_getS g 1 fl_RX9_11 rfl ht dX9_passEnd_62
 (x_aload_n g 1 dX9_passEnd_65 rfl rfl
 (x_getI g fl_RX9_15 rfl ht dX9_passEnd_66
 (x_iald g (so_9_0 ht) dX9_passEnd_69
 (x_iload_n g 0 dX9_passEnd_70 rfl rfl
 (x_iast g (so_8_7 hvr7) dX9_passEnd_71 (x_nmM (fun M8 =>
 (x_aload_n g 1 dX9_passEnd_72 rfl rfl
 (x_getD g fl_RX9_19 rfl ht dX9_passEnd_73 (fun vr9 hvr9 =>
 (x_callVv (As := []) g mv_X6_goOn mi_X6_goOn lk_RX9_66 hvr9 (fun b Mh_ hb => kX6_goOn vr9 M8 hvr9 _ _ hb) rfl rfl hR ⟨Nat.le_of_ble_eq_true rfl, Nat.le_of_ble_eq_true rfl⟩ (Nat.le_of_ble_eq_true rfl) dX9_passEnd_76 (fun vu10 M11 =>
 (x_aload_n g 1 dX9_passEnd_79 rfl rfl
 (x_getD g fl_RX9_19 rfl ht dX9_passEnd_80 (fun vr12 hvr12 =>
 (x_callVi (As := []) g mv_X6_passSemicolon mi_X6_passSemicolon lk_RX9_77 hvr12 (fun b Mh_ hb => kX6_passSemicolon vr12 M11 hvr12 _ _ hb) rfl rfl hR ⟨Nat.le_of_ble_eq_true rfl, Nat.le_of_ble_eq_true rfl⟩ (Nat.le_of_ble_eq_true rfl) dX9_passEnd_83 (fun v13 M14 =>
 (x_ck (fun hq15 => x_iret g hr (nbz hq15) rfl dX9_passEnd_86))))))))))))))))))))))))))))))))))))))))))))))))))))))
 (fun _ => (x_aload_n g 0 dX9_passEnd_7 rfl rfl
 (x_getD g fl_RX9_19 rfl ht dX9_passEnd_8 (fun vr16 hvr16 =>
 (x_iconst g dX9_passEnd_11 kI_2
 (x_callVi (As := [.int (2 : Int32)]) g mv_X6_refuseToken mi_X6_refuseToken lk_RX9_45 hvr16 (fun b Mh_ hb => kX6_refuseToken vr16 (2 : Int32) M hvr16 _ _ hb) rfl rfl hR ⟨Nat.le_of_ble_eq_true rfl, Nat.le_of_ble_eq_true rfl⟩ (Nat.le_of_ble_eq_true rfl) dX9_passEnd_12 (fun v17 M18 =>
 (x_ck (fun hq19 => x_iret g hr (nbz hq19) rfl dX9_passEnd_15))))))))))))
def fX9_isDoing (a1 : Int32) (M : Mem) : Option Int32 :=
  if a1 = (13 : Int32) then
 some (1 : Int32)
 else
 if a1 = (14 : Int32) then
 some (1 : Int32)
 else
 if a1 = (15 : Int32) then
 some (1 : Int32)
 else
 if a1 = (16 : Int32) then
 some (1 : Int32)
 else
 if a1 = (23 : Int32) then
 some (1 : Int32)
 else
 some (0 : Int32)
set_option maxRecDepth 100000 in
set_option maxHeartbeats 4000000 in
theorem kX9_isDoing (a1 : Int32) (M : Mem) (l : Launch) (G : GT) {b : Int32} (hE : fX9_isDoing a1 M = some b) : Ok l G yX9_isDoing cX9_isDoing 1 (some .boolean) 0 0 [.int a1] M ((fun b : Int32 => (some (Value.int b), M)) b).1 ((fun b : Int32 => (some (Value.int b), M)) b).2 := by
  refine Ok.ofX (pj := (fun b : Int32 => (some (Value.int b), M))) (by decide) (Nat.le_of_ble_eq_true rfl) hE (fun J g hr hG hl hR hn => ?_)
  show X J (fun b : Int32 => (some (Value.int b), M)) (fX9_isDoing a1 M) 0 [(0, .int a1)] [] M
  unfold fX9_isDoing
  exact (x_iload_n g 0 dX9_isDoing_0 rfl rfl
 (x_bipush g dX9_isDoing_1 kB_13
 (x_icmp_eq g 30 dX9_isDoing_3 rfl
 (fun _ => (x_iconst g dX9_isDoing_30 kI_1
 (x_goto g 35 dX9_isDoing_31 rfl
 (x_iret g hr rfl rfl dX9_isDoing_35))))
 (fun _ => (x_iload_n g 0 dX9_isDoing_6 rfl rfl
 (x_bipush g dX9_isDoing_7 kB_14
 (x_icmp_eq g 30 dX9_isDoing_9 rfl
 (fun _ => (x_iconst g dX9_isDoing_30 kI_1
 (x_goto g 35 dX9_isDoing_31 rfl
 (x_iret g hr rfl rfl dX9_isDoing_35))))
 (fun _ => (x_iload_n g 0 dX9_isDoing_12 rfl rfl
 (x_bipush g dX9_isDoing_13 kB_15
 (x_icmp_eq g 30 dX9_isDoing_15 rfl
 (fun _ => (x_iconst g dX9_isDoing_30 kI_1
 (x_goto g 35 dX9_isDoing_31 rfl
 (x_iret g hr rfl rfl dX9_isDoing_35))))
 (fun _ => (x_iload_n g 0 dX9_isDoing_18 rfl rfl
 (x_bipush g dX9_isDoing_19 kB_16
 (x_icmp_eq g 30 dX9_isDoing_21 rfl
 (fun _ => (x_iconst g dX9_isDoing_30 kI_1
 (x_goto g 35 dX9_isDoing_31 rfl
 (x_iret g hr rfl rfl dX9_isDoing_35))))
 (fun _ => (x_iload_n g 0 dX9_isDoing_24 rfl rfl
 (x_bipush g dX9_isDoing_25 kB_23
 (x_icmp_ne g 34 dX9_isDoing_27 rfl
 (fun _ => (x_iconst g dX9_isDoing_34 kI_0
 (x_iret g hr rfl rfl dX9_isDoing_35)))
 (fun _ => (x_iconst g dX9_isDoing_30 kI_1
 (x_goto g 35 dX9_isDoing_31 rfl
 (x_iret g hr rfl rfl dX9_isDoing_35)))))))))))))))))))))))
def fX8_isFull (t : Nat) (M : Mem) : Option Int32 :=
  if (M.1 t 1) < (30 : Int32) then
 some (0 : Int32)
 else
 some (1 : Int32)
set_option maxRecDepth 100000 in
set_option maxHeartbeats 4000000 in
theorem kX8_isFull (t : Nat) (M : Mem) (ht : isO 8 t) (l : Launch) (G : GT) {b : Int32} (hE : fX8_isFull t M = some b) : Ok l G yX8_isFull cX8_isFull 1 (some .boolean) 0 0 [.ref t] M ((fun b : Int32 => (some (Value.int b), M)) b).1 ((fun b : Int32 => (some (Value.int b), M)) b).2 := by
  refine Ok.ofX (pj := (fun b : Int32 => (some (Value.int b), M))) (by decide) (Nat.le_of_ble_eq_true rfl) hE (fun J g hr hG hl hR hn => ?_)
  show X J (fun b : Int32 => (some (Value.int b), M)) (fX8_isFull t M) 0 [(0, .ref t)] [] M
  unfold fX8_isFull
  exact (x_aload_n g 0 dX8_isFull_0 rfl rfl
 (x_getI g fl_RX8_15 rfl ht dX8_isFull_1
 (x_bipush g dX8_isFull_4 kB_30
 (x_icmp_lt g 13 dX8_isFull_6 rfl
 (fun _ => (x_iconst g dX8_isFull_13 kI_0
 (x_iret g hr rfl rfl dX8_isFull_14)))
 (fun _ => (x_iconst g dX8_isFull_9 kI_1
 (x_goto g 14 dX8_isFull_10 rfl
 (x_iret g hr rfl rfl dX8_isFull_14))))))))
def fX9_passNameOf (t : Nat) (a1 : Int32) (M : Mem) : Option (Int32 × Mem) :=
  if a1 = (-1 : Int32) then
 (ldr 6 (M.2.2 t 2)).bind fun vr4 =>
 (ldr 6 (M.2.2 t 2)).bind fun vr5 =>
 (fX6_nameFault vr5 M).bind fun v6 =>
 bd (fX6_refuseToken vr4 v6 M) fun v7 M8 =>
 if v7 = 0 ∨ v7 = 1 then some (v7, M8) else none
 else
 (ldr 6 (M.2.2 t 2)).bind fun vr1 =>
 bd (fX6_goOn vr1 M) fun vu2 M3 =>
 some ((1 : Int32), M3)
set_option maxRecDepth 100000 in
set_option maxHeartbeats 4000000 in
theorem kX9_passNameOf (t : Nat) (a1 : Int32) (M : Mem) (ht : isO 9 t) (l : Launch) (G : GT) {b : (Int32 × Mem)} (hE : fX9_passNameOf t a1 M = some b) : Ok l G yX9_passNameOf cX9_passNameOf 2 (some .boolean) 2 40 [.ref t, .int a1] M ((fun q : Int32 × Mem => (some (Value.int q.1), q.2)) b).1 ((fun q : Int32 × Mem => (some (Value.int q.1), q.2)) b).2 := by
  refine Ok.ofX (pj := (fun q : Int32 × Mem => (some (Value.int q.1), q.2))) (by decide) (Nat.le_of_ble_eq_true rfl) hE (fun J g hr hG hl hR hn => ?_)
  show X J (fun q : Int32 × Mem => (some (Value.int q.1), q.2)) (fX9_passNameOf t a1 M) 0 [(0, .ref t), (1, .int a1)] [] M
  unfold fX9_passNameOf
  exact (x_iload_n g 1 dX9_passNameOf_0 rfl rfl
 (x_iconst g dX9_passNameOf_1 kI_m1
 (x_icmp_ne g 20 dX9_passNameOf_2 rfl
 (fun _ => (x_aload_n g 0 dX9_passNameOf_20 rfl rfl
 (x_getD g fl_RX9_19 rfl ht dX9_passNameOf_21 (fun vr1 hvr1 =>
 (x_callVv (As := []) g mv_X6_goOn mi_X6_goOn lk_RX9_66 hvr1 (fun b Mh_ hb => kX6_goOn vr1 M hvr1 _ _ hb) rfl rfl hR ⟨Nat.le_of_ble_eq_true rfl, Nat.le_of_ble_eq_true rfl⟩ (Nat.le_of_ble_eq_true rfl) dX9_passNameOf_24 (fun vu2 M3 =>
 (x_iconst g dX9_passNameOf_27 kI_1
 (x_iret g hr rfl rfl dX9_passNameOf_28))))))))
 (fun _ => (x_aload_n g 0 dX9_passNameOf_5 rfl rfl
 (x_getD g fl_RX9_19 rfl ht dX9_passNameOf_6 (fun vr4 hvr4 =>
 (x_aload_n g 0 dX9_passNameOf_9 rfl rfl
 (x_getD g fl_RX9_19 rfl ht dX9_passNameOf_10 (fun vr5 hvr5 =>
 (x_callVip (As := []) g mv_X6_nameFault mi_X6_nameFault lk_RX9_124 hvr5 (fun b hb => kX6_nameFault vr5 M hvr5 _ _ hb) rfl rfl hR ⟨Nat.le_of_ble_eq_true rfl, Nat.le_of_ble_eq_true rfl⟩ (Nat.le_of_ble_eq_true rfl) dX9_passNameOf_13 (fun v6 =>
 (x_callVi (As := [.int v6]) g mv_X6_refuseToken mi_X6_refuseToken lk_RX9_45 hvr4 (fun b Mh_ hb => kX6_refuseToken vr4 v6 M hvr4 _ _ hb) rfl rfl hR ⟨Nat.le_of_ble_eq_true rfl, Nat.le_of_ble_eq_true rfl⟩ (Nat.le_of_ble_eq_true rfl) dX9_passNameOf_16 (fun v7 M8 =>
 (x_ck (fun hq9 => x_iret g hr (nbz hq9) rfl dX9_passNameOf_19))))))))))))))))
def fX9_passHole (φ : Nat) (t : Nat) (a1 : Int32) (M : Mem) : Option (Int32 × Mem) :=
  (ldr 8 (M.2.2 t 4)).bind fun vr1 =>
 (ldr 2 (M.2.2 t 3)).bind fun vr2 =>
 (ldr 6 (M.2.2 t 2)).bind fun vr3 =>
 (fX6_name vr3 M).bind fun vz4 =>
 (fX2_holeNamed φ vr2 vz4 M).bind fun v5 =>
 ixk a1 60 (nm (stI M (vr1 + 2) a1.toNatClampNeg v5) (fun M6 =>
 (ldr 8 (M6.2.2 t 4)).bind fun vr7 =>
 ixk a1 60 (
 bd (fX9_passNameOf t (M6.1 (vr7 + 2) a1.toNatClampNeg) M6) fun v8 M9 =>
 if v8 = 0 ∨ v8 = 1 then some (v8, M9) else none)))
set_option maxRecDepth 100000 in
set_option maxHeartbeats 4000000 in
theorem kX9_passHole (φ : Nat) (t : Nat) (a1 : Int32) (M : Mem) (ht : isO 9 t) (l : Launch) (G : GT) {b : (Int32 × Mem)} (hE : fX9_passHole φ t a1 M = some b) : Ok l G yX9_passHole cX9_passHole 2 (some .boolean) 3 61 [.ref t, .int a1] M ((fun q : Int32 × Mem => (some (Value.int q.1), q.2)) b).1 ((fun q : Int32 × Mem => (some (Value.int q.1), q.2)) b).2 := by
  refine Ok.ofX (pj := (fun q : Int32 × Mem => (some (Value.int q.1), q.2))) (by decide) (Nat.le_of_ble_eq_true rfl) hE (fun J g hr hG hl hR hn => ?_)
  show X J (fun q : Int32 × Mem => (some (Value.int q.1), q.2)) (fX9_passHole φ t a1 M) 0 [(0, .ref t), (1, .int a1)] [] M
  unfold fX9_passHole
  exact (x_aload_n g 0 dX9_passHole_0 rfl rfl
 (x_getD g fl_RX9_27 rfl ht dX9_passHole_1 (fun vr1 hvr1 =>
 (x_getS g 2 fl_RX9_99 rfl hvr1 dX9_passHole_4
 (x_iload_n g 1 dX9_passHole_7 rfl rfl
 (x_aload_n g 0 dX9_passHole_8 rfl rfl
 (x_getD g fl_RX9_23 rfl ht dX9_passHole_9 (fun vr2 hvr2 =>
 (x_aload_n g 0 dX9_passHole_12 rfl rfl
 (x_getD g fl_RX9_19 rfl ht dX9_passHole_13 (fun vr3 hvr3 =>
 (x_callVlp (As := []) g mv_X6_name mi_X6_name lk_RX9_102 hvr3 (fun b hb => kX6_name vr3 M hvr3 _ _ hb) rfl rfl hR ⟨Nat.le_of_ble_eq_true rfl, Nat.le_of_ble_eq_true rfl⟩ (Nat.le_of_ble_eq_true rfl) dX9_passHole_16 (fun vz4 =>
 (x_callVip (As := [.long vz4]) g mv_X2_holeNamed mi_X2_holeNamed lk_RX9_106 hvr2 (fun b hb => kX2_holeNamed φ vr2 vz4 M hvr2 _ _ hb) rfl rfl hR ⟨Nat.le_of_ble_eq_true rfl, Nat.le_of_ble_eq_true rfl⟩ (Nat.le_of_ble_eq_true rfl) dX9_passHole_19 (fun v5 =>
 (x_iast g (so_8_4 hvr1) dX9_passHole_22 (x_nmM (fun M6 =>
 (x_aload_n g 0 dX9_passHole_23 rfl rfl
 (x_aload_n g 0 dX9_passHole_24 rfl rfl
 (x_getD g fl_RX9_27 rfl ht dX9_passHole_25 (fun vr7 hvr7 =>
 (x_getS g 2 fl_RX9_99 rfl hvr7 dX9_passHole_28
 (x_iload_n g 1 dX9_passHole_31 rfl rfl
 (x_iald g (so_8_4 hvr7) dX9_passHole_32
 (x_callVi (As := [.int (M6.1 (vr7 + 2) a1.toNatClampNeg)]) g mv_X9_passNameOf mi_X9_passNameOf lk_RX9_112 ht (fun b Mh_ hb => kX9_passNameOf t (M6.1 (vr7 + 2) a1.toNatClampNeg) M6 ht _ _ hb) rfl rfl hR ⟨Nat.le_of_ble_eq_true rfl, Nat.le_of_ble_eq_true rfl⟩ (Nat.le_of_ble_eq_true rfl) dX9_passHole_33 (fun v8 M9 =>
 (x_ck (fun hq10 => x_iret g hr (nbz hq10) rfl dX9_passHole_36)))))))))))))))))))))))))))))
def fX9_passRock (φ : Nat) (t : Nat) (a1 : Int32) (M : Mem) : Option (Int32 × Mem) :=
  (ldr 8 (M.2.2 t 4)).bind fun vr1 =>
 (ldr 2 (M.2.2 t 3)).bind fun vr2 =>
 (ldr 6 (M.2.2 t 2)).bind fun vr3 =>
 (fX6_name vr3 M).bind fun vz4 =>
 (fX2_rockNamed φ vr2 vz4 M).bind fun v5 =>
 ixk a1 60 (nm (stI M (vr1 + 3) a1.toNatClampNeg v5) (fun M6 =>
 (ldr 8 (M6.2.2 t 4)).bind fun vr7 =>
 ixk a1 60 (
 bd (fX9_passNameOf t (M6.1 (vr7 + 3) a1.toNatClampNeg) M6) fun v8 M9 =>
 if v8 = 0 ∨ v8 = 1 then some (v8, M9) else none)))
set_option maxRecDepth 100000 in
set_option maxHeartbeats 4000000 in
theorem kX9_passRock (φ : Nat) (t : Nat) (a1 : Int32) (M : Mem) (ht : isO 9 t) (l : Launch) (G : GT) {b : (Int32 × Mem)} (hE : fX9_passRock φ t a1 M = some b) : Ok l G yX9_passRock cX9_passRock 2 (some .boolean) 3 61 [.ref t, .int a1] M ((fun q : Int32 × Mem => (some (Value.int q.1), q.2)) b).1 ((fun q : Int32 × Mem => (some (Value.int q.1), q.2)) b).2 := by
  refine Ok.ofX (pj := (fun q : Int32 × Mem => (some (Value.int q.1), q.2))) (by decide) (Nat.le_of_ble_eq_true rfl) hE (fun J g hr hG hl hR hn => ?_)
  show X J (fun q : Int32 × Mem => (some (Value.int q.1), q.2)) (fX9_passRock φ t a1 M) 0 [(0, .ref t), (1, .int a1)] [] M
  unfold fX9_passRock
  exact (x_aload_n g 0 dX9_passRock_0 rfl rfl
 (x_getD g fl_RX9_27 rfl ht dX9_passRock_1 (fun vr1 hvr1 =>
 (x_getS g 3 fl_RX9_115 rfl hvr1 dX9_passRock_4
 (x_iload_n g 1 dX9_passRock_7 rfl rfl
 (x_aload_n g 0 dX9_passRock_8 rfl rfl
 (x_getD g fl_RX9_23 rfl ht dX9_passRock_9 (fun vr2 hvr2 =>
 (x_aload_n g 0 dX9_passRock_12 rfl rfl
 (x_getD g fl_RX9_19 rfl ht dX9_passRock_13 (fun vr3 hvr3 =>
 (x_callVlp (As := []) g mv_X6_name mi_X6_name lk_RX9_102 hvr3 (fun b hb => kX6_name vr3 M hvr3 _ _ hb) rfl rfl hR ⟨Nat.le_of_ble_eq_true rfl, Nat.le_of_ble_eq_true rfl⟩ (Nat.le_of_ble_eq_true rfl) dX9_passRock_16 (fun vz4 =>
 (x_callVip (As := [.long vz4]) g mv_X2_rockNamed mi_X2_rockNamed lk_RX9_118 hvr2 (fun b hb => kX2_rockNamed φ vr2 vz4 M hvr2 _ _ hb) rfl rfl hR ⟨Nat.le_of_ble_eq_true rfl, Nat.le_of_ble_eq_true rfl⟩ (Nat.le_of_ble_eq_true rfl) dX9_passRock_19 (fun v5 =>
 (x_iast g (so_8_5 hvr1) dX9_passRock_22 (x_nmM (fun M6 =>
 (x_aload_n g 0 dX9_passRock_23 rfl rfl
 (x_aload_n g 0 dX9_passRock_24 rfl rfl
 (x_getD g fl_RX9_27 rfl ht dX9_passRock_25 (fun vr7 hvr7 =>
 (x_getS g 3 fl_RX9_115 rfl hvr7 dX9_passRock_28
 (x_iload_n g 1 dX9_passRock_31 rfl rfl
 (x_iald g (so_8_5 hvr7) dX9_passRock_32
 (x_callVi (As := [.int (M6.1 (vr7 + 3) a1.toNatClampNeg)]) g mv_X9_passNameOf mi_X9_passNameOf lk_RX9_112 ht (fun b Mh_ hb => kX9_passNameOf t (M6.1 (vr7 + 3) a1.toNatClampNeg) M6 ht _ _ hb) rfl rfl hR ⟨Nat.le_of_ble_eq_true rfl, Nat.le_of_ble_eq_true rfl⟩ (Nat.le_of_ble_eq_true rfl) dX9_passRock_33 (fun v8 M9 =>
 (x_ck (fun hq10 => x_iret g hr (nbz hq10) rfl dX9_passRock_36)))))))))))))))))))))))))))))
def fX9_passNumber (t : Nat) (a1 : Int32) (a2 : Int32) (a3 : Int32) (M : Mem) : Option (Int32 × Mem) :=
  (ldr 8 (M.2.2 t 4)).bind fun vr1 =>
 (ldr 6 (M.2.2 t 2)).bind fun vr2 =>
 (fX6_value vr2 M).bind fun v3 =>
 ixk a1 60 (nm (stI M (vr1 + 4) a1.toNatClampNeg v3) (fun M4 =>
 (ldr 6 (M4.2.2 t 2)).bind fun vr5 =>
 bd (fX6_passNumber vr5 a2 a3 M4) fun v6 M7 =>
 if v6 = 0 ∨ v6 = 1 then some (v6, M7) else none))
set_option maxRecDepth 100000 in
set_option maxHeartbeats 4000000 in
theorem kX9_passNumber (t : Nat) (a1 : Int32) (a2 : Int32) (a3 : Int32) (M : Mem) (ht : isO 9 t) (l : Launch) (G : GT) {b : (Int32 × Mem)} (hE : fX9_passNumber t a1 a2 a3 M = some b) : Ok l G yX9_passNumber cX9_passNumber 4 (some .boolean) 2 44 [.ref t, .int a1, .int a2, .int a3] M ((fun q : Int32 × Mem => (some (Value.int q.1), q.2)) b).1 ((fun q : Int32 × Mem => (some (Value.int q.1), q.2)) b).2 := by
  refine Ok.ofX (pj := (fun q : Int32 × Mem => (some (Value.int q.1), q.2))) (by decide) (Nat.le_of_ble_eq_true rfl) hE (fun J g hr hG hl hR hn => ?_)
  show X J (fun q : Int32 × Mem => (some (Value.int q.1), q.2)) (fX9_passNumber t a1 a2 a3 M) 0 [(0, .ref t), (1, .int a1), (2, .int a2), (3, .int a3)] [] M
  unfold fX9_passNumber
  exact (x_aload_n g 0 dX9_passNumber_0 rfl rfl
 (x_getD g fl_RX9_27 rfl ht dX9_passNumber_1 (fun vr1 hvr1 =>
 (x_getS g 4 fl_RX9_127 rfl hvr1 dX9_passNumber_4
 (x_iload_n g 1 dX9_passNumber_7 rfl rfl
 (x_aload_n g 0 dX9_passNumber_8 rfl rfl
 (x_getD g fl_RX9_19 rfl ht dX9_passNumber_9 (fun vr2 hvr2 =>
 (x_callVip (As := []) g mv_X6_value mi_X6_value lk_RX9_130 hvr2 (fun b hb => kX6_value vr2 M hvr2 _ _ hb) rfl rfl hR ⟨Nat.le_of_ble_eq_true rfl, Nat.le_of_ble_eq_true rfl⟩ (Nat.le_of_ble_eq_true rfl) dX9_passNumber_12 (fun v3 =>
 (x_iast g (so_8_6 hvr1) dX9_passNumber_15 (x_nmM (fun M4 =>
 (x_aload_n g 0 dX9_passNumber_16 rfl rfl
 (x_getD g fl_RX9_19 rfl ht dX9_passNumber_17 (fun vr5 hvr5 =>
 (x_iload_n g 2 dX9_passNumber_20 rfl rfl
 (x_iload_n g 3 dX9_passNumber_21 rfl rfl
 (x_callVi (As := [.int a2, .int a3]) g mv_X6_passNumber mi_X6_passNumber lk_RX9_133 hvr5 (fun b Mh_ hb => kX6_passNumber vr5 a2 a3 M4 hvr5 _ _ hb) rfl rfl hR ⟨Nat.le_of_ble_eq_true rfl, Nat.le_of_ble_eq_true rfl⟩ (Nat.le_of_ble_eq_true rfl) dX9_passNumber_22 (fun v6 M7 =>
 (x_ck (fun hq8 => x_iret g hr (nbz hq8) rfl dX9_passNumber_25))))))))))))))))))))))
def fX9_passFault (φ : Nat) (t : Nat) (a1 : Int32) (M : Mem) : Option (Int32 × Mem) :=
  (ldr 8 (M.2.2 t 4)).bind fun vr1 =>
 (ldr 2 (M.2.2 t 3)).bind fun vr2 =>
 (ldr 6 (M.2.2 t 2)).bind fun vr3 =>
 (fX6_name vr3 M).bind fun vz4 =>
 (fX2_faultNamed φ vr2 vz4 M).bind fun v5 =>
 ixk a1 60 (nm (stI M (vr1 + 2) a1.toNatClampNeg v5) (fun M6 =>
 (ldr 8 (M6.2.2 t 4)).bind fun vr7 =>
 ixk a1 60 (
 bd (fX9_passNameOf t (M6.1 (vr7 + 2) a1.toNatClampNeg) M6) fun v8 M9 =>
 if v8 = 0 ∨ v8 = 1 then some (v8, M9) else none)))
set_option maxRecDepth 100000 in
set_option maxHeartbeats 4000000 in
theorem kX9_passFault (φ : Nat) (t : Nat) (a1 : Int32) (M : Mem) (ht : isO 9 t) (l : Launch) (G : GT) {b : (Int32 × Mem)} (hE : fX9_passFault φ t a1 M = some b) : Ok l G yX9_passFault cX9_passFault 2 (some .boolean) 3 61 [.ref t, .int a1] M ((fun q : Int32 × Mem => (some (Value.int q.1), q.2)) b).1 ((fun q : Int32 × Mem => (some (Value.int q.1), q.2)) b).2 := by
  refine Ok.ofX (pj := (fun q : Int32 × Mem => (some (Value.int q.1), q.2))) (by decide) (Nat.le_of_ble_eq_true rfl) hE (fun J g hr hG hl hR hn => ?_)
  show X J (fun q : Int32 × Mem => (some (Value.int q.1), q.2)) (fX9_passFault φ t a1 M) 0 [(0, .ref t), (1, .int a1)] [] M
  unfold fX9_passFault
  exact (x_aload_n g 0 dX9_passFault_0 rfl rfl
 (x_getD g fl_RX9_27 rfl ht dX9_passFault_1 (fun vr1 hvr1 =>
 (x_getS g 2 fl_RX9_99 rfl hvr1 dX9_passFault_4
 (x_iload_n g 1 dX9_passFault_7 rfl rfl
 (x_aload_n g 0 dX9_passFault_8 rfl rfl
 (x_getD g fl_RX9_23 rfl ht dX9_passFault_9 (fun vr2 hvr2 =>
 (x_aload_n g 0 dX9_passFault_12 rfl rfl
 (x_getD g fl_RX9_19 rfl ht dX9_passFault_13 (fun vr3 hvr3 =>
 (x_callVlp (As := []) g mv_X6_name mi_X6_name lk_RX9_102 hvr3 (fun b hb => kX6_name vr3 M hvr3 _ _ hb) rfl rfl hR ⟨Nat.le_of_ble_eq_true rfl, Nat.le_of_ble_eq_true rfl⟩ (Nat.le_of_ble_eq_true rfl) dX9_passFault_16 (fun vz4 =>
 (x_callVip (As := [.long vz4]) g mv_X2_faultNamed mi_X2_faultNamed lk_RX9_121 hvr2 (fun b hb => kX2_faultNamed φ vr2 vz4 M hvr2 _ _ hb) rfl rfl hR ⟨Nat.le_of_ble_eq_true rfl, Nat.le_of_ble_eq_true rfl⟩ (Nat.le_of_ble_eq_true rfl) dX9_passFault_19 (fun v5 =>
 (x_iast g (so_8_4 hvr1) dX9_passFault_22 (x_nmM (fun M6 =>
 (x_aload_n g 0 dX9_passFault_23 rfl rfl
 (x_aload_n g 0 dX9_passFault_24 rfl rfl
 (x_getD g fl_RX9_27 rfl ht dX9_passFault_25 (fun vr7 hvr7 =>
 (x_getS g 2 fl_RX9_99 rfl hvr7 dX9_passFault_28
 (x_iload_n g 1 dX9_passFault_31 rfl rfl
 (x_iald g (so_8_4 hvr7) dX9_passFault_32
 (x_callVi (As := [.int (M6.1 (vr7 + 2) a1.toNatClampNeg)]) g mv_X9_passNameOf mi_X9_passNameOf lk_RX9_112 ht (fun b Mh_ hb => kX9_passNameOf t (M6.1 (vr7 + 2) a1.toNatClampNeg) M6 ht _ _ hb) rfl rfl hR ⟨Nat.le_of_ble_eq_true rfl, Nat.le_of_ble_eq_true rfl⟩ (Nat.le_of_ble_eq_true rfl) dX9_passFault_33 (fun v8 M9 =>
 (x_ck (fun hq10 => x_iret g hr (nbz hq10) rfl dX9_passFault_36)))))))))))))))))))))))))))))
def fX9_passComparison (t : Nat) (a1 : Int32) (M : Mem) : Option (Int32 × Mem) :=
  (ldr 6 (M.2.2 t 2)).bind fun vr1 =>
 (fX6_isSign vr1 (60 : Int32) M).bind fun v2 =>
 jn ((ldr 8 (M.2.2 t 4)).bind fun vr4 =>
 (ldr 6 (M.2.2 t 2)).bind fun vr5 =>
 (fX6_value vr5 M).bind fun v6 =>
 ixk a1 60 (nm (stI M (vr4 + 3) a1.toNatClampNeg v6) (fun M7 =>
 (ldr 6 (M7.2.2 t 2)).bind fun vr8 =>
 bd (fX6_goOn vr8 M7) fun vu9 M10 =>
 some ((1 : Int32), M10)))) (fun J3 => if v2 = 0 then
 (ldr 6 (M.2.2 t 2)).bind fun vr11 =>
 (fX6_isSign vr11 (62 : Int32) M).bind fun v12 =>
 if v12 = 0 then
 (ldr 6 (M.2.2 t 2)).bind fun vr13 =>
 (fX6_isSign vr13 (61 : Int32) M).bind fun v14 =>
 if v14 = 0 then
 (ldr 6 (M.2.2 t 2)).bind fun vr15 =>
 bd (fX6_refuseToken vr15 (2 : Int32) M) fun v16 M17 =>
 if v16 = 0 ∨ v16 = 1 then some (v16, M17) else none
 else
 J3
 else
 J3
 else
 J3)
set_option maxRecDepth 100000 in
set_option maxHeartbeats 4000000 in
theorem kX9_passComparison (t : Nat) (a1 : Int32) (M : Mem) (ht : isO 9 t) (l : Launch) (G : GT) {b : (Int32 × Mem)} (hE : fX9_passComparison t a1 M = some b) : Ok l G yX9_passComparison cX9_passComparison 2 (some .boolean) 1 21 [.ref t, .int a1] M ((fun q : Int32 × Mem => (some (Value.int q.1), q.2)) b).1 ((fun q : Int32 × Mem => (some (Value.int q.1), q.2)) b).2 := by
  refine Ok.ofX (pj := (fun q : Int32 × Mem => (some (Value.int q.1), q.2))) (by decide) (Nat.le_of_ble_eq_true rfl) hE (fun J g hr hG hl hR hn => ?_)
  show X J (fun q : Int32 × Mem => (some (Value.int q.1), q.2)) (fX9_passComparison t a1 M) 0 [(0, .ref t), (1, .int a1)] [] M
  unfold fX9_passComparison
  exact (x_aload_n g 0 dX9_passComparison_0 rfl rfl
 (x_getD g fl_RX9_19 rfl ht dX9_passComparison_1 (fun vr1 hvr1 =>
 (x_bipush g dX9_passComparison_4 kB_60
 (x_callVip (As := [.int (60 : Int32)]) g mv_X6_isSign mi_X6_isSign lk_RX9_135 hvr1 (fun b hb => kX6_isSign vr1 (60 : Int32) M hvr1 _ _ hb) rfl rfl hR ⟨Nat.le_of_ble_eq_true rfl, Nat.le_of_ble_eq_true rfl⟩ (Nat.le_of_ble_eq_true rfl) dX9_passComparison_6 (fun v2 =>
 (x_jn (fun (J3 : Option (Int32 × Mem)) => X J (fun q : Int32 × Mem => (some (Value.int q.1), q.2)) J3 45 [(0, .ref t), (1, .int a1)] [] M) (x_aload_n g 0 dX9_passComparison_45 rfl rfl
 (x_getD g fl_RX9_27 rfl ht dX9_passComparison_46 (fun vr4 hvr4 =>
 (x_getS g 3 fl_RX9_115 rfl hvr4 dX9_passComparison_49
 (x_iload_n g 1 dX9_passComparison_52 rfl rfl
 (x_aload_n g 0 dX9_passComparison_53 rfl rfl
 (x_getD g fl_RX9_19 rfl ht dX9_passComparison_54 (fun vr5 hvr5 =>
 (x_callVip (As := []) g mv_X6_value mi_X6_value lk_RX9_130 hvr5 (fun b hb => kX6_value vr5 M hvr5 _ _ hb) rfl rfl hR ⟨Nat.le_of_ble_eq_true rfl, Nat.le_of_ble_eq_true rfl⟩ (Nat.le_of_ble_eq_true rfl) dX9_passComparison_57 (fun v6 =>
 (x_iast g (so_8_5 hvr4) dX9_passComparison_60 (x_nmM (fun M7 =>
 (x_aload_n g 0 dX9_passComparison_61 rfl rfl
 (x_getD g fl_RX9_19 rfl ht dX9_passComparison_62 (fun vr8 hvr8 =>
 (x_callVv (As := []) g mv_X6_goOn mi_X6_goOn lk_RX9_66 hvr8 (fun b Mh_ hb => kX6_goOn vr8 M7 hvr8 _ _ hb) rfl rfl hR ⟨Nat.le_of_ble_eq_true rfl, Nat.le_of_ble_eq_true rfl⟩ (Nat.le_of_ble_eq_true rfl) dX9_passComparison_65 (fun vu9 M10 =>
 (x_iconst g dX9_passComparison_68 kI_1
 (x_iret g hr rfl rfl dX9_passComparison_69)))))))))))))))))))) (fun J3 hJ3 => (x_if_ne g 45 dX9_passComparison_9 rfl
 (fun _ => (hJ3))
 (fun _ => (x_aload_n g 0 dX9_passComparison_12 rfl rfl
 (x_getD g fl_RX9_19 rfl ht dX9_passComparison_13 (fun vr11 hvr11 =>
 (x_bipush g dX9_passComparison_16 kB_62
 (x_callVip (As := [.int (62 : Int32)]) g mv_X6_isSign mi_X6_isSign lk_RX9_135 hvr11 (fun b hb => kX6_isSign vr11 (62 : Int32) M hvr11 _ _ hb) rfl rfl hR ⟨Nat.le_of_ble_eq_true rfl, Nat.le_of_ble_eq_true rfl⟩ (Nat.le_of_ble_eq_true rfl) dX9_passComparison_18 (fun v12 =>
 (x_if_ne g 45 dX9_passComparison_21 rfl
 (fun _ => (hJ3))
 (fun _ => (x_aload_n g 0 dX9_passComparison_24 rfl rfl
 (x_getD g fl_RX9_19 rfl ht dX9_passComparison_25 (fun vr13 hvr13 =>
 (x_bipush g dX9_passComparison_28 kB_61
 (x_callVip (As := [.int (61 : Int32)]) g mv_X6_isSign mi_X6_isSign lk_RX9_135 hvr13 (fun b hb => kX6_isSign vr13 (61 : Int32) M hvr13 _ _ hb) rfl rfl hR ⟨Nat.le_of_ble_eq_true rfl, Nat.le_of_ble_eq_true rfl⟩ (Nat.le_of_ble_eq_true rfl) dX9_passComparison_30 (fun v14 =>
 (x_if_ne g 45 dX9_passComparison_33 rfl
 (fun _ => (hJ3))
 (fun _ => (x_aload_n g 0 dX9_passComparison_36 rfl rfl
 (x_getD g fl_RX9_19 rfl ht dX9_passComparison_37 (fun vr15 hvr15 =>
 (x_iconst g dX9_passComparison_40 kI_2
 (x_callVi (As := [.int (2 : Int32)]) g mv_X6_refuseToken mi_X6_refuseToken lk_RX9_45 hvr15 (fun b Mh_ hb => kX6_refuseToken vr15 (2 : Int32) M hvr15 _ _ hb) rfl rfl hR ⟨Nat.le_of_ble_eq_true rfl, Nat.le_of_ble_eq_true rfl⟩ (Nat.le_of_ble_eq_true rfl) dX9_passComparison_41 (fun v16 M17 =>
 (x_ck (fun hq18 => x_iret g hr (nbz hq18) rfl dX9_passComparison_44))))))))))))))))))))))))))))))))))
