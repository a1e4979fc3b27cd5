theorem dX11_area_0 : decode cX11_area 0 = .ok (.aload_n 0, 1) := by decide +kernel
theorem dX11_area_1 : decode cX11_area 1 = .ok (.iload_n 1, 1) := by decide +kernel
theorem dX11_area_2 : decode cX11_area 2 = .ok (.invokevirtual 375, 3) := by decide +kernel
theorem dX11_area_5 : decode cX11_area 5 = .ok (.ifCond .eq 21, 3) := by decide +kernel
theorem dX11_area_8 : decode cX11_area 8 = .ok (.aload_n 0, 1) := by decide +kernel
theorem dX11_area_9 : decode cX11_area 9 = .ok (.aload_n 0, 1) := by decide +kernel
theorem dX11_area_10 : decode cX11_area 10 = .ok (.iload_n 1, 1) := by decide +kernel
theorem dX11_area_11 : decode cX11_area 11 = .ok (.invokevirtual 378, 3) := by decide +kernel
theorem dX11_area_14 : decode cX11_area 14 = .ok (.invokestatic 382, 3) := by decide +kernel
theorem dX11_area_17 : decode cX11_area 17 = .ok (.ldc2_w 385, 3) := by decide +kernel
theorem dX11_area_20 : decode cX11_area 20 = .ok (.invokevirtual 387, 3) := by decide +kernel
theorem dX11_area_23 : decode cX11_area 23 = .ok (.goto 8, 3) := by decide +kernel
theorem dX11_area_26 : decode cX11_area 26 = .ok (.aload_n 0, 1) := by decide +kernel
theorem dX11_area_27 : decode cX11_area 27 = .ok (.iconst 1, 1) := by decide +kernel
theorem dX11_area_28 : decode cX11_area 28 = .ok (.invokevirtual 109, 3) := by decide +kernel
theorem dX11_area_31 : decode cX11_area 31 = .ok (.ireturn, 1) := by decide +kernel
theorem dX11_isAcross_0 : decode cX11_isAcross 0 = .ok (.iconst 0, 1) := by decide +kernel
theorem dX11_isAcross_1 : decode cX11_isAcross 1 = .ok (.istore_n 2, 1) := by decide +kernel
theorem dX11_isAcross_2 : decode cX11_isAcross 2 = .ok (.iload_n 2, 1) := by decide +kernel
theorem dX11_isAcross_3 : decode cX11_isAcross 3 = .ok (.aload_n 0, 1) := by decide +kernel
theorem dX11_isAcross_4 : decode cX11_isAcross 4 = .ok (.getfield 7, 3) := by decide +kernel
theorem dX11_isAcross_7 : decode cX11_isAcross 7 = .ok (.iconst 3, 1) := by decide +kernel
theorem dX11_isAcross_8 : decode cX11_isAcross 8 = .ok (.iaload, 1) := by decide +kernel
theorem dX11_isAcross_9 : decode cX11_isAcross 9 = .ok (.if_icmp .ge 53, 3) := by decide +kernel
theorem dX11_isAcross_12 : decode cX11_isAcross 12 = .ok (.aload_n 0, 1) := by decide +kernel
theorem dX11_isAcross_13 : decode cX11_isAcross 13 = .ok (.iload_n 2, 1) := by decide +kernel
theorem dX11_isAcross_14 : decode cX11_isAcross 14 = .ok (.aload_n 0, 1) := by decide +kernel
theorem dX11_isAcross_15 : decode cX11_isAcross 15 = .ok (.iload_n 1, 1) := by decide +kernel
theorem dX11_isAcross_16 : decode cX11_isAcross 16 = .ok (.iconst 0, 1) := by decide +kernel
theorem dX11_isAcross_17 : decode cX11_isAcross 17 = .ok (.invokevirtual 372, 3) := by decide +kernel
theorem dX11_isAcross_20 : decode cX11_isAcross 20 = .ok (.invokevirtual 293, 3) := by decide +kernel
theorem dX11_isAcross_23 : decode cX11_isAcross 23 = .ok (.istore_n 3, 1) := by decide +kernel
theorem dX11_isAcross_24 : decode cX11_isAcross 24 = .ok (.aload_n 0, 1) := by decide +kernel
theorem dX11_isAcross_25 : decode cX11_isAcross 25 = .ok (.iload_n 2, 1) := by decide +kernel
theorem dX11_isAcross_26 : decode cX11_isAcross 26 = .ok (.aload_n 0, 1) := by decide +kernel
theorem dX11_isAcross_27 : decode cX11_isAcross 27 = .ok (.iload_n 1, 1) := by decide +kernel
theorem dX11_isAcross_28 : decode cX11_isAcross 28 = .ok (.iconst 1, 1) := by decide +kernel
theorem dX11_isAcross_29 : decode cX11_isAcross 29 = .ok (.invokevirtual 372, 3) := by decide +kernel
theorem dX11_isAcross_32 : decode cX11_isAcross 32 = .ok (.invokevirtual 293, 3) := by decide +kernel
theorem dX11_isAcross_35 : decode cX11_isAcross 35 = .ok (.iload_n 3, 1) := by decide +kernel
theorem dX11_isAcross_36 : decode cX11_isAcross 36 = .ok (.if_icmp .ne 18, 3) := by decide +kernel
theorem dX11_isAcross_39 : decode cX11_isAcross 39 = .ok (.aload_n 0, 1) := by decide +kernel
theorem dX11_isAcross_40 : decode cX11_isAcross 40 = .ok (.iload_n 2, 1) := by decide +kernel
theorem dX11_isAcross_41 : decode cX11_isAcross 41 = .ok (.aload_n 0, 1) := by decide +kernel
theorem dX11_isAcross_42 : decode cX11_isAcross 42 = .ok (.iload_n 1, 1) := by decide +kernel
theorem dX11_isAcross_43 : decode cX11_isAcross 43 = .ok (.iconst 2, 1) := by decide +kernel
theorem dX11_isAcross_44 : decode cX11_isAcross 44 = .ok (.invokevirtual 372, 3) := by decide +kernel
theorem dX11_isAcross_47 : decode cX11_isAcross 47 = .ok (.invokevirtual 293, 3) := by decide +kernel
theorem dX11_isAcross_50 : decode cX11_isAcross 50 = .ok (.iload_n 3, 1) := by decide +kernel
theorem dX11_isAcross_51 : decode cX11_isAcross 51 = .ok (.if_icmp .eq 5, 3) := by decide +kernel
theorem dX11_isAcross_54 : decode cX11_isAcross 54 = .ok (.iconst 1, 1) := by decide +kernel
theorem dX11_isAcross_55 : decode cX11_isAcross 55 = .ok (.ireturn, 1) := by decide +kernel
theorem dX11_isAcross_56 : decode cX11_isAcross 56 = .ok (.iinc 2 1, 3) := by decide +kernel
theorem dX11_isAcross_59 : decode cX11_isAcross 59 = .ok (.goto (-57), 3) := by decide +kernel
theorem dX11_isAcross_62 : decode cX11_isAcross 62 = .ok (.iconst 0, 1) := by decide +kernel
theorem dX11_isAcross_63 : decode cX11_isAcross 63 = .ok (.ireturn, 1) := by decide +kernel
theorem dX11_across_0 : decode cX11_across 0 = .ok (.aload_n 0, 1) := by decide +kernel
theorem dX11_across_1 : decode cX11_across 1 = .ok (.iload_n 1, 1) := by decide +kernel
theorem dX11_across_2 : decode cX11_across 2 = .ok (.invokevirtual 375, 3) := by decide +kernel
theorem dX11_across_5 : decode cX11_across 5 = .ok (.ifCond .eq 23, 3) := by decide +kernel
theorem dX11_across_8 : decode cX11_across 8 = .ok (.aload_n 0, 1) := by decide +kernel
theorem dX11_across_9 : decode cX11_across 9 = .ok (.aload_n 0, 1) := by decide +kernel
theorem dX11_across_10 : decode cX11_across 10 = .ok (.iload_n 1, 1) := by decide +kernel
theorem dX11_across_11 : decode cX11_across 11 = .ok (.invokevirtual 391, 3) := by decide +kernel
theorem dX11_across_14 : decode cX11_across 14 = .ok (.ifCond .eq 7, 3) := by decide +kernel
theorem dX11_across_17 : decode cX11_across 17 = .ok (.iconst 1, 1) := by decide +kernel
theorem dX11_across_18 : decode cX11_across 18 = .ok (.goto 4, 3) := by decide +kernel
theorem dX11_across_21 : decode cX11_across 21 = .ok (.iconst 0, 1) := by decide +kernel
theorem dX11_across_22 : decode cX11_across 22 = .ok (.invokevirtual 106, 3) := by decide +kernel
theorem dX11_across_25 : decode cX11_across 25 = .ok (.goto 8, 3) := by decide +kernel
theorem dX11_across_28 : decode cX11_across 28 = .ok (.aload_n 0, 1) := by decide +kernel
theorem dX11_across_29 : decode cX11_across 29 = .ok (.iconst 1, 1) := by decide +kernel
theorem dX11_across_30 : decode cX11_across 30 = .ok (.invokevirtual 102, 3) := by decide +kernel
theorem dX11_across_33 : decode cX11_across 33 = .ok (.ireturn, 1) := by decide +kernel
theorem dX11_isFrom_0 : decode cX11_isFrom 0 = .ok (.lload_n 0, 1) := by decide +kernel
theorem dX11_isFrom_1 : decode cX11_isFrom 1 = .ok (.lload_n 2, 1) := by decide +kernel
theorem dX11_isFrom_2 : decode cX11_isFrom 2 = .ok (.lcmp, 1) := by decide +kernel
theorem dX11_isFrom_3 : decode cX11_isFrom 3 = .ok (.ifCond .lt 14, 3) := by decide +kernel
theorem dX11_isFrom_6 : decode cX11_isFrom 6 = .ok (.lload_n 0, 1) := by decide +kernel
theorem dX11_isFrom_7 : decode cX11_isFrom 7 = .ok (.lload 4, 2) := by decide +kernel
theorem dX11_isFrom_9 : decode cX11_isFrom 9 = .ok (.lcmp, 1) := by decide +kernel
theorem dX11_isFrom_10 : decode cX11_isFrom 10 = .ok (.ifCond .gt 7, 3) := by decide +kernel
theorem dX11_isFrom_13 : decode cX11_isFrom 13 = .ok (.iconst 1, 1) := by decide +kernel
theorem dX11_isFrom_14 : decode cX11_isFrom 14 = .ok (.goto 4, 3) := by decide +kernel
theorem dX11_isFrom_17 : decode cX11_isFrom 17 = .ok (.iconst 0, 1) := by decide +kernel
theorem dX11_isFrom_18 : decode cX11_isFrom 18 = .ok (.ireturn, 1) := by decide +kernel
theorem dX11_isPoint_0 : decode cX11_isPoint 0 = .ok (.iload_n 0, 1) := by decide +kernel
theorem dX11_isPoint_1 : decode cX11_isPoint 1 = .ok (.i2l, 1) := by decide +kernel
theorem dX11_isPoint_2 : decode cX11_isPoint 2 = .ok (.lconst 0, 1) := by decide +kernel
theorem dX11_isPoint_3 : decode cX11_isPoint 3 = .ok (.ldc2_w 397, 3) := by decide +kernel
theorem dX11_isPoint_6 : decode cX11_isPoint 6 = .ok (.invokestatic 399, 3) := by decide +kernel
theorem dX11_isPoint_9 : decode cX11_isPoint 9 = .ok (.ifCond .eq 19, 3) := by decide +kernel
theorem dX11_isPoint_12 : decode cX11_isPoint 12 = .ok (.iload_n 1, 1) := by decide +kernel
theorem dX11_isPoint_13 : decode cX11_isPoint 13 = .ok (.i2l, 1) := by decide +kernel
theorem dX11_isPoint_14 : decode cX11_isPoint 14 = .ok (.lconst 0, 1) := by decide +kernel
theorem dX11_isPoint_15 : decode cX11_isPoint 15 = .ok (.ldc2_w 397, 3) := by decide +kernel
theorem dX11_isPoint_18 : decode cX11_isPoint 18 = .ok (.invokestatic 399, 3) := by decide +kernel
theorem dX11_isPoint_21 : decode cX11_isPoint 21 = .ok (.ifCond .eq 7, 3) := by decide +kernel
theorem dX11_isPoint_24 : decode cX11_isPoint 24 = .ok (.iconst 1, 1) := by decide +kernel
theorem dX11_isPoint_25 : decode cX11_isPoint 25 = .ok (.goto 4, 3) := by decide +kernel
theorem dX11_isPoint_28 : decode cX11_isPoint 28 = .ok (.iconst 0, 1) := by decide +kernel
theorem dX11_isPoint_29 : decode cX11_isPoint 29 = .ok (.ireturn, 1) := by decide +kernel
theorem dX11_weighs_0 : decode cX11_weighs 0 = .ok (.aload_n 0, 1) := by decide +kernel
theorem dX11_weighs_1 : decode cX11_weighs 1 = .ok (.iload_n 1, 1) := by decide +kernel
theorem dX11_weighs_2 : decode cX11_weighs 2 = .ok (.invokevirtual 378, 3) := by decide +kernel
theorem dX11_weighs_5 : decode cX11_weighs 5 = .ok (.lstore 4, 2) := by decide +kernel
theorem dX11_weighs_7 : decode cX11_weighs 7 = .ok (.iconst 1, 1) := by decide +kernel
theorem dX11_weighs_8 : decode cX11_weighs 8 = .ok (.istore 6, 2) := by decide +kernel
theorem dX11_weighs_10 : decode cX11_weighs 10 = .ok (.iconst 0, 1) := by decide +kernel
theorem dX11_weighs_11 : decode cX11_weighs 11 = .ok (.istore 7, 2) := by decide +kernel
theorem dX11_weighs_13 : decode cX11_weighs 13 = .ok (.iload 7, 2) := by decide +kernel
theorem dX11_weighs_15 : decode cX11_weighs 15 = .ok (.iconst 3, 1) := by decide +kernel
theorem dX11_weighs_16 : decode cX11_weighs 16 = .ok (.if_icmp .ge 126, 3) := by decide +kernel
theorem dX11_weighs_19 : decode cX11_weighs 19 = .ok (.aload_n 0, 1) := by decide +kernel
theorem dX11_weighs_20 : decode cX11_weighs 20 = .ok (.iload_n 1, 1) := by decide +kernel
theorem dX11_weighs_21 : decode cX11_weighs 21 = .ok (.iload 7, 2) := by decide +kernel
theorem dX11_weighs_23 : decode cX11_weighs 23 = .ok (.iconst 1, 1) := by decide +kernel
theorem dX11_weighs_24 : decode cX11_weighs 24 = .ok (.iadd, 1) := by decide +kernel
theorem dX11_weighs_25 : decode cX11_weighs 25 = .ok (.iconst 3, 1) := by decide +kernel
theorem dX11_weighs_26 : decode cX11_weighs 26 = .ok (.irem, 1) := by decide +kernel
theorem dX11_weighs_27 : decode cX11_weighs 27 = .ok (.invokevirtual 372, 3) := by decide +kernel
theorem dX11_weighs_30 : decode cX11_weighs 30 = .ok (.invokestatic 280, 3) := by decide +kernel
theorem dX11_weighs_33 : decode cX11_weighs 33 = .ok (.istore 8, 2) := by decide +kernel
theorem dX11_weighs_35 : decode cX11_weighs 35 = .ok (.aload_n 0, 1) := by decide +kernel
theorem dX11_weighs_36 : decode cX11_weighs 36 = .ok (.iload_n 1, 1) := by decide +kernel
theorem dX11_weighs_37 : decode cX11_weighs 37 = .ok (.iload 7, 2) := by decide +kernel
theorem dX11_weighs_39 : decode cX11_weighs 39 = .ok (.iconst 2, 1) := by decide +kernel
theorem dX11_weighs_40 : decode cX11_weighs 40 = .ok (.iadd, 1) := by decide +kernel
theorem dX11_weighs_41 : decode cX11_weighs 41 = .ok (.iconst 3, 1) := by decide +kernel
theorem dX11_weighs_42 : decode cX11_weighs 42 = .ok (.irem, 1) := by decide +kernel
theorem dX11_weighs_43 : decode cX11_weighs 43 = .ok (.invokevirtual 372, 3) := by decide +kernel
theorem dX11_weighs_46 : decode cX11_weighs 46 = .ok (.invokestatic 280, 3) := by decide +kernel
theorem dX11_weighs_49 : decode cX11_weighs 49 = .ok (.istore 9, 2) := by decide +kernel
theorem dX11_weighs_51 : decode cX11_weighs 51 = .ok (.aload_n 0, 1) := by decide +kernel
theorem dX11_weighs_52 : decode cX11_weighs 52 = .ok (.getfield 7, 3) := by decide +kernel
theorem dX11_weighs_55 : decode cX11_weighs 55 = .ok (.iload 8, 2) := by decide +kernel
theorem dX11_weighs_57 : decode cX11_weighs 57 = .ok (.iaload, 1) := by decide +kernel
theorem dX11_weighs_58 : decode cX11_weighs 58 = .ok (.aload_n 0, 1) := by decide +kernel
theorem dX11_weighs_59 : decode cX11_weighs 59 = .ok (.getfield 7, 3) := by decide +kernel
theorem dX11_weighs_62 : decode cX11_weighs 62 = .ok (.iload 8, 2) := by decide +kernel
theorem dX11_weighs_64 : decode cX11_weighs 64 = .ok (.iconst 1, 1) := by decide +kernel
theorem dX11_weighs_65 : decode cX11_weighs 65 = .ok (.iadd, 1) := by decide +kernel
theorem dX11_weighs_66 : decode cX11_weighs 66 = .ok (.iaload, 1) := by decide +kernel
theorem dX11_weighs_67 : decode cX11_weighs 67 = .ok (.aload_n 0, 1) := by decide +kernel
theorem dX11_weighs_68 : decode cX11_weighs 68 = .ok (.getfield 7, 3) := by decide +kernel
theorem dX11_weighs_71 : decode cX11_weighs 71 = .ok (.iload 9, 2) := by decide +kernel
theorem dX11_weighs_73 : decode cX11_weighs 73 = .ok (.iaload, 1) := by decide +kernel
theorem dX11_weighs_74 : decode cX11_weighs 74 = .ok (.aload_n 0, 1) := by decide +kernel
theorem dX11_weighs_75 : decode cX11_weighs 75 = .ok (.getfield 7, 3) := by decide +kernel
theorem dX11_weighs_78 : decode cX11_weighs 78 = .ok (.iload 9, 2) := by decide +kernel
theorem dX11_weighs_80 : decode cX11_weighs 80 = .ok (.iconst 1, 1) := by decide +kernel
theorem dX11_weighs_81 : decode cX11_weighs 81 = .ok (.iadd, 1) := by decide +kernel
theorem dX11_weighs_82 : decode cX11_weighs 82 = .ok (.iaload, 1) := by decide +kernel
theorem dX11_weighs_83 : decode cX11_weighs 83 = .ok (.iload_n 2, 1) := by decide +kernel
theorem dX11_weighs_84 : decode cX11_weighs 84 = .ok (.iload_n 3, 1) := by decide +kernel
theorem dX11_weighs_85 : decode cX11_weighs 85 = .ok (.invokestatic 222, 3) := by decide +kernel
theorem dX11_weighs_88 : decode cX11_weighs 88 = .ok (.lstore 10, 2) := by decide +kernel
theorem dX11_weighs_90 : decode cX11_weighs 90 = .ok (.aload_n 0, 1) := by decide +kernel
theorem dX11_weighs_91 : decode cX11_weighs 91 = .ok (.getfield 78, 3) := by decide +kernel
theorem dX11_weighs_94 : decode cX11_weighs 94 = .ok (.iload 7, 2) := by decide +kernel
theorem dX11_weighs_96 : decode cX11_weighs 96 = .ok (.lload 4, 2) := by decide +kernel
theorem dX11_weighs_98 : decode cX11_weighs 98 = .ok (.lconst 0, 1) := by decide +kernel
theorem dX11_weighs_99 : decode cX11_weighs 99 = .ok (.lcmp, 1) := by decide +kernel
theorem dX11_weighs_100 : decode cX11_weighs 100 = .ok (.ifCond .ge 9, 3) := by decide +kernel
theorem dX11_weighs_103 : decode cX11_weighs 103 = .ok (.lload 10, 2) := by decide +kernel
theorem dX11_weighs_105 : decode cX11_weighs 105 = .ok (.lneg, 1) := by decide +kernel
theorem dX11_weighs_106 : decode cX11_weighs 106 = .ok (.goto 5, 3) := by decide +kernel
theorem dX11_weighs_109 : decode cX11_weighs 109 = .ok (.lload 10, 2) := by decide +kernel
theorem dX11_weighs_111 : decode cX11_weighs 111 = .ok (.lastore, 1) := by decide +kernel
theorem dX11_weighs_112 : decode cX11_weighs 112 = .ok (.iload 6, 2) := by decide +kernel
theorem dX11_weighs_114 : decode cX11_weighs 114 = .ok (.ifCond .eq 19, 3) := by decide +kernel
theorem dX11_weighs_117 : decode cX11_weighs 117 = .ok (.aload_n 0, 1) := by decide +kernel
theorem dX11_weighs_118 : decode cX11_weighs 118 = .ok (.getfield 78, 3) := by decide +kernel
theorem dX11_weighs_121 : decode cX11_weighs 121 = .ok (.iload 7, 2) := by decide +kernel
theorem dX11_weighs_123 : decode cX11_weighs 123 = .ok (.laload, 1) := by decide +kernel
theorem dX11_weighs_124 : decode cX11_weighs 124 = .ok (.lconst 0, 1) := by decide +kernel
theorem dX11_weighs_125 : decode cX11_weighs 125 = .ok (.lcmp, 1) := by decide +kernel
theorem dX11_weighs_126 : decode cX11_weighs 126 = .ok (.ifCond .lt 7, 3) := by decide +kernel
theorem dX11_weighs_129 : decode cX11_weighs 129 = .ok (.iconst 1, 1) := by decide +kernel
theorem dX11_weighs_130 : decode cX11_weighs 130 = .ok (.goto 4, 3) := by decide +kernel
theorem dX11_weighs_133 : decode cX11_weighs 133 = .ok (.iconst 0, 1) := by decide +kernel
theorem dX11_weighs_134 : decode cX11_weighs 134 = .ok (.istore 6, 2) := by decide +kernel
theorem dX11_weighs_136 : decode cX11_weighs 136 = .ok (.iinc 7 1, 3) := by decide +kernel
theorem dX11_weighs_139 : decode cX11_weighs 139 = .ok (.goto (-126), 3) := by decide +kernel
theorem dX11_weighs_142 : decode cX11_weighs 142 = .ok (.iload 6, 2) := by decide +kernel
theorem dX11_weighs_144 : decode cX11_weighs 144 = .ok (.ireturn, 1) := by decide +kernel
theorem dX11_triangleOf_0 : decode cX11_triangleOf 0 = .ok (.iconst 0, 1) := by decide +kernel
theorem dX11_triangleOf_1 : decode cX11_triangleOf 1 = .ok (.istore_n 3, 1) := by decide +kernel
theorem dX11_triangleOf_2 : decode cX11_triangleOf 2 = .ok (.iload_n 3, 1) := by decide +kernel
theorem dX11_triangleOf_3 : decode cX11_triangleOf 3 = .ok (.aload_n 0, 1) := by decide +kernel
theorem dX11_triangleOf_4 : decode cX11_triangleOf 4 = .ok (.getfield 7, 3) := by decide +kernel
theorem dX11_triangleOf_7 : decode cX11_triangleOf 7 = .ok (.iconst 2, 1) := by decide +kernel
theorem dX11_triangleOf_8 : decode cX11_triangleOf 8 = .ok (.iaload, 1) := by decide +kernel
theorem dX11_triangleOf_9 : decode cX11_triangleOf 9 = .ok (.if_icmp .ge 29, 3) := by decide +kernel
theorem dX11_triangleOf_12 : decode cX11_triangleOf 12 = .ok (.aload_n 0, 1) := by decide +kernel
theorem dX11_triangleOf_13 : decode cX11_triangleOf 13 = .ok (.iload_n 3, 1) := by decide +kernel
theorem dX11_triangleOf_14 : decode cX11_triangleOf 14 = .ok (.invokevirtual 391, 3) := by decide +kernel
theorem dX11_triangleOf_17 : decode cX11_triangleOf 17 = .ok (.ifCond .ne 15, 3) := by decide +kernel
theorem dX11_triangleOf_20 : decode cX11_triangleOf 20 = .ok (.aload_n 0, 1) := by decide +kernel
theorem dX11_triangleOf_21 : decode cX11_triangleOf 21 = .ok (.iload_n 3, 1) := by decide +kernel
theorem dX11_triangleOf_22 : decode cX11_triangleOf 22 = .ok (.iload_n 1, 1) := by decide +kernel
theorem dX11_triangleOf_23 : decode cX11_triangleOf 23 = .ok (.iload_n 2, 1) := by decide +kernel
theorem dX11_triangleOf_24 : decode cX11_triangleOf 24 = .ok (.invokevirtual 394, 3) := by decide +kernel
theorem dX11_triangleOf_27 : decode cX11_triangleOf 27 = .ok (.ifCond .eq 5, 3) := by decide +kernel
theorem dX11_triangleOf_30 : decode cX11_triangleOf 30 = .ok (.iload_n 3, 1) := by decide +kernel
theorem dX11_triangleOf_31 : decode cX11_triangleOf 31 = .ok (.ireturn, 1) := by decide +kernel
theorem dX11_triangleOf_32 : decode cX11_triangleOf 32 = .ok (.iinc 3 1, 3) := by decide +kernel
theorem dX11_triangleOf_35 : decode cX11_triangleOf 35 = .ok (.goto (-33), 3) := by decide +kernel
theorem dX11_triangleOf_38 : decode cX11_triangleOf 38 = .ok (.iconst (-1), 1) := by decide +kernel
theorem dX11_triangleOf_39 : decode cX11_triangleOf 39 = .ok (.ireturn, 1) := by decide +kernel
theorem dX11_triangleAt_0 : decode cX11_triangleAt 0 = .ok (.iload_n 1, 1) := by decide +kernel
theorem dX11_triangleAt_1 : decode cX11_triangleAt 1 = .ok (.iload_n 2, 1) := by decide +kernel
theorem dX11_triangleAt_2 : decode cX11_triangleAt 2 = .ok (.invokestatic 403, 3) := by decide +kernel
theorem dX11_triangleAt_5 : decode cX11_triangleAt 5 = .ok (.ifCond .eq 16, 3) := by decide +kernel
theorem dX11_triangleAt_8 : decode cX11_triangleAt 8 = .ok (.aload_n 0, 1) := by decide +kernel
theorem dX11_triangleAt_9 : decode cX11_triangleAt 9 = .ok (.aload_n 0, 1) := by decide +kernel
theorem dX11_triangleAt_10 : decode cX11_triangleAt 10 = .ok (.iload_n 1, 1) := by decide +kernel
theorem dX11_triangleAt_11 : decode cX11_triangleAt 11 = .ok (.iload_n 2, 1) := by decide +kernel
theorem dX11_triangleAt_12 : decode cX11_triangleAt 12 = .ok (.invokevirtual 406, 3) := by decide +kernel
theorem dX11_triangleAt_15 : decode cX11_triangleAt 15 = .ok (.invokevirtual 333, 3) := by decide +kernel
theorem dX11_triangleAt_18 : decode cX11_triangleAt 18 = .ok (.goto 8, 3) := by decide +kernel
theorem dX11_triangleAt_21 : decode cX11_triangleAt 21 = .ok (.aload_n 0, 1) := by decide +kernel
theorem dX11_triangleAt_22 : decode cX11_triangleAt 22 = .ok (.iconst 1, 1) := by decide +kernel
theorem dX11_triangleAt_23 : decode cX11_triangleAt 23 = .ok (.invokevirtual 102, 3) := by decide +kernel
theorem dX11_triangleAt_26 : decode cX11_triangleAt 26 = .ok (.ireturn, 1) := by decide +kernel
theorem dX11_topAt_0 : decode cX11_topAt 0 = .ok (.aload_n 0, 1) := by decide +kernel
theorem dX11_topAt_1 : decode cX11_topAt 1 = .ok (.invokevirtual 348, 3) := by decide +kernel
theorem dX11_topAt_4 : decode cX11_topAt 4 = .ok (.aload_n 0, 1) := by decide +kernel
theorem dX11_topAt_5 : decode cX11_topAt 5 = .ok (.iload_n 1, 1) := by decide +kernel
theorem dX11_topAt_6 : decode cX11_topAt 6 = .ok (.invokevirtual 354, 3) := by decide +kernel
theorem dX11_topAt_9 : decode cX11_topAt 9 = .ok (.ifCond .eq 11, 3) := by decide +kernel
theorem dX11_topAt_12 : decode cX11_topAt 12 = .ok (.iload_n 2, 1) := by decide +kernel
theorem dX11_topAt_13 : decode cX11_topAt 13 = .ok (.iload_n 3, 1) := by decide +kernel
theorem dX11_topAt_14 : decode cX11_topAt 14 = .ok (.invokestatic 403, 3) := by decide +kernel
theorem dX11_topAt_17 : decode cX11_topAt 17 = .ok (.ifCond .ne 9, 3) := by decide +kernel
theorem dX11_topAt_20 : decode cX11_topAt 20 = .ok (.aload_n 0, 1) := by decide +kernel
theorem dX11_topAt_21 : decode cX11_topAt 21 = .ok (.iconst 1, 1) := by decide +kernel
theorem dX11_topAt_22 : decode cX11_topAt 22 = .ok (.invokevirtual 109, 3) := by decide +kernel
theorem dX11_topAt_25 : decode cX11_topAt 25 = .ok (.ireturn, 1) := by decide +kernel
theorem dX11_topAt_26 : decode cX11_topAt 26 = .ok (.aload_n 0, 1) := by decide +kernel
theorem dX11_topAt_27 : decode cX11_topAt 27 = .ok (.iload_n 2, 1) := by decide +kernel
theorem dX11_topAt_28 : decode cX11_topAt 28 = .ok (.iload_n 3, 1) := by decide +kernel
theorem dX11_topAt_29 : decode cX11_topAt 29 = .ok (.invokevirtual 406, 3) := by decide +kernel
theorem dX11_topAt_32 : decode cX11_topAt 32 = .ok (.istore 4, 2) := by decide +kernel
theorem dX11_topAt_34 : decode cX11_topAt 34 = .ok (.iload 4, 2) := by decide +kernel
theorem dX11_topAt_36 : decode cX11_topAt 36 = .ok (.iconst (-1), 1) := by decide +kernel
theorem dX11_topAt_37 : decode cX11_topAt 37 = .ok (.if_icmp .ne 10, 3) := by decide +kernel
theorem dX11_topAt_40 : decode cX11_topAt 40 = .ok (.aload_n 0, 1) := by decide +kernel
theorem dX11_topAt_41 : decode cX11_topAt 41 = .ok (.bipush 6, 2) := by decide +kernel
theorem dX11_topAt_43 : decode cX11_topAt 43 = .ok (.invokevirtual 109, 3) := by decide +kernel
theorem dX11_topAt_46 : decode cX11_topAt 46 = .ok (.ireturn, 1) := by decide +kernel
theorem dX11_topAt_47 : decode cX11_topAt 47 = .ok (.lconst 0, 1) := by decide +kernel
theorem dX11_topAt_48 : decode cX11_topAt 48 = .ok (.lstore 5, 2) := by decide +kernel
theorem dX11_topAt_50 : decode cX11_topAt 50 = .ok (.iconst 0, 1) := by decide +kernel
theorem dX11_topAt_51 : decode cX11_topAt 51 = .ok (.istore 7, 2) := by decide +kernel
theorem dX11_topAt_53 : decode cX11_topAt 53 = .ok (.iload 7, 2) := by decide +kernel
theorem dX11_topAt_55 : decode cX11_topAt 55 = .ok (.iconst 3, 1) := by decide +kernel
theorem dX11_topAt_56 : decode cX11_topAt 56 = .ok (.if_icmp .ge 65, 3) := by decide +kernel
theorem dX11_topAt_59 : decode cX11_topAt 59 = .ok (.aload_n 0, 1) := by decide +kernel
theorem dX11_topAt_60 : decode cX11_topAt 60 = .ok (.iload_n 1, 1) := by decide +kernel
theorem dX11_topAt_61 : decode cX11_topAt 61 = .ok (.aload_n 0, 1) := by decide +kernel
theorem dX11_topAt_62 : decode cX11_topAt 62 = .ok (.iload 4, 2) := by decide +kernel
theorem dX11_topAt_64 : decode cX11_topAt 64 = .ok (.iload 7, 2) := by decide +kernel
theorem dX11_topAt_66 : decode cX11_topAt 66 = .ok (.invokevirtual 372, 3) := by decide +kernel
theorem dX11_topAt_69 : decode cX11_topAt 69 = .ok (.invokevirtual 351, 3) := by decide +kernel
theorem dX11_topAt_72 : decode cX11_topAt 72 = .ok (.istore 8, 2) := by decide +kernel
theorem dX11_topAt_74 : decode cX11_topAt 74 = .ok (.iload 8, 2) := by decide +kernel
theorem dX11_topAt_76 : decode cX11_topAt 76 = .ok (.iconst (-1), 1) := by decide +kernel
theorem dX11_topAt_77 : decode cX11_topAt 77 = .ok (.if_icmp .ne 10, 3) := by decide +kernel
theorem dX11_topAt_80 : decode cX11_topAt 80 = .ok (.aload_n 0, 1) := by decide +kernel
theorem dX11_topAt_81 : decode cX11_topAt 81 = .ok (.bipush 7, 2) := by decide +kernel
theorem dX11_topAt_83 : decode cX11_topAt 83 = .ok (.invokevirtual 109, 3) := by decide +kernel
theorem dX11_topAt_86 : decode cX11_topAt 86 = .ok (.ireturn, 1) := by decide +kernel
theorem dX11_topAt_87 : decode cX11_topAt 87 = .ok (.lload 5, 2) := by decide +kernel
theorem dX11_topAt_89 : decode cX11_topAt 89 = .ok (.aload_n 0, 1) := by decide +kernel
theorem dX11_topAt_90 : decode cX11_topAt 90 = .ok (.getfield 78, 3) := by decide +kernel
theorem dX11_topAt_93 : decode cX11_topAt 93 = .ok (.iload 7, 2) := by decide +kernel
theorem dX11_topAt_95 : decode cX11_topAt 95 = .ok (.laload, 1) := by decide +kernel
theorem dX11_topAt_96 : decode cX11_topAt 96 = .ok (.aload_n 0, 1) := by decide +kernel
theorem dX11_topAt_97 : decode cX11_topAt 97 = .ok (.aload_n 0, 1) := by decide +kernel
theorem dX11_topAt_98 : decode cX11_topAt 98 = .ok (.iload 4, 2) := by decide +kernel
theorem dX11_topAt_100 : decode cX11_topAt 100 = .ok (.iload 7, 2) := by decide +kernel
theorem dX11_topAt_102 : decode cX11_topAt 102 = .ok (.invokevirtual 372, 3) := by decide +kernel
theorem dX11_topAt_105 : decode cX11_topAt 105 = .ok (.iload 8, 2) := by decide +kernel
theorem dX11_topAt_107 : decode cX11_topAt 107 = .ok (.invokevirtual 314, 3) := by decide +kernel
theorem dX11_topAt_110 : decode cX11_topAt 110 = .ok (.i2l, 1) := by decide +kernel
theorem dX11_topAt_111 : decode cX11_topAt 111 = .ok (.lmul, 1) := by decide +kernel
theorem dX11_topAt_112 : decode cX11_topAt 112 = .ok (.ladd, 1) := by decide +kernel
theorem dX11_topAt_113 : decode cX11_topAt 113 = .ok (.lstore 5, 2) := by decide +kernel
theorem dX11_topAt_115 : decode cX11_topAt 115 = .ok (.iinc 7 1, 3) := by decide +kernel
theorem dX11_topAt_118 : decode cX11_topAt 118 = .ok (.goto (-65), 3) := by decide +kernel
theorem dX11_topAt_121 : decode cX11_topAt 121 = .ok (.aload_n 0, 1) := by decide +kernel
theorem dX11_topAt_122 : decode cX11_topAt 122 = .ok (.lload 5, 2) := by decide +kernel
theorem dX11_topAt_124 : decode cX11_topAt 124 = .ok (.aload_n 0, 1) := by decide +kernel
theorem dX11_topAt_125 : decode cX11_topAt 125 = .ok (.iload 4, 2) := by decide +kernel
theorem dX11_topAt_127 : decode cX11_topAt 127 = .ok (.invokevirtual 378, 3) := by decide +kernel
theorem dX11_topAt_130 : decode cX11_topAt 130 = .ok (.invokestatic 382, 3) := by decide +kernel
theorem dX11_topAt_133 : decode cX11_topAt 133 = .ok (.invokevirtual 387, 3) := by decide +kernel
theorem dX11_topAt_136 : decode cX11_topAt 136 = .ok (.ireturn, 1) := by decide +kernel
theorem dX11_thickAt_0 : decode cX11_thickAt 0 = .ok (.aload_n 0, 1) := by decide +kernel
theorem dX11_thickAt_1 : decode cX11_thickAt 1 = .ok (.invokevirtual 348, 3) := by decide +kernel
theorem dX11_thickAt_4 : decode cX11_thickAt 4 = .ok (.aload_n 0, 1) := by decide +kernel
theorem dX11_thickAt_5 : decode cX11_thickAt 5 = .ok (.iload_n 1, 1) := by decide +kernel
theorem dX11_thickAt_6 : decode cX11_thickAt 6 = .ok (.invokevirtual 354, 3) := by decide +kernel
theorem dX11_thickAt_9 : decode cX11_thickAt 9 = .ok (.ifCond .eq 11, 3) := by decide +kernel
theorem dX11_thickAt_12 : decode cX11_thickAt 12 = .ok (.iload_n 2, 1) := by decide +kernel
theorem dX11_thickAt_13 : decode cX11_thickAt 13 = .ok (.iload_n 3, 1) := by decide +kernel
theorem dX11_thickAt_14 : decode cX11_thickAt 14 = .ok (.invokestatic 403, 3) := by decide +kernel
theorem dX11_thickAt_17 : decode cX11_thickAt 17 = .ok (.ifCond .ne 9, 3) := by decide +kernel
theorem dX11_thickAt_20 : decode cX11_thickAt 20 = .ok (.aload_n 0, 1) := by decide +kernel
theorem dX11_thickAt_21 : decode cX11_thickAt 21 = .ok (.iconst 1, 1) := by decide +kernel
theorem dX11_thickAt_22 : decode cX11_thickAt 22 = .ok (.invokevirtual 109, 3) := by decide +kernel
theorem dX11_thickAt_25 : decode cX11_thickAt 25 = .ok (.ireturn, 1) := by decide +kernel
theorem dX11_thickAt_26 : decode cX11_thickAt 26 = .ok (.aload_n 0, 1) := by decide +kernel
theorem dX11_thickAt_27 : decode cX11_thickAt 27 = .ok (.iload_n 2, 1) := by decide +kernel
theorem dX11_thickAt_28 : decode cX11_thickAt 28 = .ok (.iload_n 3, 1) := by decide +kernel
theorem dX11_thickAt_29 : decode cX11_thickAt 29 = .ok (.invokevirtual 406, 3) := by decide +kernel
theorem dX11_thickAt_32 : decode cX11_thickAt 32 = .ok (.istore 4, 2) := by decide +kernel
theorem dX11_thickAt_34 : decode cX11_thickAt 34 = .ok (.iload 4, 2) := by decide +kernel
theorem dX11_thickAt_36 : decode cX11_thickAt 36 = .ok (.iconst (-1), 1) := by decide +kernel
theorem dX11_thickAt_37 : decode cX11_thickAt 37 = .ok (.if_icmp .ne 10, 3) := by decide +kernel
theorem dX11_thickAt_40 : decode cX11_thickAt 40 = .ok (.aload_n 0, 1) := by decide +kernel
theorem dX11_thickAt_41 : decode cX11_thickAt 41 = .ok (.bipush 6, 2) := by decide +kernel
theorem dX11_thickAt_43 : decode cX11_thickAt 43 = .ok (.invokevirtual 109, 3) := by decide +kernel
theorem dX11_thickAt_46 : decode cX11_thickAt 46 = .ok (.ireturn, 1) := by decide +kernel
theorem dX11_thickAt_47 : decode cX11_thickAt 47 = .ok (.lconst 0, 1) := by decide +kernel
theorem dX11_thickAt_48 : decode cX11_thickAt 48 = .ok (.lstore 5, 2) := by decide +kernel
theorem dX11_thickAt_50 : decode cX11_thickAt 50 = .ok (.iconst 0, 1) := by decide +kernel
theorem dX11_thickAt_51 : decode cX11_thickAt 51 = .ok (.istore 7, 2) := by decide +kernel
theorem dX11_thickAt_53 : decode cX11_thickAt 53 = .ok (.iload 7, 2) := by decide +kernel
theorem dX11_thickAt_55 : decode cX11_thickAt 55 = .ok (.iconst 3, 1) := by decide +kernel
theorem dX11_thickAt_56 : decode cX11_thickAt 56 = .ok (.if_icmp .ge 36, 3) := by decide +kernel
theorem dX11_thickAt_59 : decode cX11_thickAt 59 = .ok (.lload 5, 2) := by decide +kernel
theorem dX11_thickAt_61 : decode cX11_thickAt 61 = .ok (.aload_n 0, 1) := by decide +kernel
theorem dX11_thickAt_62 : decode cX11_thickAt 62 = .ok (.getfield 78, 3) := by decide +kernel
theorem dX11_thickAt_65 : decode cX11_thickAt 65 = .ok (.iload 7, 2) := by decide +kernel
theorem dX11_thickAt_67 : decode cX11_thickAt 67 = .ok (.laload, 1) := by decide +kernel
theorem dX11_thickAt_68 : decode cX11_thickAt 68 = .ok (.aload_n 0, 1) := by decide +kernel
theorem dX11_thickAt_69 : decode cX11_thickAt 69 = .ok (.iload_n 1, 1) := by decide +kernel
theorem dX11_thickAt_70 : decode cX11_thickAt 70 = .ok (.aload_n 0, 1) := by decide +kernel
theorem dX11_thickAt_71 : decode cX11_thickAt 71 = .ok (.iload 4, 2) := by decide +kernel
theorem dX11_thickAt_73 : decode cX11_thickAt 73 = .ok (.iload 7, 2) := by decide +kernel
theorem dX11_thickAt_75 : decode cX11_thickAt 75 = .ok (.invokevirtual 372, 3) := by decide +kernel
theorem dX11_thickAt_78 : decode cX11_thickAt 78 = .ok (.invokevirtual 360, 3) := by decide +kernel
theorem dX11_thickAt_81 : decode cX11_thickAt 81 = .ok (.i2l, 1) := by decide +kernel
theorem dX11_thickAt_82 : decode cX11_thickAt 82 = .ok (.lmul, 1) := by decide +kernel
theorem dX11_thickAt_83 : decode cX11_thickAt 83 = .ok (.ladd, 1) := by decide +kernel
theorem dX11_thickAt_84 : decode cX11_thickAt 84 = .ok (.lstore 5, 2) := by decide +kernel
theorem dX11_thickAt_86 : decode cX11_thickAt 86 = .ok (.iinc 7 1, 3) := by decide +kernel
theorem dX11_thickAt_89 : decode cX11_thickAt 89 = .ok (.goto (-36), 3) := by decide +kernel
theorem dX11_thickAt_92 : decode cX11_thickAt 92 = .ok (.aload_n 0, 1) := by decide +kernel
theorem dX11_thickAt_93 : decode cX11_thickAt 93 = .ok (.lload 5, 2) := by decide +kernel
theorem dX11_thickAt_95 : decode cX11_thickAt 95 = .ok (.aload_n 0, 1) := by decide +kernel
theorem dX11_thickAt_96 : decode cX11_thickAt 96 = .ok (.iload 4, 2) := by decide +kernel
theorem dX11_thickAt_98 : decode cX11_thickAt 98 = .ok (.invokevirtual 378, 3) := by decide +kernel
theorem dX11_thickAt_101 : decode cX11_thickAt 101 = .ok (.invokestatic 382, 3) := by decide +kernel
theorem dX11_thickAt_104 : decode cX11_thickAt 104 = .ok (.invokevirtual 387, 3) := by decide +kernel
theorem dX11_thickAt_107 : decode cX11_thickAt 107 = .ok (.ireturn, 1) := by decide +kernel
theorem dX11_sixVolumes_0 : decode cX11_sixVolumes 0 = .ok (.lconst 0, 1) := by decide +kernel
theorem dX11_sixVolumes_1 : decode cX11_sixVolumes 1 = .ok (.lstore_n 3, 1) := by decide +kernel
theorem dX11_sixVolumes_2 : decode cX11_sixVolumes 2 = .ok (.iconst 0, 1) := by decide +kernel
theorem dX11_sixVolumes_3 : decode cX11_sixVolumes 3 = .ok (.istore 5, 2) := by decide +kernel
theorem dX11_sixVolumes_5 : decode cX11_sixVolumes 5 = .ok (.iload 5, 2) := by decide +kernel
theorem dX11_sixVolumes_7 : decode cX11_sixVolumes 7 = .ok (.iconst 3, 1) := by decide +kernel
theorem dX11_sixVolumes_8 : decode cX11_sixVolumes 8 = .ok (.if_icmp .ge 25, 3) := by decide +kernel
theorem dX11_sixVolumes_11 : decode cX11_sixVolumes 11 = .ok (.lload_n 3, 1) := by decide +kernel
theorem dX11_sixVolumes_12 : decode cX11_sixVolumes 12 = .ok (.aload_n 0, 1) := by decide +kernel
theorem dX11_sixVolumes_13 : decode cX11_sixVolumes 13 = .ok (.iload_n 1, 1) := by decide +kernel
theorem dX11_sixVolumes_14 : decode cX11_sixVolumes 14 = .ok (.aload_n 0, 1) := by decide +kernel
theorem dX11_sixVolumes_15 : decode cX11_sixVolumes 15 = .ok (.iload_n 2, 1) := by decide +kernel
theorem dX11_sixVolumes_16 : decode cX11_sixVolumes 16 = .ok (.iload 5, 2) := by decide +kernel
theorem dX11_sixVolumes_18 : decode cX11_sixVolumes 18 = .ok (.invokevirtual 372, 3) := by decide +kernel
theorem dX11_sixVolumes_21 : decode cX11_sixVolumes 21 = .ok (.invokevirtual 360, 3) := by decide +kernel
theorem dX11_sixVolumes_24 : decode cX11_sixVolumes 24 = .ok (.i2l, 1) := by decide +kernel
theorem dX11_sixVolumes_25 : decode cX11_sixVolumes 25 = .ok (.ladd, 1) := by decide +kernel
theorem dX11_sixVolumes_26 : decode cX11_sixVolumes 26 = .ok (.lstore_n 3, 1) := by decide +kernel
theorem dX11_sixVolumes_27 : decode cX11_sixVolumes 27 = .ok (.iinc 5 1, 3) := by decide +kernel
theorem dX11_sixVolumes_30 : decode cX11_sixVolumes 30 = .ok (.goto (-25), 3) := by decide +kernel
theorem dX11_sixVolumes_33 : decode cX11_sixVolumes 33 = .ok (.lload_n 3, 1) := by decide +kernel
theorem dX11_sixVolumes_34 : decode cX11_sixVolumes 34 = .ok (.aload_n 0, 1) := by decide +kernel
theorem dX11_sixVolumes_35 : decode cX11_sixVolumes 35 = .ok (.iload_n 2, 1) := by decide +kernel
theorem dX11_sixVolumes_36 : decode cX11_sixVolumes 36 = .ok (.invokevirtual 378, 3) := by decide +kernel
theorem dX11_sixVolumes_39 : decode cX11_sixVolumes 39 = .ok (.invokestatic 382, 3) := by decide +kernel
theorem dX11_sixVolumes_42 : decode cX11_sixVolumes 42 = .ok (.lmul, 1) := by decide +kernel
theorem dX11_sixVolumes_43 : decode cX11_sixVolumes 43 = .ok (.lreturn, 1) := by decide +kernel
theorem dX11_volume_0 : decode cX11_volume 0 = .ok (.aload_n 0, 1) := by decide +kernel
theorem dX11_volume_1 : decode cX11_volume 1 = .ok (.invokevirtual 348, 3) := by decide +kernel
theorem dX11_volume_4 : decode cX11_volume 4 = .ok (.aload_n 0, 1) := by decide +kernel
theorem dX11_volume_5 : decode cX11_volume 5 = .ok (.iload_n 1, 1) := by decide +kernel
theorem dX11_volume_6 : decode cX11_volume 6 = .ok (.invokevirtual 354, 3) := by decide +kernel
theorem dX11_volume_9 : decode cX11_volume 9 = .ok (.ifCond .eq 11, 3) := by decide +kernel
theorem dX11_volume_12 : decode cX11_volume 12 = .ok (.aload_n 0, 1) := by decide +kernel
theorem dX11_volume_13 : decode cX11_volume 13 = .ok (.iload_n 2, 1) := by decide +kernel
theorem dX11_volume_14 : decode cX11_volume 14 = .ok (.invokevirtual 375, 3) := by decide +kernel
theorem dX11_volume_17 : decode cX11_volume 17 = .ok (.ifCond .ne 9, 3) := by decide +kernel
theorem dX11_volume_20 : decode cX11_volume 20 = .ok (.aload_n 0, 1) := by decide +kernel
theorem dX11_volume_21 : decode cX11_volume 21 = .ok (.iconst 1, 1) := by decide +kernel
theorem dX11_volume_22 : decode cX11_volume 22 = .ok (.invokevirtual 109, 3) := by decide +kernel
theorem dX11_volume_25 : decode cX11_volume 25 = .ok (.ireturn, 1) := by decide +kernel
theorem dX11_volume_26 : decode cX11_volume 26 = .ok (.aload_n 0, 1) := by decide +kernel
theorem dX11_volume_27 : decode cX11_volume 27 = .ok (.iload_n 2, 1) := by decide +kernel
theorem dX11_volume_28 : decode cX11_volume 28 = .ok (.invokevirtual 391, 3) := by decide +kernel
theorem dX11_volume_31 : decode cX11_volume 31 = .ok (.ifCond .eq 12, 3) := by decide +kernel
theorem dX11_volume_34 : decode cX11_volume 34 = .ok (.aload_n 0, 1) := by decide +kernel
theorem dX11_volume_35 : decode cX11_volume 35 = .ok (.bipush 7, 2) := by decide +kernel
theorem dX11_volume_37 : decode cX11_volume 37 = .ok (.invokevirtual 109, 3) := by decide +kernel
theorem dX11_volume_40 : decode cX11_volume 40 = .ok (.goto 16, 3) := by decide +kernel
theorem dX11_volume_43 : decode cX11_volume 43 = .ok (.aload_n 0, 1) := by decide +kernel
theorem dX11_volume_44 : decode cX11_volume 44 = .ok (.aload_n 0, 1) := by decide +kernel
theorem dX11_volume_45 : decode cX11_volume 45 = .ok (.iload_n 1, 1) := by decide +kernel
theorem dX11_volume_46 : decode cX11_volume 46 = .ok (.iload_n 2, 1) := by decide +kernel
theorem dX11_volume_47 : decode cX11_volume 47 = .ok (.invokevirtual 409, 3) := by decide +kernel
theorem dX11_volume_50 : decode cX11_volume 50 = .ok (.ldc2_w 413, 3) := by decide +kernel
theorem dX11_volume_53 : decode cX11_volume 53 = .ok (.invokevirtual 387, 3) := by decide +kernel
theorem dX11_volume_56 : decode cX11_volume 56 = .ok (.ireturn, 1) := by decide +kernel
theorem dX11_volumeOf_0 : decode cX11_volumeOf 0 = .ok (.aload_n 0, 1) := by decide +kernel
theorem dX11_volumeOf_1 : decode cX11_volumeOf 1 = .ok (.invokevirtual 348, 3) := by decide +kernel
theorem dX11_volumeOf_4 : decode cX11_volumeOf 4 = .ok (.aload_n 0, 1) := by decide +kernel
theorem dX11_volumeOf_5 : decode cX11_volumeOf 5 = .ok (.iload_n 1, 1) := by decide +kernel
theorem dX11_volumeOf_6 : decode cX11_volumeOf 6 = .ok (.invokevirtual 354, 3) := by decide +kernel
theorem dX11_volumeOf_9 : decode cX11_volumeOf 9 = .ok (.ifCond .ne 9, 3) := by decide +kernel
theorem dX11_volumeOf_12 : decode cX11_volumeOf 12 = .ok (.aload_n 0, 1) := by decide +kernel
theorem dX11_volumeOf_13 : decode cX11_volumeOf 13 = .ok (.iconst 1, 1) := by decide +kernel
theorem dX11_volumeOf_14 : decode cX11_volumeOf 14 = .ok (.invokevirtual 109, 3) := by decide +kernel
theorem dX11_volumeOf_17 : decode cX11_volumeOf 17 = .ok (.ireturn, 1) := by decide +kernel
theorem dX11_volumeOf_18 : decode cX11_volumeOf 18 = .ok (.lconst 0, 1) := by decide +kernel
theorem dX11_volumeOf_19 : decode cX11_volumeOf 19 = .ok (.lstore_n 2, 1) := by decide +kernel
theorem dX11_volumeOf_20 : decode cX11_volumeOf 20 = .ok (.iconst 0, 1) := by decide +kernel
theorem dX11_volumeOf_21 : decode cX11_volumeOf 21 = .ok (.istore 4, 2) := by decide +kernel
theorem dX11_volumeOf_23 : decode cX11_volumeOf 23 = .ok (.iload 4, 2) := by decide +kernel
theorem dX11_volumeOf_25 : decode cX11_volumeOf 25 = .ok (.aload_n 0, 1) := by decide +kernel
theorem dX11_volumeOf_26 : decode cX11_volumeOf 26 = .ok (.getfield 7, 3) := by decide +kernel
theorem dX11_volumeOf_29 : decode cX11_volumeOf 29 = .ok (.iconst 2, 1) := by decide +kernel
theorem dX11_volumeOf_30 : decode cX11_volumeOf 30 = .ok (.iaload, 1) := by decide +kernel
theorem dX11_volumeOf_31 : decode cX11_volumeOf 31 = .ok (.if_icmp .ge 32, 3) := by decide +kernel
theorem dX11_volumeOf_34 : decode cX11_volumeOf 34 = .ok (.lload_n 2, 1) := by decide +kernel
theorem dX11_volumeOf_35 : decode cX11_volumeOf 35 = .ok (.aload_n 0, 1) := by decide +kernel
theorem dX11_volumeOf_36 : decode cX11_volumeOf 36 = .ok (.iload 4, 2) := by decide +kernel
theorem dX11_volumeOf_38 : decode cX11_volumeOf 38 = .ok (.invokevirtual 391, 3) := by decide +kernel
theorem dX11_volumeOf_41 : decode cX11_volumeOf 41 = .ok (.ifCond .eq 7, 3) := by decide +kernel
theorem dX11_volumeOf_44 : decode cX11_volumeOf 44 = .ok (.lconst 0, 1) := by decide +kernel
theorem dX11_volumeOf_45 : decode cX11_volumeOf 45 = .ok (.goto 10, 3) := by decide +kernel
theorem dX11_volumeOf_48 : decode cX11_volumeOf 48 = .ok (.aload_n 0, 1) := by decide +kernel
theorem dX11_volumeOf_49 : decode cX11_volumeOf 49 = .ok (.iload_n 1, 1) := by decide +kernel
theorem dX11_volumeOf_50 : decode cX11_volumeOf 50 = .ok (.iload 4, 2) := by decide +kernel
theorem dX11_volumeOf_52 : decode cX11_volumeOf 52 = .ok (.invokevirtual 409, 3) := by decide +kernel
theorem dX11_volumeOf_55 : decode cX11_volumeOf 55 = .ok (.ladd, 1) := by decide +kernel
theorem dX11_volumeOf_56 : decode cX11_volumeOf 56 = .ok (.lstore_n 2, 1) := by decide +kernel
theorem dX11_volumeOf_57 : decode cX11_volumeOf 57 = .ok (.iinc 4 1, 3) := by decide +kernel
theorem dX11_volumeOf_60 : decode cX11_volumeOf 60 = .ok (.goto (-37), 3) := by decide +kernel
theorem dX11_volumeOf_63 : decode cX11_volumeOf 63 = .ok (.aload_n 0, 1) := by decide +kernel
theorem dX11_volumeOf_64 : decode cX11_volumeOf 64 = .ok (.lload_n 2, 1) := by decide +kernel
theorem dX11_volumeOf_65 : decode cX11_volumeOf 65 = .ok (.ldc2_w 413, 3) := by decide +kernel
theorem dX11_volumeOf_68 : decode cX11_volumeOf 68 = .ok (.invokevirtual 387, 3) := by decide +kernel
theorem dX11_volumeOf_71 : decode cX11_volumeOf 71 = .ok (.ireturn, 1) := by decide +kernel
theorem dX11_tilt_0 : decode cX11_tilt 0 = .ok (.aload_n 0, 1) := by decide +kernel
theorem dX11_tilt_1 : decode cX11_tilt 1 = .ok (.invokevirtual 348, 3) := by decide +kernel
theorem dX11_tilt_4 : decode cX11_tilt 4 = .ok (.aload_n 0, 1) := by decide +kernel
theorem dX11_tilt_5 : decode cX11_tilt 5 = .ok (.iload_n 1, 1) := by decide +kernel
theorem dX11_tilt_6 : decode cX11_tilt 6 = .ok (.invokevirtual 354, 3) := by decide +kernel
theorem dX11_tilt_9 : decode cX11_tilt 9 = .ok (.ifCond .eq 20, 3) := by decide +kernel
theorem dX11_tilt_12 : decode cX11_tilt 12 = .ok (.aload_n 0, 1) := by decide +kernel
theorem dX11_tilt_13 : decode cX11_tilt 13 = .ok (.iload_n 2, 1) := by decide +kernel
theorem dX11_tilt_14 : decode cX11_tilt 14 = .ok (.invokevirtual 375, 3) := by decide +kernel
theorem dX11_tilt_17 : decode cX11_tilt 17 = .ok (.ifCond .eq 12, 3) := by decide +kernel
theorem dX11_tilt_20 : decode cX11_tilt 20 = .ok (.iload_n 3, 1) := by decide +kernel
theorem dX11_tilt_21 : decode cX11_tilt 21 = .ok (.ifCond .lt 8, 3) := by decide +kernel
theorem dX11_tilt_24 : decode cX11_tilt 24 = .ok (.iload_n 3, 1) := by decide +kernel
theorem dX11_tilt_25 : decode cX11_tilt 25 = .ok (.iconst 1, 1) := by decide +kernel
theorem dX11_tilt_26 : decode cX11_tilt 26 = .ok (.if_icmp .le 9, 3) := by decide +kernel
theorem dX11_tilt_29 : decode cX11_tilt 29 = .ok (.aload_n 0, 1) := by decide +kernel
theorem dX11_tilt_30 : decode cX11_tilt 30 = .ok (.iconst 1, 1) := by decide +kernel
theorem dX11_tilt_31 : decode cX11_tilt 31 = .ok (.invokevirtual 109, 3) := by decide +kernel
theorem dX11_tilt_34 : decode cX11_tilt 34 = .ok (.ireturn, 1) := by decide +kernel
theorem dX11_tilt_35 : decode cX11_tilt 35 = .ok (.aload_n 0, 1) := by decide +kernel
theorem dX11_tilt_36 : decode cX11_tilt 36 = .ok (.iload_n 2, 1) := by decide +kernel
theorem dX11_tilt_37 : decode cX11_tilt 37 = .ok (.invokevirtual 391, 3) := by decide +kernel
theorem dX11_tilt_40 : decode cX11_tilt 40 = .ok (.ifCond .eq 10, 3) := by decide +kernel
theorem dX11_tilt_43 : decode cX11_tilt 43 = .ok (.aload_n 0, 1) := by decide +kernel
theorem dX11_tilt_44 : decode cX11_tilt 44 = .ok (.bipush 7, 2) := by decide +kernel
theorem dX11_tilt_46 : decode cX11_tilt 46 = .ok (.invokevirtual 109, 3) := by decide +kernel
theorem dX11_tilt_49 : decode cX11_tilt 49 = .ok (.ireturn, 1) := by decide +kernel
theorem dX11_tilt_50 : decode cX11_tilt 50 = .ok (.aload_n 0, 1) := by decide +kernel
theorem dX11_tilt_51 : decode cX11_tilt 51 = .ok (.getfield 81, 3) := by decide +kernel
theorem dX11_tilt_54 : decode cX11_tilt 54 = .ok (.astore 4, 2) := by decide +kernel
theorem dX11_tilt_56 : decode cX11_tilt 56 = .ok (.iconst 0, 1) := by decide +kernel
theorem dX11_tilt_57 : decode cX11_tilt 57 = .ok (.istore 5, 2) := by decide +kernel
theorem dX11_tilt_59 : decode cX11_tilt 59 = .ok (.iload 5, 2) := by decide +kernel
theorem dX11_tilt_61 : decode cX11_tilt 61 = .ok (.iconst 3, 1) := by decide +kernel
theorem dX11_tilt_62 : decode cX11_tilt 62 = .ok (.if_icmp .ge 86, 3) := by decide +kernel
theorem dX11_tilt_65 : decode cX11_tilt 65 = .ok (.aload_n 0, 1) := by decide +kernel
theorem dX11_tilt_66 : decode cX11_tilt 66 = .ok (.iload_n 1, 1) := by decide +kernel
theorem dX11_tilt_67 : decode cX11_tilt 67 = .ok (.aload_n 0, 1) := by decide +kernel
theorem dX11_tilt_68 : decode cX11_tilt 68 = .ok (.iload_n 2, 1) := by decide +kernel
theorem dX11_tilt_69 : decode cX11_tilt 69 = .ok (.iload 5, 2) := by decide +kernel
theorem dX11_tilt_71 : decode cX11_tilt 71 = .ok (.invokevirtual 372, 3) := by decide +kernel
theorem dX11_tilt_74 : decode cX11_tilt 74 = .ok (.invokevirtual 351, 3) := by decide +kernel
theorem dX11_tilt_77 : decode cX11_tilt 77 = .ok (.istore 6, 2) := by decide +kernel
theorem dX11_tilt_79 : decode cX11_tilt 79 = .ok (.iload 6, 2) := by decide +kernel
theorem dX11_tilt_81 : decode cX11_tilt 81 = .ok (.iconst (-1), 1) := by decide +kernel
theorem dX11_tilt_82 : decode cX11_tilt 82 = .ok (.if_icmp .ne 10, 3) := by decide +kernel
theorem dX11_tilt_85 : decode cX11_tilt 85 = .ok (.aload_n 0, 1) := by decide +kernel
theorem dX11_tilt_86 : decode cX11_tilt 86 = .ok (.bipush 7, 2) := by decide +kernel
theorem dX11_tilt_88 : decode cX11_tilt 88 = .ok (.invokevirtual 109, 3) := by decide +kernel
theorem dX11_tilt_91 : decode cX11_tilt 91 = .ok (.ireturn, 1) := by decide +kernel
theorem dX11_tilt_92 : decode cX11_tilt 92 = .ok (.aload_n 0, 1) := by decide +kernel
theorem dX11_tilt_93 : decode cX11_tilt 93 = .ok (.iload_n 2, 1) := by decide +kernel
theorem dX11_tilt_94 : decode cX11_tilt 94 = .ok (.iload 5, 2) := by decide +kernel
theorem dX11_tilt_96 : decode cX11_tilt 96 = .ok (.invokevirtual 372, 3) := by decide +kernel
theorem dX11_tilt_99 : decode cX11_tilt 99 = .ok (.invokestatic 280, 3) := by decide +kernel
theorem dX11_tilt_102 : decode cX11_tilt 102 = .ok (.istore 7, 2) := by decide +kernel
theorem dX11_tilt_104 : decode cX11_tilt 104 = .ok (.aload 4, 2) := by decide +kernel
theorem dX11_tilt_106 : decode cX11_tilt 106 = .ok (.iload 5, 2) := by decide +kernel
theorem dX11_tilt_108 : decode cX11_tilt 108 = .ok (.aload_n 0, 1) := by decide +kernel
theorem dX11_tilt_109 : decode cX11_tilt 109 = .ok (.getfield 7, 3) := by decide +kernel
theorem dX11_tilt_112 : decode cX11_tilt 112 = .ok (.iload 7, 2) := by decide +kernel
theorem dX11_tilt_114 : decode cX11_tilt 114 = .ok (.iconst 1, 1) := by decide +kernel
theorem dX11_tilt_115 : decode cX11_tilt 115 = .ok (.iadd, 1) := by decide +kernel
theorem dX11_tilt_116 : decode cX11_tilt 116 = .ok (.iload_n 3, 1) := by decide +kernel
theorem dX11_tilt_117 : decode cX11_tilt 117 = .ok (.isub, 1) := by decide +kernel
theorem dX11_tilt_118 : decode cX11_tilt 118 = .ok (.iaload, 1) := by decide +kernel
theorem dX11_tilt_119 : decode cX11_tilt 119 = .ok (.i2l, 1) := by decide +kernel
theorem dX11_tilt_120 : decode cX11_tilt 120 = .ok (.lastore, 1) := by decide +kernel
theorem dX11_tilt_121 : decode cX11_tilt 121 = .ok (.aload_n 0, 1) := by decide +kernel
theorem dX11_tilt_122 : decode cX11_tilt 122 = .ok (.getfield 78, 3) := by decide +kernel
theorem dX11_tilt_125 : decode cX11_tilt 125 = .ok (.iload 5, 2) := by decide +kernel
theorem dX11_tilt_127 : decode cX11_tilt 127 = .ok (.aload_n 0, 1) := by decide +kernel
theorem dX11_tilt_128 : decode cX11_tilt 128 = .ok (.aload_n 0, 1) := by decide +kernel
theorem dX11_tilt_129 : decode cX11_tilt 129 = .ok (.iload_n 2, 1) := by decide +kernel
theorem dX11_tilt_130 : decode cX11_tilt 130 = .ok (.iload 5, 2) := by decide +kernel
theorem dX11_tilt_132 : decode cX11_tilt 132 = .ok (.invokevirtual 372, 3) := by decide +kernel
theorem dX11_tilt_135 : decode cX11_tilt 135 = .ok (.iload 6, 2) := by decide +kernel
theorem dX11_tilt_137 : decode cX11_tilt 137 = .ok (.invokevirtual 314, 3) := by decide +kernel
theorem dX11_tilt_140 : decode cX11_tilt 140 = .ok (.i2l, 1) := by decide +kernel
theorem dX11_tilt_141 : decode cX11_tilt 141 = .ok (.lastore, 1) := by decide +kernel
theorem dX11_tilt_142 : decode cX11_tilt 142 = .ok (.iinc 5 1, 3) := by decide +kernel
theorem dX11_tilt_145 : decode cX11_tilt 145 = .ok (.goto (-86), 3) := by decide +kernel
theorem dX11_tilt_148 : decode cX11_tilt 148 = .ok (.aload_n 0, 1) := by decide +kernel
theorem dX11_tilt_149 : decode cX11_tilt 149 = .ok (.getfield 78, 3) := by decide +kernel
theorem dX11_tilt_152 : decode cX11_tilt 152 = .ok (.iconst 1, 1) := by decide +kernel
theorem dX11_tilt_153 : decode cX11_tilt 153 = .ok (.laload, 1) := by decide +kernel
theorem dX11_tilt_154 : decode cX11_tilt 154 = .ok (.aload_n 0, 1) := by decide +kernel
theorem dX11_tilt_155 : decode cX11_tilt 155 = .ok (.getfield 78, 3) := by decide +kernel
theorem dX11_tilt_158 : decode cX11_tilt 158 = .ok (.iconst 0, 1) := by decide +kernel
theorem dX11_tilt_159 : decode cX11_tilt 159 = .ok (.laload, 1) := by decide +kernel
theorem dX11_tilt_160 : decode cX11_tilt 160 = .ok (.lsub, 1) := by decide +kernel
theorem dX11_tilt_161 : decode cX11_tilt 161 = .ok (.aload 4, 2) := by decide +kernel
theorem dX11_tilt_163 : decode cX11_tilt 163 = .ok (.iconst 2, 1) := by decide +kernel
theorem dX11_tilt_164 : decode cX11_tilt 164 = .ok (.laload, 1) := by decide +kernel
theorem dX11_tilt_165 : decode cX11_tilt 165 = .ok (.aload 4, 2) := by decide +kernel
theorem dX11_tilt_167 : decode cX11_tilt 167 = .ok (.iconst 0, 1) := by decide +kernel
theorem dX11_tilt_168 : decode cX11_tilt 168 = .ok (.laload, 1) := by decide +kernel
theorem dX11_tilt_169 : decode cX11_tilt 169 = .ok (.lsub, 1) := by decide +kernel
theorem dX11_tilt_170 : decode cX11_tilt 170 = .ok (.lmul, 1) := by decide +kernel
theorem dX11_tilt_171 : decode cX11_tilt 171 = .ok (.aload_n 0, 1) := by decide +kernel
theorem dX11_tilt_172 : decode cX11_tilt 172 = .ok (.getfield 78, 3) := by decide +kernel
theorem dX11_tilt_175 : decode cX11_tilt 175 = .ok (.iconst 2, 1) := by decide +kernel
theorem dX11_tilt_176 : decode cX11_tilt 176 = .ok (.laload, 1) := by decide +kernel
theorem dX11_tilt_177 : decode cX11_tilt 177 = .ok (.aload_n 0, 1) := by decide +kernel
theorem dX11_tilt_178 : decode cX11_tilt 178 = .ok (.getfield 78, 3) := by decide +kernel
theorem dX11_tilt_181 : decode cX11_tilt 181 = .ok (.iconst 0, 1) := by decide +kernel
theorem dX11_tilt_182 : decode cX11_tilt 182 = .ok (.laload, 1) := by decide +kernel
theorem dX11_tilt_183 : decode cX11_tilt 183 = .ok (.lsub, 1) := by decide +kernel
theorem dX11_tilt_184 : decode cX11_tilt 184 = .ok (.aload 4, 2) := by decide +kernel
theorem dX11_tilt_186 : decode cX11_tilt 186 = .ok (.iconst 1, 1) := by decide +kernel
theorem dX11_tilt_187 : decode cX11_tilt 187 = .ok (.laload, 1) := by decide +kernel
theorem dX11_tilt_188 : decode cX11_tilt 188 = .ok (.aload 4, 2) := by decide +kernel
theorem dX11_tilt_190 : decode cX11_tilt 190 = .ok (.iconst 0, 1) := by decide +kernel
theorem dX11_tilt_191 : decode cX11_tilt 191 = .ok (.laload, 1) := by decide +kernel
theorem dX11_tilt_192 : decode cX11_tilt 192 = .ok (.lsub, 1) := by decide +kernel
theorem dX11_tilt_193 : decode cX11_tilt 193 = .ok (.lmul, 1) := by decide +kernel
theorem dX11_tilt_194 : decode cX11_tilt 194 = .ok (.lsub, 1) := by decide +kernel
theorem dX11_tilt_195 : decode cX11_tilt 195 = .ok (.lstore 5, 2) := by decide +kernel
theorem dX11_tilt_197 : decode cX11_tilt 197 = .ok (.aload_n 0, 1) := by decide +kernel
theorem dX11_tilt_198 : decode cX11_tilt 198 = .ok (.iload_n 2, 1) := by decide +kernel
theorem dX11_tilt_199 : decode cX11_tilt 199 = .ok (.invokevirtual 378, 3) := by decide +kernel
theorem dX11_tilt_202 : decode cX11_tilt 202 = .ok (.lstore 7, 2) := by decide +kernel
theorem dX11_tilt_204 : decode cX11_tilt 204 = .ok (.iload_n 3, 1) := by decide +kernel
theorem dX11_tilt_205 : decode cX11_tilt 205 = .ok (.iconst 1, 1) := by decide +kernel
theorem dX11_tilt_206 : decode cX11_tilt 206 = .ok (.if_icmp .ne 8, 3) := by decide +kernel
theorem dX11_tilt_209 : decode cX11_tilt 209 = .ok (.lload 5, 2) := by decide +kernel
theorem dX11_tilt_211 : decode cX11_tilt 211 = .ok (.lneg, 1) := by decide +kernel
theorem dX11_tilt_212 : decode cX11_tilt 212 = .ok (.lstore 5, 2) := by decide +kernel
theorem dX11_tilt_214 : decode cX11_tilt 214 = .ok (.lload 7, 2) := by decide +kernel
theorem dX11_tilt_216 : decode cX11_tilt 216 = .ok (.lconst 0, 1) := by decide +kernel
theorem dX11_tilt_217 : decode cX11_tilt 217 = .ok (.lcmp, 1) := by decide +kernel
theorem dX11_tilt_218 : decode cX11_tilt 218 = .ok (.ifCond .ge 16, 3) := by decide +kernel
theorem dX11_tilt_221 : decode cX11_tilt 221 = .ok (.aload_n 0, 1) := by decide +kernel
theorem dX11_tilt_222 : decode cX11_tilt 222 = .ok (.lload 5, 2) := by decide +kernel
theorem dX11_tilt_224 : decode cX11_tilt 224 = .ok (.lneg, 1) := by decide +kernel
theorem dX11_tilt_225 : decode cX11_tilt 225 = .ok (.lload 7, 2) := by decide +kernel
theorem dX11_tilt_227 : decode cX11_tilt 227 = .ok (.lneg, 1) := by decide +kernel
theorem dX11_tilt_228 : decode cX11_tilt 228 = .ok (.invokevirtual 387, 3) := by decide +kernel
theorem dX11_tilt_231 : decode cX11_tilt 231 = .ok (.goto 11, 3) := by decide +kernel
theorem dX11_tilt_234 : decode cX11_tilt 234 = .ok (.aload_n 0, 1) := by decide +kernel
theorem dX11_tilt_235 : decode cX11_tilt 235 = .ok (.lload 5, 2) := by decide +kernel
theorem dX11_tilt_237 : decode cX11_tilt 237 = .ok (.lload 7, 2) := by decide +kernel
theorem dX11_tilt_239 : decode cX11_tilt 239 = .ok (.invokevirtual 387, 3) := by decide +kernel
theorem dX11_tilt_242 : decode cX11_tilt 242 = .ok (.ireturn, 1) := by decide +kernel
theorem dX11_deepest_0 : decode cX11_deepest 0 = .ok (.aload_n 0, 1) := by decide +kernel
theorem dX11_deepest_1 : decode cX11_deepest 1 = .ok (.invokevirtual 348, 3) := by decide +kernel
theorem dX11_deepest_4 : decode cX11_deepest 4 = .ok (.aload_n 0, 1) := by decide +kernel
theorem dX11_deepest_5 : decode cX11_deepest 5 = .ok (.iload_n 1, 1) := by decide +kernel
theorem dX11_deepest_6 : decode cX11_deepest 6 = .ok (.invokevirtual 354, 3) := by decide +kernel
theorem dX11_deepest_9 : decode cX11_deepest 9 = .ok (.ifCond .ne 9, 3) := by decide +kernel
theorem dX11_deepest_12 : decode cX11_deepest 12 = .ok (.aload_n 0, 1) := by decide +kernel
theorem dX11_deepest_13 : decode cX11_deepest 13 = .ok (.iconst 1, 1) := by decide +kernel
theorem dX11_deepest_14 : decode cX11_deepest 14 = .ok (.invokevirtual 102, 3) := by decide +kernel
theorem dX11_deepest_17 : decode cX11_deepest 17 = .ok (.ireturn, 1) := by decide +kernel
theorem dX11_deepest_18 : decode cX11_deepest 18 = .ok (.iconst (-1), 1) := by decide +kernel
theorem dX11_deepest_19 : decode cX11_deepest 19 = .ok (.istore_n 2, 1) := by decide +kernel
theorem dX11_deepest_20 : decode cX11_deepest 20 = .ok (.iconst (-1), 1) := by decide +kernel
theorem dX11_deepest_21 : decode cX11_deepest 21 = .ok (.istore_n 3, 1) := by decide +kernel
theorem dX11_deepest_22 : decode cX11_deepest 22 = .ok (.iconst 0, 1) := by decide +kernel
theorem dX11_deepest_23 : decode cX11_deepest 23 = .ok (.istore 4, 2) := by decide +kernel
theorem dX11_deepest_25 : decode cX11_deepest 25 = .ok (.iload 4, 2) := by decide +kernel
theorem dX11_deepest_27 : decode cX11_deepest 27 = .ok (.aload_n 0, 1) := by decide +kernel
theorem dX11_deepest_28 : decode cX11_deepest 28 = .ok (.getfield 7, 3) := by decide +kernel
theorem dX11_deepest_31 : decode cX11_deepest 31 = .ok (.iconst 1, 1) := by decide +kernel
theorem dX11_deepest_32 : decode cX11_deepest 32 = .ok (.iaload, 1) := by decide +kernel
theorem dX11_deepest_33 : decode cX11_deepest 33 = .ok (.if_icmp .ge 51, 3) := by decide +kernel
theorem dX11_deepest_36 : decode cX11_deepest 36 = .ok (.aload_n 0, 1) := by decide +kernel
theorem dX11_deepest_37 : decode cX11_deepest 37 = .ok (.iload_n 1, 1) := by decide +kernel
theorem dX11_deepest_38 : decode cX11_deepest 38 = .ok (.iload 4, 2) := by decide +kernel
theorem dX11_deepest_40 : decode cX11_deepest 40 = .ok (.invokevirtual 351, 3) := by decide +kernel
theorem dX11_deepest_43 : decode cX11_deepest 43 = .ok (.istore 5, 2) := by decide +kernel
theorem dX11_deepest_45 : decode cX11_deepest 45 = .ok (.iload 5, 2) := by decide +kernel
theorem dX11_deepest_47 : decode cX11_deepest 47 = .ok (.iconst (-1), 1) := by decide +kernel
theorem dX11_deepest_48 : decode cX11_deepest 48 = .ok (.if_icmp .eq 30, 3) := by decide +kernel
theorem dX11_deepest_51 : decode cX11_deepest 51 = .ok (.aload_n 0, 1) := by decide +kernel
theorem dX11_deepest_52 : decode cX11_deepest 52 = .ok (.iload 4, 2) := by decide +kernel
theorem dX11_deepest_54 : decode cX11_deepest 54 = .ok (.iload 5, 2) := by decide +kernel
theorem dX11_deepest_56 : decode cX11_deepest 56 = .ok (.invokevirtual 314, 3) := by decide +kernel
theorem dX11_deepest_59 : decode cX11_deepest 59 = .ok (.iload_n 3, 1) := by decide +kernel
theorem dX11_deepest_60 : decode cX11_deepest 60 = .ok (.if_icmp .gt 6, 3) := by decide +kernel
theorem dX11_deepest_63 : decode cX11_deepest 63 = .ok (.goto 15, 3) := by decide +kernel
theorem dX11_deepest_66 : decode cX11_deepest 66 = .ok (.aload_n 0, 1) := by decide +kernel
theorem dX11_deepest_67 : decode cX11_deepest 67 = .ok (.iload 4, 2) := by decide +kernel
theorem dX11_deepest_69 : decode cX11_deepest 69 = .ok (.iload 5, 2) := by decide +kernel
theorem dX11_deepest_71 : decode cX11_deepest 71 = .ok (.invokevirtual 314, 3) := by decide +kernel
theorem dX11_deepest_74 : decode cX11_deepest 74 = .ok (.istore_n 3, 1) := by decide +kernel
theorem dX11_deepest_75 : decode cX11_deepest 75 = .ok (.iload 4, 2) := by decide +kernel
theorem dX11_deepest_77 : decode cX11_deepest 77 = .ok (.istore_n 2, 1) := by decide +kernel
theorem dX11_deepest_78 : decode cX11_deepest 78 = .ok (.iinc 4 1, 3) := by decide +kernel
theorem dX11_deepest_81 : decode cX11_deepest 81 = .ok (.goto (-56), 3) := by decide +kernel
theorem dX11_deepest_84 : decode cX11_deepest 84 = .ok (.aload_n 0, 1) := by decide +kernel
theorem dX11_deepest_85 : decode cX11_deepest 85 = .ok (.iload_n 2, 1) := by decide +kernel
theorem dX11_deepest_86 : decode cX11_deepest 86 = .ok (.invokevirtual 106, 3) := by decide +kernel
theorem dX11_deepest_89 : decode cX11_deepest 89 = .ok (.ireturn, 1) := by decide +kernel
theorem dX11_shared_0 : decode cX11_shared 0 = .ok (.aload_n 0, 1) := by decide +kernel
theorem dX11_shared_1 : decode cX11_shared 1 = .ok (.iload_n 1, 1) := by decide +kernel
theorem dX11_shared_2 : decode cX11_shared 2 = .ok (.invokevirtual 302, 3) := by decide +kernel
theorem dX11_shared_5 : decode cX11_shared 5 = .ok (.ifCond .eq 16, 3) := by decide +kernel
theorem dX11_shared_8 : decode cX11_shared 8 = .ok (.aload_n 0, 1) := by decide +kernel
theorem dX11_shared_9 : decode cX11_shared 9 = .ok (.iload_n 2, 1) := by decide +kernel
theorem dX11_shared_10 : decode cX11_shared 10 = .ok (.invokevirtual 302, 3) := by decide +kernel
theorem dX11_shared_13 : decode cX11_shared 13 = .ok (.ifCond .eq 8, 3) := by decide +kernel
theorem dX11_shared_16 : decode cX11_shared 16 = .ok (.iload_n 1, 1) := by decide +kernel
theorem dX11_shared_17 : decode cX11_shared 17 = .ok (.iload_n 2, 1) := by decide +kernel
theorem dX11_shared_18 : decode cX11_shared 18 = .ok (.if_icmp .ne 9, 3) := by decide +kernel
theorem dX11_shared_21 : decode cX11_shared 21 = .ok (.aload_n 0, 1) := by decide +kernel
theorem dX11_shared_22 : decode cX11_shared 22 = .ok (.iconst 1, 1) := by decide +kernel
theorem dX11_shared_23 : decode cX11_shared 23 = .ok (.invokevirtual 102, 3) := by decide +kernel
theorem dX11_shared_26 : decode cX11_shared 26 = .ok (.ireturn, 1) := by decide +kernel
theorem dX11_shared_27 : decode cX11_shared 27 = .ok (.aload_n 0, 1) := by decide +kernel
theorem dX11_shared_28 : decode cX11_shared 28 = .ok (.invokevirtual 348, 3) := by decide +kernel
theorem dX11_shared_31 : decode cX11_shared 31 = .ok (.iconst 0, 1) := by decide +kernel
theorem dX11_shared_32 : decode cX11_shared 32 = .ok (.istore_n 3, 1) := by decide +kernel
theorem dX11_shared_33 : decode cX11_shared 33 = .ok (.iconst 0, 1) := by decide +kernel
theorem dX11_shared_34 : decode cX11_shared 34 = .ok (.istore 4, 2) := by decide +kernel
theorem dX11_shared_36 : decode cX11_shared 36 = .ok (.iload 4, 2) := by decide +kernel
theorem dX11_shared_38 : decode cX11_shared 38 = .ok (.aload_n 0, 1) := by decide +kernel
theorem dX11_shared_39 : decode cX11_shared 39 = .ok (.getfield 345, 3) := by decide +kernel
theorem dX11_shared_42 : decode cX11_shared 42 = .ok (.if_icmp .ge 39, 3) := by decide +kernel
theorem dX11_shared_45 : decode cX11_shared 45 = .ok (.iload_n 3, 1) := by decide +kernel
theorem dX11_shared_46 : decode cX11_shared 46 = .ok (.aload_n 0, 1) := by decide +kernel
theorem dX11_shared_47 : decode cX11_shared 47 = .ok (.iload 4, 2) := by decide +kernel
theorem dX11_shared_49 : decode cX11_shared 49 = .ok (.iload_n 1, 1) := by decide +kernel
theorem dX11_shared_50 : decode cX11_shared 50 = .ok (.invokevirtual 351, 3) := by decide +kernel
theorem dX11_shared_53 : decode cX11_shared 53 = .ok (.iconst (-1), 1) := by decide +kernel
theorem dX11_shared_54 : decode cX11_shared 54 = .ok (.if_icmp .eq 18, 3) := by decide +kernel
theorem dX11_shared_57 : decode cX11_shared 57 = .ok (.aload_n 0, 1) := by decide +kernel
theorem dX11_shared_58 : decode cX11_shared 58 = .ok (.iload 4, 2) := by decide +kernel
theorem dX11_shared_60 : decode cX11_shared 60 = .ok (.iload_n 2, 1) := by decide +kernel
theorem dX11_shared_61 : decode cX11_shared 61 = .ok (.invokevirtual 351, 3) := by decide +kernel
theorem dX11_shared_64 : decode cX11_shared 64 = .ok (.iconst (-1), 1) := by decide +kernel
theorem dX11_shared_65 : decode cX11_shared 65 = .ok (.if_icmp .eq 7, 3) := by decide +kernel
theorem dX11_shared_68 : decode cX11_shared 68 = .ok (.iconst 1, 1) := by decide +kernel
theorem dX11_shared_69 : decode cX11_shared 69 = .ok (.goto 4, 3) := by decide +kernel
theorem dX11_shared_72 : decode cX11_shared 72 = .ok (.iconst 0, 1) := by decide +kernel
theorem dX11_shared_73 : decode cX11_shared 73 = .ok (.iadd, 1) := by decide +kernel
theorem dX11_shared_74 : decode cX11_shared 74 = .ok (.istore_n 3, 1) := by decide +kernel
theorem dX11_shared_75 : decode cX11_shared 75 = .ok (.iinc 4 1, 3) := by decide +kernel
theorem dX11_shared_78 : decode cX11_shared 78 = .ok (.goto (-42), 3) := by decide +kernel
theorem dX11_shared_81 : decode cX11_shared 81 = .ok (.aload_n 0, 1) := by decide +kernel
theorem dX11_shared_82 : decode cX11_shared 82 = .ok (.iload_n 3, 1) := by decide +kernel
theorem dX11_shared_83 : decode cX11_shared 83 = .ok (.invokevirtual 106, 3) := by decide +kernel
theorem dX11_shared_86 : decode cX11_shared 86 = .ok (.ireturn, 1) := by decide +kernel
theorem dX11_gaps_0 : decode cX11_gaps 0 = .ok (.aload_n 0, 1) := by decide +kernel
theorem dX11_gaps_1 : decode cX11_gaps 1 = .ok (.iload_n 1, 1) := by decide +kernel
theorem dX11_gaps_2 : decode cX11_gaps 2 = .ok (.invokevirtual 302, 3) := by decide +kernel
theorem dX11_gaps_5 : decode cX11_gaps 5 = .ok (.ifCond .ne 9, 3) := by decide +kernel
theorem dX11_gaps_8 : decode cX11_gaps 8 = .ok (.aload_n 0, 1) := by decide +kernel
theorem dX11_gaps_9 : decode cX11_gaps 9 = .ok (.iconst 1, 1) := by decide +kernel
theorem dX11_gaps_10 : decode cX11_gaps 10 = .ok (.invokevirtual 102, 3) := by decide +kernel
theorem dX11_gaps_13 : decode cX11_gaps 13 = .ok (.ireturn, 1) := by decide +kernel
theorem dX11_gaps_14 : decode cX11_gaps 14 = .ok (.aload_n 0, 1) := by decide +kernel
theorem dX11_gaps_15 : decode cX11_gaps 15 = .ok (.invokevirtual 348, 3) := by decide +kernel
theorem dX11_gaps_18 : decode cX11_gaps 18 = .ok (.iconst 0, 1) := by decide +kernel
theorem dX11_gaps_19 : decode cX11_gaps 19 = .ok (.istore_n 2, 1) := by decide +kernel
theorem dX11_gaps_20 : decode cX11_gaps 20 = .ok (.iconst 0, 1) := by decide +kernel
theorem dX11_gaps_21 : decode cX11_gaps 21 = .ok (.istore_n 3, 1) := by decide +kernel
theorem dX11_gaps_22 : decode cX11_gaps 22 = .ok (.iload_n 3, 1) := by decide +kernel
theorem dX11_gaps_23 : decode cX11_gaps 23 = .ok (.aload_n 0, 1) := by decide +kernel
theorem dX11_gaps_24 : decode cX11_gaps 24 = .ok (.getfield 345, 3) := by decide +kernel
theorem dX11_gaps_27 : decode cX11_gaps 27 = .ok (.if_icmp .ge 119, 3) := by decide +kernel
theorem dX11_gaps_30 : decode cX11_gaps 30 = .ok (.iconst 0, 1) := by decide +kernel
theorem dX11_gaps_31 : decode cX11_gaps 31 = .ok (.istore 4, 2) := by decide +kernel
theorem dX11_gaps_33 : decode cX11_gaps 33 = .ok (.iconst 0, 1) := by decide +kernel
theorem dX11_gaps_34 : decode cX11_gaps 34 = .ok (.istore 5, 2) := by decide +kernel
theorem dX11_gaps_36 : decode cX11_gaps 36 = .ok (.iconst 0, 1) := by decide +kernel
theorem dX11_gaps_37 : decode cX11_gaps 37 = .ok (.istore 6, 2) := by decide +kernel
theorem dX11_gaps_39 : decode cX11_gaps 39 = .ok (.iload 6, 2) := by decide +kernel
theorem dX11_gaps_41 : decode cX11_gaps 41 = .ok (.aload_n 0, 1) := by decide +kernel
theorem dX11_gaps_42 : decode cX11_gaps 42 = .ok (.getfield 345, 3) := by decide +kernel
theorem dX11_gaps_45 : decode cX11_gaps 45 = .ok (.if_icmp .ge 67, 3) := by decide +kernel
theorem dX11_gaps_48 : decode cX11_gaps 48 = .ok (.aload_n 0, 1) := by decide +kernel
theorem dX11_gaps_49 : decode cX11_gaps 49 = .ok (.iload 6, 2) := by decide +kernel
theorem dX11_gaps_51 : decode cX11_gaps 51 = .ok (.iload_n 1, 1) := by decide +kernel
theorem dX11_gaps_52 : decode cX11_gaps 52 = .ok (.invokevirtual 351, 3) := by decide +kernel
theorem dX11_gaps_55 : decode cX11_gaps 55 = .ok (.iconst (-1), 1) := by decide +kernel
theorem dX11_gaps_56 : decode cX11_gaps 56 = .ok (.if_icmp .ne 6, 3) := by decide +kernel
theorem dX11_gaps_59 : decode cX11_gaps 59 = .ok (.goto 47, 3) := by decide +kernel
theorem dX11_gaps_62 : decode cX11_gaps 62 = .ok (.iload 4, 2) := by decide +kernel
theorem dX11_gaps_64 : decode cX11_gaps 64 = .ok (.ifCond .ne 13, 3) := by decide +kernel
theorem dX11_gaps_67 : decode cX11_gaps 67 = .ok (.aload_n 0, 1) := by decide +kernel
theorem dX11_gaps_68 : decode cX11_gaps 68 = .ok (.iload 6, 2) := by decide +kernel
theorem dX11_gaps_70 : decode cX11_gaps 70 = .ok (.iload_n 3, 1) := by decide +kernel
theorem dX11_gaps_71 : decode cX11_gaps 71 = .ok (.invokevirtual 363, 3) := by decide +kernel
theorem dX11_gaps_74 : decode cX11_gaps 74 = .ok (.ifCond .eq 7, 3) := by decide +kernel
theorem dX11_gaps_77 : decode cX11_gaps 77 = .ok (.iconst 1, 1) := by decide +kernel
theorem dX11_gaps_78 : decode cX11_gaps 78 = .ok (.goto 4, 3) := by decide +kernel
theorem dX11_gaps_81 : decode cX11_gaps 81 = .ok (.iconst 0, 1) := by decide +kernel
theorem dX11_gaps_82 : decode cX11_gaps 82 = .ok (.istore 4, 2) := by decide +kernel
theorem dX11_gaps_84 : decode cX11_gaps 84 = .ok (.iload 5, 2) := by decide +kernel
theorem dX11_gaps_86 : decode cX11_gaps 86 = .ok (.ifCond .ne 13, 3) := by decide +kernel
theorem dX11_gaps_89 : decode cX11_gaps 89 = .ok (.aload_n 0, 1) := by decide +kernel
theorem dX11_gaps_90 : decode cX11_gaps 90 = .ok (.iload_n 3, 1) := by decide +kernel
theorem dX11_gaps_91 : decode cX11_gaps 91 = .ok (.iload 6, 2) := by decide +kernel
theorem dX11_gaps_93 : decode cX11_gaps 93 = .ok (.invokevirtual 363, 3) := by decide +kernel
theorem dX11_gaps_96 : decode cX11_gaps 96 = .ok (.ifCond .eq 7, 3) := by decide +kernel
theorem dX11_gaps_99 : decode cX11_gaps 99 = .ok (.iconst 1, 1) := by decide +kernel
theorem dX11_gaps_100 : decode cX11_gaps 100 = .ok (.goto 4, 3) := by decide +kernel
theorem dX11_gaps_103 : decode cX11_gaps 103 = .ok (.iconst 0, 1) := by decide +kernel
theorem dX11_gaps_104 : decode cX11_gaps 104 = .ok (.istore 5, 2) := by decide +kernel
theorem dX11_gaps_106 : decode cX11_gaps 106 = .ok (.iinc 6 1, 3) := by decide +kernel
theorem dX11_gaps_109 : decode cX11_gaps 109 = .ok (.goto (-70), 3) := by decide +kernel
theorem dX11_gaps_112 : decode cX11_gaps 112 = .ok (.iload_n 2, 1) := by decide +kernel
theorem dX11_gaps_113 : decode cX11_gaps 113 = .ok (.aload_n 0, 1) := by decide +kernel
theorem dX11_gaps_114 : decode cX11_gaps 114 = .ok (.iload_n 3, 1) := by decide +kernel
theorem dX11_gaps_115 : decode cX11_gaps 115 = .ok (.iload_n 1, 1) := by decide +kernel
theorem dX11_gaps_116 : decode cX11_gaps 116 = .ok (.invokevirtual 351, 3) := by decide +kernel
theorem dX11_gaps_119 : decode cX11_gaps 119 = .ok (.iconst (-1), 1) := by decide +kernel
theorem dX11_gaps_120 : decode cX11_gaps 120 = .ok (.if_icmp .ne 17, 3) := by decide +kernel
theorem dX11_gaps_123 : decode cX11_gaps 123 = .ok (.iload 4, 2) := by decide +kernel
theorem dX11_gaps_125 : decode cX11_gaps 125 = .ok (.ifCond .eq 12, 3) := by decide +kernel
theorem dX11_gaps_128 : decode cX11_gaps 128 = .ok (.iload 5, 2) := by decide +kernel
theorem dX11_gaps_130 : decode cX11_gaps 130 = .ok (.ifCond .eq 7, 3) := by decide +kernel
theorem dX11_gaps_133 : decode cX11_gaps 133 = .ok (.iconst 1, 1) := by decide +kernel
theorem dX11_gaps_134 : decode cX11_gaps 134 = .ok (.goto 4, 3) := by decide +kernel
theorem dX11_gaps_137 : decode cX11_gaps 137 = .ok (.iconst 0, 1) := by decide +kernel
theorem dX11_gaps_138 : decode cX11_gaps 138 = .ok (.iadd, 1) := by decide +kernel
theorem dX11_gaps_139 : decode cX11_gaps 139 = .ok (.istore_n 2, 1) := by decide +kernel
theorem dX11_gaps_140 : decode cX11_gaps 140 = .ok (.iinc 3 1, 3) := by decide +kernel
theorem dX11_gaps_143 : decode cX11_gaps 143 = .ok (.goto (-121), 3) := by decide +kernel
theorem dX11_gaps_146 : decode cX11_gaps 146 = .ok (.aload_n 0, 1) := by decide +kernel
theorem dX11_gaps_147 : decode cX11_gaps 147 = .ok (.iload_n 2, 1) := by decide +kernel
theorem dX11_gaps_148 : decode cX11_gaps 148 = .ok (.invokevirtual 106, 3) := by decide +kernel
theorem dX11_gaps_151 : decode cX11_gaps 151 = .ok (.ireturn, 1) := by decide +kernel
theorem dX11_wrongLog_0 : decode cX11_wrongLog 0 = .ok (.iload_n 1, 1) := by decide +kernel
theorem dX11_wrongLog_1 : decode cX11_wrongLog 1 = .ok (.invokestatic 113, 3) := by decide +kernel
theorem dX11_wrongLog_4 : decode cX11_wrongLog 4 = .ok (.ifCond .eq 14, 3) := by decide +kernel
theorem dX11_wrongLog_7 : decode cX11_wrongLog 7 = .ok (.iload_n 2, 1) := by decide +kernel
theorem dX11_wrongLog_8 : decode cX11_wrongLog 8 = .ok (.iconst 1, 1) := by decide +kernel
theorem dX11_wrongLog_9 : decode cX11_wrongLog 9 = .ok (.if_icmp .lt 9, 3) := by decide +kernel
theorem dX11_wrongLog_12 : decode cX11_wrongLog 12 = .ok (.iload_n 2, 1) := by decide +kernel
theorem dX11_wrongLog_13 : decode cX11_wrongLog 13 = .ok (.bipush 60, 2) := by decide +kernel
theorem dX11_wrongLog_15 : decode cX11_wrongLog 15 = .ok (.if_icmp .le 5, 3) := by decide +kernel
theorem dX11_wrongLog_18 : decode cX11_wrongLog 18 = .ok (.iconst 1, 1) := by decide +kernel
theorem dX11_wrongLog_19 : decode cX11_wrongLog 19 = .ok (.ireturn, 1) := by decide +kernel
theorem dX11_wrongLog_20 : decode cX11_wrongLog 20 = .ok (.aload_n 0, 1) := by decide +kernel
theorem dX11_wrongLog_21 : decode cX11_wrongLog 21 = .ok (.getfield 24, 3) := by decide +kernel
theorem dX11_wrongLog_24 : decode cX11_wrongLog 24 = .ok (.iload_n 1, 1) := by decide +kernel
theorem dX11_wrongLog_25 : decode cX11_wrongLog 25 = .ok (.iaload, 1) := by decide +kernel
theorem dX11_wrongLog_26 : decode cX11_wrongLog 26 = .ok (.iconst (-1), 1) := by decide +kernel
theorem dX11_wrongLog_27 : decode cX11_wrongLog 27 = .ok (.if_icmp .ne 5, 3) := by decide +kernel
theorem dX11_wrongLog_30 : decode cX11_wrongLog 30 = .ok (.iconst 2, 1) := by decide +kernel
theorem dX11_wrongLog_31 : decode cX11_wrongLog 31 = .ok (.ireturn, 1) := by decide +kernel
theorem dX11_wrongLog_32 : decode cX11_wrongLog 32 = .ok (.aload_n 0, 1) := by decide +kernel
theorem dX11_wrongLog_33 : decode cX11_wrongLog 33 = .ok (.getfield 24, 3) := by decide +kernel
theorem dX11_wrongLog_36 : decode cX11_wrongLog 36 = .ok (.iload_n 1, 1) := by decide +kernel
theorem dX11_wrongLog_37 : decode cX11_wrongLog 37 = .ok (.iaload, 1) := by decide +kernel
theorem dX11_wrongLog_38 : decode cX11_wrongLog 38 = .ok (.iload_n 2, 1) := by decide +kernel
theorem dX11_wrongLog_39 : decode cX11_wrongLog 39 = .ok (.if_icmp .ge 5, 3) := by decide +kernel
theorem dX11_wrongLog_42 : decode cX11_wrongLog 42 = .ok (.iconst 3, 1) := by decide +kernel
theorem dX11_wrongLog_43 : decode cX11_wrongLog 43 = .ok (.ireturn, 1) := by decide +kernel
theorem dX11_wrongLog_44 : decode cX11_wrongLog 44 = .ok (.iconst 0, 1) := by decide +kernel
theorem dX11_wrongLog_45 : decode cX11_wrongLog 45 = .ok (.istore 5, 2) := by decide +kernel
theorem dX11_wrongLog_47 : decode cX11_wrongLog 47 = .ok (.iload 5, 2) := by decide +kernel
theorem dX11_wrongLog_49 : decode cX11_wrongLog 49 = .ok (.iload_n 2, 1) := by decide +kernel
theorem dX11_wrongLog_50 : decode cX11_wrongLog 50 = .ok (.if_icmp .ge 33, 3) := by decide +kernel
theorem dX11_wrongLog_53 : decode cX11_wrongLog 53 = .ok (.aload_n 0, 1) := by decide +kernel
theorem dX11_wrongLog_54 : decode cX11_wrongLog 54 = .ok (.getfield 27, 3) := by decide +kernel
theorem dX11_wrongLog_57 : decode cX11_wrongLog 57 = .ok (.bipush 60, 2) := by decide +kernel
theorem dX11_wrongLog_59 : decode cX11_wrongLog 59 = .ok (.iload_n 1, 1) := by decide +kernel
theorem dX11_wrongLog_60 : decode cX11_wrongLog 60 = .ok (.imul, 1) := by decide +kernel
theorem dX11_wrongLog_61 : decode cX11_wrongLog 61 = .ok (.iload 5, 2) := by decide +kernel
theorem dX11_wrongLog_63 : decode cX11_wrongLog 63 = .ok (.iadd, 1) := by decide +kernel
theorem dX11_wrongLog_64 : decode cX11_wrongLog 64 = .ok (.laload, 1) := by decide +kernel
theorem dX11_wrongLog_65 : decode cX11_wrongLog 65 = .ok (.ldc2_w 124, 3) := by decide +kernel
theorem dX11_wrongLog_68 : decode cX11_wrongLog 68 = .ok (.lload_n 3, 1) := by decide +kernel
theorem dX11_wrongLog_69 : decode cX11_wrongLog 69 = .ok (.invokestatic 399, 3) := by decide +kernel
theorem dX11_wrongLog_72 : decode cX11_wrongLog 72 = .ok (.ifCond .ne 5, 3) := by decide +kernel
theorem dX11_wrongLog_75 : decode cX11_wrongLog 75 = .ok (.iconst 5, 1) := by decide +kernel
theorem dX11_wrongLog_76 : decode cX11_wrongLog 76 = .ok (.ireturn, 1) := by decide +kernel
theorem dX11_wrongLog_77 : decode cX11_wrongLog 77 = .ok (.iinc 5 1, 3) := by decide +kernel
theorem dX11_wrongLog_80 : decode cX11_wrongLog 80 = .ok (.goto (-33), 3) := by decide +kernel
theorem dX11_wrongLog_83 : decode cX11_wrongLog 83 = .ok (.iconst 0, 1) := by decide +kernel
theorem dX11_wrongLog_84 : decode cX11_wrongLog 84 = .ok (.ireturn, 1) := by decide +kernel
theorem dX11_logAt_0 : decode cX11_logAt 0 = .ok (.aload_n 0, 1) := by decide +kernel
theorem dX11_logAt_1 : decode cX11_logAt 1 = .ok (.getfield 27, 3) := by decide +kernel
theorem dX11_logAt_4 : decode cX11_logAt 4 = .ok (.bipush 60, 2) := by decide +kernel
theorem dX11_logAt_6 : decode cX11_logAt 6 = .ok (.iload_n 1, 1) := by decide +kernel
theorem dX11_logAt_7 : decode cX11_logAt 7 = .ok (.imul, 1) := by decide +kernel
theorem dX11_logAt_8 : decode cX11_logAt 8 = .ok (.iload_n 2, 1) := by decide +kernel
theorem dX11_logAt_9 : decode cX11_logAt 9 = .ok (.iadd, 1) := by decide +kernel
theorem dX11_logAt_10 : decode cX11_logAt 10 = .ok (.laload, 1) := by decide +kernel
theorem dX11_logAt_11 : decode cX11_logAt 11 = .ok (.lreturn, 1) := by decide +kernel
theorem dX11_isPick_0 : decode cX11_isPick 0 = .ok (.aload_n 0, 1) := by decide +kernel
theorem dX11_isPick_1 : decode cX11_isPick 1 = .ok (.iload_n 1, 1) := by decide +kernel
theorem dX11_isPick_2 : decode cX11_isPick 2 = .ok (.iload 5, 2) := by decide +kernel
theorem dX11_isPick_4 : decode cX11_isPick 4 = .ok (.invokevirtual 415, 3) := by decide +kernel
theorem dX11_isPick_7 : decode cX11_isPick 7 = .ok (.iload_n 3, 1) := by decide +kernel
theorem dX11_isPick_8 : decode cX11_isPick 8 = .ok (.i2l, 1) := by decide +kernel
theorem dX11_isPick_9 : decode cX11_isPick 9 = .ok (.lcmp, 1) := by decide +kernel
theorem dX11_isPick_10 : decode cX11_isPick 10 = .ok (.ifCond .lt 48, 3) := by decide +kernel
theorem dX11_isPick_13 : decode cX11_isPick 13 = .ok (.aload_n 0, 1) := by decide +kernel
theorem dX11_isPick_14 : decode cX11_isPick 14 = .ok (.iload_n 1, 1) := by decide +kernel
theorem dX11_isPick_15 : decode cX11_isPick 15 = .ok (.iload 5, 2) := by decide +kernel
theorem dX11_isPick_17 : decode cX11_isPick 17 = .ok (.invokevirtual 415, 3) := by decide +kernel
theorem dX11_isPick_20 : decode cX11_isPick 20 = .ok (.ldc2_w 124, 3) := by decide +kernel
theorem dX11_isPick_23 : decode cX11_isPick 23 = .ok (.lcmp, 1) := by decide +kernel
theorem dX11_isPick_24 : decode cX11_isPick 24 = .ok (.ifCond .eq 34, 3) := by decide +kernel
theorem dX11_isPick_27 : decode cX11_isPick 27 = .ok (.aload_n 0, 1) := by decide +kernel
theorem dX11_isPick_28 : decode cX11_isPick 28 = .ok (.iload_n 1, 1) := by decide +kernel
theorem dX11_isPick_29 : decode cX11_isPick 29 = .ok (.iload 5, 2) := by decide +kernel
theorem dX11_isPick_31 : decode cX11_isPick 31 = .ok (.iconst 1, 1) := by decide +kernel
theorem dX11_isPick_32 : decode cX11_isPick 32 = .ok (.isub, 1) := by decide +kernel
theorem dX11_isPick_33 : decode cX11_isPick 33 = .ok (.invokevirtual 415, 3) := by decide +kernel
theorem dX11_isPick_36 : decode cX11_isPick 36 = .ok (.iload_n 3, 1) := by decide +kernel
theorem dX11_isPick_37 : decode cX11_isPick 37 = .ok (.i2l, 1) := by decide +kernel
theorem dX11_isPick_38 : decode cX11_isPick 38 = .ok (.lcmp, 1) := by decide +kernel
theorem dX11_isPick_39 : decode cX11_isPick 39 = .ok (.ifCond .ge 19, 3) := by decide +kernel
theorem dX11_isPick_42 : decode cX11_isPick 42 = .ok (.aload_n 0, 1) := by decide +kernel
theorem dX11_isPick_43 : decode cX11_isPick 43 = .ok (.iload_n 1, 1) := by decide +kernel
theorem dX11_isPick_44 : decode cX11_isPick 44 = .ok (.iload 5, 2) := by decide +kernel
theorem dX11_isPick_46 : decode cX11_isPick 46 = .ok (.iconst 1, 1) := by decide +kernel
theorem dX11_isPick_47 : decode cX11_isPick 47 = .ok (.isub, 1) := by decide +kernel
theorem dX11_isPick_48 : decode cX11_isPick 48 = .ok (.invokevirtual 415, 3) := by decide +kernel
theorem dX11_isPick_51 : decode cX11_isPick 51 = .ok (.ldc2_w 124, 3) := by decide +kernel
theorem dX11_isPick_54 : decode cX11_isPick 54 = .ok (.lcmp, 1) := by decide +kernel
theorem dX11_isPick_55 : decode cX11_isPick 55 = .ok (.ifCond .ne 5, 3) := by decide +kernel
theorem dX11_isPick_58 : decode cX11_isPick 58 = .ok (.iconst 0, 1) := by decide +kernel
theorem dX11_isPick_59 : decode cX11_isPick 59 = .ok (.ireturn, 1) := by decide +kernel
theorem dX11_isPick_60 : decode cX11_isPick 60 = .ok (.iload 5, 2) := by decide +kernel
theorem dX11_isPick_62 : decode cX11_isPick 62 = .ok (.iconst 1, 1) := by decide +kernel
theorem dX11_isPick_63 : decode cX11_isPick 63 = .ok (.iadd, 1) := by decide +kernel
theorem dX11_isPick_64 : decode cX11_isPick 64 = .ok (.istore 6, 2) := by decide +kernel
theorem dX11_isPick_66 : decode cX11_isPick 66 = .ok (.iload 6, 2) := by decide +kernel
theorem dX11_isPick_68 : decode cX11_isPick 68 = .ok (.iload_n 2, 1) := by decide +kernel
theorem dX11_isPick_69 : decode cX11_isPick 69 = .ok (.if_icmp .ge 48, 3) := by decide +kernel
theorem dX11_isPick_72 : decode cX11_isPick 72 = .ok (.iload 6, 2) := by decide +kernel
theorem dX11_isPick_74 : decode cX11_isPick 74 = .ok (.iload 5, 2) := by decide +kernel
theorem dX11_isPick_76 : decode cX11_isPick 76 = .ok (.iload 4, 2) := by decide +kernel
theorem dX11_isPick_78 : decode cX11_isPick 78 = .ok (.iadd, 1) := by decide +kernel
theorem dX11_isPick_79 : decode cX11_isPick 79 = .ok (.if_icmp .ge 38, 3) := by decide +kernel
theorem dX11_isPick_82 : decode cX11_isPick 82 = .ok (.aload_n 0, 1) := by decide +kernel
theorem dX11_isPick_83 : decode cX11_isPick 83 = .ok (.iload_n 1, 1) := by decide +kernel
theorem dX11_isPick_84 : decode cX11_isPick 84 = .ok (.iload 6, 2) := by decide +kernel
theorem dX11_isPick_86 : decode cX11_isPick 86 = .ok (.invokevirtual 415, 3) := by decide +kernel
theorem dX11_isPick_89 : decode cX11_isPick 89 = .ok (.ldc2_w 124, 3) := by decide +kernel
theorem dX11_isPick_92 : decode cX11_isPick 92 = .ok (.lcmp, 1) := by decide +kernel
theorem dX11_isPick_93 : decode cX11_isPick 93 = .ok (.ifCond .eq 18, 3) := by decide +kernel
theorem dX11_isPick_96 : decode cX11_isPick 96 = .ok (.aload_n 0, 1) := by decide +kernel
theorem dX11_isPick_97 : decode cX11_isPick 97 = .ok (.iload_n 1, 1) := by decide +kernel
theorem dX11_isPick_98 : decode cX11_isPick 98 = .ok (.iload 6, 2) := by decide +kernel
theorem dX11_isPick_100 : decode cX11_isPick 100 = .ok (.invokevirtual 415, 3) := by decide +kernel
theorem dX11_isPick_103 : decode cX11_isPick 103 = .ok (.iload_n 3, 1) := by decide +kernel
theorem dX11_isPick_104 : decode cX11_isPick 104 = .ok (.i2l, 1) := by decide +kernel
theorem dX11_isPick_105 : decode cX11_isPick 105 = .ok (.lcmp, 1) := by decide +kernel
theorem dX11_isPick_106 : decode cX11_isPick 106 = .ok (.ifCond .ge 5, 3) := by decide +kernel
theorem dX11_isPick_109 : decode cX11_isPick 109 = .ok (.iconst 0, 1) := by decide +kernel
theorem dX11_isPick_110 : decode cX11_isPick 110 = .ok (.ireturn, 1) := by decide +kernel
theorem dX11_isPick_111 : decode cX11_isPick 111 = .ok (.iinc 6 1, 3) := by decide +kernel
theorem dX11_isPick_114 : decode cX11_isPick 114 = .ok (.goto (-48), 3) := by decide +kernel
theorem dX11_isPick_117 : decode cX11_isPick 117 = .ok (.iconst 1, 1) := by decide +kernel
theorem dX11_isPick_118 : decode cX11_isPick 118 = .ok (.ireturn, 1) := by decide +kernel
theorem dX11_picks_0 : decode cX11_picks 0 = .ok (.iload 4, 2) := by decide +kernel
theorem dX11_picks_2 : decode cX11_picks 2 = .ok (.i2l, 1) := by decide +kernel
theorem dX11_picks_3 : decode cX11_picks 3 = .ok (.lconst 1, 1) := by decide +kernel
theorem dX11_picks_4 : decode cX11_picks 4 = .ok (.ldc2_w 418, 3) := by decide +kernel
theorem dX11_picks_7 : decode cX11_picks 7 = .ok (.invokestatic 399, 3) := by decide +kernel
theorem dX11_picks_10 : decode cX11_picks 10 = .ok (.ifCond .eq 27, 3) := by decide +kernel
theorem dX11_picks_13 : decode cX11_picks 13 = .ok (.iload_n 3, 1) := by decide +kernel
theorem dX11_picks_14 : decode cX11_picks 14 = .ok (.i2l, 1) := by decide +kernel
theorem dX11_picks_15 : decode cX11_picks 15 = .ok (.lconst 0, 1) := by decide +kernel
theorem dX11_picks_16 : decode cX11_picks 16 = .ok (.ldc2_w 420, 3) := by decide +kernel
theorem dX11_picks_19 : decode cX11_picks 19 = .ok (.invokestatic 399, 3) := by decide +kernel
theorem dX11_picks_22 : decode cX11_picks 22 = .ok (.ifCond .eq 15, 3) := by decide +kernel
theorem dX11_picks_25 : decode cX11_picks 25 = .ok (.aload_n 0, 1) := by decide +kernel
theorem dX11_picks_26 : decode cX11_picks 26 = .ok (.iload_n 1, 1) := by decide +kernel
theorem dX11_picks_27 : decode cX11_picks 27 = .ok (.iload_n 2, 1) := by decide +kernel
theorem dX11_picks_28 : decode cX11_picks 28 = .ok (.ldc2_w 420, 3) := by decide +kernel
theorem dX11_picks_31 : decode cX11_picks 31 = .ok (.invokevirtual 422, 3) := by decide +kernel
theorem dX11_picks_34 : decode cX11_picks 34 = .ok (.goto 4, 3) := by decide +kernel
theorem dX11_picks_37 : decode cX11_picks 37 = .ok (.iconst 1, 1) := by decide +kernel
theorem dX11_picks_38 : decode cX11_picks 38 = .ok (.istore 5, 2) := by decide +kernel
theorem dX11_picks_40 : decode cX11_picks 40 = .ok (.iload 5, 2) := by decide +kernel
theorem dX11_picks_42 : decode cX11_picks 42 = .ok (.ifCond .le 10, 3) := by decide +kernel
theorem dX11_picks_45 : decode cX11_picks 45 = .ok (.aload_n 0, 1) := by decide +kernel
theorem dX11_picks_46 : decode cX11_picks 46 = .ok (.iload 5, 2) := by decide +kernel
theorem dX11_picks_48 : decode cX11_picks 48 = .ok (.invokevirtual 102, 3) := by decide +kernel
theorem dX11_picks_51 : decode cX11_picks 51 = .ok (.ireturn, 1) := by decide +kernel
theorem dX11_picks_52 : decode cX11_picks 52 = .ok (.aload_n 0, 1) := by decide +kernel
theorem dX11_picks_53 : decode cX11_picks 53 = .ok (.iconst 0, 1) := by decide +kernel
theorem dX11_picks_54 : decode cX11_picks 54 = .ok (.putfield 426, 3) := by decide +kernel
theorem dX11_picks_57 : decode cX11_picks 57 = .ok (.iconst 1, 1) := by decide +kernel
theorem dX11_picks_58 : decode cX11_picks 58 = .ok (.istore 6, 2) := by decide +kernel
theorem dX11_picks_60 : decode cX11_picks 60 = .ok (.iload 6, 2) := by decide +kernel
theorem dX11_picks_62 : decode cX11_picks 62 = .ok (.iload_n 2, 1) := by decide +kernel
theorem dX11_picks_63 : decode cX11_picks 63 = .ok (.if_icmp .ge 47, 3) := by decide +kernel
theorem dX11_picks_66 : decode cX11_picks 66 = .ok (.aload_n 0, 1) := by decide +kernel
theorem dX11_picks_67 : decode cX11_picks 67 = .ok (.iload_n 1, 1) := by decide +kernel
theorem dX11_picks_68 : decode cX11_picks 68 = .ok (.iload_n 2, 1) := by decide +kernel
theorem dX11_picks_69 : decode cX11_picks 69 = .ok (.iload_n 3, 1) := by decide +kernel
theorem dX11_picks_70 : decode cX11_picks 70 = .ok (.iload 4, 2) := by decide +kernel
theorem dX11_picks_72 : decode cX11_picks 72 = .ok (.iload 6, 2) := by decide +kernel
theorem dX11_picks_74 : decode cX11_picks 74 = .ok (.invokevirtual 429, 3) := by decide +kernel
theorem dX11_picks_77 : decode cX11_picks 77 = .ok (.ifCond .ne 6, 3) := by decide +kernel
theorem dX11_picks_80 : decode cX11_picks 80 = .ok (.goto 24, 3) := by decide +kernel
theorem dX11_picks_83 : decode cX11_picks 83 = .ok (.aload_n 0, 1) := by decide +kernel
theorem dX11_picks_84 : decode cX11_picks 84 = .ok (.getfield 84, 3) := by decide +kernel
theorem dX11_picks_87 : decode cX11_picks 87 = .ok (.aload_n 0, 1) := by decide +kernel
theorem dX11_picks_88 : decode cX11_picks 88 = .ok (.getfield 426, 3) := by decide +kernel
theorem dX11_picks_91 : decode cX11_picks 91 = .ok (.iload 6, 2) := by decide +kernel
theorem dX11_picks_93 : decode cX11_picks 93 = .ok (.iastore, 1) := by decide +kernel
theorem dX11_picks_94 : decode cX11_picks 94 = .ok (.aload_n 0, 1) := by decide +kernel
theorem dX11_picks_95 : decode cX11_picks 95 = .ok (.dup, 1) := by decide +kernel
theorem dX11_picks_96 : decode cX11_picks 96 = .ok (.getfield 426, 3) := by decide +kernel
theorem dX11_picks_99 : decode cX11_picks 99 = .ok (.iconst 1, 1) := by decide +kernel
theorem dX11_picks_100 : decode cX11_picks 100 = .ok (.iadd, 1) := by decide +kernel
theorem dX11_picks_101 : decode cX11_picks 101 = .ok (.putfield 426, 3) := by decide +kernel
theorem dX11_picks_104 : decode cX11_picks 104 = .ok (.iinc 6 1, 3) := by decide +kernel
theorem dX11_picks_107 : decode cX11_picks 107 = .ok (.goto (-47), 3) := by decide +kernel
theorem dX11_picks_110 : decode cX11_picks 110 = .ok (.aload_n 0, 1) := by decide +kernel
theorem dX11_picks_111 : decode cX11_picks 111 = .ok (.aload_n 0, 1) := by decide +kernel
theorem dX11_picks_112 : decode cX11_picks 112 = .ok (.getfield 426, 3) := by decide +kernel
theorem dX11_picks_115 : decode cX11_picks 115 = .ok (.invokevirtual 106, 3) := by decide +kernel
theorem dX11_picks_118 : decode cX11_picks 118 = .ok (.ireturn, 1) := by decide +kernel
theorem dX11_pickAt_0 : decode cX11_pickAt 0 = .ok (.iload_n 1, 1) := by decide +kernel
theorem dX11_pickAt_1 : decode cX11_pickAt 1 = .ok (.ifCond .lt 11, 3) := by decide +kernel
theorem dX11_pickAt_4 : decode cX11_pickAt 4 = .ok (.iload_n 1, 1) := by decide +kernel
theorem dX11_pickAt_5 : decode cX11_pickAt 5 = .ok (.aload_n 0, 1) := by decide +kernel
theorem dX11_pickAt_6 : decode cX11_pickAt 6 = .ok (.getfield 426, 3) := by decide +kernel
theorem dX11_pickAt_9 : decode cX11_pickAt 9 = .ok (.if_icmp .lt 12, 3) := by decide +kernel
theorem dX11_pickAt_12 : decode cX11_pickAt 12 = .ok (.aload_n 0, 1) := by decide +kernel
theorem dX11_pickAt_13 : decode cX11_pickAt 13 = .ok (.bipush 6, 2) := by decide +kernel
theorem dX11_pickAt_15 : decode cX11_pickAt 15 = .ok (.invokevirtual 102, 3) := by decide +kernel
theorem dX11_pickAt_18 : decode cX11_pickAt 18 = .ok (.goto 13, 3) := by decide +kernel
theorem dX11_pickAt_21 : decode cX11_pickAt 21 = .ok (.aload_n 0, 1) := by decide +kernel
theorem dX11_pickAt_22 : decode cX11_pickAt 22 = .ok (.aload_n 0, 1) := by decide +kernel
theorem dX11_pickAt_23 : decode cX11_pickAt 23 = .ok (.getfield 84, 3) := by decide +kernel
theorem dX11_pickAt_26 : decode cX11_pickAt 26 = .ok (.iload_n 1, 1) := by decide +kernel
theorem dX11_pickAt_27 : decode cX11_pickAt 27 = .ok (.iaload, 1) := by decide +kernel
theorem dX11_pickAt_28 : decode cX11_pickAt 28 = .ok (.invokevirtual 106, 3) := by decide +kernel
theorem dX11_pickAt_31 : decode cX11_pickAt 31 = .ok (.ireturn, 1) := by decide +kernel
def fX11_area (φ : Nat) (t : Nat) (a1 : Int32) (M : Mem) : Option (Int32 × Mem) :=
  (fX11_isTriangle t a1 M).bind fun v1 =>
 if v1 = 0 then
 bd (fX11_is t (1 : Int32) M) fun v2 M3 =>
 if v2 = 0 ∨ v2 = 1 then some (v2, M3) else none
 else
 (fX11_twiceArea t a1 M).bind fun vz5 =>
 (fX11_size vz5 M).bind fun vz6 =>
 bd (fX11_tellsBy φ t vz6 (2 : Int64) M) fun v7 M8 =>
 if v7 = 0 ∨ v7 = 1 then some (v7, M8) else none
set_option maxRecDepth 100000 in
set_option maxHeartbeats 4000000 in
theorem kX11_area (φ : Nat) (t : Nat) (a1 : Int32) (M : Mem) (ht : isO 11 t) (l : Launch) (G : GT) {b : (Int32 × Mem)} (hE : fX11_area φ t a1 M = some b) : Ok l G yX11_area cX11_area 2 (some .boolean) 3 73 [.ref t, .int a1] M ((fun q : Int32 × Mem => (some (Value.int q.1), q.2)) b).1 ((fun q : Int32 × Mem => (some (Value.int q.1), q.2)) b).2 := by
  refine Ok.ofX (pj := (fun q : Int32 × Mem => (some (Value.int q.1), q.2))) (by decide) (Nat.le_of_ble_eq_true rfl) hE (fun J g hr hG hl hR hn => ?_)
  show X J (fun q : Int32 × Mem => (some (Value.int q.1), q.2)) (fX11_area φ t a1 M) 0 [(0, .ref t), (1, .int a1)] [] M
  unfold fX11_area
  exact (x_aload_n g 0 dX11_area_0 rfl rfl
 (x_iload_n g 1 dX11_area_1 rfl rfl
 (x_callVip (As := [.int a1]) g mv_X11_isTriangle mi_X11_isTriangle lk_RX11_375 ht (fun b hb => kX11_isTriangle t a1 M ht _ _ hb) rfl rfl hR ⟨Nat.le_of_ble_eq_true rfl, Nat.le_of_ble_eq_true rfl⟩ (Nat.le_of_ble_eq_true rfl) dX11_area_2 (fun v1 =>
 (x_if_eq g 26 dX11_area_5 rfl
 (fun _ => (x_aload_n g 0 dX11_area_26 rfl rfl
 (x_iconst g dX11_area_27 kI_1
 (x_callVi (As := [.int (1 : Int32)]) g mv_X11_is mi_X11_is lk_RX11_109 ht (fun b Mh_ hb => kX11_is t (1 : Int32) M ht _ _ hb) rfl rfl hR ⟨Nat.le_of_ble_eq_true rfl, Nat.le_of_ble_eq_true rfl⟩ (Nat.le_of_ble_eq_true rfl) dX11_area_28 (fun v2 M3 =>
 (x_ck (fun hq4 => x_iret g hr (nbz hq4) rfl dX11_area_31)))))))
 (fun _ => (x_aload_n g 0 dX11_area_8 rfl rfl
 (x_aload_n g 0 dX11_area_9 rfl rfl
 (x_iload_n g 1 dX11_area_10 rfl rfl
 (x_callVlp (As := [.int a1]) g mv_X11_twiceArea mi_X11_twiceArea lk_RX11_378 ht (fun b hb => kX11_twiceArea t a1 M ht _ _ hb) rfl rfl hR ⟨Nat.le_of_ble_eq_true rfl, Nat.le_of_ble_eq_true rfl⟩ (Nat.le_of_ble_eq_true rfl) dX11_area_11 (fun vz5 =>
 (x_callSlp (As := [.long vz5]) g mv_X11_size ms_X11_size lk_RX11_382 (fun b hb => kX11_size vz5 M _ _ hb) rfl rfl hR ⟨Nat.le_of_ble_eq_true rfl, Nat.le_of_ble_eq_true rfl⟩ (Nat.le_of_ble_eq_true rfl) dX11_area_14 (fun vz6 =>
 (x_ldc2 g cw_RX11_385 dX11_area_17
 (x_callVi (As := [.long vz6, .long (2 : Int64)]) g mv_X11_tellsBy mi_X11_tellsBy lk_RX11_387 ht (fun b Mh_ hb => kX11_tellsBy φ t vz6 (2 : Int64) M ht _ _ hb) rfl rfl hR ⟨Nat.le_of_ble_eq_true rfl, Nat.le_of_ble_eq_true rfl⟩ (Nat.le_of_ble_eq_true rfl) dX11_area_20 (fun v7 M8 =>
 (x_goto g 31 dX11_area_23 rfl
 (x_ck (fun hq9 => x_iret g hr (nbz hq9) rfl dX11_area_31)))))))))))))))))))
def lX11_isAcross_2 (t : Nat) (x1 : Int32) (M : Mem) : Nat → Int32 → Option Int32
  | 0, _ => none
  | n + 1, x2 =>
    ixk (3 : Int32) 3900 (
 if (M.1 (t + 1) (3 : Int32).toNatClampNeg) ≤ x2 then
 some (0 : Int32)
 else
 (fX11_corner t x1 (0 : Int32) M).bind fun v1 =>
 (fX11_isRight t x2 v1 M).bind fun v2 =>
 (fX11_corner t x1 (1 : Int32) M).bind fun v3 =>
 (fX11_isRight t x2 v3 M).bind fun v4 =>
 if v4 = v2 then
 (fX11_corner t x1 (2 : Int32) M).bind fun v5 =>
 (fX11_isRight t x2 v5 M).bind fun v6 =>
 if v6 = v2 then
 lX11_isAcross_2 t x1 M n (x2 + 1)
 else
 some (1 : Int32)
 else
 some (1 : Int32))
theorem lX11_isAcross_2_s (t : Nat) (x1 : Int32) (M : Mem) (n : Nat) (x2 : Int32) : lX11_isAcross_2 t x1 M (n + 1) x2 =
    ixk (3 : Int32) 3900 (
 if (M.1 (t + 1) (3 : Int32).toNatClampNeg) ≤ x2 then
 some (0 : Int32)
 else
 (fX11_corner t x1 (0 : Int32) M).bind fun v1 =>
 (fX11_isRight t x2 v1 M).bind fun v2 =>
 (fX11_corner t x1 (1 : Int32) M).bind fun v3 =>
 (fX11_isRight t x2 v3 M).bind fun v4 =>
 if v4 = v2 then
 (fX11_corner t x1 (2 : Int32) M).bind fun v5 =>
 (fX11_isRight t x2 v5 M).bind fun v6 =>
 if v6 = v2 then
 lX11_isAcross_2 t x1 M n (x2 + 1)
 else
 some (1 : Int32)
 else
 some (1 : Int32)) := rfl
theorem lX11_isAcross_2_0 (t : Nat) (x1 : Int32) (M : Mem) (x2 : Int32) : lX11_isAcross_2 t x1 M 0 x2 = none := rfl
set_option maxRecDepth 100000 in
set_option maxHeartbeats 4000000 in
theorem wlX11_isAcross_2 {J : JT} (g : Gd J cX11_isAcross RX11) (hr : Rt J (some .boolean)) (hR : (JR J).frames = 2 ∧ (JR J).locals = 48) (hn : Jn J = 4) (t : Nat) (x1 : Int32) (M : Mem) (ht : isO 11 t) : ∀ (n : Nat) (x2 : Int32), X J (fun b : Int32 => (some (Value.int b), M)) (lX11_isAcross_2 t x1 M n x2) 2 [(0, .ref t), (1, .int x1), (2, .int x2)] [] M := by
  intro n
  induction n with
  | zero =>
    intro x2
    exact x_none
  | succ n ih =>
    intro x2
    rw [lX11_isAcross_2_s]
    exact (x_iload_n g 2 dX11_isAcross_2 rfl rfl
 (x_aload_n g 0 dX11_isAcross_3 rfl rfl
 (x_getS g 1 fl_RX11_7 rfl ht dX11_isAcross_4
 (x_iconst g dX11_isAcross_7 kI_3
 (x_iald g (so_11_0 ht) dX11_isAcross_8
 (x_icmp_ge g 62 dX11_isAcross_9 rfl
 (fun _ => (x_iconst g dX11_isAcross_62 kI_0
 (x_iret g hr rfl rfl dX11_isAcross_63)))
 (fun _ => (x_aload_n g 0 dX11_isAcross_12 rfl rfl
 (x_iload_n g 2 dX11_isAcross_13 rfl rfl
 (x_aload_n g 0 dX11_isAcross_14 rfl rfl
 (x_iload_n g 1 dX11_isAcross_15 rfl rfl
 (x_iconst g dX11_isAcross_16 kI_0
 (x_callVip (As := [.int x1, .int (0 : Int32)]) g mv_X11_corner mi_X11_corner lk_RX11_372 ht (fun b hb => kX11_corner t x1 (0 : Int32) M ht _ _ hb) rfl rfl hR ⟨Nat.le_of_ble_eq_true rfl, Nat.le_of_ble_eq_true rfl⟩ (Nat.le_of_ble_eq_true rfl) dX11_isAcross_17 (fun v1 =>
 (x_callVip (As := [.int x2, .int v1]) g mv_X11_isRight mi_X11_isRight lk_RX11_293 ht (fun b hb => kX11_isRight t x2 v1 M ht _ _ hb) rfl rfl hR ⟨Nat.le_of_ble_eq_true rfl, Nat.le_of_ble_eq_true rfl⟩ (Nat.le_of_ble_eq_true rfl) dX11_isAcross_20 (fun v2 =>
 (x_istore_n (L' := [(3, .int v2), (0, .ref t), (1, .int x1), (2, .int x2)]) g dX11_isAcross_23 rfl hn (Nat.le_of_ble_eq_true rfl) rfl
 (x_aload_n g 1 dX11_isAcross_24 rfl rfl
 (x_iload_n g 3 dX11_isAcross_25 rfl rfl
 (x_aload_n g 1 dX11_isAcross_26 rfl rfl
 (x_iload_n g 2 dX11_isAcross_27 rfl rfl
 (x_iconst g dX11_isAcross_28 kI_1
 (x_callVip (As := [.int x1, .int (1 : Int32)]) g mv_X11_corner mi_X11_corner lk_RX11_372 ht (fun b hb => kX11_corner t x1 (1 : Int32) M ht _ _ hb) rfl rfl hR ⟨Nat.le_of_ble_eq_true rfl, Nat.le_of_ble_eq_true rfl⟩ (Nat.le_of_ble_eq_true rfl) dX11_isAcross_29 (fun v3 =>
 (x_callVip (As := [.int x2, .int v3]) g mv_X11_isRight mi_X11_isRight lk_RX11_293 ht (fun b hb => kX11_isRight t x2 v3 M ht _ _ hb) rfl rfl hR ⟨Nat.le_of_ble_eq_true rfl, Nat.le_of_ble_eq_true rfl⟩ (Nat.le_of_ble_eq_true rfl) dX11_isAcross_32 (fun v4 =>
 (x_iload_n g 0 dX11_isAcross_35 rfl rfl
 (x_icmp_ne g 54 dX11_isAcross_36 rfl
 (fun _ => (x_iconst g dX11_isAcross_54 kI_1
 (x_iret g hr rfl rfl dX11_isAcross_55)))
 (fun _ => (x_aload_n g 1 dX11_isAcross_39 rfl rfl
 (x_iload_n g 3 dX11_isAcross_40 rfl rfl
 (x_aload_n g 1 dX11_isAcross_41 rfl rfl
 (x_iload_n g 2 dX11_isAcross_42 rfl rfl
 (x_iconst g dX11_isAcross_43 kI_2
 (x_callVip (As := [.int x1, .int (2 : Int32)]) g mv_X11_corner mi_X11_corner lk_RX11_372 ht (fun b hb => kX11_corner t x1 (2 : Int32) M ht _ _ hb) rfl rfl hR ⟨Nat.le_of_ble_eq_true rfl, Nat.le_of_ble_eq_true rfl⟩ (Nat.le_of_ble_eq_true rfl) dX11_isAcross_44 (fun v5 =>
 (x_callVip (As := [.int x2, .int v5]) g mv_X11_isRight mi_X11_isRight lk_RX11_293 ht (fun b hb => kX11_isRight t x2 v5 M ht _ _ hb) rfl rfl hR ⟨Nat.le_of_ble_eq_true rfl, Nat.le_of_ble_eq_true rfl⟩ (Nat.le_of_ble_eq_true rfl) dX11_isAcross_47 (fun v6 =>
 (x_iload_n g 0 dX11_isAcross_50 rfl rfl
 (x_icmp_eq g 56 dX11_isAcross_51 rfl
 (fun _ => (x_iinc (L' := [(2, .int (x2 + 1)), (3, .int v2), (0, .ref t), (1, .int x1)]) (v := (x2 + 1)) g 3 dX11_isAcross_56 rfl (by rw [kI_1]) hn (Nat.le_of_ble_eq_true rfl) rfl
 (x_goto g 2 dX11_isAcross_59 rfl
 (x_sub [2, 3, 0] rfl (ih (x2 + 1))))))
 (fun _ => (x_iconst g dX11_isAcross_54 kI_1
 (x_iret g hr rfl rfl dX11_isAcross_55)))))))))))))))))))))))))))))))))))))))))))
def fX11_isAcross (φ : Nat) (t : Nat) (a1 : Int32) (M : Mem) : Option Int32 :=
  lX11_isAcross_2 t a1 M φ (0 : Int32)
set_option maxRecDepth 100000 in
set_option maxHeartbeats 4000000 in
theorem kX11_isAcross (φ : Nat) (t : Nat) (a1 : Int32) (M : Mem) (ht : isO 11 t) (l : Launch) (G : GT) {b : Int32} (hE : fX11_isAcross φ t a1 M = some b) : Ok l G yX11_isAcross cX11_isAcross 4 (some .boolean) 2 48 [.ref t, .int a1] M ((fun b : Int32 => (some (Value.int b), M)) b).1 ((fun b : Int32 => (some (Value.int b), M)) b).2 := by
  refine Ok.ofX (pj := (fun b : Int32 => (some (Value.int b), M))) (by decide) (Nat.le_of_ble_eq_true rfl) hE (fun J g hr hG hl hR hn => ?_)
  show X J (fun b : Int32 => (some (Value.int b), M)) (fX11_isAcross φ t a1 M) 0 [(0, .ref t), (1, .int a1)] [] M
  unfold fX11_isAcross
  exact (x_iconst g dX11_isAcross_0 kI_0
 (x_istore_n (L' := [(2, .int (0 : Int32)), (0, .ref t), (1, .int a1)]) g dX11_isAcross_1 rfl hn (Nat.le_of_ble_eq_true rfl) rfl
 (x_sub [1, 2, 0] rfl (wlX11_isAcross_2 g hr hR hn  t a1 M ht φ (0 : Int32)))))
def fX11_across (φ : Nat) (t : Nat) (a1 : Int32) (M : Mem) : Option (Int32 × Mem) :=
  (fX11_isTriangle t a1 M).bind fun v1 =>
 if v1 = 0 then
 bd (fX11_refuse t (1 : Int32) M) fun v2 M3 =>
 some (v2, M3)
 else
 (fX11_isAcross φ t a1 M).bind fun v4 =>
 if v4 = 0 then
 bd (fX11_gives t (0 : Int32) M) fun v5 M6 =>
 some (v5, M6)
 else
 bd (fX11_gives t (1 : Int32) M) fun v7 M8 =>
 some (v7, M8)
set_option maxRecDepth 100000 in
set_option maxHeartbeats 4000000 in
theorem kX11_across (φ : Nat) (t : Nat) (a1 : Int32) (M : Mem) (ht : isO 11 t) (l : Launch) (G : GT) {b : (Int32 × Mem)} (hE : fX11_across φ t a1 M = some b) : Ok l G yX11_across cX11_across 2 (some .int) 3 71 [.ref t, .int a1] M ((fun q : Int32 × Mem => (some (Value.int q.1), q.2)) b).1 ((fun q : Int32 × Mem => (some (Value.int q.1), q.2)) b).2 := by
  refine Ok.ofX (pj := (fun q : Int32 × Mem => (some (Value.int q.1), q.2))) (by decide) (Nat.le_of_ble_eq_true rfl) hE (fun J g hr hG hl hR hn => ?_)
  show X J (fun q : Int32 × Mem => (some (Value.int q.1), q.2)) (fX11_across φ t a1 M) 0 [(0, .ref t), (1, .int a1)] [] M
  unfold fX11_across
  exact (x_aload_n g 0 dX11_across_0 rfl rfl
 (x_iload_n g 1 dX11_across_1 rfl rfl
 (x_callVip (As := [.int a1]) g mv_X11_isTriangle mi_X11_isTriangle lk_RX11_375 ht (fun b hb => kX11_isTriangle t a1 M ht _ _ hb) rfl rfl hR ⟨Nat.le_of_ble_eq_true rfl, Nat.le_of_ble_eq_true rfl⟩ (Nat.le_of_ble_eq_true rfl) dX11_across_2 (fun v1 =>
 (x_if_eq g 28 dX11_across_5 rfl
 (fun _ => (x_aload_n g 0 dX11_across_28 rfl rfl
 (x_iconst g dX11_across_29 kI_1
 (x_callVi (As := [.int (1 : Int32)]) g mv_X11_refuse mi_X11_refuse lk_RX11_102 ht (fun b Mh_ hb => kX11_refuse t (1 : Int32) M ht _ _ hb) rfl rfl hR ⟨Nat.le_of_ble_eq_true rfl, Nat.le_of_ble_eq_true rfl⟩ (Nat.le_of_ble_eq_true rfl) dX11_across_30 (fun v2 M3 =>
 (x_iret g hr rfl rfl dX11_across_33))))))
 (fun _ => (x_aload_n g 0 dX11_across_8 rfl rfl
 (x_aload_n g 0 dX11_across_9 rfl rfl
 (x_iload_n g 1 dX11_across_10 rfl rfl
 (x_callVip (As := [.int a1]) g mv_X11_isAcross mi_X11_isAcross lk_RX11_391 ht (fun b hb => kX11_isAcross φ t a1 M ht _ _ hb) rfl rfl hR ⟨Nat.le_of_ble_eq_true rfl, Nat.le_of_ble_eq_true rfl⟩ (Nat.le_of_ble_eq_true rfl) dX11_across_11 (fun v4 =>
 (x_if_eq g 21 dX11_across_14 rfl
 (fun _ => (x_iconst g dX11_across_21 kI_0
 (x_callVi (As := [.int (0 : Int32)]) g mv_X11_gives mi_X11_gives lk_RX11_106 ht (fun b Mh_ hb => kX11_gives t (0 : Int32) M ht _ _ hb) rfl rfl hR ⟨Nat.le_of_ble_eq_true rfl, Nat.le_of_ble_eq_true rfl⟩ (Nat.le_of_ble_eq_true rfl) dX11_across_22 (fun v5 M6 =>
 (x_goto g 33 dX11_across_25 rfl
 (x_iret g hr rfl rfl dX11_across_33))))))
 (fun _ => (x_iconst g dX11_across_17 kI_1
 (x_goto g 22 dX11_across_18 rfl
 (x_callVi (As := [.int (1 : Int32)]) g mv_X11_gives mi_X11_gives lk_RX11_106 ht (fun b Mh_ hb => kX11_gives t (1 : Int32) M ht _ _ hb) rfl rfl hR ⟨Nat.le_of_ble_eq_true rfl, Nat.le_of_ble_eq_true rfl⟩ (Nat.le_of_ble_eq_true rfl) dX11_across_22 (fun v7 M8 =>
 (x_goto g 33 dX11_across_25 rfl
 (x_iret g hr rfl rfl dX11_across_33)))))))))))))))))))
def fX11_isFrom (a1 : Int64) (a2 : Int64) (a3 : Int64) (M : Mem) : Option Int32 :=
  if a1 < a2 then
 some (0 : Int32)
 else
 if a3 < a1 then
 some (0 : Int32)
 else
 some (1 : Int32)
set_option maxRecDepth 100000 in
set_option maxHeartbeats 4000000 in
theorem kX11_isFrom (a1 : Int64) (a2 : Int64) (a3 : Int64) (M : Mem) (l : Launch) (G : GT) {b : Int32} (hE : fX11_isFrom a1 a2 a3 M = some b) : Ok l G yX11_isFrom cX11_isFrom 6 (some .boolean) 0 0 [.long a1, .long a2, .long a3] M ((fun b : Int32 => (some (Value.int b), M)) b).1 ((fun b : Int32 => (some (Value.int b), M)) b).2 := by
  refine Ok.ofX (pj := (fun b : Int32 => (some (Value.int b), M))) (by decide) (Nat.le_of_ble_eq_true rfl) hE (fun J g hr hG hl hR hn => ?_)
  show X J (fun b : Int32 => (some (Value.int b), M)) (fX11_isFrom a1 a2 a3 M) 0 [(0, .long a1), (2, .long a2), (4, .long a3)] [] M
  unfold fX11_isFrom
  exact (x_lload_n g 0 dX11_isFrom_0 rfl rfl
 (x_lload_n g 1 dX11_isFrom_1 rfl rfl
 (x_l_lt g 17 dX11_isFrom_2 dX11_isFrom_3 rfl
 (fun _ => (x_iconst g dX11_isFrom_17 kI_0
 (x_iret g hr rfl rfl dX11_isFrom_18)))
 (fun _ => (x_lload_n g 0 dX11_isFrom_6 rfl rfl
 (x_lload g 2 dX11_isFrom_7 rfl
 (x_l_gt g 17 dX11_isFrom_9 dX11_isFrom_10 rfl
 (fun _ => (x_iconst g dX11_isFrom_17 kI_0
 (x_iret g hr rfl rfl dX11_isFrom_18)))
 (fun _ => (x_iconst g dX11_isFrom_13 kI_1
 (x_goto g 18 dX11_isFrom_14 rfl
 (x_iret g hr rfl rfl dX11_isFrom_18)))))))))))
def fX11_isPoint (a1 : Int32) (a2 : Int32) (M : Mem) : Option Int32 :=
  (fX11_isFrom (a1.toInt64) (0 : Int64) (999 : Int64) M).bind fun v1 =>
 if v1 = 0 then
 some (0 : Int32)
 else
 (fX11_isFrom (a2.toInt64) (0 : Int64) (999 : Int64) M).bind fun v2 =>
 if v2 = 0 then
 some (0 : Int32)
 else
 some (1 : Int32)
set_option maxRecDepth 100000 in
set_option maxHeartbeats 4000000 in
theorem kX11_isPoint (a1 : Int32) (a2 : Int32) (M : Mem) (l : Launch) (G : GT) {b : Int32} (hE : fX11_isPoint a1 a2 M = some b) : Ok l G yX11_isPoint cX11_isPoint 2 (some .boolean) 1 25 [.int a1, .int a2] M ((fun b : Int32 => (some (Value.int b), M)) b).1 ((fun b : Int32 => (some (Value.int b), M)) b).2 := by
  refine Ok.ofX (pj := (fun b : Int32 => (some (Value.int b), M))) (by decide) (Nat.le_of_ble_eq_true rfl) hE (fun J g hr hG hl hR hn => ?_)
  show X J (fun b : Int32 => (some (Value.int b), M)) (fX11_isPoint a1 a2 M) 0 [(0, .int a1), (1, .int a2)] [] M
  unfold fX11_isPoint
  exact (x_iload_n g 0 dX11_isPoint_0 rfl rfl
 (x_i2l g dX11_isPoint_1
 (x_lconst g dX11_isPoint_2 kL_0
 (x_ldc2 g cw_RX11_397 dX11_isPoint_3
 (x_callSip (As := [.long (a1.toInt64), .long (0 : Int64), .long (999 : Int64)]) g mv_X11_isFrom ms_X11_isFrom lk_RX11_399 (fun b hb => kX11_isFrom (a1.toInt64) (0 : Int64) (999 : Int64) M _ _ hb) rfl rfl hR ⟨Nat.le_of_ble_eq_true rfl, Nat.le_of_ble_eq_true rfl⟩ (Nat.le_of_ble_eq_true rfl) dX11_isPoint_6 (fun v1 =>
 (x_if_eq g 28 dX11_isPoint_9 rfl
 (fun _ => (x_iconst g dX11_isPoint_28 kI_0
 (x_iret g hr rfl rfl dX11_isPoint_29)))
 (fun _ => (x_iload_n g 1 dX11_isPoint_12 rfl rfl
 (x_i2l g dX11_isPoint_13
 (x_lconst g dX11_isPoint_14 kL_0
 (x_ldc2 g cw_RX11_397 dX11_isPoint_15
 (x_callSip (As := [.long (a2.toInt64), .long (0 : Int64), .long (999 : Int64)]) g mv_X11_isFrom ms_X11_isFrom lk_RX11_399 (fun b hb => kX11_isFrom (a2.toInt64) (0 : Int64) (999 : Int64) M _ _ hb) rfl rfl hR ⟨Nat.le_of_ble_eq_true rfl, Nat.le_of_ble_eq_true rfl⟩ (Nat.le_of_ble_eq_true rfl) dX11_isPoint_18 (fun v2 =>
 (x_if_eq g 28 dX11_isPoint_21 rfl
 (fun _ => (x_iconst g dX11_isPoint_28 kI_0
 (x_iret g hr rfl rfl dX11_isPoint_29)))
 (fun _ => (x_iconst g dX11_isPoint_24 kI_1
 (x_goto g 29 dX11_isPoint_25 rfl
 (x_iret g hr rfl rfl dX11_isPoint_29)))))))))))))))))))
def lX11_weighs_13 (t : Nat) (x1 : Int32) (x2 : Int32) (x3 : Int32) (xz4 : Int64) : Nat → Int32 → Int32 → Mem → Option (Int32 × Mem)
  | 0, _, _, _ => none
  | n + 1, x6, x7, M =>
    if (3 : Int32) ≤ x7 then
 if x6 = 0 ∨ x6 = 1 then some (x6, M) else none
 else
 (fX11_corner t x1 ((x7 + (1 : Int32)) - (x7 + (1 : Int32)) / (3 : Int32) * (3 : Int32)) M).bind fun v3 =>
 (fX11_holeRow v3 M).bind fun v4 =>
 (fX11_corner t x1 ((x7 + (2 : Int32)) - (x7 + (2 : Int32)) / (3 : Int32) * (3 : Int32)) M).bind fun v5 =>
 (fX11_holeRow v5 M).bind fun v6 =>
 ixk v4 3900 (
 ixk (v4 + (1 : Int32)) 3900 (
 ixk v6 3900 (
 ixk (v6 + (1 : Int32)) 3900 (
 (fX11_leftOf (M.1 (t + 1) v4.toNatClampNeg) (M.1 (t + 1) (v4 + (1 : Int32)).toNatClampNeg) (M.1 (t + 1) v6.toNatClampNeg) (M.1 (t + 1) (v6 + (1 : Int32)).toNatClampNeg) x2 x3 M).bind fun vz7 =>
 jn (fun (vz8 : Int64) => ixk x7 3 (nm (stL M (t + 18) x7.toNatClampNeg vz8) (fun M10 =>
 jn (fun (v11 : Int32) => lX11_weighs_13 t x1 x2 x3 xz4 n v11 (x7 + 1) M10) (fun J12 => jn (J12 (0 : Int32)) (fun J13 => if x6 = 0 then
 J13
 else
 ixk x7 3 (
 if (M10.2.1 (t + 18) x7.toNatClampNeg) < (0 : Int64) then
 J13
 else
 J12 (1 : Int32))))))) (fun J9 => if (0 : Int64) ≤ xz4 then
 J9 vz7
 else
 J9 (-vz7))))))
theorem lX11_weighs_13_s (t : Nat) (x1 : Int32) (x2 : Int32) (x3 : Int32) (xz4 : Int64) (n : Nat) (x6 : Int32) (x7 : Int32) (M : Mem) : lX11_weighs_13 t x1 x2 x3 xz4 (n + 1) x6 x7 M =
    if (3 : Int32) ≤ x7 then
 if x6 = 0 ∨ x6 = 1 then some (x6, M) else none
 else
 (fX11_corner t x1 ((x7 + (1 : Int32)) - (x7 + (1 : Int32)) / (3 : Int32) * (3 : Int32)) M).bind fun v3 =>
 (fX11_holeRow v3 M).bind fun v4 =>
 (fX11_corner t x1 ((x7 + (2 : Int32)) - (x7 + (2 : Int32)) / (3 : Int32) * (3 : Int32)) M).bind fun v5 =>
 (fX11_holeRow v5 M).bind fun v6 =>
 ixk v4 3900 (
 ixk (v4 + (1 : Int32)) 3900 (
 ixk v6 3900 (
 ixk (v6 + (1 : Int32)) 3900 (
 (fX11_leftOf (M.1 (t + 1) v4.toNatClampNeg) (M.1 (t + 1) (v4 + (1 : Int32)).toNatClampNeg) (M.1 (t + 1) v6.toNatClampNeg) (M.1 (t + 1) (v6 + (1 : Int32)).toNatClampNeg) x2 x3 M).bind fun vz7 =>
 jn (fun (vz8 : Int64) => ixk x7 3 (nm (stL M (t + 18) x7.toNatClampNeg vz8) (fun M10 =>
 jn (fun (v11 : Int32) => lX11_weighs_13 t x1 x2 x3 xz4 n v11 (x7 + 1) M10) (fun J12 => jn (J12 (0 : Int32)) (fun J13 => if x6 = 0 then
 J13
 else
 ixk x7 3 (
 if (M10.2.1 (t + 18) x7.toNatClampNeg) < (0 : Int64) then
 J13
 else
 J12 (1 : Int32))))))) (fun J9 => if (0 : Int64) ≤ xz4 then
 J9 vz7
 else
 J9 (-vz7)))))) := rfl
theorem lX11_weighs_13_0 (t : Nat) (x1 : Int32) (x2 : Int32) (x3 : Int32) (xz4 : Int64) (x6 : Int32) (x7 : Int32) (M : Mem) : lX11_weighs_13 t x1 x2 x3 xz4 0 x6 x7 M = none := rfl
set_option maxRecDepth 100000 in
set_option maxHeartbeats 4000000 in
theorem wlX11_weighs_13 {J : JT} (g : Gd J cX11_weighs RX11) (hr : Rt J (some .boolean)) (hR : (JR J).frames = 3 ∧ (JR J).locals = 73) (hn : Jn J = 12) (t : Nat) (x1 : Int32) (x2 : Int32) (x3 : Int32) (xz4 : Int64) (ht : isO 11 t) : ∀ (n : Nat) (x6 : Int32) (x7 : Int32) (M : Mem), X J (fun q : Int32 × Mem => (some (Value.int q.1), q.2)) (lX11_weighs_13 t x1 x2 x3 xz4 n x6 x7 M) 13 [(0, .ref t), (1, .int x1), (2, .int x2), (3, .int x3), (4, .long xz4), (6, .int x6), (7, .int x7)] [] M := by
  intro n
  induction n with
  | zero =>
    intro x6 x7 M
    exact x_none
  | succ n ih =>
    intro x6 x7 M
    rw [lX11_weighs_13_s]
    exact (x_iload g 6 dX11_weighs_13 rfl
 (x_iconst g dX11_weighs_15 kI_3
 (x_icmp_ge g 142 dX11_weighs_16 rfl
 (fun _ => (x_iload g 5 dX11_weighs_142 rfl
 (x_ck (fun hq2 => x_iret g hr (nbz hq2) rfl dX11_weighs_144))))
 (fun _ => (x_aload_n g 0 dX11_weighs_19 rfl rfl
 (x_iload_n g 1 dX11_weighs_20 rfl rfl
 (x_iload g 6 dX11_weighs_21 rfl
 (x_iconst g dX11_weighs_23 kI_1
 (x_iadd g dX11_weighs_24
 (x_iconst g dX11_weighs_25 kI_3
 (x_irem g dX11_weighs_26 (by decide)
 (x_callVip (As := [.int x1, .int ((x7 + (1 : Int32)) - (x7 + (1 : Int32)) / (3 : Int32) * (3 : Int32))]) g mv_X11_corner mi_X11_corner lk_RX11_372 ht (fun b hb => kX11_corner t x1 ((x7 + (1 : Int32)) - (x7 + (1 : Int32)) / (3 : Int32) * (3 : Int32)) M ht _ _ hb) rfl rfl hR ⟨Nat.le_of_ble_eq_true rfl, Nat.le_of_ble_eq_true rfl⟩ (Nat.le_of_ble_eq_true rfl) dX11_weighs_27 (fun v3 =>
 (x_callSip (As := [.int v3]) g mv_X11_holeRow ms_X11_holeRow lk_RX11_280 (fun b hb => kX11_holeRow v3 M _ _ hb) rfl rfl hR ⟨Nat.le_of_ble_eq_true rfl, Nat.le_of_ble_eq_true rfl⟩ (Nat.le_of_ble_eq_true rfl) dX11_weighs_30 (fun v4 =>
 (x_istore (L' := [(8, .int v4), (0, .ref t), (1, .int x1), (2, .int x2), (3, .int x3), (4, .long xz4), (6, .int x6), (7, .int x7)]) g dX11_weighs_33 hn (Nat.le_of_ble_eq_true rfl) rfl
 (x_aload_n g 1 dX11_weighs_35 rfl rfl
 (x_iload_n g 2 dX11_weighs_36 rfl rfl
 (x_iload g 7 dX11_weighs_37 rfl
 (x_iconst g dX11_weighs_39 kI_2
 (x_iadd g dX11_weighs_40
 (x_iconst g dX11_weighs_41 kI_3
 (x_irem g dX11_weighs_42 (by decide)
 (x_callVip (As := [.int x1, .int ((x7 + (2 : Int32)) - (x7 + (2 : Int32)) / (3 : Int32) * (3 : Int32))]) g mv_X11_corner mi_X11_corner lk_RX11_372 ht (fun b hb => kX11_corner t x1 ((x7 + (2 : Int32)) - (x7 + (2 : Int32)) / (3 : Int32) * (3 : Int32)) M ht _ _ hb) rfl rfl hR ⟨Nat.le_of_ble_eq_true rfl, Nat.le_of_ble_eq_true rfl⟩ (Nat.le_of_ble_eq_true rfl) dX11_weighs_43 (fun v5 =>
 (x_callSip (As := [.int v5]) g mv_X11_holeRow ms_X11_holeRow lk_RX11_280 (fun b hb => kX11_holeRow v5 M _ _ hb) rfl rfl hR ⟨Nat.le_of_ble_eq_true rfl, Nat.le_of_ble_eq_true rfl⟩ (Nat.le_of_ble_eq_true rfl) dX11_weighs_46 (fun v6 =>
 (x_istore (L' := [(9, .int v6), (8, .int v4), (0, .ref t), (1, .int x1), (2, .int x2), (3, .int x3), (4, .long xz4), (6, .int x6), (7, .int x7)]) g dX11_weighs_49 hn (Nat.le_of_ble_eq_true rfl) rfl
 (x_aload_n g 2 dX11_weighs_51 rfl rfl
 (x_getS g 1 fl_RX11_7 rfl ht dX11_weighs_52
 (x_iload g 1 dX11_weighs_55 rfl
 (x_iald g (so_11_0 ht) dX11_weighs_57
 (x_aload_n g 2 dX11_weighs_58 rfl rfl
 (x_getS g 1 fl_RX11_7 rfl ht dX11_weighs_59
 (x_iload g 1 dX11_weighs_62 rfl
 (x_iconst g dX11_weighs_64 kI_1
 (x_iadd g dX11_weighs_65
 (x_iald g (so_11_0 ht) dX11_weighs_66
 (x_aload_n g 2 dX11_weighs_67 rfl rfl
 (x_getS g 1 fl_RX11_7 rfl ht dX11_weighs_68
 (x_iload g 0 dX11_weighs_71 rfl
 (x_iald g (so_11_0 ht) dX11_weighs_73
 (x_aload_n g 2 dX11_weighs_74 rfl rfl
 (x_getS g 1 fl_RX11_7 rfl ht dX11_weighs_75
 (x_iload g 0 dX11_weighs_78 rfl
 (x_iconst g dX11_weighs_80 kI_1
 (x_iadd g dX11_weighs_81
 (x_iald g (so_11_0 ht) dX11_weighs_82
 (x_iload_n g 4 dX11_weighs_83 rfl rfl
 (x_iload_n g 5 dX11_weighs_84 rfl rfl
 (x_callSlp (As := [.int (M.1 (t + 1) v4.toNatClampNeg), .int (M.1 (t + 1) (v4 + (1 : Int32)).toNatClampNeg), .int (M.1 (t + 1) v6.toNatClampNeg), .int (M.1 (t + 1) (v6 + (1 : Int32)).toNatClampNeg), .int x2, .int x3]) g mv_X11_leftOf ms_X11_leftOf lk_RX11_222 (fun b hb => kX11_leftOf (M.1 (t + 1) v4.toNatClampNeg) (M.1 (t + 1) (v4 + (1 : Int32)).toNatClampNeg) (M.1 (t + 1) v6.toNatClampNeg) (M.1 (t + 1) (v6 + (1 : Int32)).toNatClampNeg) x2 x3 M _ _ hb) rfl rfl hR ⟨Nat.le_of_ble_eq_true rfl, Nat.le_of_ble_eq_true rfl⟩ (Nat.le_of_ble_eq_true rfl) dX11_weighs_85 (fun vz7 =>
 (x_lstore (L' := [(10, .long vz7), (9, .int v6), (8, .int v4), (0, .ref t), (1, .int x1), (2, .int x2), (3, .int x3), (4, .long xz4), (6, .int x6), (7, .int x7)]) g dX11_weighs_88 hn (Nat.le_of_ble_eq_true rfl) rfl
 (x_aload_n g 3 dX11_weighs_90 rfl rfl
 (x_getS g 18 fl_RX11_78 rfl ht dX11_weighs_91
 (x_iload g 9 dX11_weighs_94 rfl
 (x_lload g 7 dX11_weighs_96 rfl
 (x_lconst g dX11_weighs_98 kL_0
 (x_jn (fun (J9 : Int64 → Option (Int32 × Mem)) => ∀ (vz8 : Int64), X J (fun q : Int32 × Mem => (some (Value.int q.1), q.2)) (J9 vz8) 111 [(0, .ref t), (1, .int x1), (2, .int x2), (3, .int x3), (4, .long xz4), (6, .int x6), (7, .int x7)] [.long vz8, .int x7, .ref (t + 18)] M) (fun vz8 => (x_last g (so_11_35 ht) dX11_weighs_111 (x_nmM (fun M10 =>
 (x_iload g 5 dX11_weighs_112 rfl
 (x_jn (fun (J12 : Int32 → Option (Int32 × Mem)) => ∀ (v11 : Int32), X J (fun q : Int32 × Mem => (some (Value.int q.1), q.2)) (J12 v11) 134 [(0, .ref t), (1, .int x1), (2, .int x2), (3, .int x3), (4, .long xz4), (7, .int x7)] [.int v11] M10) (fun v11 => (x_istore (L' := [(6, .int v11), (0, .ref t), (1, .int x1), (2, .int x2), (3, .int x3), (4, .long xz4), (7, .int x7)]) g dX11_weighs_134 hn (Nat.le_of_ble_eq_true rfl) rfl
 (x_iinc (L' := [(7, .int (x7 + 1)), (6, .int v11), (0, .ref t), (1, .int x1), (2, .int x2), (3, .int x3), (4, .long xz4)]) (v := (x7 + 1)) g 6 dX11_weighs_136 rfl (by rw [kI_1]) hn (Nat.le_of_ble_eq_true rfl) rfl
 (x_goto g 13 dX11_weighs_139 rfl
 (x_sub [2, 3, 4, 5, 6, 1, 0] rfl (ih v11 (x7 + 1) M10)))))) (fun J12 hJ12 => (x_jn (fun (J13 : Option (Int32 × Mem)) => X J (fun q : Int32 × Mem => (some (Value.int q.1), q.2)) J13 133 [(0, .ref t), (1, .int x1), (2, .int x2), (3, .int x3), (4, .long xz4), (7, .int x7)] [] M10) (x_iconst g dX11_weighs_133 kI_0
 (hJ12 (0 : Int32))) (fun J13 hJ13 => (x_if_eq g 133 dX11_weighs_114 rfl
 (fun _ => (x_sub [0, 1, 2, 3, 4, 6] rfl (hJ13)))
 (fun _ => (x_aload_n g 0 dX11_weighs_117 rfl rfl
 (x_getS g 18 fl_RX11_78 rfl ht dX11_weighs_118
 (x_iload g 6 dX11_weighs_121 rfl
 (x_lald g (so_11_35 ht) dX11_weighs_123
 (x_lconst g dX11_weighs_124 kL_0
 (x_l_lt g 133 dX11_weighs_125 dX11_weighs_126 rfl
 (fun _ => (x_sub [0, 1, 2, 3, 4, 6] rfl (hJ13)))
 (fun _ => (x_iconst g dX11_weighs_129 kI_1
 (x_goto g 134 dX11_weighs_130 rfl
 (x_sub [0, 1, 2, 3, 4, 6] rfl (hJ12 (1 : Int32))))))))))))))))))))))) (fun J9 hJ9 => (x_l_ge g 109 dX11_weighs_99 dX11_weighs_100 rfl
 (fun _ => (x_lload g 0 dX11_weighs_109 rfl
 (x_sub [3, 4, 5, 6, 7, 8, 9] rfl (hJ9 vz7))))
 (fun _ => (x_lload g 0 dX11_weighs_103 rfl
 (x_lneg g dX11_weighs_105
 (x_goto g 111 dX11_weighs_106 rfl
 (x_sub [3, 4, 5, 6, 7, 8, 9] rfl (hJ9 (-vz7))))))))))))))))))))))))))))))))))))))))))))))))))))))))))))))))))))
def fX11_weighs (φ : Nat) (t : Nat) (a1 : Int32) (a2 : Int32) (a3 : Int32) (M : Mem) : Option (Int32 × Mem) :=
  (fX11_twiceArea t a1 M).bind fun vz1 =>
 lX11_weighs_13 t a1 a2 a3 vz1 φ (1 : Int32) (0 : Int32) M
set_option maxRecDepth 100000 in
set_option maxHeartbeats 4000000 in
theorem kX11_weighs (φ : Nat) (t : Nat) (a1 : Int32) (a2 : Int32) (a3 : Int32) (M : Mem) (ht : isO 11 t) (l : Launch) (G : GT) {b : (Int32 × Mem)} (hE : fX11_weighs φ t a1 a2 a3 M = some b) : Ok l G yX11_weighs cX11_weighs 12 (some .boolean) 3 73 [.ref t, .int a1, .int a2, .int a3] M ((fun q : Int32 × Mem => (some (Value.int q.1), q.2)) b).1 ((fun q : Int32 × Mem => (some (Value.int q.1), q.2)) b).2 := by
  refine Ok.ofX (pj := (fun q : Int32 × Mem => (some (Value.int q.1), q.2))) (by decide) (Nat.le_of_ble_eq_true rfl) hE (fun J g hr hG hl hR hn => ?_)
  show X J (fun q : Int32 × Mem => (some (Value.int q.1), q.2)) (fX11_weighs φ t a1 a2 a3 M) 0 [(0, .ref t), (1, .int a1), (2, .int a2), (3, .int a3)] [] M
  unfold fX11_weighs
  exact (x_aload_n g 0 dX11_weighs_0 rfl rfl
 (x_iload_n g 1 dX11_weighs_1 rfl rfl
 (x_callVlp (As := [.int a1]) g mv_X11_twiceArea mi_X11_twiceArea lk_RX11_378 ht (fun b hb => kX11_twiceArea t a1 M ht _ _ hb) rfl rfl hR ⟨Nat.le_of_ble_eq_true rfl, Nat.le_of_ble_eq_true rfl⟩ (Nat.le_of_ble_eq_true rfl) dX11_weighs_2 (fun vz1 =>
 (x_lstore (L' := [(4, .long vz1), (0, .ref t), (1, .int a1), (2, .int a2), (3, .int a3)]) g dX11_weighs_5 hn (Nat.le_of_ble_eq_true rfl) rfl
 (x_iconst g dX11_weighs_7 kI_1
 (x_istore (L' := [(6, .int (1 : Int32)), (4, .long vz1), (0, .ref t), (1, .int a1), (2, .int a2), (3, .int a3)]) g dX11_weighs_8 hn (Nat.le_of_ble_eq_true rfl) rfl
 (x_iconst g dX11_weighs_10 kI_0
 (x_istore (L' := [(7, .int (0 : Int32)), (6, .int (1 : Int32)), (4, .long vz1), (0, .ref t), (1, .int a1), (2, .int a2), (3, .int a3)]) g dX11_weighs_11 hn (Nat.le_of_ble_eq_true rfl) rfl
 (x_sub [3, 4, 5, 6, 2, 1, 0] rfl (wlX11_weighs_13 g hr hR hn  t a1 a2 a3 vz1 ht φ (1 : Int32) (0 : Int32) M)))))))))))
def lX11_triangleOf_2 (φ : Nat) (t : Nat) (x1 : Int32) (x2 : Int32) : Nat → Int32 → Mem → Option (Int32 × Mem)
  | 0, _, _ => none
  | n + 1, x3, M =>
    ixk (2 : Int32) 3900 (
 if (M.1 (t + 1) (2 : Int32).toNatClampNeg) ≤ x3 then
 some ((-1 : Int32), M)
 else
 (fX11_isAcross φ t x3 M).bind fun v1 =>
 jn (fun (M2 : Mem) => lX11_triangleOf_2 φ t x1 x2 n (x3 + 1) M2) (fun J3 => if v1 = 0 then
 bd (fX11_weighs φ t x3 x1 x2 M) fun v4 M5 =>
 if v4 = 0 then
 J3 M5
 else
 some (x3, M5)
 else
 J3 M))
theorem lX11_triangleOf_2_s (φ : Nat) (t : Nat) (x1 : Int32) (x2 : Int32) (n : Nat) (x3 : Int32) (M : Mem) : lX11_triangleOf_2 φ t x1 x2 (n + 1) x3 M =
    ixk (2 : Int32) 3900 (
 if (M.1 (t + 1) (2 : Int32).toNatClampNeg) ≤ x3 then
 some ((-1 : Int32), M)
 else
 (fX11_isAcross φ t x3 M).bind fun v1 =>
 jn (fun (M2 : Mem) => lX11_triangleOf_2 φ t x1 x2 n (x3 + 1) M2) (fun J3 => if v1 = 0 then
 bd (fX11_weighs φ t x3 x1 x2 M) fun v4 M5 =>
 if v4 = 0 then
 J3 M5
 else
 some (x3, M5)
 else
 J3 M)) := rfl
theorem lX11_triangleOf_2_0 (φ : Nat) (t : Nat) (x1 : Int32) (x2 : Int32) (x3 : Int32) (M : Mem) : lX11_triangleOf_2 φ t x1 x2 0 x3 M = none := rfl
set_option maxRecDepth 100000 in
set_option maxHeartbeats 4000000 in
theorem wlX11_triangleOf_2 {J : JT} (g : Gd J cX11_triangleOf RX11) (hr : Rt J (some .int)) (hR : (JR J).frames = 4 ∧ (JR J).locals = 104) (hn : Jn J = 4) (φ : Nat) (t : Nat) (x1 : Int32) (x2 : Int32) (ht : isO 11 t) : ∀ (n : Nat) (x3 : Int32) (M : Mem), X J (fun q : Int32 × Mem => (some (Value.int q.1), q.2)) (lX11_triangleOf_2 φ t x1 x2 n x3 M) 2 [(0, .ref t), (1, .int x1), (2, .int x2), (3, .int x3)] [] M := by
  intro n
  induction n with
  | zero =>
    intro x3 M
    exact x_none
  | succ n ih =>
    intro x3 M
    rw [lX11_triangleOf_2_s]
    exact (x_iload_n g 3 dX11_triangleOf_2 rfl rfl
 (x_aload_n g 0 dX11_triangleOf_3 rfl rfl
 (x_getS g 1 fl_RX11_7 rfl ht dX11_triangleOf_4
 (x_iconst g dX11_triangleOf_7 kI_2
 (x_iald g (so_11_0 ht) dX11_triangleOf_8
 (x_icmp_ge g 38 dX11_triangleOf_9 rfl
 (fun _ => (x_iconst g dX11_triangleOf_38 kI_m1
 (x_iret g hr rfl rfl dX11_triangleOf_39)))
 (fun _ => (x_aload_n g 0 dX11_triangleOf_12 rfl rfl
 (x_iload_n g 3 dX11_triangleOf_13 rfl rfl
 (x_callVip (As := [.int x3]) g mv_X11_isAcross mi_X11_isAcross lk_RX11_391 ht (fun b hb => kX11_isAcross φ t x3 M ht _ _ hb) rfl rfl hR ⟨Nat.le_of_ble_eq_true rfl, Nat.le_of_ble_eq_true rfl⟩ (Nat.le_of_ble_eq_true rfl) dX11_triangleOf_14 (fun v1 =>
 (x_jn (fun (J3 : Mem → Option (Int32 × Mem)) => ∀ (M2 : Mem), X J (fun q : Int32 × Mem => (some (Value.int q.1), q.2)) (J3 M2) 32 [(0, .ref t), (1, .int x1), (2, .int x2), (3, .int x3)] [] M2) (fun M2 => (x_iinc (L' := [(3, .int (x3 + 1)), (0, .ref t), (1, .int x1), (2, .int x2)]) (v := (x3 + 1)) g 3 dX11_triangleOf_32 rfl (by rw [kI_1]) hn (Nat.le_of_ble_eq_true rfl) rfl
 (x_goto g 2 dX11_triangleOf_35 rfl
 (x_sub [1, 2, 3, 0] rfl (ih (x3 + 1) M2))))) (fun J3 hJ3 => (x_if_ne g 32 dX11_triangleOf_17 rfl
 (fun _ => (hJ3 M))
 (fun _ => (x_aload_n g 0 dX11_triangleOf_20 rfl rfl
 (x_iload_n g 3 dX11_triangleOf_21 rfl rfl
 (x_iload_n g 1 dX11_triangleOf_22 rfl rfl
 (x_iload_n g 2 dX11_triangleOf_23 rfl rfl
 (x_callVi (As := [.int x3, .int x1, .int x2]) g mv_X11_weighs mi_X11_weighs lk_RX11_394 ht (fun b Mh_ hb => kX11_weighs φ t x3 x1 x2 M ht _ _ hb) rfl rfl hR ⟨Nat.le_of_ble_eq_true rfl, Nat.le_of_ble_eq_true rfl⟩ (Nat.le_of_ble_eq_true rfl) dX11_triangleOf_24 (fun v4 M5 =>
 (x_if_eq g 32 dX11_triangleOf_27 rfl
 (fun _ => (hJ3 M5))
 (fun _ => (x_iload_n g 3 dX11_triangleOf_30 rfl rfl
 (x_iret g hr rfl rfl dX11_triangleOf_31)))))))))))))))))))))))))
def fX11_triangleOf (φ : Nat) (t : Nat) (a1 : Int32) (a2 : Int32) (M : Mem) : Option (Int32 × Mem) :=
  lX11_triangleOf_2 φ t a1 a2 φ (0 : Int32) M
set_option maxRecDepth 100000 in
set_option maxHeartbeats 4000000 in
theorem kX11_triangleOf (φ : Nat) (t : Nat) (a1 : Int32) (a2 : Int32) (M : Mem) (ht : isO 11 t) (l : Launch) (G : GT) {b : (Int32 × Mem)} (hE : fX11_triangleOf φ t a1 a2 M = some b) : Ok l G yX11_triangleOf cX11_triangleOf 4 (some .int) 4 104 [.ref t, .int a1, .int a2] M ((fun q : Int32 × Mem => (some (Value.int q.1), q.2)) b).1 ((fun q : Int32 × Mem => (some (Value.int q.1), q.2)) b).2 := by
  refine Ok.ofX (pj := (fun q : Int32 × Mem => (some (Value.int q.1), q.2))) (by decide) (Nat.le_of_ble_eq_true rfl) hE (fun J g hr hG hl hR hn => ?_)
  show X J (fun q : Int32 × Mem => (some (Value.int q.1), q.2)) (fX11_triangleOf φ t a1 a2 M) 0 [(0, .ref t), (1, .int a1), (2, .int a2)] [] M
  unfold fX11_triangleOf
  exact (x_iconst g dX11_triangleOf_0 kI_0
 (x_istore_n (L' := [(3, .int (0 : Int32)), (0, .ref t), (1, .int a1), (2, .int a2)]) g dX11_triangleOf_1 rfl hn (Nat.le_of_ble_eq_true rfl) rfl
 (x_sub [1, 2, 3, 0] rfl (wlX11_triangleOf_2 g hr hR hn  φ t a1 a2 ht φ (0 : Int32) M))))
def fX11_triangleAt (φ : Nat) (t : Nat) (a1 : Int32) (a2 : Int32) (M : Mem) : Option (Int32 × Mem) :=
  (fX11_isPoint a1 a2 M).bind fun v1 =>
 if v1 = 0 then
 bd (fX11_refuse t (1 : Int32) M) fun v2 M3 =>
 some (v2, M3)
 else
 bd (fX11_triangleOf φ t a1 a2 M) fun v4 M5 =>
 bd (fX11_orNone t v4 M5) fun v6 M7 =>
 some (v6, M7)
set_option maxRecDepth 100000 in
set_option maxHeartbeats 4000000 in
theorem kX11_triangleAt (φ : Nat) (t : Nat) (a1 : Int32) (a2 : Int32) (M : Mem) (ht : isO 11 t) (l : Launch) (G : GT) {b : (Int32 × Mem)} (hE : fX11_triangleAt φ t a1 a2 M = some b) : Ok l G yX11_triangleAt cX11_triangleAt 3 (some .int) 5 127 [.ref t, .int a1, .int a2] M ((fun q : Int32 × Mem => (some (Value.int q.1), q.2)) b).1 ((fun q : Int32 × Mem => (some (Value.int q.1), q.2)) b).2 := by
  refine Ok.ofX (pj := (fun q : Int32 × Mem => (some (Value.int q.1), q.2))) (by decide) (Nat.le_of_ble_eq_true rfl) hE (fun J g hr hG hl hR hn => ?_)
  show X J (fun q : Int32 × Mem => (some (Value.int q.1), q.2)) (fX11_triangleAt φ t a1 a2 M) 0 [(0, .ref t), (1, .int a1), (2, .int a2)] [] M
  unfold fX11_triangleAt
  exact (x_iload_n g 1 dX11_triangleAt_0 rfl rfl
 (x_iload_n g 2 dX11_triangleAt_1 rfl rfl
 (x_callSip (As := [.int a1, .int a2]) g mv_X11_isPoint ms_X11_isPoint lk_RX11_403 (fun b hb => kX11_isPoint a1 a2 M _ _ hb) rfl rfl hR ⟨Nat.le_of_ble_eq_true rfl, Nat.le_of_ble_eq_true rfl⟩ (Nat.le_of_ble_eq_true rfl) dX11_triangleAt_2 (fun v1 =>
 (x_if_eq g 21 dX11_triangleAt_5 rfl
 (fun _ => (x_aload_n g 0 dX11_triangleAt_21 rfl rfl
 (x_iconst g dX11_triangleAt_22 kI_1
 (x_callVi (As := [.int (1 : Int32)]) g mv_X11_refuse mi_X11_refuse lk_RX11_102 ht (fun b Mh_ hb => kX11_refuse t (1 : Int32) M ht _ _ hb) rfl rfl hR ⟨Nat.le_of_ble_eq_true rfl, Nat.le_of_ble_eq_true rfl⟩ (Nat.le_of_ble_eq_true rfl) dX11_triangleAt_23 (fun v2 M3 =>
 (x_iret g hr rfl rfl dX11_triangleAt_26))))))
 (fun _ => (x_aload_n g 0 dX11_triangleAt_8 rfl rfl
 (x_aload_n g 0 dX11_triangleAt_9 rfl rfl
 (x_iload_n g 1 dX11_triangleAt_10 rfl rfl
 (x_iload_n g 2 dX11_triangleAt_11 rfl rfl
 (x_callVi (As := [.int a1, .int a2]) g mv_X11_triangleOf mi_X11_triangleOf lk_RX11_406 ht (fun b Mh_ hb => kX11_triangleOf φ t a1 a2 M ht _ _ hb) rfl rfl hR ⟨Nat.le_of_ble_eq_true rfl, Nat.le_of_ble_eq_true rfl⟩ (Nat.le_of_ble_eq_true rfl) dX11_triangleAt_12 (fun v4 M5 =>
 (x_callVi (As := [.int v4]) g mv_X11_orNone mi_X11_orNone lk_RX11_333 ht (fun b Mh_ hb => kX11_orNone t v4 M5 ht _ _ hb) rfl rfl hR ⟨Nat.le_of_ble_eq_true rfl, Nat.le_of_ble_eq_true rfl⟩ (Nat.le_of_ble_eq_true rfl) dX11_triangleAt_15 (fun v6 M7 =>
 (x_goto g 26 dX11_triangleAt_18 rfl
 (x_iret g hr rfl rfl dX11_triangleAt_26))))))))))))))))
def lX11_topAt_53 (K121 : Int64 → Option (Int32 × Mem)) (φ : Nat) (t : Nat) (x1 : Int32) (x4 : Int32) (M : Mem) : Nat → Int64 → Int32 → Option (Int32 × Mem)
  | 0, _, _ => none
  | n + 1, xz5, x7 =>
    if (3 : Int32) ≤ x7 then
 K121 xz5
 else
 (fX11_corner t x4 x7 M).bind fun v10 =>
 (fX11_firstOf φ t x1 v10 M).bind fun v11 =>
 if v11 = (-1 : Int32) then
 bd (fX11_is t (7 : Int32) M) fun v15 M16 =>
 if v15 = 0 ∨ v15 = 1 then some (v15, M16) else none
 else
 ixk x7 3 (
 (fX11_corner t x4 x7 M).bind fun v12 =>
 (fX11_depthOf φ t v12 v11 M).bind fun v13 =>
 nm (xz5 + ((M.2.1 (t + 18) x7.toNatClampNeg) * (v13.toInt64))) (fun vz14 =>
 lX11_topAt_53 K121 φ t x1 x4 M n vz14 (x7 + 1)))
theorem lX11_topAt_53_s (K121 : Int64 → Option (Int32 × Mem)) (φ : Nat) (t : Nat) (x1 : Int32) (x4 : Int32) (M : Mem) (n : Nat) (xz5 : Int64) (x7 : Int32) : lX11_topAt_53 K121 φ t x1 x4 M (n + 1) xz5 x7 =
    if (3 : Int32) ≤ x7 then
 K121 xz5
 else
 (fX11_corner t x4 x7 M).bind fun v10 =>
 (fX11_firstOf φ t x1 v10 M).bind fun v11 =>
 if v11 = (-1 : Int32) then
 bd (fX11_is t (7 : Int32) M) fun v15 M16 =>
 if v15 = 0 ∨ v15 = 1 then some (v15, M16) else none
 else
 ixk x7 3 (
 (fX11_corner t x4 x7 M).bind fun v12 =>
 (fX11_depthOf φ t v12 v11 M).bind fun v13 =>
 nm (xz5 + ((M.2.1 (t + 18) x7.toNatClampNeg) * (v13.toInt64))) (fun vz14 =>
 lX11_topAt_53 K121 φ t x1 x4 M n vz14 (x7 + 1))) := rfl
theorem lX11_topAt_53_0 (K121 : Int64 → Option (Int32 × Mem)) (φ : Nat) (t : Nat) (x1 : Int32) (x4 : Int32) (M : Mem) (xz5 : Int64) (x7 : Int32) : lX11_topAt_53 K121 φ t x1 x4 M 0 xz5 x7 = none := rfl
set_option maxRecDepth 100000 in
set_option maxHeartbeats 4000000 in
theorem wlX11_topAt_53 {J : JT} (g : Gd J cX11_topAt RX11) (hr : Rt J (some .boolean)) (hR : (JR J).frames = 5 ∧ (JR J).locals = 127) (hn : Jn J = 9) (K121 : Int64 → Option (Int32 × Mem)) (φ : Nat) (t : Nat) (x1 : Int32) (x4 : Int32) (M : Mem) (ht : isO 11 t) (hK121 : ∀ (yz5 : Int64), X J (fun q : Int32 × Mem => (some (Value.int q.1), q.2)) (K121 yz5) 121 [(0, .ref t), (4, .int x4), (5, .long yz5)] [] M) : ∀ (n : Nat) (xz5 : Int64) (x7 : Int32), X J (fun q : Int32 × Mem => (some (Value.int q.1), q.2)) (lX11_topAt_53 K121 φ t x1 x4 M n xz5 x7) 53 [(0, .ref t), (1, .int x1), (4, .int x4), (5, .long xz5), (7, .int x7)] [] M := by
  intro n
  induction n with
  | zero =>
    intro xz5 x7
    exact x_none
  | succ n ih =>
    intro xz5 x7
    rw [lX11_topAt_53_s]
    exact (x_iload g 4 dX11_topAt_53 rfl
 (x_iconst g dX11_topAt_55 kI_3
 (x_icmp_ge g 121 dX11_topAt_56 rfl
 (fun _ => (x_sub [0, 2, 3] rfl (hK121 xz5)))
 (fun _ => (x_aload_n g 0 dX11_topAt_59 rfl rfl
 (x_iload_n g 1 dX11_topAt_60 rfl rfl
 (x_aload_n g 0 dX11_topAt_61 rfl rfl
 (x_iload g 2 dX11_topAt_62 rfl
 (x_iload g 4 dX11_topAt_64 rfl
 (x_callVip (As := [.int x4, .int x7]) g mv_X11_corner mi_X11_corner lk_RX11_372 ht (fun b hb => kX11_corner t x4 x7 M ht _ _ hb) rfl rfl hR ⟨Nat.le_of_ble_eq_true rfl, Nat.le_of_ble_eq_true rfl⟩ (Nat.le_of_ble_eq_true rfl) dX11_topAt_66 (fun v10 =>
 (x_callVip (As := [.int x1, .int v10]) g mv_X11_firstOf mi_X11_firstOf lk_RX11_351 ht (fun b hb => kX11_firstOf φ t x1 v10 M ht _ _ hb) rfl rfl hR ⟨Nat.le_of_ble_eq_true rfl, Nat.le_of_ble_eq_true rfl⟩ (Nat.le_of_ble_eq_true rfl) dX11_topAt_69 (fun v11 =>
 (x_istore (L' := [(8, .int v11), (0, .ref t), (1, .int x1), (4, .int x4), (5, .long xz5), (7, .int x7)]) g dX11_topAt_72 hn (Nat.le_of_ble_eq_true rfl) rfl
 (x_iload g 0 dX11_topAt_74 rfl
 (x_iconst g dX11_topAt_76 kI_m1
 (x_icmp_ne g 87 dX11_topAt_77 rfl
 (fun _ => (x_lload g 4 dX11_topAt_87 rfl
 (x_aload_n g 1 dX11_topAt_89 rfl rfl
 (x_getS g 18 fl_RX11_78 rfl ht dX11_topAt_90
 (x_iload g 5 dX11_topAt_93 rfl
 (x_lald g (so_11_35 ht) dX11_topAt_95
 (x_aload_n g 1 dX11_topAt_96 rfl rfl
 (x_aload_n g 1 dX11_topAt_97 rfl rfl
 (x_iload g 3 dX11_topAt_98 rfl
 (x_iload g 5 dX11_topAt_100 rfl
 (x_callVip (As := [.int x4, .int x7]) g mv_X11_corner mi_X11_corner lk_RX11_372 ht (fun b hb => kX11_corner t x4 x7 M ht _ _ hb) rfl rfl hR ⟨Nat.le_of_ble_eq_true rfl, Nat.le_of_ble_eq_true rfl⟩ (Nat.le_of_ble_eq_true rfl) dX11_topAt_102 (fun v12 =>
 (x_iload g 0 dX11_topAt_105 rfl
 (x_callVip (As := [.int v12, .int v11]) g mv_X11_depthOf mi_X11_depthOf lk_RX11_314 ht (fun b hb => kX11_depthOf φ t v12 v11 M ht _ _ hb) rfl rfl hR ⟨Nat.le_of_ble_eq_true rfl, Nat.le_of_ble_eq_true rfl⟩ (Nat.le_of_ble_eq_true rfl) dX11_topAt_107 (fun v13 =>
 (x_i2l g dX11_topAt_110
 (x_lmul g dX11_topAt_111
 (x_ladd g dX11_topAt_112
 (x_nmL (fun vz14 => (x_lstore (L' := [(5, .long vz14), (8, .int v11), (0, .ref t), (1, .int x1), (4, .int x4), (7, .int x7)]) g dX11_topAt_113 hn (Nat.le_of_ble_eq_true rfl) rfl
 (x_iinc (L' := [(7, .int (x7 + 1)), (5, .long vz14), (8, .int v11), (0, .ref t), (1, .int x1), (4, .int x4)]) (v := (x7 + 1)) g 5 dX11_topAt_115 rfl (by rw [kI_1]) hn (Nat.le_of_ble_eq_true rfl) rfl
 (x_goto g 53 dX11_topAt_118 rfl
 (x_sub [3, 4, 5, 1, 0] rfl (ih vz14 (x7 + 1))))))))))))))))))))))))))
 (fun _ => (x_aload_n g 1 dX11_topAt_80 rfl rfl
 (x_bipush g dX11_topAt_81 kB_7
 (x_callVi (As := [.int (7 : Int32)]) g mv_X11_is mi_X11_is lk_RX11_109 ht (fun b Mh_ hb => kX11_is t (7 : Int32) M ht _ _ hb) rfl rfl hR ⟨Nat.le_of_ble_eq_true rfl, Nat.le_of_ble_eq_true rfl⟩ (Nat.le_of_ble_eq_true rfl) dX11_topAt_83 (fun v15 M16 =>
 (x_ck (fun hq17 => x_iret g hr (nbz hq17) rfl dX11_topAt_86))))))))))))))))))))))))
def fX11_topAt (φ : Nat) (t : Nat) (a1 : Int32) (a2 : Int32) (a3 : Int32) (M : Mem) : Option (Int32 × Mem) :=
  bd (fX11_laysBeds φ t M) fun vu1 M2 =>
 (fX11_isBed t a1 M2).bind fun v3 =>
 if v3 = 0 then
 bd (fX11_is t (1 : Int32) M2) fun v4 M5 =>
 if v4 = 0 ∨ v4 = 1 then some (v4, M5) else none
 else
 (fX11_isPoint a2 a3 M2).bind fun v7 =>
 if v7 = 0 then
 bd (fX11_is t (1 : Int32) M2) fun v27 M28 =>
 if v27 = 0 ∨ v27 = 1 then some (v27, M28) else none
 else
 bd (fX11_triangleOf φ t a2 a3 M2) fun v8 M9 =>
 if v8 = (-1 : Int32) then
 bd (fX11_is t (6 : Int32) M9) fun v24 M25 =>
 if v24 = 0 ∨ v24 = 1 then some (v24, M25) else none
 else
 lX11_topAt_53 (fun (vz18 : Int64) => (fX11_twiceArea t v8 M9).bind fun vz19 =>
 (fX11_size vz19 M9).bind fun vz20 =>
 bd (fX11_tellsBy φ t vz18 vz20 M9) fun v21 M22 =>
 if v21 = 0 ∨ v21 = 1 then some (v21, M22) else none) φ t a1 v8 M9 φ (0 : Int64) (0 : Int32)
set_option maxRecDepth 100000 in
set_option maxHeartbeats 4000000 in
theorem kX11_topAt (φ : Nat) (t : Nat) (a1 : Int32) (a2 : Int32) (a3 : Int32) (M : Mem) (ht : isO 11 t) (l : Launch) (G : GT) {b : (Int32 × Mem)} (hE : fX11_topAt φ t a1 a2 a3 M = some b) : Ok l G yX11_topAt cX11_topAt 9 (some .boolean) 5 127 [.ref t, .int a1, .int a2, .int a3] M ((fun q : Int32 × Mem => (some (Value.int q.1), q.2)) b).1 ((fun q : Int32 × Mem => (some (Value.int q.1), q.2)) b).2 := by
  refine Ok.ofX (pj := (fun q : Int32 × Mem => (some (Value.int q.1), q.2))) (by decide) (Nat.le_of_ble_eq_true rfl) hE (fun J g hr hG hl hR hn => ?_)
  show X J (fun q : Int32 × Mem => (some (Value.int q.1), q.2)) (fX11_topAt φ t a1 a2 a3 M) 0 [(0, .ref t), (1, .int a1), (2, .int a2), (3, .int a3)] [] M
  unfold fX11_topAt
  exact (x_aload_n g 0 dX11_topAt_0 rfl rfl
 (x_callVv (As := []) g mv_X11_laysBeds mi_X11_laysBeds lk_RX11_348 ht (fun b Mh_ hb => kX11_laysBeds φ t M ht _ _ hb) rfl rfl hR ⟨Nat.le_of_ble_eq_true rfl, Nat.le_of_ble_eq_true rfl⟩ (Nat.le_of_ble_eq_true rfl) dX11_topAt_1 (fun vu1 M2 =>
 (x_aload_n g 0 dX11_topAt_4 rfl rfl
 (x_iload_n g 1 dX11_topAt_5 rfl rfl
 (x_callVip (As := [.int a1]) g mv_X11_isBed mi_X11_isBed lk_RX11_354 ht (fun b hb => kX11_isBed t a1 M2 ht _ _ hb) rfl rfl hR ⟨Nat.le_of_ble_eq_true rfl, Nat.le_of_ble_eq_true rfl⟩ (Nat.le_of_ble_eq_true rfl) dX11_topAt_6 (fun v3 =>
 (x_if_eq g 20 dX11_topAt_9 rfl
 (fun _ => (x_aload_n g 0 dX11_topAt_20 rfl rfl
 (x_iconst g dX11_topAt_21 kI_1
 (x_callVi (As := [.int (1 : Int32)]) g mv_X11_is mi_X11_is lk_RX11_109 ht (fun b Mh_ hb => kX11_is t (1 : Int32) M2 ht _ _ hb) rfl rfl hR ⟨Nat.le_of_ble_eq_true rfl, Nat.le_of_ble_eq_true rfl⟩ (Nat.le_of_ble_eq_true rfl) dX11_topAt_22 (fun v4 M5 =>
 (x_ck (fun hq6 => x_iret g hr (nbz hq6) rfl dX11_topAt_25)))))))
 (fun _ => (x_iload_n g 2 dX11_topAt_12 rfl rfl
 (x_iload_n g 3 dX11_topAt_13 rfl rfl
 (x_callSip (As := [.int a2, .int a3]) g mv_X11_isPoint ms_X11_isPoint lk_RX11_403 (fun b hb => kX11_isPoint a2 a3 M2 _ _ hb) rfl rfl hR ⟨Nat.le_of_ble_eq_true rfl, Nat.le_of_ble_eq_true rfl⟩ (Nat.le_of_ble_eq_true rfl) dX11_topAt_14 (fun v7 =>
 (x_if_ne g 26 dX11_topAt_17 rfl
 (fun _ => (x_aload_n g 0 dX11_topAt_26 rfl rfl
 (x_iload_n g 2 dX11_topAt_27 rfl rfl
 (x_iload_n g 3 dX11_topAt_28 rfl rfl
 (x_callVi (As := [.int a2, .int a3]) g mv_X11_triangleOf mi_X11_triangleOf lk_RX11_406 ht (fun b Mh_ hb => kX11_triangleOf φ t a2 a3 M2 ht _ _ hb) rfl rfl hR ⟨Nat.le_of_ble_eq_true rfl, Nat.le_of_ble_eq_true rfl⟩ (Nat.le_of_ble_eq_true rfl) dX11_topAt_29 (fun v8 M9 =>
 (x_istore (L' := [(4, .int v8), (0, .ref t), (1, .int a1), (2, .int a2), (3, .int a3)]) g dX11_topAt_32 hn (Nat.le_of_ble_eq_true rfl) rfl
 (x_iload g 0 dX11_topAt_34 rfl
 (x_iconst g dX11_topAt_36 kI_m1
 (x_icmp_ne g 47 dX11_topAt_37 rfl
 (fun _ => (x_lconst g dX11_topAt_47 kL_0
 (x_lstore (L' := [(5, .long (0 : Int64)), (4, .int v8), (0, .ref t), (1, .int a1), (2, .int a2), (3, .int a3)]) g dX11_topAt_48 hn (Nat.le_of_ble_eq_true rfl) rfl
 (x_iconst g dX11_topAt_50 kI_0
 (x_istore (L' := [(7, .int (0 : Int32)), (5, .long (0 : Int64)), (4, .int v8), (0, .ref t), (1, .int a1), (2, .int a2), (3, .int a3)]) g dX11_topAt_51 hn (Nat.le_of_ble_eq_true rfl) rfl
 (x_sub [3, 4, 2, 1, 0] rfl (wlX11_topAt_53 g hr hR hn _ φ t a1 v8 M9 ht
 (fun vz18 => by exact (x_aload_n g 0 dX11_topAt_121 rfl rfl
 (x_lload g 2 dX11_topAt_122 rfl
 (x_aload_n g 0 dX11_topAt_124 rfl rfl
 (x_iload g 1 dX11_topAt_125 rfl
 (x_callVlp (As := [.int v8]) g mv_X11_twiceArea mi_X11_twiceArea lk_RX11_378 ht (fun b hb => kX11_twiceArea t v8 M9 ht _ _ hb) rfl rfl hR ⟨Nat.le_of_ble_eq_true rfl, Nat.le_of_ble_eq_true rfl⟩ (Nat.le_of_ble_eq_true rfl) dX11_topAt_127 (fun vz19 =>
 (x_callSlp (As := [.long vz19]) g mv_X11_size ms_X11_size lk_RX11_382 (fun b hb => kX11_size vz19 M9 _ _ hb) rfl rfl hR ⟨Nat.le_of_ble_eq_true rfl, Nat.le_of_ble_eq_true rfl⟩ (Nat.le_of_ble_eq_true rfl) dX11_topAt_130 (fun vz20 =>
 (x_callVi (As := [.long vz18, .long vz20]) g mv_X11_tellsBy mi_X11_tellsBy lk_RX11_387 ht (fun b Mh_ hb => kX11_tellsBy φ t vz18 vz20 M9 ht _ _ hb) rfl rfl hR ⟨Nat.le_of_ble_eq_true rfl, Nat.le_of_ble_eq_true rfl⟩ (Nat.le_of_ble_eq_true rfl) dX11_topAt_133 (fun v21 M22 =>
 (x_ck (fun hq23 => x_iret g hr (nbz hq23) rfl dX11_topAt_136))))))))))))) φ (0 : Int64) (0 : Int32))))))))
 (fun _ => (x_aload_n g 1 dX11_topAt_40 rfl rfl
 (x_bipush g dX11_topAt_41 kB_6
 (x_callVi (As := [.int (6 : Int32)]) g mv_X11_is mi_X11_is lk_RX11_109 ht (fun b Mh_ hb => kX11_is t (6 : Int32) M9 ht _ _ hb) rfl rfl hR ⟨Nat.le_of_ble_eq_true rfl, Nat.le_of_ble_eq_true rfl⟩ (Nat.le_of_ble_eq_true rfl) dX11_topAt_43 (fun v24 M25 =>
 (x_ck (fun hq26 => x_iret g hr (nbz hq26) rfl dX11_topAt_46)))))))))))))))))
 (fun _ => (x_aload_n g 0 dX11_topAt_20 rfl rfl
 (x_iconst g dX11_topAt_21 kI_1
 (x_callVi (As := [.int (1 : Int32)]) g mv_X11_is mi_X11_is lk_RX11_109 ht (fun b Mh_ hb => kX11_is t (1 : Int32) M2 ht _ _ hb) rfl rfl hR ⟨Nat.le_of_ble_eq_true rfl, Nat.le_of_ble_eq_true rfl⟩ (Nat.le_of_ble_eq_true rfl) dX11_topAt_22 (fun v27 M28 =>
 (x_ck (fun hq29 => x_iret g hr (nbz hq29) rfl dX11_topAt_25)))))))))))))))))))))
def lX11_thickAt_53 (K92 : Int64 → Option (Int32 × Mem)) (φ : Nat) (t : Nat) (x1 : Int32) (x4 : Int32) (M : Mem) : Nat → Int64 → Int32 → Option (Int32 × Mem)
  | 0, _, _ => none
  | n + 1, xz5, x7 =>
    if (3 : Int32) ≤ x7 then
 K92 xz5
 else
 ixk x7 3 (
 (fX11_corner t x4 x7 M).bind fun v10 =>
 (fX11_thickIn φ t x1 v10 M).bind fun v11 =>
 nm (xz5 + ((M.2.1 (t + 18) x7.toNatClampNeg) * (v11.toInt64))) (fun vz12 =>
 lX11_thickAt_53 K92 φ t x1 x4 M n vz12 (x7 + 1)))
theorem lX11_thickAt_53_s (K92 : Int64 → Option (Int32 × Mem)) (φ : Nat) (t : Nat) (x1 : Int32) (x4 : Int32) (M : Mem) (n : Nat) (xz5 : Int64) (x7 : Int32) : lX11_thickAt_53 K92 φ t x1 x4 M (n + 1) xz5 x7 =
    if (3 : Int32) ≤ x7 then
 K92 xz5
 else
 ixk x7 3 (
 (fX11_corner t x4 x7 M).bind fun v10 =>
 (fX11_thickIn φ t x1 v10 M).bind fun v11 =>
 nm (xz5 + ((M.2.1 (t + 18) x7.toNatClampNeg) * (v11.toInt64))) (fun vz12 =>
 lX11_thickAt_53 K92 φ t x1 x4 M n vz12 (x7 + 1))) := rfl
theorem lX11_thickAt_53_0 (K92 : Int64 → Option (Int32 × Mem)) (φ : Nat) (t : Nat) (x1 : Int32) (x4 : Int32) (M : Mem) (xz5 : Int64) (x7 : Int32) : lX11_thickAt_53 K92 φ t x1 x4 M 0 xz5 x7 = none := rfl
set_option maxRecDepth 100000 in
set_option maxHeartbeats 4000000 in
theorem wlX11_thickAt_53 {J : JT} (g : Gd J cX11_thickAt RX11) (hr : Rt J (some .boolean)) (hR : (JR J).frames = 5 ∧ (JR J).locals = 127) (hn : Jn J = 8) (K92 : Int64 → Option (Int32 × Mem)) (φ : Nat) (t : Nat) (x1 : Int32) (x4 : Int32) (M : Mem) (ht : isO 11 t) (hK92 : ∀ (yz5 : Int64), X J (fun q : Int32 × Mem => (some (Value.int q.1), q.2)) (K92 yz5) 92 [(0, .ref t), (4, .int x4), (5, .long yz5)] [] M) : ∀ (n : Nat) (xz5 : Int64) (x7 : Int32), X J (fun q : Int32 × Mem => (some (Value.int q.1), q.2)) (lX11_thickAt_53 K92 φ t x1 x4 M n xz5 x7) 53 [(0, .ref t), (1, .int x1), (4, .int x4), (5, .long xz5), (7, .int x7)] [] M := by
  intro n
  induction n with
  | zero =>
    intro xz5 x7
    exact x_none
  | succ n ih =>
    intro xz5 x7
    rw [lX11_thickAt_53_s]
    exact (x_iload g 4 dX11_thickAt_53 rfl
 (x_iconst g dX11_thickAt_55 kI_3
 (x_icmp_ge g 92 dX11_thickAt_56 rfl
 (fun _ => (x_sub [0, 2, 3] rfl (hK92 xz5)))
 (fun _ => (x_lload g 3 dX11_thickAt_59 rfl
 (x_aload_n g 0 dX11_thickAt_61 rfl rfl
 (x_getS g 18 fl_RX11_78 rfl ht dX11_thickAt_62
 (x_iload g 4 dX11_thickAt_65 rfl
 (x_lald g (so_11_35 ht) dX11_thickAt_67
 (x_aload_n g 0 dX11_thickAt_68 rfl rfl
 (x_iload_n g 1 dX11_thickAt_69 rfl rfl
 (x_aload_n g 0 dX11_thickAt_70 rfl rfl
 (x_iload g 2 dX11_thickAt_71 rfl
 (x_iload g 4 dX11_thickAt_73 rfl
 (x_callVip (As := [.int x4, .int x7]) g mv_X11_corner mi_X11_corner lk_RX11_372 ht (fun b hb => kX11_corner t x4 x7 M ht _ _ hb) rfl rfl hR ⟨Nat.le_of_ble_eq_true rfl, Nat.le_of_ble_eq_true rfl⟩ (Nat.le_of_ble_eq_true rfl) dX11_thickAt_75 (fun v10 =>
 (x_callVip (As := [.int x1, .int v10]) g mv_X11_thickIn mi_X11_thickIn lk_RX11_360 ht (fun b hb => kX11_thickIn φ t x1 v10 M ht _ _ hb) rfl rfl hR ⟨Nat.le_of_ble_eq_true rfl, Nat.le_of_ble_eq_true rfl⟩ (Nat.le_of_ble_eq_true rfl) dX11_thickAt_78 (fun v11 =>
 (x_i2l g dX11_thickAt_81
 (x_lmul g dX11_thickAt_82
 (x_ladd g dX11_thickAt_83
 (x_nmL (fun vz12 => (x_lstore (L' := [(5, .long vz12), (0, .ref t), (1, .int x1), (4, .int x4), (7, .int x7)]) g dX11_thickAt_84 hn (Nat.le_of_ble_eq_true rfl) rfl
 (x_iinc (L' := [(7, .int (x7 + 1)), (5, .long vz12), (0, .ref t), (1, .int x1), (4, .int x4)]) (v := (x7 + 1)) g 4 dX11_thickAt_86 rfl (by rw [kI_1]) hn (Nat.le_of_ble_eq_true rfl) rfl
 (x_goto g 53 dX11_thickAt_89 rfl
 (x_sub [2, 3, 4, 1, 0] rfl (ih vz12 (x7 + 1)))))))))))))))))))))))))))))
def fX11_thickAt (φ : Nat) (t : Nat) (a1 : Int32) (a2 : Int32) (a3 : Int32) (M : Mem) : Option (Int32 × Mem) :=
  bd (fX11_laysBeds φ t M) fun vu1 M2 =>
 (fX11_isBed t a1 M2).bind fun v3 =>
 if v3 = 0 then
 bd (fX11_is t (1 : Int32) M2) fun v4 M5 =>
 if v4 = 0 ∨ v4 = 1 then some (v4, M5) else none
 else
 (fX11_isPoint a2 a3 M2).bind fun v7 =>
 if v7 = 0 then
 bd (fX11_is t (1 : Int32) M2) fun v22 M23 =>
 if v22 = 0 ∨ v22 = 1 then some (v22, M23) else none
 else
 bd (fX11_triangleOf φ t a2 a3 M2) fun v8 M9 =>
 if v8 = (-1 : Int32) then
 bd (fX11_is t (6 : Int32) M9) fun v19 M20 =>
 if v19 = 0 ∨ v19 = 1 then some (v19, M20) else none
 else
 lX11_thickAt_53 (fun (vz13 : Int64) => (fX11_twiceArea t v8 M9).bind fun vz14 =>
 (fX11_size vz14 M9).bind fun vz15 =>
 bd (fX11_tellsBy φ t vz13 vz15 M9) fun v16 M17 =>
 if v16 = 0 ∨ v16 = 1 then some (v16, M17) else none) φ t a1 v8 M9 φ (0 : Int64) (0 : Int32)
set_option maxRecDepth 100000 in
set_option maxHeartbeats 4000000 in
theorem kX11_thickAt (φ : Nat) (t : Nat) (a1 : Int32) (a2 : Int32) (a3 : Int32) (M : Mem) (ht : isO 11 t) (l : Launch) (G : GT) {b : (Int32 × Mem)} (hE : fX11_thickAt φ t a1 a2 a3 M = some b) : Ok l G yX11_thickAt cX11_thickAt 8 (some .boolean) 5 127 [.ref t, .int a1, .int a2, .int a3] M ((fun q : Int32 × Mem => (some (Value.int q.1), q.2)) b).1 ((fun q : Int32 × Mem => (some (Value.int q.1), q.2)) b).2 := by
  refine Ok.ofX (pj := (fun q : Int32 × Mem => (some (Value.int q.1), q.2))) (by decide) (Nat.le_of_ble_eq_true rfl) hE (fun J g hr hG hl hR hn => ?_)
  show X J (fun q : Int32 × Mem => (some (Value.int q.1), q.2)) (fX11_thickAt φ t a1 a2 a3 M) 0 [(0, .ref t), (1, .int a1), (2, .int a2), (3, .int a3)] [] M
  unfold fX11_thickAt
  exact (x_aload_n g 0 dX11_thickAt_0 rfl rfl
 (x_callVv (As := []) g mv_X11_laysBeds mi_X11_laysBeds lk_RX11_348 ht (fun b Mh_ hb => kX11_laysBeds φ t M ht _ _ hb) rfl rfl hR ⟨Nat.le_of_ble_eq_true rfl, Nat.le_of_ble_eq_true rfl⟩ (Nat.le_of_ble_eq_true rfl) dX11_thickAt_1 (fun vu1 M2 =>
 (x_aload_n g 0 dX11_thickAt_4 rfl rfl
 (x_iload_n g 1 dX11_thickAt_5 rfl rfl
 (x_callVip (As := [.int a1]) g mv_X11_isBed mi_X11_isBed lk_RX11_354 ht (fun b hb => kX11_isBed t a1 M2 ht _ _ hb) rfl rfl hR ⟨Nat.le_of_ble_eq_true rfl, Nat.le_of_ble_eq_true rfl⟩ (Nat.le_of_ble_eq_true rfl) dX11_thickAt_6 (fun v3 =>
 (x_if_eq g 20 dX11_thickAt_9 rfl
 (fun _ => (x_aload_n g 0 dX11_thickAt_20 rfl rfl
 (x_iconst g dX11_thickAt_21 kI_1
 (x_callVi (As := [.int (1 : Int32)]) g mv_X11_is mi_X11_is lk_RX11_109 ht (fun b Mh_ hb => kX11_is t (1 : Int32) M2 ht _ _ hb) rfl rfl hR ⟨Nat.le_of_ble_eq_true rfl, Nat.le_of_ble_eq_true rfl⟩ (Nat.le_of_ble_eq_true rfl) dX11_thickAt_22 (fun v4 M5 =>
 (x_ck (fun hq6 => x_iret g hr (nbz hq6) rfl dX11_thickAt_25)))))))
 (fun _ => (x_iload_n g 2 dX11_thickAt_12 rfl rfl
 (x_iload_n g 3 dX11_thickAt_13 rfl rfl
 (x_callSip (As := [.int a2, .int a3]) g mv_X11_isPoint ms_X11_isPoint lk_RX11_403 (fun b hb => kX11_isPoint a2 a3 M2 _ _ hb) rfl rfl hR ⟨Nat.le_of_ble_eq_true rfl, Nat.le_of_ble_eq_true rfl⟩ (Nat.le_of_ble_eq_true rfl) dX11_thickAt_14 (fun v7 =>
 (x_if_ne g 26 dX11_thickAt_17 rfl
 (fun _ => (x_aload_n g 0 dX11_thickAt_26 rfl rfl
 (x_iload_n g 2 dX11_thickAt_27 rfl rfl
 (x_iload_n g 3 dX11_thickAt_28 rfl rfl
 (x_callVi (As := [.int a2, .int a3]) g mv_X11_triangleOf mi_X11_triangleOf lk_RX11_406 ht (fun b Mh_ hb => kX11_triangleOf φ t a2 a3 M2 ht _ _ hb) rfl rfl hR ⟨Nat.le_of_ble_eq_true rfl, Nat.le_of_ble_eq_true rfl⟩ (Nat.le_of_ble_eq_true rfl) dX11_thickAt_29 (fun v8 M9 =>
 (x_istore (L' := [(4, .int v8), (0, .ref t), (1, .int a1), (2, .int a2), (3, .int a3)]) g dX11_thickAt_32 hn (Nat.le_of_ble_eq_true rfl) rfl
 (x_iload g 0 dX11_thickAt_34 rfl
 (x_iconst g dX11_thickAt_36 kI_m1
 (x_icmp_ne g 47 dX11_thickAt_37 rfl
 (fun _ => (x_lconst g dX11_thickAt_47 kL_0
 (x_lstore (L' := [(5, .long (0 : Int64)), (4, .int v8), (0, .ref t), (1, .int a1), (2, .int a2), (3, .int a3)]) g dX11_thickAt_48 hn (Nat.le_of_ble_eq_true rfl) rfl
 (x_iconst g dX11_thickAt_50 kI_0
 (x_istore (L' := [(7, .int (0 : Int32)), (5, .long (0 : Int64)), (4, .int v8), (0, .ref t), (1, .int a1), (2, .int a2), (3, .int a3)]) g dX11_thickAt_51 hn (Nat.le_of_ble_eq_true rfl) rfl
 (x_sub [3, 4, 2, 1, 0] rfl (wlX11_thickAt_53 g hr hR hn _ φ t a1 v8 M9 ht
 (fun vz13 => by exact (x_aload_n g 0 dX11_thickAt_92 rfl rfl
 (x_lload g 2 dX11_thickAt_93 rfl
 (x_aload_n g 0 dX11_thickAt_95 rfl rfl
 (x_iload g 1 dX11_thickAt_96 rfl
 (x_callVlp (As := [.int v8]) g mv_X11_twiceArea mi_X11_twiceArea lk_RX11_378 ht (fun b hb => kX11_twiceArea t v8 M9 ht _ _ hb) rfl rfl hR ⟨Nat.le_of_ble_eq_true rfl, Nat.le_of_ble_eq_true rfl⟩ (Nat.le_of_ble_eq_true rfl) dX11_thickAt_98 (fun vz14 =>
 (x_callSlp (As := [.long vz14]) g mv_X11_size ms_X11_size lk_RX11_382 (fun b hb => kX11_size vz14 M9 _ _ hb) rfl rfl hR ⟨Nat.le_of_ble_eq_true rfl, Nat.le_of_ble_eq_true rfl⟩ (Nat.le_of_ble_eq_true rfl) dX11_thickAt_101 (fun vz15 =>
 (x_callVi (As := [.long vz13, .long vz15]) g mv_X11_tellsBy mi_X11_tellsBy lk_RX11_387 ht (fun b Mh_ hb => kX11_tellsBy φ t vz13 vz15 M9 ht _ _ hb) rfl rfl hR ⟨Nat.le_of_ble_eq_true rfl, Nat.le_of_ble_eq_true rfl⟩ (Nat.le_of_ble_eq_true rfl) dX11_thickAt_104 (fun v16 M17 =>
 (x_ck (fun hq18 => x_iret g hr (nbz hq18) rfl dX11_thickAt_107))))))))))))) φ (0 : Int64) (0 : Int32))))))))
 (fun _ => (x_aload_n g 1 dX11_thickAt_40 rfl rfl
 (x_bipush g dX11_thickAt_41 kB_6
 (x_callVi (As := [.int (6 : Int32)]) g mv_X11_is mi_X11_is lk_RX11_109 ht (fun b Mh_ hb => kX11_is t (6 : Int32) M9 ht _ _ hb) rfl rfl hR ⟨Nat.le_of_ble_eq_true rfl, Nat.le_of_ble_eq_true rfl⟩ (Nat.le_of_ble_eq_true rfl) dX11_thickAt_43 (fun v19 M20 =>
 (x_ck (fun hq21 => x_iret g hr (nbz hq21) rfl dX11_thickAt_46)))))))))))))))))
 (fun _ => (x_aload_n g 0 dX11_thickAt_20 rfl rfl
 (x_iconst g dX11_thickAt_21 kI_1
 (x_callVi (As := [.int (1 : Int32)]) g mv_X11_is mi_X11_is lk_RX11_109 ht (fun b Mh_ hb => kX11_is t (1 : Int32) M2 ht _ _ hb) rfl rfl hR ⟨Nat.le_of_ble_eq_true rfl, Nat.le_of_ble_eq_true rfl⟩ (Nat.le_of_ble_eq_true rfl) dX11_thickAt_22 (fun v22 M23 =>
 (x_ck (fun hq24 => x_iret g hr (nbz hq24) rfl dX11_thickAt_25)))))))))))))))))))))
def lX11_sixVolumes_5 (K33 : Int64 → Option Int64) (φ : Nat) (t : Nat) (x1 : Int32) (x2 : Int32) (M : Mem) : Nat → Int64 → Int32 → Option Int64
  | 0, _, _ => none
  | n + 1, xz3, x5 =>
    if (3 : Int32) ≤ x5 then
 K33 xz3
 else
 (fX11_corner t x2 x5 M).bind fun v1 =>
 (fX11_thickIn φ t x1 v1 M).bind fun v2 =>
 nm (xz3 + (v2.toInt64)) (fun vz3 =>
 lX11_sixVolumes_5 K33 φ t x1 x2 M n vz3 (x5 + 1))
theorem lX11_sixVolumes_5_s (K33 : Int64 → Option Int64) (φ : Nat) (t : Nat) (x1 : Int32) (x2 : Int32) (M : Mem) (n : Nat) (xz3 : Int64) (x5 : Int32) : lX11_sixVolumes_5 K33 φ t x1 x2 M (n + 1) xz3 x5 =
    if (3 : Int32) ≤ x5 then
 K33 xz3
 else
 (fX11_corner t x2 x5 M).bind fun v1 =>
 (fX11_thickIn φ t x1 v1 M).bind fun v2 =>
 nm (xz3 + (v2.toInt64)) (fun vz3 =>
 lX11_sixVolumes_5 K33 φ t x1 x2 M n vz3 (x5 + 1)) := rfl
theorem lX11_sixVolumes_5_0 (K33 : Int64 → Option Int64) (φ : Nat) (t : Nat) (x1 : Int32) (x2 : Int32) (M : Mem) (xz3 : Int64) (x5 : Int32) : lX11_sixVolumes_5 K33 φ t x1 x2 M 0 xz3 x5 = none := rfl
set_option maxRecDepth 100000 in
set_option maxHeartbeats 4000000 in
theorem wlX11_sixVolumes_5 {J : JT} (g : Gd J cX11_sixVolumes RX11) (hr : Rt J (some .long)) (hR : (JR J).frames = 3 ∧ (JR J).locals = 73) (hn : Jn J = 6) (K33 : Int64 → Option Int64) (φ : Nat) (t : Nat) (x1 : Int32) (x2 : Int32) (M : Mem) (ht : isO 11 t) (hK33 : ∀ (yz3 : Int64), X J (fun b : Int64 => (some (Value.long b), M)) (K33 yz3) 33 [(0, .ref t), (2, .int x2), (3, .long yz3)] [] M) : ∀ (n : Nat) (xz3 : Int64) (x5 : Int32), X J (fun b : Int64 => (some (Value.long b), M)) (lX11_sixVolumes_5 K33 φ t x1 x2 M n xz3 x5) 5 [(0, .ref t), (1, .int x1), (2, .int x2), (3, .long xz3), (5, .int x5)] [] M := by
  intro n
  induction n with
  | zero =>
    intro xz3 x5
    exact x_none
  | succ n ih =>
    intro xz3 x5
    rw [lX11_sixVolumes_5_s]
    exact (x_iload g 4 dX11_sixVolumes_5 rfl
 (x_iconst g dX11_sixVolumes_7 kI_3
 (x_icmp_ge g 33 dX11_sixVolumes_8 rfl
 (fun _ => (x_sub [0, 2, 3] rfl (hK33 xz3)))
 (fun _ => (x_lload_n g 3 dX11_sixVolumes_11 rfl rfl
 (x_aload_n g 0 dX11_sixVolumes_12 rfl rfl
 (x_iload_n g 1 dX11_sixVolumes_13 rfl rfl
 (x_aload_n g 0 dX11_sixVolumes_14 rfl rfl
 (x_iload_n g 2 dX11_sixVolumes_15 rfl rfl
 (x_iload g 4 dX11_sixVolumes_16 rfl
 (x_callVip (As := [.int x2, .int x5]) g mv_X11_corner mi_X11_corner lk_RX11_372 ht (fun b hb => kX11_corner t x2 x5 M ht _ _ hb) rfl rfl hR ⟨Nat.le_of_ble_eq_true rfl, Nat.le_of_ble_eq_true rfl⟩ (Nat.le_of_ble_eq_true rfl) dX11_sixVolumes_18 (fun v1 =>
 (x_callVip (As := [.int x1, .int v1]) g mv_X11_thickIn mi_X11_thickIn lk_RX11_360 ht (fun b hb => kX11_thickIn φ t x1 v1 M ht _ _ hb) rfl rfl hR ⟨Nat.le_of_ble_eq_true rfl, Nat.le_of_ble_eq_true rfl⟩ (Nat.le_of_ble_eq_true rfl) dX11_sixVolumes_21 (fun v2 =>
 (x_i2l g dX11_sixVolumes_24
 (x_ladd g dX11_sixVolumes_25
 (x_nmL (fun vz3 => (x_lstore_n (L' := [(3, .long vz3), (0, .ref t), (1, .int x1), (2, .int x2), (5, .int x5)]) g dX11_sixVolumes_26 rfl hn (Nat.le_of_ble_eq_true rfl) rfl
 (x_iinc (L' := [(5, .int (x5 + 1)), (3, .long vz3), (0, .ref t), (1, .int x1), (2, .int x2)]) (v := (x5 + 1)) g 4 dX11_sixVolumes_27 rfl (by rw [kI_1]) hn (Nat.le_of_ble_eq_true rfl) rfl
 (x_goto g 5 dX11_sixVolumes_30 rfl
 (x_sub [2, 3, 4, 1, 0] rfl (ih vz3 (x5 + 1))))))))))))))))))))))))
def fX11_sixVolumes (φ : Nat) (t : Nat) (a1 : Int32) (a2 : Int32) (M : Mem) : Option Int64 :=
  lX11_sixVolumes_5 (fun (vz4 : Int64) => (fX11_twiceArea t a2 M).bind fun vz5 =>
 (fX11_size vz5 M).bind fun vz6 =>
 some (vz4 * vz6)) φ t a1 a2 M φ (0 : Int64) (0 : Int32)
set_option maxRecDepth 100000 in
set_option maxHeartbeats 4000000 in
theorem kX11_sixVolumes (φ : Nat) (t : Nat) (a1 : Int32) (a2 : Int32) (M : Mem) (ht : isO 11 t) (l : Launch) (G : GT) {b : Int64} (hE : fX11_sixVolumes φ t a1 a2 M = some b) : Ok l G yX11_sixVolumes cX11_sixVolumes 6 (some .long) 3 73 [.ref t, .int a1, .int a2] M ((fun b : Int64 => (some (Value.long b), M)) b).1 ((fun b : Int64 => (some (Value.long b), M)) b).2 := by
  refine Ok.ofX (pj := (fun b : Int64 => (some (Value.long b), M))) (by decide) (Nat.le_of_ble_eq_true rfl) hE (fun J g hr hG hl hR hn => ?_)
  show X J (fun b : Int64 => (some (Value.long b), M)) (fX11_sixVolumes φ t a1 a2 M) 0 [(0, .ref t), (1, .int a1), (2, .int a2)] [] M
  unfold fX11_sixVolumes
  exact (x_lconst g dX11_sixVolumes_0 kL_0
 (x_lstore_n (L' := [(3, .long (0 : Int64)), (0, .ref t), (1, .int a1), (2, .int a2)]) g dX11_sixVolumes_1 rfl hn (Nat.le_of_ble_eq_true rfl) rfl
 (x_iconst g dX11_sixVolumes_2 kI_0
 (x_istore (L' := [(5, .int (0 : Int32)), (3, .long (0 : Int64)), (0, .ref t), (1, .int a1), (2, .int a2)]) g dX11_sixVolumes_3 hn (Nat.le_of_ble_eq_true rfl) rfl
 (x_sub [2, 3, 4, 1, 0] rfl (wlX11_sixVolumes_5 g hr hR hn _ φ t a1 a2 M ht
 (fun vz4 => by exact (x_lload_n g 2 dX11_sixVolumes_33 rfl rfl
 (x_aload_n g 0 dX11_sixVolumes_34 rfl rfl
 (x_iload_n g 1 dX11_sixVolumes_35 rfl rfl
 (x_callVlp (As := [.int a2]) g mv_X11_twiceArea mi_X11_twiceArea lk_RX11_378 ht (fun b hb => kX11_twiceArea t a2 M ht _ _ hb) rfl rfl hR ⟨Nat.le_of_ble_eq_true rfl, Nat.le_of_ble_eq_true rfl⟩ (Nat.le_of_ble_eq_true rfl) dX11_sixVolumes_36 (fun vz5 =>
 (x_callSlp (As := [.long vz5]) g mv_X11_size ms_X11_size lk_RX11_382 (fun b hb => kX11_size vz5 M _ _ hb) rfl rfl hR ⟨Nat.le_of_ble_eq_true rfl, Nat.le_of_ble_eq_true rfl⟩ (Nat.le_of_ble_eq_true rfl) dX11_sixVolumes_39 (fun vz6 =>
 (x_lmul g dX11_sixVolumes_42
 (x_lret g hr rfl dX11_sixVolumes_43)))))))))) φ (0 : Int64) (0 : Int32)))))))
def fX11_volume (φ : Nat) (t : Nat) (a1 : Int32) (a2 : Int32) (M : Mem) : Option (Int32 × Mem) :=
  bd (fX11_laysBeds φ t M) fun vu1 M2 =>
 (fX11_isBed t a1 M2).bind fun v3 =>
 if v3 = 0 then
 bd (fX11_is t (1 : Int32) M2) fun v4 M5 =>
 if v4 = 0 ∨ v4 = 1 then some (v4, M5) else none
 else
 (fX11_isTriangle t a2 M2).bind fun v7 =>
 if v7 = 0 then
 bd (fX11_is t (1 : Int32) M2) fun v16 M17 =>
 if v16 = 0 ∨ v16 = 1 then some (v16, M17) else none
 else
 (fX11_isAcross φ t a2 M2).bind fun v8 =>
 if v8 = 0 then
 (fX11_sixVolumes φ t a1 a2 M2).bind fun vz9 =>
 bd (fX11_tellsBy φ t vz9 (6 : Int64) M2) fun v10 M11 =>
 if v10 = 0 ∨ v10 = 1 then some (v10, M11) else none
 else
 bd (fX11_is t (7 : Int32) M2) fun v13 M14 =>
 if v13 = 0 ∨ v13 = 1 then some (v13, M14) else none
set_option maxRecDepth 100000 in
set_option maxHeartbeats 4000000 in
theorem kX11_volume (φ : Nat) (t : Nat) (a1 : Int32) (a2 : Int32) (M : Mem) (ht : isO 11 t) (l : Launch) (G : GT) {b : (Int32 × Mem)} (hE : fX11_volume φ t a1 a2 M = some b) : Ok l G yX11_volume cX11_volume 3 (some .boolean) 5 118 [.ref t, .int a1, .int a2] M ((fun q : Int32 × Mem => (some (Value.int q.1), q.2)) b).1 ((fun q : Int32 × Mem => (some (Value.int q.1), q.2)) b).2 := by
  refine Ok.ofX (pj := (fun q : Int32 × Mem => (some (Value.int q.1), q.2))) (by decide) (Nat.le_of_ble_eq_true rfl) hE (fun J g hr hG hl hR hn => ?_)
  show X J (fun q : Int32 × Mem => (some (Value.int q.1), q.2)) (fX11_volume φ t a1 a2 M) 0 [(0, .ref t), (1, .int a1), (2, .int a2)] [] M
  unfold fX11_volume
  exact (x_aload_n g 0 dX11_volume_0 rfl rfl
 (x_callVv (As := []) g mv_X11_laysBeds mi_X11_laysBeds lk_RX11_348 ht (fun b Mh_ hb => kX11_laysBeds φ t M ht _ _ hb) rfl rfl hR ⟨Nat.le_of_ble_eq_true rfl, Nat.le_of_ble_eq_true rfl⟩ (Nat.le_of_ble_eq_true rfl) dX11_volume_1 (fun vu1 M2 =>
 (x_aload_n g 0 dX11_volume_4 rfl rfl
 (x_iload_n g 1 dX11_volume_5 rfl rfl
 (x_callVip (As := [.int a1]) g mv_X11_isBed mi_X11_isBed lk_RX11_354 ht (fun b hb => kX11_isBed t a1 M2 ht _ _ hb) rfl rfl hR ⟨Nat.le_of_ble_eq_true rfl, Nat.le_of_ble_eq_true rfl⟩ (Nat.le_of_ble_eq_true rfl) dX11_volume_6 (fun v3 =>
 (x_if_eq g 20 dX11_volume_9 rfl
 (fun _ => (x_aload_n g 0 dX11_volume_20 rfl rfl
 (x_iconst g dX11_volume_21 kI_1
 (x_callVi (As := [.int (1 : Int32)]) g mv_X11_is mi_X11_is lk_RX11_109 ht (fun b Mh_ hb => kX11_is t (1 : Int32) M2 ht _ _ hb) rfl rfl hR ⟨Nat.le_of_ble_eq_true rfl, Nat.le_of_ble_eq_true rfl⟩ (Nat.le_of_ble_eq_true rfl) dX11_volume_22 (fun v4 M5 =>
 (x_ck (fun hq6 => x_iret g hr (nbz hq6) rfl dX11_volume_25)))))))
 (fun _ => (x_aload_n g 0 dX11_volume_12 rfl rfl
 (x_iload_n g 2 dX11_volume_13 rfl rfl
 (x_callVip (As := [.int a2]) g mv_X11_isTriangle mi_X11_isTriangle lk_RX11_375 ht (fun b hb => kX11_isTriangle t a2 M2 ht _ _ hb) rfl rfl hR ⟨Nat.le_of_ble_eq_true rfl, Nat.le_of_ble_eq_true rfl⟩ (Nat.le_of_ble_eq_true rfl) dX11_volume_14 (fun v7 =>
 (x_if_ne g 26 dX11_volume_17 rfl
 (fun _ => (x_aload_n g 0 dX11_volume_26 rfl rfl
 (x_iload_n g 2 dX11_volume_27 rfl rfl
 (x_callVip (As := [.int a2]) g mv_X11_isAcross mi_X11_isAcross lk_RX11_391 ht (fun b hb => kX11_isAcross φ t a2 M2 ht _ _ hb) rfl rfl hR ⟨Nat.le_of_ble_eq_true rfl, Nat.le_of_ble_eq_true rfl⟩ (Nat.le_of_ble_eq_true rfl) dX11_volume_28 (fun v8 =>
 (x_if_eq g 43 dX11_volume_31 rfl
 (fun _ => (x_aload_n g 0 dX11_volume_43 rfl rfl
 (x_aload_n g 0 dX11_volume_44 rfl rfl
 (x_iload_n g 1 dX11_volume_45 rfl rfl
 (x_iload_n g 2 dX11_volume_46 rfl rfl
 (x_callVlp (As := [.int a1, .int a2]) g mv_X11_sixVolumes mi_X11_sixVolumes lk_RX11_409 ht (fun b hb => kX11_sixVolumes φ t a1 a2 M2 ht _ _ hb) rfl rfl hR ⟨Nat.le_of_ble_eq_true rfl, Nat.le_of_ble_eq_true rfl⟩ (Nat.le_of_ble_eq_true rfl) dX11_volume_47 (fun vz9 =>
 (x_ldc2 g cw_RX11_413 dX11_volume_50
 (x_callVi (As := [.long vz9, .long (6 : Int64)]) g mv_X11_tellsBy mi_X11_tellsBy lk_RX11_387 ht (fun b Mh_ hb => kX11_tellsBy φ t vz9 (6 : Int64) M2 ht _ _ hb) rfl rfl hR ⟨Nat.le_of_ble_eq_true rfl, Nat.le_of_ble_eq_true rfl⟩ (Nat.le_of_ble_eq_true rfl) dX11_volume_53 (fun v10 M11 =>
 (x_ck (fun hq12 => x_iret g hr (nbz hq12) rfl dX11_volume_56))))))))))))
 (fun _ => (x_aload_n g 0 dX11_volume_34 rfl rfl
 (x_bipush g dX11_volume_35 kB_7
 (x_callVi (As := [.int (7 : Int32)]) g mv_X11_is mi_X11_is lk_RX11_109 ht (fun b Mh_ hb => kX11_is t (7 : Int32) M2 ht _ _ hb) rfl rfl hR ⟨Nat.le_of_ble_eq_true rfl, Nat.le_of_ble_eq_true rfl⟩ (Nat.le_of_ble_eq_true rfl) dX11_volume_37 (fun v13 M14 =>
 (x_goto g 56 dX11_volume_40 rfl
 (x_ck (fun hq15 => x_iret g hr (nbz hq15) rfl dX11_volume_56))))))))))))))
 (fun _ => (x_aload_n g 0 dX11_volume_20 rfl rfl
 (x_iconst g dX11_volume_21 kI_1
 (x_callVi (As := [.int (1 : Int32)]) g mv_X11_is mi_X11_is lk_RX11_109 ht (fun b Mh_ hb => kX11_is t (1 : Int32) M2 ht _ _ hb) rfl rfl hR ⟨Nat.le_of_ble_eq_true rfl, Nat.le_of_ble_eq_true rfl⟩ (Nat.le_of_ble_eq_true rfl) dX11_volume_22 (fun v16 M17 =>
 (x_ck (fun hq18 => x_iret g hr (nbz hq18) rfl dX11_volume_25)))))))))))))))))))))
def lX11_volumeOf_23 (φ : Nat) (t : Nat) (x1 : Int32) (M : Mem) : Nat → Int64 → Int32 → Option (Int32 × Mem)
  | 0, _, _ => none
  | n + 1, xz2, x4 =>
    ixk (2 : Int32) 3900 (
 if (M.1 (t + 1) (2 : Int32).toNatClampNeg) ≤ x4 then
 bd (fX11_tellsBy φ t xz2 (6 : Int64) M) fun v4 M5 =>
 if v4 = 0 ∨ v4 = 1 then some (v4, M5) else none
 else
 (fX11_isAcross φ t x4 M).bind fun v7 =>
 jn (fun (vz8 : Int64) => nm (xz2 + vz8) (fun vz10 =>
 lX11_volumeOf_23 φ t x1 M n vz10 (x4 + 1))) (fun J9 => if v7 = 0 then
 (fX11_sixVolumes φ t x1 x4 M).bind fun vz11 =>
 J9 vz11
 else
 J9 (0 : Int64)))
theorem lX11_volumeOf_23_s (φ : Nat) (t : Nat) (x1 : Int32) (M : Mem) (n : Nat) (xz2 : Int64) (x4 : Int32) : lX11_volumeOf_23 φ t x1 M (n + 1) xz2 x4 =
    ixk (2 : Int32) 3900 (
 if (M.1 (t + 1) (2 : Int32).toNatClampNeg) ≤ x4 then
 bd (fX11_tellsBy φ t xz2 (6 : Int64) M) fun v4 M5 =>
 if v4 = 0 ∨ v4 = 1 then some (v4, M5) else none
 else
 (fX11_isAcross φ t x4 M).bind fun v7 =>
 jn (fun (vz8 : Int64) => nm (xz2 + vz8) (fun vz10 =>
 lX11_volumeOf_23 φ t x1 M n vz10 (x4 + 1))) (fun J9 => if v7 = 0 then
 (fX11_sixVolumes φ t x1 x4 M).bind fun vz11 =>
 J9 vz11
 else
 J9 (0 : Int64))) := rfl
theorem lX11_volumeOf_23_0 (φ : Nat) (t : Nat) (x1 : Int32) (M : Mem) (xz2 : Int64) (x4 : Int32) : lX11_volumeOf_23 φ t x1 M 0 xz2 x4 = none := rfl
set_option maxRecDepth 100000 in
set_option maxHeartbeats 4000000 in
theorem wlX11_volumeOf_23 {J : JT} (g : Gd J cX11_volumeOf RX11) (hr : Rt J (some .boolean)) (hR : (JR J).frames = 5 ∧ (JR J).locals = 118) (hn : Jn J = 5) (φ : Nat) (t : Nat) (x1 : Int32) (M : Mem) (ht : isO 11 t) : ∀ (n : Nat) (xz2 : Int64) (x4 : Int32), X J (fun q : Int32 × Mem => (some (Value.int q.1), q.2)) (lX11_volumeOf_23 φ t x1 M n xz2 x4) 23 [(0, .ref t), (1, .int x1), (2, .long xz2), (4, .int x4)] [] M := by
  intro n
  induction n with
  | zero =>
    intro xz2 x4
    exact x_none
  | succ n ih =>
    intro xz2 x4
    rw [lX11_volumeOf_23_s]
    exact (x_iload g 3 dX11_volumeOf_23 rfl
 (x_aload_n g 0 dX11_volumeOf_25 rfl rfl
 (x_getS g 1 fl_RX11_7 rfl ht dX11_volumeOf_26
 (x_iconst g dX11_volumeOf_29 kI_2
 (x_iald g (so_11_0 ht) dX11_volumeOf_30
 (x_icmp_ge g 63 dX11_volumeOf_31 rfl
 (fun _ => (x_aload_n g 0 dX11_volumeOf_63 rfl rfl
 (x_lload_n g 2 dX11_volumeOf_64 rfl rfl
 (x_ldc2 g cw_RX11_413 dX11_volumeOf_65
 (x_callVi (As := [.long xz2, .long (6 : Int64)]) g mv_X11_tellsBy mi_X11_tellsBy lk_RX11_387 ht (fun b Mh_ hb => kX11_tellsBy φ t xz2 (6 : Int64) M ht _ _ hb) rfl rfl hR ⟨Nat.le_of_ble_eq_true rfl, Nat.le_of_ble_eq_true rfl⟩ (Nat.le_of_ble_eq_true rfl) dX11_volumeOf_68 (fun v4 M5 =>
 (x_ck (fun hq6 => x_iret g hr (nbz hq6) rfl dX11_volumeOf_71))))))))
 (fun _ => (x_lload_n g 2 dX11_volumeOf_34 rfl rfl
 (x_aload_n g 0 dX11_volumeOf_35 rfl rfl
 (x_iload g 3 dX11_volumeOf_36 rfl
 (x_callVip (As := [.int x4]) g mv_X11_isAcross mi_X11_isAcross lk_RX11_391 ht (fun b hb => kX11_isAcross φ t x4 M ht _ _ hb) rfl rfl hR ⟨Nat.le_of_ble_eq_true rfl, Nat.le_of_ble_eq_true rfl⟩ (Nat.le_of_ble_eq_true rfl) dX11_volumeOf_38 (fun v7 =>
 (x_jn (fun (J9 : Int64 → Option (Int32 × Mem)) => ∀ (vz8 : Int64), X J (fun q : Int32 × Mem => (some (Value.int q.1), q.2)) (J9 vz8) 55 [(0, .ref t), (1, .int x1), (4, .int x4)] [.long vz8, .long xz2] M) (fun vz8 => (x_ladd g dX11_volumeOf_55
 (x_nmL (fun vz10 => (x_lstore_n (L' := [(2, .long vz10), (0, .ref t), (1, .int x1), (4, .int x4)]) g dX11_volumeOf_56 rfl hn (Nat.le_of_ble_eq_true rfl) rfl
 (x_iinc (L' := [(4, .int (x4 + 1)), (2, .long vz10), (0, .ref t), (1, .int x1)]) (v := (x4 + 1)) g 3 dX11_volumeOf_57 rfl (by rw [kI_1]) hn (Nat.le_of_ble_eq_true rfl) rfl
 (x_goto g 23 dX11_volumeOf_60 rfl
 (x_sub [2, 3, 1, 0] rfl (ih vz10 (x4 + 1)))))))))) (fun J9 hJ9 => (x_if_eq g 48 dX11_volumeOf_41 rfl
 (fun _ => (x_aload_n g 0 dX11_volumeOf_48 rfl rfl
 (x_iload_n g 1 dX11_volumeOf_49 rfl rfl
 (x_iload g 3 dX11_volumeOf_50 rfl
 (x_callVlp (As := [.int x1, .int x4]) g mv_X11_sixVolumes mi_X11_sixVolumes lk_RX11_409 ht (fun b hb => kX11_sixVolumes φ t x1 x4 M ht _ _ hb) rfl rfl hR ⟨Nat.le_of_ble_eq_true rfl, Nat.le_of_ble_eq_true rfl⟩ (Nat.le_of_ble_eq_true rfl) dX11_volumeOf_52 (fun vz11 =>
 (x_sub [0, 1, 3] rfl (hJ9 vz11))))))))
 (fun _ => (x_lconst g dX11_volumeOf_44 kL_0
 (x_goto g 55 dX11_volumeOf_45 rfl
 (x_sub [0, 1, 3] rfl (hJ9 (0 : Int64)))))))))))))))))))))
def fX11_volumeOf (φ : Nat) (t : Nat) (a1 : Int32) (M : Mem) : Option (Int32 × Mem) :=
  bd (fX11_laysBeds φ t M) fun vu1 M2 =>
 (fX11_isBed t a1 M2).bind fun v3 =>
 if v3 = 0 then
 bd (fX11_is t (1 : Int32) M2) fun v12 M13 =>
 if v12 = 0 ∨ v12 = 1 then some (v12, M13) else none
 else
 lX11_volumeOf_23 φ t a1 M2 φ (0 : Int64) (0 : Int32)
set_option maxRecDepth 100000 in
set_option maxHeartbeats 4000000 in
theorem kX11_volumeOf (φ : Nat) (t : Nat) (a1 : Int32) (M : Mem) (ht : isO 11 t) (l : Launch) (G : GT) {b : (Int32 × Mem)} (hE : fX11_volumeOf φ t a1 M = some b) : Ok l G yX11_volumeOf cX11_volumeOf 5 (some .boolean) 5 118 [.ref t, .int a1] M ((fun q : Int32 × Mem => (some (Value.int q.1), q.2)) b).1 ((fun q : Int32 × Mem => (some (Value.int q.1), q.2)) b).2 := by
  refine Ok.ofX (pj := (fun q : Int32 × Mem => (some (Value.int q.1), q.2))) (by decide) (Nat.le_of_ble_eq_true rfl) hE (fun J g hr hG hl hR hn => ?_)
  show X J (fun q : Int32 × Mem => (some (Value.int q.1), q.2)) (fX11_volumeOf φ t a1 M) 0 [(0, .ref t), (1, .int a1)] [] M
  unfold fX11_volumeOf
  exact (x_aload_n g 0 dX11_volumeOf_0 rfl rfl
 (x_callVv (As := []) g mv_X11_laysBeds mi_X11_laysBeds lk_RX11_348 ht (fun b Mh_ hb => kX11_laysBeds φ t M ht _ _ hb) rfl rfl hR ⟨Nat.le_of_ble_eq_true rfl, Nat.le_of_ble_eq_true rfl⟩ (Nat.le_of_ble_eq_true rfl) dX11_volumeOf_1 (fun vu1 M2 =>
 (x_aload_n g 0 dX11_volumeOf_4 rfl rfl
 (x_iload_n g 1 dX11_volumeOf_5 rfl rfl
 (x_callVip (As := [.int a1]) g mv_X11_isBed mi_X11_isBed lk_RX11_354 ht (fun b hb => kX11_isBed t a1 M2 ht _ _ hb) rfl rfl hR ⟨Nat.le_of_ble_eq_true rfl, Nat.le_of_ble_eq_true rfl⟩ (Nat.le_of_ble_eq_true rfl) dX11_volumeOf_6 (fun v3 =>
 (x_if_ne g 18 dX11_volumeOf_9 rfl
 (fun _ => (x_lconst g dX11_volumeOf_18 kL_0
 (x_lstore_n (L' := [(2, .long (0 : Int64)), (0, .ref t), (1, .int a1)]) g dX11_volumeOf_19 rfl hn (Nat.le_of_ble_eq_true rfl) rfl
 (x_iconst g dX11_volumeOf_20 kI_0
 (x_istore (L' := [(4, .int (0 : Int32)), (2, .long (0 : Int64)), (0, .ref t), (1, .int a1)]) g dX11_volumeOf_21 hn (Nat.le_of_ble_eq_true rfl) rfl
 (x_sub [2, 3, 1, 0] rfl (wlX11_volumeOf_23 g hr hR hn  φ t a1 M2 ht φ (0 : Int64) (0 : Int32))))))))
 (fun _ => (x_aload_n g 0 dX11_volumeOf_12 rfl rfl
 (x_iconst g dX11_volumeOf_13 kI_1
 (x_callVi (As := [.int (1 : Int32)]) g mv_X11_is mi_X11_is lk_RX11_109 ht (fun b Mh_ hb => kX11_is t (1 : Int32) M2 ht _ _ hb) rfl rfl hR ⟨Nat.le_of_ble_eq_true rfl, Nat.le_of_ble_eq_true rfl⟩ (Nat.le_of_ble_eq_true rfl) dX11_volumeOf_14 (fun v12 M13 =>
 (x_ck (fun hq14 => x_iret g hr (nbz hq14) rfl dX11_volumeOf_17)))))))))))))))
def lX11_tilt_59 (K148 : Mem → Option (Int32 × Mem)) (φ : Nat) (t : Nat) (x1 : Int32) (x2 : Int32) (x3 : Int32) (xr4 : Nat) : Nat → Int32 → Mem → Option (Int32 × Mem)
  | 0, _, _ => none
  | n + 1, x5, M =>
    if (3 : Int32) ≤ x5 then
 K148 M
 else
 (fX11_corner t x2 x5 M).bind fun v15 =>
 (fX11_firstOf φ t x1 v15 M).bind fun v16 =>
 if v16 = (-1 : Int32) then
 bd (fX11_is t (7 : Int32) M) fun v23 M24 =>
 if v23 = 0 ∨ v23 = 1 then some (v23, M24) else none
 else
 (fX11_corner t x2 x5 M).bind fun v17 =>
 (fX11_holeRow v17 M).bind fun v18 =>
 ixk ((v18 + (1 : Int32)) - x3) 3900 (
 ixk x5 3 (nm (stL M xr4 x5.toNatClampNeg ((M.1 (t + 1) ((v18 + (1 : Int32)) - x3).toNatClampNeg).toInt64)) (fun M19 =>
 (fX11_corner t x2 x5 M19).bind fun v20 =>
 (fX11_depthOf φ t v20 v16 M19).bind fun v21 =>
 ixk x5 3 (nm (stL M19 (t + 18) x5.toNatClampNeg (v21.toInt64)) (fun M22 =>
 lX11_tilt_59 K148 φ t x1 x2 x3 xr4 n (x5 + 1) M22)))))
theorem lX11_tilt_59_s (K148 : Mem → Option (Int32 × Mem)) (φ : Nat) (t : Nat) (x1 : Int32) (x2 : Int32) (x3 : Int32) (xr4 : Nat) (n : Nat) (x5 : Int32) (M : Mem) : lX11_tilt_59 K148 φ t x1 x2 x3 xr4 (n + 1) x5 M =
    if (3 : Int32) ≤ x5 then
 K148 M
 else
 (fX11_corner t x2 x5 M).bind fun v15 =>
 (fX11_firstOf φ t x1 v15 M).bind fun v16 =>
 if v16 = (-1 : Int32) then
 bd (fX11_is t (7 : Int32) M) fun v23 M24 =>
 if v23 = 0 ∨ v23 = 1 then some (v23, M24) else none
 else
 (fX11_corner t x2 x5 M).bind fun v17 =>
 (fX11_holeRow v17 M).bind fun v18 =>
 ixk ((v18 + (1 : Int32)) - x3) 3900 (
 ixk x5 3 (nm (stL M xr4 x5.toNatClampNeg ((M.1 (t + 1) ((v18 + (1 : Int32)) - x3).toNatClampNeg).toInt64)) (fun M19 =>
 (fX11_corner t x2 x5 M19).bind fun v20 =>
 (fX11_depthOf φ t v20 v16 M19).bind fun v21 =>
 ixk x5 3 (nm (stL M19 (t + 18) x5.toNatClampNeg (v21.toInt64)) (fun M22 =>
 lX11_tilt_59 K148 φ t x1 x2 x3 xr4 n (x5 + 1) M22))))) := rfl
theorem lX11_tilt_59_0 (K148 : Mem → Option (Int32 × Mem)) (φ : Nat) (t : Nat) (x1 : Int32) (x2 : Int32) (x3 : Int32) (xr4 : Nat) (x5 : Int32) (M : Mem) : lX11_tilt_59 K148 φ t x1 x2 x3 xr4 0 x5 M = none := rfl
set_option maxRecDepth 100000 in
set_option maxHeartbeats 4000000 in
theorem wlX11_tilt_59 {J : JT} (g : Gd J cX11_tilt RX11) (hr : Rt J (some .boolean)) (hR : (JR J).frames = 5 ∧ (JR J).locals = 118) (hn : Jn J = 9) (K148 : Mem → Option (Int32 × Mem)) (φ : Nat) (t : Nat) (x1 : Int32) (x2 : Int32) (x3 : Int32) (xr4 : Nat) (ht : isO 11 t) (hxr4 : isA .long 3 xr4) (hK148 : ∀ (M : Mem), X J (fun q : Int32 × Mem => (some (Value.int q.1), q.2)) (K148 M) 148 [(0, .ref t), (2, .int x2), (3, .int x3), (4, .ref xr4)] [] M) : ∀ (n : Nat) (x5 : Int32) (M : Mem), X J (fun q : Int32 × Mem => (some (Value.int q.1), q.2)) (lX11_tilt_59 K148 φ t x1 x2 x3 xr4 n x5 M) 59 [(0, .ref t), (1, .int x1), (2, .int x2), (3, .int x3), (4, .ref xr4), (5, .int x5)] [] M := by
  intro n
  induction n with
  | zero =>
    intro x5 M
    exact x_none
  | succ n ih =>
    intro x5 M
    rw [lX11_tilt_59_s]
    exact (x_iload g 5 dX11_tilt_59 rfl
 (x_iconst g dX11_tilt_61 kI_3
 (x_icmp_ge g 148 dX11_tilt_62 rfl
 (fun _ => (x_sub [0, 2, 3, 4] rfl (hK148 M)))
 (fun _ => (x_aload_n g 0 dX11_tilt_65 rfl rfl
 (x_iload_n g 1 dX11_tilt_66 rfl rfl
 (x_aload_n g 0 dX11_tilt_67 rfl rfl
 (x_iload_n g 2 dX11_tilt_68 rfl rfl
 (x_iload g 5 dX11_tilt_69 rfl
 (x_callVip (As := [.int x2, .int x5]) g mv_X11_corner mi_X11_corner lk_RX11_372 ht (fun b hb => kX11_corner t x2 x5 M ht _ _ hb) rfl rfl hR ⟨Nat.le_of_ble_eq_true rfl, Nat.le_of_ble_eq_true rfl⟩ (Nat.le_of_ble_eq_true rfl) dX11_tilt_71 (fun v15 =>
 (x_callVip (As := [.int x1, .int v15]) g mv_X11_firstOf mi_X11_firstOf lk_RX11_351 ht (fun b hb => kX11_firstOf φ t x1 v15 M ht _ _ hb) rfl rfl hR ⟨Nat.le_of_ble_eq_true rfl, Nat.le_of_ble_eq_true rfl⟩ (Nat.le_of_ble_eq_true rfl) dX11_tilt_74 (fun v16 =>
 (x_istore (L' := [(6, .int v16), (0, .ref t), (1, .int x1), (2, .int x2), (3, .int x3), (4, .ref xr4), (5, .int x5)]) g dX11_tilt_77 hn (Nat.le_of_ble_eq_true rfl) rfl
 (x_iload g 0 dX11_tilt_79 rfl
 (x_iconst g dX11_tilt_81 kI_m1
 (x_icmp_ne g 92 dX11_tilt_82 rfl
 (fun _ => (x_aload_n g 1 dX11_tilt_92 rfl rfl
 (x_iload_n g 3 dX11_tilt_93 rfl rfl
 (x_iload g 6 dX11_tilt_94 rfl
 (x_callVip (As := [.int x2, .int x5]) g mv_X11_corner mi_X11_corner lk_RX11_372 ht (fun b hb => kX11_corner t x2 x5 M ht _ _ hb) rfl rfl hR ⟨Nat.le_of_ble_eq_true rfl, Nat.le_of_ble_eq_true rfl⟩ (Nat.le_of_ble_eq_true rfl) dX11_tilt_96 (fun v17 =>
 (x_callSip (As := [.int v17]) g mv_X11_holeRow ms_X11_holeRow lk_RX11_280 (fun b hb => kX11_holeRow v17 M _ _ hb) rfl rfl hR ⟨Nat.le_of_ble_eq_true rfl, Nat.le_of_ble_eq_true rfl⟩ (Nat.le_of_ble_eq_true rfl) dX11_tilt_99 (fun v18 =>
 (x_istore (L' := [(7, .int v18), (6, .int v16), (0, .ref t), (1, .int x1), (2, .int x2), (3, .int x3), (4, .ref xr4), (5, .int x5)]) g dX11_tilt_102 hn (Nat.le_of_ble_eq_true rfl) rfl
 (x_aload g 6 dX11_tilt_104 rfl
 (x_iload g 7 dX11_tilt_106 rfl
 (x_aload_n g 2 dX11_tilt_108 rfl rfl
 (x_getS g 1 fl_RX11_7 rfl ht dX11_tilt_109
 (x_iload g 0 dX11_tilt_112 rfl
 (x_iconst g dX11_tilt_114 kI_1
 (x_iadd g dX11_tilt_115
 (x_iload_n g 5 dX11_tilt_116 rfl rfl
 (x_isub g dX11_tilt_117
 (x_iald g (so_11_0 ht) dX11_tilt_118
 (x_i2l g dX11_tilt_119
 (x_last g hxr4 dX11_tilt_120 (x_nmM (fun M19 =>
 (x_aload_n g 2 dX11_tilt_121 rfl rfl
 (x_getS g 18 fl_RX11_78 rfl ht dX11_tilt_122
 (x_iload g 7 dX11_tilt_125 rfl
 (x_aload_n g 2 dX11_tilt_127 rfl rfl
 (x_aload_n g 2 dX11_tilt_128 rfl rfl
 (x_iload_n g 4 dX11_tilt_129 rfl rfl
 (x_iload g 7 dX11_tilt_130 rfl
 (x_callVip (As := [.int x2, .int x5]) g mv_X11_corner mi_X11_corner lk_RX11_372 ht (fun b hb => kX11_corner t x2 x5 M19 ht _ _ hb) rfl rfl hR ⟨Nat.le_of_ble_eq_true rfl, Nat.le_of_ble_eq_true rfl⟩ (Nat.le_of_ble_eq_true rfl) dX11_tilt_132 (fun v20 =>
 (x_iload g 1 dX11_tilt_135 rfl
 (x_callVip (As := [.int v20, .int v16]) g mv_X11_depthOf mi_X11_depthOf lk_RX11_314 ht (fun b hb => kX11_depthOf φ t v20 v16 M19 ht _ _ hb) rfl rfl hR ⟨Nat.le_of_ble_eq_true rfl, Nat.le_of_ble_eq_true rfl⟩ (Nat.le_of_ble_eq_true rfl) dX11_tilt_137 (fun v21 =>
 (x_i2l g dX11_tilt_140
 (x_last g (so_11_35 ht) dX11_tilt_141 (x_nmM (fun M22 =>
 (x_iinc (L' := [(5, .int (x5 + 1)), (7, .int v18), (6, .int v16), (0, .ref t), (1, .int x1), (2, .int x2), (3, .int x3), (4, .ref xr4)]) (v := (x5 + 1)) g 7 dX11_tilt_142 rfl (by rw [kI_1]) hn (Nat.le_of_ble_eq_true rfl) rfl
 (x_goto g 59 dX11_tilt_145 rfl
 (x_sub [3, 4, 5, 6, 7, 0] rfl (ih (x5 + 1) M22)))))))))))))))))))))))))))))))))))))))))))
 (fun _ => (x_aload_n g 1 dX11_tilt_85 rfl rfl
 (x_bipush g dX11_tilt_86 kB_7
 (x_callVi (As := [.int (7 : Int32)]) g mv_X11_is mi_X11_is lk_RX11_109 ht (fun b Mh_ hb => kX11_is t (7 : Int32) M ht _ _ hb) rfl rfl hR ⟨Nat.le_of_ble_eq_true rfl, Nat.le_of_ble_eq_true rfl⟩ (Nat.le_of_ble_eq_true rfl) dX11_tilt_88 (fun v23 M24 =>
 (x_ck (fun hq25 => x_iret g hr (nbz hq25) rfl dX11_tilt_91))))))))))))))))))))))))
def fX11_tilt (φ : Nat) (t : Nat) (a1 : Int32) (a2 : Int32) (a3 : Int32) (M : Mem) : Option (Int32 × Mem) :=
  bd (fX11_laysBeds φ t M) fun vu1 M2 =>
 (fX11_isBed t a1 M2).bind fun v3 =>
 if v3 = 0 then
 bd (fX11_is t (1 : Int32) M2) fun v4 M5 =>
 if v4 = 0 ∨ v4 = 1 then some (v4, M5) else none
 else
 (fX11_isTriangle t a2 M2).bind fun v7 =>
 if v7 = 0 then
 bd (fX11_is t (1 : Int32) M2) fun v8 M9 =>
 if v8 = 0 ∨ v8 = 1 then some (v8, M9) else none
 else
 if a3 < 0 then
 bd (fX11_is t (1 : Int32) M2) fun v11 M12 =>
 if v11 = 0 ∨ v11 = 1 then some (v11, M12) else none
 else
 if a3 ≤ (1 : Int32) then
 (fX11_isAcross φ t a2 M2).bind fun v14 =>
 if v14 = 0 then
 lX11_tilt_59 (fun (M26 : Mem) => ixk (1 : Int32) 3 (
 ixk (0 : Int32) 3 (
 ixk (2 : Int32) 3 (
 ixk (0 : Int32) 3 (
 ixk (2 : Int32) 3 (
 ixk (0 : Int32) 3 (
 ixk (1 : Int32) 3 (
 ixk (0 : Int32) 3 (
 nm ((((M26.2.1 (t + 18) (1 : Int32).toNatClampNeg) - (M26.2.1 (t + 18) (0 : Int32).toNatClampNeg)) * ((M26.2.1 (t + 19) (2 : Int32).toNatClampNeg) - (M26.2.1 (t + 19) (0 : Int32).toNatClampNeg))) - (((M26.2.1 (t + 18) (2 : Int32).toNatClampNeg) - (M26.2.1 (t + 18) (0 : Int32).toNatClampNeg)) * ((M26.2.1 (t + 19) (1 : Int32).toNatClampNeg) - (M26.2.1 (t + 19) (0 : Int32).toNatClampNeg)))) (fun vz27 =>
 (fX11_twiceArea t a2 M26).bind fun vz28 =>
 jn (fun (vz29 : Int64) => if (0 : Int64) ≤ vz28 then
 bd (fX11_tellsBy φ t vz29 vz28 M26) fun v31 M32 =>
 if v31 = 0 ∨ v31 = 1 then some (v31, M32) else none
 else
 bd (fX11_tellsBy φ t (-vz29) (-vz28) M26) fun v34 M35 =>
 if v34 = 0 ∨ v34 = 1 then some (v34, M35) else none) (fun J30 => if a3 = (1 : Int32) then
 nm (-vz27) (fun vz37 =>
 J30 vz37)
 else
 J30 vz27))))))))))) φ t a1 a2 a3 (t + 19) φ (0 : Int32) M2
 else
 bd (fX11_is t (7 : Int32) M2) fun v38 M39 =>
 if v38 = 0 ∨ v38 = 1 then some (v38, M39) else none
 else
 bd (fX11_is t (1 : Int32) M2) fun v41 M42 =>
 if v41 = 0 ∨ v41 = 1 then some (v41, M42) else none
set_option maxRecDepth 100000 in
set_option maxHeartbeats 4000000 in
theorem kX11_tilt (φ : Nat) (t : Nat) (a1 : Int32) (a2 : Int32) (a3 : Int32) (M : Mem) (ht : isO 11 t) (l : Launch) (G : GT) {b : (Int32 × Mem)} (hE : fX11_tilt φ t a1 a2 a3 M = some b) : Ok l G yX11_tilt cX11_tilt 9 (some .boolean) 5 118 [.ref t, .int a1, .int a2, .int a3] M ((fun q : Int32 × Mem => (some (Value.int q.1), q.2)) b).1 ((fun q : Int32 × Mem => (some (Value.int q.1), q.2)) b).2 := by
  refine Ok.ofX (pj := (fun q : Int32 × Mem => (some (Value.int q.1), q.2))) (by decide) (Nat.le_of_ble_eq_true rfl) hE (fun J g hr hG hl hR hn => ?_)
  show X J (fun q : Int32 × Mem => (some (Value.int q.1), q.2)) (fX11_tilt φ t a1 a2 a3 M) 0 [(0, .ref t), (1, .int a1), (2, .int a2), (3, .int a3)] [] M
  unfold fX11_tilt
  exact (x_aload_n g 0 dX11_tilt_0 rfl rfl
 (x_callVv (As := []) g mv_X11_laysBeds mi_X11_laysBeds lk_RX11_348 ht (fun b Mh_ hb => kX11_laysBeds φ t M ht _ _ hb) rfl rfl hR ⟨Nat.le_of_ble_eq_true rfl, Nat.le_of_ble_eq_true rfl⟩ (Nat.le_of_ble_eq_true rfl) dX11_tilt_1 (fun vu1 M2 =>
 (x_aload_n g 0 dX11_tilt_4 rfl rfl
 (x_iload_n g 1 dX11_tilt_5 rfl rfl
 (x_callVip (As := [.int a1]) g mv_X11_isBed mi_X11_isBed lk_RX11_354 ht (fun b hb => kX11_isBed t a1 M2 ht _ _ hb) rfl rfl hR ⟨Nat.le_of_ble_eq_true rfl, Nat.le_of_ble_eq_true rfl⟩ (Nat.le_of_ble_eq_true rfl) dX11_tilt_6 (fun v3 =>
 (x_if_eq g 29 dX11_tilt_9 rfl
 (fun _ => (x_aload_n g 0 dX11_tilt_29 rfl rfl
 (x_iconst g dX11_tilt_30 kI_1
 (x_callVi (As := [.int (1 : Int32)]) g mv_X11_is mi_X11_is lk_RX11_109 ht (fun b Mh_ hb => kX11_is t (1 : Int32) M2 ht _ _ hb) rfl rfl hR ⟨Nat.le_of_ble_eq_true rfl, Nat.le_of_ble_eq_true rfl⟩ (Nat.le_of_ble_eq_true rfl) dX11_tilt_31 (fun v4 M5 =>
 (x_ck (fun hq6 => x_iret g hr (nbz hq6) rfl dX11_tilt_34)))))))
 (fun _ => (x_aload_n g 0 dX11_tilt_12 rfl rfl
 (x_iload_n g 2 dX11_tilt_13 rfl rfl
 (x_callVip (As := [.int a2]) g mv_X11_isTriangle mi_X11_isTriangle lk_RX11_375 ht (fun b hb => kX11_isTriangle t a2 M2 ht _ _ hb) rfl rfl hR ⟨Nat.le_of_ble_eq_true rfl, Nat.le_of_ble_eq_true rfl⟩ (Nat.le_of_ble_eq_true rfl) dX11_tilt_14 (fun v7 =>
 (x_if_eq g 29 dX11_tilt_17 rfl
 (fun _ => (x_aload_n g 0 dX11_tilt_29 rfl rfl
 (x_iconst g dX11_tilt_30 kI_1
 (x_callVi (As := [.int (1 : Int32)]) g mv_X11_is mi_X11_is lk_RX11_109 ht (fun b Mh_ hb => kX11_is t (1 : Int32) M2 ht _ _ hb) rfl rfl hR ⟨Nat.le_of_ble_eq_true rfl, Nat.le_of_ble_eq_true rfl⟩ (Nat.le_of_ble_eq_true rfl) dX11_tilt_31 (fun v8 M9 =>
 (x_ck (fun hq10 => x_iret g hr (nbz hq10) rfl dX11_tilt_34)))))))
 (fun _ => (x_iload_n g 3 dX11_tilt_20 rfl rfl
 (x_if_lt g 29 dX11_tilt_21 rfl
 (fun _ => (x_aload_n g 0 dX11_tilt_29 rfl rfl
 (x_iconst g dX11_tilt_30 kI_1
 (x_callVi (As := [.int (1 : Int32)]) g mv_X11_is mi_X11_is lk_RX11_109 ht (fun b Mh_ hb => kX11_is t (1 : Int32) M2 ht _ _ hb) rfl rfl hR ⟨Nat.le_of_ble_eq_true rfl, Nat.le_of_ble_eq_true rfl⟩ (Nat.le_of_ble_eq_true rfl) dX11_tilt_31 (fun v11 M12 =>
 (x_ck (fun hq13 => x_iret g hr (nbz hq13) rfl dX11_tilt_34)))))))
 (fun _ => (x_iload_n g 3 dX11_tilt_24 rfl rfl
 (x_iconst g dX11_tilt_25 kI_1
 (x_icmp_le g 35 dX11_tilt_26 rfl
 (fun _ => (x_aload_n g 0 dX11_tilt_35 rfl rfl
 (x_iload_n g 2 dX11_tilt_36 rfl rfl
 (x_callVip (As := [.int a2]) g mv_X11_isAcross mi_X11_isAcross lk_RX11_391 ht (fun b hb => kX11_isAcross φ t a2 M2 ht _ _ hb) rfl rfl hR ⟨Nat.le_of_ble_eq_true rfl, Nat.le_of_ble_eq_true rfl⟩ (Nat.le_of_ble_eq_true rfl) dX11_tilt_37 (fun v14 =>
 (x_if_eq g 50 dX11_tilt_40 rfl
 (fun _ => (x_aload_n g 0 dX11_tilt_50 rfl rfl
 (x_getS g 19 fl_RX11_81 rfl ht dX11_tilt_51
 (x_astore (L' := [(4, .ref (t + 19)), (0, .ref t), (1, .int a1), (2, .int a2), (3, .int a3)]) g dX11_tilt_54 hn (Nat.le_of_ble_eq_true rfl) rfl
 (x_iconst g dX11_tilt_56 kI_0
 (x_istore (L' := [(5, .int (0 : Int32)), (4, .ref (t + 19)), (0, .ref t), (1, .int a1), (2, .int a2), (3, .int a3)]) g dX11_tilt_57 hn (Nat.le_of_ble_eq_true rfl) rfl
 (x_sub [2, 3, 4, 5, 1, 0] rfl (wlX11_tilt_59 g hr hR hn _ φ t a1 a2 a3 (t + 19) ht (so_11_36 ht)
 (fun M26 => by exact (x_aload_n g 0 dX11_tilt_148 rfl rfl
 (x_getS g 18 fl_RX11_78 rfl ht dX11_tilt_149
 (x_iconst g dX11_tilt_152 kI_1
 (x_lald g (so_11_35 ht) dX11_tilt_153
 (x_aload_n g 0 dX11_tilt_154 rfl rfl
 (x_getS g 18 fl_RX11_78 rfl ht dX11_tilt_155
 (x_iconst g dX11_tilt_158 kI_0
 (x_lald g (so_11_35 ht) dX11_tilt_159
 (x_lsub g dX11_tilt_160
 (x_aload g 3 dX11_tilt_161 rfl
 (x_iconst g dX11_tilt_163 kI_2
 (x_lald g (so_11_36 ht) dX11_tilt_164
 (x_aload g 3 dX11_tilt_165 rfl
 (x_iconst g dX11_tilt_167 kI_0
 (x_lald g (so_11_36 ht) dX11_tilt_168
 (x_lsub g dX11_tilt_169
 (x_lmul g dX11_tilt_170
 (x_aload_n g 0 dX11_tilt_171 rfl rfl
 (x_getS g 18 fl_RX11_78 rfl ht dX11_tilt_172
 (x_iconst g dX11_tilt_175 kI_2
 (x_lald g (so_11_35 ht) dX11_tilt_176
 (x_aload_n g 0 dX11_tilt_177 rfl rfl
 (x_getS g 18 fl_RX11_78 rfl ht dX11_tilt_178
 (x_iconst g dX11_tilt_181 kI_0
 (x_lald g (so_11_35 ht) dX11_tilt_182
 (x_lsub g dX11_tilt_183
 (x_aload g 3 dX11_tilt_184 rfl
 (x_iconst g dX11_tilt_186 kI_1
 (x_lald g (so_11_36 ht) dX11_tilt_187
 (x_aload g 3 dX11_tilt_188 rfl
 (x_iconst g dX11_tilt_190 kI_0
 (x_lald g (so_11_36 ht) dX11_tilt_191
 (x_lsub g dX11_tilt_192
 (x_lmul g dX11_tilt_193
 (x_lsub g dX11_tilt_194
 (x_nmL (fun vz27 => (x_lstore (L' := [(5, .long vz27), (0, .ref t), (2, .int a2), (3, .int a3), (4, .ref (t + 19))]) g dX11_tilt_195 hn (Nat.le_of_ble_eq_true rfl) rfl
 (x_aload_n g 1 dX11_tilt_197 rfl rfl
 (x_iload_n g 2 dX11_tilt_198 rfl rfl
 (x_callVlp (As := [.int a2]) g mv_X11_twiceArea mi_X11_twiceArea lk_RX11_378 ht (fun b hb => kX11_twiceArea t a2 M26 ht _ _ hb) rfl rfl hR ⟨Nat.le_of_ble_eq_true rfl, Nat.le_of_ble_eq_true rfl⟩ (Nat.le_of_ble_eq_true rfl) dX11_tilt_199 (fun vz28 =>
 (x_lstore (L' := [(7, .long vz28), (5, .long vz27), (0, .ref t), (2, .int a2), (3, .int a3), (4, .ref (t + 19))]) g dX11_tilt_202 hn (Nat.le_of_ble_eq_true rfl) rfl
 (x_iload_n g 4 dX11_tilt_204 rfl rfl
 (x_iconst g dX11_tilt_205 kI_1
 (x_jn (fun (J30 : Int64 → Option (Int32 × Mem)) => ∀ (vz29 : Int64), X J (fun q : Int32 × Mem => (some (Value.int q.1), q.2)) (J30 vz29) 214 [(0, .ref t), (5, .long vz29), (7, .long vz28)] [] M26) (fun vz29 => (x_lload g 2 dX11_tilt_214 rfl
 (x_lconst g dX11_tilt_216 kL_0
 (x_l_ge g 234 dX11_tilt_217 dX11_tilt_218 rfl
 (fun _ => (x_aload_n g 0 dX11_tilt_234 rfl rfl
 (x_lload g 1 dX11_tilt_235 rfl
 (x_lload g 2 dX11_tilt_237 rfl
 (x_callVi (As := [.long vz29, .long vz28]) g mv_X11_tellsBy mi_X11_tellsBy lk_RX11_387 ht (fun b Mh_ hb => kX11_tellsBy φ t vz29 vz28 M26 ht _ _ hb) rfl rfl hR ⟨Nat.le_of_ble_eq_true rfl, Nat.le_of_ble_eq_true rfl⟩ (Nat.le_of_ble_eq_true rfl) dX11_tilt_239 (fun v31 M32 =>
 (x_ck (fun hq33 => x_iret g hr (nbz hq33) rfl dX11_tilt_242))))))))
 (fun _ => (x_aload_n g 0 dX11_tilt_221 rfl rfl
 (x_lload g 1 dX11_tilt_222 rfl
 (x_lneg g dX11_tilt_224
 (x_lload g 2 dX11_tilt_225 rfl
 (x_lneg g dX11_tilt_227
 (x_callVi (As := [.long (-vz29), .long (-vz28)]) g mv_X11_tellsBy mi_X11_tellsBy lk_RX11_387 ht (fun b Mh_ hb => kX11_tellsBy φ t (-vz29) (-vz28) M26 ht _ _ hb) rfl rfl hR ⟨Nat.le_of_ble_eq_true rfl, Nat.le_of_ble_eq_true rfl⟩ (Nat.le_of_ble_eq_true rfl) dX11_tilt_228 (fun v34 M35 =>
 (x_goto g 242 dX11_tilt_231 rfl
 (x_ck (fun hq36 => x_iret g hr (nbz hq36) rfl dX11_tilt_242))))))))))))))) (fun J30 hJ30 => (x_icmp_ne g 214 dX11_tilt_206 rfl
 (fun _ => (x_sub [2, 1, 0] rfl (hJ30 vz27)))
 (fun _ => (x_lload g 1 dX11_tilt_209 rfl
 (x_lneg g dX11_tilt_211
 (x_nmL (fun vz37 => (x_lstore (L' := [(5, .long vz37), (7, .long vz28), (0, .ref t), (2, .int a2), (3, .int a3), (4, .ref (t + 19))]) g dX11_tilt_212 hn (Nat.le_of_ble_eq_true rfl) rfl
 (x_sub [2, 0, 1] rfl (hJ30 vz37))))))))))))))))))))))))))))))))))))))))))))))))))))))))) φ (0 : Int32) M2))))))))
 (fun _ => (x_aload_n g 0 dX11_tilt_43 rfl rfl
 (x_bipush g dX11_tilt_44 kB_7
 (x_callVi (As := [.int (7 : Int32)]) g mv_X11_is mi_X11_is lk_RX11_109 ht (fun b Mh_ hb => kX11_is t (7 : Int32) M2 ht _ _ hb) rfl rfl hR ⟨Nat.le_of_ble_eq_true rfl, Nat.le_of_ble_eq_true rfl⟩ (Nat.le_of_ble_eq_true rfl) dX11_tilt_46 (fun v38 M39 =>
 (x_ck (fun hq40 => x_iret g hr (nbz hq40) rfl dX11_tilt_49)))))))))))))
 (fun _ => (x_aload_n g 0 dX11_tilt_29 rfl rfl
 (x_iconst g dX11_tilt_30 kI_1
 (x_callVi (As := [.int (1 : Int32)]) g mv_X11_is mi_X11_is lk_RX11_109 ht (fun b Mh_ hb => kX11_is t (1 : Int32) M2 ht _ _ hb) rfl rfl hR ⟨Nat.le_of_ble_eq_true rfl, Nat.le_of_ble_eq_true rfl⟩ (Nat.le_of_ble_eq_true rfl) dX11_tilt_31 (fun v41 M42 =>
 (x_ck (fun hq43 => x_iret g hr (nbz hq43) rfl dX11_tilt_34))))))))))))))))))))))))))))
def lX11_deepest_25 (φ : Nat) (t : Nat) (x1 : Int32) (M : Mem) : Nat → Int32 → Int32 → Int32 → Option (Int32 × Mem)
  | 0, _, _, _ => none
  | n + 1, x2, x3, x4 =>
    ixk (1 : Int32) 3900 (
 if (M.1 (t + 1) (1 : Int32).toNatClampNeg) ≤ x4 then
 bd (fX11_gives t x2 M) fun v4 M5 =>
 some (v4, M5)
 else
 (fX11_firstOf φ t x1 x4 M).bind fun v6 =>
 jn (fun (v7 : Int32) (v8 : Int32) => lX11_deepest_25 φ t x1 M n v7 v8 (x4 + 1)) (fun J9 => if v6 = (-1 : Int32) then
 J9 x2 x3
 else
 (fX11_depthOf φ t x4 v6 M).bind fun v10 =>
 if x3 < v10 then
 (fX11_depthOf φ t x4 v6 M).bind fun v11 =>
 J9 x4 v11
 else
 J9 x2 x3))
theorem lX11_deepest_25_s (φ : Nat) (t : Nat) (x1 : Int32) (M : Mem) (n : Nat) (x2 : Int32) (x3 : Int32) (x4 : Int32) : lX11_deepest_25 φ t x1 M (n + 1) x2 x3 x4 =
    ixk (1 : Int32) 3900 (
 if (M.1 (t + 1) (1 : Int32).toNatClampNeg) ≤ x4 then
 bd (fX11_gives t x2 M) fun v4 M5 =>
 some (v4, M5)
 else
 (fX11_firstOf φ t x1 x4 M).bind fun v6 =>
 jn (fun (v7 : Int32) (v8 : Int32) => lX11_deepest_25 φ t x1 M n v7 v8 (x4 + 1)) (fun J9 => if v6 = (-1 : Int32) then
 J9 x2 x3
 else
 (fX11_depthOf φ t x4 v6 M).bind fun v10 =>
 if x3 < v10 then
 (fX11_depthOf φ t x4 v6 M).bind fun v11 =>
 J9 x4 v11
 else
 J9 x2 x3)) := rfl
theorem lX11_deepest_25_0 (φ : Nat) (t : Nat) (x1 : Int32) (M : Mem) (x2 : Int32) (x3 : Int32) (x4 : Int32) : lX11_deepest_25 φ t x1 M 0 x2 x3 x4 = none := rfl
set_option maxRecDepth 100000 in
set_option maxHeartbeats 4000000 in
theorem wlX11_deepest_25 {J : JT} (g : Gd J cX11_deepest RX11) (hr : Rt J (some .int)) (hR : (JR J).frames = 5 ∧ (JR J).locals = 118) (hn : Jn J = 6) (φ : Nat) (t : Nat) (x1 : Int32) (M : Mem) (ht : isO 11 t) : ∀ (n : Nat) (x2 : Int32) (x3 : Int32) (x4 : Int32), X J (fun q : Int32 × Mem => (some (Value.int q.1), q.2)) (lX11_deepest_25 φ t x1 M n x2 x3 x4) 25 [(0, .ref t), (1, .int x1), (2, .int x2), (3, .int x3), (4, .int x4)] [] M := by
  intro n
  induction n with
  | zero =>
    intro x2 x3 x4
    exact x_none
  | succ n ih =>
    intro x2 x3 x4
    rw [lX11_deepest_25_s]
    exact (x_iload g 4 dX11_deepest_25 rfl
 (x_aload_n g 0 dX11_deepest_27 rfl rfl
 (x_getS g 1 fl_RX11_7 rfl ht dX11_deepest_28
 (x_iconst g dX11_deepest_31 kI_1
 (x_iald g (so_11_0 ht) dX11_deepest_32
 (x_icmp_ge g 84 dX11_deepest_33 rfl
 (fun _ => (x_aload_n g 0 dX11_deepest_84 rfl rfl
 (x_iload_n g 2 dX11_deepest_85 rfl rfl
 (x_callVi (As := [.int x2]) g mv_X11_gives mi_X11_gives lk_RX11_106 ht (fun b Mh_ hb => kX11_gives t x2 M ht _ _ hb) rfl rfl hR ⟨Nat.le_of_ble_eq_true rfl, Nat.le_of_ble_eq_true rfl⟩ (Nat.le_of_ble_eq_true rfl) dX11_deepest_86 (fun v4 M5 =>
 (x_iret g hr rfl rfl dX11_deepest_89))))))
 (fun _ => (x_aload_n g 0 dX11_deepest_36 rfl rfl
 (x_iload_n g 1 dX11_deepest_37 rfl rfl
 (x_iload g 4 dX11_deepest_38 rfl
 (x_callVip (As := [.int x1, .int x4]) g mv_X11_firstOf mi_X11_firstOf lk_RX11_351 ht (fun b hb => kX11_firstOf φ t x1 x4 M ht _ _ hb) rfl rfl hR ⟨Nat.le_of_ble_eq_true rfl, Nat.le_of_ble_eq_true rfl⟩ (Nat.le_of_ble_eq_true rfl) dX11_deepest_40 (fun v6 =>
 (x_istore (L' := [(5, .int v6), (0, .ref t), (1, .int x1), (2, .int x2), (3, .int x3), (4, .int x4)]) g dX11_deepest_43 hn (Nat.le_of_ble_eq_true rfl) rfl
 (x_iload g 0 dX11_deepest_45 rfl
 (x_iconst g dX11_deepest_47 kI_m1
 (x_jn (fun (J9 : Int32 → Int32 → Option (Int32 × Mem)) => ∀ (v7 : Int32) (v8 : Int32), X J (fun q : Int32 × Mem => (some (Value.int q.1), q.2)) (J9 v7 v8) 78 [(0, .ref t), (1, .int x1), (2, .int v7), (3, .int v8), (4, .int x4)] [] M) (fun v7 v8 => (x_iinc (L' := [(4, .int (x4 + 1)), (0, .ref t), (1, .int x1), (2, .int v7), (3, .int v8)]) (v := (x4 + 1)) g 4 dX11_deepest_78 rfl (by rw [kI_1]) hn (Nat.le_of_ble_eq_true rfl) rfl
 (x_goto g 25 dX11_deepest_81 rfl
 (x_sub [1, 2, 3, 4, 0] rfl (ih v7 v8 (x4 + 1)))))) (fun J9 hJ9 => (x_icmp_eq g 78 dX11_deepest_48 rfl
 (fun _ => (x_sub [1, 2, 3, 4, 5] rfl (hJ9 x2 x3)))
 (fun _ => (x_aload_n g 1 dX11_deepest_51 rfl rfl
 (x_iload g 5 dX11_deepest_52 rfl
 (x_iload g 0 dX11_deepest_54 rfl
 (x_callVip (As := [.int x4, .int v6]) g mv_X11_depthOf mi_X11_depthOf lk_RX11_314 ht (fun b hb => kX11_depthOf φ t x4 v6 M ht _ _ hb) rfl rfl hR ⟨Nat.le_of_ble_eq_true rfl, Nat.le_of_ble_eq_true rfl⟩ (Nat.le_of_ble_eq_true rfl) dX11_deepest_56 (fun v10 =>
 (x_iload_n g 4 dX11_deepest_59 rfl rfl
 (x_icmp_gt g 66 dX11_deepest_60 rfl
 (fun _ => (x_aload_n g 1 dX11_deepest_66 rfl rfl
 (x_iload g 5 dX11_deepest_67 rfl
 (x_iload g 0 dX11_deepest_69 rfl
 (x_callVip (As := [.int x4, .int v6]) g mv_X11_depthOf mi_X11_depthOf lk_RX11_314 ht (fun b hb => kX11_depthOf φ t x4 v6 M ht _ _ hb) rfl rfl hR ⟨Nat.le_of_ble_eq_true rfl, Nat.le_of_ble_eq_true rfl⟩ (Nat.le_of_ble_eq_true rfl) dX11_deepest_71 (fun v11 =>
 (x_istore_n (L' := [(3, .int v11), (5, .int v6), (0, .ref t), (1, .int x1), (2, .int x2), (4, .int x4)]) g dX11_deepest_74 rfl hn (Nat.le_of_ble_eq_true rfl) rfl
 (x_iload g 5 dX11_deepest_75 rfl
 (x_istore_n (L' := [(2, .int x4), (3, .int v11), (5, .int v6), (0, .ref t), (1, .int x1), (4, .int x4)]) g dX11_deepest_77 rfl hn (Nat.le_of_ble_eq_true rfl) rfl
 (x_sub [3, 4, 0, 1, 5] rfl (hJ9 x4 v11)))))))))))
 (fun _ => (x_goto g 78 dX11_deepest_63 rfl
 (x_sub [1, 2, 3, 4, 5] rfl (hJ9 x2 x3))))))))))))))))))))))))))))))
def fX11_deepest (φ : Nat) (t : Nat) (a1 : Int32) (M : Mem) : Option (Int32 × Mem) :=
  bd (fX11_laysBeds φ t M) fun vu1 M2 =>
 (fX11_isBed t a1 M2).bind fun v3 =>
 if v3 = 0 then
 bd (fX11_refuse t (1 : Int32) M2) fun v12 M13 =>
 some (v12, M13)
 else
 lX11_deepest_25 φ t a1 M2 φ (-1 : Int32) (-1 : Int32) (0 : Int32)
set_option maxRecDepth 100000 in
set_option maxHeartbeats 4000000 in
theorem kX11_deepest (φ : Nat) (t : Nat) (a1 : Int32) (M : Mem) (ht : isO 11 t) (l : Launch) (G : GT) {b : (Int32 × Mem)} (hE : fX11_deepest φ t a1 M = some b) : Ok l G yX11_deepest cX11_deepest 6 (some .int) 5 118 [.ref t, .int a1] M ((fun q : Int32 × Mem => (some (Value.int q.1), q.2)) b).1 ((fun q : Int32 × Mem => (some (Value.int q.1), q.2)) b).2 := by
  refine Ok.ofX (pj := (fun q : Int32 × Mem => (some (Value.int q.1), q.2))) (by decide) (Nat.le_of_ble_eq_true rfl) hE (fun J g hr hG hl hR hn => ?_)
  show X J (fun q : Int32 × Mem => (some (Value.int q.1), q.2)) (fX11_deepest φ t a1 M) 0 [(0, .ref t), (1, .int a1)] [] M
  unfold fX11_deepest
  exact (x_aload_n g 0 dX11_deepest_0 rfl rfl
 (x_callVv (As := []) g mv_X11_laysBeds mi_X11_laysBeds lk_RX11_348 ht (fun b Mh_ hb => kX11_laysBeds φ t M ht _ _ hb) rfl rfl hR ⟨Nat.le_of_ble_eq_true rfl, Nat.le_of_ble_eq_true rfl⟩ (Nat.le_of_ble_eq_true rfl) dX11_deepest_1 (fun vu1 M2 =>
 (x_aload_n g 0 dX11_deepest_4 rfl rfl
 (x_iload_n g 1 dX11_deepest_5 rfl rfl
 (x_callVip (As := [.int a1]) g mv_X11_isBed mi_X11_isBed lk_RX11_354 ht (fun b hb => kX11_isBed t a1 M2 ht _ _ hb) rfl rfl hR ⟨Nat.le_of_ble_eq_true rfl, Nat.le_of_ble_eq_true rfl⟩ (Nat.le_of_ble_eq_true rfl) dX11_deepest_6 (fun v3 =>
 (x_if_ne g 18 dX11_deepest_9 rfl
 (fun _ => (x_iconst g dX11_deepest_18 kI_m1
 (x_istore_n (L' := [(2, .int (-1 : Int32)), (0, .ref t), (1, .int a1)]) g dX11_deepest_19 rfl hn (Nat.le_of_ble_eq_true rfl) rfl
 (x_iconst g dX11_deepest_20 kI_m1
 (x_istore_n (L' := [(3, .int (-1 : Int32)), (2, .int (-1 : Int32)), (0, .ref t), (1, .int a1)]) g dX11_deepest_21 rfl hn (Nat.le_of_ble_eq_true rfl) rfl
 (x_iconst g dX11_deepest_22 kI_0
 (x_istore (L' := [(4, .int (0 : Int32)), (3, .int (-1 : Int32)), (2, .int (-1 : Int32)), (0, .ref t), (1, .int a1)]) g dX11_deepest_23 hn (Nat.le_of_ble_eq_true rfl) rfl
 (x_sub [3, 4, 2, 1, 0] rfl (wlX11_deepest_25 g hr hR hn  φ t a1 M2 ht φ (-1 : Int32) (-1 : Int32) (0 : Int32))))))))))
 (fun _ => (x_aload_n g 0 dX11_deepest_12 rfl rfl
 (x_iconst g dX11_deepest_13 kI_1
 (x_callVi (As := [.int (1 : Int32)]) g mv_X11_refuse mi_X11_refuse lk_RX11_102 ht (fun b Mh_ hb => kX11_refuse t (1 : Int32) M2 ht _ _ hb) rfl rfl hR ⟨Nat.le_of_ble_eq_true rfl, Nat.le_of_ble_eq_true rfl⟩ (Nat.le_of_ble_eq_true rfl) dX11_deepest_14 (fun v12 M13 =>
 (x_iret g hr rfl rfl dX11_deepest_17))))))))))))))
def lX11_shared_36 (φ : Nat) (t : Nat) (x1 : Int32) (x2 : Int32) (M : Mem) : Nat → Int32 → Int32 → Option (Int32 × Mem)
  | 0, _, _ => none
  | n + 1, x3, x4 =>
    if (M.1 t 32) ≤ x4 then
 bd (fX11_gives t x3 M) fun v9 M10 =>
 some (v9, M10)
 else
 (fX11_firstOf φ t x4 x1 M).bind fun v11 =>
 jn (fun (v12 : Int32) => nm (x3 + v12) (fun v14 =>
 lX11_shared_36 φ t x1 x2 M n v14 (x4 + 1))) (fun J13 => jn (J13 (0 : Int32)) (fun J15 => if v11 = (-1 : Int32) then
 J15
 else
 (fX11_firstOf φ t x4 x2 M).bind fun v16 =>
 if v16 = (-1 : Int32) then
 J15
 else
 J13 (1 : Int32)))
theorem lX11_shared_36_s (φ : Nat) (t : Nat) (x1 : Int32) (x2 : Int32) (M : Mem) (n : Nat) (x3 : Int32) (x4 : Int32) : lX11_shared_36 φ t x1 x2 M (n + 1) x3 x4 =
    if (M.1 t 32) ≤ x4 then
 bd (fX11_gives t x3 M) fun v9 M10 =>
 some (v9, M10)
 else
 (fX11_firstOf φ t x4 x1 M).bind fun v11 =>
 jn (fun (v12 : Int32) => nm (x3 + v12) (fun v14 =>
 lX11_shared_36 φ t x1 x2 M n v14 (x4 + 1))) (fun J13 => jn (J13 (0 : Int32)) (fun J15 => if v11 = (-1 : Int32) then
 J15
 else
 (fX11_firstOf φ t x4 x2 M).bind fun v16 =>
 if v16 = (-1 : Int32) then
 J15
 else
 J13 (1 : Int32))) := rfl
theorem lX11_shared_36_0 (φ : Nat) (t : Nat) (x1 : Int32) (x2 : Int32) (M : Mem) (x3 : Int32) (x4 : Int32) : lX11_shared_36 φ t x1 x2 M 0 x3 x4 = none := rfl
set_option maxRecDepth 100000 in
set_option maxHeartbeats 4000000 in
theorem wlX11_shared_36 {J : JT} (g : Gd J cX11_shared RX11) (hr : Rt J (some .int)) (hR : (JR J).frames = 5 ∧ (JR J).locals = 118) (hn : Jn J = 5) (φ : Nat) (t : Nat) (x1 : Int32) (x2 : Int32) (M : Mem) (ht : isO 11 t) : ∀ (n : Nat) (x3 : Int32) (x4 : Int32), X J (fun q : Int32 × Mem => (some (Value.int q.1), q.2)) (lX11_shared_36 φ t x1 x2 M n x3 x4) 36 [(0, .ref t), (1, .int x1), (2, .int x2), (3, .int x3), (4, .int x4)] [] M := by
  intro n
  induction n with
  | zero =>
    intro x3 x4
    exact x_none
  | succ n ih =>
    intro x3 x4
    rw [lX11_shared_36_s]
    exact (x_iload g 4 dX11_shared_36 rfl
 (x_aload_n g 0 dX11_shared_38 rfl rfl
 (x_getI g fl_RX11_345 rfl ht dX11_shared_39
 (x_icmp_ge g 81 dX11_shared_42 rfl
 (fun _ => (x_aload_n g 0 dX11_shared_81 rfl rfl
 (x_iload_n g 3 dX11_shared_82 rfl rfl
 (x_callVi (As := [.int x3]) g mv_X11_gives mi_X11_gives lk_RX11_106 ht (fun b Mh_ hb => kX11_gives t x3 M ht _ _ hb) rfl rfl hR ⟨Nat.le_of_ble_eq_true rfl, Nat.le_of_ble_eq_true rfl⟩ (Nat.le_of_ble_eq_true rfl) dX11_shared_83 (fun v9 M10 =>
 (x_iret g hr rfl rfl dX11_shared_86))))))
 (fun _ => (x_iload_n g 3 dX11_shared_45 rfl rfl
 (x_aload_n g 0 dX11_shared_46 rfl rfl
 (x_iload g 4 dX11_shared_47 rfl
 (x_iload_n g 1 dX11_shared_49 rfl rfl
 (x_callVip (As := [.int x4, .int x1]) g mv_X11_firstOf mi_X11_firstOf lk_RX11_351 ht (fun b hb => kX11_firstOf φ t x4 x1 M ht _ _ hb) rfl rfl hR ⟨Nat.le_of_ble_eq_true rfl, Nat.le_of_ble_eq_true rfl⟩ (Nat.le_of_ble_eq_true rfl) dX11_shared_50 (fun v11 =>
 (x_iconst g dX11_shared_53 kI_m1
 (x_jn (fun (J13 : Int32 → Option (Int32 × Mem)) => ∀ (v12 : Int32), X J (fun q : Int32 × Mem => (some (Value.int q.1), q.2)) (J13 v12) 73 [(0, .ref t), (1, .int x1), (2, .int x2), (4, .int x4)] [.int v12, .int x3] M) (fun v12 => (x_iadd g dX11_shared_73
 (x_nmI (fun v14 => (x_istore_n (L' := [(3, .int v14), (0, .ref t), (1, .int x1), (2, .int x2), (4, .int x4)]) g dX11_shared_74 rfl hn (Nat.le_of_ble_eq_true rfl) rfl
 (x_iinc (L' := [(4, .int (x4 + 1)), (3, .int v14), (0, .ref t), (1, .int x1), (2, .int x2)]) (v := (x4 + 1)) g 4 dX11_shared_75 rfl (by rw [kI_1]) hn (Nat.le_of_ble_eq_true rfl) rfl
 (x_goto g 36 dX11_shared_78 rfl
 (x_sub [2, 3, 4, 1, 0] rfl (ih v14 (x4 + 1)))))))))) (fun J13 hJ13 => (x_jn (fun (J15 : Option (Int32 × Mem)) => X J (fun q : Int32 × Mem => (some (Value.int q.1), q.2)) J15 72 [(0, .ref t), (1, .int x1), (2, .int x2), (4, .int x4)] [.int x3] M) (x_iconst g dX11_shared_72 kI_0
 (hJ13 (0 : Int32))) (fun J15 hJ15 => (x_icmp_eq g 72 dX11_shared_54 rfl
 (fun _ => (x_sub [0, 1, 2, 4] rfl (hJ15)))
 (fun _ => (x_aload_n g 0 dX11_shared_57 rfl rfl
 (x_iload g 4 dX11_shared_58 rfl
 (x_iload_n g 2 dX11_shared_60 rfl rfl
 (x_callVip (As := [.int x4, .int x2]) g mv_X11_firstOf mi_X11_firstOf lk_RX11_351 ht (fun b hb => kX11_firstOf φ t x4 x2 M ht _ _ hb) rfl rfl hR ⟨Nat.le_of_ble_eq_true rfl, Nat.le_of_ble_eq_true rfl⟩ (Nat.le_of_ble_eq_true rfl) dX11_shared_61 (fun v16 =>
 (x_iconst g dX11_shared_64 kI_m1
 (x_icmp_eq g 72 dX11_shared_65 rfl
 (fun _ => (x_sub [0, 1, 2, 4] rfl (hJ15)))
 (fun _ => (x_iconst g dX11_shared_68 kI_1
 (x_goto g 73 dX11_shared_69 rfl
 (x_sub [0, 1, 2, 4] rfl (hJ13 (1 : Int32)))))))))))))))))))))))))))))))
def fX11_shared (φ : Nat) (t : Nat) (a1 : Int32) (a2 : Int32) (M : Mem) : Option (Int32 × Mem) :=
  (fX11_isHole t a1 M).bind fun v1 =>
 if v1 = 0 then
 bd (fX11_refuse t (1 : Int32) M) fun v2 M3 =>
 some (v2, M3)
 else
 (fX11_isHole t a2 M).bind fun v4 =>
 if v4 = 0 then
 bd (fX11_refuse t (1 : Int32) M) fun v5 M6 =>
 some (v5, M6)
 else
 if a1 = a2 then
 bd (fX11_refuse t (1 : Int32) M) fun v17 M18 =>
 some (v17, M18)
 else
 bd (fX11_laysBeds φ t M) fun vu7 M8 =>
 lX11_shared_36 φ t a1 a2 M8 φ (0 : Int32) (0 : Int32)
set_option maxRecDepth 100000 in
set_option maxHeartbeats 4000000 in
theorem kX11_shared (φ : Nat) (t : Nat) (a1 : Int32) (a2 : Int32) (M : Mem) (ht : isO 11 t) (l : Launch) (G : GT) {b : (Int32 × Mem)} (hE : fX11_shared φ t a1 a2 M = some b) : Ok l G yX11_shared cX11_shared 5 (some .int) 5 118 [.ref t, .int a1, .int a2] M ((fun q : Int32 × Mem => (some (Value.int q.1), q.2)) b).1 ((fun q : Int32 × Mem => (some (Value.int q.1), q.2)) b).2 := by
  refine Ok.ofX (pj := (fun q : Int32 × Mem => (some (Value.int q.1), q.2))) (by decide) (Nat.le_of_ble_eq_true rfl) hE (fun J g hr hG hl hR hn => ?_)
  show X J (fun q : Int32 × Mem => (some (Value.int q.1), q.2)) (fX11_shared φ t a1 a2 M) 0 [(0, .ref t), (1, .int a1), (2, .int a2)] [] M
  unfold fX11_shared
  exact (x_aload_n g 0 dX11_shared_0 rfl rfl
 (x_iload_n g 1 dX11_shared_1 rfl rfl
 (x_callVip (As := [.int a1]) g mv_X11_isHole mi_X11_isHole lk_RX11_302 ht (fun b hb => kX11_isHole t a1 M ht _ _ hb) rfl rfl hR ⟨Nat.le_of_ble_eq_true rfl, Nat.le_of_ble_eq_true rfl⟩ (Nat.le_of_ble_eq_true rfl) dX11_shared_2 (fun v1 =>
 (x_if_eq g 21 dX11_shared_5 rfl
 (fun _ => (x_aload_n g 0 dX11_shared_21 rfl rfl
 (x_iconst g dX11_shared_22 kI_1
 (x_callVi (As := [.int (1 : Int32)]) g mv_X11_refuse mi_X11_refuse lk_RX11_102 ht (fun b Mh_ hb => kX11_refuse t (1 : Int32) M ht _ _ hb) rfl rfl hR ⟨Nat.le_of_ble_eq_true rfl, Nat.le_of_ble_eq_true rfl⟩ (Nat.le_of_ble_eq_true rfl) dX11_shared_23 (fun v2 M3 =>
 (x_iret g hr rfl rfl dX11_shared_26))))))
 (fun _ => (x_aload_n g 0 dX11_shared_8 rfl rfl
 (x_iload_n g 2 dX11_shared_9 rfl rfl
 (x_callVip (As := [.int a2]) g mv_X11_isHole mi_X11_isHole lk_RX11_302 ht (fun b hb => kX11_isHole t a2 M ht _ _ hb) rfl rfl hR ⟨Nat.le_of_ble_eq_true rfl, Nat.le_of_ble_eq_true rfl⟩ (Nat.le_of_ble_eq_true rfl) dX11_shared_10 (fun v4 =>
 (x_if_eq g 21 dX11_shared_13 rfl
 (fun _ => (x_aload_n g 0 dX11_shared_21 rfl rfl
 (x_iconst g dX11_shared_22 kI_1
 (x_callVi (As := [.int (1 : Int32)]) g mv_X11_refuse mi_X11_refuse lk_RX11_102 ht (fun b Mh_ hb => kX11_refuse t (1 : Int32) M ht _ _ hb) rfl rfl hR ⟨Nat.le_of_ble_eq_true rfl, Nat.le_of_ble_eq_true rfl⟩ (Nat.le_of_ble_eq_true rfl) dX11_shared_23 (fun v5 M6 =>
 (x_iret g hr rfl rfl dX11_shared_26))))))
 (fun _ => (x_iload_n g 1 dX11_shared_16 rfl rfl
 (x_iload_n g 2 dX11_shared_17 rfl rfl
 (x_icmp_ne g 27 dX11_shared_18 rfl
 (fun _ => (x_aload_n g 0 dX11_shared_27 rfl rfl
 (x_callVv (As := []) g mv_X11_laysBeds mi_X11_laysBeds lk_RX11_348 ht (fun b Mh_ hb => kX11_laysBeds φ t M ht _ _ hb) rfl rfl hR ⟨Nat.le_of_ble_eq_true rfl, Nat.le_of_ble_eq_true rfl⟩ (Nat.le_of_ble_eq_true rfl) dX11_shared_28 (fun vu7 M8 =>
 (x_iconst g dX11_shared_31 kI_0
 (x_istore_n (L' := [(3, .int (0 : Int32)), (0, .ref t), (1, .int a1), (2, .int a2)]) g dX11_shared_32 rfl hn (Nat.le_of_ble_eq_true rfl) rfl
 (x_iconst g dX11_shared_33 kI_0
 (x_istore (L' := [(4, .int (0 : Int32)), (3, .int (0 : Int32)), (0, .ref t), (1, .int a1), (2, .int a2)]) g dX11_shared_34 hn (Nat.le_of_ble_eq_true rfl) rfl
 (x_sub [2, 3, 4, 1, 0] rfl (wlX11_shared_36 g hr hR hn  φ t a1 a2 M8 ht φ (0 : Int32) (0 : Int32)))))))))))
 (fun _ => (x_aload_n g 0 dX11_shared_21 rfl rfl
 (x_iconst g dX11_shared_22 kI_1
 (x_callVi (As := [.int (1 : Int32)]) g mv_X11_refuse mi_X11_refuse lk_RX11_102 ht (fun b Mh_ hb => kX11_refuse t (1 : Int32) M ht _ _ hb) rfl rfl hR ⟨Nat.le_of_ble_eq_true rfl, Nat.le_of_ble_eq_true rfl⟩ (Nat.le_of_ble_eq_true rfl) dX11_shared_23 (fun v17 M18 =>
 (x_iret g hr rfl rfl dX11_shared_26)))))))))))))))))))))
def lX11_gaps_39 (K112 : Int32 → Int32 → Option (Int32 × Mem)) (φ : Nat) (t : Nat) (x1 : Int32) (x2 : Int32) (x3 : Int32) (M : Mem) : Nat → Int32 → Int32 → Int32 → Option (Int32 × Mem)
  | 0, _, _, _ => none
  | n + 1, x4, x5, x6 =>
    if (M.1 t 32) ≤ x6 then
 K112 x4 x5
 else
 (fX11_firstOf φ t x6 x1 M).bind fun v6 =>
 jn (fun (v7 : Int32) (v8 : Int32) => lX11_gaps_39 K112 φ t x1 x2 x3 M n v7 v8 (x6 + 1)) (fun J9 => if v6 = (-1 : Int32) then
 J9 x4 x5
 else
 jn (fun (v10 : Int32) => jn (fun (v12 : Int32) => J9 v10 v12) (fun J13 => jn (J13 (1 : Int32)) (fun J14 => if x5 = 0 then
 (fX11_isAbove φ t x3 x6 M).bind fun v15 =>
 if v15 = 0 then
 J13 (0 : Int32)
 else
 J14
 else
 J14))) (fun J11 => jn (J11 (1 : Int32)) (fun J16 => if x4 = 0 then
 (fX11_isAbove φ t x6 x3 M).bind fun v17 =>
 if v17 = 0 then
 J11 (0 : Int32)
 else
 J16
 else
 J16)))
theorem lX11_gaps_39_s (K112 : Int32 → Int32 → Option (Int32 × Mem)) (φ : Nat) (t : Nat) (x1 : Int32) (x2 : Int32) (x3 : Int32) (M : Mem) (n : Nat) (x4 : Int32) (x5 : Int32) (x6 : Int32) : lX11_gaps_39 K112 φ t x1 x2 x3 M (n + 1) x4 x5 x6 =
    if (M.1 t 32) ≤ x6 then
 K112 x4 x5
 else
 (fX11_firstOf φ t x6 x1 M).bind fun v6 =>
 jn (fun (v7 : Int32) (v8 : Int32) => lX11_gaps_39 K112 φ t x1 x2 x3 M n v7 v8 (x6 + 1)) (fun J9 => if v6 = (-1 : Int32) then
 J9 x4 x5
 else
 jn (fun (v10 : Int32) => jn (fun (v12 : Int32) => J9 v10 v12) (fun J13 => jn (J13 (1 : Int32)) (fun J14 => if x5 = 0 then
 (fX11_isAbove φ t x3 x6 M).bind fun v15 =>
 if v15 = 0 then
 J13 (0 : Int32)
 else
 J14
 else
 J14))) (fun J11 => jn (J11 (1 : Int32)) (fun J16 => if x4 = 0 then
 (fX11_isAbove φ t x6 x3 M).bind fun v17 =>
 if v17 = 0 then
 J11 (0 : Int32)
 else
 J16
 else
 J16))) := rfl
theorem lX11_gaps_39_0 (K112 : Int32 → Int32 → Option (Int32 × Mem)) (φ : Nat) (t : Nat) (x1 : Int32) (x2 : Int32) (x3 : Int32) (M : Mem) (x4 : Int32) (x5 : Int32) (x6 : Int32) : lX11_gaps_39 K112 φ t x1 x2 x3 M 0 x4 x5 x6 = none := rfl
set_option maxRecDepth 100000 in
set_option maxHeartbeats 4000000 in
theorem wlX11_gaps_39 {J : JT} (g : Gd J cX11_gaps RX11) (hr : Rt J (some .int)) (hR : (JR J).frames = 5 ∧ (JR J).locals = 118) (hn : Jn J = 7) (K112 : Int32 → Int32 → Option (Int32 × Mem)) (φ : Nat) (t : Nat) (x1 : Int32) (x2 : Int32) (x3 : Int32) (M : Mem) (ht : isO 11 t) (hK112 : ∀ (y4 : Int32) (y5 : Int32), X J (fun q : Int32 × Mem => (some (Value.int q.1), q.2)) (K112 y4 y5) 112 [(0, .ref t), (1, .int x1), (2, .int x2), (3, .int x3), (4, .int y4), (5, .int y5)] [] M) : ∀ (n : Nat) (x4 : Int32) (x5 : Int32) (x6 : Int32), X J (fun q : Int32 × Mem => (some (Value.int q.1), q.2)) (lX11_gaps_39 K112 φ t x1 x2 x3 M n x4 x5 x6) 39 [(0, .ref t), (1, .int x1), (2, .int x2), (3, .int x3), (4, .int x4), (5, .int x5), (6, .int x6)] [] M := by
  intro n
  induction n with
  | zero =>
    intro x4 x5 x6
    exact x_none
  | succ n ih =>
    intro x4 x5 x6
    rw [lX11_gaps_39_s]
    exact (x_iload g 6 dX11_gaps_39 rfl
 (x_aload_n g 0 dX11_gaps_41 rfl rfl
 (x_getI g fl_RX11_345 rfl ht dX11_gaps_42
 (x_icmp_ge g 112 dX11_gaps_45 rfl
 (fun _ => (x_sub [0, 1, 2, 3, 4, 5] rfl (hK112 x4 x5)))
 (fun _ => (x_aload_n g 0 dX11_gaps_48 rfl rfl
 (x_iload g 6 dX11_gaps_49 rfl
 (x_iload_n g 1 dX11_gaps_51 rfl rfl
 (x_callVip (As := [.int x6, .int x1]) g mv_X11_firstOf mi_X11_firstOf lk_RX11_351 ht (fun b hb => kX11_firstOf φ t x6 x1 M ht _ _ hb) rfl rfl hR ⟨Nat.le_of_ble_eq_true rfl, Nat.le_of_ble_eq_true rfl⟩ (Nat.le_of_ble_eq_true rfl) dX11_gaps_52 (fun v6 =>
 (x_iconst g dX11_gaps_55 kI_m1
 (x_jn (fun (J9 : Int32 → Int32 → Option (Int32 × Mem)) => ∀ (v7 : Int32) (v8 : Int32), X J (fun q : Int32 × Mem => (some (Value.int q.1), q.2)) (J9 v7 v8) 106 [(0, .ref t), (1, .int x1), (2, .int x2), (3, .int x3), (4, .int v7), (5, .int v8), (6, .int x6)] [] M) (fun v7 v8 => (x_iinc (L' := [(6, .int (x6 + 1)), (0, .ref t), (1, .int x1), (2, .int x2), (3, .int x3), (4, .int v7), (5, .int v8)]) (v := (x6 + 1)) g 6 dX11_gaps_106 rfl (by rw [kI_1]) hn (Nat.le_of_ble_eq_true rfl) rfl
 (x_goto g 39 dX11_gaps_109 rfl
 (x_sub [1, 2, 3, 4, 5, 6, 0] rfl (ih v7 v8 (x6 + 1)))))) (fun J9 hJ9 => (x_icmp_ne g 62 dX11_gaps_56 rfl
 (fun _ => (x_iload g 4 dX11_gaps_62 rfl
 (x_jn (fun (J11 : Int32 → Option (Int32 × Mem)) => ∀ (v10 : Int32), X J (fun q : Int32 × Mem => (some (Value.int q.1), q.2)) (J11 v10) 82 [(0, .ref t), (1, .int x1), (2, .int x2), (3, .int x3), (5, .int x5), (6, .int x6)] [.int v10] M) (fun v10 => (x_istore (L' := [(4, .int v10), (0, .ref t), (1, .int x1), (2, .int x2), (3, .int x3), (5, .int x5), (6, .int x6)]) g dX11_gaps_82 hn (Nat.le_of_ble_eq_true rfl) rfl
 (x_iload g 5 dX11_gaps_84 rfl
 (x_jn (fun (J13 : Int32 → Option (Int32 × Mem)) => ∀ (v12 : Int32), X J (fun q : Int32 × Mem => (some (Value.int q.1), q.2)) (J13 v12) 104 [(0, .ref t), (1, .int x1), (2, .int x2), (3, .int x3), (4, .int v10), (6, .int x6)] [.int v12] M) (fun v12 => (x_istore (L' := [(5, .int v12), (0, .ref t), (1, .int x1), (2, .int x2), (3, .int x3), (4, .int v10), (6, .int x6)]) g dX11_gaps_104 hn (Nat.le_of_ble_eq_true rfl) rfl
 (x_sub [1, 2, 3, 4, 5, 0, 6] rfl (hJ9 v10 v12)))) (fun J13 hJ13 => (x_jn (fun (J14 : Option (Int32 × Mem)) => X J (fun q : Int32 × Mem => (some (Value.int q.1), q.2)) J14 99 [(0, .ref t), (1, .int x1), (2, .int x2), (3, .int x3), (4, .int v10), (6, .int x6)] [] M) (x_iconst g dX11_gaps_99 kI_1
 (x_goto g 104 dX11_gaps_100 rfl
 (hJ13 (1 : Int32)))) (fun J14 hJ14 => (x_if_ne g 99 dX11_gaps_86 rfl
 (fun _ => (x_sub [1, 2, 3, 4, 0, 6] rfl (hJ14)))
 (fun _ => (x_aload_n g 1 dX11_gaps_89 rfl rfl
 (x_iload_n g 4 dX11_gaps_90 rfl rfl
 (x_iload g 6 dX11_gaps_91 rfl
 (x_callVip (As := [.int x3, .int x6]) g mv_X11_isAbove mi_X11_isAbove lk_RX11_363 ht (fun b hb => kX11_isAbove φ t x3 x6 M ht _ _ hb) rfl rfl hR ⟨Nat.le_of_ble_eq_true rfl, Nat.le_of_ble_eq_true rfl⟩ (Nat.le_of_ble_eq_true rfl) dX11_gaps_93 (fun v15 =>
 (x_if_eq g 103 dX11_gaps_96 rfl
 (fun _ => (x_iconst g dX11_gaps_103 kI_0
 (x_sub [1, 2, 3, 4, 0, 6] rfl (hJ13 (0 : Int32)))))
 (fun _ => (x_sub [1, 2, 3, 4, 0, 6] rfl (hJ14)))))))))))))))))) (fun J11 hJ11 => (x_jn (fun (J16 : Option (Int32 × Mem)) => X J (fun q : Int32 × Mem => (some (Value.int q.1), q.2)) J16 77 [(0, .ref t), (1, .int x1), (2, .int x2), (3, .int x3), (5, .int x5), (6, .int x6)] [] M) (x_iconst g dX11_gaps_77 kI_1
 (x_goto g 82 dX11_gaps_78 rfl
 (hJ11 (1 : Int32)))) (fun J16 hJ16 => (x_if_ne g 77 dX11_gaps_64 rfl
 (fun _ => (x_sub [0, 1, 2, 3, 5, 6] rfl (hJ16)))
 (fun _ => (x_aload_n g 0 dX11_gaps_67 rfl rfl
 (x_iload g 6 dX11_gaps_68 rfl
 (x_iload_n g 3 dX11_gaps_70 rfl rfl
 (x_callVip (As := [.int x6, .int x3]) g mv_X11_isAbove mi_X11_isAbove lk_RX11_363 ht (fun b hb => kX11_isAbove φ t x6 x3 M ht _ _ hb) rfl rfl hR ⟨Nat.le_of_ble_eq_true rfl, Nat.le_of_ble_eq_true rfl⟩ (Nat.le_of_ble_eq_true rfl) dX11_gaps_71 (fun v17 =>
 (x_if_eq g 81 dX11_gaps_74 rfl
 (fun _ => (x_iconst g dX11_gaps_81 kI_0
 (x_sub [0, 1, 2, 3, 5, 6] rfl (hJ11 (0 : Int32)))))
 (fun _ => (x_sub [0, 1, 2, 3, 5, 6] rfl (hJ16)))))))))))))))))
 (fun _ => (x_goto g 106 dX11_gaps_59 rfl
 (hJ9 x4 x5)))))))))))))))))
def lX11_gaps_22 (φ : Nat) (t : Nat) (x1 : Int32) (M : Mem) : Nat → Int32 → Int32 → Option (Int32 × Mem)
  | 0, _, _ => none
  | n + 1, x2, x3 =>
    if (M.1 t 32) ≤ x3 then
 bd (fX11_gives t x2 M) fun v4 M5 =>
 some (v4, M5)
 else
 lX11_gaps_39 (fun (v18 : Int32) (v19 : Int32) => (fX11_firstOf φ t x3 x1 M).bind fun v20 =>
 jn (fun (v21 : Int32) => nm (x2 + v21) (fun v23 =>
 lX11_gaps_22 φ t x1 M n v23 (x3 + 1))) (fun J22 => jn (J22 (0 : Int32)) (fun J24 => if v20 = (-1 : Int32) then
 if v18 = 0 then
 J24
 else
 if v19 = 0 then
 J24
 else
 J22 (1 : Int32)
 else
 J24))) φ t x1 x2 x3 M φ (0 : Int32) (0 : Int32) (0 : Int32)
theorem lX11_gaps_22_s (φ : Nat) (t : Nat) (x1 : Int32) (M : Mem) (n : Nat) (x2 : Int32) (x3 : Int32) : lX11_gaps_22 φ t x1 M (n + 1) x2 x3 =
    if (M.1 t 32) ≤ x3 then
 bd (fX11_gives t x2 M) fun v4 M5 =>
 some (v4, M5)
 else
 lX11_gaps_39 (fun (v18 : Int32) (v19 : Int32) => (fX11_firstOf φ t x3 x1 M).bind fun v20 =>
 jn (fun (v21 : Int32) => nm (x2 + v21) (fun v23 =>
 lX11_gaps_22 φ t x1 M n v23 (x3 + 1))) (fun J22 => jn (J22 (0 : Int32)) (fun J24 => if v20 = (-1 : Int32) then
 if v18 = 0 then
 J24
 else
 if v19 = 0 then
 J24
 else
 J22 (1 : Int32)
 else
 J24))) φ t x1 x2 x3 M φ (0 : Int32) (0 : Int32) (0 : Int32) := rfl
theorem lX11_gaps_22_0 (φ : Nat) (t : Nat) (x1 : Int32) (M : Mem) (x2 : Int32) (x3 : Int32) : lX11_gaps_22 φ t x1 M 0 x2 x3 = none := rfl
set_option maxRecDepth 100000 in
set_option maxHeartbeats 4000000 in
theorem wlX11_gaps_22 {J : JT} (g : Gd J cX11_gaps RX11) (hr : Rt J (some .int)) (hR : (JR J).frames = 5 ∧ (JR J).locals = 118) (hn : Jn J = 7) (φ : Nat) (t : Nat) (x1 : Int32) (M : Mem) (ht : isO 11 t) : ∀ (n : Nat) (x2 : Int32) (x3 : Int32), X J (fun q : Int32 × Mem => (some (Value.int q.1), q.2)) (lX11_gaps_22 φ t x1 M n x2 x3) 22 [(0, .ref t), (1, .int x1), (2, .int x2), (3, .int x3)] [] M := by
  intro n
  induction n with
  | zero =>
    intro x2 x3
    exact x_none
  | succ n ih =>
    intro x2 x3
    rw [lX11_gaps_22_s]
    exact (x_iload_n g 3 dX11_gaps_22 rfl rfl
 (x_aload_n g 0 dX11_gaps_23 rfl rfl
 (x_getI g fl_RX11_345 rfl ht dX11_gaps_24
 (x_icmp_ge g 146 dX11_gaps_27 rfl
 (fun _ => (x_aload_n g 0 dX11_gaps_146 rfl rfl
 (x_iload_n g 2 dX11_gaps_147 rfl rfl
 (x_callVi (As := [.int x2]) g mv_X11_gives mi_X11_gives lk_RX11_106 ht (fun b Mh_ hb => kX11_gives t x2 M ht _ _ hb) rfl rfl hR ⟨Nat.le_of_ble_eq_true rfl, Nat.le_of_ble_eq_true rfl⟩ (Nat.le_of_ble_eq_true rfl) dX11_gaps_148 (fun v4 M5 =>
 (x_iret g hr rfl rfl dX11_gaps_151))))))
 (fun _ => (x_iconst g dX11_gaps_30 kI_0
 (x_istore (L' := [(4, .int (0 : Int32)), (0, .ref t), (1, .int x1), (2, .int x2), (3, .int x3)]) g dX11_gaps_31 hn (Nat.le_of_ble_eq_true rfl) rfl
 (x_iconst g dX11_gaps_33 kI_0
 (x_istore (L' := [(5, .int (0 : Int32)), (4, .int (0 : Int32)), (0, .ref t), (1, .int x1), (2, .int x2), (3, .int x3)]) g dX11_gaps_34 hn (Nat.le_of_ble_eq_true rfl) rfl
 (x_iconst g dX11_gaps_36 kI_0
 (x_istore (L' := [(6, .int (0 : Int32)), (5, .int (0 : Int32)), (4, .int (0 : Int32)), (0, .ref t), (1, .int x1), (2, .int x2), (3, .int x3)]) g dX11_gaps_37 hn (Nat.le_of_ble_eq_true rfl) rfl
 (x_sub [3, 4, 5, 6, 2, 1, 0] rfl (wlX11_gaps_39 g hr hR hn _ φ t x1 x2 x3 M ht
 (fun v18 v19 => by exact (x_iload_n g 2 dX11_gaps_112 rfl rfl
 (x_aload_n g 0 dX11_gaps_113 rfl rfl
 (x_iload_n g 3 dX11_gaps_114 rfl rfl
 (x_iload_n g 1 dX11_gaps_115 rfl rfl
 (x_callVip (As := [.int x3, .int x1]) g mv_X11_firstOf mi_X11_firstOf lk_RX11_351 ht (fun b hb => kX11_firstOf φ t x3 x1 M ht _ _ hb) rfl rfl hR ⟨Nat.le_of_ble_eq_true rfl, Nat.le_of_ble_eq_true rfl⟩ (Nat.le_of_ble_eq_true rfl) dX11_gaps_116 (fun v20 =>
 (x_iconst g dX11_gaps_119 kI_m1
 (x_jn (fun (J22 : Int32 → Option (Int32 × Mem)) => ∀ (v21 : Int32), X J (fun q : Int32 × Mem => (some (Value.int q.1), q.2)) (J22 v21) 138 [(0, .ref t), (1, .int x1), (3, .int x3)] [.int v21, .int x2] M) (fun v21 => (x_iadd g dX11_gaps_138
 (x_nmI (fun v23 => (x_istore_n (L' := [(2, .int v23), (0, .ref t), (1, .int x1), (3, .int x3)]) g dX11_gaps_139 rfl hn (Nat.le_of_ble_eq_true rfl) rfl
 (x_iinc (L' := [(3, .int (x3 + 1)), (2, .int v23), (0, .ref t), (1, .int x1)]) (v := (x3 + 1)) g 3 dX11_gaps_140 rfl (by rw [kI_1]) hn (Nat.le_of_ble_eq_true rfl) rfl
 (x_goto g 22 dX11_gaps_143 rfl
 (x_sub [2, 3, 1, 0] rfl (ih v23 (x3 + 1)))))))))) (fun J22 hJ22 => (x_jn (fun (J24 : Option (Int32 × Mem)) => X J (fun q : Int32 × Mem => (some (Value.int q.1), q.2)) J24 137 [(0, .ref t), (1, .int x1), (3, .int x3)] [.int x2] M) (x_iconst g dX11_gaps_137 kI_0
 (hJ22 (0 : Int32))) (fun J24 hJ24 => (x_icmp_ne g 137 dX11_gaps_120 rfl
 (fun _ => (x_sub [0, 1, 3] rfl (hJ24)))
 (fun _ => (x_iload g 4 dX11_gaps_123 rfl
 (x_if_eq g 137 dX11_gaps_125 rfl
 (fun _ => (x_sub [0, 1, 3] rfl (hJ24)))
 (fun _ => (x_iload g 5 dX11_gaps_128 rfl
 (x_if_eq g 137 dX11_gaps_130 rfl
 (fun _ => (x_sub [0, 1, 3] rfl (hJ24)))
 (fun _ => (x_iconst g dX11_gaps_133 kI_1
 (x_goto g 138 dX11_gaps_134 rfl
 (x_sub [0, 1, 3] rfl (hJ22 (1 : Int32))))))))))))))))))))))))) φ (0 : Int32) (0 : Int32) (0 : Int32))))))))))))))
def fX11_gaps (φ : Nat) (t : Nat) (a1 : Int32) (M : Mem) : Option (Int32 × Mem) :=
  (fX11_isHole t a1 M).bind fun v1 =>
 if v1 = 0 then
 bd (fX11_refuse t (1 : Int32) M) fun v25 M26 =>
 some (v25, M26)
 else
 bd (fX11_laysBeds φ t M) fun vu2 M3 =>
 lX11_gaps_22 φ t a1 M3 φ (0 : Int32) (0 : Int32)
set_option maxRecDepth 100000 in
set_option maxHeartbeats 4000000 in
theorem kX11_gaps (φ : Nat) (t : Nat) (a1 : Int32) (M : Mem) (ht : isO 11 t) (l : Launch) (G : GT) {b : (Int32 × Mem)} (hE : fX11_gaps φ t a1 M = some b) : Ok l G yX11_gaps cX11_gaps 7 (some .int) 5 118 [.ref t, .int a1] M ((fun q : Int32 × Mem => (some (Value.int q.1), q.2)) b).1 ((fun q : Int32 × Mem => (some (Value.int q.1), q.2)) b).2 := by
  refine Ok.ofX (pj := (fun q : Int32 × Mem => (some (Value.int q.1), q.2))) (by decide) (Nat.le_of_ble_eq_true rfl) hE (fun J g hr hG hl hR hn => ?_)
  show X J (fun q : Int32 × Mem => (some (Value.int q.1), q.2)) (fX11_gaps φ t a1 M) 0 [(0, .ref t), (1, .int a1)] [] M
  unfold fX11_gaps
  exact (x_aload_n g 0 dX11_gaps_0 rfl rfl
 (x_iload_n g 1 dX11_gaps_1 rfl rfl
 (x_callVip (As := [.int a1]) g mv_X11_isHole mi_X11_isHole lk_RX11_302 ht (fun b hb => kX11_isHole t a1 M ht _ _ hb) rfl rfl hR ⟨Nat.le_of_ble_eq_true rfl, Nat.le_of_ble_eq_true rfl⟩ (Nat.le_of_ble_eq_true rfl) dX11_gaps_2 (fun v1 =>
 (x_if_ne g 14 dX11_gaps_5 rfl
 (fun _ => (x_aload_n g 0 dX11_gaps_14 rfl rfl
 (x_callVv (As := []) g mv_X11_laysBeds mi_X11_laysBeds lk_RX11_348 ht (fun b Mh_ hb => kX11_laysBeds φ t M ht _ _ hb) rfl rfl hR ⟨Nat.le_of_ble_eq_true rfl, Nat.le_of_ble_eq_true rfl⟩ (Nat.le_of_ble_eq_true rfl) dX11_gaps_15 (fun vu2 M3 =>
 (x_iconst g dX11_gaps_18 kI_0
 (x_istore_n (L' := [(2, .int (0 : Int32)), (0, .ref t), (1, .int a1)]) g dX11_gaps_19 rfl hn (Nat.le_of_ble_eq_true rfl) rfl
 (x_iconst g dX11_gaps_20 kI_0
 (x_istore_n (L' := [(3, .int (0 : Int32)), (2, .int (0 : Int32)), (0, .ref t), (1, .int a1)]) g dX11_gaps_21 rfl hn (Nat.le_of_ble_eq_true rfl) rfl
 (x_sub [2, 3, 1, 0] rfl (wlX11_gaps_22 g hr hR hn  φ t a1 M3 ht φ (0 : Int32) (0 : Int32)))))))))))
 (fun _ => (x_aload_n g 0 dX11_gaps_8 rfl rfl
 (x_iconst g dX11_gaps_9 kI_1
 (x_callVi (As := [.int (1 : Int32)]) g mv_X11_refuse mi_X11_refuse lk_RX11_102 ht (fun b Mh_ hb => kX11_refuse t (1 : Int32) M ht _ _ hb) rfl rfl hR ⟨Nat.le_of_ble_eq_true rfl, Nat.le_of_ble_eq_true rfl⟩ (Nat.le_of_ble_eq_true rfl) dX11_gaps_10 (fun v25 M26 =>
 (x_iret g hr rfl rfl dX11_gaps_13)))))))))))
def lX11_wrongLog_47 (t : Nat) (x1 : Int32) (x2 : Int32) (xz3 : Int64) (M : Mem) : Nat → Int32 → Option Int32
  | 0, _ => none
  | n + 1, x5 =>
    if x2 ≤ x5 then
 some (0 : Int32)
 else
 ixk (((60 : Int32) * x1) + x5) 240 (
 (fX11_isFrom (M.2.1 (t + 5) (((60 : Int32) * x1) + x5).toNatClampNeg) (-1 : Int64) xz3 M).bind fun v2 =>
 if v2 = 0 then
 some (5 : Int32)
 else
 lX11_wrongLog_47 t x1 x2 xz3 M n (x5 + 1))
theorem lX11_wrongLog_47_s (t : Nat) (x1 : Int32) (x2 : Int32) (xz3 : Int64) (M : Mem) (n : Nat) (x5 : Int32) : lX11_wrongLog_47 t x1 x2 xz3 M (n + 1) x5 =
    if x2 ≤ x5 then
 some (0 : Int32)
 else
 ixk (((60 : Int32) * x1) + x5) 240 (
 (fX11_isFrom (M.2.1 (t + 5) (((60 : Int32) * x1) + x5).toNatClampNeg) (-1 : Int64) xz3 M).bind fun v2 =>
 if v2 = 0 then
 some (5 : Int32)
 else
 lX11_wrongLog_47 t x1 x2 xz3 M n (x5 + 1)) := rfl
theorem lX11_wrongLog_47_0 (t : Nat) (x1 : Int32) (x2 : Int32) (xz3 : Int64) (M : Mem) (x5 : Int32) : lX11_wrongLog_47 t x1 x2 xz3 M 0 x5 = none := rfl
set_option maxRecDepth 100000 in
set_option maxHeartbeats 4000000 in
theorem wlX11_wrongLog_47 {J : JT} (g : Gd J cX11_wrongLog RX11) (hr : Rt J (some .int)) (hR : (JR J).frames = 1 ∧ (JR J).locals = 25) (hn : Jn J = 6) (t : Nat) (x1 : Int32) (x2 : Int32) (xz3 : Int64) (M : Mem) (ht : isO 11 t) : ∀ (n : Nat) (x5 : Int32), X J (fun b : Int32 => (some (Value.int b), M)) (lX11_wrongLog_47 t x1 x2 xz3 M n x5) 47 [(0, .ref t), (1, .int x1), (2, .int x2), (3, .long xz3), (5, .int x5)] [] M := by
  intro n
  induction n with
  | zero =>
    intro x5
    exact x_none
  | succ n ih =>
    intro x5
    rw [lX11_wrongLog_47_s]
    exact (x_iload g 4 dX11_wrongLog_47 rfl
 (x_iload_n g 2 dX11_wrongLog_49 rfl rfl
 (x_icmp_ge g 83 dX11_wrongLog_50 rfl
 (fun _ => (x_iconst g dX11_wrongLog_83 kI_0
 (x_iret g hr rfl rfl dX11_wrongLog_84)))
 (fun _ => (x_aload_n g 0 dX11_wrongLog_53 rfl rfl
 (x_getS g 5 fl_RX11_27 rfl ht dX11_wrongLog_54
 (x_bipush g dX11_wrongLog_57 kB_60
 (x_iload_n g 1 dX11_wrongLog_59 rfl rfl
 (x_imul g dX11_wrongLog_60
 (x_iload g 4 dX11_wrongLog_61 rfl
 (x_iadd g dX11_wrongLog_63
 (x_lald g (so_11_7 ht) dX11_wrongLog_64
 (x_ldc2 g cw_RX11_124 dX11_wrongLog_65
 (x_lload_n g 3 dX11_wrongLog_68 rfl rfl
 (x_callSip (As := [.long (M.2.1 (t + 5) (((60 : Int32) * x1) + x5).toNatClampNeg), .long (-1 : Int64), .long xz3]) g mv_X11_isFrom ms_X11_isFrom lk_RX11_399 (fun b hb => kX11_isFrom (M.2.1 (t + 5) (((60 : Int32) * x1) + x5).toNatClampNeg) (-1 : Int64) xz3 M _ _ hb) rfl rfl hR ⟨Nat.le_of_ble_eq_true rfl, Nat.le_of_ble_eq_true rfl⟩ (Nat.le_of_ble_eq_true rfl) dX11_wrongLog_69 (fun v2 =>
 (x_if_ne g 77 dX11_wrongLog_72 rfl
 (fun _ => (x_iinc (L' := [(5, .int (x5 + 1)), (0, .ref t), (1, .int x1), (2, .int x2), (3, .long xz3)]) (v := (x5 + 1)) g 4 dX11_wrongLog_77 rfl (by rw [kI_1]) hn (Nat.le_of_ble_eq_true rfl) rfl
 (x_goto g 47 dX11_wrongLog_80 rfl
 (x_sub [1, 2, 3, 4, 0] rfl (ih (x5 + 1))))))
 (fun _ => (x_iconst g dX11_wrongLog_75 kI_5
 (x_iret g hr rfl rfl dX11_wrongLog_76))))))))))))))))))))
def fX11_wrongLog (φ : Nat) (t : Nat) (a1 : Int32) (a2 : Int32) (a3 : Int64) (M : Mem) : Option Int32 :=
  (fX11_isTray a1 M).bind fun v1 =>
 if v1 = 0 then
 some (1 : Int32)
 else
 if a2 < (1 : Int32) then
 some (1 : Int32)
 else
 if a2 ≤ (60 : Int32) then
 ixk a1 4 (
 if (M.1 (t + 4) a1.toNatClampNeg) = (-1 : Int32) then
 some (2 : Int32)
 else
 ixk a1 4 (
 if a2 ≤ (M.1 (t + 4) a1.toNatClampNeg) then
 lX11_wrongLog_47 t a1 a2 a3 M φ (0 : Int32)
 else
 some (3 : Int32)))
 else
 some (1 : Int32)
set_option maxRecDepth 100000 in
set_option maxHeartbeats 4000000 in
theorem kX11_wrongLog (φ : Nat) (t : Nat) (a1 : Int32) (a2 : Int32) (a3 : Int64) (M : Mem) (ht : isO 11 t) (l : Launch) (G : GT) {b : Int32} (hE : fX11_wrongLog φ t a1 a2 a3 M = some b) : Ok l G yX11_wrongLog cX11_wrongLog 6 (some .int) 1 25 [.ref t, .int a1, .int a2, .long a3] M ((fun b : Int32 => (some (Value.int b), M)) b).1 ((fun b : Int32 => (some (Value.int b), M)) b).2 := by
  refine Ok.ofX (pj := (fun b : Int32 => (some (Value.int b), M))) (by decide) (Nat.le_of_ble_eq_true rfl) hE (fun J g hr hG hl hR hn => ?_)
  show X J (fun b : Int32 => (some (Value.int b), M)) (fX11_wrongLog φ t a1 a2 a3 M) 0 [(0, .ref t), (1, .int a1), (2, .int a2), (3, .long a3)] [] M
  unfold fX11_wrongLog
  exact (x_iload_n g 1 dX11_wrongLog_0 rfl rfl
 (x_callSip (As := [.int a1]) g mv_X11_isTray ms_X11_isTray lk_RX11_113 (fun b hb => kX11_isTray a1 M _ _ hb) rfl rfl hR ⟨Nat.le_of_ble_eq_true rfl, Nat.le_of_ble_eq_true rfl⟩ (Nat.le_of_ble_eq_true rfl) dX11_wrongLog_1 (fun v1 =>
 (x_if_eq g 18 dX11_wrongLog_4 rfl
 (fun _ => (x_iconst g dX11_wrongLog_18 kI_1
 (x_iret g hr rfl rfl dX11_wrongLog_19)))
 (fun _ => (x_iload_n g 2 dX11_wrongLog_7 rfl rfl
 (x_iconst g dX11_wrongLog_8 kI_1
 (x_icmp_lt g 18 dX11_wrongLog_9 rfl
 (fun _ => (x_iconst g dX11_wrongLog_18 kI_1
 (x_iret g hr rfl rfl dX11_wrongLog_19)))
 (fun _ => (x_iload_n g 2 dX11_wrongLog_12 rfl rfl
 (x_bipush g dX11_wrongLog_13 kB_60
 (x_icmp_le g 20 dX11_wrongLog_15 rfl
 (fun _ => (x_aload_n g 0 dX11_wrongLog_20 rfl rfl
 (x_getS g 4 fl_RX11_24 rfl ht dX11_wrongLog_21
 (x_iload_n g 1 dX11_wrongLog_24 rfl rfl
 (x_iald g (so_11_6 ht) dX11_wrongLog_25
 (x_iconst g dX11_wrongLog_26 kI_m1
 (x_icmp_ne g 32 dX11_wrongLog_27 rfl
 (fun _ => (x_aload_n g 0 dX11_wrongLog_32 rfl rfl
 (x_getS g 4 fl_RX11_24 rfl ht dX11_wrongLog_33
 (x_iload_n g 1 dX11_wrongLog_36 rfl rfl
 (x_iald g (so_11_6 ht) dX11_wrongLog_37
 (x_iload_n g 2 dX11_wrongLog_38 rfl rfl
 (x_icmp_ge g 44 dX11_wrongLog_39 rfl
 (fun _ => (x_iconst g dX11_wrongLog_44 kI_0
 (x_istore (L' := [(5, .int (0 : Int32)), (0, .ref t), (1, .int a1), (2, .int a2), (3, .long a3)]) g dX11_wrongLog_45 hn (Nat.le_of_ble_eq_true rfl) rfl
 (x_sub [1, 2, 3, 4, 0] rfl (wlX11_wrongLog_47 g hr hR hn  t a1 a2 a3 M ht φ (0 : Int32))))))
 (fun _ => (x_iconst g dX11_wrongLog_42 kI_3
 (x_iret g hr rfl rfl dX11_wrongLog_43))))))))))
 (fun _ => (x_iconst g dX11_wrongLog_30 kI_2
 (x_iret g hr rfl rfl dX11_wrongLog_31))))))))))
 (fun _ => (x_iconst g dX11_wrongLog_18 kI_1
 (x_iret g hr rfl rfl dX11_wrongLog_19)))))))))))))))
def fX11_logAt (t : Nat) (a1 : Int32) (a2 : Int32) (M : Mem) : Option Int64 :=
  ixk (((60 : Int32) * a1) + a2) 240 (
 some (M.2.1 (t + 5) (((60 : Int32) * a1) + a2).toNatClampNeg))
set_option maxRecDepth 100000 in
set_option maxHeartbeats 4000000 in
theorem kX11_logAt (t : Nat) (a1 : Int32) (a2 : Int32) (M : Mem) (ht : isO 11 t) (l : Launch) (G : GT) {b : Int64} (hE : fX11_logAt t a1 a2 M = some b) : Ok l G yX11_logAt cX11_logAt 3 (some .long) 0 0 [.ref t, .int a1, .int a2] M ((fun b : Int64 => (some (Value.long b), M)) b).1 ((fun b : Int64 => (some (Value.long b), M)) b).2 := by
  refine Ok.ofX (pj := (fun b : Int64 => (some (Value.long b), M))) (by decide) (Nat.le_of_ble_eq_true rfl) hE (fun J g hr hG hl hR hn => ?_)
  show X J (fun b : Int64 => (some (Value.long b), M)) (fX11_logAt t a1 a2 M) 0 [(0, .ref t), (1, .int a1), (2, .int a2)] [] M
  unfold fX11_logAt
  exact (x_aload_n g 0 dX11_logAt_0 rfl rfl
 (x_getS g 5 fl_RX11_27 rfl ht dX11_logAt_1
 (x_bipush g dX11_logAt_4 kB_60
 (x_iload_n g 1 dX11_logAt_6 rfl rfl
 (x_imul g dX11_logAt_7
 (x_iload_n g 2 dX11_logAt_8 rfl rfl
 (x_iadd g dX11_logAt_9
 (x_lald g (so_11_7 ht) dX11_logAt_10
 (x_lret g hr rfl dX11_logAt_11)))))))))
def lX11_isPick_66 (t : Nat) (x1 : Int32) (x2 : Int32) (x3 : Int32) (x4 : Int32) (x5 : Int32) (M : Mem) : Nat → Int32 → Option Int32
  | 0, _ => none
  | n + 1, x6 =>
    if x2 ≤ x6 then
 some (1 : Int32)
 else
 if (x5 + x4) ≤ x6 then
 some (1 : Int32)
 else
 (fX11_logAt t x1 x6 M).bind fun vz6 =>
 jn (lX11_isPick_66 t x1 x2 x3 x4 x5 M n (x6 + 1)) (fun J7 => if vz6 = (-1 : Int64) then
 J7
 else
 (fX11_logAt t x1 x6 M).bind fun vz8 =>
 if (x3.toInt64) ≤ vz8 then
 J7
 else
 some (0 : Int32))
theorem lX11_isPick_66_s (t : Nat) (x1 : Int32) (x2 : Int32) (x3 : Int32) (x4 : Int32) (x5 : Int32) (M : Mem) (n : Nat) (x6 : Int32) : lX11_isPick_66 t x1 x2 x3 x4 x5 M (n + 1) x6 =
    if x2 ≤ x6 then
 some (1 : Int32)
 else
 if (x5 + x4) ≤ x6 then
 some (1 : Int32)
 else
 (fX11_logAt t x1 x6 M).bind fun vz6 =>
 jn (lX11_isPick_66 t x1 x2 x3 x4 x5 M n (x6 + 1)) (fun J7 => if vz6 = (-1 : Int64) then
 J7
 else
 (fX11_logAt t x1 x6 M).bind fun vz8 =>
 if (x3.toInt64) ≤ vz8 then
 J7
 else
 some (0 : Int32)) := rfl
theorem lX11_isPick_66_0 (t : Nat) (x1 : Int32) (x2 : Int32) (x3 : Int32) (x4 : Int32) (x5 : Int32) (M : Mem) (x6 : Int32) : lX11_isPick_66 t x1 x2 x3 x4 x5 M 0 x6 = none := rfl
set_option maxRecDepth 100000 in
set_option maxHeartbeats 4000000 in
theorem wlX11_isPick_66 {J : JT} (g : Gd J cX11_isPick RX11) (hr : Rt J (some .boolean)) (hR : (JR J).frames = 1 ∧ (JR J).locals = 22) (hn : Jn J = 7) (t : Nat) (x1 : Int32) (x2 : Int32) (x3 : Int32) (x4 : Int32) (x5 : Int32) (M : Mem) (ht : isO 11 t) : ∀ (n : Nat) (x6 : Int32), X J (fun b : Int32 => (some (Value.int b), M)) (lX11_isPick_66 t x1 x2 x3 x4 x5 M n x6) 66 [(0, .ref t), (1, .int x1), (2, .int x2), (3, .int x3), (4, .int x4), (5, .int x5), (6, .int x6)] [] M := by
  intro n
  induction n with
  | zero =>
    intro x6
    exact x_none
  | succ n ih =>
    intro x6
    rw [lX11_isPick_66_s]
    exact (x_iload g 6 dX11_isPick_66 rfl
 (x_iload_n g 2 dX11_isPick_68 rfl rfl
 (x_icmp_ge g 117 dX11_isPick_69 rfl
 (fun _ => (x_iconst g dX11_isPick_117 kI_1
 (x_iret g hr rfl rfl dX11_isPick_118)))
 (fun _ => (x_iload g 6 dX11_isPick_72 rfl
 (x_iload g 5 dX11_isPick_74 rfl
 (x_iload g 4 dX11_isPick_76 rfl
 (x_iadd g dX11_isPick_78
 (x_icmp_ge g 117 dX11_isPick_79 rfl
 (fun _ => (x_iconst g dX11_isPick_117 kI_1
 (x_iret g hr rfl rfl dX11_isPick_118)))
 (fun _ => (x_aload_n g 0 dX11_isPick_82 rfl rfl
 (x_iload_n g 1 dX11_isPick_83 rfl rfl
 (x_iload g 6 dX11_isPick_84 rfl
 (x_callVlp (As := [.int x1, .int x6]) g mv_X11_logAt mi_X11_logAt lk_RX11_415 ht (fun b hb => kX11_logAt t x1 x6 M ht _ _ hb) rfl rfl hR ⟨Nat.le_of_ble_eq_true rfl, Nat.le_of_ble_eq_true rfl⟩ (Nat.le_of_ble_eq_true rfl) dX11_isPick_86 (fun vz6 =>
 (x_ldc2 g cw_RX11_124 dX11_isPick_89
 (x_jn (fun (J7 : Option Int32) => X J (fun b : Int32 => (some (Value.int b), M)) J7 111 [(0, .ref t), (1, .int x1), (2, .int x2), (3, .int x3), (4, .int x4), (5, .int x5), (6, .int x6)] [] M) (x_iinc (L' := [(6, .int (x6 + 1)), (0, .ref t), (1, .int x1), (2, .int x2), (3, .int x3), (4, .int x4), (5, .int x5)]) (v := (x6 + 1)) g 6 dX11_isPick_111 rfl (by rw [kI_1]) hn (Nat.le_of_ble_eq_true rfl) rfl
 (x_goto g 66 dX11_isPick_114 rfl
 (x_sub [1, 2, 3, 4, 5, 6, 0] rfl (ih (x6 + 1))))) (fun J7 hJ7 => (x_l_eq g 111 dX11_isPick_92 dX11_isPick_93 rfl
 (fun _ => (hJ7))
 (fun _ => (x_aload_n g 0 dX11_isPick_96 rfl rfl
 (x_iload_n g 1 dX11_isPick_97 rfl rfl
 (x_iload g 6 dX11_isPick_98 rfl
 (x_callVlp (As := [.int x1, .int x6]) g mv_X11_logAt mi_X11_logAt lk_RX11_415 ht (fun b hb => kX11_logAt t x1 x6 M ht _ _ hb) rfl rfl hR ⟨Nat.le_of_ble_eq_true rfl, Nat.le_of_ble_eq_true rfl⟩ (Nat.le_of_ble_eq_true rfl) dX11_isPick_100 (fun vz8 =>
 (x_iload_n g 3 dX11_isPick_103 rfl rfl
 (x_i2l g dX11_isPick_104
 (x_l_ge g 111 dX11_isPick_105 dX11_isPick_106 rfl
 (fun _ => (hJ7))
 (fun _ => (x_iconst g dX11_isPick_109 kI_0
 (x_iret g hr rfl rfl dX11_isPick_110)))))))))))))))))))))))))))))))
def fX11_isPick (φ : Nat) (t : Nat) (a1 : Int32) (a2 : Int32) (a3 : Int32) (a4 : Int32) (a5 : Int32) (M : Mem) : Option Int32 :=
  (fX11_logAt t a1 a5 M).bind fun vz1 =>
 if vz1 < (a3.toInt64) then
 some (0 : Int32)
 else
 (fX11_logAt t a1 a5 M).bind fun vz2 =>
 if vz2 = (-1 : Int64) then
 some (0 : Int32)
 else
 (fX11_logAt t a1 (a5 - (1 : Int32)) M).bind fun vz3 =>
 if (a3.toInt64) ≤ vz3 then
 some (0 : Int32)
 else
 (fX11_logAt t a1 (a5 - (1 : Int32)) M).bind fun vz4 =>
 if vz4 = (-1 : Int64) then
 some (0 : Int32)
 else
 nm (a5 + (1 : Int32)) (fun v5 =>
 lX11_isPick_66 t a1 a2 a3 a4 a5 M φ v5)
set_option maxRecDepth 100000 in
set_option maxHeartbeats 4000000 in
theorem kX11_isPick (φ : Nat) (t : Nat) (a1 : Int32) (a2 : Int32) (a3 : Int32) (a4 : Int32) (a5 : Int32) (M : Mem) (ht : isO 11 t) (l : Launch) (G : GT) {b : Int32} (hE : fX11_isPick φ t a1 a2 a3 a4 a5 M = some b) : Ok l G yX11_isPick cX11_isPick 7 (some .boolean) 1 22 [.ref t, .int a1, .int a2, .int a3, .int a4, .int a5] M ((fun b : Int32 => (some (Value.int b), M)) b).1 ((fun b : Int32 => (some (Value.int b), M)) b).2 := by
  refine Ok.ofX (pj := (fun b : Int32 => (some (Value.int b), M))) (by decide) (Nat.le_of_ble_eq_true rfl) hE (fun J g hr hG hl hR hn => ?_)
  show X J (fun b : Int32 => (some (Value.int b), M)) (fX11_isPick φ t a1 a2 a3 a4 a5 M) 0 [(0, .ref t), (1, .int a1), (2, .int a2), (3, .int a3), (4, .int a4), (5, .int a5)] [] M
  unfold fX11_isPick
  exact (x_aload_n g 0 dX11_isPick_0 rfl rfl
 (x_iload_n g 1 dX11_isPick_1 rfl rfl
 (x_iload g 5 dX11_isPick_2 rfl
 (x_callVlp (As := [.int a1, .int a5]) g mv_X11_logAt mi_X11_logAt lk_RX11_415 ht (fun b hb => kX11_logAt t a1 a5 M ht _ _ hb) rfl rfl hR ⟨Nat.le_of_ble_eq_true rfl, Nat.le_of_ble_eq_true rfl⟩ (Nat.le_of_ble_eq_true rfl) dX11_isPick_4 (fun vz1 =>
 (x_iload_n g 3 dX11_isPick_7 rfl rfl
 (x_i2l g dX11_isPick_8
 (x_l_lt g 58 dX11_isPick_9 dX11_isPick_10 rfl
 (fun _ => (x_iconst g dX11_isPick_58 kI_0
 (x_iret g hr rfl rfl dX11_isPick_59)))
 (fun _ => (x_aload_n g 0 dX11_isPick_13 rfl rfl
 (x_iload_n g 1 dX11_isPick_14 rfl rfl
 (x_iload g 5 dX11_isPick_15 rfl
 (x_callVlp (As := [.int a1, .int a5]) g mv_X11_logAt mi_X11_logAt lk_RX11_415 ht (fun b hb => kX11_logAt t a1 a5 M ht _ _ hb) rfl rfl hR ⟨Nat.le_of_ble_eq_true rfl, Nat.le_of_ble_eq_true rfl⟩ (Nat.le_of_ble_eq_true rfl) dX11_isPick_17 (fun vz2 =>
 (x_ldc2 g cw_RX11_124 dX11_isPick_20
 (x_l_eq g 58 dX11_isPick_23 dX11_isPick_24 rfl
 (fun _ => (x_iconst g dX11_isPick_58 kI_0
 (x_iret g hr rfl rfl dX11_isPick_59)))
 (fun _ => (x_aload_n g 0 dX11_isPick_27 rfl rfl
 (x_iload_n g 1 dX11_isPick_28 rfl rfl
 (x_iload g 5 dX11_isPick_29 rfl
 (x_iconst g dX11_isPick_31 kI_1
 (x_isub g dX11_isPick_32
 (x_callVlp (As := [.int a1, .int (a5 - (1 : Int32))]) g mv_X11_logAt mi_X11_logAt lk_RX11_415 ht (fun b hb => kX11_logAt t a1 (a5 - (1 : Int32)) M ht _ _ hb) rfl rfl hR ⟨Nat.le_of_ble_eq_true rfl, Nat.le_of_ble_eq_true rfl⟩ (Nat.le_of_ble_eq_true rfl) dX11_isPick_33 (fun vz3 =>
 (x_iload_n g 3 dX11_isPick_36 rfl rfl
 (x_i2l g dX11_isPick_37
 (x_l_ge g 58 dX11_isPick_38 dX11_isPick_39 rfl
 (fun _ => (x_iconst g dX11_isPick_58 kI_0
 (x_iret g hr rfl rfl dX11_isPick_59)))
 (fun _ => (x_aload_n g 0 dX11_isPick_42 rfl rfl
 (x_iload_n g 1 dX11_isPick_43 rfl rfl
 (x_iload g 5 dX11_isPick_44 rfl
 (x_iconst g dX11_isPick_46 kI_1
 (x_isub g dX11_isPick_47
 (x_callVlp (As := [.int a1, .int (a5 - (1 : Int32))]) g mv_X11_logAt mi_X11_logAt lk_RX11_415 ht (fun b hb => kX11_logAt t a1 (a5 - (1 : Int32)) M ht _ _ hb) rfl rfl hR ⟨Nat.le_of_ble_eq_true rfl, Nat.le_of_ble_eq_true rfl⟩ (Nat.le_of_ble_eq_true rfl) dX11_isPick_48 (fun vz4 =>
 (x_ldc2 g cw_RX11_124 dX11_isPick_51
 (x_l_ne g 60 dX11_isPick_54 dX11_isPick_55 rfl
 (fun _ => (x_iload g 5 dX11_isPick_60 rfl
 (x_iconst g dX11_isPick_62 kI_1
 (x_iadd g dX11_isPick_63
 (x_nmI (fun v5 => (x_istore (L' := [(6, .int v5), (0, .ref t), (1, .int a1), (2, .int a2), (3, .int a3), (4, .int a4), (5, .int a5)]) g dX11_isPick_64 hn (Nat.le_of_ble_eq_true rfl) rfl
 (x_sub [1, 2, 3, 4, 5, 6, 0] rfl (wlX11_isPick_66 g hr hR hn  t a1 a2 a3 a4 a5 M ht φ v5)))))))))
 (fun _ => (x_iconst g dX11_isPick_58 kI_0
 (x_iret g hr rfl rfl dX11_isPick_59))))))))))))))))))))))))))))))))))))))))
def lX11_picks_60 (φ : Nat) (t : Nat) (x1 : Int32) (x2 : Int32) (x3 : Int32) (x4 : Int32) : Nat → Int32 → Mem → Option (Int32 × Mem)
  | 0, _, _ => none
  | n + 1, x6, M =>
    if x2 ≤ x6 then
 bd (fX11_gives t (M.1 t 38) M) fun v5 M6 =>
 some (v5, M6)
 else
 (fX11_isPick φ t x1 x2 x3 x4 x6 M).bind fun v7 =>
 jn (fun (M8 : Mem) => lX11_picks_60 φ t x1 x2 x3 x4 n (x6 + 1) M8) (fun J9 => if v7 = 0 then
 J9 M
 else
 ixk (M.1 t 38) 60 (nm (stI M (t + 20) (M.1 t 38).toNatClampNeg x6) (fun M10 =>
 nm (stI M10 t 38 ((M10.1 t 38) + (1 : Int32))) (fun M11 =>
 J9 M11))))
theorem lX11_picks_60_s (φ : Nat) (t : Nat) (x1 : Int32) (x2 : Int32) (x3 : Int32) (x4 : Int32) (n : Nat) (x6 : Int32) (M : Mem) : lX11_picks_60 φ t x1 x2 x3 x4 (n + 1) x6 M =
    if x2 ≤ x6 then
 bd (fX11_gives t (M.1 t 38) M) fun v5 M6 =>
 some (v5, M6)
 else
 (fX11_isPick φ t x1 x2 x3 x4 x6 M).bind fun v7 =>
 jn (fun (M8 : Mem) => lX11_picks_60 φ t x1 x2 x3 x4 n (x6 + 1) M8) (fun J9 => if v7 = 0 then
 J9 M
 else
 ixk (M.1 t 38) 60 (nm (stI M (t + 20) (M.1 t 38).toNatClampNeg x6) (fun M10 =>
 nm (stI M10 t 38 ((M10.1 t 38) + (1 : Int32))) (fun M11 =>
 J9 M11)))) := rfl
theorem lX11_picks_60_0 (φ : Nat) (t : Nat) (x1 : Int32) (x2 : Int32) (x3 : Int32) (x4 : Int32) (x6 : Int32) (M : Mem) : lX11_picks_60 φ t x1 x2 x3 x4 0 x6 M = none := rfl
set_option maxRecDepth 100000 in
set_option maxHeartbeats 4000000 in
theorem wlX11_picks_60 {J : JT} (g : Gd J cX11_picks RX11) (hr : Rt J (some .int)) (hR : (JR J).frames = 2 ∧ (JR J).locals = 50) (hn : Jn J = 7) (φ : Nat) (t : Nat) (x1 : Int32) (x2 : Int32) (x3 : Int32) (x4 : Int32) (ht : isO 11 t) : ∀ (n : Nat) (x6 : Int32) (M : Mem), X J (fun q : Int32 × Mem => (some (Value.int q.1), q.2)) (lX11_picks_60 φ t x1 x2 x3 x4 n x6 M) 60 [(0, .ref t), (1, .int x1), (2, .int x2), (3, .int x3), (4, .int x4), (6, .int x6)] [] M := by
  intro n
  induction n with
  | zero =>
    intro x6 M
    exact x_none
  | succ n ih =>
    intro x6 M
    rw [lX11_picks_60_s]
    exact (x_iload g 5 dX11_picks_60 rfl
 (x_iload_n g 2 dX11_picks_62 rfl rfl
 (x_icmp_ge g 110 dX11_picks_63 rfl
 (fun _ => (x_aload_n g 0 dX11_picks_110 rfl rfl
 (x_aload_n g 0 dX11_picks_111 rfl rfl
 (x_getI g fl_RX11_426 rfl ht dX11_picks_112
 (x_callVi (As := [.int (M.1 t 38)]) g mv_X11_gives mi_X11_gives lk_RX11_106 ht (fun b Mh_ hb => kX11_gives t (M.1 t 38) M ht _ _ hb) rfl rfl hR ⟨Nat.le_of_ble_eq_true rfl, Nat.le_of_ble_eq_true rfl⟩ (Nat.le_of_ble_eq_true rfl) dX11_picks_115 (fun v5 M6 =>
 (x_iret g hr rfl rfl dX11_picks_118)))))))
 (fun _ => (x_aload_n g 0 dX11_picks_66 rfl rfl
 (x_iload_n g 1 dX11_picks_67 rfl rfl
 (x_iload_n g 2 dX11_picks_68 rfl rfl
 (x_iload_n g 3 dX11_picks_69 rfl rfl
 (x_iload g 4 dX11_picks_70 rfl
 (x_iload g 5 dX11_picks_72 rfl
 (x_callVip (As := [.int x1, .int x2, .int x3, .int x4, .int x6]) g mv_X11_isPick mi_X11_isPick lk_RX11_429 ht (fun b hb => kX11_isPick φ t x1 x2 x3 x4 x6 M ht _ _ hb) rfl rfl hR ⟨Nat.le_of_ble_eq_true rfl, Nat.le_of_ble_eq_true rfl⟩ (Nat.le_of_ble_eq_true rfl) dX11_picks_74 (fun v7 =>
 (x_jn (fun (J9 : Mem → Option (Int32 × Mem)) => ∀ (M8 : Mem), X J (fun q : Int32 × Mem => (some (Value.int q.1), q.2)) (J9 M8) 104 [(0, .ref t), (1, .int x1), (2, .int x2), (3, .int x3), (4, .int x4), (6, .int x6)] [] M8) (fun M8 => (x_iinc (L' := [(6, .int (x6 + 1)), (0, .ref t), (1, .int x1), (2, .int x2), (3, .int x3), (4, .int x4)]) (v := (x6 + 1)) g 5 dX11_picks_104 rfl (by rw [kI_1]) hn (Nat.le_of_ble_eq_true rfl) rfl
 (x_goto g 60 dX11_picks_107 rfl
 (x_sub [1, 2, 3, 4, 5, 0] rfl (ih (x6 + 1) M8))))) (fun J9 hJ9 => (x_if_ne g 83 dX11_picks_77 rfl
 (fun _ => (x_aload_n g 0 dX11_picks_83 rfl rfl
 (x_getS g 20 fl_RX11_84 rfl ht dX11_picks_84
 (x_aload_n g 0 dX11_picks_87 rfl rfl
 (x_getI g fl_RX11_426 rfl ht dX11_picks_88
 (x_iload g 5 dX11_picks_91 rfl
 (x_iast g (so_11_37 ht) dX11_picks_93 (x_nmM (fun M10 =>
 (x_aload_n g 0 dX11_picks_94 rfl rfl
 (x_dup g dX11_picks_95 rfl
 (x_getI g fl_RX11_426 rfl ht dX11_picks_96
 (x_iconst g dX11_picks_99 kI_1
 (x_iadd g dX11_picks_100
 (x_putI g fp_RX11_426 rfl (Nat.le_of_ble_eq_true rfl) ht dX11_picks_101 (x_nmM (fun M11 =>
 (hJ9 M11))))))))))))))))))
 (fun _ => (x_goto g 104 dX11_picks_80 rfl
 (hJ9 M))))))))))))))))))
def fX11_picks (φ : Nat) (t : Nat) (a1 : Int32) (a2 : Int32) (a3 : Int32) (a4 : Int32) (M : Mem) : Option (Int32 × Mem) :=
  (fX11_isFrom (a4.toInt64) (1 : Int64) (9 : Int64) M).bind fun v1 =>
 jn (fun (v2 : Int32) => if v2 ≤ 0 then
 nm (stI M t 38 (0 : Int32)) (fun M4 =>
 lX11_picks_60 φ t a1 a2 a3 a4 φ (1 : Int32) M4)
 else
 bd (fX11_refuse t v2 M) fun v12 M13 =>
 some (v12, M13)) (fun J3 => jn (J3 (1 : Int32)) (fun J14 => if v1 = 0 then
 J14
 else
 (fX11_isFrom (a3.toInt64) (0 : Int64) (999999 : Int64) M).bind fun v15 =>
 if v15 = 0 then
 J14
 else
 (fX11_wrongLog φ t a1 a2 (999999 : Int64) M).bind fun v16 =>
 J3 v16))
set_option maxRecDepth 100000 in
set_option maxHeartbeats 4000000 in
theorem kX11_picks (φ : Nat) (t : Nat) (a1 : Int32) (a2 : Int32) (a3 : Int32) (a4 : Int32) (M : Mem) (ht : isO 11 t) (l : Launch) (G : GT) {b : (Int32 × Mem)} (hE : fX11_picks φ t a1 a2 a3 a4 M = some b) : Ok l G yX11_picks cX11_picks 7 (some .int) 2 50 [.ref t, .int a1, .int a2, .int a3, .int a4] M ((fun q : Int32 × Mem => (some (Value.int q.1), q.2)) b).1 ((fun q : Int32 × Mem => (some (Value.int q.1), q.2)) b).2 := by
  refine Ok.ofX (pj := (fun q : Int32 × Mem => (some (Value.int q.1), q.2))) (by decide) (Nat.le_of_ble_eq_true rfl) hE (fun J g hr hG hl hR hn => ?_)
  show X J (fun q : Int32 × Mem => (some (Value.int q.1), q.2)) (fX11_picks φ t a1 a2 a3 a4 M) 0 [(0, .ref t), (1, .int a1), (2, .int a2), (3, .int a3), (4, .int a4)] [] M
  unfold fX11_picks
  exact (x_iload g 4 dX11_picks_0 rfl
 (x_i2l g dX11_picks_2
 (x_lconst g dX11_picks_3 kL_1
 (x_ldc2 g cw_RX11_418 dX11_picks_4
 (x_callSip (As := [.long (a4.toInt64), .long (1 : Int64), .long (9 : Int64)]) g mv_X11_isFrom ms_X11_isFrom lk_RX11_399 (fun b hb => kX11_isFrom (a4.toInt64) (1 : Int64) (9 : Int64) M _ _ hb) rfl rfl hR ⟨Nat.le_of_ble_eq_true rfl, Nat.le_of_ble_eq_true rfl⟩ (Nat.le_of_ble_eq_true rfl) dX11_picks_7 (fun v1 =>
 (x_jn (fun (J3 : Int32 → Option (Int32 × Mem)) => ∀ (v2 : Int32), X J (fun q : Int32 × Mem => (some (Value.int q.1), q.2)) (J3 v2) 38 [(0, .ref t), (1, .int a1), (2, .int a2), (3, .int a3), (4, .int a4)] [.int v2] M) (fun v2 => (x_istore (L' := [(5, .int v2), (0, .ref t), (1, .int a1), (2, .int a2), (3, .int a3), (4, .int a4)]) g dX11_picks_38 hn (Nat.le_of_ble_eq_true rfl) rfl
 (x_iload g 0 dX11_picks_40 rfl
 (x_if_le g 52 dX11_picks_42 rfl
 (fun _ => (x_aload_n g 1 dX11_picks_52 rfl rfl
 (x_iconst g dX11_picks_53 kI_0
 (x_putI g fp_RX11_426 rfl (Nat.le_of_ble_eq_true rfl) ht dX11_picks_54 (x_nmM (fun M4 =>
 (x_iconst g dX11_picks_57 kI_1
 (x_istore (L' := [(6, .int (1 : Int32)), (5, .int v2), (0, .ref t), (1, .int a1), (2, .int a2), (3, .int a3), (4, .int a4)]) g dX11_picks_58 hn (Nat.le_of_ble_eq_true rfl) rfl
 (x_sub [2, 3, 4, 5, 6, 0] rfl (wlX11_picks_60 g hr hR hn  φ t a1 a2 a3 a4 ht φ (1 : Int32) M4))))))))))
 (fun _ => (x_aload_n g 1 dX11_picks_45 rfl rfl
 (x_iload g 0 dX11_picks_46 rfl
 (x_callVi (As := [.int v2]) g mv_X11_refuse mi_X11_refuse lk_RX11_102 ht (fun b Mh_ hb => kX11_refuse t v2 M ht _ _ hb) rfl rfl hR ⟨Nat.le_of_ble_eq_true rfl, Nat.le_of_ble_eq_true rfl⟩ (Nat.le_of_ble_eq_true rfl) dX11_picks_48 (fun v12 M13 =>
 (x_iret g hr rfl rfl dX11_picks_51)))))))))) (fun J3 hJ3 => (x_jn (fun (J14 : Option (Int32 × Mem)) => X J (fun q : Int32 × Mem => (some (Value.int q.1), q.2)) J14 37 [(0, .ref t), (1, .int a1), (2, .int a2), (3, .int a3), (4, .int a4)] [] M) (x_iconst g dX11_picks_37 kI_1
 (hJ3 (1 : Int32))) (fun J14 hJ14 => (x_if_eq g 37 dX11_picks_10 rfl
 (fun _ => (hJ14))
 (fun _ => (x_iload_n g 3 dX11_picks_13 rfl rfl
 (x_i2l g dX11_picks_14
 (x_lconst g dX11_picks_15 kL_0
 (x_ldc2 g cw_RX11_420 dX11_picks_16
 (x_callSip (As := [.long (a3.toInt64), .long (0 : Int64), .long (999999 : Int64)]) g mv_X11_isFrom ms_X11_isFrom lk_RX11_399 (fun b hb => kX11_isFrom (a3.toInt64) (0 : Int64) (999999 : Int64) M _ _ hb) rfl rfl hR ⟨Nat.le_of_ble_eq_true rfl, Nat.le_of_ble_eq_true rfl⟩ (Nat.le_of_ble_eq_true rfl) dX11_picks_19 (fun v15 =>
 (x_if_eq g 37 dX11_picks_22 rfl
 (fun _ => (hJ14))
 (fun _ => (x_aload_n g 0 dX11_picks_25 rfl rfl
 (x_iload_n g 1 dX11_picks_26 rfl rfl
 (x_iload_n g 2 dX11_picks_27 rfl rfl
 (x_ldc2 g cw_RX11_420 dX11_picks_28
 (x_callVip (As := [.int a1, .int a2, .long (999999 : Int64)]) g mv_X11_wrongLog mi_X11_wrongLog lk_RX11_422 ht (fun b hb => kX11_wrongLog φ t a1 a2 (999999 : Int64) M ht _ _ hb) rfl rfl hR ⟨Nat.le_of_ble_eq_true rfl, Nat.le_of_ble_eq_true rfl⟩ (Nat.le_of_ble_eq_true rfl) dX11_picks_31 (fun v16 =>
 (x_goto g 38 dX11_picks_34 rfl
 (hJ3 v16))))))))))))))))))))))))))))
def fX11_pickAt (t : Nat) (a1 : Int32) (M : Mem) : Option (Int32 × Mem) :=
  if a1 < 0 then
 bd (fX11_refuse t (6 : Int32) M) fun v1 M2 =>
 some (v1, M2)
 else
 if a1 < (M.1 t 38) then
 ixk a1 60 (
 bd (fX11_gives t (M.1 (t + 20) a1.toNatClampNeg) M) fun v3 M4 =>
 some (v3, M4))
 else
 bd (fX11_refuse t (6 : Int32) M) fun v5 M6 =>
 some (v5, M6)
set_option maxRecDepth 100000 in
set_option maxHeartbeats 4000000 in
theorem kX11_pickAt (t : Nat) (a1 : Int32) (M : Mem) (ht : isO 11 t) (l : Launch) (G : GT) {b : (Int32 × Mem)} (hE : fX11_pickAt t a1 M = some b) : Ok l G yX11_pickAt cX11_pickAt 2 (some .int) 1 21 [.ref t, .int a1] M ((fun q : Int32 × Mem => (some (Value.int q.1), q.2)) b).1 ((fun q : Int32 × Mem => (some (Value.int q.1), q.2)) b).2 := by
  refine Ok.ofX (pj := (fun q : Int32 × Mem => (some (Value.int q.1), q.2))) (by decide) (Nat.le_of_ble_eq_true rfl) hE (fun J g hr hG hl hR hn => ?_)
  show X J (fun q : Int32 × Mem => (some (Value.int q.1), q.2)) (fX11_pickAt t a1 M) 0 [(0, .ref t), (1, .int a1)] [] M
  unfold fX11_pickAt
  exact (x_iload_n g 1 dX11_pickAt_0 rfl rfl
 (x_if_lt g 12 dX11_pickAt_1 rfl
 (fun _ => (x_aload_n g 0 dX11_pickAt_12 rfl rfl
 (x_bipush g dX11_pickAt_13 kB_6
 (x_callVi (As := [.int (6 : Int32)]) g mv_X11_refuse mi_X11_refuse lk_RX11_102 ht (fun b Mh_ hb => kX11_refuse t (6 : Int32) M ht _ _ hb) rfl rfl hR ⟨Nat.le_of_ble_eq_true rfl, Nat.le_of_ble_eq_true rfl⟩ (Nat.le_of_ble_eq_true rfl) dX11_pickAt_15 (fun v1 M2 =>
 (x_goto g 31 dX11_pickAt_18 rfl
 (x_iret g hr rfl rfl dX11_pickAt_31)))))))
 (fun _ => (x_iload_n g 1 dX11_pickAt_4 rfl rfl
 (x_aload_n g 0 dX11_pickAt_5 rfl rfl
 (x_getI g fl_RX11_426 rfl ht dX11_pickAt_6
 (x_icmp_lt g 21 dX11_pickAt_9 rfl
 (fun _ => (x_aload_n g 0 dX11_pickAt_21 rfl rfl
 (x_aload_n g 0 dX11_pickAt_22 rfl rfl
 (x_getS g 20 fl_RX11_84 rfl ht dX11_pickAt_23
 (x_iload_n g 1 dX11_pickAt_26 rfl rfl
 (x_iald g (so_11_37 ht) dX11_pickAt_27
 (x_callVi (As := [.int (M.1 (t + 20) a1.toNatClampNeg)]) g mv_X11_gives mi_X11_gives lk_RX11_106 ht (fun b Mh_ hb => kX11_gives t (M.1 (t + 20) a1.toNatClampNeg) M ht _ _ hb) rfl rfl hR ⟨Nat.le_of_ble_eq_true rfl, Nat.le_of_ble_eq_true rfl⟩ (Nat.le_of_ble_eq_true rfl) dX11_pickAt_28 (fun v3 M4 =>
 (x_iret g hr rfl rfl dX11_pickAt_31)))))))))
 (fun _ => (x_aload_n g 0 dX11_pickAt_12 rfl rfl
 (x_bipush g dX11_pickAt_13 kB_6
 (x_callVi (As := [.int (6 : Int32)]) g mv_X11_refuse mi_X11_refuse lk_RX11_102 ht (fun b Mh_ hb => kX11_refuse t (6 : Int32) M ht _ _ hb) rfl rfl hR ⟨Nat.le_of_ble_eq_true rfl, Nat.le_of_ble_eq_true rfl⟩ (Nat.le_of_ble_eq_true rfl) dX11_pickAt_15 (fun v5 M6 =>
 (x_goto g 31 dX11_pickAt_18 rfl
 (x_iret g hr rfl rfl dX11_pickAt_31))))))))))))))
