theorem dX2_isSplit_0 : decode cX2_isSplit 0 = .ok (.iconst 0, 1) := by decide +kernel
theorem dX2_isSplit_1 : decode cX2_isSplit 1 = .ok (.istore_n 2, 1) := by decide +kernel
theorem dX2_isSplit_2 : decode cX2_isSplit 2 = .ok (.iload_n 2, 1) := by decide +kernel
theorem dX2_isSplit_3 : decode cX2_isSplit 3 = .ok (.aload_n 0, 1) := by decide +kernel
theorem dX2_isSplit_4 : decode cX2_isSplit 4 = .ok (.getfield 53, 3) := by decide +kernel
theorem dX2_isSplit_7 : decode cX2_isSplit 7 = .ok (.if_icmp .ge 53, 3) := by decide +kernel
theorem dX2_isSplit_10 : decode cX2_isSplit 10 = .ok (.aload_n 0, 1) := by decide +kernel
theorem dX2_isSplit_11 : decode cX2_isSplit 11 = .ok (.iload_n 2, 1) := by decide +kernel
theorem dX2_isSplit_12 : decode cX2_isSplit 12 = .ok (.aload_n 0, 1) := by decide +kernel
theorem dX2_isSplit_13 : decode cX2_isSplit 13 = .ok (.iload_n 1, 1) := by decide +kernel
theorem dX2_isSplit_14 : decode cX2_isSplit 14 = .ok (.iconst 0, 1) := by decide +kernel
theorem dX2_isSplit_15 : decode cX2_isSplit 15 = .ok (.invokevirtual 120, 3) := by decide +kernel
theorem dX2_isSplit_18 : decode cX2_isSplit 18 = .ok (.invokevirtual 100, 3) := by decide +kernel
theorem dX2_isSplit_21 : decode cX2_isSplit 21 = .ok (.istore_n 3, 1) := by decide +kernel
theorem dX2_isSplit_22 : decode cX2_isSplit 22 = .ok (.aload_n 0, 1) := by decide +kernel
theorem dX2_isSplit_23 : decode cX2_isSplit 23 = .ok (.iload_n 2, 1) := by decide +kernel
theorem dX2_isSplit_24 : decode cX2_isSplit 24 = .ok (.aload_n 0, 1) := by decide +kernel
theorem dX2_isSplit_25 : decode cX2_isSplit 25 = .ok (.iload_n 1, 1) := by decide +kernel
theorem dX2_isSplit_26 : decode cX2_isSplit 26 = .ok (.iconst 1, 1) := by decide +kernel
theorem dX2_isSplit_27 : decode cX2_isSplit 27 = .ok (.invokevirtual 120, 3) := by decide +kernel
theorem dX2_isSplit_30 : decode cX2_isSplit 30 = .ok (.invokevirtual 100, 3) := by decide +kernel
theorem dX2_isSplit_33 : decode cX2_isSplit 33 = .ok (.iload_n 3, 1) := by decide +kernel
theorem dX2_isSplit_34 : decode cX2_isSplit 34 = .ok (.if_icmp .ne 18, 3) := by decide +kernel
theorem dX2_isSplit_37 : decode cX2_isSplit 37 = .ok (.aload_n 0, 1) := by decide +kernel
theorem dX2_isSplit_38 : decode cX2_isSplit 38 = .ok (.iload_n 2, 1) := by decide +kernel
theorem dX2_isSplit_39 : decode cX2_isSplit 39 = .ok (.aload_n 0, 1) := by decide +kernel
theorem dX2_isSplit_40 : decode cX2_isSplit 40 = .ok (.iload_n 1, 1) := by decide +kernel
theorem dX2_isSplit_41 : decode cX2_isSplit 41 = .ok (.iconst 2, 1) := by decide +kernel
theorem dX2_isSplit_42 : decode cX2_isSplit 42 = .ok (.invokevirtual 120, 3) := by decide +kernel
theorem dX2_isSplit_45 : decode cX2_isSplit 45 = .ok (.invokevirtual 100, 3) := by decide +kernel
theorem dX2_isSplit_48 : decode cX2_isSplit 48 = .ok (.iload_n 3, 1) := by decide +kernel
theorem dX2_isSplit_49 : decode cX2_isSplit 49 = .ok (.if_icmp .eq 5, 3) := by decide +kernel
theorem dX2_isSplit_52 : decode cX2_isSplit 52 = .ok (.iconst 1, 1) := by decide +kernel
theorem dX2_isSplit_53 : decode cX2_isSplit 53 = .ok (.ireturn, 1) := by decide +kernel
theorem dX2_isSplit_54 : decode cX2_isSplit 54 = .ok (.iinc 2 1, 3) := by decide +kernel
theorem dX2_isSplit_57 : decode cX2_isSplit 57 = .ok (.goto (-55), 3) := by decide +kernel
theorem dX2_isSplit_60 : decode cX2_isSplit 60 = .ok (.iconst 0, 1) := by decide +kernel
theorem dX2_isSplit_61 : decode cX2_isSplit 61 = .ok (.ireturn, 1) := by decide +kernel
theorem dX10_across_0 : decode cX10_across 0 = .ok (.aload_n 0, 1) := by decide +kernel
theorem dX10_across_1 : decode cX10_across 1 = .ok (.getfield 50, 3) := by decide +kernel
theorem dX10_across_4 : decode cX10_across 4 = .ok (.iload_n 1, 1) := by decide +kernel
theorem dX10_across_5 : decode cX10_across 5 = .ok (.invokevirtual 334, 3) := by decide +kernel
theorem dX10_across_8 : decode cX10_across 8 = .ok (.ifCond .ne 9, 3) := by decide +kernel
theorem dX10_across_11 : decode cX10_across 11 = .ok (.aload_n 0, 1) := by decide +kernel
theorem dX10_across_12 : decode cX10_across 12 = .ok (.iconst 1, 1) := by decide +kernel
theorem dX10_across_13 : decode cX10_across 13 = .ok (.invokevirtual 137, 3) := by decide +kernel
theorem dX10_across_16 : decode cX10_across 16 = .ok (.ireturn, 1) := by decide +kernel
theorem dX10_across_17 : decode cX10_across 17 = .ok (.aload_n 0, 1) := by decide +kernel
theorem dX10_across_18 : decode cX10_across 18 = .ok (.aload_n 0, 1) := by decide +kernel
theorem dX10_across_19 : decode cX10_across 19 = .ok (.getfield 50, 3) := by decide +kernel
theorem dX10_across_22 : decode cX10_across 22 = .ok (.iload_n 1, 1) := by decide +kernel
theorem dX10_across_23 : decode cX10_across 23 = .ok (.invokevirtual 346, 3) := by decide +kernel
theorem dX10_across_26 : decode cX10_across 26 = .ok (.invokevirtual 270, 3) := by decide +kernel
theorem dX10_across_29 : decode cX10_across 29 = .ok (.ireturn, 1) := by decide +kernel
theorem dX10_isPoint_0 : decode cX10_isPoint 0 = .ok (.iload_n 0, 1) := by decide +kernel
theorem dX10_isPoint_1 : decode cX10_isPoint 1 = .ok (.iconst 0, 1) := by decide +kernel
theorem dX10_isPoint_2 : decode cX10_isPoint 2 = .ok (.sipush 999, 3) := by decide +kernel
theorem dX10_isPoint_5 : decode cX10_isPoint 5 = .ok (.invokestatic 114, 3) := by decide +kernel
theorem dX10_isPoint_8 : decode cX10_isPoint 8 = .ok (.ifCond .eq 18, 3) := by decide +kernel
theorem dX10_isPoint_11 : decode cX10_isPoint 11 = .ok (.iload_n 1, 1) := by decide +kernel
theorem dX10_isPoint_12 : decode cX10_isPoint 12 = .ok (.iconst 0, 1) := by decide +kernel
theorem dX10_isPoint_13 : decode cX10_isPoint 13 = .ok (.sipush 999, 3) := by decide +kernel
theorem dX10_isPoint_16 : decode cX10_isPoint 16 = .ok (.invokestatic 114, 3) := by decide +kernel
theorem dX10_isPoint_19 : decode cX10_isPoint 19 = .ok (.ifCond .eq 7, 3) := by decide +kernel
theorem dX10_isPoint_22 : decode cX10_isPoint 22 = .ok (.iconst 1, 1) := by decide +kernel
theorem dX10_isPoint_23 : decode cX10_isPoint 23 = .ok (.goto 4, 3) := by decide +kernel
theorem dX10_isPoint_26 : decode cX10_isPoint 26 = .ok (.iconst 0, 1) := by decide +kernel
theorem dX10_isPoint_27 : decode cX10_isPoint 27 = .ok (.ireturn, 1) := by decide +kernel
theorem dX2_weight_0 : decode cX2_weight 0 = .ok (.aload_n 0, 1) := by decide +kernel
theorem dX2_weight_1 : decode cX2_weight 1 = .ok (.iload_n 1, 1) := by decide +kernel
theorem dX2_weight_2 : decode cX2_weight 2 = .ok (.iload_n 2, 1) := by decide +kernel
theorem dX2_weight_3 : decode cX2_weight 3 = .ok (.iconst 1, 1) := by decide +kernel
theorem dX2_weight_4 : decode cX2_weight 4 = .ok (.iadd, 1) := by decide +kernel
theorem dX2_weight_5 : decode cX2_weight 5 = .ok (.iconst 3, 1) := by decide +kernel
theorem dX2_weight_6 : decode cX2_weight 6 = .ok (.irem, 1) := by decide +kernel
theorem dX2_weight_7 : decode cX2_weight 7 = .ok (.invokevirtual 120, 3) := by decide +kernel
theorem dX2_weight_10 : decode cX2_weight 10 = .ok (.istore 5, 2) := by decide +kernel
theorem dX2_weight_12 : decode cX2_weight 12 = .ok (.aload_n 0, 1) := by decide +kernel
theorem dX2_weight_13 : decode cX2_weight 13 = .ok (.iload_n 1, 1) := by decide +kernel
theorem dX2_weight_14 : decode cX2_weight 14 = .ok (.iload_n 2, 1) := by decide +kernel
theorem dX2_weight_15 : decode cX2_weight 15 = .ok (.iconst 2, 1) := by decide +kernel
theorem dX2_weight_16 : decode cX2_weight 16 = .ok (.iadd, 1) := by decide +kernel
theorem dX2_weight_17 : decode cX2_weight 17 = .ok (.iconst 3, 1) := by decide +kernel
theorem dX2_weight_18 : decode cX2_weight 18 = .ok (.irem, 1) := by decide +kernel
theorem dX2_weight_19 : decode cX2_weight 19 = .ok (.invokevirtual 120, 3) := by decide +kernel
theorem dX2_weight_22 : decode cX2_weight 22 = .ok (.istore 6, 2) := by decide +kernel
theorem dX2_weight_24 : decode cX2_weight 24 = .ok (.iload_n 3, 1) := by decide +kernel
theorem dX2_weight_25 : decode cX2_weight 25 = .ok (.iload 4, 2) := by decide +kernel
theorem dX2_weight_27 : decode cX2_weight 27 = .ok (.aload_n 0, 1) := by decide +kernel
theorem dX2_weight_28 : decode cX2_weight 28 = .ok (.getfield 32, 3) := by decide +kernel
theorem dX2_weight_31 : decode cX2_weight 31 = .ok (.iload 5, 2) := by decide +kernel
theorem dX2_weight_33 : decode cX2_weight 33 = .ok (.iaload, 1) := by decide +kernel
theorem dX2_weight_34 : decode cX2_weight 34 = .ok (.aload_n 0, 1) := by decide +kernel
theorem dX2_weight_35 : decode cX2_weight 35 = .ok (.getfield 35, 3) := by decide +kernel
theorem dX2_weight_38 : decode cX2_weight 38 = .ok (.iload 5, 2) := by decide +kernel
theorem dX2_weight_40 : decode cX2_weight 40 = .ok (.iaload, 1) := by decide +kernel
theorem dX2_weight_41 : decode cX2_weight 41 = .ok (.aload_n 0, 1) := by decide +kernel
theorem dX2_weight_42 : decode cX2_weight 42 = .ok (.getfield 32, 3) := by decide +kernel
theorem dX2_weight_45 : decode cX2_weight 45 = .ok (.iload 6, 2) := by decide +kernel
theorem dX2_weight_47 : decode cX2_weight 47 = .ok (.iaload, 1) := by decide +kernel
theorem dX2_weight_48 : decode cX2_weight 48 = .ok (.aload_n 0, 1) := by decide +kernel
theorem dX2_weight_49 : decode cX2_weight 49 = .ok (.getfield 35, 3) := by decide +kernel
theorem dX2_weight_52 : decode cX2_weight 52 = .ok (.iload 6, 2) := by decide +kernel
theorem dX2_weight_54 : decode cX2_weight 54 = .ok (.iaload, 1) := by decide +kernel
theorem dX2_weight_55 : decode cX2_weight 55 = .ok (.invokestatic 116, 3) := by decide +kernel
theorem dX2_weight_58 : decode cX2_weight 58 = .ok (.ireturn, 1) := by decide +kernel
theorem dX2_isInside_0 : decode cX2_isInside 0 = .ok (.aload_n 0, 1) := by decide +kernel
theorem dX2_isInside_1 : decode cX2_isInside 1 = .ok (.iload_n 1, 1) := by decide +kernel
theorem dX2_isInside_2 : decode cX2_isInside 2 = .ok (.invokevirtual 127, 3) := by decide +kernel
theorem dX2_isInside_5 : decode cX2_isInside 5 = .ok (.ifCond .ge 7, 3) := by decide +kernel
theorem dX2_isInside_8 : decode cX2_isInside 8 = .ok (.iconst (-1), 1) := by decide +kernel
theorem dX2_isInside_9 : decode cX2_isInside 9 = .ok (.goto 4, 3) := by decide +kernel
theorem dX2_isInside_12 : decode cX2_isInside 12 = .ok (.iconst 1, 1) := by decide +kernel
theorem dX2_isInside_13 : decode cX2_isInside 13 = .ok (.istore 4, 2) := by decide +kernel
theorem dX2_isInside_15 : decode cX2_isInside 15 = .ok (.iconst 0, 1) := by decide +kernel
theorem dX2_isInside_16 : decode cX2_isInside 16 = .ok (.istore 5, 2) := by decide +kernel
theorem dX2_isInside_18 : decode cX2_isInside 18 = .ok (.iload 5, 2) := by decide +kernel
theorem dX2_isInside_20 : decode cX2_isInside 20 = .ok (.iconst 3, 1) := by decide +kernel
theorem dX2_isInside_21 : decode cX2_isInside 21 = .ok (.if_icmp .ge 26, 3) := by decide +kernel
theorem dX2_isInside_24 : decode cX2_isInside 24 = .ok (.iload 4, 2) := by decide +kernel
theorem dX2_isInside_26 : decode cX2_isInside 26 = .ok (.aload_n 0, 1) := by decide +kernel
theorem dX2_isInside_27 : decode cX2_isInside 27 = .ok (.iload_n 1, 1) := by decide +kernel
theorem dX2_isInside_28 : decode cX2_isInside 28 = .ok (.iload 5, 2) := by decide +kernel
theorem dX2_isInside_30 : decode cX2_isInside 30 = .ok (.iload_n 2, 1) := by decide +kernel
theorem dX2_isInside_31 : decode cX2_isInside 31 = .ok (.iload_n 3, 1) := by decide +kernel
theorem dX2_isInside_32 : decode cX2_isInside 32 = .ok (.invokevirtual 140, 3) := by decide +kernel
theorem dX2_isInside_35 : decode cX2_isInside 35 = .ok (.imul, 1) := by decide +kernel
theorem dX2_isInside_36 : decode cX2_isInside 36 = .ok (.ifCond .ge 5, 3) := by decide +kernel
theorem dX2_isInside_39 : decode cX2_isInside 39 = .ok (.iconst 0, 1) := by decide +kernel
theorem dX2_isInside_40 : decode cX2_isInside 40 = .ok (.ireturn, 1) := by decide +kernel
theorem dX2_isInside_41 : decode cX2_isInside 41 = .ok (.iinc 5 1, 3) := by decide +kernel
theorem dX2_isInside_44 : decode cX2_isInside 44 = .ok (.goto (-26), 3) := by decide +kernel
theorem dX2_isInside_47 : decode cX2_isInside 47 = .ok (.iconst 1, 1) := by decide +kernel
theorem dX2_isInside_48 : decode cX2_isInside 48 = .ok (.ireturn, 1) := by decide +kernel
theorem dX2_triangleWith_0 : decode cX2_triangleWith 0 = .ok (.iconst 0, 1) := by decide +kernel
theorem dX2_triangleWith_1 : decode cX2_triangleWith 1 = .ok (.istore_n 3, 1) := by decide +kernel
theorem dX2_triangleWith_2 : decode cX2_triangleWith 2 = .ok (.iload_n 3, 1) := by decide +kernel
theorem dX2_triangleWith_3 : decode cX2_triangleWith 3 = .ok (.aload_n 0, 1) := by decide +kernel
theorem dX2_triangleWith_4 : decode cX2_triangleWith 4 = .ok (.getfield 47, 3) := by decide +kernel
theorem dX2_triangleWith_7 : decode cX2_triangleWith 7 = .ok (.if_icmp .ge 29, 3) := by decide +kernel
theorem dX2_triangleWith_10 : decode cX2_triangleWith 10 = .ok (.aload_n 0, 1) := by decide +kernel
theorem dX2_triangleWith_11 : decode cX2_triangleWith 11 = .ok (.iload_n 3, 1) := by decide +kernel
theorem dX2_triangleWith_12 : decode cX2_triangleWith 12 = .ok (.invokevirtual 133, 3) := by decide +kernel
theorem dX2_triangleWith_15 : decode cX2_triangleWith 15 = .ok (.ifCond .ne 15, 3) := by decide +kernel
theorem dX2_triangleWith_18 : decode cX2_triangleWith 18 = .ok (.aload_n 0, 1) := by decide +kernel
theorem dX2_triangleWith_19 : decode cX2_triangleWith 19 = .ok (.iload_n 3, 1) := by decide +kernel
theorem dX2_triangleWith_20 : decode cX2_triangleWith 20 = .ok (.iload_n 1, 1) := by decide +kernel
theorem dX2_triangleWith_21 : decode cX2_triangleWith 21 = .ok (.iload_n 2, 1) := by decide +kernel
theorem dX2_triangleWith_22 : decode cX2_triangleWith 22 = .ok (.invokevirtual 136, 3) := by decide +kernel
theorem dX2_triangleWith_25 : decode cX2_triangleWith 25 = .ok (.ifCond .eq 5, 3) := by decide +kernel
theorem dX2_triangleWith_28 : decode cX2_triangleWith 28 = .ok (.iload_n 3, 1) := by decide +kernel
theorem dX2_triangleWith_29 : decode cX2_triangleWith 29 = .ok (.ireturn, 1) := by decide +kernel
theorem dX2_triangleWith_30 : decode cX2_triangleWith 30 = .ok (.iinc 3 1, 3) := by decide +kernel
theorem dX2_triangleWith_33 : decode cX2_triangleWith 33 = .ok (.goto (-31), 3) := by decide +kernel
theorem dX2_triangleWith_36 : decode cX2_triangleWith 36 = .ok (.iconst (-1), 1) := by decide +kernel
theorem dX2_triangleWith_37 : decode cX2_triangleWith 37 = .ok (.ireturn, 1) := by decide +kernel
theorem dX10_triangleAt_0 : decode cX10_triangleAt 0 = .ok (.iload_n 1, 1) := by decide +kernel
theorem dX10_triangleAt_1 : decode cX10_triangleAt 1 = .ok (.iload_n 2, 1) := by decide +kernel
theorem dX10_triangleAt_2 : decode cX10_triangleAt 2 = .ok (.invokestatic 349, 3) := by decide +kernel
theorem dX10_triangleAt_5 : decode cX10_triangleAt 5 = .ok (.ifCond .ne 9, 3) := by decide +kernel
theorem dX10_triangleAt_8 : decode cX10_triangleAt 8 = .ok (.aload_n 0, 1) := by decide +kernel
theorem dX10_triangleAt_9 : decode cX10_triangleAt 9 = .ok (.iconst 1, 1) := by decide +kernel
theorem dX10_triangleAt_10 : decode cX10_triangleAt 10 = .ok (.invokevirtual 137, 3) := by decide +kernel
theorem dX10_triangleAt_13 : decode cX10_triangleAt 13 = .ok (.ireturn, 1) := by decide +kernel
theorem dX10_triangleAt_14 : decode cX10_triangleAt 14 = .ok (.aload_n 0, 1) := by decide +kernel
theorem dX10_triangleAt_15 : decode cX10_triangleAt 15 = .ok (.aload_n 0, 1) := by decide +kernel
theorem dX10_triangleAt_16 : decode cX10_triangleAt 16 = .ok (.getfield 50, 3) := by decide +kernel
theorem dX10_triangleAt_19 : decode cX10_triangleAt 19 = .ok (.iload_n 1, 1) := by decide +kernel
theorem dX10_triangleAt_20 : decode cX10_triangleAt 20 = .ok (.iload_n 2, 1) := by decide +kernel
theorem dX10_triangleAt_21 : decode cX10_triangleAt 21 = .ok (.invokevirtual 352, 3) := by decide +kernel
theorem dX10_triangleAt_24 : decode cX10_triangleAt 24 = .ok (.invokevirtual 261, 3) := by decide +kernel
theorem dX10_triangleAt_27 : decode cX10_triangleAt 27 = .ok (.ireturn, 1) := by decide +kernel
theorem dX10_hasAtCorners_0 : decode cX10_hasAtCorners 0 = .ok (.iconst 0, 1) := by decide +kernel
theorem dX10_hasAtCorners_1 : decode cX10_hasAtCorners 1 = .ok (.istore_n 3, 1) := by decide +kernel
theorem dX10_hasAtCorners_2 : decode cX10_hasAtCorners 2 = .ok (.iload_n 3, 1) := by decide +kernel
theorem dX10_hasAtCorners_3 : decode cX10_hasAtCorners 3 = .ok (.iconst 3, 1) := by decide +kernel
theorem dX10_hasAtCorners_4 : decode cX10_hasAtCorners 4 = .ok (.if_icmp .ge 32, 3) := by decide +kernel
theorem dX10_hasAtCorners_7 : decode cX10_hasAtCorners 7 = .ok (.aload_n 0, 1) := by decide +kernel
theorem dX10_hasAtCorners_8 : decode cX10_hasAtCorners 8 = .ok (.getfield 88, 3) := by decide +kernel
theorem dX10_hasAtCorners_11 : decode cX10_hasAtCorners 11 = .ok (.iload_n 1, 1) := by decide +kernel
theorem dX10_hasAtCorners_12 : decode cX10_hasAtCorners 12 = .ok (.aload_n 0, 1) := by decide +kernel
theorem dX10_hasAtCorners_13 : decode cX10_hasAtCorners 13 = .ok (.getfield 50, 3) := by decide +kernel
theorem dX10_hasAtCorners_16 : decode cX10_hasAtCorners 16 = .ok (.iload_n 2, 1) := by decide +kernel
theorem dX10_hasAtCorners_17 : decode cX10_hasAtCorners 17 = .ok (.iload_n 3, 1) := by decide +kernel
theorem dX10_hasAtCorners_18 : decode cX10_hasAtCorners 18 = .ok (.invokevirtual 484, 3) := by decide +kernel
theorem dX10_hasAtCorners_21 : decode cX10_hasAtCorners 21 = .ok (.invokevirtual 318, 3) := by decide +kernel
theorem dX10_hasAtCorners_24 : decode cX10_hasAtCorners 24 = .ok (.iconst (-1), 1) := by decide +kernel
theorem dX10_hasAtCorners_25 : decode cX10_hasAtCorners 25 = .ok (.if_icmp .ne 5, 3) := by decide +kernel
theorem dX10_hasAtCorners_28 : decode cX10_hasAtCorners 28 = .ok (.iconst 0, 1) := by decide +kernel
theorem dX10_hasAtCorners_29 : decode cX10_hasAtCorners 29 = .ok (.ireturn, 1) := by decide +kernel
theorem dX10_hasAtCorners_30 : decode cX10_hasAtCorners 30 = .ok (.iinc 3 1, 3) := by decide +kernel
theorem dX10_hasAtCorners_33 : decode cX10_hasAtCorners 33 = .ok (.goto (-31), 3) := by decide +kernel
theorem dX10_hasAtCorners_36 : decode cX10_hasAtCorners 36 = .ok (.iconst 1, 1) := by decide +kernel
theorem dX10_hasAtCorners_37 : decode cX10_hasAtCorners 37 = .ok (.ireturn, 1) := by decide +kernel
theorem dX10_depthAtCorner_0 : decode cX10_depthAtCorner 0 = .ok (.aload_n 0, 1) := by decide +kernel
theorem dX10_depthAtCorner_1 : decode cX10_depthAtCorner 1 = .ok (.getfield 50, 3) := by decide +kernel
theorem dX10_depthAtCorner_4 : decode cX10_depthAtCorner 4 = .ok (.iload_n 2, 1) := by decide +kernel
theorem dX10_depthAtCorner_5 : decode cX10_depthAtCorner 5 = .ok (.iload_n 3, 1) := by decide +kernel
theorem dX10_depthAtCorner_6 : decode cX10_depthAtCorner 6 = .ok (.invokevirtual 484, 3) := by decide +kernel
theorem dX10_depthAtCorner_9 : decode cX10_depthAtCorner 9 = .ok (.istore 4, 2) := by decide +kernel
theorem dX10_depthAtCorner_11 : decode cX10_depthAtCorner 11 = .ok (.aload_n 0, 1) := by decide +kernel
theorem dX10_depthAtCorner_12 : decode cX10_depthAtCorner 12 = .ok (.getfield 50, 3) := by decide +kernel
theorem dX10_depthAtCorner_15 : decode cX10_depthAtCorner 15 = .ok (.iload 4, 2) := by decide +kernel
theorem dX10_depthAtCorner_17 : decode cX10_depthAtCorner 17 = .ok (.aload_n 0, 1) := by decide +kernel
theorem dX10_depthAtCorner_18 : decode cX10_depthAtCorner 18 = .ok (.getfield 88, 3) := by decide +kernel
theorem dX10_depthAtCorner_21 : decode cX10_depthAtCorner 21 = .ok (.iload_n 1, 1) := by decide +kernel
theorem dX10_depthAtCorner_22 : decode cX10_depthAtCorner 22 = .ok (.iload 4, 2) := by decide +kernel
theorem dX10_depthAtCorner_24 : decode cX10_depthAtCorner 24 = .ok (.invokevirtual 318, 3) := by decide +kernel
theorem dX10_depthAtCorner_27 : decode cX10_depthAtCorner 27 = .ok (.invokevirtual 255, 3) := by decide +kernel
theorem dX10_depthAtCorner_30 : decode cX10_depthAtCorner 30 = .ok (.i2l, 1) := by decide +kernel
theorem dX10_depthAtCorner_31 : decode cX10_depthAtCorner 31 = .ok (.lreturn, 1) := by decide +kernel
theorem dX10_topAt_0 : decode cX10_topAt 0 = .ok (.aload_n 0, 1) := by decide +kernel
theorem dX10_topAt_1 : decode cX10_topAt 1 = .ok (.iload_n 1, 1) := by decide +kernel
theorem dX10_topAt_2 : decode cX10_topAt 2 = .ok (.invokevirtual 312, 3) := by decide +kernel
theorem dX10_topAt_5 : decode cX10_topAt 5 = .ok (.ifCond .eq 11, 3) := by decide +kernel
theorem dX10_topAt_8 : decode cX10_topAt 8 = .ok (.iload_n 2, 1) := by decide +kernel
theorem dX10_topAt_9 : decode cX10_topAt 9 = .ok (.iload_n 3, 1) := by decide +kernel
theorem dX10_topAt_10 : decode cX10_topAt 10 = .ok (.invokestatic 349, 3) := by decide +kernel
theorem dX10_topAt_13 : decode cX10_topAt 13 = .ok (.ifCond .ne 9, 3) := by decide +kernel
theorem dX10_topAt_16 : decode cX10_topAt 16 = .ok (.aload_n 0, 1) := by decide +kernel
theorem dX10_topAt_17 : decode cX10_topAt 17 = .ok (.iconst 1, 1) := by decide +kernel
theorem dX10_topAt_18 : decode cX10_topAt 18 = .ok (.invokevirtual 118, 3) := by decide +kernel
theorem dX10_topAt_21 : decode cX10_topAt 21 = .ok (.ireturn, 1) := by decide +kernel
theorem dX10_topAt_22 : decode cX10_topAt 22 = .ok (.aload_n 0, 1) := by decide +kernel
theorem dX10_topAt_23 : decode cX10_topAt 23 = .ok (.getfield 50, 3) := by decide +kernel
theorem dX10_topAt_26 : decode cX10_topAt 26 = .ok (.iload_n 2, 1) := by decide +kernel
theorem dX10_topAt_27 : decode cX10_topAt 27 = .ok (.iload_n 3, 1) := by decide +kernel
theorem dX10_topAt_28 : decode cX10_topAt 28 = .ok (.invokevirtual 352, 3) := by decide +kernel
theorem dX10_topAt_31 : decode cX10_topAt 31 = .ok (.istore 4, 2) := by decide +kernel
theorem dX10_topAt_33 : decode cX10_topAt 33 = .ok (.iload 4, 2) := by decide +kernel
theorem dX10_topAt_35 : decode cX10_topAt 35 = .ok (.iconst (-1), 1) := by decide +kernel
theorem dX10_topAt_36 : decode cX10_topAt 36 = .ok (.if_icmp .ne 10, 3) := by decide +kernel
theorem dX10_topAt_39 : decode cX10_topAt 39 = .ok (.aload_n 0, 1) := by decide +kernel
theorem dX10_topAt_40 : decode cX10_topAt 40 = .ok (.bipush 6, 2) := by decide +kernel
theorem dX10_topAt_42 : decode cX10_topAt 42 = .ok (.invokevirtual 118, 3) := by decide +kernel
theorem dX10_topAt_45 : decode cX10_topAt 45 = .ok (.ireturn, 1) := by decide +kernel
theorem dX10_topAt_46 : decode cX10_topAt 46 = .ok (.aload_n 0, 1) := by decide +kernel
theorem dX10_topAt_47 : decode cX10_topAt 47 = .ok (.iload_n 1, 1) := by decide +kernel
theorem dX10_topAt_48 : decode cX10_topAt 48 = .ok (.iload 4, 2) := by decide +kernel
theorem dX10_topAt_50 : decode cX10_topAt 50 = .ok (.invokevirtual 355, 3) := by decide +kernel
theorem dX10_topAt_53 : decode cX10_topAt 53 = .ok (.ifCond .ne 10, 3) := by decide +kernel
theorem dX10_topAt_56 : decode cX10_topAt 56 = .ok (.aload_n 0, 1) := by decide +kernel
theorem dX10_topAt_57 : decode cX10_topAt 57 = .ok (.bipush 7, 2) := by decide +kernel
theorem dX10_topAt_59 : decode cX10_topAt 59 = .ok (.invokevirtual 118, 3) := by decide +kernel
theorem dX10_topAt_62 : decode cX10_topAt 62 = .ok (.ireturn, 1) := by decide +kernel
theorem dX10_topAt_63 : decode cX10_topAt 63 = .ok (.lconst 0, 1) := by decide +kernel
theorem dX10_topAt_64 : decode cX10_topAt 64 = .ok (.lstore 5, 2) := by decide +kernel
theorem dX10_topAt_66 : decode cX10_topAt 66 = .ok (.iconst 0, 1) := by decide +kernel
theorem dX10_topAt_67 : decode cX10_topAt 67 = .ok (.istore 7, 2) := by decide +kernel
theorem dX10_topAt_69 : decode cX10_topAt 69 = .ok (.iload 7, 2) := by decide +kernel
theorem dX10_topAt_71 : decode cX10_topAt 71 = .ok (.iconst 3, 1) := by decide +kernel
theorem dX10_topAt_72 : decode cX10_topAt 72 = .ok (.if_icmp .ge 42, 3) := by decide +kernel
theorem dX10_topAt_75 : decode cX10_topAt 75 = .ok (.aload_n 0, 1) := by decide +kernel
theorem dX10_topAt_76 : decode cX10_topAt 76 = .ok (.getfield 50, 3) := by decide +kernel
theorem dX10_topAt_79 : decode cX10_topAt 79 = .ok (.iload 4, 2) := by decide +kernel
theorem dX10_topAt_81 : decode cX10_topAt 81 = .ok (.iload 7, 2) := by decide +kernel
theorem dX10_topAt_83 : decode cX10_topAt 83 = .ok (.iload_n 2, 1) := by decide +kernel
theorem dX10_topAt_84 : decode cX10_topAt 84 = .ok (.iload_n 3, 1) := by decide +kernel
theorem dX10_topAt_85 : decode cX10_topAt 85 = .ok (.invokevirtual 358, 3) := by decide +kernel
theorem dX10_topAt_88 : decode cX10_topAt 88 = .ok (.i2l, 1) := by decide +kernel
theorem dX10_topAt_89 : decode cX10_topAt 89 = .ok (.lstore 8, 2) := by decide +kernel
theorem dX10_topAt_91 : decode cX10_topAt 91 = .ok (.lload 5, 2) := by decide +kernel
theorem dX10_topAt_93 : decode cX10_topAt 93 = .ok (.lload 8, 2) := by decide +kernel
theorem dX10_topAt_95 : decode cX10_topAt 95 = .ok (.aload_n 0, 1) := by decide +kernel
theorem dX10_topAt_96 : decode cX10_topAt 96 = .ok (.iload_n 1, 1) := by decide +kernel
theorem dX10_topAt_97 : decode cX10_topAt 97 = .ok (.iload 4, 2) := by decide +kernel
theorem dX10_topAt_99 : decode cX10_topAt 99 = .ok (.iload 7, 2) := by decide +kernel
theorem dX10_topAt_101 : decode cX10_topAt 101 = .ok (.invokevirtual 362, 3) := by decide +kernel
theorem dX10_topAt_104 : decode cX10_topAt 104 = .ok (.lmul, 1) := by decide +kernel
theorem dX10_topAt_105 : decode cX10_topAt 105 = .ok (.ladd, 1) := by decide +kernel
theorem dX10_topAt_106 : decode cX10_topAt 106 = .ok (.lstore 5, 2) := by decide +kernel
theorem dX10_topAt_108 : decode cX10_topAt 108 = .ok (.iinc 7 1, 3) := by decide +kernel
theorem dX10_topAt_111 : decode cX10_topAt 111 = .ok (.goto (-42), 3) := by decide +kernel
theorem dX10_topAt_114 : decode cX10_topAt 114 = .ok (.aload_n 0, 1) := by decide +kernel
theorem dX10_topAt_115 : decode cX10_topAt 115 = .ok (.lload 5, 2) := by decide +kernel
theorem dX10_topAt_117 : decode cX10_topAt 117 = .ok (.aload_n 0, 1) := by decide +kernel
theorem dX10_topAt_118 : decode cX10_topAt 118 = .ok (.getfield 50, 3) := by decide +kernel
theorem dX10_topAt_121 : decode cX10_topAt 121 = .ok (.iload 4, 2) := by decide +kernel
theorem dX10_topAt_123 : decode cX10_topAt 123 = .ok (.invokevirtual 366, 3) := by decide +kernel
theorem dX10_topAt_126 : decode cX10_topAt 126 = .ok (.i2l, 1) := by decide +kernel
theorem dX10_topAt_127 : decode cX10_topAt 127 = .ok (.invokevirtual 342, 3) := by decide +kernel
theorem dX10_topAt_130 : decode cX10_topAt 130 = .ok (.ireturn, 1) := by decide +kernel
theorem dX10_thickAtCorner_0 : decode cX10_thickAtCorner 0 = .ok (.aload_n 0, 1) := by decide +kernel
theorem dX10_thickAtCorner_1 : decode cX10_thickAtCorner 1 = .ok (.getfield 50, 3) := by decide +kernel
theorem dX10_thickAtCorner_4 : decode cX10_thickAtCorner 4 = .ok (.iload_n 2, 1) := by decide +kernel
theorem dX10_thickAtCorner_5 : decode cX10_thickAtCorner 5 = .ok (.iload_n 3, 1) := by decide +kernel
theorem dX10_thickAtCorner_6 : decode cX10_thickAtCorner 6 = .ok (.invokevirtual 484, 3) := by decide +kernel
theorem dX10_thickAtCorner_9 : decode cX10_thickAtCorner 9 = .ok (.istore 4, 2) := by decide +kernel
theorem dX10_thickAtCorner_11 : decode cX10_thickAtCorner 11 = .ok (.aload_n 0, 1) := by decide +kernel
theorem dX10_thickAtCorner_12 : decode cX10_thickAtCorner 12 = .ok (.getfield 88, 3) := by decide +kernel
theorem dX10_thickAtCorner_15 : decode cX10_thickAtCorner 15 = .ok (.iload_n 1, 1) := by decide +kernel
theorem dX10_thickAtCorner_16 : decode cX10_thickAtCorner 16 = .ok (.iload 4, 2) := by decide +kernel
theorem dX10_thickAtCorner_18 : decode cX10_thickAtCorner 18 = .ok (.invokevirtual 318, 3) := by decide +kernel
theorem dX10_thickAtCorner_21 : decode cX10_thickAtCorner 21 = .ok (.istore 5, 2) := by decide +kernel
theorem dX10_thickAtCorner_23 : decode cX10_thickAtCorner 23 = .ok (.iload 5, 2) := by decide +kernel
theorem dX10_thickAtCorner_25 : decode cX10_thickAtCorner 25 = .ok (.iconst (-1), 1) := by decide +kernel
theorem dX10_thickAtCorner_26 : decode cX10_thickAtCorner 26 = .ok (.if_icmp .ne 7, 3) := by decide +kernel
theorem dX10_thickAtCorner_29 : decode cX10_thickAtCorner 29 = .ok (.lconst 0, 1) := by decide +kernel
theorem dX10_thickAtCorner_30 : decode cX10_thickAtCorner 30 = .ok (.goto 19, 3) := by decide +kernel
theorem dX10_thickAtCorner_33 : decode cX10_thickAtCorner 33 = .ok (.aload_n 0, 1) := by decide +kernel
theorem dX10_thickAtCorner_34 : decode cX10_thickAtCorner 34 = .ok (.getfield 50, 3) := by decide +kernel
theorem dX10_thickAtCorner_37 : decode cX10_thickAtCorner 37 = .ok (.getfield 252, 3) := by decide +kernel
theorem dX10_thickAtCorner_40 : decode cX10_thickAtCorner 40 = .ok (.iload 4, 2) := by decide +kernel
theorem dX10_thickAtCorner_42 : decode cX10_thickAtCorner 42 = .ok (.iload 5, 2) := by decide +kernel
theorem dX10_thickAtCorner_44 : decode cX10_thickAtCorner 44 = .ok (.invokestatic 249, 3) := by decide +kernel
theorem dX10_thickAtCorner_47 : decode cX10_thickAtCorner 47 = .ok (.iaload, 1) := by decide +kernel
theorem dX10_thickAtCorner_48 : decode cX10_thickAtCorner 48 = .ok (.i2l, 1) := by decide +kernel
theorem dX10_thickAtCorner_49 : decode cX10_thickAtCorner 49 = .ok (.lreturn, 1) := by decide +kernel
theorem dX10_thickAt_0 : decode cX10_thickAt 0 = .ok (.aload_n 0, 1) := by decide +kernel
theorem dX10_thickAt_1 : decode cX10_thickAt 1 = .ok (.iload_n 1, 1) := by decide +kernel
theorem dX10_thickAt_2 : decode cX10_thickAt 2 = .ok (.invokevirtual 312, 3) := by decide +kernel
theorem dX10_thickAt_5 : decode cX10_thickAt 5 = .ok (.ifCond .eq 11, 3) := by decide +kernel
theorem dX10_thickAt_8 : decode cX10_thickAt 8 = .ok (.iload_n 2, 1) := by decide +kernel
theorem dX10_thickAt_9 : decode cX10_thickAt 9 = .ok (.iload_n 3, 1) := by decide +kernel
theorem dX10_thickAt_10 : decode cX10_thickAt 10 = .ok (.invokestatic 349, 3) := by decide +kernel
theorem dX10_thickAt_13 : decode cX10_thickAt 13 = .ok (.ifCond .ne 9, 3) := by decide +kernel
theorem dX10_thickAt_16 : decode cX10_thickAt 16 = .ok (.aload_n 0, 1) := by decide +kernel
theorem dX10_thickAt_17 : decode cX10_thickAt 17 = .ok (.iconst 1, 1) := by decide +kernel
theorem dX10_thickAt_18 : decode cX10_thickAt 18 = .ok (.invokevirtual 118, 3) := by decide +kernel
theorem dX10_thickAt_21 : decode cX10_thickAt 21 = .ok (.ireturn, 1) := by decide +kernel
theorem dX10_thickAt_22 : decode cX10_thickAt 22 = .ok (.aload_n 0, 1) := by decide +kernel
theorem dX10_thickAt_23 : decode cX10_thickAt 23 = .ok (.getfield 50, 3) := by decide +kernel
theorem dX10_thickAt_26 : decode cX10_thickAt 26 = .ok (.iload_n 2, 1) := by decide +kernel
theorem dX10_thickAt_27 : decode cX10_thickAt 27 = .ok (.iload_n 3, 1) := by decide +kernel
theorem dX10_thickAt_28 : decode cX10_thickAt 28 = .ok (.invokevirtual 352, 3) := by decide +kernel
theorem dX10_thickAt_31 : decode cX10_thickAt 31 = .ok (.istore 4, 2) := by decide +kernel
theorem dX10_thickAt_33 : decode cX10_thickAt 33 = .ok (.iload 4, 2) := by decide +kernel
theorem dX10_thickAt_35 : decode cX10_thickAt 35 = .ok (.iconst (-1), 1) := by decide +kernel
theorem dX10_thickAt_36 : decode cX10_thickAt 36 = .ok (.if_icmp .ne 10, 3) := by decide +kernel
theorem dX10_thickAt_39 : decode cX10_thickAt 39 = .ok (.aload_n 0, 1) := by decide +kernel
theorem dX10_thickAt_40 : decode cX10_thickAt 40 = .ok (.bipush 6, 2) := by decide +kernel
theorem dX10_thickAt_42 : decode cX10_thickAt 42 = .ok (.invokevirtual 118, 3) := by decide +kernel
theorem dX10_thickAt_45 : decode cX10_thickAt 45 = .ok (.ireturn, 1) := by decide +kernel
theorem dX10_thickAt_46 : decode cX10_thickAt 46 = .ok (.lconst 0, 1) := by decide +kernel
theorem dX10_thickAt_47 : decode cX10_thickAt 47 = .ok (.lstore 5, 2) := by decide +kernel
theorem dX10_thickAt_49 : decode cX10_thickAt 49 = .ok (.iconst 0, 1) := by decide +kernel
theorem dX10_thickAt_50 : decode cX10_thickAt 50 = .ok (.istore 7, 2) := by decide +kernel
theorem dX10_thickAt_52 : decode cX10_thickAt 52 = .ok (.iload 7, 2) := by decide +kernel
theorem dX10_thickAt_54 : decode cX10_thickAt 54 = .ok (.iconst 3, 1) := by decide +kernel
theorem dX10_thickAt_55 : decode cX10_thickAt 55 = .ok (.if_icmp .ge 42, 3) := by decide +kernel
theorem dX10_thickAt_58 : decode cX10_thickAt 58 = .ok (.aload_n 0, 1) := by decide +kernel
theorem dX10_thickAt_59 : decode cX10_thickAt 59 = .ok (.getfield 50, 3) := by decide +kernel
theorem dX10_thickAt_62 : decode cX10_thickAt 62 = .ok (.iload 4, 2) := by decide +kernel
theorem dX10_thickAt_64 : decode cX10_thickAt 64 = .ok (.iload 7, 2) := by decide +kernel
theorem dX10_thickAt_66 : decode cX10_thickAt 66 = .ok (.iload_n 2, 1) := by decide +kernel
theorem dX10_thickAt_67 : decode cX10_thickAt 67 = .ok (.iload_n 3, 1) := by decide +kernel
theorem dX10_thickAt_68 : decode cX10_thickAt 68 = .ok (.invokevirtual 358, 3) := by decide +kernel
theorem dX10_thickAt_71 : decode cX10_thickAt 71 = .ok (.i2l, 1) := by decide +kernel
theorem dX10_thickAt_72 : decode cX10_thickAt 72 = .ok (.lstore 8, 2) := by decide +kernel
theorem dX10_thickAt_74 : decode cX10_thickAt 74 = .ok (.lload 5, 2) := by decide +kernel
theorem dX10_thickAt_76 : decode cX10_thickAt 76 = .ok (.lload 8, 2) := by decide +kernel
theorem dX10_thickAt_78 : decode cX10_thickAt 78 = .ok (.aload_n 0, 1) := by decide +kernel
theorem dX10_thickAt_79 : decode cX10_thickAt 79 = .ok (.iload_n 1, 1) := by decide +kernel
theorem dX10_thickAt_80 : decode cX10_thickAt 80 = .ok (.iload 4, 2) := by decide +kernel
theorem dX10_thickAt_82 : decode cX10_thickAt 82 = .ok (.iload 7, 2) := by decide +kernel
theorem dX10_thickAt_84 : decode cX10_thickAt 84 = .ok (.invokevirtual 369, 3) := by decide +kernel
theorem dX10_thickAt_87 : decode cX10_thickAt 87 = .ok (.lmul, 1) := by decide +kernel
theorem dX10_thickAt_88 : decode cX10_thickAt 88 = .ok (.ladd, 1) := by decide +kernel
theorem dX10_thickAt_89 : decode cX10_thickAt 89 = .ok (.lstore 5, 2) := by decide +kernel
theorem dX10_thickAt_91 : decode cX10_thickAt 91 = .ok (.iinc 7 1, 3) := by decide +kernel
theorem dX10_thickAt_94 : decode cX10_thickAt 94 = .ok (.goto (-42), 3) := by decide +kernel
theorem dX10_thickAt_97 : decode cX10_thickAt 97 = .ok (.aload_n 0, 1) := by decide +kernel
theorem dX10_thickAt_98 : decode cX10_thickAt 98 = .ok (.lload 5, 2) := by decide +kernel
theorem dX10_thickAt_100 : decode cX10_thickAt 100 = .ok (.aload_n 0, 1) := by decide +kernel
theorem dX10_thickAt_101 : decode cX10_thickAt 101 = .ok (.getfield 50, 3) := by decide +kernel
theorem dX10_thickAt_104 : decode cX10_thickAt 104 = .ok (.iload 4, 2) := by decide +kernel
theorem dX10_thickAt_106 : decode cX10_thickAt 106 = .ok (.invokevirtual 366, 3) := by decide +kernel
theorem dX10_thickAt_109 : decode cX10_thickAt 109 = .ok (.i2l, 1) := by decide +kernel
theorem dX10_thickAt_110 : decode cX10_thickAt 110 = .ok (.invokevirtual 342, 3) := by decide +kernel
theorem dX10_thickAt_113 : decode cX10_thickAt 113 = .ok (.ireturn, 1) := by decide +kernel
theorem dX10_sixfoldVolume_0 : decode cX10_sixfoldVolume 0 = .ok (.lconst 0, 1) := by decide +kernel
theorem dX10_sixfoldVolume_1 : decode cX10_sixfoldVolume 1 = .ok (.lstore_n 3, 1) := by decide +kernel
theorem dX10_sixfoldVolume_2 : decode cX10_sixfoldVolume 2 = .ok (.iconst 0, 1) := by decide +kernel
theorem dX10_sixfoldVolume_3 : decode cX10_sixfoldVolume 3 = .ok (.istore 5, 2) := by decide +kernel
theorem dX10_sixfoldVolume_5 : decode cX10_sixfoldVolume 5 = .ok (.iload 5, 2) := by decide +kernel
theorem dX10_sixfoldVolume_7 : decode cX10_sixfoldVolume 7 = .ok (.iconst 3, 1) := by decide +kernel
theorem dX10_sixfoldVolume_8 : decode cX10_sixfoldVolume 8 = .ok (.if_icmp .ge 20, 3) := by decide +kernel
theorem dX10_sixfoldVolume_11 : decode cX10_sixfoldVolume 11 = .ok (.lload_n 3, 1) := by decide +kernel
theorem dX10_sixfoldVolume_12 : decode cX10_sixfoldVolume 12 = .ok (.aload_n 0, 1) := by decide +kernel
theorem dX10_sixfoldVolume_13 : decode cX10_sixfoldVolume 13 = .ok (.iload_n 1, 1) := by decide +kernel
theorem dX10_sixfoldVolume_14 : decode cX10_sixfoldVolume 14 = .ok (.iload_n 2, 1) := by decide +kernel
theorem dX10_sixfoldVolume_15 : decode cX10_sixfoldVolume 15 = .ok (.iload 5, 2) := by decide +kernel
theorem dX10_sixfoldVolume_17 : decode cX10_sixfoldVolume 17 = .ok (.invokevirtual 369, 3) := by decide +kernel
theorem dX10_sixfoldVolume_20 : decode cX10_sixfoldVolume 20 = .ok (.ladd, 1) := by decide +kernel
theorem dX10_sixfoldVolume_21 : decode cX10_sixfoldVolume 21 = .ok (.lstore_n 3, 1) := by decide +kernel
theorem dX10_sixfoldVolume_22 : decode cX10_sixfoldVolume 22 = .ok (.iinc 5 1, 3) := by decide +kernel
theorem dX10_sixfoldVolume_25 : decode cX10_sixfoldVolume 25 = .ok (.goto (-20), 3) := by decide +kernel
theorem dX10_sixfoldVolume_28 : decode cX10_sixfoldVolume 28 = .ok (.lload_n 3, 1) := by decide +kernel
theorem dX10_sixfoldVolume_29 : decode cX10_sixfoldVolume 29 = .ok (.aload_n 0, 1) := by decide +kernel
theorem dX10_sixfoldVolume_30 : decode cX10_sixfoldVolume 30 = .ok (.getfield 50, 3) := by decide +kernel
theorem dX10_sixfoldVolume_33 : decode cX10_sixfoldVolume 33 = .ok (.iload_n 2, 1) := by decide +kernel
theorem dX10_sixfoldVolume_34 : decode cX10_sixfoldVolume 34 = .ok (.invokevirtual 337, 3) := by decide +kernel
theorem dX10_sixfoldVolume_37 : decode cX10_sixfoldVolume 37 = .ok (.i2l, 1) := by decide +kernel
theorem dX10_sixfoldVolume_38 : decode cX10_sixfoldVolume 38 = .ok (.lmul, 1) := by decide +kernel
theorem dX10_sixfoldVolume_39 : decode cX10_sixfoldVolume 39 = .ok (.lreturn, 1) := by decide +kernel
theorem dX10_volume_0 : decode cX10_volume 0 = .ok (.aload_n 0, 1) := by decide +kernel
theorem dX10_volume_1 : decode cX10_volume 1 = .ok (.iload_n 1, 1) := by decide +kernel
theorem dX10_volume_2 : decode cX10_volume 2 = .ok (.invokevirtual 312, 3) := by decide +kernel
theorem dX10_volume_5 : decode cX10_volume 5 = .ok (.ifCond .eq 14, 3) := by decide +kernel
theorem dX10_volume_8 : decode cX10_volume 8 = .ok (.aload_n 0, 1) := by decide +kernel
theorem dX10_volume_9 : decode cX10_volume 9 = .ok (.getfield 50, 3) := by decide +kernel
theorem dX10_volume_12 : decode cX10_volume 12 = .ok (.iload_n 2, 1) := by decide +kernel
theorem dX10_volume_13 : decode cX10_volume 13 = .ok (.invokevirtual 334, 3) := by decide +kernel
theorem dX10_volume_16 : decode cX10_volume 16 = .ok (.ifCond .ne 9, 3) := by decide +kernel
theorem dX10_volume_19 : decode cX10_volume 19 = .ok (.aload_n 0, 1) := by decide +kernel
theorem dX10_volume_20 : decode cX10_volume 20 = .ok (.iconst 1, 1) := by decide +kernel
theorem dX10_volume_21 : decode cX10_volume 21 = .ok (.invokevirtual 118, 3) := by decide +kernel
theorem dX10_volume_24 : decode cX10_volume 24 = .ok (.ireturn, 1) := by decide +kernel
theorem dX10_volume_25 : decode cX10_volume 25 = .ok (.aload_n 0, 1) := by decide +kernel
theorem dX10_volume_26 : decode cX10_volume 26 = .ok (.getfield 50, 3) := by decide +kernel
theorem dX10_volume_29 : decode cX10_volume 29 = .ok (.iload_n 2, 1) := by decide +kernel
theorem dX10_volume_30 : decode cX10_volume 30 = .ok (.invokevirtual 346, 3) := by decide +kernel
theorem dX10_volume_33 : decode cX10_volume 33 = .ok (.ifCond .eq 10, 3) := by decide +kernel
theorem dX10_volume_36 : decode cX10_volume 36 = .ok (.aload_n 0, 1) := by decide +kernel
theorem dX10_volume_37 : decode cX10_volume 37 = .ok (.bipush 7, 2) := by decide +kernel
theorem dX10_volume_39 : decode cX10_volume 39 = .ok (.invokevirtual 118, 3) := by decide +kernel
theorem dX10_volume_42 : decode cX10_volume 42 = .ok (.ireturn, 1) := by decide +kernel
theorem dX10_volume_43 : decode cX10_volume 43 = .ok (.aload_n 0, 1) := by decide +kernel
theorem dX10_volume_44 : decode cX10_volume 44 = .ok (.aload_n 0, 1) := by decide +kernel
theorem dX10_volume_45 : decode cX10_volume 45 = .ok (.iload_n 1, 1) := by decide +kernel
theorem dX10_volume_46 : decode cX10_volume 46 = .ok (.iload_n 2, 1) := by decide +kernel
theorem dX10_volume_47 : decode cX10_volume 47 = .ok (.invokevirtual 372, 3) := by decide +kernel
theorem dX10_volume_50 : decode cX10_volume 50 = .ok (.ldc2_w 376, 3) := by decide +kernel
theorem dX10_volume_53 : decode cX10_volume 53 = .ok (.invokevirtual 342, 3) := by decide +kernel
theorem dX10_volume_56 : decode cX10_volume 56 = .ok (.ireturn, 1) := by decide +kernel
theorem dX10_volumeOf_0 : decode cX10_volumeOf 0 = .ok (.aload_n 0, 1) := by decide +kernel
theorem dX10_volumeOf_1 : decode cX10_volumeOf 1 = .ok (.iload_n 1, 1) := by decide +kernel
theorem dX10_volumeOf_2 : decode cX10_volumeOf 2 = .ok (.invokevirtual 312, 3) := by decide +kernel
theorem dX10_volumeOf_5 : decode cX10_volumeOf 5 = .ok (.ifCond .ne 9, 3) := by decide +kernel
theorem dX10_volumeOf_8 : decode cX10_volumeOf 8 = .ok (.aload_n 0, 1) := by decide +kernel
theorem dX10_volumeOf_9 : decode cX10_volumeOf 9 = .ok (.iconst 1, 1) := by decide +kernel
theorem dX10_volumeOf_10 : decode cX10_volumeOf 10 = .ok (.invokevirtual 118, 3) := by decide +kernel
theorem dX10_volumeOf_13 : decode cX10_volumeOf 13 = .ok (.ireturn, 1) := by decide +kernel
theorem dX10_volumeOf_14 : decode cX10_volumeOf 14 = .ok (.lconst 0, 1) := by decide +kernel
theorem dX10_volumeOf_15 : decode cX10_volumeOf 15 = .ok (.lstore_n 2, 1) := by decide +kernel
theorem dX10_volumeOf_16 : decode cX10_volumeOf 16 = .ok (.iconst 0, 1) := by decide +kernel
theorem dX10_volumeOf_17 : decode cX10_volumeOf 17 = .ok (.istore 4, 2) := by decide +kernel
theorem dX10_volumeOf_19 : decode cX10_volumeOf 19 = .ok (.iload 4, 2) := by decide +kernel
theorem dX10_volumeOf_21 : decode cX10_volumeOf 21 = .ok (.aload_n 0, 1) := by decide +kernel
theorem dX10_volumeOf_22 : decode cX10_volumeOf 22 = .ok (.getfield 50, 3) := by decide +kernel
theorem dX10_volumeOf_25 : decode cX10_volumeOf 25 = .ok (.getfield 209, 3) := by decide +kernel
theorem dX10_volumeOf_28 : decode cX10_volumeOf 28 = .ok (.if_icmp .ge 31, 3) := by decide +kernel
theorem dX10_volumeOf_31 : decode cX10_volumeOf 31 = .ok (.aload_n 0, 1) := by decide +kernel
theorem dX10_volumeOf_32 : decode cX10_volumeOf 32 = .ok (.getfield 50, 3) := by decide +kernel
theorem dX10_volumeOf_35 : decode cX10_volumeOf 35 = .ok (.iload 4, 2) := by decide +kernel
theorem dX10_volumeOf_37 : decode cX10_volumeOf 37 = .ok (.invokevirtual 346, 3) := by decide +kernel
theorem dX10_volumeOf_40 : decode cX10_volumeOf 40 = .ok (.ifCond .ne 13, 3) := by decide +kernel
theorem dX10_volumeOf_43 : decode cX10_volumeOf 43 = .ok (.lload_n 2, 1) := by decide +kernel
theorem dX10_volumeOf_44 : decode cX10_volumeOf 44 = .ok (.aload_n 0, 1) := by decide +kernel
theorem dX10_volumeOf_45 : decode cX10_volumeOf 45 = .ok (.iload_n 1, 1) := by decide +kernel
theorem dX10_volumeOf_46 : decode cX10_volumeOf 46 = .ok (.iload 4, 2) := by decide +kernel
theorem dX10_volumeOf_48 : decode cX10_volumeOf 48 = .ok (.invokevirtual 372, 3) := by decide +kernel
theorem dX10_volumeOf_51 : decode cX10_volumeOf 51 = .ok (.ladd, 1) := by decide +kernel
theorem dX10_volumeOf_52 : decode cX10_volumeOf 52 = .ok (.lstore_n 2, 1) := by decide +kernel
theorem dX10_volumeOf_53 : decode cX10_volumeOf 53 = .ok (.iinc 4 1, 3) := by decide +kernel
theorem dX10_volumeOf_56 : decode cX10_volumeOf 56 = .ok (.goto (-37), 3) := by decide +kernel
theorem dX10_volumeOf_59 : decode cX10_volumeOf 59 = .ok (.aload_n 0, 1) := by decide +kernel
theorem dX10_volumeOf_60 : decode cX10_volumeOf 60 = .ok (.lload_n 2, 1) := by decide +kernel
theorem dX10_volumeOf_61 : decode cX10_volumeOf 61 = .ok (.ldc2_w 376, 3) := by decide +kernel
theorem dX10_volumeOf_64 : decode cX10_volumeOf 64 = .ok (.invokevirtual 342, 3) := by decide +kernel
theorem dX10_volumeOf_67 : decode cX10_volumeOf 67 = .ok (.ireturn, 1) := by decide +kernel
theorem dX2_sideAlongY_0 : decode cX2_sideAlongY 0 = .ok (.aload_n 0, 1) := by decide +kernel
theorem dX2_sideAlongY_1 : decode cX2_sideAlongY 1 = .ok (.getfield 35, 3) := by decide +kernel
theorem dX2_sideAlongY_4 : decode cX2_sideAlongY 4 = .ok (.aload_n 0, 1) := by decide +kernel
theorem dX2_sideAlongY_5 : decode cX2_sideAlongY 5 = .ok (.iload_n 1, 1) := by decide +kernel
theorem dX2_sideAlongY_6 : decode cX2_sideAlongY 6 = .ok (.iload_n 2, 1) := by decide +kernel
theorem dX2_sideAlongY_7 : decode cX2_sideAlongY 7 = .ok (.invokevirtual 120, 3) := by decide +kernel
theorem dX2_sideAlongY_10 : decode cX2_sideAlongY 10 = .ok (.iaload, 1) := by decide +kernel
theorem dX2_sideAlongY_11 : decode cX2_sideAlongY 11 = .ok (.aload_n 0, 1) := by decide +kernel
theorem dX2_sideAlongY_12 : decode cX2_sideAlongY 12 = .ok (.getfield 35, 3) := by decide +kernel
theorem dX2_sideAlongY_15 : decode cX2_sideAlongY 15 = .ok (.aload_n 0, 1) := by decide +kernel
theorem dX2_sideAlongY_16 : decode cX2_sideAlongY 16 = .ok (.iload_n 1, 1) := by decide +kernel
theorem dX2_sideAlongY_17 : decode cX2_sideAlongY 17 = .ok (.iconst 0, 1) := by decide +kernel
theorem dX2_sideAlongY_18 : decode cX2_sideAlongY 18 = .ok (.invokevirtual 120, 3) := by decide +kernel
theorem dX2_sideAlongY_21 : decode cX2_sideAlongY 21 = .ok (.iaload, 1) := by decide +kernel
theorem dX2_sideAlongY_22 : decode cX2_sideAlongY 22 = .ok (.isub, 1) := by decide +kernel
theorem dX2_sideAlongY_23 : decode cX2_sideAlongY 23 = .ok (.ireturn, 1) := by decide +kernel
theorem dX2_sideAlongX_0 : decode cX2_sideAlongX 0 = .ok (.aload_n 0, 1) := by decide +kernel
theorem dX2_sideAlongX_1 : decode cX2_sideAlongX 1 = .ok (.getfield 32, 3) := by decide +kernel
theorem dX2_sideAlongX_4 : decode cX2_sideAlongX 4 = .ok (.aload_n 0, 1) := by decide +kernel
theorem dX2_sideAlongX_5 : decode cX2_sideAlongX 5 = .ok (.iload_n 1, 1) := by decide +kernel
theorem dX2_sideAlongX_6 : decode cX2_sideAlongX 6 = .ok (.iload_n 2, 1) := by decide +kernel
theorem dX2_sideAlongX_7 : decode cX2_sideAlongX 7 = .ok (.invokevirtual 120, 3) := by decide +kernel
theorem dX2_sideAlongX_10 : decode cX2_sideAlongX 10 = .ok (.iaload, 1) := by decide +kernel
theorem dX2_sideAlongX_11 : decode cX2_sideAlongX 11 = .ok (.aload_n 0, 1) := by decide +kernel
theorem dX2_sideAlongX_12 : decode cX2_sideAlongX 12 = .ok (.getfield 32, 3) := by decide +kernel
theorem dX2_sideAlongX_15 : decode cX2_sideAlongX 15 = .ok (.aload_n 0, 1) := by decide +kernel
theorem dX2_sideAlongX_16 : decode cX2_sideAlongX 16 = .ok (.iload_n 1, 1) := by decide +kernel
theorem dX2_sideAlongX_17 : decode cX2_sideAlongX 17 = .ok (.iconst 0, 1) := by decide +kernel
theorem dX2_sideAlongX_18 : decode cX2_sideAlongX 18 = .ok (.invokevirtual 120, 3) := by decide +kernel
theorem dX2_sideAlongX_21 : decode cX2_sideAlongX 21 = .ok (.iaload, 1) := by decide +kernel
theorem dX2_sideAlongX_22 : decode cX2_sideAlongX 22 = .ok (.isub, 1) := by decide +kernel
theorem dX2_sideAlongX_23 : decode cX2_sideAlongX 23 = .ok (.ireturn, 1) := by decide +kernel
theorem dX10_tilt_0 : decode cX10_tilt 0 = .ok (.aload_n 0, 1) := by decide +kernel
theorem dX10_tilt_1 : decode cX10_tilt 1 = .ok (.iload_n 1, 1) := by decide +kernel
theorem dX10_tilt_2 : decode cX10_tilt 2 = .ok (.invokevirtual 312, 3) := by decide +kernel
theorem dX10_tilt_5 : decode cX10_tilt 5 = .ok (.ifCond .eq 23, 3) := by decide +kernel
theorem dX10_tilt_8 : decode cX10_tilt 8 = .ok (.aload_n 0, 1) := by decide +kernel
theorem dX10_tilt_9 : decode cX10_tilt 9 = .ok (.getfield 50, 3) := by decide +kernel
theorem dX10_tilt_12 : decode cX10_tilt 12 = .ok (.iload_n 2, 1) := by decide +kernel
theorem dX10_tilt_13 : decode cX10_tilt 13 = .ok (.invokevirtual 334, 3) := by decide +kernel
theorem dX10_tilt_16 : decode cX10_tilt 16 = .ok (.ifCond .eq 12, 3) := by decide +kernel
theorem dX10_tilt_19 : decode cX10_tilt 19 = .ok (.iload_n 3, 1) := by decide +kernel
theorem dX10_tilt_20 : decode cX10_tilt 20 = .ok (.iconst 0, 1) := by decide +kernel
theorem dX10_tilt_21 : decode cX10_tilt 21 = .ok (.iconst 1, 1) := by decide +kernel
theorem dX10_tilt_22 : decode cX10_tilt 22 = .ok (.invokestatic 114, 3) := by decide +kernel
theorem dX10_tilt_25 : decode cX10_tilt 25 = .ok (.ifCond .ne 9, 3) := by decide +kernel
theorem dX10_tilt_28 : decode cX10_tilt 28 = .ok (.aload_n 0, 1) := by decide +kernel
theorem dX10_tilt_29 : decode cX10_tilt 29 = .ok (.iconst 1, 1) := by decide +kernel
theorem dX10_tilt_30 : decode cX10_tilt 30 = .ok (.invokevirtual 118, 3) := by decide +kernel
theorem dX10_tilt_33 : decode cX10_tilt 33 = .ok (.ireturn, 1) := by decide +kernel
theorem dX10_tilt_34 : decode cX10_tilt 34 = .ok (.aload_n 0, 1) := by decide +kernel
theorem dX10_tilt_35 : decode cX10_tilt 35 = .ok (.getfield 50, 3) := by decide +kernel
theorem dX10_tilt_38 : decode cX10_tilt 38 = .ok (.iload_n 2, 1) := by decide +kernel
theorem dX10_tilt_39 : decode cX10_tilt 39 = .ok (.invokevirtual 346, 3) := by decide +kernel
theorem dX10_tilt_42 : decode cX10_tilt 42 = .ok (.ifCond .ne 12, 3) := by decide +kernel
theorem dX10_tilt_45 : decode cX10_tilt 45 = .ok (.aload_n 0, 1) := by decide +kernel
theorem dX10_tilt_46 : decode cX10_tilt 46 = .ok (.iload_n 1, 1) := by decide +kernel
theorem dX10_tilt_47 : decode cX10_tilt 47 = .ok (.iload_n 2, 1) := by decide +kernel
theorem dX10_tilt_48 : decode cX10_tilt 48 = .ok (.invokevirtual 355, 3) := by decide +kernel
theorem dX10_tilt_51 : decode cX10_tilt 51 = .ok (.ifCond .ne 10, 3) := by decide +kernel
theorem dX10_tilt_54 : decode cX10_tilt 54 = .ok (.aload_n 0, 1) := by decide +kernel
theorem dX10_tilt_55 : decode cX10_tilt 55 = .ok (.bipush 7, 2) := by decide +kernel
theorem dX10_tilt_57 : decode cX10_tilt 57 = .ok (.invokevirtual 118, 3) := by decide +kernel
theorem dX10_tilt_60 : decode cX10_tilt 60 = .ok (.ireturn, 1) := by decide +kernel
theorem dX10_tilt_61 : decode cX10_tilt 61 = .ok (.aload_n 0, 1) := by decide +kernel
theorem dX10_tilt_62 : decode cX10_tilt 62 = .ok (.iload_n 1, 1) := by decide +kernel
theorem dX10_tilt_63 : decode cX10_tilt 63 = .ok (.iload_n 2, 1) := by decide +kernel
theorem dX10_tilt_64 : decode cX10_tilt 64 = .ok (.iconst 0, 1) := by decide +kernel
theorem dX10_tilt_65 : decode cX10_tilt 65 = .ok (.invokevirtual 362, 3) := by decide +kernel
theorem dX10_tilt_68 : decode cX10_tilt 68 = .ok (.lstore 4, 2) := by decide +kernel
theorem dX10_tilt_70 : decode cX10_tilt 70 = .ok (.aload_n 0, 1) := by decide +kernel
theorem dX10_tilt_71 : decode cX10_tilt 71 = .ok (.iload_n 1, 1) := by decide +kernel
theorem dX10_tilt_72 : decode cX10_tilt 72 = .ok (.iload_n 2, 1) := by decide +kernel
theorem dX10_tilt_73 : decode cX10_tilt 73 = .ok (.iconst 1, 1) := by decide +kernel
theorem dX10_tilt_74 : decode cX10_tilt 74 = .ok (.invokevirtual 362, 3) := by decide +kernel
theorem dX10_tilt_77 : decode cX10_tilt 77 = .ok (.lload 4, 2) := by decide +kernel
theorem dX10_tilt_79 : decode cX10_tilt 79 = .ok (.lsub, 1) := by decide +kernel
theorem dX10_tilt_80 : decode cX10_tilt 80 = .ok (.lstore 6, 2) := by decide +kernel
theorem dX10_tilt_82 : decode cX10_tilt 82 = .ok (.aload_n 0, 1) := by decide +kernel
theorem dX10_tilt_83 : decode cX10_tilt 83 = .ok (.iload_n 1, 1) := by decide +kernel
theorem dX10_tilt_84 : decode cX10_tilt 84 = .ok (.iload_n 2, 1) := by decide +kernel
theorem dX10_tilt_85 : decode cX10_tilt 85 = .ok (.iconst 2, 1) := by decide +kernel
theorem dX10_tilt_86 : decode cX10_tilt 86 = .ok (.invokevirtual 362, 3) := by decide +kernel
theorem dX10_tilt_89 : decode cX10_tilt 89 = .ok (.lload 4, 2) := by decide +kernel
theorem dX10_tilt_91 : decode cX10_tilt 91 = .ok (.lsub, 1) := by decide +kernel
theorem dX10_tilt_92 : decode cX10_tilt 92 = .ok (.lstore 8, 2) := by decide +kernel
theorem dX10_tilt_94 : decode cX10_tilt 94 = .ok (.iload_n 3, 1) := by decide +kernel
theorem dX10_tilt_95 : decode cX10_tilt 95 = .ok (.ifCond .ne 35, 3) := by decide +kernel
theorem dX10_tilt_98 : decode cX10_tilt 98 = .ok (.lload 6, 2) := by decide +kernel
theorem dX10_tilt_100 : decode cX10_tilt 100 = .ok (.aload_n 0, 1) := by decide +kernel
theorem dX10_tilt_101 : decode cX10_tilt 101 = .ok (.getfield 50, 3) := by decide +kernel
theorem dX10_tilt_104 : decode cX10_tilt 104 = .ok (.iload_n 2, 1) := by decide +kernel
theorem dX10_tilt_105 : decode cX10_tilt 105 = .ok (.iconst 2, 1) := by decide +kernel
theorem dX10_tilt_106 : decode cX10_tilt 106 = .ok (.invokevirtual 378, 3) := by decide +kernel
theorem dX10_tilt_109 : decode cX10_tilt 109 = .ok (.i2l, 1) := by decide +kernel
theorem dX10_tilt_110 : decode cX10_tilt 110 = .ok (.lmul, 1) := by decide +kernel
theorem dX10_tilt_111 : decode cX10_tilt 111 = .ok (.lload 8, 2) := by decide +kernel
theorem dX10_tilt_113 : decode cX10_tilt 113 = .ok (.aload_n 0, 1) := by decide +kernel
theorem dX10_tilt_114 : decode cX10_tilt 114 = .ok (.getfield 50, 3) := by decide +kernel
theorem dX10_tilt_117 : decode cX10_tilt 117 = .ok (.iload_n 2, 1) := by decide +kernel
theorem dX10_tilt_118 : decode cX10_tilt 118 = .ok (.iconst 1, 1) := by decide +kernel
theorem dX10_tilt_119 : decode cX10_tilt 119 = .ok (.invokevirtual 378, 3) := by decide +kernel
theorem dX10_tilt_122 : decode cX10_tilt 122 = .ok (.i2l, 1) := by decide +kernel
theorem dX10_tilt_123 : decode cX10_tilt 123 = .ok (.lmul, 1) := by decide +kernel
theorem dX10_tilt_124 : decode cX10_tilt 124 = .ok (.lsub, 1) := by decide +kernel
theorem dX10_tilt_125 : decode cX10_tilt 125 = .ok (.lstore 10, 2) := by decide +kernel
theorem dX10_tilt_127 : decode cX10_tilt 127 = .ok (.goto 32, 3) := by decide +kernel
theorem dX10_tilt_130 : decode cX10_tilt 130 = .ok (.lload 8, 2) := by decide +kernel
theorem dX10_tilt_132 : decode cX10_tilt 132 = .ok (.aload_n 0, 1) := by decide +kernel
theorem dX10_tilt_133 : decode cX10_tilt 133 = .ok (.getfield 50, 3) := by decide +kernel
theorem dX10_tilt_136 : decode cX10_tilt 136 = .ok (.iload_n 2, 1) := by decide +kernel
theorem dX10_tilt_137 : decode cX10_tilt 137 = .ok (.iconst 1, 1) := by decide +kernel
theorem dX10_tilt_138 : decode cX10_tilt 138 = .ok (.invokevirtual 381, 3) := by decide +kernel
theorem dX10_tilt_141 : decode cX10_tilt 141 = .ok (.i2l, 1) := by decide +kernel
theorem dX10_tilt_142 : decode cX10_tilt 142 = .ok (.lmul, 1) := by decide +kernel
theorem dX10_tilt_143 : decode cX10_tilt 143 = .ok (.lload 6, 2) := by decide +kernel
theorem dX10_tilt_145 : decode cX10_tilt 145 = .ok (.aload_n 0, 1) := by decide +kernel
theorem dX10_tilt_146 : decode cX10_tilt 146 = .ok (.getfield 50, 3) := by decide +kernel
theorem dX10_tilt_149 : decode cX10_tilt 149 = .ok (.iload_n 2, 1) := by decide +kernel
theorem dX10_tilt_150 : decode cX10_tilt 150 = .ok (.iconst 2, 1) := by decide +kernel
theorem dX10_tilt_151 : decode cX10_tilt 151 = .ok (.invokevirtual 381, 3) := by decide +kernel
theorem dX10_tilt_154 : decode cX10_tilt 154 = .ok (.i2l, 1) := by decide +kernel
theorem dX10_tilt_155 : decode cX10_tilt 155 = .ok (.lmul, 1) := by decide +kernel
theorem dX10_tilt_156 : decode cX10_tilt 156 = .ok (.lsub, 1) := by decide +kernel
theorem dX10_tilt_157 : decode cX10_tilt 157 = .ok (.lstore 10, 2) := by decide +kernel
theorem dX10_tilt_159 : decode cX10_tilt 159 = .ok (.aload_n 0, 1) := by decide +kernel
theorem dX10_tilt_160 : decode cX10_tilt 160 = .ok (.lload 10, 2) := by decide +kernel
theorem dX10_tilt_162 : decode cX10_tilt 162 = .ok (.aload_n 0, 1) := by decide +kernel
theorem dX10_tilt_163 : decode cX10_tilt 163 = .ok (.getfield 50, 3) := by decide +kernel
theorem dX10_tilt_166 : decode cX10_tilt 166 = .ok (.iload_n 2, 1) := by decide +kernel
theorem dX10_tilt_167 : decode cX10_tilt 167 = .ok (.invokevirtual 366, 3) := by decide +kernel
theorem dX10_tilt_170 : decode cX10_tilt 170 = .ok (.i2l, 1) := by decide +kernel
theorem dX10_tilt_171 : decode cX10_tilt 171 = .ok (.invokevirtual 342, 3) := by decide +kernel
theorem dX10_tilt_174 : decode cX10_tilt 174 = .ok (.ireturn, 1) := by decide +kernel
theorem dX10_deepest_0 : decode cX10_deepest 0 = .ok (.aload_n 0, 1) := by decide +kernel
theorem dX10_deepest_1 : decode cX10_deepest 1 = .ok (.iload_n 1, 1) := by decide +kernel
theorem dX10_deepest_2 : decode cX10_deepest 2 = .ok (.invokevirtual 312, 3) := by decide +kernel
theorem dX10_deepest_5 : decode cX10_deepest 5 = .ok (.ifCond .ne 9, 3) := by decide +kernel
theorem dX10_deepest_8 : decode cX10_deepest 8 = .ok (.aload_n 0, 1) := by decide +kernel
theorem dX10_deepest_9 : decode cX10_deepest 9 = .ok (.iconst 1, 1) := by decide +kernel
theorem dX10_deepest_10 : decode cX10_deepest 10 = .ok (.invokevirtual 137, 3) := by decide +kernel
theorem dX10_deepest_13 : decode cX10_deepest 13 = .ok (.ireturn, 1) := by decide +kernel
theorem dX10_deepest_14 : decode cX10_deepest 14 = .ok (.iconst (-1), 1) := by decide +kernel
theorem dX10_deepest_15 : decode cX10_deepest 15 = .ok (.istore_n 2, 1) := by decide +kernel
theorem dX10_deepest_16 : decode cX10_deepest 16 = .ok (.iconst (-1), 1) := by decide +kernel
theorem dX10_deepest_17 : decode cX10_deepest 17 = .ok (.istore_n 3, 1) := by decide +kernel
theorem dX10_deepest_18 : decode cX10_deepest 18 = .ok (.iconst 0, 1) := by decide +kernel
theorem dX10_deepest_19 : decode cX10_deepest 19 = .ok (.istore 4, 2) := by decide +kernel
theorem dX10_deepest_21 : decode cX10_deepest 21 = .ok (.iload 4, 2) := by decide +kernel
theorem dX10_deepest_23 : decode cX10_deepest 23 = .ok (.aload_n 0, 1) := by decide +kernel
theorem dX10_deepest_24 : decode cX10_deepest 24 = .ok (.getfield 50, 3) := by decide +kernel
theorem dX10_deepest_27 : decode cX10_deepest 27 = .ok (.getfield 184, 3) := by decide +kernel
theorem dX10_deepest_30 : decode cX10_deepest 30 = .ok (.if_icmp .ge 57, 3) := by decide +kernel
theorem dX10_deepest_33 : decode cX10_deepest 33 = .ok (.aload_n 0, 1) := by decide +kernel
theorem dX10_deepest_34 : decode cX10_deepest 34 = .ok (.getfield 88, 3) := by decide +kernel
theorem dX10_deepest_37 : decode cX10_deepest 37 = .ok (.iload_n 1, 1) := by decide +kernel
theorem dX10_deepest_38 : decode cX10_deepest 38 = .ok (.iload 4, 2) := by decide +kernel
theorem dX10_deepest_40 : decode cX10_deepest 40 = .ok (.invokevirtual 318, 3) := by decide +kernel
theorem dX10_deepest_43 : decode cX10_deepest 43 = .ok (.istore 5, 2) := by decide +kernel
theorem dX10_deepest_45 : decode cX10_deepest 45 = .ok (.iload 5, 2) := by decide +kernel
theorem dX10_deepest_47 : decode cX10_deepest 47 = .ok (.iconst (-1), 1) := by decide +kernel
theorem dX10_deepest_48 : decode cX10_deepest 48 = .ok (.if_icmp .eq 33, 3) := by decide +kernel
theorem dX10_deepest_51 : decode cX10_deepest 51 = .ok (.aload_n 0, 1) := by decide +kernel
theorem dX10_deepest_52 : decode cX10_deepest 52 = .ok (.getfield 50, 3) := by decide +kernel
theorem dX10_deepest_55 : decode cX10_deepest 55 = .ok (.iload 4, 2) := by decide +kernel
theorem dX10_deepest_57 : decode cX10_deepest 57 = .ok (.iload 5, 2) := by decide +kernel
theorem dX10_deepest_59 : decode cX10_deepest 59 = .ok (.invokevirtual 255, 3) := by decide +kernel
theorem dX10_deepest_62 : decode cX10_deepest 62 = .ok (.iload_n 3, 1) := by decide +kernel
theorem dX10_deepest_63 : decode cX10_deepest 63 = .ok (.if_icmp .le 18, 3) := by decide +kernel
theorem dX10_deepest_66 : decode cX10_deepest 66 = .ok (.iload 4, 2) := by decide +kernel
theorem dX10_deepest_68 : decode cX10_deepest 68 = .ok (.istore_n 2, 1) := by decide +kernel
theorem dX10_deepest_69 : decode cX10_deepest 69 = .ok (.aload_n 0, 1) := by decide +kernel
theorem dX10_deepest_70 : decode cX10_deepest 70 = .ok (.getfield 50, 3) := by decide +kernel
theorem dX10_deepest_73 : decode cX10_deepest 73 = .ok (.iload 4, 2) := by decide +kernel
theorem dX10_deepest_75 : decode cX10_deepest 75 = .ok (.iload 5, 2) := by decide +kernel
theorem dX10_deepest_77 : decode cX10_deepest 77 = .ok (.invokevirtual 255, 3) := by decide +kernel
theorem dX10_deepest_80 : decode cX10_deepest 80 = .ok (.istore_n 3, 1) := by decide +kernel
theorem dX10_deepest_81 : decode cX10_deepest 81 = .ok (.iinc 4 1, 3) := by decide +kernel
theorem dX10_deepest_84 : decode cX10_deepest 84 = .ok (.goto (-63), 3) := by decide +kernel
theorem dX10_deepest_87 : decode cX10_deepest 87 = .ok (.aload_n 0, 1) := by decide +kernel
theorem dX10_deepest_88 : decode cX10_deepest 88 = .ok (.iload_n 2, 1) := by decide +kernel
theorem dX10_deepest_89 : decode cX10_deepest 89 = .ok (.invokevirtual 187, 3) := by decide +kernel
theorem dX10_deepest_92 : decode cX10_deepest 92 = .ok (.ireturn, 1) := by decide +kernel
theorem dX0_inBoth_0 : decode cX0_inBoth 0 = .ok (.iconst 0, 1) := by decide +kernel
theorem dX0_inBoth_1 : decode cX0_inBoth 1 = .ok (.istore_n 3, 1) := by decide +kernel
theorem dX0_inBoth_2 : decode cX0_inBoth 2 = .ok (.iconst 0, 1) := by decide +kernel
theorem dX0_inBoth_3 : decode cX0_inBoth 3 = .ok (.istore 4, 2) := by decide +kernel
theorem dX0_inBoth_5 : decode cX0_inBoth 5 = .ok (.iload 4, 2) := by decide +kernel
theorem dX0_inBoth_7 : decode cX0_inBoth 7 = .ok (.aload_n 0, 1) := by decide +kernel
theorem dX0_inBoth_8 : decode cX0_inBoth 8 = .ok (.getfield 39, 3) := by decide +kernel
theorem dX0_inBoth_11 : decode cX0_inBoth 11 = .ok (.if_icmp .ge 34, 3) := by decide +kernel
theorem dX0_inBoth_14 : decode cX0_inBoth 14 = .ok (.aload_n 0, 1) := by decide +kernel
theorem dX0_inBoth_15 : decode cX0_inBoth 15 = .ok (.iload 4, 2) := by decide +kernel
theorem dX0_inBoth_17 : decode cX0_inBoth 17 = .ok (.iload_n 1, 1) := by decide +kernel
theorem dX0_inBoth_18 : decode cX0_inBoth 18 = .ok (.invokevirtual 121, 3) := by decide +kernel
theorem dX0_inBoth_21 : decode cX0_inBoth 21 = .ok (.iconst (-1), 1) := by decide +kernel
theorem dX0_inBoth_22 : decode cX0_inBoth 22 = .ok (.if_icmp .eq 17, 3) := by decide +kernel
theorem dX0_inBoth_25 : decode cX0_inBoth 25 = .ok (.aload_n 0, 1) := by decide +kernel
theorem dX0_inBoth_26 : decode cX0_inBoth 26 = .ok (.iload 4, 2) := by decide +kernel
theorem dX0_inBoth_28 : decode cX0_inBoth 28 = .ok (.iload_n 2, 1) := by decide +kernel
theorem dX0_inBoth_29 : decode cX0_inBoth 29 = .ok (.invokevirtual 121, 3) := by decide +kernel
theorem dX0_inBoth_32 : decode cX0_inBoth 32 = .ok (.iconst (-1), 1) := by decide +kernel
theorem dX0_inBoth_33 : decode cX0_inBoth 33 = .ok (.if_icmp .eq 6, 3) := by decide +kernel
theorem dX0_inBoth_36 : decode cX0_inBoth 36 = .ok (.iinc 3 1, 3) := by decide +kernel
theorem dX0_inBoth_39 : decode cX0_inBoth 39 = .ok (.iinc 4 1, 3) := by decide +kernel
theorem dX0_inBoth_42 : decode cX0_inBoth 42 = .ok (.goto (-37), 3) := by decide +kernel
theorem dX0_inBoth_45 : decode cX0_inBoth 45 = .ok (.iload_n 3, 1) := by decide +kernel
theorem dX0_inBoth_46 : decode cX0_inBoth 46 = .ok (.ireturn, 1) := by decide +kernel
theorem dX10_shared_0 : decode cX10_shared 0 = .ok (.aload_n 0, 1) := by decide +kernel
theorem dX10_shared_1 : decode cX10_shared 1 = .ok (.getfield 50, 3) := by decide +kernel
theorem dX10_shared_4 : decode cX10_shared 4 = .ok (.iload_n 1, 1) := by decide +kernel
theorem dX10_shared_5 : decode cX10_shared 5 = .ok (.invokevirtual 225, 3) := by decide +kernel
theorem dX10_shared_8 : decode cX10_shared 8 = .ok (.ifCond .eq 19, 3) := by decide +kernel
theorem dX10_shared_11 : decode cX10_shared 11 = .ok (.aload_n 0, 1) := by decide +kernel
theorem dX10_shared_12 : decode cX10_shared 12 = .ok (.getfield 50, 3) := by decide +kernel
theorem dX10_shared_15 : decode cX10_shared 15 = .ok (.iload_n 2, 1) := by decide +kernel
theorem dX10_shared_16 : decode cX10_shared 16 = .ok (.invokevirtual 225, 3) := by decide +kernel
theorem dX10_shared_19 : decode cX10_shared 19 = .ok (.ifCond .eq 8, 3) := by decide +kernel
theorem dX10_shared_22 : decode cX10_shared 22 = .ok (.iload_n 1, 1) := by decide +kernel
theorem dX10_shared_23 : decode cX10_shared 23 = .ok (.iload_n 2, 1) := by decide +kernel
theorem dX10_shared_24 : decode cX10_shared 24 = .ok (.if_icmp .ne 9, 3) := by decide +kernel
theorem dX10_shared_27 : decode cX10_shared 27 = .ok (.aload_n 0, 1) := by decide +kernel
theorem dX10_shared_28 : decode cX10_shared 28 = .ok (.iconst 1, 1) := by decide +kernel
theorem dX10_shared_29 : decode cX10_shared 29 = .ok (.invokevirtual 137, 3) := by decide +kernel
theorem dX10_shared_32 : decode cX10_shared 32 = .ok (.ireturn, 1) := by decide +kernel
theorem dX10_shared_33 : decode cX10_shared 33 = .ok (.aload_n 0, 1) := by decide +kernel
theorem dX10_shared_34 : decode cX10_shared 34 = .ok (.getfield 88, 3) := by decide +kernel
theorem dX10_shared_37 : decode cX10_shared 37 = .ok (.aload_n 0, 1) := by decide +kernel
theorem dX10_shared_38 : decode cX10_shared 38 = .ok (.getfield 50, 3) := by decide +kernel
theorem dX10_shared_41 : decode cX10_shared 41 = .ok (.invokevirtual 287, 3) := by decide +kernel
theorem dX10_shared_44 : decode cX10_shared 44 = .ok (.aload_n 0, 1) := by decide +kernel
theorem dX10_shared_45 : decode cX10_shared 45 = .ok (.aload_n 0, 1) := by decide +kernel
theorem dX10_shared_46 : decode cX10_shared 46 = .ok (.getfield 88, 3) := by decide +kernel
theorem dX10_shared_49 : decode cX10_shared 49 = .ok (.iload_n 1, 1) := by decide +kernel
theorem dX10_shared_50 : decode cX10_shared 50 = .ok (.iload_n 2, 1) := by decide +kernel
theorem dX10_shared_51 : decode cX10_shared 51 = .ok (.invokevirtual 384, 3) := by decide +kernel
theorem dX10_shared_54 : decode cX10_shared 54 = .ok (.invokevirtual 187, 3) := by decide +kernel
theorem dX10_shared_57 : decode cX10_shared 57 = .ok (.ireturn, 1) := by decide +kernel
theorem dX0_isBetween_0 : decode cX0_isBetween 0 = .ok (.iconst 0, 1) := by decide +kernel
theorem dX0_isBetween_1 : decode cX0_isBetween 1 = .ok (.istore_n 3, 1) := by decide +kernel
theorem dX0_isBetween_2 : decode cX0_isBetween 2 = .ok (.iconst 0, 1) := by decide +kernel
theorem dX0_isBetween_3 : decode cX0_isBetween 3 = .ok (.istore 4, 2) := by decide +kernel
theorem dX0_isBetween_5 : decode cX0_isBetween 5 = .ok (.iconst 0, 1) := by decide +kernel
theorem dX0_isBetween_6 : decode cX0_isBetween 6 = .ok (.istore 5, 2) := by decide +kernel
theorem dX0_isBetween_8 : decode cX0_isBetween 8 = .ok (.iload 5, 2) := by decide +kernel
theorem dX0_isBetween_10 : decode cX0_isBetween 10 = .ok (.aload_n 0, 1) := by decide +kernel
theorem dX0_isBetween_11 : decode cX0_isBetween 11 = .ok (.getfield 39, 3) := by decide +kernel
theorem dX0_isBetween_14 : decode cX0_isBetween 14 = .ok (.if_icmp .ge 62, 3) := by decide +kernel
theorem dX0_isBetween_17 : decode cX0_isBetween 17 = .ok (.aload_n 0, 1) := by decide +kernel
theorem dX0_isBetween_18 : decode cX0_isBetween 18 = .ok (.iload 5, 2) := by decide +kernel
theorem dX0_isBetween_20 : decode cX0_isBetween 20 = .ok (.iload_n 2, 1) := by decide +kernel
theorem dX0_isBetween_21 : decode cX0_isBetween 21 = .ok (.invokevirtual 121, 3) := by decide +kernel
theorem dX0_isBetween_24 : decode cX0_isBetween 24 = .ok (.iconst (-1), 1) := by decide +kernel
theorem dX0_isBetween_25 : decode cX0_isBetween 25 = .ok (.if_icmp .eq 45, 3) := by decide +kernel
theorem dX0_isBetween_28 : decode cX0_isBetween 28 = .ok (.iload_n 3, 1) := by decide +kernel
theorem dX0_isBetween_29 : decode cX0_isBetween 29 = .ok (.ifCond .ne 13, 3) := by decide +kernel
theorem dX0_isBetween_32 : decode cX0_isBetween 32 = .ok (.aload_n 0, 1) := by decide +kernel
theorem dX0_isBetween_33 : decode cX0_isBetween 33 = .ok (.iload 5, 2) := by decide +kernel
theorem dX0_isBetween_35 : decode cX0_isBetween 35 = .ok (.iload_n 1, 1) := by decide +kernel
theorem dX0_isBetween_36 : decode cX0_isBetween 36 = .ok (.invokevirtual 144, 3) := by decide +kernel
theorem dX0_isBetween_39 : decode cX0_isBetween 39 = .ok (.ifCond .eq 7, 3) := by decide +kernel
theorem dX0_isBetween_42 : decode cX0_isBetween 42 = .ok (.iconst 1, 1) := by decide +kernel
theorem dX0_isBetween_43 : decode cX0_isBetween 43 = .ok (.goto 4, 3) := by decide +kernel
theorem dX0_isBetween_46 : decode cX0_isBetween 46 = .ok (.iconst 0, 1) := by decide +kernel
theorem dX0_isBetween_47 : decode cX0_isBetween 47 = .ok (.istore_n 3, 1) := by decide +kernel
theorem dX0_isBetween_48 : decode cX0_isBetween 48 = .ok (.iload 4, 2) := by decide +kernel
theorem dX0_isBetween_50 : decode cX0_isBetween 50 = .ok (.ifCond .ne 13, 3) := by decide +kernel
theorem dX0_isBetween_53 : decode cX0_isBetween 53 = .ok (.aload_n 0, 1) := by decide +kernel
theorem dX0_isBetween_54 : decode cX0_isBetween 54 = .ok (.iload_n 1, 1) := by decide +kernel
theorem dX0_isBetween_55 : decode cX0_isBetween 55 = .ok (.iload 5, 2) := by decide +kernel
theorem dX0_isBetween_57 : decode cX0_isBetween 57 = .ok (.invokevirtual 144, 3) := by decide +kernel
theorem dX0_isBetween_60 : decode cX0_isBetween 60 = .ok (.ifCond .eq 7, 3) := by decide +kernel
theorem dX0_isBetween_63 : decode cX0_isBetween 63 = .ok (.iconst 1, 1) := by decide +kernel
theorem dX0_isBetween_64 : decode cX0_isBetween 64 = .ok (.goto 4, 3) := by decide +kernel
theorem dX0_isBetween_67 : decode cX0_isBetween 67 = .ok (.iconst 0, 1) := by decide +kernel
theorem dX0_isBetween_68 : decode cX0_isBetween 68 = .ok (.istore 4, 2) := by decide +kernel
theorem dX0_isBetween_70 : decode cX0_isBetween 70 = .ok (.iinc 5 1, 3) := by decide +kernel
theorem dX0_isBetween_73 : decode cX0_isBetween 73 = .ok (.goto (-65), 3) := by decide +kernel
theorem dX0_isBetween_76 : decode cX0_isBetween 76 = .ok (.iload_n 3, 1) := by decide +kernel
theorem dX0_isBetween_77 : decode cX0_isBetween 77 = .ok (.ifCond .eq 12, 3) := by decide +kernel
theorem dX0_isBetween_80 : decode cX0_isBetween 80 = .ok (.iload 4, 2) := by decide +kernel
theorem dX0_isBetween_82 : decode cX0_isBetween 82 = .ok (.ifCond .eq 7, 3) := by decide +kernel
theorem dX0_isBetween_85 : decode cX0_isBetween 85 = .ok (.iconst 1, 1) := by decide +kernel
theorem dX0_isBetween_86 : decode cX0_isBetween 86 = .ok (.goto 4, 3) := by decide +kernel
theorem dX0_isBetween_89 : decode cX0_isBetween 89 = .ok (.iconst 0, 1) := by decide +kernel
theorem dX0_isBetween_90 : decode cX0_isBetween 90 = .ok (.ireturn, 1) := by decide +kernel
theorem dX0_gapsIn_0 : decode cX0_gapsIn 0 = .ok (.iconst 0, 1) := by decide +kernel
theorem dX0_gapsIn_1 : decode cX0_gapsIn 1 = .ok (.istore_n 2, 1) := by decide +kernel
theorem dX0_gapsIn_2 : decode cX0_gapsIn 2 = .ok (.iconst 0, 1) := by decide +kernel
theorem dX0_gapsIn_3 : decode cX0_gapsIn 3 = .ok (.istore_n 3, 1) := by decide +kernel
theorem dX0_gapsIn_4 : decode cX0_gapsIn 4 = .ok (.iload_n 3, 1) := by decide +kernel
theorem dX0_gapsIn_5 : decode cX0_gapsIn 5 = .ok (.aload_n 0, 1) := by decide +kernel
theorem dX0_gapsIn_6 : decode cX0_gapsIn 6 = .ok (.getfield 39, 3) := by decide +kernel
theorem dX0_gapsIn_9 : decode cX0_gapsIn 9 = .ok (.if_icmp .ge 31, 3) := by decide +kernel
theorem dX0_gapsIn_12 : decode cX0_gapsIn 12 = .ok (.aload_n 0, 1) := by decide +kernel
theorem dX0_gapsIn_13 : decode cX0_gapsIn 13 = .ok (.iload_n 3, 1) := by decide +kernel
theorem dX0_gapsIn_14 : decode cX0_gapsIn 14 = .ok (.iload_n 1, 1) := by decide +kernel
theorem dX0_gapsIn_15 : decode cX0_gapsIn 15 = .ok (.invokevirtual 121, 3) := by decide +kernel
theorem dX0_gapsIn_18 : decode cX0_gapsIn 18 = .ok (.iconst (-1), 1) := by decide +kernel
theorem dX0_gapsIn_19 : decode cX0_gapsIn 19 = .ok (.if_icmp .ne 15, 3) := by decide +kernel
theorem dX0_gapsIn_22 : decode cX0_gapsIn 22 = .ok (.aload_n 0, 1) := by decide +kernel
theorem dX0_gapsIn_23 : decode cX0_gapsIn 23 = .ok (.iload_n 3, 1) := by decide +kernel
theorem dX0_gapsIn_24 : decode cX0_gapsIn 24 = .ok (.iload_n 1, 1) := by decide +kernel
theorem dX0_gapsIn_25 : decode cX0_gapsIn 25 = .ok (.invokevirtual 148, 3) := by decide +kernel
theorem dX0_gapsIn_28 : decode cX0_gapsIn 28 = .ok (.ifCond .eq 6, 3) := by decide +kernel
theorem dX0_gapsIn_31 : decode cX0_gapsIn 31 = .ok (.iinc 2 1, 3) := by decide +kernel
theorem dX0_gapsIn_34 : decode cX0_gapsIn 34 = .ok (.iinc 3 1, 3) := by decide +kernel
theorem dX0_gapsIn_37 : decode cX0_gapsIn 37 = .ok (.goto (-33), 3) := by decide +kernel
theorem dX0_gapsIn_40 : decode cX0_gapsIn 40 = .ok (.iload_n 2, 1) := by decide +kernel
theorem dX0_gapsIn_41 : decode cX0_gapsIn 41 = .ok (.ireturn, 1) := by decide +kernel
theorem dX10_gaps_0 : decode cX10_gaps 0 = .ok (.aload_n 0, 1) := by decide +kernel
theorem dX10_gaps_1 : decode cX10_gaps 1 = .ok (.getfield 50, 3) := by decide +kernel
theorem dX10_gaps_4 : decode cX10_gaps 4 = .ok (.iload_n 1, 1) := by decide +kernel
theorem dX10_gaps_5 : decode cX10_gaps 5 = .ok (.invokevirtual 225, 3) := by decide +kernel
theorem dX10_gaps_8 : decode cX10_gaps 8 = .ok (.ifCond .ne 9, 3) := by decide +kernel
theorem dX10_gaps_11 : decode cX10_gaps 11 = .ok (.aload_n 0, 1) := by decide +kernel
theorem dX10_gaps_12 : decode cX10_gaps 12 = .ok (.iconst 1, 1) := by decide +kernel
theorem dX10_gaps_13 : decode cX10_gaps 13 = .ok (.invokevirtual 137, 3) := by decide +kernel
theorem dX10_gaps_16 : decode cX10_gaps 16 = .ok (.ireturn, 1) := by decide +kernel
theorem dX10_gaps_17 : decode cX10_gaps 17 = .ok (.aload_n 0, 1) := by decide +kernel
theorem dX10_gaps_18 : decode cX10_gaps 18 = .ok (.getfield 88, 3) := by decide +kernel
theorem dX10_gaps_21 : decode cX10_gaps 21 = .ok (.aload_n 0, 1) := by decide +kernel
theorem dX10_gaps_22 : decode cX10_gaps 22 = .ok (.getfield 50, 3) := by decide +kernel
theorem dX10_gaps_25 : decode cX10_gaps 25 = .ok (.invokevirtual 287, 3) := by decide +kernel
theorem dX10_gaps_28 : decode cX10_gaps 28 = .ok (.aload_n 0, 1) := by decide +kernel
theorem dX10_gaps_29 : decode cX10_gaps 29 = .ok (.aload_n 0, 1) := by decide +kernel
theorem dX10_gaps_30 : decode cX10_gaps 30 = .ok (.getfield 88, 3) := by decide +kernel
theorem dX10_gaps_33 : decode cX10_gaps 33 = .ok (.iload_n 1, 1) := by decide +kernel
theorem dX10_gaps_34 : decode cX10_gaps 34 = .ok (.invokevirtual 387, 3) := by decide +kernel
theorem dX10_gaps_37 : decode cX10_gaps 37 = .ok (.invokevirtual 187, 3) := by decide +kernel
theorem dX10_gaps_40 : decode cX10_gaps 40 = .ok (.ireturn, 1) := by decide +kernel
theorem dX4_unfold_0 : decode cX4_unfold 0 = .ok (.iconst 0, 1) := by decide +kernel
theorem dX4_unfold_1 : decode cX4_unfold 1 = .ok (.istore_n 3, 1) := by decide +kernel
theorem dX4_unfold_2 : decode cX4_unfold 2 = .ok (.iconst 0, 1) := by decide +kernel
theorem dX4_unfold_3 : decode cX4_unfold 3 = .ok (.istore 4, 2) := by decide +kernel
theorem dX4_unfold_5 : decode cX4_unfold 5 = .ok (.iload 4, 2) := by decide +kernel
theorem dX4_unfold_7 : decode cX4_unfold 7 = .ok (.aload_n 1, 1) := by decide +kernel
theorem dX4_unfold_8 : decode cX4_unfold 8 = .ok (.getfield 34, 3) := by decide +kernel
theorem dX4_unfold_11 : decode cX4_unfold 11 = .ok (.iload_n 2, 1) := by decide +kernel
theorem dX4_unfold_12 : decode cX4_unfold 12 = .ok (.iaload, 1) := by decide +kernel
theorem dX4_unfold_13 : decode cX4_unfold 13 = .ok (.if_icmp .ge 59, 3) := by decide +kernel
theorem dX4_unfold_16 : decode cX4_unfold 16 = .ok (.iload_n 3, 1) := by decide +kernel
theorem dX4_unfold_17 : decode cX4_unfold 17 = .ok (.aload_n 1, 1) := by decide +kernel
theorem dX4_unfold_18 : decode cX4_unfold 18 = .ok (.getfield 39, 3) := by decide +kernel
theorem dX4_unfold_21 : decode cX4_unfold 21 = .ok (.iload_n 2, 1) := by decide +kernel
theorem dX4_unfold_22 : decode cX4_unfold 22 = .ok (.iload 4, 2) := by decide +kernel
theorem dX4_unfold_24 : decode cX4_unfold 24 = .ok (.invokestatic 42, 3) := by decide +kernel
theorem dX4_unfold_27 : decode cX4_unfold 27 = .ok (.iaload, 1) := by decide +kernel
theorem dX4_unfold_28 : decode cX4_unfold 28 = .ok (.iadd, 1) := by decide +kernel
theorem dX4_unfold_29 : decode cX4_unfold 29 = .ok (.istore 5, 2) := by decide +kernel
theorem dX4_unfold_31 : decode cX4_unfold 31 = .ok (.iload_n 3, 1) := by decide +kernel
theorem dX4_unfold_32 : decode cX4_unfold 32 = .ok (.iload 5, 2) := by decide +kernel
theorem dX4_unfold_34 : decode cX4_unfold 34 = .ok (.if_icmp .ge 32, 3) := by decide +kernel
theorem dX4_unfold_37 : decode cX4_unfold 37 = .ok (.iload_n 3, 1) := by decide +kernel
theorem dX4_unfold_38 : decode cX4_unfold 38 = .ok (.bipush 80, 2) := by decide +kernel
theorem dX4_unfold_40 : decode cX4_unfold 40 = .ok (.if_icmp .ge 26, 3) := by decide +kernel
theorem dX4_unfold_43 : decode cX4_unfold 43 = .ok (.aload_n 0, 1) := by decide +kernel
theorem dX4_unfold_44 : decode cX4_unfold 44 = .ok (.getfield 19, 3) := by decide +kernel
theorem dX4_unfold_47 : decode cX4_unfold 47 = .ok (.iload_n 3, 1) := by decide +kernel
theorem dX4_unfold_48 : decode cX4_unfold 48 = .ok (.aload_n 1, 1) := by decide +kernel
theorem dX4_unfold_49 : decode cX4_unfold 49 = .ok (.getfield 46, 3) := by decide +kernel
theorem dX4_unfold_52 : decode cX4_unfold 52 = .ok (.iload_n 2, 1) := by decide +kernel
theorem dX4_unfold_53 : decode cX4_unfold 53 = .ok (.iload 4, 2) := by decide +kernel
theorem dX4_unfold_55 : decode cX4_unfold 55 = .ok (.invokestatic 42, 3) := by decide +kernel
theorem dX4_unfold_58 : decode cX4_unfold 58 = .ok (.iaload, 1) := by decide +kernel
theorem dX4_unfold_59 : decode cX4_unfold 59 = .ok (.iastore, 1) := by decide +kernel
theorem dX4_unfold_60 : decode cX4_unfold 60 = .ok (.iinc 3 1, 3) := by decide +kernel
theorem dX4_unfold_63 : decode cX4_unfold 63 = .ok (.goto (-32), 3) := by decide +kernel
theorem dX4_unfold_66 : decode cX4_unfold 66 = .ok (.iinc 4 1, 3) := by decide +kernel
theorem dX4_unfold_69 : decode cX4_unfold 69 = .ok (.goto (-64), 3) := by decide +kernel
theorem dX4_unfold_72 : decode cX4_unfold 72 = .ok (.iload_n 3, 1) := by decide +kernel
theorem dX4_unfold_73 : decode cX4_unfold 73 = .ok (.bipush 80, 2) := by decide +kernel
theorem dX4_unfold_75 : decode cX4_unfold 75 = .ok (.if_icmp .ge 17, 3) := by decide +kernel
theorem dX4_unfold_78 : decode cX4_unfold 78 = .ok (.aload_n 0, 1) := by decide +kernel
theorem dX4_unfold_79 : decode cX4_unfold 79 = .ok (.getfield 19, 3) := by decide +kernel
theorem dX4_unfold_82 : decode cX4_unfold 82 = .ok (.iload_n 3, 1) := by decide +kernel
theorem dX4_unfold_83 : decode cX4_unfold 83 = .ok (.bipush (-2), 2) := by decide +kernel
theorem dX4_unfold_85 : decode cX4_unfold 85 = .ok (.iastore, 1) := by decide +kernel
theorem dX4_unfold_86 : decode cX4_unfold 86 = .ok (.iinc 3 1, 3) := by decide +kernel
theorem dX4_unfold_89 : decode cX4_unfold 89 = .ok (.goto (-17), 3) := by decide +kernel
theorem dX4_unfold_92 : decode cX4_unfold 92 = .ok (.return_, 1) := by decide +kernel
theorem dX4_draw_0 : decode cX4_draw 0 = .ok (.aload_n 0, 1) := by decide +kernel
theorem dX4_draw_1 : decode cX4_draw 1 = .ok (.aload_n 2, 1) := by decide +kernel
theorem dX4_draw_2 : decode cX4_draw 2 = .ok (.iload_n 3, 1) := by decide +kernel
theorem dX4_draw_3 : decode cX4_draw 3 = .ok (.invokevirtual 49, 3) := by decide +kernel
theorem dX4_draw_6 : decode cX4_draw 6 = .ok (.iconst 0, 1) := by decide +kernel
theorem dX4_draw_7 : decode cX4_draw 7 = .ok (.istore 4, 2) := by decide +kernel
theorem dX4_draw_9 : decode cX4_draw 9 = .ok (.iload 4, 2) := by decide +kernel
theorem dX4_draw_11 : decode cX4_draw 11 = .ok (.aload_n 1, 1) := by decide +kernel
theorem dX4_draw_12 : decode cX4_draw 12 = .ok (.getfield 53, 3) := by decide +kernel
theorem dX4_draw_15 : decode cX4_draw 15 = .ok (.if_icmp .ge 35, 3) := by decide +kernel
theorem dX4_draw_18 : decode cX4_draw 18 = .ok (.aload_n 0, 1) := by decide +kernel
theorem dX4_draw_19 : decode cX4_draw 19 = .ok (.getfield 19, 3) := by decide +kernel
theorem dX4_draw_22 : decode cX4_draw 22 = .ok (.iload 4, 2) := by decide +kernel
theorem dX4_draw_24 : decode cX4_draw 24 = .ok (.iaload, 1) := by decide +kernel
theorem dX4_draw_25 : decode cX4_draw 25 = .ok (.bipush (-2), 2) := by decide +kernel
theorem dX4_draw_27 : decode cX4_draw 27 = .ok (.if_icmp .eq 23, 3) := by decide +kernel
theorem dX4_draw_30 : decode cX4_draw 30 = .ok (.aload_n 1, 1) := by decide +kernel
theorem dX4_draw_31 : decode cX4_draw 31 = .ok (.iload 4, 2) := by decide +kernel
theorem dX4_draw_33 : decode cX4_draw 33 = .ok (.aload_n 0, 1) := by decide +kernel
theorem dX4_draw_34 : decode cX4_draw 34 = .ok (.getfield 19, 3) := by decide +kernel
theorem dX4_draw_37 : decode cX4_draw 37 = .ok (.iload 4, 2) := by decide +kernel
theorem dX4_draw_39 : decode cX4_draw 39 = .ok (.iaload, 1) := by decide +kernel
theorem dX4_draw_40 : decode cX4_draw 40 = .ok (.i2l, 1) := by decide +kernel
theorem dX4_draw_41 : decode cX4_draw 41 = .ok (.invokevirtual 56, 3) := by decide +kernel
theorem dX4_draw_44 : decode cX4_draw 44 = .ok (.iinc 4 1, 3) := by decide +kernel
theorem dX4_draw_47 : decode cX4_draw 47 = .ok (.goto (-38), 3) := by decide +kernel
theorem dX4_draw_50 : decode cX4_draw 50 = .ok (.iload 4, 2) := by decide +kernel
theorem dX4_draw_52 : decode cX4_draw 52 = .ok (.ireturn, 1) := by decide +kernel
theorem dX10_draws_0 : decode cX10_draws 0 = .ok (.aload_n 0, 1) := by decide +kernel
theorem dX10_draws_1 : decode cX10_draws 1 = .ok (.getfield 50, 3) := by decide +kernel
theorem dX10_draws_4 : decode cX10_draws 4 = .ok (.iload_n 1, 1) := by decide +kernel
theorem dX10_draws_5 : decode cX10_draws 5 = .ok (.invokevirtual 225, 3) := by decide +kernel
theorem dX10_draws_8 : decode cX10_draws 8 = .ok (.ifCond .eq 10, 3) := by decide +kernel
theorem dX10_draws_11 : decode cX10_draws 11 = .ok (.iload_n 2, 1) := by decide +kernel
theorem dX10_draws_12 : decode cX10_draws 12 = .ok (.invokestatic 110, 3) := by decide +kernel
theorem dX10_draws_15 : decode cX10_draws 15 = .ok (.ifCond .ne 9, 3) := by decide +kernel
theorem dX10_draws_18 : decode cX10_draws 18 = .ok (.aload_n 0, 1) := by decide +kernel
theorem dX10_draws_19 : decode cX10_draws 19 = .ok (.iconst 1, 1) := by decide +kernel
theorem dX10_draws_20 : decode cX10_draws 20 = .ok (.invokevirtual 137, 3) := by decide +kernel
theorem dX10_draws_23 : decode cX10_draws 23 = .ok (.ireturn, 1) := by decide +kernel
theorem dX10_draws_24 : decode cX10_draws 24 = .ok (.aload_n 0, 1) := by decide +kernel
theorem dX10_draws_25 : decode cX10_draws 25 = .ok (.getfield 22, 3) := by decide +kernel
theorem dX10_draws_28 : decode cX10_draws 28 = .ok (.iload_n 2, 1) := by decide +kernel
theorem dX10_draws_29 : decode cX10_draws 29 = .ok (.aaload, 1) := by decide +kernel
theorem dX10_draws_30 : decode cX10_draws 30 = .ok (.invokevirtual 145, 3) := by decide +kernel
theorem dX10_draws_33 : decode cX10_draws 33 = .ok (.ifCond .eq 9, 3) := by decide +kernel
theorem dX10_draws_36 : decode cX10_draws 36 = .ok (.aload_n 0, 1) := by decide +kernel
theorem dX10_draws_37 : decode cX10_draws 37 = .ok (.iconst 2, 1) := by decide +kernel
theorem dX10_draws_38 : decode cX10_draws 38 = .ok (.invokevirtual 137, 3) := by decide +kernel
theorem dX10_draws_41 : decode cX10_draws 41 = .ok (.ireturn, 1) := by decide +kernel
theorem dX10_draws_42 : decode cX10_draws 42 = .ok (.aload_n 0, 1) := by decide +kernel
theorem dX10_draws_43 : decode cX10_draws 43 = .ok (.aload_n 0, 1) := by decide +kernel
theorem dX10_draws_44 : decode cX10_draws 44 = .ok (.getfield 95, 3) := by decide +kernel
theorem dX10_draws_47 : decode cX10_draws 47 = .ok (.aload_n 0, 1) := by decide +kernel
theorem dX10_draws_48 : decode cX10_draws 48 = .ok (.getfield 22, 3) := by decide +kernel
theorem dX10_draws_51 : decode cX10_draws 51 = .ok (.iload_n 2, 1) := by decide +kernel
theorem dX10_draws_52 : decode cX10_draws 52 = .ok (.aaload, 1) := by decide +kernel
theorem dX10_draws_53 : decode cX10_draws 53 = .ok (.aload_n 0, 1) := by decide +kernel
theorem dX10_draws_54 : decode cX10_draws 54 = .ok (.getfield 50, 3) := by decide +kernel
theorem dX10_draws_57 : decode cX10_draws 57 = .ok (.iload_n 1, 1) := by decide +kernel
theorem dX10_draws_58 : decode cX10_draws 58 = .ok (.invokevirtual 390, 3) := by decide +kernel
theorem dX10_draws_61 : decode cX10_draws 61 = .ok (.invokevirtual 187, 3) := by decide +kernel
theorem dX10_draws_64 : decode cX10_draws 64 = .ok (.ireturn, 1) := by decide +kernel
def lX2_isSplit_2 (t : Nat) (x1 : Int32) (M : Mem) : Nat → Int32 → Option Int32
  | 0, _ => none
  | n + 1, x2 =>
    if (M.1 t 13) ≤ x2 then
 some (0 : Int32)
 else
 (fX2_cornerHole t x1 (0 : Int32) M).bind fun v1 =>
 (fX2_isOnRight t x2 v1 M).bind fun v2 =>
 (fX2_cornerHole t x1 (1 : Int32) M).bind fun v3 =>
 (fX2_isOnRight t x2 v3 M).bind fun v4 =>
 if v4 = v2 then
 (fX2_cornerHole t x1 (2 : Int32) M).bind fun v5 =>
 (fX2_isOnRight t x2 v5 M).bind fun v6 =>
 if v6 = v2 then
 lX2_isSplit_2 t x1 M n (x2 + 1)
 else
 some (1 : Int32)
 else
 some (1 : Int32)
theorem lX2_isSplit_2_s (t : Nat) (x1 : Int32) (M : Mem) (n : Nat) (x2 : Int32) : lX2_isSplit_2 t x1 M (n + 1) x2 =
    if (M.1 t 13) ≤ x2 then
 some (0 : Int32)
 else
 (fX2_cornerHole t x1 (0 : Int32) M).bind fun v1 =>
 (fX2_isOnRight t x2 v1 M).bind fun v2 =>
 (fX2_cornerHole t x1 (1 : Int32) M).bind fun v3 =>
 (fX2_isOnRight t x2 v3 M).bind fun v4 =>
 if v4 = v2 then
 (fX2_cornerHole t x1 (2 : Int32) M).bind fun v5 =>
 (fX2_isOnRight t x2 v5 M).bind fun v6 =>
 if v6 = v2 then
 lX2_isSplit_2 t x1 M n (x2 + 1)
 else
 some (1 : Int32)
 else
 some (1 : Int32) := rfl
theorem lX2_isSplit_2_0 (t : Nat) (x1 : Int32) (M : Mem) (x2 : Int32) : lX2_isSplit_2 t x1 M 0 x2 = none := rfl
set_option maxRecDepth 100000 in
set_option maxHeartbeats 4000000 in
theorem wlX2_isSplit_2 {J : JT} (g : Gd J cX2_isSplit RX2) (hr : Rt J (some .boolean)) (hR : (JR J).frames = 2 ∧ (JR J).locals = 48) (hn : Jn J = 4) (t : Nat) (x1 : Int32) (M : Mem) (ht : isO 2 t) : ∀ (n : Nat) (x2 : Int32), X J (fun b : Int32 => (some (Value.int b), M)) (lX2_isSplit_2 t x1 M n x2) 2 [(0, .ref t), (1, .int x1), (2, .int x2)] [] M := by
  intro n
  induction n with
  | zero =>
    intro x2
    exact x_none
  | succ n ih =>
    intro x2
    rw [lX2_isSplit_2_s]
    exact (x_iload_n g 2 dX2_isSplit_2 rfl rfl
 (x_aload_n g 0 dX2_isSplit_3 rfl rfl
 (x_getI g fl_RX2_53 rfl ht dX2_isSplit_4
 (x_icmp_ge g 60 dX2_isSplit_7 rfl
 (fun _ => (x_iconst g dX2_isSplit_60 kI_0
 (x_iret g hr rfl rfl dX2_isSplit_61)))
 (fun _ => (x_aload_n g 0 dX2_isSplit_10 rfl rfl
 (x_iload_n g 2 dX2_isSplit_11 rfl rfl
 (x_aload_n g 0 dX2_isSplit_12 rfl rfl
 (x_iload_n g 1 dX2_isSplit_13 rfl rfl
 (x_iconst g dX2_isSplit_14 kI_0
 (x_callVip (As := [.int x1, .int (0 : Int32)]) g mv_X2_cornerHole mi_X2_cornerHole lk_RX2_120 ht (fun b hb => kX2_cornerHole t x1 (0 : Int32) M ht _ _ hb) rfl rfl hR ⟨Nat.le_of_ble_eq_true rfl, Nat.le_of_ble_eq_true rfl⟩ (Nat.le_of_ble_eq_true rfl) dX2_isSplit_15 (fun v1 =>
 (x_callVip (As := [.int x2, .int v1]) g mv_X2_isOnRight mi_X2_isOnRight lk_RX2_100 ht (fun b hb => kX2_isOnRight t x2 v1 M ht _ _ hb) rfl rfl hR ⟨Nat.le_of_ble_eq_true rfl, Nat.le_of_ble_eq_true rfl⟩ (Nat.le_of_ble_eq_true rfl) dX2_isSplit_18 (fun v2 =>
 (x_istore_n (L' := [(3, .int v2), (0, .ref t), (1, .int x1), (2, .int x2)]) g dX2_isSplit_21 rfl hn (Nat.le_of_ble_eq_true rfl) rfl
 (x_aload_n g 1 dX2_isSplit_22 rfl rfl
 (x_iload_n g 3 dX2_isSplit_23 rfl rfl
 (x_aload_n g 1 dX2_isSplit_24 rfl rfl
 (x_iload_n g 2 dX2_isSplit_25 rfl rfl
 (x_iconst g dX2_isSplit_26 kI_1
 (x_callVip (As := [.int x1, .int (1 : Int32)]) g mv_X2_cornerHole mi_X2_cornerHole lk_RX2_120 ht (fun b hb => kX2_cornerHole t x1 (1 : Int32) M ht _ _ hb) rfl rfl hR ⟨Nat.le_of_ble_eq_true rfl, Nat.le_of_ble_eq_true rfl⟩ (Nat.le_of_ble_eq_true rfl) dX2_isSplit_27 (fun v3 =>
 (x_callVip (As := [.int x2, .int v3]) g mv_X2_isOnRight mi_X2_isOnRight lk_RX2_100 ht (fun b hb => kX2_isOnRight t x2 v3 M ht _ _ hb) rfl rfl hR ⟨Nat.le_of_ble_eq_true rfl, Nat.le_of_ble_eq_true rfl⟩ (Nat.le_of_ble_eq_true rfl) dX2_isSplit_30 (fun v4 =>
 (x_iload_n g 0 dX2_isSplit_33 rfl rfl
 (x_icmp_ne g 52 dX2_isSplit_34 rfl
 (fun _ => (x_iconst g dX2_isSplit_52 kI_1
 (x_iret g hr rfl rfl dX2_isSplit_53)))
 (fun _ => (x_aload_n g 1 dX2_isSplit_37 rfl rfl
 (x_iload_n g 3 dX2_isSplit_38 rfl rfl
 (x_aload_n g 1 dX2_isSplit_39 rfl rfl
 (x_iload_n g 2 dX2_isSplit_40 rfl rfl
 (x_iconst g dX2_isSplit_41 kI_2
 (x_callVip (As := [.int x1, .int (2 : Int32)]) g mv_X2_cornerHole mi_X2_cornerHole lk_RX2_120 ht (fun b hb => kX2_cornerHole t x1 (2 : Int32) M ht _ _ hb) rfl rfl hR ⟨Nat.le_of_ble_eq_true rfl, Nat.le_of_ble_eq_true rfl⟩ (Nat.le_of_ble_eq_true rfl) dX2_isSplit_42 (fun v5 =>
 (x_callVip (As := [.int x2, .int v5]) g mv_X2_isOnRight mi_X2_isOnRight lk_RX2_100 ht (fun b hb => kX2_isOnRight t x2 v5 M ht _ _ hb) rfl rfl hR ⟨Nat.le_of_ble_eq_true rfl, Nat.le_of_ble_eq_true rfl⟩ (Nat.le_of_ble_eq_true rfl) dX2_isSplit_45 (fun v6 =>
 (x_iload_n g 0 dX2_isSplit_48 rfl rfl
 (x_icmp_eq g 54 dX2_isSplit_49 rfl
 (fun _ => (x_iinc (L' := [(2, .int (x2 + 1)), (3, .int v2), (0, .ref t), (1, .int x1)]) (v := (x2 + 1)) g 3 dX2_isSplit_54 rfl (by rw [kI_1]) hn (Nat.le_of_ble_eq_true rfl) rfl
 (x_goto g 2 dX2_isSplit_57 rfl
 (x_sub [2, 3, 0] rfl (ih (x2 + 1))))))
 (fun _ => (x_iconst g dX2_isSplit_52 kI_1
 (x_iret g hr rfl rfl dX2_isSplit_53)))))))))))))))))))))))))))))))))))))))))
def fX2_isSplit (φ : Nat) (t : Nat) (a1 : Int32) (M : Mem) : Option Int32 :=
  lX2_isSplit_2 t a1 M φ (0 : Int32)
set_option maxRecDepth 100000 in
set_option maxHeartbeats 4000000 in
theorem kX2_isSplit (φ : Nat) (t : Nat) (a1 : Int32) (M : Mem) (ht : isO 2 t) (l : Launch) (G : GT) {b : Int32} (hE : fX2_isSplit φ t a1 M = some b) : Ok l G yX2_isSplit cX2_isSplit 4 (some .boolean) 2 48 [.ref t, .int a1] M ((fun b : Int32 => (some (Value.int b), M)) b).1 ((fun b : Int32 => (some (Value.int b), M)) b).2 := by
  refine Ok.ofX (pj := (fun b : Int32 => (some (Value.int b), M))) (by decide) (Nat.le_of_ble_eq_true rfl) hE (fun J g hr hG hl hR hn => ?_)
  show X J (fun b : Int32 => (some (Value.int b), M)) (fX2_isSplit φ t a1 M) 0 [(0, .ref t), (1, .int a1)] [] M
  unfold fX2_isSplit
  exact (x_iconst g dX2_isSplit_0 kI_0
 (x_istore_n (L' := [(2, .int (0 : Int32)), (0, .ref t), (1, .int a1)]) g dX2_isSplit_1 rfl hn (Nat.le_of_ble_eq_true rfl) rfl
 (x_sub [1, 2, 0] rfl (wlX2_isSplit_2 g hr hR hn  t a1 M ht φ (0 : Int32)))))
def fX10_across (φ : Nat) (t : Nat) (a1 : Int32) (M : Mem) : Option (Int32 × Mem) :=
  (ldr 2 (M.2.2 t 7)).bind fun vr1 =>
 (fX2_isTriangle vr1 a1 M).bind fun v2 =>
 if v2 = 0 then
 bd (fX10_refuse t (1 : Int32) M) fun v7 M8 =>
 some (v7, M8)
 else
 (ldr 2 (M.2.2 t 7)).bind fun vr3 =>
 (fX2_isSplit φ vr3 a1 M).bind fun v4 =>
 bd (fX10_answerYes t v4 M) fun v5 M6 =>
 some (v5, M6)
set_option maxRecDepth 100000 in
set_option maxHeartbeats 4000000 in
theorem kX10_across (φ : Nat) (t : Nat) (a1 : Int32) (M : Mem) (ht : isO 10 t) (l : Launch) (G : GT) {b : (Int32 × Mem)} (hE : fX10_across φ t a1 M = some b) : Ok l G yX10_across cX10_across 2 (some .int) 3 71 [.ref t, .int a1] M ((fun q : Int32 × Mem => (some (Value.int q.1), q.2)) b).1 ((fun q : Int32 × Mem => (some (Value.int q.1), q.2)) b).2 := by
  refine Ok.ofX (pj := (fun q : Int32 × Mem => (some (Value.int q.1), q.2))) (by decide) (Nat.le_of_ble_eq_true rfl) hE (fun J g hr hG hl hR hn => ?_)
  show X J (fun q : Int32 × Mem => (some (Value.int q.1), q.2)) (fX10_across φ t a1 M) 0 [(0, .ref t), (1, .int a1)] [] M
  unfold fX10_across
  exact (x_aload_n g 0 dX10_across_0 rfl rfl
 (x_getD g fl_RX10_50 rfl ht dX10_across_1 (fun vr1 hvr1 =>
 (x_iload_n g 1 dX10_across_4 rfl rfl
 (x_callVip (As := [.int a1]) g mv_X2_isTriangle mi_X2_isTriangle lk_RX10_334 hvr1 (fun b hb => kX2_isTriangle vr1 a1 M hvr1 _ _ hb) rfl rfl hR ⟨Nat.le_of_ble_eq_true rfl, Nat.le_of_ble_eq_true rfl⟩ (Nat.le_of_ble_eq_true rfl) dX10_across_5 (fun v2 =>
 (x_if_ne g 17 dX10_across_8 rfl
 (fun _ => (x_aload_n g 0 dX10_across_17 rfl rfl
 (x_aload_n g 0 dX10_across_18 rfl rfl
 (x_getD g fl_RX10_50 rfl ht dX10_across_19 (fun vr3 hvr3 =>
 (x_iload_n g 1 dX10_across_22 rfl rfl
 (x_callVip (As := [.int a1]) g mv_X2_isSplit mi_X2_isSplit lk_RX10_346 hvr3 (fun b hb => kX2_isSplit φ vr3 a1 M hvr3 _ _ hb) rfl rfl hR ⟨Nat.le_of_ble_eq_true rfl, Nat.le_of_ble_eq_true rfl⟩ (Nat.le_of_ble_eq_true rfl) dX10_across_23 (fun v4 =>
 (x_callVi (As := [.int v4]) g mv_X10_answerYes mi_X10_answerYes lk_RX10_270 ht (fun b Mh_ hb => kX10_answerYes t v4 M ht _ _ hb) rfl rfl hR ⟨Nat.le_of_ble_eq_true rfl, Nat.le_of_ble_eq_true rfl⟩ (Nat.le_of_ble_eq_true rfl) dX10_across_26 (fun v5 M6 =>
 (x_iret g hr rfl rfl dX10_across_29)))))))))))
 (fun _ => (x_aload_n g 0 dX10_across_11 rfl rfl
 (x_iconst g dX10_across_12 kI_1
 (x_callVi (As := [.int (1 : Int32)]) g mv_X10_refuse mi_X10_refuse lk_RX10_137 ht (fun b Mh_ hb => kX10_refuse t (1 : Int32) M ht _ _ hb) rfl rfl hR ⟨Nat.le_of_ble_eq_true rfl, Nat.le_of_ble_eq_true rfl⟩ (Nat.le_of_ble_eq_true rfl) dX10_across_13 (fun v7 M8 =>
 (x_iret g hr rfl rfl dX10_across_16)))))))))))))
def fX10_isPoint (a1 : Int32) (a2 : Int32) (M : Mem) : Option Int32 :=
  (fX10_isWithin a1 (0 : Int32) (999 : Int32) M).bind fun v1 =>
 if v1 = 0 then
 some (0 : Int32)
 else
 (fX10_isWithin a2 (0 : Int32) (999 : Int32) M).bind fun v2 =>
 if v2 = 0 then
 some (0 : Int32)
 else
 some (1 : Int32)
set_option maxRecDepth 100000 in
set_option maxHeartbeats 4000000 in
theorem kX10_isPoint (a1 : Int32) (a2 : Int32) (M : Mem) (l : Launch) (G : GT) {b : Int32} (hE : fX10_isPoint a1 a2 M = some b) : Ok l G yX10_isPoint cX10_isPoint 2 (some .boolean) 1 22 [.int a1, .int a2] M ((fun b : Int32 => (some (Value.int b), M)) b).1 ((fun b : Int32 => (some (Value.int b), M)) b).2 := by
  refine Ok.ofX (pj := (fun b : Int32 => (some (Value.int b), M))) (by decide) (Nat.le_of_ble_eq_true rfl) hE (fun J g hr hG hl hR hn => ?_)
  show X J (fun b : Int32 => (some (Value.int b), M)) (fX10_isPoint a1 a2 M) 0 [(0, .int a1), (1, .int a2)] [] M
  unfold fX10_isPoint
  exact (x_iload_n g 0 dX10_isPoint_0 rfl rfl
 (x_iconst g dX10_isPoint_1 kI_0
 (x_sipush g dX10_isPoint_2 kS_999
 (x_callSip (As := [.int a1, .int (0 : Int32), .int (999 : Int32)]) g mv_X10_isWithin ms_X10_isWithin lk_RX10_114 (fun b hb => kX10_isWithin a1 (0 : Int32) (999 : Int32) M _ _ hb) rfl rfl hR ⟨Nat.le_of_ble_eq_true rfl, Nat.le_of_ble_eq_true rfl⟩ (Nat.le_of_ble_eq_true rfl) dX10_isPoint_5 (fun v1 =>
 (x_if_eq g 26 dX10_isPoint_8 rfl
 (fun _ => (x_iconst g dX10_isPoint_26 kI_0
 (x_iret g hr rfl rfl dX10_isPoint_27)))
 (fun _ => (x_iload_n g 1 dX10_isPoint_11 rfl rfl
 (x_iconst g dX10_isPoint_12 kI_0
 (x_sipush g dX10_isPoint_13 kS_999
 (x_callSip (As := [.int a2, .int (0 : Int32), .int (999 : Int32)]) g mv_X10_isWithin ms_X10_isWithin lk_RX10_114 (fun b hb => kX10_isWithin a2 (0 : Int32) (999 : Int32) M _ _ hb) rfl rfl hR ⟨Nat.le_of_ble_eq_true rfl, Nat.le_of_ble_eq_true rfl⟩ (Nat.le_of_ble_eq_true rfl) dX10_isPoint_16 (fun v2 =>
 (x_if_eq g 26 dX10_isPoint_19 rfl
 (fun _ => (x_iconst g dX10_isPoint_26 kI_0
 (x_iret g hr rfl rfl dX10_isPoint_27)))
 (fun _ => (x_iconst g dX10_isPoint_22 kI_1
 (x_goto g 27 dX10_isPoint_23 rfl
 (x_iret g hr rfl rfl dX10_isPoint_27)))))))))))))))))
def fX2_weight (t : Nat) (a1 : Int32) (a2 : Int32) (a3 : Int32) (a4 : Int32) (M : Mem) : Option Int32 :=
  (fX2_cornerHole t a1 ((a2 + (1 : Int32)) - (a2 + (1 : Int32)) / (3 : Int32) * (3 : Int32)) M).bind fun v1 =>
 (fX2_cornerHole t a1 ((a2 + (2 : Int32)) - (a2 + (2 : Int32)) / (3 : Int32) * (3 : Int32)) M).bind fun v2 =>
 ixk v1 6 (
 ixk v1 6 (
 ixk v2 6 (
 ixk v2 6 (
 (fX2_turnOf a3 a4 (M.1 (t + 5) v1.toNatClampNeg) (M.1 (t + 6) v1.toNatClampNeg) (M.1 (t + 5) v2.toNatClampNeg) (M.1 (t + 6) v2.toNatClampNeg) M).bind fun v3 =>
 some v3))))
set_option maxRecDepth 100000 in
set_option maxHeartbeats 4000000 in
theorem kX2_weight (t : Nat) (a1 : Int32) (a2 : Int32) (a3 : Int32) (a4 : Int32) (M : Mem) (ht : isO 2 t) (l : Launch) (G : GT) {b : Int32} (hE : fX2_weight t a1 a2 a3 a4 M = some b) : Ok l G yX2_weight cX2_weight 7 (some .int) 1 25 [.ref t, .int a1, .int a2, .int a3, .int a4] M ((fun b : Int32 => (some (Value.int b), M)) b).1 ((fun b : Int32 => (some (Value.int b), M)) b).2 := by
  refine Ok.ofX (pj := (fun b : Int32 => (some (Value.int b), M))) (by decide) (Nat.le_of_ble_eq_true rfl) hE (fun J g hr hG hl hR hn => ?_)
  show X J (fun b : Int32 => (some (Value.int b), M)) (fX2_weight t a1 a2 a3 a4 M) 0 [(0, .ref t), (1, .int a1), (2, .int a2), (3, .int a3), (4, .int a4)] [] M
  unfold fX2_weight
  exact (x_aload_n g 0 dX2_weight_0 rfl rfl
 (x_iload_n g 1 dX2_weight_1 rfl rfl
 (x_iload_n g 2 dX2_weight_2 rfl rfl
 (x_iconst g dX2_weight_3 kI_1
 (x_iadd g dX2_weight_4
 (x_iconst g dX2_weight_5 kI_3
 (x_irem g dX2_weight_6 (by decide)
 (x_callVip (As := [.int a1, .int ((a2 + (1 : Int32)) - (a2 + (1 : Int32)) / (3 : Int32) * (3 : Int32))]) g mv_X2_cornerHole mi_X2_cornerHole lk_RX2_120 ht (fun b hb => kX2_cornerHole t a1 ((a2 + (1 : Int32)) - (a2 + (1 : Int32)) / (3 : Int32) * (3 : Int32)) M ht _ _ hb) rfl rfl hR ⟨Nat.le_of_ble_eq_true rfl, Nat.le_of_ble_eq_true rfl⟩ (Nat.le_of_ble_eq_true rfl) dX2_weight_7 (fun v1 =>
 (x_istore (L' := [(5, .int v1), (0, .ref t), (1, .int a1), (2, .int a2), (3, .int a3), (4, .int a4)]) g dX2_weight_10 hn (Nat.le_of_ble_eq_true rfl) rfl
 (x_aload_n g 1 dX2_weight_12 rfl rfl
 (x_iload_n g 2 dX2_weight_13 rfl rfl
 (x_iload_n g 3 dX2_weight_14 rfl rfl
 (x_iconst g dX2_weight_15 kI_2
 (x_iadd g dX2_weight_16
 (x_iconst g dX2_weight_17 kI_3
 (x_irem g dX2_weight_18 (by decide)
 (x_callVip (As := [.int a1, .int ((a2 + (2 : Int32)) - (a2 + (2 : Int32)) / (3 : Int32) * (3 : Int32))]) g mv_X2_cornerHole mi_X2_cornerHole lk_RX2_120 ht (fun b hb => kX2_cornerHole t a1 ((a2 + (2 : Int32)) - (a2 + (2 : Int32)) / (3 : Int32) * (3 : Int32)) M ht _ _ hb) rfl rfl hR ⟨Nat.le_of_ble_eq_true rfl, Nat.le_of_ble_eq_true rfl⟩ (Nat.le_of_ble_eq_true rfl) dX2_weight_19 (fun v2 =>
 (x_istore (L' := [(6, .int v2), (5, .int v1), (0, .ref t), (1, .int a1), (2, .int a2), (3, .int a3), (4, .int a4)]) g dX2_weight_22 hn (Nat.le_of_ble_eq_true rfl) rfl
 (x_iload_n g 5 dX2_weight_24 rfl rfl
 (x_iload g 6 dX2_weight_25 rfl
 (x_aload_n g 2 dX2_weight_27 rfl rfl
 (x_getS g 5 fl_RX2_32 rfl ht dX2_weight_28
 (x_iload g 1 dX2_weight_31 rfl
 (x_iald g (so_2_6 ht) dX2_weight_33
 (x_aload_n g 2 dX2_weight_34 rfl rfl
 (x_getS g 6 fl_RX2_35 rfl ht dX2_weight_35
 (x_iload g 1 dX2_weight_38 rfl
 (x_iald g (so_2_7 ht) dX2_weight_40
 (x_aload_n g 2 dX2_weight_41 rfl rfl
 (x_getS g 5 fl_RX2_32 rfl ht dX2_weight_42
 (x_iload g 0 dX2_weight_45 rfl
 (x_iald g (so_2_6 ht) dX2_weight_47
 (x_aload_n g 2 dX2_weight_48 rfl rfl
 (x_getS g 6 fl_RX2_35 rfl ht dX2_weight_49
 (x_iload g 0 dX2_weight_52 rfl
 (x_iald g (so_2_7 ht) dX2_weight_54
 (x_callSip (As := [.int a3, .int a4, .int (M.1 (t + 5) v1.toNatClampNeg), .int (M.1 (t + 6) v1.toNatClampNeg), .int (M.1 (t + 5) v2.toNatClampNeg), .int (M.1 (t + 6) v2.toNatClampNeg)]) g mv_X2_turnOf ms_X2_turnOf lk_RX2_116 (fun b hb => kX2_turnOf a3 a4 (M.1 (t + 5) v1.toNatClampNeg) (M.1 (t + 6) v1.toNatClampNeg) (M.1 (t + 5) v2.toNatClampNeg) (M.1 (t + 6) v2.toNatClampNeg) M _ _ hb) rfl rfl hR ⟨Nat.le_of_ble_eq_true rfl, Nat.le_of_ble_eq_true rfl⟩ (Nat.le_of_ble_eq_true rfl) dX2_weight_55 (fun v3 =>
 (x_iret g hr rfl rfl dX2_weight_58)))))))))))))))))))))))))))))))))))))))))
def lX2_isInside_18 (t : Nat) (x1 : Int32) (x2 : Int32) (x3 : Int32) (x4 : Int32) (M : Mem) : Nat → Int32 → Option Int32
  | 0, _ => none
  | n + 1, x5 =>
    if (3 : Int32) ≤ x5 then
 some (1 : Int32)
 else
 (fX2_weight t x1 x5 x2 x3 M).bind fun v4 =>
 if 0 ≤ (x4 * v4) then
 lX2_isInside_18 t x1 x2 x3 x4 M n (x5 + 1)
 else
 some (0 : Int32)
theorem lX2_isInside_18_s (t : Nat) (x1 : Int32) (x2 : Int32) (x3 : Int32) (x4 : Int32) (M : Mem) (n : Nat) (x5 : Int32) : lX2_isInside_18 t x1 x2 x3 x4 M (n + 1) x5 =
    if (3 : Int32) ≤ x5 then
 some (1 : Int32)
 else
 (fX2_weight t x1 x5 x2 x3 M).bind fun v4 =>
 if 0 ≤ (x4 * v4) then
 lX2_isInside_18 t x1 x2 x3 x4 M n (x5 + 1)
 else
 some (0 : Int32) := rfl
theorem lX2_isInside_18_0 (t : Nat) (x1 : Int32) (x2 : Int32) (x3 : Int32) (x4 : Int32) (M : Mem) (x5 : Int32) : lX2_isInside_18 t x1 x2 x3 x4 M 0 x5 = none := rfl
set_option maxRecDepth 100000 in
set_option maxHeartbeats 4000000 in
theorem wlX2_isInside_18 {J : JT} (g : Gd J cX2_isInside RX2) (hr : Rt J (some .boolean)) (hR : (JR J).frames = 3 ∧ (JR J).locals = 69) (hn : Jn J = 6) (t : Nat) (x1 : Int32) (x2 : Int32) (x3 : Int32) (x4 : Int32) (M : Mem) (ht : isO 2 t) : ∀ (n : Nat) (x5 : Int32), X J (fun b : Int32 => (some (Value.int b), M)) (lX2_isInside_18 t x1 x2 x3 x4 M n x5) 18 [(0, .ref t), (1, .int x1), (2, .int x2), (3, .int x3), (4, .int x4), (5, .int x5)] [] M := by
  intro n
  induction n with
  | zero =>
    intro x5
    exact x_none
  | succ n ih =>
    intro x5
    rw [lX2_isInside_18_s]
    exact (x_iload g 5 dX2_isInside_18 rfl
 (x_iconst g dX2_isInside_20 kI_3
 (x_icmp_ge g 47 dX2_isInside_21 rfl
 (fun _ => (x_iconst g dX2_isInside_47 kI_1
 (x_iret g hr rfl rfl dX2_isInside_48)))
 (fun _ => (x_iload g 4 dX2_isInside_24 rfl
 (x_aload_n g 0 dX2_isInside_26 rfl rfl
 (x_iload_n g 1 dX2_isInside_27 rfl rfl
 (x_iload g 5 dX2_isInside_28 rfl
 (x_iload_n g 2 dX2_isInside_30 rfl rfl
 (x_iload_n g 3 dX2_isInside_31 rfl rfl
 (x_callVip (As := [.int x1, .int x5, .int x2, .int x3]) g mv_X2_weight mi_X2_weight lk_RX2_140 ht (fun b hb => kX2_weight t x1 x5 x2 x3 M ht _ _ hb) rfl rfl hR ⟨Nat.le_of_ble_eq_true rfl, Nat.le_of_ble_eq_true rfl⟩ (Nat.le_of_ble_eq_true rfl) dX2_isInside_32 (fun v4 =>
 (x_imul g dX2_isInside_35
 (x_if_ge g 41 dX2_isInside_36 rfl
 (fun _ => (x_iinc (L' := [(5, .int (x5 + 1)), (0, .ref t), (1, .int x1), (2, .int x2), (3, .int x3), (4, .int x4)]) (v := (x5 + 1)) g 5 dX2_isInside_41 rfl (by rw [kI_1]) hn (Nat.le_of_ble_eq_true rfl) rfl
 (x_goto g 18 dX2_isInside_44 rfl
 (x_sub [1, 2, 3, 4, 5, 0] rfl (ih (x5 + 1))))))
 (fun _ => (x_iconst g dX2_isInside_39 kI_0
 (x_iret g hr rfl rfl dX2_isInside_40)))))))))))))))))
def fX2_isInside (φ : Nat) (t : Nat) (a1 : Int32) (a2 : Int32) (a3 : Int32) (M : Mem) : Option Int32 :=
  (fX2_turn t a1 M).bind fun v1 =>
 jn (fun (v2 : Int32) => lX2_isInside_18 t a1 a2 a3 v2 M φ (0 : Int32)) (fun J3 => if 0 ≤ v1 then
 J3 (1 : Int32)
 else
 J3 (-1 : Int32))
set_option maxRecDepth 100000 in
set_option maxHeartbeats 4000000 in
theorem kX2_isInside (φ : Nat) (t : Nat) (a1 : Int32) (a2 : Int32) (a3 : Int32) (M : Mem) (ht : isO 2 t) (l : Launch) (G : GT) {b : Int32} (hE : fX2_isInside φ t a1 a2 a3 M = some b) : Ok l G yX2_isInside cX2_isInside 6 (some .boolean) 3 69 [.ref t, .int a1, .int a2, .int a3] M ((fun b : Int32 => (some (Value.int b), M)) b).1 ((fun b : Int32 => (some (Value.int b), M)) b).2 := by
  refine Ok.ofX (pj := (fun b : Int32 => (some (Value.int b), M))) (by decide) (Nat.le_of_ble_eq_true rfl) hE (fun J g hr hG hl hR hn => ?_)
  show X J (fun b : Int32 => (some (Value.int b), M)) (fX2_isInside φ t a1 a2 a3 M) 0 [(0, .ref t), (1, .int a1), (2, .int a2), (3, .int a3)] [] M
  unfold fX2_isInside
  exact (x_aload_n g 0 dX2_isInside_0 rfl rfl
 (x_iload_n g 1 dX2_isInside_1 rfl rfl
 (x_callVip (As := [.int a1]) g mv_X2_turn mi_X2_turn lk_RX2_127 ht (fun b hb => kX2_turn t a1 M ht _ _ hb) rfl rfl hR ⟨Nat.le_of_ble_eq_true rfl, Nat.le_of_ble_eq_true rfl⟩ (Nat.le_of_ble_eq_true rfl) dX2_isInside_2 (fun v1 =>
 (x_jn (fun (J3 : Int32 → Option Int32) => ∀ (v2 : Int32), X J (fun b : Int32 => (some (Value.int b), M)) (J3 v2) 13 [(0, .ref t), (1, .int a1), (2, .int a2), (3, .int a3)] [.int v2] M) (fun v2 => (x_istore (L' := [(4, .int v2), (0, .ref t), (1, .int a1), (2, .int a2), (3, .int a3)]) g dX2_isInside_13 hn (Nat.le_of_ble_eq_true rfl) rfl
 (x_iconst g dX2_isInside_15 kI_0
 (x_istore (L' := [(5, .int (0 : Int32)), (4, .int v2), (0, .ref t), (1, .int a1), (2, .int a2), (3, .int a3)]) g dX2_isInside_16 hn (Nat.le_of_ble_eq_true rfl) rfl
 (x_sub [2, 3, 4, 5, 1, 0] rfl (wlX2_isInside_18 g hr hR hn  t a1 a2 a3 v2 M ht φ (0 : Int32))))))) (fun J3 hJ3 => (x_if_ge g 12 dX2_isInside_5 rfl
 (fun _ => (x_iconst g dX2_isInside_12 kI_1
 (hJ3 (1 : Int32))))
 (fun _ => (x_iconst g dX2_isInside_8 kI_m1
 (x_goto g 13 dX2_isInside_9 rfl
 (hJ3 (-1 : Int32))))))))))))
def lX2_triangleWith_2 (φ : Nat) (t : Nat) (x1 : Int32) (x2 : Int32) (M : Mem) : Nat → Int32 → Option Int32
  | 0, _ => none
  | n + 1, x3 =>
    if (M.1 t 11) ≤ x3 then
 some (-1 : Int32)
 else
 (fX2_isSplit φ t x3 M).bind fun v1 =>
 jn (lX2_triangleWith_2 φ t x1 x2 M n (x3 + 1)) (fun J2 => if v1 = 0 then
 (fX2_isInside φ t x3 x1 x2 M).bind fun v3 =>
 if v3 = 0 then
 J2
 else
 some x3
 else
 J2)
theorem lX2_triangleWith_2_s (φ : Nat) (t : Nat) (x1 : Int32) (x2 : Int32) (M : Mem) (n : Nat) (x3 : Int32) : lX2_triangleWith_2 φ t x1 x2 M (n + 1) x3 =
    if (M.1 t 11) ≤ x3 then
 some (-1 : Int32)
 else
 (fX2_isSplit φ t x3 M).bind fun v1 =>
 jn (lX2_triangleWith_2 φ t x1 x2 M n (x3 + 1)) (fun J2 => if v1 = 0 then
 (fX2_isInside φ t x3 x1 x2 M).bind fun v3 =>
 if v3 = 0 then
 J2
 else
 some x3
 else
 J2) := rfl
theorem lX2_triangleWith_2_0 (φ : Nat) (t : Nat) (x1 : Int32) (x2 : Int32) (M : Mem) (x3 : Int32) : lX2_triangleWith_2 φ t x1 x2 M 0 x3 = none := rfl
set_option maxRecDepth 100000 in
set_option maxHeartbeats 4000000 in
theorem wlX2_triangleWith_2 {J : JT} (g : Gd J cX2_triangleWith RX2) (hr : Rt J (some .int)) (hR : (JR J).frames = 4 ∧ (JR J).locals = 94) (hn : Jn J = 4) (φ : Nat) (t : Nat) (x1 : Int32) (x2 : Int32) (M : Mem) (ht : isO 2 t) : ∀ (n : Nat) (x3 : Int32), X J (fun b : Int32 => (some (Value.int b), M)) (lX2_triangleWith_2 φ t x1 x2 M n x3) 2 [(0, .ref t), (1, .int x1), (2, .int x2), (3, .int x3)] [] M := by
  intro n
  induction n with
  | zero =>
    intro x3
    exact x_none
  | succ n ih =>
    intro x3
    rw [lX2_triangleWith_2_s]
    exact (x_iload_n g 3 dX2_triangleWith_2 rfl rfl
 (x_aload_n g 0 dX2_triangleWith_3 rfl rfl
 (x_getI g fl_RX2_47 rfl ht dX2_triangleWith_4
 (x_icmp_ge g 36 dX2_triangleWith_7 rfl
 (fun _ => (x_iconst g dX2_triangleWith_36 kI_m1
 (x_iret g hr rfl rfl dX2_triangleWith_37)))
 (fun _ => (x_aload_n g 0 dX2_triangleWith_10 rfl rfl
 (x_iload_n g 3 dX2_triangleWith_11 rfl rfl
 (x_callVip (As := [.int x3]) g mv_X2_isSplit mi_X2_isSplit lk_RX2_133 ht (fun b hb => kX2_isSplit φ t x3 M ht _ _ hb) rfl rfl hR ⟨Nat.le_of_ble_eq_true rfl, Nat.le_of_ble_eq_true rfl⟩ (Nat.le_of_ble_eq_true rfl) dX2_triangleWith_12 (fun v1 =>
 (x_jn (fun (J2 : Option Int32) => X J (fun b : Int32 => (some (Value.int b), M)) J2 30 [(0, .ref t), (1, .int x1), (2, .int x2), (3, .int x3)] [] M) (x_iinc (L' := [(3, .int (x3 + 1)), (0, .ref t), (1, .int x1), (2, .int x2)]) (v := (x3 + 1)) g 3 dX2_triangleWith_30 rfl (by rw [kI_1]) hn (Nat.le_of_ble_eq_true rfl) rfl
 (x_goto g 2 dX2_triangleWith_33 rfl
 (x_sub [1, 2, 3, 0] rfl (ih (x3 + 1))))) (fun J2 hJ2 => (x_if_ne g 30 dX2_triangleWith_15 rfl
 (fun _ => (hJ2))
 (fun _ => (x_aload_n g 0 dX2_triangleWith_18 rfl rfl
 (x_iload_n g 3 dX2_triangleWith_19 rfl rfl
 (x_iload_n g 1 dX2_triangleWith_20 rfl rfl
 (x_iload_n g 2 dX2_triangleWith_21 rfl rfl
 (x_callVip (As := [.int x3, .int x1, .int x2]) g mv_X2_isInside mi_X2_isInside lk_RX2_136 ht (fun b hb => kX2_isInside φ t x3 x1 x2 M ht _ _ hb) rfl rfl hR ⟨Nat.le_of_ble_eq_true rfl, Nat.le_of_ble_eq_true rfl⟩ (Nat.le_of_ble_eq_true rfl) dX2_triangleWith_22 (fun v3 =>
 (x_if_eq g 30 dX2_triangleWith_25 rfl
 (fun _ => (hJ2))
 (fun _ => (x_iload_n g 3 dX2_triangleWith_28 rfl rfl
 (x_iret g hr rfl rfl dX2_triangleWith_29)))))))))))))))))))))))
def fX2_triangleWith (φ : Nat) (t : Nat) (a1 : Int32) (a2 : Int32) (M : Mem) : Option Int32 :=
  lX2_triangleWith_2 φ t a1 a2 M φ (0 : Int32)
set_option maxRecDepth 100000 in
set_option maxHeartbeats 4000000 in
theorem kX2_triangleWith (φ : Nat) (t : Nat) (a1 : Int32) (a2 : Int32) (M : Mem) (ht : isO 2 t) (l : Launch) (G : GT) {b : Int32} (hE : fX2_triangleWith φ t a1 a2 M = some b) : Ok l G yX2_triangleWith cX2_triangleWith 4 (some .int) 4 94 [.ref t, .int a1, .int a2] M ((fun b : Int32 => (some (Value.int b), M)) b).1 ((fun b : Int32 => (some (Value.int b), M)) b).2 := by
  refine Ok.ofX (pj := (fun b : Int32 => (some (Value.int b), M))) (by decide) (Nat.le_of_ble_eq_true rfl) hE (fun J g hr hG hl hR hn => ?_)
  show X J (fun b : Int32 => (some (Value.int b), M)) (fX2_triangleWith φ t a1 a2 M) 0 [(0, .ref t), (1, .int a1), (2, .int a2)] [] M
  unfold fX2_triangleWith
  exact (x_iconst g dX2_triangleWith_0 kI_0
 (x_istore_n (L' := [(3, .int (0 : Int32)), (0, .ref t), (1, .int a1), (2, .int a2)]) g dX2_triangleWith_1 rfl hn (Nat.le_of_ble_eq_true rfl) rfl
 (x_sub [1, 2, 3, 0] rfl (wlX2_triangleWith_2 g hr hR hn  φ t a1 a2 M ht φ (0 : Int32)))))
def fX10_triangleAt (φ : Nat) (t : Nat) (a1 : Int32) (a2 : Int32) (M : Mem) : Option (Int32 × Mem) :=
  (fX10_isPoint a1 a2 M).bind fun v1 =>
 if v1 = 0 then
 bd (fX10_refuse t (1 : Int32) M) fun v6 M7 =>
 some (v6, M7)
 else
 (ldr 2 (M.2.2 t 7)).bind fun vr2 =>
 (fX2_triangleWith φ vr2 a1 a2 M).bind fun v3 =>
 bd (fX10_answerOrNoSuch t v3 M) fun v4 M5 =>
 some (v4, M5)
set_option maxRecDepth 100000 in
set_option maxHeartbeats 4000000 in
theorem kX10_triangleAt (φ : Nat) (t : Nat) (a1 : Int32) (a2 : Int32) (M : Mem) (ht : isO 10 t) (l : Launch) (G : GT) {b : (Int32 × Mem)} (hE : fX10_triangleAt φ t a1 a2 M = some b) : Ok l G yX10_triangleAt cX10_triangleAt 3 (some .int) 5 117 [.ref t, .int a1, .int a2] M ((fun q : Int32 × Mem => (some (Value.int q.1), q.2)) b).1 ((fun q : Int32 × Mem => (some (Value.int q.1), q.2)) b).2 := by
  refine Ok.ofX (pj := (fun q : Int32 × Mem => (some (Value.int q.1), q.2))) (by decide) (Nat.le_of_ble_eq_true rfl) hE (fun J g hr hG hl hR hn => ?_)
  show X J (fun q : Int32 × Mem => (some (Value.int q.1), q.2)) (fX10_triangleAt φ t a1 a2 M) 0 [(0, .ref t), (1, .int a1), (2, .int a2)] [] M
  unfold fX10_triangleAt
  exact (x_iload_n g 1 dX10_triangleAt_0 rfl rfl
 (x_iload_n g 2 dX10_triangleAt_1 rfl rfl
 (x_callSip (As := [.int a1, .int a2]) g mv_X10_isPoint ms_X10_isPoint lk_RX10_349 (fun b hb => kX10_isPoint a1 a2 M _ _ hb) rfl rfl hR ⟨Nat.le_of_ble_eq_true rfl, Nat.le_of_ble_eq_true rfl⟩ (Nat.le_of_ble_eq_true rfl) dX10_triangleAt_2 (fun v1 =>
 (x_if_ne g 14 dX10_triangleAt_5 rfl
 (fun _ => (x_aload_n g 0 dX10_triangleAt_14 rfl rfl
 (x_aload_n g 0 dX10_triangleAt_15 rfl rfl
 (x_getD g fl_RX10_50 rfl ht dX10_triangleAt_16 (fun vr2 hvr2 =>
 (x_iload_n g 1 dX10_triangleAt_19 rfl rfl
 (x_iload_n g 2 dX10_triangleAt_20 rfl rfl
 (x_callVip (As := [.int a1, .int a2]) g mv_X2_triangleWith mi_X2_triangleWith lk_RX10_352 hvr2 (fun b hb => kX2_triangleWith φ vr2 a1 a2 M hvr2 _ _ hb) rfl rfl hR ⟨Nat.le_of_ble_eq_true rfl, Nat.le_of_ble_eq_true rfl⟩ (Nat.le_of_ble_eq_true rfl) dX10_triangleAt_21 (fun v3 =>
 (x_callVi (As := [.int v3]) g mv_X10_answerOrNoSuch mi_X10_answerOrNoSuch lk_RX10_261 ht (fun b Mh_ hb => kX10_answerOrNoSuch t v3 M ht _ _ hb) rfl rfl hR ⟨Nat.le_of_ble_eq_true rfl, Nat.le_of_ble_eq_true rfl⟩ (Nat.le_of_ble_eq_true rfl) dX10_triangleAt_24 (fun v4 M5 =>
 (x_iret g hr rfl rfl dX10_triangleAt_27))))))))))))
 (fun _ => (x_aload_n g 0 dX10_triangleAt_8 rfl rfl
 (x_iconst g dX10_triangleAt_9 kI_1
 (x_callVi (As := [.int (1 : Int32)]) g mv_X10_refuse mi_X10_refuse lk_RX10_137 ht (fun b Mh_ hb => kX10_refuse t (1 : Int32) M ht _ _ hb) rfl rfl hR ⟨Nat.le_of_ble_eq_true rfl, Nat.le_of_ble_eq_true rfl⟩ (Nat.le_of_ble_eq_true rfl) dX10_triangleAt_10 (fun v6 M7 =>
 (x_iret g hr rfl rfl dX10_triangleAt_13)))))))))))
def lX10_hasAtCorners_2 (t : Nat) (x1 : Int32) (x2 : Int32) (M : Mem) : Nat → Int32 → Option Int32
  | 0, _ => none
  | n + 1, x3 =>
    if (3 : Int32) ≤ x3 then
 some (1 : Int32)
 else
 (ldr 2 (M.2.2 t 7)).bind fun vr1 =>
 (fX2_cornerHole vr1 x2 x3 M).bind fun v2 =>
 (fX0_layerIn (t + 57) x1 v2 M).bind fun v3 =>
 if v3 = (-1 : Int32) then
 some (0 : Int32)
 else
 lX10_hasAtCorners_2 t x1 x2 M n (x3 + 1)
theorem lX10_hasAtCorners_2_s (t : Nat) (x1 : Int32) (x2 : Int32) (M : Mem) (n : Nat) (x3 : Int32) : lX10_hasAtCorners_2 t x1 x2 M (n + 1) x3 =
    if (3 : Int32) ≤ x3 then
 some (1 : Int32)
 else
 (ldr 2 (M.2.2 t 7)).bind fun vr1 =>
 (fX2_cornerHole vr1 x2 x3 M).bind fun v2 =>
 (fX0_layerIn (t + 57) x1 v2 M).bind fun v3 =>
 if v3 = (-1 : Int32) then
 some (0 : Int32)
 else
 lX10_hasAtCorners_2 t x1 x2 M n (x3 + 1) := rfl
theorem lX10_hasAtCorners_2_0 (t : Nat) (x1 : Int32) (x2 : Int32) (M : Mem) (x3 : Int32) : lX10_hasAtCorners_2 t x1 x2 M 0 x3 = none := rfl
set_option maxRecDepth 100000 in
set_option maxHeartbeats 4000000 in
theorem wlX10_hasAtCorners_2 {J : JT} (g : Gd J cX10_hasAtCorners RX10) (hr : Rt J (some .boolean)) (hR : (JR J).frames = 1 ∧ (JR J).locals = 22) (hn : Jn J = 4) (t : Nat) (x1 : Int32) (x2 : Int32) (M : Mem) (ht : isO 10 t) : ∀ (n : Nat) (x3 : Int32), X J (fun b : Int32 => (some (Value.int b), M)) (lX10_hasAtCorners_2 t x1 x2 M n x3) 2 [(0, .ref t), (1, .int x1), (2, .int x2), (3, .int x3)] [] M := by
  intro n
  induction n with
  | zero =>
    intro x3
    exact x_none
  | succ n ih =>
    intro x3
    rw [lX10_hasAtCorners_2_s]
    exact (x_iload_n g 3 dX10_hasAtCorners_2 rfl rfl
 (x_iconst g dX10_hasAtCorners_3 kI_3
 (x_icmp_ge g 36 dX10_hasAtCorners_4 rfl
 (fun _ => (x_iconst g dX10_hasAtCorners_36 kI_1
 (x_iret g hr rfl rfl dX10_hasAtCorners_37)))
 (fun _ => (x_aload_n g 0 dX10_hasAtCorners_7 rfl rfl
 (x_getS g 57 fl_RX10_88 rfl ht dX10_hasAtCorners_8
 (x_iload_n g 1 dX10_hasAtCorners_11 rfl rfl
 (x_aload_n g 0 dX10_hasAtCorners_12 rfl rfl
 (x_getD g fl_RX10_50 rfl ht dX10_hasAtCorners_13 (fun vr1 hvr1 =>
 (x_iload_n g 2 dX10_hasAtCorners_16 rfl rfl
 (x_iload_n g 3 dX10_hasAtCorners_17 rfl rfl
 (x_callVip (As := [.int x2, .int x3]) g mv_X2_cornerHole mi_X2_cornerHole lk_RX10_484 hvr1 (fun b hb => kX2_cornerHole vr1 x2 x3 M hvr1 _ _ hb) rfl rfl hR ⟨Nat.le_of_ble_eq_true rfl, Nat.le_of_ble_eq_true rfl⟩ (Nat.le_of_ble_eq_true rfl) dX10_hasAtCorners_18 (fun v2 =>
 (x_callVip (As := [.int x1, .int v2]) g mv_X0_layerIn mi_X0_layerIn lk_RX10_318 (so_10_15 ht) (fun b hb => kX0_layerIn (t + 57) x1 v2 M (so_10_15 ht) _ _ hb) rfl rfl hR ⟨Nat.le_of_ble_eq_true rfl, Nat.le_of_ble_eq_true rfl⟩ (Nat.le_of_ble_eq_true rfl) dX10_hasAtCorners_21 (fun v3 =>
 (x_iconst g dX10_hasAtCorners_24 kI_m1
 (x_icmp_ne g 30 dX10_hasAtCorners_25 rfl
 (fun _ => (x_iinc (L' := [(3, .int (x3 + 1)), (0, .ref t), (1, .int x1), (2, .int x2)]) (v := (x3 + 1)) g 3 dX10_hasAtCorners_30 rfl (by rw [kI_1]) hn (Nat.le_of_ble_eq_true rfl) rfl
 (x_goto g 2 dX10_hasAtCorners_33 rfl
 (x_sub [1, 2, 3, 0] rfl (ih (x3 + 1))))))
 (fun _ => (x_iconst g dX10_hasAtCorners_28 kI_0
 (x_iret g hr rfl rfl dX10_hasAtCorners_29)))))))))))))))))))))
def fX10_hasAtCorners (φ : Nat) (t : Nat) (a1 : Int32) (a2 : Int32) (M : Mem) : Option Int32 :=
  lX10_hasAtCorners_2 t a1 a2 M φ (0 : Int32)
set_option maxRecDepth 100000 in
set_option maxHeartbeats 4000000 in
theorem kX10_hasAtCorners (φ : Nat) (t : Nat) (a1 : Int32) (a2 : Int32) (M : Mem) (ht : isO 10 t) (l : Launch) (G : GT) {b : Int32} (hE : fX10_hasAtCorners φ t a1 a2 M = some b) : Ok l G yX10_hasAtCorners cX10_hasAtCorners 4 (some .boolean) 1 22 [.ref t, .int a1, .int a2] M ((fun b : Int32 => (some (Value.int b), M)) b).1 ((fun b : Int32 => (some (Value.int b), M)) b).2 := by
  refine Ok.ofX (pj := (fun b : Int32 => (some (Value.int b), M))) (by decide) (Nat.le_of_ble_eq_true rfl) hE (fun J g hr hG hl hR hn => ?_)
  show X J (fun b : Int32 => (some (Value.int b), M)) (fX10_hasAtCorners φ t a1 a2 M) 0 [(0, .ref t), (1, .int a1), (2, .int a2)] [] M
  unfold fX10_hasAtCorners
  exact (x_iconst g dX10_hasAtCorners_0 kI_0
 (x_istore_n (L' := [(3, .int (0 : Int32)), (0, .ref t), (1, .int a1), (2, .int a2)]) g dX10_hasAtCorners_1 rfl hn (Nat.le_of_ble_eq_true rfl) rfl
 (x_sub [1, 2, 3, 0] rfl (wlX10_hasAtCorners_2 g hr hR hn  t a1 a2 M ht φ (0 : Int32)))))
def fX10_depthAtCorner (φ : Nat) (t : Nat) (a1 : Int32) (a2 : Int32) (a3 : Int32) (M : Mem) : Option Int64 :=
  (ldr 2 (M.2.2 t 7)).bind fun vr1 =>
 (fX2_cornerHole vr1 a2 a3 M).bind fun v2 =>
 (ldr 2 (M.2.2 t 7)).bind fun vr3 =>
 (fX0_layerIn (t + 57) a1 v2 M).bind fun v4 =>
 (fX2_depthOf φ vr3 v2 v4 M).bind fun v5 =>
 some (v5.toInt64)
set_option maxRecDepth 100000 in
set_option maxHeartbeats 4000000 in
theorem kX10_depthAtCorner (φ : Nat) (t : Nat) (a1 : Int32) (a2 : Int32) (a3 : Int32) (M : Mem) (ht : isO 10 t) (l : Launch) (G : GT) {b : Int64} (hE : fX10_depthAtCorner φ t a1 a2 a3 M = some b) : Ok l G yX10_depthAtCorner cX10_depthAtCorner 5 (some .long) 4 93 [.ref t, .int a1, .int a2, .int a3] M ((fun b : Int64 => (some (Value.long b), M)) b).1 ((fun b : Int64 => (some (Value.long b), M)) b).2 := by
  refine Ok.ofX (pj := (fun b : Int64 => (some (Value.long b), M))) (by decide) (Nat.le_of_ble_eq_true rfl) hE (fun J g hr hG hl hR hn => ?_)
  show X J (fun b : Int64 => (some (Value.long b), M)) (fX10_depthAtCorner φ t a1 a2 a3 M) 0 [(0, .ref t), (1, .int a1), (2, .int a2), (3, .int a3)] [] M
  unfold fX10_depthAtCorner
  exact (x_aload_n g 0 dX10_depthAtCorner_0 rfl rfl
 (x_getD g fl_RX10_50 rfl ht dX10_depthAtCorner_1 (fun vr1 hvr1 =>
 (x_iload_n g 2 dX10_depthAtCorner_4 rfl rfl
 (x_iload_n g 3 dX10_depthAtCorner_5 rfl rfl
 (x_callVip (As := [.int a2, .int a3]) g mv_X2_cornerHole mi_X2_cornerHole lk_RX10_484 hvr1 (fun b hb => kX2_cornerHole vr1 a2 a3 M hvr1 _ _ hb) rfl rfl hR ⟨Nat.le_of_ble_eq_true rfl, Nat.le_of_ble_eq_true rfl⟩ (Nat.le_of_ble_eq_true rfl) dX10_depthAtCorner_6 (fun v2 =>
 (x_istore (L' := [(4, .int v2), (0, .ref t), (1, .int a1), (2, .int a2), (3, .int a3)]) g dX10_depthAtCorner_9 hn (Nat.le_of_ble_eq_true rfl) rfl
 (x_aload_n g 1 dX10_depthAtCorner_11 rfl rfl
 (x_getD g fl_RX10_50 rfl ht dX10_depthAtCorner_12 (fun vr3 hvr3 =>
 (x_iload g 0 dX10_depthAtCorner_15 rfl
 (x_aload_n g 1 dX10_depthAtCorner_17 rfl rfl
 (x_getS g 57 fl_RX10_88 rfl ht dX10_depthAtCorner_18
 (x_iload_n g 2 dX10_depthAtCorner_21 rfl rfl
 (x_iload g 0 dX10_depthAtCorner_22 rfl
 (x_callVip (As := [.int a1, .int v2]) g mv_X0_layerIn mi_X0_layerIn lk_RX10_318 (so_10_15 ht) (fun b hb => kX0_layerIn (t + 57) a1 v2 M (so_10_15 ht) _ _ hb) rfl rfl hR ⟨Nat.le_of_ble_eq_true rfl, Nat.le_of_ble_eq_true rfl⟩ (Nat.le_of_ble_eq_true rfl) dX10_depthAtCorner_24 (fun v4 =>
 (x_callVip (As := [.int v2, .int v4]) g mv_X2_depthOf mi_X2_depthOf lk_RX10_255 hvr3 (fun b hb => kX2_depthOf φ vr3 v2 v4 M hvr3 _ _ hb) rfl rfl hR ⟨Nat.le_of_ble_eq_true rfl, Nat.le_of_ble_eq_true rfl⟩ (Nat.le_of_ble_eq_true rfl) dX10_depthAtCorner_27 (fun v5 =>
 (x_i2l g dX10_depthAtCorner_30
 (x_lret g hr rfl dX10_depthAtCorner_31))))))))))))))))))))))
def lX10_topAt_69 (K114 : Int64 → Option (Int32 × Mem)) (φ : Nat) (t : Nat) (x1 : Int32) (x2 : Int32) (x3 : Int32) (x4 : Int32) (M : Mem) : Nat → Int64 → Int32 → Option (Int32 × Mem)
  | 0, _, _ => none
  | n + 1, xz5, x7 =>
    if (3 : Int32) ≤ x7 then
 K114 xz5
 else
 (ldr 2 (M.2.2 t 7)).bind fun vr10 =>
 (fX2_weight vr10 x4 x7 x2 x3 M).bind fun v11 =>
 nm (v11.toInt64) (fun vz12 =>
 (fX10_depthAtCorner φ t x1 x4 x7 M).bind fun vz13 =>
 nm (xz5 + (vz12 * vz13)) (fun vz14 =>
 lX10_topAt_69 K114 φ t x1 x2 x3 x4 M n vz14 (x7 + 1)))
theorem lX10_topAt_69_s (K114 : Int64 → Option (Int32 × Mem)) (φ : Nat) (t : Nat) (x1 : Int32) (x2 : Int32) (x3 : Int32) (x4 : Int32) (M : Mem) (n : Nat) (xz5 : Int64) (x7 : Int32) : lX10_topAt_69 K114 φ t x1 x2 x3 x4 M (n + 1) xz5 x7 =
    if (3 : Int32) ≤ x7 then
 K114 xz5
 else
 (ldr 2 (M.2.2 t 7)).bind fun vr10 =>
 (fX2_weight vr10 x4 x7 x2 x3 M).bind fun v11 =>
 nm (v11.toInt64) (fun vz12 =>
 (fX10_depthAtCorner φ t x1 x4 x7 M).bind fun vz13 =>
 nm (xz5 + (vz12 * vz13)) (fun vz14 =>
 lX10_topAt_69 K114 φ t x1 x2 x3 x4 M n vz14 (x7 + 1))) := rfl
theorem lX10_topAt_69_0 (K114 : Int64 → Option (Int32 × Mem)) (φ : Nat) (t : Nat) (x1 : Int32) (x2 : Int32) (x3 : Int32) (x4 : Int32) (M : Mem) (xz5 : Int64) (x7 : Int32) : lX10_topAt_69 K114 φ t x1 x2 x3 x4 M 0 xz5 x7 = none := rfl
set_option maxRecDepth 100000 in
set_option maxHeartbeats 4000000 in
theorem wlX10_topAt_69 {J : JT} (g : Gd J cX10_topAt RX10) (hr : Rt J (some .boolean)) (hR : (JR J).frames = 6 ∧ (JR J).locals = 151) (hn : Jn J = 10) (K114 : Int64 → Option (Int32 × Mem)) (φ : Nat) (t : Nat) (x1 : Int32) (x2 : Int32) (x3 : Int32) (x4 : Int32) (M : Mem) (ht : isO 10 t) (hK114 : ∀ (yz5 : Int64), X J (fun q : Int32 × Mem => (some (Value.int q.1), q.2)) (K114 yz5) 114 [(0, .ref t), (4, .int x4), (5, .long yz5)] [] M) : ∀ (n : Nat) (xz5 : Int64) (x7 : Int32), X J (fun q : Int32 × Mem => (some (Value.int q.1), q.2)) (lX10_topAt_69 K114 φ t x1 x2 x3 x4 M n xz5 x7) 69 [(0, .ref t), (1, .int x1), (2, .int x2), (3, .int x3), (4, .int x4), (5, .long xz5), (7, .int x7)] [] M := by
  intro n
  induction n with
  | zero =>
    intro xz5 x7
    exact x_none
  | succ n ih =>
    intro xz5 x7
    rw [lX10_topAt_69_s]
    exact (x_iload g 6 dX10_topAt_69 rfl
 (x_iconst g dX10_topAt_71 kI_3
 (x_icmp_ge g 114 dX10_topAt_72 rfl
 (fun _ => (x_sub [0, 4, 5] rfl (hK114 xz5)))
 (fun _ => (x_aload_n g 0 dX10_topAt_75 rfl rfl
 (x_getD g fl_RX10_50 rfl ht dX10_topAt_76 (fun vr10 hvr10 =>
 (x_iload g 4 dX10_topAt_79 rfl
 (x_iload g 6 dX10_topAt_81 rfl
 (x_iload_n g 2 dX10_topAt_83 rfl rfl
 (x_iload_n g 3 dX10_topAt_84 rfl rfl
 (x_callVip (As := [.int x4, .int x7, .int x2, .int x3]) g mv_X2_weight mi_X2_weight lk_RX10_358 hvr10 (fun b hb => kX2_weight vr10 x4 x7 x2 x3 M hvr10 _ _ hb) rfl rfl hR ⟨Nat.le_of_ble_eq_true rfl, Nat.le_of_ble_eq_true rfl⟩ (Nat.le_of_ble_eq_true rfl) dX10_topAt_85 (fun v11 =>
 (x_i2l g dX10_topAt_88
 (x_nmL (fun vz12 => (x_lstore (L' := [(8, .long vz12), (0, .ref t), (1, .int x1), (2, .int x2), (3, .int x3), (4, .int x4), (5, .long xz5), (7, .int x7)]) g dX10_topAt_89 hn (Nat.le_of_ble_eq_true rfl) rfl
 (x_lload g 6 dX10_topAt_91 rfl
 (x_lload g 0 dX10_topAt_93 rfl
 (x_aload_n g 1 dX10_topAt_95 rfl rfl
 (x_iload_n g 2 dX10_topAt_96 rfl rfl
 (x_iload g 5 dX10_topAt_97 rfl
 (x_iload g 7 dX10_topAt_99 rfl
 (x_callVlp (As := [.int x1, .int x4, .int x7]) g mv_X10_depthAtCorner mi_X10_depthAtCorner lk_RX10_362 ht (fun b hb => kX10_depthAtCorner φ t x1 x4 x7 M ht _ _ hb) rfl rfl hR ⟨Nat.le_of_ble_eq_true rfl, Nat.le_of_ble_eq_true rfl⟩ (Nat.le_of_ble_eq_true rfl) dX10_topAt_101 (fun vz13 =>
 (x_lmul g dX10_topAt_104
 (x_ladd g dX10_topAt_105
 (x_nmL (fun vz14 => (x_lstore (L' := [(5, .long vz14), (8, .long vz12), (0, .ref t), (1, .int x1), (2, .int x2), (3, .int x3), (4, .int x4), (7, .int x7)]) g dX10_topAt_106 hn (Nat.le_of_ble_eq_true rfl) rfl
 (x_iinc (L' := [(7, .int (x7 + 1)), (5, .long vz14), (8, .long vz12), (0, .ref t), (1, .int x1), (2, .int x2), (3, .int x3), (4, .int x4)]) (v := (x7 + 1)) g 7 dX10_topAt_108 rfl (by rw [kI_1]) hn (Nat.le_of_ble_eq_true rfl) rfl
 (x_goto g 69 dX10_topAt_111 rfl
 (x_sub [3, 4, 5, 6, 7, 1, 0] rfl (ih vz14 (x7 + 1)))))))))))))))))))))))))))))))))))
def fX10_topAt (φ : Nat) (t : Nat) (a1 : Int32) (a2 : Int32) (a3 : Int32) (M : Mem) : Option (Int32 × Mem) :=
  bd (fX10_isBed φ t a1 M) fun v1 M2 =>
 if v1 = 0 then
 bd (fX10_deny t (1 : Int32) M2) fun v3 M4 =>
 if v3 = 0 ∨ v3 = 1 then some (v3, M4) else none
 else
 (fX10_isPoint a2 a3 M2).bind fun v6 =>
 if v6 = 0 then
 bd (fX10_deny t (1 : Int32) M2) fun v27 M28 =>
 if v27 = 0 ∨ v27 = 1 then some (v27, M28) else none
 else
 (ldr 2 (M2.2.2 t 7)).bind fun vr7 =>
 (fX2_triangleWith φ vr7 a2 a3 M2).bind fun v8 =>
 if v8 = (-1 : Int32) then
 bd (fX10_deny t (6 : Int32) M2) fun v24 M25 =>
 if v24 = 0 ∨ v24 = 1 then some (v24, M25) else none
 else
 (fX10_hasAtCorners φ t a1 v8 M2).bind fun v9 =>
 if v9 = 0 then
 bd (fX10_deny t (7 : Int32) M2) fun v21 M22 =>
 if v21 = 0 ∨ v21 = 1 then some (v21, M22) else none
 else
 lX10_topAt_69 (fun (vz15 : Int64) => (ldr 2 (M2.2.2 t 7)).bind fun vr16 =>
 (fX2_turn vr16 v8 M2).bind fun v17 =>
 bd (fX10_tell φ t vz15 (v17.toInt64) M2) fun v18 M19 =>
 if v18 = 0 ∨ v18 = 1 then some (v18, M19) else none) φ t a1 a2 a3 v8 M2 φ (0 : Int64) (0 : Int32)
set_option maxRecDepth 100000 in
set_option maxHeartbeats 4000000 in
theorem kX10_topAt (φ : Nat) (t : Nat) (a1 : Int32) (a2 : Int32) (a3 : Int32) (M : Mem) (ht : isO 10 t) (l : Launch) (G : GT) {b : (Int32 × Mem)} (hE : fX10_topAt φ t a1 a2 a3 M = some b) : Ok l G yX10_topAt cX10_topAt 10 (some .boolean) 6 151 [.ref t, .int a1, .int a2, .int a3] M ((fun q : Int32 × Mem => (some (Value.int q.1), q.2)) b).1 ((fun q : Int32 × Mem => (some (Value.int q.1), q.2)) b).2 := by
  refine Ok.ofX (pj := (fun q : Int32 × Mem => (some (Value.int q.1), q.2))) (by decide) (Nat.le_of_ble_eq_true rfl) hE (fun J g hr hG hl hR hn => ?_)
  show X J (fun q : Int32 × Mem => (some (Value.int q.1), q.2)) (fX10_topAt φ t a1 a2 a3 M) 0 [(0, .ref t), (1, .int a1), (2, .int a2), (3, .int a3)] [] M
  unfold fX10_topAt
  exact (x_aload_n g 0 dX10_topAt_0 rfl rfl
 (x_iload_n g 1 dX10_topAt_1 rfl rfl
 (x_callVi (As := [.int a1]) g mv_X10_isBed mi_X10_isBed lk_RX10_312 ht (fun b Mh_ hb => kX10_isBed φ t a1 M ht _ _ hb) rfl rfl hR ⟨Nat.le_of_ble_eq_true rfl, Nat.le_of_ble_eq_true rfl⟩ (Nat.le_of_ble_eq_true rfl) dX10_topAt_2 (fun v1 M2 =>
 (x_if_eq g 16 dX10_topAt_5 rfl
 (fun _ => (x_aload_n g 0 dX10_topAt_16 rfl rfl
 (x_iconst g dX10_topAt_17 kI_1
 (x_callVi (As := [.int (1 : Int32)]) g mv_X10_deny mi_X10_deny lk_RX10_118 ht (fun b Mh_ hb => kX10_deny t (1 : Int32) M2 ht _ _ hb) rfl rfl hR ⟨Nat.le_of_ble_eq_true rfl, Nat.le_of_ble_eq_true rfl⟩ (Nat.le_of_ble_eq_true rfl) dX10_topAt_18 (fun v3 M4 =>
 (x_ck (fun hq5 => x_iret g hr (nbz hq5) rfl dX10_topAt_21)))))))
 (fun _ => (x_iload_n g 2 dX10_topAt_8 rfl rfl
 (x_iload_n g 3 dX10_topAt_9 rfl rfl
 (x_callSip (As := [.int a2, .int a3]) g mv_X10_isPoint ms_X10_isPoint lk_RX10_349 (fun b hb => kX10_isPoint a2 a3 M2 _ _ hb) rfl rfl hR ⟨Nat.le_of_ble_eq_true rfl, Nat.le_of_ble_eq_true rfl⟩ (Nat.le_of_ble_eq_true rfl) dX10_topAt_10 (fun v6 =>
 (x_if_ne g 22 dX10_topAt_13 rfl
 (fun _ => (x_aload_n g 0 dX10_topAt_22 rfl rfl
 (x_getD g fl_RX10_50 rfl ht dX10_topAt_23 (fun vr7 hvr7 =>
 (x_iload_n g 2 dX10_topAt_26 rfl rfl
 (x_iload_n g 3 dX10_topAt_27 rfl rfl
 (x_callVip (As := [.int a2, .int a3]) g mv_X2_triangleWith mi_X2_triangleWith lk_RX10_352 hvr7 (fun b hb => kX2_triangleWith φ vr7 a2 a3 M2 hvr7 _ _ hb) rfl rfl hR ⟨Nat.le_of_ble_eq_true rfl, Nat.le_of_ble_eq_true rfl⟩ (Nat.le_of_ble_eq_true rfl) dX10_topAt_28 (fun v8 =>
 (x_istore (L' := [(4, .int v8), (0, .ref t), (1, .int a1), (2, .int a2), (3, .int a3)]) g dX10_topAt_31 hn (Nat.le_of_ble_eq_true rfl) rfl
 (x_iload g 0 dX10_topAt_33 rfl
 (x_iconst g dX10_topAt_35 kI_m1
 (x_icmp_ne g 46 dX10_topAt_36 rfl
 (fun _ => (x_aload_n g 1 dX10_topAt_46 rfl rfl
 (x_iload_n g 2 dX10_topAt_47 rfl rfl
 (x_iload g 0 dX10_topAt_48 rfl
 (x_callVip (As := [.int a1, .int v8]) g mv_X10_hasAtCorners mi_X10_hasAtCorners lk_RX10_355 ht (fun b hb => kX10_hasAtCorners φ t a1 v8 M2 ht _ _ hb) rfl rfl hR ⟨Nat.le_of_ble_eq_true rfl, Nat.le_of_ble_eq_true rfl⟩ (Nat.le_of_ble_eq_true rfl) dX10_topAt_50 (fun v9 =>
 (x_if_ne g 63 dX10_topAt_53 rfl
 (fun _ => (x_lconst g dX10_topAt_63 kL_0
 (x_lstore (L' := [(5, .long (0 : Int64)), (4, .int v8), (0, .ref t), (1, .int a1), (2, .int a2), (3, .int a3)]) g dX10_topAt_64 hn (Nat.le_of_ble_eq_true rfl) rfl
 (x_iconst g dX10_topAt_66 kI_0
 (x_istore (L' := [(7, .int (0 : Int32)), (5, .long (0 : Int64)), (4, .int v8), (0, .ref t), (1, .int a1), (2, .int a2), (3, .int a3)]) g dX10_topAt_67 hn (Nat.le_of_ble_eq_true rfl) rfl
 (x_sub [3, 4, 5, 6, 2, 1, 0] rfl (wlX10_topAt_69 g hr hR hn _ φ t a1 a2 a3 v8 M2 ht
 (fun vz15 => by exact (x_aload_n g 0 dX10_topAt_114 rfl rfl
 (x_lload g 2 dX10_topAt_115 rfl
 (x_aload_n g 0 dX10_topAt_117 rfl rfl
 (x_getD g fl_RX10_50 rfl ht dX10_topAt_118 (fun vr16 hvr16 =>
 (x_iload g 1 dX10_topAt_121 rfl
 (x_callVip (As := [.int v8]) g mv_X2_turn mi_X2_turn lk_RX10_366 hvr16 (fun b hb => kX2_turn vr16 v8 M2 hvr16 _ _ hb) rfl rfl hR ⟨Nat.le_of_ble_eq_true rfl, Nat.le_of_ble_eq_true rfl⟩ (Nat.le_of_ble_eq_true rfl) dX10_topAt_123 (fun v17 =>
 (x_i2l g dX10_topAt_126
 (x_callVi (As := [.long vz15, .long (v17.toInt64)]) g mv_X10_tell mi_X10_tell lk_RX10_342 ht (fun b Mh_ hb => kX10_tell φ t vz15 (v17.toInt64) M2 ht _ _ hb) rfl rfl hR ⟨Nat.le_of_ble_eq_true rfl, Nat.le_of_ble_eq_true rfl⟩ (Nat.le_of_ble_eq_true rfl) dX10_topAt_127 (fun v18 M19 =>
 (x_ck (fun hq20 => x_iret g hr (nbz hq20) rfl dX10_topAt_130)))))))))))))) φ (0 : Int64) (0 : Int32))))))))
 (fun _ => (x_aload_n g 1 dX10_topAt_56 rfl rfl
 (x_bipush g dX10_topAt_57 kB_7
 (x_callVi (As := [.int (7 : Int32)]) g mv_X10_deny mi_X10_deny lk_RX10_118 ht (fun b Mh_ hb => kX10_deny t (7 : Int32) M2 ht _ _ hb) rfl rfl hR ⟨Nat.le_of_ble_eq_true rfl, Nat.le_of_ble_eq_true rfl⟩ (Nat.le_of_ble_eq_true rfl) dX10_topAt_59 (fun v21 M22 =>
 (x_ck (fun hq23 => x_iret g hr (nbz hq23) rfl dX10_topAt_62))))))))))))))
 (fun _ => (x_aload_n g 1 dX10_topAt_39 rfl rfl
 (x_bipush g dX10_topAt_40 kB_6
 (x_callVi (As := [.int (6 : Int32)]) g mv_X10_deny mi_X10_deny lk_RX10_118 ht (fun b Mh_ hb => kX10_deny t (6 : Int32) M2 ht _ _ hb) rfl rfl hR ⟨Nat.le_of_ble_eq_true rfl, Nat.le_of_ble_eq_true rfl⟩ (Nat.le_of_ble_eq_true rfl) dX10_topAt_42 (fun v24 M25 =>
 (x_ck (fun hq26 => x_iret g hr (nbz hq26) rfl dX10_topAt_45)))))))))))))))))))
 (fun _ => (x_aload_n g 0 dX10_topAt_16 rfl rfl
 (x_iconst g dX10_topAt_17 kI_1
 (x_callVi (As := [.int (1 : Int32)]) g mv_X10_deny mi_X10_deny lk_RX10_118 ht (fun b Mh_ hb => kX10_deny t (1 : Int32) M2 ht _ _ hb) rfl rfl hR ⟨Nat.le_of_ble_eq_true rfl, Nat.le_of_ble_eq_true rfl⟩ (Nat.le_of_ble_eq_true rfl) dX10_topAt_18 (fun v27 M28 =>
 (x_ck (fun hq29 => x_iret g hr (nbz hq29) rfl dX10_topAt_21))))))))))))))))))
def fX10_thickAtCorner (t : Nat) (a1 : Int32) (a2 : Int32) (a3 : Int32) (M : Mem) : Option Int64 :=
  (ldr 2 (M.2.2 t 7)).bind fun vr1 =>
 (fX2_cornerHole vr1 a2 a3 M).bind fun v2 =>
 (fX0_layerIn (t + 57) a1 v2 M).bind fun v3 =>
 if v3 = (-1 : Int32) then
 some (0 : Int64)
 else
 (ldr 2 (M.2.2 t 7)).bind fun vr4 =>
 (fX10_slot v2 v3 M).bind fun v5 =>
 ixk v5 72 (
 some ((M.1 (vr4 + 9) v5.toNatClampNeg).toInt64))
set_option maxRecDepth 100000 in
set_option maxHeartbeats 4000000 in
theorem kX10_thickAtCorner (t : Nat) (a1 : Int32) (a2 : Int32) (a3 : Int32) (M : Mem) (ht : isO 10 t) (l : Launch) (G : GT) {b : Int64} (hE : fX10_thickAtCorner t a1 a2 a3 M = some b) : Ok l G yX10_thickAtCorner cX10_thickAtCorner 6 (some .long) 1 22 [.ref t, .int a1, .int a2, .int a3] M ((fun b : Int64 => (some (Value.long b), M)) b).1 ((fun b : Int64 => (some (Value.long b), M)) b).2 := by
  refine Ok.ofX (pj := (fun b : Int64 => (some (Value.long b), M))) (by decide) (Nat.le_of_ble_eq_true rfl) hE (fun J g hr hG hl hR hn => ?_)
  show X J (fun b : Int64 => (some (Value.long b), M)) (fX10_thickAtCorner t a1 a2 a3 M) 0 [(0, .ref t), (1, .int a1), (2, .int a2), (3, .int a3)] [] M
  unfold fX10_thickAtCorner
  exact (x_aload_n g 0 dX10_thickAtCorner_0 rfl rfl
 (x_getD g fl_RX10_50 rfl ht dX10_thickAtCorner_1 (fun vr1 hvr1 =>
 (x_iload_n g 2 dX10_thickAtCorner_4 rfl rfl
 (x_iload_n g 3 dX10_thickAtCorner_5 rfl rfl
 (x_callVip (As := [.int a2, .int a3]) g mv_X2_cornerHole mi_X2_cornerHole lk_RX10_484 hvr1 (fun b hb => kX2_cornerHole vr1 a2 a3 M hvr1 _ _ hb) rfl rfl hR ⟨Nat.le_of_ble_eq_true rfl, Nat.le_of_ble_eq_true rfl⟩ (Nat.le_of_ble_eq_true rfl) dX10_thickAtCorner_6 (fun v2 =>
 (x_istore (L' := [(4, .int v2), (0, .ref t), (1, .int a1), (2, .int a2), (3, .int a3)]) g dX10_thickAtCorner_9 hn (Nat.le_of_ble_eq_true rfl) rfl
 (x_aload_n g 1 dX10_thickAtCorner_11 rfl rfl
 (x_getS g 57 fl_RX10_88 rfl ht dX10_thickAtCorner_12
 (x_iload_n g 2 dX10_thickAtCorner_15 rfl rfl
 (x_iload g 0 dX10_thickAtCorner_16 rfl
 (x_callVip (As := [.int a1, .int v2]) g mv_X0_layerIn mi_X0_layerIn lk_RX10_318 (so_10_15 ht) (fun b hb => kX0_layerIn (t + 57) a1 v2 M (so_10_15 ht) _ _ hb) rfl rfl hR ⟨Nat.le_of_ble_eq_true rfl, Nat.le_of_ble_eq_true rfl⟩ (Nat.le_of_ble_eq_true rfl) dX10_thickAtCorner_18 (fun v3 =>
 (x_istore (L' := [(5, .int v3), (4, .int v2), (0, .ref t), (1, .int a1), (2, .int a2), (3, .int a3)]) g dX10_thickAtCorner_21 hn (Nat.le_of_ble_eq_true rfl) rfl
 (x_iload g 0 dX10_thickAtCorner_23 rfl
 (x_iconst g dX10_thickAtCorner_25 kI_m1
 (x_icmp_ne g 33 dX10_thickAtCorner_26 rfl
 (fun _ => (x_aload_n g 2 dX10_thickAtCorner_33 rfl rfl
 (x_getD g fl_RX10_50 rfl ht dX10_thickAtCorner_34 (fun vr4 hvr4 =>
 (x_getS g 9 fl_RX10_252 rfl hvr4 dX10_thickAtCorner_37
 (x_iload g 1 dX10_thickAtCorner_40 rfl
 (x_iload g 0 dX10_thickAtCorner_42 rfl
 (x_callSip (As := [.int v2, .int v3]) g mv_X10_slot ms_X10_slot lk_RX10_249 (fun b hb => kX10_slot v2 v3 M _ _ hb) rfl rfl hR ⟨Nat.le_of_ble_eq_true rfl, Nat.le_of_ble_eq_true rfl⟩ (Nat.le_of_ble_eq_true rfl) dX10_thickAtCorner_44 (fun v5 =>
 (x_iald g (so_2_10 hvr4) dX10_thickAtCorner_47
 (x_i2l g dX10_thickAtCorner_48
 (x_lret g hr rfl dX10_thickAtCorner_49))))))))))))
 (fun _ => (x_lconst g dX10_thickAtCorner_29 kL_0
 (x_goto g 49 dX10_thickAtCorner_30 rfl
 (x_lret g hr rfl dX10_thickAtCorner_49))))))))))))))))))))))
def lX10_thickAt_52 (K97 : Int64 → Option (Int32 × Mem)) (t : Nat) (x1 : Int32) (x2 : Int32) (x3 : Int32) (x4 : Int32) (M : Mem) : Nat → Int64 → Int32 → Option (Int32 × Mem)
  | 0, _, _ => none
  | n + 1, xz5, x7 =>
    if (3 : Int32) ≤ x7 then
 K97 xz5
 else
 (ldr 2 (M.2.2 t 7)).bind fun vr9 =>
 (fX2_weight vr9 x4 x7 x2 x3 M).bind fun v10 =>
 nm (v10.toInt64) (fun vz11 =>
 (fX10_thickAtCorner t x1 x4 x7 M).bind fun vz12 =>
 nm (xz5 + (vz11 * vz12)) (fun vz13 =>
 lX10_thickAt_52 K97 t x1 x2 x3 x4 M n vz13 (x7 + 1)))
theorem lX10_thickAt_52_s (K97 : Int64 → Option (Int32 × Mem)) (t : Nat) (x1 : Int32) (x2 : Int32) (x3 : Int32) (x4 : Int32) (M : Mem) (n : Nat) (xz5 : Int64) (x7 : Int32) : lX10_thickAt_52 K97 t x1 x2 x3 x4 M (n + 1) xz5 x7 =
    if (3 : Int32) ≤ x7 then
 K97 xz5
 else
 (ldr 2 (M.2.2 t 7)).bind fun vr9 =>
 (fX2_weight vr9 x4 x7 x2 x3 M).bind fun v10 =>
 nm (v10.toInt64) (fun vz11 =>
 (fX10_thickAtCorner t x1 x4 x7 M).bind fun vz12 =>
 nm (xz5 + (vz11 * vz12)) (fun vz13 =>
 lX10_thickAt_52 K97 t x1 x2 x3 x4 M n vz13 (x7 + 1))) := rfl
theorem lX10_thickAt_52_0 (K97 : Int64 → Option (Int32 × Mem)) (t : Nat) (x1 : Int32) (x2 : Int32) (x3 : Int32) (x4 : Int32) (M : Mem) (xz5 : Int64) (x7 : Int32) : lX10_thickAt_52 K97 t x1 x2 x3 x4 M 0 xz5 x7 = none := rfl
set_option maxRecDepth 100000 in
set_option maxHeartbeats 4000000 in
theorem wlX10_thickAt_52 {J : JT} (g : Gd J cX10_thickAt RX10) (hr : Rt J (some .boolean)) (hR : (JR J).frames = 6 ∧ (JR J).locals = 151) (hn : Jn J = 10) (K97 : Int64 → Option (Int32 × Mem)) (t : Nat) (x1 : Int32) (x2 : Int32) (x3 : Int32) (x4 : Int32) (M : Mem) (ht : isO 10 t) (hK97 : ∀ (yz5 : Int64), X J (fun q : Int32 × Mem => (some (Value.int q.1), q.2)) (K97 yz5) 97 [(0, .ref t), (4, .int x4), (5, .long yz5)] [] M) : ∀ (n : Nat) (xz5 : Int64) (x7 : Int32), X J (fun q : Int32 × Mem => (some (Value.int q.1), q.2)) (lX10_thickAt_52 K97 t x1 x2 x3 x4 M n xz5 x7) 52 [(0, .ref t), (1, .int x1), (2, .int x2), (3, .int x3), (4, .int x4), (5, .long xz5), (7, .int x7)] [] M := by
  intro n
  induction n with
  | zero =>
    intro xz5 x7
    exact x_none
  | succ n ih =>
    intro xz5 x7
    rw [lX10_thickAt_52_s]
    exact (x_iload g 6 dX10_thickAt_52 rfl
 (x_iconst g dX10_thickAt_54 kI_3
 (x_icmp_ge g 97 dX10_thickAt_55 rfl
 (fun _ => (x_sub [0, 4, 5] rfl (hK97 xz5)))
 (fun _ => (x_aload_n g 0 dX10_thickAt_58 rfl rfl
 (x_getD g fl_RX10_50 rfl ht dX10_thickAt_59 (fun vr9 hvr9 =>
 (x_iload g 4 dX10_thickAt_62 rfl
 (x_iload g 6 dX10_thickAt_64 rfl
 (x_iload_n g 2 dX10_thickAt_66 rfl rfl
 (x_iload_n g 3 dX10_thickAt_67 rfl rfl
 (x_callVip (As := [.int x4, .int x7, .int x2, .int x3]) g mv_X2_weight mi_X2_weight lk_RX10_358 hvr9 (fun b hb => kX2_weight vr9 x4 x7 x2 x3 M hvr9 _ _ hb) rfl rfl hR ⟨Nat.le_of_ble_eq_true rfl, Nat.le_of_ble_eq_true rfl⟩ (Nat.le_of_ble_eq_true rfl) dX10_thickAt_68 (fun v10 =>
 (x_i2l g dX10_thickAt_71
 (x_nmL (fun vz11 => (x_lstore (L' := [(8, .long vz11), (0, .ref t), (1, .int x1), (2, .int x2), (3, .int x3), (4, .int x4), (5, .long xz5), (7, .int x7)]) g dX10_thickAt_72 hn (Nat.le_of_ble_eq_true rfl) rfl
 (x_lload g 6 dX10_thickAt_74 rfl
 (x_lload g 0 dX10_thickAt_76 rfl
 (x_aload_n g 1 dX10_thickAt_78 rfl rfl
 (x_iload_n g 2 dX10_thickAt_79 rfl rfl
 (x_iload g 5 dX10_thickAt_80 rfl
 (x_iload g 7 dX10_thickAt_82 rfl
 (x_callVlp (As := [.int x1, .int x4, .int x7]) g mv_X10_thickAtCorner mi_X10_thickAtCorner lk_RX10_369 ht (fun b hb => kX10_thickAtCorner t x1 x4 x7 M ht _ _ hb) rfl rfl hR ⟨Nat.le_of_ble_eq_true rfl, Nat.le_of_ble_eq_true rfl⟩ (Nat.le_of_ble_eq_true rfl) dX10_thickAt_84 (fun vz12 =>
 (x_lmul g dX10_thickAt_87
 (x_ladd g dX10_thickAt_88
 (x_nmL (fun vz13 => (x_lstore (L' := [(5, .long vz13), (8, .long vz11), (0, .ref t), (1, .int x1), (2, .int x2), (3, .int x3), (4, .int x4), (7, .int x7)]) g dX10_thickAt_89 hn (Nat.le_of_ble_eq_true rfl) rfl
 (x_iinc (L' := [(7, .int (x7 + 1)), (5, .long vz13), (8, .long vz11), (0, .ref t), (1, .int x1), (2, .int x2), (3, .int x3), (4, .int x4)]) (v := (x7 + 1)) g 7 dX10_thickAt_91 rfl (by rw [kI_1]) hn (Nat.le_of_ble_eq_true rfl) rfl
 (x_goto g 52 dX10_thickAt_94 rfl
 (x_sub [3, 4, 5, 6, 7, 1, 0] rfl (ih vz13 (x7 + 1)))))))))))))))))))))))))))))))))))
def fX10_thickAt (φ : Nat) (t : Nat) (a1 : Int32) (a2 : Int32) (a3 : Int32) (M : Mem) : Option (Int32 × Mem) :=
  bd (fX10_isBed φ t a1 M) fun v1 M2 =>
 if v1 = 0 then
 bd (fX10_deny t (1 : Int32) M2) fun v3 M4 =>
 if v3 = 0 ∨ v3 = 1 then some (v3, M4) else none
 else
 (fX10_isPoint a2 a3 M2).bind fun v6 =>
 if v6 = 0 then
 bd (fX10_deny t (1 : Int32) M2) fun v23 M24 =>
 if v23 = 0 ∨ v23 = 1 then some (v23, M24) else none
 else
 (ldr 2 (M2.2.2 t 7)).bind fun vr7 =>
 (fX2_triangleWith φ vr7 a2 a3 M2).bind fun v8 =>
 if v8 = (-1 : Int32) then
 bd (fX10_deny t (6 : Int32) M2) fun v20 M21 =>
 if v20 = 0 ∨ v20 = 1 then some (v20, M21) else none
 else
 lX10_thickAt_52 (fun (vz14 : Int64) => (ldr 2 (M2.2.2 t 7)).bind fun vr15 =>
 (fX2_turn vr15 v8 M2).bind fun v16 =>
 bd (fX10_tell φ t vz14 (v16.toInt64) M2) fun v17 M18 =>
 if v17 = 0 ∨ v17 = 1 then some (v17, M18) else none) t a1 a2 a3 v8 M2 φ (0 : Int64) (0 : Int32)
set_option maxRecDepth 100000 in
set_option maxHeartbeats 4000000 in
theorem kX10_thickAt (φ : Nat) (t : Nat) (a1 : Int32) (a2 : Int32) (a3 : Int32) (M : Mem) (ht : isO 10 t) (l : Launch) (G : GT) {b : (Int32 × Mem)} (hE : fX10_thickAt φ t a1 a2 a3 M = some b) : Ok l G yX10_thickAt cX10_thickAt 10 (some .boolean) 6 151 [.ref t, .int a1, .int a2, .int a3] M ((fun q : Int32 × Mem => (some (Value.int q.1), q.2)) b).1 ((fun q : Int32 × Mem => (some (Value.int q.1), q.2)) b).2 := by
  refine Ok.ofX (pj := (fun q : Int32 × Mem => (some (Value.int q.1), q.2))) (by decide) (Nat.le_of_ble_eq_true rfl) hE (fun J g hr hG hl hR hn => ?_)
  show X J (fun q : Int32 × Mem => (some (Value.int q.1), q.2)) (fX10_thickAt φ t a1 a2 a3 M) 0 [(0, .ref t), (1, .int a1), (2, .int a2), (3, .int a3)] [] M
  unfold fX10_thickAt
  exact (x_aload_n g 0 dX10_thickAt_0 rfl rfl
 (x_iload_n g 1 dX10_thickAt_1 rfl rfl
 (x_callVi (As := [.int a1]) g mv_X10_isBed mi_X10_isBed lk_RX10_312 ht (fun b Mh_ hb => kX10_isBed φ t a1 M ht _ _ hb) rfl rfl hR ⟨Nat.le_of_ble_eq_true rfl, Nat.le_of_ble_eq_true rfl⟩ (Nat.le_of_ble_eq_true rfl) dX10_thickAt_2 (fun v1 M2 =>
 (x_if_eq g 16 dX10_thickAt_5 rfl
 (fun _ => (x_aload_n g 0 dX10_thickAt_16 rfl rfl
 (x_iconst g dX10_thickAt_17 kI_1
 (x_callVi (As := [.int (1 : Int32)]) g mv_X10_deny mi_X10_deny lk_RX10_118 ht (fun b Mh_ hb => kX10_deny t (1 : Int32) M2 ht _ _ hb) rfl rfl hR ⟨Nat.le_of_ble_eq_true rfl, Nat.le_of_ble_eq_true rfl⟩ (Nat.le_of_ble_eq_true rfl) dX10_thickAt_18 (fun v3 M4 =>
 (x_ck (fun hq5 => x_iret g hr (nbz hq5) rfl dX10_thickAt_21)))))))
 (fun _ => (x_iload_n g 2 dX10_thickAt_8 rfl rfl
 (x_iload_n g 3 dX10_thickAt_9 rfl rfl
 (x_callSip (As := [.int a2, .int a3]) g mv_X10_isPoint ms_X10_isPoint lk_RX10_349 (fun b hb => kX10_isPoint a2 a3 M2 _ _ hb) rfl rfl hR ⟨Nat.le_of_ble_eq_true rfl, Nat.le_of_ble_eq_true rfl⟩ (Nat.le_of_ble_eq_true rfl) dX10_thickAt_10 (fun v6 =>
 (x_if_ne g 22 dX10_thickAt_13 rfl
 (fun _ => (x_aload_n g 0 dX10_thickAt_22 rfl rfl
 (x_getD g fl_RX10_50 rfl ht dX10_thickAt_23 (fun vr7 hvr7 =>
 (x_iload_n g 2 dX10_thickAt_26 rfl rfl
 (x_iload_n g 3 dX10_thickAt_27 rfl rfl
 (x_callVip (As := [.int a2, .int a3]) g mv_X2_triangleWith mi_X2_triangleWith lk_RX10_352 hvr7 (fun b hb => kX2_triangleWith φ vr7 a2 a3 M2 hvr7 _ _ hb) rfl rfl hR ⟨Nat.le_of_ble_eq_true rfl, Nat.le_of_ble_eq_true rfl⟩ (Nat.le_of_ble_eq_true rfl) dX10_thickAt_28 (fun v8 =>
 (x_istore (L' := [(4, .int v8), (0, .ref t), (1, .int a1), (2, .int a2), (3, .int a3)]) g dX10_thickAt_31 hn (Nat.le_of_ble_eq_true rfl) rfl
 (x_iload g 0 dX10_thickAt_33 rfl
 (x_iconst g dX10_thickAt_35 kI_m1
 (x_icmp_ne g 46 dX10_thickAt_36 rfl
 (fun _ => (x_lconst g dX10_thickAt_46 kL_0
 (x_lstore (L' := [(5, .long (0 : Int64)), (4, .int v8), (0, .ref t), (1, .int a1), (2, .int a2), (3, .int a3)]) g dX10_thickAt_47 hn (Nat.le_of_ble_eq_true rfl) rfl
 (x_iconst g dX10_thickAt_49 kI_0
 (x_istore (L' := [(7, .int (0 : Int32)), (5, .long (0 : Int64)), (4, .int v8), (0, .ref t), (1, .int a1), (2, .int a2), (3, .int a3)]) g dX10_thickAt_50 hn (Nat.le_of_ble_eq_true rfl) rfl
 (x_sub [3, 4, 5, 6, 2, 1, 0] rfl (wlX10_thickAt_52 g hr hR hn _ t a1 a2 a3 v8 M2 ht
 (fun vz14 => by exact (x_aload_n g 0 dX10_thickAt_97 rfl rfl
 (x_lload g 2 dX10_thickAt_98 rfl
 (x_aload_n g 0 dX10_thickAt_100 rfl rfl
 (x_getD g fl_RX10_50 rfl ht dX10_thickAt_101 (fun vr15 hvr15 =>
 (x_iload g 1 dX10_thickAt_104 rfl
 (x_callVip (As := [.int v8]) g mv_X2_turn mi_X2_turn lk_RX10_366 hvr15 (fun b hb => kX2_turn vr15 v8 M2 hvr15 _ _ hb) rfl rfl hR ⟨Nat.le_of_ble_eq_true rfl, Nat.le_of_ble_eq_true rfl⟩ (Nat.le_of_ble_eq_true rfl) dX10_thickAt_106 (fun v16 =>
 (x_i2l g dX10_thickAt_109
 (x_callVi (As := [.long vz14, .long (v16.toInt64)]) g mv_X10_tell mi_X10_tell lk_RX10_342 ht (fun b Mh_ hb => kX10_tell φ t vz14 (v16.toInt64) M2 ht _ _ hb) rfl rfl hR ⟨Nat.le_of_ble_eq_true rfl, Nat.le_of_ble_eq_true rfl⟩ (Nat.le_of_ble_eq_true rfl) dX10_thickAt_110 (fun v17 M18 =>
 (x_ck (fun hq19 => x_iret g hr (nbz hq19) rfl dX10_thickAt_113)))))))))))))) φ (0 : Int64) (0 : Int32))))))))
 (fun _ => (x_aload_n g 1 dX10_thickAt_39 rfl rfl
 (x_bipush g dX10_thickAt_40 kB_6
 (x_callVi (As := [.int (6 : Int32)]) g mv_X10_deny mi_X10_deny lk_RX10_118 ht (fun b Mh_ hb => kX10_deny t (6 : Int32) M2 ht _ _ hb) rfl rfl hR ⟨Nat.le_of_ble_eq_true rfl, Nat.le_of_ble_eq_true rfl⟩ (Nat.le_of_ble_eq_true rfl) dX10_thickAt_42 (fun v20 M21 =>
 (x_ck (fun hq22 => x_iret g hr (nbz hq22) rfl dX10_thickAt_45)))))))))))))))))))
 (fun _ => (x_aload_n g 0 dX10_thickAt_16 rfl rfl
 (x_iconst g dX10_thickAt_17 kI_1
 (x_callVi (As := [.int (1 : Int32)]) g mv_X10_deny mi_X10_deny lk_RX10_118 ht (fun b Mh_ hb => kX10_deny t (1 : Int32) M2 ht _ _ hb) rfl rfl hR ⟨Nat.le_of_ble_eq_true rfl, Nat.le_of_ble_eq_true rfl⟩ (Nat.le_of_ble_eq_true rfl) dX10_thickAt_18 (fun v23 M24 =>
 (x_ck (fun hq25 => x_iret g hr (nbz hq25) rfl dX10_thickAt_21))))))))))))))))))
def lX10_sixfoldVolume_5 (K28 : Int64 → Option Int64) (t : Nat) (x1 : Int32) (x2 : Int32) (M : Mem) : Nat → Int64 → Int32 → Option Int64
  | 0, _, _ => none
  | n + 1, xz3, x5 =>
    if (3 : Int32) ≤ x5 then
 K28 xz3
 else
 (fX10_thickAtCorner t x1 x2 x5 M).bind fun vz1 =>
 nm (xz3 + vz1) (fun vz2 =>
 lX10_sixfoldVolume_5 K28 t x1 x2 M n vz2 (x5 + 1))
theorem lX10_sixfoldVolume_5_s (K28 : Int64 → Option Int64) (t : Nat) (x1 : Int32) (x2 : Int32) (M : Mem) (n : Nat) (xz3 : Int64) (x5 : Int32) : lX10_sixfoldVolume_5 K28 t x1 x2 M (n + 1) xz3 x5 =
    if (3 : Int32) ≤ x5 then
 K28 xz3
 else
 (fX10_thickAtCorner t x1 x2 x5 M).bind fun vz1 =>
 nm (xz3 + vz1) (fun vz2 =>
 lX10_sixfoldVolume_5 K28 t x1 x2 M n vz2 (x5 + 1)) := rfl
theorem lX10_sixfoldVolume_5_0 (K28 : Int64 → Option Int64) (t : Nat) (x1 : Int32) (x2 : Int32) (M : Mem) (xz3 : Int64) (x5 : Int32) : lX10_sixfoldVolume_5 K28 t x1 x2 M 0 xz3 x5 = none := rfl
set_option maxRecDepth 100000 in
set_option maxHeartbeats 4000000 in
theorem wlX10_sixfoldVolume_5 {J : JT} (g : Gd J cX10_sixfoldVolume RX10) (hr : Rt J (some .long)) (hR : (JR J).frames = 4 ∧ (JR J).locals = 90) (hn : Jn J = 6) (K28 : Int64 → Option Int64) (t : Nat) (x1 : Int32) (x2 : Int32) (M : Mem) (ht : isO 10 t) (hK28 : ∀ (yz3 : Int64), X J (fun b : Int64 => (some (Value.long b), M)) (K28 yz3) 28 [(0, .ref t), (2, .int x2), (3, .long yz3)] [] M) : ∀ (n : Nat) (xz3 : Int64) (x5 : Int32), X J (fun b : Int64 => (some (Value.long b), M)) (lX10_sixfoldVolume_5 K28 t x1 x2 M n xz3 x5) 5 [(0, .ref t), (1, .int x1), (2, .int x2), (3, .long xz3), (5, .int x5)] [] M := by
  intro n
  induction n with
  | zero =>
    intro xz3 x5
    exact x_none
  | succ n ih =>
    intro xz3 x5
    rw [lX10_sixfoldVolume_5_s]
    exact (x_iload g 4 dX10_sixfoldVolume_5 rfl
 (x_iconst g dX10_sixfoldVolume_7 kI_3
 (x_icmp_ge g 28 dX10_sixfoldVolume_8 rfl
 (fun _ => (x_sub [0, 2, 3] rfl (hK28 xz3)))
 (fun _ => (x_lload_n g 3 dX10_sixfoldVolume_11 rfl rfl
 (x_aload_n g 0 dX10_sixfoldVolume_12 rfl rfl
 (x_iload_n g 1 dX10_sixfoldVolume_13 rfl rfl
 (x_iload_n g 2 dX10_sixfoldVolume_14 rfl rfl
 (x_iload g 4 dX10_sixfoldVolume_15 rfl
 (x_callVlp (As := [.int x1, .int x2, .int x5]) g mv_X10_thickAtCorner mi_X10_thickAtCorner lk_RX10_369 ht (fun b hb => kX10_thickAtCorner t x1 x2 x5 M ht _ _ hb) rfl rfl hR ⟨Nat.le_of_ble_eq_true rfl, Nat.le_of_ble_eq_true rfl⟩ (Nat.le_of_ble_eq_true rfl) dX10_sixfoldVolume_17 (fun vz1 =>
 (x_ladd g dX10_sixfoldVolume_20
 (x_nmL (fun vz2 => (x_lstore_n (L' := [(3, .long vz2), (0, .ref t), (1, .int x1), (2, .int x2), (5, .int x5)]) g dX10_sixfoldVolume_21 rfl hn (Nat.le_of_ble_eq_true rfl) rfl
 (x_iinc (L' := [(5, .int (x5 + 1)), (3, .long vz2), (0, .ref t), (1, .int x1), (2, .int x2)]) (v := (x5 + 1)) g 4 dX10_sixfoldVolume_22 rfl (by rw [kI_1]) hn (Nat.le_of_ble_eq_true rfl) rfl
 (x_goto g 5 dX10_sixfoldVolume_25 rfl
 (x_sub [2, 3, 4, 1, 0] rfl (ih vz2 (x5 + 1))))))))))))))))))))
def fX10_sixfoldVolume (φ : Nat) (t : Nat) (a1 : Int32) (a2 : Int32) (M : Mem) : Option Int64 :=
  lX10_sixfoldVolume_5 (fun (vz3 : Int64) => (ldr 2 (M.2.2 t 7)).bind fun vr4 =>
 (fX2_twiceArea vr4 a2 M).bind fun v5 =>
 some (vz3 * (v5.toInt64))) t a1 a2 M φ (0 : Int64) (0 : Int32)
set_option maxRecDepth 100000 in
set_option maxHeartbeats 4000000 in
theorem kX10_sixfoldVolume (φ : Nat) (t : Nat) (a1 : Int32) (a2 : Int32) (M : Mem) (ht : isO 10 t) (l : Launch) (G : GT) {b : Int64} (hE : fX10_sixfoldVolume φ t a1 a2 M = some b) : Ok l G yX10_sixfoldVolume cX10_sixfoldVolume 6 (some .long) 4 90 [.ref t, .int a1, .int a2] M ((fun b : Int64 => (some (Value.long b), M)) b).1 ((fun b : Int64 => (some (Value.long b), M)) b).2 := by
  refine Ok.ofX (pj := (fun b : Int64 => (some (Value.long b), M))) (by decide) (Nat.le_of_ble_eq_true rfl) hE (fun J g hr hG hl hR hn => ?_)
  show X J (fun b : Int64 => (some (Value.long b), M)) (fX10_sixfoldVolume φ t a1 a2 M) 0 [(0, .ref t), (1, .int a1), (2, .int a2)] [] M
  unfold fX10_sixfoldVolume
  exact (x_lconst g dX10_sixfoldVolume_0 kL_0
 (x_lstore_n (L' := [(3, .long (0 : Int64)), (0, .ref t), (1, .int a1), (2, .int a2)]) g dX10_sixfoldVolume_1 rfl hn (Nat.le_of_ble_eq_true rfl) rfl
 (x_iconst g dX10_sixfoldVolume_2 kI_0
 (x_istore (L' := [(5, .int (0 : Int32)), (3, .long (0 : Int64)), (0, .ref t), (1, .int a1), (2, .int a2)]) g dX10_sixfoldVolume_3 hn (Nat.le_of_ble_eq_true rfl) rfl
 (x_sub [2, 3, 4, 1, 0] rfl (wlX10_sixfoldVolume_5 g hr hR hn _ t a1 a2 M ht
 (fun vz3 => by exact (x_lload_n g 2 dX10_sixfoldVolume_28 rfl rfl
 (x_aload_n g 0 dX10_sixfoldVolume_29 rfl rfl
 (x_getD g fl_RX10_50 rfl ht dX10_sixfoldVolume_30 (fun vr4 hvr4 =>
 (x_iload_n g 1 dX10_sixfoldVolume_33 rfl rfl
 (x_callVip (As := [.int a2]) g mv_X2_twiceArea mi_X2_twiceArea lk_RX10_337 hvr4 (fun b hb => kX2_twiceArea vr4 a2 M hvr4 _ _ hb) rfl rfl hR ⟨Nat.le_of_ble_eq_true rfl, Nat.le_of_ble_eq_true rfl⟩ (Nat.le_of_ble_eq_true rfl) dX10_sixfoldVolume_34 (fun v5 =>
 (x_i2l g dX10_sixfoldVolume_37
 (x_lmul g dX10_sixfoldVolume_38
 (x_lret g hr rfl dX10_sixfoldVolume_39))))))))))) φ (0 : Int64) (0 : Int32)))))))
def fX10_volume (φ : Nat) (t : Nat) (a1 : Int32) (a2 : Int32) (M : Mem) : Option (Int32 × Mem) :=
  bd (fX10_isBed φ t a1 M) fun v1 M2 =>
 if v1 = 0 then
 bd (fX10_deny t (1 : Int32) M2) fun v3 M4 =>
 if v3 = 0 ∨ v3 = 1 then some (v3, M4) else none
 else
 (ldr 2 (M2.2.2 t 7)).bind fun vr6 =>
 (fX2_isTriangle vr6 a2 M2).bind fun v7 =>
 if v7 = 0 then
 bd (fX10_deny t (1 : Int32) M2) fun v17 M18 =>
 if v17 = 0 ∨ v17 = 1 then some (v17, M18) else none
 else
 (ldr 2 (M2.2.2 t 7)).bind fun vr8 =>
 (fX2_isSplit φ vr8 a2 M2).bind fun v9 =>
 if v9 = 0 then
 (fX10_sixfoldVolume φ t a1 a2 M2).bind fun vz10 =>
 bd (fX10_tell φ t vz10 (6 : Int64) M2) fun v11 M12 =>
 if v11 = 0 ∨ v11 = 1 then some (v11, M12) else none
 else
 bd (fX10_deny t (7 : Int32) M2) fun v14 M15 =>
 if v14 = 0 ∨ v14 = 1 then some (v14, M15) else none
set_option maxRecDepth 100000 in
set_option maxHeartbeats 4000000 in
theorem kX10_volume (φ : Nat) (t : Nat) (a1 : Int32) (a2 : Int32) (M : Mem) (ht : isO 10 t) (l : Launch) (G : GT) {b : (Int32 × Mem)} (hE : fX10_volume φ t a1 a2 M = some b) : Ok l G yX10_volume cX10_volume 3 (some .boolean) 6 151 [.ref t, .int a1, .int a2] M ((fun q : Int32 × Mem => (some (Value.int q.1), q.2)) b).1 ((fun q : Int32 × Mem => (some (Value.int q.1), q.2)) b).2 := by
  refine Ok.ofX (pj := (fun q : Int32 × Mem => (some (Value.int q.1), q.2))) (by decide) (Nat.le_of_ble_eq_true rfl) hE (fun J g hr hG hl hR hn => ?_)
  show X J (fun q : Int32 × Mem => (some (Value.int q.1), q.2)) (fX10_volume φ t a1 a2 M) 0 [(0, .ref t), (1, .int a1), (2, .int a2)] [] M
  unfold fX10_volume
  exact (x_aload_n g 0 dX10_volume_0 rfl rfl
 (x_iload_n g 1 dX10_volume_1 rfl rfl
 (x_callVi (As := [.int a1]) g mv_X10_isBed mi_X10_isBed lk_RX10_312 ht (fun b Mh_ hb => kX10_isBed φ t a1 M ht _ _ hb) rfl rfl hR ⟨Nat.le_of_ble_eq_true rfl, Nat.le_of_ble_eq_true rfl⟩ (Nat.le_of_ble_eq_true rfl) dX10_volume_2 (fun v1 M2 =>
 (x_if_eq g 19 dX10_volume_5 rfl
 (fun _ => (x_aload_n g 0 dX10_volume_19 rfl rfl
 (x_iconst g dX10_volume_20 kI_1
 (x_callVi (As := [.int (1 : Int32)]) g mv_X10_deny mi_X10_deny lk_RX10_118 ht (fun b Mh_ hb => kX10_deny t (1 : Int32) M2 ht _ _ hb) rfl rfl hR ⟨Nat.le_of_ble_eq_true rfl, Nat.le_of_ble_eq_true rfl⟩ (Nat.le_of_ble_eq_true rfl) dX10_volume_21 (fun v3 M4 =>
 (x_ck (fun hq5 => x_iret g hr (nbz hq5) rfl dX10_volume_24)))))))
 (fun _ => (x_aload_n g 0 dX10_volume_8 rfl rfl
 (x_getD g fl_RX10_50 rfl ht dX10_volume_9 (fun vr6 hvr6 =>
 (x_iload_n g 2 dX10_volume_12 rfl rfl
 (x_callVip (As := [.int a2]) g mv_X2_isTriangle mi_X2_isTriangle lk_RX10_334 hvr6 (fun b hb => kX2_isTriangle vr6 a2 M2 hvr6 _ _ hb) rfl rfl hR ⟨Nat.le_of_ble_eq_true rfl, Nat.le_of_ble_eq_true rfl⟩ (Nat.le_of_ble_eq_true rfl) dX10_volume_13 (fun v7 =>
 (x_if_ne g 25 dX10_volume_16 rfl
 (fun _ => (x_aload_n g 0 dX10_volume_25 rfl rfl
 (x_getD g fl_RX10_50 rfl ht dX10_volume_26 (fun vr8 hvr8 =>
 (x_iload_n g 2 dX10_volume_29 rfl rfl
 (x_callVip (As := [.int a2]) g mv_X2_isSplit mi_X2_isSplit lk_RX10_346 hvr8 (fun b hb => kX2_isSplit φ vr8 a2 M2 hvr8 _ _ hb) rfl rfl hR ⟨Nat.le_of_ble_eq_true rfl, Nat.le_of_ble_eq_true rfl⟩ (Nat.le_of_ble_eq_true rfl) dX10_volume_30 (fun v9 =>
 (x_if_eq g 43 dX10_volume_33 rfl
 (fun _ => (x_aload_n g 0 dX10_volume_43 rfl rfl
 (x_aload_n g 0 dX10_volume_44 rfl rfl
 (x_iload_n g 1 dX10_volume_45 rfl rfl
 (x_iload_n g 2 dX10_volume_46 rfl rfl
 (x_callVlp (As := [.int a1, .int a2]) g mv_X10_sixfoldVolume mi_X10_sixfoldVolume lk_RX10_372 ht (fun b hb => kX10_sixfoldVolume φ t a1 a2 M2 ht _ _ hb) rfl rfl hR ⟨Nat.le_of_ble_eq_true rfl, Nat.le_of_ble_eq_true rfl⟩ (Nat.le_of_ble_eq_true rfl) dX10_volume_47 (fun vz10 =>
 (x_ldc2 g cw_RX10_376 dX10_volume_50
 (x_callVi (As := [.long vz10, .long (6 : Int64)]) g mv_X10_tell mi_X10_tell lk_RX10_342 ht (fun b Mh_ hb => kX10_tell φ t vz10 (6 : Int64) M2 ht _ _ hb) rfl rfl hR ⟨Nat.le_of_ble_eq_true rfl, Nat.le_of_ble_eq_true rfl⟩ (Nat.le_of_ble_eq_true rfl) dX10_volume_53 (fun v11 M12 =>
 (x_ck (fun hq13 => x_iret g hr (nbz hq13) rfl dX10_volume_56))))))))))))
 (fun _ => (x_aload_n g 0 dX10_volume_36 rfl rfl
 (x_bipush g dX10_volume_37 kB_7
 (x_callVi (As := [.int (7 : Int32)]) g mv_X10_deny mi_X10_deny lk_RX10_118 ht (fun b Mh_ hb => kX10_deny t (7 : Int32) M2 ht _ _ hb) rfl rfl hR ⟨Nat.le_of_ble_eq_true rfl, Nat.le_of_ble_eq_true rfl⟩ (Nat.le_of_ble_eq_true rfl) dX10_volume_39 (fun v14 M15 =>
 (x_ck (fun hq16 => x_iret g hr (nbz hq16) rfl dX10_volume_42)))))))))))))))
 (fun _ => (x_aload_n g 0 dX10_volume_19 rfl rfl
 (x_iconst g dX10_volume_20 kI_1
 (x_callVi (As := [.int (1 : Int32)]) g mv_X10_deny mi_X10_deny lk_RX10_118 ht (fun b Mh_ hb => kX10_deny t (1 : Int32) M2 ht _ _ hb) rfl rfl hR ⟨Nat.le_of_ble_eq_true rfl, Nat.le_of_ble_eq_true rfl⟩ (Nat.le_of_ble_eq_true rfl) dX10_volume_21 (fun v17 M18 =>
 (x_ck (fun hq19 => x_iret g hr (nbz hq19) rfl dX10_volume_24))))))))))))))))))))
def lX10_volumeOf_19 (φ : Nat) (t : Nat) (x1 : Int32) (M : Mem) : Nat → Int64 → Int32 → Option (Int32 × Mem)
  | 0, _, _ => none
  | n + 1, xz2, x4 =>
    (ldr 2 (M.2.2 t 7)).bind fun vr3 =>
 if (M.1 vr3 11) ≤ x4 then
 bd (fX10_tell φ t xz2 (6 : Int64) M) fun v4 M5 =>
 if v4 = 0 ∨ v4 = 1 then some (v4, M5) else none
 else
 (ldr 2 (M.2.2 t 7)).bind fun vr7 =>
 (fX2_isSplit φ vr7 x4 M).bind fun v8 =>
 jn (fun (vz9 : Int64) => lX10_volumeOf_19 φ t x1 M n vz9 (x4 + 1)) (fun J10 => if v8 = 0 then
 (fX10_sixfoldVolume φ t x1 x4 M).bind fun vz11 =>
 nm (xz2 + vz11) (fun vz12 =>
 J10 vz12)
 else
 J10 xz2)
theorem lX10_volumeOf_19_s (φ : Nat) (t : Nat) (x1 : Int32) (M : Mem) (n : Nat) (xz2 : Int64) (x4 : Int32) : lX10_volumeOf_19 φ t x1 M (n + 1) xz2 x4 =
    (ldr 2 (M.2.2 t 7)).bind fun vr3 =>
 if (M.1 vr3 11) ≤ x4 then
 bd (fX10_tell φ t xz2 (6 : Int64) M) fun v4 M5 =>
 if v4 = 0 ∨ v4 = 1 then some (v4, M5) else none
 else
 (ldr 2 (M.2.2 t 7)).bind fun vr7 =>
 (fX2_isSplit φ vr7 x4 M).bind fun v8 =>
 jn (fun (vz9 : Int64) => lX10_volumeOf_19 φ t x1 M n vz9 (x4 + 1)) (fun J10 => if v8 = 0 then
 (fX10_sixfoldVolume φ t x1 x4 M).bind fun vz11 =>
 nm (xz2 + vz11) (fun vz12 =>
 J10 vz12)
 else
 J10 xz2) := rfl
theorem lX10_volumeOf_19_0 (φ : Nat) (t : Nat) (x1 : Int32) (M : Mem) (xz2 : Int64) (x4 : Int32) : lX10_volumeOf_19 φ t x1 M 0 xz2 x4 = none := rfl
set_option maxRecDepth 100000 in
set_option maxHeartbeats 4000000 in
theorem wlX10_volumeOf_19 {J : JT} (g : Gd J cX10_volumeOf RX10) (hr : Rt J (some .boolean)) (hR : (JR J).frames = 6 ∧ (JR J).locals = 151) (hn : Jn J = 5) (φ : Nat) (t : Nat) (x1 : Int32) (M : Mem) (ht : isO 10 t) : ∀ (n : Nat) (xz2 : Int64) (x4 : Int32), X J (fun q : Int32 × Mem => (some (Value.int q.1), q.2)) (lX10_volumeOf_19 φ t x1 M n xz2 x4) 19 [(0, .ref t), (1, .int x1), (2, .long xz2), (4, .int x4)] [] M := by
  intro n
  induction n with
  | zero =>
    intro xz2 x4
    exact x_none
  | succ n ih =>
    intro xz2 x4
    rw [lX10_volumeOf_19_s]
    exact (x_iload g 3 dX10_volumeOf_19 rfl
 (x_aload_n g 0 dX10_volumeOf_21 rfl rfl
 (x_getD g fl_RX10_50 rfl ht dX10_volumeOf_22 (fun vr3 hvr3 =>
 (x_getI g fl_RX10_209 rfl hvr3 dX10_volumeOf_25
 (x_icmp_ge g 59 dX10_volumeOf_28 rfl
 (fun _ => (x_aload_n g 0 dX10_volumeOf_59 rfl rfl
 (x_lload_n g 2 dX10_volumeOf_60 rfl rfl
 (x_ldc2 g cw_RX10_376 dX10_volumeOf_61
 (x_callVi (As := [.long xz2, .long (6 : Int64)]) g mv_X10_tell mi_X10_tell lk_RX10_342 ht (fun b Mh_ hb => kX10_tell φ t xz2 (6 : Int64) M ht _ _ hb) rfl rfl hR ⟨Nat.le_of_ble_eq_true rfl, Nat.le_of_ble_eq_true rfl⟩ (Nat.le_of_ble_eq_true rfl) dX10_volumeOf_64 (fun v4 M5 =>
 (x_ck (fun hq6 => x_iret g hr (nbz hq6) rfl dX10_volumeOf_67))))))))
 (fun _ => (x_aload_n g 0 dX10_volumeOf_31 rfl rfl
 (x_getD g fl_RX10_50 rfl ht dX10_volumeOf_32 (fun vr7 hvr7 =>
 (x_iload g 3 dX10_volumeOf_35 rfl
 (x_callVip (As := [.int x4]) g mv_X2_isSplit mi_X2_isSplit lk_RX10_346 hvr7 (fun b hb => kX2_isSplit φ vr7 x4 M hvr7 _ _ hb) rfl rfl hR ⟨Nat.le_of_ble_eq_true rfl, Nat.le_of_ble_eq_true rfl⟩ (Nat.le_of_ble_eq_true rfl) dX10_volumeOf_37 (fun v8 =>
 (x_jn (fun (J10 : Int64 → Option (Int32 × Mem)) => ∀ (vz9 : Int64), X J (fun q : Int32 × Mem => (some (Value.int q.1), q.2)) (J10 vz9) 53 [(0, .ref t), (1, .int x1), (2, .long vz9), (4, .int x4)] [] M) (fun vz9 => (x_iinc (L' := [(4, .int (x4 + 1)), (0, .ref t), (1, .int x1), (2, .long vz9)]) (v := (x4 + 1)) g 3 dX10_volumeOf_53 rfl (by rw [kI_1]) hn (Nat.le_of_ble_eq_true rfl) rfl
 (x_goto g 19 dX10_volumeOf_56 rfl
 (x_sub [1, 2, 3, 0] rfl (ih vz9 (x4 + 1)))))) (fun J10 hJ10 => (x_if_ne g 53 dX10_volumeOf_40 rfl
 (fun _ => (hJ10 xz2))
 (fun _ => (x_lload_n g 2 dX10_volumeOf_43 rfl rfl
 (x_aload_n g 0 dX10_volumeOf_44 rfl rfl
 (x_iload_n g 1 dX10_volumeOf_45 rfl rfl
 (x_iload g 3 dX10_volumeOf_46 rfl
 (x_callVlp (As := [.int x1, .int x4]) g mv_X10_sixfoldVolume mi_X10_sixfoldVolume lk_RX10_372 ht (fun b hb => kX10_sixfoldVolume φ t x1 x4 M ht _ _ hb) rfl rfl hR ⟨Nat.le_of_ble_eq_true rfl, Nat.le_of_ble_eq_true rfl⟩ (Nat.le_of_ble_eq_true rfl) dX10_volumeOf_48 (fun vz11 =>
 (x_ladd g dX10_volumeOf_51
 (x_nmL (fun vz12 => (x_lstore_n (L' := [(2, .long vz12), (0, .ref t), (1, .int x1), (4, .int x4)]) g dX10_volumeOf_52 rfl hn (Nat.le_of_ble_eq_true rfl) rfl
 (x_sub [1, 2, 0, 3] rfl (hJ10 vz12)))))))))))))))))))))))))))))
def fX10_volumeOf (φ : Nat) (t : Nat) (a1 : Int32) (M : Mem) : Option (Int32 × Mem) :=
  bd (fX10_isBed φ t a1 M) fun v1 M2 =>
 if v1 = 0 then
 bd (fX10_deny t (1 : Int32) M2) fun v13 M14 =>
 if v13 = 0 ∨ v13 = 1 then some (v13, M14) else none
 else
 lX10_volumeOf_19 φ t a1 M2 φ (0 : Int64) (0 : Int32)
set_option maxRecDepth 100000 in
set_option maxHeartbeats 4000000 in
theorem kX10_volumeOf (φ : Nat) (t : Nat) (a1 : Int32) (M : Mem) (ht : isO 10 t) (l : Launch) (G : GT) {b : (Int32 × Mem)} (hE : fX10_volumeOf φ t a1 M = some b) : Ok l G yX10_volumeOf cX10_volumeOf 5 (some .boolean) 6 151 [.ref t, .int a1] M ((fun q : Int32 × Mem => (some (Value.int q.1), q.2)) b).1 ((fun q : Int32 × Mem => (some (Value.int q.1), q.2)) b).2 := by
  refine Ok.ofX (pj := (fun q : Int32 × Mem => (some (Value.int q.1), q.2))) (by decide) (Nat.le_of_ble_eq_true rfl) hE (fun J g hr hG hl hR hn => ?_)
  show X J (fun q : Int32 × Mem => (some (Value.int q.1), q.2)) (fX10_volumeOf φ t a1 M) 0 [(0, .ref t), (1, .int a1)] [] M
  unfold fX10_volumeOf
  exact (x_aload_n g 0 dX10_volumeOf_0 rfl rfl
 (x_iload_n g 1 dX10_volumeOf_1 rfl rfl
 (x_callVi (As := [.int a1]) g mv_X10_isBed mi_X10_isBed lk_RX10_312 ht (fun b Mh_ hb => kX10_isBed φ t a1 M ht _ _ hb) rfl rfl hR ⟨Nat.le_of_ble_eq_true rfl, Nat.le_of_ble_eq_true rfl⟩ (Nat.le_of_ble_eq_true rfl) dX10_volumeOf_2 (fun v1 M2 =>
 (x_if_ne g 14 dX10_volumeOf_5 rfl
 (fun _ => (x_lconst g dX10_volumeOf_14 kL_0
 (x_lstore_n (L' := [(2, .long (0 : Int64)), (0, .ref t), (1, .int a1)]) g dX10_volumeOf_15 rfl hn (Nat.le_of_ble_eq_true rfl) rfl
 (x_iconst g dX10_volumeOf_16 kI_0
 (x_istore (L' := [(4, .int (0 : Int32)), (2, .long (0 : Int64)), (0, .ref t), (1, .int a1)]) g dX10_volumeOf_17 hn (Nat.le_of_ble_eq_true rfl) rfl
 (x_sub [2, 3, 1, 0] rfl (wlX10_volumeOf_19 g hr hR hn  φ t a1 M2 ht φ (0 : Int64) (0 : Int32))))))))
 (fun _ => (x_aload_n g 0 dX10_volumeOf_8 rfl rfl
 (x_iconst g dX10_volumeOf_9 kI_1
 (x_callVi (As := [.int (1 : Int32)]) g mv_X10_deny mi_X10_deny lk_RX10_118 ht (fun b Mh_ hb => kX10_deny t (1 : Int32) M2 ht _ _ hb) rfl rfl hR ⟨Nat.le_of_ble_eq_true rfl, Nat.le_of_ble_eq_true rfl⟩ (Nat.le_of_ble_eq_true rfl) dX10_volumeOf_10 (fun v13 M14 =>
 (x_ck (fun hq15 => x_iret g hr (nbz hq15) rfl dX10_volumeOf_13))))))))))))
def fX2_sideAlongY (t : Nat) (a1 : Int32) (a2 : Int32) (M : Mem) : Option Int32 :=
  (fX2_cornerHole t a1 a2 M).bind fun v1 =>
 ixk v1 6 (
 (fX2_cornerHole t a1 (0 : Int32) M).bind fun v2 =>
 ixk v2 6 (
 some ((M.1 (t + 6) v1.toNatClampNeg) - (M.1 (t + 6) v2.toNatClampNeg))))
set_option maxRecDepth 100000 in
set_option maxHeartbeats 4000000 in
theorem kX2_sideAlongY (t : Nat) (a1 : Int32) (a2 : Int32) (M : Mem) (ht : isO 2 t) (l : Launch) (G : GT) {b : Int32} (hE : fX2_sideAlongY t a1 a2 M = some b) : Ok l G yX2_sideAlongY cX2_sideAlongY 3 (some .int) 1 22 [.ref t, .int a1, .int a2] M ((fun b : Int32 => (some (Value.int b), M)) b).1 ((fun b : Int32 => (some (Value.int b), M)) b).2 := by
  refine Ok.ofX (pj := (fun b : Int32 => (some (Value.int b), M))) (by decide) (Nat.le_of_ble_eq_true rfl) hE (fun J g hr hG hl hR hn => ?_)
  show X J (fun b : Int32 => (some (Value.int b), M)) (fX2_sideAlongY t a1 a2 M) 0 [(0, .ref t), (1, .int a1), (2, .int a2)] [] M
  unfold fX2_sideAlongY
  exact (x_aload_n g 0 dX2_sideAlongY_0 rfl rfl
 (x_getS g 6 fl_RX2_35 rfl ht dX2_sideAlongY_1
 (x_aload_n g 0 dX2_sideAlongY_4 rfl rfl
 (x_iload_n g 1 dX2_sideAlongY_5 rfl rfl
 (x_iload_n g 2 dX2_sideAlongY_6 rfl rfl
 (x_callVip (As := [.int a1, .int a2]) g mv_X2_cornerHole mi_X2_cornerHole lk_RX2_120 ht (fun b hb => kX2_cornerHole t a1 a2 M ht _ _ hb) rfl rfl hR ⟨Nat.le_of_ble_eq_true rfl, Nat.le_of_ble_eq_true rfl⟩ (Nat.le_of_ble_eq_true rfl) dX2_sideAlongY_7 (fun v1 =>
 (x_iald g (so_2_7 ht) dX2_sideAlongY_10
 (x_aload_n g 0 dX2_sideAlongY_11 rfl rfl
 (x_getS g 6 fl_RX2_35 rfl ht dX2_sideAlongY_12
 (x_aload_n g 0 dX2_sideAlongY_15 rfl rfl
 (x_iload_n g 1 dX2_sideAlongY_16 rfl rfl
 (x_iconst g dX2_sideAlongY_17 kI_0
 (x_callVip (As := [.int a1, .int (0 : Int32)]) g mv_X2_cornerHole mi_X2_cornerHole lk_RX2_120 ht (fun b hb => kX2_cornerHole t a1 (0 : Int32) M ht _ _ hb) rfl rfl hR ⟨Nat.le_of_ble_eq_true rfl, Nat.le_of_ble_eq_true rfl⟩ (Nat.le_of_ble_eq_true rfl) dX2_sideAlongY_18 (fun v2 =>
 (x_iald g (so_2_7 ht) dX2_sideAlongY_21
 (x_isub g dX2_sideAlongY_22
 (x_iret g hr rfl rfl dX2_sideAlongY_23))))))))))))))))))
def fX2_sideAlongX (t : Nat) (a1 : Int32) (a2 : Int32) (M : Mem) : Option Int32 :=
  (fX2_cornerHole t a1 a2 M).bind fun v1 =>
 ixk v1 6 (
 (fX2_cornerHole t a1 (0 : Int32) M).bind fun v2 =>
 ixk v2 6 (
 some ((M.1 (t + 5) v1.toNatClampNeg) - (M.1 (t + 5) v2.toNatClampNeg))))
set_option maxRecDepth 100000 in
set_option maxHeartbeats 4000000 in
theorem kX2_sideAlongX (t : Nat) (a1 : Int32) (a2 : Int32) (M : Mem) (ht : isO 2 t) (l : Launch) (G : GT) {b : Int32} (hE : fX2_sideAlongX t a1 a2 M = some b) : Ok l G yX2_sideAlongX cX2_sideAlongX 3 (some .int) 1 22 [.ref t, .int a1, .int a2] M ((fun b : Int32 => (some (Value.int b), M)) b).1 ((fun b : Int32 => (some (Value.int b), M)) b).2 := by
  refine Ok.ofX (pj := (fun b : Int32 => (some (Value.int b), M))) (by decide) (Nat.le_of_ble_eq_true rfl) hE (fun J g hr hG hl hR hn => ?_)
  show X J (fun b : Int32 => (some (Value.int b), M)) (fX2_sideAlongX t a1 a2 M) 0 [(0, .ref t), (1, .int a1), (2, .int a2)] [] M
  unfold fX2_sideAlongX
  exact (x_aload_n g 0 dX2_sideAlongX_0 rfl rfl
 (x_getS g 5 fl_RX2_32 rfl ht dX2_sideAlongX_1
 (x_aload_n g 0 dX2_sideAlongX_4 rfl rfl
 (x_iload_n g 1 dX2_sideAlongX_5 rfl rfl
 (x_iload_n g 2 dX2_sideAlongX_6 rfl rfl
 (x_callVip (As := [.int a1, .int a2]) g mv_X2_cornerHole mi_X2_cornerHole lk_RX2_120 ht (fun b hb => kX2_cornerHole t a1 a2 M ht _ _ hb) rfl rfl hR ⟨Nat.le_of_ble_eq_true rfl, Nat.le_of_ble_eq_true rfl⟩ (Nat.le_of_ble_eq_true rfl) dX2_sideAlongX_7 (fun v1 =>
 (x_iald g (so_2_6 ht) dX2_sideAlongX_10
 (x_aload_n g 0 dX2_sideAlongX_11 rfl rfl
 (x_getS g 5 fl_RX2_32 rfl ht dX2_sideAlongX_12
 (x_aload_n g 0 dX2_sideAlongX_15 rfl rfl
 (x_iload_n g 1 dX2_sideAlongX_16 rfl rfl
 (x_iconst g dX2_sideAlongX_17 kI_0
 (x_callVip (As := [.int a1, .int (0 : Int32)]) g mv_X2_cornerHole mi_X2_cornerHole lk_RX2_120 ht (fun b hb => kX2_cornerHole t a1 (0 : Int32) M ht _ _ hb) rfl rfl hR ⟨Nat.le_of_ble_eq_true rfl, Nat.le_of_ble_eq_true rfl⟩ (Nat.le_of_ble_eq_true rfl) dX2_sideAlongX_18 (fun v2 =>
 (x_iald g (so_2_6 ht) dX2_sideAlongX_21
 (x_isub g dX2_sideAlongX_22
 (x_iret g hr rfl rfl dX2_sideAlongX_23))))))))))))))))))
def fX10_tilt (φ : Nat) (t : Nat) (a1 : Int32) (a2 : Int32) (a3 : Int32) (M : Mem) : Option (Int32 × Mem) :=
  bd (fX10_isBed φ t a1 M) fun v1 M2 =>
 if v1 = 0 then
 bd (fX10_deny t (1 : Int32) M2) fun v3 M4 =>
 if v3 = 0 ∨ v3 = 1 then some (v3, M4) else none
 else
 (ldr 2 (M2.2.2 t 7)).bind fun vr6 =>
 (fX2_isTriangle vr6 a2 M2).bind fun v7 =>
 if v7 = 0 then
 bd (fX10_deny t (1 : Int32) M2) fun v8 M9 =>
 if v8 = 0 ∨ v8 = 1 then some (v8, M9) else none
 else
 (fX10_isWithin a3 (0 : Int32) (1 : Int32) M2).bind fun v11 =>
 if v11 = 0 then
 bd (fX10_deny t (1 : Int32) M2) fun v43 M44 =>
 if v43 = 0 ∨ v43 = 1 then some (v43, M44) else none
 else
 (ldr 2 (M2.2.2 t 7)).bind fun vr12 =>
 (fX2_isSplit φ vr12 a2 M2).bind fun v13 =>
 if v13 = 0 then
 (fX10_hasAtCorners φ t a1 a2 M2).bind fun v17 =>
 if v17 = 0 then
 bd (fX10_deny t (7 : Int32) M2) fun v40 M41 =>
 if v40 = 0 ∨ v40 = 1 then some (v40, M41) else none
 else
 (fX10_depthAtCorner φ t a1 a2 (0 : Int32) M2).bind fun vz18 =>
 (fX10_depthAtCorner φ t a1 a2 (1 : Int32) M2).bind fun vz19 =>
 nm (vz19 - vz18) (fun vz20 =>
 (fX10_depthAtCorner φ t a1 a2 (2 : Int32) M2).bind fun vz21 =>
 nm (vz21 - vz18) (fun vz22 =>
 jn (fun (vz23 : Int64) => (ldr 2 (M2.2.2 t 7)).bind fun vr25 =>
 (fX2_turn vr25 a2 M2).bind fun v26 =>
 bd (fX10_tell φ t vz23 (v26.toInt64) M2) fun v27 M28 =>
 if v27 = 0 ∨ v27 = 1 then some (v27, M28) else none) (fun J24 => if a3 = 0 then
 (ldr 2 (M2.2.2 t 7)).bind fun vr35 =>
 (fX2_sideAlongY vr35 a2 (2 : Int32) M2).bind fun v36 =>
 (ldr 2 (M2.2.2 t 7)).bind fun vr37 =>
 (fX2_sideAlongY vr37 a2 (1 : Int32) M2).bind fun v38 =>
 nm ((vz20 * (v36.toInt64)) - (vz22 * (v38.toInt64))) (fun vz39 =>
 J24 vz39)
 else
 (ldr 2 (M2.2.2 t 7)).bind fun vr30 =>
 (fX2_sideAlongX vr30 a2 (1 : Int32) M2).bind fun v31 =>
 (ldr 2 (M2.2.2 t 7)).bind fun vr32 =>
 (fX2_sideAlongX vr32 a2 (2 : Int32) M2).bind fun v33 =>
 nm ((vz22 * (v31.toInt64)) - (vz20 * (v33.toInt64))) (fun vz34 =>
 J24 vz34))))
 else
 bd (fX10_deny t (7 : Int32) M2) fun v14 M15 =>
 if v14 = 0 ∨ v14 = 1 then some (v14, M15) else none
set_option maxRecDepth 100000 in
set_option maxHeartbeats 4000000 in
theorem kX10_tilt (φ : Nat) (t : Nat) (a1 : Int32) (a2 : Int32) (a3 : Int32) (M : Mem) (ht : isO 10 t) (l : Launch) (G : GT) {b : (Int32 × Mem)} (hE : fX10_tilt φ t a1 a2 a3 M = some b) : Ok l G yX10_tilt cX10_tilt 12 (some .boolean) 6 151 [.ref t, .int a1, .int a2, .int a3] M ((fun q : Int32 × Mem => (some (Value.int q.1), q.2)) b).1 ((fun q : Int32 × Mem => (some (Value.int q.1), q.2)) b).2 := by
  refine Ok.ofX (pj := (fun q : Int32 × Mem => (some (Value.int q.1), q.2))) (by decide) (Nat.le_of_ble_eq_true rfl) hE (fun J g hr hG hl hR hn => ?_)
  show X J (fun q : Int32 × Mem => (some (Value.int q.1), q.2)) (fX10_tilt φ t a1 a2 a3 M) 0 [(0, .ref t), (1, .int a1), (2, .int a2), (3, .int a3)] [] M
  unfold fX10_tilt
  exact (x_aload_n g 0 dX10_tilt_0 rfl rfl
 (x_iload_n g 1 dX10_tilt_1 rfl rfl
 (x_callVi (As := [.int a1]) g mv_X10_isBed mi_X10_isBed lk_RX10_312 ht (fun b Mh_ hb => kX10_isBed φ t a1 M ht _ _ hb) rfl rfl hR ⟨Nat.le_of_ble_eq_true rfl, Nat.le_of_ble_eq_true rfl⟩ (Nat.le_of_ble_eq_true rfl) dX10_tilt_2 (fun v1 M2 =>
 (x_if_eq g 28 dX10_tilt_5 rfl
 (fun _ => (x_aload_n g 0 dX10_tilt_28 rfl rfl
 (x_iconst g dX10_tilt_29 kI_1
 (x_callVi (As := [.int (1 : Int32)]) g mv_X10_deny mi_X10_deny lk_RX10_118 ht (fun b Mh_ hb => kX10_deny t (1 : Int32) M2 ht _ _ hb) rfl rfl hR ⟨Nat.le_of_ble_eq_true rfl, Nat.le_of_ble_eq_true rfl⟩ (Nat.le_of_ble_eq_true rfl) dX10_tilt_30 (fun v3 M4 =>
 (x_ck (fun hq5 => x_iret g hr (nbz hq5) rfl dX10_tilt_33)))))))
 (fun _ => (x_aload_n g 0 dX10_tilt_8 rfl rfl
 (x_getD g fl_RX10_50 rfl ht dX10_tilt_9 (fun vr6 hvr6 =>
 (x_iload_n g 2 dX10_tilt_12 rfl rfl
 (x_callVip (As := [.int a2]) g mv_X2_isTriangle mi_X2_isTriangle lk_RX10_334 hvr6 (fun b hb => kX2_isTriangle vr6 a2 M2 hvr6 _ _ hb) rfl rfl hR ⟨Nat.le_of_ble_eq_true rfl, Nat.le_of_ble_eq_true rfl⟩ (Nat.le_of_ble_eq_true rfl) dX10_tilt_13 (fun v7 =>
 (x_if_eq g 28 dX10_tilt_16 rfl
 (fun _ => (x_aload_n g 0 dX10_tilt_28 rfl rfl
 (x_iconst g dX10_tilt_29 kI_1
 (x_callVi (As := [.int (1 : Int32)]) g mv_X10_deny mi_X10_deny lk_RX10_118 ht (fun b Mh_ hb => kX10_deny t (1 : Int32) M2 ht _ _ hb) rfl rfl hR ⟨Nat.le_of_ble_eq_true rfl, Nat.le_of_ble_eq_true rfl⟩ (Nat.le_of_ble_eq_true rfl) dX10_tilt_30 (fun v8 M9 =>
 (x_ck (fun hq10 => x_iret g hr (nbz hq10) rfl dX10_tilt_33)))))))
 (fun _ => (x_iload_n g 3 dX10_tilt_19 rfl rfl
 (x_iconst g dX10_tilt_20 kI_0
 (x_iconst g dX10_tilt_21 kI_1
 (x_callSip (As := [.int a3, .int (0 : Int32), .int (1 : Int32)]) g mv_X10_isWithin ms_X10_isWithin lk_RX10_114 (fun b hb => kX10_isWithin a3 (0 : Int32) (1 : Int32) M2 _ _ hb) rfl rfl hR ⟨Nat.le_of_ble_eq_true rfl, Nat.le_of_ble_eq_true rfl⟩ (Nat.le_of_ble_eq_true rfl) dX10_tilt_22 (fun v11 =>
 (x_if_ne g 34 dX10_tilt_25 rfl
 (fun _ => (x_aload_n g 0 dX10_tilt_34 rfl rfl
 (x_getD g fl_RX10_50 rfl ht dX10_tilt_35 (fun vr12 hvr12 =>
 (x_iload_n g 2 dX10_tilt_38 rfl rfl
 (x_callVip (As := [.int a2]) g mv_X2_isSplit mi_X2_isSplit lk_RX10_346 hvr12 (fun b hb => kX2_isSplit φ vr12 a2 M2 hvr12 _ _ hb) rfl rfl hR ⟨Nat.le_of_ble_eq_true rfl, Nat.le_of_ble_eq_true rfl⟩ (Nat.le_of_ble_eq_true rfl) dX10_tilt_39 (fun v13 =>
 (x_if_ne g 54 dX10_tilt_42 rfl
 (fun _ => (x_aload_n g 0 dX10_tilt_54 rfl rfl
 (x_bipush g dX10_tilt_55 kB_7
 (x_callVi (As := [.int (7 : Int32)]) g mv_X10_deny mi_X10_deny lk_RX10_118 ht (fun b Mh_ hb => kX10_deny t (7 : Int32) M2 ht _ _ hb) rfl rfl hR ⟨Nat.le_of_ble_eq_true rfl, Nat.le_of_ble_eq_true rfl⟩ (Nat.le_of_ble_eq_true rfl) dX10_tilt_57 (fun v14 M15 =>
 (x_ck (fun hq16 => x_iret g hr (nbz hq16) rfl dX10_tilt_60)))))))
 (fun _ => (x_aload_n g 0 dX10_tilt_45 rfl rfl
 (x_iload_n g 1 dX10_tilt_46 rfl rfl
 (x_iload_n g 2 dX10_tilt_47 rfl rfl
 (x_callVip (As := [.int a1, .int a2]) g mv_X10_hasAtCorners mi_X10_hasAtCorners lk_RX10_355 ht (fun b hb => kX10_hasAtCorners φ t a1 a2 M2 ht _ _ hb) rfl rfl hR ⟨Nat.le_of_ble_eq_true rfl, Nat.le_of_ble_eq_true rfl⟩ (Nat.le_of_ble_eq_true rfl) dX10_tilt_48 (fun v17 =>
 (x_if_ne g 61 dX10_tilt_51 rfl
 (fun _ => (x_aload_n g 0 dX10_tilt_61 rfl rfl
 (x_iload_n g 1 dX10_tilt_62 rfl rfl
 (x_iload_n g 2 dX10_tilt_63 rfl rfl
 (x_iconst g dX10_tilt_64 kI_0
 (x_callVlp (As := [.int a1, .int a2, .int (0 : Int32)]) g mv_X10_depthAtCorner mi_X10_depthAtCorner lk_RX10_362 ht (fun b hb => kX10_depthAtCorner φ t a1 a2 (0 : Int32) M2 ht _ _ hb) rfl rfl hR ⟨Nat.le_of_ble_eq_true rfl, Nat.le_of_ble_eq_true rfl⟩ (Nat.le_of_ble_eq_true rfl) dX10_tilt_65 (fun vz18 =>
 (x_lstore (L' := [(4, .long vz18), (0, .ref t), (1, .int a1), (2, .int a2), (3, .int a3)]) g dX10_tilt_68 hn (Nat.le_of_ble_eq_true rfl) rfl
 (x_aload_n g 1 dX10_tilt_70 rfl rfl
 (x_iload_n g 2 dX10_tilt_71 rfl rfl
 (x_iload_n g 3 dX10_tilt_72 rfl rfl
 (x_iconst g dX10_tilt_73 kI_1
 (x_callVlp (As := [.int a1, .int a2, .int (1 : Int32)]) g mv_X10_depthAtCorner mi_X10_depthAtCorner lk_RX10_362 ht (fun b hb => kX10_depthAtCorner φ t a1 a2 (1 : Int32) M2 ht _ _ hb) rfl rfl hR ⟨Nat.le_of_ble_eq_true rfl, Nat.le_of_ble_eq_true rfl⟩ (Nat.le_of_ble_eq_true rfl) dX10_tilt_74 (fun vz19 =>
 (x_lload g 0 dX10_tilt_77 rfl
 (x_lsub g dX10_tilt_79
 (x_nmL (fun vz20 => (x_lstore (L' := [(6, .long vz20), (4, .long vz18), (0, .ref t), (1, .int a1), (2, .int a2), (3, .int a3)]) g dX10_tilt_80 hn (Nat.le_of_ble_eq_true rfl) rfl
 (x_aload_n g 2 dX10_tilt_82 rfl rfl
 (x_iload_n g 3 dX10_tilt_83 rfl rfl
 (x_iload_n g 4 dX10_tilt_84 rfl rfl
 (x_iconst g dX10_tilt_85 kI_2
 (x_callVlp (As := [.int a1, .int a2, .int (2 : Int32)]) g mv_X10_depthAtCorner mi_X10_depthAtCorner lk_RX10_362 ht (fun b hb => kX10_depthAtCorner φ t a1 a2 (2 : Int32) M2 ht _ _ hb) rfl rfl hR ⟨Nat.le_of_ble_eq_true rfl, Nat.le_of_ble_eq_true rfl⟩ (Nat.le_of_ble_eq_true rfl) dX10_tilt_86 (fun vz21 =>
 (x_lload g 1 dX10_tilt_89 rfl
 (x_lsub g dX10_tilt_91
 (x_nmL (fun vz22 => (x_lstore (L' := [(8, .long vz22), (6, .long vz20), (4, .long vz18), (0, .ref t), (1, .int a1), (2, .int a2), (3, .int a3)]) g dX10_tilt_92 hn (Nat.le_of_ble_eq_true rfl) rfl
 (x_iload_n g 6 dX10_tilt_94 rfl rfl
 (x_jn (fun (J24 : Int64 → Option (Int32 × Mem)) => ∀ (vz23 : Int64), X J (fun q : Int32 × Mem => (some (Value.int q.1), q.2)) (J24 vz23) 159 [(0, .ref t), (2, .int a2), (10, .long vz23)] [] M2) (fun vz23 => (x_aload_n g 0 dX10_tilt_159 rfl rfl
 (x_lload g 2 dX10_tilt_160 rfl
 (x_aload_n g 0 dX10_tilt_162 rfl rfl
 (x_getD g fl_RX10_50 rfl ht dX10_tilt_163 (fun vr25 hvr25 =>
 (x_iload_n g 1 dX10_tilt_166 rfl rfl
 (x_callVip (As := [.int a2]) g mv_X2_turn mi_X2_turn lk_RX10_366 hvr25 (fun b hb => kX2_turn vr25 a2 M2 hvr25 _ _ hb) rfl rfl hR ⟨Nat.le_of_ble_eq_true rfl, Nat.le_of_ble_eq_true rfl⟩ (Nat.le_of_ble_eq_true rfl) dX10_tilt_167 (fun v26 =>
 (x_i2l g dX10_tilt_170
 (x_callVi (As := [.long vz23, .long (v26.toInt64)]) g mv_X10_tell mi_X10_tell lk_RX10_342 ht (fun b Mh_ hb => kX10_tell φ t vz23 (v26.toInt64) M2 ht _ _ hb) rfl rfl hR ⟨Nat.le_of_ble_eq_true rfl, Nat.le_of_ble_eq_true rfl⟩ (Nat.le_of_ble_eq_true rfl) dX10_tilt_171 (fun v27 M28 =>
 (x_ck (fun hq29 => x_iret g hr (nbz hq29) rfl dX10_tilt_174)))))))))))))) (fun J24 hJ24 => (x_if_ne g 130 dX10_tilt_95 rfl
 (fun _ => (x_lload g 0 dX10_tilt_130 rfl
 (x_aload_n g 3 dX10_tilt_132 rfl rfl
 (x_getD g fl_RX10_50 rfl ht dX10_tilt_133 (fun vr30 hvr30 =>
 (x_iload_n g 5 dX10_tilt_136 rfl rfl
 (x_iconst g dX10_tilt_137 kI_1
 (x_callVip (As := [.int a2, .int (1 : Int32)]) g mv_X2_sideAlongX mi_X2_sideAlongX lk_RX10_381 hvr30 (fun b hb => kX2_sideAlongX vr30 a2 (1 : Int32) M2 hvr30 _ _ hb) rfl rfl hR ⟨Nat.le_of_ble_eq_true rfl, Nat.le_of_ble_eq_true rfl⟩ (Nat.le_of_ble_eq_true rfl) dX10_tilt_138 (fun v31 =>
 (x_i2l g dX10_tilt_141
 (x_lmul g dX10_tilt_142
 (x_lload g 1 dX10_tilt_143 rfl
 (x_aload_n g 3 dX10_tilt_145 rfl rfl
 (x_getD g fl_RX10_50 rfl ht dX10_tilt_146 (fun vr32 hvr32 =>
 (x_iload_n g 5 dX10_tilt_149 rfl rfl
 (x_iconst g dX10_tilt_150 kI_2
 (x_callVip (As := [.int a2, .int (2 : Int32)]) g mv_X2_sideAlongX mi_X2_sideAlongX lk_RX10_381 hvr32 (fun b hb => kX2_sideAlongX vr32 a2 (2 : Int32) M2 hvr32 _ _ hb) rfl rfl hR ⟨Nat.le_of_ble_eq_true rfl, Nat.le_of_ble_eq_true rfl⟩ (Nat.le_of_ble_eq_true rfl) dX10_tilt_151 (fun v33 =>
 (x_i2l g dX10_tilt_154
 (x_lmul g dX10_tilt_155
 (x_lsub g dX10_tilt_156
 (x_nmL (fun vz34 => (x_lstore (L' := [(10, .long vz34), (8, .long vz22), (6, .long vz20), (4, .long vz18), (0, .ref t), (1, .int a1), (2, .int a2), (3, .int a3)]) g dX10_tilt_157 hn (Nat.le_of_ble_eq_true rfl) rfl
 (x_sub [4, 6, 0] rfl (hJ24 vz34)))))))))))))))))))))))))))
 (fun _ => (x_lload g 1 dX10_tilt_98 rfl
 (x_aload_n g 3 dX10_tilt_100 rfl rfl
 (x_getD g fl_RX10_50 rfl ht dX10_tilt_101 (fun vr35 hvr35 =>
 (x_iload_n g 5 dX10_tilt_104 rfl rfl
 (x_iconst g dX10_tilt_105 kI_2
 (x_callVip (As := [.int a2, .int (2 : Int32)]) g mv_X2_sideAlongY mi_X2_sideAlongY lk_RX10_378 hvr35 (fun b hb => kX2_sideAlongY vr35 a2 (2 : Int32) M2 hvr35 _ _ hb) rfl rfl hR ⟨Nat.le_of_ble_eq_true rfl, Nat.le_of_ble_eq_true rfl⟩ (Nat.le_of_ble_eq_true rfl) dX10_tilt_106 (fun v36 =>
 (x_i2l g dX10_tilt_109
 (x_lmul g dX10_tilt_110
 (x_lload g 0 dX10_tilt_111 rfl
 (x_aload_n g 3 dX10_tilt_113 rfl rfl
 (x_getD g fl_RX10_50 rfl ht dX10_tilt_114 (fun vr37 hvr37 =>
 (x_iload_n g 5 dX10_tilt_117 rfl rfl
 (x_iconst g dX10_tilt_118 kI_1
 (x_callVip (As := [.int a2, .int (1 : Int32)]) g mv_X2_sideAlongY mi_X2_sideAlongY lk_RX10_378 hvr37 (fun b hb => kX2_sideAlongY vr37 a2 (1 : Int32) M2 hvr37 _ _ hb) rfl rfl hR ⟨Nat.le_of_ble_eq_true rfl, Nat.le_of_ble_eq_true rfl⟩ (Nat.le_of_ble_eq_true rfl) dX10_tilt_119 (fun v38 =>
 (x_i2l g dX10_tilt_122
 (x_lmul g dX10_tilt_123
 (x_lsub g dX10_tilt_124
 (x_nmL (fun vz39 => (x_lstore (L' := [(10, .long vz39), (8, .long vz22), (6, .long vz20), (4, .long vz18), (0, .ref t), (1, .int a1), (2, .int a2), (3, .int a3)]) g dX10_tilt_125 hn (Nat.le_of_ble_eq_true rfl) rfl
 (x_goto g 159 dX10_tilt_127 rfl
 (x_sub [4, 6, 0] rfl (hJ24 vz39))))))))))))))))))))))))))))))))))))))))))))))))))))))))))))))
 (fun _ => (x_aload_n g 0 dX10_tilt_54 rfl rfl
 (x_bipush g dX10_tilt_55 kB_7
 (x_callVi (As := [.int (7 : Int32)]) g mv_X10_deny mi_X10_deny lk_RX10_118 ht (fun b Mh_ hb => kX10_deny t (7 : Int32) M2 ht _ _ hb) rfl rfl hR ⟨Nat.le_of_ble_eq_true rfl, Nat.le_of_ble_eq_true rfl⟩ (Nat.le_of_ble_eq_true rfl) dX10_tilt_57 (fun v40 M41 =>
 (x_ck (fun hq42 => x_iret g hr (nbz hq42) rfl dX10_tilt_60))))))))))))))))))))))
 (fun _ => (x_aload_n g 0 dX10_tilt_28 rfl rfl
 (x_iconst g dX10_tilt_29 kI_1
 (x_callVi (As := [.int (1 : Int32)]) g mv_X10_deny mi_X10_deny lk_RX10_118 ht (fun b Mh_ hb => kX10_deny t (1 : Int32) M2 ht _ _ hb) rfl rfl hR ⟨Nat.le_of_ble_eq_true rfl, Nat.le_of_ble_eq_true rfl⟩ (Nat.le_of_ble_eq_true rfl) dX10_tilt_30 (fun v43 M44 =>
 (x_ck (fun hq45 => x_iret g hr (nbz hq45) rfl dX10_tilt_33)))))))))))))))))))))))))))
def lX10_deepest_21 (φ : Nat) (t : Nat) (x1 : Int32) (M : Mem) : Nat → Int32 → Int32 → Int32 → Option (Int32 × Mem)
  | 0, _, _, _ => none
  | n + 1, x2, x3, x4 =>
    (ldr 2 (M.2.2 t 7)).bind fun vr3 =>
 if (M.1 vr3 4) ≤ x4 then
 bd (fX10_answer t x2 M) fun v4 M5 =>
 some (v4, M5)
 else
 (fX0_layerIn (t + 57) x1 x4 M).bind fun v6 =>
 jn (fun (v7 : Int32) (v8 : Int32) => lX10_deepest_21 φ t x1 M n v7 v8 (x4 + 1)) (fun J9 => if v6 = (-1 : Int32) then
 J9 x2 x3
 else
 (ldr 2 (M.2.2 t 7)).bind fun vr10 =>
 (fX2_depthOf φ vr10 x4 v6 M).bind fun v11 =>
 if v11 ≤ x3 then
 J9 x2 x3
 else
 (ldr 2 (M.2.2 t 7)).bind fun vr12 =>
 (fX2_depthOf φ vr12 x4 v6 M).bind fun v13 =>
 J9 x4 v13)
theorem lX10_deepest_21_s (φ : Nat) (t : Nat) (x1 : Int32) (M : Mem) (n : Nat) (x2 : Int32) (x3 : Int32) (x4 : Int32) : lX10_deepest_21 φ t x1 M (n + 1) x2 x3 x4 =
    (ldr 2 (M.2.2 t 7)).bind fun vr3 =>
 if (M.1 vr3 4) ≤ x4 then
 bd (fX10_answer t x2 M) fun v4 M5 =>
 some (v4, M5)
 else
 (fX0_layerIn (t + 57) x1 x4 M).bind fun v6 =>
 jn (fun (v7 : Int32) (v8 : Int32) => lX10_deepest_21 φ t x1 M n v7 v8 (x4 + 1)) (fun J9 => if v6 = (-1 : Int32) then
 J9 x2 x3
 else
 (ldr 2 (M.2.2 t 7)).bind fun vr10 =>
 (fX2_depthOf φ vr10 x4 v6 M).bind fun v11 =>
 if v11 ≤ x3 then
 J9 x2 x3
 else
 (ldr 2 (M.2.2 t 7)).bind fun vr12 =>
 (fX2_depthOf φ vr12 x4 v6 M).bind fun v13 =>
 J9 x4 v13) := rfl
theorem lX10_deepest_21_0 (φ : Nat) (t : Nat) (x1 : Int32) (M : Mem) (x2 : Int32) (x3 : Int32) (x4 : Int32) : lX10_deepest_21 φ t x1 M 0 x2 x3 x4 = none := rfl
set_option maxRecDepth 100000 in
set_option maxHeartbeats 4000000 in
theorem wlX10_deepest_21 {J : JT} (g : Gd J cX10_deepest RX10) (hr : Rt J (some .int)) (hR : (JR J).frames = 6 ∧ (JR J).locals = 151) (hn : Jn J = 6) (φ : Nat) (t : Nat) (x1 : Int32) (M : Mem) (ht : isO 10 t) : ∀ (n : Nat) (x2 : Int32) (x3 : Int32) (x4 : Int32), X J (fun q : Int32 × Mem => (some (Value.int q.1), q.2)) (lX10_deepest_21 φ t x1 M n x2 x3 x4) 21 [(0, .ref t), (1, .int x1), (2, .int x2), (3, .int x3), (4, .int x4)] [] M := by
  intro n
  induction n with
  | zero =>
    intro x2 x3 x4
    exact x_none
  | succ n ih =>
    intro x2 x3 x4
    rw [lX10_deepest_21_s]
    exact (x_iload g 4 dX10_deepest_21 rfl
 (x_aload_n g 0 dX10_deepest_23 rfl rfl
 (x_getD g fl_RX10_50 rfl ht dX10_deepest_24 (fun vr3 hvr3 =>
 (x_getI g fl_RX10_184 rfl hvr3 dX10_deepest_27
 (x_icmp_ge g 87 dX10_deepest_30 rfl
 (fun _ => (x_aload_n g 0 dX10_deepest_87 rfl rfl
 (x_iload_n g 2 dX10_deepest_88 rfl rfl
 (x_callVi (As := [.int x2]) g mv_X10_answer mi_X10_answer lk_RX10_187 ht (fun b Mh_ hb => kX10_answer t x2 M ht _ _ hb) rfl rfl hR ⟨Nat.le_of_ble_eq_true rfl, Nat.le_of_ble_eq_true rfl⟩ (Nat.le_of_ble_eq_true rfl) dX10_deepest_89 (fun v4 M5 =>
 (x_iret g hr rfl rfl dX10_deepest_92))))))
 (fun _ => (x_aload_n g 0 dX10_deepest_33 rfl rfl
 (x_getS g 57 fl_RX10_88 rfl ht dX10_deepest_34
 (x_iload_n g 1 dX10_deepest_37 rfl rfl
 (x_iload g 4 dX10_deepest_38 rfl
 (x_callVip (As := [.int x1, .int x4]) g mv_X0_layerIn mi_X0_layerIn lk_RX10_318 (so_10_15 ht) (fun b hb => kX0_layerIn (t + 57) x1 x4 M (so_10_15 ht) _ _ hb) rfl rfl hR ⟨Nat.le_of_ble_eq_true rfl, Nat.le_of_ble_eq_true rfl⟩ (Nat.le_of_ble_eq_true rfl) dX10_deepest_40 (fun v6 =>
 (x_istore (L' := [(5, .int v6), (0, .ref t), (1, .int x1), (2, .int x2), (3, .int x3), (4, .int x4)]) g dX10_deepest_43 hn (Nat.le_of_ble_eq_true rfl) rfl
 (x_iload g 0 dX10_deepest_45 rfl
 (x_iconst g dX10_deepest_47 kI_m1
 (x_jn (fun (J9 : Int32 → Int32 → Option (Int32 × Mem)) => ∀ (v7 : Int32) (v8 : Int32), X J (fun q : Int32 × Mem => (some (Value.int q.1), q.2)) (J9 v7 v8) 81 [(0, .ref t), (1, .int x1), (2, .int v7), (3, .int v8), (4, .int x4)] [] M) (fun v7 v8 => (x_iinc (L' := [(4, .int (x4 + 1)), (0, .ref t), (1, .int x1), (2, .int v7), (3, .int v8)]) (v := (x4 + 1)) g 4 dX10_deepest_81 rfl (by rw [kI_1]) hn (Nat.le_of_ble_eq_true rfl) rfl
 (x_goto g 21 dX10_deepest_84 rfl
 (x_sub [1, 2, 3, 4, 0] rfl (ih v7 v8 (x4 + 1)))))) (fun J9 hJ9 => (x_icmp_eq g 81 dX10_deepest_48 rfl
 (fun _ => (x_sub [1, 2, 3, 4, 5] rfl (hJ9 x2 x3)))
 (fun _ => (x_aload_n g 1 dX10_deepest_51 rfl rfl
 (x_getD g fl_RX10_50 rfl ht dX10_deepest_52 (fun vr10 hvr10 =>
 (x_iload g 5 dX10_deepest_55 rfl
 (x_iload g 0 dX10_deepest_57 rfl
 (x_callVip (As := [.int x4, .int v6]) g mv_X2_depthOf mi_X2_depthOf lk_RX10_255 hvr10 (fun b hb => kX2_depthOf φ vr10 x4 v6 M hvr10 _ _ hb) rfl rfl hR ⟨Nat.le_of_ble_eq_true rfl, Nat.le_of_ble_eq_true rfl⟩ (Nat.le_of_ble_eq_true rfl) dX10_deepest_59 (fun v11 =>
 (x_iload_n g 4 dX10_deepest_62 rfl rfl
 (x_icmp_le g 81 dX10_deepest_63 rfl
 (fun _ => (x_sub [1, 2, 3, 4, 5] rfl (hJ9 x2 x3)))
 (fun _ => (x_iload g 5 dX10_deepest_66 rfl
 (x_istore_n (L' := [(2, .int x4), (5, .int v6), (0, .ref t), (1, .int x1), (3, .int x3), (4, .int x4)]) g dX10_deepest_68 rfl hn (Nat.le_of_ble_eq_true rfl) rfl
 (x_aload_n g 2 dX10_deepest_69 rfl rfl
 (x_getD g fl_RX10_50 rfl ht dX10_deepest_70 (fun vr12 hvr12 =>
 (x_iload g 5 dX10_deepest_73 rfl
 (x_iload g 1 dX10_deepest_75 rfl
 (x_callVip (As := [.int x4, .int v6]) g mv_X2_depthOf mi_X2_depthOf lk_RX10_255 hvr12 (fun b hb => kX2_depthOf φ vr12 x4 v6 M hvr12 _ _ hb) rfl rfl hR ⟨Nat.le_of_ble_eq_true rfl, Nat.le_of_ble_eq_true rfl⟩ (Nat.le_of_ble_eq_true rfl) dX10_deepest_77 (fun v13 =>
 (x_istore_n (L' := [(3, .int v13), (2, .int x4), (5, .int v6), (0, .ref t), (1, .int x1), (4, .int x4)]) g dX10_deepest_80 rfl hn (Nat.le_of_ble_eq_true rfl) rfl
 (x_sub [3, 4, 1, 0, 5] rfl (hJ9 x4 v13))))))))))))))))))))))))))))))))))))))))))
def fX10_deepest (φ : Nat) (t : Nat) (a1 : Int32) (M : Mem) : Option (Int32 × Mem) :=
  bd (fX10_isBed φ t a1 M) fun v1 M2 =>
 if v1 = 0 then
 bd (fX10_refuse t (1 : Int32) M2) fun v14 M15 =>
 some (v14, M15)
 else
 lX10_deepest_21 φ t a1 M2 φ (-1 : Int32) (-1 : Int32) (0 : Int32)
set_option maxRecDepth 100000 in
set_option maxHeartbeats 4000000 in
theorem kX10_deepest (φ : Nat) (t : Nat) (a1 : Int32) (M : Mem) (ht : isO 10 t) (l : Launch) (G : GT) {b : (Int32 × Mem)} (hE : fX10_deepest φ t a1 M = some b) : Ok l G yX10_deepest cX10_deepest 6 (some .int) 6 151 [.ref t, .int a1] M ((fun q : Int32 × Mem => (some (Value.int q.1), q.2)) b).1 ((fun q : Int32 × Mem => (some (Value.int q.1), q.2)) b).2 := by
  refine Ok.ofX (pj := (fun q : Int32 × Mem => (some (Value.int q.1), q.2))) (by decide) (Nat.le_of_ble_eq_true rfl) hE (fun J g hr hG hl hR hn => ?_)
  show X J (fun q : Int32 × Mem => (some (Value.int q.1), q.2)) (fX10_deepest φ t a1 M) 0 [(0, .ref t), (1, .int a1)] [] M
  unfold fX10_deepest
  exact (x_aload_n g 0 dX10_deepest_0 rfl rfl
 (x_iload_n g 1 dX10_deepest_1 rfl rfl
 (x_callVi (As := [.int a1]) g mv_X10_isBed mi_X10_isBed lk_RX10_312 ht (fun b Mh_ hb => kX10_isBed φ t a1 M ht _ _ hb) rfl rfl hR ⟨Nat.le_of_ble_eq_true rfl, Nat.le_of_ble_eq_true rfl⟩ (Nat.le_of_ble_eq_true rfl) dX10_deepest_2 (fun v1 M2 =>
 (x_if_ne g 14 dX10_deepest_5 rfl
 (fun _ => (x_iconst g dX10_deepest_14 kI_m1
 (x_istore_n (L' := [(2, .int (-1 : Int32)), (0, .ref t), (1, .int a1)]) g dX10_deepest_15 rfl hn (Nat.le_of_ble_eq_true rfl) rfl
 (x_iconst g dX10_deepest_16 kI_m1
 (x_istore_n (L' := [(3, .int (-1 : Int32)), (2, .int (-1 : Int32)), (0, .ref t), (1, .int a1)]) g dX10_deepest_17 rfl hn (Nat.le_of_ble_eq_true rfl) rfl
 (x_iconst g dX10_deepest_18 kI_0
 (x_istore (L' := [(4, .int (0 : Int32)), (3, .int (-1 : Int32)), (2, .int (-1 : Int32)), (0, .ref t), (1, .int a1)]) g dX10_deepest_19 hn (Nat.le_of_ble_eq_true rfl) rfl
 (x_sub [3, 4, 2, 1, 0] rfl (wlX10_deepest_21 g hr hR hn  φ t a1 M2 ht φ (-1 : Int32) (-1 : Int32) (0 : Int32))))))))))
 (fun _ => (x_aload_n g 0 dX10_deepest_8 rfl rfl
 (x_iconst g dX10_deepest_9 kI_1
 (x_callVi (As := [.int (1 : Int32)]) g mv_X10_refuse mi_X10_refuse lk_RX10_137 ht (fun b Mh_ hb => kX10_refuse t (1 : Int32) M2 ht _ _ hb) rfl rfl hR ⟨Nat.le_of_ble_eq_true rfl, Nat.le_of_ble_eq_true rfl⟩ (Nat.le_of_ble_eq_true rfl) dX10_deepest_10 (fun v14 M15 =>
 (x_iret g hr rfl rfl dX10_deepest_13)))))))))))
def lX0_inBoth_5 (t : Nat) (x1 : Int32) (x2 : Int32) (M : Mem) : Nat → Int32 → Int32 → Option Int32
  | 0, _, _ => none
  | n + 1, x3, x4 =>
    if (M.1 t 7) ≤ x4 then
 some x3
 else
 (fX0_layerIn t x4 x1 M).bind fun v1 =>
 jn (fun (v2 : Int32) => lX0_inBoth_5 t x1 x2 M n v2 (x4 + 1)) (fun J3 => if v1 = (-1 : Int32) then
 J3 x3
 else
 (fX0_layerIn t x4 x2 M).bind fun v4 =>
 if v4 = (-1 : Int32) then
 J3 x3
 else
 J3 (x3 + 1))
theorem lX0_inBoth_5_s (t : Nat) (x1 : Int32) (x2 : Int32) (M : Mem) (n : Nat) (x3 : Int32) (x4 : Int32) : lX0_inBoth_5 t x1 x2 M (n + 1) x3 x4 =
    if (M.1 t 7) ≤ x4 then
 some x3
 else
 (fX0_layerIn t x4 x1 M).bind fun v1 =>
 jn (fun (v2 : Int32) => lX0_inBoth_5 t x1 x2 M n v2 (x4 + 1)) (fun J3 => if v1 = (-1 : Int32) then
 J3 x3
 else
 (fX0_layerIn t x4 x2 M).bind fun v4 =>
 if v4 = (-1 : Int32) then
 J3 x3
 else
 J3 (x3 + 1)) := rfl
theorem lX0_inBoth_5_0 (t : Nat) (x1 : Int32) (x2 : Int32) (M : Mem) (x3 : Int32) (x4 : Int32) : lX0_inBoth_5 t x1 x2 M 0 x3 x4 = none := rfl
set_option maxRecDepth 100000 in
set_option maxHeartbeats 4000000 in
theorem wlX0_inBoth_5 {J : JT} (g : Gd J cX0_inBoth RX0) (hr : Rt J (some .int)) (hR : (JR J).frames = 1 ∧ (JR J).locals = 22) (hn : Jn J = 5) (t : Nat) (x1 : Int32) (x2 : Int32) (M : Mem) (ht : isO 0 t) : ∀ (n : Nat) (x3 : Int32) (x4 : Int32), X J (fun b : Int32 => (some (Value.int b), M)) (lX0_inBoth_5 t x1 x2 M n x3 x4) 5 [(0, .ref t), (1, .int x1), (2, .int x2), (3, .int x3), (4, .int x4)] [] M := by
  intro n
  induction n with
  | zero =>
    intro x3 x4
    exact x_none
  | succ n ih =>
    intro x3 x4
    rw [lX0_inBoth_5_s]
    exact (x_iload g 4 dX0_inBoth_5 rfl
 (x_aload_n g 0 dX0_inBoth_7 rfl rfl
 (x_getI g fl_RX0_39 rfl ht dX0_inBoth_8
 (x_icmp_ge g 45 dX0_inBoth_11 rfl
 (fun _ => (x_iload_n g 3 dX0_inBoth_45 rfl rfl
 (x_iret g hr rfl rfl dX0_inBoth_46)))
 (fun _ => (x_aload_n g 0 dX0_inBoth_14 rfl rfl
 (x_iload g 4 dX0_inBoth_15 rfl
 (x_iload_n g 1 dX0_inBoth_17 rfl rfl
 (x_callVip (As := [.int x4, .int x1]) g mv_X0_layerIn mi_X0_layerIn lk_RX0_121 ht (fun b hb => kX0_layerIn t x4 x1 M ht _ _ hb) rfl rfl hR ⟨Nat.le_of_ble_eq_true rfl, Nat.le_of_ble_eq_true rfl⟩ (Nat.le_of_ble_eq_true rfl) dX0_inBoth_18 (fun v1 =>
 (x_iconst g dX0_inBoth_21 kI_m1
 (x_jn (fun (J3 : Int32 → Option Int32) => ∀ (v2 : Int32), X J (fun b : Int32 => (some (Value.int b), M)) (J3 v2) 39 [(0, .ref t), (1, .int x1), (2, .int x2), (3, .int v2), (4, .int x4)] [] M) (fun v2 => (x_iinc (L' := [(4, .int (x4 + 1)), (0, .ref t), (1, .int x1), (2, .int x2), (3, .int v2)]) (v := (x4 + 1)) g 4 dX0_inBoth_39 rfl (by rw [kI_1]) hn (Nat.le_of_ble_eq_true rfl) rfl
 (x_goto g 5 dX0_inBoth_42 rfl
 (x_sub [1, 2, 3, 4, 0] rfl (ih v2 (x4 + 1)))))) (fun J3 hJ3 => (x_icmp_eq g 39 dX0_inBoth_22 rfl
 (fun _ => (hJ3 x3))
 (fun _ => (x_aload_n g 0 dX0_inBoth_25 rfl rfl
 (x_iload g 4 dX0_inBoth_26 rfl
 (x_iload_n g 2 dX0_inBoth_28 rfl rfl
 (x_callVip (As := [.int x4, .int x2]) g mv_X0_layerIn mi_X0_layerIn lk_RX0_121 ht (fun b hb => kX0_layerIn t x4 x2 M ht _ _ hb) rfl rfl hR ⟨Nat.le_of_ble_eq_true rfl, Nat.le_of_ble_eq_true rfl⟩ (Nat.le_of_ble_eq_true rfl) dX0_inBoth_29 (fun v4 =>
 (x_iconst g dX0_inBoth_32 kI_m1
 (x_icmp_eq g 39 dX0_inBoth_33 rfl
 (fun _ => (hJ3 x3))
 (fun _ => (x_iinc (L' := [(3, .int (x3 + 1)), (0, .ref t), (1, .int x1), (2, .int x2), (4, .int x4)]) (v := (x3 + 1)) g 3 dX0_inBoth_36 rfl (by rw [kI_1]) hn (Nat.le_of_ble_eq_true rfl) rfl
 (x_sub [1, 2, 3, 0, 4] rfl (hJ3 (x3 + 1)))))))))))))))))))))))))))
def fX0_inBoth (φ : Nat) (t : Nat) (a1 : Int32) (a2 : Int32) (M : Mem) : Option Int32 :=
  lX0_inBoth_5 t a1 a2 M φ (0 : Int32) (0 : Int32)
set_option maxRecDepth 100000 in
set_option maxHeartbeats 4000000 in
theorem kX0_inBoth (φ : Nat) (t : Nat) (a1 : Int32) (a2 : Int32) (M : Mem) (ht : isO 0 t) (l : Launch) (G : GT) {b : Int32} (hE : fX0_inBoth φ t a1 a2 M = some b) : Ok l G yX0_inBoth cX0_inBoth 5 (some .int) 1 22 [.ref t, .int a1, .int a2] M ((fun b : Int32 => (some (Value.int b), M)) b).1 ((fun b : Int32 => (some (Value.int b), M)) b).2 := by
  refine Ok.ofX (pj := (fun b : Int32 => (some (Value.int b), M))) (by decide) (Nat.le_of_ble_eq_true rfl) hE (fun J g hr hG hl hR hn => ?_)
  show X J (fun b : Int32 => (some (Value.int b), M)) (fX0_inBoth φ t a1 a2 M) 0 [(0, .ref t), (1, .int a1), (2, .int a2)] [] M
  unfold fX0_inBoth
  exact (x_iconst g dX0_inBoth_0 kI_0
 (x_istore_n (L' := [(3, .int (0 : Int32)), (0, .ref t), (1, .int a1), (2, .int a2)]) g dX0_inBoth_1 rfl hn (Nat.le_of_ble_eq_true rfl) rfl
 (x_iconst g dX0_inBoth_2 kI_0
 (x_istore (L' := [(4, .int (0 : Int32)), (3, .int (0 : Int32)), (0, .ref t), (1, .int a1), (2, .int a2)]) g dX0_inBoth_3 hn (Nat.le_of_ble_eq_true rfl) rfl
 (x_sub [2, 3, 4, 1, 0] rfl (wlX0_inBoth_5 g hr hR hn  t a1 a2 M ht φ (0 : Int32) (0 : Int32)))))))
def fX10_shared (φ : Nat) (t : Nat) (a1 : Int32) (a2 : Int32) (M : Mem) : Option (Int32 × Mem) :=
  (ldr 2 (M.2.2 t 7)).bind fun vr1 =>
 (fX2_isHole vr1 a1 M).bind fun v2 =>
 if v2 = 0 then
 bd (fX10_refuse t (1 : Int32) M) fun v3 M4 =>
 some (v3, M4)
 else
 (ldr 2 (M.2.2 t 7)).bind fun vr5 =>
 (fX2_isHole vr5 a2 M).bind fun v6 =>
 if v6 = 0 then
 bd (fX10_refuse t (1 : Int32) M) fun v7 M8 =>
 some (v7, M8)
 else
 if a1 = a2 then
 bd (fX10_refuse t (1 : Int32) M) fun v15 M16 =>
 some (v15, M16)
 else
 (ldr 2 (M.2.2 t 7)).bind fun vr9 =>
 bd (fX0_refresh φ (t + 57) vr9 M) fun vu10 M11 =>
 (fX0_inBoth φ (t + 57) a1 a2 M11).bind fun v12 =>
 bd (fX10_answer t v12 M11) fun v13 M14 =>
 some (v13, M14)
set_option maxRecDepth 100000 in
set_option maxHeartbeats 4000000 in
theorem kX10_shared (φ : Nat) (t : Nat) (a1 : Int32) (a2 : Int32) (M : Mem) (ht : isO 10 t) (l : Launch) (G : GT) {b : (Int32 × Mem)} (hE : fX10_shared φ t a1 a2 M = some b) : Ok l G yX10_shared cX10_shared 3 (some .int) 5 130 [.ref t, .int a1, .int a2] M ((fun q : Int32 × Mem => (some (Value.int q.1), q.2)) b).1 ((fun q : Int32 × Mem => (some (Value.int q.1), q.2)) b).2 := by
  refine Ok.ofX (pj := (fun q : Int32 × Mem => (some (Value.int q.1), q.2))) (by decide) (Nat.le_of_ble_eq_true rfl) hE (fun J g hr hG hl hR hn => ?_)
  show X J (fun q : Int32 × Mem => (some (Value.int q.1), q.2)) (fX10_shared φ t a1 a2 M) 0 [(0, .ref t), (1, .int a1), (2, .int a2)] [] M
  unfold fX10_shared
  exact (x_aload_n g 0 dX10_shared_0 rfl rfl
 (x_getD g fl_RX10_50 rfl ht dX10_shared_1 (fun vr1 hvr1 =>
 (x_iload_n g 1 dX10_shared_4 rfl rfl
 (x_callVip (As := [.int a1]) g mv_X2_isHole mi_X2_isHole lk_RX10_225 hvr1 (fun b hb => kX2_isHole vr1 a1 M hvr1 _ _ hb) rfl rfl hR ⟨Nat.le_of_ble_eq_true rfl, Nat.le_of_ble_eq_true rfl⟩ (Nat.le_of_ble_eq_true rfl) dX10_shared_5 (fun v2 =>
 (x_if_eq g 27 dX10_shared_8 rfl
 (fun _ => (x_aload_n g 0 dX10_shared_27 rfl rfl
 (x_iconst g dX10_shared_28 kI_1
 (x_callVi (As := [.int (1 : Int32)]) g mv_X10_refuse mi_X10_refuse lk_RX10_137 ht (fun b Mh_ hb => kX10_refuse t (1 : Int32) M ht _ _ hb) rfl rfl hR ⟨Nat.le_of_ble_eq_true rfl, Nat.le_of_ble_eq_true rfl⟩ (Nat.le_of_ble_eq_true rfl) dX10_shared_29 (fun v3 M4 =>
 (x_iret g hr rfl rfl dX10_shared_32))))))
 (fun _ => (x_aload_n g 0 dX10_shared_11 rfl rfl
 (x_getD g fl_RX10_50 rfl ht dX10_shared_12 (fun vr5 hvr5 =>
 (x_iload_n g 2 dX10_shared_15 rfl rfl
 (x_callVip (As := [.int a2]) g mv_X2_isHole mi_X2_isHole lk_RX10_225 hvr5 (fun b hb => kX2_isHole vr5 a2 M hvr5 _ _ hb) rfl rfl hR ⟨Nat.le_of_ble_eq_true rfl, Nat.le_of_ble_eq_true rfl⟩ (Nat.le_of_ble_eq_true rfl) dX10_shared_16 (fun v6 =>
 (x_if_eq g 27 dX10_shared_19 rfl
 (fun _ => (x_aload_n g 0 dX10_shared_27 rfl rfl
 (x_iconst g dX10_shared_28 kI_1
 (x_callVi (As := [.int (1 : Int32)]) g mv_X10_refuse mi_X10_refuse lk_RX10_137 ht (fun b Mh_ hb => kX10_refuse t (1 : Int32) M ht _ _ hb) rfl rfl hR ⟨Nat.le_of_ble_eq_true rfl, Nat.le_of_ble_eq_true rfl⟩ (Nat.le_of_ble_eq_true rfl) dX10_shared_29 (fun v7 M8 =>
 (x_iret g hr rfl rfl dX10_shared_32))))))
 (fun _ => (x_iload_n g 1 dX10_shared_22 rfl rfl
 (x_iload_n g 2 dX10_shared_23 rfl rfl
 (x_icmp_ne g 33 dX10_shared_24 rfl
 (fun _ => (x_aload_n g 0 dX10_shared_33 rfl rfl
 (x_getS g 57 fl_RX10_88 rfl ht dX10_shared_34
 (x_aload_n g 0 dX10_shared_37 rfl rfl
 (x_getD g fl_RX10_50 rfl ht dX10_shared_38 (fun vr9 hvr9 =>
 (x_callVv (As := [.ref vr9]) g mv_X0_refresh mi_X0_refresh lk_RX10_287 (so_10_15 ht) (fun b Mh_ hb => kX0_refresh φ (t + 57) vr9 M (so_10_15 ht) hvr9 _ _ hb) rfl rfl hR ⟨Nat.le_of_ble_eq_true rfl, Nat.le_of_ble_eq_true rfl⟩ (Nat.le_of_ble_eq_true rfl) dX10_shared_41 (fun vu10 M11 =>
 (x_aload_n g 0 dX10_shared_44 rfl rfl
 (x_aload_n g 0 dX10_shared_45 rfl rfl
 (x_getS g 57 fl_RX10_88 rfl ht dX10_shared_46
 (x_iload_n g 1 dX10_shared_49 rfl rfl
 (x_iload_n g 2 dX10_shared_50 rfl rfl
 (x_callVip (As := [.int a1, .int a2]) g mv_X0_inBoth mi_X0_inBoth lk_RX10_384 (so_10_15 ht) (fun b hb => kX0_inBoth φ (t + 57) a1 a2 M11 (so_10_15 ht) _ _ hb) rfl rfl hR ⟨Nat.le_of_ble_eq_true rfl, Nat.le_of_ble_eq_true rfl⟩ (Nat.le_of_ble_eq_true rfl) dX10_shared_51 (fun v12 =>
 (x_callVi (As := [.int v12]) g mv_X10_answer mi_X10_answer lk_RX10_187 ht (fun b Mh_ hb => kX10_answer t v12 M11 ht _ _ hb) rfl rfl hR ⟨Nat.le_of_ble_eq_true rfl, Nat.le_of_ble_eq_true rfl⟩ (Nat.le_of_ble_eq_true rfl) dX10_shared_54 (fun v13 M14 =>
 (x_iret g hr rfl rfl dX10_shared_57))))))))))))))))))
 (fun _ => (x_aload_n g 0 dX10_shared_27 rfl rfl
 (x_iconst g dX10_shared_28 kI_1
 (x_callVi (As := [.int (1 : Int32)]) g mv_X10_refuse mi_X10_refuse lk_RX10_137 ht (fun b Mh_ hb => kX10_refuse t (1 : Int32) M ht _ _ hb) rfl rfl hR ⟨Nat.le_of_ble_eq_true rfl, Nat.le_of_ble_eq_true rfl⟩ (Nat.le_of_ble_eq_true rfl) dX10_shared_29 (fun v15 M16 =>
 (x_iret g hr rfl rfl dX10_shared_32)))))))))))))))))))))))))
def lX0_isBetween_8 (K76 : Int32 → Int32 → Option Int32) (φ : Nat) (t : Nat) (x1 : Int32) (x2 : Int32) (M : Mem) : Nat → Int32 → Int32 → Int32 → Option Int32
  | 0, _, _, _ => none
  | n + 1, x3, x4, x5 =>
    if (M.1 t 7) ≤ x5 then
 K76 x3 x4
 else
 (fX0_layerIn t x5 x2 M).bind fun v1 =>
 jn (fun (v2 : Int32) (v3 : Int32) => lX0_isBetween_8 K76 φ t x1 x2 M n v2 v3 (x5 + 1)) (fun J4 => if v1 = (-1 : Int32) then
 J4 x3 x4
 else
 jn (fun (v5 : Int32) => jn (fun (v7 : Int32) => J4 v5 v7) (fun J8 => jn (J8 (1 : Int32)) (fun J9 => if x4 = 0 then
 (fX0_isHigher φ t x1 x5 M).bind fun v10 =>
 if v10 = 0 then
 J8 (0 : Int32)
 else
 J9
 else
 J9))) (fun J6 => jn (J6 (1 : Int32)) (fun J11 => if x3 = 0 then
 (fX0_isHigher φ t x5 x1 M).bind fun v12 =>
 if v12 = 0 then
 J6 (0 : Int32)
 else
 J11
 else
 J11)))
theorem lX0_isBetween_8_s (K76 : Int32 → Int32 → Option Int32) (φ : Nat) (t : Nat) (x1 : Int32) (x2 : Int32) (M : Mem) (n : Nat) (x3 : Int32) (x4 : Int32) (x5 : Int32) : lX0_isBetween_8 K76 φ t x1 x2 M (n + 1) x3 x4 x5 =
    if (M.1 t 7) ≤ x5 then
 K76 x3 x4
 else
 (fX0_layerIn t x5 x2 M).bind fun v1 =>
 jn (fun (v2 : Int32) (v3 : Int32) => lX0_isBetween_8 K76 φ t x1 x2 M n v2 v3 (x5 + 1)) (fun J4 => if v1 = (-1 : Int32) then
 J4 x3 x4
 else
 jn (fun (v5 : Int32) => jn (fun (v7 : Int32) => J4 v5 v7) (fun J8 => jn (J8 (1 : Int32)) (fun J9 => if x4 = 0 then
 (fX0_isHigher φ t x1 x5 M).bind fun v10 =>
 if v10 = 0 then
 J8 (0 : Int32)
 else
 J9
 else
 J9))) (fun J6 => jn (J6 (1 : Int32)) (fun J11 => if x3 = 0 then
 (fX0_isHigher φ t x5 x1 M).bind fun v12 =>
 if v12 = 0 then
 J6 (0 : Int32)
 else
 J11
 else
 J11))) := rfl
theorem lX0_isBetween_8_0 (K76 : Int32 → Int32 → Option Int32) (φ : Nat) (t : Nat) (x1 : Int32) (x2 : Int32) (M : Mem) (x3 : Int32) (x4 : Int32) (x5 : Int32) : lX0_isBetween_8 K76 φ t x1 x2 M 0 x3 x4 x5 = none := rfl
set_option maxRecDepth 100000 in
set_option maxHeartbeats 4000000 in
theorem wlX0_isBetween_8 {J : JT} (g : Gd J cX0_isBetween RX0) (hr : Rt J (some .boolean)) (hR : (JR J).frames = 2 ∧ (JR J).locals = 45) (hn : Jn J = 6) (K76 : Int32 → Int32 → Option Int32) (φ : Nat) (t : Nat) (x1 : Int32) (x2 : Int32) (M : Mem) (ht : isO 0 t) (hK76 : ∀ (y3 : Int32) (y4 : Int32), X J (fun b : Int32 => (some (Value.int b), M)) (K76 y3 y4) 76 [(3, .int y3), (4, .int y4)] [] M) : ∀ (n : Nat) (x3 : Int32) (x4 : Int32) (x5 : Int32), X J (fun b : Int32 => (some (Value.int b), M)) (lX0_isBetween_8 K76 φ t x1 x2 M n x3 x4 x5) 8 [(0, .ref t), (1, .int x1), (2, .int x2), (3, .int x3), (4, .int x4), (5, .int x5)] [] M := by
  intro n
  induction n with
  | zero =>
    intro x3 x4 x5
    exact x_none
  | succ n ih =>
    intro x3 x4 x5
    rw [lX0_isBetween_8_s]
    exact (x_iload g 5 dX0_isBetween_8 rfl
 (x_aload_n g 0 dX0_isBetween_10 rfl rfl
 (x_getI g fl_RX0_39 rfl ht dX0_isBetween_11
 (x_icmp_ge g 76 dX0_isBetween_14 rfl
 (fun _ => (x_sub [3, 4] rfl (hK76 x3 x4)))
 (fun _ => (x_aload_n g 0 dX0_isBetween_17 rfl rfl
 (x_iload g 5 dX0_isBetween_18 rfl
 (x_iload_n g 2 dX0_isBetween_20 rfl rfl
 (x_callVip (As := [.int x5, .int x2]) g mv_X0_layerIn mi_X0_layerIn lk_RX0_121 ht (fun b hb => kX0_layerIn t x5 x2 M ht _ _ hb) rfl rfl hR ⟨Nat.le_of_ble_eq_true rfl, Nat.le_of_ble_eq_true rfl⟩ (Nat.le_of_ble_eq_true rfl) dX0_isBetween_21 (fun v1 =>
 (x_iconst g dX0_isBetween_24 kI_m1
 (x_jn (fun (J4 : Int32 → Int32 → Option Int32) => ∀ (v2 : Int32) (v3 : Int32), X J (fun b : Int32 => (some (Value.int b), M)) (J4 v2 v3) 70 [(0, .ref t), (1, .int x1), (2, .int x2), (3, .int v2), (4, .int v3), (5, .int x5)] [] M) (fun v2 v3 => (x_iinc (L' := [(5, .int (x5 + 1)), (0, .ref t), (1, .int x1), (2, .int x2), (3, .int v2), (4, .int v3)]) (v := (x5 + 1)) g 5 dX0_isBetween_70 rfl (by rw [kI_1]) hn (Nat.le_of_ble_eq_true rfl) rfl
 (x_goto g 8 dX0_isBetween_73 rfl
 (x_sub [1, 2, 3, 4, 5, 0] rfl (ih v2 v3 (x5 + 1)))))) (fun J4 hJ4 => (x_icmp_eq g 70 dX0_isBetween_25 rfl
 (fun _ => (hJ4 x3 x4))
 (fun _ => (x_iload_n g 3 dX0_isBetween_28 rfl rfl
 (x_jn (fun (J6 : Int32 → Option Int32) => ∀ (v5 : Int32), X J (fun b : Int32 => (some (Value.int b), M)) (J6 v5) 47 [(0, .ref t), (1, .int x1), (2, .int x2), (4, .int x4), (5, .int x5)] [.int v5] M) (fun v5 => (x_istore_n (L' := [(3, .int v5), (0, .ref t), (1, .int x1), (2, .int x2), (4, .int x4), (5, .int x5)]) g dX0_isBetween_47 rfl hn (Nat.le_of_ble_eq_true rfl) rfl
 (x_iload g 4 dX0_isBetween_48 rfl
 (x_jn (fun (J8 : Int32 → Option Int32) => ∀ (v7 : Int32), X J (fun b : Int32 => (some (Value.int b), M)) (J8 v7) 68 [(0, .ref t), (1, .int x1), (2, .int x2), (3, .int v5), (5, .int x5)] [.int v7] M) (fun v7 => (x_istore (L' := [(4, .int v7), (0, .ref t), (1, .int x1), (2, .int x2), (3, .int v5), (5, .int x5)]) g dX0_isBetween_68 hn (Nat.le_of_ble_eq_true rfl) rfl
 (x_sub [1, 2, 3, 4, 0, 5] rfl (hJ4 v5 v7)))) (fun J8 hJ8 => (x_jn (fun (J9 : Option Int32) => X J (fun b : Int32 => (some (Value.int b), M)) J9 63 [(0, .ref t), (1, .int x1), (2, .int x2), (3, .int v5), (5, .int x5)] [] M) (x_iconst g dX0_isBetween_63 kI_1
 (x_goto g 68 dX0_isBetween_64 rfl
 (hJ8 (1 : Int32)))) (fun J9 hJ9 => (x_if_ne g 63 dX0_isBetween_50 rfl
 (fun _ => (x_sub [1, 2, 3, 0, 5] rfl (hJ9)))
 (fun _ => (x_aload_n g 1 dX0_isBetween_53 rfl rfl
 (x_iload_n g 2 dX0_isBetween_54 rfl rfl
 (x_iload g 5 dX0_isBetween_55 rfl
 (x_callVip (As := [.int x1, .int x5]) g mv_X0_isHigher mi_X0_isHigher lk_RX0_144 ht (fun b hb => kX0_isHigher φ t x1 x5 M ht _ _ hb) rfl rfl hR ⟨Nat.le_of_ble_eq_true rfl, Nat.le_of_ble_eq_true rfl⟩ (Nat.le_of_ble_eq_true rfl) dX0_isBetween_57 (fun v10 =>
 (x_if_eq g 67 dX0_isBetween_60 rfl
 (fun _ => (x_iconst g dX0_isBetween_67 kI_0
 (x_sub [1, 2, 3, 0, 5] rfl (hJ8 (0 : Int32)))))
 (fun _ => (x_sub [1, 2, 3, 0, 5] rfl (hJ9)))))))))))))))))) (fun J6 hJ6 => (x_jn (fun (J11 : Option Int32) => X J (fun b : Int32 => (some (Value.int b), M)) J11 42 [(0, .ref t), (1, .int x1), (2, .int x2), (4, .int x4), (5, .int x5)] [] M) (x_iconst g dX0_isBetween_42 kI_1
 (x_goto g 47 dX0_isBetween_43 rfl
 (hJ6 (1 : Int32)))) (fun J11 hJ11 => (x_if_ne g 42 dX0_isBetween_29 rfl
 (fun _ => (x_sub [0, 1, 2, 4, 5] rfl (hJ11)))
 (fun _ => (x_aload_n g 0 dX0_isBetween_32 rfl rfl
 (x_iload g 5 dX0_isBetween_33 rfl
 (x_iload_n g 1 dX0_isBetween_35 rfl rfl
 (x_callVip (As := [.int x5, .int x1]) g mv_X0_isHigher mi_X0_isHigher lk_RX0_144 ht (fun b hb => kX0_isHigher φ t x5 x1 M ht _ _ hb) rfl rfl hR ⟨Nat.le_of_ble_eq_true rfl, Nat.le_of_ble_eq_true rfl⟩ (Nat.le_of_ble_eq_true rfl) dX0_isBetween_36 (fun v12 =>
 (x_if_eq g 46 dX0_isBetween_39 rfl
 (fun _ => (x_iconst g dX0_isBetween_46 kI_0
 (x_sub [0, 1, 2, 4, 5] rfl (hJ6 (0 : Int32)))))
 (fun _ => (x_sub [0, 1, 2, 4, 5] rfl (hJ11)))))))))))))))))))))))))))))))
def fX0_isBetween (φ : Nat) (t : Nat) (a1 : Int32) (a2 : Int32) (M : Mem) : Option Int32 :=
  lX0_isBetween_8 (fun (v13 : Int32) (v14 : Int32) => if v13 = 0 then
 some (0 : Int32)
 else
 if v14 = 0 then
 some (0 : Int32)
 else
 some (1 : Int32)) φ t a1 a2 M φ (0 : Int32) (0 : Int32) (0 : Int32)
set_option maxRecDepth 100000 in
set_option maxHeartbeats 4000000 in
theorem kX0_isBetween (φ : Nat) (t : Nat) (a1 : Int32) (a2 : Int32) (M : Mem) (ht : isO 0 t) (l : Launch) (G : GT) {b : Int32} (hE : fX0_isBetween φ t a1 a2 M = some b) : Ok l G yX0_isBetween cX0_isBetween 6 (some .boolean) 2 45 [.ref t, .int a1, .int a2] M ((fun b : Int32 => (some (Value.int b), M)) b).1 ((fun b : Int32 => (some (Value.int b), M)) b).2 := by
  refine Ok.ofX (pj := (fun b : Int32 => (some (Value.int b), M))) (by decide) (Nat.le_of_ble_eq_true rfl) hE (fun J g hr hG hl hR hn => ?_)
  show X J (fun b : Int32 => (some (Value.int b), M)) (fX0_isBetween φ t a1 a2 M) 0 [(0, .ref t), (1, .int a1), (2, .int a2)] [] M
  unfold fX0_isBetween
  exact (x_iconst g dX0_isBetween_0 kI_0
 (x_istore_n (L' := [(3, .int (0 : Int32)), (0, .ref t), (1, .int a1), (2, .int a2)]) g dX0_isBetween_1 rfl hn (Nat.le_of_ble_eq_true rfl) rfl
 (x_iconst g dX0_isBetween_2 kI_0
 (x_istore (L' := [(4, .int (0 : Int32)), (3, .int (0 : Int32)), (0, .ref t), (1, .int a1), (2, .int a2)]) g dX0_isBetween_3 hn (Nat.le_of_ble_eq_true rfl) rfl
 (x_iconst g dX0_isBetween_5 kI_0
 (x_istore (L' := [(5, .int (0 : Int32)), (4, .int (0 : Int32)), (3, .int (0 : Int32)), (0, .ref t), (1, .int a1), (2, .int a2)]) g dX0_isBetween_6 hn (Nat.le_of_ble_eq_true rfl) rfl
 (x_sub [3, 4, 5, 2, 1, 0] rfl (wlX0_isBetween_8 g hr hR hn _ φ t a1 a2 M ht
 (fun v13 v14 => by exact (x_iload_n g 0 dX0_isBetween_76 rfl rfl
 (x_if_eq g 89 dX0_isBetween_77 rfl
 (fun _ => (x_iconst g dX0_isBetween_89 kI_0
 (x_iret g hr rfl rfl dX0_isBetween_90)))
 (fun _ => (x_iload g 1 dX0_isBetween_80 rfl
 (x_if_eq g 89 dX0_isBetween_82 rfl
 (fun _ => (x_iconst g dX0_isBetween_89 kI_0
 (x_iret g hr rfl rfl dX0_isBetween_90)))
 (fun _ => (x_iconst g dX0_isBetween_85 kI_1
 (x_goto g 90 dX0_isBetween_86 rfl
 (x_iret g hr rfl rfl dX0_isBetween_90)))))))))) φ (0 : Int32) (0 : Int32) (0 : Int32)))))))))
def lX0_gapsIn_4 (φ : Nat) (t : Nat) (x1 : Int32) (M : Mem) : Nat → Int32 → Int32 → Option Int32
  | 0, _, _ => none
  | n + 1, x2, x3 =>
    if (M.1 t 7) ≤ x3 then
 some x2
 else
 (fX0_layerIn t x3 x1 M).bind fun v1 =>
 jn (fun (v2 : Int32) => lX0_gapsIn_4 φ t x1 M n v2 (x3 + 1)) (fun J3 => if v1 = (-1 : Int32) then
 (fX0_isBetween φ t x3 x1 M).bind fun v4 =>
 if v4 = 0 then
 J3 x2
 else
 J3 (x2 + 1)
 else
 J3 x2)
theorem lX0_gapsIn_4_s (φ : Nat) (t : Nat) (x1 : Int32) (M : Mem) (n : Nat) (x2 : Int32) (x3 : Int32) : lX0_gapsIn_4 φ t x1 M (n + 1) x2 x3 =
    if (M.1 t 7) ≤ x3 then
 some x2
 else
 (fX0_layerIn t x3 x1 M).bind fun v1 =>
 jn (fun (v2 : Int32) => lX0_gapsIn_4 φ t x1 M n v2 (x3 + 1)) (fun J3 => if v1 = (-1 : Int32) then
 (fX0_isBetween φ t x3 x1 M).bind fun v4 =>
 if v4 = 0 then
 J3 x2
 else
 J3 (x2 + 1)
 else
 J3 x2) := rfl
theorem lX0_gapsIn_4_0 (φ : Nat) (t : Nat) (x1 : Int32) (M : Mem) (x2 : Int32) (x3 : Int32) : lX0_gapsIn_4 φ t x1 M 0 x2 x3 = none := rfl
set_option maxRecDepth 100000 in
set_option maxHeartbeats 4000000 in
theorem wlX0_gapsIn_4 {J : JT} (g : Gd J cX0_gapsIn RX0) (hr : Rt J (some .int)) (hR : (JR J).frames = 3 ∧ (JR J).locals = 70) (hn : Jn J = 4) (φ : Nat) (t : Nat) (x1 : Int32) (M : Mem) (ht : isO 0 t) : ∀ (n : Nat) (x2 : Int32) (x3 : Int32), X J (fun b : Int32 => (some (Value.int b), M)) (lX0_gapsIn_4 φ t x1 M n x2 x3) 4 [(0, .ref t), (1, .int x1), (2, .int x2), (3, .int x3)] [] M := by
  intro n
  induction n with
  | zero =>
    intro x2 x3
    exact x_none
  | succ n ih =>
    intro x2 x3
    rw [lX0_gapsIn_4_s]
    exact (x_iload_n g 3 dX0_gapsIn_4 rfl rfl
 (x_aload_n g 0 dX0_gapsIn_5 rfl rfl
 (x_getI g fl_RX0_39 rfl ht dX0_gapsIn_6
 (x_icmp_ge g 40 dX0_gapsIn_9 rfl
 (fun _ => (x_iload_n g 2 dX0_gapsIn_40 rfl rfl
 (x_iret g hr rfl rfl dX0_gapsIn_41)))
 (fun _ => (x_aload_n g 0 dX0_gapsIn_12 rfl rfl
 (x_iload_n g 3 dX0_gapsIn_13 rfl rfl
 (x_iload_n g 1 dX0_gapsIn_14 rfl rfl
 (x_callVip (As := [.int x3, .int x1]) g mv_X0_layerIn mi_X0_layerIn lk_RX0_121 ht (fun b hb => kX0_layerIn t x3 x1 M ht _ _ hb) rfl rfl hR ⟨Nat.le_of_ble_eq_true rfl, Nat.le_of_ble_eq_true rfl⟩ (Nat.le_of_ble_eq_true rfl) dX0_gapsIn_15 (fun v1 =>
 (x_iconst g dX0_gapsIn_18 kI_m1
 (x_jn (fun (J3 : Int32 → Option Int32) => ∀ (v2 : Int32), X J (fun b : Int32 => (some (Value.int b), M)) (J3 v2) 34 [(0, .ref t), (1, .int x1), (2, .int v2), (3, .int x3)] [] M) (fun v2 => (x_iinc (L' := [(3, .int (x3 + 1)), (0, .ref t), (1, .int x1), (2, .int v2)]) (v := (x3 + 1)) g 3 dX0_gapsIn_34 rfl (by rw [kI_1]) hn (Nat.le_of_ble_eq_true rfl) rfl
 (x_goto g 4 dX0_gapsIn_37 rfl
 (x_sub [1, 2, 3, 0] rfl (ih v2 (x3 + 1)))))) (fun J3 hJ3 => (x_icmp_ne g 34 dX0_gapsIn_19 rfl
 (fun _ => (hJ3 x2))
 (fun _ => (x_aload_n g 0 dX0_gapsIn_22 rfl rfl
 (x_iload_n g 3 dX0_gapsIn_23 rfl rfl
 (x_iload_n g 1 dX0_gapsIn_24 rfl rfl
 (x_callVip (As := [.int x3, .int x1]) g mv_X0_isBetween mi_X0_isBetween lk_RX0_148 ht (fun b hb => kX0_isBetween φ t x3 x1 M ht _ _ hb) rfl rfl hR ⟨Nat.le_of_ble_eq_true rfl, Nat.le_of_ble_eq_true rfl⟩ (Nat.le_of_ble_eq_true rfl) dX0_gapsIn_25 (fun v4 =>
 (x_if_eq g 34 dX0_gapsIn_28 rfl
 (fun _ => (hJ3 x2))
 (fun _ => (x_iinc (L' := [(2, .int (x2 + 1)), (0, .ref t), (1, .int x1), (3, .int x3)]) (v := (x2 + 1)) g 2 dX0_gapsIn_31 rfl (by rw [kI_1]) hn (Nat.le_of_ble_eq_true rfl) rfl
 (x_sub [1, 2, 0, 3] rfl (hJ3 (x2 + 1))))))))))))))))))))))))))
def fX0_gapsIn (φ : Nat) (t : Nat) (a1 : Int32) (M : Mem) : Option Int32 :=
  lX0_gapsIn_4 φ t a1 M φ (0 : Int32) (0 : Int32)
set_option maxRecDepth 100000 in
set_option maxHeartbeats 4000000 in
theorem kX0_gapsIn (φ : Nat) (t : Nat) (a1 : Int32) (M : Mem) (ht : isO 0 t) (l : Launch) (G : GT) {b : Int32} (hE : fX0_gapsIn φ t a1 M = some b) : Ok l G yX0_gapsIn cX0_gapsIn 4 (some .int) 3 70 [.ref t, .int a1] M ((fun b : Int32 => (some (Value.int b), M)) b).1 ((fun b : Int32 => (some (Value.int b), M)) b).2 := by
  refine Ok.ofX (pj := (fun b : Int32 => (some (Value.int b), M))) (by decide) (Nat.le_of_ble_eq_true rfl) hE (fun J g hr hG hl hR hn => ?_)
  show X J (fun b : Int32 => (some (Value.int b), M)) (fX0_gapsIn φ t a1 M) 0 [(0, .ref t), (1, .int a1)] [] M
  unfold fX0_gapsIn
  exact (x_iconst g dX0_gapsIn_0 kI_0
 (x_istore_n (L' := [(2, .int (0 : Int32)), (0, .ref t), (1, .int a1)]) g dX0_gapsIn_1 rfl hn (Nat.le_of_ble_eq_true rfl) rfl
 (x_iconst g dX0_gapsIn_2 kI_0
 (x_istore_n (L' := [(3, .int (0 : Int32)), (2, .int (0 : Int32)), (0, .ref t), (1, .int a1)]) g dX0_gapsIn_3 rfl hn (Nat.le_of_ble_eq_true rfl) rfl
 (x_sub [2, 3, 1, 0] rfl (wlX0_gapsIn_4 g hr hR hn  φ t a1 M ht φ (0 : Int32) (0 : Int32)))))))
def fX10_gaps (φ : Nat) (t : Nat) (a1 : Int32) (M : Mem) : Option (Int32 × Mem) :=
  (ldr 2 (M.2.2 t 7)).bind fun vr1 =>
 (fX2_isHole vr1 a1 M).bind fun v2 =>
 if v2 = 0 then
 bd (fX10_refuse t (1 : Int32) M) fun v9 M10 =>
 some (v9, M10)
 else
 (ldr 2 (M.2.2 t 7)).bind fun vr3 =>
 bd (fX0_refresh φ (t + 57) vr3 M) fun vu4 M5 =>
 (fX0_gapsIn φ (t + 57) a1 M5).bind fun v6 =>
 bd (fX10_answer t v6 M5) fun v7 M8 =>
 some (v7, M8)
set_option maxRecDepth 100000 in
set_option maxHeartbeats 4000000 in
theorem kX10_gaps (φ : Nat) (t : Nat) (a1 : Int32) (M : Mem) (ht : isO 10 t) (l : Launch) (G : GT) {b : (Int32 × Mem)} (hE : fX10_gaps φ t a1 M = some b) : Ok l G yX10_gaps cX10_gaps 2 (some .int) 5 130 [.ref t, .int a1] M ((fun q : Int32 × Mem => (some (Value.int q.1), q.2)) b).1 ((fun q : Int32 × Mem => (some (Value.int q.1), q.2)) b).2 := by
  refine Ok.ofX (pj := (fun q : Int32 × Mem => (some (Value.int q.1), q.2))) (by decide) (Nat.le_of_ble_eq_true rfl) hE (fun J g hr hG hl hR hn => ?_)
  show X J (fun q : Int32 × Mem => (some (Value.int q.1), q.2)) (fX10_gaps φ t a1 M) 0 [(0, .ref t), (1, .int a1)] [] M
  unfold fX10_gaps
  exact (x_aload_n g 0 dX10_gaps_0 rfl rfl
 (x_getD g fl_RX10_50 rfl ht dX10_gaps_1 (fun vr1 hvr1 =>
 (x_iload_n g 1 dX10_gaps_4 rfl rfl
 (x_callVip (As := [.int a1]) g mv_X2_isHole mi_X2_isHole lk_RX10_225 hvr1 (fun b hb => kX2_isHole vr1 a1 M hvr1 _ _ hb) rfl rfl hR ⟨Nat.le_of_ble_eq_true rfl, Nat.le_of_ble_eq_true rfl⟩ (Nat.le_of_ble_eq_true rfl) dX10_gaps_5 (fun v2 =>
 (x_if_ne g 17 dX10_gaps_8 rfl
 (fun _ => (x_aload_n g 0 dX10_gaps_17 rfl rfl
 (x_getS g 57 fl_RX10_88 rfl ht dX10_gaps_18
 (x_aload_n g 0 dX10_gaps_21 rfl rfl
 (x_getD g fl_RX10_50 rfl ht dX10_gaps_22 (fun vr3 hvr3 =>
 (x_callVv (As := [.ref vr3]) g mv_X0_refresh mi_X0_refresh lk_RX10_287 (so_10_15 ht) (fun b Mh_ hb => kX0_refresh φ (t + 57) vr3 M (so_10_15 ht) hvr3 _ _ hb) rfl rfl hR ⟨Nat.le_of_ble_eq_true rfl, Nat.le_of_ble_eq_true rfl⟩ (Nat.le_of_ble_eq_true rfl) dX10_gaps_25 (fun vu4 M5 =>
 (x_aload_n g 0 dX10_gaps_28 rfl rfl
 (x_aload_n g 0 dX10_gaps_29 rfl rfl
 (x_getS g 57 fl_RX10_88 rfl ht dX10_gaps_30
 (x_iload_n g 1 dX10_gaps_33 rfl rfl
 (x_callVip (As := [.int a1]) g mv_X0_gapsIn mi_X0_gapsIn lk_RX10_387 (so_10_15 ht) (fun b hb => kX0_gapsIn φ (t + 57) a1 M5 (so_10_15 ht) _ _ hb) rfl rfl hR ⟨Nat.le_of_ble_eq_true rfl, Nat.le_of_ble_eq_true rfl⟩ (Nat.le_of_ble_eq_true rfl) dX10_gaps_34 (fun v6 =>
 (x_callVi (As := [.int v6]) g mv_X10_answer mi_X10_answer lk_RX10_187 ht (fun b Mh_ hb => kX10_answer t v6 M5 ht _ _ hb) rfl rfl hR ⟨Nat.le_of_ble_eq_true rfl, Nat.le_of_ble_eq_true rfl⟩ (Nat.le_of_ble_eq_true rfl) dX10_gaps_37 (fun v7 M8 =>
 (x_iret g hr rfl rfl dX10_gaps_40)))))))))))))))))
 (fun _ => (x_aload_n g 0 dX10_gaps_11 rfl rfl
 (x_iconst g dX10_gaps_12 kI_1
 (x_callVi (As := [.int (1 : Int32)]) g mv_X10_refuse mi_X10_refuse lk_RX10_137 ht (fun b Mh_ hb => kX10_refuse t (1 : Int32) M ht _ _ hb) rfl rfl hR ⟨Nat.le_of_ble_eq_true rfl, Nat.le_of_ble_eq_true rfl⟩ (Nat.le_of_ble_eq_true rfl) dX10_gaps_13 (fun v9 M10 =>
 (x_iret g hr rfl rfl dX10_gaps_16)))))))))))))
def lX4_unfold_31 (K66 : Int32 → Mem → Option (Unit × Mem)) (t : Nat) (xr1 : Nat) (x2 : Int32) (x4 : Int32) (x5 : Int32) : Nat → Int32 → Mem → Option (Unit × Mem)
  | 0, _, _ => none
  | n + 1, x3, M =>
    if x5 ≤ x3 then
 K66 x3 M
 else
 if (80 : Int32) ≤ x3 then
 K66 x3 M
 else
 (fX10_slot x2 x4 M).bind fun v3 =>
 ixk v3 72 (
 ixk x3 80 (nm (stI M (t + 2) x3.toNatClampNeg (M.1 (xr1 + 8) v3.toNatClampNeg)) (fun M4 =>
 lX4_unfold_31 K66 t xr1 x2 x4 x5 n (x3 + 1) M4)))
theorem lX4_unfold_31_s (K66 : Int32 → Mem → Option (Unit × Mem)) (t : Nat) (xr1 : Nat) (x2 : Int32) (x4 : Int32) (x5 : Int32) (n : Nat) (x3 : Int32) (M : Mem) : lX4_unfold_31 K66 t xr1 x2 x4 x5 (n + 1) x3 M =
    if x5 ≤ x3 then
 K66 x3 M
 else
 if (80 : Int32) ≤ x3 then
 K66 x3 M
 else
 (fX10_slot x2 x4 M).bind fun v3 =>
 ixk v3 72 (
 ixk x3 80 (nm (stI M (t + 2) x3.toNatClampNeg (M.1 (xr1 + 8) v3.toNatClampNeg)) (fun M4 =>
 lX4_unfold_31 K66 t xr1 x2 x4 x5 n (x3 + 1) M4))) := rfl
theorem lX4_unfold_31_0 (K66 : Int32 → Mem → Option (Unit × Mem)) (t : Nat) (xr1 : Nat) (x2 : Int32) (x4 : Int32) (x5 : Int32) (x3 : Int32) (M : Mem) : lX4_unfold_31 K66 t xr1 x2 x4 x5 0 x3 M = none := rfl
set_option maxRecDepth 100000 in
set_option maxHeartbeats 4000000 in
theorem wlX4_unfold_31 {J : JT} (g : Gd J cX4_unfold RX4) (hr : Rt J none) (hR : (JR J).frames = 1 ∧ (JR J).locals = 21) (hn : Jn J = 6) (K66 : Int32 → Mem → Option (Unit × Mem)) (t : Nat) (xr1 : Nat) (x2 : Int32) (x4 : Int32) (x5 : Int32) (ht : isO 4 t) (hxr1 : isO 2 xr1) (hK66 : ∀ (y3 : Int32) (M : Mem), X J (fun q : Unit × Mem => ((none : Option Value), q.2)) (K66 y3 M) 66 [(0, .ref t), (1, .ref xr1), (2, .int x2), (3, .int y3), (4, .int x4)] [] M) : ∀ (n : Nat) (x3 : Int32) (M : Mem), X J (fun q : Unit × Mem => ((none : Option Value), q.2)) (lX4_unfold_31 K66 t xr1 x2 x4 x5 n x3 M) 31 [(0, .ref t), (1, .ref xr1), (2, .int x2), (3, .int x3), (4, .int x4), (5, .int x5)] [] M := by
  intro n
  induction n with
  | zero =>
    intro x3 M
    exact x_none
  | succ n ih =>
    intro x3 M
    rw [lX4_unfold_31_s]
    exact (x_iload_n g 3 dX4_unfold_31 rfl rfl
 (x_iload g 5 dX4_unfold_32 rfl
 (x_icmp_ge g 66 dX4_unfold_34 rfl
 (fun _ => (x_sub [0, 1, 2, 3, 4] rfl (hK66 x3 M)))
 (fun _ => (x_iload_n g 3 dX4_unfold_37 rfl rfl
 (x_bipush g dX4_unfold_38 kB_80
 (x_icmp_ge g 66 dX4_unfold_40 rfl
 (fun _ => (x_sub [0, 1, 2, 3, 4] rfl (hK66 x3 M)))
 (fun _ => (x_aload_n g 0 dX4_unfold_43 rfl rfl
 (x_getS g 2 fl_RX4_19 rfl ht dX4_unfold_44
 (x_iload_n g 3 dX4_unfold_47 rfl rfl
 (x_aload_n g 1 dX4_unfold_48 rfl rfl
 (x_getS g 8 fl_RX4_46 rfl hxr1 dX4_unfold_49
 (x_iload_n g 2 dX4_unfold_52 rfl rfl
 (x_iload g 4 dX4_unfold_53 rfl
 (x_callSip (As := [.int x2, .int x4]) g mv_X10_slot ms_X10_slot lk_RX4_42 (fun b hb => kX10_slot x2 x4 M _ _ hb) rfl rfl hR ⟨Nat.le_of_ble_eq_true rfl, Nat.le_of_ble_eq_true rfl⟩ (Nat.le_of_ble_eq_true rfl) dX4_unfold_55 (fun v3 =>
 (x_iald g (so_2_9 hxr1) dX4_unfold_58
 (x_iast g (so_4_2 ht) dX4_unfold_59 (x_nmM (fun M4 =>
 (x_iinc (L' := [(3, .int (x3 + 1)), (0, .ref t), (1, .ref xr1), (2, .int x2), (4, .int x4), (5, .int x5)]) (v := (x3 + 1)) g 3 dX4_unfold_60 rfl (by rw [kI_1]) hn (Nat.le_of_ble_eq_true rfl) rfl
 (x_goto g 31 dX4_unfold_63 rfl
 (x_sub [1, 2, 3, 0, 4, 5] rfl (ih (x3 + 1) M4)))))))))))))))))))))))))
def lX4_unfold_5 (K72 : Int32 → Mem → Option (Unit × Mem)) (φ : Nat) (t : Nat) (xr1 : Nat) (x2 : Int32) : Nat → Int32 → Int32 → Mem → Option (Unit × Mem)
  | 0, _, _, _ => none
  | n + 1, x3, x4, M =>
    ixk x2 6 (
 if (M.1 (xr1 + 7) x2.toNatClampNeg) ≤ x4 then
 K72 x3 M
 else
 (fX10_slot x2 x4 M).bind fun v1 =>
 ixk v1 72 (
 nm (x3 + (M.1 (xr1 + 9) v1.toNatClampNeg)) (fun v2 =>
 lX4_unfold_31 (fun (v5 : Int32) (M6 : Mem) => lX4_unfold_5 K72 φ t xr1 x2 n v5 (x4 + 1) M6) t xr1 x2 x4 v2 φ x3 M)))
theorem lX4_unfold_5_s (K72 : Int32 → Mem → Option (Unit × Mem)) (φ : Nat) (t : Nat) (xr1 : Nat) (x2 : Int32) (n : Nat) (x3 : Int32) (x4 : Int32) (M : Mem) : lX4_unfold_5 K72 φ t xr1 x2 (n + 1) x3 x4 M =
    ixk x2 6 (
 if (M.1 (xr1 + 7) x2.toNatClampNeg) ≤ x4 then
 K72 x3 M
 else
 (fX10_slot x2 x4 M).bind fun v1 =>
 ixk v1 72 (
 nm (x3 + (M.1 (xr1 + 9) v1.toNatClampNeg)) (fun v2 =>
 lX4_unfold_31 (fun (v5 : Int32) (M6 : Mem) => lX4_unfold_5 K72 φ t xr1 x2 n v5 (x4 + 1) M6) t xr1 x2 x4 v2 φ x3 M))) := rfl
theorem lX4_unfold_5_0 (K72 : Int32 → Mem → Option (Unit × Mem)) (φ : Nat) (t : Nat) (xr1 : Nat) (x2 : Int32) (x3 : Int32) (x4 : Int32) (M : Mem) : lX4_unfold_5 K72 φ t xr1 x2 0 x3 x4 M = none := rfl
set_option maxRecDepth 100000 in
set_option maxHeartbeats 4000000 in
theorem wlX4_unfold_5 {J : JT} (g : Gd J cX4_unfold RX4) (hr : Rt J none) (hR : (JR J).frames = 1 ∧ (JR J).locals = 21) (hn : Jn J = 6) (K72 : Int32 → Mem → Option (Unit × Mem)) (φ : Nat) (t : Nat) (xr1 : Nat) (x2 : Int32) (ht : isO 4 t) (hxr1 : isO 2 xr1) (hK72 : ∀ (y3 : Int32) (M : Mem), X J (fun q : Unit × Mem => ((none : Option Value), q.2)) (K72 y3 M) 72 [(0, .ref t), (3, .int y3)] [] M) : ∀ (n : Nat) (x3 : Int32) (x4 : Int32) (M : Mem), X J (fun q : Unit × Mem => ((none : Option Value), q.2)) (lX4_unfold_5 K72 φ t xr1 x2 n x3 x4 M) 5 [(0, .ref t), (1, .ref xr1), (2, .int x2), (3, .int x3), (4, .int x4)] [] M := by
  intro n
  induction n with
  | zero =>
    intro x3 x4 M
    exact x_none
  | succ n ih =>
    intro x3 x4 M
    rw [lX4_unfold_5_s]
    exact (x_iload g 4 dX4_unfold_5 rfl
 (x_aload_n g 1 dX4_unfold_7 rfl rfl
 (x_getS g 7 fl_RX4_34 rfl hxr1 dX4_unfold_8
 (x_iload_n g 2 dX4_unfold_11 rfl rfl
 (x_iald g (so_2_8 hxr1) dX4_unfold_12
 (x_icmp_ge g 72 dX4_unfold_13 rfl
 (fun _ => (x_sub [0, 3] rfl (hK72 x3 M)))
 (fun _ => (x_iload_n g 3 dX4_unfold_16 rfl rfl
 (x_aload_n g 1 dX4_unfold_17 rfl rfl
 (x_getS g 9 fl_RX4_39 rfl hxr1 dX4_unfold_18
 (x_iload_n g 2 dX4_unfold_21 rfl rfl
 (x_iload g 4 dX4_unfold_22 rfl
 (x_callSip (As := [.int x2, .int x4]) g mv_X10_slot ms_X10_slot lk_RX4_42 (fun b hb => kX10_slot x2 x4 M _ _ hb) rfl rfl hR ⟨Nat.le_of_ble_eq_true rfl, Nat.le_of_ble_eq_true rfl⟩ (Nat.le_of_ble_eq_true rfl) dX4_unfold_24 (fun v1 =>
 (x_iald g (so_2_10 hxr1) dX4_unfold_27
 (x_iadd g dX4_unfold_28
 (x_nmI (fun v2 => (x_istore (L' := [(5, .int v2), (0, .ref t), (1, .ref xr1), (2, .int x2), (3, .int x3), (4, .int x4)]) g dX4_unfold_29 hn (Nat.le_of_ble_eq_true rfl) rfl
 (x_sub [1, 2, 3, 4, 5, 0] rfl (wlX4_unfold_31 g hr hR hn _ t xr1 x2 x4 v2 ht hxr1
 (fun v5 M6 => by exact (x_iinc (L' := [(4, .int (x4 + 1)), (0, .ref t), (1, .ref xr1), (2, .int x2), (3, .int v5)]) (v := (x4 + 1)) g 4 dX4_unfold_66 rfl (by rw [kI_1]) hn (Nat.le_of_ble_eq_true rfl) rfl
 (x_goto g 5 dX4_unfold_69 rfl
 (x_sub [1, 2, 3, 4, 0] rfl (ih v5 (x4 + 1) M6))))) φ x3 M)))))))))))))))))))))
def lX4_unfold_72 (t : Nat) : Nat → Int32 → Mem → Option (Unit × Mem)
  | 0, _, _ => none
  | n + 1, x3, M =>
    if (80 : Int32) ≤ x3 then
 some ((), M)
 else
 ixk x3 80 (nm (stI M (t + 2) x3.toNatClampNeg (-2 : Int32)) (fun M9 =>
 lX4_unfold_72 t n (x3 + 1) M9))
theorem lX4_unfold_72_s (t : Nat) (n : Nat) (x3 : Int32) (M : Mem) : lX4_unfold_72 t (n + 1) x3 M =
    if (80 : Int32) ≤ x3 then
 some ((), M)
 else
 ixk x3 80 (nm (stI M (t + 2) x3.toNatClampNeg (-2 : Int32)) (fun M9 =>
 lX4_unfold_72 t n (x3 + 1) M9)) := rfl
theorem lX4_unfold_72_0 (t : Nat) (x3 : Int32) (M : Mem) : lX4_unfold_72 t 0 x3 M = none := rfl
set_option maxRecDepth 100000 in
set_option maxHeartbeats 4000000 in
theorem wlX4_unfold_72 {J : JT} (g : Gd J cX4_unfold RX4) (hr : Rt J none) (hR : (JR J).frames = 1 ∧ (JR J).locals = 21) (hn : Jn J = 6) (t : Nat) (ht : isO 4 t) : ∀ (n : Nat) (x3 : Int32) (M : Mem), X J (fun q : Unit × Mem => ((none : Option Value), q.2)) (lX4_unfold_72 t n x3 M) 72 [(0, .ref t), (3, .int x3)] [] M := by
  intro n
  induction n with
  | zero =>
    intro x3 M
    exact x_none
  | succ n ih =>
    intro x3 M
    rw [lX4_unfold_72_s]
    exact (x_iload_n g 1 dX4_unfold_72 rfl rfl
 (x_bipush g dX4_unfold_73 kB_80
 (x_icmp_ge g 92 dX4_unfold_75 rfl
 (fun _ => (x_vret g hr rfl dX4_unfold_92))
 (fun _ => (x_aload_n g 0 dX4_unfold_78 rfl rfl
 (x_getS g 2 fl_RX4_19 rfl ht dX4_unfold_79
 (x_iload_n g 1 dX4_unfold_82 rfl rfl
 (x_bipush g dX4_unfold_83 kB_m2
 (x_iast g (so_4_2 ht) dX4_unfold_85 (x_nmM (fun M9 =>
 (x_iinc (L' := [(3, .int (x3 + 1)), (0, .ref t)]) (v := (x3 + 1)) g 1 dX4_unfold_86 rfl (by rw [kI_1]) hn (Nat.le_of_ble_eq_true rfl) rfl
 (x_goto g 72 dX4_unfold_89 rfl
 (x_sub [1, 0] rfl (ih (x3 + 1) M9)))))))))))))))
def fX4_unfold (φ : Nat) (t : Nat) (a1 : Nat) (a2 : Int32) (M : Mem) : Option (Unit × Mem) :=
  lX4_unfold_5 (fun (v7 : Int32) (M8 : Mem) => lX4_unfold_72 t φ v7 M8) φ t a1 a2 φ (0 : Int32) (0 : Int32) M
set_option maxRecDepth 100000 in
set_option maxHeartbeats 4000000 in
theorem kX4_unfold (φ : Nat) (t : Nat) (a1 : Nat) (a2 : Int32) (M : Mem) (ht : isO 4 t) (ha1 : isO 2 a1) (l : Launch) (G : GT) {b : (Unit × Mem)} (hE : fX4_unfold φ t a1 a2 M = some b) : Ok l G yX4_unfold cX4_unfold 6 none 1 21 [.ref t, .ref a1, .int a2] M ((fun q : Unit × Mem => ((none : Option Value), q.2)) b).1 ((fun q : Unit × Mem => ((none : Option Value), q.2)) b).2 := by
  refine Ok.ofX (pj := (fun q : Unit × Mem => ((none : Option Value), q.2))) (by decide) (Nat.le_of_ble_eq_true rfl) hE (fun J g hr hG hl hR hn => ?_)
  show X J (fun q : Unit × Mem => ((none : Option Value), q.2)) (fX4_unfold φ t a1 a2 M) 0 [(0, .ref t), (1, .ref a1), (2, .int a2)] [] M
  unfold fX4_unfold
  exact (x_iconst g dX4_unfold_0 kI_0
 (x_istore_n (L' := [(3, .int (0 : Int32)), (0, .ref t), (1, .ref a1), (2, .int a2)]) g dX4_unfold_1 rfl hn (Nat.le_of_ble_eq_true rfl) rfl
 (x_iconst g dX4_unfold_2 kI_0
 (x_istore (L' := [(4, .int (0 : Int32)), (3, .int (0 : Int32)), (0, .ref t), (1, .ref a1), (2, .int a2)]) g dX4_unfold_3 hn (Nat.le_of_ble_eq_true rfl) rfl
 (x_sub [2, 3, 4, 1, 0] rfl (wlX4_unfold_5 g hr hR hn _ φ t a1 a2 ht ha1
 (fun v7 M8 => by exact (wlX4_unfold_72 g hr hR hn  t ht φ v7 M8)) φ (0 : Int32) (0 : Int32) M))))))
def lX4_draw_9 (t : Nat) (xr1 : Nat) : Nat → Int32 → Mem → Option (Int32 × Mem)
  | 0, _, _ => none
  | n + 1, x4, M =>
    if (M.1 xr1 2) ≤ x4 then
 some (x4, M)
 else
 ixk x4 80 (
 if (M.1 (t + 2) x4.toNatClampNeg) = (-2 : Int32) then
 some (x4, M)
 else
 ixk x4 80 (
 bd (fX7_put xr1 x4 ((M.1 (t + 2) x4.toNatClampNeg).toInt64) M) fun vu3 M4 =>
 lX4_draw_9 t xr1 n (x4 + 1) M4))
theorem lX4_draw_9_s (t : Nat) (xr1 : Nat) (n : Nat) (x4 : Int32) (M : Mem) : lX4_draw_9 t xr1 (n + 1) x4 M =
    if (M.1 xr1 2) ≤ x4 then
 some (x4, M)
 else
 ixk x4 80 (
 if (M.1 (t + 2) x4.toNatClampNeg) = (-2 : Int32) then
 some (x4, M)
 else
 ixk x4 80 (
 bd (fX7_put xr1 x4 ((M.1 (t + 2) x4.toNatClampNeg).toInt64) M) fun vu3 M4 =>
 lX4_draw_9 t xr1 n (x4 + 1) M4)) := rfl
theorem lX4_draw_9_0 (t : Nat) (xr1 : Nat) (x4 : Int32) (M : Mem) : lX4_draw_9 t xr1 0 x4 M = none := rfl
set_option maxRecDepth 100000 in
set_option maxHeartbeats 4000000 in
theorem wlX4_draw_9 {J : JT} (g : Gd J cX4_draw RX4) (hr : Rt J (some .int)) (hR : (JR J).frames = 2 ∧ (JR J).locals = 46) (hn : Jn J = 5) (t : Nat) (xr1 : Nat) (ht : isO 4 t) (hxr1 : isO 7 xr1) : ∀ (n : Nat) (x4 : Int32) (M : Mem), X J (fun q : Int32 × Mem => (some (Value.int q.1), q.2)) (lX4_draw_9 t xr1 n x4 M) 9 [(0, .ref t), (1, .ref xr1), (4, .int x4)] [] M := by
  intro n
  induction n with
  | zero =>
    intro x4 M
    exact x_none
  | succ n ih =>
    intro x4 M
    rw [lX4_draw_9_s]
    exact (x_iload g 2 dX4_draw_9 rfl
 (x_aload_n g 1 dX4_draw_11 rfl rfl
 (x_getI g fl_RX4_53 rfl hxr1 dX4_draw_12
 (x_icmp_ge g 50 dX4_draw_15 rfl
 (fun _ => (x_iload g 2 dX4_draw_50 rfl
 (x_iret g hr rfl rfl dX4_draw_52)))
 (fun _ => (x_aload_n g 0 dX4_draw_18 rfl rfl
 (x_getS g 2 fl_RX4_19 rfl ht dX4_draw_19
 (x_iload g 2 dX4_draw_22 rfl
 (x_iald g (so_4_2 ht) dX4_draw_24
 (x_bipush g dX4_draw_25 kB_m2
 (x_icmp_eq g 50 dX4_draw_27 rfl
 (fun _ => (x_iload g 2 dX4_draw_50 rfl
 (x_iret g hr rfl rfl dX4_draw_52)))
 (fun _ => (x_aload_n g 1 dX4_draw_30 rfl rfl
 (x_iload g 2 dX4_draw_31 rfl
 (x_aload_n g 0 dX4_draw_33 rfl rfl
 (x_getS g 2 fl_RX4_19 rfl ht dX4_draw_34
 (x_iload g 2 dX4_draw_37 rfl
 (x_iald g (so_4_2 ht) dX4_draw_39
 (x_i2l g dX4_draw_40
 (x_callVv (As := [.int x4, .long ((M.1 (t + 2) x4.toNatClampNeg).toInt64)]) g mv_X7_put mi_X7_put lk_RX4_56 hxr1 (fun b Mh_ hb => kX7_put xr1 x4 ((M.1 (t + 2) x4.toNatClampNeg).toInt64) M hxr1 _ _ hb) rfl rfl hR ⟨Nat.le_of_ble_eq_true rfl, Nat.le_of_ble_eq_true rfl⟩ (Nat.le_of_ble_eq_true rfl) dX4_draw_41 (fun vu3 M4 =>
 (x_iinc (L' := [(4, .int (x4 + 1)), (0, .ref t), (1, .ref xr1)]) (v := (x4 + 1)) g 2 dX4_draw_44 rfl (by rw [kI_1]) hn (Nat.le_of_ble_eq_true rfl) rfl
 (x_goto g 9 dX4_draw_47 rfl
 (x_sub [1, 2, 0] rfl (ih (x4 + 1) M4)))))))))))))))))))))))))
def fX4_draw (φ : Nat) (t : Nat) (a1 : Nat) (a2 : Nat) (a3 : Int32) (M : Mem) : Option (Int32 × Mem) :=
  bd (fX4_unfold φ t a2 a3 M) fun vu1 M2 =>
 lX4_draw_9 t a1 φ (0 : Int32) M2
set_option maxRecDepth 100000 in
set_option maxHeartbeats 4000000 in
theorem kX4_draw (φ : Nat) (t : Nat) (a1 : Nat) (a2 : Nat) (a3 : Int32) (M : Mem) (ht : isO 4 t) (ha1 : isO 7 a1) (ha2 : isO 2 a2) (l : Launch) (G : GT) {b : (Int32 × Mem)} (hE : fX4_draw φ t a1 a2 a3 M = some b) : Ok l G yX4_draw cX4_draw 5 (some .int) 2 46 [.ref t, .ref a1, .ref a2, .int a3] M ((fun q : Int32 × Mem => (some (Value.int q.1), q.2)) b).1 ((fun q : Int32 × Mem => (some (Value.int q.1), q.2)) b).2 := by
  refine Ok.ofX (pj := (fun q : Int32 × Mem => (some (Value.int q.1), q.2))) (by decide) (Nat.le_of_ble_eq_true rfl) hE (fun J g hr hG hl hR hn => ?_)
  show X J (fun q : Int32 × Mem => (some (Value.int q.1), q.2)) (fX4_draw φ t a1 a2 a3 M) 0 [(0, .ref t), (1, .ref a1), (2, .ref a2), (3, .int a3)] [] M
  unfold fX4_draw
  exact (x_aload_n g 0 dX4_draw_0 rfl rfl
 (x_aload_n g 2 dX4_draw_1 rfl rfl
 (x_iload_n g 3 dX4_draw_2 rfl rfl
 (x_callVv (As := [.ref a2, .int a3]) g mv_X4_unfold mi_X4_unfold lk_RX4_49 ht (fun b Mh_ hb => kX4_unfold φ t a2 a3 M ht ha2 _ _ hb) rfl rfl hR ⟨Nat.le_of_ble_eq_true rfl, Nat.le_of_ble_eq_true rfl⟩ (Nat.le_of_ble_eq_true rfl) dX4_draw_3 (fun vu1 M2 =>
 (x_iconst g dX4_draw_6 kI_0
 (x_istore (L' := [(4, .int (0 : Int32)), (0, .ref t), (1, .ref a1), (2, .ref a2), (3, .int a3)]) g dX4_draw_7 hn (Nat.le_of_ble_eq_true rfl) rfl
 (x_sub [1, 2, 0] rfl (wlX4_draw_9 g hr hR hn  t a1 ht ha1 φ (0 : Int32) M2)))))))))
def fX10_draws (φ : Nat) (t : Nat) (a1 : Int32) (a2 : Int32) (M : Mem) : Option (Int32 × Mem) :=
  (ldr 2 (M.2.2 t 7)).bind fun vr1 =>
 (fX2_isHole vr1 a1 M).bind fun v2 =>
 if v2 = 0 then
 bd (fX10_refuse t (1 : Int32) M) fun v3 M4 =>
 some (v3, M4)
 else
 (fX10_isTray a2 M).bind fun v5 =>
 if v5 = 0 then
 bd (fX10_refuse t (1 : Int32) M) fun v16 M17 =>
 some (v16, M17)
 else
 ixk a2 4 (
 (fX7_isMissing (srf (t + 1) a2.toNatClampNeg) M).bind fun v7 =>
 if v7 = 0 then
 ixk a2 4 (
 (ldr 2 (M.2.2 t 7)).bind fun vr9 =>
 bd (fX4_draw φ (t + 71) (srf (t + 1) a2.toNatClampNeg) vr9 a1 M) fun v10 M11 =>
 bd (fX10_answer t v10 M11) fun v12 M13 =>
 some (v12, M13))
 else
 bd (fX10_refuse t (2 : Int32) M) fun v14 M15 =>
 some (v14, M15))
set_option maxRecDepth 100000 in
set_option maxHeartbeats 4000000 in
theorem kX10_draws (φ : Nat) (t : Nat) (a1 : Int32) (a2 : Int32) (M : Mem) (ht : isO 10 t) (l : Launch) (G : GT) {b : (Int32 × Mem)} (hE : fX10_draws φ t a1 a2 M = some b) : Ok l G yX10_draws cX10_draws 3 (some .int) 3 70 [.ref t, .int a1, .int a2] M ((fun q : Int32 × Mem => (some (Value.int q.1), q.2)) b).1 ((fun q : Int32 × Mem => (some (Value.int q.1), q.2)) b).2 := by
  refine Ok.ofX (pj := (fun q : Int32 × Mem => (some (Value.int q.1), q.2))) (by decide) (Nat.le_of_ble_eq_true rfl) hE (fun J g hr hG hl hR hn => ?_)
  show X J (fun q : Int32 × Mem => (some (Value.int q.1), q.2)) (fX10_draws φ t a1 a2 M) 0 [(0, .ref t), (1, .int a1), (2, .int a2)] [] M
  unfold fX10_draws
  exact (x_aload_n g 0 dX10_draws_0 rfl rfl
 (x_getD g fl_RX10_50 rfl ht dX10_draws_1 (fun vr1 hvr1 =>
 (x_iload_n g 1 dX10_draws_4 rfl rfl
 (x_callVip (As := [.int a1]) g mv_X2_isHole mi_X2_isHole lk_RX10_225 hvr1 (fun b hb => kX2_isHole vr1 a1 M hvr1 _ _ hb) rfl rfl hR ⟨Nat.le_of_ble_eq_true rfl, Nat.le_of_ble_eq_true rfl⟩ (Nat.le_of_ble_eq_true rfl) dX10_draws_5 (fun v2 =>
 (x_if_eq g 18 dX10_draws_8 rfl
 (fun _ => (x_aload_n g 0 dX10_draws_18 rfl rfl
 (x_iconst g dX10_draws_19 kI_1
 (x_callVi (As := [.int (1 : Int32)]) g mv_X10_refuse mi_X10_refuse lk_RX10_137 ht (fun b Mh_ hb => kX10_refuse t (1 : Int32) M ht _ _ hb) rfl rfl hR ⟨Nat.le_of_ble_eq_true rfl, Nat.le_of_ble_eq_true rfl⟩ (Nat.le_of_ble_eq_true rfl) dX10_draws_20 (fun v3 M4 =>
 (x_iret g hr rfl rfl dX10_draws_23))))))
 (fun _ => (x_iload_n g 2 dX10_draws_11 rfl rfl
 (x_callSip (As := [.int a2]) g mv_X10_isTray ms_X10_isTray lk_RX10_110 (fun b hb => kX10_isTray a2 M _ _ hb) rfl rfl hR ⟨Nat.le_of_ble_eq_true rfl, Nat.le_of_ble_eq_true rfl⟩ (Nat.le_of_ble_eq_true rfl) dX10_draws_12 (fun v5 =>
 (x_if_ne g 24 dX10_draws_15 rfl
 (fun _ => (x_aload_n g 0 dX10_draws_24 rfl rfl
 (x_getS g 1 fl_RX10_22 rfl ht dX10_draws_25
 (x_iload_n g 2 dX10_draws_28 rfl rfl
 (x_aald g 4 (fun _ => rfl) (so_10_3 ht) dX10_draws_29 (fun hq6 =>
 (x_callVip (As := []) g mv_X7_isMissing mi_X7_isMissing lk_RX10_145 (se_10_3 ht hq6) (fun b hb => kX7_isMissing (srf (t + 1) a2.toNatClampNeg) M (se_10_3 ht hq6) _ _ hb) rfl rfl hR ⟨Nat.le_of_ble_eq_true rfl, Nat.le_of_ble_eq_true rfl⟩ (Nat.le_of_ble_eq_true rfl) dX10_draws_30 (fun v7 =>
 (x_if_eq g 42 dX10_draws_33 rfl
 (fun _ => (x_aload_n g 0 dX10_draws_42 rfl rfl
 (x_aload_n g 0 dX10_draws_43 rfl rfl
 (x_getS g 71 fl_RX10_95 rfl ht dX10_draws_44
 (x_aload_n g 0 dX10_draws_47 rfl rfl
 (x_getS g 1 fl_RX10_22 rfl ht dX10_draws_48
 (x_iload_n g 2 dX10_draws_51 rfl rfl
 (x_aald g 4 (fun _ => rfl) (so_10_3 ht) dX10_draws_52 (fun hq8 =>
 (x_aload_n g 0 dX10_draws_53 rfl rfl
 (x_getD g fl_RX10_50 rfl ht dX10_draws_54 (fun vr9 hvr9 =>
 (x_iload_n g 1 dX10_draws_57 rfl rfl
 (x_callVi (As := [.ref (srf (t + 1) a2.toNatClampNeg), .ref vr9, .int a1]) g mv_X4_draw mi_X4_draw lk_RX10_390 (so_10_16 ht) (fun b Mh_ hb => kX4_draw φ (t + 71) (srf (t + 1) a2.toNatClampNeg) vr9 a1 M (so_10_16 ht) (se_10_3 ht hq8) hvr9 _ _ hb) rfl rfl hR ⟨Nat.le_of_ble_eq_true rfl, Nat.le_of_ble_eq_true rfl⟩ (Nat.le_of_ble_eq_true rfl) dX10_draws_58 (fun v10 M11 =>
 (x_callVi (As := [.int v10]) g mv_X10_answer mi_X10_answer lk_RX10_187 ht (fun b Mh_ hb => kX10_answer t v10 M11 ht _ _ hb) rfl rfl hR ⟨Nat.le_of_ble_eq_true rfl, Nat.le_of_ble_eq_true rfl⟩ (Nat.le_of_ble_eq_true rfl) dX10_draws_61 (fun v12 M13 =>
 (x_iret g hr rfl rfl dX10_draws_64))))))))))))))))))
 (fun _ => (x_aload_n g 0 dX10_draws_36 rfl rfl
 (x_iconst g dX10_draws_37 kI_2
 (x_callVi (As := [.int (2 : Int32)]) g mv_X10_refuse mi_X10_refuse lk_RX10_137 ht (fun b Mh_ hb => kX10_refuse t (2 : Int32) M ht _ _ hb) rfl rfl hR ⟨Nat.le_of_ble_eq_true rfl, Nat.le_of_ble_eq_true rfl⟩ (Nat.le_of_ble_eq_true rfl) dX10_draws_38 (fun v14 M15 =>
 (x_iret g hr rfl rfl dX10_draws_41)))))))))))))))
 (fun _ => (x_aload_n g 0 dX10_draws_18 rfl rfl
 (x_iconst g dX10_draws_19 kI_1
 (x_callVi (As := [.int (1 : Int32)]) g mv_X10_refuse mi_X10_refuse lk_RX10_137 ht (fun b Mh_ hb => kX10_refuse t (1 : Int32) M ht _ _ hb) rfl rfl hR ⟨Nat.le_of_ble_eq_true rfl, Nat.le_of_ble_eq_true rfl⟩ (Nat.le_of_ble_eq_true rfl) dX10_draws_20 (fun v16 M17 =>
 (x_iret g hr rfl rfl dX10_draws_23))))))))))))))))))
