theorem dX7_areWithin_0 : decode cX7_areWithin 0 = .ok (.iconst 0, 1) := by decide +kernel
theorem dX7_areWithin_1 : decode cX7_areWithin 1 = .ok (.istore 4, 2) := by decide +kernel
theorem dX7_areWithin_3 : decode cX7_areWithin 3 = .ok (.iload 4, 2) := by decide +kernel
theorem dX7_areWithin_5 : decode cX7_areWithin 5 = .ok (.iload_n 1, 1) := by decide +kernel
theorem dX7_areWithin_6 : decode cX7_areWithin 6 = .ok (.if_icmp .ge 37, 3) := by decide +kernel
theorem dX7_areWithin_9 : decode cX7_areWithin 9 = .ok (.aload_n 0, 1) := by decide +kernel
theorem dX7_areWithin_10 : decode cX7_areWithin 10 = .ok (.getfield 9, 3) := by decide +kernel
theorem dX7_areWithin_13 : decode cX7_areWithin 13 = .ok (.iload 4, 2) := by decide +kernel
theorem dX7_areWithin_15 : decode cX7_areWithin 15 = .ok (.laload, 1) := by decide +kernel
theorem dX7_areWithin_16 : decode cX7_areWithin 16 = .ok (.ldc2_w 22, 3) := by decide +kernel
theorem dX7_areWithin_19 : decode cX7_areWithin 19 = .ok (.lcmp, 1) := by decide +kernel
theorem dX7_areWithin_20 : decode cX7_areWithin 20 = .ok (.ifCond .lt 15, 3) := by decide +kernel
theorem dX7_areWithin_23 : decode cX7_areWithin 23 = .ok (.aload_n 0, 1) := by decide +kernel
theorem dX7_areWithin_24 : decode cX7_areWithin 24 = .ok (.getfield 9, 3) := by decide +kernel
theorem dX7_areWithin_27 : decode cX7_areWithin 27 = .ok (.iload 4, 2) := by decide +kernel
theorem dX7_areWithin_29 : decode cX7_areWithin 29 = .ok (.laload, 1) := by decide +kernel
theorem dX7_areWithin_30 : decode cX7_areWithin 30 = .ok (.lload_n 2, 1) := by decide +kernel
theorem dX7_areWithin_31 : decode cX7_areWithin 31 = .ok (.lcmp, 1) := by decide +kernel
theorem dX7_areWithin_32 : decode cX7_areWithin 32 = .ok (.ifCond .le 5, 3) := by decide +kernel
theorem dX7_areWithin_35 : decode cX7_areWithin 35 = .ok (.iconst 0, 1) := by decide +kernel
theorem dX7_areWithin_36 : decode cX7_areWithin 36 = .ok (.ireturn, 1) := by decide +kernel
theorem dX7_areWithin_37 : decode cX7_areWithin 37 = .ok (.iinc 4 1, 3) := by decide +kernel
theorem dX7_areWithin_40 : decode cX7_areWithin 40 = .ok (.goto (-37), 3) := by decide +kernel
theorem dX7_areWithin_43 : decode cX7_areWithin 43 = .ok (.iconst 1, 1) := by decide +kernel
theorem dX7_areWithin_44 : decode cX7_areWithin 44 = .ok (.ireturn, 1) := by decide +kernel
theorem dX10_logStatus_0 : decode cX10_logStatus 0 = .ok (.iload_n 1, 1) := by decide +kernel
theorem dX10_logStatus_1 : decode cX10_logStatus 1 = .ok (.invokestatic 110, 3) := by decide +kernel
theorem dX10_logStatus_4 : decode cX10_logStatus 4 = .ok (.ifCond .eq 13, 3) := by decide +kernel
theorem dX10_logStatus_7 : decode cX10_logStatus 7 = .ok (.iload_n 2, 1) := by decide +kernel
theorem dX10_logStatus_8 : decode cX10_logStatus 8 = .ok (.iconst 1, 1) := by decide +kernel
theorem dX10_logStatus_9 : decode cX10_logStatus 9 = .ok (.bipush 60, 2) := by decide +kernel
theorem dX10_logStatus_11 : decode cX10_logStatus 11 = .ok (.invokestatic 114, 3) := by decide +kernel
theorem dX10_logStatus_14 : decode cX10_logStatus 14 = .ok (.ifCond .ne 5, 3) := by decide +kernel
theorem dX10_logStatus_17 : decode cX10_logStatus 17 = .ok (.iconst 1, 1) := by decide +kernel
theorem dX10_logStatus_18 : decode cX10_logStatus 18 = .ok (.ireturn, 1) := by decide +kernel
theorem dX10_logStatus_19 : decode cX10_logStatus 19 = .ok (.aload_n 0, 1) := by decide +kernel
theorem dX10_logStatus_20 : decode cX10_logStatus 20 = .ok (.getfield 22, 3) := by decide +kernel
theorem dX10_logStatus_23 : decode cX10_logStatus 23 = .ok (.iload_n 1, 1) := by decide +kernel
theorem dX10_logStatus_24 : decode cX10_logStatus 24 = .ok (.aaload, 1) := by decide +kernel
theorem dX10_logStatus_25 : decode cX10_logStatus 25 = .ok (.invokevirtual 145, 3) := by decide +kernel
theorem dX10_logStatus_28 : decode cX10_logStatus 28 = .ok (.ifCond .eq 5, 3) := by decide +kernel
theorem dX10_logStatus_31 : decode cX10_logStatus 31 = .ok (.iconst 2, 1) := by decide +kernel
theorem dX10_logStatus_32 : decode cX10_logStatus 32 = .ok (.ireturn, 1) := by decide +kernel
theorem dX10_logStatus_33 : decode cX10_logStatus 33 = .ok (.aload_n 0, 1) := by decide +kernel
theorem dX10_logStatus_34 : decode cX10_logStatus 34 = .ok (.getfield 22, 3) := by decide +kernel
theorem dX10_logStatus_37 : decode cX10_logStatus 37 = .ok (.iload_n 1, 1) := by decide +kernel
theorem dX10_logStatus_38 : decode cX10_logStatus 38 = .ok (.aaload, 1) := by decide +kernel
theorem dX10_logStatus_39 : decode cX10_logStatus 39 = .ok (.iconst 0, 1) := by decide +kernel
theorem dX10_logStatus_40 : decode cX10_logStatus 40 = .ok (.iload_n 2, 1) := by decide +kernel
theorem dX10_logStatus_41 : decode cX10_logStatus 41 = .ok (.invokevirtual 151, 3) := by decide +kernel
theorem dX10_logStatus_44 : decode cX10_logStatus 44 = .ok (.ifCond .ne 5, 3) := by decide +kernel
theorem dX10_logStatus_47 : decode cX10_logStatus 47 = .ok (.iconst 3, 1) := by decide +kernel
theorem dX10_logStatus_48 : decode cX10_logStatus 48 = .ok (.ireturn, 1) := by decide +kernel
theorem dX10_logStatus_49 : decode cX10_logStatus 49 = .ok (.aload_n 0, 1) := by decide +kernel
theorem dX10_logStatus_50 : decode cX10_logStatus 50 = .ok (.getfield 22, 3) := by decide +kernel
theorem dX10_logStatus_53 : decode cX10_logStatus 53 = .ok (.iload_n 1, 1) := by decide +kernel
theorem dX10_logStatus_54 : decode cX10_logStatus 54 = .ok (.aaload, 1) := by decide +kernel
theorem dX10_logStatus_55 : decode cX10_logStatus 55 = .ok (.iload_n 2, 1) := by decide +kernel
theorem dX10_logStatus_56 : decode cX10_logStatus 56 = .ok (.iload_n 3, 1) := by decide +kernel
theorem dX10_logStatus_57 : decode cX10_logStatus 57 = .ok (.i2l, 1) := by decide +kernel
theorem dX10_logStatus_58 : decode cX10_logStatus 58 = .ok (.invokevirtual 480, 3) := by decide +kernel
theorem dX10_logStatus_61 : decode cX10_logStatus 61 = .ok (.ifCond .eq 7, 3) := by decide +kernel
theorem dX10_logStatus_64 : decode cX10_logStatus 64 = .ok (.iconst 0, 1) := by decide +kernel
theorem dX10_logStatus_65 : decode cX10_logStatus 65 = .ok (.goto 4, 3) := by decide +kernel
theorem dX10_logStatus_68 : decode cX10_logStatus 68 = .ok (.iconst 5, 1) := by decide +kernel
theorem dX10_logStatus_69 : decode cX10_logStatus 69 = .ok (.ireturn, 1) := by decide +kernel
theorem dX4_isPick_0 : decode cX4_isPick 0 = .ok (.aload_n 0, 1) := by decide +kernel
theorem dX4_isPick_1 : decode cX4_isPick 1 = .ok (.getfield 26, 3) := by decide +kernel
theorem dX4_isPick_4 : decode cX4_isPick 4 = .ok (.iload_n 2, 1) := by decide +kernel
theorem dX4_isPick_5 : decode cX4_isPick 5 = .ok (.iconst 1, 1) := by decide +kernel
theorem dX4_isPick_6 : decode cX4_isPick 6 = .ok (.isub, 1) := by decide +kernel
theorem dX4_isPick_7 : decode cX4_isPick 7 = .ok (.laload, 1) := by decide +kernel
theorem dX4_isPick_8 : decode cX4_isPick 8 = .ok (.lstore 5, 2) := by decide +kernel
theorem dX4_isPick_10 : decode cX4_isPick 10 = .ok (.aload_n 0, 1) := by decide +kernel
theorem dX4_isPick_11 : decode cX4_isPick 11 = .ok (.getfield 26, 3) := by decide +kernel
theorem dX4_isPick_14 : decode cX4_isPick 14 = .ok (.iload_n 2, 1) := by decide +kernel
theorem dX4_isPick_15 : decode cX4_isPick 15 = .ok (.laload, 1) := by decide +kernel
theorem dX4_isPick_16 : decode cX4_isPick 16 = .ok (.iload_n 3, 1) := by decide +kernel
theorem dX4_isPick_17 : decode cX4_isPick 17 = .ok (.i2l, 1) := by decide +kernel
theorem dX4_isPick_18 : decode cX4_isPick 18 = .ok (.lcmp, 1) := by decide +kernel
theorem dX4_isPick_19 : decode cX4_isPick 19 = .ok (.ifCond .lt 20, 3) := by decide +kernel
theorem dX4_isPick_22 : decode cX4_isPick 22 = .ok (.lload 5, 2) := by decide +kernel
theorem dX4_isPick_24 : decode cX4_isPick 24 = .ok (.ldc2_w 32, 3) := by decide +kernel
theorem dX4_isPick_27 : decode cX4_isPick 27 = .ok (.lcmp, 1) := by decide +kernel
theorem dX4_isPick_28 : decode cX4_isPick 28 = .ok (.ifCond .eq 11, 3) := by decide +kernel
theorem dX4_isPick_31 : decode cX4_isPick 31 = .ok (.lload 5, 2) := by decide +kernel
theorem dX4_isPick_33 : decode cX4_isPick 33 = .ok (.iload_n 3, 1) := by decide +kernel
theorem dX4_isPick_34 : decode cX4_isPick 34 = .ok (.i2l, 1) := by decide +kernel
theorem dX4_isPick_35 : decode cX4_isPick 35 = .ok (.lcmp, 1) := by decide +kernel
theorem dX4_isPick_36 : decode cX4_isPick 36 = .ok (.ifCond .lt 5, 3) := by decide +kernel
theorem dX4_isPick_39 : decode cX4_isPick 39 = .ok (.iconst 0, 1) := by decide +kernel
theorem dX4_isPick_40 : decode cX4_isPick 40 = .ok (.ireturn, 1) := by decide +kernel
theorem dX4_isPick_41 : decode cX4_isPick 41 = .ok (.iload_n 2, 1) := by decide +kernel
theorem dX4_isPick_42 : decode cX4_isPick 42 = .ok (.iconst 1, 1) := by decide +kernel
theorem dX4_isPick_43 : decode cX4_isPick 43 = .ok (.iadd, 1) := by decide +kernel
theorem dX4_isPick_44 : decode cX4_isPick 44 = .ok (.istore 7, 2) := by decide +kernel
theorem dX4_isPick_46 : decode cX4_isPick 46 = .ok (.iload 7, 2) := by decide +kernel
theorem dX4_isPick_48 : decode cX4_isPick 48 = .ok (.iload_n 2, 1) := by decide +kernel
theorem dX4_isPick_49 : decode cX4_isPick 49 = .ok (.iload 4, 2) := by decide +kernel
theorem dX4_isPick_51 : decode cX4_isPick 51 = .ok (.iadd, 1) := by decide +kernel
theorem dX4_isPick_52 : decode cX4_isPick 52 = .ok (.if_icmp .ge 44, 3) := by decide +kernel
theorem dX4_isPick_55 : decode cX4_isPick 55 = .ok (.iload 7, 2) := by decide +kernel
theorem dX4_isPick_57 : decode cX4_isPick 57 = .ok (.iload_n 1, 1) := by decide +kernel
theorem dX4_isPick_58 : decode cX4_isPick 58 = .ok (.if_icmp .ge 38, 3) := by decide +kernel
theorem dX4_isPick_61 : decode cX4_isPick 61 = .ok (.aload_n 0, 1) := by decide +kernel
theorem dX4_isPick_62 : decode cX4_isPick 62 = .ok (.getfield 26, 3) := by decide +kernel
theorem dX4_isPick_65 : decode cX4_isPick 65 = .ok (.iload 7, 2) := by decide +kernel
theorem dX4_isPick_67 : decode cX4_isPick 67 = .ok (.laload, 1) := by decide +kernel
theorem dX4_isPick_68 : decode cX4_isPick 68 = .ok (.ldc2_w 32, 3) := by decide +kernel
theorem dX4_isPick_71 : decode cX4_isPick 71 = .ok (.lcmp, 1) := by decide +kernel
theorem dX4_isPick_72 : decode cX4_isPick 72 = .ok (.ifCond .eq 18, 3) := by decide +kernel
theorem dX4_isPick_75 : decode cX4_isPick 75 = .ok (.aload_n 0, 1) := by decide +kernel
theorem dX4_isPick_76 : decode cX4_isPick 76 = .ok (.getfield 26, 3) := by decide +kernel
theorem dX4_isPick_79 : decode cX4_isPick 79 = .ok (.iload 7, 2) := by decide +kernel
theorem dX4_isPick_81 : decode cX4_isPick 81 = .ok (.laload, 1) := by decide +kernel
theorem dX4_isPick_82 : decode cX4_isPick 82 = .ok (.iload_n 3, 1) := by decide +kernel
theorem dX4_isPick_83 : decode cX4_isPick 83 = .ok (.i2l, 1) := by decide +kernel
theorem dX4_isPick_84 : decode cX4_isPick 84 = .ok (.lcmp, 1) := by decide +kernel
theorem dX4_isPick_85 : decode cX4_isPick 85 = .ok (.ifCond .ge 5, 3) := by decide +kernel
theorem dX4_isPick_88 : decode cX4_isPick 88 = .ok (.iconst 0, 1) := by decide +kernel
theorem dX4_isPick_89 : decode cX4_isPick 89 = .ok (.ireturn, 1) := by decide +kernel
theorem dX4_isPick_90 : decode cX4_isPick 90 = .ok (.iinc 7 1, 3) := by decide +kernel
theorem dX4_isPick_93 : decode cX4_isPick 93 = .ok (.goto (-47), 3) := by decide +kernel
theorem dX4_isPick_96 : decode cX4_isPick 96 = .ok (.iconst 1, 1) := by decide +kernel
theorem dX4_isPick_97 : decode cX4_isPick 97 = .ok (.ireturn, 1) := by decide +kernel
theorem dX4_pick_0 : decode cX4_pick 0 = .ok (.aload_n 0, 1) := by decide +kernel
theorem dX4_pick_1 : decode cX4_pick 1 = .ok (.iconst 0, 1) := by decide +kernel
theorem dX4_pick_2 : decode cX4_pick 2 = .ok (.putfield 15, 3) := by decide +kernel
theorem dX4_pick_5 : decode cX4_pick 5 = .ok (.iconst 1, 1) := by decide +kernel
theorem dX4_pick_6 : decode cX4_pick 6 = .ok (.istore 5, 2) := by decide +kernel
theorem dX4_pick_8 : decode cX4_pick 8 = .ok (.iload 5, 2) := by decide +kernel
theorem dX4_pick_10 : decode cX4_pick 10 = .ok (.iload_n 2, 1) := by decide +kernel
theorem dX4_pick_11 : decode cX4_pick 11 = .ok (.if_icmp .ge 43, 3) := by decide +kernel
theorem dX4_pick_14 : decode cX4_pick 14 = .ok (.aload_n 1, 1) := by decide +kernel
theorem dX4_pick_15 : decode cX4_pick 15 = .ok (.iload_n 2, 1) := by decide +kernel
theorem dX4_pick_16 : decode cX4_pick 16 = .ok (.iload 5, 2) := by decide +kernel
theorem dX4_pick_18 : decode cX4_pick 18 = .ok (.iload_n 3, 1) := by decide +kernel
theorem dX4_pick_19 : decode cX4_pick 19 = .ok (.iload 4, 2) := by decide +kernel
theorem dX4_pick_21 : decode cX4_pick 21 = .ok (.invokestatic 22, 3) := by decide +kernel
theorem dX4_pick_24 : decode cX4_pick 24 = .ok (.ifCond .eq 24, 3) := by decide +kernel
theorem dX4_pick_27 : decode cX4_pick 27 = .ok (.aload_n 0, 1) := by decide +kernel
theorem dX4_pick_28 : decode cX4_pick 28 = .ok (.getfield 9, 3) := by decide +kernel
theorem dX4_pick_31 : decode cX4_pick 31 = .ok (.aload_n 0, 1) := by decide +kernel
theorem dX4_pick_32 : decode cX4_pick 32 = .ok (.getfield 15, 3) := by decide +kernel
theorem dX4_pick_35 : decode cX4_pick 35 = .ok (.iload 5, 2) := by decide +kernel
theorem dX4_pick_37 : decode cX4_pick 37 = .ok (.iastore, 1) := by decide +kernel
theorem dX4_pick_38 : decode cX4_pick 38 = .ok (.aload_n 0, 1) := by decide +kernel
theorem dX4_pick_39 : decode cX4_pick 39 = .ok (.dup, 1) := by decide +kernel
theorem dX4_pick_40 : decode cX4_pick 40 = .ok (.getfield 15, 3) := by decide +kernel
theorem dX4_pick_43 : decode cX4_pick 43 = .ok (.iconst 1, 1) := by decide +kernel
theorem dX4_pick_44 : decode cX4_pick 44 = .ok (.iadd, 1) := by decide +kernel
theorem dX4_pick_45 : decode cX4_pick 45 = .ok (.putfield 15, 3) := by decide +kernel
theorem dX4_pick_48 : decode cX4_pick 48 = .ok (.iinc 5 1, 3) := by decide +kernel
theorem dX4_pick_51 : decode cX4_pick 51 = .ok (.goto (-43), 3) := by decide +kernel
theorem dX4_pick_54 : decode cX4_pick 54 = .ok (.aload_n 0, 1) := by decide +kernel
theorem dX4_pick_55 : decode cX4_pick 55 = .ok (.getfield 15, 3) := by decide +kernel
theorem dX4_pick_58 : decode cX4_pick 58 = .ok (.ireturn, 1) := by decide +kernel
theorem dX10_picks_0 : decode cX10_picks 0 = .ok (.iload_n 3, 1) := by decide +kernel
theorem dX10_picks_1 : decode cX10_picks 1 = .ok (.iconst 0, 1) := by decide +kernel
theorem dX10_picks_2 : decode cX10_picks 2 = .ok (.ldc_w 394, 3) := by decide +kernel
theorem dX10_picks_5 : decode cX10_picks 5 = .ok (.invokestatic 114, 3) := by decide +kernel
theorem dX10_picks_8 : decode cX10_picks 8 = .ok (.ifCond .eq 14, 3) := by decide +kernel
theorem dX10_picks_11 : decode cX10_picks 11 = .ok (.iload 4, 2) := by decide +kernel
theorem dX10_picks_13 : decode cX10_picks 13 = .ok (.iconst 1, 1) := by decide +kernel
theorem dX10_picks_14 : decode cX10_picks 14 = .ok (.bipush 9, 2) := by decide +kernel
theorem dX10_picks_16 : decode cX10_picks 16 = .ok (.invokestatic 114, 3) := by decide +kernel
theorem dX10_picks_19 : decode cX10_picks 19 = .ok (.ifCond .ne 9, 3) := by decide +kernel
theorem dX10_picks_22 : decode cX10_picks 22 = .ok (.aload_n 0, 1) := by decide +kernel
theorem dX10_picks_23 : decode cX10_picks 23 = .ok (.iconst 1, 1) := by decide +kernel
theorem dX10_picks_24 : decode cX10_picks 24 = .ok (.invokevirtual 137, 3) := by decide +kernel
theorem dX10_picks_27 : decode cX10_picks 27 = .ok (.ireturn, 1) := by decide +kernel
theorem dX10_picks_28 : decode cX10_picks 28 = .ok (.aload_n 0, 1) := by decide +kernel
theorem dX10_picks_29 : decode cX10_picks 29 = .ok (.iload_n 1, 1) := by decide +kernel
theorem dX10_picks_30 : decode cX10_picks 30 = .ok (.iload_n 2, 1) := by decide +kernel
theorem dX10_picks_31 : decode cX10_picks 31 = .ok (.ldc_w 394, 3) := by decide +kernel
theorem dX10_picks_34 : decode cX10_picks 34 = .ok (.invokevirtual 395, 3) := by decide +kernel
theorem dX10_picks_37 : decode cX10_picks 37 = .ok (.istore 5, 2) := by decide +kernel
theorem dX10_picks_39 : decode cX10_picks 39 = .ok (.iload 5, 2) := by decide +kernel
theorem dX10_picks_41 : decode cX10_picks 41 = .ok (.ifCond .eq 10, 3) := by decide +kernel
theorem dX10_picks_44 : decode cX10_picks 44 = .ok (.aload_n 0, 1) := by decide +kernel
theorem dX10_picks_45 : decode cX10_picks 45 = .ok (.iload 5, 2) := by decide +kernel
theorem dX10_picks_47 : decode cX10_picks 47 = .ok (.invokevirtual 137, 3) := by decide +kernel
theorem dX10_picks_50 : decode cX10_picks 50 = .ok (.ireturn, 1) := by decide +kernel
theorem dX10_picks_51 : decode cX10_picks 51 = .ok (.aload_n 0, 1) := by decide +kernel
theorem dX10_picks_52 : decode cX10_picks 52 = .ok (.aload_n 0, 1) := by decide +kernel
theorem dX10_picks_53 : decode cX10_picks 53 = .ok (.getfield 95, 3) := by decide +kernel
theorem dX10_picks_56 : decode cX10_picks 56 = .ok (.aload_n 0, 1) := by decide +kernel
theorem dX10_picks_57 : decode cX10_picks 57 = .ok (.getfield 22, 3) := by decide +kernel
theorem dX10_picks_60 : decode cX10_picks 60 = .ok (.iload_n 1, 1) := by decide +kernel
theorem dX10_picks_61 : decode cX10_picks 61 = .ok (.aaload, 1) := by decide +kernel
theorem dX10_picks_62 : decode cX10_picks 62 = .ok (.iload_n 2, 1) := by decide +kernel
theorem dX10_picks_63 : decode cX10_picks 63 = .ok (.iload_n 3, 1) := by decide +kernel
theorem dX10_picks_64 : decode cX10_picks 64 = .ok (.iload 4, 2) := by decide +kernel
theorem dX10_picks_66 : decode cX10_picks 66 = .ok (.invokevirtual 399, 3) := by decide +kernel
theorem dX10_picks_69 : decode cX10_picks 69 = .ok (.invokevirtual 187, 3) := by decide +kernel
theorem dX10_picks_72 : decode cX10_picks 72 = .ok (.ireturn, 1) := by decide +kernel
theorem dX10_pickAt_0 : decode cX10_pickAt 0 = .ok (.iload_n 1, 1) := by decide +kernel
theorem dX10_pickAt_1 : decode cX10_pickAt 1 = .ok (.ifCond .lt 14, 3) := by decide +kernel
theorem dX10_pickAt_4 : decode cX10_pickAt 4 = .ok (.iload_n 1, 1) := by decide +kernel
theorem dX10_pickAt_5 : decode cX10_pickAt 5 = .ok (.aload_n 0, 1) := by decide +kernel
theorem dX10_pickAt_6 : decode cX10_pickAt 6 = .ok (.getfield 95, 3) := by decide +kernel
theorem dX10_pickAt_9 : decode cX10_pickAt 9 = .ok (.getfield 403, 3) := by decide +kernel
theorem dX10_pickAt_12 : decode cX10_pickAt 12 = .ok (.if_icmp .lt 10, 3) := by decide +kernel
theorem dX10_pickAt_15 : decode cX10_pickAt 15 = .ok (.aload_n 0, 1) := by decide +kernel
theorem dX10_pickAt_16 : decode cX10_pickAt 16 = .ok (.bipush 6, 2) := by decide +kernel
theorem dX10_pickAt_18 : decode cX10_pickAt 18 = .ok (.invokevirtual 137, 3) := by decide +kernel
theorem dX10_pickAt_21 : decode cX10_pickAt 21 = .ok (.ireturn, 1) := by decide +kernel
theorem dX10_pickAt_22 : decode cX10_pickAt 22 = .ok (.aload_n 0, 1) := by decide +kernel
theorem dX10_pickAt_23 : decode cX10_pickAt 23 = .ok (.aload_n 0, 1) := by decide +kernel
theorem dX10_pickAt_24 : decode cX10_pickAt 24 = .ok (.getfield 95, 3) := by decide +kernel
theorem dX10_pickAt_27 : decode cX10_pickAt 27 = .ok (.getfield 406, 3) := by decide +kernel
theorem dX10_pickAt_30 : decode cX10_pickAt 30 = .ok (.iload_n 1, 1) := by decide +kernel
theorem dX10_pickAt_31 : decode cX10_pickAt 31 = .ok (.iaload, 1) := by decide +kernel
theorem dX10_pickAt_32 : decode cX10_pickAt 32 = .ok (.invokevirtual 187, 3) := by decide +kernel
theorem dX10_pickAt_35 : decode cX10_pickAt 35 = .ok (.ireturn, 1) := by decide +kernel
theorem dX7_fillGaps_0 : decode cX7_fillGaps 0 = .ok (.iconst 0, 1) := by decide +kernel
theorem dX7_fillGaps_1 : decode cX7_fillGaps 1 = .ok (.istore_n 2, 1) := by decide +kernel
theorem dX7_fillGaps_2 : decode cX7_fillGaps 2 = .ok (.iconst 1, 1) := by decide +kernel
theorem dX7_fillGaps_3 : decode cX7_fillGaps 3 = .ok (.istore_n 3, 1) := by decide +kernel
theorem dX7_fillGaps_4 : decode cX7_fillGaps 4 = .ok (.iload_n 3, 1) := by decide +kernel
theorem dX7_fillGaps_5 : decode cX7_fillGaps 5 = .ok (.iload_n 1, 1) := by decide +kernel
theorem dX7_fillGaps_6 : decode cX7_fillGaps 6 = .ok (.if_icmp .ge 54, 3) := by decide +kernel
theorem dX7_fillGaps_9 : decode cX7_fillGaps 9 = .ok (.aload_n 0, 1) := by decide +kernel
theorem dX7_fillGaps_10 : decode cX7_fillGaps 10 = .ok (.getfield 9, 3) := by decide +kernel
theorem dX7_fillGaps_13 : decode cX7_fillGaps 13 = .ok (.iload_n 3, 1) := by decide +kernel
theorem dX7_fillGaps_14 : decode cX7_fillGaps 14 = .ok (.laload, 1) := by decide +kernel
theorem dX7_fillGaps_15 : decode cX7_fillGaps 15 = .ok (.ldc2_w 22, 3) := by decide +kernel
theorem dX7_fillGaps_18 : decode cX7_fillGaps 18 = .ok (.lcmp, 1) := by decide +kernel
theorem dX7_fillGaps_19 : decode cX7_fillGaps 19 = .ok (.ifCond .ne 35, 3) := by decide +kernel
theorem dX7_fillGaps_22 : decode cX7_fillGaps 22 = .ok (.aload_n 0, 1) := by decide +kernel
theorem dX7_fillGaps_23 : decode cX7_fillGaps 23 = .ok (.getfield 9, 3) := by decide +kernel
theorem dX7_fillGaps_26 : decode cX7_fillGaps 26 = .ok (.iload_n 3, 1) := by decide +kernel
theorem dX7_fillGaps_27 : decode cX7_fillGaps 27 = .ok (.iconst 1, 1) := by decide +kernel
theorem dX7_fillGaps_28 : decode cX7_fillGaps 28 = .ok (.isub, 1) := by decide +kernel
theorem dX7_fillGaps_29 : decode cX7_fillGaps 29 = .ok (.laload, 1) := by decide +kernel
theorem dX7_fillGaps_30 : decode cX7_fillGaps 30 = .ok (.ldc2_w 22, 3) := by decide +kernel
theorem dX7_fillGaps_33 : decode cX7_fillGaps 33 = .ok (.lcmp, 1) := by decide +kernel
theorem dX7_fillGaps_34 : decode cX7_fillGaps 34 = .ok (.ifCond .eq 20, 3) := by decide +kernel
theorem dX7_fillGaps_37 : decode cX7_fillGaps 37 = .ok (.aload_n 0, 1) := by decide +kernel
theorem dX7_fillGaps_38 : decode cX7_fillGaps 38 = .ok (.getfield 9, 3) := by decide +kernel
theorem dX7_fillGaps_41 : decode cX7_fillGaps 41 = .ok (.iload_n 3, 1) := by decide +kernel
theorem dX7_fillGaps_42 : decode cX7_fillGaps 42 = .ok (.aload_n 0, 1) := by decide +kernel
theorem dX7_fillGaps_43 : decode cX7_fillGaps 43 = .ok (.getfield 9, 3) := by decide +kernel
theorem dX7_fillGaps_46 : decode cX7_fillGaps 46 = .ok (.iload_n 3, 1) := by decide +kernel
theorem dX7_fillGaps_47 : decode cX7_fillGaps 47 = .ok (.iconst 1, 1) := by decide +kernel
theorem dX7_fillGaps_48 : decode cX7_fillGaps 48 = .ok (.isub, 1) := by decide +kernel
theorem dX7_fillGaps_49 : decode cX7_fillGaps 49 = .ok (.laload, 1) := by decide +kernel
theorem dX7_fillGaps_50 : decode cX7_fillGaps 50 = .ok (.lastore, 1) := by decide +kernel
theorem dX7_fillGaps_51 : decode cX7_fillGaps 51 = .ok (.iinc 2 1, 3) := by decide +kernel
theorem dX7_fillGaps_54 : decode cX7_fillGaps 54 = .ok (.iinc 3 1, 3) := by decide +kernel
theorem dX7_fillGaps_57 : decode cX7_fillGaps 57 = .ok (.goto (-53), 3) := by decide +kernel
theorem dX7_fillGaps_60 : decode cX7_fillGaps 60 = .ok (.iload_n 2, 1) := by decide +kernel
theorem dX7_fillGaps_61 : decode cX7_fillGaps 61 = .ok (.ireturn, 1) := by decide +kernel
theorem dX10_fill_0 : decode cX10_fill 0 = .ok (.aload_n 0, 1) := by decide +kernel
theorem dX10_fill_1 : decode cX10_fill 1 = .ok (.iload_n 1, 1) := by decide +kernel
theorem dX10_fill_2 : decode cX10_fill 2 = .ok (.iload_n 2, 1) := by decide +kernel
theorem dX10_fill_3 : decode cX10_fill 3 = .ok (.ldc_w 394, 3) := by decide +kernel
theorem dX10_fill_6 : decode cX10_fill 6 = .ok (.invokevirtual 395, 3) := by decide +kernel
theorem dX10_fill_9 : decode cX10_fill 9 = .ok (.istore_n 3, 1) := by decide +kernel
theorem dX10_fill_10 : decode cX10_fill 10 = .ok (.iload_n 3, 1) := by decide +kernel
theorem dX10_fill_11 : decode cX10_fill 11 = .ok (.ifCond .eq 9, 3) := by decide +kernel
theorem dX10_fill_14 : decode cX10_fill 14 = .ok (.aload_n 0, 1) := by decide +kernel
theorem dX10_fill_15 : decode cX10_fill 15 = .ok (.iload_n 3, 1) := by decide +kernel
theorem dX10_fill_16 : decode cX10_fill 16 = .ok (.invokevirtual 137, 3) := by decide +kernel
theorem dX10_fill_19 : decode cX10_fill 19 = .ok (.ireturn, 1) := by decide +kernel
theorem dX10_fill_20 : decode cX10_fill 20 = .ok (.aload_n 0, 1) := by decide +kernel
theorem dX10_fill_21 : decode cX10_fill 21 = .ok (.aload_n 0, 1) := by decide +kernel
theorem dX10_fill_22 : decode cX10_fill 22 = .ok (.getfield 22, 3) := by decide +kernel
theorem dX10_fill_25 : decode cX10_fill 25 = .ok (.iload_n 1, 1) := by decide +kernel
theorem dX10_fill_26 : decode cX10_fill 26 = .ok (.aaload, 1) := by decide +kernel
theorem dX10_fill_27 : decode cX10_fill 27 = .ok (.iload_n 2, 1) := by decide +kernel
theorem dX10_fill_28 : decode cX10_fill 28 = .ok (.invokevirtual 409, 3) := by decide +kernel
theorem dX10_fill_31 : decode cX10_fill 31 = .ok (.invokevirtual 187, 3) := by decide +kernel
theorem dX10_fill_34 : decode cX10_fill 34 = .ok (.ireturn, 1) := by decide +kernel
theorem dX7_rowsOfAlike_0 : decode cX7_rowsOfAlike 0 = .ok (.iload_n 1, 1) := by decide +kernel
theorem dX7_rowsOfAlike_1 : decode cX7_rowsOfAlike 1 = .ok (.ifCond .le 7, 3) := by decide +kernel
theorem dX7_rowsOfAlike_4 : decode cX7_rowsOfAlike 4 = .ok (.iconst 1, 1) := by decide +kernel
theorem dX7_rowsOfAlike_5 : decode cX7_rowsOfAlike 5 = .ok (.goto 4, 3) := by decide +kernel
theorem dX7_rowsOfAlike_8 : decode cX7_rowsOfAlike 8 = .ok (.iconst 0, 1) := by decide +kernel
theorem dX7_rowsOfAlike_9 : decode cX7_rowsOfAlike 9 = .ok (.istore_n 2, 1) := by decide +kernel
theorem dX7_rowsOfAlike_10 : decode cX7_rowsOfAlike 10 = .ok (.iconst 1, 1) := by decide +kernel
theorem dX7_rowsOfAlike_11 : decode cX7_rowsOfAlike 11 = .ok (.istore_n 3, 1) := by decide +kernel
theorem dX7_rowsOfAlike_12 : decode cX7_rowsOfAlike 12 = .ok (.iload_n 3, 1) := by decide +kernel
theorem dX7_rowsOfAlike_13 : decode cX7_rowsOfAlike 13 = .ok (.iload_n 1, 1) := by decide +kernel
theorem dX7_rowsOfAlike_14 : decode cX7_rowsOfAlike 14 = .ok (.if_icmp .ge 30, 3) := by decide +kernel
theorem dX7_rowsOfAlike_17 : decode cX7_rowsOfAlike 17 = .ok (.aload_n 0, 1) := by decide +kernel
theorem dX7_rowsOfAlike_18 : decode cX7_rowsOfAlike 18 = .ok (.getfield 9, 3) := by decide +kernel
theorem dX7_rowsOfAlike_21 : decode cX7_rowsOfAlike 21 = .ok (.iload_n 3, 1) := by decide +kernel
theorem dX7_rowsOfAlike_22 : decode cX7_rowsOfAlike 22 = .ok (.laload, 1) := by decide +kernel
theorem dX7_rowsOfAlike_23 : decode cX7_rowsOfAlike 23 = .ok (.aload_n 0, 1) := by decide +kernel
theorem dX7_rowsOfAlike_24 : decode cX7_rowsOfAlike 24 = .ok (.getfield 9, 3) := by decide +kernel
theorem dX7_rowsOfAlike_27 : decode cX7_rowsOfAlike 27 = .ok (.iload_n 3, 1) := by decide +kernel
theorem dX7_rowsOfAlike_28 : decode cX7_rowsOfAlike 28 = .ok (.iconst 1, 1) := by decide +kernel
theorem dX7_rowsOfAlike_29 : decode cX7_rowsOfAlike 29 = .ok (.isub, 1) := by decide +kernel
theorem dX7_rowsOfAlike_30 : decode cX7_rowsOfAlike 30 = .ok (.laload, 1) := by decide +kernel
theorem dX7_rowsOfAlike_31 : decode cX7_rowsOfAlike 31 = .ok (.lcmp, 1) := by decide +kernel
theorem dX7_rowsOfAlike_32 : decode cX7_rowsOfAlike 32 = .ok (.ifCond .eq 6, 3) := by decide +kernel
theorem dX7_rowsOfAlike_35 : decode cX7_rowsOfAlike 35 = .ok (.iinc 2 1, 3) := by decide +kernel
theorem dX7_rowsOfAlike_38 : decode cX7_rowsOfAlike 38 = .ok (.iinc 3 1, 3) := by decide +kernel
theorem dX7_rowsOfAlike_41 : decode cX7_rowsOfAlike 41 = .ok (.goto (-29), 3) := by decide +kernel
theorem dX7_rowsOfAlike_44 : decode cX7_rowsOfAlike 44 = .ok (.iload_n 2, 1) := by decide +kernel
theorem dX7_rowsOfAlike_45 : decode cX7_rowsOfAlike 45 = .ok (.ireturn, 1) := by decide +kernel
theorem dX10_runs_0 : decode cX10_runs 0 = .ok (.aload_n 0, 1) := by decide +kernel
theorem dX10_runs_1 : decode cX10_runs 1 = .ok (.iload_n 1, 1) := by decide +kernel
theorem dX10_runs_2 : decode cX10_runs 2 = .ok (.iload_n 2, 1) := by decide +kernel
theorem dX10_runs_3 : decode cX10_runs 3 = .ok (.ldc_w 394, 3) := by decide +kernel
theorem dX10_runs_6 : decode cX10_runs 6 = .ok (.invokevirtual 395, 3) := by decide +kernel
theorem dX10_runs_9 : decode cX10_runs 9 = .ok (.istore_n 3, 1) := by decide +kernel
theorem dX10_runs_10 : decode cX10_runs 10 = .ok (.iload_n 3, 1) := by decide +kernel
theorem dX10_runs_11 : decode cX10_runs 11 = .ok (.ifCond .eq 9, 3) := by decide +kernel
theorem dX10_runs_14 : decode cX10_runs 14 = .ok (.aload_n 0, 1) := by decide +kernel
theorem dX10_runs_15 : decode cX10_runs 15 = .ok (.iload_n 3, 1) := by decide +kernel
theorem dX10_runs_16 : decode cX10_runs 16 = .ok (.invokevirtual 137, 3) := by decide +kernel
theorem dX10_runs_19 : decode cX10_runs 19 = .ok (.ireturn, 1) := by decide +kernel
theorem dX10_runs_20 : decode cX10_runs 20 = .ok (.aload_n 0, 1) := by decide +kernel
theorem dX10_runs_21 : decode cX10_runs 21 = .ok (.aload_n 0, 1) := by decide +kernel
theorem dX10_runs_22 : decode cX10_runs 22 = .ok (.getfield 22, 3) := by decide +kernel
theorem dX10_runs_25 : decode cX10_runs 25 = .ok (.iload_n 1, 1) := by decide +kernel
theorem dX10_runs_26 : decode cX10_runs 26 = .ok (.aaload, 1) := by decide +kernel
theorem dX10_runs_27 : decode cX10_runs 27 = .ok (.iload_n 2, 1) := by decide +kernel
theorem dX10_runs_28 : decode cX10_runs 28 = .ok (.invokevirtual 412, 3) := by decide +kernel
theorem dX10_runs_31 : decode cX10_runs 31 = .ok (.invokevirtual 187, 3) := by decide +kernel
theorem dX10_runs_34 : decode cX10_runs 34 = .ok (.ireturn, 1) := by decide +kernel
theorem dX4_alike_0 : decode cX4_alike 0 = .ok (.iconst 0, 1) := by decide +kernel
theorem dX4_alike_1 : decode cX4_alike 1 = .ok (.istore 4, 2) := by decide +kernel
theorem dX4_alike_3 : decode cX4_alike 3 = .ok (.iconst 0, 1) := by decide +kernel
theorem dX4_alike_4 : decode cX4_alike 4 = .ok (.istore 5, 2) := by decide +kernel
theorem dX4_alike_6 : decode cX4_alike 6 = .ok (.iload 5, 2) := by decide +kernel
theorem dX4_alike_8 : decode cX4_alike 8 = .ok (.iload_n 2, 1) := by decide +kernel
theorem dX4_alike_9 : decode cX4_alike 9 = .ok (.if_icmp .ge 49, 3) := by decide +kernel
theorem dX4_alike_12 : decode cX4_alike 12 = .ok (.iload 5, 2) := by decide +kernel
theorem dX4_alike_14 : decode cX4_alike 14 = .ok (.iload_n 3, 1) := by decide +kernel
theorem dX4_alike_15 : decode cX4_alike 15 = .ok (.iadd, 1) := by decide +kernel
theorem dX4_alike_16 : decode cX4_alike 16 = .ok (.istore 6, 2) := by decide +kernel
theorem dX4_alike_18 : decode cX4_alike 18 = .ok (.iload 6, 2) := by decide +kernel
theorem dX4_alike_20 : decode cX4_alike 20 = .ok (.ifCond .lt 32, 3) := by decide +kernel
theorem dX4_alike_23 : decode cX4_alike 23 = .ok (.iload 6, 2) := by decide +kernel
theorem dX4_alike_25 : decode cX4_alike 25 = .ok (.bipush 80, 2) := by decide +kernel
theorem dX4_alike_27 : decode cX4_alike 27 = .ok (.if_icmp .ge 25, 3) := by decide +kernel
theorem dX4_alike_30 : decode cX4_alike 30 = .ok (.aload_n 1, 1) := by decide +kernel
theorem dX4_alike_31 : decode cX4_alike 31 = .ok (.getfield 26, 3) := by decide +kernel
theorem dX4_alike_34 : decode cX4_alike 34 = .ok (.iload 5, 2) := by decide +kernel
theorem dX4_alike_36 : decode cX4_alike 36 = .ok (.laload, 1) := by decide +kernel
theorem dX4_alike_37 : decode cX4_alike 37 = .ok (.aload_n 0, 1) := by decide +kernel
theorem dX4_alike_38 : decode cX4_alike 38 = .ok (.getfield 19, 3) := by decide +kernel
theorem dX4_alike_41 : decode cX4_alike 41 = .ok (.iload 6, 2) := by decide +kernel
theorem dX4_alike_43 : decode cX4_alike 43 = .ok (.iaload, 1) := by decide +kernel
theorem dX4_alike_44 : decode cX4_alike 44 = .ok (.i2l, 1) := by decide +kernel
theorem dX4_alike_45 : decode cX4_alike 45 = .ok (.lcmp, 1) := by decide +kernel
theorem dX4_alike_46 : decode cX4_alike 46 = .ok (.ifCond .ne 6, 3) := by decide +kernel
theorem dX4_alike_49 : decode cX4_alike 49 = .ok (.iinc 4 1, 3) := by decide +kernel
theorem dX4_alike_52 : decode cX4_alike 52 = .ok (.iinc 5 1, 3) := by decide +kernel
theorem dX4_alike_55 : decode cX4_alike 55 = .ok (.goto (-49), 3) := by decide +kernel
theorem dX4_alike_58 : decode cX4_alike 58 = .ok (.iload 4, 2) := by decide +kernel
theorem dX4_alike_60 : decode cX4_alike 60 = .ok (.ireturn, 1) := by decide +kernel
theorem dX10_agrees_0 : decode cX10_agrees 0 = .ok (.aload_n 0, 1) := by decide +kernel
theorem dX10_agrees_1 : decode cX10_agrees 1 = .ok (.getfield 50, 3) := by decide +kernel
theorem dX10_agrees_4 : decode cX10_agrees 4 = .ok (.iload_n 3, 1) := by decide +kernel
theorem dX10_agrees_5 : decode cX10_agrees 5 = .ok (.invokevirtual 225, 3) := by decide +kernel
theorem dX10_agrees_8 : decode cX10_agrees 8 = .ok (.ifCond .ne 9, 3) := by decide +kernel
theorem dX10_agrees_11 : decode cX10_agrees 11 = .ok (.aload_n 0, 1) := by decide +kernel
theorem dX10_agrees_12 : decode cX10_agrees 12 = .ok (.iconst 1, 1) := by decide +kernel
theorem dX10_agrees_13 : decode cX10_agrees 13 = .ok (.invokevirtual 137, 3) := by decide +kernel
theorem dX10_agrees_16 : decode cX10_agrees 16 = .ok (.ireturn, 1) := by decide +kernel
theorem dX10_agrees_17 : decode cX10_agrees 17 = .ok (.aload_n 0, 1) := by decide +kernel
theorem dX10_agrees_18 : decode cX10_agrees 18 = .ok (.iload_n 1, 1) := by decide +kernel
theorem dX10_agrees_19 : decode cX10_agrees 19 = .ok (.iload_n 2, 1) := by decide +kernel
theorem dX10_agrees_20 : decode cX10_agrees 20 = .ok (.aload_n 0, 1) := by decide +kernel
theorem dX10_agrees_21 : decode cX10_agrees 21 = .ok (.getfield 50, 3) := by decide +kernel
theorem dX10_agrees_24 : decode cX10_agrees 24 = .ok (.getfield 206, 3) := by decide +kernel
theorem dX10_agrees_27 : decode cX10_agrees 27 = .ok (.iconst 1, 1) := by decide +kernel
theorem dX10_agrees_28 : decode cX10_agrees 28 = .ok (.isub, 1) := by decide +kernel
theorem dX10_agrees_29 : decode cX10_agrees 29 = .ok (.invokevirtual 395, 3) := by decide +kernel
theorem dX10_agrees_32 : decode cX10_agrees 32 = .ok (.istore 4, 2) := by decide +kernel
theorem dX10_agrees_34 : decode cX10_agrees 34 = .ok (.iload 4, 2) := by decide +kernel
theorem dX10_agrees_36 : decode cX10_agrees 36 = .ok (.ifCond .eq 10, 3) := by decide +kernel
theorem dX10_agrees_39 : decode cX10_agrees 39 = .ok (.aload_n 0, 1) := by decide +kernel
theorem dX10_agrees_40 : decode cX10_agrees 40 = .ok (.iload 4, 2) := by decide +kernel
theorem dX10_agrees_42 : decode cX10_agrees 42 = .ok (.invokevirtual 137, 3) := by decide +kernel
theorem dX10_agrees_45 : decode cX10_agrees 45 = .ok (.ireturn, 1) := by decide +kernel
theorem dX10_agrees_46 : decode cX10_agrees 46 = .ok (.aload_n 0, 1) := by decide +kernel
theorem dX10_agrees_47 : decode cX10_agrees 47 = .ok (.getfield 95, 3) := by decide +kernel
theorem dX10_agrees_50 : decode cX10_agrees 50 = .ok (.aload_n 0, 1) := by decide +kernel
theorem dX10_agrees_51 : decode cX10_agrees 51 = .ok (.getfield 50, 3) := by decide +kernel
theorem dX10_agrees_54 : decode cX10_agrees 54 = .ok (.iload_n 3, 1) := by decide +kernel
theorem dX10_agrees_55 : decode cX10_agrees 55 = .ok (.invokevirtual 415, 3) := by decide +kernel
theorem dX10_agrees_58 : decode cX10_agrees 58 = .ok (.aload_n 0, 1) := by decide +kernel
theorem dX10_agrees_59 : decode cX10_agrees 59 = .ok (.aload_n 0, 1) := by decide +kernel
theorem dX10_agrees_60 : decode cX10_agrees 60 = .ok (.getfield 95, 3) := by decide +kernel
theorem dX10_agrees_63 : decode cX10_agrees 63 = .ok (.aload_n 0, 1) := by decide +kernel
theorem dX10_agrees_64 : decode cX10_agrees 64 = .ok (.getfield 22, 3) := by decide +kernel
theorem dX10_agrees_67 : decode cX10_agrees 67 = .ok (.iload_n 1, 1) := by decide +kernel
theorem dX10_agrees_68 : decode cX10_agrees 68 = .ok (.aaload, 1) := by decide +kernel
theorem dX10_agrees_69 : decode cX10_agrees 69 = .ok (.iload_n 2, 1) := by decide +kernel
theorem dX10_agrees_70 : decode cX10_agrees 70 = .ok (.iconst 0, 1) := by decide +kernel
theorem dX10_agrees_71 : decode cX10_agrees 71 = .ok (.invokevirtual 419, 3) := by decide +kernel
theorem dX10_agrees_74 : decode cX10_agrees 74 = .ok (.invokevirtual 187, 3) := by decide +kernel
theorem dX10_agrees_77 : decode cX10_agrees 77 = .ok (.ireturn, 1) := by decide +kernel
theorem dX4_bestShift_0 : decode cX4_bestShift 0 = .ok (.iconst 0, 1) := by decide +kernel
theorem dX4_bestShift_1 : decode cX4_bestShift 1 = .ok (.istore_n 3, 1) := by decide +kernel
theorem dX4_bestShift_2 : decode cX4_bestShift 2 = .ok (.aload_n 0, 1) := by decide +kernel
theorem dX4_bestShift_3 : decode cX4_bestShift 3 = .ok (.aload_n 1, 1) := by decide +kernel
theorem dX4_bestShift_4 : decode cX4_bestShift 4 = .ok (.iload_n 2, 1) := by decide +kernel
theorem dX4_bestShift_5 : decode cX4_bestShift 5 = .ok (.iconst 0, 1) := by decide +kernel
theorem dX4_bestShift_6 : decode cX4_bestShift 6 = .ok (.invokevirtual 60, 3) := by decide +kernel
theorem dX4_bestShift_9 : decode cX4_bestShift 9 = .ok (.istore 4, 2) := by decide +kernel
theorem dX4_bestShift_11 : decode cX4_bestShift 11 = .ok (.iconst 1, 1) := by decide +kernel
theorem dX4_bestShift_12 : decode cX4_bestShift 12 = .ok (.istore 5, 2) := by decide +kernel
theorem dX4_bestShift_14 : decode cX4_bestShift 14 = .ok (.iload 5, 2) := by decide +kernel
theorem dX4_bestShift_16 : decode cX4_bestShift 16 = .ok (.bipush 20, 2) := by decide +kernel
theorem dX4_bestShift_18 : decode cX4_bestShift 18 = .ok (.if_icmp .gt 59, 3) := by decide +kernel
theorem dX4_bestShift_21 : decode cX4_bestShift 21 = .ok (.aload_n 0, 1) := by decide +kernel
theorem dX4_bestShift_22 : decode cX4_bestShift 22 = .ok (.aload_n 1, 1) := by decide +kernel
theorem dX4_bestShift_23 : decode cX4_bestShift 23 = .ok (.iload_n 2, 1) := by decide +kernel
theorem dX4_bestShift_24 : decode cX4_bestShift 24 = .ok (.iload 5, 2) := by decide +kernel
theorem dX4_bestShift_26 : decode cX4_bestShift 26 = .ok (.ineg, 1) := by decide +kernel
theorem dX4_bestShift_27 : decode cX4_bestShift 27 = .ok (.invokevirtual 60, 3) := by decide +kernel
theorem dX4_bestShift_30 : decode cX4_bestShift 30 = .ok (.istore 6, 2) := by decide +kernel
theorem dX4_bestShift_32 : decode cX4_bestShift 32 = .ok (.iload 6, 2) := by decide +kernel
theorem dX4_bestShift_34 : decode cX4_bestShift 34 = .ok (.iload 4, 2) := by decide +kernel
theorem dX4_bestShift_36 : decode cX4_bestShift 36 = .ok (.if_icmp .le 11, 3) := by decide +kernel
theorem dX4_bestShift_39 : decode cX4_bestShift 39 = .ok (.iload 5, 2) := by decide +kernel
theorem dX4_bestShift_41 : decode cX4_bestShift 41 = .ok (.ineg, 1) := by decide +kernel
theorem dX4_bestShift_42 : decode cX4_bestShift 42 = .ok (.istore_n 3, 1) := by decide +kernel
theorem dX4_bestShift_43 : decode cX4_bestShift 43 = .ok (.iload 6, 2) := by decide +kernel
theorem dX4_bestShift_45 : decode cX4_bestShift 45 = .ok (.istore 4, 2) := by decide +kernel
theorem dX4_bestShift_47 : decode cX4_bestShift 47 = .ok (.aload_n 0, 1) := by decide +kernel
theorem dX4_bestShift_48 : decode cX4_bestShift 48 = .ok (.aload_n 1, 1) := by decide +kernel
theorem dX4_bestShift_49 : decode cX4_bestShift 49 = .ok (.iload_n 2, 1) := by decide +kernel
theorem dX4_bestShift_50 : decode cX4_bestShift 50 = .ok (.iload 5, 2) := by decide +kernel
theorem dX4_bestShift_52 : decode cX4_bestShift 52 = .ok (.invokevirtual 60, 3) := by decide +kernel
theorem dX4_bestShift_55 : decode cX4_bestShift 55 = .ok (.istore 7, 2) := by decide +kernel
theorem dX4_bestShift_57 : decode cX4_bestShift 57 = .ok (.iload 7, 2) := by decide +kernel
theorem dX4_bestShift_59 : decode cX4_bestShift 59 = .ok (.iload 4, 2) := by decide +kernel
theorem dX4_bestShift_61 : decode cX4_bestShift 61 = .ok (.if_icmp .le 10, 3) := by decide +kernel
theorem dX4_bestShift_64 : decode cX4_bestShift 64 = .ok (.iload 5, 2) := by decide +kernel
theorem dX4_bestShift_66 : decode cX4_bestShift 66 = .ok (.istore_n 3, 1) := by decide +kernel
theorem dX4_bestShift_67 : decode cX4_bestShift 67 = .ok (.iload 7, 2) := by decide +kernel
theorem dX4_bestShift_69 : decode cX4_bestShift 69 = .ok (.istore 4, 2) := by decide +kernel
theorem dX4_bestShift_71 : decode cX4_bestShift 71 = .ok (.iinc 5 1, 3) := by decide +kernel
theorem dX4_bestShift_74 : decode cX4_bestShift 74 = .ok (.goto (-60), 3) := by decide +kernel
theorem dX4_bestShift_77 : decode cX4_bestShift 77 = .ok (.iload_n 3, 1) := by decide +kernel
theorem dX4_bestShift_78 : decode cX4_bestShift 78 = .ok (.ireturn, 1) := by decide +kernel
theorem dX10_shift_0 : decode cX10_shift 0 = .ok (.aload_n 0, 1) := by decide +kernel
theorem dX10_shift_1 : decode cX10_shift 1 = .ok (.getfield 50, 3) := by decide +kernel
theorem dX10_shift_4 : decode cX10_shift 4 = .ok (.iload_n 3, 1) := by decide +kernel
theorem dX10_shift_5 : decode cX10_shift 5 = .ok (.invokevirtual 225, 3) := by decide +kernel
theorem dX10_shift_8 : decode cX10_shift 8 = .ok (.ifCond .eq 13, 3) := by decide +kernel
theorem dX10_shift_11 : decode cX10_shift 11 = .ok (.iload 4, 2) := by decide +kernel
theorem dX10_shift_13 : decode cX10_shift 13 = .ok (.iconst 0, 1) := by decide +kernel
theorem dX10_shift_14 : decode cX10_shift 14 = .ok (.iconst 1, 1) := by decide +kernel
theorem dX10_shift_15 : decode cX10_shift 15 = .ok (.invokestatic 114, 3) := by decide +kernel
theorem dX10_shift_18 : decode cX10_shift 18 = .ok (.ifCond .ne 9, 3) := by decide +kernel
theorem dX10_shift_21 : decode cX10_shift 21 = .ok (.aload_n 0, 1) := by decide +kernel
theorem dX10_shift_22 : decode cX10_shift 22 = .ok (.iconst 1, 1) := by decide +kernel
theorem dX10_shift_23 : decode cX10_shift 23 = .ok (.invokevirtual 137, 3) := by decide +kernel
theorem dX10_shift_26 : decode cX10_shift 26 = .ok (.ireturn, 1) := by decide +kernel
theorem dX10_shift_27 : decode cX10_shift 27 = .ok (.aload_n 0, 1) := by decide +kernel
theorem dX10_shift_28 : decode cX10_shift 28 = .ok (.iload_n 1, 1) := by decide +kernel
theorem dX10_shift_29 : decode cX10_shift 29 = .ok (.iload_n 2, 1) := by decide +kernel
theorem dX10_shift_30 : decode cX10_shift 30 = .ok (.aload_n 0, 1) := by decide +kernel
theorem dX10_shift_31 : decode cX10_shift 31 = .ok (.getfield 50, 3) := by decide +kernel
theorem dX10_shift_34 : decode cX10_shift 34 = .ok (.getfield 206, 3) := by decide +kernel
theorem dX10_shift_37 : decode cX10_shift 37 = .ok (.iconst 1, 1) := by decide +kernel
theorem dX10_shift_38 : decode cX10_shift 38 = .ok (.isub, 1) := by decide +kernel
theorem dX10_shift_39 : decode cX10_shift 39 = .ok (.invokevirtual 395, 3) := by decide +kernel
theorem dX10_shift_42 : decode cX10_shift 42 = .ok (.istore 5, 2) := by decide +kernel
theorem dX10_shift_44 : decode cX10_shift 44 = .ok (.iload 5, 2) := by decide +kernel
theorem dX10_shift_46 : decode cX10_shift 46 = .ok (.ifCond .eq 10, 3) := by decide +kernel
theorem dX10_shift_49 : decode cX10_shift 49 = .ok (.aload_n 0, 1) := by decide +kernel
theorem dX10_shift_50 : decode cX10_shift 50 = .ok (.iload 5, 2) := by decide +kernel
theorem dX10_shift_52 : decode cX10_shift 52 = .ok (.invokevirtual 137, 3) := by decide +kernel
theorem dX10_shift_55 : decode cX10_shift 55 = .ok (.ireturn, 1) := by decide +kernel
theorem dX10_shift_56 : decode cX10_shift 56 = .ok (.aload_n 0, 1) := by decide +kernel
theorem dX10_shift_57 : decode cX10_shift 57 = .ok (.getfield 95, 3) := by decide +kernel
theorem dX10_shift_60 : decode cX10_shift 60 = .ok (.aload_n 0, 1) := by decide +kernel
theorem dX10_shift_61 : decode cX10_shift 61 = .ok (.getfield 50, 3) := by decide +kernel
theorem dX10_shift_64 : decode cX10_shift 64 = .ok (.iload_n 3, 1) := by decide +kernel
theorem dX10_shift_65 : decode cX10_shift 65 = .ok (.invokevirtual 415, 3) := by decide +kernel
theorem dX10_shift_68 : decode cX10_shift 68 = .ok (.aload_n 0, 1) := by decide +kernel
theorem dX10_shift_69 : decode cX10_shift 69 = .ok (.getfield 95, 3) := by decide +kernel
theorem dX10_shift_72 : decode cX10_shift 72 = .ok (.aload_n 0, 1) := by decide +kernel
theorem dX10_shift_73 : decode cX10_shift 73 = .ok (.getfield 22, 3) := by decide +kernel
theorem dX10_shift_76 : decode cX10_shift 76 = .ok (.iload_n 1, 1) := by decide +kernel
theorem dX10_shift_77 : decode cX10_shift 77 = .ok (.aaload, 1) := by decide +kernel
theorem dX10_shift_78 : decode cX10_shift 78 = .ok (.iload_n 2, 1) := by decide +kernel
theorem dX10_shift_79 : decode cX10_shift 79 = .ok (.invokevirtual 423, 3) := by decide +kernel
theorem dX10_shift_82 : decode cX10_shift 82 = .ok (.istore 6, 2) := by decide +kernel
theorem dX10_shift_84 : decode cX10_shift 84 = .ok (.aload_n 0, 1) := by decide +kernel
theorem dX10_shift_85 : decode cX10_shift 85 = .ok (.iload 4, 2) := by decide +kernel
theorem dX10_shift_87 : decode cX10_shift 87 = .ok (.ifCond .ne 8, 3) := by decide +kernel
theorem dX10_shift_90 : decode cX10_shift 90 = .ok (.iload 6, 2) := by decide +kernel
theorem dX10_shift_92 : decode cX10_shift 92 = .ok (.goto 19, 3) := by decide +kernel
theorem dX10_shift_95 : decode cX10_shift 95 = .ok (.aload_n 0, 1) := by decide +kernel
theorem dX10_shift_96 : decode cX10_shift 96 = .ok (.getfield 95, 3) := by decide +kernel
theorem dX10_shift_99 : decode cX10_shift 99 = .ok (.aload_n 0, 1) := by decide +kernel
theorem dX10_shift_100 : decode cX10_shift 100 = .ok (.getfield 22, 3) := by decide +kernel
theorem dX10_shift_103 : decode cX10_shift 103 = .ok (.iload_n 1, 1) := by decide +kernel
theorem dX10_shift_104 : decode cX10_shift 104 = .ok (.aaload, 1) := by decide +kernel
theorem dX10_shift_105 : decode cX10_shift 105 = .ok (.iload_n 2, 1) := by decide +kernel
theorem dX10_shift_106 : decode cX10_shift 106 = .ok (.iload 6, 2) := by decide +kernel
theorem dX10_shift_108 : decode cX10_shift 108 = .ok (.invokevirtual 419, 3) := by decide +kernel
theorem dX10_shift_111 : decode cX10_shift 111 = .ok (.invokevirtual 187, 3) := by decide +kernel
theorem dX10_shift_114 : decode cX10_shift 114 = .ok (.ireturn, 1) := by decide +kernel
theorem dX10_likest_0 : decode cX10_likest 0 = .ok (.aload_n 0, 1) := by decide +kernel
theorem dX10_likest_1 : decode cX10_likest 1 = .ok (.iload_n 1, 1) := by decide +kernel
theorem dX10_likest_2 : decode cX10_likest 2 = .ok (.iload_n 2, 1) := by decide +kernel
theorem dX10_likest_3 : decode cX10_likest 3 = .ok (.aload_n 0, 1) := by decide +kernel
theorem dX10_likest_4 : decode cX10_likest 4 = .ok (.getfield 50, 3) := by decide +kernel
theorem dX10_likest_7 : decode cX10_likest 7 = .ok (.getfield 206, 3) := by decide +kernel
theorem dX10_likest_10 : decode cX10_likest 10 = .ok (.iconst 1, 1) := by decide +kernel
theorem dX10_likest_11 : decode cX10_likest 11 = .ok (.isub, 1) := by decide +kernel
theorem dX10_likest_12 : decode cX10_likest 12 = .ok (.invokevirtual 395, 3) := by decide +kernel
theorem dX10_likest_15 : decode cX10_likest 15 = .ok (.istore_n 3, 1) := by decide +kernel
theorem dX10_likest_16 : decode cX10_likest 16 = .ok (.iload_n 3, 1) := by decide +kernel
theorem dX10_likest_17 : decode cX10_likest 17 = .ok (.ifCond .eq 9, 3) := by decide +kernel
theorem dX10_likest_20 : decode cX10_likest 20 = .ok (.aload_n 0, 1) := by decide +kernel
theorem dX10_likest_21 : decode cX10_likest 21 = .ok (.iload_n 3, 1) := by decide +kernel
theorem dX10_likest_22 : decode cX10_likest 22 = .ok (.invokevirtual 137, 3) := by decide +kernel
theorem dX10_likest_25 : decode cX10_likest 25 = .ok (.ireturn, 1) := by decide +kernel
theorem dX10_likest_26 : decode cX10_likest 26 = .ok (.iconst (-1), 1) := by decide +kernel
theorem dX10_likest_27 : decode cX10_likest 27 = .ok (.istore 4, 2) := by decide +kernel
theorem dX10_likest_29 : decode cX10_likest 29 = .ok (.iconst (-1), 1) := by decide +kernel
theorem dX10_likest_30 : decode cX10_likest 30 = .ok (.istore 5, 2) := by decide +kernel
theorem dX10_likest_32 : decode cX10_likest 32 = .ok (.iconst 0, 1) := by decide +kernel
theorem dX10_likest_33 : decode cX10_likest 33 = .ok (.istore 6, 2) := by decide +kernel
theorem dX10_likest_35 : decode cX10_likest 35 = .ok (.iload 6, 2) := by decide +kernel
theorem dX10_likest_37 : decode cX10_likest 37 = .ok (.aload_n 0, 1) := by decide +kernel
theorem dX10_likest_38 : decode cX10_likest 38 = .ok (.getfield 50, 3) := by decide +kernel
theorem dX10_likest_41 : decode cX10_likest 41 = .ok (.getfield 184, 3) := by decide +kernel
theorem dX10_likest_44 : decode cX10_likest 44 = .ok (.if_icmp .ge 54, 3) := by decide +kernel
theorem dX10_likest_47 : decode cX10_likest 47 = .ok (.aload_n 0, 1) := by decide +kernel
theorem dX10_likest_48 : decode cX10_likest 48 = .ok (.getfield 95, 3) := by decide +kernel
theorem dX10_likest_51 : decode cX10_likest 51 = .ok (.aload_n 0, 1) := by decide +kernel
theorem dX10_likest_52 : decode cX10_likest 52 = .ok (.getfield 50, 3) := by decide +kernel
theorem dX10_likest_55 : decode cX10_likest 55 = .ok (.iload 6, 2) := by decide +kernel
theorem dX10_likest_57 : decode cX10_likest 57 = .ok (.invokevirtual 415, 3) := by decide +kernel
theorem dX10_likest_60 : decode cX10_likest 60 = .ok (.aload_n 0, 1) := by decide +kernel
theorem dX10_likest_61 : decode cX10_likest 61 = .ok (.getfield 95, 3) := by decide +kernel
theorem dX10_likest_64 : decode cX10_likest 64 = .ok (.aload_n 0, 1) := by decide +kernel
theorem dX10_likest_65 : decode cX10_likest 65 = .ok (.getfield 22, 3) := by decide +kernel
theorem dX10_likest_68 : decode cX10_likest 68 = .ok (.iload_n 1, 1) := by decide +kernel
theorem dX10_likest_69 : decode cX10_likest 69 = .ok (.aaload, 1) := by decide +kernel
theorem dX10_likest_70 : decode cX10_likest 70 = .ok (.iload_n 2, 1) := by decide +kernel
theorem dX10_likest_71 : decode cX10_likest 71 = .ok (.iconst 0, 1) := by decide +kernel
theorem dX10_likest_72 : decode cX10_likest 72 = .ok (.invokevirtual 419, 3) := by decide +kernel
theorem dX10_likest_75 : decode cX10_likest 75 = .ok (.istore 7, 2) := by decide +kernel
theorem dX10_likest_77 : decode cX10_likest 77 = .ok (.iload 7, 2) := by decide +kernel
theorem dX10_likest_79 : decode cX10_likest 79 = .ok (.iload 5, 2) := by decide +kernel
theorem dX10_likest_81 : decode cX10_likest 81 = .ok (.if_icmp .le 11, 3) := by decide +kernel
theorem dX10_likest_84 : decode cX10_likest 84 = .ok (.iload 6, 2) := by decide +kernel
theorem dX10_likest_86 : decode cX10_likest 86 = .ok (.istore 4, 2) := by decide +kernel
theorem dX10_likest_88 : decode cX10_likest 88 = .ok (.iload 7, 2) := by decide +kernel
theorem dX10_likest_90 : decode cX10_likest 90 = .ok (.istore 5, 2) := by decide +kernel
theorem dX10_likest_92 : decode cX10_likest 92 = .ok (.iinc 6 1, 3) := by decide +kernel
theorem dX10_likest_95 : decode cX10_likest 95 = .ok (.goto (-60), 3) := by decide +kernel
theorem dX10_likest_98 : decode cX10_likest 98 = .ok (.aload_n 0, 1) := by decide +kernel
theorem dX10_likest_99 : decode cX10_likest 99 = .ok (.iload 4, 2) := by decide +kernel
theorem dX10_likest_101 : decode cX10_likest 101 = .ok (.invokevirtual 261, 3) := by decide +kernel
theorem dX10_likest_104 : decode cX10_likest 104 = .ok (.ireturn, 1) := by decide +kernel
theorem dX2_hasRockOnTop_0 : decode cX2_hasRockOnTop 0 = .ok (.aload_n 0, 1) := by decide +kernel
theorem dX2_hasRockOnTop_1 : decode cX2_hasRockOnTop 1 = .ok (.getfield 38, 3) := by decide +kernel
theorem dX2_hasRockOnTop_4 : decode cX2_hasRockOnTop 4 = .ok (.iload_n 1, 1) := by decide +kernel
theorem dX2_hasRockOnTop_5 : decode cX2_hasRockOnTop 5 = .ok (.iaload, 1) := by decide +kernel
theorem dX2_hasRockOnTop_6 : decode cX2_hasRockOnTop 6 = .ok (.ifCond .le 21, 3) := by decide +kernel
theorem dX2_hasRockOnTop_9 : decode cX2_hasRockOnTop 9 = .ok (.aload_n 0, 1) := by decide +kernel
theorem dX2_hasRockOnTop_10 : decode cX2_hasRockOnTop 10 = .ok (.getfield 41, 3) := by decide +kernel
theorem dX2_hasRockOnTop_13 : decode cX2_hasRockOnTop 13 = .ok (.iload_n 1, 1) := by decide +kernel
theorem dX2_hasRockOnTop_14 : decode cX2_hasRockOnTop 14 = .ok (.iconst 0, 1) := by decide +kernel
theorem dX2_hasRockOnTop_15 : decode cX2_hasRockOnTop 15 = .ok (.invokestatic 93, 3) := by decide +kernel
theorem dX2_hasRockOnTop_18 : decode cX2_hasRockOnTop 18 = .ok (.iaload, 1) := by decide +kernel
theorem dX2_hasRockOnTop_19 : decode cX2_hasRockOnTop 19 = .ok (.iload_n 2, 1) := by decide +kernel
theorem dX2_hasRockOnTop_20 : decode cX2_hasRockOnTop 20 = .ok (.if_icmp .ne 7, 3) := by decide +kernel
theorem dX2_hasRockOnTop_23 : decode cX2_hasRockOnTop 23 = .ok (.iconst 1, 1) := by decide +kernel
theorem dX2_hasRockOnTop_24 : decode cX2_hasRockOnTop 24 = .ok (.goto 4, 3) := by decide +kernel
theorem dX2_hasRockOnTop_27 : decode cX2_hasRockOnTop 27 = .ok (.iconst 0, 1) := by decide +kernel
theorem dX2_hasRockOnTop_28 : decode cX2_hasRockOnTop 28 = .ok (.ireturn, 1) := by decide +kernel
theorem dX2_layOn_0 : decode cX2_layOn 0 = .ok (.iload_n 1, 1) := by decide +kernel
theorem dX2_layOn_1 : decode cX2_layOn 1 = .ok (.iconst 0, 1) := by decide +kernel
theorem dX2_layOn_2 : decode cX2_layOn 2 = .ok (.invokestatic 93, 3) := by decide +kernel
theorem dX2_layOn_5 : decode cX2_layOn 5 = .ok (.istore 4, 2) := by decide +kernel
theorem dX2_layOn_7 : decode cX2_layOn 7 = .ok (.aload_n 0, 1) := by decide +kernel
theorem dX2_layOn_8 : decode cX2_layOn 8 = .ok (.iload_n 1, 1) := by decide +kernel
theorem dX2_layOn_9 : decode cX2_layOn 9 = .ok (.iload_n 2, 1) := by decide +kernel
theorem dX2_layOn_10 : decode cX2_layOn 10 = .ok (.invokevirtual 108, 3) := by decide +kernel
theorem dX2_layOn_13 : decode cX2_layOn 13 = .ok (.ifCond .eq 34, 3) := by decide +kernel
theorem dX2_layOn_16 : decode cX2_layOn 16 = .ok (.aload_n 0, 1) := by decide +kernel
theorem dX2_layOn_17 : decode cX2_layOn 17 = .ok (.getfield 44, 3) := by decide +kernel
theorem dX2_layOn_20 : decode cX2_layOn 20 = .ok (.iload 4, 2) := by decide +kernel
theorem dX2_layOn_22 : decode cX2_layOn 22 = .ok (.iaload, 1) := by decide +kernel
theorem dX2_layOn_23 : decode cX2_layOn 23 = .ok (.iload_n 3, 1) := by decide +kernel
theorem dX2_layOn_24 : decode cX2_layOn 24 = .ok (.iadd, 1) := by decide +kernel
theorem dX2_layOn_25 : decode cX2_layOn 25 = .ok (.sipush 999, 3) := by decide +kernel
theorem dX2_layOn_28 : decode cX2_layOn 28 = .ok (.if_icmp .le 6, 3) := by decide +kernel
theorem dX2_layOn_31 : decode cX2_layOn 31 = .ok (.bipush 7, 2) := by decide +kernel
theorem dX2_layOn_33 : decode cX2_layOn 33 = .ok (.ireturn, 1) := by decide +kernel
theorem dX2_layOn_34 : decode cX2_layOn 34 = .ok (.aload_n 0, 1) := by decide +kernel
theorem dX2_layOn_35 : decode cX2_layOn 35 = .ok (.getfield 44, 3) := by decide +kernel
theorem dX2_layOn_38 : decode cX2_layOn 38 = .ok (.iload 4, 2) := by decide +kernel
theorem dX2_layOn_40 : decode cX2_layOn 40 = .ok (.dup2, 1) := by decide +kernel
theorem dX2_layOn_41 : decode cX2_layOn 41 = .ok (.iaload, 1) := by decide +kernel
theorem dX2_layOn_42 : decode cX2_layOn 42 = .ok (.iload_n 3, 1) := by decide +kernel
theorem dX2_layOn_43 : decode cX2_layOn 43 = .ok (.iadd, 1) := by decide +kernel
theorem dX2_layOn_44 : decode cX2_layOn 44 = .ok (.iastore, 1) := by decide +kernel
theorem dX2_layOn_45 : decode cX2_layOn 45 = .ok (.iconst 0, 1) := by decide +kernel
theorem dX2_layOn_46 : decode cX2_layOn 46 = .ok (.ireturn, 1) := by decide +kernel
theorem dX2_layOn_47 : decode cX2_layOn 47 = .ok (.aload_n 0, 1) := by decide +kernel
theorem dX2_layOn_48 : decode cX2_layOn 48 = .ok (.getfield 38, 3) := by decide +kernel
theorem dX2_layOn_51 : decode cX2_layOn 51 = .ok (.iload_n 1, 1) := by decide +kernel
theorem dX2_layOn_52 : decode cX2_layOn 52 = .ok (.iaload, 1) := by decide +kernel
theorem dX2_layOn_53 : decode cX2_layOn 53 = .ok (.bipush 12, 2) := by decide +kernel
theorem dX2_layOn_55 : decode cX2_layOn 55 = .ok (.if_icmp .lt 5, 3) := by decide +kernel
theorem dX2_layOn_58 : decode cX2_layOn 58 = .ok (.iconst 4, 1) := by decide +kernel
theorem dX2_layOn_59 : decode cX2_layOn 59 = .ok (.ireturn, 1) := by decide +kernel
theorem dX2_layOn_60 : decode cX2_layOn 60 = .ok (.aload_n 0, 1) := by decide +kernel
theorem dX2_layOn_61 : decode cX2_layOn 61 = .ok (.getfield 41, 3) := by decide +kernel
theorem dX2_layOn_64 : decode cX2_layOn 64 = .ok (.iload 4, 2) := by decide +kernel
theorem dX2_layOn_66 : decode cX2_layOn 66 = .ok (.aload_n 0, 1) := by decide +kernel
theorem dX2_layOn_67 : decode cX2_layOn 67 = .ok (.getfield 41, 3) := by decide +kernel
theorem dX2_layOn_70 : decode cX2_layOn 70 = .ok (.iload 4, 2) := by decide +kernel
theorem dX2_layOn_72 : decode cX2_layOn 72 = .ok (.iconst 1, 1) := by decide +kernel
theorem dX2_layOn_73 : decode cX2_layOn 73 = .ok (.iadd, 1) := by decide +kernel
theorem dX2_layOn_74 : decode cX2_layOn 74 = .ok (.aload_n 0, 1) := by decide +kernel
theorem dX2_layOn_75 : decode cX2_layOn 75 = .ok (.getfield 38, 3) := by decide +kernel
theorem dX2_layOn_78 : decode cX2_layOn 78 = .ok (.iload_n 1, 1) := by decide +kernel
theorem dX2_layOn_79 : decode cX2_layOn 79 = .ok (.iaload, 1) := by decide +kernel
theorem dX2_layOn_80 : decode cX2_layOn 80 = .ok (.invokestatic 65, 3) := by decide +kernel
theorem dX2_layOn_83 : decode cX2_layOn 83 = .ok (.aload_n 0, 1) := by decide +kernel
theorem dX2_layOn_84 : decode cX2_layOn 84 = .ok (.getfield 44, 3) := by decide +kernel
theorem dX2_layOn_87 : decode cX2_layOn 87 = .ok (.iload 4, 2) := by decide +kernel
theorem dX2_layOn_89 : decode cX2_layOn 89 = .ok (.aload_n 0, 1) := by decide +kernel
theorem dX2_layOn_90 : decode cX2_layOn 90 = .ok (.getfield 44, 3) := by decide +kernel
theorem dX2_layOn_93 : decode cX2_layOn 93 = .ok (.iload 4, 2) := by decide +kernel
theorem dX2_layOn_95 : decode cX2_layOn 95 = .ok (.iconst 1, 1) := by decide +kernel
theorem dX2_layOn_96 : decode cX2_layOn 96 = .ok (.iadd, 1) := by decide +kernel
theorem dX2_layOn_97 : decode cX2_layOn 97 = .ok (.aload_n 0, 1) := by decide +kernel
theorem dX2_layOn_98 : decode cX2_layOn 98 = .ok (.getfield 38, 3) := by decide +kernel
theorem dX2_layOn_101 : decode cX2_layOn 101 = .ok (.iload_n 1, 1) := by decide +kernel
theorem dX2_layOn_102 : decode cX2_layOn 102 = .ok (.iaload, 1) := by decide +kernel
theorem dX2_layOn_103 : decode cX2_layOn 103 = .ok (.invokestatic 65, 3) := by decide +kernel
theorem dX2_layOn_106 : decode cX2_layOn 106 = .ok (.aload_n 0, 1) := by decide +kernel
theorem dX2_layOn_107 : decode cX2_layOn 107 = .ok (.getfield 41, 3) := by decide +kernel
theorem dX2_layOn_110 : decode cX2_layOn 110 = .ok (.iload 4, 2) := by decide +kernel
theorem dX2_layOn_112 : decode cX2_layOn 112 = .ok (.iload_n 2, 1) := by decide +kernel
theorem dX2_layOn_113 : decode cX2_layOn 113 = .ok (.iastore, 1) := by decide +kernel
theorem dX2_layOn_114 : decode cX2_layOn 114 = .ok (.aload_n 0, 1) := by decide +kernel
theorem dX2_layOn_115 : decode cX2_layOn 115 = .ok (.getfield 44, 3) := by decide +kernel
theorem dX2_layOn_118 : decode cX2_layOn 118 = .ok (.iload 4, 2) := by decide +kernel
theorem dX2_layOn_120 : decode cX2_layOn 120 = .ok (.iload_n 3, 1) := by decide +kernel
theorem dX2_layOn_121 : decode cX2_layOn 121 = .ok (.iastore, 1) := by decide +kernel
theorem dX2_layOn_122 : decode cX2_layOn 122 = .ok (.aload_n 0, 1) := by decide +kernel
theorem dX2_layOn_123 : decode cX2_layOn 123 = .ok (.getfield 38, 3) := by decide +kernel
theorem dX2_layOn_126 : decode cX2_layOn 126 = .ok (.iload_n 1, 1) := by decide +kernel
theorem dX2_layOn_127 : decode cX2_layOn 127 = .ok (.dup2, 1) := by decide +kernel
theorem dX2_layOn_128 : decode cX2_layOn 128 = .ok (.iaload, 1) := by decide +kernel
theorem dX2_layOn_129 : decode cX2_layOn 129 = .ok (.iconst 1, 1) := by decide +kernel
theorem dX2_layOn_130 : decode cX2_layOn 130 = .ok (.iadd, 1) := by decide +kernel
theorem dX2_layOn_131 : decode cX2_layOn 131 = .ok (.iastore, 1) := by decide +kernel
theorem dX2_layOn_132 : decode cX2_layOn 132 = .ok (.iconst 0, 1) := by decide +kernel
theorem dX2_layOn_133 : decode cX2_layOn 133 = .ok (.ireturn, 1) := by decide +kernel
theorem dX10_lay_0 : decode cX10_lay 0 = .ok (.aload_n 0, 1) := by decide +kernel
theorem dX10_lay_1 : decode cX10_lay 1 = .ok (.getfield 50, 3) := by decide +kernel
theorem dX10_lay_4 : decode cX10_lay 4 = .ok (.iload_n 1, 1) := by decide +kernel
theorem dX10_lay_5 : decode cX10_lay 5 = .ok (.invokevirtual 225, 3) := by decide +kernel
theorem dX10_lay_8 : decode cX10_lay 8 = .ok (.ifCond .eq 24, 3) := by decide +kernel
theorem dX10_lay_11 : decode cX10_lay 11 = .ok (.aload_n 0, 1) := by decide +kernel
theorem dX10_lay_12 : decode cX10_lay 12 = .ok (.getfield 50, 3) := by decide +kernel
theorem dX10_lay_15 : decode cX10_lay 15 = .ok (.iload_n 2, 1) := by decide +kernel
theorem dX10_lay_16 : decode cX10_lay 16 = .ok (.invokevirtual 215, 3) := by decide +kernel
theorem dX10_lay_19 : decode cX10_lay 19 = .ok (.ifCond .eq 13, 3) := by decide +kernel
theorem dX10_lay_22 : decode cX10_lay 22 = .ok (.iload_n 3, 1) := by decide +kernel
theorem dX10_lay_23 : decode cX10_lay 23 = .ok (.iconst 1, 1) := by decide +kernel
theorem dX10_lay_24 : decode cX10_lay 24 = .ok (.bipush 99, 2) := by decide +kernel
theorem dX10_lay_26 : decode cX10_lay 26 = .ok (.invokestatic 114, 3) := by decide +kernel
theorem dX10_lay_29 : decode cX10_lay 29 = .ok (.ifCond .ne 9, 3) := by decide +kernel
theorem dX10_lay_32 : decode cX10_lay 32 = .ok (.aload_n 0, 1) := by decide +kernel
theorem dX10_lay_33 : decode cX10_lay 33 = .ok (.iconst 1, 1) := by decide +kernel
theorem dX10_lay_34 : decode cX10_lay 34 = .ok (.invokevirtual 137, 3) := by decide +kernel
theorem dX10_lay_37 : decode cX10_lay 37 = .ok (.ireturn, 1) := by decide +kernel
theorem dX10_lay_38 : decode cX10_lay 38 = .ok (.aload_n 0, 1) := by decide +kernel
theorem dX10_lay_39 : decode cX10_lay 39 = .ok (.getfield 50, 3) := by decide +kernel
theorem dX10_lay_42 : decode cX10_lay 42 = .ok (.iload_n 1, 1) := by decide +kernel
theorem dX10_lay_43 : decode cX10_lay 43 = .ok (.iload_n 2, 1) := by decide +kernel
theorem dX10_lay_44 : decode cX10_lay 44 = .ok (.iload_n 3, 1) := by decide +kernel
theorem dX10_lay_45 : decode cX10_lay 45 = .ok (.invokevirtual 427, 3) := by decide +kernel
theorem dX10_lay_48 : decode cX10_lay 48 = .ok (.istore 4, 2) := by decide +kernel
theorem dX10_lay_50 : decode cX10_lay 50 = .ok (.iload 4, 2) := by decide +kernel
theorem dX10_lay_52 : decode cX10_lay 52 = .ok (.ifCond .eq 10, 3) := by decide +kernel
theorem dX10_lay_55 : decode cX10_lay 55 = .ok (.aload_n 0, 1) := by decide +kernel
theorem dX10_lay_56 : decode cX10_lay 56 = .ok (.iload 4, 2) := by decide +kernel
theorem dX10_lay_58 : decode cX10_lay 58 = .ok (.invokevirtual 137, 3) := by decide +kernel
theorem dX10_lay_61 : decode cX10_lay 61 = .ok (.ireturn, 1) := by decide +kernel
theorem dX10_lay_62 : decode cX10_lay 62 = .ok (.aload_n 0, 1) := by decide +kernel
theorem dX10_lay_63 : decode cX10_lay 63 = .ok (.getfield 88, 3) := by decide +kernel
theorem dX10_lay_66 : decode cX10_lay 66 = .ok (.invokevirtual 181, 3) := by decide +kernel
theorem dX10_lay_69 : decode cX10_lay 69 = .ok (.aload_n 0, 1) := by decide +kernel
theorem dX10_lay_70 : decode cX10_lay 70 = .ok (.aload_n 0, 1) := by decide +kernel
theorem dX10_lay_71 : decode cX10_lay 71 = .ok (.getfield 50, 3) := by decide +kernel
theorem dX10_lay_74 : decode cX10_lay 74 = .ok (.getfield 234, 3) := by decide +kernel
theorem dX10_lay_77 : decode cX10_lay 77 = .ok (.iload_n 1, 1) := by decide +kernel
theorem dX10_lay_78 : decode cX10_lay 78 = .ok (.iaload, 1) := by decide +kernel
theorem dX10_lay_79 : decode cX10_lay 79 = .ok (.invokevirtual 187, 3) := by decide +kernel
theorem dX10_lay_82 : decode cX10_lay 82 = .ok (.ireturn, 1) := by decide +kernel
theorem dX2_wearOff_0 : decode cX2_wearOff 0 = .ok (.iload_n 1, 1) := by decide +kernel
theorem dX2_wearOff_1 : decode cX2_wearOff 1 = .ok (.iconst 0, 1) := by decide +kernel
theorem dX2_wearOff_2 : decode cX2_wearOff 2 = .ok (.invokestatic 93, 3) := by decide +kernel
theorem dX2_wearOff_5 : decode cX2_wearOff 5 = .ok (.istore_n 3, 1) := by decide +kernel
theorem dX2_wearOff_6 : decode cX2_wearOff 6 = .ok (.iload_n 2, 1) := by decide +kernel
theorem dX2_wearOff_7 : decode cX2_wearOff 7 = .ok (.istore 4, 2) := by decide +kernel
theorem dX2_wearOff_9 : decode cX2_wearOff 9 = .ok (.iconst 0, 1) := by decide +kernel
theorem dX2_wearOff_10 : decode cX2_wearOff 10 = .ok (.istore 5, 2) := by decide +kernel
theorem dX2_wearOff_12 : decode cX2_wearOff 12 = .ok (.iconst 0, 1) := by decide +kernel
theorem dX2_wearOff_13 : decode cX2_wearOff 13 = .ok (.istore 6, 2) := by decide +kernel
theorem dX2_wearOff_15 : decode cX2_wearOff 15 = .ok (.iload 6, 2) := by decide +kernel
theorem dX2_wearOff_17 : decode cX2_wearOff 17 = .ok (.aload_n 0, 1) := by decide +kernel
theorem dX2_wearOff_18 : decode cX2_wearOff 18 = .ok (.getfield 38, 3) := by decide +kernel
theorem dX2_wearOff_21 : decode cX2_wearOff 21 = .ok (.iload_n 1, 1) := by decide +kernel
theorem dX2_wearOff_22 : decode cX2_wearOff 22 = .ok (.iaload, 1) := by decide +kernel
theorem dX2_wearOff_23 : decode cX2_wearOff 23 = .ok (.if_icmp .ge 66, 3) := by decide +kernel
theorem dX2_wearOff_26 : decode cX2_wearOff 26 = .ok (.iload 4, 2) := by decide +kernel
theorem dX2_wearOff_28 : decode cX2_wearOff 28 = .ok (.ifCond .le 61, 3) := by decide +kernel
theorem dX2_wearOff_31 : decode cX2_wearOff 31 = .ok (.iload 4, 2) := by decide +kernel
theorem dX2_wearOff_33 : decode cX2_wearOff 33 = .ok (.aload_n 0, 1) := by decide +kernel
theorem dX2_wearOff_34 : decode cX2_wearOff 34 = .ok (.getfield 44, 3) := by decide +kernel
theorem dX2_wearOff_37 : decode cX2_wearOff 37 = .ok (.iload_n 3, 1) := by decide +kernel
theorem dX2_wearOff_38 : decode cX2_wearOff 38 = .ok (.iload 6, 2) := by decide +kernel
theorem dX2_wearOff_40 : decode cX2_wearOff 40 = .ok (.iadd, 1) := by decide +kernel
theorem dX2_wearOff_41 : decode cX2_wearOff 41 = .ok (.iaload, 1) := by decide +kernel
theorem dX2_wearOff_42 : decode cX2_wearOff 42 = .ok (.invokestatic 111, 3) := by decide +kernel
theorem dX2_wearOff_45 : decode cX2_wearOff 45 = .ok (.istore 7, 2) := by decide +kernel
theorem dX2_wearOff_47 : decode cX2_wearOff 47 = .ok (.aload_n 0, 1) := by decide +kernel
theorem dX2_wearOff_48 : decode cX2_wearOff 48 = .ok (.getfield 44, 3) := by decide +kernel
theorem dX2_wearOff_51 : decode cX2_wearOff 51 = .ok (.iload_n 3, 1) := by decide +kernel
theorem dX2_wearOff_52 : decode cX2_wearOff 52 = .ok (.iload 6, 2) := by decide +kernel
theorem dX2_wearOff_54 : decode cX2_wearOff 54 = .ok (.iadd, 1) := by decide +kernel
theorem dX2_wearOff_55 : decode cX2_wearOff 55 = .ok (.dup2, 1) := by decide +kernel
theorem dX2_wearOff_56 : decode cX2_wearOff 56 = .ok (.iaload, 1) := by decide +kernel
theorem dX2_wearOff_57 : decode cX2_wearOff 57 = .ok (.iload 7, 2) := by decide +kernel
theorem dX2_wearOff_59 : decode cX2_wearOff 59 = .ok (.isub, 1) := by decide +kernel
theorem dX2_wearOff_60 : decode cX2_wearOff 60 = .ok (.iastore, 1) := by decide +kernel
theorem dX2_wearOff_61 : decode cX2_wearOff 61 = .ok (.iload 4, 2) := by decide +kernel
theorem dX2_wearOff_63 : decode cX2_wearOff 63 = .ok (.iload 7, 2) := by decide +kernel
theorem dX2_wearOff_65 : decode cX2_wearOff 65 = .ok (.isub, 1) := by decide +kernel
theorem dX2_wearOff_66 : decode cX2_wearOff 66 = .ok (.istore 4, 2) := by decide +kernel
theorem dX2_wearOff_68 : decode cX2_wearOff 68 = .ok (.aload_n 0, 1) := by decide +kernel
theorem dX2_wearOff_69 : decode cX2_wearOff 69 = .ok (.getfield 44, 3) := by decide +kernel
theorem dX2_wearOff_72 : decode cX2_wearOff 72 = .ok (.iload_n 3, 1) := by decide +kernel
theorem dX2_wearOff_73 : decode cX2_wearOff 73 = .ok (.iload 6, 2) := by decide +kernel
theorem dX2_wearOff_75 : decode cX2_wearOff 75 = .ok (.iadd, 1) := by decide +kernel
theorem dX2_wearOff_76 : decode cX2_wearOff 76 = .ok (.iaload, 1) := by decide +kernel
theorem dX2_wearOff_77 : decode cX2_wearOff 77 = .ok (.ifCond .ne 6, 3) := by decide +kernel
theorem dX2_wearOff_80 : decode cX2_wearOff 80 = .ok (.iinc 5 1, 3) := by decide +kernel
theorem dX2_wearOff_83 : decode cX2_wearOff 83 = .ok (.iinc 6 1, 3) := by decide +kernel
theorem dX2_wearOff_86 : decode cX2_wearOff 86 = .ok (.goto (-71), 3) := by decide +kernel
theorem dX2_wearOff_89 : decode cX2_wearOff 89 = .ok (.aload_n 0, 1) := by decide +kernel
theorem dX2_wearOff_90 : decode cX2_wearOff 90 = .ok (.getfield 38, 3) := by decide +kernel
theorem dX2_wearOff_93 : decode cX2_wearOff 93 = .ok (.iload_n 1, 1) := by decide +kernel
theorem dX2_wearOff_94 : decode cX2_wearOff 94 = .ok (.dup2, 1) := by decide +kernel
theorem dX2_wearOff_95 : decode cX2_wearOff 95 = .ok (.iaload, 1) := by decide +kernel
theorem dX2_wearOff_96 : decode cX2_wearOff 96 = .ok (.iload 5, 2) := by decide +kernel
theorem dX2_wearOff_98 : decode cX2_wearOff 98 = .ok (.isub, 1) := by decide +kernel
theorem dX2_wearOff_99 : decode cX2_wearOff 99 = .ok (.iastore, 1) := by decide +kernel
theorem dX2_wearOff_100 : decode cX2_wearOff 100 = .ok (.aload_n 0, 1) := by decide +kernel
theorem dX2_wearOff_101 : decode cX2_wearOff 101 = .ok (.getfield 41, 3) := by decide +kernel
theorem dX2_wearOff_104 : decode cX2_wearOff 104 = .ok (.iload_n 3, 1) := by decide +kernel
theorem dX2_wearOff_105 : decode cX2_wearOff 105 = .ok (.iload 5, 2) := by decide +kernel
theorem dX2_wearOff_107 : decode cX2_wearOff 107 = .ok (.iadd, 1) := by decide +kernel
theorem dX2_wearOff_108 : decode cX2_wearOff 108 = .ok (.aload_n 0, 1) := by decide +kernel
theorem dX2_wearOff_109 : decode cX2_wearOff 109 = .ok (.getfield 41, 3) := by decide +kernel
theorem dX2_wearOff_112 : decode cX2_wearOff 112 = .ok (.iload_n 3, 1) := by decide +kernel
theorem dX2_wearOff_113 : decode cX2_wearOff 113 = .ok (.aload_n 0, 1) := by decide +kernel
theorem dX2_wearOff_114 : decode cX2_wearOff 114 = .ok (.getfield 38, 3) := by decide +kernel
theorem dX2_wearOff_117 : decode cX2_wearOff 117 = .ok (.iload_n 1, 1) := by decide +kernel
theorem dX2_wearOff_118 : decode cX2_wearOff 118 = .ok (.iaload, 1) := by decide +kernel
theorem dX2_wearOff_119 : decode cX2_wearOff 119 = .ok (.invokestatic 65, 3) := by decide +kernel
theorem dX2_wearOff_122 : decode cX2_wearOff 122 = .ok (.aload_n 0, 1) := by decide +kernel
theorem dX2_wearOff_123 : decode cX2_wearOff 123 = .ok (.getfield 44, 3) := by decide +kernel
theorem dX2_wearOff_126 : decode cX2_wearOff 126 = .ok (.iload_n 3, 1) := by decide +kernel
theorem dX2_wearOff_127 : decode cX2_wearOff 127 = .ok (.iload 5, 2) := by decide +kernel
theorem dX2_wearOff_129 : decode cX2_wearOff 129 = .ok (.iadd, 1) := by decide +kernel
theorem dX2_wearOff_130 : decode cX2_wearOff 130 = .ok (.aload_n 0, 1) := by decide +kernel
theorem dX2_wearOff_131 : decode cX2_wearOff 131 = .ok (.getfield 44, 3) := by decide +kernel
theorem dX2_wearOff_134 : decode cX2_wearOff 134 = .ok (.iload_n 3, 1) := by decide +kernel
theorem dX2_wearOff_135 : decode cX2_wearOff 135 = .ok (.aload_n 0, 1) := by decide +kernel
theorem dX2_wearOff_136 : decode cX2_wearOff 136 = .ok (.getfield 38, 3) := by decide +kernel
theorem dX2_wearOff_139 : decode cX2_wearOff 139 = .ok (.iload_n 1, 1) := by decide +kernel
theorem dX2_wearOff_140 : decode cX2_wearOff 140 = .ok (.iaload, 1) := by decide +kernel
theorem dX2_wearOff_141 : decode cX2_wearOff 141 = .ok (.invokestatic 65, 3) := by decide +kernel
theorem dX2_wearOff_144 : decode cX2_wearOff 144 = .ok (.iload_n 2, 1) := by decide +kernel
theorem dX2_wearOff_145 : decode cX2_wearOff 145 = .ok (.iload 4, 2) := by decide +kernel
theorem dX2_wearOff_147 : decode cX2_wearOff 147 = .ok (.isub, 1) := by decide +kernel
theorem dX2_wearOff_148 : decode cX2_wearOff 148 = .ok (.ireturn, 1) := by decide +kernel
theorem dX10_wear_0 : decode cX10_wear 0 = .ok (.aload_n 0, 1) := by decide +kernel
theorem dX10_wear_1 : decode cX10_wear 1 = .ok (.getfield 50, 3) := by decide +kernel
theorem dX10_wear_4 : decode cX10_wear 4 = .ok (.iload_n 1, 1) := by decide +kernel
theorem dX10_wear_5 : decode cX10_wear 5 = .ok (.invokevirtual 225, 3) := by decide +kernel
theorem dX10_wear_8 : decode cX10_wear 8 = .ok (.ifCond .eq 13, 3) := by decide +kernel
theorem dX10_wear_11 : decode cX10_wear 11 = .ok (.iload_n 2, 1) := by decide +kernel
theorem dX10_wear_12 : decode cX10_wear 12 = .ok (.iconst 1, 1) := by decide +kernel
theorem dX10_wear_13 : decode cX10_wear 13 = .ok (.bipush 99, 2) := by decide +kernel
theorem dX10_wear_15 : decode cX10_wear 15 = .ok (.invokestatic 114, 3) := by decide +kernel
theorem dX10_wear_18 : decode cX10_wear 18 = .ok (.ifCond .ne 9, 3) := by decide +kernel
theorem dX10_wear_21 : decode cX10_wear 21 = .ok (.aload_n 0, 1) := by decide +kernel
theorem dX10_wear_22 : decode cX10_wear 22 = .ok (.iconst 1, 1) := by decide +kernel
theorem dX10_wear_23 : decode cX10_wear 23 = .ok (.invokevirtual 137, 3) := by decide +kernel
theorem dX10_wear_26 : decode cX10_wear 26 = .ok (.ireturn, 1) := by decide +kernel
theorem dX10_wear_27 : decode cX10_wear 27 = .ok (.aload_n 0, 1) := by decide +kernel
theorem dX10_wear_28 : decode cX10_wear 28 = .ok (.getfield 88, 3) := by decide +kernel
theorem dX10_wear_31 : decode cX10_wear 31 = .ok (.invokevirtual 181, 3) := by decide +kernel
theorem dX10_wear_34 : decode cX10_wear 34 = .ok (.aload_n 0, 1) := by decide +kernel
theorem dX10_wear_35 : decode cX10_wear 35 = .ok (.aload_n 0, 1) := by decide +kernel
theorem dX10_wear_36 : decode cX10_wear 36 = .ok (.getfield 50, 3) := by decide +kernel
theorem dX10_wear_39 : decode cX10_wear 39 = .ok (.iload_n 1, 1) := by decide +kernel
theorem dX10_wear_40 : decode cX10_wear 40 = .ok (.iload_n 2, 1) := by decide +kernel
theorem dX10_wear_41 : decode cX10_wear 41 = .ok (.invokevirtual 430, 3) := by decide +kernel
theorem dX10_wear_44 : decode cX10_wear 44 = .ok (.invokevirtual 187, 3) := by decide +kernel
theorem dX10_wear_47 : decode cX10_wear 47 = .ok (.ireturn, 1) := by decide +kernel
theorem dX10_throwing_0 : decode cX10_throwing 0 = .ok (.aload_n 0, 1) := by decide +kernel
theorem dX10_throwing_1 : decode cX10_throwing 1 = .ok (.getfield 50, 3) := by decide +kernel
theorem dX10_throwing_4 : decode cX10_throwing 4 = .ok (.iload_n 1, 1) := by decide +kernel
theorem dX10_throwing_5 : decode cX10_throwing 5 = .ok (.invokevirtual 264, 3) := by decide +kernel
theorem dX10_throwing_8 : decode cX10_throwing 8 = .ok (.ifCond .eq 14, 3) := by decide +kernel
theorem dX10_throwing_11 : decode cX10_throwing 11 = .ok (.iload_n 2, 1) := by decide +kernel
theorem dX10_throwing_12 : decode cX10_throwing 12 = .ok (.iconst 0, 1) := by decide +kernel
theorem dX10_throwing_13 : decode cX10_throwing 13 = .ok (.sipush 999, 3) := by decide +kernel
theorem dX10_throwing_16 : decode cX10_throwing 16 = .ok (.invokestatic 114, 3) := by decide +kernel
theorem dX10_throwing_19 : decode cX10_throwing 19 = .ok (.ifCond .ne 9, 3) := by decide +kernel
theorem dX10_throwing_22 : decode cX10_throwing 22 = .ok (.aload_n 0, 1) := by decide +kernel
theorem dX10_throwing_23 : decode cX10_throwing 23 = .ok (.iconst 1, 1) := by decide +kernel
theorem dX10_throwing_24 : decode cX10_throwing 24 = .ok (.invokevirtual 118, 3) := by decide +kernel
theorem dX10_throwing_27 : decode cX10_throwing 27 = .ok (.ireturn, 1) := by decide +kernel
theorem dX10_throwing_28 : decode cX10_throwing 28 = .ok (.aload_n 0, 1) := by decide +kernel
theorem dX10_throwing_29 : decode cX10_throwing 29 = .ok (.getfield 50, 3) := by decide +kernel
theorem dX10_throwing_32 : decode cX10_throwing 32 = .ok (.getfield 433, 3) := by decide +kernel
theorem dX10_throwing_35 : decode cX10_throwing 35 = .ok (.iload_n 1, 1) := by decide +kernel
theorem dX10_throwing_36 : decode cX10_throwing 36 = .ok (.iload_n 2, 1) := by decide +kernel
theorem dX10_throwing_37 : decode cX10_throwing 37 = .ok (.iastore, 1) := by decide +kernel
theorem dX10_throwing_38 : decode cX10_throwing 38 = .ok (.aload_n 0, 1) := by decide +kernel
theorem dX10_throwing_39 : decode cX10_throwing 39 = .ok (.invokevirtual 125, 3) := by decide +kernel
theorem dX10_throwing_42 : decode cX10_throwing 42 = .ok (.ireturn, 1) := by decide +kernel
theorem dX3_behindEnd_0 : decode cX3_behindEnd 0 = .ok (.aload_n 1, 1) := by decide +kernel
theorem dX3_behindEnd_1 : decode cX3_behindEnd 1 = .ok (.getfield 55, 3) := by decide +kernel
theorem dX3_behindEnd_4 : decode cX3_behindEnd 4 = .ok (.iload_n 2, 1) := by decide +kernel
theorem dX3_behindEnd_5 : decode cX3_behindEnd 5 = .ok (.iaload, 1) := by decide +kernel
theorem dX3_behindEnd_6 : decode cX3_behindEnd 6 = .ok (.istore_n 3, 1) := by decide +kernel
theorem dX3_behindEnd_7 : decode cX3_behindEnd 7 = .ok (.aload_n 1, 1) := by decide +kernel
theorem dX3_behindEnd_8 : decode cX3_behindEnd 8 = .ok (.getfield 44, 3) := by decide +kernel
theorem dX3_behindEnd_11 : decode cX3_behindEnd 11 = .ok (.iload_n 3, 1) := by decide +kernel
theorem dX3_behindEnd_12 : decode cX3_behindEnd 12 = .ok (.iaload, 1) := by decide +kernel
theorem dX3_behindEnd_13 : decode cX3_behindEnd 13 = .ok (.bipush 21, 2) := by decide +kernel
theorem dX3_behindEnd_15 : decode cX3_behindEnd 15 = .ok (.if_icmp .ne 27, 3) := by decide +kernel
theorem dX3_behindEnd_18 : decode cX3_behindEnd 18 = .ok (.aload_n 0, 1) := by decide +kernel
theorem dX3_behindEnd_19 : decode cX3_behindEnd 19 = .ok (.getfield 11, 3) := by decide +kernel
theorem dX3_behindEnd_22 : decode cX3_behindEnd 22 = .ok (.iload_n 3, 1) := by decide +kernel
theorem dX3_behindEnd_23 : decode cX3_behindEnd 23 = .ok (.iaload, 1) := by decide +kernel
theorem dX3_behindEnd_24 : decode cX3_behindEnd 24 = .ok (.iconst 1, 1) := by decide +kernel
theorem dX3_behindEnd_25 : decode cX3_behindEnd 25 = .ok (.if_icmp .le 17, 3) := by decide +kernel
theorem dX3_behindEnd_28 : decode cX3_behindEnd 28 = .ok (.aload_n 0, 1) := by decide +kernel
theorem dX3_behindEnd_29 : decode cX3_behindEnd 29 = .ok (.getfield 11, 3) := by decide +kernel
theorem dX3_behindEnd_32 : decode cX3_behindEnd 32 = .ok (.iload_n 3, 1) := by decide +kernel
theorem dX3_behindEnd_33 : decode cX3_behindEnd 33 = .ok (.dup2, 1) := by decide +kernel
theorem dX3_behindEnd_34 : decode cX3_behindEnd 34 = .ok (.iaload, 1) := by decide +kernel
theorem dX3_behindEnd_35 : decode cX3_behindEnd 35 = .ok (.iconst 1, 1) := by decide +kernel
theorem dX3_behindEnd_36 : decode cX3_behindEnd 36 = .ok (.isub, 1) := by decide +kernel
theorem dX3_behindEnd_37 : decode cX3_behindEnd 37 = .ok (.iastore, 1) := by decide +kernel
theorem dX3_behindEnd_38 : decode cX3_behindEnd 38 = .ok (.iload_n 3, 1) := by decide +kernel
theorem dX3_behindEnd_39 : decode cX3_behindEnd 39 = .ok (.iconst 1, 1) := by decide +kernel
theorem dX3_behindEnd_40 : decode cX3_behindEnd 40 = .ok (.iadd, 1) := by decide +kernel
theorem dX3_behindEnd_41 : decode cX3_behindEnd 41 = .ok (.ireturn, 1) := by decide +kernel
theorem dX3_behindEnd_42 : decode cX3_behindEnd 42 = .ok (.iload_n 2, 1) := by decide +kernel
theorem dX3_behindEnd_43 : decode cX3_behindEnd 43 = .ok (.iconst 1, 1) := by decide +kernel
theorem dX3_behindEnd_44 : decode cX3_behindEnd 44 = .ok (.iadd, 1) := by decide +kernel
theorem dX3_behindEnd_45 : decode cX3_behindEnd 45 = .ok (.ireturn, 1) := by decide +kernel
theorem dX3_layDown_0 : decode cX3_layDown 0 = .ok (.aload_n 1, 1) := by decide +kernel
theorem dX3_layDown_1 : decode cX3_layDown 1 = .ok (.iload_n 2, 1) := by decide +kernel
theorem dX3_layDown_2 : decode cX3_layDown 2 = .ok (.iload_n 3, 1) := by decide +kernel
theorem dX3_layDown_3 : decode cX3_layDown 3 = .ok (.iload 4, 2) := by decide +kernel
theorem dX3_layDown_5 : decode cX3_layDown 5 = .ok (.invokevirtual 89, 3) := by decide +kernel
theorem dX3_layDown_8 : decode cX3_layDown 8 = .ok (.ifCond .ne 17, 3) := by decide +kernel
theorem dX3_layDown_11 : decode cX3_layDown 11 = .ok (.aload_n 0, 1) := by decide +kernel
theorem dX3_layDown_12 : decode cX3_layDown 12 = .ok (.dup, 1) := by decide +kernel
theorem dX3_layDown_13 : decode cX3_layDown 13 = .ok (.getfield 28, 3) := by decide +kernel
theorem dX3_layDown_16 : decode cX3_layDown 16 = .ok (.iload 4, 2) := by decide +kernel
theorem dX3_layDown_18 : decode cX3_layDown 18 = .ok (.iadd, 1) := by decide +kernel
theorem dX3_layDown_19 : decode cX3_layDown 19 = .ok (.putfield 28, 3) := by decide +kernel
theorem dX3_layDown_22 : decode cX3_layDown 22 = .ok (.goto 13, 3) := by decide +kernel
theorem dX3_layDown_25 : decode cX3_layDown 25 = .ok (.aload_n 0, 1) := by decide +kernel
theorem dX3_layDown_26 : decode cX3_layDown 26 = .ok (.dup, 1) := by decide +kernel
theorem dX3_layDown_27 : decode cX3_layDown 27 = .ok (.getfield 25, 3) := by decide +kernel
theorem dX3_layDown_30 : decode cX3_layDown 30 = .ok (.iconst 1, 1) := by decide +kernel
theorem dX3_layDown_31 : decode cX3_layDown 31 = .ok (.iadd, 1) := by decide +kernel
theorem dX3_layDown_32 : decode cX3_layDown 32 = .ok (.putfield 25, 3) := by decide +kernel
theorem dX3_layDown_35 : decode cX3_layDown 35 = .ok (.return_, 1) := by decide +kernel
theorem dX3_nextDraw_0 : decode cX3_nextDraw 0 = .ok (.aload_n 0, 1) := by decide +kernel
theorem dX3_nextDraw_1 : decode cX3_nextDraw 1 = .ok (.aload_n 0, 1) := by decide +kernel
theorem dX3_nextDraw_2 : decode cX3_nextDraw 2 = .ok (.getfield 37, 3) := by decide +kernel
theorem dX3_nextDraw_5 : decode cX3_nextDraw 5 = .ok (.sipush 2777, 3) := by decide +kernel
theorem dX3_nextDraw_8 : decode cX3_nextDraw 8 = .ok (.imul, 1) := by decide +kernel
theorem dX3_nextDraw_9 : decode cX3_nextDraw 9 = .ok (.sipush 9551, 3) := by decide +kernel
theorem dX3_nextDraw_12 : decode cX3_nextDraw 12 = .ok (.iadd, 1) := by decide +kernel
theorem dX3_nextDraw_13 : decode cX3_nextDraw 13 = .ok (.ldc 100, 2) := by decide +kernel
theorem dX3_nextDraw_15 : decode cX3_nextDraw 15 = .ok (.irem, 1) := by decide +kernel
theorem dX3_nextDraw_16 : decode cX3_nextDraw 16 = .ok (.putfield 37, 3) := by decide +kernel
theorem dX3_nextDraw_19 : decode cX3_nextDraw 19 = .ok (.iload_n 1, 1) := by decide +kernel
theorem dX3_nextDraw_20 : decode cX3_nextDraw 20 = .ok (.ifCond .le 15, 3) := by decide +kernel
theorem dX3_nextDraw_23 : decode cX3_nextDraw 23 = .ok (.aload_n 0, 1) := by decide +kernel
theorem dX3_nextDraw_24 : decode cX3_nextDraw 24 = .ok (.getfield 37, 3) := by decide +kernel
theorem dX3_nextDraw_27 : decode cX3_nextDraw 27 = .ok (.bipush 8, 2) := by decide +kernel
theorem dX3_nextDraw_29 : decode cX3_nextDraw 29 = .ok (.idiv, 1) := by decide +kernel
theorem dX3_nextDraw_30 : decode cX3_nextDraw 30 = .ok (.iload_n 1, 1) := by decide +kernel
theorem dX3_nextDraw_31 : decode cX3_nextDraw 31 = .ok (.irem, 1) := by decide +kernel
theorem dX3_nextDraw_32 : decode cX3_nextDraw 32 = .ok (.goto 4, 3) := by decide +kernel
theorem dX3_nextDraw_35 : decode cX3_nextDraw 35 = .ok (.iconst 0, 1) := by decide +kernel
theorem dX3_nextDraw_36 : decode cX3_nextDraw 36 = .ok (.ireturn, 1) := by decide +kernel
theorem dX3_storm_0 : decode cX3_storm 0 = .ok (.iconst 0, 1) := by decide +kernel
theorem dX3_storm_1 : decode cX3_storm 1 = .ok (.istore_n 3, 1) := by decide +kernel
theorem dX3_storm_2 : decode cX3_storm 2 = .ok (.iload_n 3, 1) := by decide +kernel
theorem dX3_storm_3 : decode cX3_storm 3 = .ok (.aload_n 1, 1) := by decide +kernel
theorem dX3_storm_4 : decode cX3_storm 4 = .ok (.getfield 93, 3) := by decide +kernel
theorem dX3_storm_7 : decode cX3_storm 7 = .ok (.if_icmp .ge 37, 3) := by decide +kernel
theorem dX3_storm_10 : decode cX3_storm 10 = .ok (.aload_n 0, 1) := by decide +kernel
theorem dX3_storm_11 : decode cX3_storm 11 = .ok (.iload_n 2, 1) := by decide +kernel
theorem dX3_storm_12 : decode cX3_storm 12 = .ok (.invokevirtual 96, 3) := by decide +kernel
theorem dX3_storm_15 : decode cX3_storm 15 = .ok (.istore 4, 2) := by decide +kernel
theorem dX3_storm_17 : decode cX3_storm 17 = .ok (.iload 4, 2) := by decide +kernel
theorem dX3_storm_19 : decode cX3_storm 19 = .ok (.ifCond .le 19, 3) := by decide +kernel
theorem dX3_storm_22 : decode cX3_storm 22 = .ok (.aload_n 0, 1) := by decide +kernel
theorem dX3_storm_23 : decode cX3_storm 23 = .ok (.dup, 1) := by decide +kernel
theorem dX3_storm_24 : decode cX3_storm 24 = .ok (.getfield 31, 3) := by decide +kernel
theorem dX3_storm_27 : decode cX3_storm 27 = .ok (.aload_n 1, 1) := by decide +kernel
theorem dX3_storm_28 : decode cX3_storm 28 = .ok (.iload_n 3, 1) := by decide +kernel
theorem dX3_storm_29 : decode cX3_storm 29 = .ok (.iload 4, 2) := by decide +kernel
theorem dX3_storm_31 : decode cX3_storm 31 = .ok (.invokevirtual 71, 3) := by decide +kernel
theorem dX3_storm_34 : decode cX3_storm 34 = .ok (.iadd, 1) := by decide +kernel
theorem dX3_storm_35 : decode cX3_storm 35 = .ok (.putfield 31, 3) := by decide +kernel
theorem dX3_storm_38 : decode cX3_storm 38 = .ok (.iinc 3 1, 3) := by decide +kernel
theorem dX3_storm_41 : decode cX3_storm 41 = .ok (.goto (-39), 3) := by decide +kernel
theorem dX3_storm_44 : decode cX3_storm 44 = .ok (.return_, 1) := by decide +kernel
theorem dX3_move_0 : decode cX3_move 0 = .ok (.aload_n 1, 1) := by decide +kernel
theorem dX3_move_1 : decode cX3_move 1 = .ok (.getfield 101, 3) := by decide +kernel
theorem dX3_move_4 : decode cX3_move 4 = .ok (.iload_n 2, 1) := by decide +kernel
theorem dX3_move_5 : decode cX3_move 5 = .ok (.iaload, 1) := by decide +kernel
theorem dX3_move_6 : decode cX3_move 6 = .ok (.iload_n 3, 1) := by decide +kernel
theorem dX3_move_7 : decode cX3_move 7 = .ok (.iadd, 1) := by decide +kernel
theorem dX3_move_8 : decode cX3_move 8 = .ok (.sipush 999, 3) := by decide +kernel
theorem dX3_move_11 : decode cX3_move 11 = .ok (.if_icmp .le 16, 3) := by decide +kernel
theorem dX3_move_14 : decode cX3_move 14 = .ok (.aload_n 0, 1) := by decide +kernel
theorem dX3_move_15 : decode cX3_move 15 = .ok (.dup, 1) := by decide +kernel
theorem dX3_move_16 : decode cX3_move 16 = .ok (.getfield 25, 3) := by decide +kernel
theorem dX3_move_19 : decode cX3_move 19 = .ok (.iconst 1, 1) := by decide +kernel
theorem dX3_move_20 : decode cX3_move 20 = .ok (.iadd, 1) := by decide +kernel
theorem dX3_move_21 : decode cX3_move 21 = .ok (.putfield 25, 3) := by decide +kernel
theorem dX3_move_24 : decode cX3_move 24 = .ok (.goto 13, 3) := by decide +kernel
theorem dX3_move_27 : decode cX3_move 27 = .ok (.aload_n 1, 1) := by decide +kernel
theorem dX3_move_28 : decode cX3_move 28 = .ok (.getfield 101, 3) := by decide +kernel
theorem dX3_move_31 : decode cX3_move 31 = .ok (.iload_n 2, 1) := by decide +kernel
theorem dX3_move_32 : decode cX3_move 32 = .ok (.dup2, 1) := by decide +kernel
theorem dX3_move_33 : decode cX3_move 33 = .ok (.iaload, 1) := by decide +kernel
theorem dX3_move_34 : decode cX3_move 34 = .ok (.iload_n 3, 1) := by decide +kernel
theorem dX3_move_35 : decode cX3_move 35 = .ok (.iadd, 1) := by decide +kernel
theorem dX3_move_36 : decode cX3_move 36 = .ok (.iastore, 1) := by decide +kernel
theorem dX3_move_37 : decode cX3_move 37 = .ok (.return_, 1) := by decide +kernel
theorem dX2_hasRock_0 : decode cX2_hasRock 0 = .ok (.iconst 0, 1) := by decide +kernel
theorem dX2_hasRock_1 : decode cX2_hasRock 1 = .ok (.istore_n 3, 1) := by decide +kernel
theorem dX2_hasRock_2 : decode cX2_hasRock 2 = .ok (.iload_n 3, 1) := by decide +kernel
theorem dX2_hasRock_3 : decode cX2_hasRock 3 = .ok (.aload_n 0, 1) := by decide +kernel
theorem dX2_hasRock_4 : decode cX2_hasRock 4 = .ok (.getfield 38, 3) := by decide +kernel
theorem dX2_hasRock_7 : decode cX2_hasRock 7 = .ok (.iload_n 1, 1) := by decide +kernel
theorem dX2_hasRock_8 : decode cX2_hasRock 8 = .ok (.iaload, 1) := by decide +kernel
theorem dX2_hasRock_9 : decode cX2_hasRock 9 = .ok (.if_icmp .ge 25, 3) := by decide +kernel
theorem dX2_hasRock_12 : decode cX2_hasRock 12 = .ok (.aload_n 0, 1) := by decide +kernel
theorem dX2_hasRock_13 : decode cX2_hasRock 13 = .ok (.getfield 41, 3) := by decide +kernel
theorem dX2_hasRock_16 : decode cX2_hasRock 16 = .ok (.iload_n 1, 1) := by decide +kernel
theorem dX2_hasRock_17 : decode cX2_hasRock 17 = .ok (.iload_n 3, 1) := by decide +kernel
theorem dX2_hasRock_18 : decode cX2_hasRock 18 = .ok (.invokestatic 93, 3) := by decide +kernel
theorem dX2_hasRock_21 : decode cX2_hasRock 21 = .ok (.iaload, 1) := by decide +kernel
theorem dX2_hasRock_22 : decode cX2_hasRock 22 = .ok (.iload_n 2, 1) := by decide +kernel
theorem dX2_hasRock_23 : decode cX2_hasRock 23 = .ok (.if_icmp .ne 5, 3) := by decide +kernel
theorem dX2_hasRock_26 : decode cX2_hasRock 26 = .ok (.iconst 1, 1) := by decide +kernel
theorem dX2_hasRock_27 : decode cX2_hasRock 27 = .ok (.ireturn, 1) := by decide +kernel
theorem dX2_hasRock_28 : decode cX2_hasRock 28 = .ok (.iinc 3 1, 3) := by decide +kernel
theorem dX2_hasRock_31 : decode cX2_hasRock 31 = .ok (.goto (-29), 3) := by decide +kernel
theorem dX2_hasRock_34 : decode cX2_hasRock 34 = .ok (.iconst 0, 1) := by decide +kernel
theorem dX2_hasRock_35 : decode cX2_hasRock 35 = .ok (.ireturn, 1) := by decide +kernel
theorem dX3_compares_0 : decode cX3_compares 0 = .ok (.iload_n 1, 1) := by decide +kernel
theorem dX3_compares_1 : decode cX3_compares 1 = .ok (.bipush 60, 2) := by decide +kernel
theorem dX3_compares_3 : decode cX3_compares 3 = .ok (.if_icmp .ne 14, 3) := by decide +kernel
theorem dX3_compares_6 : decode cX3_compares 6 = .ok (.iload_n 0, 1) := by decide +kernel
theorem dX3_compares_7 : decode cX3_compares 7 = .ok (.iload_n 2, 1) := by decide +kernel
theorem dX3_compares_8 : decode cX3_compares 8 = .ok (.if_icmp .ge 7, 3) := by decide +kernel
theorem dX3_compares_11 : decode cX3_compares 11 = .ok (.iconst 1, 1) := by decide +kernel
theorem dX3_compares_12 : decode cX3_compares 12 = .ok (.goto 4, 3) := by decide +kernel
theorem dX3_compares_15 : decode cX3_compares 15 = .ok (.iconst 0, 1) := by decide +kernel
theorem dX3_compares_16 : decode cX3_compares 16 = .ok (.ireturn, 1) := by decide +kernel
theorem dX3_compares_17 : decode cX3_compares 17 = .ok (.iload_n 1, 1) := by decide +kernel
theorem dX3_compares_18 : decode cX3_compares 18 = .ok (.bipush 62, 2) := by decide +kernel
theorem dX3_compares_20 : decode cX3_compares 20 = .ok (.if_icmp .ne 16, 3) := by decide +kernel
theorem dX3_compares_23 : decode cX3_compares 23 = .ok (.iload_n 0, 1) := by decide +kernel
theorem dX3_compares_24 : decode cX3_compares 24 = .ok (.iload_n 2, 1) := by decide +kernel
theorem dX3_compares_25 : decode cX3_compares 25 = .ok (.if_icmp .le 7, 3) := by decide +kernel
theorem dX3_compares_28 : decode cX3_compares 28 = .ok (.iconst 1, 1) := by decide +kernel
theorem dX3_compares_29 : decode cX3_compares 29 = .ok (.goto 17, 3) := by decide +kernel
theorem dX3_compares_32 : decode cX3_compares 32 = .ok (.iconst 0, 1) := by decide +kernel
theorem dX3_compares_33 : decode cX3_compares 33 = .ok (.goto 13, 3) := by decide +kernel
theorem dX3_compares_36 : decode cX3_compares 36 = .ok (.iload_n 0, 1) := by decide +kernel
theorem dX3_compares_37 : decode cX3_compares 37 = .ok (.iload_n 2, 1) := by decide +kernel
theorem dX3_compares_38 : decode cX3_compares 38 = .ok (.if_icmp .ne 7, 3) := by decide +kernel
theorem dX3_compares_41 : decode cX3_compares 41 = .ok (.iconst 1, 1) := by decide +kernel
theorem dX3_compares_42 : decode cX3_compares 42 = .ok (.goto 4, 3) := by decide +kernel
theorem dX3_compares_45 : decode cX3_compares 45 = .ok (.iconst 0, 1) := by decide +kernel
theorem dX3_compares_46 : decode cX3_compares 46 = .ok (.ireturn, 1) := by decide +kernel
theorem dX3_holds_0 : decode cX3_holds 0 = .ok (.aload_n 0, 1) := by decide +kernel
theorem dX3_holds_1 : decode cX3_holds 1 = .ok (.getfield 58, 3) := by decide +kernel
theorem dX3_holds_4 : decode cX3_holds 4 = .ok (.iload_n 1, 1) := by decide +kernel
theorem dX3_holds_5 : decode cX3_holds 5 = .ok (.iaload, 1) := by decide +kernel
theorem dX3_holds_6 : decode cX3_holds 6 = .ok (.istore_n 3, 1) := by decide +kernel
theorem dX3_holds_7 : decode cX3_holds 7 = .ok (.aload_n 0, 1) := by decide +kernel
theorem dX3_holds_8 : decode cX3_holds 8 = .ok (.getfield 44, 3) := by decide +kernel
theorem dX3_holds_11 : decode cX3_holds 11 = .ok (.iload_n 1, 1) := by decide +kernel
theorem dX3_holds_12 : decode cX3_holds 12 = .ok (.iaload, 1) := by decide +kernel
theorem dX3_holds_13 : decode cX3_holds 13 = .ok (.lookupswitch 51 #[(19, 27), (20, 39)], 27) := by decide +kernel
theorem dX3_holds_40 : decode cX3_holds 40 = .ok (.aload_n 2, 1) := by decide +kernel
theorem dX3_holds_41 : decode cX3_holds 41 = .ok (.iload_n 3, 1) := by decide +kernel
theorem dX3_holds_42 : decode cX3_holds 42 = .ok (.aload_n 0, 1) := by decide +kernel
theorem dX3_holds_43 : decode cX3_holds 43 = .ok (.getfield 61, 3) := by decide +kernel
theorem dX3_holds_46 : decode cX3_holds 46 = .ok (.iload_n 1, 1) := by decide +kernel
theorem dX3_holds_47 : decode cX3_holds 47 = .ok (.iaload, 1) := by decide +kernel
theorem dX3_holds_48 : decode cX3_holds 48 = .ok (.invokevirtual 104, 3) := by decide +kernel
theorem dX3_holds_51 : decode cX3_holds 51 = .ok (.ireturn, 1) := by decide +kernel
theorem dX3_holds_52 : decode cX3_holds 52 = .ok (.aload_n 2, 1) := by decide +kernel
theorem dX3_holds_53 : decode cX3_holds 53 = .ok (.iload_n 3, 1) := by decide +kernel
theorem dX3_holds_54 : decode cX3_holds 54 = .ok (.aload_n 0, 1) := by decide +kernel
theorem dX3_holds_55 : decode cX3_holds 55 = .ok (.getfield 61, 3) := by decide +kernel
theorem dX3_holds_58 : decode cX3_holds 58 = .ok (.iload_n 1, 1) := by decide +kernel
theorem dX3_holds_59 : decode cX3_holds 59 = .ok (.iaload, 1) := by decide +kernel
theorem dX3_holds_60 : decode cX3_holds 60 = .ok (.invokevirtual 108, 3) := by decide +kernel
theorem dX3_holds_63 : decode cX3_holds 63 = .ok (.ireturn, 1) := by decide +kernel
theorem dX3_holds_64 : decode cX3_holds 64 = .ok (.aload_n 2, 1) := by decide +kernel
theorem dX3_holds_65 : decode cX3_holds 65 = .ok (.iload_n 3, 1) := by decide +kernel
theorem dX3_holds_66 : decode cX3_holds 66 = .ok (.invokevirtual 111, 3) := by decide +kernel
theorem dX3_holds_69 : decode cX3_holds 69 = .ok (.aload_n 0, 1) := by decide +kernel
theorem dX3_holds_70 : decode cX3_holds 70 = .ok (.getfield 61, 3) := by decide +kernel
theorem dX3_holds_73 : decode cX3_holds 73 = .ok (.iload_n 1, 1) := by decide +kernel
theorem dX3_holds_74 : decode cX3_holds 74 = .ok (.iaload, 1) := by decide +kernel
theorem dX3_holds_75 : decode cX3_holds 75 = .ok (.aload_n 0, 1) := by decide +kernel
theorem dX3_holds_76 : decode cX3_holds 76 = .ok (.getfield 64, 3) := by decide +kernel
theorem dX3_holds_79 : decode cX3_holds 79 = .ok (.iload_n 1, 1) := by decide +kernel
theorem dX3_holds_80 : decode cX3_holds 80 = .ok (.iaload, 1) := by decide +kernel
theorem dX3_holds_81 : decode cX3_holds 81 = .ok (.invokestatic 114, 3) := by decide +kernel
theorem dX3_holds_84 : decode cX3_holds 84 = .ok (.ireturn, 1) := by decide +kernel
def lX7_areWithin_3 (t : Nat) (x1 : Int32) (xz2 : Int64) (M : Mem) : Nat → Int32 → Option Int32
  | 0, _ => none
  | n + 1, x4 =>
    if x1 ≤ x4 then
 some (1 : Int32)
 else
 ixk x4 60 (
 if (M.2.1 (t + 1) x4.toNatClampNeg) < (-1 : Int64) then
 some (0 : Int32)
 else
 ixk x4 60 (
 if (M.2.1 (t + 1) x4.toNatClampNeg) ≤ xz2 then
 lX7_areWithin_3 t x1 xz2 M n (x4 + 1)
 else
 some (0 : Int32)))
theorem lX7_areWithin_3_s (t : Nat) (x1 : Int32) (xz2 : Int64) (M : Mem) (n : Nat) (x4 : Int32) : lX7_areWithin_3 t x1 xz2 M (n + 1) x4 =
    if x1 ≤ x4 then
 some (1 : Int32)
 else
 ixk x4 60 (
 if (M.2.1 (t + 1) x4.toNatClampNeg) < (-1 : Int64) then
 some (0 : Int32)
 else
 ixk x4 60 (
 if (M.2.1 (t + 1) x4.toNatClampNeg) ≤ xz2 then
 lX7_areWithin_3 t x1 xz2 M n (x4 + 1)
 else
 some (0 : Int32))) := rfl
theorem lX7_areWithin_3_0 (t : Nat) (x1 : Int32) (xz2 : Int64) (M : Mem) (x4 : Int32) : lX7_areWithin_3 t x1 xz2 M 0 x4 = none := rfl
set_option maxRecDepth 100000 in
set_option maxHeartbeats 4000000 in
theorem wlX7_areWithin_3 {J : JT} (g : Gd J cX7_areWithin RX7) (hr : Rt J (some .boolean)) (hR : (JR J).frames = 0 ∧ (JR J).locals = 0) (hn : Jn J = 5) (t : Nat) (x1 : Int32) (xz2 : Int64) (M : Mem) (ht : isO 7 t) : ∀ (n : Nat) (x4 : Int32), X J (fun b : Int32 => (some (Value.int b), M)) (lX7_areWithin_3 t x1 xz2 M n x4) 3 [(0, .ref t), (1, .int x1), (2, .long xz2), (4, .int x4)] [] M := by
  intro n
  induction n with
  | zero =>
    intro x4
    exact x_none
  | succ n ih =>
    intro x4
    rw [lX7_areWithin_3_s]
    exact (x_iload g 3 dX7_areWithin_3 rfl
 (x_iload_n g 1 dX7_areWithin_5 rfl rfl
 (x_icmp_ge g 43 dX7_areWithin_6 rfl
 (fun _ => (x_iconst g dX7_areWithin_43 kI_1
 (x_iret g hr rfl rfl dX7_areWithin_44)))
 (fun _ => (x_aload_n g 0 dX7_areWithin_9 rfl rfl
 (x_getS g 1 fl_RX7_9 rfl ht dX7_areWithin_10
 (x_iload g 3 dX7_areWithin_13 rfl
 (x_lald g (so_7_0 ht) dX7_areWithin_15
 (x_ldc2 g cw_RX7_22 dX7_areWithin_16
 (x_l_lt g 35 dX7_areWithin_19 dX7_areWithin_20 rfl
 (fun _ => (x_iconst g dX7_areWithin_35 kI_0
 (x_iret g hr rfl rfl dX7_areWithin_36)))
 (fun _ => (x_aload_n g 0 dX7_areWithin_23 rfl rfl
 (x_getS g 1 fl_RX7_9 rfl ht dX7_areWithin_24
 (x_iload g 3 dX7_areWithin_27 rfl
 (x_lald g (so_7_0 ht) dX7_areWithin_29
 (x_lload_n g 2 dX7_areWithin_30 rfl rfl
 (x_l_le g 37 dX7_areWithin_31 dX7_areWithin_32 rfl
 (fun _ => (x_iinc (L' := [(4, .int (x4 + 1)), (0, .ref t), (1, .int x1), (2, .long xz2)]) (v := (x4 + 1)) g 3 dX7_areWithin_37 rfl (by rw [kI_1]) hn (Nat.le_of_ble_eq_true rfl) rfl
 (x_goto g 3 dX7_areWithin_40 rfl
 (x_sub [1, 2, 3, 0] rfl (ih (x4 + 1))))))
 (fun _ => (x_iconst g dX7_areWithin_35 kI_0
 (x_iret g hr rfl rfl dX7_areWithin_36))))))))))))))))))))
def fX7_areWithin (φ : Nat) (t : Nat) (a1 : Int32) (a2 : Int64) (M : Mem) : Option Int32 :=
  lX7_areWithin_3 t a1 a2 M φ (0 : Int32)
set_option maxRecDepth 100000 in
set_option maxHeartbeats 4000000 in
theorem kX7_areWithin (φ : Nat) (t : Nat) (a1 : Int32) (a2 : Int64) (M : Mem) (ht : isO 7 t) (l : Launch) (G : GT) {b : Int32} (hE : fX7_areWithin φ t a1 a2 M = some b) : Ok l G yX7_areWithin cX7_areWithin 5 (some .boolean) 0 0 [.ref t, .int a1, .long a2] M ((fun b : Int32 => (some (Value.int b), M)) b).1 ((fun b : Int32 => (some (Value.int b), M)) b).2 := by
  refine Ok.ofX (pj := (fun b : Int32 => (some (Value.int b), M))) (by decide) (Nat.le_of_ble_eq_true rfl) hE (fun J g hr hG hl hR hn => ?_)
  show X J (fun b : Int32 => (some (Value.int b), M)) (fX7_areWithin φ t a1 a2 M) 0 [(0, .ref t), (1, .int a1), (2, .long a2)] [] M
  unfold fX7_areWithin
  exact (x_iconst g dX7_areWithin_0 kI_0
 (x_istore (L' := [(4, .int (0 : Int32)), (0, .ref t), (1, .int a1), (2, .long a2)]) g dX7_areWithin_1 hn (Nat.le_of_ble_eq_true rfl) rfl
 (x_sub [1, 2, 3, 0] rfl (wlX7_areWithin_3 g hr hR hn  t a1 a2 M ht φ (0 : Int32)))))
def fX10_logStatus (φ : Nat) (t : Nat) (a1 : Int32) (a2 : Int32) (a3 : Int32) (M : Mem) : Option Int32 :=
  (fX10_isTray a1 M).bind fun v1 =>
 if v1 = 0 then
 some (1 : Int32)
 else
 (fX10_isWithin a2 (1 : Int32) (60 : Int32) M).bind fun v2 =>
 if v2 = 0 then
 some (1 : Int32)
 else
 ixk a1 4 (
 (fX7_isMissing (srf (t + 1) a1.toNatClampNeg) M).bind fun v4 =>
 if v4 = 0 then
 ixk a1 4 (
 (fX7_hasRow (srf (t + 1) a1.toNatClampNeg) (0 : Int32) a2 M).bind fun v6 =>
 if v6 = 0 then
 some (3 : Int32)
 else
 ixk a1 4 (
 (fX7_areWithin φ (srf (t + 1) a1.toNatClampNeg) a2 (a3.toInt64) M).bind fun v8 =>
 if v8 = 0 then
 some (5 : Int32)
 else
 some (0 : Int32)))
 else
 some (2 : Int32))
set_option maxRecDepth 100000 in
set_option maxHeartbeats 4000000 in
theorem kX10_logStatus (φ : Nat) (t : Nat) (a1 : Int32) (a2 : Int32) (a3 : Int32) (M : Mem) (ht : isO 10 t) (l : Launch) (G : GT) {b : Int32} (hE : fX10_logStatus φ t a1 a2 a3 M = some b) : Ok l G yX10_logStatus cX10_logStatus 4 (some .int) 2 42 [.ref t, .int a1, .int a2, .int a3] M ((fun b : Int32 => (some (Value.int b), M)) b).1 ((fun b : Int32 => (some (Value.int b), M)) b).2 := by
  refine Ok.ofX (pj := (fun b : Int32 => (some (Value.int b), M))) (by decide) (Nat.le_of_ble_eq_true rfl) hE (fun J g hr hG hl hR hn => ?_)
  show X J (fun b : Int32 => (some (Value.int b), M)) (fX10_logStatus φ t a1 a2 a3 M) 0 [(0, .ref t), (1, .int a1), (2, .int a2), (3, .int a3)] [] M
  unfold fX10_logStatus
  exact (x_iload_n g 1 dX10_logStatus_0 rfl rfl
 (x_callSip (As := [.int a1]) g mv_X10_isTray ms_X10_isTray lk_RX10_110 (fun b hb => kX10_isTray a1 M _ _ hb) rfl rfl hR ⟨Nat.le_of_ble_eq_true rfl, Nat.le_of_ble_eq_true rfl⟩ (Nat.le_of_ble_eq_true rfl) dX10_logStatus_1 (fun v1 =>
 (x_if_eq g 17 dX10_logStatus_4 rfl
 (fun _ => (x_iconst g dX10_logStatus_17 kI_1
 (x_iret g hr rfl rfl dX10_logStatus_18)))
 (fun _ => (x_iload_n g 2 dX10_logStatus_7 rfl rfl
 (x_iconst g dX10_logStatus_8 kI_1
 (x_bipush g dX10_logStatus_9 kB_60
 (x_callSip (As := [.int a2, .int (1 : Int32), .int (60 : Int32)]) g mv_X10_isWithin ms_X10_isWithin lk_RX10_114 (fun b hb => kX10_isWithin a2 (1 : Int32) (60 : Int32) M _ _ hb) rfl rfl hR ⟨Nat.le_of_ble_eq_true rfl, Nat.le_of_ble_eq_true rfl⟩ (Nat.le_of_ble_eq_true rfl) dX10_logStatus_11 (fun v2 =>
 (x_if_ne g 19 dX10_logStatus_14 rfl
 (fun _ => (x_aload_n g 0 dX10_logStatus_19 rfl rfl
 (x_getS g 1 fl_RX10_22 rfl ht dX10_logStatus_20
 (x_iload_n g 1 dX10_logStatus_23 rfl rfl
 (x_aald g 4 (fun _ => rfl) (so_10_3 ht) dX10_logStatus_24 (fun hq3 =>
 (x_callVip (As := []) g mv_X7_isMissing mi_X7_isMissing lk_RX10_145 (se_10_3 ht hq3) (fun b hb => kX7_isMissing (srf (t + 1) a1.toNatClampNeg) M (se_10_3 ht hq3) _ _ hb) rfl rfl hR ⟨Nat.le_of_ble_eq_true rfl, Nat.le_of_ble_eq_true rfl⟩ (Nat.le_of_ble_eq_true rfl) dX10_logStatus_25 (fun v4 =>
 (x_if_eq g 33 dX10_logStatus_28 rfl
 (fun _ => (x_aload_n g 0 dX10_logStatus_33 rfl rfl
 (x_getS g 1 fl_RX10_22 rfl ht dX10_logStatus_34
 (x_iload_n g 1 dX10_logStatus_37 rfl rfl
 (x_aald g 4 (fun _ => rfl) (so_10_3 ht) dX10_logStatus_38 (fun hq5 =>
 (x_iconst g dX10_logStatus_39 kI_0
 (x_iload_n g 2 dX10_logStatus_40 rfl rfl
 (x_callVip (As := [.int (0 : Int32), .int a2]) g mv_X7_hasRow mi_X7_hasRow lk_RX10_151 (se_10_3 ht hq5) (fun b hb => kX7_hasRow (srf (t + 1) a1.toNatClampNeg) (0 : Int32) a2 M (se_10_3 ht hq5) _ _ hb) rfl rfl hR ⟨Nat.le_of_ble_eq_true rfl, Nat.le_of_ble_eq_true rfl⟩ (Nat.le_of_ble_eq_true rfl) dX10_logStatus_41 (fun v6 =>
 (x_if_ne g 49 dX10_logStatus_44 rfl
 (fun _ => (x_aload_n g 0 dX10_logStatus_49 rfl rfl
 (x_getS g 1 fl_RX10_22 rfl ht dX10_logStatus_50
 (x_iload_n g 1 dX10_logStatus_53 rfl rfl
 (x_aald g 4 (fun _ => rfl) (so_10_3 ht) dX10_logStatus_54 (fun hq7 =>
 (x_iload_n g 2 dX10_logStatus_55 rfl rfl
 (x_iload_n g 3 dX10_logStatus_56 rfl rfl
 (x_i2l g dX10_logStatus_57
 (x_callVip (As := [.int a2, .long (a3.toInt64)]) g mv_X7_areWithin mi_X7_areWithin lk_RX10_480 (se_10_3 ht hq7) (fun b hb => kX7_areWithin φ (srf (t + 1) a1.toNatClampNeg) a2 (a3.toInt64) M (se_10_3 ht hq7) _ _ hb) rfl rfl hR ⟨Nat.le_of_ble_eq_true rfl, Nat.le_of_ble_eq_true rfl⟩ (Nat.le_of_ble_eq_true rfl) dX10_logStatus_58 (fun v8 =>
 (x_if_eq g 68 dX10_logStatus_61 rfl
 (fun _ => (x_iconst g dX10_logStatus_68 kI_5
 (x_iret g hr rfl rfl dX10_logStatus_69)))
 (fun _ => (x_iconst g dX10_logStatus_64 kI_0
 (x_goto g 69 dX10_logStatus_65 rfl
 (x_iret g hr rfl rfl dX10_logStatus_69))))))))))))))))
 (fun _ => (x_iconst g dX10_logStatus_47 kI_3
 (x_iret g hr rfl rfl dX10_logStatus_48))))))))))))))
 (fun _ => (x_iconst g dX10_logStatus_31 kI_2
 (x_iret g hr rfl rfl dX10_logStatus_32))))))))))))
 (fun _ => (x_iconst g dX10_logStatus_17 kI_1
 (x_iret g hr rfl rfl dX10_logStatus_18))))))))))))))
def lX4_isPick_46 (t : Nat) (x1 : Int32) (x2 : Int32) (x3 : Int32) (x4 : Int32) (M : Mem) : Nat → Int32 → Option Int32
  | 0, _ => none
  | n + 1, x7 =>
    if (x2 + x4) ≤ x7 then
 some (1 : Int32)
 else
 if x1 ≤ x7 then
 some (1 : Int32)
 else
 ixk x7 60 (
 jn (lX4_isPick_46 t x1 x2 x3 x4 M n (x7 + 1)) (fun J3 => if (M.2.1 (t + 1) x7.toNatClampNeg) = (-1 : Int64) then
 J3
 else
 ixk x7 60 (
 if (x3.toInt64) ≤ (M.2.1 (t + 1) x7.toNatClampNeg) then
 J3
 else
 some (0 : Int32))))
theorem lX4_isPick_46_s (t : Nat) (x1 : Int32) (x2 : Int32) (x3 : Int32) (x4 : Int32) (M : Mem) (n : Nat) (x7 : Int32) : lX4_isPick_46 t x1 x2 x3 x4 M (n + 1) x7 =
    if (x2 + x4) ≤ x7 then
 some (1 : Int32)
 else
 if x1 ≤ x7 then
 some (1 : Int32)
 else
 ixk x7 60 (
 jn (lX4_isPick_46 t x1 x2 x3 x4 M n (x7 + 1)) (fun J3 => if (M.2.1 (t + 1) x7.toNatClampNeg) = (-1 : Int64) then
 J3
 else
 ixk x7 60 (
 if (x3.toInt64) ≤ (M.2.1 (t + 1) x7.toNatClampNeg) then
 J3
 else
 some (0 : Int32)))) := rfl
theorem lX4_isPick_46_0 (t : Nat) (x1 : Int32) (x2 : Int32) (x3 : Int32) (x4 : Int32) (M : Mem) (x7 : Int32) : lX4_isPick_46 t x1 x2 x3 x4 M 0 x7 = none := rfl
set_option maxRecDepth 100000 in
set_option maxHeartbeats 4000000 in
theorem wlX4_isPick_46 {J : JT} (g : Gd J cX4_isPick RX4) (hr : Rt J (some .boolean)) (hR : (JR J).frames = 0 ∧ (JR J).locals = 0) (hn : Jn J = 8) (t : Nat) (x1 : Int32) (x2 : Int32) (x3 : Int32) (x4 : Int32) (M : Mem) (ht : isO 7 t) : ∀ (n : Nat) (x7 : Int32), X J (fun b : Int32 => (some (Value.int b), M)) (lX4_isPick_46 t x1 x2 x3 x4 M n x7) 46 [(0, .ref t), (1, .int x1), (2, .int x2), (3, .int x3), (4, .int x4), (7, .int x7)] [] M := by
  intro n
  induction n with
  | zero =>
    intro x7
    exact x_none
  | succ n ih =>
    intro x7
    rw [lX4_isPick_46_s]
    exact (x_iload g 5 dX4_isPick_46 rfl
 (x_iload_n g 2 dX4_isPick_48 rfl rfl
 (x_iload g 4 dX4_isPick_49 rfl
 (x_iadd g dX4_isPick_51
 (x_icmp_ge g 96 dX4_isPick_52 rfl
 (fun _ => (x_iconst g dX4_isPick_96 kI_1
 (x_iret g hr rfl rfl dX4_isPick_97)))
 (fun _ => (x_iload g 5 dX4_isPick_55 rfl
 (x_iload_n g 1 dX4_isPick_57 rfl rfl
 (x_icmp_ge g 96 dX4_isPick_58 rfl
 (fun _ => (x_iconst g dX4_isPick_96 kI_1
 (x_iret g hr rfl rfl dX4_isPick_97)))
 (fun _ => (x_aload_n g 0 dX4_isPick_61 rfl rfl
 (x_getS g 1 fl_RX4_26 rfl ht dX4_isPick_62
 (x_iload g 5 dX4_isPick_65 rfl
 (x_lald g (so_7_0 ht) dX4_isPick_67
 (x_ldc2 g cw_RX4_32 dX4_isPick_68
 (x_jn (fun (J3 : Option Int32) => X J (fun b : Int32 => (some (Value.int b), M)) J3 90 [(0, .ref t), (1, .int x1), (2, .int x2), (3, .int x3), (4, .int x4), (7, .int x7)] [] M) (x_iinc (L' := [(7, .int (x7 + 1)), (0, .ref t), (1, .int x1), (2, .int x2), (3, .int x3), (4, .int x4)]) (v := (x7 + 1)) g 5 dX4_isPick_90 rfl (by rw [kI_1]) hn (Nat.le_of_ble_eq_true rfl) rfl
 (x_goto g 46 dX4_isPick_93 rfl
 (x_sub [1, 2, 3, 4, 5, 0] rfl (ih (x7 + 1))))) (fun J3 hJ3 => (x_l_eq g 90 dX4_isPick_71 dX4_isPick_72 rfl
 (fun _ => (hJ3))
 (fun _ => (x_aload_n g 0 dX4_isPick_75 rfl rfl
 (x_getS g 1 fl_RX4_26 rfl ht dX4_isPick_76
 (x_iload g 5 dX4_isPick_79 rfl
 (x_lald g (so_7_0 ht) dX4_isPick_81
 (x_iload_n g 3 dX4_isPick_82 rfl rfl
 (x_i2l g dX4_isPick_83
 (x_l_ge g 90 dX4_isPick_84 dX4_isPick_85 rfl
 (fun _ => (hJ3))
 (fun _ => (x_iconst g dX4_isPick_88 kI_0
 (x_iret g hr rfl rfl dX4_isPick_89)))))))))))))))))))))))))))))
def fX4_isPick (φ : Nat) (a1 : Nat) (a2 : Int32) (a3 : Int32) (a4 : Int32) (a5 : Int32) (M : Mem) : Option Int32 :=
  ixk (a3 - (1 : Int32)) 60 (
 nm (M.2.1 (a1 + 1) (a3 - (1 : Int32)).toNatClampNeg) (fun vz1 =>
 ixk a3 60 (
 if (M.2.1 (a1 + 1) a3.toNatClampNeg) < (a4.toInt64) then
 some (0 : Int32)
 else
 if vz1 = (-1 : Int64) then
 some (0 : Int32)
 else
 if vz1 < (a4.toInt64) then
 nm (a3 + (1 : Int32)) (fun v2 =>
 lX4_isPick_46 a1 a2 a3 a4 a5 M φ v2)
 else
 some (0 : Int32))))
set_option maxRecDepth 100000 in
set_option maxHeartbeats 4000000 in
theorem kX4_isPick (φ : Nat) (a1 : Nat) (a2 : Int32) (a3 : Int32) (a4 : Int32) (a5 : Int32) (M : Mem) (ha1 : isO 7 a1) (l : Launch) (G : GT) {b : Int32} (hE : fX4_isPick φ a1 a2 a3 a4 a5 M = some b) : Ok l G yX4_isPick cX4_isPick 8 (some .boolean) 0 0 [.ref a1, .int a2, .int a3, .int a4, .int a5] M ((fun b : Int32 => (some (Value.int b), M)) b).1 ((fun b : Int32 => (some (Value.int b), M)) b).2 := by
  refine Ok.ofX (pj := (fun b : Int32 => (some (Value.int b), M))) (by decide) (Nat.le_of_ble_eq_true rfl) hE (fun J g hr hG hl hR hn => ?_)
  show X J (fun b : Int32 => (some (Value.int b), M)) (fX4_isPick φ a1 a2 a3 a4 a5 M) 0 [(0, .ref a1), (1, .int a2), (2, .int a3), (3, .int a4), (4, .int a5)] [] M
  unfold fX4_isPick
  exact (x_aload_n g 0 dX4_isPick_0 rfl rfl
 (x_getS g 1 fl_RX4_26 rfl ha1 dX4_isPick_1
 (x_iload_n g 2 dX4_isPick_4 rfl rfl
 (x_iconst g dX4_isPick_5 kI_1
 (x_isub g dX4_isPick_6
 (x_lald g (so_7_0 ha1) dX4_isPick_7
 (x_nmL (fun vz1 => (x_lstore (L' := [(5, .long vz1), (0, .ref a1), (1, .int a2), (2, .int a3), (3, .int a4), (4, .int a5)]) g dX4_isPick_8 hn (Nat.le_of_ble_eq_true rfl) rfl
 (x_aload_n g 1 dX4_isPick_10 rfl rfl
 (x_getS g 1 fl_RX4_26 rfl ha1 dX4_isPick_11
 (x_iload_n g 3 dX4_isPick_14 rfl rfl
 (x_lald g (so_7_0 ha1) dX4_isPick_15
 (x_iload_n g 4 dX4_isPick_16 rfl rfl
 (x_i2l g dX4_isPick_17
 (x_l_lt g 39 dX4_isPick_18 dX4_isPick_19 rfl
 (fun _ => (x_iconst g dX4_isPick_39 kI_0
 (x_iret g hr rfl rfl dX4_isPick_40)))
 (fun _ => (x_lload g 0 dX4_isPick_22 rfl
 (x_ldc2 g cw_RX4_32 dX4_isPick_24
 (x_l_eq g 39 dX4_isPick_27 dX4_isPick_28 rfl
 (fun _ => (x_iconst g dX4_isPick_39 kI_0
 (x_iret g hr rfl rfl dX4_isPick_40)))
 (fun _ => (x_lload g 0 dX4_isPick_31 rfl
 (x_iload_n g 4 dX4_isPick_33 rfl rfl
 (x_i2l g dX4_isPick_34
 (x_l_lt g 41 dX4_isPick_35 dX4_isPick_36 rfl
 (fun _ => (x_iload_n g 3 dX4_isPick_41 rfl rfl
 (x_iconst g dX4_isPick_42 kI_1
 (x_iadd g dX4_isPick_43
 (x_nmI (fun v2 => (x_istore (L' := [(7, .int v2), (5, .long vz1), (0, .ref a1), (1, .int a2), (2, .int a3), (3, .int a4), (4, .int a5)]) g dX4_isPick_44 hn (Nat.le_of_ble_eq_true rfl) rfl
 (x_sub [2, 3, 4, 5, 6, 0] rfl (wlX4_isPick_46 g hr hR hn  a1 a2 a3 a4 a5 M ha1 φ v2)))))))))
 (fun _ => (x_iconst g dX4_isPick_39 kI_0
 (x_iret g hr rfl rfl dX4_isPick_40))))))))))))))))))))))))))))
def lX4_pick_8 (φ : Nat) (t : Nat) (xr1 : Nat) (x2 : Int32) (x3 : Int32) (x4 : Int32) : Nat → Int32 → Mem → Option (Int32 × Mem)
  | 0, _, _ => none
  | n + 1, x5, M =>
    if x2 ≤ x5 then
 some ((M.1 t 1), M)
 else
 (fX4_isPick φ xr1 x2 x5 x3 x4 M).bind fun v2 =>
 jn (fun (M3 : Mem) => lX4_pick_8 φ t xr1 x2 x3 x4 n (x5 + 1) M3) (fun J4 => if v2 = 0 then
 J4 M
 else
 ixk (M.1 t 1) 60 (nm (stI M (t + 1) (M.1 t 1).toNatClampNeg x5) (fun M5 =>
 nm (stI M5 t 1 ((M5.1 t 1) + (1 : Int32))) (fun M6 =>
 J4 M6))))
theorem lX4_pick_8_s (φ : Nat) (t : Nat) (xr1 : Nat) (x2 : Int32) (x3 : Int32) (x4 : Int32) (n : Nat) (x5 : Int32) (M : Mem) : lX4_pick_8 φ t xr1 x2 x3 x4 (n + 1) x5 M =
    if x2 ≤ x5 then
 some ((M.1 t 1), M)
 else
 (fX4_isPick φ xr1 x2 x5 x3 x4 M).bind fun v2 =>
 jn (fun (M3 : Mem) => lX4_pick_8 φ t xr1 x2 x3 x4 n (x5 + 1) M3) (fun J4 => if v2 = 0 then
 J4 M
 else
 ixk (M.1 t 1) 60 (nm (stI M (t + 1) (M.1 t 1).toNatClampNeg x5) (fun M5 =>
 nm (stI M5 t 1 ((M5.1 t 1) + (1 : Int32))) (fun M6 =>
 J4 M6)))) := rfl
theorem lX4_pick_8_0 (φ : Nat) (t : Nat) (xr1 : Nat) (x2 : Int32) (x3 : Int32) (x4 : Int32) (x5 : Int32) (M : Mem) : lX4_pick_8 φ t xr1 x2 x3 x4 0 x5 M = none := rfl
set_option maxRecDepth 100000 in
set_option maxHeartbeats 4000000 in
theorem wlX4_pick_8 {J : JT} (g : Gd J cX4_pick RX4) (hr : Rt J (some .int)) (hR : (JR J).frames = 1 ∧ (JR J).locals = 27) (hn : Jn J = 6) (φ : Nat) (t : Nat) (xr1 : Nat) (x2 : Int32) (x3 : Int32) (x4 : Int32) (ht : isO 4 t) (hxr1 : isO 7 xr1) : ∀ (n : Nat) (x5 : Int32) (M : Mem), X J (fun q : Int32 × Mem => (some (Value.int q.1), q.2)) (lX4_pick_8 φ t xr1 x2 x3 x4 n x5 M) 8 [(0, .ref t), (1, .ref xr1), (2, .int x2), (3, .int x3), (4, .int x4), (5, .int x5)] [] M := by
  intro n
  induction n with
  | zero =>
    intro x5 M
    exact x_none
  | succ n ih =>
    intro x5 M
    rw [lX4_pick_8_s]
    exact (x_iload g 5 dX4_pick_8 rfl
 (x_iload_n g 2 dX4_pick_10 rfl rfl
 (x_icmp_ge g 54 dX4_pick_11 rfl
 (fun _ => (x_aload_n g 0 dX4_pick_54 rfl rfl
 (x_getI g fl_RX4_15 rfl ht dX4_pick_55
 (x_iret g hr rfl rfl dX4_pick_58))))
 (fun _ => (x_aload_n g 1 dX4_pick_14 rfl rfl
 (x_iload_n g 2 dX4_pick_15 rfl rfl
 (x_iload g 5 dX4_pick_16 rfl
 (x_iload_n g 3 dX4_pick_18 rfl rfl
 (x_iload g 4 dX4_pick_19 rfl
 (x_callSip (As := [.ref xr1, .int x2, .int x5, .int x3, .int x4]) g mv_X4_isPick ms_X4_isPick lk_RX4_22 (fun b hb => kX4_isPick φ xr1 x2 x5 x3 x4 M hxr1 _ _ hb) rfl rfl hR ⟨Nat.le_of_ble_eq_true rfl, Nat.le_of_ble_eq_true rfl⟩ (Nat.le_of_ble_eq_true rfl) dX4_pick_21 (fun v2 =>
 (x_jn (fun (J4 : Mem → Option (Int32 × Mem)) => ∀ (M3 : Mem), X J (fun q : Int32 × Mem => (some (Value.int q.1), q.2)) (J4 M3) 48 [(0, .ref t), (1, .ref xr1), (2, .int x2), (3, .int x3), (4, .int x4), (5, .int x5)] [] M3) (fun M3 => (x_iinc (L' := [(5, .int (x5 + 1)), (0, .ref t), (1, .ref xr1), (2, .int x2), (3, .int x3), (4, .int x4)]) (v := (x5 + 1)) g 5 dX4_pick_48 rfl (by rw [kI_1]) hn (Nat.le_of_ble_eq_true rfl) rfl
 (x_goto g 8 dX4_pick_51 rfl
 (x_sub [1, 2, 3, 4, 5, 0] rfl (ih (x5 + 1) M3))))) (fun J4 hJ4 => (x_if_eq g 48 dX4_pick_24 rfl
 (fun _ => (hJ4 M))
 (fun _ => (x_aload_n g 0 dX4_pick_27 rfl rfl
 (x_getS g 1 fl_RX4_9 rfl ht dX4_pick_28
 (x_aload_n g 0 dX4_pick_31 rfl rfl
 (x_getI g fl_RX4_15 rfl ht dX4_pick_32
 (x_iload g 5 dX4_pick_35 rfl
 (x_iast g (so_4_0 ht) dX4_pick_37 (x_nmM (fun M5 =>
 (x_aload_n g 0 dX4_pick_38 rfl rfl
 (x_dup g dX4_pick_39 rfl
 (x_getI g fl_RX4_15 rfl ht dX4_pick_40
 (x_iconst g dX4_pick_43 kI_1
 (x_iadd g dX4_pick_44
 (x_putI g fp_RX4_15 rfl (Nat.le_of_ble_eq_true rfl) ht dX4_pick_45 (x_nmM (fun M6 =>
 (hJ4 M6))))))))))))))))))))))))))))))))
def fX4_pick (φ : Nat) (t : Nat) (a1 : Nat) (a2 : Int32) (a3 : Int32) (a4 : Int32) (M : Mem) : Option (Int32 × Mem) :=
  nm (stI M t 1 (0 : Int32)) (fun M1 =>
 lX4_pick_8 φ t a1 a2 a3 a4 φ (1 : Int32) M1)
set_option maxRecDepth 100000 in
set_option maxHeartbeats 4000000 in
theorem kX4_pick (φ : Nat) (t : Nat) (a1 : Nat) (a2 : Int32) (a3 : Int32) (a4 : Int32) (M : Mem) (ht : isO 4 t) (ha1 : isO 7 a1) (l : Launch) (G : GT) {b : (Int32 × Mem)} (hE : fX4_pick φ t a1 a2 a3 a4 M = some b) : Ok l G yX4_pick cX4_pick 6 (some .int) 1 27 [.ref t, .ref a1, .int a2, .int a3, .int a4] M ((fun q : Int32 × Mem => (some (Value.int q.1), q.2)) b).1 ((fun q : Int32 × Mem => (some (Value.int q.1), q.2)) b).2 := by
  refine Ok.ofX (pj := (fun q : Int32 × Mem => (some (Value.int q.1), q.2))) (by decide) (Nat.le_of_ble_eq_true rfl) hE (fun J g hr hG hl hR hn => ?_)
  show X J (fun q : Int32 × Mem => (some (Value.int q.1), q.2)) (fX4_pick φ t a1 a2 a3 a4 M) 0 [(0, .ref t), (1, .ref a1), (2, .int a2), (3, .int a3), (4, .int a4)] [] M
  unfold fX4_pick
  exact (x_aload_n g 0 dX4_pick_0 rfl rfl
 (x_iconst g dX4_pick_1 kI_0
 (x_putI g fp_RX4_15 rfl (Nat.le_of_ble_eq_true rfl) ht dX4_pick_2 (x_nmM (fun M1 =>
 (x_iconst g dX4_pick_5 kI_1
 (x_istore (L' := [(5, .int (1 : Int32)), (0, .ref t), (1, .ref a1), (2, .int a2), (3, .int a3), (4, .int a4)]) g dX4_pick_6 hn (Nat.le_of_ble_eq_true rfl) rfl
 (x_sub [1, 2, 3, 4, 5, 0] rfl (wlX4_pick_8 g hr hR hn  φ t a1 a2 a3 a4 ht ha1 φ (1 : Int32) M1)))))))))
def fX10_picks (φ : Nat) (t : Nat) (a1 : Int32) (a2 : Int32) (a3 : Int32) (a4 : Int32) (M : Mem) : Option (Int32 × Mem) :=
  (fX10_isWithin a3 (0 : Int32) (999999 : Int32) M).bind fun v1 =>
 if v1 = 0 then
 bd (fX10_refuse t (1 : Int32) M) fun v2 M3 =>
 some (v2, M3)
 else
 (fX10_isWithin a4 (1 : Int32) (9 : Int32) M).bind fun v4 =>
 if v4 = 0 then
 bd (fX10_refuse t (1 : Int32) M) fun v13 M14 =>
 some (v13, M14)
 else
 (fX10_logStatus φ t a1 a2 (999999 : Int32) M).bind fun v5 =>
 if v5 = 0 then
 ixk a1 4 (
 bd (fX4_pick φ (t + 71) (srf (t + 1) a1.toNatClampNeg) a2 a3 a4 M) fun v7 M8 =>
 bd (fX10_answer t v7 M8) fun v9 M10 =>
 some (v9, M10))
 else
 bd (fX10_refuse t v5 M) fun v11 M12 =>
 some (v11, M12)
set_option maxRecDepth 100000 in
set_option maxHeartbeats 4000000 in
theorem kX10_picks (φ : Nat) (t : Nat) (a1 : Int32) (a2 : Int32) (a3 : Int32) (a4 : Int32) (M : Mem) (ht : isO 10 t) (l : Launch) (G : GT) {b : (Int32 × Mem)} (hE : fX10_picks φ t a1 a2 a3 a4 M = some b) : Ok l G yX10_picks cX10_picks 6 (some .int) 3 65 [.ref t, .int a1, .int a2, .int a3, .int a4] M ((fun q : Int32 × Mem => (some (Value.int q.1), q.2)) b).1 ((fun q : Int32 × Mem => (some (Value.int q.1), q.2)) b).2 := by
  refine Ok.ofX (pj := (fun q : Int32 × Mem => (some (Value.int q.1), q.2))) (by decide) (Nat.le_of_ble_eq_true rfl) hE (fun J g hr hG hl hR hn => ?_)
  show X J (fun q : Int32 × Mem => (some (Value.int q.1), q.2)) (fX10_picks φ t a1 a2 a3 a4 M) 0 [(0, .ref t), (1, .int a1), (2, .int a2), (3, .int a3), (4, .int a4)] [] M
  unfold fX10_picks
  exact (x_iload_n g 3 dX10_picks_0 rfl rfl
 (x_iconst g dX10_picks_1 kI_0
 (x_ldcw g cw_RX10_394 dX10_picks_2
 (x_callSip (As := [.int a3, .int (0 : Int32), .int (999999 : Int32)]) g mv_X10_isWithin ms_X10_isWithin lk_RX10_114 (fun b hb => kX10_isWithin a3 (0 : Int32) (999999 : Int32) M _ _ hb) rfl rfl hR ⟨Nat.le_of_ble_eq_true rfl, Nat.le_of_ble_eq_true rfl⟩ (Nat.le_of_ble_eq_true rfl) dX10_picks_5 (fun v1 =>
 (x_if_eq g 22 dX10_picks_8 rfl
 (fun _ => (x_aload_n g 0 dX10_picks_22 rfl rfl
 (x_iconst g dX10_picks_23 kI_1
 (x_callVi (As := [.int (1 : Int32)]) g mv_X10_refuse mi_X10_refuse lk_RX10_137 ht (fun b Mh_ hb => kX10_refuse t (1 : Int32) M ht _ _ hb) rfl rfl hR ⟨Nat.le_of_ble_eq_true rfl, Nat.le_of_ble_eq_true rfl⟩ (Nat.le_of_ble_eq_true rfl) dX10_picks_24 (fun v2 M3 =>
 (x_iret g hr rfl rfl dX10_picks_27))))))
 (fun _ => (x_iload g 4 dX10_picks_11 rfl
 (x_iconst g dX10_picks_13 kI_1
 (x_bipush g dX10_picks_14 kB_9
 (x_callSip (As := [.int a4, .int (1 : Int32), .int (9 : Int32)]) g mv_X10_isWithin ms_X10_isWithin lk_RX10_114 (fun b hb => kX10_isWithin a4 (1 : Int32) (9 : Int32) M _ _ hb) rfl rfl hR ⟨Nat.le_of_ble_eq_true rfl, Nat.le_of_ble_eq_true rfl⟩ (Nat.le_of_ble_eq_true rfl) dX10_picks_16 (fun v4 =>
 (x_if_ne g 28 dX10_picks_19 rfl
 (fun _ => (x_aload_n g 0 dX10_picks_28 rfl rfl
 (x_iload_n g 1 dX10_picks_29 rfl rfl
 (x_iload_n g 2 dX10_picks_30 rfl rfl
 (x_ldcw g cw_RX10_394 dX10_picks_31
 (x_callVip (As := [.int a1, .int a2, .int (999999 : Int32)]) g mv_X10_logStatus mi_X10_logStatus lk_RX10_395 ht (fun b hb => kX10_logStatus φ t a1 a2 (999999 : Int32) M ht _ _ hb) rfl rfl hR ⟨Nat.le_of_ble_eq_true rfl, Nat.le_of_ble_eq_true rfl⟩ (Nat.le_of_ble_eq_true rfl) dX10_picks_34 (fun v5 =>
 (x_istore (L' := [(5, .int v5), (0, .ref t), (1, .int a1), (2, .int a2), (3, .int a3), (4, .int a4)]) g dX10_picks_37 hn (Nat.le_of_ble_eq_true rfl) rfl
 (x_iload g 0 dX10_picks_39 rfl
 (x_if_eq g 51 dX10_picks_41 rfl
 (fun _ => (x_aload_n g 1 dX10_picks_51 rfl rfl
 (x_aload_n g 1 dX10_picks_52 rfl rfl
 (x_getS g 71 fl_RX10_95 rfl ht dX10_picks_53
 (x_aload_n g 1 dX10_picks_56 rfl rfl
 (x_getS g 1 fl_RX10_22 rfl ht dX10_picks_57
 (x_iload_n g 2 dX10_picks_60 rfl rfl
 (x_aald g 4 (fun _ => rfl) (so_10_3 ht) dX10_picks_61 (fun hq6 =>
 (x_iload_n g 3 dX10_picks_62 rfl rfl
 (x_iload_n g 4 dX10_picks_63 rfl rfl
 (x_iload g 5 dX10_picks_64 rfl
 (x_callVi (As := [.ref (srf (t + 1) a1.toNatClampNeg), .int a2, .int a3, .int a4]) g mv_X4_pick mi_X4_pick lk_RX10_399 (so_10_16 ht) (fun b Mh_ hb => kX4_pick φ (t + 71) (srf (t + 1) a1.toNatClampNeg) a2 a3 a4 M (so_10_16 ht) (se_10_3 ht hq6) _ _ hb) rfl rfl hR ⟨Nat.le_of_ble_eq_true rfl, Nat.le_of_ble_eq_true rfl⟩ (Nat.le_of_ble_eq_true rfl) dX10_picks_66 (fun v7 M8 =>
 (x_callVi (As := [.int v7]) g mv_X10_answer mi_X10_answer lk_RX10_187 ht (fun b Mh_ hb => kX10_answer t v7 M8 ht _ _ hb) rfl rfl hR ⟨Nat.le_of_ble_eq_true rfl, Nat.le_of_ble_eq_true rfl⟩ (Nat.le_of_ble_eq_true rfl) dX10_picks_69 (fun v9 M10 =>
 (x_iret g hr rfl rfl dX10_picks_72)))))))))))))))))
 (fun _ => (x_aload_n g 1 dX10_picks_44 rfl rfl
 (x_iload g 0 dX10_picks_45 rfl
 (x_callVi (As := [.int v5]) g mv_X10_refuse mi_X10_refuse lk_RX10_137 ht (fun b Mh_ hb => kX10_refuse t v5 M ht _ _ hb) rfl rfl hR ⟨Nat.le_of_ble_eq_true rfl, Nat.le_of_ble_eq_true rfl⟩ (Nat.le_of_ble_eq_true rfl) dX10_picks_47 (fun v11 M12 =>
 (x_iret g hr rfl rfl dX10_picks_50))))))))))))))))
 (fun _ => (x_aload_n g 0 dX10_picks_22 rfl rfl
 (x_iconst g dX10_picks_23 kI_1
 (x_callVi (As := [.int (1 : Int32)]) g mv_X10_refuse mi_X10_refuse lk_RX10_137 ht (fun b Mh_ hb => kX10_refuse t (1 : Int32) M ht _ _ hb) rfl rfl hR ⟨Nat.le_of_ble_eq_true rfl, Nat.le_of_ble_eq_true rfl⟩ (Nat.le_of_ble_eq_true rfl) dX10_picks_24 (fun v13 M14 =>
 (x_iret g hr rfl rfl dX10_picks_27)))))))))))))))))))
def fX10_pickAt (t : Nat) (a1 : Int32) (M : Mem) : Option (Int32 × Mem) :=
  if a1 < 0 then
 bd (fX10_refuse t (6 : Int32) M) fun v1 M2 =>
 some (v1, M2)
 else
 if a1 < (M.1 (t + 71) 1) then
 ixk a1 60 (
 bd (fX10_answer t (M.1 ((t + 71) + 1) a1.toNatClampNeg) M) fun v3 M4 =>
 some (v3, M4))
 else
 bd (fX10_refuse t (6 : Int32) M) fun v5 M6 =>
 some (v5, M6)
set_option maxRecDepth 100000 in
set_option maxHeartbeats 4000000 in
theorem kX10_pickAt (t : Nat) (a1 : Int32) (M : Mem) (ht : isO 10 t) (l : Launch) (G : GT) {b : (Int32 × Mem)} (hE : fX10_pickAt t a1 M = some b) : Ok l G yX10_pickAt cX10_pickAt 2 (some .int) 1 21 [.ref t, .int a1] M ((fun q : Int32 × Mem => (some (Value.int q.1), q.2)) b).1 ((fun q : Int32 × Mem => (some (Value.int q.1), q.2)) b).2 := by
  refine Ok.ofX (pj := (fun q : Int32 × Mem => (some (Value.int q.1), q.2))) (by decide) (Nat.le_of_ble_eq_true rfl) hE (fun J g hr hG hl hR hn => ?_)
  show X J (fun q : Int32 × Mem => (some (Value.int q.1), q.2)) (fX10_pickAt t a1 M) 0 [(0, .ref t), (1, .int a1)] [] M
  unfold fX10_pickAt
  exact (x_iload_n g 1 dX10_pickAt_0 rfl rfl
 (x_if_lt g 15 dX10_pickAt_1 rfl
 (fun _ => (x_aload_n g 0 dX10_pickAt_15 rfl rfl
 (x_bipush g dX10_pickAt_16 kB_6
 (x_callVi (As := [.int (6 : Int32)]) g mv_X10_refuse mi_X10_refuse lk_RX10_137 ht (fun b Mh_ hb => kX10_refuse t (6 : Int32) M ht _ _ hb) rfl rfl hR ⟨Nat.le_of_ble_eq_true rfl, Nat.le_of_ble_eq_true rfl⟩ (Nat.le_of_ble_eq_true rfl) dX10_pickAt_18 (fun v1 M2 =>
 (x_iret g hr rfl rfl dX10_pickAt_21))))))
 (fun _ => (x_iload_n g 1 dX10_pickAt_4 rfl rfl
 (x_aload_n g 0 dX10_pickAt_5 rfl rfl
 (x_getS g 71 fl_RX10_95 rfl ht dX10_pickAt_6
 (x_getI g fl_RX10_403 rfl (so_10_16 ht) dX10_pickAt_9
 (x_icmp_lt g 22 dX10_pickAt_12 rfl
 (fun _ => (x_aload_n g 0 dX10_pickAt_22 rfl rfl
 (x_aload_n g 0 dX10_pickAt_23 rfl rfl
 (x_getS g 71 fl_RX10_95 rfl ht dX10_pickAt_24
 (x_getS g 1 fl_RX10_406 rfl (so_10_16 ht) dX10_pickAt_27
 (x_iload_n g 1 dX10_pickAt_30 rfl rfl
 (x_iald g (so_4_0 (so_10_16 ht)) dX10_pickAt_31
 (x_callVi (As := [.int (M.1 ((t + 71) + 1) a1.toNatClampNeg)]) g mv_X10_answer mi_X10_answer lk_RX10_187 ht (fun b Mh_ hb => kX10_answer t (M.1 ((t + 71) + 1) a1.toNatClampNeg) M ht _ _ hb) rfl rfl hR ⟨Nat.le_of_ble_eq_true rfl, Nat.le_of_ble_eq_true rfl⟩ (Nat.le_of_ble_eq_true rfl) dX10_pickAt_32 (fun v3 M4 =>
 (x_iret g hr rfl rfl dX10_pickAt_35))))))))))
 (fun _ => (x_aload_n g 0 dX10_pickAt_15 rfl rfl
 (x_bipush g dX10_pickAt_16 kB_6
 (x_callVi (As := [.int (6 : Int32)]) g mv_X10_refuse mi_X10_refuse lk_RX10_137 ht (fun b Mh_ hb => kX10_refuse t (6 : Int32) M ht _ _ hb) rfl rfl hR ⟨Nat.le_of_ble_eq_true rfl, Nat.le_of_ble_eq_true rfl⟩ (Nat.le_of_ble_eq_true rfl) dX10_pickAt_18 (fun v5 M6 =>
 (x_iret g hr rfl rfl dX10_pickAt_21))))))))))))))
def lX7_fillGaps_4 (t : Nat) (x1 : Int32) : Nat → Int32 → Int32 → Mem → Option (Int32 × Mem)
  | 0, _, _, _ => none
  | n + 1, x2, x3, M =>
    if x1 ≤ x3 then
 some (x2, M)
 else
 ixk x3 60 (
 jn (fun (v1 : Int32) (M2 : Mem) => lX7_fillGaps_4 t x1 n v1 (x3 + 1) M2) (fun J3 => if (M.2.1 (t + 1) x3.toNatClampNeg) = (-1 : Int64) then
 ixk (x3 - (1 : Int32)) 60 (
 if (M.2.1 (t + 1) (x3 - (1 : Int32)).toNatClampNeg) = (-1 : Int64) then
 J3 x2 M
 else
 ixk (x3 - (1 : Int32)) 60 (
 ixk x3 60 (nm (stL M (t + 1) x3.toNatClampNeg (M.2.1 (t + 1) (x3 - (1 : Int32)).toNatClampNeg)) (fun M4 =>
 J3 (x2 + 1) M4))))
 else
 J3 x2 M))
theorem lX7_fillGaps_4_s (t : Nat) (x1 : Int32) (n : Nat) (x2 : Int32) (x3 : Int32) (M : Mem) : lX7_fillGaps_4 t x1 (n + 1) x2 x3 M =
    if x1 ≤ x3 then
 some (x2, M)
 else
 ixk x3 60 (
 jn (fun (v1 : Int32) (M2 : Mem) => lX7_fillGaps_4 t x1 n v1 (x3 + 1) M2) (fun J3 => if (M.2.1 (t + 1) x3.toNatClampNeg) = (-1 : Int64) then
 ixk (x3 - (1 : Int32)) 60 (
 if (M.2.1 (t + 1) (x3 - (1 : Int32)).toNatClampNeg) = (-1 : Int64) then
 J3 x2 M
 else
 ixk (x3 - (1 : Int32)) 60 (
 ixk x3 60 (nm (stL M (t + 1) x3.toNatClampNeg (M.2.1 (t + 1) (x3 - (1 : Int32)).toNatClampNeg)) (fun M4 =>
 J3 (x2 + 1) M4))))
 else
 J3 x2 M)) := rfl
theorem lX7_fillGaps_4_0 (t : Nat) (x1 : Int32) (x2 : Int32) (x3 : Int32) (M : Mem) : lX7_fillGaps_4 t x1 0 x2 x3 M = none := rfl
set_option maxRecDepth 100000 in
set_option maxHeartbeats 4000000 in
theorem wlX7_fillGaps_4 {J : JT} (g : Gd J cX7_fillGaps RX7) (hr : Rt J (some .int)) (hR : (JR J).frames = 0 ∧ (JR J).locals = 0) (hn : Jn J = 4) (t : Nat) (x1 : Int32) (ht : isO 7 t) : ∀ (n : Nat) (x2 : Int32) (x3 : Int32) (M : Mem), X J (fun q : Int32 × Mem => (some (Value.int q.1), q.2)) (lX7_fillGaps_4 t x1 n x2 x3 M) 4 [(0, .ref t), (1, .int x1), (2, .int x2), (3, .int x3)] [] M := by
  intro n
  induction n with
  | zero =>
    intro x2 x3 M
    exact x_none
  | succ n ih =>
    intro x2 x3 M
    rw [lX7_fillGaps_4_s]
    exact (x_iload_n g 3 dX7_fillGaps_4 rfl rfl
 (x_iload_n g 1 dX7_fillGaps_5 rfl rfl
 (x_icmp_ge g 60 dX7_fillGaps_6 rfl
 (fun _ => (x_iload_n g 2 dX7_fillGaps_60 rfl rfl
 (x_iret g hr rfl rfl dX7_fillGaps_61)))
 (fun _ => (x_aload_n g 0 dX7_fillGaps_9 rfl rfl
 (x_getS g 1 fl_RX7_9 rfl ht dX7_fillGaps_10
 (x_iload_n g 3 dX7_fillGaps_13 rfl rfl
 (x_lald g (so_7_0 ht) dX7_fillGaps_14
 (x_ldc2 g cw_RX7_22 dX7_fillGaps_15
 (x_jn (fun (J3 : Int32 → Mem → Option (Int32 × Mem)) => ∀ (v1 : Int32) (M2 : Mem), X J (fun q : Int32 × Mem => (some (Value.int q.1), q.2)) (J3 v1 M2) 54 [(0, .ref t), (1, .int x1), (2, .int v1), (3, .int x3)] [] M2) (fun v1 M2 => (x_iinc (L' := [(3, .int (x3 + 1)), (0, .ref t), (1, .int x1), (2, .int v1)]) (v := (x3 + 1)) g 3 dX7_fillGaps_54 rfl (by rw [kI_1]) hn (Nat.le_of_ble_eq_true rfl) rfl
 (x_goto g 4 dX7_fillGaps_57 rfl
 (x_sub [1, 2, 3, 0] rfl (ih v1 (x3 + 1) M2))))) (fun J3 hJ3 => (x_l_ne g 54 dX7_fillGaps_18 dX7_fillGaps_19 rfl
 (fun _ => (hJ3 x2 M))
 (fun _ => (x_aload_n g 0 dX7_fillGaps_22 rfl rfl
 (x_getS g 1 fl_RX7_9 rfl ht dX7_fillGaps_23
 (x_iload_n g 3 dX7_fillGaps_26 rfl rfl
 (x_iconst g dX7_fillGaps_27 kI_1
 (x_isub g dX7_fillGaps_28
 (x_lald g (so_7_0 ht) dX7_fillGaps_29
 (x_ldc2 g cw_RX7_22 dX7_fillGaps_30
 (x_l_eq g 54 dX7_fillGaps_33 dX7_fillGaps_34 rfl
 (fun _ => (hJ3 x2 M))
 (fun _ => (x_aload_n g 0 dX7_fillGaps_37 rfl rfl
 (x_getS g 1 fl_RX7_9 rfl ht dX7_fillGaps_38
 (x_iload_n g 3 dX7_fillGaps_41 rfl rfl
 (x_aload_n g 0 dX7_fillGaps_42 rfl rfl
 (x_getS g 1 fl_RX7_9 rfl ht dX7_fillGaps_43
 (x_iload_n g 3 dX7_fillGaps_46 rfl rfl
 (x_iconst g dX7_fillGaps_47 kI_1
 (x_isub g dX7_fillGaps_48
 (x_lald g (so_7_0 ht) dX7_fillGaps_49
 (x_last g (so_7_0 ht) dX7_fillGaps_50 (x_nmM (fun M4 =>
 (x_iinc (L' := [(2, .int (x2 + 1)), (0, .ref t), (1, .int x1), (3, .int x3)]) (v := (x2 + 1)) g 2 dX7_fillGaps_51 rfl (by rw [kI_1]) hn (Nat.le_of_ble_eq_true rfl) rfl
 (x_sub [1, 2, 0, 3] rfl (hJ3 (x2 + 1) M4)))))))))))))))))))))))))))))))))))))
def fX7_fillGaps (φ : Nat) (t : Nat) (a1 : Int32) (M : Mem) : Option (Int32 × Mem) :=
  lX7_fillGaps_4 t a1 φ (0 : Int32) (1 : Int32) M
set_option maxRecDepth 100000 in
set_option maxHeartbeats 4000000 in
theorem kX7_fillGaps (φ : Nat) (t : Nat) (a1 : Int32) (M : Mem) (ht : isO 7 t) (l : Launch) (G : GT) {b : (Int32 × Mem)} (hE : fX7_fillGaps φ t a1 M = some b) : Ok l G yX7_fillGaps cX7_fillGaps 4 (some .int) 0 0 [.ref t, .int a1] M ((fun q : Int32 × Mem => (some (Value.int q.1), q.2)) b).1 ((fun q : Int32 × Mem => (some (Value.int q.1), q.2)) b).2 := by
  refine Ok.ofX (pj := (fun q : Int32 × Mem => (some (Value.int q.1), q.2))) (by decide) (Nat.le_of_ble_eq_true rfl) hE (fun J g hr hG hl hR hn => ?_)
  show X J (fun q : Int32 × Mem => (some (Value.int q.1), q.2)) (fX7_fillGaps φ t a1 M) 0 [(0, .ref t), (1, .int a1)] [] M
  unfold fX7_fillGaps
  exact (x_iconst g dX7_fillGaps_0 kI_0
 (x_istore_n (L' := [(2, .int (0 : Int32)), (0, .ref t), (1, .int a1)]) g dX7_fillGaps_1 rfl hn (Nat.le_of_ble_eq_true rfl) rfl
 (x_iconst g dX7_fillGaps_2 kI_1
 (x_istore_n (L' := [(3, .int (1 : Int32)), (2, .int (0 : Int32)), (0, .ref t), (1, .int a1)]) g dX7_fillGaps_3 rfl hn (Nat.le_of_ble_eq_true rfl) rfl
 (x_sub [2, 3, 1, 0] rfl (wlX7_fillGaps_4 g hr hR hn  t a1 ht φ (0 : Int32) (1 : Int32) M))))))
def fX10_fill (φ : Nat) (t : Nat) (a1 : Int32) (a2 : Int32) (M : Mem) : Option (Int32 × Mem) :=
  (fX10_logStatus φ t a1 a2 (999999 : Int32) M).bind fun v1 =>
 if v1 = 0 then
 ixk a1 4 (
 bd (fX7_fillGaps φ (srf (t + 1) a1.toNatClampNeg) a2 M) fun v3 M4 =>
 bd (fX10_answer t v3 M4) fun v5 M6 =>
 some (v5, M6))
 else
 bd (fX10_refuse t v1 M) fun v7 M8 =>
 some (v7, M8)
set_option maxRecDepth 100000 in
set_option maxHeartbeats 4000000 in
theorem kX10_fill (φ : Nat) (t : Nat) (a1 : Int32) (a2 : Int32) (M : Mem) (ht : isO 10 t) (l : Launch) (G : GT) {b : (Int32 × Mem)} (hE : fX10_fill φ t a1 a2 M = some b) : Ok l G yX10_fill cX10_fill 4 (some .int) 3 65 [.ref t, .int a1, .int a2] M ((fun q : Int32 × Mem => (some (Value.int q.1), q.2)) b).1 ((fun q : Int32 × Mem => (some (Value.int q.1), q.2)) b).2 := by
  refine Ok.ofX (pj := (fun q : Int32 × Mem => (some (Value.int q.1), q.2))) (by decide) (Nat.le_of_ble_eq_true rfl) hE (fun J g hr hG hl hR hn => ?_)
  show X J (fun q : Int32 × Mem => (some (Value.int q.1), q.2)) (fX10_fill φ t a1 a2 M) 0 [(0, .ref t), (1, .int a1), (2, .int a2)] [] M
  unfold fX10_fill
  exact (x_aload_n g 0 dX10_fill_0 rfl rfl
 (x_iload_n g 1 dX10_fill_1 rfl rfl
 (x_iload_n g 2 dX10_fill_2 rfl rfl
 (x_ldcw g cw_RX10_394 dX10_fill_3
 (x_callVip (As := [.int a1, .int a2, .int (999999 : Int32)]) g mv_X10_logStatus mi_X10_logStatus lk_RX10_395 ht (fun b hb => kX10_logStatus φ t a1 a2 (999999 : Int32) M ht _ _ hb) rfl rfl hR ⟨Nat.le_of_ble_eq_true rfl, Nat.le_of_ble_eq_true rfl⟩ (Nat.le_of_ble_eq_true rfl) dX10_fill_6 (fun v1 =>
 (x_istore_n (L' := [(3, .int v1), (0, .ref t), (1, .int a1), (2, .int a2)]) g dX10_fill_9 rfl hn (Nat.le_of_ble_eq_true rfl) rfl
 (x_iload_n g 0 dX10_fill_10 rfl rfl
 (x_if_eq g 20 dX10_fill_11 rfl
 (fun _ => (x_aload_n g 1 dX10_fill_20 rfl rfl
 (x_aload_n g 1 dX10_fill_21 rfl rfl
 (x_getS g 1 fl_RX10_22 rfl ht dX10_fill_22
 (x_iload_n g 2 dX10_fill_25 rfl rfl
 (x_aald g 4 (fun _ => rfl) (so_10_3 ht) dX10_fill_26 (fun hq2 =>
 (x_iload_n g 3 dX10_fill_27 rfl rfl
 (x_callVi (As := [.int a2]) g mv_X7_fillGaps mi_X7_fillGaps lk_RX10_409 (se_10_3 ht hq2) (fun b Mh_ hb => kX7_fillGaps φ (srf (t + 1) a1.toNatClampNeg) a2 M (se_10_3 ht hq2) _ _ hb) rfl rfl hR ⟨Nat.le_of_ble_eq_true rfl, Nat.le_of_ble_eq_true rfl⟩ (Nat.le_of_ble_eq_true rfl) dX10_fill_28 (fun v3 M4 =>
 (x_callVi (As := [.int v3]) g mv_X10_answer mi_X10_answer lk_RX10_187 ht (fun b Mh_ hb => kX10_answer t v3 M4 ht _ _ hb) rfl rfl hR ⟨Nat.le_of_ble_eq_true rfl, Nat.le_of_ble_eq_true rfl⟩ (Nat.le_of_ble_eq_true rfl) dX10_fill_31 (fun v5 M6 =>
 (x_iret g hr rfl rfl dX10_fill_34)))))))))))))
 (fun _ => (x_aload_n g 1 dX10_fill_14 rfl rfl
 (x_iload_n g 0 dX10_fill_15 rfl rfl
 (x_callVi (As := [.int v1]) g mv_X10_refuse mi_X10_refuse lk_RX10_137 ht (fun b Mh_ hb => kX10_refuse t v1 M ht _ _ hb) rfl rfl hR ⟨Nat.le_of_ble_eq_true rfl, Nat.le_of_ble_eq_true rfl⟩ (Nat.le_of_ble_eq_true rfl) dX10_fill_16 (fun v7 M8 =>
 (x_iret g hr rfl rfl dX10_fill_19)))))))))))))))
def lX7_rowsOfAlike_12 (t : Nat) (x1 : Int32) (M : Mem) : Nat → Int32 → Int32 → Option Int32
  | 0, _, _ => none
  | n + 1, x2, x3 =>
    if x1 ≤ x3 then
 some x2
 else
 ixk x3 60 (
 ixk (x3 - (1 : Int32)) 60 (
 jn (fun (v3 : Int32) => lX7_rowsOfAlike_12 t x1 M n v3 (x3 + 1)) (fun J4 => if (M.2.1 (t + 1) x3.toNatClampNeg) = (M.2.1 (t + 1) (x3 - (1 : Int32)).toNatClampNeg) then
 J4 x2
 else
 J4 (x2 + 1))))
theorem lX7_rowsOfAlike_12_s (t : Nat) (x1 : Int32) (M : Mem) (n : Nat) (x2 : Int32) (x3 : Int32) : lX7_rowsOfAlike_12 t x1 M (n + 1) x2 x3 =
    if x1 ≤ x3 then
 some x2
 else
 ixk x3 60 (
 ixk (x3 - (1 : Int32)) 60 (
 jn (fun (v3 : Int32) => lX7_rowsOfAlike_12 t x1 M n v3 (x3 + 1)) (fun J4 => if (M.2.1 (t + 1) x3.toNatClampNeg) = (M.2.1 (t + 1) (x3 - (1 : Int32)).toNatClampNeg) then
 J4 x2
 else
 J4 (x2 + 1)))) := rfl
theorem lX7_rowsOfAlike_12_0 (t : Nat) (x1 : Int32) (M : Mem) (x2 : Int32) (x3 : Int32) : lX7_rowsOfAlike_12 t x1 M 0 x2 x3 = none := rfl
set_option maxRecDepth 100000 in
set_option maxHeartbeats 4000000 in
theorem wlX7_rowsOfAlike_12 {J : JT} (g : Gd J cX7_rowsOfAlike RX7) (hr : Rt J (some .int)) (hR : (JR J).frames = 0 ∧ (JR J).locals = 0) (hn : Jn J = 4) (t : Nat) (x1 : Int32) (M : Mem) (ht : isO 7 t) : ∀ (n : Nat) (x2 : Int32) (x3 : Int32), X J (fun b : Int32 => (some (Value.int b), M)) (lX7_rowsOfAlike_12 t x1 M n x2 x3) 12 [(0, .ref t), (1, .int x1), (2, .int x2), (3, .int x3)] [] M := by
  intro n
  induction n with
  | zero =>
    intro x2 x3
    exact x_none
  | succ n ih =>
    intro x2 x3
    rw [lX7_rowsOfAlike_12_s]
    exact (x_iload_n g 3 dX7_rowsOfAlike_12 rfl rfl
 (x_iload_n g 1 dX7_rowsOfAlike_13 rfl rfl
 (x_icmp_ge g 44 dX7_rowsOfAlike_14 rfl
 (fun _ => (x_iload_n g 2 dX7_rowsOfAlike_44 rfl rfl
 (x_iret g hr rfl rfl dX7_rowsOfAlike_45)))
 (fun _ => (x_aload_n g 0 dX7_rowsOfAlike_17 rfl rfl
 (x_getS g 1 fl_RX7_9 rfl ht dX7_rowsOfAlike_18
 (x_iload_n g 3 dX7_rowsOfAlike_21 rfl rfl
 (x_lald g (so_7_0 ht) dX7_rowsOfAlike_22
 (x_aload_n g 0 dX7_rowsOfAlike_23 rfl rfl
 (x_getS g 1 fl_RX7_9 rfl ht dX7_rowsOfAlike_24
 (x_iload_n g 3 dX7_rowsOfAlike_27 rfl rfl
 (x_iconst g dX7_rowsOfAlike_28 kI_1
 (x_isub g dX7_rowsOfAlike_29
 (x_lald g (so_7_0 ht) dX7_rowsOfAlike_30
 (x_jn (fun (J4 : Int32 → Option Int32) => ∀ (v3 : Int32), X J (fun b : Int32 => (some (Value.int b), M)) (J4 v3) 38 [(0, .ref t), (1, .int x1), (2, .int v3), (3, .int x3)] [] M) (fun v3 => (x_iinc (L' := [(3, .int (x3 + 1)), (0, .ref t), (1, .int x1), (2, .int v3)]) (v := (x3 + 1)) g 3 dX7_rowsOfAlike_38 rfl (by rw [kI_1]) hn (Nat.le_of_ble_eq_true rfl) rfl
 (x_goto g 12 dX7_rowsOfAlike_41 rfl
 (x_sub [1, 2, 3, 0] rfl (ih v3 (x3 + 1)))))) (fun J4 hJ4 => (x_l_eq g 38 dX7_rowsOfAlike_31 dX7_rowsOfAlike_32 rfl
 (fun _ => (hJ4 x2))
 (fun _ => (x_iinc (L' := [(2, .int (x2 + 1)), (0, .ref t), (1, .int x1), (3, .int x3)]) (v := (x2 + 1)) g 2 dX7_rowsOfAlike_35 rfl (by rw [kI_1]) hn (Nat.le_of_ble_eq_true rfl) rfl
 (x_sub [1, 2, 0, 3] rfl (hJ4 (x2 + 1))))))))))))))))))))))
def fX7_rowsOfAlike (φ : Nat) (t : Nat) (a1 : Int32) (M : Mem) : Option Int32 :=
  jn (fun (v1 : Int32) => lX7_rowsOfAlike_12 t a1 M φ v1 (1 : Int32)) (fun J2 => if a1 ≤ 0 then
 J2 (0 : Int32)
 else
 J2 (1 : Int32))
set_option maxRecDepth 100000 in
set_option maxHeartbeats 4000000 in
theorem kX7_rowsOfAlike (φ : Nat) (t : Nat) (a1 : Int32) (M : Mem) (ht : isO 7 t) (l : Launch) (G : GT) {b : Int32} (hE : fX7_rowsOfAlike φ t a1 M = some b) : Ok l G yX7_rowsOfAlike cX7_rowsOfAlike 4 (some .int) 0 0 [.ref t, .int a1] M ((fun b : Int32 => (some (Value.int b), M)) b).1 ((fun b : Int32 => (some (Value.int b), M)) b).2 := by
  refine Ok.ofX (pj := (fun b : Int32 => (some (Value.int b), M))) (by decide) (Nat.le_of_ble_eq_true rfl) hE (fun J g hr hG hl hR hn => ?_)
  show X J (fun b : Int32 => (some (Value.int b), M)) (fX7_rowsOfAlike φ t a1 M) 0 [(0, .ref t), (1, .int a1)] [] M
  unfold fX7_rowsOfAlike
  exact (x_iload_n g 1 dX7_rowsOfAlike_0 rfl rfl
 (x_jn (fun (J2 : Int32 → Option Int32) => ∀ (v1 : Int32), X J (fun b : Int32 => (some (Value.int b), M)) (J2 v1) 9 [(0, .ref t), (1, .int a1)] [.int v1] M) (fun v1 => (x_istore_n (L' := [(2, .int v1), (0, .ref t), (1, .int a1)]) g dX7_rowsOfAlike_9 rfl hn (Nat.le_of_ble_eq_true rfl) rfl
 (x_iconst g dX7_rowsOfAlike_10 kI_1
 (x_istore_n (L' := [(3, .int (1 : Int32)), (2, .int v1), (0, .ref t), (1, .int a1)]) g dX7_rowsOfAlike_11 rfl hn (Nat.le_of_ble_eq_true rfl) rfl
 (x_sub [2, 3, 1, 0] rfl (wlX7_rowsOfAlike_12 g hr hR hn  t a1 M ht φ v1 (1 : Int32))))))) (fun J2 hJ2 => (x_if_le g 8 dX7_rowsOfAlike_1 rfl
 (fun _ => (x_iconst g dX7_rowsOfAlike_8 kI_0
 (hJ2 (0 : Int32))))
 (fun _ => (x_iconst g dX7_rowsOfAlike_4 kI_1
 (x_goto g 9 dX7_rowsOfAlike_5 rfl
 (hJ2 (1 : Int32)))))))))
def fX10_runs (φ : Nat) (t : Nat) (a1 : Int32) (a2 : Int32) (M : Mem) : Option (Int32 × Mem) :=
  (fX10_logStatus φ t a1 a2 (999999 : Int32) M).bind fun v1 =>
 if v1 = 0 then
 ixk a1 4 (
 (fX7_rowsOfAlike φ (srf (t + 1) a1.toNatClampNeg) a2 M).bind fun v3 =>
 bd (fX10_answer t v3 M) fun v4 M5 =>
 some (v4, M5))
 else
 bd (fX10_refuse t v1 M) fun v6 M7 =>
 some (v6, M7)
set_option maxRecDepth 100000 in
set_option maxHeartbeats 4000000 in
theorem kX10_runs (φ : Nat) (t : Nat) (a1 : Int32) (a2 : Int32) (M : Mem) (ht : isO 10 t) (l : Launch) (G : GT) {b : (Int32 × Mem)} (hE : fX10_runs φ t a1 a2 M = some b) : Ok l G yX10_runs cX10_runs 4 (some .int) 3 65 [.ref t, .int a1, .int a2] M ((fun q : Int32 × Mem => (some (Value.int q.1), q.2)) b).1 ((fun q : Int32 × Mem => (some (Value.int q.1), q.2)) b).2 := by
  refine Ok.ofX (pj := (fun q : Int32 × Mem => (some (Value.int q.1), q.2))) (by decide) (Nat.le_of_ble_eq_true rfl) hE (fun J g hr hG hl hR hn => ?_)
  show X J (fun q : Int32 × Mem => (some (Value.int q.1), q.2)) (fX10_runs φ t a1 a2 M) 0 [(0, .ref t), (1, .int a1), (2, .int a2)] [] M
  unfold fX10_runs
  exact (x_aload_n g 0 dX10_runs_0 rfl rfl
 (x_iload_n g 1 dX10_runs_1 rfl rfl
 (x_iload_n g 2 dX10_runs_2 rfl rfl
 (x_ldcw g cw_RX10_394 dX10_runs_3
 (x_callVip (As := [.int a1, .int a2, .int (999999 : Int32)]) g mv_X10_logStatus mi_X10_logStatus lk_RX10_395 ht (fun b hb => kX10_logStatus φ t a1 a2 (999999 : Int32) M ht _ _ hb) rfl rfl hR ⟨Nat.le_of_ble_eq_true rfl, Nat.le_of_ble_eq_true rfl⟩ (Nat.le_of_ble_eq_true rfl) dX10_runs_6 (fun v1 =>
 (x_istore_n (L' := [(3, .int v1), (0, .ref t), (1, .int a1), (2, .int a2)]) g dX10_runs_9 rfl hn (Nat.le_of_ble_eq_true rfl) rfl
 (x_iload_n g 0 dX10_runs_10 rfl rfl
 (x_if_eq g 20 dX10_runs_11 rfl
 (fun _ => (x_aload_n g 1 dX10_runs_20 rfl rfl
 (x_aload_n g 1 dX10_runs_21 rfl rfl
 (x_getS g 1 fl_RX10_22 rfl ht dX10_runs_22
 (x_iload_n g 2 dX10_runs_25 rfl rfl
 (x_aald g 4 (fun _ => rfl) (so_10_3 ht) dX10_runs_26 (fun hq2 =>
 (x_iload_n g 3 dX10_runs_27 rfl rfl
 (x_callVip (As := [.int a2]) g mv_X7_rowsOfAlike mi_X7_rowsOfAlike lk_RX10_412 (se_10_3 ht hq2) (fun b hb => kX7_rowsOfAlike φ (srf (t + 1) a1.toNatClampNeg) a2 M (se_10_3 ht hq2) _ _ hb) rfl rfl hR ⟨Nat.le_of_ble_eq_true rfl, Nat.le_of_ble_eq_true rfl⟩ (Nat.le_of_ble_eq_true rfl) dX10_runs_28 (fun v3 =>
 (x_callVi (As := [.int v3]) g mv_X10_answer mi_X10_answer lk_RX10_187 ht (fun b Mh_ hb => kX10_answer t v3 M ht _ _ hb) rfl rfl hR ⟨Nat.le_of_ble_eq_true rfl, Nat.le_of_ble_eq_true rfl⟩ (Nat.le_of_ble_eq_true rfl) dX10_runs_31 (fun v4 M5 =>
 (x_iret g hr rfl rfl dX10_runs_34)))))))))))))
 (fun _ => (x_aload_n g 1 dX10_runs_14 rfl rfl
 (x_iload_n g 0 dX10_runs_15 rfl rfl
 (x_callVi (As := [.int v1]) g mv_X10_refuse mi_X10_refuse lk_RX10_137 ht (fun b Mh_ hb => kX10_refuse t v1 M ht _ _ hb) rfl rfl hR ⟨Nat.le_of_ble_eq_true rfl, Nat.le_of_ble_eq_true rfl⟩ (Nat.le_of_ble_eq_true rfl) dX10_runs_16 (fun v6 M7 =>
 (x_iret g hr rfl rfl dX10_runs_19)))))))))))))))
def lX4_alike_6 (t : Nat) (xr1 : Nat) (x2 : Int32) (x3 : Int32) (M : Mem) : Nat → Int32 → Int32 → Option Int32
  | 0, _, _ => none
  | n + 1, x4, x5 =>
    if x2 ≤ x5 then
 some x4
 else
 nm (x5 + x3) (fun v1 =>
 jn (fun (v2 : Int32) => lX4_alike_6 t xr1 x2 x3 M n v2 (x5 + 1)) (fun J3 => if v1 < 0 then
 J3 x4
 else
 if (80 : Int32) ≤ v1 then
 J3 x4
 else
 ixk x5 60 (
 ixk v1 80 (
 if (M.2.1 (xr1 + 1) x5.toNatClampNeg) = ((M.1 (t + 2) v1.toNatClampNeg).toInt64) then
 J3 (x4 + 1)
 else
 J3 x4))))
theorem lX4_alike_6_s (t : Nat) (xr1 : Nat) (x2 : Int32) (x3 : Int32) (M : Mem) (n : Nat) (x4 : Int32) (x5 : Int32) : lX4_alike_6 t xr1 x2 x3 M (n + 1) x4 x5 =
    if x2 ≤ x5 then
 some x4
 else
 nm (x5 + x3) (fun v1 =>
 jn (fun (v2 : Int32) => lX4_alike_6 t xr1 x2 x3 M n v2 (x5 + 1)) (fun J3 => if v1 < 0 then
 J3 x4
 else
 if (80 : Int32) ≤ v1 then
 J3 x4
 else
 ixk x5 60 (
 ixk v1 80 (
 if (M.2.1 (xr1 + 1) x5.toNatClampNeg) = ((M.1 (t + 2) v1.toNatClampNeg).toInt64) then
 J3 (x4 + 1)
 else
 J3 x4)))) := rfl
theorem lX4_alike_6_0 (t : Nat) (xr1 : Nat) (x2 : Int32) (x3 : Int32) (M : Mem) (x4 : Int32) (x5 : Int32) : lX4_alike_6 t xr1 x2 x3 M 0 x4 x5 = none := rfl
set_option maxRecDepth 100000 in
set_option maxHeartbeats 4000000 in
theorem wlX4_alike_6 {J : JT} (g : Gd J cX4_alike RX4) (hr : Rt J (some .int)) (hR : (JR J).frames = 0 ∧ (JR J).locals = 0) (hn : Jn J = 7) (t : Nat) (xr1 : Nat) (x2 : Int32) (x3 : Int32) (M : Mem) (ht : isO 4 t) (hxr1 : isO 7 xr1) : ∀ (n : Nat) (x4 : Int32) (x5 : Int32), X J (fun b : Int32 => (some (Value.int b), M)) (lX4_alike_6 t xr1 x2 x3 M n x4 x5) 6 [(0, .ref t), (1, .ref xr1), (2, .int x2), (3, .int x3), (4, .int x4), (5, .int x5)] [] M := by
  intro n
  induction n with
  | zero =>
    intro x4 x5
    exact x_none
  | succ n ih =>
    intro x4 x5
    rw [lX4_alike_6_s]
    exact (x_iload g 5 dX4_alike_6 rfl
 (x_iload_n g 2 dX4_alike_8 rfl rfl
 (x_icmp_ge g 58 dX4_alike_9 rfl
 (fun _ => (x_iload g 4 dX4_alike_58 rfl
 (x_iret g hr rfl rfl dX4_alike_60)))
 (fun _ => (x_iload g 5 dX4_alike_12 rfl
 (x_iload_n g 3 dX4_alike_14 rfl rfl
 (x_iadd g dX4_alike_15
 (x_nmI (fun v1 => (x_istore (L' := [(6, .int v1), (0, .ref t), (1, .ref xr1), (2, .int x2), (3, .int x3), (4, .int x4), (5, .int x5)]) g dX4_alike_16 hn (Nat.le_of_ble_eq_true rfl) rfl
 (x_iload g 0 dX4_alike_18 rfl
 (x_jn (fun (J3 : Int32 → Option Int32) => ∀ (v2 : Int32), X J (fun b : Int32 => (some (Value.int b), M)) (J3 v2) 52 [(0, .ref t), (1, .ref xr1), (2, .int x2), (3, .int x3), (4, .int v2), (5, .int x5)] [] M) (fun v2 => (x_iinc (L' := [(5, .int (x5 + 1)), (0, .ref t), (1, .ref xr1), (2, .int x2), (3, .int x3), (4, .int v2)]) (v := (x5 + 1)) g 5 dX4_alike_52 rfl (by rw [kI_1]) hn (Nat.le_of_ble_eq_true rfl) rfl
 (x_goto g 6 dX4_alike_55 rfl
 (x_sub [1, 2, 3, 4, 5, 0] rfl (ih v2 (x5 + 1)))))) (fun J3 hJ3 => (x_if_lt g 52 dX4_alike_20 rfl
 (fun _ => (x_sub [1, 2, 3, 4, 5, 6] rfl (hJ3 x4)))
 (fun _ => (x_iload g 0 dX4_alike_23 rfl
 (x_bipush g dX4_alike_25 kB_80
 (x_icmp_ge g 52 dX4_alike_27 rfl
 (fun _ => (x_sub [1, 2, 3, 4, 5, 6] rfl (hJ3 x4)))
 (fun _ => (x_aload_n g 2 dX4_alike_30 rfl rfl
 (x_getS g 1 fl_RX4_26 rfl hxr1 dX4_alike_31
 (x_iload g 6 dX4_alike_34 rfl
 (x_lald g (so_7_0 hxr1) dX4_alike_36
 (x_aload_n g 1 dX4_alike_37 rfl rfl
 (x_getS g 2 fl_RX4_19 rfl ht dX4_alike_38
 (x_iload g 0 dX4_alike_41 rfl
 (x_iald g (so_4_2 ht) dX4_alike_43
 (x_i2l g dX4_alike_44
 (x_l_ne g 52 dX4_alike_45 dX4_alike_46 rfl
 (fun _ => (x_sub [1, 2, 3, 4, 5, 6] rfl (hJ3 x4)))
 (fun _ => (x_iinc (L' := [(4, .int (x4 + 1)), (6, .int v1), (0, .ref t), (1, .ref xr1), (2, .int x2), (3, .int x3), (5, .int x5)]) (v := (x4 + 1)) g 5 dX4_alike_49 rfl (by rw [kI_1]) hn (Nat.le_of_ble_eq_true rfl) rfl
 (x_sub [2, 3, 4, 5, 0, 6] rfl (hJ3 (x4 + 1))))))))))))))))))))))))))))))))))
def fX4_alike (φ : Nat) (t : Nat) (a1 : Nat) (a2 : Int32) (a3 : Int32) (M : Mem) : Option Int32 :=
  lX4_alike_6 t a1 a2 a3 M φ (0 : Int32) (0 : Int32)
set_option maxRecDepth 100000 in
set_option maxHeartbeats 4000000 in
theorem kX4_alike (φ : Nat) (t : Nat) (a1 : Nat) (a2 : Int32) (a3 : Int32) (M : Mem) (ht : isO 4 t) (ha1 : isO 7 a1) (l : Launch) (G : GT) {b : Int32} (hE : fX4_alike φ t a1 a2 a3 M = some b) : Ok l G yX4_alike cX4_alike 7 (some .int) 0 0 [.ref t, .ref a1, .int a2, .int a3] M ((fun b : Int32 => (some (Value.int b), M)) b).1 ((fun b : Int32 => (some (Value.int b), M)) b).2 := by
  refine Ok.ofX (pj := (fun b : Int32 => (some (Value.int b), M))) (by decide) (Nat.le_of_ble_eq_true rfl) hE (fun J g hr hG hl hR hn => ?_)
  show X J (fun b : Int32 => (some (Value.int b), M)) (fX4_alike φ t a1 a2 a3 M) 0 [(0, .ref t), (1, .ref a1), (2, .int a2), (3, .int a3)] [] M
  unfold fX4_alike
  exact (x_iconst g dX4_alike_0 kI_0
 (x_istore (L' := [(4, .int (0 : Int32)), (0, .ref t), (1, .ref a1), (2, .int a2), (3, .int a3)]) g dX4_alike_1 hn (Nat.le_of_ble_eq_true rfl) rfl
 (x_iconst g dX4_alike_3 kI_0
 (x_istore (L' := [(5, .int (0 : Int32)), (4, .int (0 : Int32)), (0, .ref t), (1, .ref a1), (2, .int a2), (3, .int a3)]) g dX4_alike_4 hn (Nat.le_of_ble_eq_true rfl) rfl
 (x_sub [2, 3, 4, 5, 1, 0] rfl (wlX4_alike_6 g hr hR hn  t a1 a2 a3 M ht ha1 φ (0 : Int32) (0 : Int32)))))))
def fX10_agrees (φ : Nat) (t : Nat) (a1 : Int32) (a2 : Int32) (a3 : Int32) (M : Mem) : Option (Int32 × Mem) :=
  (ldr 2 (M.2.2 t 7)).bind fun vr1 =>
 (fX2_isHole vr1 a3 M).bind fun v2 =>
 if v2 = 0 then
 bd (fX10_refuse t (1 : Int32) M) fun v14 M15 =>
 some (v14, M15)
 else
 (ldr 2 (M.2.2 t 7)).bind fun vr3 =>
 (fX10_logStatus φ t a1 a2 ((M.1 vr3 0) - (1 : Int32)) M).bind fun v4 =>
 if v4 = 0 then
 (ldr 2 (M.2.2 t 7)).bind fun vr5 =>
 bd (fX4_unfold φ (t + 71) vr5 a3 M) fun vu6 M7 =>
 ixk a1 4 (
 (fX4_alike φ (t + 71) (srf (t + 1) a1.toNatClampNeg) a2 (0 : Int32) M7).bind fun v9 =>
 bd (fX10_answer t v9 M7) fun v10 M11 =>
 some (v10, M11))
 else
 bd (fX10_refuse t v4 M) fun v12 M13 =>
 some (v12, M13)
set_option maxRecDepth 100000 in
set_option maxHeartbeats 4000000 in
theorem kX10_agrees (φ : Nat) (t : Nat) (a1 : Int32) (a2 : Int32) (a3 : Int32) (M : Mem) (ht : isO 10 t) (l : Launch) (G : GT) {b : (Int32 × Mem)} (hE : fX10_agrees φ t a1 a2 a3 M = some b) : Ok l G yX10_agrees cX10_agrees 5 (some .int) 3 65 [.ref t, .int a1, .int a2, .int a3] M ((fun q : Int32 × Mem => (some (Value.int q.1), q.2)) b).1 ((fun q : Int32 × Mem => (some (Value.int q.1), q.2)) b).2 := by
  refine Ok.ofX (pj := (fun q : Int32 × Mem => (some (Value.int q.1), q.2))) (by decide) (Nat.le_of_ble_eq_true rfl) hE (fun J g hr hG hl hR hn => ?_)
  show X J (fun q : Int32 × Mem => (some (Value.int q.1), q.2)) (fX10_agrees φ t a1 a2 a3 M) 0 [(0, .ref t), (1, .int a1), (2, .int a2), (3, .int a3)] [] M
  unfold fX10_agrees
  exact (x_aload_n g 0 dX10_agrees_0 rfl rfl
 (x_getD g fl_RX10_50 rfl ht dX10_agrees_1 (fun vr1 hvr1 =>
 (x_iload_n g 3 dX10_agrees_4 rfl rfl
 (x_callVip (As := [.int a3]) g mv_X2_isHole mi_X2_isHole lk_RX10_225 hvr1 (fun b hb => kX2_isHole vr1 a3 M hvr1 _ _ hb) rfl rfl hR ⟨Nat.le_of_ble_eq_true rfl, Nat.le_of_ble_eq_true rfl⟩ (Nat.le_of_ble_eq_true rfl) dX10_agrees_5 (fun v2 =>
 (x_if_ne g 17 dX10_agrees_8 rfl
 (fun _ => (x_aload_n g 0 dX10_agrees_17 rfl rfl
 (x_iload_n g 1 dX10_agrees_18 rfl rfl
 (x_iload_n g 2 dX10_agrees_19 rfl rfl
 (x_aload_n g 0 dX10_agrees_20 rfl rfl
 (x_getD g fl_RX10_50 rfl ht dX10_agrees_21 (fun vr3 hvr3 =>
 (x_getI g fl_RX10_206 rfl hvr3 dX10_agrees_24
 (x_iconst g dX10_agrees_27 kI_1
 (x_isub g dX10_agrees_28
 (x_callVip (As := [.int a1, .int a2, .int ((M.1 vr3 0) - (1 : Int32))]) g mv_X10_logStatus mi_X10_logStatus lk_RX10_395 ht (fun b hb => kX10_logStatus φ t a1 a2 ((M.1 vr3 0) - (1 : Int32)) M ht _ _ hb) rfl rfl hR ⟨Nat.le_of_ble_eq_true rfl, Nat.le_of_ble_eq_true rfl⟩ (Nat.le_of_ble_eq_true rfl) dX10_agrees_29 (fun v4 =>
 (x_istore (L' := [(4, .int v4), (0, .ref t), (1, .int a1), (2, .int a2), (3, .int a3)]) g dX10_agrees_32 hn (Nat.le_of_ble_eq_true rfl) rfl
 (x_iload g 0 dX10_agrees_34 rfl
 (x_if_eq g 46 dX10_agrees_36 rfl
 (fun _ => (x_aload_n g 1 dX10_agrees_46 rfl rfl
 (x_getS g 71 fl_RX10_95 rfl ht dX10_agrees_47
 (x_aload_n g 1 dX10_agrees_50 rfl rfl
 (x_getD g fl_RX10_50 rfl ht dX10_agrees_51 (fun vr5 hvr5 =>
 (x_iload_n g 4 dX10_agrees_54 rfl rfl
 (x_callVv (As := [.ref vr5, .int a3]) g mv_X4_unfold mi_X4_unfold lk_RX10_415 (so_10_16 ht) (fun b Mh_ hb => kX4_unfold φ (t + 71) vr5 a3 M (so_10_16 ht) hvr5 _ _ hb) rfl rfl hR ⟨Nat.le_of_ble_eq_true rfl, Nat.le_of_ble_eq_true rfl⟩ (Nat.le_of_ble_eq_true rfl) dX10_agrees_55 (fun vu6 M7 =>
 (x_aload_n g 1 dX10_agrees_58 rfl rfl
 (x_aload_n g 1 dX10_agrees_59 rfl rfl
 (x_getS g 71 fl_RX10_95 rfl ht dX10_agrees_60
 (x_aload_n g 1 dX10_agrees_63 rfl rfl
 (x_getS g 1 fl_RX10_22 rfl ht dX10_agrees_64
 (x_iload_n g 2 dX10_agrees_67 rfl rfl
 (x_aald g 4 (fun _ => rfl) (so_10_3 ht) dX10_agrees_68 (fun hq8 =>
 (x_iload_n g 3 dX10_agrees_69 rfl rfl
 (x_iconst g dX10_agrees_70 kI_0
 (x_callVip (As := [.ref (srf (t + 1) a1.toNatClampNeg), .int a2, .int (0 : Int32)]) g mv_X4_alike mi_X4_alike lk_RX10_419 (so_10_16 ht) (fun b hb => kX4_alike φ (t + 71) (srf (t + 1) a1.toNatClampNeg) a2 (0 : Int32) M7 (so_10_16 ht) (se_10_3 ht hq8) _ _ hb) rfl rfl hR ⟨Nat.le_of_ble_eq_true rfl, Nat.le_of_ble_eq_true rfl⟩ (Nat.le_of_ble_eq_true rfl) dX10_agrees_71 (fun v9 =>
 (x_callVi (As := [.int v9]) g mv_X10_answer mi_X10_answer lk_RX10_187 ht (fun b Mh_ hb => kX10_answer t v9 M7 ht _ _ hb) rfl rfl hR ⟨Nat.le_of_ble_eq_true rfl, Nat.le_of_ble_eq_true rfl⟩ (Nat.le_of_ble_eq_true rfl) dX10_agrees_74 (fun v10 M11 =>
 (x_iret g hr rfl rfl dX10_agrees_77))))))))))))))))))))))))
 (fun _ => (x_aload_n g 1 dX10_agrees_39 rfl rfl
 (x_iload g 0 dX10_agrees_40 rfl
 (x_callVi (As := [.int v4]) g mv_X10_refuse mi_X10_refuse lk_RX10_137 ht (fun b Mh_ hb => kX10_refuse t v4 M ht _ _ hb) rfl rfl hR ⟨Nat.le_of_ble_eq_true rfl, Nat.le_of_ble_eq_true rfl⟩ (Nat.le_of_ble_eq_true rfl) dX10_agrees_42 (fun v12 M13 =>
 (x_iret g hr rfl rfl dX10_agrees_45)))))))))))))))))))))
 (fun _ => (x_aload_n g 0 dX10_agrees_11 rfl rfl
 (x_iconst g dX10_agrees_12 kI_1
 (x_callVi (As := [.int (1 : Int32)]) g mv_X10_refuse mi_X10_refuse lk_RX10_137 ht (fun b Mh_ hb => kX10_refuse t (1 : Int32) M ht _ _ hb) rfl rfl hR ⟨Nat.le_of_ble_eq_true rfl, Nat.le_of_ble_eq_true rfl⟩ (Nat.le_of_ble_eq_true rfl) dX10_agrees_13 (fun v14 M15 =>
 (x_iret g hr rfl rfl dX10_agrees_16)))))))))))))
def lX4_bestShift_14 (φ : Nat) (t : Nat) (xr1 : Nat) (x2 : Int32) (M : Mem) : Nat → Int32 → Int32 → Int32 → Option Int32
  | 0, _, _, _ => none
  | n + 1, x3, x4, x5 =>
    if (20 : Int32) < x5 then
 some x3
 else
 (fX4_alike φ t xr1 x2 (-x5) M).bind fun v2 =>
 jn (fun (v3 : Int32) (v4 : Int32) => (fX4_alike φ t xr1 x2 x5 M).bind fun v6 =>
 jn (fun (v7 : Int32) (v8 : Int32) => lX4_bestShift_14 φ t xr1 x2 M n v7 v8 (x5 + 1)) (fun J9 => if v6 ≤ v4 then
 J9 v3 v4
 else
 J9 x5 v6)) (fun J5 => if v2 ≤ x4 then
 J5 x3 x4
 else
 nm (-x5) (fun v10 =>
 J5 v10 v2))
theorem lX4_bestShift_14_s (φ : Nat) (t : Nat) (xr1 : Nat) (x2 : Int32) (M : Mem) (n : Nat) (x3 : Int32) (x4 : Int32) (x5 : Int32) : lX4_bestShift_14 φ t xr1 x2 M (n + 1) x3 x4 x5 =
    if (20 : Int32) < x5 then
 some x3
 else
 (fX4_alike φ t xr1 x2 (-x5) M).bind fun v2 =>
 jn (fun (v3 : Int32) (v4 : Int32) => (fX4_alike φ t xr1 x2 x5 M).bind fun v6 =>
 jn (fun (v7 : Int32) (v8 : Int32) => lX4_bestShift_14 φ t xr1 x2 M n v7 v8 (x5 + 1)) (fun J9 => if v6 ≤ v4 then
 J9 v3 v4
 else
 J9 x5 v6)) (fun J5 => if v2 ≤ x4 then
 J5 x3 x4
 else
 nm (-x5) (fun v10 =>
 J5 v10 v2)) := rfl
theorem lX4_bestShift_14_0 (φ : Nat) (t : Nat) (xr1 : Nat) (x2 : Int32) (M : Mem) (x3 : Int32) (x4 : Int32) (x5 : Int32) : lX4_bestShift_14 φ t xr1 x2 M 0 x3 x4 x5 = none := rfl
set_option maxRecDepth 100000 in
set_option maxHeartbeats 4000000 in
theorem wlX4_bestShift_14 {J : JT} (g : Gd J cX4_bestShift RX4) (hr : Rt J (some .int)) (hR : (JR J).frames = 1 ∧ (JR J).locals = 26) (hn : Jn J = 8) (φ : Nat) (t : Nat) (xr1 : Nat) (x2 : Int32) (M : Mem) (ht : isO 4 t) (hxr1 : isO 7 xr1) : ∀ (n : Nat) (x3 : Int32) (x4 : Int32) (x5 : Int32), X J (fun b : Int32 => (some (Value.int b), M)) (lX4_bestShift_14 φ t xr1 x2 M n x3 x4 x5) 14 [(0, .ref t), (1, .ref xr1), (2, .int x2), (3, .int x3), (4, .int x4), (5, .int x5)] [] M := by
  intro n
  induction n with
  | zero =>
    intro x3 x4 x5
    exact x_none
  | succ n ih =>
    intro x3 x4 x5
    rw [lX4_bestShift_14_s]
    exact (x_iload g 5 dX4_bestShift_14 rfl
 (x_bipush g dX4_bestShift_16 kB_20
 (x_icmp_gt g 77 dX4_bestShift_18 rfl
 (fun _ => (x_iload_n g 3 dX4_bestShift_77 rfl rfl
 (x_iret g hr rfl rfl dX4_bestShift_78)))
 (fun _ => (x_aload_n g 0 dX4_bestShift_21 rfl rfl
 (x_aload_n g 1 dX4_bestShift_22 rfl rfl
 (x_iload_n g 2 dX4_bestShift_23 rfl rfl
 (x_iload g 5 dX4_bestShift_24 rfl
 (x_ineg g dX4_bestShift_26
 (x_callVip (As := [.ref xr1, .int x2, .int (-x5)]) g mv_X4_alike mi_X4_alike lk_RX4_60 ht (fun b hb => kX4_alike φ t xr1 x2 (-x5) M ht hxr1 _ _ hb) rfl rfl hR ⟨Nat.le_of_ble_eq_true rfl, Nat.le_of_ble_eq_true rfl⟩ (Nat.le_of_ble_eq_true rfl) dX4_bestShift_27 (fun v2 =>
 (x_istore (L' := [(6, .int v2), (0, .ref t), (1, .ref xr1), (2, .int x2), (3, .int x3), (4, .int x4), (5, .int x5)]) g dX4_bestShift_30 hn (Nat.le_of_ble_eq_true rfl) rfl
 (x_iload g 0 dX4_bestShift_32 rfl
 (x_iload g 5 dX4_bestShift_34 rfl
 (x_jn (fun (J5 : Int32 → Int32 → Option Int32) => ∀ (v3 : Int32) (v4 : Int32), X J (fun b : Int32 => (some (Value.int b), M)) (J5 v3 v4) 47 [(0, .ref t), (1, .ref xr1), (2, .int x2), (3, .int v3), (4, .int v4), (5, .int x5)] [] M) (fun v3 v4 => (x_aload_n g 0 dX4_bestShift_47 rfl rfl
 (x_aload_n g 1 dX4_bestShift_48 rfl rfl
 (x_iload_n g 2 dX4_bestShift_49 rfl rfl
 (x_iload g 5 dX4_bestShift_50 rfl
 (x_callVip (As := [.ref xr1, .int x2, .int x5]) g mv_X4_alike mi_X4_alike lk_RX4_60 ht (fun b hb => kX4_alike φ t xr1 x2 x5 M ht hxr1 _ _ hb) rfl rfl hR ⟨Nat.le_of_ble_eq_true rfl, Nat.le_of_ble_eq_true rfl⟩ (Nat.le_of_ble_eq_true rfl) dX4_bestShift_52 (fun v6 =>
 (x_istore (L' := [(7, .int v6), (0, .ref t), (1, .ref xr1), (2, .int x2), (3, .int v3), (4, .int v4), (5, .int x5)]) g dX4_bestShift_55 hn (Nat.le_of_ble_eq_true rfl) rfl
 (x_iload g 0 dX4_bestShift_57 rfl
 (x_iload g 5 dX4_bestShift_59 rfl
 (x_jn (fun (J9 : Int32 → Int32 → Option Int32) => ∀ (v7 : Int32) (v8 : Int32), X J (fun b : Int32 => (some (Value.int b), M)) (J9 v7 v8) 71 [(0, .ref t), (1, .ref xr1), (2, .int x2), (3, .int v7), (4, .int v8), (5, .int x5)] [] M) (fun v7 v8 => (x_iinc (L' := [(5, .int (x5 + 1)), (0, .ref t), (1, .ref xr1), (2, .int x2), (3, .int v7), (4, .int v8)]) (v := (x5 + 1)) g 5 dX4_bestShift_71 rfl (by rw [kI_1]) hn (Nat.le_of_ble_eq_true rfl) rfl
 (x_goto g 14 dX4_bestShift_74 rfl
 (x_sub [1, 2, 3, 4, 5, 0] rfl (ih v7 v8 (x5 + 1)))))) (fun J9 hJ9 => (x_icmp_le g 71 dX4_bestShift_61 rfl
 (fun _ => (x_sub [1, 2, 3, 4, 5, 6] rfl (hJ9 v3 v4)))
 (fun _ => (x_iload g 6 dX4_bestShift_64 rfl
 (x_istore_n (L' := [(3, .int x5), (7, .int v6), (0, .ref t), (1, .ref xr1), (2, .int x2), (4, .int v4), (5, .int x5)]) g dX4_bestShift_66 rfl hn (Nat.le_of_ble_eq_true rfl) rfl
 (x_iload g 1 dX4_bestShift_67 rfl
 (x_istore (L' := [(4, .int v6), (3, .int x5), (7, .int v6), (0, .ref t), (1, .ref xr1), (2, .int x2), (5, .int x5)]) g dX4_bestShift_69 hn (Nat.le_of_ble_eq_true rfl) rfl
 (x_sub [3, 4, 5, 1, 0, 6] rfl (hJ9 x5 v6)))))))))))))))))))) (fun J5 hJ5 => (x_icmp_le g 47 dX4_bestShift_36 rfl
 (fun _ => (x_sub [1, 2, 3, 4, 5, 6] rfl (hJ5 x3 x4)))
 (fun _ => (x_iload g 6 dX4_bestShift_39 rfl
 (x_ineg g dX4_bestShift_41
 (x_nmI (fun v10 => (x_istore_n (L' := [(3, .int v10), (6, .int v2), (0, .ref t), (1, .ref xr1), (2, .int x2), (4, .int x4), (5, .int x5)]) g dX4_bestShift_42 rfl hn (Nat.le_of_ble_eq_true rfl) rfl
 (x_iload g 1 dX4_bestShift_43 rfl
 (x_istore (L' := [(4, .int v2), (3, .int v10), (6, .int v2), (0, .ref t), (1, .ref xr1), (2, .int x2), (5, .int x5)]) g dX4_bestShift_45 hn (Nat.le_of_ble_eq_true rfl) rfl
 (x_sub [3, 4, 5, 1, 0, 6] rfl (hJ5 v10 v2)))))))))))))))))))))))))))
def fX4_bestShift (φ : Nat) (t : Nat) (a1 : Nat) (a2 : Int32) (M : Mem) : Option Int32 :=
  (fX4_alike φ t a1 a2 (0 : Int32) M).bind fun v1 =>
 lX4_bestShift_14 φ t a1 a2 M φ (0 : Int32) v1 (1 : Int32)
set_option maxRecDepth 100000 in
set_option maxHeartbeats 4000000 in
theorem kX4_bestShift (φ : Nat) (t : Nat) (a1 : Nat) (a2 : Int32) (M : Mem) (ht : isO 4 t) (ha1 : isO 7 a1) (l : Launch) (G : GT) {b : Int32} (hE : fX4_bestShift φ t a1 a2 M = some b) : Ok l G yX4_bestShift cX4_bestShift 8 (some .int) 1 26 [.ref t, .ref a1, .int a2] M ((fun b : Int32 => (some (Value.int b), M)) b).1 ((fun b : Int32 => (some (Value.int b), M)) b).2 := by
  refine Ok.ofX (pj := (fun b : Int32 => (some (Value.int b), M))) (by decide) (Nat.le_of_ble_eq_true rfl) hE (fun J g hr hG hl hR hn => ?_)
  show X J (fun b : Int32 => (some (Value.int b), M)) (fX4_bestShift φ t a1 a2 M) 0 [(0, .ref t), (1, .ref a1), (2, .int a2)] [] M
  unfold fX4_bestShift
  exact (x_iconst g dX4_bestShift_0 kI_0
 (x_istore_n (L' := [(3, .int (0 : Int32)), (0, .ref t), (1, .ref a1), (2, .int a2)]) g dX4_bestShift_1 rfl hn (Nat.le_of_ble_eq_true rfl) rfl
 (x_aload_n g 1 dX4_bestShift_2 rfl rfl
 (x_aload_n g 2 dX4_bestShift_3 rfl rfl
 (x_iload_n g 3 dX4_bestShift_4 rfl rfl
 (x_iconst g dX4_bestShift_5 kI_0
 (x_callVip (As := [.ref a1, .int a2, .int (0 : Int32)]) g mv_X4_alike mi_X4_alike lk_RX4_60 ht (fun b hb => kX4_alike φ t a1 a2 (0 : Int32) M ht ha1 _ _ hb) rfl rfl hR ⟨Nat.le_of_ble_eq_true rfl, Nat.le_of_ble_eq_true rfl⟩ (Nat.le_of_ble_eq_true rfl) dX4_bestShift_6 (fun v1 =>
 (x_istore (L' := [(4, .int v1), (3, .int (0 : Int32)), (0, .ref t), (1, .ref a1), (2, .int a2)]) g dX4_bestShift_9 hn (Nat.le_of_ble_eq_true rfl) rfl
 (x_iconst g dX4_bestShift_11 kI_1
 (x_istore (L' := [(5, .int (1 : Int32)), (4, .int v1), (3, .int (0 : Int32)), (0, .ref t), (1, .ref a1), (2, .int a2)]) g dX4_bestShift_12 hn (Nat.le_of_ble_eq_true rfl) rfl
 (x_sub [3, 4, 5, 2, 1, 0] rfl (wlX4_bestShift_14 g hr hR hn  φ t a1 a2 M ht ha1 φ (0 : Int32) v1 (1 : Int32))))))))))))))
def fX10_shift (φ : Nat) (t : Nat) (a1 : Int32) (a2 : Int32) (a3 : Int32) (a4 : Int32) (M : Mem) : Option (Int32 × Mem) :=
  (ldr 2 (M.2.2 t 7)).bind fun vr1 =>
 (fX2_isHole vr1 a3 M).bind fun v2 =>
 if v2 = 0 then
 bd (fX10_refuse t (1 : Int32) M) fun v3 M4 =>
 some (v3, M4)
 else
 (fX10_isWithin a4 (0 : Int32) (1 : Int32) M).bind fun v5 =>
 if v5 = 0 then
 bd (fX10_refuse t (1 : Int32) M) fun v21 M22 =>
 some (v21, M22)
 else
 (ldr 2 (M.2.2 t 7)).bind fun vr6 =>
 (fX10_logStatus φ t a1 a2 ((M.1 vr6 0) - (1 : Int32)) M).bind fun v7 =>
 if v7 = 0 then
 (ldr 2 (M.2.2 t 7)).bind fun vr8 =>
 bd (fX4_unfold φ (t + 71) vr8 a3 M) fun vu9 M10 =>
 ixk a1 4 (
 (fX4_bestShift φ (t + 71) (srf (t + 1) a1.toNatClampNeg) a2 M10).bind fun v12 =>
 if a4 = 0 then
 bd (fX10_answer t v12 M10) fun v17 M18 =>
 some (v17, M18)
 else
 ixk a1 4 (
 (fX4_alike φ (t + 71) (srf (t + 1) a1.toNatClampNeg) a2 v12 M10).bind fun v14 =>
 bd (fX10_answer t v14 M10) fun v15 M16 =>
 some (v15, M16)))
 else
 bd (fX10_refuse t v7 M) fun v19 M20 =>
 some (v19, M20)
set_option maxRecDepth 100000 in
set_option maxHeartbeats 4000000 in
theorem kX10_shift (φ : Nat) (t : Nat) (a1 : Int32) (a2 : Int32) (a3 : Int32) (a4 : Int32) (M : Mem) (ht : isO 10 t) (l : Launch) (G : GT) {b : (Int32 × Mem)} (hE : fX10_shift φ t a1 a2 a3 a4 M = some b) : Ok l G yX10_shift cX10_shift 7 (some .int) 3 65 [.ref t, .int a1, .int a2, .int a3, .int a4] M ((fun q : Int32 × Mem => (some (Value.int q.1), q.2)) b).1 ((fun q : Int32 × Mem => (some (Value.int q.1), q.2)) b).2 := by
  refine Ok.ofX (pj := (fun q : Int32 × Mem => (some (Value.int q.1), q.2))) (by decide) (Nat.le_of_ble_eq_true rfl) hE (fun J g hr hG hl hR hn => ?_)
  show X J (fun q : Int32 × Mem => (some (Value.int q.1), q.2)) (fX10_shift φ t a1 a2 a3 a4 M) 0 [(0, .ref t), (1, .int a1), (2, .int a2), (3, .int a3), (4, .int a4)] [] M
  unfold fX10_shift
  exact (x_aload_n g 0 dX10_shift_0 rfl rfl
 (x_getD g fl_RX10_50 rfl ht dX10_shift_1 (fun vr1 hvr1 =>
 (x_iload_n g 3 dX10_shift_4 rfl rfl
 (x_callVip (As := [.int a3]) g mv_X2_isHole mi_X2_isHole lk_RX10_225 hvr1 (fun b hb => kX2_isHole vr1 a3 M hvr1 _ _ hb) rfl rfl hR ⟨Nat.le_of_ble_eq_true rfl, Nat.le_of_ble_eq_true rfl⟩ (Nat.le_of_ble_eq_true rfl) dX10_shift_5 (fun v2 =>
 (x_if_eq g 21 dX10_shift_8 rfl
 (fun _ => (x_aload_n g 0 dX10_shift_21 rfl rfl
 (x_iconst g dX10_shift_22 kI_1
 (x_callVi (As := [.int (1 : Int32)]) g mv_X10_refuse mi_X10_refuse lk_RX10_137 ht (fun b Mh_ hb => kX10_refuse t (1 : Int32) M ht _ _ hb) rfl rfl hR ⟨Nat.le_of_ble_eq_true rfl, Nat.le_of_ble_eq_true rfl⟩ (Nat.le_of_ble_eq_true rfl) dX10_shift_23 (fun v3 M4 =>
 (x_iret g hr rfl rfl dX10_shift_26))))))
 (fun _ => (x_iload g 4 dX10_shift_11 rfl
 (x_iconst g dX10_shift_13 kI_0
 (x_iconst g dX10_shift_14 kI_1
 (x_callSip (As := [.int a4, .int (0 : Int32), .int (1 : Int32)]) g mv_X10_isWithin ms_X10_isWithin lk_RX10_114 (fun b hb => kX10_isWithin a4 (0 : Int32) (1 : Int32) M _ _ hb) rfl rfl hR ⟨Nat.le_of_ble_eq_true rfl, Nat.le_of_ble_eq_true rfl⟩ (Nat.le_of_ble_eq_true rfl) dX10_shift_15 (fun v5 =>
 (x_if_ne g 27 dX10_shift_18 rfl
 (fun _ => (x_aload_n g 0 dX10_shift_27 rfl rfl
 (x_iload_n g 1 dX10_shift_28 rfl rfl
 (x_iload_n g 2 dX10_shift_29 rfl rfl
 (x_aload_n g 0 dX10_shift_30 rfl rfl
 (x_getD g fl_RX10_50 rfl ht dX10_shift_31 (fun vr6 hvr6 =>
 (x_getI g fl_RX10_206 rfl hvr6 dX10_shift_34
 (x_iconst g dX10_shift_37 kI_1
 (x_isub g dX10_shift_38
 (x_callVip (As := [.int a1, .int a2, .int ((M.1 vr6 0) - (1 : Int32))]) g mv_X10_logStatus mi_X10_logStatus lk_RX10_395 ht (fun b hb => kX10_logStatus φ t a1 a2 ((M.1 vr6 0) - (1 : Int32)) M ht _ _ hb) rfl rfl hR ⟨Nat.le_of_ble_eq_true rfl, Nat.le_of_ble_eq_true rfl⟩ (Nat.le_of_ble_eq_true rfl) dX10_shift_39 (fun v7 =>
 (x_istore (L' := [(5, .int v7), (0, .ref t), (1, .int a1), (2, .int a2), (3, .int a3), (4, .int a4)]) g dX10_shift_42 hn (Nat.le_of_ble_eq_true rfl) rfl
 (x_iload g 0 dX10_shift_44 rfl
 (x_if_eq g 56 dX10_shift_46 rfl
 (fun _ => (x_aload_n g 1 dX10_shift_56 rfl rfl
 (x_getS g 71 fl_RX10_95 rfl ht dX10_shift_57
 (x_aload_n g 1 dX10_shift_60 rfl rfl
 (x_getD g fl_RX10_50 rfl ht dX10_shift_61 (fun vr8 hvr8 =>
 (x_iload_n g 4 dX10_shift_64 rfl rfl
 (x_callVv (As := [.ref vr8, .int a3]) g mv_X4_unfold mi_X4_unfold lk_RX10_415 (so_10_16 ht) (fun b Mh_ hb => kX4_unfold φ (t + 71) vr8 a3 M (so_10_16 ht) hvr8 _ _ hb) rfl rfl hR ⟨Nat.le_of_ble_eq_true rfl, Nat.le_of_ble_eq_true rfl⟩ (Nat.le_of_ble_eq_true rfl) dX10_shift_65 (fun vu9 M10 =>
 (x_aload_n g 1 dX10_shift_68 rfl rfl
 (x_getS g 71 fl_RX10_95 rfl ht dX10_shift_69
 (x_aload_n g 1 dX10_shift_72 rfl rfl
 (x_getS g 1 fl_RX10_22 rfl ht dX10_shift_73
 (x_iload_n g 2 dX10_shift_76 rfl rfl
 (x_aald g 4 (fun _ => rfl) (so_10_3 ht) dX10_shift_77 (fun hq11 =>
 (x_iload_n g 3 dX10_shift_78 rfl rfl
 (x_callVip (As := [.ref (srf (t + 1) a1.toNatClampNeg), .int a2]) g mv_X4_bestShift mi_X4_bestShift lk_RX10_423 (so_10_16 ht) (fun b hb => kX4_bestShift φ (t + 71) (srf (t + 1) a1.toNatClampNeg) a2 M10 (so_10_16 ht) (se_10_3 ht hq11) _ _ hb) rfl rfl hR ⟨Nat.le_of_ble_eq_true rfl, Nat.le_of_ble_eq_true rfl⟩ (Nat.le_of_ble_eq_true rfl) dX10_shift_79 (fun v12 =>
 (x_istore (L' := [(6, .int v12), (5, .int v7), (0, .ref t), (1, .int a1), (2, .int a2), (3, .int a3), (4, .int a4)]) g dX10_shift_82 hn (Nat.le_of_ble_eq_true rfl) rfl
 (x_aload_n g 2 dX10_shift_84 rfl rfl
 (x_iload g 6 dX10_shift_85 rfl
 (x_if_ne g 95 dX10_shift_87 rfl
 (fun _ => (x_aload_n g 2 dX10_shift_95 rfl rfl
 (x_getS g 71 fl_RX10_95 rfl ht dX10_shift_96
 (x_aload_n g 2 dX10_shift_99 rfl rfl
 (x_getS g 1 fl_RX10_22 rfl ht dX10_shift_100
 (x_iload_n g 3 dX10_shift_103 rfl rfl
 (x_aald g 4 (fun _ => rfl) (so_10_3 ht) dX10_shift_104 (fun hq13 =>
 (x_iload_n g 4 dX10_shift_105 rfl rfl
 (x_iload g 0 dX10_shift_106 rfl
 (x_callVip (As := [.ref (srf (t + 1) a1.toNatClampNeg), .int a2, .int v12]) g mv_X4_alike mi_X4_alike lk_RX10_419 (so_10_16 ht) (fun b hb => kX4_alike φ (t + 71) (srf (t + 1) a1.toNatClampNeg) a2 v12 M10 (so_10_16 ht) (se_10_3 ht hq13) _ _ hb) rfl rfl hR ⟨Nat.le_of_ble_eq_true rfl, Nat.le_of_ble_eq_true rfl⟩ (Nat.le_of_ble_eq_true rfl) dX10_shift_108 (fun v14 =>
 (x_callVi (As := [.int v14]) g mv_X10_answer mi_X10_answer lk_RX10_187 ht (fun b Mh_ hb => kX10_answer t v14 M10 ht _ _ hb) rfl rfl hR ⟨Nat.le_of_ble_eq_true rfl, Nat.le_of_ble_eq_true rfl⟩ (Nat.le_of_ble_eq_true rfl) dX10_shift_111 (fun v15 M16 =>
 (x_iret g hr rfl rfl dX10_shift_114)))))))))))))))
 (fun _ => (x_iload g 0 dX10_shift_90 rfl
 (x_goto g 111 dX10_shift_92 rfl
 (x_callVi (As := [.int v12]) g mv_X10_answer mi_X10_answer lk_RX10_187 ht (fun b Mh_ hb => kX10_answer t v12 M10 ht _ _ hb) rfl rfl hR ⟨Nat.le_of_ble_eq_true rfl, Nat.le_of_ble_eq_true rfl⟩ (Nat.le_of_ble_eq_true rfl) dX10_shift_111 (fun v17 M18 =>
 (x_iret g hr rfl rfl dX10_shift_114)))))))))))))))))))))))))))))
 (fun _ => (x_aload_n g 1 dX10_shift_49 rfl rfl
 (x_iload g 0 dX10_shift_50 rfl
 (x_callVi (As := [.int v7]) g mv_X10_refuse mi_X10_refuse lk_RX10_137 ht (fun b Mh_ hb => kX10_refuse t v7 M ht _ _ hb) rfl rfl hR ⟨Nat.le_of_ble_eq_true rfl, Nat.le_of_ble_eq_true rfl⟩ (Nat.le_of_ble_eq_true rfl) dX10_shift_52 (fun v19 M20 =>
 (x_iret g hr rfl rfl dX10_shift_55)))))))))))))))))))))
 (fun _ => (x_aload_n g 0 dX10_shift_21 rfl rfl
 (x_iconst g dX10_shift_22 kI_1
 (x_callVi (As := [.int (1 : Int32)]) g mv_X10_refuse mi_X10_refuse lk_RX10_137 ht (fun b Mh_ hb => kX10_refuse t (1 : Int32) M ht _ _ hb) rfl rfl hR ⟨Nat.le_of_ble_eq_true rfl, Nat.le_of_ble_eq_true rfl⟩ (Nat.le_of_ble_eq_true rfl) dX10_shift_23 (fun v21 M22 =>
 (x_iret g hr rfl rfl dX10_shift_26))))))))))))))))))))
def lX10_likest_35 (φ : Nat) (t : Nat) (x1 : Int32) (x2 : Int32) : Nat → Int32 → Int32 → Int32 → Mem → Option (Int32 × Mem)
  | 0, _, _, _, _ => none
  | n + 1, x4, x5, x6, M =>
    (ldr 2 (M.2.2 t 7)).bind fun vr3 =>
 if (M.1 vr3 4) ≤ x6 then
 bd (fX10_answerOrNoSuch t x4 M) fun v4 M5 =>
 some (v4, M5)
 else
 (ldr 2 (M.2.2 t 7)).bind fun vr6 =>
 bd (fX4_unfold φ (t + 71) vr6 x6 M) fun vu7 M8 =>
 ixk x1 4 (
 (fX4_alike φ (t + 71) (srf (t + 1) x1.toNatClampNeg) x2 (0 : Int32) M8).bind fun v10 =>
 jn (fun (v11 : Int32) (v12 : Int32) => lX10_likest_35 φ t x1 x2 n v11 v12 (x6 + 1) M8) (fun J13 => if v10 ≤ x5 then
 J13 x4 x5
 else
 J13 x6 v10))
theorem lX10_likest_35_s (φ : Nat) (t : Nat) (x1 : Int32) (x2 : Int32) (n : Nat) (x4 : Int32) (x5 : Int32) (x6 : Int32) (M : Mem) : lX10_likest_35 φ t x1 x2 (n + 1) x4 x5 x6 M =
    (ldr 2 (M.2.2 t 7)).bind fun vr3 =>
 if (M.1 vr3 4) ≤ x6 then
 bd (fX10_answerOrNoSuch t x4 M) fun v4 M5 =>
 some (v4, M5)
 else
 (ldr 2 (M.2.2 t 7)).bind fun vr6 =>
 bd (fX4_unfold φ (t + 71) vr6 x6 M) fun vu7 M8 =>
 ixk x1 4 (
 (fX4_alike φ (t + 71) (srf (t + 1) x1.toNatClampNeg) x2 (0 : Int32) M8).bind fun v10 =>
 jn (fun (v11 : Int32) (v12 : Int32) => lX10_likest_35 φ t x1 x2 n v11 v12 (x6 + 1) M8) (fun J13 => if v10 ≤ x5 then
 J13 x4 x5
 else
 J13 x6 v10)) := rfl
theorem lX10_likest_35_0 (φ : Nat) (t : Nat) (x1 : Int32) (x2 : Int32) (x4 : Int32) (x5 : Int32) (x6 : Int32) (M : Mem) : lX10_likest_35 φ t x1 x2 0 x4 x5 x6 M = none := rfl
set_option maxRecDepth 100000 in
set_option maxHeartbeats 4000000 in
theorem wlX10_likest_35 {J : JT} (g : Gd J cX10_likest RX10) (hr : Rt J (some .int)) (hR : (JR J).frames = 3 ∧ (JR J).locals = 65) (hn : Jn J = 8) (φ : Nat) (t : Nat) (x1 : Int32) (x2 : Int32) (ht : isO 10 t) : ∀ (n : Nat) (x4 : Int32) (x5 : Int32) (x6 : Int32) (M : Mem), X J (fun q : Int32 × Mem => (some (Value.int q.1), q.2)) (lX10_likest_35 φ t x1 x2 n x4 x5 x6 M) 35 [(0, .ref t), (1, .int x1), (2, .int x2), (4, .int x4), (5, .int x5), (6, .int x6)] [] M := by
  intro n
  induction n with
  | zero =>
    intro x4 x5 x6 M
    exact x_none
  | succ n ih =>
    intro x4 x5 x6 M
    rw [lX10_likest_35_s]
    exact (x_iload g 5 dX10_likest_35 rfl
 (x_aload_n g 0 dX10_likest_37 rfl rfl
 (x_getD g fl_RX10_50 rfl ht dX10_likest_38 (fun vr3 hvr3 =>
 (x_getI g fl_RX10_184 rfl hvr3 dX10_likest_41
 (x_icmp_ge g 98 dX10_likest_44 rfl
 (fun _ => (x_aload_n g 0 dX10_likest_98 rfl rfl
 (x_iload g 3 dX10_likest_99 rfl
 (x_callVi (As := [.int x4]) g mv_X10_answerOrNoSuch mi_X10_answerOrNoSuch lk_RX10_261 ht (fun b Mh_ hb => kX10_answerOrNoSuch t x4 M ht _ _ hb) rfl rfl hR ⟨Nat.le_of_ble_eq_true rfl, Nat.le_of_ble_eq_true rfl⟩ (Nat.le_of_ble_eq_true rfl) dX10_likest_101 (fun v4 M5 =>
 (x_iret g hr rfl rfl dX10_likest_104))))))
 (fun _ => (x_aload_n g 0 dX10_likest_47 rfl rfl
 (x_getS g 71 fl_RX10_95 rfl ht dX10_likest_48
 (x_aload_n g 0 dX10_likest_51 rfl rfl
 (x_getD g fl_RX10_50 rfl ht dX10_likest_52 (fun vr6 hvr6 =>
 (x_iload g 5 dX10_likest_55 rfl
 (x_callVv (As := [.ref vr6, .int x6]) g mv_X4_unfold mi_X4_unfold lk_RX10_415 (so_10_16 ht) (fun b Mh_ hb => kX4_unfold φ (t + 71) vr6 x6 M (so_10_16 ht) hvr6 _ _ hb) rfl rfl hR ⟨Nat.le_of_ble_eq_true rfl, Nat.le_of_ble_eq_true rfl⟩ (Nat.le_of_ble_eq_true rfl) dX10_likest_57 (fun vu7 M8 =>
 (x_aload_n g 0 dX10_likest_60 rfl rfl
 (x_getS g 71 fl_RX10_95 rfl ht dX10_likest_61
 (x_aload_n g 0 dX10_likest_64 rfl rfl
 (x_getS g 1 fl_RX10_22 rfl ht dX10_likest_65
 (x_iload_n g 1 dX10_likest_68 rfl rfl
 (x_aald g 4 (fun _ => rfl) (so_10_3 ht) dX10_likest_69 (fun hq9 =>
 (x_iload_n g 2 dX10_likest_70 rfl rfl
 (x_iconst g dX10_likest_71 kI_0
 (x_callVip (As := [.ref (srf (t + 1) x1.toNatClampNeg), .int x2, .int (0 : Int32)]) g mv_X4_alike mi_X4_alike lk_RX10_419 (so_10_16 ht) (fun b hb => kX4_alike φ (t + 71) (srf (t + 1) x1.toNatClampNeg) x2 (0 : Int32) M8 (so_10_16 ht) (se_10_3 ht hq9) _ _ hb) rfl rfl hR ⟨Nat.le_of_ble_eq_true rfl, Nat.le_of_ble_eq_true rfl⟩ (Nat.le_of_ble_eq_true rfl) dX10_likest_72 (fun v10 =>
 (x_istore (L' := [(7, .int v10), (0, .ref t), (1, .int x1), (2, .int x2), (4, .int x4), (5, .int x5), (6, .int x6)]) g dX10_likest_75 hn (Nat.le_of_ble_eq_true rfl) rfl
 (x_iload g 0 dX10_likest_77 rfl
 (x_iload g 5 dX10_likest_79 rfl
 (x_jn (fun (J13 : Int32 → Int32 → Option (Int32 × Mem)) => ∀ (v11 : Int32) (v12 : Int32), X J (fun q : Int32 × Mem => (some (Value.int q.1), q.2)) (J13 v11 v12) 92 [(0, .ref t), (1, .int x1), (2, .int x2), (4, .int v11), (5, .int v12), (6, .int x6)] [] M8) (fun v11 v12 => (x_iinc (L' := [(6, .int (x6 + 1)), (0, .ref t), (1, .int x1), (2, .int x2), (4, .int v11), (5, .int v12)]) (v := (x6 + 1)) g 5 dX10_likest_92 rfl (by rw [kI_1]) hn (Nat.le_of_ble_eq_true rfl) rfl
 (x_goto g 35 dX10_likest_95 rfl
 (x_sub [1, 2, 3, 4, 5, 0] rfl (ih v11 v12 (x6 + 1) M8))))) (fun J13 hJ13 => (x_icmp_le g 92 dX10_likest_81 rfl
 (fun _ => (x_sub [1, 2, 3, 4, 5, 6] rfl (hJ13 x4 x5)))
 (fun _ => (x_iload g 6 dX10_likest_84 rfl
 (x_istore (L' := [(4, .int x6), (7, .int v10), (0, .ref t), (1, .int x1), (2, .int x2), (5, .int x5), (6, .int x6)]) g dX10_likest_86 hn (Nat.le_of_ble_eq_true rfl) rfl
 (x_iload g 1 dX10_likest_88 rfl
 (x_istore (L' := [(5, .int v10), (4, .int x6), (7, .int v10), (0, .ref t), (1, .int x1), (2, .int x2), (6, .int x6)]) g dX10_likest_90 hn (Nat.le_of_ble_eq_true rfl) rfl
 (x_sub [3, 4, 5, 1, 0, 6] rfl (hJ13 x6 v10)))))))))))))))))))))))))))))))))))))))
def fX10_likest (φ : Nat) (t : Nat) (a1 : Int32) (a2 : Int32) (M : Mem) : Option (Int32 × Mem) :=
  (ldr 2 (M.2.2 t 7)).bind fun vr1 =>
 (fX10_logStatus φ t a1 a2 ((M.1 vr1 0) - (1 : Int32)) M).bind fun v2 =>
 if v2 = 0 then
 lX10_likest_35 φ t a1 a2 φ (-1 : Int32) (-1 : Int32) (0 : Int32) M
 else
 bd (fX10_refuse t v2 M) fun v14 M15 =>
 some (v14, M15)
set_option maxRecDepth 100000 in
set_option maxHeartbeats 4000000 in
theorem kX10_likest (φ : Nat) (t : Nat) (a1 : Int32) (a2 : Int32) (M : Mem) (ht : isO 10 t) (l : Launch) (G : GT) {b : (Int32 × Mem)} (hE : fX10_likest φ t a1 a2 M = some b) : Ok l G yX10_likest cX10_likest 8 (some .int) 3 65 [.ref t, .int a1, .int a2] M ((fun q : Int32 × Mem => (some (Value.int q.1), q.2)) b).1 ((fun q : Int32 × Mem => (some (Value.int q.1), q.2)) b).2 := by
  refine Ok.ofX (pj := (fun q : Int32 × Mem => (some (Value.int q.1), q.2))) (by decide) (Nat.le_of_ble_eq_true rfl) hE (fun J g hr hG hl hR hn => ?_)
  show X J (fun q : Int32 × Mem => (some (Value.int q.1), q.2)) (fX10_likest φ t a1 a2 M) 0 [(0, .ref t), (1, .int a1), (2, .int a2)] [] M
  unfold fX10_likest
  exact (x_aload_n g 0 dX10_likest_0 rfl rfl
 (x_iload_n g 1 dX10_likest_1 rfl rfl
 (x_iload_n g 2 dX10_likest_2 rfl rfl
 (x_aload_n g 0 dX10_likest_3 rfl rfl
 (x_getD g fl_RX10_50 rfl ht dX10_likest_4 (fun vr1 hvr1 =>
 (x_getI g fl_RX10_206 rfl hvr1 dX10_likest_7
 (x_iconst g dX10_likest_10 kI_1
 (x_isub g dX10_likest_11
 (x_callVip (As := [.int a1, .int a2, .int ((M.1 vr1 0) - (1 : Int32))]) g mv_X10_logStatus mi_X10_logStatus lk_RX10_395 ht (fun b hb => kX10_logStatus φ t a1 a2 ((M.1 vr1 0) - (1 : Int32)) M ht _ _ hb) rfl rfl hR ⟨Nat.le_of_ble_eq_true rfl, Nat.le_of_ble_eq_true rfl⟩ (Nat.le_of_ble_eq_true rfl) dX10_likest_12 (fun v2 =>
 (x_istore_n (L' := [(3, .int v2), (0, .ref t), (1, .int a1), (2, .int a2)]) g dX10_likest_15 rfl hn (Nat.le_of_ble_eq_true rfl) rfl
 (x_iload_n g 0 dX10_likest_16 rfl rfl
 (x_if_eq g 26 dX10_likest_17 rfl
 (fun _ => (x_iconst g dX10_likest_26 kI_m1
 (x_istore (L' := [(4, .int (-1 : Int32)), (3, .int v2), (0, .ref t), (1, .int a1), (2, .int a2)]) g dX10_likest_27 hn (Nat.le_of_ble_eq_true rfl) rfl
 (x_iconst g dX10_likest_29 kI_m1
 (x_istore (L' := [(5, .int (-1 : Int32)), (4, .int (-1 : Int32)), (3, .int v2), (0, .ref t), (1, .int a1), (2, .int a2)]) g dX10_likest_30 hn (Nat.le_of_ble_eq_true rfl) rfl
 (x_iconst g dX10_likest_32 kI_0
 (x_istore (L' := [(6, .int (0 : Int32)), (5, .int (-1 : Int32)), (4, .int (-1 : Int32)), (3, .int v2), (0, .ref t), (1, .int a1), (2, .int a2)]) g dX10_likest_33 hn (Nat.le_of_ble_eq_true rfl) rfl
 (x_sub [4, 5, 6, 2, 1, 0] rfl (wlX10_likest_35 g hr hR hn  φ t a1 a2 ht φ (-1 : Int32) (-1 : Int32) (0 : Int32) M)))))))))
 (fun _ => (x_aload_n g 1 dX10_likest_20 rfl rfl
 (x_iload_n g 0 dX10_likest_21 rfl rfl
 (x_callVi (As := [.int v2]) g mv_X10_refuse mi_X10_refuse lk_RX10_137 ht (fun b Mh_ hb => kX10_refuse t v2 M ht _ _ hb) rfl rfl hR ⟨Nat.le_of_ble_eq_true rfl, Nat.le_of_ble_eq_true rfl⟩ (Nat.le_of_ble_eq_true rfl) dX10_likest_22 (fun v14 M15 =>
 (x_iret g hr rfl rfl dX10_likest_25))))))))))))))))))))
def fX2_hasRockOnTop (t : Nat) (a1 : Int32) (a2 : Int32) (M : Mem) : Option Int32 :=
  ixk a1 6 (
 if (M.1 (t + 7) a1.toNatClampNeg) ≤ 0 then
 some (0 : Int32)
 else
 (fX10_slot a1 (0 : Int32) M).bind fun v1 =>
 ixk v1 72 (
 if (M.1 (t + 8) v1.toNatClampNeg) = a2 then
 some (1 : Int32)
 else
 some (0 : Int32)))
set_option maxRecDepth 100000 in
set_option maxHeartbeats 4000000 in
theorem kX2_hasRockOnTop (t : Nat) (a1 : Int32) (a2 : Int32) (M : Mem) (ht : isO 2 t) (l : Launch) (G : GT) {b : Int32} (hE : fX2_hasRockOnTop t a1 a2 M = some b) : Ok l G yX2_hasRockOnTop cX2_hasRockOnTop 3 (some .boolean) 1 21 [.ref t, .int a1, .int a2] M ((fun b : Int32 => (some (Value.int b), M)) b).1 ((fun b : Int32 => (some (Value.int b), M)) b).2 := by
  refine Ok.ofX (pj := (fun b : Int32 => (some (Value.int b), M))) (by decide) (Nat.le_of_ble_eq_true rfl) hE (fun J g hr hG hl hR hn => ?_)
  show X J (fun b : Int32 => (some (Value.int b), M)) (fX2_hasRockOnTop t a1 a2 M) 0 [(0, .ref t), (1, .int a1), (2, .int a2)] [] M
  unfold fX2_hasRockOnTop
  exact (x_aload_n g 0 dX2_hasRockOnTop_0 rfl rfl
 (x_getS g 7 fl_RX2_38 rfl ht dX2_hasRockOnTop_1
 (x_iload_n g 1 dX2_hasRockOnTop_4 rfl rfl
 (x_iald g (so_2_8 ht) dX2_hasRockOnTop_5
 (x_if_le g 27 dX2_hasRockOnTop_6 rfl
 (fun _ => (x_iconst g dX2_hasRockOnTop_27 kI_0
 (x_iret g hr rfl rfl dX2_hasRockOnTop_28)))
 (fun _ => (x_aload_n g 0 dX2_hasRockOnTop_9 rfl rfl
 (x_getS g 8 fl_RX2_41 rfl ht dX2_hasRockOnTop_10
 (x_iload_n g 1 dX2_hasRockOnTop_13 rfl rfl
 (x_iconst g dX2_hasRockOnTop_14 kI_0
 (x_callSip (As := [.int a1, .int (0 : Int32)]) g mv_X10_slot ms_X10_slot lk_RX2_93 (fun b hb => kX10_slot a1 (0 : Int32) M _ _ hb) rfl rfl hR ⟨Nat.le_of_ble_eq_true rfl, Nat.le_of_ble_eq_true rfl⟩ (Nat.le_of_ble_eq_true rfl) dX2_hasRockOnTop_15 (fun v1 =>
 (x_iald g (so_2_9 ht) dX2_hasRockOnTop_18
 (x_iload_n g 2 dX2_hasRockOnTop_19 rfl rfl
 (x_icmp_ne g 27 dX2_hasRockOnTop_20 rfl
 (fun _ => (x_iconst g dX2_hasRockOnTop_27 kI_0
 (x_iret g hr rfl rfl dX2_hasRockOnTop_28)))
 (fun _ => (x_iconst g dX2_hasRockOnTop_23 kI_1
 (x_goto g 28 dX2_hasRockOnTop_24 rfl
 (x_iret g hr rfl rfl dX2_hasRockOnTop_28)))))))))))))))))))
def fX2_layOn (t : Nat) (a1 : Int32) (a2 : Int32) (a3 : Int32) (M : Mem) : Option (Int32 × Mem) :=
  (fX10_slot a1 (0 : Int32) M).bind fun v1 =>
 (fX2_hasRockOnTop t a1 a2 M).bind fun v2 =>
 if v2 = 0 then
 ixk a1 6 (
 if (M.1 (t + 7) a1.toNatClampNeg) < (12 : Int32) then
 ixk a1 6 (
 cpk v1 (v1 + (1 : Int32)) (M.1 (t + 7) a1.toNatClampNeg) 72 72 (nm (cpI M (t + 8) (t + 8) v1.toNatClampNeg (v1 + (1 : Int32)).toNatClampNeg (M.1 (t + 7) a1.toNatClampNeg).toNatClampNeg) (fun M3 =>
 ixk a1 6 (
 cpk v1 (v1 + (1 : Int32)) (M3.1 (t + 7) a1.toNatClampNeg) 72 72 (nm (cpI M3 (t + 9) (t + 9) v1.toNatClampNeg (v1 + (1 : Int32)).toNatClampNeg (M3.1 (t + 7) a1.toNatClampNeg).toNatClampNeg) (fun M4 =>
 ixk v1 72 (nm (stI M4 (t + 8) v1.toNatClampNeg a2) (fun M5 =>
 ixk v1 72 (nm (stI M5 (t + 9) v1.toNatClampNeg a3) (fun M6 =>
 ixk a1 6 (
 ixk a1 6 (nm (stI M6 (t + 7) a1.toNatClampNeg ((M6.1 (t + 7) a1.toNatClampNeg) + (1 : Int32))) (fun M7 =>
 some ((0 : Int32), M7))))))))))))))
 else
 some ((4 : Int32), M))
 else
 ixk v1 72 (
 if ((M.1 (t + 9) v1.toNatClampNeg) + a3) ≤ (999 : Int32) then
 ixk v1 72 (
 ixk v1 72 (nm (stI M (t + 9) v1.toNatClampNeg ((M.1 (t + 9) v1.toNatClampNeg) + a3)) (fun M8 =>
 some ((0 : Int32), M8))))
 else
 some ((7 : Int32), M))
set_option maxRecDepth 100000 in
set_option maxHeartbeats 4000000 in
theorem kX2_layOn (t : Nat) (a1 : Int32) (a2 : Int32) (a3 : Int32) (M : Mem) (ht : isO 2 t) (l : Launch) (G : GT) {b : (Int32 × Mem)} (hE : fX2_layOn t a1 a2 a3 M = some b) : Ok l G yX2_layOn cX2_layOn 5 (some .int) 2 60 [.ref t, .int a1, .int a2, .int a3] M ((fun q : Int32 × Mem => (some (Value.int q.1), q.2)) b).1 ((fun q : Int32 × Mem => (some (Value.int q.1), q.2)) b).2 := by
  refine Ok.ofX (pj := (fun q : Int32 × Mem => (some (Value.int q.1), q.2))) (by decide) (Nat.le_of_ble_eq_true rfl) hE (fun J g hr hG hl hR hn => ?_)
  show X J (fun q : Int32 × Mem => (some (Value.int q.1), q.2)) (fX2_layOn t a1 a2 a3 M) 0 [(0, .ref t), (1, .int a1), (2, .int a2), (3, .int a3)] [] M
  unfold fX2_layOn
  exact (x_iload_n g 1 dX2_layOn_0 rfl rfl
 (x_iconst g dX2_layOn_1 kI_0
 (x_callSip (As := [.int a1, .int (0 : Int32)]) g mv_X10_slot ms_X10_slot lk_RX2_93 (fun b hb => kX10_slot a1 (0 : Int32) M _ _ hb) rfl rfl hR ⟨Nat.le_of_ble_eq_true rfl, Nat.le_of_ble_eq_true rfl⟩ (Nat.le_of_ble_eq_true rfl) dX2_layOn_2 (fun v1 =>
 (x_istore (L' := [(4, .int v1), (0, .ref t), (1, .int a1), (2, .int a2), (3, .int a3)]) g dX2_layOn_5 hn (Nat.le_of_ble_eq_true rfl) rfl
 (x_aload_n g 1 dX2_layOn_7 rfl rfl
 (x_iload_n g 2 dX2_layOn_8 rfl rfl
 (x_iload_n g 3 dX2_layOn_9 rfl rfl
 (x_callVip (As := [.int a1, .int a2]) g mv_X2_hasRockOnTop mi_X2_hasRockOnTop lk_RX2_108 ht (fun b hb => kX2_hasRockOnTop t a1 a2 M ht _ _ hb) rfl rfl hR ⟨Nat.le_of_ble_eq_true rfl, Nat.le_of_ble_eq_true rfl⟩ (Nat.le_of_ble_eq_true rfl) dX2_layOn_10 (fun v2 =>
 (x_if_eq g 47 dX2_layOn_13 rfl
 (fun _ => (x_aload_n g 1 dX2_layOn_47 rfl rfl
 (x_getS g 7 fl_RX2_38 rfl ht dX2_layOn_48
 (x_iload_n g 2 dX2_layOn_51 rfl rfl
 (x_iald g (so_2_8 ht) dX2_layOn_52
 (x_bipush g dX2_layOn_53 kB_12
 (x_icmp_lt g 60 dX2_layOn_55 rfl
 (fun _ => (x_aload_n g 1 dX2_layOn_60 rfl rfl
 (x_getS g 8 fl_RX2_41 rfl ht dX2_layOn_61
 (x_iload g 0 dX2_layOn_64 rfl
 (x_aload_n g 1 dX2_layOn_66 rfl rfl
 (x_getS g 8 fl_RX2_41 rfl ht dX2_layOn_67
 (x_iload g 0 dX2_layOn_70 rfl
 (x_iconst g dX2_layOn_72 kI_1
 (x_iadd g dX2_layOn_73
 (x_aload_n g 1 dX2_layOn_74 rfl rfl
 (x_getS g 7 fl_RX2_38 rfl ht dX2_layOn_75
 (x_iload_n g 2 dX2_layOn_78 rfl rfl
 (x_iald g (so_2_8 ht) dX2_layOn_79
 (x_cpyI g hR lk_RX2_65 ok_acn ok_acs ok_sys (so_2_9 ht) (so_2_9 ht) (Nat.le_of_ble_eq_true rfl) (Nat.le_of_ble_eq_true rfl) dX2_layOn_80 (x_nmM (fun M3 =>
 (x_aload_n g 1 dX2_layOn_83 rfl rfl
 (x_getS g 9 fl_RX2_44 rfl ht dX2_layOn_84
 (x_iload g 0 dX2_layOn_87 rfl
 (x_aload_n g 1 dX2_layOn_89 rfl rfl
 (x_getS g 9 fl_RX2_44 rfl ht dX2_layOn_90
 (x_iload g 0 dX2_layOn_93 rfl
 (x_iconst g dX2_layOn_95 kI_1
 (x_iadd g dX2_layOn_96
 (x_aload_n g 1 dX2_layOn_97 rfl rfl
 (x_getS g 7 fl_RX2_38 rfl ht dX2_layOn_98
 (x_iload_n g 2 dX2_layOn_101 rfl rfl
 (x_iald g (so_2_8 ht) dX2_layOn_102
 (x_cpyI g hR lk_RX2_65 ok_acn ok_acs ok_sys (so_2_10 ht) (so_2_10 ht) (Nat.le_of_ble_eq_true rfl) (Nat.le_of_ble_eq_true rfl) dX2_layOn_103 (x_nmM (fun M4 =>
 (x_aload_n g 1 dX2_layOn_106 rfl rfl
 (x_getS g 8 fl_RX2_41 rfl ht dX2_layOn_107
 (x_iload g 0 dX2_layOn_110 rfl
 (x_iload_n g 3 dX2_layOn_112 rfl rfl
 (x_iast g (so_2_9 ht) dX2_layOn_113 (x_nmM (fun M5 =>
 (x_aload_n g 1 dX2_layOn_114 rfl rfl
 (x_getS g 9 fl_RX2_44 rfl ht dX2_layOn_115
 (x_iload g 0 dX2_layOn_118 rfl
 (x_iload_n g 4 dX2_layOn_120 rfl rfl
 (x_iast g (so_2_10 ht) dX2_layOn_121 (x_nmM (fun M6 =>
 (x_aload_n g 1 dX2_layOn_122 rfl rfl
 (x_getS g 7 fl_RX2_38 rfl ht dX2_layOn_123
 (x_iload_n g 2 dX2_layOn_126 rfl rfl
 (x_dup2 g dX2_layOn_127 rfl rfl
 (x_iald g (so_2_8 ht) dX2_layOn_128
 (x_iconst g dX2_layOn_129 kI_1
 (x_iadd g dX2_layOn_130
 (x_iast g (so_2_8 ht) dX2_layOn_131 (x_nmM (fun M7 =>
 (x_iconst g dX2_layOn_132 kI_0
 (x_iret g hr rfl rfl dX2_layOn_133)))))))))))))))))))))))))))))))))))))))))))))))))))))))))
 (fun _ => (x_iconst g dX2_layOn_58 kI_4
 (x_iret g hr rfl rfl dX2_layOn_59))))))))))
 (fun _ => (x_aload_n g 1 dX2_layOn_16 rfl rfl
 (x_getS g 9 fl_RX2_44 rfl ht dX2_layOn_17
 (x_iload g 0 dX2_layOn_20 rfl
 (x_iald g (so_2_10 ht) dX2_layOn_22
 (x_iload_n g 4 dX2_layOn_23 rfl rfl
 (x_iadd g dX2_layOn_24
 (x_sipush g dX2_layOn_25 kS_999
 (x_icmp_le g 34 dX2_layOn_28 rfl
 (fun _ => (x_aload_n g 1 dX2_layOn_34 rfl rfl
 (x_getS g 9 fl_RX2_44 rfl ht dX2_layOn_35
 (x_iload g 0 dX2_layOn_38 rfl
 (x_dup2 g dX2_layOn_40 rfl rfl
 (x_iald g (so_2_10 ht) dX2_layOn_41
 (x_iload_n g 4 dX2_layOn_42 rfl rfl
 (x_iadd g dX2_layOn_43
 (x_iast g (so_2_10 ht) dX2_layOn_44 (x_nmM (fun M8 =>
 (x_iconst g dX2_layOn_45 kI_0
 (x_iret g hr rfl rfl dX2_layOn_46)))))))))))))
 (fun _ => (x_bipush g dX2_layOn_31 kB_7
 (x_iret g hr rfl rfl dX2_layOn_33)))))))))))))))))))))))
def fX10_lay (t : Nat) (a1 : Int32) (a2 : Int32) (a3 : Int32) (M : Mem) : Option (Int32 × Mem) :=
  (ldr 2 (M.2.2 t 7)).bind fun vr1 =>
 (fX2_isHole vr1 a1 M).bind fun v2 =>
 if v2 = 0 then
 bd (fX10_refuse t (1 : Int32) M) fun v3 M4 =>
 some (v3, M4)
 else
 (ldr 2 (M.2.2 t 7)).bind fun vr5 =>
 (fX2_isRock vr5 a2 M).bind fun v6 =>
 if v6 = 0 then
 bd (fX10_refuse t (1 : Int32) M) fun v7 M8 =>
 some (v7, M8)
 else
 (fX10_isWithin a3 (1 : Int32) (99 : Int32) M).bind fun v9 =>
 if v9 = 0 then
 bd (fX10_refuse t (1 : Int32) M) fun v20 M21 =>
 some (v20, M21)
 else
 (ldr 2 (M.2.2 t 7)).bind fun vr10 =>
 bd (fX2_layOn vr10 a1 a2 a3 M) fun v11 M12 =>
 if v11 = 0 then
 bd (fX0_turnStale (t + 57) M12) fun vu13 M14 =>
 (ldr 2 (M14.2.2 t 7)).bind fun vr15 =>
 ixk a1 6 (
 bd (fX10_answer t (M14.1 (vr15 + 7) a1.toNatClampNeg) M14) fun v16 M17 =>
 some (v16, M17))
 else
 bd (fX10_refuse t v11 M12) fun v18 M19 =>
 some (v18, M19)
set_option maxRecDepth 100000 in
set_option maxHeartbeats 4000000 in
theorem kX10_lay (t : Nat) (a1 : Int32) (a2 : Int32) (a3 : Int32) (M : Mem) (ht : isO 10 t) (l : Launch) (G : GT) {b : (Int32 × Mem)} (hE : fX10_lay t a1 a2 a3 M = some b) : Ok l G yX10_lay cX10_lay 5 (some .int) 3 84 [.ref t, .int a1, .int a2, .int a3] M ((fun q : Int32 × Mem => (some (Value.int q.1), q.2)) b).1 ((fun q : Int32 × Mem => (some (Value.int q.1), q.2)) b).2 := by
  refine Ok.ofX (pj := (fun q : Int32 × Mem => (some (Value.int q.1), q.2))) (by decide) (Nat.le_of_ble_eq_true rfl) hE (fun J g hr hG hl hR hn => ?_)
  show X J (fun q : Int32 × Mem => (some (Value.int q.1), q.2)) (fX10_lay t a1 a2 a3 M) 0 [(0, .ref t), (1, .int a1), (2, .int a2), (3, .int a3)] [] M
  unfold fX10_lay
  exact (x_aload_n g 0 dX10_lay_0 rfl rfl
 (x_getD g fl_RX10_50 rfl ht dX10_lay_1 (fun vr1 hvr1 =>
 (x_iload_n g 1 dX10_lay_4 rfl rfl
 (x_callVip (As := [.int a1]) g mv_X2_isHole mi_X2_isHole lk_RX10_225 hvr1 (fun b hb => kX2_isHole vr1 a1 M hvr1 _ _ hb) rfl rfl hR ⟨Nat.le_of_ble_eq_true rfl, Nat.le_of_ble_eq_true rfl⟩ (Nat.le_of_ble_eq_true rfl) dX10_lay_5 (fun v2 =>
 (x_if_eq g 32 dX10_lay_8 rfl
 (fun _ => (x_aload_n g 0 dX10_lay_32 rfl rfl
 (x_iconst g dX10_lay_33 kI_1
 (x_callVi (As := [.int (1 : Int32)]) g mv_X10_refuse mi_X10_refuse lk_RX10_137 ht (fun b Mh_ hb => kX10_refuse t (1 : Int32) M ht _ _ hb) rfl rfl hR ⟨Nat.le_of_ble_eq_true rfl, Nat.le_of_ble_eq_true rfl⟩ (Nat.le_of_ble_eq_true rfl) dX10_lay_34 (fun v3 M4 =>
 (x_iret g hr rfl rfl dX10_lay_37))))))
 (fun _ => (x_aload_n g 0 dX10_lay_11 rfl rfl
 (x_getD g fl_RX10_50 rfl ht dX10_lay_12 (fun vr5 hvr5 =>
 (x_iload_n g 2 dX10_lay_15 rfl rfl
 (x_callVip (As := [.int a2]) g mv_X2_isRock mi_X2_isRock lk_RX10_215 hvr5 (fun b hb => kX2_isRock vr5 a2 M hvr5 _ _ hb) rfl rfl hR ⟨Nat.le_of_ble_eq_true rfl, Nat.le_of_ble_eq_true rfl⟩ (Nat.le_of_ble_eq_true rfl) dX10_lay_16 (fun v6 =>
 (x_if_eq g 32 dX10_lay_19 rfl
 (fun _ => (x_aload_n g 0 dX10_lay_32 rfl rfl
 (x_iconst g dX10_lay_33 kI_1
 (x_callVi (As := [.int (1 : Int32)]) g mv_X10_refuse mi_X10_refuse lk_RX10_137 ht (fun b Mh_ hb => kX10_refuse t (1 : Int32) M ht _ _ hb) rfl rfl hR ⟨Nat.le_of_ble_eq_true rfl, Nat.le_of_ble_eq_true rfl⟩ (Nat.le_of_ble_eq_true rfl) dX10_lay_34 (fun v7 M8 =>
 (x_iret g hr rfl rfl dX10_lay_37))))))
 (fun _ => (x_iload_n g 3 dX10_lay_22 rfl rfl
 (x_iconst g dX10_lay_23 kI_1
 (x_bipush g dX10_lay_24 kB_99
 (x_callSip (As := [.int a3, .int (1 : Int32), .int (99 : Int32)]) g mv_X10_isWithin ms_X10_isWithin lk_RX10_114 (fun b hb => kX10_isWithin a3 (1 : Int32) (99 : Int32) M _ _ hb) rfl rfl hR ⟨Nat.le_of_ble_eq_true rfl, Nat.le_of_ble_eq_true rfl⟩ (Nat.le_of_ble_eq_true rfl) dX10_lay_26 (fun v9 =>
 (x_if_ne g 38 dX10_lay_29 rfl
 (fun _ => (x_aload_n g 0 dX10_lay_38 rfl rfl
 (x_getD g fl_RX10_50 rfl ht dX10_lay_39 (fun vr10 hvr10 =>
 (x_iload_n g 1 dX10_lay_42 rfl rfl
 (x_iload_n g 2 dX10_lay_43 rfl rfl
 (x_iload_n g 3 dX10_lay_44 rfl rfl
 (x_callVi (As := [.int a1, .int a2, .int a3]) g mv_X2_layOn mi_X2_layOn lk_RX10_427 hvr10 (fun b Mh_ hb => kX2_layOn vr10 a1 a2 a3 M hvr10 _ _ hb) rfl rfl hR ⟨Nat.le_of_ble_eq_true rfl, Nat.le_of_ble_eq_true rfl⟩ (Nat.le_of_ble_eq_true rfl) dX10_lay_45 (fun v11 M12 =>
 (x_istore (L' := [(4, .int v11), (0, .ref t), (1, .int a1), (2, .int a2), (3, .int a3)]) g dX10_lay_48 hn (Nat.le_of_ble_eq_true rfl) rfl
 (x_iload g 0 dX10_lay_50 rfl
 (x_if_eq g 62 dX10_lay_52 rfl
 (fun _ => (x_aload_n g 1 dX10_lay_62 rfl rfl
 (x_getS g 57 fl_RX10_88 rfl ht dX10_lay_63
 (x_callVv (As := []) g mv_X0_turnStale mi_X0_turnStale lk_RX10_181 (so_10_15 ht) (fun b Mh_ hb => kX0_turnStale (t + 57) M12 (so_10_15 ht) _ _ hb) rfl rfl hR ⟨Nat.le_of_ble_eq_true rfl, Nat.le_of_ble_eq_true rfl⟩ (Nat.le_of_ble_eq_true rfl) dX10_lay_66 (fun vu13 M14 =>
 (x_aload_n g 1 dX10_lay_69 rfl rfl
 (x_aload_n g 1 dX10_lay_70 rfl rfl
 (x_getD g fl_RX10_50 rfl ht dX10_lay_71 (fun vr15 hvr15 =>
 (x_getS g 7 fl_RX10_234 rfl hvr15 dX10_lay_74
 (x_iload_n g 2 dX10_lay_77 rfl rfl
 (x_iald g (so_2_8 hvr15) dX10_lay_78
 (x_callVi (As := [.int (M14.1 (vr15 + 7) a1.toNatClampNeg)]) g mv_X10_answer mi_X10_answer lk_RX10_187 ht (fun b Mh_ hb => kX10_answer t (M14.1 (vr15 + 7) a1.toNatClampNeg) M14 ht _ _ hb) rfl rfl hR ⟨Nat.le_of_ble_eq_true rfl, Nat.le_of_ble_eq_true rfl⟩ (Nat.le_of_ble_eq_true rfl) dX10_lay_79 (fun v16 M17 =>
 (x_iret g hr rfl rfl dX10_lay_82)))))))))))))))
 (fun _ => (x_aload_n g 1 dX10_lay_55 rfl rfl
 (x_iload g 0 dX10_lay_56 rfl
 (x_callVi (As := [.int v11]) g mv_X10_refuse mi_X10_refuse lk_RX10_137 ht (fun b Mh_ hb => kX10_refuse t v11 M12 ht _ _ hb) rfl rfl hR ⟨Nat.le_of_ble_eq_true rfl, Nat.le_of_ble_eq_true rfl⟩ (Nat.le_of_ble_eq_true rfl) dX10_lay_58 (fun v18 M19 =>
 (x_iret g hr rfl rfl dX10_lay_61))))))))))))))))))
 (fun _ => (x_aload_n g 0 dX10_lay_32 rfl rfl
 (x_iconst g dX10_lay_33 kI_1
 (x_callVi (As := [.int (1 : Int32)]) g mv_X10_refuse mi_X10_refuse lk_RX10_137 ht (fun b Mh_ hb => kX10_refuse t (1 : Int32) M ht _ _ hb) rfl rfl hR ⟨Nat.le_of_ble_eq_true rfl, Nat.le_of_ble_eq_true rfl⟩ (Nat.le_of_ble_eq_true rfl) dX10_lay_34 (fun v20 M21 =>
 (x_iret g hr rfl rfl dX10_lay_37))))))))))))))))))))))))))))
def lX2_wearOff_15 (K89 : Int32 → Int32 → Mem → Option (Int32 × Mem)) (t : Nat) (x1 : Int32) (x2 : Int32) (x3 : Int32) : Nat → Int32 → Int32 → Int32 → Mem → Option (Int32 × Mem)
  | 0, _, _, _, _ => none
  | n + 1, x4, x5, x6, M =>
    ixk x1 6 (
 if (M.1 (t + 7) x1.toNatClampNeg) ≤ x6 then
 K89 x4 x5 M
 else
 if x4 ≤ 0 then
 K89 x4 x5 M
 else
 ixk (x3 + x6) 72 (
 nm (if (M.1 (t + 9) (x3 + x6).toNatClampNeg) < x4 then (M.1 (t + 9) (x3 + x6).toNatClampNeg) else x4) (fun v2 =>
 ixk (x3 + x6) 72 (
 ixk (x3 + x6) 72 (nm (stI M (t + 9) (x3 + x6).toNatClampNeg ((M.1 (t + 9) (x3 + x6).toNatClampNeg) - v2)) (fun M3 =>
 nm (x4 - v2) (fun v4 =>
 ixk (x3 + x6) 72 (
 jn (fun (v5 : Int32) => lX2_wearOff_15 K89 t x1 x2 x3 n v4 v5 (x6 + 1) M3) (fun J6 => if (M3.1 (t + 9) (x3 + x6).toNatClampNeg) = 0 then
 J6 (x5 + 1)
 else
 J6 x5)))))))))
theorem lX2_wearOff_15_s (K89 : Int32 → Int32 → Mem → Option (Int32 × Mem)) (t : Nat) (x1 : Int32) (x2 : Int32) (x3 : Int32) (n : Nat) (x4 : Int32) (x5 : Int32) (x6 : Int32) (M : Mem) : lX2_wearOff_15 K89 t x1 x2 x3 (n + 1) x4 x5 x6 M =
    ixk x1 6 (
 if (M.1 (t + 7) x1.toNatClampNeg) ≤ x6 then
 K89 x4 x5 M
 else
 if x4 ≤ 0 then
 K89 x4 x5 M
 else
 ixk (x3 + x6) 72 (
 nm (if (M.1 (t + 9) (x3 + x6).toNatClampNeg) < x4 then (M.1 (t + 9) (x3 + x6).toNatClampNeg) else x4) (fun v2 =>
 ixk (x3 + x6) 72 (
 ixk (x3 + x6) 72 (nm (stI M (t + 9) (x3 + x6).toNatClampNeg ((M.1 (t + 9) (x3 + x6).toNatClampNeg) - v2)) (fun M3 =>
 nm (x4 - v2) (fun v4 =>
 ixk (x3 + x6) 72 (
 jn (fun (v5 : Int32) => lX2_wearOff_15 K89 t x1 x2 x3 n v4 v5 (x6 + 1) M3) (fun J6 => if (M3.1 (t + 9) (x3 + x6).toNatClampNeg) = 0 then
 J6 (x5 + 1)
 else
 J6 x5))))))))) := rfl
theorem lX2_wearOff_15_0 (K89 : Int32 → Int32 → Mem → Option (Int32 × Mem)) (t : Nat) (x1 : Int32) (x2 : Int32) (x3 : Int32) (x4 : Int32) (x5 : Int32) (x6 : Int32) (M : Mem) : lX2_wearOff_15 K89 t x1 x2 x3 0 x4 x5 x6 M = none := rfl
set_option maxRecDepth 100000 in
set_option maxHeartbeats 4000000 in
theorem wlX2_wearOff_15 {J : JT} (g : Gd J cX2_wearOff RX2) (hr : Rt J (some .int)) (hR : (JR J).frames = 1 ∧ (JR J).locals = 60) (hn : Jn J = 8) (K89 : Int32 → Int32 → Mem → Option (Int32 × Mem)) (t : Nat) (x1 : Int32) (x2 : Int32) (x3 : Int32) (ht : isO 2 t) (hK89 : ∀ (y4 : Int32) (y5 : Int32) (M : Mem), X J (fun q : Int32 × Mem => (some (Value.int q.1), q.2)) (K89 y4 y5 M) 89 [(0, .ref t), (1, .int x1), (2, .int x2), (3, .int x3), (4, .int y4), (5, .int y5)] [] M) : ∀ (n : Nat) (x4 : Int32) (x5 : Int32) (x6 : Int32) (M : Mem), X J (fun q : Int32 × Mem => (some (Value.int q.1), q.2)) (lX2_wearOff_15 K89 t x1 x2 x3 n x4 x5 x6 M) 15 [(0, .ref t), (1, .int x1), (2, .int x2), (3, .int x3), (4, .int x4), (5, .int x5), (6, .int x6)] [] M := by
  intro n
  induction n with
  | zero =>
    intro x4 x5 x6 M
    exact x_none
  | succ n ih =>
    intro x4 x5 x6 M
    rw [lX2_wearOff_15_s]
    exact (x_iload g 6 dX2_wearOff_15 rfl
 (x_aload_n g 0 dX2_wearOff_17 rfl rfl
 (x_getS g 7 fl_RX2_38 rfl ht dX2_wearOff_18
 (x_iload_n g 1 dX2_wearOff_21 rfl rfl
 (x_iald g (so_2_8 ht) dX2_wearOff_22
 (x_icmp_ge g 89 dX2_wearOff_23 rfl
 (fun _ => (x_sub [0, 1, 2, 3, 4, 5] rfl (hK89 x4 x5 M)))
 (fun _ => (x_iload g 4 dX2_wearOff_26 rfl
 (x_if_le g 89 dX2_wearOff_28 rfl
 (fun _ => (x_sub [0, 1, 2, 3, 4, 5] rfl (hK89 x4 x5 M)))
 (fun _ => (x_iload g 4 dX2_wearOff_31 rfl
 (x_aload_n g 0 dX2_wearOff_33 rfl rfl
 (x_getS g 9 fl_RX2_44 rfl ht dX2_wearOff_34
 (x_iload_n g 3 dX2_wearOff_37 rfl rfl
 (x_iload g 6 dX2_wearOff_38 rfl
 (x_iadd g dX2_wearOff_40
 (x_iald g (so_2_10 ht) dX2_wearOff_41
 (x_mmin g hR lk_RX2_111 ok_mins ok_math ok_min (Nat.le_of_ble_eq_true rfl) (Nat.le_of_ble_eq_true rfl) dX2_wearOff_42
 (x_nmI (fun v2 => (x_istore (L' := [(7, .int v2), (0, .ref t), (1, .int x1), (2, .int x2), (3, .int x3), (4, .int x4), (5, .int x5), (6, .int x6)]) g dX2_wearOff_45 hn (Nat.le_of_ble_eq_true rfl) rfl
 (x_aload_n g 1 dX2_wearOff_47 rfl rfl
 (x_getS g 9 fl_RX2_44 rfl ht dX2_wearOff_48
 (x_iload_n g 4 dX2_wearOff_51 rfl rfl
 (x_iload g 7 dX2_wearOff_52 rfl
 (x_iadd g dX2_wearOff_54
 (x_dup2 g dX2_wearOff_55 rfl rfl
 (x_iald g (so_2_10 ht) dX2_wearOff_56
 (x_iload g 0 dX2_wearOff_57 rfl
 (x_isub g dX2_wearOff_59
 (x_iast g (so_2_10 ht) dX2_wearOff_60 (x_nmM (fun M3 =>
 (x_iload g 5 dX2_wearOff_61 rfl
 (x_iload g 0 dX2_wearOff_63 rfl
 (x_isub g dX2_wearOff_65
 (x_nmI (fun v4 => (x_istore (L' := [(4, .int v4), (7, .int v2), (0, .ref t), (1, .int x1), (2, .int x2), (3, .int x3), (5, .int x5), (6, .int x6)]) g dX2_wearOff_66 hn (Nat.le_of_ble_eq_true rfl) rfl
 (x_aload_n g 2 dX2_wearOff_68 rfl rfl
 (x_getS g 9 fl_RX2_44 rfl ht dX2_wearOff_69
 (x_iload_n g 5 dX2_wearOff_72 rfl rfl
 (x_iload g 7 dX2_wearOff_73 rfl
 (x_iadd g dX2_wearOff_75
 (x_iald g (so_2_10 ht) dX2_wearOff_76
 (x_jn (fun (J6 : Int32 → Option (Int32 × Mem)) => ∀ (v5 : Int32), X J (fun q : Int32 × Mem => (some (Value.int q.1), q.2)) (J6 v5) 83 [(0, .ref t), (1, .int x1), (2, .int x2), (3, .int x3), (4, .int v4), (5, .int v5), (6, .int x6)] [] M3) (fun v5 => (x_iinc (L' := [(6, .int (x6 + 1)), (0, .ref t), (1, .int x1), (2, .int x2), (3, .int x3), (4, .int v4), (5, .int v5)]) (v := (x6 + 1)) g 6 dX2_wearOff_83 rfl (by rw [kI_1]) hn (Nat.le_of_ble_eq_true rfl) rfl
 (x_goto g 15 dX2_wearOff_86 rfl
 (x_sub [1, 2, 3, 4, 5, 6, 0] rfl (ih v4 v5 (x6 + 1) M3))))) (fun J6 hJ6 => (x_if_ne g 83 dX2_wearOff_77 rfl
 (fun _ => (x_sub [2, 3, 4, 5, 0, 6, 7] rfl (hJ6 x5)))
 (fun _ => (x_iinc (L' := [(5, .int (x5 + 1)), (4, .int v4), (7, .int v2), (0, .ref t), (1, .int x1), (2, .int x2), (3, .int x3), (6, .int x6)]) (v := (x5 + 1)) g 6 dX2_wearOff_80 rfl (by rw [kI_1]) hn (Nat.le_of_ble_eq_true rfl) rfl
 (x_sub [3, 4, 5, 6, 1, 0, 7] rfl (hJ6 (x5 + 1)))))))))))))))))))))))))))))))))))))))))))))))))))))
def fX2_wearOff (φ : Nat) (t : Nat) (a1 : Int32) (a2 : Int32) (M : Mem) : Option (Int32 × Mem) :=
  (fX10_slot a1 (0 : Int32) M).bind fun v1 =>
 lX2_wearOff_15 (fun (v7 : Int32) (v8 : Int32) (M9 : Mem) => ixk a1 6 (
 ixk a1 6 (nm (stI M9 (t + 7) a1.toNatClampNeg ((M9.1 (t + 7) a1.toNatClampNeg) - v8)) (fun M10 =>
 ixk a1 6 (
 cpk (v1 + v8) v1 (M10.1 (t + 7) a1.toNatClampNeg) 72 72 (nm (cpI M10 (t + 8) (t + 8) (v1 + v8).toNatClampNeg v1.toNatClampNeg (M10.1 (t + 7) a1.toNatClampNeg).toNatClampNeg) (fun M11 =>
 ixk a1 6 (
 cpk (v1 + v8) v1 (M11.1 (t + 7) a1.toNatClampNeg) 72 72 (nm (cpI M11 (t + 9) (t + 9) (v1 + v8).toNatClampNeg v1.toNatClampNeg (M11.1 (t + 7) a1.toNatClampNeg).toNatClampNeg) (fun M12 =>
 some ((a2 - v7), M12))))))))))) t a1 a2 v1 φ a2 (0 : Int32) (0 : Int32) M
set_option maxRecDepth 100000 in
set_option maxHeartbeats 4000000 in
theorem kX2_wearOff (φ : Nat) (t : Nat) (a1 : Int32) (a2 : Int32) (M : Mem) (ht : isO 2 t) (l : Launch) (G : GT) {b : (Int32 × Mem)} (hE : fX2_wearOff φ t a1 a2 M = some b) : Ok l G yX2_wearOff cX2_wearOff 8 (some .int) 1 60 [.ref t, .int a1, .int a2] M ((fun q : Int32 × Mem => (some (Value.int q.1), q.2)) b).1 ((fun q : Int32 × Mem => (some (Value.int q.1), q.2)) b).2 := by
  refine Ok.ofX (pj := (fun q : Int32 × Mem => (some (Value.int q.1), q.2))) (by decide) (Nat.le_of_ble_eq_true rfl) hE (fun J g hr hG hl hR hn => ?_)
  show X J (fun q : Int32 × Mem => (some (Value.int q.1), q.2)) (fX2_wearOff φ t a1 a2 M) 0 [(0, .ref t), (1, .int a1), (2, .int a2)] [] M
  unfold fX2_wearOff
  exact (x_iload_n g 1 dX2_wearOff_0 rfl rfl
 (x_iconst g dX2_wearOff_1 kI_0
 (x_callSip (As := [.int a1, .int (0 : Int32)]) g mv_X10_slot ms_X10_slot lk_RX2_93 (fun b hb => kX10_slot a1 (0 : Int32) M _ _ hb) rfl rfl hR ⟨Nat.le_of_ble_eq_true rfl, Nat.le_of_ble_eq_true rfl⟩ (Nat.le_of_ble_eq_true rfl) dX2_wearOff_2 (fun v1 =>
 (x_istore_n (L' := [(3, .int v1), (0, .ref t), (1, .int a1), (2, .int a2)]) g dX2_wearOff_5 rfl hn (Nat.le_of_ble_eq_true rfl) rfl
 (x_iload_n g 3 dX2_wearOff_6 rfl rfl
 (x_istore (L' := [(4, .int a2), (3, .int v1), (0, .ref t), (1, .int a1), (2, .int a2)]) g dX2_wearOff_7 hn (Nat.le_of_ble_eq_true rfl) rfl
 (x_iconst g dX2_wearOff_9 kI_0
 (x_istore (L' := [(5, .int (0 : Int32)), (4, .int a2), (3, .int v1), (0, .ref t), (1, .int a1), (2, .int a2)]) g dX2_wearOff_10 hn (Nat.le_of_ble_eq_true rfl) rfl
 (x_iconst g dX2_wearOff_12 kI_0
 (x_istore (L' := [(6, .int (0 : Int32)), (5, .int (0 : Int32)), (4, .int a2), (3, .int v1), (0, .ref t), (1, .int a1), (2, .int a2)]) g dX2_wearOff_13 hn (Nat.le_of_ble_eq_true rfl) rfl
 (x_sub [4, 5, 6, 3, 2, 1, 0] rfl (wlX2_wearOff_15 g hr hR hn _ t a1 a2 v1 ht
 (fun v7 v8 M9 => by exact (x_aload_n g 0 dX2_wearOff_89 rfl rfl
 (x_getS g 7 fl_RX2_38 rfl ht dX2_wearOff_90
 (x_iload_n g 1 dX2_wearOff_93 rfl rfl
 (x_dup2 g dX2_wearOff_94 rfl rfl
 (x_iald g (so_2_8 ht) dX2_wearOff_95
 (x_iload g 5 dX2_wearOff_96 rfl
 (x_isub g dX2_wearOff_98
 (x_iast g (so_2_8 ht) dX2_wearOff_99 (x_nmM (fun M10 =>
 (x_aload_n g 0 dX2_wearOff_100 rfl rfl
 (x_getS g 8 fl_RX2_41 rfl ht dX2_wearOff_101
 (x_iload_n g 3 dX2_wearOff_104 rfl rfl
 (x_iload g 5 dX2_wearOff_105 rfl
 (x_iadd g dX2_wearOff_107
 (x_aload_n g 0 dX2_wearOff_108 rfl rfl
 (x_getS g 8 fl_RX2_41 rfl ht dX2_wearOff_109
 (x_iload_n g 3 dX2_wearOff_112 rfl rfl
 (x_aload_n g 0 dX2_wearOff_113 rfl rfl
 (x_getS g 7 fl_RX2_38 rfl ht dX2_wearOff_114
 (x_iload_n g 1 dX2_wearOff_117 rfl rfl
 (x_iald g (so_2_8 ht) dX2_wearOff_118
 (x_cpyI g hR lk_RX2_65 ok_acn ok_acs ok_sys (so_2_9 ht) (so_2_9 ht) (Nat.le_of_ble_eq_true rfl) (Nat.le_of_ble_eq_true rfl) dX2_wearOff_119 (x_nmM (fun M11 =>
 (x_aload_n g 0 dX2_wearOff_122 rfl rfl
 (x_getS g 9 fl_RX2_44 rfl ht dX2_wearOff_123
 (x_iload_n g 3 dX2_wearOff_126 rfl rfl
 (x_iload g 5 dX2_wearOff_127 rfl
 (x_iadd g dX2_wearOff_129
 (x_aload_n g 0 dX2_wearOff_130 rfl rfl
 (x_getS g 9 fl_RX2_44 rfl ht dX2_wearOff_131
 (x_iload_n g 3 dX2_wearOff_134 rfl rfl
 (x_aload_n g 0 dX2_wearOff_135 rfl rfl
 (x_getS g 7 fl_RX2_38 rfl ht dX2_wearOff_136
 (x_iload_n g 1 dX2_wearOff_139 rfl rfl
 (x_iald g (so_2_8 ht) dX2_wearOff_140
 (x_cpyI g hR lk_RX2_65 ok_acn ok_acs ok_sys (so_2_10 ht) (so_2_10 ht) (Nat.le_of_ble_eq_true rfl) (Nat.le_of_ble_eq_true rfl) dX2_wearOff_141 (x_nmM (fun M12 =>
 (x_iload_n g 2 dX2_wearOff_144 rfl rfl
 (x_iload g 4 dX2_wearOff_145 rfl
 (x_isub g dX2_wearOff_147
 (x_iret g hr rfl rfl dX2_wearOff_148))))))))))))))))))))))))))))))))))))))))))))) φ a2 (0 : Int32) (0 : Int32) M)))))))))))))
def fX10_wear (φ : Nat) (t : Nat) (a1 : Int32) (a2 : Int32) (M : Mem) : Option (Int32 × Mem) :=
  (ldr 2 (M.2.2 t 7)).bind fun vr1 =>
 (fX2_isHole vr1 a1 M).bind fun v2 =>
 if v2 = 0 then
 bd (fX10_refuse t (1 : Int32) M) fun v3 M4 =>
 some (v3, M4)
 else
 (fX10_isWithin a2 (1 : Int32) (99 : Int32) M).bind fun v5 =>
 if v5 = 0 then
 bd (fX10_refuse t (1 : Int32) M) fun v13 M14 =>
 some (v13, M14)
 else
 bd (fX0_turnStale (t + 57) M) fun vu6 M7 =>
 (ldr 2 (M7.2.2 t 7)).bind fun vr8 =>
 bd (fX2_wearOff φ vr8 a1 a2 M7) fun v9 M10 =>
 bd (fX10_answer t v9 M10) fun v11 M12 =>
 some (v11, M12)
set_option maxRecDepth 100000 in
set_option maxHeartbeats 4000000 in
theorem kX10_wear (φ : Nat) (t : Nat) (a1 : Int32) (a2 : Int32) (M : Mem) (ht : isO 10 t) (l : Launch) (G : GT) {b : (Int32 × Mem)} (hE : fX10_wear φ t a1 a2 M = some b) : Ok l G yX10_wear cX10_wear 3 (some .int) 2 87 [.ref t, .int a1, .int a2] M ((fun q : Int32 × Mem => (some (Value.int q.1), q.2)) b).1 ((fun q : Int32 × Mem => (some (Value.int q.1), q.2)) b).2 := by
  refine Ok.ofX (pj := (fun q : Int32 × Mem => (some (Value.int q.1), q.2))) (by decide) (Nat.le_of_ble_eq_true rfl) hE (fun J g hr hG hl hR hn => ?_)
  show X J (fun q : Int32 × Mem => (some (Value.int q.1), q.2)) (fX10_wear φ t a1 a2 M) 0 [(0, .ref t), (1, .int a1), (2, .int a2)] [] M
  unfold fX10_wear
  exact (x_aload_n g 0 dX10_wear_0 rfl rfl
 (x_getD g fl_RX10_50 rfl ht dX10_wear_1 (fun vr1 hvr1 =>
 (x_iload_n g 1 dX10_wear_4 rfl rfl
 (x_callVip (As := [.int a1]) g mv_X2_isHole mi_X2_isHole lk_RX10_225 hvr1 (fun b hb => kX2_isHole vr1 a1 M hvr1 _ _ hb) rfl rfl hR ⟨Nat.le_of_ble_eq_true rfl, Nat.le_of_ble_eq_true rfl⟩ (Nat.le_of_ble_eq_true rfl) dX10_wear_5 (fun v2 =>
 (x_if_eq g 21 dX10_wear_8 rfl
 (fun _ => (x_aload_n g 0 dX10_wear_21 rfl rfl
 (x_iconst g dX10_wear_22 kI_1
 (x_callVi (As := [.int (1 : Int32)]) g mv_X10_refuse mi_X10_refuse lk_RX10_137 ht (fun b Mh_ hb => kX10_refuse t (1 : Int32) M ht _ _ hb) rfl rfl hR ⟨Nat.le_of_ble_eq_true rfl, Nat.le_of_ble_eq_true rfl⟩ (Nat.le_of_ble_eq_true rfl) dX10_wear_23 (fun v3 M4 =>
 (x_iret g hr rfl rfl dX10_wear_26))))))
 (fun _ => (x_iload_n g 2 dX10_wear_11 rfl rfl
 (x_iconst g dX10_wear_12 kI_1
 (x_bipush g dX10_wear_13 kB_99
 (x_callSip (As := [.int a2, .int (1 : Int32), .int (99 : Int32)]) g mv_X10_isWithin ms_X10_isWithin lk_RX10_114 (fun b hb => kX10_isWithin a2 (1 : Int32) (99 : Int32) M _ _ hb) rfl rfl hR ⟨Nat.le_of_ble_eq_true rfl, Nat.le_of_ble_eq_true rfl⟩ (Nat.le_of_ble_eq_true rfl) dX10_wear_15 (fun v5 =>
 (x_if_ne g 27 dX10_wear_18 rfl
 (fun _ => (x_aload_n g 0 dX10_wear_27 rfl rfl
 (x_getS g 57 fl_RX10_88 rfl ht dX10_wear_28
 (x_callVv (As := []) g mv_X0_turnStale mi_X0_turnStale lk_RX10_181 (so_10_15 ht) (fun b Mh_ hb => kX0_turnStale (t + 57) M (so_10_15 ht) _ _ hb) rfl rfl hR ⟨Nat.le_of_ble_eq_true rfl, Nat.le_of_ble_eq_true rfl⟩ (Nat.le_of_ble_eq_true rfl) dX10_wear_31 (fun vu6 M7 =>
 (x_aload_n g 0 dX10_wear_34 rfl rfl
 (x_aload_n g 0 dX10_wear_35 rfl rfl
 (x_getD g fl_RX10_50 rfl ht dX10_wear_36 (fun vr8 hvr8 =>
 (x_iload_n g 1 dX10_wear_39 rfl rfl
 (x_iload_n g 2 dX10_wear_40 rfl rfl
 (x_callVi (As := [.int a1, .int a2]) g mv_X2_wearOff mi_X2_wearOff lk_RX10_430 hvr8 (fun b Mh_ hb => kX2_wearOff φ vr8 a1 a2 M7 hvr8 _ _ hb) rfl rfl hR ⟨Nat.le_of_ble_eq_true rfl, Nat.le_of_ble_eq_true rfl⟩ (Nat.le_of_ble_eq_true rfl) dX10_wear_41 (fun v9 M10 =>
 (x_callVi (As := [.int v9]) g mv_X10_answer mi_X10_answer lk_RX10_187 ht (fun b Mh_ hb => kX10_answer t v9 M10 ht _ _ hb) rfl rfl hR ⟨Nat.le_of_ble_eq_true rfl, Nat.le_of_ble_eq_true rfl⟩ (Nat.le_of_ble_eq_true rfl) dX10_wear_44 (fun v11 M12 =>
 (x_iret g hr rfl rfl dX10_wear_47))))))))))))))))
 (fun _ => (x_aload_n g 0 dX10_wear_21 rfl rfl
 (x_iconst g dX10_wear_22 kI_1
 (x_callVi (As := [.int (1 : Int32)]) g mv_X10_refuse mi_X10_refuse lk_RX10_137 ht (fun b Mh_ hb => kX10_refuse t (1 : Int32) M ht _ _ hb) rfl rfl hR ⟨Nat.le_of_ble_eq_true rfl, Nat.le_of_ble_eq_true rfl⟩ (Nat.le_of_ble_eq_true rfl) dX10_wear_23 (fun v13 M14 =>
 (x_iret g hr rfl rfl dX10_wear_26))))))))))))))))))))
def fX10_throwing (t : Nat) (a1 : Int32) (a2 : Int32) (M : Mem) : Option (Int32 × Mem) :=
  (ldr 2 (M.2.2 t 7)).bind fun vr1 =>
 (fX2_isFault vr1 a1 M).bind fun v2 =>
 if v2 = 0 then
 bd (fX10_deny t (1 : Int32) M) fun v3 M4 =>
 if v3 = 0 ∨ v3 = 1 then some (v3, M4) else none
 else
 (fX10_isWithin a2 (0 : Int32) (999 : Int32) M).bind fun v6 =>
 if v6 = 0 then
 bd (fX10_deny t (1 : Int32) M) fun v12 M13 =>
 if v12 = 0 ∨ v12 = 1 then some (v12, M13) else none
 else
 (ldr 2 (M.2.2 t 7)).bind fun vr7 =>
 ixk a1 2 (nm (stI M (vr7 + 13) a1.toNatClampNeg a2) (fun M8 =>
 bd (fX10_grant t M8) fun v9 M10 =>
 if v9 = 0 ∨ v9 = 1 then some (v9, M10) else none))
set_option maxRecDepth 100000 in
set_option maxHeartbeats 4000000 in
theorem kX10_throwing (t : Nat) (a1 : Int32) (a2 : Int32) (M : Mem) (ht : isO 10 t) (l : Launch) (G : GT) {b : (Int32 × Mem)} (hE : fX10_throwing t a1 a2 M = some b) : Ok l G yX10_throwing cX10_throwing 3 (some .boolean) 1 22 [.ref t, .int a1, .int a2] M ((fun q : Int32 × Mem => (some (Value.int q.1), q.2)) b).1 ((fun q : Int32 × Mem => (some (Value.int q.1), q.2)) b).2 := by
  refine Ok.ofX (pj := (fun q : Int32 × Mem => (some (Value.int q.1), q.2))) (by decide) (Nat.le_of_ble_eq_true rfl) hE (fun J g hr hG hl hR hn => ?_)
  show X J (fun q : Int32 × Mem => (some (Value.int q.1), q.2)) (fX10_throwing t a1 a2 M) 0 [(0, .ref t), (1, .int a1), (2, .int a2)] [] M
  unfold fX10_throwing
  exact (x_aload_n g 0 dX10_throwing_0 rfl rfl
 (x_getD g fl_RX10_50 rfl ht dX10_throwing_1 (fun vr1 hvr1 =>
 (x_iload_n g 1 dX10_throwing_4 rfl rfl
 (x_callVip (As := [.int a1]) g mv_X2_isFault mi_X2_isFault lk_RX10_264 hvr1 (fun b hb => kX2_isFault vr1 a1 M hvr1 _ _ hb) rfl rfl hR ⟨Nat.le_of_ble_eq_true rfl, Nat.le_of_ble_eq_true rfl⟩ (Nat.le_of_ble_eq_true rfl) dX10_throwing_5 (fun v2 =>
 (x_if_eq g 22 dX10_throwing_8 rfl
 (fun _ => (x_aload_n g 0 dX10_throwing_22 rfl rfl
 (x_iconst g dX10_throwing_23 kI_1
 (x_callVi (As := [.int (1 : Int32)]) g mv_X10_deny mi_X10_deny lk_RX10_118 ht (fun b Mh_ hb => kX10_deny t (1 : Int32) M ht _ _ hb) rfl rfl hR ⟨Nat.le_of_ble_eq_true rfl, Nat.le_of_ble_eq_true rfl⟩ (Nat.le_of_ble_eq_true rfl) dX10_throwing_24 (fun v3 M4 =>
 (x_ck (fun hq5 => x_iret g hr (nbz hq5) rfl dX10_throwing_27)))))))
 (fun _ => (x_iload_n g 2 dX10_throwing_11 rfl rfl
 (x_iconst g dX10_throwing_12 kI_0
 (x_sipush g dX10_throwing_13 kS_999
 (x_callSip (As := [.int a2, .int (0 : Int32), .int (999 : Int32)]) g mv_X10_isWithin ms_X10_isWithin lk_RX10_114 (fun b hb => kX10_isWithin a2 (0 : Int32) (999 : Int32) M _ _ hb) rfl rfl hR ⟨Nat.le_of_ble_eq_true rfl, Nat.le_of_ble_eq_true rfl⟩ (Nat.le_of_ble_eq_true rfl) dX10_throwing_16 (fun v6 =>
 (x_if_ne g 28 dX10_throwing_19 rfl
 (fun _ => (x_aload_n g 0 dX10_throwing_28 rfl rfl
 (x_getD g fl_RX10_50 rfl ht dX10_throwing_29 (fun vr7 hvr7 =>
 (x_getS g 13 fl_RX10_433 rfl hvr7 dX10_throwing_32
 (x_iload_n g 1 dX10_throwing_35 rfl rfl
 (x_iload_n g 2 dX10_throwing_36 rfl rfl
 (x_iast g (so_2_16 hvr7) dX10_throwing_37 (x_nmM (fun M8 =>
 (x_aload_n g 0 dX10_throwing_38 rfl rfl
 (x_callVi (As := []) g mv_X10_grant mi_X10_grant lk_RX10_125 ht (fun b Mh_ hb => kX10_grant t M8 ht _ _ hb) rfl rfl hR ⟨Nat.le_of_ble_eq_true rfl, Nat.le_of_ble_eq_true rfl⟩ (Nat.le_of_ble_eq_true rfl) dX10_throwing_39 (fun v9 M10 =>
 (x_ck (fun hq11 => x_iret g hr (nbz hq11) rfl dX10_throwing_42)))))))))))))))
 (fun _ => (x_aload_n g 0 dX10_throwing_22 rfl rfl
 (x_iconst g dX10_throwing_23 kI_1
 (x_callVi (As := [.int (1 : Int32)]) g mv_X10_deny mi_X10_deny lk_RX10_118 ht (fun b Mh_ hb => kX10_deny t (1 : Int32) M ht _ _ hb) rfl rfl hR ⟨Nat.le_of_ble_eq_true rfl, Nat.le_of_ble_eq_true rfl⟩ (Nat.le_of_ble_eq_true rfl) dX10_throwing_24 (fun v12 M13 =>
 (x_ck (fun hq14 => x_iret g hr (nbz hq14) rfl dX10_throwing_27)))))))))))))))))))))
def fX3_behindEnd (t : Nat) (a1 : Nat) (a2 : Int32) (M : Mem) : Option (Int32 × Mem) :=
  ixk a2 60 (
 nm (M.1 (a1 + 5) a2.toNatClampNeg) (fun v1 =>
 ixk v1 60 (
 if (M.1 (a1 + 1) v1.toNatClampNeg) = (21 : Int32) then
 ixk v1 60 (
 if (M.1 (t + 1) v1.toNatClampNeg) ≤ (1 : Int32) then
 some ((a2 + (1 : Int32)), M)
 else
 ixk v1 60 (
 ixk v1 60 (nm (stI M (t + 1) v1.toNatClampNeg ((M.1 (t + 1) v1.toNatClampNeg) - (1 : Int32))) (fun M2 =>
 some ((v1 + (1 : Int32)), M2)))))
 else
 some ((a2 + (1 : Int32)), M))))
set_option maxRecDepth 100000 in
set_option maxHeartbeats 4000000 in
theorem kX3_behindEnd (t : Nat) (a1 : Nat) (a2 : Int32) (M : Mem) (ht : isO 3 t) (ha1 : isO 8 a1) (l : Launch) (G : GT) {b : (Int32 × Mem)} (hE : fX3_behindEnd t a1 a2 M = some b) : Ok l G yX3_behindEnd cX3_behindEnd 4 (some .int) 0 0 [.ref t, .ref a1, .int a2] M ((fun q : Int32 × Mem => (some (Value.int q.1), q.2)) b).1 ((fun q : Int32 × Mem => (some (Value.int q.1), q.2)) b).2 := by
  refine Ok.ofX (pj := (fun q : Int32 × Mem => (some (Value.int q.1), q.2))) (by decide) (Nat.le_of_ble_eq_true rfl) hE (fun J g hr hG hl hR hn => ?_)
  show X J (fun q : Int32 × Mem => (some (Value.int q.1), q.2)) (fX3_behindEnd t a1 a2 M) 0 [(0, .ref t), (1, .ref a1), (2, .int a2)] [] M
  unfold fX3_behindEnd
  exact (x_aload_n g 1 dX3_behindEnd_0 rfl rfl
 (x_getS g 5 fl_RX3_55 rfl ha1 dX3_behindEnd_1
 (x_iload_n g 2 dX3_behindEnd_4 rfl rfl
 (x_iald g (so_8_7 ha1) dX3_behindEnd_5
 (x_nmI (fun v1 => (x_istore_n (L' := [(3, .int v1), (0, .ref t), (1, .ref a1), (2, .int a2)]) g dX3_behindEnd_6 rfl hn (Nat.le_of_ble_eq_true rfl) rfl
 (x_aload_n g 2 dX3_behindEnd_7 rfl rfl
 (x_getS g 1 fl_RX3_44 rfl ha1 dX3_behindEnd_8
 (x_iload_n g 0 dX3_behindEnd_11 rfl rfl
 (x_iald g (so_8_3 ha1) dX3_behindEnd_12
 (x_bipush g dX3_behindEnd_13 kB_21
 (x_icmp_ne g 42 dX3_behindEnd_15 rfl
 (fun _ => (x_iload_n g 3 dX3_behindEnd_42 rfl rfl
 (x_iconst g dX3_behindEnd_43 kI_1
 (x_iadd g dX3_behindEnd_44
 (x_iret g hr rfl rfl dX3_behindEnd_45)))))
 (fun _ => (x_aload_n g 1 dX3_behindEnd_18 rfl rfl
 (x_getS g 1 fl_RX3_11 rfl ht dX3_behindEnd_19
 (x_iload_n g 0 dX3_behindEnd_22 rfl rfl
 (x_iald g (so_3_0 ht) dX3_behindEnd_23
 (x_iconst g dX3_behindEnd_24 kI_1
 (x_icmp_le g 42 dX3_behindEnd_25 rfl
 (fun _ => (x_iload_n g 3 dX3_behindEnd_42 rfl rfl
 (x_iconst g dX3_behindEnd_43 kI_1
 (x_iadd g dX3_behindEnd_44
 (x_iret g hr rfl rfl dX3_behindEnd_45)))))
 (fun _ => (x_aload_n g 1 dX3_behindEnd_28 rfl rfl
 (x_getS g 1 fl_RX3_11 rfl ht dX3_behindEnd_29
 (x_iload_n g 0 dX3_behindEnd_32 rfl rfl
 (x_dup2 g dX3_behindEnd_33 rfl rfl
 (x_iald g (so_3_0 ht) dX3_behindEnd_34
 (x_iconst g dX3_behindEnd_35 kI_1
 (x_isub g dX3_behindEnd_36
 (x_iast g (so_3_0 ht) dX3_behindEnd_37 (x_nmM (fun M2 =>
 (x_iload_n g 0 dX3_behindEnd_38 rfl rfl
 (x_iconst g dX3_behindEnd_39 kI_1
 (x_iadd g dX3_behindEnd_40
 (x_iret g hr rfl rfl dX3_behindEnd_41)))))))))))))))))))))))))))))))))))
def fX3_layDown (t : Nat) (a1 : Nat) (a2 : Int32) (a3 : Int32) (a4 : Int32) (M : Mem) : Option (Unit × Mem) :=
  bd (fX2_layOn a1 a2 a3 a4 M) fun v1 M2 =>
 if v1 = 0 then
 nm (stI M2 t 4 ((M2.1 t 4) + a4)) (fun M4 =>
 some ((), M4))
 else
 nm (stI M2 t 3 ((M2.1 t 3) + (1 : Int32))) (fun M3 =>
 some ((), M3))
set_option maxRecDepth 100000 in
set_option maxHeartbeats 4000000 in
theorem kX3_layDown (t : Nat) (a1 : Nat) (a2 : Int32) (a3 : Int32) (a4 : Int32) (M : Mem) (ht : isO 3 t) (ha1 : isO 2 a1) (l : Launch) (G : GT) {b : (Unit × Mem)} (hE : fX3_layDown t a1 a2 a3 a4 M = some b) : Ok l G yX3_layDown cX3_layDown 5 none 3 84 [.ref t, .ref a1, .int a2, .int a3, .int a4] M ((fun q : Unit × Mem => ((none : Option Value), q.2)) b).1 ((fun q : Unit × Mem => ((none : Option Value), q.2)) b).2 := by
  refine Ok.ofX (pj := (fun q : Unit × Mem => ((none : Option Value), q.2))) (by decide) (Nat.le_of_ble_eq_true rfl) hE (fun J g hr hG hl hR hn => ?_)
  show X J (fun q : Unit × Mem => ((none : Option Value), q.2)) (fX3_layDown t a1 a2 a3 a4 M) 0 [(0, .ref t), (1, .ref a1), (2, .int a2), (3, .int a3), (4, .int a4)] [] M
  unfold fX3_layDown
  exact (x_aload_n g 1 dX3_layDown_0 rfl rfl
 (x_iload_n g 2 dX3_layDown_1 rfl rfl
 (x_iload_n g 3 dX3_layDown_2 rfl rfl
 (x_iload g 4 dX3_layDown_3 rfl
 (x_callVi (As := [.int a2, .int a3, .int a4]) g mv_X2_layOn mi_X2_layOn lk_RX3_89 ha1 (fun b Mh_ hb => kX2_layOn a1 a2 a3 a4 M ha1 _ _ hb) rfl rfl hR ⟨Nat.le_of_ble_eq_true rfl, Nat.le_of_ble_eq_true rfl⟩ (Nat.le_of_ble_eq_true rfl) dX3_layDown_5 (fun v1 M2 =>
 (x_if_ne g 25 dX3_layDown_8 rfl
 (fun _ => (x_aload_n g 0 dX3_layDown_25 rfl rfl
 (x_dup g dX3_layDown_26 rfl
 (x_getI g fl_RX3_25 rfl ht dX3_layDown_27
 (x_iconst g dX3_layDown_30 kI_1
 (x_iadd g dX3_layDown_31
 (x_putI g fp_RX3_25 rfl (Nat.le_of_ble_eq_true rfl) ht dX3_layDown_32 (x_nmM (fun M3 =>
 (x_vret g hr rfl dX3_layDown_35))))))))))
 (fun _ => (x_aload_n g 0 dX3_layDown_11 rfl rfl
 (x_dup g dX3_layDown_12 rfl
 (x_getI g fl_RX3_28 rfl ht dX3_layDown_13
 (x_iload g 4 dX3_layDown_16 rfl
 (x_iadd g dX3_layDown_18
 (x_putI g fp_RX3_28 rfl (Nat.le_of_ble_eq_true rfl) ht dX3_layDown_19 (x_nmM (fun M4 =>
 (x_goto g 35 dX3_layDown_22 rfl
 (x_vret g hr rfl dX3_layDown_35))))))))))))))))))
def fX3_nextDraw (t : Nat) (a1 : Int32) (M : Mem) : Option (Int32 × Mem) :=
  nm (stI M t 7 ((((M.1 t 7) * (2777 : Int32)) + (9551 : Int32)) - (((M.1 t 7) * (2777 : Int32)) + (9551 : Int32)) / (65536 : Int32) * (65536 : Int32))) (fun M1 =>
 if a1 ≤ 0 then
 some ((0 : Int32), M1)
 else
 if ¬ a1 = 0 then
 some ((((M1.1 t 7) / (8 : Int32)) - ((M1.1 t 7) / (8 : Int32)) / a1 * a1), M1)
 else none)
set_option maxRecDepth 100000 in
set_option maxHeartbeats 4000000 in
theorem kX3_nextDraw (t : Nat) (a1 : Int32) (M : Mem) (ht : isO 3 t) (l : Launch) (G : GT) {b : (Int32 × Mem)} (hE : fX3_nextDraw t a1 M = some b) : Ok l G yX3_nextDraw cX3_nextDraw 2 (some .int) 0 0 [.ref t, .int a1] M ((fun q : Int32 × Mem => (some (Value.int q.1), q.2)) b).1 ((fun q : Int32 × Mem => (some (Value.int q.1), q.2)) b).2 := by
  refine Ok.ofX (pj := (fun q : Int32 × Mem => (some (Value.int q.1), q.2))) (by decide) (Nat.le_of_ble_eq_true rfl) hE (fun J g hr hG hl hR hn => ?_)
  show X J (fun q : Int32 × Mem => (some (Value.int q.1), q.2)) (fX3_nextDraw t a1 M) 0 [(0, .ref t), (1, .int a1)] [] M
  unfold fX3_nextDraw
  exact (x_aload_n g 0 dX3_nextDraw_0 rfl rfl
 (x_aload_n g 0 dX3_nextDraw_1 rfl rfl
 (x_getI g fl_RX3_37 rfl ht dX3_nextDraw_2
 (x_sipush g dX3_nextDraw_5 kS_2777
 (x_imul g dX3_nextDraw_8
 (x_sipush g dX3_nextDraw_9 kS_9551
 (x_iadd g dX3_nextDraw_12
 (x_ldc g cw_RX3_100 dX3_nextDraw_13
 (x_irem g dX3_nextDraw_15 (by decide)
 (x_putI g fp_RX3_37 rfl (Nat.le_of_ble_eq_true rfl) ht dX3_nextDraw_16 (x_nmM (fun M1 =>
 (x_iload_n g 1 dX3_nextDraw_19 rfl rfl
 (x_if_le g 35 dX3_nextDraw_20 rfl
 (fun _ => (x_iconst g dX3_nextDraw_35 kI_0
 (x_iret g hr rfl rfl dX3_nextDraw_36)))
 (fun _ => (x_aload_n g 0 dX3_nextDraw_23 rfl rfl
 (x_getI g fl_RX3_37 rfl ht dX3_nextDraw_24
 (x_bipush g dX3_nextDraw_27 kB_8
 (x_idiv g dX3_nextDraw_29 (by decide)
 (x_iload_n g 1 dX3_nextDraw_30 rfl rfl
 (x_ck (fun hq2 => x_irem g dX3_nextDraw_31 hq2
 (x_goto g 36 dX3_nextDraw_32 rfl
 (x_iret g hr rfl rfl dX3_nextDraw_36))))))))))))))))))))))))
def lX3_storm_2 (φ : Nat) (t : Nat) (xr1 : Nat) (x2 : Int32) : Nat → Int32 → Mem → Option (Unit × Mem)
  | 0, _, _ => none
  | n + 1, x3, M =>
    if (M.1 xr1 4) ≤ x3 then
 some ((), M)
 else
 bd (fX3_nextDraw t x2 M) fun v1 M2 =>
 jn (fun (M3 : Mem) => lX3_storm_2 φ t xr1 x2 n (x3 + 1) M3) (fun J4 => if v1 ≤ 0 then
 J4 M2
 else
 bd (fX2_wearOff φ xr1 x3 v1 M2) fun v5 M6 =>
 nm (stI M6 t 5 ((M2.1 t 5) + v5)) (fun M7 =>
 J4 M7))
theorem lX3_storm_2_s (φ : Nat) (t : Nat) (xr1 : Nat) (x2 : Int32) (n : Nat) (x3 : Int32) (M : Mem) : lX3_storm_2 φ t xr1 x2 (n + 1) x3 M =
    if (M.1 xr1 4) ≤ x3 then
 some ((), M)
 else
 bd (fX3_nextDraw t x2 M) fun v1 M2 =>
 jn (fun (M3 : Mem) => lX3_storm_2 φ t xr1 x2 n (x3 + 1) M3) (fun J4 => if v1 ≤ 0 then
 J4 M2
 else
 bd (fX2_wearOff φ xr1 x3 v1 M2) fun v5 M6 =>
 nm (stI M6 t 5 ((M2.1 t 5) + v5)) (fun M7 =>
 J4 M7)) := rfl
theorem lX3_storm_2_0 (φ : Nat) (t : Nat) (xr1 : Nat) (x2 : Int32) (x3 : Int32) (M : Mem) : lX3_storm_2 φ t xr1 x2 0 x3 M = none := rfl
set_option maxRecDepth 100000 in
set_option maxHeartbeats 4000000 in
theorem wlX3_storm_2 {J : JT} (g : Gd J cX3_storm RX3) (hr : Rt J none) (hR : (JR J).frames = 2 ∧ (JR J).locals = 87) (hn : Jn J = 5) (φ : Nat) (t : Nat) (xr1 : Nat) (x2 : Int32) (ht : isO 3 t) (hxr1 : isO 2 xr1) : ∀ (n : Nat) (x3 : Int32) (M : Mem), X J (fun q : Unit × Mem => ((none : Option Value), q.2)) (lX3_storm_2 φ t xr1 x2 n x3 M) 2 [(0, .ref t), (1, .ref xr1), (2, .int x2), (3, .int x3)] [] M := by
  intro n
  induction n with
  | zero =>
    intro x3 M
    exact x_none
  | succ n ih =>
    intro x3 M
    rw [lX3_storm_2_s]
    exact (x_iload_n g 3 dX3_storm_2 rfl rfl
 (x_aload_n g 1 dX3_storm_3 rfl rfl
 (x_getI g fl_RX3_93 rfl hxr1 dX3_storm_4
 (x_icmp_ge g 44 dX3_storm_7 rfl
 (fun _ => (x_vret g hr rfl dX3_storm_44))
 (fun _ => (x_aload_n g 0 dX3_storm_10 rfl rfl
 (x_iload_n g 2 dX3_storm_11 rfl rfl
 (x_callVi (As := [.int x2]) g mv_X3_nextDraw mi_X3_nextDraw lk_RX3_96 ht (fun b Mh_ hb => kX3_nextDraw t x2 M ht _ _ hb) rfl rfl hR ⟨Nat.le_of_ble_eq_true rfl, Nat.le_of_ble_eq_true rfl⟩ (Nat.le_of_ble_eq_true rfl) dX3_storm_12 (fun v1 M2 =>
 (x_istore (L' := [(4, .int v1), (0, .ref t), (1, .ref xr1), (2, .int x2), (3, .int x3)]) g dX3_storm_15 hn (Nat.le_of_ble_eq_true rfl) rfl
 (x_iload g 0 dX3_storm_17 rfl
 (x_jn (fun (J4 : Mem → Option (Unit × Mem)) => ∀ (M3 : Mem), X J (fun q : Unit × Mem => ((none : Option Value), q.2)) (J4 M3) 38 [(0, .ref t), (1, .ref xr1), (2, .int x2), (3, .int x3)] [] M3) (fun M3 => (x_iinc (L' := [(3, .int (x3 + 1)), (0, .ref t), (1, .ref xr1), (2, .int x2)]) (v := (x3 + 1)) g 3 dX3_storm_38 rfl (by rw [kI_1]) hn (Nat.le_of_ble_eq_true rfl) rfl
 (x_goto g 2 dX3_storm_41 rfl
 (x_sub [1, 2, 3, 0] rfl (ih (x3 + 1) M3))))) (fun J4 hJ4 => (x_if_le g 38 dX3_storm_19 rfl
 (fun _ => (x_sub [1, 2, 3, 4] rfl (hJ4 M2)))
 (fun _ => (x_aload_n g 1 dX3_storm_22 rfl rfl
 (x_dup g dX3_storm_23 rfl
 (x_getI g fl_RX3_31 rfl ht dX3_storm_24
 (x_aload_n g 2 dX3_storm_27 rfl rfl
 (x_iload_n g 4 dX3_storm_28 rfl rfl
 (x_iload g 0 dX3_storm_29 rfl
 (x_callVi (As := [.int x3, .int v1]) g mv_X2_wearOff mi_X2_wearOff lk_RX3_71 hxr1 (fun b Mh_ hb => kX2_wearOff φ xr1 x3 v1 M2 hxr1 _ _ hb) rfl rfl hR ⟨Nat.le_of_ble_eq_true rfl, Nat.le_of_ble_eq_true rfl⟩ (Nat.le_of_ble_eq_true rfl) dX3_storm_31 (fun v5 M6 =>
 (x_iadd g dX3_storm_34
 (x_putI g fp_RX3_31 rfl (Nat.le_of_ble_eq_true rfl) ht dX3_storm_35 (x_nmM (fun M7 =>
 (x_sub [1, 2, 3, 4] rfl (hJ4 M7)))))))))))))))))))))))))))))
def fX3_storm (φ : Nat) (t : Nat) (a1 : Nat) (a2 : Int32) (M : Mem) : Option (Unit × Mem) :=
  lX3_storm_2 φ t a1 a2 φ (0 : Int32) M
set_option maxRecDepth 100000 in
set_option maxHeartbeats 4000000 in
theorem kX3_storm (φ : Nat) (t : Nat) (a1 : Nat) (a2 : Int32) (M : Mem) (ht : isO 3 t) (ha1 : isO 2 a1) (l : Launch) (G : GT) {b : (Unit × Mem)} (hE : fX3_storm φ t a1 a2 M = some b) : Ok l G yX3_storm cX3_storm 5 none 2 87 [.ref t, .ref a1, .int a2] M ((fun q : Unit × Mem => ((none : Option Value), q.2)) b).1 ((fun q : Unit × Mem => ((none : Option Value), q.2)) b).2 := by
  refine Ok.ofX (pj := (fun q : Unit × Mem => ((none : Option Value), q.2))) (by decide) (Nat.le_of_ble_eq_true rfl) hE (fun J g hr hG hl hR hn => ?_)
  show X J (fun q : Unit × Mem => ((none : Option Value), q.2)) (fX3_storm φ t a1 a2 M) 0 [(0, .ref t), (1, .ref a1), (2, .int a2)] [] M
  unfold fX3_storm
  exact (x_iconst g dX3_storm_0 kI_0
 (x_istore_n (L' := [(3, .int (0 : Int32)), (0, .ref t), (1, .ref a1), (2, .int a2)]) g dX3_storm_1 rfl hn (Nat.le_of_ble_eq_true rfl) rfl
 (x_sub [1, 2, 3, 0] rfl (wlX3_storm_2 g hr hR hn  φ t a1 a2 ht ha1 φ (0 : Int32) M))))
def fX3_move (t : Nat) (a1 : Nat) (a2 : Int32) (a3 : Int32) (M : Mem) : Option (Unit × Mem) :=
  ixk a2 2 (
 if ((M.1 (a1 + 13) a2.toNatClampNeg) + a3) ≤ (999 : Int32) then
 ixk a2 2 (
 ixk a2 2 (nm (stI M (a1 + 13) a2.toNatClampNeg ((M.1 (a1 + 13) a2.toNatClampNeg) + a3)) (fun M1 =>
 some ((), M1))))
 else
 nm (stI M t 3 ((M.1 t 3) + (1 : Int32))) (fun M2 =>
 some ((), M2)))
set_option maxRecDepth 100000 in
set_option maxHeartbeats 4000000 in
theorem kX3_move (t : Nat) (a1 : Nat) (a2 : Int32) (a3 : Int32) (M : Mem) (ht : isO 3 t) (ha1 : isO 2 a1) (l : Launch) (G : GT) {b : (Unit × Mem)} (hE : fX3_move t a1 a2 a3 M = some b) : Ok l G yX3_move cX3_move 4 none 0 0 [.ref t, .ref a1, .int a2, .int a3] M ((fun q : Unit × Mem => ((none : Option Value), q.2)) b).1 ((fun q : Unit × Mem => ((none : Option Value), q.2)) b).2 := by
  refine Ok.ofX (pj := (fun q : Unit × Mem => ((none : Option Value), q.2))) (by decide) (Nat.le_of_ble_eq_true rfl) hE (fun J g hr hG hl hR hn => ?_)
  show X J (fun q : Unit × Mem => ((none : Option Value), q.2)) (fX3_move t a1 a2 a3 M) 0 [(0, .ref t), (1, .ref a1), (2, .int a2), (3, .int a3)] [] M
  unfold fX3_move
  exact (x_aload_n g 1 dX3_move_0 rfl rfl
 (x_getS g 13 fl_RX3_101 rfl ha1 dX3_move_1
 (x_iload_n g 2 dX3_move_4 rfl rfl
 (x_iald g (so_2_16 ha1) dX3_move_5
 (x_iload_n g 3 dX3_move_6 rfl rfl
 (x_iadd g dX3_move_7
 (x_sipush g dX3_move_8 kS_999
 (x_icmp_le g 27 dX3_move_11 rfl
 (fun _ => (x_aload_n g 1 dX3_move_27 rfl rfl
 (x_getS g 13 fl_RX3_101 rfl ha1 dX3_move_28
 (x_iload_n g 2 dX3_move_31 rfl rfl
 (x_dup2 g dX3_move_32 rfl rfl
 (x_iald g (so_2_16 ha1) dX3_move_33
 (x_iload_n g 3 dX3_move_34 rfl rfl
 (x_iadd g dX3_move_35
 (x_iast g (so_2_16 ha1) dX3_move_36 (x_nmM (fun M1 =>
 (x_vret g hr rfl dX3_move_37))))))))))))
 (fun _ => (x_aload_n g 0 dX3_move_14 rfl rfl
 (x_dup g dX3_move_15 rfl
 (x_getI g fl_RX3_25 rfl ht dX3_move_16
 (x_iconst g dX3_move_19 kI_1
 (x_iadd g dX3_move_20
 (x_putI g fp_RX3_25 rfl (Nat.le_of_ble_eq_true rfl) ht dX3_move_21 (x_nmM (fun M2 =>
 (x_goto g 37 dX3_move_24 rfl
 (x_vret g hr rfl dX3_move_37)))))))))))))))))))
def lX2_hasRock_2 (t : Nat) (x1 : Int32) (x2 : Int32) (M : Mem) : Nat → Int32 → Option Int32
  | 0, _ => none
  | n + 1, x3 =>
    ixk x1 6 (
 if (M.1 (t + 7) x1.toNatClampNeg) ≤ x3 then
 some (0 : Int32)
 else
 (fX10_slot x1 x3 M).bind fun v1 =>
 ixk v1 72 (
 if (M.1 (t + 8) v1.toNatClampNeg) = x2 then
 some (1 : Int32)
 else
 lX2_hasRock_2 t x1 x2 M n (x3 + 1)))
theorem lX2_hasRock_2_s (t : Nat) (x1 : Int32) (x2 : Int32) (M : Mem) (n : Nat) (x3 : Int32) : lX2_hasRock_2 t x1 x2 M (n + 1) x3 =
    ixk x1 6 (
 if (M.1 (t + 7) x1.toNatClampNeg) ≤ x3 then
 some (0 : Int32)
 else
 (fX10_slot x1 x3 M).bind fun v1 =>
 ixk v1 72 (
 if (M.1 (t + 8) v1.toNatClampNeg) = x2 then
 some (1 : Int32)
 else
 lX2_hasRock_2 t x1 x2 M n (x3 + 1))) := rfl
theorem lX2_hasRock_2_0 (t : Nat) (x1 : Int32) (x2 : Int32) (M : Mem) (x3 : Int32) : lX2_hasRock_2 t x1 x2 M 0 x3 = none := rfl
set_option maxRecDepth 100000 in
set_option maxHeartbeats 4000000 in
theorem wlX2_hasRock_2 {J : JT} (g : Gd J cX2_hasRock RX2) (hr : Rt J (some .boolean)) (hR : (JR J).frames = 1 ∧ (JR J).locals = 21) (hn : Jn J = 4) (t : Nat) (x1 : Int32) (x2 : Int32) (M : Mem) (ht : isO 2 t) : ∀ (n : Nat) (x3 : Int32), X J (fun b : Int32 => (some (Value.int b), M)) (lX2_hasRock_2 t x1 x2 M n x3) 2 [(0, .ref t), (1, .int x1), (2, .int x2), (3, .int x3)] [] M := by
  intro n
  induction n with
  | zero =>
    intro x3
    exact x_none
  | succ n ih =>
    intro x3
    rw [lX2_hasRock_2_s]
    exact (x_iload_n g 3 dX2_hasRock_2 rfl rfl
 (x_aload_n g 0 dX2_hasRock_3 rfl rfl
 (x_getS g 7 fl_RX2_38 rfl ht dX2_hasRock_4
 (x_iload_n g 1 dX2_hasRock_7 rfl rfl
 (x_iald g (so_2_8 ht) dX2_hasRock_8
 (x_icmp_ge g 34 dX2_hasRock_9 rfl
 (fun _ => (x_iconst g dX2_hasRock_34 kI_0
 (x_iret g hr rfl rfl dX2_hasRock_35)))
 (fun _ => (x_aload_n g 0 dX2_hasRock_12 rfl rfl
 (x_getS g 8 fl_RX2_41 rfl ht dX2_hasRock_13
 (x_iload_n g 1 dX2_hasRock_16 rfl rfl
 (x_iload_n g 3 dX2_hasRock_17 rfl rfl
 (x_callSip (As := [.int x1, .int x3]) g mv_X10_slot ms_X10_slot lk_RX2_93 (fun b hb => kX10_slot x1 x3 M _ _ hb) rfl rfl hR ⟨Nat.le_of_ble_eq_true rfl, Nat.le_of_ble_eq_true rfl⟩ (Nat.le_of_ble_eq_true rfl) dX2_hasRock_18 (fun v1 =>
 (x_iald g (so_2_9 ht) dX2_hasRock_21
 (x_iload_n g 2 dX2_hasRock_22 rfl rfl
 (x_icmp_ne g 28 dX2_hasRock_23 rfl
 (fun _ => (x_iinc (L' := [(3, .int (x3 + 1)), (0, .ref t), (1, .int x1), (2, .int x2)]) (v := (x3 + 1)) g 3 dX2_hasRock_28 rfl (by rw [kI_1]) hn (Nat.le_of_ble_eq_true rfl) rfl
 (x_goto g 2 dX2_hasRock_31 rfl
 (x_sub [1, 2, 3, 0] rfl (ih (x3 + 1))))))
 (fun _ => (x_iconst g dX2_hasRock_26 kI_1
 (x_iret g hr rfl rfl dX2_hasRock_27)))))))))))))))))))
def fX2_hasRock (φ : Nat) (t : Nat) (a1 : Int32) (a2 : Int32) (M : Mem) : Option Int32 :=
  lX2_hasRock_2 t a1 a2 M φ (0 : Int32)
set_option maxRecDepth 100000 in
set_option maxHeartbeats 4000000 in
theorem kX2_hasRock (φ : Nat) (t : Nat) (a1 : Int32) (a2 : Int32) (M : Mem) (ht : isO 2 t) (l : Launch) (G : GT) {b : Int32} (hE : fX2_hasRock φ t a1 a2 M = some b) : Ok l G yX2_hasRock cX2_hasRock 4 (some .boolean) 1 21 [.ref t, .int a1, .int a2] M ((fun b : Int32 => (some (Value.int b), M)) b).1 ((fun b : Int32 => (some (Value.int b), M)) b).2 := by
  refine Ok.ofX (pj := (fun b : Int32 => (some (Value.int b), M))) (by decide) (Nat.le_of_ble_eq_true rfl) hE (fun J g hr hG hl hR hn => ?_)
  show X J (fun b : Int32 => (some (Value.int b), M)) (fX2_hasRock φ t a1 a2 M) 0 [(0, .ref t), (1, .int a1), (2, .int a2)] [] M
  unfold fX2_hasRock
  exact (x_iconst g dX2_hasRock_0 kI_0
 (x_istore_n (L' := [(3, .int (0 : Int32)), (0, .ref t), (1, .int a1), (2, .int a2)]) g dX2_hasRock_1 rfl hn (Nat.le_of_ble_eq_true rfl) rfl
 (x_sub [1, 2, 3, 0] rfl (wlX2_hasRock_2 g hr hR hn  t a1 a2 M ht φ (0 : Int32)))))
def fX3_compares (a1 : Int32) (a2 : Int32) (a3 : Int32) (M : Mem) : Option Int32 :=
  if a2 = (60 : Int32) then
 if a3 ≤ a1 then
 some (0 : Int32)
 else
 some (1 : Int32)
 else
 if a2 = (62 : Int32) then
 if a1 ≤ a3 then
 some (0 : Int32)
 else
 some (1 : Int32)
 else
 if a1 = a3 then
 some (1 : Int32)
 else
 some (0 : Int32)
set_option maxRecDepth 100000 in
set_option maxHeartbeats 4000000 in
theorem kX3_compares (a1 : Int32) (a2 : Int32) (a3 : Int32) (M : Mem) (l : Launch) (G : GT) {b : Int32} (hE : fX3_compares a1 a2 a3 M = some b) : Ok l G yX3_compares cX3_compares 3 (some .boolean) 0 0 [.int a1, .int a2, .int a3] M ((fun b : Int32 => (some (Value.int b), M)) b).1 ((fun b : Int32 => (some (Value.int b), M)) b).2 := by
  refine Ok.ofX (pj := (fun b : Int32 => (some (Value.int b), M))) (by decide) (Nat.le_of_ble_eq_true rfl) hE (fun J g hr hG hl hR hn => ?_)
  show X J (fun b : Int32 => (some (Value.int b), M)) (fX3_compares a1 a2 a3 M) 0 [(0, .int a1), (1, .int a2), (2, .int a3)] [] M
  unfold fX3_compares
  exact (x_iload_n g 1 dX3_compares_0 rfl rfl
 (x_bipush g dX3_compares_1 kB_60
 (x_icmp_ne g 17 dX3_compares_3 rfl
 (fun _ => (x_iload_n g 1 dX3_compares_17 rfl rfl
 (x_bipush g dX3_compares_18 kB_62
 (x_icmp_ne g 36 dX3_compares_20 rfl
 (fun _ => (x_iload_n g 0 dX3_compares_36 rfl rfl
 (x_iload_n g 2 dX3_compares_37 rfl rfl
 (x_icmp_ne g 45 dX3_compares_38 rfl
 (fun _ => (x_iconst g dX3_compares_45 kI_0
 (x_iret g hr rfl rfl dX3_compares_46)))
 (fun _ => (x_iconst g dX3_compares_41 kI_1
 (x_goto g 46 dX3_compares_42 rfl
 (x_iret g hr rfl rfl dX3_compares_46))))))))
 (fun _ => (x_iload_n g 0 dX3_compares_23 rfl rfl
 (x_iload_n g 2 dX3_compares_24 rfl rfl
 (x_icmp_le g 32 dX3_compares_25 rfl
 (fun _ => (x_iconst g dX3_compares_32 kI_0
 (x_goto g 46 dX3_compares_33 rfl
 (x_iret g hr rfl rfl dX3_compares_46))))
 (fun _ => (x_iconst g dX3_compares_28 kI_1
 (x_goto g 46 dX3_compares_29 rfl
 (x_iret g hr rfl rfl dX3_compares_46))))))))))))
 (fun _ => (x_iload_n g 0 dX3_compares_6 rfl rfl
 (x_iload_n g 2 dX3_compares_7 rfl rfl
 (x_icmp_ge g 15 dX3_compares_8 rfl
 (fun _ => (x_iconst g dX3_compares_15 kI_0
 (x_iret g hr rfl rfl dX3_compares_16)))
 (fun _ => (x_iconst g dX3_compares_11 kI_1
 (x_goto g 16 dX3_compares_12 rfl
 (x_iret g hr rfl rfl dX3_compares_16)))))))))))
def fX3_holds (φ : Nat) (a1 : Nat) (a2 : Int32) (a3 : Nat) (M : Mem) : Option Int32 :=
  ixk a2 60 (
 nm (M.1 (a1 + 2) a2.toNatClampNeg) (fun v1 =>
 ixk a2 60 (
 if (M.1 (a1 + 1) a2.toNatClampNeg) = 19 then
 ixk a2 60 (
 (fX2_hasRock φ a3 v1 (M.1 (a1 + 3) a2.toNatClampNeg) M).bind fun v10 =>
 if v10 = 0 ∨ v10 = 1 then some v10 else none)
 else
 if (M.1 (a1 + 1) a2.toNatClampNeg) = 20 then
 ixk a2 60 (
 (fX2_hasRockOnTop a3 v1 (M.1 (a1 + 3) a2.toNatClampNeg) M).bind fun v7 =>
 if v7 = 0 ∨ v7 = 1 then some v7 else none)
 else
 (fX2_allThick φ a3 v1 M).bind fun v2 =>
 ixk a2 60 (
 ixk a2 60 (
 (fX3_compares v2 (M.1 (a1 + 3) a2.toNatClampNeg) (M.1 (a1 + 4) a2.toNatClampNeg) M).bind fun v3 =>
 if v3 = 0 ∨ v3 = 1 then some v3 else none)))))
set_option maxRecDepth 100000 in
set_option maxHeartbeats 4000000 in
theorem kX3_holds (φ : Nat) (a1 : Nat) (a2 : Int32) (a3 : Nat) (M : Mem) (ha1 : isO 8 a1) (ha3 : isO 2 a3) (l : Launch) (G : GT) {b : Int32} (hE : fX3_holds φ a1 a2 a3 M = some b) : Ok l G yX3_holds cX3_holds 4 (some .boolean) 3 66 [.ref a1, .int a2, .ref a3] M ((fun b : Int32 => (some (Value.int b), M)) b).1 ((fun b : Int32 => (some (Value.int b), M)) b).2 := by
  refine Ok.ofX (pj := (fun b : Int32 => (some (Value.int b), M))) (by decide) (Nat.le_of_ble_eq_true rfl) hE (fun J g hr hG hl hR hn => ?_)
  show X J (fun b : Int32 => (some (Value.int b), M)) (fX3_holds φ a1 a2 a3 M) 0 [(0, .ref a1), (1, .int a2), (2, .ref a3)] [] M
  unfold fX3_holds
  exact (x_aload_n g 0 dX3_holds_0 rfl rfl
 (x_getS g 2 fl_RX3_58 rfl ha1 dX3_holds_1
 (x_iload_n g 1 dX3_holds_4 rfl rfl
 (x_iald g (so_8_4 ha1) dX3_holds_5
 (x_nmI (fun v1 => (x_istore_n (L' := [(3, .int v1), (0, .ref a1), (1, .int a2), (2, .ref a3)]) g dX3_holds_6 rfl hn (Nat.le_of_ble_eq_true rfl) rfl
 (x_aload_n g 1 dX3_holds_7 rfl rfl
 (x_getS g 1 fl_RX3_44 rfl ha1 dX3_holds_8
 (x_iload_n g 2 dX3_holds_11 rfl rfl
 (x_iald g (so_8_3 ha1) dX3_holds_12
 (x_if (fun he12 => x_look (off := 27) g 40 dX3_holds_13 rfl (by rw [he12]; rfl) rfl
 (x_aload_n g 3 dX3_holds_40 rfl rfl
 (x_iload_n g 0 dX3_holds_41 rfl rfl
 (x_aload_n g 1 dX3_holds_42 rfl rfl
 (x_getS g 3 fl_RX3_61 rfl ha1 dX3_holds_43
 (x_iload_n g 2 dX3_holds_46 rfl rfl
 (x_iald g (so_8_5 ha1) dX3_holds_47
 (x_callVip (As := [.int v1, .int (M.1 (a1 + 3) a2.toNatClampNeg)]) g mv_X2_hasRock mi_X2_hasRock lk_RX3_104 ha3 (fun b hb => kX2_hasRock φ a3 v1 (M.1 (a1 + 3) a2.toNatClampNeg) M ha3 _ _ hb) rfl rfl hR ⟨Nat.le_of_ble_eq_true rfl, Nat.le_of_ble_eq_true rfl⟩ (Nat.le_of_ble_eq_true rfl) dX3_holds_48 (fun v10 =>
 (x_ck (fun hq11 => x_iret g hr (nbz hq11) rfl dX3_holds_51))))))))))) (fun hq5 => (x_if (fun he9 => x_look (off := 39) g 52 dX3_holds_13 rfl (by rw [he9]; rfl) rfl
 (x_aload_n g 3 dX3_holds_52 rfl rfl
 (x_iload_n g 0 dX3_holds_53 rfl rfl
 (x_aload_n g 1 dX3_holds_54 rfl rfl
 (x_getS g 3 fl_RX3_61 rfl ha1 dX3_holds_55
 (x_iload_n g 2 dX3_holds_58 rfl rfl
 (x_iald g (so_8_5 ha1) dX3_holds_59
 (x_callVip (As := [.int v1, .int (M.1 (a1 + 3) a2.toNatClampNeg)]) g mv_X2_hasRockOnTop mi_X2_hasRockOnTop lk_RX3_108 ha3 (fun b hb => kX2_hasRockOnTop a3 v1 (M.1 (a1 + 3) a2.toNatClampNeg) M ha3 _ _ hb) rfl rfl hR ⟨Nat.le_of_ble_eq_true rfl, Nat.le_of_ble_eq_true rfl⟩ (Nat.le_of_ble_eq_true rfl) dX3_holds_60 (fun v7 =>
 (x_ck (fun hq8 => x_iret g hr (nbz hq8) rfl dX3_holds_63))))))))))) (fun hq6 => (x_look (off := 51) g 64 dX3_holds_13 rfl (by show Op.lookupswitch.offset (_ :: _) _ _ = _; rw [lv_osw (a := 19) hq5 (by decide), lv_osw (a := 20) hq6 (by decide)]; rfl) rfl
 (x_aload_n g 3 dX3_holds_64 rfl rfl
 (x_iload_n g 0 dX3_holds_65 rfl rfl
 (x_callVip (As := [.int v1]) g mv_X2_allThick mi_X2_allThick lk_RX3_111 ha3 (fun b hb => kX2_allThick φ a3 v1 M ha3 _ _ hb) rfl rfl hR ⟨Nat.le_of_ble_eq_true rfl, Nat.le_of_ble_eq_true rfl⟩ (Nat.le_of_ble_eq_true rfl) dX3_holds_66 (fun v2 =>
 (x_aload_n g 1 dX3_holds_69 rfl rfl
 (x_getS g 3 fl_RX3_61 rfl ha1 dX3_holds_70
 (x_iload_n g 2 dX3_holds_73 rfl rfl
 (x_iald g (so_8_5 ha1) dX3_holds_74
 (x_aload_n g 1 dX3_holds_75 rfl rfl
 (x_getS g 4 fl_RX3_64 rfl ha1 dX3_holds_76
 (x_iload_n g 2 dX3_holds_79 rfl rfl
 (x_iald g (so_8_6 ha1) dX3_holds_80
 (x_callSip (As := [.int v2, .int (M.1 (a1 + 3) a2.toNatClampNeg), .int (M.1 (a1 + 4) a2.toNatClampNeg)]) g mv_X3_compares ms_X3_compares lk_RX3_114 (fun b hb => kX3_compares v2 (M.1 (a1 + 3) a2.toNatClampNeg) (M.1 (a1 + 4) a2.toNatClampNeg) M _ _ hb) rfl rfl hR ⟨Nat.le_of_ble_eq_true rfl, Nat.le_of_ble_eq_true rfl⟩ (Nat.le_of_ble_eq_true rfl) dX3_holds_81 (fun v3 =>
 (x_ck (fun hq4 => x_iret g hr (nbz hq4) rfl dX3_holds_84))))))))))))))))))))))))))))))))
