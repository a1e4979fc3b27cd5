theorem dX11_fill_0 : decode cX11_fill 0 = .ok (.aload_n 0, 1) := by decide +kernel
theorem dX11_fill_1 : decode cX11_fill 1 = .ok (.iload_n 1, 1) := by decide +kernel
theorem dX11_fill_2 : decode cX11_fill 2 = .ok (.iload_n 2, 1) := by decide +kernel
theorem dX11_fill_3 : decode cX11_fill 3 = .ok (.ldc2_w 420, 3) := by decide +kernel
theorem dX11_fill_6 : decode cX11_fill 6 = .ok (.invokevirtual 422, 3) := by decide +kernel
theorem dX11_fill_9 : decode cX11_fill 9 = .ok (.istore_n 3, 1) := by decide +kernel
theorem dX11_fill_10 : decode cX11_fill 10 = .ok (.iload_n 3, 1) := by decide +kernel
theorem dX11_fill_11 : decode cX11_fill 11 = .ok (.ifCond .le 9, 3) := by decide +kernel
theorem dX11_fill_14 : decode cX11_fill 14 = .ok (.aload_n 0, 1) := by decide +kernel
theorem dX11_fill_15 : decode cX11_fill 15 = .ok (.iload_n 3, 1) := by decide +kernel
theorem dX11_fill_16 : decode cX11_fill 16 = .ok (.invokevirtual 102, 3) := by decide +kernel
theorem dX11_fill_19 : decode cX11_fill 19 = .ok (.ireturn, 1) := by decide +kernel
theorem dX11_fill_20 : decode cX11_fill 20 = .ok (.iconst 0, 1) := by decide +kernel
theorem dX11_fill_21 : decode cX11_fill 21 = .ok (.istore 4, 2) := by decide +kernel
theorem dX11_fill_23 : decode cX11_fill 23 = .ok (.iconst 1, 1) := by decide +kernel
theorem dX11_fill_24 : decode cX11_fill 24 = .ok (.istore 5, 2) := by decide +kernel
theorem dX11_fill_26 : decode cX11_fill 26 = .ok (.iload 5, 2) := by decide +kernel
theorem dX11_fill_28 : decode cX11_fill 28 = .ok (.iload_n 2, 1) := by decide +kernel
theorem dX11_fill_29 : decode cX11_fill 29 = .ok (.if_icmp .ge 66, 3) := by decide +kernel
theorem dX11_fill_32 : decode cX11_fill 32 = .ok (.aload_n 0, 1) := by decide +kernel
theorem dX11_fill_33 : decode cX11_fill 33 = .ok (.iload_n 1, 1) := by decide +kernel
theorem dX11_fill_34 : decode cX11_fill 34 = .ok (.iload 5, 2) := by decide +kernel
theorem dX11_fill_36 : decode cX11_fill 36 = .ok (.invokevirtual 415, 3) := by decide +kernel
theorem dX11_fill_39 : decode cX11_fill 39 = .ok (.ldc2_w 124, 3) := by decide +kernel
theorem dX11_fill_42 : decode cX11_fill 42 = .ok (.lcmp, 1) := by decide +kernel
theorem dX11_fill_43 : decode cX11_fill 43 = .ok (.ifCond .ne 46, 3) := by decide +kernel
theorem dX11_fill_46 : decode cX11_fill 46 = .ok (.aload_n 0, 1) := by decide +kernel
theorem dX11_fill_47 : decode cX11_fill 47 = .ok (.iload_n 1, 1) := by decide +kernel
theorem dX11_fill_48 : decode cX11_fill 48 = .ok (.iload 5, 2) := by decide +kernel
theorem dX11_fill_50 : decode cX11_fill 50 = .ok (.iconst 1, 1) := by decide +kernel
theorem dX11_fill_51 : decode cX11_fill 51 = .ok (.isub, 1) := by decide +kernel
theorem dX11_fill_52 : decode cX11_fill 52 = .ok (.invokevirtual 415, 3) := by decide +kernel
theorem dX11_fill_55 : decode cX11_fill 55 = .ok (.ldc2_w 124, 3) := by decide +kernel
theorem dX11_fill_58 : decode cX11_fill 58 = .ok (.lcmp, 1) := by decide +kernel
theorem dX11_fill_59 : decode cX11_fill 59 = .ok (.ifCond .ne 6, 3) := by decide +kernel
theorem dX11_fill_62 : decode cX11_fill 62 = .ok (.goto 27, 3) := by decide +kernel
theorem dX11_fill_65 : decode cX11_fill 65 = .ok (.aload_n 0, 1) := by decide +kernel
theorem dX11_fill_66 : decode cX11_fill 66 = .ok (.getfield 27, 3) := by decide +kernel
theorem dX11_fill_69 : decode cX11_fill 69 = .ok (.bipush 60, 2) := by decide +kernel
theorem dX11_fill_71 : decode cX11_fill 71 = .ok (.iload_n 1, 1) := by decide +kernel
theorem dX11_fill_72 : decode cX11_fill 72 = .ok (.imul, 1) := by decide +kernel
theorem dX11_fill_73 : decode cX11_fill 73 = .ok (.iload 5, 2) := by decide +kernel
theorem dX11_fill_75 : decode cX11_fill 75 = .ok (.iadd, 1) := by decide +kernel
theorem dX11_fill_76 : decode cX11_fill 76 = .ok (.aload_n 0, 1) := by decide +kernel
theorem dX11_fill_77 : decode cX11_fill 77 = .ok (.iload_n 1, 1) := by decide +kernel
theorem dX11_fill_78 : decode cX11_fill 78 = .ok (.iload 5, 2) := by decide +kernel
theorem dX11_fill_80 : decode cX11_fill 80 = .ok (.iconst 1, 1) := by decide +kernel
theorem dX11_fill_81 : decode cX11_fill 81 = .ok (.isub, 1) := by decide +kernel
theorem dX11_fill_82 : decode cX11_fill 82 = .ok (.invokevirtual 415, 3) := by decide +kernel
theorem dX11_fill_85 : decode cX11_fill 85 = .ok (.lastore, 1) := by decide +kernel
theorem dX11_fill_86 : decode cX11_fill 86 = .ok (.iinc 4 1, 3) := by decide +kernel
theorem dX11_fill_89 : decode cX11_fill 89 = .ok (.iinc 5 1, 3) := by decide +kernel
theorem dX11_fill_92 : decode cX11_fill 92 = .ok (.goto (-66), 3) := by decide +kernel
theorem dX11_fill_95 : decode cX11_fill 95 = .ok (.aload_n 0, 1) := by decide +kernel
theorem dX11_fill_96 : decode cX11_fill 96 = .ok (.iload 4, 2) := by decide +kernel
theorem dX11_fill_98 : decode cX11_fill 98 = .ok (.invokevirtual 106, 3) := by decide +kernel
theorem dX11_fill_101 : decode cX11_fill 101 = .ok (.ireturn, 1) := by decide +kernel
theorem dX11_runs_0 : decode cX11_runs 0 = .ok (.aload_n 0, 1) := by decide +kernel
theorem dX11_runs_1 : decode cX11_runs 1 = .ok (.iload_n 1, 1) := by decide +kernel
theorem dX11_runs_2 : decode cX11_runs 2 = .ok (.iload_n 2, 1) := by decide +kernel
theorem dX11_runs_3 : decode cX11_runs 3 = .ok (.ldc2_w 420, 3) := by decide +kernel
theorem dX11_runs_6 : decode cX11_runs 6 = .ok (.invokevirtual 422, 3) := by decide +kernel
theorem dX11_runs_9 : decode cX11_runs 9 = .ok (.istore_n 3, 1) := by decide +kernel
theorem dX11_runs_10 : decode cX11_runs 10 = .ok (.iload_n 3, 1) := by decide +kernel
theorem dX11_runs_11 : decode cX11_runs 11 = .ok (.ifCond .le 9, 3) := by decide +kernel
theorem dX11_runs_14 : decode cX11_runs 14 = .ok (.aload_n 0, 1) := by decide +kernel
theorem dX11_runs_15 : decode cX11_runs 15 = .ok (.iload_n 3, 1) := by decide +kernel
theorem dX11_runs_16 : decode cX11_runs 16 = .ok (.invokevirtual 102, 3) := by decide +kernel
theorem dX11_runs_19 : decode cX11_runs 19 = .ok (.ireturn, 1) := by decide +kernel
theorem dX11_runs_20 : decode cX11_runs 20 = .ok (.iconst 1, 1) := by decide +kernel
theorem dX11_runs_21 : decode cX11_runs 21 = .ok (.istore 4, 2) := by decide +kernel
theorem dX11_runs_23 : decode cX11_runs 23 = .ok (.iconst 1, 1) := by decide +kernel
theorem dX11_runs_24 : decode cX11_runs 24 = .ok (.istore 5, 2) := by decide +kernel
theorem dX11_runs_26 : decode cX11_runs 26 = .ok (.iload 5, 2) := by decide +kernel
theorem dX11_runs_28 : decode cX11_runs 28 = .ok (.iload_n 2, 1) := by decide +kernel
theorem dX11_runs_29 : decode cX11_runs 29 = .ok (.if_icmp .ge 39, 3) := by decide +kernel
theorem dX11_runs_32 : decode cX11_runs 32 = .ok (.iload 4, 2) := by decide +kernel
theorem dX11_runs_34 : decode cX11_runs 34 = .ok (.aload_n 0, 1) := by decide +kernel
theorem dX11_runs_35 : decode cX11_runs 35 = .ok (.iload_n 1, 1) := by decide +kernel
theorem dX11_runs_36 : decode cX11_runs 36 = .ok (.iload 5, 2) := by decide +kernel
theorem dX11_runs_38 : decode cX11_runs 38 = .ok (.invokevirtual 415, 3) := by decide +kernel
theorem dX11_runs_41 : decode cX11_runs 41 = .ok (.aload_n 0, 1) := by decide +kernel
theorem dX11_runs_42 : decode cX11_runs 42 = .ok (.iload_n 1, 1) := by decide +kernel
theorem dX11_runs_43 : decode cX11_runs 43 = .ok (.iload 5, 2) := by decide +kernel
theorem dX11_runs_45 : decode cX11_runs 45 = .ok (.iconst 1, 1) := by decide +kernel
theorem dX11_runs_46 : decode cX11_runs 46 = .ok (.isub, 1) := by decide +kernel
theorem dX11_runs_47 : decode cX11_runs 47 = .ok (.invokevirtual 415, 3) := by decide +kernel
theorem dX11_runs_50 : decode cX11_runs 50 = .ok (.lcmp, 1) := by decide +kernel
theorem dX11_runs_51 : decode cX11_runs 51 = .ok (.ifCond .ne 7, 3) := by decide +kernel
theorem dX11_runs_54 : decode cX11_runs 54 = .ok (.iconst 0, 1) := by decide +kernel
theorem dX11_runs_55 : decode cX11_runs 55 = .ok (.goto 4, 3) := by decide +kernel
theorem dX11_runs_58 : decode cX11_runs 58 = .ok (.iconst 1, 1) := by decide +kernel
theorem dX11_runs_59 : decode cX11_runs 59 = .ok (.iadd, 1) := by decide +kernel
theorem dX11_runs_60 : decode cX11_runs 60 = .ok (.istore 4, 2) := by decide +kernel
theorem dX11_runs_62 : decode cX11_runs 62 = .ok (.iinc 5 1, 3) := by decide +kernel
theorem dX11_runs_65 : decode cX11_runs 65 = .ok (.goto (-39), 3) := by decide +kernel
theorem dX11_runs_68 : decode cX11_runs 68 = .ok (.aload_n 0, 1) := by decide +kernel
theorem dX11_runs_69 : decode cX11_runs 69 = .ok (.iload 4, 2) := by decide +kernel
theorem dX11_runs_71 : decode cX11_runs 71 = .ok (.invokevirtual 106, 3) := by decide +kernel
theorem dX11_runs_74 : decode cX11_runs 74 = .ok (.ireturn, 1) := by decide +kernel
theorem dX11_rockAt_0 : decode cX11_rockAt 0 = .ok (.iload_n 2, 1) := by decide +kernel
theorem dX11_rockAt_1 : decode cX11_rockAt 1 = .ok (.istore_n 3, 1) := by decide +kernel
theorem dX11_rockAt_2 : decode cX11_rockAt 2 = .ok (.iconst 0, 1) := by decide +kernel
theorem dX11_rockAt_3 : decode cX11_rockAt 3 = .ok (.istore 4, 2) := by decide +kernel
theorem dX11_rockAt_5 : decode cX11_rockAt 5 = .ok (.iload 4, 2) := by decide +kernel
theorem dX11_rockAt_7 : decode cX11_rockAt 7 = .ok (.aload_n 0, 1) := by decide +kernel
theorem dX11_rockAt_8 : decode cX11_rockAt 8 = .ok (.iload_n 1, 1) := by decide +kernel
theorem dX11_rockAt_9 : decode cX11_rockAt 9 = .ok (.invokevirtual 305, 3) := by decide +kernel
theorem dX11_rockAt_12 : decode cX11_rockAt 12 = .ok (.if_icmp .ge 42, 3) := by decide +kernel
theorem dX11_rockAt_15 : decode cX11_rockAt 15 = .ok (.iload_n 3, 1) := by decide +kernel
theorem dX11_rockAt_16 : decode cX11_rockAt 16 = .ok (.ifCond .lt 38, 3) := by decide +kernel
theorem dX11_rockAt_19 : decode cX11_rockAt 19 = .ok (.iload_n 3, 1) := by decide +kernel
theorem dX11_rockAt_20 : decode cX11_rockAt 20 = .ok (.aload_n 0, 1) := by decide +kernel
theorem dX11_rockAt_21 : decode cX11_rockAt 21 = .ok (.iload_n 1, 1) := by decide +kernel
theorem dX11_rockAt_22 : decode cX11_rockAt 22 = .ok (.iload 4, 2) := by decide +kernel
theorem dX11_rockAt_24 : decode cX11_rockAt 24 = .ok (.invokevirtual 290, 3) := by decide +kernel
theorem dX11_rockAt_27 : decode cX11_rockAt 27 = .ok (.if_icmp .ge 11, 3) := by decide +kernel
theorem dX11_rockAt_30 : decode cX11_rockAt 30 = .ok (.aload_n 0, 1) := by decide +kernel
theorem dX11_rockAt_31 : decode cX11_rockAt 31 = .ok (.iload_n 1, 1) := by decide +kernel
theorem dX11_rockAt_32 : decode cX11_rockAt 32 = .ok (.iload 4, 2) := by decide +kernel
theorem dX11_rockAt_34 : decode cX11_rockAt 34 = .ok (.invokevirtual 311, 3) := by decide +kernel
theorem dX11_rockAt_37 : decode cX11_rockAt 37 = .ok (.ireturn, 1) := by decide +kernel
theorem dX11_rockAt_38 : decode cX11_rockAt 38 = .ok (.iload_n 3, 1) := by decide +kernel
theorem dX11_rockAt_39 : decode cX11_rockAt 39 = .ok (.aload_n 0, 1) := by decide +kernel
theorem dX11_rockAt_40 : decode cX11_rockAt 40 = .ok (.iload_n 1, 1) := by decide +kernel
theorem dX11_rockAt_41 : decode cX11_rockAt 41 = .ok (.iload 4, 2) := by decide +kernel
theorem dX11_rockAt_43 : decode cX11_rockAt 43 = .ok (.invokevirtual 290, 3) := by decide +kernel
theorem dX11_rockAt_46 : decode cX11_rockAt 46 = .ok (.isub, 1) := by decide +kernel
theorem dX11_rockAt_47 : decode cX11_rockAt 47 = .ok (.istore_n 3, 1) := by decide +kernel
theorem dX11_rockAt_48 : decode cX11_rockAt 48 = .ok (.iinc 4 1, 3) := by decide +kernel
theorem dX11_rockAt_51 : decode cX11_rockAt 51 = .ok (.goto (-46), 3) := by decide +kernel
theorem dX11_rockAt_54 : decode cX11_rockAt 54 = .ok (.iconst (-1), 1) := by decide +kernel
theorem dX11_rockAt_55 : decode cX11_rockAt 55 = .ok (.ireturn, 1) := by decide +kernel
theorem dX11_agreeing_0 : decode cX11_agreeing 0 = .ok (.iconst 0, 1) := by decide +kernel
theorem dX11_agreeing_1 : decode cX11_agreeing 1 = .ok (.istore 5, 2) := by decide +kernel
theorem dX11_agreeing_3 : decode cX11_agreeing 3 = .ok (.iconst 0, 1) := by decide +kernel
theorem dX11_agreeing_4 : decode cX11_agreeing 4 = .ok (.istore 6, 2) := by decide +kernel
theorem dX11_agreeing_6 : decode cX11_agreeing 6 = .ok (.iload 6, 2) := by decide +kernel
theorem dX11_agreeing_8 : decode cX11_agreeing 8 = .ok (.iload_n 2, 1) := by decide +kernel
theorem dX11_agreeing_9 : decode cX11_agreeing 9 = .ok (.if_icmp .ge 51, 3) := by decide +kernel
theorem dX11_agreeing_12 : decode cX11_agreeing 12 = .ok (.aload_n 0, 1) := by decide +kernel
theorem dX11_agreeing_13 : decode cX11_agreeing 13 = .ok (.iload_n 3, 1) := by decide +kernel
theorem dX11_agreeing_14 : decode cX11_agreeing 14 = .ok (.iload 6, 2) := by decide +kernel
theorem dX11_agreeing_16 : decode cX11_agreeing 16 = .ok (.iload 4, 2) := by decide +kernel
theorem dX11_agreeing_18 : decode cX11_agreeing 18 = .ok (.iadd, 1) := by decide +kernel
theorem dX11_agreeing_19 : decode cX11_agreeing 19 = .ok (.invokevirtual 433, 3) := by decide +kernel
theorem dX11_agreeing_22 : decode cX11_agreeing 22 = .ok (.istore 7, 2) := by decide +kernel
theorem dX11_agreeing_24 : decode cX11_agreeing 24 = .ok (.iload 5, 2) := by decide +kernel
theorem dX11_agreeing_26 : decode cX11_agreeing 26 = .ok (.iload 7, 2) := by decide +kernel
theorem dX11_agreeing_28 : decode cX11_agreeing 28 = .ok (.iconst (-1), 1) := by decide +kernel
theorem dX11_agreeing_29 : decode cX11_agreeing 29 = .ok (.if_icmp .eq 21, 3) := by decide +kernel
theorem dX11_agreeing_32 : decode cX11_agreeing 32 = .ok (.aload_n 0, 1) := by decide +kernel
theorem dX11_agreeing_33 : decode cX11_agreeing 33 = .ok (.iload_n 1, 1) := by decide +kernel
theorem dX11_agreeing_34 : decode cX11_agreeing 34 = .ok (.iload 6, 2) := by decide +kernel
theorem dX11_agreeing_36 : decode cX11_agreeing 36 = .ok (.invokevirtual 415, 3) := by decide +kernel
theorem dX11_agreeing_39 : decode cX11_agreeing 39 = .ok (.iload 7, 2) := by decide +kernel
theorem dX11_agreeing_41 : decode cX11_agreeing 41 = .ok (.i2l, 1) := by decide +kernel
theorem dX11_agreeing_42 : decode cX11_agreeing 42 = .ok (.lcmp, 1) := by decide +kernel
theorem dX11_agreeing_43 : decode cX11_agreeing 43 = .ok (.ifCond .ne 7, 3) := by decide +kernel
theorem dX11_agreeing_46 : decode cX11_agreeing 46 = .ok (.iconst 1, 1) := by decide +kernel
theorem dX11_agreeing_47 : decode cX11_agreeing 47 = .ok (.goto 4, 3) := by decide +kernel
theorem dX11_agreeing_50 : decode cX11_agreeing 50 = .ok (.iconst 0, 1) := by decide +kernel
theorem dX11_agreeing_51 : decode cX11_agreeing 51 = .ok (.iadd, 1) := by decide +kernel
theorem dX11_agreeing_52 : decode cX11_agreeing 52 = .ok (.istore 5, 2) := by decide +kernel
theorem dX11_agreeing_54 : decode cX11_agreeing 54 = .ok (.iinc 6 1, 3) := by decide +kernel
theorem dX11_agreeing_57 : decode cX11_agreeing 57 = .ok (.goto (-51), 3) := by decide +kernel
theorem dX11_agreeing_60 : decode cX11_agreeing 60 = .ok (.iload 5, 2) := by decide +kernel
theorem dX11_agreeing_62 : decode cX11_agreeing 62 = .ok (.ireturn, 1) := by decide +kernel
theorem dX11_agrees_0 : decode cX11_agrees 0 = .ok (.aload_n 0, 1) := by decide +kernel
theorem dX11_agrees_1 : decode cX11_agrees 1 = .ok (.iload_n 3, 1) := by decide +kernel
theorem dX11_agrees_2 : decode cX11_agrees 2 = .ok (.invokevirtual 302, 3) := by decide +kernel
theorem dX11_agrees_5 : decode cX11_agrees 5 = .ok (.ifCond .eq 21, 3) := by decide +kernel
theorem dX11_agrees_8 : decode cX11_agrees 8 = .ok (.aload_n 0, 1) := by decide +kernel
theorem dX11_agrees_9 : decode cX11_agrees 9 = .ok (.iload_n 1, 1) := by decide +kernel
theorem dX11_agrees_10 : decode cX11_agrees 10 = .ok (.iload_n 2, 1) := by decide +kernel
theorem dX11_agrees_11 : decode cX11_agrees 11 = .ok (.aload_n 0, 1) := by decide +kernel
theorem dX11_agrees_12 : decode cX11_agrees 12 = .ok (.getfield 7, 3) := by decide +kernel
theorem dX11_agrees_15 : decode cX11_agrees 15 = .ok (.iconst 0, 1) := by decide +kernel
theorem dX11_agrees_16 : decode cX11_agrees 16 = .ok (.iaload, 1) := by decide +kernel
theorem dX11_agrees_17 : decode cX11_agrees 17 = .ok (.i2l, 1) := by decide +kernel
theorem dX11_agrees_18 : decode cX11_agrees 18 = .ok (.lconst 1, 1) := by decide +kernel
theorem dX11_agrees_19 : decode cX11_agrees 19 = .ok (.lsub, 1) := by decide +kernel
theorem dX11_agrees_20 : decode cX11_agrees 20 = .ok (.invokevirtual 422, 3) := by decide +kernel
theorem dX11_agrees_23 : decode cX11_agrees 23 = .ok (.goto 4, 3) := by decide +kernel
theorem dX11_agrees_26 : decode cX11_agrees 26 = .ok (.iconst 1, 1) := by decide +kernel
theorem dX11_agrees_27 : decode cX11_agrees 27 = .ok (.istore 4, 2) := by decide +kernel
theorem dX11_agrees_29 : decode cX11_agrees 29 = .ok (.iload 4, 2) := by decide +kernel
theorem dX11_agrees_31 : decode cX11_agrees 31 = .ok (.ifCond .le 12, 3) := by decide +kernel
theorem dX11_agrees_34 : decode cX11_agrees 34 = .ok (.aload_n 0, 1) := by decide +kernel
theorem dX11_agrees_35 : decode cX11_agrees 35 = .ok (.iload 4, 2) := by decide +kernel
theorem dX11_agrees_37 : decode cX11_agrees 37 = .ok (.invokevirtual 102, 3) := by decide +kernel
theorem dX11_agrees_40 : decode cX11_agrees 40 = .ok (.goto 15, 3) := by decide +kernel
theorem dX11_agrees_43 : decode cX11_agrees 43 = .ok (.aload_n 0, 1) := by decide +kernel
theorem dX11_agrees_44 : decode cX11_agrees 44 = .ok (.aload_n 0, 1) := by decide +kernel
theorem dX11_agrees_45 : decode cX11_agrees 45 = .ok (.iload_n 1, 1) := by decide +kernel
theorem dX11_agrees_46 : decode cX11_agrees 46 = .ok (.iload_n 2, 1) := by decide +kernel
theorem dX11_agrees_47 : decode cX11_agrees 47 = .ok (.iload_n 3, 1) := by decide +kernel
theorem dX11_agrees_48 : decode cX11_agrees 48 = .ok (.iconst 0, 1) := by decide +kernel
theorem dX11_agrees_49 : decode cX11_agrees 49 = .ok (.invokevirtual 436, 3) := by decide +kernel
theorem dX11_agrees_52 : decode cX11_agrees 52 = .ok (.invokevirtual 106, 3) := by decide +kernel
theorem dX11_agrees_55 : decode cX11_agrees 55 = .ok (.ireturn, 1) := by decide +kernel
theorem dX11_shift_0 : decode cX11_shift 0 = .ok (.aload_n 0, 1) := by decide +kernel
theorem dX11_shift_1 : decode cX11_shift 1 = .ok (.iload_n 3, 1) := by decide +kernel
theorem dX11_shift_2 : decode cX11_shift 2 = .ok (.invokevirtual 302, 3) := by decide +kernel
theorem dX11_shift_5 : decode cX11_shift 5 = .ok (.ifCond .eq 32, 3) := by decide +kernel
theorem dX11_shift_8 : decode cX11_shift 8 = .ok (.iload 4, 2) := by decide +kernel
theorem dX11_shift_10 : decode cX11_shift 10 = .ok (.ifCond .eq 9, 3) := by decide +kernel
theorem dX11_shift_13 : decode cX11_shift 13 = .ok (.iload 4, 2) := by decide +kernel
theorem dX11_shift_15 : decode cX11_shift 15 = .ok (.iconst 1, 1) := by decide +kernel
theorem dX11_shift_16 : decode cX11_shift 16 = .ok (.if_icmp .ne 21, 3) := by decide +kernel
theorem dX11_shift_19 : decode cX11_shift 19 = .ok (.aload_n 0, 1) := by decide +kernel
theorem dX11_shift_20 : decode cX11_shift 20 = .ok (.iload_n 1, 1) := by decide +kernel
theorem dX11_shift_21 : decode cX11_shift 21 = .ok (.iload_n 2, 1) := by decide +kernel
theorem dX11_shift_22 : decode cX11_shift 22 = .ok (.aload_n 0, 1) := by decide +kernel
theorem dX11_shift_23 : decode cX11_shift 23 = .ok (.getfield 7, 3) := by decide +kernel
theorem dX11_shift_26 : decode cX11_shift 26 = .ok (.iconst 0, 1) := by decide +kernel
theorem dX11_shift_27 : decode cX11_shift 27 = .ok (.iaload, 1) := by decide +kernel
theorem dX11_shift_28 : decode cX11_shift 28 = .ok (.i2l, 1) := by decide +kernel
theorem dX11_shift_29 : decode cX11_shift 29 = .ok (.lconst 1, 1) := by decide +kernel
theorem dX11_shift_30 : decode cX11_shift 30 = .ok (.lsub, 1) := by decide +kernel
theorem dX11_shift_31 : decode cX11_shift 31 = .ok (.invokevirtual 422, 3) := by decide +kernel
theorem dX11_shift_34 : decode cX11_shift 34 = .ok (.goto 4, 3) := by decide +kernel
theorem dX11_shift_37 : decode cX11_shift 37 = .ok (.iconst 1, 1) := by decide +kernel
theorem dX11_shift_38 : decode cX11_shift 38 = .ok (.istore 5, 2) := by decide +kernel
theorem dX11_shift_40 : decode cX11_shift 40 = .ok (.iload 5, 2) := by decide +kernel
theorem dX11_shift_42 : decode cX11_shift 42 = .ok (.ifCond .le 10, 3) := by decide +kernel
theorem dX11_shift_45 : decode cX11_shift 45 = .ok (.aload_n 0, 1) := by decide +kernel
theorem dX11_shift_46 : decode cX11_shift 46 = .ok (.iload 5, 2) := by decide +kernel
theorem dX11_shift_48 : decode cX11_shift 48 = .ok (.invokevirtual 102, 3) := by decide +kernel
theorem dX11_shift_51 : decode cX11_shift 51 = .ok (.ireturn, 1) := by decide +kernel
theorem dX11_shift_52 : decode cX11_shift 52 = .ok (.iconst 0, 1) := by decide +kernel
theorem dX11_shift_53 : decode cX11_shift 53 = .ok (.istore 6, 2) := by decide +kernel
theorem dX11_shift_55 : decode cX11_shift 55 = .ok (.aload_n 0, 1) := by decide +kernel
theorem dX11_shift_56 : decode cX11_shift 56 = .ok (.iload_n 1, 1) := by decide +kernel
theorem dX11_shift_57 : decode cX11_shift 57 = .ok (.iload_n 2, 1) := by decide +kernel
theorem dX11_shift_58 : decode cX11_shift 58 = .ok (.iload_n 3, 1) := by decide +kernel
theorem dX11_shift_59 : decode cX11_shift 59 = .ok (.iconst 0, 1) := by decide +kernel
theorem dX11_shift_60 : decode cX11_shift 60 = .ok (.invokevirtual 436, 3) := by decide +kernel
theorem dX11_shift_63 : decode cX11_shift 63 = .ok (.istore 7, 2) := by decide +kernel
theorem dX11_shift_65 : decode cX11_shift 65 = .ok (.iconst 1, 1) := by decide +kernel
theorem dX11_shift_66 : decode cX11_shift 66 = .ok (.istore 8, 2) := by decide +kernel
theorem dX11_shift_68 : decode cX11_shift 68 = .ok (.iload 8, 2) := by decide +kernel
theorem dX11_shift_70 : decode cX11_shift 70 = .ok (.bipush 20, 2) := by decide +kernel
theorem dX11_shift_72 : decode cX11_shift 72 = .ok (.if_icmp .gt 59, 3) := by decide +kernel
theorem dX11_shift_75 : decode cX11_shift 75 = .ok (.iconst (-1), 1) := by decide +kernel
theorem dX11_shift_76 : decode cX11_shift 76 = .ok (.istore 9, 2) := by decide +kernel
theorem dX11_shift_78 : decode cX11_shift 78 = .ok (.iload 9, 2) := by decide +kernel
theorem dX11_shift_80 : decode cX11_shift 80 = .ok (.iconst 2, 1) := by decide +kernel
theorem dX11_shift_81 : decode cX11_shift 81 = .ok (.if_icmp .ge 44, 3) := by decide +kernel
theorem dX11_shift_84 : decode cX11_shift 84 = .ok (.aload_n 0, 1) := by decide +kernel
theorem dX11_shift_85 : decode cX11_shift 85 = .ok (.iload_n 1, 1) := by decide +kernel
theorem dX11_shift_86 : decode cX11_shift 86 = .ok (.iload_n 2, 1) := by decide +kernel
theorem dX11_shift_87 : decode cX11_shift 87 = .ok (.iload_n 3, 1) := by decide +kernel
theorem dX11_shift_88 : decode cX11_shift 88 = .ok (.iload 9, 2) := by decide +kernel
theorem dX11_shift_90 : decode cX11_shift 90 = .ok (.iload 8, 2) := by decide +kernel
theorem dX11_shift_92 : decode cX11_shift 92 = .ok (.imul, 1) := by decide +kernel
theorem dX11_shift_93 : decode cX11_shift 93 = .ok (.invokevirtual 436, 3) := by decide +kernel
theorem dX11_shift_96 : decode cX11_shift 96 = .ok (.istore 10, 2) := by decide +kernel
theorem dX11_shift_98 : decode cX11_shift 98 = .ok (.iload 10, 2) := by decide +kernel
theorem dX11_shift_100 : decode cX11_shift 100 = .ok (.iload 7, 2) := by decide +kernel
theorem dX11_shift_102 : decode cX11_shift 102 = .ok (.if_icmp .gt 6, 3) := by decide +kernel
theorem dX11_shift_105 : decode cX11_shift 105 = .ok (.goto 14, 3) := by decide +kernel
theorem dX11_shift_108 : decode cX11_shift 108 = .ok (.iload 10, 2) := by decide +kernel
theorem dX11_shift_110 : decode cX11_shift 110 = .ok (.istore 7, 2) := by decide +kernel
theorem dX11_shift_112 : decode cX11_shift 112 = .ok (.iload 9, 2) := by decide +kernel
theorem dX11_shift_114 : decode cX11_shift 114 = .ok (.iload 8, 2) := by decide +kernel
theorem dX11_shift_116 : decode cX11_shift 116 = .ok (.imul, 1) := by decide +kernel
theorem dX11_shift_117 : decode cX11_shift 117 = .ok (.istore 6, 2) := by decide +kernel
theorem dX11_shift_119 : decode cX11_shift 119 = .ok (.iinc 9 2, 3) := by decide +kernel
theorem dX11_shift_122 : decode cX11_shift 122 = .ok (.goto (-44), 3) := by decide +kernel
theorem dX11_shift_125 : decode cX11_shift 125 = .ok (.iinc 8 1, 3) := by decide +kernel
theorem dX11_shift_128 : decode cX11_shift 128 = .ok (.goto (-60), 3) := by decide +kernel
theorem dX11_shift_131 : decode cX11_shift 131 = .ok (.aload_n 0, 1) := by decide +kernel
theorem dX11_shift_132 : decode cX11_shift 132 = .ok (.iload 4, 2) := by decide +kernel
theorem dX11_shift_134 : decode cX11_shift 134 = .ok (.ifCond .ne 8, 3) := by decide +kernel
theorem dX11_shift_137 : decode cX11_shift 137 = .ok (.iload 6, 2) := by decide +kernel
theorem dX11_shift_139 : decode cX11_shift 139 = .ok (.goto 5, 3) := by decide +kernel
theorem dX11_shift_142 : decode cX11_shift 142 = .ok (.iload 7, 2) := by decide +kernel
theorem dX11_shift_144 : decode cX11_shift 144 = .ok (.invokevirtual 106, 3) := by decide +kernel
theorem dX11_shift_147 : decode cX11_shift 147 = .ok (.ireturn, 1) := by decide +kernel
theorem dX11_likest_0 : decode cX11_likest 0 = .ok (.aload_n 0, 1) := by decide +kernel
theorem dX11_likest_1 : decode cX11_likest 1 = .ok (.iload_n 1, 1) := by decide +kernel
theorem dX11_likest_2 : decode cX11_likest 2 = .ok (.iload_n 2, 1) := by decide +kernel
theorem dX11_likest_3 : decode cX11_likest 3 = .ok (.aload_n 0, 1) := by decide +kernel
theorem dX11_likest_4 : decode cX11_likest 4 = .ok (.getfield 7, 3) := by decide +kernel
theorem dX11_likest_7 : decode cX11_likest 7 = .ok (.iconst 0, 1) := by decide +kernel
theorem dX11_likest_8 : decode cX11_likest 8 = .ok (.iaload, 1) := by decide +kernel
theorem dX11_likest_9 : decode cX11_likest 9 = .ok (.i2l, 1) := by decide +kernel
theorem dX11_likest_10 : decode cX11_likest 10 = .ok (.lconst 1, 1) := by decide +kernel
theorem dX11_likest_11 : decode cX11_likest 11 = .ok (.lsub, 1) := by decide +kernel
theorem dX11_likest_12 : decode cX11_likest 12 = .ok (.invokevirtual 422, 3) := by decide +kernel
theorem dX11_likest_15 : decode cX11_likest 15 = .ok (.istore_n 3, 1) := by decide +kernel
theorem dX11_likest_16 : decode cX11_likest 16 = .ok (.iload_n 3, 1) := by decide +kernel
theorem dX11_likest_17 : decode cX11_likest 17 = .ok (.ifCond .le 9, 3) := by decide +kernel
theorem dX11_likest_20 : decode cX11_likest 20 = .ok (.aload_n 0, 1) := by decide +kernel
theorem dX11_likest_21 : decode cX11_likest 21 = .ok (.iload_n 3, 1) := by decide +kernel
theorem dX11_likest_22 : decode cX11_likest 22 = .ok (.invokevirtual 102, 3) := by decide +kernel
theorem dX11_likest_25 : decode cX11_likest 25 = .ok (.ireturn, 1) := by decide +kernel
theorem dX11_likest_26 : decode cX11_likest 26 = .ok (.iconst (-1), 1) := by decide +kernel
theorem dX11_likest_27 : decode cX11_likest 27 = .ok (.istore 4, 2) := by decide +kernel
theorem dX11_likest_29 : decode cX11_likest 29 = .ok (.iconst 0, 1) := by decide +kernel
theorem dX11_likest_30 : decode cX11_likest 30 = .ok (.istore 5, 2) := by decide +kernel
theorem dX11_likest_32 : decode cX11_likest 32 = .ok (.iload 5, 2) := by decide +kernel
theorem dX11_likest_34 : decode cX11_likest 34 = .ok (.aload_n 0, 1) := by decide +kernel
theorem dX11_likest_35 : decode cX11_likest 35 = .ok (.getfield 7, 3) := by decide +kernel
theorem dX11_likest_38 : decode cX11_likest 38 = .ok (.iconst 1, 1) := by decide +kernel
theorem dX11_likest_39 : decode cX11_likest 39 = .ok (.iaload, 1) := by decide +kernel
theorem dX11_likest_40 : decode cX11_likest 40 = .ok (.if_icmp .ge 40, 3) := by decide +kernel
theorem dX11_likest_43 : decode cX11_likest 43 = .ok (.iload 4, 2) := by decide +kernel
theorem dX11_likest_45 : decode cX11_likest 45 = .ok (.iconst (-1), 1) := by decide +kernel
theorem dX11_likest_46 : decode cX11_likest 46 = .ok (.if_icmp .eq 24, 3) := by decide +kernel
theorem dX11_likest_49 : decode cX11_likest 49 = .ok (.aload_n 0, 1) := by decide +kernel
theorem dX11_likest_50 : decode cX11_likest 50 = .ok (.iload_n 1, 1) := by decide +kernel
theorem dX11_likest_51 : decode cX11_likest 51 = .ok (.iload_n 2, 1) := by decide +kernel
theorem dX11_likest_52 : decode cX11_likest 52 = .ok (.iload 5, 2) := by decide +kernel
theorem dX11_likest_54 : decode cX11_likest 54 = .ok (.iconst 0, 1) := by decide +kernel
theorem dX11_likest_55 : decode cX11_likest 55 = .ok (.invokevirtual 436, 3) := by decide +kernel
theorem dX11_likest_58 : decode cX11_likest 58 = .ok (.aload_n 0, 1) := by decide +kernel
theorem dX11_likest_59 : decode cX11_likest 59 = .ok (.iload_n 1, 1) := by decide +kernel
theorem dX11_likest_60 : decode cX11_likest 60 = .ok (.iload_n 2, 1) := by decide +kernel
theorem dX11_likest_61 : decode cX11_likest 61 = .ok (.iload 4, 2) := by decide +kernel
theorem dX11_likest_63 : decode cX11_likest 63 = .ok (.iconst 0, 1) := by decide +kernel
theorem dX11_likest_64 : decode cX11_likest 64 = .ok (.invokevirtual 436, 3) := by decide +kernel
theorem dX11_likest_67 : decode cX11_likest 67 = .ok (.if_icmp .le 7, 3) := by decide +kernel
theorem dX11_likest_70 : decode cX11_likest 70 = .ok (.iload 5, 2) := by decide +kernel
theorem dX11_likest_72 : decode cX11_likest 72 = .ok (.istore 4, 2) := by decide +kernel
theorem dX11_likest_74 : decode cX11_likest 74 = .ok (.iinc 5 1, 3) := by decide +kernel
theorem dX11_likest_77 : decode cX11_likest 77 = .ok (.goto (-45), 3) := by decide +kernel
theorem dX11_likest_80 : decode cX11_likest 80 = .ok (.aload_n 0, 1) := by decide +kernel
theorem dX11_likest_81 : decode cX11_likest 81 = .ok (.iload 4, 2) := by decide +kernel
theorem dX11_likest_83 : decode cX11_likest 83 = .ok (.invokevirtual 333, 3) := by decide +kernel
theorem dX11_likest_86 : decode cX11_likest 86 = .ok (.ireturn, 1) := by decide +kernel
theorem dX11_draws_0 : decode cX11_draws 0 = .ok (.aload_n 0, 1) := by decide +kernel
theorem dX11_draws_1 : decode cX11_draws 1 = .ok (.iload_n 1, 1) := by decide +kernel
theorem dX11_draws_2 : decode cX11_draws 2 = .ok (.invokevirtual 302, 3) := by decide +kernel
theorem dX11_draws_5 : decode cX11_draws 5 = .ok (.ifCond .eq 10, 3) := by decide +kernel
theorem dX11_draws_8 : decode cX11_draws 8 = .ok (.iload_n 2, 1) := by decide +kernel
theorem dX11_draws_9 : decode cX11_draws 9 = .ok (.invokestatic 113, 3) := by decide +kernel
theorem dX11_draws_12 : decode cX11_draws 12 = .ok (.ifCond .ne 9, 3) := by decide +kernel
theorem dX11_draws_15 : decode cX11_draws 15 = .ok (.aload_n 0, 1) := by decide +kernel
theorem dX11_draws_16 : decode cX11_draws 16 = .ok (.iconst 1, 1) := by decide +kernel
theorem dX11_draws_17 : decode cX11_draws 17 = .ok (.invokevirtual 102, 3) := by decide +kernel
theorem dX11_draws_20 : decode cX11_draws 20 = .ok (.ireturn, 1) := by decide +kernel
theorem dX11_draws_21 : decode cX11_draws 21 = .ok (.aload_n 0, 1) := by decide +kernel
theorem dX11_draws_22 : decode cX11_draws 22 = .ok (.getfield 24, 3) := by decide +kernel
theorem dX11_draws_25 : decode cX11_draws 25 = .ok (.iload_n 2, 1) := by decide +kernel
theorem dX11_draws_26 : decode cX11_draws 26 = .ok (.iaload, 1) := by decide +kernel
theorem dX11_draws_27 : decode cX11_draws 27 = .ok (.iconst (-1), 1) := by decide +kernel
theorem dX11_draws_28 : decode cX11_draws 28 = .ok (.if_icmp .ne 9, 3) := by decide +kernel
theorem dX11_draws_31 : decode cX11_draws 31 = .ok (.aload_n 0, 1) := by decide +kernel
theorem dX11_draws_32 : decode cX11_draws 32 = .ok (.iconst 2, 1) := by decide +kernel
theorem dX11_draws_33 : decode cX11_draws 33 = .ok (.invokevirtual 102, 3) := by decide +kernel
theorem dX11_draws_36 : decode cX11_draws 36 = .ok (.ireturn, 1) := by decide +kernel
theorem dX11_draws_37 : decode cX11_draws 37 = .ok (.iconst 0, 1) := by decide +kernel
theorem dX11_draws_38 : decode cX11_draws 38 = .ok (.istore_n 3, 1) := by decide +kernel
theorem dX11_draws_39 : decode cX11_draws 39 = .ok (.iload_n 3, 1) := by decide +kernel
theorem dX11_draws_40 : decode cX11_draws 40 = .ok (.aload_n 0, 1) := by decide +kernel
theorem dX11_draws_41 : decode cX11_draws 41 = .ok (.getfield 24, 3) := by decide +kernel
theorem dX11_draws_44 : decode cX11_draws 44 = .ok (.iload_n 2, 1) := by decide +kernel
theorem dX11_draws_45 : decode cX11_draws 45 = .ok (.iaload, 1) := by decide +kernel
theorem dX11_draws_46 : decode cX11_draws 46 = .ok (.if_icmp .ge 37, 3) := by decide +kernel
theorem dX11_draws_49 : decode cX11_draws 49 = .ok (.aload_n 0, 1) := by decide +kernel
theorem dX11_draws_50 : decode cX11_draws 50 = .ok (.iload_n 1, 1) := by decide +kernel
theorem dX11_draws_51 : decode cX11_draws 51 = .ok (.iload_n 3, 1) := by decide +kernel
theorem dX11_draws_52 : decode cX11_draws 52 = .ok (.invokevirtual 433, 3) := by decide +kernel
theorem dX11_draws_55 : decode cX11_draws 55 = .ok (.iconst (-1), 1) := by decide +kernel
theorem dX11_draws_56 : decode cX11_draws 56 = .ok (.if_icmp .eq 27, 3) := by decide +kernel
theorem dX11_draws_59 : decode cX11_draws 59 = .ok (.aload_n 0, 1) := by decide +kernel
theorem dX11_draws_60 : decode cX11_draws 60 = .ok (.getfield 27, 3) := by decide +kernel
theorem dX11_draws_63 : decode cX11_draws 63 = .ok (.bipush 60, 2) := by decide +kernel
theorem dX11_draws_65 : decode cX11_draws 65 = .ok (.iload_n 2, 1) := by decide +kernel
theorem dX11_draws_66 : decode cX11_draws 66 = .ok (.imul, 1) := by decide +kernel
theorem dX11_draws_67 : decode cX11_draws 67 = .ok (.iload_n 3, 1) := by decide +kernel
theorem dX11_draws_68 : decode cX11_draws 68 = .ok (.iadd, 1) := by decide +kernel
theorem dX11_draws_69 : decode cX11_draws 69 = .ok (.aload_n 0, 1) := by decide +kernel
theorem dX11_draws_70 : decode cX11_draws 70 = .ok (.iload_n 1, 1) := by decide +kernel
theorem dX11_draws_71 : decode cX11_draws 71 = .ok (.iload_n 3, 1) := by decide +kernel
theorem dX11_draws_72 : decode cX11_draws 72 = .ok (.invokevirtual 433, 3) := by decide +kernel
theorem dX11_draws_75 : decode cX11_draws 75 = .ok (.i2l, 1) := by decide +kernel
theorem dX11_draws_76 : decode cX11_draws 76 = .ok (.lastore, 1) := by decide +kernel
theorem dX11_draws_77 : decode cX11_draws 77 = .ok (.iinc 3 1, 3) := by decide +kernel
theorem dX11_draws_80 : decode cX11_draws 80 = .ok (.goto (-41), 3) := by decide +kernel
theorem dX11_draws_83 : decode cX11_draws 83 = .ok (.aload_n 0, 1) := by decide +kernel
theorem dX11_draws_84 : decode cX11_draws 84 = .ok (.iload_n 3, 1) := by decide +kernel
theorem dX11_draws_85 : decode cX11_draws 85 = .ok (.invokevirtual 106, 3) := by decide +kernel
theorem dX11_draws_88 : decode cX11_draws 88 = .ok (.ireturn, 1) := by decide +kernel
theorem dX11_wrongLay_0 : decode cX11_wrongLay 0 = .ok (.aload_n 0, 1) := by decide +kernel
theorem dX11_wrongLay_1 : decode cX11_wrongLay 1 = .ok (.iload_n 1, 1) := by decide +kernel
theorem dX11_wrongLay_2 : decode cX11_wrongLay 2 = .ok (.invokevirtual 305, 3) := by decide +kernel
theorem dX11_wrongLay_5 : decode cX11_wrongLay 5 = .ok (.ifCond .le 34, 3) := by decide +kernel
theorem dX11_wrongLay_8 : decode cX11_wrongLay 8 = .ok (.aload_n 0, 1) := by decide +kernel
theorem dX11_wrongLay_9 : decode cX11_wrongLay 9 = .ok (.iload_n 1, 1) := by decide +kernel
theorem dX11_wrongLay_10 : decode cX11_wrongLay 10 = .ok (.iconst 0, 1) := by decide +kernel
theorem dX11_wrongLay_11 : decode cX11_wrongLay 11 = .ok (.invokevirtual 311, 3) := by decide +kernel
theorem dX11_wrongLay_14 : decode cX11_wrongLay 14 = .ok (.iload_n 2, 1) := by decide +kernel
theorem dX11_wrongLay_15 : decode cX11_wrongLay 15 = .ok (.if_icmp .ne 24, 3) := by decide +kernel
theorem dX11_wrongLay_18 : decode cX11_wrongLay 18 = .ok (.aload_n 0, 1) := by decide +kernel
theorem dX11_wrongLay_19 : decode cX11_wrongLay 19 = .ok (.iload_n 1, 1) := by decide +kernel
theorem dX11_wrongLay_20 : decode cX11_wrongLay 20 = .ok (.iconst 0, 1) := by decide +kernel
theorem dX11_wrongLay_21 : decode cX11_wrongLay 21 = .ok (.invokevirtual 290, 3) := by decide +kernel
theorem dX11_wrongLay_24 : decode cX11_wrongLay 24 = .ok (.iload_n 3, 1) := by decide +kernel
theorem dX11_wrongLay_25 : decode cX11_wrongLay 25 = .ok (.iadd, 1) := by decide +kernel
theorem dX11_wrongLay_26 : decode cX11_wrongLay 26 = .ok (.sipush 999, 3) := by decide +kernel
theorem dX11_wrongLay_29 : decode cX11_wrongLay 29 = .ok (.if_icmp .le 8, 3) := by decide +kernel
theorem dX11_wrongLay_32 : decode cX11_wrongLay 32 = .ok (.bipush 7, 2) := by decide +kernel
theorem dX11_wrongLay_34 : decode cX11_wrongLay 34 = .ok (.goto 4, 3) := by decide +kernel
theorem dX11_wrongLay_37 : decode cX11_wrongLay 37 = .ok (.iconst 0, 1) := by decide +kernel
theorem dX11_wrongLay_38 : decode cX11_wrongLay 38 = .ok (.ireturn, 1) := by decide +kernel
theorem dX11_wrongLay_39 : decode cX11_wrongLay 39 = .ok (.aload_n 0, 1) := by decide +kernel
theorem dX11_wrongLay_40 : decode cX11_wrongLay 40 = .ok (.iload_n 1, 1) := by decide +kernel
theorem dX11_wrongLay_41 : decode cX11_wrongLay 41 = .ok (.invokevirtual 305, 3) := by decide +kernel
theorem dX11_wrongLay_44 : decode cX11_wrongLay 44 = .ok (.bipush 12, 2) := by decide +kernel
theorem dX11_wrongLay_46 : decode cX11_wrongLay 46 = .ok (.if_icmp .ne 7, 3) := by decide +kernel
theorem dX11_wrongLay_49 : decode cX11_wrongLay 49 = .ok (.iconst 4, 1) := by decide +kernel
theorem dX11_wrongLay_50 : decode cX11_wrongLay 50 = .ok (.goto 4, 3) := by decide +kernel
theorem dX11_wrongLay_53 : decode cX11_wrongLay 53 = .ok (.iconst 0, 1) := by decide +kernel
theorem dX11_wrongLay_54 : decode cX11_wrongLay 54 = .ok (.ireturn, 1) := by decide +kernel
theorem dX11_lays_0 : decode cX11_lays 0 = .ok (.iload_n 1, 1) := by decide +kernel
theorem dX11_lays_1 : decode cX11_lays 1 = .ok (.invokestatic 280, 3) := by decide +kernel
theorem dX11_lays_4 : decode cX11_lays 4 = .ok (.istore 4, 2) := by decide +kernel
theorem dX11_lays_6 : decode cX11_lays 6 = .ok (.aload_n 0, 1) := by decide +kernel
theorem dX11_lays_7 : decode cX11_lays 7 = .ok (.iload_n 1, 1) := by decide +kernel
theorem dX11_lays_8 : decode cX11_lays 8 = .ok (.invokevirtual 305, 3) := by decide +kernel
theorem dX11_lays_11 : decode cX11_lays 11 = .ok (.ifCond .le 29, 3) := by decide +kernel
theorem dX11_lays_14 : decode cX11_lays 14 = .ok (.aload_n 0, 1) := by decide +kernel
theorem dX11_lays_15 : decode cX11_lays 15 = .ok (.iload_n 1, 1) := by decide +kernel
theorem dX11_lays_16 : decode cX11_lays 16 = .ok (.iconst 0, 1) := by decide +kernel
theorem dX11_lays_17 : decode cX11_lays 17 = .ok (.invokevirtual 311, 3) := by decide +kernel
theorem dX11_lays_20 : decode cX11_lays 20 = .ok (.iload_n 2, 1) := by decide +kernel
theorem dX11_lays_21 : decode cX11_lays 21 = .ok (.if_icmp .ne 19, 3) := by decide +kernel
theorem dX11_lays_24 : decode cX11_lays 24 = .ok (.aload_n 0, 1) := by decide +kernel
theorem dX11_lays_25 : decode cX11_lays 25 = .ok (.getfield 7, 3) := by decide +kernel
theorem dX11_lays_28 : decode cX11_lays 28 = .ok (.iload 4, 2) := by decide +kernel
theorem dX11_lays_30 : decode cX11_lays 30 = .ok (.iconst 3, 1) := by decide +kernel
theorem dX11_lays_31 : decode cX11_lays 31 = .ok (.iadd, 1) := by decide +kernel
theorem dX11_lays_32 : decode cX11_lays 32 = .ok (.iconst 1, 1) := by decide +kernel
theorem dX11_lays_33 : decode cX11_lays 33 = .ok (.iadd, 1) := by decide +kernel
theorem dX11_lays_34 : decode cX11_lays 34 = .ok (.dup2, 1) := by decide +kernel
theorem dX11_lays_35 : decode cX11_lays 35 = .ok (.iaload, 1) := by decide +kernel
theorem dX11_lays_36 : decode cX11_lays 36 = .ok (.iload_n 3, 1) := by decide +kernel
theorem dX11_lays_37 : decode cX11_lays 37 = .ok (.iadd, 1) := by decide +kernel
theorem dX11_lays_38 : decode cX11_lays 38 = .ok (.iastore, 1) := by decide +kernel
theorem dX11_lays_39 : decode cX11_lays 39 = .ok (.return_, 1) := by decide +kernel
theorem dX11_lays_40 : decode cX11_lays 40 = .ok (.iconst 2, 1) := by decide +kernel
theorem dX11_lays_41 : decode cX11_lays 41 = .ok (.aload_n 0, 1) := by decide +kernel
theorem dX11_lays_42 : decode cX11_lays 42 = .ok (.iload_n 1, 1) := by decide +kernel
theorem dX11_lays_43 : decode cX11_lays 43 = .ok (.invokevirtual 305, 3) := by decide +kernel
theorem dX11_lays_46 : decode cX11_lays 46 = .ok (.imul, 1) := by decide +kernel
theorem dX11_lays_47 : decode cX11_lays 47 = .ok (.iconst 1, 1) := by decide +kernel
theorem dX11_lays_48 : decode cX11_lays 48 = .ok (.isub, 1) := by decide +kernel
theorem dX11_lays_49 : decode cX11_lays 49 = .ok (.istore 5, 2) := by decide +kernel
theorem dX11_lays_51 : decode cX11_lays 51 = .ok (.iload 5, 2) := by decide +kernel
theorem dX11_lays_53 : decode cX11_lays 53 = .ok (.ifCond .lt 35, 3) := by decide +kernel
theorem dX11_lays_56 : decode cX11_lays 56 = .ok (.aload_n 0, 1) := by decide +kernel
theorem dX11_lays_57 : decode cX11_lays 57 = .ok (.getfield 7, 3) := by decide +kernel
theorem dX11_lays_60 : decode cX11_lays 60 = .ok (.iload 4, 2) := by decide +kernel
theorem dX11_lays_62 : decode cX11_lays 62 = .ok (.iconst 3, 1) := by decide +kernel
theorem dX11_lays_63 : decode cX11_lays 63 = .ok (.iadd, 1) := by decide +kernel
theorem dX11_lays_64 : decode cX11_lays 64 = .ok (.iconst 2, 1) := by decide +kernel
theorem dX11_lays_65 : decode cX11_lays 65 = .ok (.iadd, 1) := by decide +kernel
theorem dX11_lays_66 : decode cX11_lays 66 = .ok (.iload 5, 2) := by decide +kernel
theorem dX11_lays_68 : decode cX11_lays 68 = .ok (.iadd, 1) := by decide +kernel
theorem dX11_lays_69 : decode cX11_lays 69 = .ok (.aload_n 0, 1) := by decide +kernel
theorem dX11_lays_70 : decode cX11_lays 70 = .ok (.getfield 7, 3) := by decide +kernel
theorem dX11_lays_73 : decode cX11_lays 73 = .ok (.iload 4, 2) := by decide +kernel
theorem dX11_lays_75 : decode cX11_lays 75 = .ok (.iconst 3, 1) := by decide +kernel
theorem dX11_lays_76 : decode cX11_lays 76 = .ok (.iadd, 1) := by decide +kernel
theorem dX11_lays_77 : decode cX11_lays 77 = .ok (.iload 5, 2) := by decide +kernel
theorem dX11_lays_79 : decode cX11_lays 79 = .ok (.iadd, 1) := by decide +kernel
theorem dX11_lays_80 : decode cX11_lays 80 = .ok (.iaload, 1) := by decide +kernel
theorem dX11_lays_81 : decode cX11_lays 81 = .ok (.iastore, 1) := by decide +kernel
theorem dX11_lays_82 : decode cX11_lays 82 = .ok (.iinc 5 (-1), 3) := by decide +kernel
theorem dX11_lays_85 : decode cX11_lays 85 = .ok (.goto (-34), 3) := by decide +kernel
theorem dX11_lays_88 : decode cX11_lays 88 = .ok (.aload_n 0, 1) := by decide +kernel
theorem dX11_lays_89 : decode cX11_lays 89 = .ok (.getfield 7, 3) := by decide +kernel
theorem dX11_lays_92 : decode cX11_lays 92 = .ok (.iload 4, 2) := by decide +kernel
theorem dX11_lays_94 : decode cX11_lays 94 = .ok (.iconst 3, 1) := by decide +kernel
theorem dX11_lays_95 : decode cX11_lays 95 = .ok (.iadd, 1) := by decide +kernel
theorem dX11_lays_96 : decode cX11_lays 96 = .ok (.iload_n 2, 1) := by decide +kernel
theorem dX11_lays_97 : decode cX11_lays 97 = .ok (.iastore, 1) := by decide +kernel
theorem dX11_lays_98 : decode cX11_lays 98 = .ok (.aload_n 0, 1) := by decide +kernel
theorem dX11_lays_99 : decode cX11_lays 99 = .ok (.getfield 7, 3) := by decide +kernel
theorem dX11_lays_102 : decode cX11_lays 102 = .ok (.iload 4, 2) := by decide +kernel
theorem dX11_lays_104 : decode cX11_lays 104 = .ok (.iconst 3, 1) := by decide +kernel
theorem dX11_lays_105 : decode cX11_lays 105 = .ok (.iadd, 1) := by decide +kernel
theorem dX11_lays_106 : decode cX11_lays 106 = .ok (.iconst 1, 1) := by decide +kernel
theorem dX11_lays_107 : decode cX11_lays 107 = .ok (.iadd, 1) := by decide +kernel
theorem dX11_lays_108 : decode cX11_lays 108 = .ok (.iload_n 3, 1) := by decide +kernel
theorem dX11_lays_109 : decode cX11_lays 109 = .ok (.iastore, 1) := by decide +kernel
theorem dX11_lays_110 : decode cX11_lays 110 = .ok (.aload_n 0, 1) := by decide +kernel
theorem dX11_lays_111 : decode cX11_lays 111 = .ok (.getfield 7, 3) := by decide +kernel
theorem dX11_lays_114 : decode cX11_lays 114 = .ok (.iload 4, 2) := by decide +kernel
theorem dX11_lays_116 : decode cX11_lays 116 = .ok (.iconst 2, 1) := by decide +kernel
theorem dX11_lays_117 : decode cX11_lays 117 = .ok (.iadd, 1) := by decide +kernel
theorem dX11_lays_118 : decode cX11_lays 118 = .ok (.dup2, 1) := by decide +kernel
theorem dX11_lays_119 : decode cX11_lays 119 = .ok (.iaload, 1) := by decide +kernel
theorem dX11_lays_120 : decode cX11_lays 120 = .ok (.iconst 1, 1) := by decide +kernel
theorem dX11_lays_121 : decode cX11_lays 121 = .ok (.iadd, 1) := by decide +kernel
theorem dX11_lays_122 : decode cX11_lays 122 = .ok (.iastore, 1) := by decide +kernel
theorem dX11_lays_123 : decode cX11_lays 123 = .ok (.return_, 1) := by decide +kernel
theorem dX11_lay_0 : decode cX11_lay 0 = .ok (.aload_n 0, 1) := by decide +kernel
theorem dX11_lay_1 : decode cX11_lay 1 = .ok (.iload_n 1, 1) := by decide +kernel
theorem dX11_lay_2 : decode cX11_lay 2 = .ok (.invokevirtual 302, 3) := by decide +kernel
theorem dX11_lay_5 : decode cX11_lay 5 = .ok (.ifCond .eq 24, 3) := by decide +kernel
theorem dX11_lay_8 : decode cX11_lay 8 = .ok (.aload_n 0, 1) := by decide +kernel
theorem dX11_lay_9 : decode cX11_lay 9 = .ok (.iload_n 2, 1) := by decide +kernel
theorem dX11_lay_10 : decode cX11_lay 10 = .ok (.i2l, 1) := by decide +kernel
theorem dX11_lay_11 : decode cX11_lay 11 = .ok (.invokevirtual 283, 3) := by decide +kernel
theorem dX11_lay_14 : decode cX11_lay 14 = .ok (.ifCond .eq 15, 3) := by decide +kernel
theorem dX11_lay_17 : decode cX11_lay 17 = .ok (.iload_n 3, 1) := by decide +kernel
theorem dX11_lay_18 : decode cX11_lay 18 = .ok (.i2l, 1) := by decide +kernel
theorem dX11_lay_19 : decode cX11_lay 19 = .ok (.lconst 1, 1) := by decide +kernel
theorem dX11_lay_20 : decode cX11_lay 20 = .ok (.ldc2_w 439, 3) := by decide +kernel
theorem dX11_lay_23 : decode cX11_lay 23 = .ok (.invokestatic 399, 3) := by decide +kernel
theorem dX11_lay_26 : decode cX11_lay 26 = .ok (.ifCond .ne 9, 3) := by decide +kernel
theorem dX11_lay_29 : decode cX11_lay 29 = .ok (.aload_n 0, 1) := by decide +kernel
theorem dX11_lay_30 : decode cX11_lay 30 = .ok (.iconst 1, 1) := by decide +kernel
theorem dX11_lay_31 : decode cX11_lay 31 = .ok (.invokevirtual 102, 3) := by decide +kernel
theorem dX11_lay_34 : decode cX11_lay 34 = .ok (.ireturn, 1) := by decide +kernel
theorem dX11_lay_35 : decode cX11_lay 35 = .ok (.aload_n 0, 1) := by decide +kernel
theorem dX11_lay_36 : decode cX11_lay 36 = .ok (.iload_n 1, 1) := by decide +kernel
theorem dX11_lay_37 : decode cX11_lay 37 = .ok (.iload_n 2, 1) := by decide +kernel
theorem dX11_lay_38 : decode cX11_lay 38 = .ok (.iload_n 3, 1) := by decide +kernel
theorem dX11_lay_39 : decode cX11_lay 39 = .ok (.invokevirtual 441, 3) := by decide +kernel
theorem dX11_lay_42 : decode cX11_lay 42 = .ok (.istore 4, 2) := by decide +kernel
theorem dX11_lay_44 : decode cX11_lay 44 = .ok (.iload 4, 2) := by decide +kernel
theorem dX11_lay_46 : decode cX11_lay 46 = .ok (.ifCond .le 10, 3) := by decide +kernel
theorem dX11_lay_49 : decode cX11_lay 49 = .ok (.aload_n 0, 1) := by decide +kernel
theorem dX11_lay_50 : decode cX11_lay 50 = .ok (.iload 4, 2) := by decide +kernel
theorem dX11_lay_52 : decode cX11_lay 52 = .ok (.invokevirtual 102, 3) := by decide +kernel
theorem dX11_lay_55 : decode cX11_lay 55 = .ok (.ireturn, 1) := by decide +kernel
theorem dX11_lay_56 : decode cX11_lay 56 = .ok (.aload_n 0, 1) := by decide +kernel
theorem dX11_lay_57 : decode cX11_lay 57 = .ok (.iload_n 1, 1) := by decide +kernel
theorem dX11_lay_58 : decode cX11_lay 58 = .ok (.iload_n 2, 1) := by decide +kernel
theorem dX11_lay_59 : decode cX11_lay 59 = .ok (.iload_n 3, 1) := by decide +kernel
theorem dX11_lay_60 : decode cX11_lay 60 = .ok (.invokevirtual 445, 3) := by decide +kernel
theorem dX11_lay_63 : decode cX11_lay 63 = .ok (.aload_n 0, 1) := by decide +kernel
theorem dX11_lay_64 : decode cX11_lay 64 = .ok (.aload_n 0, 1) := by decide +kernel
theorem dX11_lay_65 : decode cX11_lay 65 = .ok (.iload_n 1, 1) := by decide +kernel
theorem dX11_lay_66 : decode cX11_lay 66 = .ok (.invokevirtual 305, 3) := by decide +kernel
theorem dX11_lay_69 : decode cX11_lay 69 = .ok (.invokevirtual 106, 3) := by decide +kernel
theorem dX11_lay_72 : decode cX11_lay 72 = .ok (.ireturn, 1) := by decide +kernel
theorem dX11_wears_0 : decode cX11_wears 0 = .ok (.iload_n 1, 1) := by decide +kernel
theorem dX11_wears_1 : decode cX11_wears 1 = .ok (.invokestatic 280, 3) := by decide +kernel
theorem dX11_wears_4 : decode cX11_wears 4 = .ok (.istore_n 3, 1) := by decide +kernel
theorem dX11_wears_5 : decode cX11_wears 5 = .ok (.iload_n 2, 1) := by decide +kernel
theorem dX11_wears_6 : decode cX11_wears 6 = .ok (.istore 4, 2) := by decide +kernel
theorem dX11_wears_8 : decode cX11_wears 8 = .ok (.iload 4, 2) := by decide +kernel
theorem dX11_wears_10 : decode cX11_wears 10 = .ok (.ifCond .le 122, 3) := by decide +kernel
theorem dX11_wears_13 : decode cX11_wears 13 = .ok (.aload_n 0, 1) := by decide +kernel
theorem dX11_wears_14 : decode cX11_wears 14 = .ok (.iload_n 1, 1) := by decide +kernel
theorem dX11_wears_15 : decode cX11_wears 15 = .ok (.invokevirtual 305, 3) := by decide +kernel
theorem dX11_wears_18 : decode cX11_wears 18 = .ok (.ifCond .le 114, 3) := by decide +kernel
theorem dX11_wears_21 : decode cX11_wears 21 = .ok (.iload 4, 2) := by decide +kernel
theorem dX11_wears_23 : decode cX11_wears 23 = .ok (.aload_n 0, 1) := by decide +kernel
theorem dX11_wears_24 : decode cX11_wears 24 = .ok (.iload_n 1, 1) := by decide +kernel
theorem dX11_wears_25 : decode cX11_wears 25 = .ok (.iconst 0, 1) := by decide +kernel
theorem dX11_wears_26 : decode cX11_wears 26 = .ok (.invokevirtual 290, 3) := by decide +kernel
theorem dX11_wears_29 : decode cX11_wears 29 = .ok (.invokestatic 158, 3) := by decide +kernel
theorem dX11_wears_32 : decode cX11_wears 32 = .ok (.istore 5, 2) := by decide +kernel
theorem dX11_wears_34 : decode cX11_wears 34 = .ok (.iload 4, 2) := by decide +kernel
theorem dX11_wears_36 : decode cX11_wears 36 = .ok (.iload 5, 2) := by decide +kernel
theorem dX11_wears_38 : decode cX11_wears 38 = .ok (.isub, 1) := by decide +kernel
theorem dX11_wears_39 : decode cX11_wears 39 = .ok (.istore 4, 2) := by decide +kernel
theorem dX11_wears_41 : decode cX11_wears 41 = .ok (.aload_n 0, 1) := by decide +kernel
theorem dX11_wears_42 : decode cX11_wears 42 = .ok (.getfield 7, 3) := by decide +kernel
theorem dX11_wears_45 : decode cX11_wears 45 = .ok (.iload_n 3, 1) := by decide +kernel
theorem dX11_wears_46 : decode cX11_wears 46 = .ok (.iconst 3, 1) := by decide +kernel
theorem dX11_wears_47 : decode cX11_wears 47 = .ok (.iadd, 1) := by decide +kernel
theorem dX11_wears_48 : decode cX11_wears 48 = .ok (.iconst 1, 1) := by decide +kernel
theorem dX11_wears_49 : decode cX11_wears 49 = .ok (.iadd, 1) := by decide +kernel
theorem dX11_wears_50 : decode cX11_wears 50 = .ok (.dup2, 1) := by decide +kernel
theorem dX11_wears_51 : decode cX11_wears 51 = .ok (.iaload, 1) := by decide +kernel
theorem dX11_wears_52 : decode cX11_wears 52 = .ok (.iload 5, 2) := by decide +kernel
theorem dX11_wears_54 : decode cX11_wears 54 = .ok (.isub, 1) := by decide +kernel
theorem dX11_wears_55 : decode cX11_wears 55 = .ok (.iastore, 1) := by decide +kernel
theorem dX11_wears_56 : decode cX11_wears 56 = .ok (.aload_n 0, 1) := by decide +kernel
theorem dX11_wears_57 : decode cX11_wears 57 = .ok (.getfield 7, 3) := by decide +kernel
theorem dX11_wears_60 : decode cX11_wears 60 = .ok (.iload_n 3, 1) := by decide +kernel
theorem dX11_wears_61 : decode cX11_wears 61 = .ok (.iconst 3, 1) := by decide +kernel
theorem dX11_wears_62 : decode cX11_wears 62 = .ok (.iadd, 1) := by decide +kernel
theorem dX11_wears_63 : decode cX11_wears 63 = .ok (.iconst 1, 1) := by decide +kernel
theorem dX11_wears_64 : decode cX11_wears 64 = .ok (.iadd, 1) := by decide +kernel
theorem dX11_wears_65 : decode cX11_wears 65 = .ok (.iaload, 1) := by decide +kernel
theorem dX11_wears_66 : decode cX11_wears 66 = .ok (.ifCond .le 6, 3) := by decide +kernel
theorem dX11_wears_69 : decode cX11_wears 69 = .ok (.goto (-61), 3) := by decide +kernel
theorem dX11_wears_72 : decode cX11_wears 72 = .ok (.aload_n 0, 1) := by decide +kernel
theorem dX11_wears_73 : decode cX11_wears 73 = .ok (.getfield 7, 3) := by decide +kernel
theorem dX11_wears_76 : decode cX11_wears 76 = .ok (.iload_n 3, 1) := by decide +kernel
theorem dX11_wears_77 : decode cX11_wears 77 = .ok (.iconst 2, 1) := by decide +kernel
theorem dX11_wears_78 : decode cX11_wears 78 = .ok (.iadd, 1) := by decide +kernel
theorem dX11_wears_79 : decode cX11_wears 79 = .ok (.dup2, 1) := by decide +kernel
theorem dX11_wears_80 : decode cX11_wears 80 = .ok (.iaload, 1) := by decide +kernel
theorem dX11_wears_81 : decode cX11_wears 81 = .ok (.iconst 1, 1) := by decide +kernel
theorem dX11_wears_82 : decode cX11_wears 82 = .ok (.isub, 1) := by decide +kernel
theorem dX11_wears_83 : decode cX11_wears 83 = .ok (.iastore, 1) := by decide +kernel
theorem dX11_wears_84 : decode cX11_wears 84 = .ok (.iconst 0, 1) := by decide +kernel
theorem dX11_wears_85 : decode cX11_wears 85 = .ok (.istore 6, 2) := by decide +kernel
theorem dX11_wears_87 : decode cX11_wears 87 = .ok (.iload 6, 2) := by decide +kernel
theorem dX11_wears_89 : decode cX11_wears 89 = .ok (.iconst 2, 1) := by decide +kernel
theorem dX11_wears_90 : decode cX11_wears 90 = .ok (.aload_n 0, 1) := by decide +kernel
theorem dX11_wears_91 : decode cX11_wears 91 = .ok (.iload_n 1, 1) := by decide +kernel
theorem dX11_wears_92 : decode cX11_wears 92 = .ok (.invokevirtual 305, 3) := by decide +kernel
theorem dX11_wears_95 : decode cX11_wears 95 = .ok (.imul, 1) := by decide +kernel
theorem dX11_wears_96 : decode cX11_wears 96 = .ok (.if_icmp .ge 33, 3) := by decide +kernel
theorem dX11_wears_99 : decode cX11_wears 99 = .ok (.aload_n 0, 1) := by decide +kernel
theorem dX11_wears_100 : decode cX11_wears 100 = .ok (.getfield 7, 3) := by decide +kernel
theorem dX11_wears_103 : decode cX11_wears 103 = .ok (.iload_n 3, 1) := by decide +kernel
theorem dX11_wears_104 : decode cX11_wears 104 = .ok (.iconst 3, 1) := by decide +kernel
theorem dX11_wears_105 : decode cX11_wears 105 = .ok (.iadd, 1) := by decide +kernel
theorem dX11_wears_106 : decode cX11_wears 106 = .ok (.iload 6, 2) := by decide +kernel
theorem dX11_wears_108 : decode cX11_wears 108 = .ok (.iadd, 1) := by decide +kernel
theorem dX11_wears_109 : decode cX11_wears 109 = .ok (.aload_n 0, 1) := by decide +kernel
theorem dX11_wears_110 : decode cX11_wears 110 = .ok (.getfield 7, 3) := by decide +kernel
theorem dX11_wears_113 : decode cX11_wears 113 = .ok (.iload_n 3, 1) := by decide +kernel
theorem dX11_wears_114 : decode cX11_wears 114 = .ok (.iconst 3, 1) := by decide +kernel
theorem dX11_wears_115 : decode cX11_wears 115 = .ok (.iadd, 1) := by decide +kernel
theorem dX11_wears_116 : decode cX11_wears 116 = .ok (.iconst 2, 1) := by decide +kernel
theorem dX11_wears_117 : decode cX11_wears 117 = .ok (.iadd, 1) := by decide +kernel
theorem dX11_wears_118 : decode cX11_wears 118 = .ok (.iload 6, 2) := by decide +kernel
theorem dX11_wears_120 : decode cX11_wears 120 = .ok (.iadd, 1) := by decide +kernel
theorem dX11_wears_121 : decode cX11_wears 121 = .ok (.iaload, 1) := by decide +kernel
theorem dX11_wears_122 : decode cX11_wears 122 = .ok (.iastore, 1) := by decide +kernel
theorem dX11_wears_123 : decode cX11_wears 123 = .ok (.iinc 6 1, 3) := by decide +kernel
theorem dX11_wears_126 : decode cX11_wears 126 = .ok (.goto (-39), 3) := by decide +kernel
theorem dX11_wears_129 : decode cX11_wears 129 = .ok (.goto (-121), 3) := by decide +kernel
theorem dX11_wears_132 : decode cX11_wears 132 = .ok (.iload_n 2, 1) := by decide +kernel
theorem dX11_wears_133 : decode cX11_wears 133 = .ok (.iload 4, 2) := by decide +kernel
theorem dX11_wears_135 : decode cX11_wears 135 = .ok (.isub, 1) := by decide +kernel
theorem dX11_wears_136 : decode cX11_wears 136 = .ok (.ireturn, 1) := by decide +kernel
theorem dX11_wear_0 : decode cX11_wear 0 = .ok (.aload_n 0, 1) := by decide +kernel
theorem dX11_wear_1 : decode cX11_wear 1 = .ok (.iload_n 1, 1) := by decide +kernel
theorem dX11_wear_2 : decode cX11_wear 2 = .ok (.invokevirtual 302, 3) := by decide +kernel
theorem dX11_wear_5 : decode cX11_wear 5 = .ok (.ifCond .eq 28, 3) := by decide +kernel
theorem dX11_wear_8 : decode cX11_wear 8 = .ok (.iload_n 2, 1) := by decide +kernel
theorem dX11_wear_9 : decode cX11_wear 9 = .ok (.i2l, 1) := by decide +kernel
theorem dX11_wear_10 : decode cX11_wear 10 = .ok (.lconst 1, 1) := by decide +kernel
theorem dX11_wear_11 : decode cX11_wear 11 = .ok (.ldc2_w 439, 3) := by decide +kernel
theorem dX11_wear_14 : decode cX11_wear 14 = .ok (.invokestatic 399, 3) := by decide +kernel
theorem dX11_wear_17 : decode cX11_wear 17 = .ok (.ifCond .eq 16, 3) := by decide +kernel
theorem dX11_wear_20 : decode cX11_wear 20 = .ok (.aload_n 0, 1) := by decide +kernel
theorem dX11_wear_21 : decode cX11_wear 21 = .ok (.aload_n 0, 1) := by decide +kernel
theorem dX11_wear_22 : decode cX11_wear 22 = .ok (.iload_n 1, 1) := by decide +kernel
theorem dX11_wear_23 : decode cX11_wear 23 = .ok (.iload_n 2, 1) := by decide +kernel
theorem dX11_wear_24 : decode cX11_wear 24 = .ok (.invokevirtual 449, 3) := by decide +kernel
theorem dX11_wear_27 : decode cX11_wear 27 = .ok (.invokevirtual 106, 3) := by decide +kernel
theorem dX11_wear_30 : decode cX11_wear 30 = .ok (.goto 8, 3) := by decide +kernel
theorem dX11_wear_33 : decode cX11_wear 33 = .ok (.aload_n 0, 1) := by decide +kernel
theorem dX11_wear_34 : decode cX11_wear 34 = .ok (.iconst 1, 1) := by decide +kernel
theorem dX11_wear_35 : decode cX11_wear 35 = .ok (.invokevirtual 102, 3) := by decide +kernel
theorem dX11_wear_38 : decode cX11_wear 38 = .ok (.ireturn, 1) := by decide +kernel
theorem dX11_throwing_0 : decode cX11_throwing 0 = .ok (.iload_n 1, 1) := by decide +kernel
theorem dX11_throwing_1 : decode cX11_throwing 1 = .ok (.ifCond .lt 25, 3) := by decide +kernel
theorem dX11_throwing_4 : decode cX11_throwing 4 = .ok (.iload_n 1, 1) := by decide +kernel
theorem dX11_throwing_5 : decode cX11_throwing 5 = .ok (.aload_n 0, 1) := by decide +kernel
theorem dX11_throwing_6 : decode cX11_throwing 6 = .ok (.getfield 7, 3) := by decide +kernel
theorem dX11_throwing_9 : decode cX11_throwing 9 = .ok (.iconst 3, 1) := by decide +kernel
theorem dX11_throwing_10 : decode cX11_throwing 10 = .ok (.iaload, 1) := by decide +kernel
theorem dX11_throwing_11 : decode cX11_throwing 11 = .ok (.if_icmp .ge 15, 3) := by decide +kernel
theorem dX11_throwing_14 : decode cX11_throwing 14 = .ok (.iload_n 2, 1) := by decide +kernel
theorem dX11_throwing_15 : decode cX11_throwing 15 = .ok (.i2l, 1) := by decide +kernel
theorem dX11_throwing_16 : decode cX11_throwing 16 = .ok (.lconst 0, 1) := by decide +kernel
theorem dX11_throwing_17 : decode cX11_throwing 17 = .ok (.ldc2_w 397, 3) := by decide +kernel
theorem dX11_throwing_20 : decode cX11_throwing 20 = .ok (.invokestatic 399, 3) := by decide +kernel
theorem dX11_throwing_23 : decode cX11_throwing 23 = .ok (.ifCond .ne 9, 3) := by decide +kernel
theorem dX11_throwing_26 : decode cX11_throwing 26 = .ok (.aload_n 0, 1) := by decide +kernel
theorem dX11_throwing_27 : decode cX11_throwing 27 = .ok (.iconst 1, 1) := by decide +kernel
theorem dX11_throwing_28 : decode cX11_throwing 28 = .ok (.invokevirtual 109, 3) := by decide +kernel
theorem dX11_throwing_31 : decode cX11_throwing 31 = .ok (.ireturn, 1) := by decide +kernel
theorem dX11_throwing_32 : decode cX11_throwing 32 = .ok (.aload_n 0, 1) := by decide +kernel
theorem dX11_throwing_33 : decode cX11_throwing 33 = .ok (.getfield 7, 3) := by decide +kernel
theorem dX11_throwing_36 : decode cX11_throwing 36 = .ok (.sipush 268, 3) := by decide +kernel
theorem dX11_throwing_39 : decode cX11_throwing 39 = .ok (.iconst 5, 1) := by decide +kernel
theorem dX11_throwing_40 : decode cX11_throwing 40 = .ok (.iload_n 1, 1) := by decide +kernel
theorem dX11_throwing_41 : decode cX11_throwing 41 = .ok (.imul, 1) := by decide +kernel
theorem dX11_throwing_42 : decode cX11_throwing 42 = .ok (.iadd, 1) := by decide +kernel
theorem dX11_throwing_43 : decode cX11_throwing 43 = .ok (.iconst 4, 1) := by decide +kernel
theorem dX11_throwing_44 : decode cX11_throwing 44 = .ok (.iadd, 1) := by decide +kernel
theorem dX11_throwing_45 : decode cX11_throwing 45 = .ok (.iload_n 2, 1) := by decide +kernel
theorem dX11_throwing_46 : decode cX11_throwing 46 = .ok (.iastore, 1) := by decide +kernel
theorem dX11_throwing_47 : decode cX11_throwing 47 = .ok (.aload_n 0, 1) := by decide +kernel
theorem dX11_throwing_48 : decode cX11_throwing 48 = .ok (.iconst 0, 1) := by decide +kernel
theorem dX11_throwing_49 : decode cX11_throwing 49 = .ok (.invokevirtual 109, 3) := by decide +kernel
theorem dX11_throwing_52 : decode cX11_throwing 52 = .ok (.ireturn, 1) := by decide +kernel
theorem dX11_draw_0 : decode cX11_draw 0 = .ok (.aload_n 0, 1) := by decide +kernel
theorem dX11_draw_1 : decode cX11_draw 1 = .ok (.aload_n 0, 1) := by decide +kernel
theorem dX11_draw_2 : decode cX11_draw 2 = .ok (.getfield 452, 3) := by decide +kernel
theorem dX11_draw_5 : decode cX11_draw 5 = .ok (.sipush 2777, 3) := by decide +kernel
theorem dX11_draw_8 : decode cX11_draw 8 = .ok (.imul, 1) := by decide +kernel
theorem dX11_draw_9 : decode cX11_draw 9 = .ok (.sipush 9551, 3) := by decide +kernel
theorem dX11_draw_12 : decode cX11_draw 12 = .ok (.iadd, 1) := by decide +kernel
theorem dX11_draw_13 : decode cX11_draw 13 = .ok (.ldc_w 455, 3) := by decide +kernel
theorem dX11_draw_16 : decode cX11_draw 16 = .ok (.irem, 1) := by decide +kernel
theorem dX11_draw_17 : decode cX11_draw 17 = .ok (.putfield 452, 3) := by decide +kernel
theorem dX11_draw_20 : decode cX11_draw 20 = .ok (.aload_n 0, 1) := by decide +kernel
theorem dX11_draw_21 : decode cX11_draw 21 = .ok (.getfield 452, 3) := by decide +kernel
theorem dX11_draw_24 : decode cX11_draw 24 = .ok (.bipush 8, 2) := by decide +kernel
theorem dX11_draw_26 : decode cX11_draw 26 = .ok (.idiv, 1) := by decide +kernel
theorem dX11_draw_27 : decode cX11_draw 27 = .ok (.iload_n 1, 1) := by decide +kernel
theorem dX11_draw_28 : decode cX11_draw 28 = .ok (.irem, 1) := by decide +kernel
theorem dX11_draw_29 : decode cX11_draw 29 = .ok (.ireturn, 1) := by decide +kernel
theorem dX11_does_0 : decode cX11_does 0 = .ok (.aload_n 0, 1) := by decide +kernel
theorem dX11_does_1 : decode cX11_does 1 = .ok (.getfield 7, 3) := by decide +kernel
theorem dX11_does_4 : decode cX11_does 4 = .ok (.iload_n 1, 1) := by decide +kernel
theorem dX11_does_5 : decode cX11_does 5 = .ok (.iconst 1, 1) := by decide +kernel
theorem dX11_does_6 : decode cX11_does 6 = .ok (.iadd, 1) := by decide +kernel
theorem dX11_does_7 : decode cX11_does 7 = .ok (.iaload, 1) := by decide +kernel
theorem dX11_does_8 : decode cX11_does 8 = .ok (.istore_n 2, 1) := by decide +kernel
theorem dX11_does_9 : decode cX11_does 9 = .ok (.aload_n 0, 1) := by decide +kernel
theorem dX11_does_10 : decode cX11_does 10 = .ok (.getfield 7, 3) := by decide +kernel
theorem dX11_does_13 : decode cX11_does 13 = .ok (.iload_n 1, 1) := by decide +kernel
theorem dX11_does_14 : decode cX11_does 14 = .ok (.iconst 2, 1) := by decide +kernel
theorem dX11_does_15 : decode cX11_does 15 = .ok (.iadd, 1) := by decide +kernel
theorem dX11_does_16 : decode cX11_does 16 = .ok (.iaload, 1) := by decide +kernel
theorem dX11_does_17 : decode cX11_does 17 = .ok (.istore_n 3, 1) := by decide +kernel
theorem dX11_does_18 : decode cX11_does 18 = .ok (.aload_n 0, 1) := by decide +kernel
theorem dX11_does_19 : decode cX11_does 19 = .ok (.getfield 7, 3) := by decide +kernel
theorem dX11_does_22 : decode cX11_does 22 = .ok (.iload_n 1, 1) := by decide +kernel
theorem dX11_does_23 : decode cX11_does 23 = .ok (.iaload, 1) := by decide +kernel
theorem dX11_does_24 : decode cX11_does 24 = .ok (.tableswitch 213 13 16 #[32, 96, 114, 157], 32) := by decide +kernel
theorem dX11_does_56 : decode cX11_does 56 = .ok (.aload_n 0, 1) := by decide +kernel
theorem dX11_does_57 : decode cX11_does 57 = .ok (.iload_n 2, 1) := by decide +kernel
theorem dX11_does_58 : decode cX11_does 58 = .ok (.iload_n 3, 1) := by decide +kernel
theorem dX11_does_59 : decode cX11_does 59 = .ok (.aload_n 0, 1) := by decide +kernel
theorem dX11_does_60 : decode cX11_does 60 = .ok (.getfield 7, 3) := by decide +kernel
theorem dX11_does_63 : decode cX11_does 63 = .ok (.iload_n 1, 1) := by decide +kernel
theorem dX11_does_64 : decode cX11_does 64 = .ok (.iconst 3, 1) := by decide +kernel
theorem dX11_does_65 : decode cX11_does 65 = .ok (.iadd, 1) := by decide +kernel
theorem dX11_does_66 : decode cX11_does 66 = .ok (.iaload, 1) := by decide +kernel
theorem dX11_does_67 : decode cX11_does 67 = .ok (.invokevirtual 441, 3) := by decide +kernel
theorem dX11_does_70 : decode cX11_does 70 = .ok (.ifCond .le 16, 3) := by decide +kernel
theorem dX11_does_73 : decode cX11_does 73 = .ok (.aload_n 0, 1) := by decide +kernel
theorem dX11_does_74 : decode cX11_does 74 = .ok (.getfield 90, 3) := by decide +kernel
theorem dX11_does_77 : decode cX11_does 77 = .ok (.iconst 0, 1) := by decide +kernel
theorem dX11_does_78 : decode cX11_does 78 = .ok (.dup2, 1) := by decide +kernel
theorem dX11_does_79 : decode cX11_does 79 = .ok (.iaload, 1) := by decide +kernel
theorem dX11_does_80 : decode cX11_does 80 = .ok (.iconst 1, 1) := by decide +kernel
theorem dX11_does_81 : decode cX11_does 81 = .ok (.iadd, 1) := by decide +kernel
theorem dX11_does_82 : decode cX11_does 82 = .ok (.iastore, 1) := by decide +kernel
theorem dX11_does_83 : decode cX11_does 83 = .ok (.goto 154, 3) := by decide +kernel
theorem dX11_does_86 : decode cX11_does 86 = .ok (.aload_n 0, 1) := by decide +kernel
theorem dX11_does_87 : decode cX11_does 87 = .ok (.iload_n 2, 1) := by decide +kernel
theorem dX11_does_88 : decode cX11_does 88 = .ok (.iload_n 3, 1) := by decide +kernel
theorem dX11_does_89 : decode cX11_does 89 = .ok (.aload_n 0, 1) := by decide +kernel
theorem dX11_does_90 : decode cX11_does 90 = .ok (.getfield 7, 3) := by decide +kernel
theorem dX11_does_93 : decode cX11_does 93 = .ok (.iload_n 1, 1) := by decide +kernel
theorem dX11_does_94 : decode cX11_does 94 = .ok (.iconst 3, 1) := by decide +kernel
theorem dX11_does_95 : decode cX11_does 95 = .ok (.iadd, 1) := by decide +kernel
theorem dX11_does_96 : decode cX11_does 96 = .ok (.iaload, 1) := by decide +kernel
theorem dX11_does_97 : decode cX11_does 97 = .ok (.invokevirtual 445, 3) := by decide +kernel
theorem dX11_does_100 : decode cX11_does 100 = .ok (.aload_n 0, 1) := by decide +kernel
theorem dX11_does_101 : decode cX11_does 101 = .ok (.getfield 90, 3) := by decide +kernel
theorem dX11_does_104 : decode cX11_does 104 = .ok (.iconst 1, 1) := by decide +kernel
theorem dX11_does_105 : decode cX11_does 105 = .ok (.dup2, 1) := by decide +kernel
theorem dX11_does_106 : decode cX11_does 106 = .ok (.iaload, 1) := by decide +kernel
theorem dX11_does_107 : decode cX11_does 107 = .ok (.aload_n 0, 1) := by decide +kernel
theorem dX11_does_108 : decode cX11_does 108 = .ok (.getfield 7, 3) := by decide +kernel
theorem dX11_does_111 : decode cX11_does 111 = .ok (.iload_n 1, 1) := by decide +kernel
theorem dX11_does_112 : decode cX11_does 112 = .ok (.iconst 3, 1) := by decide +kernel
theorem dX11_does_113 : decode cX11_does 113 = .ok (.iadd, 1) := by decide +kernel
theorem dX11_does_114 : decode cX11_does 114 = .ok (.iaload, 1) := by decide +kernel
theorem dX11_does_115 : decode cX11_does 115 = .ok (.iadd, 1) := by decide +kernel
theorem dX11_does_116 : decode cX11_does 116 = .ok (.iastore, 1) := by decide +kernel
theorem dX11_does_117 : decode cX11_does 117 = .ok (.goto 120, 3) := by decide +kernel
theorem dX11_does_120 : decode cX11_does 120 = .ok (.aload_n 0, 1) := by decide +kernel
theorem dX11_does_121 : decode cX11_does 121 = .ok (.getfield 90, 3) := by decide +kernel
theorem dX11_does_124 : decode cX11_does 124 = .ok (.iconst 2, 1) := by decide +kernel
theorem dX11_does_125 : decode cX11_does 125 = .ok (.dup2, 1) := by decide +kernel
theorem dX11_does_126 : decode cX11_does 126 = .ok (.iaload, 1) := by decide +kernel
theorem dX11_does_127 : decode cX11_does 127 = .ok (.aload_n 0, 1) := by decide +kernel
theorem dX11_does_128 : decode cX11_does 128 = .ok (.iload_n 2, 1) := by decide +kernel
theorem dX11_does_129 : decode cX11_does 129 = .ok (.iload_n 3, 1) := by decide +kernel
theorem dX11_does_130 : decode cX11_does 130 = .ok (.invokevirtual 449, 3) := by decide +kernel
theorem dX11_does_133 : decode cX11_does 133 = .ok (.iadd, 1) := by decide +kernel
theorem dX11_does_134 : decode cX11_does 134 = .ok (.iastore, 1) := by decide +kernel
theorem dX11_does_135 : decode cX11_does 135 = .ok (.goto 102, 3) := by decide +kernel
theorem dX11_does_138 : decode cX11_does 138 = .ok (.iconst 0, 1) := by decide +kernel
theorem dX11_does_139 : decode cX11_does 139 = .ok (.istore 4, 2) := by decide +kernel
theorem dX11_does_141 : decode cX11_does 141 = .ok (.iload 4, 2) := by decide +kernel
theorem dX11_does_143 : decode cX11_does 143 = .ok (.aload_n 0, 1) := by decide +kernel
theorem dX11_does_144 : decode cX11_does 144 = .ok (.getfield 7, 3) := by decide +kernel
theorem dX11_does_147 : decode cX11_does 147 = .ok (.iconst 1, 1) := by decide +kernel
theorem dX11_does_148 : decode cX11_does 148 = .ok (.iaload, 1) := by decide +kernel
theorem dX11_does_149 : decode cX11_does 149 = .ok (.if_icmp .ge 29, 3) := by decide +kernel
theorem dX11_does_152 : decode cX11_does 152 = .ok (.aload_n 0, 1) := by decide +kernel
theorem dX11_does_153 : decode cX11_does 153 = .ok (.getfield 90, 3) := by decide +kernel
theorem dX11_does_156 : decode cX11_does 156 = .ok (.iconst 2, 1) := by decide +kernel
theorem dX11_does_157 : decode cX11_does 157 = .ok (.dup2, 1) := by decide +kernel
theorem dX11_does_158 : decode cX11_does 158 = .ok (.iaload, 1) := by decide +kernel
theorem dX11_does_159 : decode cX11_does 159 = .ok (.aload_n 0, 1) := by decide +kernel
theorem dX11_does_160 : decode cX11_does 160 = .ok (.iload 4, 2) := by decide +kernel
theorem dX11_does_162 : decode cX11_does 162 = .ok (.aload_n 0, 1) := by decide +kernel
theorem dX11_does_163 : decode cX11_does 163 = .ok (.iload_n 2, 1) := by decide +kernel
theorem dX11_does_164 : decode cX11_does 164 = .ok (.invokevirtual 456, 3) := by decide +kernel
theorem dX11_does_167 : decode cX11_does 167 = .ok (.invokevirtual 449, 3) := by decide +kernel
theorem dX11_does_170 : decode cX11_does 170 = .ok (.iadd, 1) := by decide +kernel
theorem dX11_does_171 : decode cX11_does 171 = .ok (.iastore, 1) := by decide +kernel
theorem dX11_does_172 : decode cX11_does 172 = .ok (.iinc 4 1, 3) := by decide +kernel
theorem dX11_does_175 : decode cX11_does 175 = .ok (.goto (-34), 3) := by decide +kernel
theorem dX11_does_178 : decode cX11_does 178 = .ok (.goto 59, 3) := by decide +kernel
theorem dX11_does_181 : decode cX11_does 181 = .ok (.aload_n 0, 1) := by decide +kernel
theorem dX11_does_182 : decode cX11_does 182 = .ok (.getfield 7, 3) := by decide +kernel
theorem dX11_does_185 : decode cX11_does 185 = .ok (.sipush 268, 3) := by decide +kernel
theorem dX11_does_188 : decode cX11_does 188 = .ok (.iconst 5, 1) := by decide +kernel
theorem dX11_does_189 : decode cX11_does 189 = .ok (.iload_n 2, 1) := by decide +kernel
theorem dX11_does_190 : decode cX11_does 190 = .ok (.imul, 1) := by decide +kernel
theorem dX11_does_191 : decode cX11_does 191 = .ok (.iadd, 1) := by decide +kernel
theorem dX11_does_192 : decode cX11_does 192 = .ok (.iconst 4, 1) := by decide +kernel
theorem dX11_does_193 : decode cX11_does 193 = .ok (.iadd, 1) := by decide +kernel
theorem dX11_does_194 : decode cX11_does 194 = .ok (.iaload, 1) := by decide +kernel
theorem dX11_does_195 : decode cX11_does 195 = .ok (.iload_n 3, 1) := by decide +kernel
theorem dX11_does_196 : decode cX11_does 196 = .ok (.iadd, 1) := by decide +kernel
theorem dX11_does_197 : decode cX11_does 197 = .ok (.sipush 999, 3) := by decide +kernel
theorem dX11_does_200 : decode cX11_does 200 = .ok (.if_icmp .le 16, 3) := by decide +kernel
theorem dX11_does_203 : decode cX11_does 203 = .ok (.aload_n 0, 1) := by decide +kernel
theorem dX11_does_204 : decode cX11_does 204 = .ok (.getfield 90, 3) := by decide +kernel
theorem dX11_does_207 : decode cX11_does 207 = .ok (.iconst 0, 1) := by decide +kernel
theorem dX11_does_208 : decode cX11_does 208 = .ok (.dup2, 1) := by decide +kernel
theorem dX11_does_209 : decode cX11_does 209 = .ok (.iaload, 1) := by decide +kernel
theorem dX11_does_210 : decode cX11_does 210 = .ok (.iconst 1, 1) := by decide +kernel
theorem dX11_does_211 : decode cX11_does 211 = .ok (.iadd, 1) := by decide +kernel
theorem dX11_does_212 : decode cX11_does 212 = .ok (.iastore, 1) := by decide +kernel
theorem dX11_does_213 : decode cX11_does 213 = .ok (.goto 24, 3) := by decide +kernel
theorem dX11_does_216 : decode cX11_does 216 = .ok (.aload_n 0, 1) := by decide +kernel
theorem dX11_does_217 : decode cX11_does 217 = .ok (.getfield 7, 3) := by decide +kernel
theorem dX11_does_220 : decode cX11_does 220 = .ok (.sipush 268, 3) := by decide +kernel
theorem dX11_does_223 : decode cX11_does 223 = .ok (.iconst 5, 1) := by decide +kernel
theorem dX11_does_224 : decode cX11_does 224 = .ok (.iload_n 2, 1) := by decide +kernel
theorem dX11_does_225 : decode cX11_does 225 = .ok (.imul, 1) := by decide +kernel
theorem dX11_does_226 : decode cX11_does 226 = .ok (.iadd, 1) := by decide +kernel
theorem dX11_does_227 : decode cX11_does 227 = .ok (.iconst 4, 1) := by decide +kernel
theorem dX11_does_228 : decode cX11_does 228 = .ok (.iadd, 1) := by decide +kernel
theorem dX11_does_229 : decode cX11_does 229 = .ok (.dup2, 1) := by decide +kernel
theorem dX11_does_230 : decode cX11_does 230 = .ok (.iaload, 1) := by decide +kernel
theorem dX11_does_231 : decode cX11_does 231 = .ok (.iload_n 3, 1) := by decide +kernel
theorem dX11_does_232 : decode cX11_does 232 = .ok (.iadd, 1) := by decide +kernel
theorem dX11_does_233 : decode cX11_does 233 = .ok (.iastore, 1) := by decide +kernel
theorem dX11_does_234 : decode cX11_does 234 = .ok (.goto 3, 3) := by decide +kernel
theorem dX11_does_237 : decode cX11_does 237 = .ok (.return_, 1) := by decide +kernel
theorem dX11_hasRock_0 : decode cX11_hasRock 0 = .ok (.iconst 0, 1) := by decide +kernel
theorem dX11_hasRock_1 : decode cX11_hasRock 1 = .ok (.istore_n 3, 1) := by decide +kernel
theorem dX11_hasRock_2 : decode cX11_hasRock 2 = .ok (.iload_n 3, 1) := by decide +kernel
theorem dX11_hasRock_3 : decode cX11_hasRock 3 = .ok (.aload_n 0, 1) := by decide +kernel
theorem dX11_hasRock_4 : decode cX11_hasRock 4 = .ok (.iload_n 1, 1) := by decide +kernel
theorem dX11_hasRock_5 : decode cX11_hasRock 5 = .ok (.invokevirtual 305, 3) := by decide +kernel
theorem dX11_hasRock_8 : decode cX11_hasRock 8 = .ok (.if_icmp .ge 21, 3) := by decide +kernel
theorem dX11_hasRock_11 : decode cX11_hasRock 11 = .ok (.aload_n 0, 1) := by decide +kernel
theorem dX11_hasRock_12 : decode cX11_hasRock 12 = .ok (.iload_n 1, 1) := by decide +kernel
theorem dX11_hasRock_13 : decode cX11_hasRock 13 = .ok (.iload_n 3, 1) := by decide +kernel
theorem dX11_hasRock_14 : decode cX11_hasRock 14 = .ok (.invokevirtual 311, 3) := by decide +kernel
theorem dX11_hasRock_17 : decode cX11_hasRock 17 = .ok (.iload_n 2, 1) := by decide +kernel
theorem dX11_hasRock_18 : decode cX11_hasRock 18 = .ok (.if_icmp .ne 5, 3) := by decide +kernel
theorem dX11_hasRock_21 : decode cX11_hasRock 21 = .ok (.iconst 1, 1) := by decide +kernel
theorem dX11_hasRock_22 : decode cX11_hasRock 22 = .ok (.ireturn, 1) := by decide +kernel
theorem dX11_hasRock_23 : decode cX11_hasRock 23 = .ok (.iinc 3 1, 3) := by decide +kernel
theorem dX11_hasRock_26 : decode cX11_hasRock 26 = .ok (.goto (-24), 3) := by decide +kernel
theorem dX11_hasRock_29 : decode cX11_hasRock 29 = .ok (.iconst 0, 1) := by decide +kernel
theorem dX11_hasRock_30 : decode cX11_hasRock 30 = .ok (.ireturn, 1) := by decide +kernel
theorem dX11_holds_0 : decode cX11_holds 0 = .ok (.aload_n 0, 1) := by decide +kernel
theorem dX11_holds_1 : decode cX11_holds 1 = .ok (.getfield 7, 3) := by decide +kernel
theorem dX11_holds_4 : decode cX11_holds 4 = .ok (.iload_n 1, 1) := by decide +kernel
theorem dX11_holds_5 : decode cX11_holds 5 = .ok (.iaload, 1) := by decide +kernel
theorem dX11_holds_6 : decode cX11_holds 6 = .ok (.sipush 1700, 3) := by decide +kernel
theorem dX11_holds_9 : decode cX11_holds 9 = .ok (.isub, 1) := by decide +kernel
theorem dX11_holds_10 : decode cX11_holds 10 = .ok (.istore_n 2, 1) := by decide +kernel
theorem dX11_holds_11 : decode cX11_holds 11 = .ok (.aload_n 0, 1) := by decide +kernel
theorem dX11_holds_12 : decode cX11_holds 12 = .ok (.getfield 7, 3) := by decide +kernel
theorem dX11_holds_15 : decode cX11_holds 15 = .ok (.iload_n 1, 1) := by decide +kernel
theorem dX11_holds_16 : decode cX11_holds 16 = .ok (.iconst 1, 1) := by decide +kernel
theorem dX11_holds_17 : decode cX11_holds 17 = .ok (.iadd, 1) := by decide +kernel
theorem dX11_holds_18 : decode cX11_holds 18 = .ok (.iaload, 1) := by decide +kernel
theorem dX11_holds_19 : decode cX11_holds 19 = .ok (.istore_n 3, 1) := by decide +kernel
theorem dX11_holds_20 : decode cX11_holds 20 = .ok (.aload_n 0, 1) := by decide +kernel
theorem dX11_holds_21 : decode cX11_holds 21 = .ok (.getfield 7, 3) := by decide +kernel
theorem dX11_holds_24 : decode cX11_holds 24 = .ok (.iload_n 1, 1) := by decide +kernel
theorem dX11_holds_25 : decode cX11_holds 25 = .ok (.iconst 2, 1) := by decide +kernel
theorem dX11_holds_26 : decode cX11_holds 26 = .ok (.iadd, 1) := by decide +kernel
theorem dX11_holds_27 : decode cX11_holds 27 = .ok (.iaload, 1) := by decide +kernel
theorem dX11_holds_28 : decode cX11_holds 28 = .ok (.istore 4, 2) := by decide +kernel
theorem dX11_holds_30 : decode cX11_holds 30 = .ok (.iload_n 2, 1) := by decide +kernel
theorem dX11_holds_31 : decode cX11_holds 31 = .ok (.bipush 22, 2) := by decide +kernel
theorem dX11_holds_33 : decode cX11_holds 33 = .ok (.if_icmp .ne 11, 3) := by decide +kernel
theorem dX11_holds_36 : decode cX11_holds 36 = .ok (.aload_n 0, 1) := by decide +kernel
theorem dX11_holds_37 : decode cX11_holds 37 = .ok (.iload_n 3, 1) := by decide +kernel
theorem dX11_holds_38 : decode cX11_holds 38 = .ok (.iload 4, 2) := by decide +kernel
theorem dX11_holds_40 : decode cX11_holds 40 = .ok (.invokevirtual 459, 3) := by decide +kernel
theorem dX11_holds_43 : decode cX11_holds 43 = .ok (.ireturn, 1) := by decide +kernel
theorem dX11_holds_44 : decode cX11_holds 44 = .ok (.iload_n 2, 1) := by decide +kernel
theorem dX11_holds_45 : decode cX11_holds 45 = .ok (.bipush 23, 2) := by decide +kernel
theorem dX11_holds_47 : decode cX11_holds 47 = .ok (.if_icmp .ne 28, 3) := by decide +kernel
theorem dX11_holds_50 : decode cX11_holds 50 = .ok (.aload_n 0, 1) := by decide +kernel
theorem dX11_holds_51 : decode cX11_holds 51 = .ok (.iload_n 3, 1) := by decide +kernel
theorem dX11_holds_52 : decode cX11_holds 52 = .ok (.invokevirtual 305, 3) := by decide +kernel
theorem dX11_holds_55 : decode cX11_holds 55 = .ok (.ifCond .le 18, 3) := by decide +kernel
theorem dX11_holds_58 : decode cX11_holds 58 = .ok (.aload_n 0, 1) := by decide +kernel
theorem dX11_holds_59 : decode cX11_holds 59 = .ok (.iload_n 3, 1) := by decide +kernel
theorem dX11_holds_60 : decode cX11_holds 60 = .ok (.iconst 0, 1) := by decide +kernel
theorem dX11_holds_61 : decode cX11_holds 61 = .ok (.invokevirtual 311, 3) := by decide +kernel
theorem dX11_holds_64 : decode cX11_holds 64 = .ok (.iload 4, 2) := by decide +kernel
theorem dX11_holds_66 : decode cX11_holds 66 = .ok (.if_icmp .ne 7, 3) := by decide +kernel
theorem dX11_holds_69 : decode cX11_holds 69 = .ok (.iconst 1, 1) := by decide +kernel
theorem dX11_holds_70 : decode cX11_holds 70 = .ok (.goto 4, 3) := by decide +kernel
theorem dX11_holds_73 : decode cX11_holds 73 = .ok (.iconst 0, 1) := by decide +kernel
theorem dX11_holds_74 : decode cX11_holds 74 = .ok (.ireturn, 1) := by decide +kernel
theorem dX11_holds_75 : decode cX11_holds 75 = .ok (.aload_n 0, 1) := by decide +kernel
theorem dX11_holds_76 : decode cX11_holds 76 = .ok (.iload_n 3, 1) := by decide +kernel
theorem dX11_holds_77 : decode cX11_holds 77 = .ok (.aload_n 0, 1) := by decide +kernel
theorem dX11_holds_78 : decode cX11_holds 78 = .ok (.iload_n 3, 1) := by decide +kernel
theorem dX11_holds_79 : decode cX11_holds 79 = .ok (.invokevirtual 305, 3) := by decide +kernel
theorem dX11_holds_82 : decode cX11_holds 82 = .ok (.invokevirtual 299, 3) := by decide +kernel
theorem dX11_holds_85 : decode cX11_holds 85 = .ok (.istore 5, 2) := by decide +kernel
theorem dX11_holds_87 : decode cX11_holds 87 = .ok (.aload_n 0, 1) := by decide +kernel
theorem dX11_holds_88 : decode cX11_holds 88 = .ok (.getfield 7, 3) := by decide +kernel
theorem dX11_holds_91 : decode cX11_holds 91 = .ok (.iload_n 1, 1) := by decide +kernel
theorem dX11_holds_92 : decode cX11_holds 92 = .ok (.iconst 5, 1) := by decide +kernel
theorem dX11_holds_93 : decode cX11_holds 93 = .ok (.iadd, 1) := by decide +kernel
theorem dX11_holds_94 : decode cX11_holds 94 = .ok (.iaload, 1) := by decide +kernel
theorem dX11_holds_95 : decode cX11_holds 95 = .ok (.bipush 60, 2) := by decide +kernel
theorem dX11_holds_97 : decode cX11_holds 97 = .ok (.if_icmp .ne 18, 3) := by decide +kernel
theorem dX11_holds_100 : decode cX11_holds 100 = .ok (.iload 5, 2) := by decide +kernel
theorem dX11_holds_102 : decode cX11_holds 102 = .ok (.iload 4, 2) := by decide +kernel
theorem dX11_holds_104 : decode cX11_holds 104 = .ok (.if_icmp .ge 7, 3) := by decide +kernel
theorem dX11_holds_107 : decode cX11_holds 107 = .ok (.iconst 1, 1) := by decide +kernel
theorem dX11_holds_108 : decode cX11_holds 108 = .ok (.goto 47, 3) := by decide +kernel
theorem dX11_holds_111 : decode cX11_holds 111 = .ok (.iconst 0, 1) := by decide +kernel
theorem dX11_holds_112 : decode cX11_holds 112 = .ok (.goto 43, 3) := by decide +kernel
theorem dX11_holds_115 : decode cX11_holds 115 = .ok (.aload_n 0, 1) := by decide +kernel
theorem dX11_holds_116 : decode cX11_holds 116 = .ok (.getfield 7, 3) := by decide +kernel
theorem dX11_holds_119 : decode cX11_holds 119 = .ok (.iload_n 1, 1) := by decide +kernel
theorem dX11_holds_120 : decode cX11_holds 120 = .ok (.iconst 5, 1) := by decide +kernel
theorem dX11_holds_121 : decode cX11_holds 121 = .ok (.iadd, 1) := by decide +kernel
theorem dX11_holds_122 : decode cX11_holds 122 = .ok (.iaload, 1) := by decide +kernel
theorem dX11_holds_123 : decode cX11_holds 123 = .ok (.bipush 62, 2) := by decide +kernel
theorem dX11_holds_125 : decode cX11_holds 125 = .ok (.if_icmp .ne 18, 3) := by decide +kernel
theorem dX11_holds_128 : decode cX11_holds 128 = .ok (.iload 5, 2) := by decide +kernel
theorem dX11_holds_130 : decode cX11_holds 130 = .ok (.iload 4, 2) := by decide +kernel
theorem dX11_holds_132 : decode cX11_holds 132 = .ok (.if_icmp .le 7, 3) := by decide +kernel
theorem dX11_holds_135 : decode cX11_holds 135 = .ok (.iconst 1, 1) := by decide +kernel
theorem dX11_holds_136 : decode cX11_holds 136 = .ok (.goto 19, 3) := by decide +kernel
theorem dX11_holds_139 : decode cX11_holds 139 = .ok (.iconst 0, 1) := by decide +kernel
theorem dX11_holds_140 : decode cX11_holds 140 = .ok (.goto 15, 3) := by decide +kernel
theorem dX11_holds_143 : decode cX11_holds 143 = .ok (.iload 5, 2) := by decide +kernel
theorem dX11_holds_145 : decode cX11_holds 145 = .ok (.iload 4, 2) := by decide +kernel
theorem dX11_holds_147 : decode cX11_holds 147 = .ok (.if_icmp .ne 7, 3) := by decide +kernel
theorem dX11_holds_150 : decode cX11_holds 150 = .ok (.iconst 1, 1) := by decide +kernel
theorem dX11_holds_151 : decode cX11_holds 151 = .ok (.goto 4, 3) := by decide +kernel
theorem dX11_holds_154 : decode cX11_holds 154 = .ok (.iconst 0, 1) := by decide +kernel
theorem dX11_holds_155 : decode cX11_holds 155 = .ok (.ireturn, 1) := by decide +kernel
theorem dX11_behindEnds_0 : decode cX11_behindEnds 0 = .ok (.iload_n 1, 1) := by decide +kernel
theorem dX11_behindEnds_1 : decode cX11_behindEnds 1 = .ok (.istore_n 2, 1) := by decide +kernel
theorem dX11_behindEnds_2 : decode cX11_behindEnds 2 = .ok (.iload_n 2, 1) := by decide +kernel
theorem dX11_behindEnds_3 : decode cX11_behindEnds 3 = .ok (.aload_n 0, 1) := by decide +kernel
theorem dX11_behindEnds_4 : decode cX11_behindEnds 4 = .ok (.getfield 7, 3) := by decide +kernel
theorem dX11_behindEnds_7 : decode cX11_behindEnds 7 = .ok (.iconst 4, 1) := by decide +kernel
theorem dX11_behindEnds_8 : decode cX11_behindEnds 8 = .ok (.iaload, 1) := by decide +kernel
theorem dX11_behindEnds_9 : decode cX11_behindEnds 9 = .ok (.if_icmp .ge 108, 3) := by decide +kernel
theorem dX11_behindEnds_12 : decode cX11_behindEnds 12 = .ok (.aload_n 0, 1) := by decide +kernel
theorem dX11_behindEnds_13 : decode cX11_behindEnds 13 = .ok (.getfield 7, 3) := by decide +kernel
theorem dX11_behindEnds_16 : decode cX11_behindEnds 16 = .ok (.sipush 280, 3) := by decide +kernel
theorem dX11_behindEnds_19 : decode cX11_behindEnds 19 = .ok (.bipush 6, 2) := by decide +kernel
theorem dX11_behindEnds_21 : decode cX11_behindEnds 21 = .ok (.iload_n 2, 1) := by decide +kernel
theorem dX11_behindEnds_22 : decode cX11_behindEnds 22 = .ok (.imul, 1) := by decide +kernel
theorem dX11_behindEnds_23 : decode cX11_behindEnds 23 = .ok (.iadd, 1) := by decide +kernel
theorem dX11_behindEnds_24 : decode cX11_behindEnds 24 = .ok (.iaload, 1) := by decide +kernel
theorem dX11_behindEnds_25 : decode cX11_behindEnds 25 = .ok (.bipush 19, 2) := by decide +kernel
theorem dX11_behindEnds_27 : decode cX11_behindEnds 27 = .ok (.if_icmp .ne 90, 3) := by decide +kernel
theorem dX11_behindEnds_30 : decode cX11_behindEnds 30 = .ok (.aload_n 0, 1) := by decide +kernel
theorem dX11_behindEnds_31 : decode cX11_behindEnds 31 = .ok (.getfield 7, 3) := by decide +kernel
theorem dX11_behindEnds_34 : decode cX11_behindEnds 34 = .ok (.sipush 280, 3) := by decide +kernel
theorem dX11_behindEnds_37 : decode cX11_behindEnds 37 = .ok (.bipush 6, 2) := by decide +kernel
theorem dX11_behindEnds_39 : decode cX11_behindEnds 39 = .ok (.iload_n 2, 1) := by decide +kernel
theorem dX11_behindEnds_40 : decode cX11_behindEnds 40 = .ok (.imul, 1) := by decide +kernel
theorem dX11_behindEnds_41 : decode cX11_behindEnds 41 = .ok (.iadd, 1) := by decide +kernel
theorem dX11_behindEnds_42 : decode cX11_behindEnds 42 = .ok (.iconst 4, 1) := by decide +kernel
theorem dX11_behindEnds_43 : decode cX11_behindEnds 43 = .ok (.iadd, 1) := by decide +kernel
theorem dX11_behindEnds_44 : decode cX11_behindEnds 44 = .ok (.iaload, 1) := by decide +kernel
theorem dX11_behindEnds_45 : decode cX11_behindEnds 45 = .ok (.istore_n 3, 1) := by decide +kernel
theorem dX11_behindEnds_46 : decode cX11_behindEnds 46 = .ok (.aload_n 0, 1) := by decide +kernel
theorem dX11_behindEnds_47 : decode cX11_behindEnds 47 = .ok (.getfield 7, 3) := by decide +kernel
theorem dX11_behindEnds_50 : decode cX11_behindEnds 50 = .ok (.sipush 280, 3) := by decide +kernel
theorem dX11_behindEnds_53 : decode cX11_behindEnds 53 = .ok (.bipush 6, 2) := by decide +kernel
theorem dX11_behindEnds_55 : decode cX11_behindEnds 55 = .ok (.iload_n 3, 1) := by decide +kernel
theorem dX11_behindEnds_56 : decode cX11_behindEnds 56 = .ok (.imul, 1) := by decide +kernel
theorem dX11_behindEnds_57 : decode cX11_behindEnds 57 = .ok (.iadd, 1) := by decide +kernel
theorem dX11_behindEnds_58 : decode cX11_behindEnds 58 = .ok (.iaload, 1) := by decide +kernel
theorem dX11_behindEnds_59 : decode cX11_behindEnds 59 = .ok (.bipush 18, 2) := by decide +kernel
theorem dX11_behindEnds_61 : decode cX11_behindEnds 61 = .ok (.if_icmp .ne 16, 3) := by decide +kernel
theorem dX11_behindEnds_64 : decode cX11_behindEnds 64 = .ok (.aload_n 0, 1) := by decide +kernel
theorem dX11_behindEnds_65 : decode cX11_behindEnds 65 = .ok (.getfield 87, 3) := by decide +kernel
theorem dX11_behindEnds_68 : decode cX11_behindEnds 68 = .ok (.iload_n 3, 1) := by decide +kernel
theorem dX11_behindEnds_69 : decode cX11_behindEnds 69 = .ok (.iaload, 1) := by decide +kernel
theorem dX11_behindEnds_70 : decode cX11_behindEnds 70 = .ok (.ifCond .le 7, 3) := by decide +kernel
theorem dX11_behindEnds_73 : decode cX11_behindEnds 73 = .ok (.iconst 1, 1) := by decide +kernel
theorem dX11_behindEnds_74 : decode cX11_behindEnds 74 = .ok (.goto 4, 3) := by decide +kernel
theorem dX11_behindEnds_77 : decode cX11_behindEnds 77 = .ok (.iconst 0, 1) := by decide +kernel
theorem dX11_behindEnds_78 : decode cX11_behindEnds 78 = .ok (.istore 4, 2) := by decide +kernel
theorem dX11_behindEnds_80 : decode cX11_behindEnds 80 = .ok (.aload_n 0, 1) := by decide +kernel
theorem dX11_behindEnds_81 : decode cX11_behindEnds 81 = .ok (.getfield 87, 3) := by decide +kernel
theorem dX11_behindEnds_84 : decode cX11_behindEnds 84 = .ok (.iload_n 3, 1) := by decide +kernel
theorem dX11_behindEnds_85 : decode cX11_behindEnds 85 = .ok (.dup2, 1) := by decide +kernel
theorem dX11_behindEnds_86 : decode cX11_behindEnds 86 = .ok (.iaload, 1) := by decide +kernel
theorem dX11_behindEnds_87 : decode cX11_behindEnds 87 = .ok (.iload 4, 2) := by decide +kernel
theorem dX11_behindEnds_89 : decode cX11_behindEnds 89 = .ok (.ifCond .eq 7, 3) := by decide +kernel
theorem dX11_behindEnds_92 : decode cX11_behindEnds 92 = .ok (.iconst 1, 1) := by decide +kernel
theorem dX11_behindEnds_93 : decode cX11_behindEnds 93 = .ok (.goto 4, 3) := by decide +kernel
theorem dX11_behindEnds_96 : decode cX11_behindEnds 96 = .ok (.iconst 0, 1) := by decide +kernel
theorem dX11_behindEnds_97 : decode cX11_behindEnds 97 = .ok (.isub, 1) := by decide +kernel
theorem dX11_behindEnds_98 : decode cX11_behindEnds 98 = .ok (.iastore, 1) := by decide +kernel
theorem dX11_behindEnds_99 : decode cX11_behindEnds 99 = .ok (.iload 4, 2) := by decide +kernel
theorem dX11_behindEnds_101 : decode cX11_behindEnds 101 = .ok (.ifCond .eq 9, 3) := by decide +kernel
theorem dX11_behindEnds_104 : decode cX11_behindEnds 104 = .ok (.iload_n 3, 1) := by decide +kernel
theorem dX11_behindEnds_105 : decode cX11_behindEnds 105 = .ok (.iconst 1, 1) := by decide +kernel
theorem dX11_behindEnds_106 : decode cX11_behindEnds 106 = .ok (.iadd, 1) := by decide +kernel
theorem dX11_behindEnds_107 : decode cX11_behindEnds 107 = .ok (.goto 6, 3) := by decide +kernel
theorem dX11_behindEnds_110 : decode cX11_behindEnds 110 = .ok (.iload_n 2, 1) := by decide +kernel
theorem dX11_behindEnds_111 : decode cX11_behindEnds 111 = .ok (.iconst 1, 1) := by decide +kernel
theorem dX11_behindEnds_112 : decode cX11_behindEnds 112 = .ok (.iadd, 1) := by decide +kernel
theorem dX11_behindEnds_113 : decode cX11_behindEnds 113 = .ok (.istore_n 2, 1) := by decide +kernel
theorem dX11_behindEnds_114 : decode cX11_behindEnds 114 = .ok (.goto (-112), 3) := by decide +kernel
theorem dX11_behindEnds_117 : decode cX11_behindEnds 117 = .ok (.iload_n 2, 1) := by decide +kernel
theorem dX11_behindEnds_118 : decode cX11_behindEnds 118 = .ok (.ireturn, 1) := by decide +kernel
theorem dX11_lives_0 : decode cX11_lives 0 = .ok (.aload_n 0, 1) := by decide +kernel
theorem dX11_lives_1 : decode cX11_lives 1 = .ok (.iload_n 1, 1) := by decide +kernel
theorem dX11_lives_2 : decode cX11_lives 2 = .ok (.putfield 452, 3) := by decide +kernel
theorem dX11_lives_5 : decode cX11_lives 5 = .ok (.aload_n 0, 1) := by decide +kernel
theorem dX11_lives_6 : decode cX11_lives 6 = .ok (.iconst 0, 1) := by decide +kernel
theorem dX11_lives_7 : decode cX11_lives 7 = .ok (.putfield 462, 3) := by decide +kernel
theorem dX11_lives_10 : decode cX11_lives 10 = .ok (.iconst 0, 1) := by decide +kernel
theorem dX11_lives_11 : decode cX11_lives 11 = .ok (.istore_n 2, 1) := by decide +kernel
theorem dX11_lives_12 : decode cX11_lives 12 = .ok (.iload_n 2, 1) := by decide +kernel
theorem dX11_lives_13 : decode cX11_lives 13 = .ok (.iconst 4, 1) := by decide +kernel
theorem dX11_lives_14 : decode cX11_lives 14 = .ok (.if_icmp .ge 16, 3) := by decide +kernel
theorem dX11_lives_17 : decode cX11_lives 17 = .ok (.aload_n 0, 1) := by decide +kernel
theorem dX11_lives_18 : decode cX11_lives 18 = .ok (.getfield 90, 3) := by decide +kernel
theorem dX11_lives_21 : decode cX11_lives 21 = .ok (.iload_n 2, 1) := by decide +kernel
theorem dX11_lives_22 : decode cX11_lives 22 = .ok (.iconst 0, 1) := by decide +kernel
theorem dX11_lives_23 : decode cX11_lives 23 = .ok (.iastore, 1) := by decide +kernel
theorem dX11_lives_24 : decode cX11_lives 24 = .ok (.iinc 2 1, 3) := by decide +kernel
theorem dX11_lives_27 : decode cX11_lives 27 = .ok (.goto (-15), 3) := by decide +kernel
theorem dX11_lives_30 : decode cX11_lives 30 = .ok (.iconst 0, 1) := by decide +kernel
theorem dX11_lives_31 : decode cX11_lives 31 = .ok (.istore_n 2, 1) := by decide +kernel
theorem dX11_lives_32 : decode cX11_lives 32 = .ok (.iload_n 2, 1) := by decide +kernel
theorem dX11_lives_33 : decode cX11_lives 33 = .ok (.aload_n 0, 1) := by decide +kernel
theorem dX11_lives_34 : decode cX11_lives 34 = .ok (.getfield 7, 3) := by decide +kernel
theorem dX11_lives_37 : decode cX11_lives 37 = .ok (.iconst 4, 1) := by decide +kernel
theorem dX11_lives_38 : decode cX11_lives 38 = .ok (.iaload, 1) := by decide +kernel
theorem dX11_lives_39 : decode cX11_lives 39 = .ok (.if_icmp .ge 128, 3) := by decide +kernel
theorem dX11_lives_42 : decode cX11_lives 42 = .ok (.aload_n 0, 1) := by decide +kernel
theorem dX11_lives_43 : decode cX11_lives 43 = .ok (.getfield 462, 3) := by decide +kernel
theorem dX11_lives_46 : decode cX11_lives 46 = .ok (.sipush 300, 3) := by decide +kernel
theorem dX11_lives_49 : decode cX11_lives 49 = .ok (.if_icmp .ne 11, 3) := by decide +kernel
theorem dX11_lives_52 : decode cX11_lives 52 = .ok (.aload_n 0, 1) := by decide +kernel
theorem dX11_lives_53 : decode cX11_lives 53 = .ok (.getfield 90, 3) := by decide +kernel
theorem dX11_lives_56 : decode cX11_lives 56 = .ok (.iconst 3, 1) := by decide +kernel
theorem dX11_lives_57 : decode cX11_lives 57 = .ok (.iconst 1, 1) := by decide +kernel
theorem dX11_lives_58 : decode cX11_lives 58 = .ok (.iastore, 1) := by decide +kernel
theorem dX11_lives_59 : decode cX11_lives 59 = .ok (.return_, 1) := by decide +kernel
theorem dX11_lives_60 : decode cX11_lives 60 = .ok (.sipush 280, 3) := by decide +kernel
theorem dX11_lives_63 : decode cX11_lives 63 = .ok (.bipush 6, 2) := by decide +kernel
theorem dX11_lives_65 : decode cX11_lives 65 = .ok (.iload_n 2, 1) := by decide +kernel
theorem dX11_lives_66 : decode cX11_lives 66 = .ok (.imul, 1) := by decide +kernel
theorem dX11_lives_67 : decode cX11_lives 67 = .ok (.iadd, 1) := by decide +kernel
theorem dX11_lives_68 : decode cX11_lives 68 = .ok (.istore_n 3, 1) := by decide +kernel
theorem dX11_lives_69 : decode cX11_lives 69 = .ok (.aload_n 0, 1) := by decide +kernel
theorem dX11_lives_70 : decode cX11_lives 70 = .ok (.dup, 1) := by decide +kernel
theorem dX11_lives_71 : decode cX11_lives 71 = .ok (.getfield 462, 3) := by decide +kernel
theorem dX11_lives_74 : decode cX11_lives 74 = .ok (.iconst 1, 1) := by decide +kernel
theorem dX11_lives_75 : decode cX11_lives 75 = .ok (.iadd, 1) := by decide +kernel
theorem dX11_lives_76 : decode cX11_lives 76 = .ok (.putfield 462, 3) := by decide +kernel
theorem dX11_lives_79 : decode cX11_lives 79 = .ok (.aload_n 0, 1) := by decide +kernel
theorem dX11_lives_80 : decode cX11_lives 80 = .ok (.getfield 7, 3) := by decide +kernel
theorem dX11_lives_83 : decode cX11_lives 83 = .ok (.iload_n 3, 1) := by decide +kernel
theorem dX11_lives_84 : decode cX11_lives 84 = .ok (.iaload, 1) := by decide +kernel
theorem dX11_lives_85 : decode cX11_lives 85 = .ok (.bipush 20, 2) := by decide +kernel
theorem dX11_lives_87 : decode cX11_lives 87 = .ok (.if_icmp .ne 4, 3) := by decide +kernel
theorem dX11_lives_90 : decode cX11_lives 90 = .ok (.return_, 1) := by decide +kernel
theorem dX11_lives_91 : decode cX11_lives 91 = .ok (.aload_n 0, 1) := by decide +kernel
theorem dX11_lives_92 : decode cX11_lives 92 = .ok (.iload_n 3, 1) := by decide +kernel
theorem dX11_lives_93 : decode cX11_lives 93 = .ok (.invokevirtual 465, 3) := by decide +kernel
theorem dX11_lives_96 : decode cX11_lives 96 = .ok (.aload_n 0, 1) := by decide +kernel
theorem dX11_lives_97 : decode cX11_lives 97 = .ok (.getfield 7, 3) := by decide +kernel
theorem dX11_lives_100 : decode cX11_lives 100 = .ok (.iload_n 3, 1) := by decide +kernel
theorem dX11_lives_101 : decode cX11_lives 101 = .ok (.iaload, 1) := by decide +kernel
theorem dX11_lives_102 : decode cX11_lives 102 = .ok (.bipush 18, 2) := by decide +kernel
theorem dX11_lives_104 : decode cX11_lives 104 = .ok (.if_icmp .ne 19, 3) := by decide +kernel
theorem dX11_lives_107 : decode cX11_lives 107 = .ok (.aload_n 0, 1) := by decide +kernel
theorem dX11_lives_108 : decode cX11_lives 108 = .ok (.getfield 87, 3) := by decide +kernel
theorem dX11_lives_111 : decode cX11_lives 111 = .ok (.iload_n 2, 1) := by decide +kernel
theorem dX11_lives_112 : decode cX11_lives 112 = .ok (.aload_n 0, 1) := by decide +kernel
theorem dX11_lives_113 : decode cX11_lives 113 = .ok (.getfield 7, 3) := by decide +kernel
theorem dX11_lives_116 : decode cX11_lives 116 = .ok (.iload_n 3, 1) := by decide +kernel
theorem dX11_lives_117 : decode cX11_lives 117 = .ok (.iconst 1, 1) := by decide +kernel
theorem dX11_lives_118 : decode cX11_lives 118 = .ok (.iadd, 1) := by decide +kernel
theorem dX11_lives_119 : decode cX11_lives 119 = .ok (.iaload, 1) := by decide +kernel
theorem dX11_lives_120 : decode cX11_lives 120 = .ok (.iconst 1, 1) := by decide +kernel
theorem dX11_lives_121 : decode cX11_lives 121 = .ok (.isub, 1) := by decide +kernel
theorem dX11_lives_122 : decode cX11_lives 122 = .ok (.iastore, 1) := by decide +kernel
theorem dX11_lives_123 : decode cX11_lives 123 = .ok (.aload_n 0, 1) := by decide +kernel
theorem dX11_lives_124 : decode cX11_lives 124 = .ok (.aload_n 0, 1) := by decide +kernel
theorem dX11_lives_125 : decode cX11_lives 125 = .ok (.getfield 7, 3) := by decide +kernel
theorem dX11_lives_128 : decode cX11_lives 128 = .ok (.iload_n 3, 1) := by decide +kernel
theorem dX11_lives_129 : decode cX11_lives 129 = .ok (.iaload, 1) := by decide +kernel
theorem dX11_lives_130 : decode cX11_lives 130 = .ok (.sipush 1700, 3) := by decide +kernel
theorem dX11_lives_133 : decode cX11_lives 133 = .ok (.if_icmp .lt 24, 3) := by decide +kernel
theorem dX11_lives_136 : decode cX11_lives 136 = .ok (.aload_n 0, 1) := by decide +kernel
theorem dX11_lives_137 : decode cX11_lives 137 = .ok (.iload_n 3, 1) := by decide +kernel
theorem dX11_lives_138 : decode cX11_lives 138 = .ok (.invokevirtual 468, 3) := by decide +kernel
theorem dX11_lives_141 : decode cX11_lives 141 = .ok (.ifCond .ne 16, 3) := by decide +kernel
theorem dX11_lives_144 : decode cX11_lives 144 = .ok (.aload_n 0, 1) := by decide +kernel
theorem dX11_lives_145 : decode cX11_lives 145 = .ok (.getfield 7, 3) := by decide +kernel
theorem dX11_lives_148 : decode cX11_lives 148 = .ok (.iload_n 3, 1) := by decide +kernel
theorem dX11_lives_149 : decode cX11_lives 149 = .ok (.iconst 4, 1) := by decide +kernel
theorem dX11_lives_150 : decode cX11_lives 150 = .ok (.iadd, 1) := by decide +kernel
theorem dX11_lives_151 : decode cX11_lives 151 = .ok (.iaload, 1) := by decide +kernel
theorem dX11_lives_152 : decode cX11_lives 152 = .ok (.iconst 1, 1) := by decide +kernel
theorem dX11_lives_153 : decode cX11_lives 153 = .ok (.iadd, 1) := by decide +kernel
theorem dX11_lives_154 : decode cX11_lives 154 = .ok (.goto 6, 3) := by decide +kernel
theorem dX11_lives_157 : decode cX11_lives 157 = .ok (.iload_n 2, 1) := by decide +kernel
theorem dX11_lives_158 : decode cX11_lives 158 = .ok (.iconst 1, 1) := by decide +kernel
theorem dX11_lives_159 : decode cX11_lives 159 = .ok (.iadd, 1) := by decide +kernel
theorem dX11_lives_160 : decode cX11_lives 160 = .ok (.invokevirtual 471, 3) := by decide +kernel
theorem dX11_lives_163 : decode cX11_lives 163 = .ok (.istore_n 2, 1) := by decide +kernel
theorem dX11_lives_164 : decode cX11_lives 164 = .ok (.goto (-132), 3) := by decide +kernel
theorem dX11_lives_167 : decode cX11_lives 167 = .ok (.return_, 1) := by decide +kernel
def lX11_fill_26 (t : Nat) (x1 : Int32) (x2 : Int32) : Nat → Int32 → Int32 → Mem → Option (Int32 × Mem)
  | 0, _, _, _ => none
  | n + 1, x4, x5, M =>
    if x2 ≤ x5 then
 bd (fX11_gives t x4 M) fun v2 M3 =>
 some (v2, M3)
 else
 (fX11_logAt t x1 x5 M).bind fun vz4 =>
 jn (fun (v5 : Int32) (M6 : Mem) => lX11_fill_26 t x1 x2 n v5 (x5 + 1) M6) (fun J7 => if vz4 = (-1 : Int64) then
 (fX11_logAt t x1 (x5 - (1 : Int32)) M).bind fun vz8 =>
 if vz8 = (-1 : Int64) then
 J7 x4 M
 else
 (fX11_logAt t x1 (x5 - (1 : Int32)) M).bind fun vz9 =>
 ixk (((60 : Int32) * x1) + x5) 240 (nm (stL M (t + 5) (((60 : Int32) * x1) + x5).toNatClampNeg vz9) (fun M10 =>
 J7 (x4 + 1) M10))
 else
 J7 x4 M)
theorem lX11_fill_26_s (t : Nat) (x1 : Int32) (x2 : Int32) (n : Nat) (x4 : Int32) (x5 : Int32) (M : Mem) : lX11_fill_26 t x1 x2 (n + 1) x4 x5 M =
    if x2 ≤ x5 then
 bd (fX11_gives t x4 M) fun v2 M3 =>
 some (v2, M3)
 else
 (fX11_logAt t x1 x5 M).bind fun vz4 =>
 jn (fun (v5 : Int32) (M6 : Mem) => lX11_fill_26 t x1 x2 n v5 (x5 + 1) M6) (fun J7 => if vz4 = (-1 : Int64) then
 (fX11_logAt t x1 (x5 - (1 : Int32)) M).bind fun vz8 =>
 if vz8 = (-1 : Int64) then
 J7 x4 M
 else
 (fX11_logAt t x1 (x5 - (1 : Int32)) M).bind fun vz9 =>
 ixk (((60 : Int32) * x1) + x5) 240 (nm (stL M (t + 5) (((60 : Int32) * x1) + x5).toNatClampNeg vz9) (fun M10 =>
 J7 (x4 + 1) M10))
 else
 J7 x4 M) := rfl
theorem lX11_fill_26_0 (t : Nat) (x1 : Int32) (x2 : Int32) (x4 : Int32) (x5 : Int32) (M : Mem) : lX11_fill_26 t x1 x2 0 x4 x5 M = none := rfl
set_option maxRecDepth 100000 in
set_option maxHeartbeats 4000000 in
theorem wlX11_fill_26 {J : JT} (g : Gd J cX11_fill RX11) (hr : Rt J (some .int)) (hR : (JR J).frames = 2 ∧ (JR J).locals = 50) (hn : Jn J = 6) (t : Nat) (x1 : Int32) (x2 : Int32) (ht : isO 11 t) : ∀ (n : Nat) (x4 : Int32) (x5 : Int32) (M : Mem), X J (fun q : Int32 × Mem => (some (Value.int q.1), q.2)) (lX11_fill_26 t x1 x2 n x4 x5 M) 26 [(0, .ref t), (1, .int x1), (2, .int x2), (4, .int x4), (5, .int x5)] [] M := by
  intro n
  induction n with
  | zero =>
    intro x4 x5 M
    exact x_none
  | succ n ih =>
    intro x4 x5 M
    rw [lX11_fill_26_s]
    exact (x_iload g 4 dX11_fill_26 rfl
 (x_iload_n g 2 dX11_fill_28 rfl rfl
 (x_icmp_ge g 95 dX11_fill_29 rfl
 (fun _ => (x_aload_n g 0 dX11_fill_95 rfl rfl
 (x_iload g 3 dX11_fill_96 rfl
 (x_callVi (As := [.int x4]) g mv_X11_gives mi_X11_gives lk_RX11_106 ht (fun b Mh_ hb => kX11_gives t x4 M ht _ _ hb) rfl rfl hR ⟨Nat.le_of_ble_eq_true rfl, Nat.le_of_ble_eq_true rfl⟩ (Nat.le_of_ble_eq_true rfl) dX11_fill_98 (fun v2 M3 =>
 (x_iret g hr rfl rfl dX11_fill_101))))))
 (fun _ => (x_aload_n g 0 dX11_fill_32 rfl rfl
 (x_iload_n g 1 dX11_fill_33 rfl rfl
 (x_iload g 4 dX11_fill_34 rfl
 (x_callVlp (As := [.int x1, .int x5]) g mv_X11_logAt mi_X11_logAt lk_RX11_415 ht (fun b hb => kX11_logAt t x1 x5 M ht _ _ hb) rfl rfl hR ⟨Nat.le_of_ble_eq_true rfl, Nat.le_of_ble_eq_true rfl⟩ (Nat.le_of_ble_eq_true rfl) dX11_fill_36 (fun vz4 =>
 (x_ldc2 g cw_RX11_124 dX11_fill_39
 (x_jn (fun (J7 : Int32 → Mem → Option (Int32 × Mem)) => ∀ (v5 : Int32) (M6 : Mem), X J (fun q : Int32 × Mem => (some (Value.int q.1), q.2)) (J7 v5 M6) 89 [(0, .ref t), (1, .int x1), (2, .int x2), (4, .int v5), (5, .int x5)] [] M6) (fun v5 M6 => (x_iinc (L' := [(5, .int (x5 + 1)), (0, .ref t), (1, .int x1), (2, .int x2), (4, .int v5)]) (v := (x5 + 1)) g 4 dX11_fill_89 rfl (by rw [kI_1]) hn (Nat.le_of_ble_eq_true rfl) rfl
 (x_goto g 26 dX11_fill_92 rfl
 (x_sub [1, 2, 3, 4, 0] rfl (ih v5 (x5 + 1) M6))))) (fun J7 hJ7 => (x_l_ne g 89 dX11_fill_42 dX11_fill_43 rfl
 (fun _ => (hJ7 x4 M))
 (fun _ => (x_aload_n g 0 dX11_fill_46 rfl rfl
 (x_iload_n g 1 dX11_fill_47 rfl rfl
 (x_iload g 4 dX11_fill_48 rfl
 (x_iconst g dX11_fill_50 kI_1
 (x_isub g dX11_fill_51
 (x_callVlp (As := [.int x1, .int (x5 - (1 : Int32))]) g mv_X11_logAt mi_X11_logAt lk_RX11_415 ht (fun b hb => kX11_logAt t x1 (x5 - (1 : Int32)) M ht _ _ hb) rfl rfl hR ⟨Nat.le_of_ble_eq_true rfl, Nat.le_of_ble_eq_true rfl⟩ (Nat.le_of_ble_eq_true rfl) dX11_fill_52 (fun vz8 =>
 (x_ldc2 g cw_RX11_124 dX11_fill_55
 (x_l_ne g 65 dX11_fill_58 dX11_fill_59 rfl
 (fun _ => (x_aload_n g 0 dX11_fill_65 rfl rfl
 (x_getS g 5 fl_RX11_27 rfl ht dX11_fill_66
 (x_bipush g dX11_fill_69 kB_60
 (x_iload_n g 1 dX11_fill_71 rfl rfl
 (x_imul g dX11_fill_72
 (x_iload g 4 dX11_fill_73 rfl
 (x_iadd g dX11_fill_75
 (x_aload_n g 0 dX11_fill_76 rfl rfl
 (x_iload_n g 1 dX11_fill_77 rfl rfl
 (x_iload g 4 dX11_fill_78 rfl
 (x_iconst g dX11_fill_80 kI_1
 (x_isub g dX11_fill_81
 (x_callVlp (As := [.int x1, .int (x5 - (1 : Int32))]) g mv_X11_logAt mi_X11_logAt lk_RX11_415 ht (fun b hb => kX11_logAt t x1 (x5 - (1 : Int32)) M ht _ _ hb) rfl rfl hR ⟨Nat.le_of_ble_eq_true rfl, Nat.le_of_ble_eq_true rfl⟩ (Nat.le_of_ble_eq_true rfl) dX11_fill_82 (fun vz9 =>
 (x_last g (so_11_7 ht) dX11_fill_85 (x_nmM (fun M10 =>
 (x_iinc (L' := [(4, .int (x4 + 1)), (0, .ref t), (1, .int x1), (2, .int x2), (5, .int x5)]) (v := (x4 + 1)) g 3 dX11_fill_86 rfl (by rw [kI_1]) hn (Nat.le_of_ble_eq_true rfl) rfl
 (x_sub [1, 2, 3, 0, 4] rfl (hJ7 (x4 + 1) M10)))))))))))))))))))))
 (fun _ => (x_goto g 89 dX11_fill_62 rfl
 (hJ7 x4 M))))))))))))))))))))))))))
def fX11_fill (φ : Nat) (t : Nat) (a1 : Int32) (a2 : Int32) (M : Mem) : Option (Int32 × Mem) :=
  (fX11_wrongLog φ t a1 a2 (999999 : Int64) M).bind fun v1 =>
 if v1 ≤ 0 then
 lX11_fill_26 t a1 a2 φ (0 : Int32) (1 : Int32) M
 else
 bd (fX11_refuse t v1 M) fun v11 M12 =>
 some (v11, M12)
set_option maxRecDepth 100000 in
set_option maxHeartbeats 4000000 in
theorem kX11_fill (φ : Nat) (t : Nat) (a1 : Int32) (a2 : Int32) (M : Mem) (ht : isO 11 t) (l : Launch) (G : GT) {b : (Int32 × Mem)} (hE : fX11_fill φ t a1 a2 M = some b) : Ok l G yX11_fill cX11_fill 6 (some .int) 2 50 [.ref t, .int a1, .int a2] M ((fun q : Int32 × Mem => (some (Value.int q.1), q.2)) b).1 ((fun q : Int32 × Mem => (some (Value.int q.1), q.2)) b).2 := by
  refine Ok.ofX (pj := (fun q : Int32 × Mem => (some (Value.int q.1), q.2))) (by decide) (Nat.le_of_ble_eq_true rfl) hE (fun J g hr hG hl hR hn => ?_)
  show X J (fun q : Int32 × Mem => (some (Value.int q.1), q.2)) (fX11_fill φ t a1 a2 M) 0 [(0, .ref t), (1, .int a1), (2, .int a2)] [] M
  unfold fX11_fill
  exact (x_aload_n g 0 dX11_fill_0 rfl rfl
 (x_iload_n g 1 dX11_fill_1 rfl rfl
 (x_iload_n g 2 dX11_fill_2 rfl rfl
 (x_ldc2 g cw_RX11_420 dX11_fill_3
 (x_callVip (As := [.int a1, .int a2, .long (999999 : Int64)]) g mv_X11_wrongLog mi_X11_wrongLog lk_RX11_422 ht (fun b hb => kX11_wrongLog φ t a1 a2 (999999 : Int64) M ht _ _ hb) rfl rfl hR ⟨Nat.le_of_ble_eq_true rfl, Nat.le_of_ble_eq_true rfl⟩ (Nat.le_of_ble_eq_true rfl) dX11_fill_6 (fun v1 =>
 (x_istore_n (L' := [(3, .int v1), (0, .ref t), (1, .int a1), (2, .int a2)]) g dX11_fill_9 rfl hn (Nat.le_of_ble_eq_true rfl) rfl
 (x_iload_n g 0 dX11_fill_10 rfl rfl
 (x_if_le g 20 dX11_fill_11 rfl
 (fun _ => (x_iconst g dX11_fill_20 kI_0
 (x_istore (L' := [(4, .int (0 : Int32)), (3, .int v1), (0, .ref t), (1, .int a1), (2, .int a2)]) g dX11_fill_21 hn (Nat.le_of_ble_eq_true rfl) rfl
 (x_iconst g dX11_fill_23 kI_1
 (x_istore (L' := [(5, .int (1 : Int32)), (4, .int (0 : Int32)), (3, .int v1), (0, .ref t), (1, .int a1), (2, .int a2)]) g dX11_fill_24 hn (Nat.le_of_ble_eq_true rfl) rfl
 (x_sub [3, 4, 5, 1, 0] rfl (wlX11_fill_26 g hr hR hn  t a1 a2 ht φ (0 : Int32) (1 : Int32) M)))))))
 (fun _ => (x_aload_n g 1 dX11_fill_14 rfl rfl
 (x_iload_n g 0 dX11_fill_15 rfl rfl
 (x_callVi (As := [.int v1]) g mv_X11_refuse mi_X11_refuse lk_RX11_102 ht (fun b Mh_ hb => kX11_refuse t v1 M ht _ _ hb) rfl rfl hR ⟨Nat.le_of_ble_eq_true rfl, Nat.le_of_ble_eq_true rfl⟩ (Nat.le_of_ble_eq_true rfl) dX11_fill_16 (fun v11 M12 =>
 (x_iret g hr rfl rfl dX11_fill_19)))))))))))))))
def lX11_runs_26 (t : Nat) (x1 : Int32) (x2 : Int32) (M : Mem) : Nat → Int32 → Int32 → Option (Int32 × Mem)
  | 0, _, _ => none
  | n + 1, x4, x5 =>
    if x2 ≤ x5 then
 bd (fX11_gives t x4 M) fun v2 M3 =>
 some (v2, M3)
 else
 (fX11_logAt t x1 x5 M).bind fun vz4 =>
 (fX11_logAt t x1 (x5 - (1 : Int32)) M).bind fun vz5 =>
 jn (fun (v6 : Int32) => nm (x4 + v6) (fun v8 =>
 lX11_runs_26 t x1 x2 M n v8 (x5 + 1))) (fun J7 => if vz4 = vz5 then
 J7 (0 : Int32)
 else
 J7 (1 : Int32))
theorem lX11_runs_26_s (t : Nat) (x1 : Int32) (x2 : Int32) (M : Mem) (n : Nat) (x4 : Int32) (x5 : Int32) : lX11_runs_26 t x1 x2 M (n + 1) x4 x5 =
    if x2 ≤ x5 then
 bd (fX11_gives t x4 M) fun v2 M3 =>
 some (v2, M3)
 else
 (fX11_logAt t x1 x5 M).bind fun vz4 =>
 (fX11_logAt t x1 (x5 - (1 : Int32)) M).bind fun vz5 =>
 jn (fun (v6 : Int32) => nm (x4 + v6) (fun v8 =>
 lX11_runs_26 t x1 x2 M n v8 (x5 + 1))) (fun J7 => if vz4 = vz5 then
 J7 (0 : Int32)
 else
 J7 (1 : Int32)) := rfl
theorem lX11_runs_26_0 (t : Nat) (x1 : Int32) (x2 : Int32) (M : Mem) (x4 : Int32) (x5 : Int32) : lX11_runs_26 t x1 x2 M 0 x4 x5 = none := rfl
set_option maxRecDepth 100000 in
set_option maxHeartbeats 4000000 in
theorem wlX11_runs_26 {J : JT} (g : Gd J cX11_runs RX11) (hr : Rt J (some .int)) (hR : (JR J).frames = 2 ∧ (JR J).locals = 50) (hn : Jn J = 6) (t : Nat) (x1 : Int32) (x2 : Int32) (M : Mem) (ht : isO 11 t) : ∀ (n : Nat) (x4 : Int32) (x5 : Int32), X J (fun q : Int32 × Mem => (some (Value.int q.1), q.2)) (lX11_runs_26 t x1 x2 M n x4 x5) 26 [(0, .ref t), (1, .int x1), (2, .int x2), (4, .int x4), (5, .int x5)] [] M := by
  intro n
  induction n with
  | zero =>
    intro x4 x5
    exact x_none
  | succ n ih =>
    intro x4 x5
    rw [lX11_runs_26_s]
    exact (x_iload g 4 dX11_runs_26 rfl
 (x_iload_n g 2 dX11_runs_28 rfl rfl
 (x_icmp_ge g 68 dX11_runs_29 rfl
 (fun _ => (x_aload_n g 0 dX11_runs_68 rfl rfl
 (x_iload g 3 dX11_runs_69 rfl
 (x_callVi (As := [.int x4]) g mv_X11_gives mi_X11_gives lk_RX11_106 ht (fun b Mh_ hb => kX11_gives t x4 M ht _ _ hb) rfl rfl hR ⟨Nat.le_of_ble_eq_true rfl, Nat.le_of_ble_eq_true rfl⟩ (Nat.le_of_ble_eq_true rfl) dX11_runs_71 (fun v2 M3 =>
 (x_iret g hr rfl rfl dX11_runs_74))))))
 (fun _ => (x_iload g 3 dX11_runs_32 rfl
 (x_aload_n g 0 dX11_runs_34 rfl rfl
 (x_iload_n g 1 dX11_runs_35 rfl rfl
 (x_iload g 4 dX11_runs_36 rfl
 (x_callVlp (As := [.int x1, .int x5]) g mv_X11_logAt mi_X11_logAt lk_RX11_415 ht (fun b hb => kX11_logAt t x1 x5 M ht _ _ hb) rfl rfl hR ⟨Nat.le_of_ble_eq_true rfl, Nat.le_of_ble_eq_true rfl⟩ (Nat.le_of_ble_eq_true rfl) dX11_runs_38 (fun vz4 =>
 (x_aload_n g 0 dX11_runs_41 rfl rfl
 (x_iload_n g 1 dX11_runs_42 rfl rfl
 (x_iload g 4 dX11_runs_43 rfl
 (x_iconst g dX11_runs_45 kI_1
 (x_isub g dX11_runs_46
 (x_callVlp (As := [.int x1, .int (x5 - (1 : Int32))]) g mv_X11_logAt mi_X11_logAt lk_RX11_415 ht (fun b hb => kX11_logAt t x1 (x5 - (1 : Int32)) M ht _ _ hb) rfl rfl hR ⟨Nat.le_of_ble_eq_true rfl, Nat.le_of_ble_eq_true rfl⟩ (Nat.le_of_ble_eq_true rfl) dX11_runs_47 (fun vz5 =>
 (x_jn (fun (J7 : Int32 → Option (Int32 × Mem)) => ∀ (v6 : Int32), X J (fun q : Int32 × Mem => (some (Value.int q.1), q.2)) (J7 v6) 59 [(0, .ref t), (1, .int x1), (2, .int x2), (5, .int x5)] [.int v6, .int x4] M) (fun v6 => (x_iadd g dX11_runs_59
 (x_nmI (fun v8 => (x_istore (L' := [(4, .int v8), (0, .ref t), (1, .int x1), (2, .int x2), (5, .int x5)]) g dX11_runs_60 hn (Nat.le_of_ble_eq_true rfl) rfl
 (x_iinc (L' := [(5, .int (x5 + 1)), (4, .int v8), (0, .ref t), (1, .int x1), (2, .int x2)]) (v := (x5 + 1)) g 4 dX11_runs_62 rfl (by rw [kI_1]) hn (Nat.le_of_ble_eq_true rfl) rfl
 (x_goto g 26 dX11_runs_65 rfl
 (x_sub [2, 3, 4, 1, 0] rfl (ih v8 (x5 + 1)))))))))) (fun J7 hJ7 => (x_l_ne g 58 dX11_runs_50 dX11_runs_51 rfl
 (fun _ => (x_iconst g dX11_runs_58 kI_1
 (x_sub [0, 1, 2, 4] rfl (hJ7 (1 : Int32)))))
 (fun _ => (x_iconst g dX11_runs_54 kI_0
 (x_goto g 59 dX11_runs_55 rfl
 (x_sub [0, 1, 2, 4] rfl (hJ7 (0 : Int32))))))))))))))))))))))))))
def fX11_runs (φ : Nat) (t : Nat) (a1 : Int32) (a2 : Int32) (M : Mem) : Option (Int32 × Mem) :=
  (fX11_wrongLog φ t a1 a2 (999999 : Int64) M).bind fun v1 =>
 if v1 ≤ 0 then
 lX11_runs_26 t a1 a2 M φ (1 : Int32) (1 : Int32)
 else
 bd (fX11_refuse t v1 M) fun v9 M10 =>
 some (v9, M10)
set_option maxRecDepth 100000 in
set_option maxHeartbeats 4000000 in
theorem kX11_runs (φ : Nat) (t : Nat) (a1 : Int32) (a2 : Int32) (M : Mem) (ht : isO 11 t) (l : Launch) (G : GT) {b : (Int32 × Mem)} (hE : fX11_runs φ t a1 a2 M = some b) : Ok l G yX11_runs cX11_runs 6 (some .int) 2 50 [.ref t, .int a1, .int a2] M ((fun q : Int32 × Mem => (some (Value.int q.1), q.2)) b).1 ((fun q : Int32 × Mem => (some (Value.int q.1), q.2)) b).2 := by
  refine Ok.ofX (pj := (fun q : Int32 × Mem => (some (Value.int q.1), q.2))) (by decide) (Nat.le_of_ble_eq_true rfl) hE (fun J g hr hG hl hR hn => ?_)
  show X J (fun q : Int32 × Mem => (some (Value.int q.1), q.2)) (fX11_runs φ t a1 a2 M) 0 [(0, .ref t), (1, .int a1), (2, .int a2)] [] M
  unfold fX11_runs
  exact (x_aload_n g 0 dX11_runs_0 rfl rfl
 (x_iload_n g 1 dX11_runs_1 rfl rfl
 (x_iload_n g 2 dX11_runs_2 rfl rfl
 (x_ldc2 g cw_RX11_420 dX11_runs_3
 (x_callVip (As := [.int a1, .int a2, .long (999999 : Int64)]) g mv_X11_wrongLog mi_X11_wrongLog lk_RX11_422 ht (fun b hb => kX11_wrongLog φ t a1 a2 (999999 : Int64) M ht _ _ hb) rfl rfl hR ⟨Nat.le_of_ble_eq_true rfl, Nat.le_of_ble_eq_true rfl⟩ (Nat.le_of_ble_eq_true rfl) dX11_runs_6 (fun v1 =>
 (x_istore_n (L' := [(3, .int v1), (0, .ref t), (1, .int a1), (2, .int a2)]) g dX11_runs_9 rfl hn (Nat.le_of_ble_eq_true rfl) rfl
 (x_iload_n g 0 dX11_runs_10 rfl rfl
 (x_if_le g 20 dX11_runs_11 rfl
 (fun _ => (x_iconst g dX11_runs_20 kI_1
 (x_istore (L' := [(4, .int (1 : Int32)), (3, .int v1), (0, .ref t), (1, .int a1), (2, .int a2)]) g dX11_runs_21 hn (Nat.le_of_ble_eq_true rfl) rfl
 (x_iconst g dX11_runs_23 kI_1
 (x_istore (L' := [(5, .int (1 : Int32)), (4, .int (1 : Int32)), (3, .int v1), (0, .ref t), (1, .int a1), (2, .int a2)]) g dX11_runs_24 hn (Nat.le_of_ble_eq_true rfl) rfl
 (x_sub [3, 4, 5, 1, 0] rfl (wlX11_runs_26 g hr hR hn  t a1 a2 M ht φ (1 : Int32) (1 : Int32))))))))
 (fun _ => (x_aload_n g 1 dX11_runs_14 rfl rfl
 (x_iload_n g 0 dX11_runs_15 rfl rfl
 (x_callVi (As := [.int v1]) g mv_X11_refuse mi_X11_refuse lk_RX11_102 ht (fun b Mh_ hb => kX11_refuse t v1 M ht _ _ hb) rfl rfl hR ⟨Nat.le_of_ble_eq_true rfl, Nat.le_of_ble_eq_true rfl⟩ (Nat.le_of_ble_eq_true rfl) dX11_runs_16 (fun v9 M10 =>
 (x_iret g hr rfl rfl dX11_runs_19)))))))))))))))
def lX11_rockAt_5 (t : Nat) (x1 : Int32) (M : Mem) : Nat → Int32 → Int32 → Option Int32
  | 0, _, _ => none
  | n + 1, x3, x4 =>
    (fX11_layersOf t x1 M).bind fun v1 =>
 if v1 ≤ x4 then
 some (-1 : Int32)
 else
 if x3 < 0 then
 some (-1 : Int32)
 else
 (fX11_thickOf t x1 x4 M).bind fun v2 =>
 if v2 ≤ x3 then
 (fX11_thickOf t x1 x4 M).bind fun v3 =>
 nm (x3 - v3) (fun v4 =>
 lX11_rockAt_5 t x1 M n v4 (x4 + 1))
 else
 (fX11_rockOf t x1 x4 M).bind fun v5 =>
 some v5
theorem lX11_rockAt_5_s (t : Nat) (x1 : Int32) (M : Mem) (n : Nat) (x3 : Int32) (x4 : Int32) : lX11_rockAt_5 t x1 M (n + 1) x3 x4 =
    (fX11_layersOf t x1 M).bind fun v1 =>
 if v1 ≤ x4 then
 some (-1 : Int32)
 else
 if x3 < 0 then
 some (-1 : Int32)
 else
 (fX11_thickOf t x1 x4 M).bind fun v2 =>
 if v2 ≤ x3 then
 (fX11_thickOf t x1 x4 M).bind fun v3 =>
 nm (x3 - v3) (fun v4 =>
 lX11_rockAt_5 t x1 M n v4 (x4 + 1))
 else
 (fX11_rockOf t x1 x4 M).bind fun v5 =>
 some v5 := rfl
theorem lX11_rockAt_5_0 (t : Nat) (x1 : Int32) (M : Mem) (x3 : Int32) (x4 : Int32) : lX11_rockAt_5 t x1 M 0 x3 x4 = none := rfl
set_option maxRecDepth 100000 in
set_option maxHeartbeats 4000000 in
theorem wlX11_rockAt_5 {J : JT} (g : Gd J cX11_rockAt RX11) (hr : Rt J (some .int)) (hR : (JR J).frames = 2 ∧ (JR J).locals = 42) (hn : Jn J = 5) (t : Nat) (x1 : Int32) (M : Mem) (ht : isO 11 t) : ∀ (n : Nat) (x3 : Int32) (x4 : Int32), X J (fun b : Int32 => (some (Value.int b), M)) (lX11_rockAt_5 t x1 M n x3 x4) 5 [(0, .ref t), (1, .int x1), (3, .int x3), (4, .int x4)] [] M := by
  intro n
  induction n with
  | zero =>
    intro x3 x4
    exact x_none
  | succ n ih =>
    intro x3 x4
    rw [lX11_rockAt_5_s]
    exact (x_iload g 3 dX11_rockAt_5 rfl
 (x_aload_n g 0 dX11_rockAt_7 rfl rfl
 (x_iload_n g 1 dX11_rockAt_8 rfl rfl
 (x_callVip (As := [.int x1]) g mv_X11_layersOf mi_X11_layersOf lk_RX11_305 ht (fun b hb => kX11_layersOf t x1 M ht _ _ hb) rfl rfl hR ⟨Nat.le_of_ble_eq_true rfl, Nat.le_of_ble_eq_true rfl⟩ (Nat.le_of_ble_eq_true rfl) dX11_rockAt_9 (fun v1 =>
 (x_icmp_ge g 54 dX11_rockAt_12 rfl
 (fun _ => (x_iconst g dX11_rockAt_54 kI_m1
 (x_iret g hr rfl rfl dX11_rockAt_55)))
 (fun _ => (x_iload_n g 2 dX11_rockAt_15 rfl rfl
 (x_if_lt g 54 dX11_rockAt_16 rfl
 (fun _ => (x_iconst g dX11_rockAt_54 kI_m1
 (x_iret g hr rfl rfl dX11_rockAt_55)))
 (fun _ => (x_iload_n g 2 dX11_rockAt_19 rfl rfl
 (x_aload_n g 0 dX11_rockAt_20 rfl rfl
 (x_iload_n g 1 dX11_rockAt_21 rfl rfl
 (x_iload g 3 dX11_rockAt_22 rfl
 (x_callVip (As := [.int x1, .int x4]) g mv_X11_thickOf mi_X11_thickOf lk_RX11_290 ht (fun b hb => kX11_thickOf t x1 x4 M ht _ _ hb) rfl rfl hR ⟨Nat.le_of_ble_eq_true rfl, Nat.le_of_ble_eq_true rfl⟩ (Nat.le_of_ble_eq_true rfl) dX11_rockAt_24 (fun v2 =>
 (x_icmp_ge g 38 dX11_rockAt_27 rfl
 (fun _ => (x_iload_n g 2 dX11_rockAt_38 rfl rfl
 (x_aload_n g 0 dX11_rockAt_39 rfl rfl
 (x_iload_n g 1 dX11_rockAt_40 rfl rfl
 (x_iload g 3 dX11_rockAt_41 rfl
 (x_callVip (As := [.int x1, .int x4]) g mv_X11_thickOf mi_X11_thickOf lk_RX11_290 ht (fun b hb => kX11_thickOf t x1 x4 M ht _ _ hb) rfl rfl hR ⟨Nat.le_of_ble_eq_true rfl, Nat.le_of_ble_eq_true rfl⟩ (Nat.le_of_ble_eq_true rfl) dX11_rockAt_43 (fun v3 =>
 (x_isub g dX11_rockAt_46
 (x_nmI (fun v4 => (x_istore_n (L' := [(3, .int v4), (0, .ref t), (1, .int x1), (4, .int x4)]) g dX11_rockAt_47 rfl hn (Nat.le_of_ble_eq_true rfl) rfl
 (x_iinc (L' := [(4, .int (x4 + 1)), (3, .int v4), (0, .ref t), (1, .int x1)]) (v := (x4 + 1)) g 3 dX11_rockAt_48 rfl (by rw [kI_1]) hn (Nat.le_of_ble_eq_true rfl) rfl
 (x_goto g 5 dX11_rockAt_51 rfl
 (x_sub [2, 3, 1, 0] rfl (ih v4 (x4 + 1))))))))))))))))
 (fun _ => (x_aload_n g 0 dX11_rockAt_30 rfl rfl
 (x_iload_n g 1 dX11_rockAt_31 rfl rfl
 (x_iload g 3 dX11_rockAt_32 rfl
 (x_callVip (As := [.int x1, .int x4]) g mv_X11_rockOf mi_X11_rockOf lk_RX11_311 ht (fun b hb => kX11_rockOf t x1 x4 M ht _ _ hb) rfl rfl hR ⟨Nat.le_of_ble_eq_true rfl, Nat.le_of_ble_eq_true rfl⟩ (Nat.le_of_ble_eq_true rfl) dX11_rockAt_34 (fun v5 =>
 (x_iret g hr rfl rfl dX11_rockAt_37))))))))))))))))))))))))
def fX11_rockAt (φ : Nat) (t : Nat) (a1 : Int32) (a2 : Int32) (M : Mem) : Option Int32 :=
  lX11_rockAt_5 t a1 M φ a2 (0 : Int32)
set_option maxRecDepth 100000 in
set_option maxHeartbeats 4000000 in
theorem kX11_rockAt (φ : Nat) (t : Nat) (a1 : Int32) (a2 : Int32) (M : Mem) (ht : isO 11 t) (l : Launch) (G : GT) {b : Int32} (hE : fX11_rockAt φ t a1 a2 M = some b) : Ok l G yX11_rockAt cX11_rockAt 5 (some .int) 2 42 [.ref t, .int a1, .int a2] M ((fun b : Int32 => (some (Value.int b), M)) b).1 ((fun b : Int32 => (some (Value.int b), M)) b).2 := by
  refine Ok.ofX (pj := (fun b : Int32 => (some (Value.int b), M))) (by decide) (Nat.le_of_ble_eq_true rfl) hE (fun J g hr hG hl hR hn => ?_)
  show X J (fun b : Int32 => (some (Value.int b), M)) (fX11_rockAt φ t a1 a2 M) 0 [(0, .ref t), (1, .int a1), (2, .int a2)] [] M
  unfold fX11_rockAt
  exact (x_iload_n g 2 dX11_rockAt_0 rfl rfl
 (x_istore_n (L' := [(3, .int a2), (0, .ref t), (1, .int a1), (2, .int a2)]) g dX11_rockAt_1 rfl hn (Nat.le_of_ble_eq_true rfl) rfl
 (x_iconst g dX11_rockAt_2 kI_0
 (x_istore (L' := [(4, .int (0 : Int32)), (3, .int a2), (0, .ref t), (1, .int a1), (2, .int a2)]) g dX11_rockAt_3 hn (Nat.le_of_ble_eq_true rfl) rfl
 (x_sub [2, 3, 1, 0] rfl (wlX11_rockAt_5 g hr hR hn  t a1 M ht φ a2 (0 : Int32)))))))
def lX11_agreeing_6 (φ : Nat) (t : Nat) (x1 : Int32) (x2 : Int32) (x3 : Int32) (x4 : Int32) (M : Mem) : Nat → Int32 → Int32 → Option Int32
  | 0, _, _ => none
  | n + 1, x5, x6 =>
    if x2 ≤ x6 then
 some x5
 else
 (fX11_rockAt φ t x3 (x6 + x4) M).bind fun v1 =>
 jn (fun (v2 : Int32) => nm (x5 + v2) (fun v4 =>
 lX11_agreeing_6 φ t x1 x2 x3 x4 M n v4 (x6 + 1))) (fun J3 => jn (J3 (0 : Int32)) (fun J5 => if v1 = (-1 : Int32) then
 J5
 else
 (fX11_logAt t x1 x6 M).bind fun vz6 =>
 if vz6 = (v1.toInt64) then
 J3 (1 : Int32)
 else
 J5))
theorem lX11_agreeing_6_s (φ : Nat) (t : Nat) (x1 : Int32) (x2 : Int32) (x3 : Int32) (x4 : Int32) (M : Mem) (n : Nat) (x5 : Int32) (x6 : Int32) : lX11_agreeing_6 φ t x1 x2 x3 x4 M (n + 1) x5 x6 =
    if x2 ≤ x6 then
 some x5
 else
 (fX11_rockAt φ t x3 (x6 + x4) M).bind fun v1 =>
 jn (fun (v2 : Int32) => nm (x5 + v2) (fun v4 =>
 lX11_agreeing_6 φ t x1 x2 x3 x4 M n v4 (x6 + 1))) (fun J3 => jn (J3 (0 : Int32)) (fun J5 => if v1 = (-1 : Int32) then
 J5
 else
 (fX11_logAt t x1 x6 M).bind fun vz6 =>
 if vz6 = (v1.toInt64) then
 J3 (1 : Int32)
 else
 J5)) := rfl
theorem lX11_agreeing_6_0 (φ : Nat) (t : Nat) (x1 : Int32) (x2 : Int32) (x3 : Int32) (x4 : Int32) (M : Mem) (x5 : Int32) (x6 : Int32) : lX11_agreeing_6 φ t x1 x2 x3 x4 M 0 x5 x6 = none := rfl
set_option maxRecDepth 100000 in
set_option maxHeartbeats 4000000 in
theorem wlX11_agreeing_6 {J : JT} (g : Gd J cX11_agreeing RX11) (hr : Rt J (some .int)) (hR : (JR J).frames = 3 ∧ (JR J).locals = 66) (hn : Jn J = 8) (φ : Nat) (t : Nat) (x1 : Int32) (x2 : Int32) (x3 : Int32) (x4 : Int32) (M : Mem) (ht : isO 11 t) : ∀ (n : Nat) (x5 : Int32) (x6 : Int32), X J (fun b : Int32 => (some (Value.int b), M)) (lX11_agreeing_6 φ t x1 x2 x3 x4 M n x5 x6) 6 [(0, .ref t), (1, .int x1), (2, .int x2), (3, .int x3), (4, .int x4), (5, .int x5), (6, .int x6)] [] M := by
  intro n
  induction n with
  | zero =>
    intro x5 x6
    exact x_none
  | succ n ih =>
    intro x5 x6
    rw [lX11_agreeing_6_s]
    exact (x_iload g 6 dX11_agreeing_6 rfl
 (x_iload_n g 2 dX11_agreeing_8 rfl rfl
 (x_icmp_ge g 60 dX11_agreeing_9 rfl
 (fun _ => (x_iload g 5 dX11_agreeing_60 rfl
 (x_iret g hr rfl rfl dX11_agreeing_62)))
 (fun _ => (x_aload_n g 0 dX11_agreeing_12 rfl rfl
 (x_iload_n g 3 dX11_agreeing_13 rfl rfl
 (x_iload g 6 dX11_agreeing_14 rfl
 (x_iload g 4 dX11_agreeing_16 rfl
 (x_iadd g dX11_agreeing_18
 (x_callVip (As := [.int x3, .int (x6 + x4)]) g mv_X11_rockAt mi_X11_rockAt lk_RX11_433 ht (fun b hb => kX11_rockAt φ t x3 (x6 + x4) M ht _ _ hb) rfl rfl hR ⟨Nat.le_of_ble_eq_true rfl, Nat.le_of_ble_eq_true rfl⟩ (Nat.le_of_ble_eq_true rfl) dX11_agreeing_19 (fun v1 =>
 (x_istore (L' := [(7, .int v1), (0, .ref t), (1, .int x1), (2, .int x2), (3, .int x3), (4, .int x4), (5, .int x5), (6, .int x6)]) g dX11_agreeing_22 hn (Nat.le_of_ble_eq_true rfl) rfl
 (x_iload g 6 dX11_agreeing_24 rfl
 (x_iload g 0 dX11_agreeing_26 rfl
 (x_iconst g dX11_agreeing_28 kI_m1
 (x_jn (fun (J3 : Int32 → Option Int32) => ∀ (v2 : Int32), X J (fun b : Int32 => (some (Value.int b), M)) (J3 v2) 51 [(0, .ref t), (1, .int x1), (2, .int x2), (3, .int x3), (4, .int x4), (6, .int x6)] [.int v2, .int x5] M) (fun v2 => (x_iadd g dX11_agreeing_51
 (x_nmI (fun v4 => (x_istore (L' := [(5, .int v4), (0, .ref t), (1, .int x1), (2, .int x2), (3, .int x3), (4, .int x4), (6, .int x6)]) g dX11_agreeing_52 hn (Nat.le_of_ble_eq_true rfl) rfl
 (x_iinc (L' := [(6, .int (x6 + 1)), (5, .int v4), (0, .ref t), (1, .int x1), (2, .int x2), (3, .int x3), (4, .int x4)]) (v := (x6 + 1)) g 6 dX11_agreeing_54 rfl (by rw [kI_1]) hn (Nat.le_of_ble_eq_true rfl) rfl
 (x_goto g 6 dX11_agreeing_57 rfl
 (x_sub [2, 3, 4, 5, 6, 1, 0] rfl (ih v4 (x6 + 1)))))))))) (fun J3 hJ3 => (x_jn (fun (J5 : Option Int32) => X J (fun b : Int32 => (some (Value.int b), M)) J5 50 [(0, .ref t), (1, .int x1), (2, .int x2), (3, .int x3), (4, .int x4), (6, .int x6)] [.int x5] M) (x_iconst g dX11_agreeing_50 kI_0
 (hJ3 (0 : Int32))) (fun J5 hJ5 => (x_icmp_eq g 50 dX11_agreeing_29 rfl
 (fun _ => (x_sub [1, 2, 3, 4, 5, 7] rfl (hJ5)))
 (fun _ => (x_aload_n g 1 dX11_agreeing_32 rfl rfl
 (x_iload_n g 2 dX11_agreeing_33 rfl rfl
 (x_iload g 7 dX11_agreeing_34 rfl
 (x_callVlp (As := [.int x1, .int x6]) g mv_X11_logAt mi_X11_logAt lk_RX11_415 ht (fun b hb => kX11_logAt t x1 x6 M ht _ _ hb) rfl rfl hR ⟨Nat.le_of_ble_eq_true rfl, Nat.le_of_ble_eq_true rfl⟩ (Nat.le_of_ble_eq_true rfl) dX11_agreeing_36 (fun vz6 =>
 (x_iload g 0 dX11_agreeing_39 rfl
 (x_i2l g dX11_agreeing_41
 (x_l_ne g 50 dX11_agreeing_42 dX11_agreeing_43 rfl
 (fun _ => (x_sub [1, 2, 3, 4, 5, 7] rfl (hJ5)))
 (fun _ => (x_iconst g dX11_agreeing_46 kI_1
 (x_goto g 51 dX11_agreeing_47 rfl
 (x_sub [1, 2, 3, 4, 5, 7] rfl (hJ3 (1 : Int32)))))))))))))))))))))))))))))))))))
def fX11_agreeing (φ : Nat) (t : Nat) (a1 : Int32) (a2 : Int32) (a3 : Int32) (a4 : Int32) (M : Mem) : Option Int32 :=
  lX11_agreeing_6 φ t a1 a2 a3 a4 M φ (0 : Int32) (0 : Int32)
set_option maxRecDepth 100000 in
set_option maxHeartbeats 4000000 in
theorem kX11_agreeing (φ : Nat) (t : Nat) (a1 : Int32) (a2 : Int32) (a3 : Int32) (a4 : Int32) (M : Mem) (ht : isO 11 t) (l : Launch) (G : GT) {b : Int32} (hE : fX11_agreeing φ t a1 a2 a3 a4 M = some b) : Ok l G yX11_agreeing cX11_agreeing 8 (some .int) 3 66 [.ref t, .int a1, .int a2, .int a3, .int a4] M ((fun b : Int32 => (some (Value.int b), M)) b).1 ((fun b : Int32 => (some (Value.int b), M)) b).2 := by
  refine Ok.ofX (pj := (fun b : Int32 => (some (Value.int b), M))) (by decide) (Nat.le_of_ble_eq_true rfl) hE (fun J g hr hG hl hR hn => ?_)
  show X J (fun b : Int32 => (some (Value.int b), M)) (fX11_agreeing φ t a1 a2 a3 a4 M) 0 [(0, .ref t), (1, .int a1), (2, .int a2), (3, .int a3), (4, .int a4)] [] M
  unfold fX11_agreeing
  exact (x_iconst g dX11_agreeing_0 kI_0
 (x_istore (L' := [(5, .int (0 : Int32)), (0, .ref t), (1, .int a1), (2, .int a2), (3, .int a3), (4, .int a4)]) g dX11_agreeing_1 hn (Nat.le_of_ble_eq_true rfl) rfl
 (x_iconst g dX11_agreeing_3 kI_0
 (x_istore (L' := [(6, .int (0 : Int32)), (5, .int (0 : Int32)), (0, .ref t), (1, .int a1), (2, .int a2), (3, .int a3), (4, .int a4)]) g dX11_agreeing_4 hn (Nat.le_of_ble_eq_true rfl) rfl
 (x_sub [2, 3, 4, 5, 6, 1, 0] rfl (wlX11_agreeing_6 g hr hR hn  φ t a1 a2 a3 a4 M ht φ (0 : Int32) (0 : Int32)))))))
def fX11_agrees (φ : Nat) (t : Nat) (a1 : Int32) (a2 : Int32) (a3 : Int32) (M : Mem) : Option (Int32 × Mem) :=
  (fX11_isHole t a3 M).bind fun v1 =>
 jn (fun (v2 : Int32) => if v2 ≤ 0 then
 (fX11_agreeing φ t a1 a2 a3 (0 : Int32) M).bind fun v4 =>
 bd (fX11_gives t v4 M) fun v5 M6 =>
 some (v5, M6)
 else
 bd (fX11_refuse t v2 M) fun v7 M8 =>
 some (v7, M8)) (fun J3 => if v1 = 0 then
 J3 (1 : Int32)
 else
 ixk (0 : Int32) 3900 (
 (fX11_wrongLog φ t a1 a2 (((M.1 (t + 1) (0 : Int32).toNatClampNeg).toInt64) - (1 : Int64)) M).bind fun v9 =>
 J3 v9))
set_option maxRecDepth 100000 in
set_option maxHeartbeats 4000000 in
theorem kX11_agrees (φ : Nat) (t : Nat) (a1 : Int32) (a2 : Int32) (a3 : Int32) (M : Mem) (ht : isO 11 t) (l : Launch) (G : GT) {b : (Int32 × Mem)} (hE : fX11_agrees φ t a1 a2 a3 M = some b) : Ok l G yX11_agrees cX11_agrees 5 (some .int) 4 93 [.ref t, .int a1, .int a2, .int a3] M ((fun q : Int32 × Mem => (some (Value.int q.1), q.2)) b).1 ((fun q : Int32 × Mem => (some (Value.int q.1), q.2)) b).2 := by
  refine Ok.ofX (pj := (fun q : Int32 × Mem => (some (Value.int q.1), q.2))) (by decide) (Nat.le_of_ble_eq_true rfl) hE (fun J g hr hG hl hR hn => ?_)
  show X J (fun q : Int32 × Mem => (some (Value.int q.1), q.2)) (fX11_agrees φ t a1 a2 a3 M) 0 [(0, .ref t), (1, .int a1), (2, .int a2), (3, .int a3)] [] M
  unfold fX11_agrees
  exact (x_aload_n g 0 dX11_agrees_0 rfl rfl
 (x_iload_n g 3 dX11_agrees_1 rfl rfl
 (x_callVip (As := [.int a3]) g mv_X11_isHole mi_X11_isHole lk_RX11_302 ht (fun b hb => kX11_isHole t a3 M ht _ _ hb) rfl rfl hR ⟨Nat.le_of_ble_eq_true rfl, Nat.le_of_ble_eq_true rfl⟩ (Nat.le_of_ble_eq_true rfl) dX11_agrees_2 (fun v1 =>
 (x_jn (fun (J3 : Int32 → Option (Int32 × Mem)) => ∀ (v2 : Int32), X J (fun q : Int32 × Mem => (some (Value.int q.1), q.2)) (J3 v2) 27 [(0, .ref t), (1, .int a1), (2, .int a2), (3, .int a3)] [.int v2] M) (fun v2 => (x_istore (L' := [(4, .int v2), (0, .ref t), (1, .int a1), (2, .int a2), (3, .int a3)]) g dX11_agrees_27 hn (Nat.le_of_ble_eq_true rfl) rfl
 (x_iload g 0 dX11_agrees_29 rfl
 (x_if_le g 43 dX11_agrees_31 rfl
 (fun _ => (x_aload_n g 1 dX11_agrees_43 rfl rfl
 (x_aload_n g 1 dX11_agrees_44 rfl rfl
 (x_iload_n g 2 dX11_agrees_45 rfl rfl
 (x_iload_n g 3 dX11_agrees_46 rfl rfl
 (x_iload_n g 4 dX11_agrees_47 rfl rfl
 (x_iconst g dX11_agrees_48 kI_0
 (x_callVip (As := [.int a1, .int a2, .int a3, .int (0 : Int32)]) g mv_X11_agreeing mi_X11_agreeing lk_RX11_436 ht (fun b hb => kX11_agreeing φ t a1 a2 a3 (0 : Int32) M ht _ _ hb) rfl rfl hR ⟨Nat.le_of_ble_eq_true rfl, Nat.le_of_ble_eq_true rfl⟩ (Nat.le_of_ble_eq_true rfl) dX11_agrees_49 (fun v4 =>
 (x_callVi (As := [.int v4]) g mv_X11_gives mi_X11_gives lk_RX11_106 ht (fun b Mh_ hb => kX11_gives t v4 M ht _ _ hb) rfl rfl hR ⟨Nat.le_of_ble_eq_true rfl, Nat.le_of_ble_eq_true rfl⟩ (Nat.le_of_ble_eq_true rfl) dX11_agrees_52 (fun v5 M6 =>
 (x_iret g hr rfl rfl dX11_agrees_55))))))))))))
 (fun _ => (x_aload_n g 1 dX11_agrees_34 rfl rfl
 (x_iload g 0 dX11_agrees_35 rfl
 (x_callVi (As := [.int v2]) g mv_X11_refuse mi_X11_refuse lk_RX11_102 ht (fun b Mh_ hb => kX11_refuse t v2 M ht _ _ hb) rfl rfl hR ⟨Nat.le_of_ble_eq_true rfl, Nat.le_of_ble_eq_true rfl⟩ (Nat.le_of_ble_eq_true rfl) dX11_agrees_37 (fun v7 M8 =>
 (x_goto g 55 dX11_agrees_40 rfl
 (x_iret g hr rfl rfl dX11_agrees_55))))))))))) (fun J3 hJ3 => (x_if_eq g 26 dX11_agrees_5 rfl
 (fun _ => (x_iconst g dX11_agrees_26 kI_1
 (hJ3 (1 : Int32))))
 (fun _ => (x_aload_n g 0 dX11_agrees_8 rfl rfl
 (x_iload_n g 1 dX11_agrees_9 rfl rfl
 (x_iload_n g 2 dX11_agrees_10 rfl rfl
 (x_aload_n g 0 dX11_agrees_11 rfl rfl
 (x_getS g 1 fl_RX11_7 rfl ht dX11_agrees_12
 (x_iconst g dX11_agrees_15 kI_0
 (x_iald g (so_11_0 ht) dX11_agrees_16
 (x_i2l g dX11_agrees_17
 (x_lconst g dX11_agrees_18 kL_1
 (x_lsub g dX11_agrees_19
 (x_callVip (As := [.int a1, .int a2, .long (((M.1 (t + 1) (0 : Int32).toNatClampNeg).toInt64) - (1 : Int64))]) g mv_X11_wrongLog mi_X11_wrongLog lk_RX11_422 ht (fun b hb => kX11_wrongLog φ t a1 a2 (((M.1 (t + 1) (0 : Int32).toNatClampNeg).toInt64) - (1 : Int64)) M ht _ _ hb) rfl rfl hR ⟨Nat.le_of_ble_eq_true rfl, Nat.le_of_ble_eq_true rfl⟩ (Nat.le_of_ble_eq_true rfl) dX11_agrees_20 (fun v9 =>
 (x_goto g 27 dX11_agrees_23 rfl
 (hJ3 v9))))))))))))))))))))))
def lX11_shift_78 (K125 : Int32 → Int32 → Option (Int32 × Mem)) (φ : Nat) (t : Nat) (x1 : Int32) (x2 : Int32) (x3 : Int32) (x4 : Int32) (x8 : Int32) (M : Mem) : Nat → Int32 → Int32 → Int32 → Option (Int32 × Mem)
  | 0, _, _, _ => none
  | n + 1, x6, x7, x9 =>
    if (2 : Int32) ≤ x9 then
 K125 x6 x7
 else
 (fX11_agreeing φ t x1 x2 x3 (x9 * x8) M).bind fun v5 =>
 jn (fun (v6 : Int32) (v7 : Int32) => lX11_shift_78 K125 φ t x1 x2 x3 x4 x8 M n v6 v7 (x9 + 2)) (fun J8 => if x7 < v5 then
 nm (x9 * x8) (fun v9 =>
 J8 v9 v5)
 else
 J8 x6 x7)
theorem lX11_shift_78_s (K125 : Int32 → Int32 → Option (Int32 × Mem)) (φ : Nat) (t : Nat) (x1 : Int32) (x2 : Int32) (x3 : Int32) (x4 : Int32) (x8 : Int32) (M : Mem) (n : Nat) (x6 : Int32) (x7 : Int32) (x9 : Int32) : lX11_shift_78 K125 φ t x1 x2 x3 x4 x8 M (n + 1) x6 x7 x9 =
    if (2 : Int32) ≤ x9 then
 K125 x6 x7
 else
 (fX11_agreeing φ t x1 x2 x3 (x9 * x8) M).bind fun v5 =>
 jn (fun (v6 : Int32) (v7 : Int32) => lX11_shift_78 K125 φ t x1 x2 x3 x4 x8 M n v6 v7 (x9 + 2)) (fun J8 => if x7 < v5 then
 nm (x9 * x8) (fun v9 =>
 J8 v9 v5)
 else
 J8 x6 x7) := rfl
theorem lX11_shift_78_0 (K125 : Int32 → Int32 → Option (Int32 × Mem)) (φ : Nat) (t : Nat) (x1 : Int32) (x2 : Int32) (x3 : Int32) (x4 : Int32) (x8 : Int32) (M : Mem) (x6 : Int32) (x7 : Int32) (x9 : Int32) : lX11_shift_78 K125 φ t x1 x2 x3 x4 x8 M 0 x6 x7 x9 = none := rfl
set_option maxRecDepth 100000 in
set_option maxHeartbeats 4000000 in
theorem wlX11_shift_78 {J : JT} (g : Gd J cX11_shift RX11) (hr : Rt J (some .int)) (hR : (JR J).frames = 4 ∧ (JR J).locals = 93) (hn : Jn J = 11) (K125 : Int32 → Int32 → Option (Int32 × Mem)) (φ : Nat) (t : Nat) (x1 : Int32) (x2 : Int32) (x3 : Int32) (x4 : Int32) (x8 : Int32) (M : Mem) (ht : isO 11 t) (hK125 : ∀ (y6 : Int32) (y7 : Int32), X J (fun q : Int32 × Mem => (some (Value.int q.1), q.2)) (K125 y6 y7) 125 [(0, .ref t), (1, .int x1), (2, .int x2), (3, .int x3), (4, .int x4), (6, .int y6), (7, .int y7), (8, .int x8)] [] M) : ∀ (n : Nat) (x6 : Int32) (x7 : Int32) (x9 : Int32), X J (fun q : Int32 × Mem => (some (Value.int q.1), q.2)) (lX11_shift_78 K125 φ t x1 x2 x3 x4 x8 M n x6 x7 x9) 78 [(0, .ref t), (1, .int x1), (2, .int x2), (3, .int x3), (4, .int x4), (6, .int x6), (7, .int x7), (8, .int x8), (9, .int x9)] [] M := by
  intro n
  induction n with
  | zero =>
    intro x6 x7 x9
    exact x_none
  | succ n ih =>
    intro x6 x7 x9
    rw [lX11_shift_78_s]
    exact (x_iload g 8 dX11_shift_78 rfl
 (x_iconst g dX11_shift_80 kI_2
 (x_icmp_ge g 125 dX11_shift_81 rfl
 (fun _ => (x_sub [0, 1, 2, 3, 4, 5, 6, 7] rfl (hK125 x6 x7)))
 (fun _ => (x_aload_n g 0 dX11_shift_84 rfl rfl
 (x_iload_n g 1 dX11_shift_85 rfl rfl
 (x_iload_n g 2 dX11_shift_86 rfl rfl
 (x_iload_n g 3 dX11_shift_87 rfl rfl
 (x_iload g 8 dX11_shift_88 rfl
 (x_iload g 7 dX11_shift_90 rfl
 (x_imul g dX11_shift_92
 (x_callVip (As := [.int x1, .int x2, .int x3, .int (x9 * x8)]) g mv_X11_agreeing mi_X11_agreeing lk_RX11_436 ht (fun b hb => kX11_agreeing φ t x1 x2 x3 (x9 * x8) M ht _ _ hb) rfl rfl hR ⟨Nat.le_of_ble_eq_true rfl, Nat.le_of_ble_eq_true rfl⟩ (Nat.le_of_ble_eq_true rfl) dX11_shift_93 (fun v5 =>
 (x_istore (L' := [(10, .int v5), (0, .ref t), (1, .int x1), (2, .int x2), (3, .int x3), (4, .int x4), (6, .int x6), (7, .int x7), (8, .int x8), (9, .int x9)]) g dX11_shift_96 hn (Nat.le_of_ble_eq_true rfl) rfl
 (x_iload g 0 dX11_shift_98 rfl
 (x_iload g 7 dX11_shift_100 rfl
 (x_jn (fun (J8 : Int32 → Int32 → Option (Int32 × Mem)) => ∀ (v6 : Int32) (v7 : Int32), X J (fun q : Int32 × Mem => (some (Value.int q.1), q.2)) (J8 v6 v7) 119 [(0, .ref t), (1, .int x1), (2, .int x2), (3, .int x3), (4, .int x4), (6, .int v6), (7, .int v7), (8, .int x8), (9, .int x9)] [] M) (fun v6 v7 => (x_iinc (L' := [(9, .int (x9 + 2)), (0, .ref t), (1, .int x1), (2, .int x2), (3, .int x3), (4, .int x4), (6, .int v6), (7, .int v7), (8, .int x8)]) (v := (x9 + 2)) g 8 dX11_shift_119 rfl (by rw [kI_2]) hn (Nat.le_of_ble_eq_true rfl) rfl
 (x_goto g 78 dX11_shift_122 rfl
 (x_sub [1, 2, 3, 4, 5, 6, 7, 8, 0] rfl (ih v6 v7 (x9 + 2)))))) (fun J8 hJ8 => (x_icmp_gt g 108 dX11_shift_102 rfl
 (fun _ => (x_iload g 0 dX11_shift_108 rfl
 (x_istore (L' := [(7, .int v5), (10, .int v5), (0, .ref t), (1, .int x1), (2, .int x2), (3, .int x3), (4, .int x4), (6, .int x6), (8, .int x8), (9, .int x9)]) g dX11_shift_110 hn (Nat.le_of_ble_eq_true rfl) rfl
 (x_iload g 9 dX11_shift_112 rfl
 (x_iload g 8 dX11_shift_114 rfl
 (x_imul g dX11_shift_116
 (x_nmI (fun v9 => (x_istore (L' := [(6, .int v9), (7, .int v5), (10, .int v5), (0, .ref t), (1, .int x1), (2, .int x2), (3, .int x3), (4, .int x4), (8, .int x8), (9, .int x9)]) g dX11_shift_117 hn (Nat.le_of_ble_eq_true rfl) rfl
 (x_sub [3, 4, 5, 6, 7, 0, 1, 8, 9] rfl (hJ8 v9 v5)))))))))))
 (fun _ => (x_goto g 119 dX11_shift_105 rfl
 (x_sub [1, 2, 3, 4, 5, 6, 7, 8, 9] rfl (hJ8 x6 x7)))))))))))))))))))))))
def lX11_shift_68 (K131 : Int32 → Int32 → Option (Int32 × Mem)) (φ : Nat) (t : Nat) (x1 : Int32) (x2 : Int32) (x3 : Int32) (x4 : Int32) (M : Mem) : Nat → Int32 → Int32 → Int32 → Option (Int32 × Mem)
  | 0, _, _, _ => none
  | n + 1, x6, x7, x8 =>
    if (20 : Int32) < x8 then
 K131 x6 x7
 else
 lX11_shift_78 (fun (v10 : Int32) (v11 : Int32) => lX11_shift_68 K131 φ t x1 x2 x3 x4 M n v10 v11 (x8 + 1)) φ t x1 x2 x3 x4 x8 M φ x6 x7 (-1 : Int32)
theorem lX11_shift_68_s (K131 : Int32 → Int32 → Option (Int32 × Mem)) (φ : Nat) (t : Nat) (x1 : Int32) (x2 : Int32) (x3 : Int32) (x4 : Int32) (M : Mem) (n : Nat) (x6 : Int32) (x7 : Int32) (x8 : Int32) : lX11_shift_68 K131 φ t x1 x2 x3 x4 M (n + 1) x6 x7 x8 =
    if (20 : Int32) < x8 then
 K131 x6 x7
 else
 lX11_shift_78 (fun (v10 : Int32) (v11 : Int32) => lX11_shift_68 K131 φ t x1 x2 x3 x4 M n v10 v11 (x8 + 1)) φ t x1 x2 x3 x4 x8 M φ x6 x7 (-1 : Int32) := rfl
theorem lX11_shift_68_0 (K131 : Int32 → Int32 → Option (Int32 × Mem)) (φ : Nat) (t : Nat) (x1 : Int32) (x2 : Int32) (x3 : Int32) (x4 : Int32) (M : Mem) (x6 : Int32) (x7 : Int32) (x8 : Int32) : lX11_shift_68 K131 φ t x1 x2 x3 x4 M 0 x6 x7 x8 = none := rfl
set_option maxRecDepth 100000 in
set_option maxHeartbeats 4000000 in
theorem wlX11_shift_68 {J : JT} (g : Gd J cX11_shift RX11) (hr : Rt J (some .int)) (hR : (JR J).frames = 4 ∧ (JR J).locals = 93) (hn : Jn J = 11) (K131 : Int32 → Int32 → Option (Int32 × Mem)) (φ : Nat) (t : Nat) (x1 : Int32) (x2 : Int32) (x3 : Int32) (x4 : Int32) (M : Mem) (ht : isO 11 t) (hK131 : ∀ (y6 : Int32) (y7 : Int32), X J (fun q : Int32 × Mem => (some (Value.int q.1), q.2)) (K131 y6 y7) 131 [(0, .ref t), (4, .int x4), (6, .int y6), (7, .int y7)] [] M) : ∀ (n : Nat) (x6 : Int32) (x7 : Int32) (x8 : Int32), X J (fun q : Int32 × Mem => (some (Value.int q.1), q.2)) (lX11_shift_68 K131 φ t x1 x2 x3 x4 M n x6 x7 x8) 68 [(0, .ref t), (1, .int x1), (2, .int x2), (3, .int x3), (4, .int x4), (6, .int x6), (7, .int x7), (8, .int x8)] [] M := by
  intro n
  induction n with
  | zero =>
    intro x6 x7 x8
    exact x_none
  | succ n ih =>
    intro x6 x7 x8
    rw [lX11_shift_68_s]
    exact (x_iload g 7 dX11_shift_68 rfl
 (x_bipush g dX11_shift_70 kB_20
 (x_icmp_gt g 131 dX11_shift_72 rfl
 (fun _ => (x_sub [0, 4, 5, 6] rfl (hK131 x6 x7)))
 (fun _ => (x_iconst g dX11_shift_75 kI_m1
 (x_istore (L' := [(9, .int (-1 : Int32)), (0, .ref t), (1, .int x1), (2, .int x2), (3, .int x3), (4, .int x4), (6, .int x6), (7, .int x7), (8, .int x8)]) g dX11_shift_76 hn (Nat.le_of_ble_eq_true rfl) rfl
 (x_sub [1, 2, 3, 4, 5, 6, 7, 8, 0] rfl (wlX11_shift_78 g hr hR hn _ φ t x1 x2 x3 x4 x8 M ht
 (fun v10 v11 => by exact (x_iinc (L' := [(8, .int (x8 + 1)), (0, .ref t), (1, .int x1), (2, .int x2), (3, .int x3), (4, .int x4), (6, .int v10), (7, .int v11)]) (v := (x8 + 1)) g 7 dX11_shift_125 rfl (by rw [kI_1]) hn (Nat.le_of_ble_eq_true rfl) rfl
 (x_goto g 68 dX11_shift_128 rfl
 (x_sub [1, 2, 3, 4, 5, 6, 7, 0] rfl (ih v10 v11 (x8 + 1)))))) φ x6 x7 (-1 : Int32)))))))))
def fX11_shift (φ : Nat) (t : Nat) (a1 : Int32) (a2 : Int32) (a3 : Int32) (a4 : Int32) (M : Mem) : Option (Int32 × Mem) :=
  (fX11_isHole t a3 M).bind fun v1 =>
 jn (fun (v2 : Int32) => if v2 ≤ 0 then
 (fX11_agreeing φ t a1 a2 a3 (0 : Int32) M).bind fun v4 =>
 lX11_shift_68 (fun (v12 : Int32) (v13 : Int32) => if a4 = 0 then
 bd (fX11_gives t v12 M) fun v16 M17 =>
 some (v16, M17)
 else
 bd (fX11_gives t v13 M) fun v14 M15 =>
 some (v14, M15)) φ t a1 a2 a3 a4 M φ (0 : Int32) v4 (1 : Int32)
 else
 bd (fX11_refuse t v2 M) fun v18 M19 =>
 some (v18, M19)) (fun J3 => jn (J3 (1 : Int32)) (fun J20 => if v1 = 0 then
 J20
 else
 jn (ixk (0 : Int32) 3900 (
 (fX11_wrongLog φ t a1 a2 (((M.1 (t + 1) (0 : Int32).toNatClampNeg).toInt64) - (1 : Int64)) M).bind fun v22 =>
 J3 v22)) (fun J21 => if a4 = 0 then
 J21
 else
 if a4 = (1 : Int32) then
 J21
 else
 J20)))
set_option maxRecDepth 100000 in
set_option maxHeartbeats 4000000 in
theorem kX11_shift (φ : Nat) (t : Nat) (a1 : Int32) (a2 : Int32) (a3 : Int32) (a4 : Int32) (M : Mem) (ht : isO 11 t) (l : Launch) (G : GT) {b : (Int32 × Mem)} (hE : fX11_shift φ t a1 a2 a3 a4 M = some b) : Ok l G yX11_shift cX11_shift 11 (some .int) 4 93 [.ref t, .int a1, .int a2, .int a3, .int a4] M ((fun q : Int32 × Mem => (some (Value.int q.1), q.2)) b).1 ((fun q : Int32 × Mem => (some (Value.int q.1), q.2)) b).2 := by
  refine Ok.ofX (pj := (fun q : Int32 × Mem => (some (Value.int q.1), q.2))) (by decide) (Nat.le_of_ble_eq_true rfl) hE (fun J g hr hG hl hR hn => ?_)
  show X J (fun q : Int32 × Mem => (some (Value.int q.1), q.2)) (fX11_shift φ t a1 a2 a3 a4 M) 0 [(0, .ref t), (1, .int a1), (2, .int a2), (3, .int a3), (4, .int a4)] [] M
  unfold fX11_shift
  exact (x_aload_n g 0 dX11_shift_0 rfl rfl
 (x_iload_n g 3 dX11_shift_1 rfl rfl
 (x_callVip (As := [.int a3]) g mv_X11_isHole mi_X11_isHole lk_RX11_302 ht (fun b hb => kX11_isHole t a3 M ht _ _ hb) rfl rfl hR ⟨Nat.le_of_ble_eq_true rfl, Nat.le_of_ble_eq_true rfl⟩ (Nat.le_of_ble_eq_true rfl) dX11_shift_2 (fun v1 =>
 (x_jn (fun (J3 : Int32 → Option (Int32 × Mem)) => ∀ (v2 : Int32), X J (fun q : Int32 × Mem => (some (Value.int q.1), q.2)) (J3 v2) 38 [(0, .ref t), (1, .int a1), (2, .int a2), (3, .int a3), (4, .int a4)] [.int v2] M) (fun v2 => (x_istore (L' := [(5, .int v2), (0, .ref t), (1, .int a1), (2, .int a2), (3, .int a3), (4, .int a4)]) g dX11_shift_38 hn (Nat.le_of_ble_eq_true rfl) rfl
 (x_iload g 0 dX11_shift_40 rfl
 (x_if_le g 52 dX11_shift_42 rfl
 (fun _ => (x_iconst g dX11_shift_52 kI_0
 (x_istore (L' := [(6, .int (0 : Int32)), (5, .int v2), (0, .ref t), (1, .int a1), (2, .int a2), (3, .int a3), (4, .int a4)]) g dX11_shift_53 hn (Nat.le_of_ble_eq_true rfl) rfl
 (x_aload_n g 2 dX11_shift_55 rfl rfl
 (x_iload_n g 3 dX11_shift_56 rfl rfl
 (x_iload_n g 4 dX11_shift_57 rfl rfl
 (x_iload_n g 5 dX11_shift_58 rfl rfl
 (x_iconst g dX11_shift_59 kI_0
 (x_callVip (As := [.int a1, .int a2, .int a3, .int (0 : Int32)]) g mv_X11_agreeing mi_X11_agreeing lk_RX11_436 ht (fun b hb => kX11_agreeing φ t a1 a2 a3 (0 : Int32) M ht _ _ hb) rfl rfl hR ⟨Nat.le_of_ble_eq_true rfl, Nat.le_of_ble_eq_true rfl⟩ (Nat.le_of_ble_eq_true rfl) dX11_shift_60 (fun v4 =>
 (x_istore (L' := [(7, .int v4), (6, .int (0 : Int32)), (5, .int v2), (0, .ref t), (1, .int a1), (2, .int a2), (3, .int a3), (4, .int a4)]) g dX11_shift_63 hn (Nat.le_of_ble_eq_true rfl) rfl
 (x_iconst g dX11_shift_65 kI_1
 (x_istore (L' := [(8, .int (1 : Int32)), (7, .int v4), (6, .int (0 : Int32)), (5, .int v2), (0, .ref t), (1, .int a1), (2, .int a2), (3, .int a3), (4, .int a4)]) g dX11_shift_66 hn (Nat.le_of_ble_eq_true rfl) rfl
 (x_sub [4, 5, 6, 7, 8, 2, 1, 0] rfl (wlX11_shift_68 g hr hR hn _ φ t a1 a2 a3 a4 M ht
 (fun v12 v13 => by exact (x_aload_n g 0 dX11_shift_131 rfl rfl
 (x_iload g 1 dX11_shift_132 rfl
 (x_if_ne g 142 dX11_shift_134 rfl
 (fun _ => (x_iload g 3 dX11_shift_142 rfl
 (x_callVi (As := [.int v13]) g mv_X11_gives mi_X11_gives lk_RX11_106 ht (fun b Mh_ hb => kX11_gives t v13 M ht _ _ hb) rfl rfl hR ⟨Nat.le_of_ble_eq_true rfl, Nat.le_of_ble_eq_true rfl⟩ (Nat.le_of_ble_eq_true rfl) dX11_shift_144 (fun v14 M15 =>
 (x_iret g hr rfl rfl dX11_shift_147)))))
 (fun _ => (x_iload g 2 dX11_shift_137 rfl
 (x_goto g 144 dX11_shift_139 rfl
 (x_callVi (As := [.int v12]) g mv_X11_gives mi_X11_gives lk_RX11_106 ht (fun b Mh_ hb => kX11_gives t v12 M ht _ _ hb) rfl rfl hR ⟨Nat.le_of_ble_eq_true rfl, Nat.le_of_ble_eq_true rfl⟩ (Nat.le_of_ble_eq_true rfl) dX11_shift_144 (fun v16 M17 =>
 (x_iret g hr rfl rfl dX11_shift_147)))))))))) φ (0 : Int32) v4 (1 : Int32))))))))))))))))
 (fun _ => (x_aload_n g 1 dX11_shift_45 rfl rfl
 (x_iload g 0 dX11_shift_46 rfl
 (x_callVi (As := [.int v2]) g mv_X11_refuse mi_X11_refuse lk_RX11_102 ht (fun b Mh_ hb => kX11_refuse t v2 M ht _ _ hb) rfl rfl hR ⟨Nat.le_of_ble_eq_true rfl, Nat.le_of_ble_eq_true rfl⟩ (Nat.le_of_ble_eq_true rfl) dX11_shift_48 (fun v18 M19 =>
 (x_iret g hr rfl rfl dX11_shift_51)))))))))) (fun J3 hJ3 => (x_jn (fun (J20 : Option (Int32 × Mem)) => X J (fun q : Int32 × Mem => (some (Value.int q.1), q.2)) J20 37 [(0, .ref t), (1, .int a1), (2, .int a2), (3, .int a3), (4, .int a4)] [] M) (x_iconst g dX11_shift_37 kI_1
 (hJ3 (1 : Int32))) (fun J20 hJ20 => (x_if_eq g 37 dX11_shift_5 rfl
 (fun _ => (hJ20))
 (fun _ => (x_iload g 4 dX11_shift_8 rfl
 (x_jn (fun (J21 : Option (Int32 × Mem)) => X J (fun q : Int32 × Mem => (some (Value.int q.1), q.2)) J21 19 [(0, .ref t), (1, .int a1), (2, .int a2), (3, .int a3), (4, .int a4)] [] M) (x_aload_n g 0 dX11_shift_19 rfl rfl
 (x_iload_n g 1 dX11_shift_20 rfl rfl
 (x_iload_n g 2 dX11_shift_21 rfl rfl
 (x_aload_n g 0 dX11_shift_22 rfl rfl
 (x_getS g 1 fl_RX11_7 rfl ht dX11_shift_23
 (x_iconst g dX11_shift_26 kI_0
 (x_iald g (so_11_0 ht) dX11_shift_27
 (x_i2l g dX11_shift_28
 (x_lconst g dX11_shift_29 kL_1
 (x_lsub g dX11_shift_30
 (x_callVip (As := [.int a1, .int a2, .long (((M.1 (t + 1) (0 : Int32).toNatClampNeg).toInt64) - (1 : Int64))]) g mv_X11_wrongLog mi_X11_wrongLog lk_RX11_422 ht (fun b hb => kX11_wrongLog φ t a1 a2 (((M.1 (t + 1) (0 : Int32).toNatClampNeg).toInt64) - (1 : Int64)) M ht _ _ hb) rfl rfl hR ⟨Nat.le_of_ble_eq_true rfl, Nat.le_of_ble_eq_true rfl⟩ (Nat.le_of_ble_eq_true rfl) dX11_shift_31 (fun v22 =>
 (x_goto g 38 dX11_shift_34 rfl
 (hJ3 v22)))))))))))))) (fun J21 hJ21 => (x_if_eq g 19 dX11_shift_10 rfl
 (fun _ => (hJ21))
 (fun _ => (x_iload g 4 dX11_shift_13 rfl
 (x_iconst g dX11_shift_15 kI_1
 (x_icmp_ne g 37 dX11_shift_16 rfl
 (fun _ => (hJ20))
 (fun _ => (hJ21))))))))))))))))))))
def lX11_likest_32 (φ : Nat) (t : Nat) (x1 : Int32) (x2 : Int32) (M : Mem) : Nat → Int32 → Int32 → Option (Int32 × Mem)
  | 0, _, _ => none
  | n + 1, x4, x5 =>
    ixk (1 : Int32) 3900 (
 if (M.1 (t + 1) (1 : Int32).toNatClampNeg) ≤ x5 then
 bd (fX11_orNone t x4 M) fun v2 M3 =>
 some (v2, M3)
 else
 jn (fun (v4 : Int32) => lX11_likest_32 φ t x1 x2 M n v4 (x5 + 1)) (fun J5 => jn (J5 x5) (fun J6 => if x4 = (-1 : Int32) then
 J6
 else
 (fX11_agreeing φ t x1 x2 x5 (0 : Int32) M).bind fun v7 =>
 (fX11_agreeing φ t x1 x2 x4 (0 : Int32) M).bind fun v8 =>
 if v7 ≤ v8 then
 J5 x4
 else
 J6)))
theorem lX11_likest_32_s (φ : Nat) (t : Nat) (x1 : Int32) (x2 : Int32) (M : Mem) (n : Nat) (x4 : Int32) (x5 : Int32) : lX11_likest_32 φ t x1 x2 M (n + 1) x4 x5 =
    ixk (1 : Int32) 3900 (
 if (M.1 (t + 1) (1 : Int32).toNatClampNeg) ≤ x5 then
 bd (fX11_orNone t x4 M) fun v2 M3 =>
 some (v2, M3)
 else
 jn (fun (v4 : Int32) => lX11_likest_32 φ t x1 x2 M n v4 (x5 + 1)) (fun J5 => jn (J5 x5) (fun J6 => if x4 = (-1 : Int32) then
 J6
 else
 (fX11_agreeing φ t x1 x2 x5 (0 : Int32) M).bind fun v7 =>
 (fX11_agreeing φ t x1 x2 x4 (0 : Int32) M).bind fun v8 =>
 if v7 ≤ v8 then
 J5 x4
 else
 J6))) := rfl
theorem lX11_likest_32_0 (φ : Nat) (t : Nat) (x1 : Int32) (x2 : Int32) (M : Mem) (x4 : Int32) (x5 : Int32) : lX11_likest_32 φ t x1 x2 M 0 x4 x5 = none := rfl
set_option maxRecDepth 100000 in
set_option maxHeartbeats 4000000 in
theorem wlX11_likest_32 {J : JT} (g : Gd J cX11_likest RX11) (hr : Rt J (some .int)) (hR : (JR J).frames = 4 ∧ (JR J).locals = 93) (hn : Jn J = 6) (φ : Nat) (t : Nat) (x1 : Int32) (x2 : Int32) (M : Mem) (ht : isO 11 t) : ∀ (n : Nat) (x4 : Int32) (x5 : Int32), X J (fun q : Int32 × Mem => (some (Value.int q.1), q.2)) (lX11_likest_32 φ t x1 x2 M n x4 x5) 32 [(0, .ref t), (1, .int x1), (2, .int x2), (4, .int x4), (5, .int x5)] [] M := by
  intro n
  induction n with
  | zero =>
    intro x4 x5
    exact x_none
  | succ n ih =>
    intro x4 x5
    rw [lX11_likest_32_s]
    exact (x_iload g 4 dX11_likest_32 rfl
 (x_aload_n g 0 dX11_likest_34 rfl rfl
 (x_getS g 1 fl_RX11_7 rfl ht dX11_likest_35
 (x_iconst g dX11_likest_38 kI_1
 (x_iald g (so_11_0 ht) dX11_likest_39
 (x_icmp_ge g 80 dX11_likest_40 rfl
 (fun _ => (x_aload_n g 0 dX11_likest_80 rfl rfl
 (x_iload g 3 dX11_likest_81 rfl
 (x_callVi (As := [.int x4]) g mv_X11_orNone mi_X11_orNone lk_RX11_333 ht (fun b Mh_ hb => kX11_orNone t x4 M ht _ _ hb) rfl rfl hR ⟨Nat.le_of_ble_eq_true rfl, Nat.le_of_ble_eq_true rfl⟩ (Nat.le_of_ble_eq_true rfl) dX11_likest_83 (fun v2 M3 =>
 (x_iret g hr rfl rfl dX11_likest_86))))))
 (fun _ => (x_iload g 3 dX11_likest_43 rfl
 (x_iconst g dX11_likest_45 kI_m1
 (x_jn (fun (J5 : Int32 → Option (Int32 × Mem)) => ∀ (v4 : Int32), X J (fun q : Int32 × Mem => (some (Value.int q.1), q.2)) (J5 v4) 74 [(0, .ref t), (1, .int x1), (2, .int x2), (4, .int v4), (5, .int x5)] [] M) (fun v4 => (x_iinc (L' := [(5, .int (x5 + 1)), (0, .ref t), (1, .int x1), (2, .int x2), (4, .int v4)]) (v := (x5 + 1)) g 4 dX11_likest_74 rfl (by rw [kI_1]) hn (Nat.le_of_ble_eq_true rfl) rfl
 (x_goto g 32 dX11_likest_77 rfl
 (x_sub [1, 2, 3, 4, 0] rfl (ih v4 (x5 + 1)))))) (fun J5 hJ5 => (x_jn (fun (J6 : Option (Int32 × Mem)) => X J (fun q : Int32 × Mem => (some (Value.int q.1), q.2)) J6 70 [(0, .ref t), (1, .int x1), (2, .int x2), (5, .int x5)] [] M) (x_iload g 3 dX11_likest_70 rfl
 (x_istore (L' := [(4, .int x5), (0, .ref t), (1, .int x1), (2, .int x2), (5, .int x5)]) g dX11_likest_72 hn (Nat.le_of_ble_eq_true rfl) rfl
 (x_sub [1, 2, 3, 0, 4] rfl (hJ5 x5)))) (fun J6 hJ6 => (x_icmp_eq g 70 dX11_likest_46 rfl
 (fun _ => (x_sub [0, 1, 2, 4] rfl (hJ6)))
 (fun _ => (x_aload_n g 0 dX11_likest_49 rfl rfl
 (x_iload_n g 1 dX11_likest_50 rfl rfl
 (x_iload_n g 2 dX11_likest_51 rfl rfl
 (x_iload g 4 dX11_likest_52 rfl
 (x_iconst g dX11_likest_54 kI_0
 (x_callVip (As := [.int x1, .int x2, .int x5, .int (0 : Int32)]) g mv_X11_agreeing mi_X11_agreeing lk_RX11_436 ht (fun b hb => kX11_agreeing φ t x1 x2 x5 (0 : Int32) M ht _ _ hb) rfl rfl hR ⟨Nat.le_of_ble_eq_true rfl, Nat.le_of_ble_eq_true rfl⟩ (Nat.le_of_ble_eq_true rfl) dX11_likest_55 (fun v7 =>
 (x_aload_n g 0 dX11_likest_58 rfl rfl
 (x_iload_n g 1 dX11_likest_59 rfl rfl
 (x_iload_n g 2 dX11_likest_60 rfl rfl
 (x_iload g 3 dX11_likest_61 rfl
 (x_iconst g dX11_likest_63 kI_0
 (x_callVip (As := [.int x1, .int x2, .int x4, .int (0 : Int32)]) g mv_X11_agreeing mi_X11_agreeing lk_RX11_436 ht (fun b hb => kX11_agreeing φ t x1 x2 x4 (0 : Int32) M ht _ _ hb) rfl rfl hR ⟨Nat.le_of_ble_eq_true rfl, Nat.le_of_ble_eq_true rfl⟩ (Nat.le_of_ble_eq_true rfl) dX11_likest_64 (fun v8 =>
 (x_icmp_le g 74 dX11_likest_67 rfl
 (fun _ => (hJ5 x4))
 (fun _ => (x_sub [0, 1, 2, 4] rfl (hJ6)))))))))))))))))))))))))))))))))
def fX11_likest (φ : Nat) (t : Nat) (a1 : Int32) (a2 : Int32) (M : Mem) : Option (Int32 × Mem) :=
  ixk (0 : Int32) 3900 (
 (fX11_wrongLog φ t a1 a2 (((M.1 (t + 1) (0 : Int32).toNatClampNeg).toInt64) - (1 : Int64)) M).bind fun v1 =>
 if v1 ≤ 0 then
 lX11_likest_32 φ t a1 a2 M φ (-1 : Int32) (0 : Int32)
 else
 bd (fX11_refuse t v1 M) fun v9 M10 =>
 some (v9, M10))
set_option maxRecDepth 100000 in
set_option maxHeartbeats 4000000 in
theorem kX11_likest (φ : Nat) (t : Nat) (a1 : Int32) (a2 : Int32) (M : Mem) (ht : isO 11 t) (l : Launch) (G : GT) {b : (Int32 × Mem)} (hE : fX11_likest φ t a1 a2 M = some b) : Ok l G yX11_likest cX11_likest 6 (some .int) 4 93 [.ref t, .int a1, .int a2] M ((fun q : Int32 × Mem => (some (Value.int q.1), q.2)) b).1 ((fun q : Int32 × Mem => (some (Value.int q.1), q.2)) b).2 := by
  refine Ok.ofX (pj := (fun q : Int32 × Mem => (some (Value.int q.1), q.2))) (by decide) (Nat.le_of_ble_eq_true rfl) hE (fun J g hr hG hl hR hn => ?_)
  show X J (fun q : Int32 × Mem => (some (Value.int q.1), q.2)) (fX11_likest φ t a1 a2 M) 0 [(0, .ref t), (1, .int a1), (2, .int a2)] [] M
  unfold fX11_likest
  exact (x_aload_n g 0 dX11_likest_0 rfl rfl
 (x_iload_n g 1 dX11_likest_1 rfl rfl
 (x_iload_n g 2 dX11_likest_2 rfl rfl
 (x_aload_n g 0 dX11_likest_3 rfl rfl
 (x_getS g 1 fl_RX11_7 rfl ht dX11_likest_4
 (x_iconst g dX11_likest_7 kI_0
 (x_iald g (so_11_0 ht) dX11_likest_8
 (x_i2l g dX11_likest_9
 (x_lconst g dX11_likest_10 kL_1
 (x_lsub g dX11_likest_11
 (x_callVip (As := [.int a1, .int a2, .long (((M.1 (t + 1) (0 : Int32).toNatClampNeg).toInt64) - (1 : Int64))]) g mv_X11_wrongLog mi_X11_wrongLog lk_RX11_422 ht (fun b hb => kX11_wrongLog φ t a1 a2 (((M.1 (t + 1) (0 : Int32).toNatClampNeg).toInt64) - (1 : Int64)) M ht _ _ hb) rfl rfl hR ⟨Nat.le_of_ble_eq_true rfl, Nat.le_of_ble_eq_true rfl⟩ (Nat.le_of_ble_eq_true rfl) dX11_likest_12 (fun v1 =>
 (x_istore_n (L' := [(3, .int v1), (0, .ref t), (1, .int a1), (2, .int a2)]) g dX11_likest_15 rfl hn (Nat.le_of_ble_eq_true rfl) rfl
 (x_iload_n g 0 dX11_likest_16 rfl rfl
 (x_if_le g 26 dX11_likest_17 rfl
 (fun _ => (x_iconst g dX11_likest_26 kI_m1
 (x_istore (L' := [(4, .int (-1 : Int32)), (3, .int v1), (0, .ref t), (1, .int a1), (2, .int a2)]) g dX11_likest_27 hn (Nat.le_of_ble_eq_true rfl) rfl
 (x_iconst g dX11_likest_29 kI_0
 (x_istore (L' := [(5, .int (0 : Int32)), (4, .int (-1 : Int32)), (3, .int v1), (0, .ref t), (1, .int a1), (2, .int a2)]) g dX11_likest_30 hn (Nat.le_of_ble_eq_true rfl) rfl
 (x_sub [3, 4, 5, 1, 0] rfl (wlX11_likest_32 g hr hR hn  φ t a1 a2 M ht φ (-1 : Int32) (0 : Int32))))))))
 (fun _ => (x_aload_n g 1 dX11_likest_20 rfl rfl
 (x_iload_n g 0 dX11_likest_21 rfl rfl
 (x_callVi (As := [.int v1]) g mv_X11_refuse mi_X11_refuse lk_RX11_102 ht (fun b Mh_ hb => kX11_refuse t v1 M ht _ _ hb) rfl rfl hR ⟨Nat.le_of_ble_eq_true rfl, Nat.le_of_ble_eq_true rfl⟩ (Nat.le_of_ble_eq_true rfl) dX11_likest_22 (fun v9 M10 =>
 (x_iret g hr rfl rfl dX11_likest_25)))))))))))))))))))))
def lX11_draws_39 (φ : Nat) (t : Nat) (x1 : Int32) (x2 : Int32) : Nat → Int32 → Mem → Option (Int32 × Mem)
  | 0, _, _ => none
  | n + 1, x3, M =>
    ixk x2 4 (
 if (M.1 (t + 4) x2.toNatClampNeg) ≤ x3 then
 bd (fX11_gives t x3 M) fun v5 M6 =>
 some (v5, M6)
 else
 (fX11_rockAt φ t x1 x3 M).bind fun v7 =>
 if v7 = (-1 : Int32) then
 bd (fX11_gives t x3 M) fun v8 M9 =>
 some (v8, M9)
 else
 (fX11_rockAt φ t x1 x3 M).bind fun v10 =>
 ixk (((60 : Int32) * x2) + x3) 240 (nm (stL M (t + 5) (((60 : Int32) * x2) + x3).toNatClampNeg (v10.toInt64)) (fun M11 =>
 lX11_draws_39 φ t x1 x2 n (x3 + 1) M11)))
theorem lX11_draws_39_s (φ : Nat) (t : Nat) (x1 : Int32) (x2 : Int32) (n : Nat) (x3 : Int32) (M : Mem) : lX11_draws_39 φ t x1 x2 (n + 1) x3 M =
    ixk x2 4 (
 if (M.1 (t + 4) x2.toNatClampNeg) ≤ x3 then
 bd (fX11_gives t x3 M) fun v5 M6 =>
 some (v5, M6)
 else
 (fX11_rockAt φ t x1 x3 M).bind fun v7 =>
 if v7 = (-1 : Int32) then
 bd (fX11_gives t x3 M) fun v8 M9 =>
 some (v8, M9)
 else
 (fX11_rockAt φ t x1 x3 M).bind fun v10 =>
 ixk (((60 : Int32) * x2) + x3) 240 (nm (stL M (t + 5) (((60 : Int32) * x2) + x3).toNatClampNeg (v10.toInt64)) (fun M11 =>
 lX11_draws_39 φ t x1 x2 n (x3 + 1) M11))) := rfl
theorem lX11_draws_39_0 (φ : Nat) (t : Nat) (x1 : Int32) (x2 : Int32) (x3 : Int32) (M : Mem) : lX11_draws_39 φ t x1 x2 0 x3 M = none := rfl
set_option maxRecDepth 100000 in
set_option maxHeartbeats 4000000 in
theorem wlX11_draws_39 {J : JT} (g : Gd J cX11_draws RX11) (hr : Rt J (some .int)) (hR : (JR J).frames = 3 ∧ (JR J).locals = 66) (hn : Jn J = 4) (φ : Nat) (t : Nat) (x1 : Int32) (x2 : Int32) (ht : isO 11 t) : ∀ (n : Nat) (x3 : Int32) (M : Mem), X J (fun q : Int32 × Mem => (some (Value.int q.1), q.2)) (lX11_draws_39 φ t x1 x2 n x3 M) 39 [(0, .ref t), (1, .int x1), (2, .int x2), (3, .int x3)] [] M := by
  intro n
  induction n with
  | zero =>
    intro x3 M
    exact x_none
  | succ n ih =>
    intro x3 M
    rw [lX11_draws_39_s]
    exact (x_iload_n g 3 dX11_draws_39 rfl rfl
 (x_aload_n g 0 dX11_draws_40 rfl rfl
 (x_getS g 4 fl_RX11_24 rfl ht dX11_draws_41
 (x_iload_n g 2 dX11_draws_44 rfl rfl
 (x_iald g (so_11_6 ht) dX11_draws_45
 (x_icmp_ge g 83 dX11_draws_46 rfl
 (fun _ => (x_aload_n g 0 dX11_draws_83 rfl rfl
 (x_iload_n g 3 dX11_draws_84 rfl rfl
 (x_callVi (As := [.int x3]) g mv_X11_gives mi_X11_gives lk_RX11_106 ht (fun b Mh_ hb => kX11_gives t x3 M ht _ _ hb) rfl rfl hR ⟨Nat.le_of_ble_eq_true rfl, Nat.le_of_ble_eq_true rfl⟩ (Nat.le_of_ble_eq_true rfl) dX11_draws_85 (fun v5 M6 =>
 (x_iret g hr rfl rfl dX11_draws_88))))))
 (fun _ => (x_aload_n g 0 dX11_draws_49 rfl rfl
 (x_iload_n g 1 dX11_draws_50 rfl rfl
 (x_iload_n g 3 dX11_draws_51 rfl rfl
 (x_callVip (As := [.int x1, .int x3]) g mv_X11_rockAt mi_X11_rockAt lk_RX11_433 ht (fun b hb => kX11_rockAt φ t x1 x3 M ht _ _ hb) rfl rfl hR ⟨Nat.le_of_ble_eq_true rfl, Nat.le_of_ble_eq_true rfl⟩ (Nat.le_of_ble_eq_true rfl) dX11_draws_52 (fun v7 =>
 (x_iconst g dX11_draws_55 kI_m1
 (x_icmp_eq g 83 dX11_draws_56 rfl
 (fun _ => (x_aload_n g 0 dX11_draws_83 rfl rfl
 (x_iload_n g 3 dX11_draws_84 rfl rfl
 (x_callVi (As := [.int x3]) g mv_X11_gives mi_X11_gives lk_RX11_106 ht (fun b Mh_ hb => kX11_gives t x3 M ht _ _ hb) rfl rfl hR ⟨Nat.le_of_ble_eq_true rfl, Nat.le_of_ble_eq_true rfl⟩ (Nat.le_of_ble_eq_true rfl) dX11_draws_85 (fun v8 M9 =>
 (x_iret g hr rfl rfl dX11_draws_88))))))
 (fun _ => (x_aload_n g 0 dX11_draws_59 rfl rfl
 (x_getS g 5 fl_RX11_27 rfl ht dX11_draws_60
 (x_bipush g dX11_draws_63 kB_60
 (x_iload_n g 2 dX11_draws_65 rfl rfl
 (x_imul g dX11_draws_66
 (x_iload_n g 3 dX11_draws_67 rfl rfl
 (x_iadd g dX11_draws_68
 (x_aload_n g 0 dX11_draws_69 rfl rfl
 (x_iload_n g 1 dX11_draws_70 rfl rfl
 (x_iload_n g 3 dX11_draws_71 rfl rfl
 (x_callVip (As := [.int x1, .int x3]) g mv_X11_rockAt mi_X11_rockAt lk_RX11_433 ht (fun b hb => kX11_rockAt φ t x1 x3 M ht _ _ hb) rfl rfl hR ⟨Nat.le_of_ble_eq_true rfl, Nat.le_of_ble_eq_true rfl⟩ (Nat.le_of_ble_eq_true rfl) dX11_draws_72 (fun v10 =>
 (x_i2l g dX11_draws_75
 (x_last g (so_11_7 ht) dX11_draws_76 (x_nmM (fun M11 =>
 (x_iinc (L' := [(3, .int (x3 + 1)), (0, .ref t), (1, .int x1), (2, .int x2)]) (v := (x3 + 1)) g 3 dX11_draws_77 rfl (by rw [kI_1]) hn (Nat.le_of_ble_eq_true rfl) rfl
 (x_goto g 39 dX11_draws_80 rfl
 (x_sub [1, 2, 3, 0] rfl (ih (x3 + 1) M11)))))))))))))))))))))))))))))))))))
def fX11_draws (φ : Nat) (t : Nat) (a1 : Int32) (a2 : Int32) (M : Mem) : Option (Int32 × Mem) :=
  (fX11_isHole t a1 M).bind fun v1 =>
 if v1 = 0 then
 bd (fX11_refuse t (1 : Int32) M) fun v2 M3 =>
 some (v2, M3)
 else
 (fX11_isTray a2 M).bind fun v4 =>
 if v4 = 0 then
 bd (fX11_refuse t (1 : Int32) M) fun v14 M15 =>
 some (v14, M15)
 else
 ixk a2 4 (
 if (M.1 (t + 4) a2.toNatClampNeg) = (-1 : Int32) then
 bd (fX11_refuse t (2 : Int32) M) fun v12 M13 =>
 some (v12, M13)
 else
 lX11_draws_39 φ t a1 a2 φ (0 : Int32) M)
set_option maxRecDepth 100000 in
set_option maxHeartbeats 4000000 in
theorem kX11_draws (φ : Nat) (t : Nat) (a1 : Int32) (a2 : Int32) (M : Mem) (ht : isO 11 t) (l : Launch) (G : GT) {b : (Int32 × Mem)} (hE : fX11_draws φ t a1 a2 M = some b) : Ok l G yX11_draws cX11_draws 4 (some .int) 3 66 [.ref t, .int a1, .int a2] M ((fun q : Int32 × Mem => (some (Value.int q.1), q.2)) b).1 ((fun q : Int32 × Mem => (some (Value.int q.1), q.2)) b).2 := by
  refine Ok.ofX (pj := (fun q : Int32 × Mem => (some (Value.int q.1), q.2))) (by decide) (Nat.le_of_ble_eq_true rfl) hE (fun J g hr hG hl hR hn => ?_)
  show X J (fun q : Int32 × Mem => (some (Value.int q.1), q.2)) (fX11_draws φ t a1 a2 M) 0 [(0, .ref t), (1, .int a1), (2, .int a2)] [] M
  unfold fX11_draws
  exact (x_aload_n g 0 dX11_draws_0 rfl rfl
 (x_iload_n g 1 dX11_draws_1 rfl rfl
 (x_callVip (As := [.int a1]) g mv_X11_isHole mi_X11_isHole lk_RX11_302 ht (fun b hb => kX11_isHole t a1 M ht _ _ hb) rfl rfl hR ⟨Nat.le_of_ble_eq_true rfl, Nat.le_of_ble_eq_true rfl⟩ (Nat.le_of_ble_eq_true rfl) dX11_draws_2 (fun v1 =>
 (x_if_eq g 15 dX11_draws_5 rfl
 (fun _ => (x_aload_n g 0 dX11_draws_15 rfl rfl
 (x_iconst g dX11_draws_16 kI_1
 (x_callVi (As := [.int (1 : Int32)]) g mv_X11_refuse mi_X11_refuse lk_RX11_102 ht (fun b Mh_ hb => kX11_refuse t (1 : Int32) M ht _ _ hb) rfl rfl hR ⟨Nat.le_of_ble_eq_true rfl, Nat.le_of_ble_eq_true rfl⟩ (Nat.le_of_ble_eq_true rfl) dX11_draws_17 (fun v2 M3 =>
 (x_iret g hr rfl rfl dX11_draws_20))))))
 (fun _ => (x_iload_n g 2 dX11_draws_8 rfl rfl
 (x_callSip (As := [.int a2]) g mv_X11_isTray ms_X11_isTray lk_RX11_113 (fun b hb => kX11_isTray a2 M _ _ hb) rfl rfl hR ⟨Nat.le_of_ble_eq_true rfl, Nat.le_of_ble_eq_true rfl⟩ (Nat.le_of_ble_eq_true rfl) dX11_draws_9 (fun v4 =>
 (x_if_ne g 21 dX11_draws_12 rfl
 (fun _ => (x_aload_n g 0 dX11_draws_21 rfl rfl
 (x_getS g 4 fl_RX11_24 rfl ht dX11_draws_22
 (x_iload_n g 2 dX11_draws_25 rfl rfl
 (x_iald g (so_11_6 ht) dX11_draws_26
 (x_iconst g dX11_draws_27 kI_m1
 (x_icmp_ne g 37 dX11_draws_28 rfl
 (fun _ => (x_iconst g dX11_draws_37 kI_0
 (x_istore_n (L' := [(3, .int (0 : Int32)), (0, .ref t), (1, .int a1), (2, .int a2)]) g dX11_draws_38 rfl hn (Nat.le_of_ble_eq_true rfl) rfl
 (x_sub [1, 2, 3, 0] rfl (wlX11_draws_39 g hr hR hn  φ t a1 a2 ht φ (0 : Int32) M)))))
 (fun _ => (x_aload_n g 0 dX11_draws_31 rfl rfl
 (x_iconst g dX11_draws_32 kI_2
 (x_callVi (As := [.int (2 : Int32)]) g mv_X11_refuse mi_X11_refuse lk_RX11_102 ht (fun b Mh_ hb => kX11_refuse t (2 : Int32) M ht _ _ hb) rfl rfl hR ⟨Nat.le_of_ble_eq_true rfl, Nat.le_of_ble_eq_true rfl⟩ (Nat.le_of_ble_eq_true rfl) dX11_draws_33 (fun v12 M13 =>
 (x_iret g hr rfl rfl dX11_draws_36)))))))))))))
 (fun _ => (x_aload_n g 0 dX11_draws_15 rfl rfl
 (x_iconst g dX11_draws_16 kI_1
 (x_callVi (As := [.int (1 : Int32)]) g mv_X11_refuse mi_X11_refuse lk_RX11_102 ht (fun b Mh_ hb => kX11_refuse t (1 : Int32) M ht _ _ hb) rfl rfl hR ⟨Nat.le_of_ble_eq_true rfl, Nat.le_of_ble_eq_true rfl⟩ (Nat.le_of_ble_eq_true rfl) dX11_draws_17 (fun v14 M15 =>
 (x_iret g hr rfl rfl dX11_draws_20))))))))))))))))
def fX11_wrongLay (t : Nat) (a1 : Int32) (a2 : Int32) (a3 : Int32) (M : Mem) : Option Int32 :=
  (fX11_layersOf t a1 M).bind fun v1 =>
 jn ((fX11_layersOf t a1 M).bind fun v3 =>
 if v3 = (12 : Int32) then
 some (4 : Int32)
 else
 some (0 : Int32)) (fun J2 => if v1 ≤ 0 then
 J2
 else
 (fX11_rockOf t a1 (0 : Int32) M).bind fun v4 =>
 if v4 = a2 then
 (fX11_thickOf t a1 (0 : Int32) M).bind fun v5 =>
 if (v5 + a3) ≤ (999 : Int32) then
 some (0 : Int32)
 else
 some (7 : Int32)
 else
 J2)
set_option maxRecDepth 100000 in
set_option maxHeartbeats 4000000 in
theorem kX11_wrongLay (t : Nat) (a1 : Int32) (a2 : Int32) (a3 : Int32) (M : Mem) (ht : isO 11 t) (l : Launch) (G : GT) {b : Int32} (hE : fX11_wrongLay t a1 a2 a3 M = some b) : Ok l G yX11_wrongLay cX11_wrongLay 4 (some .int) 2 42 [.ref t, .int a1, .int a2, .int a3] M ((fun b : Int32 => (some (Value.int b), M)) b).1 ((fun b : Int32 => (some (Value.int b), M)) b).2 := by
  refine Ok.ofX (pj := (fun b : Int32 => (some (Value.int b), M))) (by decide) (Nat.le_of_ble_eq_true rfl) hE (fun J g hr hG hl hR hn => ?_)
  show X J (fun b : Int32 => (some (Value.int b), M)) (fX11_wrongLay t a1 a2 a3 M) 0 [(0, .ref t), (1, .int a1), (2, .int a2), (3, .int a3)] [] M
  unfold fX11_wrongLay
  exact (x_aload_n g 0 dX11_wrongLay_0 rfl rfl
 (x_iload_n g 1 dX11_wrongLay_1 rfl rfl
 (x_callVip (As := [.int a1]) g mv_X11_layersOf mi_X11_layersOf lk_RX11_305 ht (fun b hb => kX11_layersOf t a1 M ht _ _ hb) rfl rfl hR ⟨Nat.le_of_ble_eq_true rfl, Nat.le_of_ble_eq_true rfl⟩ (Nat.le_of_ble_eq_true rfl) dX11_wrongLay_2 (fun v1 =>
 (x_jn (fun (J2 : Option Int32) => X J (fun b : Int32 => (some (Value.int b), M)) J2 39 [(0, .ref t), (1, .int a1)] [] M) (x_aload_n g 0 dX11_wrongLay_39 rfl rfl
 (x_iload_n g 1 dX11_wrongLay_40 rfl rfl
 (x_callVip (As := [.int a1]) g mv_X11_layersOf mi_X11_layersOf lk_RX11_305 ht (fun b hb => kX11_layersOf t a1 M ht _ _ hb) rfl rfl hR ⟨Nat.le_of_ble_eq_true rfl, Nat.le_of_ble_eq_true rfl⟩ (Nat.le_of_ble_eq_true rfl) dX11_wrongLay_41 (fun v3 =>
 (x_bipush g dX11_wrongLay_44 kB_12
 (x_icmp_ne g 53 dX11_wrongLay_46 rfl
 (fun _ => (x_iconst g dX11_wrongLay_53 kI_0
 (x_iret g hr rfl rfl dX11_wrongLay_54)))
 (fun _ => (x_iconst g dX11_wrongLay_49 kI_4
 (x_goto g 54 dX11_wrongLay_50 rfl
 (x_iret g hr rfl rfl dX11_wrongLay_54)))))))))) (fun J2 hJ2 => (x_if_le g 39 dX11_wrongLay_5 rfl
 (fun _ => (x_sub [0, 1] rfl (hJ2)))
 (fun _ => (x_aload_n g 0 dX11_wrongLay_8 rfl rfl
 (x_iload_n g 1 dX11_wrongLay_9 rfl rfl
 (x_iconst g dX11_wrongLay_10 kI_0
 (x_callVip (As := [.int a1, .int (0 : Int32)]) g mv_X11_rockOf mi_X11_rockOf lk_RX11_311 ht (fun b hb => kX11_rockOf t a1 (0 : Int32) M ht _ _ hb) rfl rfl hR ⟨Nat.le_of_ble_eq_true rfl, Nat.le_of_ble_eq_true rfl⟩ (Nat.le_of_ble_eq_true rfl) dX11_wrongLay_11 (fun v4 =>
 (x_iload_n g 2 dX11_wrongLay_14 rfl rfl
 (x_icmp_ne g 39 dX11_wrongLay_15 rfl
 (fun _ => (x_sub [0, 1] rfl (hJ2)))
 (fun _ => (x_aload_n g 0 dX11_wrongLay_18 rfl rfl
 (x_iload_n g 1 dX11_wrongLay_19 rfl rfl
 (x_iconst g dX11_wrongLay_20 kI_0
 (x_callVip (As := [.int a1, .int (0 : Int32)]) g mv_X11_thickOf mi_X11_thickOf lk_RX11_290 ht (fun b hb => kX11_thickOf t a1 (0 : Int32) M ht _ _ hb) rfl rfl hR ⟨Nat.le_of_ble_eq_true rfl, Nat.le_of_ble_eq_true rfl⟩ (Nat.le_of_ble_eq_true rfl) dX11_wrongLay_21 (fun v5 =>
 (x_iload_n g 3 dX11_wrongLay_24 rfl rfl
 (x_iadd g dX11_wrongLay_25
 (x_sipush g dX11_wrongLay_26 kS_999
 (x_icmp_le g 37 dX11_wrongLay_29 rfl
 (fun _ => (x_iconst g dX11_wrongLay_37 kI_0
 (x_iret g hr rfl rfl dX11_wrongLay_38)))
 (fun _ => (x_bipush g dX11_wrongLay_32 kB_7
 (x_goto g 38 dX11_wrongLay_34 rfl
 (x_iret g hr rfl rfl dX11_wrongLay_38)))))))))))))))))))))))))))))
def lX11_lays_51 (K88 : Mem → Option (Unit × Mem)) (t : Nat) (x2 : Int32) (x3 : Int32) (x4 : Int32) : Nat → Int32 → Mem → Option (Unit × Mem)
  | 0, _, _ => none
  | n + 1, x5, M =>
    if x5 < 0 then
 K88 M
 else
 ixk ((x4 + (3 : Int32)) + x5) 3900 (
 ixk (((x4 + (3 : Int32)) + (2 : Int32)) + x5) 3900 (nm (stI M (t + 1) (((x4 + (3 : Int32)) + (2 : Int32)) + x5).toNatClampNeg (M.1 (t + 1) ((x4 + (3 : Int32)) + x5).toNatClampNeg)) (fun M6 =>
 lX11_lays_51 K88 t x2 x3 x4 n (x5 + (-1)) M6)))
theorem lX11_lays_51_s (K88 : Mem → Option (Unit × Mem)) (t : Nat) (x2 : Int32) (x3 : Int32) (x4 : Int32) (n : Nat) (x5 : Int32) (M : Mem) : lX11_lays_51 K88 t x2 x3 x4 (n + 1) x5 M =
    if x5 < 0 then
 K88 M
 else
 ixk ((x4 + (3 : Int32)) + x5) 3900 (
 ixk (((x4 + (3 : Int32)) + (2 : Int32)) + x5) 3900 (nm (stI M (t + 1) (((x4 + (3 : Int32)) + (2 : Int32)) + x5).toNatClampNeg (M.1 (t + 1) ((x4 + (3 : Int32)) + x5).toNatClampNeg)) (fun M6 =>
 lX11_lays_51 K88 t x2 x3 x4 n (x5 + (-1)) M6))) := rfl
theorem lX11_lays_51_0 (K88 : Mem → Option (Unit × Mem)) (t : Nat) (x2 : Int32) (x3 : Int32) (x4 : Int32) (x5 : Int32) (M : Mem) : lX11_lays_51 K88 t x2 x3 x4 0 x5 M = none := rfl
set_option maxRecDepth 100000 in
set_option maxHeartbeats 4000000 in
theorem wlX11_lays_51 {J : JT} (g : Gd J cX11_lays RX11) (hr : Rt J none) (hR : (JR J).frames = 2 ∧ (JR J).locals = 42) (hn : Jn J = 6) (K88 : Mem → Option (Unit × Mem)) (t : Nat) (x2 : Int32) (x3 : Int32) (x4 : Int32) (ht : isO 11 t) (hK88 : ∀ (M : Mem), X J (fun q : Unit × Mem => ((none : Option Value), q.2)) (K88 M) 88 [(0, .ref t), (2, .int x2), (3, .int x3), (4, .int x4)] [] M) : ∀ (n : Nat) (x5 : Int32) (M : Mem), X J (fun q : Unit × Mem => ((none : Option Value), q.2)) (lX11_lays_51 K88 t x2 x3 x4 n x5 M) 51 [(0, .ref t), (2, .int x2), (3, .int x3), (4, .int x4), (5, .int x5)] [] M := by
  intro n
  induction n with
  | zero =>
    intro x5 M
    exact x_none
  | succ n ih =>
    intro x5 M
    rw [lX11_lays_51_s]
    exact (x_iload g 4 dX11_lays_51 rfl
 (x_if_lt g 88 dX11_lays_53 rfl
 (fun _ => (x_sub [0, 1, 2, 3] rfl (hK88 M)))
 (fun _ => (x_aload_n g 0 dX11_lays_56 rfl rfl
 (x_getS g 1 fl_RX11_7 rfl ht dX11_lays_57
 (x_iload g 3 dX11_lays_60 rfl
 (x_iconst g dX11_lays_62 kI_3
 (x_iadd g dX11_lays_63
 (x_iconst g dX11_lays_64 kI_2
 (x_iadd g dX11_lays_65
 (x_iload g 4 dX11_lays_66 rfl
 (x_iadd g dX11_lays_68
 (x_aload_n g 0 dX11_lays_69 rfl rfl
 (x_getS g 1 fl_RX11_7 rfl ht dX11_lays_70
 (x_iload g 3 dX11_lays_73 rfl
 (x_iconst g dX11_lays_75 kI_3
 (x_iadd g dX11_lays_76
 (x_iload g 4 dX11_lays_77 rfl
 (x_iadd g dX11_lays_79
 (x_iald g (so_11_0 ht) dX11_lays_80
 (x_iast g (so_11_0 ht) dX11_lays_81 (x_nmM (fun M6 =>
 (x_iinc (L' := [(5, .int (x5 + (-1))), (0, .ref t), (2, .int x2), (3, .int x3), (4, .int x4)]) (v := (x5 + (-1))) g 4 dX11_lays_82 rfl (by rw [kI_m1]) hn (Nat.le_of_ble_eq_true rfl) rfl
 (x_goto g 51 dX11_lays_85 rfl
 (x_sub [1, 2, 3, 4, 0] rfl (ih (x5 + (-1)) M6)))))))))))))))))))))))))))
def fX11_lays (φ : Nat) (t : Nat) (a1 : Int32) (a2 : Int32) (a3 : Int32) (M : Mem) : Option (Unit × Mem) :=
  (fX11_holeRow a1 M).bind fun v1 =>
 (fX11_layersOf t a1 M).bind fun v2 =>
 jn ((fX11_layersOf t a1 M).bind fun v4 =>
 nm (((2 : Int32) * v4) - (1 : Int32)) (fun v5 =>
 lX11_lays_51 (fun (M7 : Mem) => ixk (v1 + (3 : Int32)) 3900 (nm (stI M7 (t + 1) (v1 + (3 : Int32)).toNatClampNeg a2) (fun M8 =>
 ixk ((v1 + (3 : Int32)) + (1 : Int32)) 3900 (nm (stI M8 (t + 1) ((v1 + (3 : Int32)) + (1 : Int32)).toNatClampNeg a3) (fun M9 =>
 ixk (v1 + (2 : Int32)) 3900 (
 ixk (v1 + (2 : Int32)) 3900 (nm (stI M9 (t + 1) (v1 + (2 : Int32)).toNatClampNeg ((M9.1 (t + 1) (v1 + (2 : Int32)).toNatClampNeg) + (1 : Int32))) (fun M10 =>
 some ((), M10))))))))) t a2 a3 v1 φ v5 M)) (fun J3 => if v2 ≤ 0 then
 J3
 else
 (fX11_rockOf t a1 (0 : Int32) M).bind fun v11 =>
 if v11 = a2 then
 ixk ((v1 + (3 : Int32)) + (1 : Int32)) 3900 (
 ixk ((v1 + (3 : Int32)) + (1 : Int32)) 3900 (nm (stI M (t + 1) ((v1 + (3 : Int32)) + (1 : Int32)).toNatClampNeg ((M.1 (t + 1) ((v1 + (3 : Int32)) + (1 : Int32)).toNatClampNeg) + a3)) (fun M12 =>
 some ((), M12))))
 else
 J3)
set_option maxRecDepth 100000 in
set_option maxHeartbeats 4000000 in
theorem kX11_lays (φ : Nat) (t : Nat) (a1 : Int32) (a2 : Int32) (a3 : Int32) (M : Mem) (ht : isO 11 t) (l : Launch) (G : GT) {b : (Unit × Mem)} (hE : fX11_lays φ t a1 a2 a3 M = some b) : Ok l G yX11_lays cX11_lays 6 none 2 42 [.ref t, .int a1, .int a2, .int a3] M ((fun q : Unit × Mem => ((none : Option Value), q.2)) b).1 ((fun q : Unit × Mem => ((none : Option Value), q.2)) b).2 := by
  refine Ok.ofX (pj := (fun q : Unit × Mem => ((none : Option Value), q.2))) (by decide) (Nat.le_of_ble_eq_true rfl) hE (fun J g hr hG hl hR hn => ?_)
  show X J (fun q : Unit × Mem => ((none : Option Value), q.2)) (fX11_lays φ t a1 a2 a3 M) 0 [(0, .ref t), (1, .int a1), (2, .int a2), (3, .int a3)] [] M
  unfold fX11_lays
  exact (x_iload_n g 1 dX11_lays_0 rfl rfl
 (x_callSip (As := [.int a1]) g mv_X11_holeRow ms_X11_holeRow lk_RX11_280 (fun b hb => kX11_holeRow a1 M _ _ hb) rfl rfl hR ⟨Nat.le_of_ble_eq_true rfl, Nat.le_of_ble_eq_true rfl⟩ (Nat.le_of_ble_eq_true rfl) dX11_lays_1 (fun v1 =>
 (x_istore (L' := [(4, .int v1), (0, .ref t), (1, .int a1), (2, .int a2), (3, .int a3)]) g dX11_lays_4 hn (Nat.le_of_ble_eq_true rfl) rfl
 (x_aload_n g 1 dX11_lays_6 rfl rfl
 (x_iload_n g 2 dX11_lays_7 rfl rfl
 (x_callVip (As := [.int a1]) g mv_X11_layersOf mi_X11_layersOf lk_RX11_305 ht (fun b hb => kX11_layersOf t a1 M ht _ _ hb) rfl rfl hR ⟨Nat.le_of_ble_eq_true rfl, Nat.le_of_ble_eq_true rfl⟩ (Nat.le_of_ble_eq_true rfl) dX11_lays_8 (fun v2 =>
 (x_jn (fun (J3 : Option (Unit × Mem)) => X J (fun q : Unit × Mem => ((none : Option Value), q.2)) J3 40 [(0, .ref t), (1, .int a1), (2, .int a2), (3, .int a3), (4, .int v1)] [] M) (x_iconst g dX11_lays_40 kI_2
 (x_aload_n g 0 dX11_lays_41 rfl rfl
 (x_iload_n g 1 dX11_lays_42 rfl rfl
 (x_callVip (As := [.int a1]) g mv_X11_layersOf mi_X11_layersOf lk_RX11_305 ht (fun b hb => kX11_layersOf t a1 M ht _ _ hb) rfl rfl hR ⟨Nat.le_of_ble_eq_true rfl, Nat.le_of_ble_eq_true rfl⟩ (Nat.le_of_ble_eq_true rfl) dX11_lays_43 (fun v4 =>
 (x_imul g dX11_lays_46
 (x_iconst g dX11_lays_47 kI_1
 (x_isub g dX11_lays_48
 (x_nmI (fun v5 => (x_istore (L' := [(5, .int v5), (0, .ref t), (1, .int a1), (2, .int a2), (3, .int a3), (4, .int v1)]) g dX11_lays_49 hn (Nat.le_of_ble_eq_true rfl) rfl
 (x_sub [1, 3, 4, 5, 0] rfl (wlX11_lays_51 g hr hR hn _ t a2 a3 v1 ht
 (fun M7 => by exact (x_aload_n g 0 dX11_lays_88 rfl rfl
 (x_getS g 1 fl_RX11_7 rfl ht dX11_lays_89
 (x_iload g 3 dX11_lays_92 rfl
 (x_iconst g dX11_lays_94 kI_3
 (x_iadd g dX11_lays_95
 (x_iload_n g 1 dX11_lays_96 rfl rfl
 (x_iast g (so_11_0 ht) dX11_lays_97 (x_nmM (fun M8 =>
 (x_aload_n g 0 dX11_lays_98 rfl rfl
 (x_getS g 1 fl_RX11_7 rfl ht dX11_lays_99
 (x_iload g 3 dX11_lays_102 rfl
 (x_iconst g dX11_lays_104 kI_3
 (x_iadd g dX11_lays_105
 (x_iconst g dX11_lays_106 kI_1
 (x_iadd g dX11_lays_107
 (x_iload_n g 2 dX11_lays_108 rfl rfl
 (x_iast g (so_11_0 ht) dX11_lays_109 (x_nmM (fun M9 =>
 (x_aload_n g 0 dX11_lays_110 rfl rfl
 (x_getS g 1 fl_RX11_7 rfl ht dX11_lays_111
 (x_iload g 3 dX11_lays_114 rfl
 (x_iconst g dX11_lays_116 kI_2
 (x_iadd g dX11_lays_117
 (x_dup2 g dX11_lays_118 rfl rfl
 (x_iald g (so_11_0 ht) dX11_lays_119
 (x_iconst g dX11_lays_120 kI_1
 (x_iadd g dX11_lays_121
 (x_iast g (so_11_0 ht) dX11_lays_122 (x_nmM (fun M10 =>
 (x_vret g hr rfl dX11_lays_123)))))))))))))))))))))))))))))))))) φ v5 M))))))))))))) (fun J3 hJ3 => (x_if_le g 40 dX11_lays_11 rfl
 (fun _ => (x_sub [1, 2, 3, 4, 0] rfl (hJ3)))
 (fun _ => (x_aload_n g 1 dX11_lays_14 rfl rfl
 (x_iload_n g 2 dX11_lays_15 rfl rfl
 (x_iconst g dX11_lays_16 kI_0
 (x_callVip (As := [.int a1, .int (0 : Int32)]) g mv_X11_rockOf mi_X11_rockOf lk_RX11_311 ht (fun b hb => kX11_rockOf t a1 (0 : Int32) M ht _ _ hb) rfl rfl hR ⟨Nat.le_of_ble_eq_true rfl, Nat.le_of_ble_eq_true rfl⟩ (Nat.le_of_ble_eq_true rfl) dX11_lays_17 (fun v11 =>
 (x_iload_n g 3 dX11_lays_20 rfl rfl
 (x_icmp_ne g 40 dX11_lays_21 rfl
 (fun _ => (x_sub [1, 2, 3, 4, 0] rfl (hJ3)))
 (fun _ => (x_aload_n g 1 dX11_lays_24 rfl rfl
 (x_getS g 1 fl_RX11_7 rfl ht dX11_lays_25
 (x_iload g 0 dX11_lays_28 rfl
 (x_iconst g dX11_lays_30 kI_3
 (x_iadd g dX11_lays_31
 (x_iconst g dX11_lays_32 kI_1
 (x_iadd g dX11_lays_33
 (x_dup2 g dX11_lays_34 rfl rfl
 (x_iald g (so_11_0 ht) dX11_lays_35
 (x_iload_n g 4 dX11_lays_36 rfl rfl
 (x_iadd g dX11_lays_37
 (x_iast g (so_11_0 ht) dX11_lays_38 (x_nmM (fun M12 =>
 (x_vret g hr rfl dX11_lays_39)))))))))))))))))))))))))))))))))))
def fX11_lay (φ : Nat) (t : Nat) (a1 : Int32) (a2 : Int32) (a3 : Int32) (M : Mem) : Option (Int32 × Mem) :=
  (fX11_isHole t a1 M).bind fun v1 =>
 if v1 = 0 then
 bd (fX11_refuse t (1 : Int32) M) fun v2 M3 =>
 some (v2, M3)
 else
 (fX11_isRock t (a2.toInt64) M).bind fun v4 =>
 if v4 = 0 then
 bd (fX11_refuse t (1 : Int32) M) fun v5 M6 =>
 some (v5, M6)
 else
 (fX11_isFrom (a3.toInt64) (1 : Int64) (99 : Int64) M).bind fun v7 =>
 if v7 = 0 then
 bd (fX11_refuse t (1 : Int32) M) fun v16 M17 =>
 some (v16, M17)
 else
 (fX11_wrongLay t a1 a2 a3 M).bind fun v8 =>
 if v8 ≤ 0 then
 bd (fX11_lays φ t a1 a2 a3 M) fun vu9 M10 =>
 (fX11_layersOf t a1 M10).bind fun v11 =>
 bd (fX11_gives t v11 M10) fun v12 M13 =>
 some (v12, M13)
 else
 bd (fX11_refuse t v8 M) fun v14 M15 =>
 some (v14, M15)
set_option maxRecDepth 100000 in
set_option maxHeartbeats 4000000 in
theorem kX11_lay (φ : Nat) (t : Nat) (a1 : Int32) (a2 : Int32) (a3 : Int32) (M : Mem) (ht : isO 11 t) (l : Launch) (G : GT) {b : (Int32 × Mem)} (hE : fX11_lay φ t a1 a2 a3 M = some b) : Ok l G yX11_lay cX11_lay 5 (some .int) 3 67 [.ref t, .int a1, .int a2, .int a3] M ((fun q : Int32 × Mem => (some (Value.int q.1), q.2)) b).1 ((fun q : Int32 × Mem => (some (Value.int q.1), q.2)) b).2 := by
  refine Ok.ofX (pj := (fun q : Int32 × Mem => (some (Value.int q.1), q.2))) (by decide) (Nat.le_of_ble_eq_true rfl) hE (fun J g hr hG hl hR hn => ?_)
  show X J (fun q : Int32 × Mem => (some (Value.int q.1), q.2)) (fX11_lay φ t a1 a2 a3 M) 0 [(0, .ref t), (1, .int a1), (2, .int a2), (3, .int a3)] [] M
  unfold fX11_lay
  exact (x_aload_n g 0 dX11_lay_0 rfl rfl
 (x_iload_n g 1 dX11_lay_1 rfl rfl
 (x_callVip (As := [.int a1]) g mv_X11_isHole mi_X11_isHole lk_RX11_302 ht (fun b hb => kX11_isHole t a1 M ht _ _ hb) rfl rfl hR ⟨Nat.le_of_ble_eq_true rfl, Nat.le_of_ble_eq_true rfl⟩ (Nat.le_of_ble_eq_true rfl) dX11_lay_2 (fun v1 =>
 (x_if_eq g 29 dX11_lay_5 rfl
 (fun _ => (x_aload_n g 0 dX11_lay_29 rfl rfl
 (x_iconst g dX11_lay_30 kI_1
 (x_callVi (As := [.int (1 : Int32)]) g mv_X11_refuse mi_X11_refuse lk_RX11_102 ht (fun b Mh_ hb => kX11_refuse t (1 : Int32) M ht _ _ hb) rfl rfl hR ⟨Nat.le_of_ble_eq_true rfl, Nat.le_of_ble_eq_true rfl⟩ (Nat.le_of_ble_eq_true rfl) dX11_lay_31 (fun v2 M3 =>
 (x_iret g hr rfl rfl dX11_lay_34))))))
 (fun _ => (x_aload_n g 0 dX11_lay_8 rfl rfl
 (x_iload_n g 2 dX11_lay_9 rfl rfl
 (x_i2l g dX11_lay_10
 (x_callVip (As := [.long (a2.toInt64)]) g mv_X11_isRock mi_X11_isRock lk_RX11_283 ht (fun b hb => kX11_isRock t (a2.toInt64) M ht _ _ hb) rfl rfl hR ⟨Nat.le_of_ble_eq_true rfl, Nat.le_of_ble_eq_true rfl⟩ (Nat.le_of_ble_eq_true rfl) dX11_lay_11 (fun v4 =>
 (x_if_eq g 29 dX11_lay_14 rfl
 (fun _ => (x_aload_n g 0 dX11_lay_29 rfl rfl
 (x_iconst g dX11_lay_30 kI_1
 (x_callVi (As := [.int (1 : Int32)]) g mv_X11_refuse mi_X11_refuse lk_RX11_102 ht (fun b Mh_ hb => kX11_refuse t (1 : Int32) M ht _ _ hb) rfl rfl hR ⟨Nat.le_of_ble_eq_true rfl, Nat.le_of_ble_eq_true rfl⟩ (Nat.le_of_ble_eq_true rfl) dX11_lay_31 (fun v5 M6 =>
 (x_iret g hr rfl rfl dX11_lay_34))))))
 (fun _ => (x_iload_n g 3 dX11_lay_17 rfl rfl
 (x_i2l g dX11_lay_18
 (x_lconst g dX11_lay_19 kL_1
 (x_ldc2 g cw_RX11_439 dX11_lay_20
 (x_callSip (As := [.long (a3.toInt64), .long (1 : Int64), .long (99 : Int64)]) g mv_X11_isFrom ms_X11_isFrom lk_RX11_399 (fun b hb => kX11_isFrom (a3.toInt64) (1 : Int64) (99 : Int64) M _ _ hb) rfl rfl hR ⟨Nat.le_of_ble_eq_true rfl, Nat.le_of_ble_eq_true rfl⟩ (Nat.le_of_ble_eq_true rfl) dX11_lay_23 (fun v7 =>
 (x_if_ne g 35 dX11_lay_26 rfl
 (fun _ => (x_aload_n g 0 dX11_lay_35 rfl rfl
 (x_iload_n g 1 dX11_lay_36 rfl rfl
 (x_iload_n g 2 dX11_lay_37 rfl rfl
 (x_iload_n g 3 dX11_lay_38 rfl rfl
 (x_callVip (As := [.int a1, .int a2, .int a3]) g mv_X11_wrongLay mi_X11_wrongLay lk_RX11_441 ht (fun b hb => kX11_wrongLay t a1 a2 a3 M ht _ _ hb) rfl rfl hR ⟨Nat.le_of_ble_eq_true rfl, Nat.le_of_ble_eq_true rfl⟩ (Nat.le_of_ble_eq_true rfl) dX11_lay_39 (fun v8 =>
 (x_istore (L' := [(4, .int v8), (0, .ref t), (1, .int a1), (2, .int a2), (3, .int a3)]) g dX11_lay_42 hn (Nat.le_of_ble_eq_true rfl) rfl
 (x_iload g 0 dX11_lay_44 rfl
 (x_if_le g 56 dX11_lay_46 rfl
 (fun _ => (x_aload_n g 1 dX11_lay_56 rfl rfl
 (x_iload_n g 2 dX11_lay_57 rfl rfl
 (x_iload_n g 3 dX11_lay_58 rfl rfl
 (x_iload_n g 4 dX11_lay_59 rfl rfl
 (x_callVv (As := [.int a1, .int a2, .int a3]) g mv_X11_lays mi_X11_lays lk_RX11_445 ht (fun b Mh_ hb => kX11_lays φ t a1 a2 a3 M ht _ _ hb) rfl rfl hR ⟨Nat.le_of_ble_eq_true rfl, Nat.le_of_ble_eq_true rfl⟩ (Nat.le_of_ble_eq_true rfl) dX11_lay_60 (fun vu9 M10 =>
 (x_aload_n g 1 dX11_lay_63 rfl rfl
 (x_aload_n g 1 dX11_lay_64 rfl rfl
 (x_iload_n g 2 dX11_lay_65 rfl rfl
 (x_callVip (As := [.int a1]) g mv_X11_layersOf mi_X11_layersOf lk_RX11_305 ht (fun b hb => kX11_layersOf t a1 M10 ht _ _ hb) rfl rfl hR ⟨Nat.le_of_ble_eq_true rfl, Nat.le_of_ble_eq_true rfl⟩ (Nat.le_of_ble_eq_true rfl) dX11_lay_66 (fun v11 =>
 (x_callVi (As := [.int v11]) g mv_X11_gives mi_X11_gives lk_RX11_106 ht (fun b Mh_ hb => kX11_gives t v11 M10 ht _ _ hb) rfl rfl hR ⟨Nat.le_of_ble_eq_true rfl, Nat.le_of_ble_eq_true rfl⟩ (Nat.le_of_ble_eq_true rfl) dX11_lay_69 (fun v12 M13 =>
 (x_iret g hr rfl rfl dX11_lay_72)))))))))))))))
 (fun _ => (x_aload_n g 1 dX11_lay_49 rfl rfl
 (x_iload g 0 dX11_lay_50 rfl
 (x_callVi (As := [.int v8]) g mv_X11_refuse mi_X11_refuse lk_RX11_102 ht (fun b Mh_ hb => kX11_refuse t v8 M ht _ _ hb) rfl rfl hR ⟨Nat.le_of_ble_eq_true rfl, Nat.le_of_ble_eq_true rfl⟩ (Nat.le_of_ble_eq_true rfl) dX11_lay_52 (fun v14 M15 =>
 (x_iret g hr rfl rfl dX11_lay_55))))))))))))))))
 (fun _ => (x_aload_n g 0 dX11_lay_29 rfl rfl
 (x_iconst g dX11_lay_30 kI_1
 (x_callVi (As := [.int (1 : Int32)]) g mv_X11_refuse mi_X11_refuse lk_RX11_102 ht (fun b Mh_ hb => kX11_refuse t (1 : Int32) M ht _ _ hb) rfl rfl hR ⟨Nat.le_of_ble_eq_true rfl, Nat.le_of_ble_eq_true rfl⟩ (Nat.le_of_ble_eq_true rfl) dX11_lay_31 (fun v16 M17 =>
 (x_iret g hr rfl rfl dX11_lay_34))))))))))))))))))))))))))
def lX11_wears_87 (K129 : Mem → Option (Int32 × Mem)) (t : Nat) (x1 : Int32) (x2 : Int32) (x3 : Int32) (x4 : Int32) : Nat → Int32 → Mem → Option (Int32 × Mem)
  | 0, _, _ => none
  | n + 1, x6, M =>
    (fX11_layersOf t x1 M).bind fun v8 =>
 if ((2 : Int32) * v8) ≤ x6 then
 K129 M
 else
 ixk (((x3 + (3 : Int32)) + (2 : Int32)) + x6) 3900 (
 ixk ((x3 + (3 : Int32)) + x6) 3900 (nm (stI M (t + 1) ((x3 + (3 : Int32)) + x6).toNatClampNeg (M.1 (t + 1) (((x3 + (3 : Int32)) + (2 : Int32)) + x6).toNatClampNeg)) (fun M9 =>
 lX11_wears_87 K129 t x1 x2 x3 x4 n (x6 + 1) M9)))
theorem lX11_wears_87_s (K129 : Mem → Option (Int32 × Mem)) (t : Nat) (x1 : Int32) (x2 : Int32) (x3 : Int32) (x4 : Int32) (n : Nat) (x6 : Int32) (M : Mem) : lX11_wears_87 K129 t x1 x2 x3 x4 (n + 1) x6 M =
    (fX11_layersOf t x1 M).bind fun v8 =>
 if ((2 : Int32) * v8) ≤ x6 then
 K129 M
 else
 ixk (((x3 + (3 : Int32)) + (2 : Int32)) + x6) 3900 (
 ixk ((x3 + (3 : Int32)) + x6) 3900 (nm (stI M (t + 1) ((x3 + (3 : Int32)) + x6).toNatClampNeg (M.1 (t + 1) (((x3 + (3 : Int32)) + (2 : Int32)) + x6).toNatClampNeg)) (fun M9 =>
 lX11_wears_87 K129 t x1 x2 x3 x4 n (x6 + 1) M9))) := rfl
theorem lX11_wears_87_0 (K129 : Mem → Option (Int32 × Mem)) (t : Nat) (x1 : Int32) (x2 : Int32) (x3 : Int32) (x4 : Int32) (x6 : Int32) (M : Mem) : lX11_wears_87 K129 t x1 x2 x3 x4 0 x6 M = none := rfl
set_option maxRecDepth 100000 in
set_option maxHeartbeats 4000000 in
theorem wlX11_wears_87 {J : JT} (g : Gd J cX11_wears RX11) (hr : Rt J (some .int)) (hR : (JR J).frames = 2 ∧ (JR J).locals = 42) (hn : Jn J = 7) (K129 : Mem → Option (Int32 × Mem)) (t : Nat) (x1 : Int32) (x2 : Int32) (x3 : Int32) (x4 : Int32) (ht : isO 11 t) (hK129 : ∀ (M : Mem), X J (fun q : Int32 × Mem => (some (Value.int q.1), q.2)) (K129 M) 129 [(0, .ref t), (1, .int x1), (2, .int x2), (3, .int x3), (4, .int x4)] [] M) : ∀ (n : Nat) (x6 : Int32) (M : Mem), X J (fun q : Int32 × Mem => (some (Value.int q.1), q.2)) (lX11_wears_87 K129 t x1 x2 x3 x4 n x6 M) 87 [(0, .ref t), (1, .int x1), (2, .int x2), (3, .int x3), (4, .int x4), (6, .int x6)] [] M := by
  intro n
  induction n with
  | zero =>
    intro x6 M
    exact x_none
  | succ n ih =>
    intro x6 M
    rw [lX11_wears_87_s]
    exact (x_iload g 5 dX11_wears_87 rfl
 (x_iconst g dX11_wears_89 kI_2
 (x_aload_n g 0 dX11_wears_90 rfl rfl
 (x_iload_n g 1 dX11_wears_91 rfl rfl
 (x_callVip (As := [.int x1]) g mv_X11_layersOf mi_X11_layersOf lk_RX11_305 ht (fun b hb => kX11_layersOf t x1 M ht _ _ hb) rfl rfl hR ⟨Nat.le_of_ble_eq_true rfl, Nat.le_of_ble_eq_true rfl⟩ (Nat.le_of_ble_eq_true rfl) dX11_wears_92 (fun v8 =>
 (x_imul g dX11_wears_95
 (x_icmp_ge g 129 dX11_wears_96 rfl
 (fun _ => (x_sub [0, 1, 2, 3, 4] rfl (hK129 M)))
 (fun _ => (x_aload_n g 0 dX11_wears_99 rfl rfl
 (x_getS g 1 fl_RX11_7 rfl ht dX11_wears_100
 (x_iload_n g 3 dX11_wears_103 rfl rfl
 (x_iconst g dX11_wears_104 kI_3
 (x_iadd g dX11_wears_105
 (x_iload g 5 dX11_wears_106 rfl
 (x_iadd g dX11_wears_108
 (x_aload_n g 0 dX11_wears_109 rfl rfl
 (x_getS g 1 fl_RX11_7 rfl ht dX11_wears_110
 (x_iload_n g 3 dX11_wears_113 rfl rfl
 (x_iconst g dX11_wears_114 kI_3
 (x_iadd g dX11_wears_115
 (x_iconst g dX11_wears_116 kI_2
 (x_iadd g dX11_wears_117
 (x_iload g 5 dX11_wears_118 rfl
 (x_iadd g dX11_wears_120
 (x_iald g (so_11_0 ht) dX11_wears_121
 (x_iast g (so_11_0 ht) dX11_wears_122 (x_nmM (fun M9 =>
 (x_iinc (L' := [(6, .int (x6 + 1)), (0, .ref t), (1, .int x1), (2, .int x2), (3, .int x3), (4, .int x4)]) (v := (x6 + 1)) g 5 dX11_wears_123 rfl (by rw [kI_1]) hn (Nat.le_of_ble_eq_true rfl) rfl
 (x_goto g 87 dX11_wears_126 rfl
 (x_sub [1, 2, 3, 4, 5, 0] rfl (ih (x6 + 1) M9)))))))))))))))))))))))))))))))))
def lX11_wears_8 (φ : Nat) (t : Nat) (x1 : Int32) (x2 : Int32) (x3 : Int32) : Nat → Int32 → Mem → Option (Int32 × Mem)
  | 0, _, _ => none
  | n + 1, x4, M =>
    if x4 ≤ 0 then
 some ((x2 - x4), M)
 else
 (fX11_layersOf t x1 M).bind fun v2 =>
 if v2 ≤ 0 then
 some ((x2 - x4), M)
 else
 (fX11_thickOf t x1 (0 : Int32) M).bind fun v3 =>
 nm (if v3 < x4 then v3 else x4) (fun v4 =>
 nm (x4 - v4) (fun v5 =>
 ixk ((x3 + (3 : Int32)) + (1 : Int32)) 3900 (
 ixk ((x3 + (3 : Int32)) + (1 : Int32)) 3900 (nm (stI M (t + 1) ((x3 + (3 : Int32)) + (1 : Int32)).toNatClampNeg ((M.1 (t + 1) ((x3 + (3 : Int32)) + (1 : Int32)).toNatClampNeg) - v4)) (fun M6 =>
 ixk ((x3 + (3 : Int32)) + (1 : Int32)) 3900 (
 if (M6.1 (t + 1) ((x3 + (3 : Int32)) + (1 : Int32)).toNatClampNeg) ≤ 0 then
 ixk (x3 + (2 : Int32)) 3900 (
 ixk (x3 + (2 : Int32)) 3900 (nm (stI M6 (t + 1) (x3 + (2 : Int32)).toNatClampNeg ((M6.1 (t + 1) (x3 + (2 : Int32)).toNatClampNeg) - (1 : Int32))) (fun M7 =>
 lX11_wears_87 (fun (M10 : Mem) => lX11_wears_8 φ t x1 x2 x3 n v5 M10) t x1 x2 x3 v5 φ (0 : Int32) M7)))
 else
 lX11_wears_8 φ t x1 x2 x3 n v5 M6))))))
theorem lX11_wears_8_s (φ : Nat) (t : Nat) (x1 : Int32) (x2 : Int32) (x3 : Int32) (n : Nat) (x4 : Int32) (M : Mem) : lX11_wears_8 φ t x1 x2 x3 (n + 1) x4 M =
    if x4 ≤ 0 then
 some ((x2 - x4), M)
 else
 (fX11_layersOf t x1 M).bind fun v2 =>
 if v2 ≤ 0 then
 some ((x2 - x4), M)
 else
 (fX11_thickOf t x1 (0 : Int32) M).bind fun v3 =>
 nm (if v3 < x4 then v3 else x4) (fun v4 =>
 nm (x4 - v4) (fun v5 =>
 ixk ((x3 + (3 : Int32)) + (1 : Int32)) 3900 (
 ixk ((x3 + (3 : Int32)) + (1 : Int32)) 3900 (nm (stI M (t + 1) ((x3 + (3 : Int32)) + (1 : Int32)).toNatClampNeg ((M.1 (t + 1) ((x3 + (3 : Int32)) + (1 : Int32)).toNatClampNeg) - v4)) (fun M6 =>
 ixk ((x3 + (3 : Int32)) + (1 : Int32)) 3900 (
 if (M6.1 (t + 1) ((x3 + (3 : Int32)) + (1 : Int32)).toNatClampNeg) ≤ 0 then
 ixk (x3 + (2 : Int32)) 3900 (
 ixk (x3 + (2 : Int32)) 3900 (nm (stI M6 (t + 1) (x3 + (2 : Int32)).toNatClampNeg ((M6.1 (t + 1) (x3 + (2 : Int32)).toNatClampNeg) - (1 : Int32))) (fun M7 =>
 lX11_wears_87 (fun (M10 : Mem) => lX11_wears_8 φ t x1 x2 x3 n v5 M10) t x1 x2 x3 v5 φ (0 : Int32) M7)))
 else
 lX11_wears_8 φ t x1 x2 x3 n v5 M6)))))) := rfl
theorem lX11_wears_8_0 (φ : Nat) (t : Nat) (x1 : Int32) (x2 : Int32) (x3 : Int32) (x4 : Int32) (M : Mem) : lX11_wears_8 φ t x1 x2 x3 0 x4 M = none := rfl
set_option maxRecDepth 100000 in
set_option maxHeartbeats 4000000 in
theorem wlX11_wears_8 {J : JT} (g : Gd J cX11_wears RX11) (hr : Rt J (some .int)) (hR : (JR J).frames = 2 ∧ (JR J).locals = 42) (hn : Jn J = 7) (φ : Nat) (t : Nat) (x1 : Int32) (x2 : Int32) (x3 : Int32) (ht : isO 11 t) : ∀ (n : Nat) (x4 : Int32) (M : Mem), X J (fun q : Int32 × Mem => (some (Value.int q.1), q.2)) (lX11_wears_8 φ t x1 x2 x3 n x4 M) 8 [(0, .ref t), (1, .int x1), (2, .int x2), (3, .int x3), (4, .int x4)] [] M := by
  intro n
  induction n with
  | zero =>
    intro x4 M
    exact x_none
  | succ n ih =>
    intro x4 M
    rw [lX11_wears_8_s]
    exact (x_iload g 4 dX11_wears_8 rfl
 (x_if_le g 132 dX11_wears_10 rfl
 (fun _ => (x_iload_n g 2 dX11_wears_132 rfl rfl
 (x_iload g 4 dX11_wears_133 rfl
 (x_isub g dX11_wears_135
 (x_iret g hr rfl rfl dX11_wears_136)))))
 (fun _ => (x_aload_n g 0 dX11_wears_13 rfl rfl
 (x_iload_n g 1 dX11_wears_14 rfl rfl
 (x_callVip (As := [.int x1]) g mv_X11_layersOf mi_X11_layersOf lk_RX11_305 ht (fun b hb => kX11_layersOf t x1 M ht _ _ hb) rfl rfl hR ⟨Nat.le_of_ble_eq_true rfl, Nat.le_of_ble_eq_true rfl⟩ (Nat.le_of_ble_eq_true rfl) dX11_wears_15 (fun v2 =>
 (x_if_le g 132 dX11_wears_18 rfl
 (fun _ => (x_iload_n g 2 dX11_wears_132 rfl rfl
 (x_iload g 4 dX11_wears_133 rfl
 (x_isub g dX11_wears_135
 (x_iret g hr rfl rfl dX11_wears_136)))))
 (fun _ => (x_iload g 4 dX11_wears_21 rfl
 (x_aload_n g 0 dX11_wears_23 rfl rfl
 (x_iload_n g 1 dX11_wears_24 rfl rfl
 (x_iconst g dX11_wears_25 kI_0
 (x_callVip (As := [.int x1, .int (0 : Int32)]) g mv_X11_thickOf mi_X11_thickOf lk_RX11_290 ht (fun b hb => kX11_thickOf t x1 (0 : Int32) M ht _ _ hb) rfl rfl hR ⟨Nat.le_of_ble_eq_true rfl, Nat.le_of_ble_eq_true rfl⟩ (Nat.le_of_ble_eq_true rfl) dX11_wears_26 (fun v3 =>
 (x_mmin g hR lk_RX11_158 ok_mins ok_math ok_min (Nat.le_of_ble_eq_true rfl) (Nat.le_of_ble_eq_true rfl) dX11_wears_29
 (x_nmI (fun v4 => (x_istore (L' := [(5, .int v4), (0, .ref t), (1, .int x1), (2, .int x2), (3, .int x3), (4, .int x4)]) g dX11_wears_32 hn (Nat.le_of_ble_eq_true rfl) rfl
 (x_iload g 5 dX11_wears_34 rfl
 (x_iload g 0 dX11_wears_36 rfl
 (x_isub g dX11_wears_38
 (x_nmI (fun v5 => (x_istore (L' := [(4, .int v5), (5, .int v4), (0, .ref t), (1, .int x1), (2, .int x2), (3, .int x3)]) g dX11_wears_39 hn (Nat.le_of_ble_eq_true rfl) rfl
 (x_aload_n g 2 dX11_wears_41 rfl rfl
 (x_getS g 1 fl_RX11_7 rfl ht dX11_wears_42
 (x_iload_n g 5 dX11_wears_45 rfl rfl
 (x_iconst g dX11_wears_46 kI_3
 (x_iadd g dX11_wears_47
 (x_iconst g dX11_wears_48 kI_1
 (x_iadd g dX11_wears_49
 (x_dup2 g dX11_wears_50 rfl rfl
 (x_iald g (so_11_0 ht) dX11_wears_51
 (x_iload g 1 dX11_wears_52 rfl
 (x_isub g dX11_wears_54
 (x_iast g (so_11_0 ht) dX11_wears_55 (x_nmM (fun M6 =>
 (x_aload_n g 2 dX11_wears_56 rfl rfl
 (x_getS g 1 fl_RX11_7 rfl ht dX11_wears_57
 (x_iload_n g 5 dX11_wears_60 rfl rfl
 (x_iconst g dX11_wears_61 kI_3
 (x_iadd g dX11_wears_62
 (x_iconst g dX11_wears_63 kI_1
 (x_iadd g dX11_wears_64
 (x_iald g (so_11_0 ht) dX11_wears_65
 (x_if_le g 72 dX11_wears_66 rfl
 (fun _ => (x_aload_n g 2 dX11_wears_72 rfl rfl
 (x_getS g 1 fl_RX11_7 rfl ht dX11_wears_73
 (x_iload_n g 5 dX11_wears_76 rfl rfl
 (x_iconst g dX11_wears_77 kI_2
 (x_iadd g dX11_wears_78
 (x_dup2 g dX11_wears_79 rfl rfl
 (x_iald g (so_11_0 ht) dX11_wears_80
 (x_iconst g dX11_wears_81 kI_1
 (x_isub g dX11_wears_82
 (x_iast g (so_11_0 ht) dX11_wears_83 (x_nmM (fun M7 =>
 (x_iconst g dX11_wears_84 kI_0
 (x_istore (L' := [(6, .int (0 : Int32)), (4, .int v5), (5, .int v4), (0, .ref t), (1, .int x1), (2, .int x2), (3, .int x3)]) g dX11_wears_85 hn (Nat.le_of_ble_eq_true rfl) rfl
 (x_sub [3, 4, 5, 6, 1, 0] rfl (wlX11_wears_87 g hr hR hn _ t x1 x2 x3 v5 ht
 (fun M10 => by exact (x_goto g 8 dX11_wears_129 rfl
 (ih v5 M10))) φ (0 : Int32) M7)))))))))))))))))
 (fun _ => (x_goto g 8 dX11_wears_69 rfl
 (x_sub [2, 3, 4, 5, 0] rfl (ih v5 M6))))))))))))))))))))))))))))))))))))))))))))))))))))
def fX11_wears (φ : Nat) (t : Nat) (a1 : Int32) (a2 : Int32) (M : Mem) : Option (Int32 × Mem) :=
  (fX11_holeRow a1 M).bind fun v1 =>
 lX11_wears_8 φ t a1 a2 v1 φ a2 M
set_option maxRecDepth 100000 in
set_option maxHeartbeats 4000000 in
theorem kX11_wears (φ : Nat) (t : Nat) (a1 : Int32) (a2 : Int32) (M : Mem) (ht : isO 11 t) (l : Launch) (G : GT) {b : (Int32 × Mem)} (hE : fX11_wears φ t a1 a2 M = some b) : Ok l G yX11_wears cX11_wears 7 (some .int) 2 42 [.ref t, .int a1, .int a2] M ((fun q : Int32 × Mem => (some (Value.int q.1), q.2)) b).1 ((fun q : Int32 × Mem => (some (Value.int q.1), q.2)) b).2 := by
  refine Ok.ofX (pj := (fun q : Int32 × Mem => (some (Value.int q.1), q.2))) (by decide) (Nat.le_of_ble_eq_true rfl) hE (fun J g hr hG hl hR hn => ?_)
  show X J (fun q : Int32 × Mem => (some (Value.int q.1), q.2)) (fX11_wears φ t a1 a2 M) 0 [(0, .ref t), (1, .int a1), (2, .int a2)] [] M
  unfold fX11_wears
  exact (x_iload_n g 1 dX11_wears_0 rfl rfl
 (x_callSip (As := [.int a1]) g mv_X11_holeRow ms_X11_holeRow lk_RX11_280 (fun b hb => kX11_holeRow a1 M _ _ hb) rfl rfl hR ⟨Nat.le_of_ble_eq_true rfl, Nat.le_of_ble_eq_true rfl⟩ (Nat.le_of_ble_eq_true rfl) dX11_wears_1 (fun v1 =>
 (x_istore_n (L' := [(3, .int v1), (0, .ref t), (1, .int a1), (2, .int a2)]) g dX11_wears_4 rfl hn (Nat.le_of_ble_eq_true rfl) rfl
 (x_iload_n g 3 dX11_wears_5 rfl rfl
 (x_istore (L' := [(4, .int a2), (3, .int v1), (0, .ref t), (1, .int a1), (2, .int a2)]) g dX11_wears_6 hn (Nat.le_of_ble_eq_true rfl) rfl
 (x_sub [2, 3, 4, 1, 0] rfl (wlX11_wears_8 g hr hR hn  φ t a1 a2 v1 ht φ a2 M))))))))
def fX11_wear (φ : Nat) (t : Nat) (a1 : Int32) (a2 : Int32) (M : Mem) : Option (Int32 × Mem) :=
  (fX11_isHole t a1 M).bind fun v1 =>
 if v1 = 0 then
 bd (fX11_refuse t (1 : Int32) M) fun v2 M3 =>
 some (v2, M3)
 else
 (fX11_isFrom (a2.toInt64) (1 : Int64) (99 : Int64) M).bind fun v4 =>
 if v4 = 0 then
 bd (fX11_refuse t (1 : Int32) M) fun v5 M6 =>
 some (v5, M6)
 else
 bd (fX11_wears φ t a1 a2 M) fun v7 M8 =>
 bd (fX11_gives t v7 M8) fun v9 M10 =>
 some (v9, M10)
set_option maxRecDepth 100000 in
set_option maxHeartbeats 4000000 in
theorem kX11_wear (φ : Nat) (t : Nat) (a1 : Int32) (a2 : Int32) (M : Mem) (ht : isO 11 t) (l : Launch) (G : GT) {b : (Int32 × Mem)} (hE : fX11_wear φ t a1 a2 M = some b) : Ok l G yX11_wear cX11_wear 3 (some .int) 3 68 [.ref t, .int a1, .int a2] M ((fun q : Int32 × Mem => (some (Value.int q.1), q.2)) b).1 ((fun q : Int32 × Mem => (some (Value.int q.1), q.2)) b).2 := by
  refine Ok.ofX (pj := (fun q : Int32 × Mem => (some (Value.int q.1), q.2))) (by decide) (Nat.le_of_ble_eq_true rfl) hE (fun J g hr hG hl hR hn => ?_)
  show X J (fun q : Int32 × Mem => (some (Value.int q.1), q.2)) (fX11_wear φ t a1 a2 M) 0 [(0, .ref t), (1, .int a1), (2, .int a2)] [] M
  unfold fX11_wear
  exact (x_aload_n g 0 dX11_wear_0 rfl rfl
 (x_iload_n g 1 dX11_wear_1 rfl rfl
 (x_callVip (As := [.int a1]) g mv_X11_isHole mi_X11_isHole lk_RX11_302 ht (fun b hb => kX11_isHole t a1 M ht _ _ hb) rfl rfl hR ⟨Nat.le_of_ble_eq_true rfl, Nat.le_of_ble_eq_true rfl⟩ (Nat.le_of_ble_eq_true rfl) dX11_wear_2 (fun v1 =>
 (x_if_eq g 33 dX11_wear_5 rfl
 (fun _ => (x_aload_n g 0 dX11_wear_33 rfl rfl
 (x_iconst g dX11_wear_34 kI_1
 (x_callVi (As := [.int (1 : Int32)]) g mv_X11_refuse mi_X11_refuse lk_RX11_102 ht (fun b Mh_ hb => kX11_refuse t (1 : Int32) M ht _ _ hb) rfl rfl hR ⟨Nat.le_of_ble_eq_true rfl, Nat.le_of_ble_eq_true rfl⟩ (Nat.le_of_ble_eq_true rfl) dX11_wear_35 (fun v2 M3 =>
 (x_iret g hr rfl rfl dX11_wear_38))))))
 (fun _ => (x_iload_n g 2 dX11_wear_8 rfl rfl
 (x_i2l g dX11_wear_9
 (x_lconst g dX11_wear_10 kL_1
 (x_ldc2 g cw_RX11_439 dX11_wear_11
 (x_callSip (As := [.long (a2.toInt64), .long (1 : Int64), .long (99 : Int64)]) g mv_X11_isFrom ms_X11_isFrom lk_RX11_399 (fun b hb => kX11_isFrom (a2.toInt64) (1 : Int64) (99 : Int64) M _ _ hb) rfl rfl hR ⟨Nat.le_of_ble_eq_true rfl, Nat.le_of_ble_eq_true rfl⟩ (Nat.le_of_ble_eq_true rfl) dX11_wear_14 (fun v4 =>
 (x_if_eq g 33 dX11_wear_17 rfl
 (fun _ => (x_aload_n g 0 dX11_wear_33 rfl rfl
 (x_iconst g dX11_wear_34 kI_1
 (x_callVi (As := [.int (1 : Int32)]) g mv_X11_refuse mi_X11_refuse lk_RX11_102 ht (fun b Mh_ hb => kX11_refuse t (1 : Int32) M ht _ _ hb) rfl rfl hR ⟨Nat.le_of_ble_eq_true rfl, Nat.le_of_ble_eq_true rfl⟩ (Nat.le_of_ble_eq_true rfl) dX11_wear_35 (fun v5 M6 =>
 (x_iret g hr rfl rfl dX11_wear_38))))))
 (fun _ => (x_aload_n g 0 dX11_wear_20 rfl rfl
 (x_aload_n g 0 dX11_wear_21 rfl rfl
 (x_iload_n g 1 dX11_wear_22 rfl rfl
 (x_iload_n g 2 dX11_wear_23 rfl rfl
 (x_callVi (As := [.int a1, .int a2]) g mv_X11_wears mi_X11_wears lk_RX11_449 ht (fun b Mh_ hb => kX11_wears φ t a1 a2 M ht _ _ hb) rfl rfl hR ⟨Nat.le_of_ble_eq_true rfl, Nat.le_of_ble_eq_true rfl⟩ (Nat.le_of_ble_eq_true rfl) dX11_wear_24 (fun v7 M8 =>
 (x_callVi (As := [.int v7]) g mv_X11_gives mi_X11_gives lk_RX11_106 ht (fun b Mh_ hb => kX11_gives t v7 M8 ht _ _ hb) rfl rfl hR ⟨Nat.le_of_ble_eq_true rfl, Nat.le_of_ble_eq_true rfl⟩ (Nat.le_of_ble_eq_true rfl) dX11_wear_27 (fun v9 M10 =>
 (x_goto g 38 dX11_wear_30 rfl
 (x_iret g hr rfl rfl dX11_wear_38))))))))))))))))))))))))
def fX11_throwing (t : Nat) (a1 : Int32) (a2 : Int32) (M : Mem) : Option (Int32 × Mem) :=
  if a1 < 0 then
 bd (fX11_is t (1 : Int32) M) fun v1 M2 =>
 if v1 = 0 ∨ v1 = 1 then some (v1, M2) else none
 else
 ixk (3 : Int32) 3900 (
 if (M.1 (t + 1) (3 : Int32).toNatClampNeg) ≤ a1 then
 bd (fX11_is t (1 : Int32) M) fun v4 M5 =>
 if v4 = 0 ∨ v4 = 1 then some (v4, M5) else none
 else
 (fX11_isFrom (a2.toInt64) (0 : Int64) (999 : Int64) M).bind fun v7 =>
 if v7 = 0 then
 bd (fX11_is t (1 : Int32) M) fun v12 M13 =>
 if v12 = 0 ∨ v12 = 1 then some (v12, M13) else none
 else
 ixk (((268 : Int32) + ((5 : Int32) * a1)) + (4 : Int32)) 3900 (nm (stI M (t + 1) (((268 : Int32) + ((5 : Int32) * a1)) + (4 : Int32)).toNatClampNeg a2) (fun M8 =>
 bd (fX11_is t (0 : Int32) M8) fun v9 M10 =>
 if v9 = 0 ∨ v9 = 1 then some (v9, M10) else none)))
set_option maxRecDepth 100000 in
set_option maxHeartbeats 4000000 in
theorem kX11_throwing (t : Nat) (a1 : Int32) (a2 : Int32) (M : Mem) (ht : isO 11 t) (l : Launch) (G : GT) {b : (Int32 × Mem)} (hE : fX11_throwing t a1 a2 M = some b) : Ok l G yX11_throwing cX11_throwing 3 (some .boolean) 1 25 [.ref t, .int a1, .int a2] M ((fun q : Int32 × Mem => (some (Value.int q.1), q.2)) b).1 ((fun q : Int32 × Mem => (some (Value.int q.1), q.2)) b).2 := by
  refine Ok.ofX (pj := (fun q : Int32 × Mem => (some (Value.int q.1), q.2))) (by decide) (Nat.le_of_ble_eq_true rfl) hE (fun J g hr hG hl hR hn => ?_)
  show X J (fun q : Int32 × Mem => (some (Value.int q.1), q.2)) (fX11_throwing t a1 a2 M) 0 [(0, .ref t), (1, .int a1), (2, .int a2)] [] M
  unfold fX11_throwing
  exact (x_iload_n g 1 dX11_throwing_0 rfl rfl
 (x_if_lt g 26 dX11_throwing_1 rfl
 (fun _ => (x_aload_n g 0 dX11_throwing_26 rfl rfl
 (x_iconst g dX11_throwing_27 kI_1
 (x_callVi (As := [.int (1 : Int32)]) g mv_X11_is mi_X11_is lk_RX11_109 ht (fun b Mh_ hb => kX11_is t (1 : Int32) M ht _ _ hb) rfl rfl hR ⟨Nat.le_of_ble_eq_true rfl, Nat.le_of_ble_eq_true rfl⟩ (Nat.le_of_ble_eq_true rfl) dX11_throwing_28 (fun v1 M2 =>
 (x_ck (fun hq3 => x_iret g hr (nbz hq3) rfl dX11_throwing_31)))))))
 (fun _ => (x_iload_n g 1 dX11_throwing_4 rfl rfl
 (x_aload_n g 0 dX11_throwing_5 rfl rfl
 (x_getS g 1 fl_RX11_7 rfl ht dX11_throwing_6
 (x_iconst g dX11_throwing_9 kI_3
 (x_iald g (so_11_0 ht) dX11_throwing_10
 (x_icmp_ge g 26 dX11_throwing_11 rfl
 (fun _ => (x_aload_n g 0 dX11_throwing_26 rfl rfl
 (x_iconst g dX11_throwing_27 kI_1
 (x_callVi (As := [.int (1 : Int32)]) g mv_X11_is mi_X11_is lk_RX11_109 ht (fun b Mh_ hb => kX11_is t (1 : Int32) M ht _ _ hb) rfl rfl hR ⟨Nat.le_of_ble_eq_true rfl, Nat.le_of_ble_eq_true rfl⟩ (Nat.le_of_ble_eq_true rfl) dX11_throwing_28 (fun v4 M5 =>
 (x_ck (fun hq6 => x_iret g hr (nbz hq6) rfl dX11_throwing_31)))))))
 (fun _ => (x_iload_n g 2 dX11_throwing_14 rfl rfl
 (x_i2l g dX11_throwing_15
 (x_lconst g dX11_throwing_16 kL_0
 (x_ldc2 g cw_RX11_397 dX11_throwing_17
 (x_callSip (As := [.long (a2.toInt64), .long (0 : Int64), .long (999 : Int64)]) g mv_X11_isFrom ms_X11_isFrom lk_RX11_399 (fun b hb => kX11_isFrom (a2.toInt64) (0 : Int64) (999 : Int64) M _ _ hb) rfl rfl hR ⟨Nat.le_of_ble_eq_true rfl, Nat.le_of_ble_eq_true rfl⟩ (Nat.le_of_ble_eq_true rfl) dX11_throwing_20 (fun v7 =>
 (x_if_ne g 32 dX11_throwing_23 rfl
 (fun _ => (x_aload_n g 0 dX11_throwing_32 rfl rfl
 (x_getS g 1 fl_RX11_7 rfl ht dX11_throwing_33
 (x_sipush g dX11_throwing_36 kS_268
 (x_iconst g dX11_throwing_39 kI_5
 (x_iload_n g 1 dX11_throwing_40 rfl rfl
 (x_imul g dX11_throwing_41
 (x_iadd g dX11_throwing_42
 (x_iconst g dX11_throwing_43 kI_4
 (x_iadd g dX11_throwing_44
 (x_iload_n g 2 dX11_throwing_45 rfl rfl
 (x_iast g (so_11_0 ht) dX11_throwing_46 (x_nmM (fun M8 =>
 (x_aload_n g 0 dX11_throwing_47 rfl rfl
 (x_iconst g dX11_throwing_48 kI_0
 (x_callVi (As := [.int (0 : Int32)]) g mv_X11_is mi_X11_is lk_RX11_109 ht (fun b Mh_ hb => kX11_is t (0 : Int32) M8 ht _ _ hb) rfl rfl hR ⟨Nat.le_of_ble_eq_true rfl, Nat.le_of_ble_eq_true rfl⟩ (Nat.le_of_ble_eq_true rfl) dX11_throwing_49 (fun v9 M10 =>
 (x_ck (fun hq11 => x_iret g hr (nbz hq11) rfl dX11_throwing_52))))))))))))))))))))
 (fun _ => (x_aload_n g 0 dX11_throwing_26 rfl rfl
 (x_iconst g dX11_throwing_27 kI_1
 (x_callVi (As := [.int (1 : Int32)]) g mv_X11_is mi_X11_is lk_RX11_109 ht (fun b Mh_ hb => kX11_is t (1 : Int32) M ht _ _ hb) rfl rfl hR ⟨Nat.le_of_ble_eq_true rfl, Nat.le_of_ble_eq_true rfl⟩ (Nat.le_of_ble_eq_true rfl) dX11_throwing_28 (fun v12 M13 =>
 (x_ck (fun hq14 => x_iret g hr (nbz hq14) rfl dX11_throwing_31))))))))))))))))))))))))
def fX11_draw (t : Nat) (a1 : Int32) (M : Mem) : Option (Int32 × Mem) :=
  nm (stI M t 39 ((((M.1 t 39) * (2777 : Int32)) + (9551 : Int32)) - (((M.1 t 39) * (2777 : Int32)) + (9551 : Int32)) / (65536 : Int32) * (65536 : Int32))) (fun M1 =>
 if ¬ a1 = 0 then
 some ((((M1.1 t 39) / (8 : Int32)) - ((M1.1 t 39) / (8 : Int32)) / a1 * a1), M1)
 else none)
set_option maxRecDepth 100000 in
set_option maxHeartbeats 4000000 in
theorem kX11_draw (t : Nat) (a1 : Int32) (M : Mem) (ht : isO 11 t) (l : Launch) (G : GT) {b : (Int32 × Mem)} (hE : fX11_draw t a1 M = some b) : Ok l G yX11_draw cX11_draw 2 (some .int) 0 0 [.ref t, .int a1] M ((fun q : Int32 × Mem => (some (Value.int q.1), q.2)) b).1 ((fun q : Int32 × Mem => (some (Value.int q.1), q.2)) b).2 := by
  refine Ok.ofX (pj := (fun q : Int32 × Mem => (some (Value.int q.1), q.2))) (by decide) (Nat.le_of_ble_eq_true rfl) hE (fun J g hr hG hl hR hn => ?_)
  show X J (fun q : Int32 × Mem => (some (Value.int q.1), q.2)) (fX11_draw t a1 M) 0 [(0, .ref t), (1, .int a1)] [] M
  unfold fX11_draw
  exact (x_aload_n g 0 dX11_draw_0 rfl rfl
 (x_aload_n g 0 dX11_draw_1 rfl rfl
 (x_getI g fl_RX11_452 rfl ht dX11_draw_2
 (x_sipush g dX11_draw_5 kS_2777
 (x_imul g dX11_draw_8
 (x_sipush g dX11_draw_9 kS_9551
 (x_iadd g dX11_draw_12
 (x_ldcw g cw_RX11_455 dX11_draw_13
 (x_irem g dX11_draw_16 (by decide)
 (x_putI g fp_RX11_452 rfl (Nat.le_of_ble_eq_true rfl) ht dX11_draw_17 (x_nmM (fun M1 =>
 (x_aload_n g 0 dX11_draw_20 rfl rfl
 (x_getI g fl_RX11_452 rfl ht dX11_draw_21
 (x_bipush g dX11_draw_24 kB_8
 (x_idiv g dX11_draw_26 (by decide)
 (x_iload_n g 1 dX11_draw_27 rfl rfl
 (x_ck (fun hq2 => x_irem g dX11_draw_28 hq2
 (x_iret g hr rfl rfl dX11_draw_29))))))))))))))))))))
def lX11_does_141 (φ : Nat) (t : Nat) (x2 : Int32) : Nat → Int32 → Mem → Option (Unit × Mem)
  | 0, _, _ => none
  | n + 1, x4, M =>
    ixk (1 : Int32) 3900 (
 if (M.1 (t + 1) (1 : Int32).toNatClampNeg) ≤ x4 then
 some ((), M)
 else
 ixk (2 : Int32) 4 (
 bd (fX11_draw t x2 M) fun v10 M11 =>
 bd (fX11_wears φ t x4 v10 M11) fun v12 M13 =>
 ixk (2 : Int32) 4 (nm (stI M13 (t + 22) (2 : Int32).toNatClampNeg ((M.1 (t + 22) (2 : Int32).toNatClampNeg) + v12)) (fun M14 =>
 lX11_does_141 φ t x2 n (x4 + 1) M14))))
theorem lX11_does_141_s (φ : Nat) (t : Nat) (x2 : Int32) (n : Nat) (x4 : Int32) (M : Mem) : lX11_does_141 φ t x2 (n + 1) x4 M =
    ixk (1 : Int32) 3900 (
 if (M.1 (t + 1) (1 : Int32).toNatClampNeg) ≤ x4 then
 some ((), M)
 else
 ixk (2 : Int32) 4 (
 bd (fX11_draw t x2 M) fun v10 M11 =>
 bd (fX11_wears φ t x4 v10 M11) fun v12 M13 =>
 ixk (2 : Int32) 4 (nm (stI M13 (t + 22) (2 : Int32).toNatClampNeg ((M.1 (t + 22) (2 : Int32).toNatClampNeg) + v12)) (fun M14 =>
 lX11_does_141 φ t x2 n (x4 + 1) M14)))) := rfl
theorem lX11_does_141_0 (φ : Nat) (t : Nat) (x2 : Int32) (x4 : Int32) (M : Mem) : lX11_does_141 φ t x2 0 x4 M = none := rfl
set_option maxRecDepth 100000 in
set_option maxHeartbeats 4000000 in
theorem wlX11_does_141 {J : JT} (g : Gd J cX11_does RX11) (hr : Rt J none) (hR : (JR J).frames = 3 ∧ (JR J).locals = 68) (hn : Jn J = 5) (φ : Nat) (t : Nat) (x2 : Int32) (ht : isO 11 t) : ∀ (n : Nat) (x4 : Int32) (M : Mem), X J (fun q : Unit × Mem => ((none : Option Value), q.2)) (lX11_does_141 φ t x2 n x4 M) 141 [(0, .ref t), (2, .int x2), (4, .int x4)] [] M := by
  intro n
  induction n with
  | zero =>
    intro x4 M
    exact x_none
  | succ n ih =>
    intro x4 M
    rw [lX11_does_141_s]
    exact (x_iload g 2 dX11_does_141 rfl
 (x_aload_n g 0 dX11_does_143 rfl rfl
 (x_getS g 1 fl_RX11_7 rfl ht dX11_does_144
 (x_iconst g dX11_does_147 kI_1
 (x_iald g (so_11_0 ht) dX11_does_148
 (x_icmp_ge g 178 dX11_does_149 rfl
 (fun _ => (x_goto g 237 dX11_does_178 rfl
 (x_vret g hr rfl dX11_does_237)))
 (fun _ => (x_aload_n g 0 dX11_does_152 rfl rfl
 (x_getS g 22 fl_RX11_90 rfl ht dX11_does_153
 (x_iconst g dX11_does_156 kI_2
 (x_dup2 g dX11_does_157 rfl rfl
 (x_iald g (so_11_42 ht) dX11_does_158
 (x_aload_n g 0 dX11_does_159 rfl rfl
 (x_iload g 2 dX11_does_160 rfl
 (x_aload_n g 0 dX11_does_162 rfl rfl
 (x_iload_n g 1 dX11_does_163 rfl rfl
 (x_callVi (As := [.int x2]) g mv_X11_draw mi_X11_draw lk_RX11_456 ht (fun b Mh_ hb => kX11_draw t x2 M ht _ _ hb) rfl rfl hR ⟨Nat.le_of_ble_eq_true rfl, Nat.le_of_ble_eq_true rfl⟩ (Nat.le_of_ble_eq_true rfl) dX11_does_164 (fun v10 M11 =>
 (x_callVi (As := [.int x4, .int v10]) g mv_X11_wears mi_X11_wears lk_RX11_449 ht (fun b Mh_ hb => kX11_wears φ t x4 v10 M11 ht _ _ hb) rfl rfl hR ⟨Nat.le_of_ble_eq_true rfl, Nat.le_of_ble_eq_true rfl⟩ (Nat.le_of_ble_eq_true rfl) dX11_does_167 (fun v12 M13 =>
 (x_iadd g dX11_does_170
 (x_iast g (so_11_42 ht) dX11_does_171 (x_nmM (fun M14 =>
 (x_iinc (L' := [(4, .int (x4 + 1)), (0, .ref t), (2, .int x2)]) (v := (x4 + 1)) g 2 dX11_does_172 rfl (by rw [kI_1]) hn (Nat.le_of_ble_eq_true rfl) rfl
 (x_goto g 141 dX11_does_175 rfl
 (x_sub [1, 2, 0] rfl (ih (x4 + 1) M14))))))))))))))))))))))))))))
def fX11_does (φ : Nat) (t : Nat) (a1 : Int32) (M : Mem) : Option (Unit × Mem) :=
  ixk (a1 + (1 : Int32)) 3900 (
 nm (M.1 (t + 1) (a1 + (1 : Int32)).toNatClampNeg) (fun v1 =>
 ixk (a1 + (2 : Int32)) 3900 (
 nm (M.1 (t + 1) (a1 + (2 : Int32)).toNatClampNeg) (fun v2 =>
 ixk a1 3900 (
 if (M.1 (t + 1) a1.toNatClampNeg) = 13 then
 ixk (a1 + (3 : Int32)) 3900 (
 (fX11_wrongLay t v1 v2 (M.1 (t + 1) (a1 + (3 : Int32)).toNatClampNeg) M).bind fun v20 =>
 if v20 ≤ 0 then
 ixk (a1 + (3 : Int32)) 3900 (
 bd (fX11_lays φ t v1 v2 (M.1 (t + 1) (a1 + (3 : Int32)).toNatClampNeg) M) fun vu21 M22 =>
 ixk (1 : Int32) 4 (
 ixk (a1 + (3 : Int32)) 3900 (
 ixk (1 : Int32) 4 (nm (stI M22 (t + 22) (1 : Int32).toNatClampNeg ((M22.1 (t + 22) (1 : Int32).toNatClampNeg) + (M22.1 (t + 1) (a1 + (3 : Int32)).toNatClampNeg))) (fun M23 =>
 some ((), M23))))))
 else
 ixk (0 : Int32) 4 (
 ixk (0 : Int32) 4 (nm (stI M (t + 22) (0 : Int32).toNatClampNeg ((M.1 (t + 22) (0 : Int32).toNatClampNeg) + (1 : Int32))) (fun M24 =>
 some ((), M24)))))
 else
 if (M.1 (t + 1) a1.toNatClampNeg) = 14 then
 ixk (2 : Int32) 4 (
 bd (fX11_wears φ t v1 v2 M) fun v16 M17 =>
 ixk (2 : Int32) 4 (nm (stI M17 (t + 22) (2 : Int32).toNatClampNeg ((M.1 (t + 22) (2 : Int32).toNatClampNeg) + v16)) (fun M18 =>
 some ((), M18))))
 else
 if (M.1 (t + 1) a1.toNatClampNeg) = 15 then
 lX11_does_141 φ t v1 φ (0 : Int32) M
 else
 if (M.1 (t + 1) a1.toNatClampNeg) = 16 then
 ixk (((268 : Int32) + ((5 : Int32) * v1)) + (4 : Int32)) 3900 (
 if ((M.1 (t + 1) (((268 : Int32) + ((5 : Int32) * v1)) + (4 : Int32)).toNatClampNeg) + v2) ≤ (999 : Int32) then
 ixk (((268 : Int32) + ((5 : Int32) * v1)) + (4 : Int32)) 3900 (
 ixk (((268 : Int32) + ((5 : Int32) * v1)) + (4 : Int32)) 3900 (nm (stI M (t + 1) (((268 : Int32) + ((5 : Int32) * v1)) + (4 : Int32)).toNatClampNeg ((M.1 (t + 1) (((268 : Int32) + ((5 : Int32) * v1)) + (4 : Int32)).toNatClampNeg) + v2)) (fun M7 =>
 some ((), M7))))
 else
 ixk (0 : Int32) 4 (
 ixk (0 : Int32) 4 (nm (stI M (t + 22) (0 : Int32).toNatClampNeg ((M.1 (t + 22) (0 : Int32).toNatClampNeg) + (1 : Int32))) (fun M8 =>
 some ((), M8)))))
 else
 some ((), M))))))
set_option maxRecDepth 100000 in
set_option maxHeartbeats 4000000 in
theorem kX11_does (φ : Nat) (t : Nat) (a1 : Int32) (M : Mem) (ht : isO 11 t) (l : Launch) (G : GT) {b : (Unit × Mem)} (hE : fX11_does φ t a1 M = some b) : Ok l G yX11_does cX11_does 5 none 3 68 [.ref t, .int a1] M ((fun q : Unit × Mem => ((none : Option Value), q.2)) b).1 ((fun q : Unit × Mem => ((none : Option Value), q.2)) b).2 := by
  refine Ok.ofX (pj := (fun q : Unit × Mem => ((none : Option Value), q.2))) (by decide) (Nat.le_of_ble_eq_true rfl) hE (fun J g hr hG hl hR hn => ?_)
  show X J (fun q : Unit × Mem => ((none : Option Value), q.2)) (fX11_does φ t a1 M) 0 [(0, .ref t), (1, .int a1)] [] M
  unfold fX11_does
  exact (x_aload_n g 0 dX11_does_0 rfl rfl
 (x_getS g 1 fl_RX11_7 rfl ht dX11_does_1
 (x_iload_n g 1 dX11_does_4 rfl rfl
 (x_iconst g dX11_does_5 kI_1
 (x_iadd g dX11_does_6
 (x_iald g (so_11_0 ht) dX11_does_7
 (x_nmI (fun v1 => (x_istore_n (L' := [(2, .int v1), (0, .ref t), (1, .int a1)]) g dX11_does_8 rfl hn (Nat.le_of_ble_eq_true rfl) rfl
 (x_aload_n g 1 dX11_does_9 rfl rfl
 (x_getS g 1 fl_RX11_7 rfl ht dX11_does_10
 (x_iload_n g 2 dX11_does_13 rfl rfl
 (x_iconst g dX11_does_14 kI_2
 (x_iadd g dX11_does_15
 (x_iald g (so_11_0 ht) dX11_does_16
 (x_nmI (fun v2 => (x_istore_n (L' := [(3, .int v2), (2, .int v1), (0, .ref t), (1, .int a1)]) g dX11_does_17 rfl hn (Nat.le_of_ble_eq_true rfl) rfl
 (x_aload_n g 2 dX11_does_18 rfl rfl
 (x_getS g 1 fl_RX11_7 rfl ht dX11_does_19
 (x_iload_n g 3 dX11_does_22 rfl rfl
 (x_iald g (so_11_0 ht) dX11_does_23
 (x_if (fun he25 => x_tabIn (off := 32) g (13 : Int32) 56 dX11_does_24 he25 (by decide) rfl rfl
 (x_aload_n g 2 dX11_does_56 rfl rfl
 (x_iload_n g 1 dX11_does_57 rfl rfl
 (x_iload_n g 0 dX11_does_58 rfl rfl
 (x_aload_n g 2 dX11_does_59 rfl rfl
 (x_getS g 1 fl_RX11_7 rfl ht dX11_does_60
 (x_iload_n g 3 dX11_does_63 rfl rfl
 (x_iconst g dX11_does_64 kI_3
 (x_iadd g dX11_does_65
 (x_iald g (so_11_0 ht) dX11_does_66
 (x_callVip (As := [.int v1, .int v2, .int (M.1 (t + 1) (a1 + (3 : Int32)).toNatClampNeg)]) g mv_X11_wrongLay mi_X11_wrongLay lk_RX11_441 ht (fun b hb => kX11_wrongLay t v1 v2 (M.1 (t + 1) (a1 + (3 : Int32)).toNatClampNeg) M ht _ _ hb) rfl rfl hR ⟨Nat.le_of_ble_eq_true rfl, Nat.le_of_ble_eq_true rfl⟩ (Nat.le_of_ble_eq_true rfl) dX11_does_67 (fun v20 =>
 (x_if_le g 86 dX11_does_70 rfl
 (fun _ => (x_aload_n g 2 dX11_does_86 rfl rfl
 (x_iload_n g 1 dX11_does_87 rfl rfl
 (x_iload_n g 0 dX11_does_88 rfl rfl
 (x_aload_n g 2 dX11_does_89 rfl rfl
 (x_getS g 1 fl_RX11_7 rfl ht dX11_does_90
 (x_iload_n g 3 dX11_does_93 rfl rfl
 (x_iconst g dX11_does_94 kI_3
 (x_iadd g dX11_does_95
 (x_iald g (so_11_0 ht) dX11_does_96
 (x_callVv (As := [.int v1, .int v2, .int (M.1 (t + 1) (a1 + (3 : Int32)).toNatClampNeg)]) g mv_X11_lays mi_X11_lays lk_RX11_445 ht (fun b Mh_ hb => kX11_lays φ t v1 v2 (M.1 (t + 1) (a1 + (3 : Int32)).toNatClampNeg) M ht _ _ hb) rfl rfl hR ⟨Nat.le_of_ble_eq_true rfl, Nat.le_of_ble_eq_true rfl⟩ (Nat.le_of_ble_eq_true rfl) dX11_does_97 (fun vu21 M22 =>
 (x_aload_n g 2 dX11_does_100 rfl rfl
 (x_getS g 22 fl_RX11_90 rfl ht dX11_does_101
 (x_iconst g dX11_does_104 kI_1
 (x_dup2 g dX11_does_105 rfl rfl
 (x_iald g (so_11_42 ht) dX11_does_106
 (x_aload_n g 2 dX11_does_107 rfl rfl
 (x_getS g 1 fl_RX11_7 rfl ht dX11_does_108
 (x_iload_n g 3 dX11_does_111 rfl rfl
 (x_iconst g dX11_does_112 kI_3
 (x_iadd g dX11_does_113
 (x_iald g (so_11_0 ht) dX11_does_114
 (x_iadd g dX11_does_115
 (x_iast g (so_11_42 ht) dX11_does_116 (x_nmM (fun M23 =>
 (x_goto g 237 dX11_does_117 rfl
 (x_vret g hr rfl dX11_does_237)))))))))))))))))))))))))))))
 (fun _ => (x_aload_n g 2 dX11_does_73 rfl rfl
 (x_getS g 22 fl_RX11_90 rfl ht dX11_does_74
 (x_iconst g dX11_does_77 kI_0
 (x_dup2 g dX11_does_78 rfl rfl
 (x_iald g (so_11_42 ht) dX11_does_79
 (x_iconst g dX11_does_80 kI_1
 (x_iadd g dX11_does_81
 (x_iast g (so_11_42 ht) dX11_does_82 (x_nmM (fun M24 =>
 (x_goto g 237 dX11_does_83 rfl
 (x_vret g hr rfl dX11_does_237)))))))))))))))))))))))))) (fun hq3 => (x_if (fun he19 => x_tabIn (off := 96) g (14 : Int32) 120 dX11_does_24 he19 (by decide) rfl rfl
 (x_aload_n g 2 dX11_does_120 rfl rfl
 (x_getS g 22 fl_RX11_90 rfl ht dX11_does_121
 (x_iconst g dX11_does_124 kI_2
 (x_dup2 g dX11_does_125 rfl rfl
 (x_iald g (so_11_42 ht) dX11_does_126
 (x_aload_n g 2 dX11_does_127 rfl rfl
 (x_iload_n g 1 dX11_does_128 rfl rfl
 (x_iload_n g 0 dX11_does_129 rfl rfl
 (x_callVi (As := [.int v1, .int v2]) g mv_X11_wears mi_X11_wears lk_RX11_449 ht (fun b Mh_ hb => kX11_wears φ t v1 v2 M ht _ _ hb) rfl rfl hR ⟨Nat.le_of_ble_eq_true rfl, Nat.le_of_ble_eq_true rfl⟩ (Nat.le_of_ble_eq_true rfl) dX11_does_130 (fun v16 M17 =>
 (x_iadd g dX11_does_133
 (x_iast g (so_11_42 ht) dX11_does_134 (x_nmM (fun M18 =>
 (x_goto g 237 dX11_does_135 rfl
 (x_vret g hr rfl dX11_does_237))))))))))))))))) (fun hq4 => (x_if (fun he15 => x_tabIn (off := 114) g (15 : Int32) 138 dX11_does_24 he15 (by decide) rfl rfl
 (x_iconst g dX11_does_138 kI_0
 (x_istore (L' := [(4, .int (0 : Int32)), (3, .int v2), (2, .int v1), (0, .ref t), (1, .int a1)]) g dX11_does_139 hn (Nat.le_of_ble_eq_true rfl) rfl
 (x_sub [3, 2, 0] rfl (wlX11_does_141 g hr hR hn  φ t v1 ht φ (0 : Int32) M))))) (fun hq5 => (x_if (fun he9 => x_tabIn (off := 157) g (16 : Int32) 181 dX11_does_24 he9 (by decide) rfl rfl
 (x_aload_n g 2 dX11_does_181 rfl rfl
 (x_getS g 1 fl_RX11_7 rfl ht dX11_does_182
 (x_sipush g dX11_does_185 kS_268
 (x_iconst g dX11_does_188 kI_5
 (x_iload_n g 1 dX11_does_189 rfl rfl
 (x_imul g dX11_does_190
 (x_iadd g dX11_does_191
 (x_iconst g dX11_does_192 kI_4
 (x_iadd g dX11_does_193
 (x_iald g (so_11_0 ht) dX11_does_194
 (x_iload_n g 0 dX11_does_195 rfl rfl
 (x_iadd g dX11_does_196
 (x_sipush g dX11_does_197 kS_999
 (x_icmp_le g 216 dX11_does_200 rfl
 (fun _ => (x_aload_n g 2 dX11_does_216 rfl rfl
 (x_getS g 1 fl_RX11_7 rfl ht dX11_does_217
 (x_sipush g dX11_does_220 kS_268
 (x_iconst g dX11_does_223 kI_5
 (x_iload_n g 1 dX11_does_224 rfl rfl
 (x_imul g dX11_does_225
 (x_iadd g dX11_does_226
 (x_iconst g dX11_does_227 kI_4
 (x_iadd g dX11_does_228
 (x_dup2 g dX11_does_229 rfl rfl
 (x_iald g (so_11_0 ht) dX11_does_230
 (x_iload_n g 0 dX11_does_231 rfl rfl
 (x_iadd g dX11_does_232
 (x_iast g (so_11_0 ht) dX11_does_233 (x_nmM (fun M7 =>
 (x_goto g 237 dX11_does_234 rfl
 (x_vret g hr rfl dX11_does_237)))))))))))))))))))
 (fun _ => (x_aload_n g 2 dX11_does_203 rfl rfl
 (x_getS g 22 fl_RX11_90 rfl ht dX11_does_204
 (x_iconst g dX11_does_207 kI_0
 (x_dup2 g dX11_does_208 rfl rfl
 (x_iald g (so_11_42 ht) dX11_does_209
 (x_iconst g dX11_does_210 kI_1
 (x_iadd g dX11_does_211
 (x_iast g (so_11_42 ht) dX11_does_212 (x_nmM (fun M8 =>
 (x_goto g 237 dX11_does_213 rfl
 (x_vret g hr rfl dX11_does_237)))))))))))))))))))))))))))) (fun hq6 => (x_tabOut g 237 dX11_does_24 (by have a0 := tab_ne hq3 (by decide : (13 : Int32).toInt = 13); have a1 := tab_ne hq4 (by decide : (14 : Int32).toInt = 14); have a2 := tab_ne hq5 (by decide : (15 : Int32).toInt = 15); have a3 := tab_ne hq6 (by decide : (16 : Int32).toInt = 16); omega) rfl
 (x_vret g hr rfl dX11_does_237))))))))))))))))))))))))))))))))
def lX11_hasRock_2 (t : Nat) (x1 : Int32) (x2 : Int32) (M : Mem) : Nat → Int32 → Option Int32
  | 0, _ => none
  | n + 1, x3 =>
    (fX11_layersOf t x1 M).bind fun v1 =>
 if v1 ≤ x3 then
 some (0 : Int32)
 else
 (fX11_rockOf t x1 x3 M).bind fun v2 =>
 if v2 = x2 then
 some (1 : Int32)
 else
 lX11_hasRock_2 t x1 x2 M n (x3 + 1)
theorem lX11_hasRock_2_s (t : Nat) (x1 : Int32) (x2 : Int32) (M : Mem) (n : Nat) (x3 : Int32) : lX11_hasRock_2 t x1 x2 M (n + 1) x3 =
    (fX11_layersOf t x1 M).bind fun v1 =>
 if v1 ≤ x3 then
 some (0 : Int32)
 else
 (fX11_rockOf t x1 x3 M).bind fun v2 =>
 if v2 = x2 then
 some (1 : Int32)
 else
 lX11_hasRock_2 t x1 x2 M n (x3 + 1) := rfl
theorem lX11_hasRock_2_0 (t : Nat) (x1 : Int32) (x2 : Int32) (M : Mem) (x3 : Int32) : lX11_hasRock_2 t x1 x2 M 0 x3 = none := rfl
set_option maxRecDepth 100000 in
set_option maxHeartbeats 4000000 in
theorem wlX11_hasRock_2 {J : JT} (g : Gd J cX11_hasRock RX11) (hr : Rt J (some .boolean)) (hR : (JR J).frames = 2 ∧ (JR J).locals = 42) (hn : Jn J = 4) (t : Nat) (x1 : Int32) (x2 : Int32) (M : Mem) (ht : isO 11 t) : ∀ (n : Nat) (x3 : Int32), X J (fun b : Int32 => (some (Value.int b), M)) (lX11_hasRock_2 t x1 x2 M n x3) 2 [(0, .ref t), (1, .int x1), (2, .int x2), (3, .int x3)] [] M := by
  intro n
  induction n with
  | zero =>
    intro x3
    exact x_none
  | succ n ih =>
    intro x3
    rw [lX11_hasRock_2_s]
    exact (x_iload_n g 3 dX11_hasRock_2 rfl rfl
 (x_aload_n g 0 dX11_hasRock_3 rfl rfl
 (x_iload_n g 1 dX11_hasRock_4 rfl rfl
 (x_callVip (As := [.int x1]) g mv_X11_layersOf mi_X11_layersOf lk_RX11_305 ht (fun b hb => kX11_layersOf t x1 M ht _ _ hb) rfl rfl hR ⟨Nat.le_of_ble_eq_true rfl, Nat.le_of_ble_eq_true rfl⟩ (Nat.le_of_ble_eq_true rfl) dX11_hasRock_5 (fun v1 =>
 (x_icmp_ge g 29 dX11_hasRock_8 rfl
 (fun _ => (x_iconst g dX11_hasRock_29 kI_0
 (x_iret g hr rfl rfl dX11_hasRock_30)))
 (fun _ => (x_aload_n g 0 dX11_hasRock_11 rfl rfl
 (x_iload_n g 1 dX11_hasRock_12 rfl rfl
 (x_iload_n g 3 dX11_hasRock_13 rfl rfl
 (x_callVip (As := [.int x1, .int x3]) g mv_X11_rockOf mi_X11_rockOf lk_RX11_311 ht (fun b hb => kX11_rockOf t x1 x3 M ht _ _ hb) rfl rfl hR ⟨Nat.le_of_ble_eq_true rfl, Nat.le_of_ble_eq_true rfl⟩ (Nat.le_of_ble_eq_true rfl) dX11_hasRock_14 (fun v2 =>
 (x_iload_n g 2 dX11_hasRock_17 rfl rfl
 (x_icmp_ne g 23 dX11_hasRock_18 rfl
 (fun _ => (x_iinc (L' := [(3, .int (x3 + 1)), (0, .ref t), (1, .int x1), (2, .int x2)]) (v := (x3 + 1)) g 3 dX11_hasRock_23 rfl (by rw [kI_1]) hn (Nat.le_of_ble_eq_true rfl) rfl
 (x_goto g 2 dX11_hasRock_26 rfl
 (x_sub [1, 2, 3, 0] rfl (ih (x3 + 1))))))
 (fun _ => (x_iconst g dX11_hasRock_21 kI_1
 (x_iret g hr rfl rfl dX11_hasRock_22)))))))))))))))))
def fX11_hasRock (φ : Nat) (t : Nat) (a1 : Int32) (a2 : Int32) (M : Mem) : Option Int32 :=
  lX11_hasRock_2 t a1 a2 M φ (0 : Int32)
set_option maxRecDepth 100000 in
set_option maxHeartbeats 4000000 in
theorem kX11_hasRock (φ : Nat) (t : Nat) (a1 : Int32) (a2 : Int32) (M : Mem) (ht : isO 11 t) (l : Launch) (G : GT) {b : Int32} (hE : fX11_hasRock φ t a1 a2 M = some b) : Ok l G yX11_hasRock cX11_hasRock 4 (some .boolean) 2 42 [.ref t, .int a1, .int a2] M ((fun b : Int32 => (some (Value.int b), M)) b).1 ((fun b : Int32 => (some (Value.int b), M)) b).2 := by
  refine Ok.ofX (pj := (fun b : Int32 => (some (Value.int b), M))) (by decide) (Nat.le_of_ble_eq_true rfl) hE (fun J g hr hG hl hR hn => ?_)
  show X J (fun b : Int32 => (some (Value.int b), M)) (fX11_hasRock φ t a1 a2 M) 0 [(0, .ref t), (1, .int a1), (2, .int a2)] [] M
  unfold fX11_hasRock
  exact (x_iconst g dX11_hasRock_0 kI_0
 (x_istore_n (L' := [(3, .int (0 : Int32)), (0, .ref t), (1, .int a1), (2, .int a2)]) g dX11_hasRock_1 rfl hn (Nat.le_of_ble_eq_true rfl) rfl
 (x_sub [1, 2, 3, 0] rfl (wlX11_hasRock_2 g hr hR hn  t a1 a2 M ht φ (0 : Int32)))))
def fX11_holds (φ : Nat) (t : Nat) (a1 : Int32) (M : Mem) : Option Int32 :=
  ixk a1 3900 (
 nm ((M.1 (t + 1) a1.toNatClampNeg) - (1700 : Int32)) (fun v1 =>
 ixk (a1 + (1 : Int32)) 3900 (
 nm (M.1 (t + 1) (a1 + (1 : Int32)).toNatClampNeg) (fun v2 =>
 ixk (a1 + (2 : Int32)) 3900 (
 nm (M.1 (t + 1) (a1 + (2 : Int32)).toNatClampNeg) (fun v3 =>
 if v1 = (22 : Int32) then
 (fX11_hasRock φ t v2 v3 M).bind fun v8 =>
 if v8 = 0 ∨ v8 = 1 then some v8 else none
 else
 if v1 = (23 : Int32) then
 (fX11_layersOf t v2 M).bind fun v6 =>
 if v6 ≤ 0 then
 some (0 : Int32)
 else
 (fX11_rockOf t v2 (0 : Int32) M).bind fun v7 =>
 if v7 = v3 then
 some (1 : Int32)
 else
 some (0 : Int32)
 else
 (fX11_layersOf t v2 M).bind fun v4 =>
 (fX11_allThick φ t v2 v4 M).bind fun v5 =>
 ixk (a1 + (5 : Int32)) 3900 (
 if (M.1 (t + 1) (a1 + (5 : Int32)).toNatClampNeg) = (60 : Int32) then
 if v3 ≤ v5 then
 some (0 : Int32)
 else
 some (1 : Int32)
 else
 ixk (a1 + (5 : Int32)) 3900 (
 if (M.1 (t + 1) (a1 + (5 : Int32)).toNatClampNeg) = (62 : Int32) then
 if v5 ≤ v3 then
 some (0 : Int32)
 else
 some (1 : Int32)
 else
 if v5 = v3 then
 some (1 : Int32)
 else
 some (0 : Int32)))))))))
set_option maxRecDepth 100000 in
set_option maxHeartbeats 4000000 in
theorem kX11_holds (φ : Nat) (t : Nat) (a1 : Int32) (M : Mem) (ht : isO 11 t) (l : Launch) (G : GT) {b : Int32} (hE : fX11_holds φ t a1 M = some b) : Ok l G yX11_holds cX11_holds 6 (some .boolean) 3 66 [.ref t, .int a1] M ((fun b : Int32 => (some (Value.int b), M)) b).1 ((fun b : Int32 => (some (Value.int b), M)) b).2 := by
  refine Ok.ofX (pj := (fun b : Int32 => (some (Value.int b), M))) (by decide) (Nat.le_of_ble_eq_true rfl) hE (fun J g hr hG hl hR hn => ?_)
  show X J (fun b : Int32 => (some (Value.int b), M)) (fX11_holds φ t a1 M) 0 [(0, .ref t), (1, .int a1)] [] M
  unfold fX11_holds
  exact (x_aload_n g 0 dX11_holds_0 rfl rfl
 (x_getS g 1 fl_RX11_7 rfl ht dX11_holds_1
 (x_iload_n g 1 dX11_holds_4 rfl rfl
 (x_iald g (so_11_0 ht) dX11_holds_5
 (x_sipush g dX11_holds_6 kS_1700
 (x_isub g dX11_holds_9
 (x_nmI (fun v1 => (x_istore_n (L' := [(2, .int v1), (0, .ref t), (1, .int a1)]) g dX11_holds_10 rfl hn (Nat.le_of_ble_eq_true rfl) rfl
 (x_aload_n g 1 dX11_holds_11 rfl rfl
 (x_getS g 1 fl_RX11_7 rfl ht dX11_holds_12
 (x_iload_n g 2 dX11_holds_15 rfl rfl
 (x_iconst g dX11_holds_16 kI_1
 (x_iadd g dX11_holds_17
 (x_iald g (so_11_0 ht) dX11_holds_18
 (x_nmI (fun v2 => (x_istore_n (L' := [(3, .int v2), (2, .int v1), (0, .ref t), (1, .int a1)]) g dX11_holds_19 rfl hn (Nat.le_of_ble_eq_true rfl) rfl
 (x_aload_n g 2 dX11_holds_20 rfl rfl
 (x_getS g 1 fl_RX11_7 rfl ht dX11_holds_21
 (x_iload_n g 3 dX11_holds_24 rfl rfl
 (x_iconst g dX11_holds_25 kI_2
 (x_iadd g dX11_holds_26
 (x_iald g (so_11_0 ht) dX11_holds_27
 (x_nmI (fun v3 => (x_istore (L' := [(4, .int v3), (3, .int v2), (2, .int v1), (0, .ref t), (1, .int a1)]) g dX11_holds_28 hn (Nat.le_of_ble_eq_true rfl) rfl
 (x_iload_n g 2 dX11_holds_30 rfl rfl
 (x_bipush g dX11_holds_31 kB_22
 (x_icmp_ne g 44 dX11_holds_33 rfl
 (fun _ => (x_iload_n g 2 dX11_holds_44 rfl rfl
 (x_bipush g dX11_holds_45 kB_23
 (x_icmp_ne g 75 dX11_holds_47 rfl
 (fun _ => (x_aload_n g 3 dX11_holds_75 rfl rfl
 (x_iload_n g 1 dX11_holds_76 rfl rfl
 (x_aload_n g 3 dX11_holds_77 rfl rfl
 (x_iload_n g 1 dX11_holds_78 rfl rfl
 (x_callVip (As := [.int v2]) g mv_X11_layersOf mi_X11_layersOf lk_RX11_305 ht (fun b hb => kX11_layersOf t v2 M ht _ _ hb) rfl rfl hR ⟨Nat.le_of_ble_eq_true rfl, Nat.le_of_ble_eq_true rfl⟩ (Nat.le_of_ble_eq_true rfl) dX11_holds_79 (fun v4 =>
 (x_callVip (As := [.int v2, .int v4]) g mv_X11_allThick mi_X11_allThick lk_RX11_299 ht (fun b hb => kX11_allThick φ t v2 v4 M ht _ _ hb) rfl rfl hR ⟨Nat.le_of_ble_eq_true rfl, Nat.le_of_ble_eq_true rfl⟩ (Nat.le_of_ble_eq_true rfl) dX11_holds_82 (fun v5 =>
 (x_istore (L' := [(5, .int v5), (4, .int v3), (3, .int v2), (2, .int v1), (0, .ref t), (1, .int a1)]) g dX11_holds_85 hn (Nat.le_of_ble_eq_true rfl) rfl
 (x_aload_n g 4 dX11_holds_87 rfl rfl
 (x_getS g 1 fl_RX11_7 rfl ht dX11_holds_88
 (x_iload_n g 5 dX11_holds_91 rfl rfl
 (x_iconst g dX11_holds_92 kI_5
 (x_iadd g dX11_holds_93
 (x_iald g (so_11_0 ht) dX11_holds_94
 (x_bipush g dX11_holds_95 kB_60
 (x_icmp_ne g 115 dX11_holds_97 rfl
 (fun _ => (x_aload_n g 4 dX11_holds_115 rfl rfl
 (x_getS g 1 fl_RX11_7 rfl ht dX11_holds_116
 (x_iload_n g 5 dX11_holds_119 rfl rfl
 (x_iconst g dX11_holds_120 kI_5
 (x_iadd g dX11_holds_121
 (x_iald g (so_11_0 ht) dX11_holds_122
 (x_bipush g dX11_holds_123 kB_62
 (x_icmp_ne g 143 dX11_holds_125 rfl
 (fun _ => (x_iload g 0 dX11_holds_143 rfl
 (x_iload g 1 dX11_holds_145 rfl
 (x_icmp_ne g 154 dX11_holds_147 rfl
 (fun _ => (x_iconst g dX11_holds_154 kI_0
 (x_iret g hr rfl rfl dX11_holds_155)))
 (fun _ => (x_iconst g dX11_holds_150 kI_1
 (x_goto g 155 dX11_holds_151 rfl
 (x_iret g hr rfl rfl dX11_holds_155))))))))
 (fun _ => (x_iload g 0 dX11_holds_128 rfl
 (x_iload g 1 dX11_holds_130 rfl
 (x_icmp_le g 139 dX11_holds_132 rfl
 (fun _ => (x_iconst g dX11_holds_139 kI_0
 (x_goto g 155 dX11_holds_140 rfl
 (x_iret g hr rfl rfl dX11_holds_155))))
 (fun _ => (x_iconst g dX11_holds_135 kI_1
 (x_goto g 155 dX11_holds_136 rfl
 (x_iret g hr rfl rfl dX11_holds_155)))))))))))))))))
 (fun _ => (x_iload g 0 dX11_holds_100 rfl
 (x_iload g 1 dX11_holds_102 rfl
 (x_icmp_ge g 111 dX11_holds_104 rfl
 (fun _ => (x_iconst g dX11_holds_111 kI_0
 (x_goto g 155 dX11_holds_112 rfl
 (x_iret g hr rfl rfl dX11_holds_155))))
 (fun _ => (x_iconst g dX11_holds_107 kI_1
 (x_goto g 155 dX11_holds_108 rfl
 (x_iret g hr rfl rfl dX11_holds_155))))))))))))))))))))))))))
 (fun _ => (x_aload_n g 3 dX11_holds_50 rfl rfl
 (x_iload_n g 1 dX11_holds_51 rfl rfl
 (x_callVip (As := [.int v2]) g mv_X11_layersOf mi_X11_layersOf lk_RX11_305 ht (fun b hb => kX11_layersOf t v2 M ht _ _ hb) rfl rfl hR ⟨Nat.le_of_ble_eq_true rfl, Nat.le_of_ble_eq_true rfl⟩ (Nat.le_of_ble_eq_true rfl) dX11_holds_52 (fun v6 =>
 (x_if_le g 73 dX11_holds_55 rfl
 (fun _ => (x_iconst g dX11_holds_73 kI_0
 (x_iret g hr rfl rfl dX11_holds_74)))
 (fun _ => (x_aload_n g 3 dX11_holds_58 rfl rfl
 (x_iload_n g 1 dX11_holds_59 rfl rfl
 (x_iconst g dX11_holds_60 kI_0
 (x_callVip (As := [.int v2, .int (0 : Int32)]) g mv_X11_rockOf mi_X11_rockOf lk_RX11_311 ht (fun b hb => kX11_rockOf t v2 (0 : Int32) M ht _ _ hb) rfl rfl hR ⟨Nat.le_of_ble_eq_true rfl, Nat.le_of_ble_eq_true rfl⟩ (Nat.le_of_ble_eq_true rfl) dX11_holds_61 (fun v7 =>
 (x_iload g 0 dX11_holds_64 rfl
 (x_icmp_ne g 73 dX11_holds_66 rfl
 (fun _ => (x_iconst g dX11_holds_73 kI_0
 (x_iret g hr rfl rfl dX11_holds_74)))
 (fun _ => (x_iconst g dX11_holds_69 kI_1
 (x_goto g 74 dX11_holds_70 rfl
 (x_iret g hr rfl rfl dX11_holds_74))))))))))))))))))))))
 (fun _ => (x_aload_n g 3 dX11_holds_36 rfl rfl
 (x_iload_n g 1 dX11_holds_37 rfl rfl
 (x_iload g 0 dX11_holds_38 rfl
 (x_callVip (As := [.int v2, .int v3]) g mv_X11_hasRock mi_X11_hasRock lk_RX11_459 ht (fun b hb => kX11_hasRock φ t v2 v3 M ht _ _ hb) rfl rfl hR ⟨Nat.le_of_ble_eq_true rfl, Nat.le_of_ble_eq_true rfl⟩ (Nat.le_of_ble_eq_true rfl) dX11_holds_40 (fun v8 =>
 (x_ck (fun hq9 => x_iret g hr (nbz hq9) rfl dX11_holds_43))))))))))))))))))))))))))))))))))))))
def lX11_behindEnds_2 (t : Nat) : Nat → Int32 → Mem → Option (Int32 × Mem)
  | 0, _, _ => none
  | n + 1, x2, M =>
    ixk (4 : Int32) 3900 (
 if (M.1 (t + 1) (4 : Int32).toNatClampNeg) ≤ x2 then
 some (x2, M)
 else
 ixk ((280 : Int32) + ((6 : Int32) * x2)) 3900 (
 if (M.1 (t + 1) ((280 : Int32) + ((6 : Int32) * x2)).toNatClampNeg) = (19 : Int32) then
 ixk (((280 : Int32) + ((6 : Int32) * x2)) + (4 : Int32)) 3900 (
 nm (M.1 (t + 1) (((280 : Int32) + ((6 : Int32) * x2)) + (4 : Int32)).toNatClampNeg) (fun v1 =>
 ixk ((280 : Int32) + ((6 : Int32) * v1)) 3900 (
 jn (fun (v2 : Int32) => ixk v1 80 (
 jn (fun (v4 : Int32) => ixk v1 80 (nm (stI M (t + 21) v1.toNatClampNeg ((M.1 (t + 21) v1.toNatClampNeg) - v4)) (fun M6 =>
 jn (fun (v7 : Int32) => lX11_behindEnds_2 t n v7 M6) (fun J8 => if v2 = 0 then
 J8 (x2 + (1 : Int32))
 else
 J8 (v1 + (1 : Int32)))))) (fun J5 => if v2 = 0 then
 J5 (0 : Int32)
 else
 J5 (1 : Int32)))) (fun J3 => jn (J3 (0 : Int32)) (fun J9 => if (M.1 (t + 1) ((280 : Int32) + ((6 : Int32) * v1)).toNatClampNeg) = (18 : Int32) then
 ixk v1 80 (
 if (M.1 (t + 21) v1.toNatClampNeg) ≤ 0 then
 J9
 else
 J3 (1 : Int32))
 else
 J9)))))
 else
 some (x2, M)))
theorem lX11_behindEnds_2_s (t : Nat) (n : Nat) (x2 : Int32) (M : Mem) : lX11_behindEnds_2 t (n + 1) x2 M =
    ixk (4 : Int32) 3900 (
 if (M.1 (t + 1) (4 : Int32).toNatClampNeg) ≤ x2 then
 some (x2, M)
 else
 ixk ((280 : Int32) + ((6 : Int32) * x2)) 3900 (
 if (M.1 (t + 1) ((280 : Int32) + ((6 : Int32) * x2)).toNatClampNeg) = (19 : Int32) then
 ixk (((280 : Int32) + ((6 : Int32) * x2)) + (4 : Int32)) 3900 (
 nm (M.1 (t + 1) (((280 : Int32) + ((6 : Int32) * x2)) + (4 : Int32)).toNatClampNeg) (fun v1 =>
 ixk ((280 : Int32) + ((6 : Int32) * v1)) 3900 (
 jn (fun (v2 : Int32) => ixk v1 80 (
 jn (fun (v4 : Int32) => ixk v1 80 (nm (stI M (t + 21) v1.toNatClampNeg ((M.1 (t + 21) v1.toNatClampNeg) - v4)) (fun M6 =>
 jn (fun (v7 : Int32) => lX11_behindEnds_2 t n v7 M6) (fun J8 => if v2 = 0 then
 J8 (x2 + (1 : Int32))
 else
 J8 (v1 + (1 : Int32)))))) (fun J5 => if v2 = 0 then
 J5 (0 : Int32)
 else
 J5 (1 : Int32)))) (fun J3 => jn (J3 (0 : Int32)) (fun J9 => if (M.1 (t + 1) ((280 : Int32) + ((6 : Int32) * v1)).toNatClampNeg) = (18 : Int32) then
 ixk v1 80 (
 if (M.1 (t + 21) v1.toNatClampNeg) ≤ 0 then
 J9
 else
 J3 (1 : Int32))
 else
 J9)))))
 else
 some (x2, M))) := rfl
theorem lX11_behindEnds_2_0 (t : Nat) (x2 : Int32) (M : Mem) : lX11_behindEnds_2 t 0 x2 M = none := rfl
set_option maxRecDepth 100000 in
set_option maxHeartbeats 4000000 in
theorem wlX11_behindEnds_2 {J : JT} (g : Gd J cX11_behindEnds RX11) (hr : Rt J (some .int)) (hR : (JR J).frames = 0 ∧ (JR J).locals = 0) (hn : Jn J = 5) (t : Nat) (ht : isO 11 t) : ∀ (n : Nat) (x2 : Int32) (M : Mem), X J (fun q : Int32 × Mem => (some (Value.int q.1), q.2)) (lX11_behindEnds_2 t n x2 M) 2 [(0, .ref t), (2, .int x2)] [] M := by
  intro n
  induction n with
  | zero =>
    intro x2 M
    exact x_none
  | succ n ih =>
    intro x2 M
    rw [lX11_behindEnds_2_s]
    exact (x_iload_n g 1 dX11_behindEnds_2 rfl rfl
 (x_aload_n g 0 dX11_behindEnds_3 rfl rfl
 (x_getS g 1 fl_RX11_7 rfl ht dX11_behindEnds_4
 (x_iconst g dX11_behindEnds_7 kI_4
 (x_iald g (so_11_0 ht) dX11_behindEnds_8
 (x_icmp_ge g 117 dX11_behindEnds_9 rfl
 (fun _ => (x_iload_n g 1 dX11_behindEnds_117 rfl rfl
 (x_iret g hr rfl rfl dX11_behindEnds_118)))
 (fun _ => (x_aload_n g 0 dX11_behindEnds_12 rfl rfl
 (x_getS g 1 fl_RX11_7 rfl ht dX11_behindEnds_13
 (x_sipush g dX11_behindEnds_16 kS_280
 (x_bipush g dX11_behindEnds_19 kB_6
 (x_iload_n g 1 dX11_behindEnds_21 rfl rfl
 (x_imul g dX11_behindEnds_22
 (x_iadd g dX11_behindEnds_23
 (x_iald g (so_11_0 ht) dX11_behindEnds_24
 (x_bipush g dX11_behindEnds_25 kB_19
 (x_icmp_ne g 117 dX11_behindEnds_27 rfl
 (fun _ => (x_iload_n g 1 dX11_behindEnds_117 rfl rfl
 (x_iret g hr rfl rfl dX11_behindEnds_118)))
 (fun _ => (x_aload_n g 0 dX11_behindEnds_30 rfl rfl
 (x_getS g 1 fl_RX11_7 rfl ht dX11_behindEnds_31
 (x_sipush g dX11_behindEnds_34 kS_280
 (x_bipush g dX11_behindEnds_37 kB_6
 (x_iload_n g 1 dX11_behindEnds_39 rfl rfl
 (x_imul g dX11_behindEnds_40
 (x_iadd g dX11_behindEnds_41
 (x_iconst g dX11_behindEnds_42 kI_4
 (x_iadd g dX11_behindEnds_43
 (x_iald g (so_11_0 ht) dX11_behindEnds_44
 (x_nmI (fun v1 => (x_istore_n (L' := [(3, .int v1), (0, .ref t), (2, .int x2)]) g dX11_behindEnds_45 rfl hn (Nat.le_of_ble_eq_true rfl) rfl
 (x_aload_n g 1 dX11_behindEnds_46 rfl rfl
 (x_getS g 1 fl_RX11_7 rfl ht dX11_behindEnds_47
 (x_sipush g dX11_behindEnds_50 kS_280
 (x_bipush g dX11_behindEnds_53 kB_6
 (x_iload_n g 0 dX11_behindEnds_55 rfl rfl
 (x_imul g dX11_behindEnds_56
 (x_iadd g dX11_behindEnds_57
 (x_iald g (so_11_0 ht) dX11_behindEnds_58
 (x_bipush g dX11_behindEnds_59 kB_18
 (x_jn (fun (J3 : Int32 → Option (Int32 × Mem)) => ∀ (v2 : Int32), X J (fun q : Int32 × Mem => (some (Value.int q.1), q.2)) (J3 v2) 78 [(0, .ref t), (2, .int x2), (3, .int v1)] [.int v2] M) (fun v2 => (x_istore (L' := [(4, .int v2), (0, .ref t), (2, .int x2), (3, .int v1)]) g dX11_behindEnds_78 hn (Nat.le_of_ble_eq_true rfl) rfl
 (x_aload_n g 1 dX11_behindEnds_80 rfl rfl
 (x_getS g 21 fl_RX11_87 rfl ht dX11_behindEnds_81
 (x_iload_n g 3 dX11_behindEnds_84 rfl rfl
 (x_dup2 g dX11_behindEnds_85 rfl rfl
 (x_iald g (so_11_41 ht) dX11_behindEnds_86
 (x_iload g 0 dX11_behindEnds_87 rfl
 (x_jn (fun (J5 : Int32 → Option (Int32 × Mem)) => ∀ (v4 : Int32), X J (fun q : Int32 × Mem => (some (Value.int q.1), q.2)) (J5 v4) 97 [(0, .ref t), (2, .int x2), (3, .int v1), (4, .int v2)] [.int v4, .int (M.1 (t + 21) v1.toNatClampNeg), .int v1, .ref (t + 21)] M) (fun v4 => (x_isub g dX11_behindEnds_97
 (x_iast g (so_11_41 ht) dX11_behindEnds_98 (x_nmM (fun M6 =>
 (x_iload g 3 dX11_behindEnds_99 rfl
 (x_jn (fun (J8 : Int32 → Option (Int32 × Mem)) => ∀ (v7 : Int32), X J (fun q : Int32 × Mem => (some (Value.int q.1), q.2)) (J8 v7) 113 [(0, .ref t)] [.int v7] M6) (fun v7 => (x_istore_n (L' := [(2, .int v7), (0, .ref t)]) g dX11_behindEnds_113 rfl hn (Nat.le_of_ble_eq_true rfl) rfl
 (x_goto g 2 dX11_behindEnds_114 rfl
 (x_sub [1, 0] rfl (ih v7 M6))))) (fun J8 hJ8 => (x_if_eq g 110 dX11_behindEnds_101 rfl
 (fun _ => (x_iload_n g 1 dX11_behindEnds_110 rfl rfl
 (x_iconst g dX11_behindEnds_111 kI_1
 (x_iadd g dX11_behindEnds_112
 (x_sub [0] rfl (hJ8 (x2 + (1 : Int32))))))))
 (fun _ => (x_iload_n g 2 dX11_behindEnds_104 rfl rfl
 (x_iconst g dX11_behindEnds_105 kI_1
 (x_iadd g dX11_behindEnds_106
 (x_goto g 113 dX11_behindEnds_107 rfl
 (x_sub [0] rfl (hJ8 (v1 + (1 : Int32)))))))))))))))))) (fun J5 hJ5 => (x_if_eq g 96 dX11_behindEnds_89 rfl
 (fun _ => (x_iconst g dX11_behindEnds_96 kI_0
 (x_sub [1, 2, 3, 0] rfl (hJ5 (0 : Int32)))))
 (fun _ => (x_iconst g dX11_behindEnds_92 kI_1
 (x_goto g 97 dX11_behindEnds_93 rfl
 (x_sub [1, 2, 3, 0] rfl (hJ5 (1 : Int32))))))))))))))))) (fun J3 hJ3 => (x_jn (fun (J9 : Option (Int32 × Mem)) => X J (fun q : Int32 × Mem => (some (Value.int q.1), q.2)) J9 77 [(0, .ref t), (2, .int x2), (3, .int v1)] [] M) (x_iconst g dX11_behindEnds_77 kI_0
 (hJ3 (0 : Int32))) (fun J9 hJ9 => (x_icmp_ne g 77 dX11_behindEnds_61 rfl
 (fun _ => (x_sub [1, 2, 0] rfl (hJ9)))
 (fun _ => (x_aload_n g 1 dX11_behindEnds_64 rfl rfl
 (x_getS g 21 fl_RX11_87 rfl ht dX11_behindEnds_65
 (x_iload_n g 0 dX11_behindEnds_68 rfl rfl
 (x_iald g (so_11_41 ht) dX11_behindEnds_69
 (x_if_le g 77 dX11_behindEnds_70 rfl
 (fun _ => (x_sub [1, 2, 0] rfl (hJ9)))
 (fun _ => (x_iconst g dX11_behindEnds_73 kI_1
 (x_goto g 78 dX11_behindEnds_74 rfl
 (x_sub [1, 2, 0] rfl (hJ3 (1 : Int32)))))))))))))))))))))))))))))))))))))))))))))))))))))))))
def fX11_behindEnds (φ : Nat) (t : Nat) (a1 : Int32) (M : Mem) : Option (Int32 × Mem) :=
  lX11_behindEnds_2 t φ a1 M
set_option maxRecDepth 100000 in
set_option maxHeartbeats 4000000 in
theorem kX11_behindEnds (φ : Nat) (t : Nat) (a1 : Int32) (M : Mem) (ht : isO 11 t) (l : Launch) (G : GT) {b : (Int32 × Mem)} (hE : fX11_behindEnds φ t a1 M = some b) : Ok l G yX11_behindEnds cX11_behindEnds 5 (some .int) 0 0 [.ref t, .int a1] M ((fun q : Int32 × Mem => (some (Value.int q.1), q.2)) b).1 ((fun q : Int32 × Mem => (some (Value.int q.1), q.2)) b).2 := by
  refine Ok.ofX (pj := (fun q : Int32 × Mem => (some (Value.int q.1), q.2))) (by decide) (Nat.le_of_ble_eq_true rfl) hE (fun J g hr hG hl hR hn => ?_)
  show X J (fun q : Int32 × Mem => (some (Value.int q.1), q.2)) (fX11_behindEnds φ t a1 M) 0 [(0, .ref t), (1, .int a1)] [] M
  unfold fX11_behindEnds
  exact (x_iload_n g 1 dX11_behindEnds_0 rfl rfl
 (x_istore_n (L' := [(2, .int a1), (0, .ref t), (1, .int a1)]) g dX11_behindEnds_1 rfl hn (Nat.le_of_ble_eq_true rfl) rfl
 (x_sub [1, 0] rfl (wlX11_behindEnds_2 g hr hR hn  t ht φ a1 M))))
def lX11_lives_12 (K30 : Mem → Option (Unit × Mem)) (t : Nat) : Nat → Int32 → Mem → Option (Unit × Mem)
  | 0, _, _ => none
  | n + 1, x2, M =>
    if (4 : Int32) ≤ x2 then
 K30 M
 else
 ixk x2 4 (nm (stI M (t + 22) x2.toNatClampNeg (0 : Int32)) (fun M3 =>
 lX11_lives_12 K30 t n (x2 + 1) M3))
theorem lX11_lives_12_s (K30 : Mem → Option (Unit × Mem)) (t : Nat) (n : Nat) (x2 : Int32) (M : Mem) : lX11_lives_12 K30 t (n + 1) x2 M =
    if (4 : Int32) ≤ x2 then
 K30 M
 else
 ixk x2 4 (nm (stI M (t + 22) x2.toNatClampNeg (0 : Int32)) (fun M3 =>
 lX11_lives_12 K30 t n (x2 + 1) M3)) := rfl
theorem lX11_lives_12_0 (K30 : Mem → Option (Unit × Mem)) (t : Nat) (x2 : Int32) (M : Mem) : lX11_lives_12 K30 t 0 x2 M = none := rfl
set_option maxRecDepth 100000 in
set_option maxHeartbeats 4000000 in
theorem wlX11_lives_12 {J : JT} (g : Gd J cX11_lives RX11) (hr : Rt J none) (hR : (JR J).frames = 4 ∧ (JR J).locals = 92) (hn : Jn J = 4) (K30 : Mem → Option (Unit × Mem)) (t : Nat) (ht : isO 11 t) (hK30 : ∀ (M : Mem), X J (fun q : Unit × Mem => ((none : Option Value), q.2)) (K30 M) 30 [(0, .ref t)] [] M) : ∀ (n : Nat) (x2 : Int32) (M : Mem), X J (fun q : Unit × Mem => ((none : Option Value), q.2)) (lX11_lives_12 K30 t n x2 M) 12 [(0, .ref t), (2, .int x2)] [] M := by
  intro n
  induction n with
  | zero =>
    intro x2 M
    exact x_none
  | succ n ih =>
    intro x2 M
    rw [lX11_lives_12_s]
    exact (x_iload_n g 1 dX11_lives_12 rfl rfl
 (x_iconst g dX11_lives_13 kI_4
 (x_icmp_ge g 30 dX11_lives_14 rfl
 (fun _ => (x_sub [0] rfl (hK30 M)))
 (fun _ => (x_aload_n g 0 dX11_lives_17 rfl rfl
 (x_getS g 22 fl_RX11_90 rfl ht dX11_lives_18
 (x_iload_n g 1 dX11_lives_21 rfl rfl
 (x_iconst g dX11_lives_22 kI_0
 (x_iast g (so_11_42 ht) dX11_lives_23 (x_nmM (fun M3 =>
 (x_iinc (L' := [(2, .int (x2 + 1)), (0, .ref t)]) (v := (x2 + 1)) g 1 dX11_lives_24 rfl (by rw [kI_1]) hn (Nat.le_of_ble_eq_true rfl) rfl
 (x_goto g 12 dX11_lives_27 rfl
 (x_sub [1, 0] rfl (ih (x2 + 1) M3)))))))))))))))
def lX11_lives_32 (K52 : Mem → Option (Unit × Mem)) (φ : Nat) (t : Nat) : Nat → Int32 → Mem → Option (Unit × Mem)
  | 0, _, _ => none
  | n + 1, x2, M =>
    ixk (4 : Int32) 3900 (
 if (M.1 (t + 1) (4 : Int32).toNatClampNeg) ≤ x2 then
 some ((), M)
 else
 if (M.1 t 40) = (300 : Int32) then
 K52 M
 else
 nm ((280 : Int32) + ((6 : Int32) * x2)) (fun v5 =>
 nm (stI M t 40 ((M.1 t 40) + (1 : Int32))) (fun M6 =>
 ixk v5 3900 (
 if (M6.1 (t + 1) v5.toNatClampNeg) = (20 : Int32) then
 some ((), M6)
 else
 bd (fX11_does φ t v5 M6) fun vu7 M8 =>
 ixk v5 3900 (
 jn (fun (M9 : Mem) => ixk v5 3900 (
 jn (fun (v11 : Int32) => bd (fX11_behindEnds φ t v11 M9) fun v13 M14 =>
 lX11_lives_32 K52 φ t n v13 M14) (fun J12 => jn (J12 (x2 + (1 : Int32))) (fun J15 => if (M9.1 (t + 1) v5.toNatClampNeg) < (1700 : Int32) then
 J15
 else
 (fX11_holds φ t v5 M9).bind fun v16 =>
 if v16 = 0 then
 ixk (v5 + (4 : Int32)) 3900 (
 J12 ((M9.1 (t + 1) (v5 + (4 : Int32)).toNatClampNeg) + (1 : Int32)))
 else
 J15)))) (fun J10 => if (M8.1 (t + 1) v5.toNatClampNeg) = (18 : Int32) then
 ixk (v5 + (1 : Int32)) 3900 (
 ixk x2 80 (nm (stI M8 (t + 21) x2.toNatClampNeg ((M8.1 (t + 1) (v5 + (1 : Int32)).toNatClampNeg) - (1 : Int32))) (fun M17 =>
 J10 M17)))
 else
 J10 M8))))))
theorem lX11_lives_32_s (K52 : Mem → Option (Unit × Mem)) (φ : Nat) (t : Nat) (n : Nat) (x2 : Int32) (M : Mem) : lX11_lives_32 K52 φ t (n + 1) x2 M =
    ixk (4 : Int32) 3900 (
 if (M.1 (t + 1) (4 : Int32).toNatClampNeg) ≤ x2 then
 some ((), M)
 else
 if (M.1 t 40) = (300 : Int32) then
 K52 M
 else
 nm ((280 : Int32) + ((6 : Int32) * x2)) (fun v5 =>
 nm (stI M t 40 ((M.1 t 40) + (1 : Int32))) (fun M6 =>
 ixk v5 3900 (
 if (M6.1 (t + 1) v5.toNatClampNeg) = (20 : Int32) then
 some ((), M6)
 else
 bd (fX11_does φ t v5 M6) fun vu7 M8 =>
 ixk v5 3900 (
 jn (fun (M9 : Mem) => ixk v5 3900 (
 jn (fun (v11 : Int32) => bd (fX11_behindEnds φ t v11 M9) fun v13 M14 =>
 lX11_lives_32 K52 φ t n v13 M14) (fun J12 => jn (J12 (x2 + (1 : Int32))) (fun J15 => if (M9.1 (t + 1) v5.toNatClampNeg) < (1700 : Int32) then
 J15
 else
 (fX11_holds φ t v5 M9).bind fun v16 =>
 if v16 = 0 then
 ixk (v5 + (4 : Int32)) 3900 (
 J12 ((M9.1 (t + 1) (v5 + (4 : Int32)).toNatClampNeg) + (1 : Int32)))
 else
 J15)))) (fun J10 => if (M8.1 (t + 1) v5.toNatClampNeg) = (18 : Int32) then
 ixk (v5 + (1 : Int32)) 3900 (
 ixk x2 80 (nm (stI M8 (t + 21) x2.toNatClampNeg ((M8.1 (t + 1) (v5 + (1 : Int32)).toNatClampNeg) - (1 : Int32))) (fun M17 =>
 J10 M17)))
 else
 J10 M8)))))) := rfl
theorem lX11_lives_32_0 (K52 : Mem → Option (Unit × Mem)) (φ : Nat) (t : Nat) (x2 : Int32) (M : Mem) : lX11_lives_32 K52 φ t 0 x2 M = none := rfl
set_option maxRecDepth 100000 in
set_option maxHeartbeats 4000000 in
theorem wlX11_lives_32 {J : JT} (g : Gd J cX11_lives RX11) (hr : Rt J none) (hR : (JR J).frames = 4 ∧ (JR J).locals = 92) (hn : Jn J = 4) (K52 : Mem → Option (Unit × Mem)) (φ : Nat) (t : Nat) (ht : isO 11 t) (hK52 : ∀ (M : Mem), X J (fun q : Unit × Mem => ((none : Option Value), q.2)) (K52 M) 52 [(0, .ref t)] [] M) : ∀ (n : Nat) (x2 : Int32) (M : Mem), X J (fun q : Unit × Mem => ((none : Option Value), q.2)) (lX11_lives_32 K52 φ t n x2 M) 32 [(0, .ref t), (2, .int x2)] [] M := by
  intro n
  induction n with
  | zero =>
    intro x2 M
    exact x_none
  | succ n ih =>
    intro x2 M
    rw [lX11_lives_32_s]
    exact (x_iload_n g 1 dX11_lives_32 rfl rfl
 (x_aload_n g 0 dX11_lives_33 rfl rfl
 (x_getS g 1 fl_RX11_7 rfl ht dX11_lives_34
 (x_iconst g dX11_lives_37 kI_4
 (x_iald g (so_11_0 ht) dX11_lives_38
 (x_icmp_ge g 167 dX11_lives_39 rfl
 (fun _ => (x_vret g hr rfl dX11_lives_167))
 (fun _ => (x_aload_n g 0 dX11_lives_42 rfl rfl
 (x_getI g fl_RX11_462 rfl ht dX11_lives_43
 (x_sipush g dX11_lives_46 kS_300
 (x_icmp_ne g 60 dX11_lives_49 rfl
 (fun _ => (x_sipush g dX11_lives_60 kS_280
 (x_bipush g dX11_lives_63 kB_6
 (x_iload_n g 1 dX11_lives_65 rfl rfl
 (x_imul g dX11_lives_66
 (x_iadd g dX11_lives_67
 (x_nmI (fun v5 => (x_istore_n (L' := [(3, .int v5), (0, .ref t), (2, .int x2)]) g dX11_lives_68 rfl hn (Nat.le_of_ble_eq_true rfl) rfl
 (x_aload_n g 1 dX11_lives_69 rfl rfl
 (x_dup g dX11_lives_70 rfl
 (x_getI g fl_RX11_462 rfl ht dX11_lives_71
 (x_iconst g dX11_lives_74 kI_1
 (x_iadd g dX11_lives_75
 (x_putI g fp_RX11_462 rfl (Nat.le_of_ble_eq_true rfl) ht dX11_lives_76 (x_nmM (fun M6 =>
 (x_aload_n g 1 dX11_lives_79 rfl rfl
 (x_getS g 1 fl_RX11_7 rfl ht dX11_lives_80
 (x_iload_n g 0 dX11_lives_83 rfl rfl
 (x_iald g (so_11_0 ht) dX11_lives_84
 (x_bipush g dX11_lives_85 kB_20
 (x_icmp_ne g 91 dX11_lives_87 rfl
 (fun _ => (x_aload_n g 1 dX11_lives_91 rfl rfl
 (x_iload_n g 0 dX11_lives_92 rfl rfl
 (x_callVv (As := [.int v5]) g mv_X11_does mi_X11_does lk_RX11_465 ht (fun b Mh_ hb => kX11_does φ t v5 M6 ht _ _ hb) rfl rfl hR ⟨Nat.le_of_ble_eq_true rfl, Nat.le_of_ble_eq_true rfl⟩ (Nat.le_of_ble_eq_true rfl) dX11_lives_93 (fun vu7 M8 =>
 (x_aload_n g 1 dX11_lives_96 rfl rfl
 (x_getS g 1 fl_RX11_7 rfl ht dX11_lives_97
 (x_iload_n g 0 dX11_lives_100 rfl rfl
 (x_iald g (so_11_0 ht) dX11_lives_101
 (x_bipush g dX11_lives_102 kB_18
 (x_jn (fun (J10 : Mem → Option (Unit × Mem)) => ∀ (M9 : Mem), X J (fun q : Unit × Mem => ((none : Option Value), q.2)) (J10 M9) 123 [(0, .ref t), (2, .int x2), (3, .int v5)] [] M9) (fun M9 => (x_aload_n g 0 dX11_lives_123 rfl rfl
 (x_aload_n g 0 dX11_lives_124 rfl rfl
 (x_getS g 1 fl_RX11_7 rfl ht dX11_lives_125
 (x_iload_n g 2 dX11_lives_128 rfl rfl
 (x_iald g (so_11_0 ht) dX11_lives_129
 (x_sipush g dX11_lives_130 kS_1700
 (x_jn (fun (J12 : Int32 → Option (Unit × Mem)) => ∀ (v11 : Int32), X J (fun q : Unit × Mem => ((none : Option Value), q.2)) (J12 v11) 160 [(0, .ref t)] [.int v11, .ref t] M9) (fun v11 => (x_callVi (As := [.int v11]) g mv_X11_behindEnds mi_X11_behindEnds lk_RX11_471 ht (fun b Mh_ hb => kX11_behindEnds φ t v11 M9 ht _ _ hb) rfl rfl hR ⟨Nat.le_of_ble_eq_true rfl, Nat.le_of_ble_eq_true rfl⟩ (Nat.le_of_ble_eq_true rfl) dX11_lives_160 (fun v13 M14 =>
 (x_istore_n (L' := [(2, .int v13), (0, .ref t)]) g dX11_lives_163 rfl hn (Nat.le_of_ble_eq_true rfl) rfl
 (x_goto g 32 dX11_lives_164 rfl
 (x_sub [1, 0] rfl (ih v13 M14))))))) (fun J12 hJ12 => (x_jn (fun (J15 : Option (Unit × Mem)) => X J (fun q : Unit × Mem => ((none : Option Value), q.2)) J15 157 [(0, .ref t), (2, .int x2)] [.ref t] M9) (x_iload_n g 1 dX11_lives_157 rfl rfl
 (x_iconst g dX11_lives_158 kI_1
 (x_iadd g dX11_lives_159
 (x_sub [0] rfl (hJ12 (x2 + (1 : Int32))))))) (fun J15 hJ15 => (x_icmp_lt g 157 dX11_lives_133 rfl
 (fun _ => (x_sub [0, 1] rfl (hJ15)))
 (fun _ => (x_aload_n g 0 dX11_lives_136 rfl rfl
 (x_iload_n g 2 dX11_lives_137 rfl rfl
 (x_callVip (As := [.int v5]) g mv_X11_holds mi_X11_holds lk_RX11_468 ht (fun b hb => kX11_holds φ t v5 M9 ht _ _ hb) rfl rfl hR ⟨Nat.le_of_ble_eq_true rfl, Nat.le_of_ble_eq_true rfl⟩ (Nat.le_of_ble_eq_true rfl) dX11_lives_138 (fun v16 =>
 (x_if_ne g 157 dX11_lives_141 rfl
 (fun _ => (x_sub [0, 1] rfl (hJ15)))
 (fun _ => (x_aload_n g 0 dX11_lives_144 rfl rfl
 (x_getS g 1 fl_RX11_7 rfl ht dX11_lives_145
 (x_iload_n g 2 dX11_lives_148 rfl rfl
 (x_iconst g dX11_lives_149 kI_4
 (x_iadd g dX11_lives_150
 (x_iald g (so_11_0 ht) dX11_lives_151
 (x_iconst g dX11_lives_152 kI_1
 (x_iadd g dX11_lives_153
 (x_goto g 160 dX11_lives_154 rfl
 (x_sub [0] rfl (hJ12 ((M9.1 (t + 1) (v5 + (4 : Int32)).toNatClampNeg) + (1 : Int32)))))))))))))))))))))))))))))))) (fun J10 hJ10 => (x_icmp_ne g 123 dX11_lives_104 rfl
 (fun _ => (x_sub [1, 2, 0] rfl (hJ10 M8)))
 (fun _ => (x_aload_n g 1 dX11_lives_107 rfl rfl
 (x_getS g 21 fl_RX11_87 rfl ht dX11_lives_108
 (x_iload_n g 2 dX11_lives_111 rfl rfl
 (x_aload_n g 1 dX11_lives_112 rfl rfl
 (x_getS g 1 fl_RX11_7 rfl ht dX11_lives_113
 (x_iload_n g 0 dX11_lives_116 rfl rfl
 (x_iconst g dX11_lives_117 kI_1
 (x_iadd g dX11_lives_118
 (x_iald g (so_11_0 ht) dX11_lives_119
 (x_iconst g dX11_lives_120 kI_1
 (x_isub g dX11_lives_121
 (x_iast g (so_11_41 ht) dX11_lives_122 (x_nmM (fun M17 =>
 (x_sub [1, 2, 0] rfl (hJ10 M17))))))))))))))))))))))))))))))
 (fun _ => (x_vret g hr rfl dX11_lives_90)))))))))))))))))))))))))
 (fun _ => (x_sub [0] rfl (hK52 M))))))))))))))
def fX11_lives (φ : Nat) (t : Nat) (a1 : Int32) (M : Mem) : Option (Unit × Mem) :=
  nm (stI M t 39 a1) (fun M1 =>
 nm (stI M1 t 40 (0 : Int32)) (fun M2 =>
 lX11_lives_12 (fun (M4 : Mem) => lX11_lives_32 (fun (M18 : Mem) => ixk (3 : Int32) 4 (nm (stI M18 (t + 22) (3 : Int32).toNatClampNeg (1 : Int32)) (fun M19 =>
 some ((), M19)))) φ t φ (0 : Int32) M4) t φ (0 : Int32) M2))
set_option maxRecDepth 100000 in
set_option maxHeartbeats 4000000 in
theorem kX11_lives (φ : Nat) (t : Nat) (a1 : Int32) (M : Mem) (ht : isO 11 t) (l : Launch) (G : GT) {b : (Unit × Mem)} (hE : fX11_lives φ t a1 M = some b) : Ok l G yX11_lives cX11_lives 4 none 4 92 [.ref t, .int a1] M ((fun q : Unit × Mem => ((none : Option Value), q.2)) b).1 ((fun q : Unit × Mem => ((none : Option Value), q.2)) b).2 := by
  refine Ok.ofX (pj := (fun q : Unit × Mem => ((none : Option Value), q.2))) (by decide) (Nat.le_of_ble_eq_true rfl) hE (fun J g hr hG hl hR hn => ?_)
  show X J (fun q : Unit × Mem => ((none : Option Value), q.2)) (fX11_lives φ t a1 M) 0 [(0, .ref t), (1, .int a1)] [] M
  unfold fX11_lives
  exact (x_aload_n g 0 dX11_lives_0 rfl rfl
 (x_iload_n g 1 dX11_lives_1 rfl rfl
 (x_putI g fp_RX11_452 rfl (Nat.le_of_ble_eq_true rfl) ht dX11_lives_2 (x_nmM (fun M1 =>
 (x_aload_n g 0 dX11_lives_5 rfl rfl
 (x_iconst g dX11_lives_6 kI_0
 (x_putI g fp_RX11_462 rfl (Nat.le_of_ble_eq_true rfl) ht dX11_lives_7 (x_nmM (fun M2 =>
 (x_iconst g dX11_lives_10 kI_0
 (x_istore_n (L' := [(2, .int (0 : Int32)), (0, .ref t), (1, .int a1)]) g dX11_lives_11 rfl hn (Nat.le_of_ble_eq_true rfl) rfl
 (x_sub [1, 0] rfl (wlX11_lives_12 g hr hR hn _ t ht
 (fun M4 => by exact (x_iconst g dX11_lives_30 kI_0
 (x_istore_n (L' := [(2, .int (0 : Int32)), (0, .ref t)]) g dX11_lives_31 rfl hn (Nat.le_of_ble_eq_true rfl) rfl
 (x_sub [1, 0] rfl (wlX11_lives_32 g hr hR hn _ φ t ht
 (fun M18 => by exact (x_aload_n g 0 dX11_lives_52 rfl rfl
 (x_getS g 22 fl_RX11_90 rfl ht dX11_lives_53
 (x_iconst g dX11_lives_56 kI_3
 (x_iconst g dX11_lives_57 kI_1
 (x_iast g (so_11_42 ht) dX11_lives_58 (x_nmM (fun M19 =>
 (x_vret g hr rfl dX11_lives_59))))))))) φ (0 : Int32) M4))))) φ (0 : Int32) M2))))))))))))))
