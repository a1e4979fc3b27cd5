theorem dX11_inWords_0 : decode cX11_inWords 0 = .ok (.aload_n 0, 1) := by decide +kernel
theorem dX11_inWords_1 : decode cX11_inWords 1 = .ok (.getfield 148, 3) := by decide +kernel
theorem dX11_inWords_4 : decode cX11_inWords 4 = .ok (.iconst 2, 1) := by decide +kernel
theorem dX11_inWords_5 : decode cX11_inWords 5 = .ok (.if_icmp .eq 5, 3) := by decide +kernel
theorem dX11_inWords_8 : decode cX11_inWords 8 = .ok (.iconst (-1), 1) := by decide +kernel
theorem dX11_inWords_9 : decode cX11_inWords 9 = .ok (.ireturn, 1) := by decide +kernel
theorem dX11_inWords_10 : decode cX11_inWords 10 = .ok (.iconst 0, 1) := by decide +kernel
theorem dX11_inWords_11 : decode cX11_inWords 11 = .ok (.istore_n 2, 1) := by decide +kernel
theorem dX11_inWords_12 : decode cX11_inWords 12 = .ok (.iconst 1, 1) := by decide +kernel
theorem dX11_inWords_13 : decode cX11_inWords 13 = .ok (.istore_n 3, 1) := by decide +kernel
theorem dX11_inWords_14 : decode cX11_inWords 14 = .ok (.iload_n 3, 1) := by decide +kernel
theorem dX11_inWords_15 : decode cX11_inWords 15 = .ok (.aload_n 1, 1) := by decide +kernel
theorem dX11_inWords_16 : decode cX11_inWords 16 = .ok (.invokevirtual 163, 3) := by decide +kernel
theorem dX11_inWords_19 : decode cX11_inWords 19 = .ok (.if_icmp .ge 114, 3) := by decide +kernel
theorem dX11_inWords_22 : decode cX11_inWords 22 = .ok (.iload_n 3, 1) := by decide +kernel
theorem dX11_inWords_23 : decode cX11_inWords 23 = .ok (.istore 4, 2) := by decide +kernel
theorem dX11_inWords_25 : decode cX11_inWords 25 = .ok (.aload_n 1, 1) := by decide +kernel
theorem dX11_inWords_26 : decode cX11_inWords 26 = .ok (.iload 4, 2) := by decide +kernel
theorem dX11_inWords_28 : decode cX11_inWords 28 = .ok (.invokevirtual 169, 3) := by decide +kernel
theorem dX11_inWords_31 : decode cX11_inWords 31 = .ok (.bipush 32, 2) := by decide +kernel
theorem dX11_inWords_33 : decode cX11_inWords 33 = .ok (.if_icmp .eq 9, 3) := by decide +kernel
theorem dX11_inWords_36 : decode cX11_inWords 36 = .ok (.iinc 4 1, 3) := by decide +kernel
theorem dX11_inWords_39 : decode cX11_inWords 39 = .ok (.goto (-14), 3) := by decide +kernel
theorem dX11_inWords_42 : decode cX11_inWords 42 = .ok (.iload 4, 2) := by decide +kernel
theorem dX11_inWords_44 : decode cX11_inWords 44 = .ok (.iload_n 3, 1) := by decide +kernel
theorem dX11_inWords_45 : decode cX11_inWords 45 = .ok (.isub, 1) := by decide +kernel
theorem dX11_inWords_46 : decode cX11_inWords 46 = .ok (.aload_n 0, 1) := by decide +kernel
theorem dX11_inWords_47 : decode cX11_inWords 47 = .ok (.getfield 136, 3) := by decide +kernel
theorem dX11_inWords_50 : decode cX11_inWords 50 = .ok (.aload_n 0, 1) := by decide +kernel
theorem dX11_inWords_51 : decode cX11_inWords 51 = .ok (.getfield 142, 3) := by decide +kernel
theorem dX11_inWords_54 : decode cX11_inWords 54 = .ok (.isub, 1) := by decide +kernel
theorem dX11_inWords_55 : decode cX11_inWords 55 = .ok (.if_icmp .ne 7, 3) := by decide +kernel
theorem dX11_inWords_58 : decode cX11_inWords 58 = .ok (.iconst 1, 1) := by decide +kernel
theorem dX11_inWords_59 : decode cX11_inWords 59 = .ok (.goto 4, 3) := by decide +kernel
theorem dX11_inWords_62 : decode cX11_inWords 62 = .ok (.iconst 0, 1) := by decide +kernel
theorem dX11_inWords_63 : decode cX11_inWords 63 = .ok (.istore 5, 2) := by decide +kernel
theorem dX11_inWords_65 : decode cX11_inWords 65 = .ok (.iload_n 3, 1) := by decide +kernel
theorem dX11_inWords_66 : decode cX11_inWords 66 = .ok (.istore 6, 2) := by decide +kernel
theorem dX11_inWords_68 : decode cX11_inWords 68 = .ok (.iload 6, 2) := by decide +kernel
theorem dX11_inWords_70 : decode cX11_inWords 70 = .ok (.iload 4, 2) := by decide +kernel
theorem dX11_inWords_72 : decode cX11_inWords 72 = .ok (.if_icmp .ge 43, 3) := by decide +kernel
theorem dX11_inWords_75 : decode cX11_inWords 75 = .ok (.iload 5, 2) := by decide +kernel
theorem dX11_inWords_77 : decode cX11_inWords 77 = .ok (.ifCond .eq 38, 3) := by decide +kernel
theorem dX11_inWords_80 : decode cX11_inWords 80 = .ok (.aload_n 1, 1) := by decide +kernel
theorem dX11_inWords_81 : decode cX11_inWords 81 = .ok (.iload 6, 2) := by decide +kernel
theorem dX11_inWords_83 : decode cX11_inWords 83 = .ok (.invokevirtual 169, 3) := by decide +kernel
theorem dX11_inWords_86 : decode cX11_inWords 86 = .ok (.aload_n 0, 1) := by decide +kernel
theorem dX11_inWords_87 : decode cX11_inWords 87 = .ok (.aload_n 0, 1) := by decide +kernel
theorem dX11_inWords_88 : decode cX11_inWords 88 = .ok (.getfield 142, 3) := by decide +kernel
theorem dX11_inWords_91 : decode cX11_inWords 91 = .ok (.iload 6, 2) := by decide +kernel
theorem dX11_inWords_93 : decode cX11_inWords 93 = .ok (.iadd, 1) := by decide +kernel
theorem dX11_inWords_94 : decode cX11_inWords 94 = .ok (.iload_n 3, 1) := by decide +kernel
theorem dX11_inWords_95 : decode cX11_inWords 95 = .ok (.isub, 1) := by decide +kernel
theorem dX11_inWords_96 : decode cX11_inWords 96 = .ok (.invokevirtual 139, 3) := by decide +kernel
theorem dX11_inWords_99 : decode cX11_inWords 99 = .ok (.if_icmp .ne 7, 3) := by decide +kernel
theorem dX11_inWords_102 : decode cX11_inWords 102 = .ok (.iconst 1, 1) := by decide +kernel
theorem dX11_inWords_103 : decode cX11_inWords 103 = .ok (.goto 4, 3) := by decide +kernel
theorem dX11_inWords_106 : decode cX11_inWords 106 = .ok (.iconst 0, 1) := by decide +kernel
theorem dX11_inWords_107 : decode cX11_inWords 107 = .ok (.istore 5, 2) := by decide +kernel
theorem dX11_inWords_109 : decode cX11_inWords 109 = .ok (.iinc 6 1, 3) := by decide +kernel
theorem dX11_inWords_112 : decode cX11_inWords 112 = .ok (.goto (-44), 3) := by decide +kernel
theorem dX11_inWords_115 : decode cX11_inWords 115 = .ok (.iload 5, 2) := by decide +kernel
theorem dX11_inWords_117 : decode cX11_inWords 117 = .ok (.ifCond .eq 5, 3) := by decide +kernel
theorem dX11_inWords_120 : decode cX11_inWords 120 = .ok (.iload_n 2, 1) := by decide +kernel
theorem dX11_inWords_121 : decode cX11_inWords 121 = .ok (.ireturn, 1) := by decide +kernel
theorem dX11_inWords_122 : decode cX11_inWords 122 = .ok (.iinc 2 1, 3) := by decide +kernel
theorem dX11_inWords_125 : decode cX11_inWords 125 = .ok (.iload 4, 2) := by decide +kernel
theorem dX11_inWords_127 : decode cX11_inWords 127 = .ok (.iconst 1, 1) := by decide +kernel
theorem dX11_inWords_128 : decode cX11_inWords 128 = .ok (.iadd, 1) := by decide +kernel
theorem dX11_inWords_129 : decode cX11_inWords 129 = .ok (.istore_n 3, 1) := by decide +kernel
theorem dX11_inWords_130 : decode cX11_inWords 130 = .ok (.goto (-116), 3) := by decide +kernel
theorem dX11_inWords_133 : decode cX11_inWords 133 = .ok (.iconst (-1), 1) := by decide +kernel
theorem dX11_inWords_134 : decode cX11_inWords 134 = .ok (.ireturn, 1) := by decide +kernel
theorem dX11_fails_0 : decode cX11_fails 0 = .ok (.aload_n 0, 1) := by decide +kernel
theorem dX11_fails_1 : decode cX11_fails 1 = .ok (.getfield 173, 3) := by decide +kernel
theorem dX11_fails_4 : decode cX11_fails 4 = .ok (.ifCond .ne 28, 3) := by decide +kernel
theorem dX11_fails_7 : decode cX11_fails 7 = .ok (.aload_n 0, 1) := by decide +kernel
theorem dX11_fails_8 : decode cX11_fails 8 = .ok (.aload_n 0, 1) := by decide +kernel
theorem dX11_fails_9 : decode cX11_fails 9 = .ok (.getfield 148, 3) := by decide +kernel
theorem dX11_fails_12 : decode cX11_fails 12 = .ok (.iconst 1, 1) := by decide +kernel
theorem dX11_fails_13 : decode cX11_fails 13 = .ok (.if_icmp .ne 7, 3) := by decide +kernel
theorem dX11_fails_16 : decode cX11_fails 16 = .ok (.iconst 1, 1) := by decide +kernel
theorem dX11_fails_17 : decode cX11_fails 17 = .ok (.goto 4, 3) := by decide +kernel
theorem dX11_fails_20 : decode cX11_fails 20 = .ok (.iload_n 1, 1) := by decide +kernel
theorem dX11_fails_21 : decode cX11_fails 21 = .ok (.putfield 173, 3) := by decide +kernel
theorem dX11_fails_24 : decode cX11_fails 24 = .ok (.aload_n 0, 1) := by decide +kernel
theorem dX11_fails_25 : decode cX11_fails 25 = .ok (.aload_n 0, 1) := by decide +kernel
theorem dX11_fails_26 : decode cX11_fails 26 = .ok (.getfield 142, 3) := by decide +kernel
theorem dX11_fails_29 : decode cX11_fails 29 = .ok (.putfield 41, 3) := by decide +kernel
theorem dX11_fails_32 : decode cX11_fails 32 = .ok (.iconst 0, 1) := by decide +kernel
theorem dX11_fails_33 : decode cX11_fails 33 = .ok (.ireturn, 1) := by decide +kernel
theorem dX11_isName_0 : decode cX11_isName 0 = .ok (.aload_n 0, 1) := by decide +kernel
theorem dX11_isName_1 : decode cX11_isName 1 = .ok (.getfield 148, 3) := by decide +kernel
theorem dX11_isName_4 : decode cX11_isName 4 = .ok (.iconst 2, 1) := by decide +kernel
theorem dX11_isName_5 : decode cX11_isName 5 = .ok (.if_icmp .ne 30, 3) := by decide +kernel
theorem dX11_isName_8 : decode cX11_isName 8 = .ok (.aload_n 0, 1) := by decide +kernel
theorem dX11_isName_9 : decode cX11_isName 9 = .ok (.getfield 136, 3) := by decide +kernel
theorem dX11_isName_12 : decode cX11_isName 12 = .ok (.aload_n 0, 1) := by decide +kernel
theorem dX11_isName_13 : decode cX11_isName 13 = .ok (.getfield 142, 3) := by decide +kernel
theorem dX11_isName_16 : decode cX11_isName 16 = .ok (.isub, 1) := by decide +kernel
theorem dX11_isName_17 : decode cX11_isName 17 = .ok (.bipush 8, 2) := by decide +kernel
theorem dX11_isName_19 : decode cX11_isName 19 = .ok (.if_icmp .gt 16, 3) := by decide +kernel
theorem dX11_isName_22 : decode cX11_isName 22 = .ok (.aload_n 0, 1) := by decide +kernel
theorem dX11_isName_23 : decode cX11_isName 23 = .ok (.aload_n 1, 1) := by decide +kernel
theorem dX11_isName_24 : decode cX11_isName 24 = .ok (.invokevirtual 188, 3) := by decide +kernel
theorem dX11_isName_27 : decode cX11_isName 27 = .ok (.iconst (-1), 1) := by decide +kernel
theorem dX11_isName_28 : decode cX11_isName 28 = .ok (.if_icmp .ne 7, 3) := by decide +kernel
theorem dX11_isName_31 : decode cX11_isName 31 = .ok (.iconst 1, 1) := by decide +kernel
theorem dX11_isName_32 : decode cX11_isName 32 = .ok (.goto 4, 3) := by decide +kernel
theorem dX11_isName_35 : decode cX11_isName 35 = .ok (.iconst 0, 1) := by decide +kernel
theorem dX11_isName_36 : decode cX11_isName 36 = .ok (.ireturn, 1) := by decide +kernel
theorem dX11_nameHere_0 : decode cX11_nameHere 0 = .ok (.lconst 0, 1) := by decide +kernel
theorem dX11_nameHere_1 : decode cX11_nameHere 1 = .ok (.lstore_n 1, 1) := by decide +kernel
theorem dX11_nameHere_2 : decode cX11_nameHere 2 = .ok (.aload_n 0, 1) := by decide +kernel
theorem dX11_nameHere_3 : decode cX11_nameHere 3 = .ok (.getfield 142, 3) := by decide +kernel
theorem dX11_nameHere_6 : decode cX11_nameHere 6 = .ok (.istore_n 3, 1) := by decide +kernel
theorem dX11_nameHere_7 : decode cX11_nameHere 7 = .ok (.iload_n 3, 1) := by decide +kernel
theorem dX11_nameHere_8 : decode cX11_nameHere 8 = .ok (.aload_n 0, 1) := by decide +kernel
theorem dX11_nameHere_9 : decode cX11_nameHere 9 = .ok (.getfield 136, 3) := by decide +kernel
theorem dX11_nameHere_12 : decode cX11_nameHere 12 = .ok (.if_icmp .ge 21, 3) := by decide +kernel
theorem dX11_nameHere_15 : decode cX11_nameHere 15 = .ok (.lload_n 1, 1) := by decide +kernel
theorem dX11_nameHere_16 : decode cX11_nameHere 16 = .ok (.bipush 8, 2) := by decide +kernel
theorem dX11_nameHere_18 : decode cX11_nameHere 18 = .ok (.lshl, 1) := by decide +kernel
theorem dX11_nameHere_19 : decode cX11_nameHere 19 = .ok (.aload_n 0, 1) := by decide +kernel
theorem dX11_nameHere_20 : decode cX11_nameHere 20 = .ok (.iload_n 3, 1) := by decide +kernel
theorem dX11_nameHere_21 : decode cX11_nameHere 21 = .ok (.invokevirtual 139, 3) := by decide +kernel
theorem dX11_nameHere_24 : decode cX11_nameHere 24 = .ok (.i2l, 1) := by decide +kernel
theorem dX11_nameHere_25 : decode cX11_nameHere 25 = .ok (.lor, 1) := by decide +kernel
theorem dX11_nameHere_26 : decode cX11_nameHere 26 = .ok (.lstore_n 1, 1) := by decide +kernel
theorem dX11_nameHere_27 : decode cX11_nameHere 27 = .ok (.iinc 3 1, 3) := by decide +kernel
theorem dX11_nameHere_30 : decode cX11_nameHere 30 = .ok (.goto (-23), 3) := by decide +kernel
theorem dX11_nameHere_33 : decode cX11_nameHere 33 = .ok (.lload_n 1, 1) := by decide +kernel
theorem dX11_nameHere_34 : decode cX11_nameHere 34 = .ok (.lreturn, 1) := by decide +kernel
theorem dX11_findHere_0 : decode cX11_findHere 0 = .ok (.iconst 0, 1) := by decide +kernel
theorem dX11_findHere_1 : decode cX11_findHere 1 = .ok (.istore_n 3, 1) := by decide +kernel
theorem dX11_findHere_2 : decode cX11_findHere 2 = .ok (.iload_n 3, 1) := by decide +kernel
theorem dX11_findHere_3 : decode cX11_findHere 3 = .ok (.iload_n 2, 1) := by decide +kernel
theorem dX11_findHere_4 : decode cX11_findHere 4 = .ok (.if_icmp .ge 27, 3) := by decide +kernel
theorem dX11_findHere_7 : decode cX11_findHere 7 = .ok (.aload_n 0, 1) := by decide +kernel
theorem dX11_findHere_8 : decode cX11_findHere 8 = .ok (.getfield 13, 3) := by decide +kernel
theorem dX11_findHere_11 : decode cX11_findHere 11 = .ok (.iload_n 1, 1) := by decide +kernel
theorem dX11_findHere_12 : decode cX11_findHere 12 = .ok (.iload_n 3, 1) := by decide +kernel
theorem dX11_findHere_13 : decode cX11_findHere 13 = .ok (.iadd, 1) := by decide +kernel
theorem dX11_findHere_14 : decode cX11_findHere 14 = .ok (.laload, 1) := by decide +kernel
theorem dX11_findHere_15 : decode cX11_findHere 15 = .ok (.aload_n 0, 1) := by decide +kernel
theorem dX11_findHere_16 : decode cX11_findHere 16 = .ok (.invokevirtual 192, 3) := by decide +kernel
theorem dX11_findHere_19 : decode cX11_findHere 19 = .ok (.lcmp, 1) := by decide +kernel
theorem dX11_findHere_20 : decode cX11_findHere 20 = .ok (.ifCond .ne 5, 3) := by decide +kernel
theorem dX11_findHere_23 : decode cX11_findHere 23 = .ok (.iload_n 3, 1) := by decide +kernel
theorem dX11_findHere_24 : decode cX11_findHere 24 = .ok (.ireturn, 1) := by decide +kernel
theorem dX11_findHere_25 : decode cX11_findHere 25 = .ok (.iinc 3 1, 3) := by decide +kernel
theorem dX11_findHere_28 : decode cX11_findHere 28 = .ok (.goto (-26), 3) := by decide +kernel
theorem dX11_findHere_31 : decode cX11_findHere 31 = .ok (.iconst (-1), 1) := by decide +kernel
theorem dX11_findHere_32 : decode cX11_findHere 32 = .ok (.ireturn, 1) := by decide +kernel
theorem dX11_newOne_0 : decode cX11_newOne 0 = .ok (.aload_n 0, 1) := by decide +kernel
theorem dX11_newOne_1 : decode cX11_newOne 1 = .ok (.getfield 7, 3) := by decide +kernel
theorem dX11_newOne_4 : decode cX11_newOne 4 = .ok (.sipush 2600, 3) := by decide +kernel
theorem dX11_newOne_7 : decode cX11_newOne 7 = .ok (.iload_n 1, 1) := by decide +kernel
theorem dX11_newOne_8 : decode cX11_newOne 8 = .ok (.iadd, 1) := by decide +kernel
theorem dX11_newOne_9 : decode cX11_newOne 9 = .ok (.iaload, 1) := by decide +kernel
theorem dX11_newOne_10 : decode cX11_newOne 10 = .ok (.iload_n 2, 1) := by decide +kernel
theorem dX11_newOne_11 : decode cX11_newOne 11 = .ok (.if_icmp .ne 10, 3) := by decide +kernel
theorem dX11_newOne_14 : decode cX11_newOne 14 = .ok (.aload_n 0, 1) := by decide +kernel
theorem dX11_newOne_15 : decode cX11_newOne 15 = .ok (.bipush 6, 2) := by decide +kernel
theorem dX11_newOne_17 : decode cX11_newOne 17 = .ok (.invokevirtual 185, 3) := by decide +kernel
theorem dX11_newOne_20 : decode cX11_newOne 20 = .ok (.ireturn, 1) := by decide +kernel
theorem dX11_newOne_21 : decode cX11_newOne 21 = .ok (.aload_n 0, 1) := by decide +kernel
theorem dX11_newOne_22 : decode cX11_newOne 22 = .ok (.invokevirtual 179, 3) := by decide +kernel
theorem dX11_newOne_25 : decode cX11_newOne 25 = .ok (.aload_n 0, 1) := by decide +kernel
theorem dX11_newOne_26 : decode cX11_newOne 26 = .ok (.ldc 196, 2) := by decide +kernel
theorem dX11_newOne_28 : decode cX11_newOne 28 = .ok (.invokevirtual 198, 3) := by decide +kernel
theorem dX11_newOne_31 : decode cX11_newOne 31 = .ok (.ifCond .ne 9, 3) := by decide +kernel
theorem dX11_newOne_34 : decode cX11_newOne 34 = .ok (.aload_n 0, 1) := by decide +kernel
theorem dX11_newOne_35 : decode cX11_newOne 35 = .ok (.iconst 2, 1) := by decide +kernel
theorem dX11_newOne_36 : decode cX11_newOne 36 = .ok (.invokevirtual 185, 3) := by decide +kernel
theorem dX11_newOne_39 : decode cX11_newOne 39 = .ok (.ireturn, 1) := by decide +kernel
theorem dX11_newOne_40 : decode cX11_newOne 40 = .ok (.aload_n 0, 1) := by decide +kernel
theorem dX11_newOne_41 : decode cX11_newOne 41 = .ok (.bipush 64, 2) := by decide +kernel
theorem dX11_newOne_43 : decode cX11_newOne 43 = .ok (.aload_n 0, 1) := by decide +kernel
theorem dX11_newOne_44 : decode cX11_newOne 44 = .ok (.getfield 7, 3) := by decide +kernel
theorem dX11_newOne_47 : decode cX11_newOne 47 = .ok (.sipush 2600, 3) := by decide +kernel
theorem dX11_newOne_50 : decode cX11_newOne 50 = .ok (.iaload, 1) := by decide +kernel
theorem dX11_newOne_51 : decode cX11_newOne 51 = .ok (.invokevirtual 202, 3) := by decide +kernel
theorem dX11_newOne_54 : decode cX11_newOne 54 = .ok (.iconst (-1), 1) := by decide +kernel
theorem dX11_newOne_55 : decode cX11_newOne 55 = .ok (.if_icmp .ne 39, 3) := by decide +kernel
theorem dX11_newOne_58 : decode cX11_newOne 58 = .ok (.aload_n 0, 1) := by decide +kernel
theorem dX11_newOne_59 : decode cX11_newOne 59 = .ok (.bipush 72, 2) := by decide +kernel
theorem dX11_newOne_61 : decode cX11_newOne 61 = .ok (.aload_n 0, 1) := by decide +kernel
theorem dX11_newOne_62 : decode cX11_newOne 62 = .ok (.getfield 7, 3) := by decide +kernel
theorem dX11_newOne_65 : decode cX11_newOne 65 = .ok (.sipush 2601, 3) := by decide +kernel
theorem dX11_newOne_68 : decode cX11_newOne 68 = .ok (.iaload, 1) := by decide +kernel
theorem dX11_newOne_69 : decode cX11_newOne 69 = .ok (.invokevirtual 202, 3) := by decide +kernel
theorem dX11_newOne_72 : decode cX11_newOne 72 = .ok (.iconst (-1), 1) := by decide +kernel
theorem dX11_newOne_73 : decode cX11_newOne 73 = .ok (.if_icmp .ne 21, 3) := by decide +kernel
theorem dX11_newOne_76 : decode cX11_newOne 76 = .ok (.aload_n 0, 1) := by decide +kernel
theorem dX11_newOne_77 : decode cX11_newOne 77 = .ok (.bipush 78, 2) := by decide +kernel
theorem dX11_newOne_79 : decode cX11_newOne 79 = .ok (.aload_n 0, 1) := by decide +kernel
theorem dX11_newOne_80 : decode cX11_newOne 80 = .ok (.getfield 7, 3) := by decide +kernel
theorem dX11_newOne_83 : decode cX11_newOne 83 = .ok (.sipush 2603, 3) := by decide +kernel
theorem dX11_newOne_86 : decode cX11_newOne 86 = .ok (.iaload, 1) := by decide +kernel
theorem dX11_newOne_87 : decode cX11_newOne 87 = .ok (.invokevirtual 202, 3) := by decide +kernel
theorem dX11_newOne_90 : decode cX11_newOne 90 = .ok (.iconst (-1), 1) := by decide +kernel
theorem dX11_newOne_91 : decode cX11_newOne 91 = .ok (.if_icmp .eq 9, 3) := by decide +kernel
theorem dX11_newOne_94 : decode cX11_newOne 94 = .ok (.aload_n 0, 1) := by decide +kernel
theorem dX11_newOne_95 : decode cX11_newOne 95 = .ok (.iconst 3, 1) := by decide +kernel
theorem dX11_newOne_96 : decode cX11_newOne 96 = .ok (.invokevirtual 185, 3) := by decide +kernel
theorem dX11_newOne_99 : decode cX11_newOne 99 = .ok (.ireturn, 1) := by decide +kernel
theorem dX11_newOne_100 : decode cX11_newOne 100 = .ok (.aload_n 0, 1) := by decide +kernel
theorem dX11_newOne_101 : decode cX11_newOne 101 = .ok (.getfield 13, 3) := by decide +kernel
theorem dX11_newOne_104 : decode cX11_newOne 104 = .ok (.bipush 64, 2) := by decide +kernel
theorem dX11_newOne_106 : decode cX11_newOne 106 = .ok (.iload_n 3, 1) := by decide +kernel
theorem dX11_newOne_107 : decode cX11_newOne 107 = .ok (.iadd, 1) := by decide +kernel
theorem dX11_newOne_108 : decode cX11_newOne 108 = .ok (.aload_n 0, 1) := by decide +kernel
theorem dX11_newOne_109 : decode cX11_newOne 109 = .ok (.getfield 7, 3) := by decide +kernel
theorem dX11_newOne_112 : decode cX11_newOne 112 = .ok (.sipush 2600, 3) := by decide +kernel
theorem dX11_newOne_115 : decode cX11_newOne 115 = .ok (.iload_n 1, 1) := by decide +kernel
theorem dX11_newOne_116 : decode cX11_newOne 116 = .ok (.iadd, 1) := by decide +kernel
theorem dX11_newOne_117 : decode cX11_newOne 117 = .ok (.iaload, 1) := by decide +kernel
theorem dX11_newOne_118 : decode cX11_newOne 118 = .ok (.iadd, 1) := by decide +kernel
theorem dX11_newOne_119 : decode cX11_newOne 119 = .ok (.aload_n 0, 1) := by decide +kernel
theorem dX11_newOne_120 : decode cX11_newOne 120 = .ok (.invokevirtual 192, 3) := by decide +kernel
theorem dX11_newOne_123 : decode cX11_newOne 123 = .ok (.lastore, 1) := by decide +kernel
theorem dX11_newOne_124 : decode cX11_newOne 124 = .ok (.aload_n 0, 1) := by decide +kernel
theorem dX11_newOne_125 : decode cX11_newOne 125 = .ok (.invokevirtual 179, 3) := by decide +kernel
theorem dX11_newOne_128 : decode cX11_newOne 128 = .ok (.iconst 1, 1) := by decide +kernel
theorem dX11_newOne_129 : decode cX11_newOne 129 = .ok (.ireturn, 1) := by decide +kernel
theorem dX11_isThere_0 : decode cX11_isThere 0 = .ok (.aload_n 0, 1) := by decide +kernel
theorem dX11_isThere_1 : decode cX11_isThere 1 = .ok (.ldc 196, 2) := by decide +kernel
theorem dX11_isThere_3 : decode cX11_isThere 3 = .ok (.invokevirtual 188, 3) := by decide +kernel
theorem dX11_isThere_6 : decode cX11_isThere 6 = .ok (.iload_n 1, 1) := by decide +kernel
theorem dX11_isThere_7 : decode cX11_isThere 7 = .ok (.if_icmp .eq 5, 3) := by decide +kernel
theorem dX11_isThere_10 : decode cX11_isThere 10 = .ok (.iconst 0, 1) := by decide +kernel
theorem dX11_isThere_11 : decode cX11_isThere 11 = .ok (.ireturn, 1) := by decide +kernel
theorem dX11_isThere_12 : decode cX11_isThere 12 = .ok (.aload_n 0, 1) := by decide +kernel
theorem dX11_isThere_13 : decode cX11_isThere 13 = .ok (.invokevirtual 179, 3) := by decide +kernel
theorem dX11_isThere_16 : decode cX11_isThere 16 = .ok (.iconst 1, 1) := by decide +kernel
theorem dX11_isThere_17 : decode cX11_isThere 17 = .ok (.ireturn, 1) := by decide +kernel
theorem dX11_number_0 : decode cX11_number 0 = .ok (.aload_n 0, 1) := by decide +kernel
theorem dX11_number_1 : decode cX11_number 1 = .ok (.getfield 148, 3) := by decide +kernel
theorem dX11_number_4 : decode cX11_number 4 = .ok (.iconst 3, 1) := by decide +kernel
theorem dX11_number_5 : decode cX11_number 5 = .ok (.if_icmp .eq 9, 3) := by decide +kernel
theorem dX11_number_8 : decode cX11_number 8 = .ok (.aload_n 0, 1) := by decide +kernel
theorem dX11_number_9 : decode cX11_number 9 = .ok (.iconst 2, 1) := by decide +kernel
theorem dX11_number_10 : decode cX11_number 10 = .ok (.invokevirtual 185, 3) := by decide +kernel
theorem dX11_number_13 : decode cX11_number 13 = .ok (.ireturn, 1) := by decide +kernel
theorem dX11_number_14 : decode cX11_number 14 = .ok (.aload_n 0, 1) := by decide +kernel
theorem dX11_number_15 : decode cX11_number 15 = .ok (.getfield 145, 3) := by decide +kernel
theorem dX11_number_18 : decode cX11_number 18 = .ok (.iload_n 2, 1) := by decide +kernel
theorem dX11_number_19 : decode cX11_number 19 = .ok (.if_icmp .lt 11, 3) := by decide +kernel
theorem dX11_number_22 : decode cX11_number 22 = .ok (.aload_n 0, 1) := by decide +kernel
theorem dX11_number_23 : decode cX11_number 23 = .ok (.getfield 145, 3) := by decide +kernel
theorem dX11_number_26 : decode cX11_number 26 = .ok (.iload_n 3, 1) := by decide +kernel
theorem dX11_number_27 : decode cX11_number 27 = .ok (.if_icmp .le 9, 3) := by decide +kernel
theorem dX11_number_30 : decode cX11_number 30 = .ok (.aload_n 0, 1) := by decide +kernel
theorem dX11_number_31 : decode cX11_number 31 = .ok (.iconst 4, 1) := by decide +kernel
theorem dX11_number_32 : decode cX11_number 32 = .ok (.invokevirtual 185, 3) := by decide +kernel
theorem dX11_number_35 : decode cX11_number 35 = .ok (.ireturn, 1) := by decide +kernel
theorem dX11_number_36 : decode cX11_number 36 = .ok (.aload_n 0, 1) := by decide +kernel
theorem dX11_number_37 : decode cX11_number 37 = .ok (.getfield 7, 3) := by decide +kernel
theorem dX11_number_40 : decode cX11_number 40 = .ok (.iload_n 1, 1) := by decide +kernel
theorem dX11_number_41 : decode cX11_number 41 = .ok (.aload_n 0, 1) := by decide +kernel
theorem dX11_number_42 : decode cX11_number 42 = .ok (.getfield 145, 3) := by decide +kernel
theorem dX11_number_45 : decode cX11_number 45 = .ok (.iastore, 1) := by decide +kernel
theorem dX11_number_46 : decode cX11_number 46 = .ok (.aload_n 0, 1) := by decide +kernel
theorem dX11_number_47 : decode cX11_number 47 = .ok (.invokevirtual 179, 3) := by decide +kernel
theorem dX11_number_50 : decode cX11_number 50 = .ok (.iconst 1, 1) := by decide +kernel
theorem dX11_number_51 : decode cX11_number 51 = .ok (.ireturn, 1) := by decide +kernel
theorem dX11_aRock_0 : decode cX11_aRock 0 = .ok (.aload_n 0, 1) := by decide +kernel
theorem dX11_aRock_1 : decode cX11_aRock 1 = .ok (.getfield 7, 3) := by decide +kernel
theorem dX11_aRock_4 : decode cX11_aRock 4 = .ok (.sipush 2600, 3) := by decide +kernel
theorem dX11_aRock_7 : decode cX11_aRock 7 = .ok (.iaload, 1) := by decide +kernel
theorem dX11_aRock_8 : decode cX11_aRock 8 = .ok (.istore_n 1, 1) := by decide +kernel
theorem dX11_aRock_9 : decode cX11_aRock 9 = .ok (.aload_n 0, 1) := by decide +kernel
theorem dX11_aRock_10 : decode cX11_aRock 10 = .ok (.iconst 0, 1) := by decide +kernel
theorem dX11_aRock_11 : decode cX11_aRock 11 = .ok (.bipush 8, 2) := by decide +kernel
theorem dX11_aRock_13 : decode cX11_aRock 13 = .ok (.iconst 0, 1) := by decide +kernel
theorem dX11_aRock_14 : decode cX11_aRock 14 = .ok (.invokevirtual 205, 3) := by decide +kernel
theorem dX11_aRock_17 : decode cX11_aRock 17 = .ok (.ifCond .ne 5, 3) := by decide +kernel
theorem dX11_aRock_20 : decode cX11_aRock 20 = .ok (.iconst 0, 1) := by decide +kernel
theorem dX11_aRock_21 : decode cX11_aRock 21 = .ok (.ireturn, 1) := by decide +kernel
theorem dX11_aRock_22 : decode cX11_aRock 22 = .ok (.aload_n 0, 1) := by decide +kernel
theorem dX11_aRock_23 : decode cX11_aRock 23 = .ok (.getfield 7, 3) := by decide +kernel
theorem dX11_aRock_26 : decode cX11_aRock 26 = .ok (.sipush 2610, 3) := by decide +kernel
theorem dX11_aRock_29 : decode cX11_aRock 29 = .ok (.iload_n 1, 1) := by decide +kernel
theorem dX11_aRock_30 : decode cX11_aRock 30 = .ok (.iadd, 1) := by decide +kernel
theorem dX11_aRock_31 : decode cX11_aRock 31 = .ok (.iconst 5, 1) := by decide +kernel
theorem dX11_aRock_32 : decode cX11_aRock 32 = .ok (.iastore, 1) := by decide +kernel
theorem dX11_aRock_33 : decode cX11_aRock 33 = .ok (.iconst 0, 1) := by decide +kernel
theorem dX11_aRock_34 : decode cX11_aRock 34 = .ok (.istore_n 2, 1) := by decide +kernel
theorem dX11_aRock_35 : decode cX11_aRock 35 = .ok (.iload_n 2, 1) := by decide +kernel
theorem dX11_aRock_36 : decode cX11_aRock 36 = .ok (.iload_n 1, 1) := by decide +kernel
theorem dX11_aRock_37 : decode cX11_aRock 37 = .ok (.if_icmp .ge 43, 3) := by decide +kernel
theorem dX11_aRock_40 : decode cX11_aRock 40 = .ok (.aload_n 0, 1) := by decide +kernel
theorem dX11_aRock_41 : decode cX11_aRock 41 = .ok (.getfield 7, 3) := by decide +kernel
theorem dX11_aRock_44 : decode cX11_aRock 44 = .ok (.sipush 2618, 3) := by decide +kernel
theorem dX11_aRock_47 : decode cX11_aRock 47 = .ok (.bipush 8, 2) := by decide +kernel
theorem dX11_aRock_49 : decode cX11_aRock 49 = .ok (.iload_n 1, 1) := by decide +kernel
theorem dX11_aRock_50 : decode cX11_aRock 50 = .ok (.imul, 1) := by decide +kernel
theorem dX11_aRock_51 : decode cX11_aRock 51 = .ok (.iadd, 1) := by decide +kernel
theorem dX11_aRock_52 : decode cX11_aRock 52 = .ok (.iload_n 2, 1) := by decide +kernel
theorem dX11_aRock_53 : decode cX11_aRock 53 = .ok (.iadd, 1) := by decide +kernel
theorem dX11_aRock_54 : decode cX11_aRock 54 = .ok (.bipush 9, 2) := by decide +kernel
theorem dX11_aRock_56 : decode cX11_aRock 56 = .ok (.iastore, 1) := by decide +kernel
theorem dX11_aRock_57 : decode cX11_aRock 57 = .ok (.aload_n 0, 1) := by decide +kernel
theorem dX11_aRock_58 : decode cX11_aRock 58 = .ok (.getfield 7, 3) := by decide +kernel
theorem dX11_aRock_61 : decode cX11_aRock 61 = .ok (.sipush 2618, 3) := by decide +kernel
theorem dX11_aRock_64 : decode cX11_aRock 64 = .ok (.bipush 8, 2) := by decide +kernel
theorem dX11_aRock_66 : decode cX11_aRock 66 = .ok (.iload_n 2, 1) := by decide +kernel
theorem dX11_aRock_67 : decode cX11_aRock 67 = .ok (.imul, 1) := by decide +kernel
theorem dX11_aRock_68 : decode cX11_aRock 68 = .ok (.iadd, 1) := by decide +kernel
theorem dX11_aRock_69 : decode cX11_aRock 69 = .ok (.iload_n 1, 1) := by decide +kernel
theorem dX11_aRock_70 : decode cX11_aRock 70 = .ok (.iadd, 1) := by decide +kernel
theorem dX11_aRock_71 : decode cX11_aRock 71 = .ok (.bipush 9, 2) := by decide +kernel
theorem dX11_aRock_73 : decode cX11_aRock 73 = .ok (.iastore, 1) := by decide +kernel
theorem dX11_aRock_74 : decode cX11_aRock 74 = .ok (.iinc 2 1, 3) := by decide +kernel
theorem dX11_aRock_77 : decode cX11_aRock 77 = .ok (.goto (-42), 3) := by decide +kernel
theorem dX11_aRock_80 : decode cX11_aRock 80 = .ok (.aload_n 0, 1) := by decide +kernel
theorem dX11_aRock_81 : decode cX11_aRock 81 = .ok (.iconst 5, 1) := by decide +kernel
theorem dX11_aRock_82 : decode cX11_aRock 82 = .ok (.invokevirtual 209, 3) := by decide +kernel
theorem dX11_aRock_85 : decode cX11_aRock 85 = .ok (.ifCond .eq 20, 3) := by decide +kernel
theorem dX11_aRock_88 : decode cX11_aRock 88 = .ok (.aload_n 0, 1) := by decide +kernel
theorem dX11_aRock_89 : decode cX11_aRock 89 = .ok (.sipush 2610, 3) := by decide +kernel
theorem dX11_aRock_92 : decode cX11_aRock 92 = .ok (.iload_n 1, 1) := by decide +kernel
theorem dX11_aRock_93 : decode cX11_aRock 93 = .ok (.iadd, 1) := by decide +kernel
theorem dX11_aRock_94 : decode cX11_aRock 94 = .ok (.iconst 0, 1) := by decide +kernel
theorem dX11_aRock_95 : decode cX11_aRock 95 = .ok (.bipush 99, 2) := by decide +kernel
theorem dX11_aRock_97 : decode cX11_aRock 97 = .ok (.invokevirtual 212, 3) := by decide +kernel
theorem dX11_aRock_100 : decode cX11_aRock 100 = .ok (.ifCond .ne 5, 3) := by decide +kernel
theorem dX11_aRock_103 : decode cX11_aRock 103 = .ok (.iconst 0, 1) := by decide +kernel
theorem dX11_aRock_104 : decode cX11_aRock 104 = .ok (.ireturn, 1) := by decide +kernel
theorem dX11_aRock_105 : decode cX11_aRock 105 = .ok (.aload_n 0, 1) := by decide +kernel
theorem dX11_aRock_106 : decode cX11_aRock 106 = .ok (.getfield 7, 3) := by decide +kernel
theorem dX11_aRock_109 : decode cX11_aRock 109 = .ok (.sipush 2600, 3) := by decide +kernel
theorem dX11_aRock_112 : decode cX11_aRock 112 = .ok (.dup2, 1) := by decide +kernel
theorem dX11_aRock_113 : decode cX11_aRock 113 = .ok (.iaload, 1) := by decide +kernel
theorem dX11_aRock_114 : decode cX11_aRock 114 = .ok (.iconst 1, 1) := by decide +kernel
theorem dX11_aRock_115 : decode cX11_aRock 115 = .ok (.iadd, 1) := by decide +kernel
theorem dX11_aRock_116 : decode cX11_aRock 116 = .ok (.iastore, 1) := by decide +kernel
theorem dX11_aRock_117 : decode cX11_aRock 117 = .ok (.iconst 1, 1) := by decide +kernel
theorem dX11_aRock_118 : decode cX11_aRock 118 = .ok (.ireturn, 1) := by decide +kernel
theorem dX11_oldOne_0 : decode cX11_oldOne 0 = .ok (.aload_n 0, 1) := by decide +kernel
theorem dX11_oldOne_1 : decode cX11_oldOne 1 = .ok (.ldc 196, 2) := by decide +kernel
theorem dX11_oldOne_3 : decode cX11_oldOne 3 = .ok (.invokevirtual 198, 3) := by decide +kernel
theorem dX11_oldOne_6 : decode cX11_oldOne 6 = .ok (.ifCond .ne 9, 3) := by decide +kernel
theorem dX11_oldOne_9 : decode cX11_oldOne 9 = .ok (.aload_n 0, 1) := by decide +kernel
theorem dX11_oldOne_10 : decode cX11_oldOne 10 = .ok (.iconst 2, 1) := by decide +kernel
theorem dX11_oldOne_11 : decode cX11_oldOne 11 = .ok (.invokevirtual 185, 3) := by decide +kernel
theorem dX11_oldOne_14 : decode cX11_oldOne 14 = .ok (.ireturn, 1) := by decide +kernel
theorem dX11_oldOne_15 : decode cX11_oldOne 15 = .ok (.aload_n 0, 1) := by decide +kernel
theorem dX11_oldOne_16 : decode cX11_oldOne 16 = .ok (.getfield 7, 3) := by decide +kernel
theorem dX11_oldOne_19 : decode cX11_oldOne 19 = .ok (.iload_n 3, 1) := by decide +kernel
theorem dX11_oldOne_20 : decode cX11_oldOne 20 = .ok (.aload_n 0, 1) := by decide +kernel
theorem dX11_oldOne_21 : decode cX11_oldOne 21 = .ok (.iload_n 1, 1) := by decide +kernel
theorem dX11_oldOne_22 : decode cX11_oldOne 22 = .ok (.iload_n 2, 1) := by decide +kernel
theorem dX11_oldOne_23 : decode cX11_oldOne 23 = .ok (.invokevirtual 202, 3) := by decide +kernel
theorem dX11_oldOne_26 : decode cX11_oldOne 26 = .ok (.iastore, 1) := by decide +kernel
theorem dX11_oldOne_27 : decode cX11_oldOne 27 = .ok (.aload_n 0, 1) := by decide +kernel
theorem dX11_oldOne_28 : decode cX11_oldOne 28 = .ok (.getfield 7, 3) := by decide +kernel
theorem dX11_oldOne_31 : decode cX11_oldOne 31 = .ok (.iload_n 3, 1) := by decide +kernel
theorem dX11_oldOne_32 : decode cX11_oldOne 32 = .ok (.iaload, 1) := by decide +kernel
theorem dX11_oldOne_33 : decode cX11_oldOne 33 = .ok (.iconst (-1), 1) := by decide +kernel
theorem dX11_oldOne_34 : decode cX11_oldOne 34 = .ok (.if_icmp .ne 9, 3) := by decide +kernel
theorem dX11_oldOne_37 : decode cX11_oldOne 37 = .ok (.aload_n 0, 1) := by decide +kernel
theorem dX11_oldOne_38 : decode cX11_oldOne 38 = .ok (.iconst 3, 1) := by decide +kernel
theorem dX11_oldOne_39 : decode cX11_oldOne 39 = .ok (.invokevirtual 185, 3) := by decide +kernel
theorem dX11_oldOne_42 : decode cX11_oldOne 42 = .ok (.ireturn, 1) := by decide +kernel
theorem dX11_oldOne_43 : decode cX11_oldOne 43 = .ok (.aload_n 0, 1) := by decide +kernel
theorem dX11_oldOne_44 : decode cX11_oldOne 44 = .ok (.invokevirtual 179, 3) := by decide +kernel
theorem dX11_oldOne_47 : decode cX11_oldOne 47 = .ok (.iconst 1, 1) := by decide +kernel
theorem dX11_oldOne_48 : decode cX11_oldOne 48 = .ok (.ireturn, 1) := by decide +kernel
theorem dX11_wantWord_0 : decode cX11_wantWord 0 = .ok (.aload_n 0, 1) := by decide +kernel
theorem dX11_wantWord_1 : decode cX11_wantWord 1 = .ok (.aload_n 1, 1) := by decide +kernel
theorem dX11_wantWord_2 : decode cX11_wantWord 2 = .ok (.invokevirtual 188, 3) := by decide +kernel
theorem dX11_wantWord_5 : decode cX11_wantWord 5 = .ok (.iload_n 2, 1) := by decide +kernel
theorem dX11_wantWord_6 : decode cX11_wantWord 6 = .ok (.if_icmp .eq 9, 3) := by decide +kernel
theorem dX11_wantWord_9 : decode cX11_wantWord 9 = .ok (.aload_n 0, 1) := by decide +kernel
theorem dX11_wantWord_10 : decode cX11_wantWord 10 = .ok (.iconst 2, 1) := by decide +kernel
theorem dX11_wantWord_11 : decode cX11_wantWord 11 = .ok (.invokevirtual 185, 3) := by decide +kernel
theorem dX11_wantWord_14 : decode cX11_wantWord 14 = .ok (.ireturn, 1) := by decide +kernel
theorem dX11_wantWord_15 : decode cX11_wantWord 15 = .ok (.aload_n 0, 1) := by decide +kernel
theorem dX11_wantWord_16 : decode cX11_wantWord 16 = .ok (.invokevirtual 179, 3) := by decide +kernel
theorem dX11_wantWord_19 : decode cX11_wantWord 19 = .ok (.iconst 1, 1) := by decide +kernel
theorem dX11_wantWord_20 : decode cX11_wantWord 20 = .ok (.ireturn, 1) := by decide +kernel
theorem dX11_unlikes_0 : decode cX11_unlikes 0 = .ok (.aload_n 0, 1) := by decide +kernel
theorem dX11_unlikes_1 : decode cX11_unlikes 1 = .ok (.invokevirtual 179, 3) := by decide +kernel
theorem dX11_unlikes_4 : decode cX11_unlikes 4 = .ok (.aload_n 0, 1) := by decide +kernel
theorem dX11_unlikes_5 : decode cX11_unlikes 5 = .ok (.bipush 64, 2) := by decide +kernel
theorem dX11_unlikes_7 : decode cX11_unlikes 7 = .ok (.aload_n 0, 1) := by decide +kernel
theorem dX11_unlikes_8 : decode cX11_unlikes 8 = .ok (.getfield 7, 3) := by decide +kernel
theorem dX11_unlikes_11 : decode cX11_unlikes 11 = .ok (.sipush 2600, 3) := by decide +kernel
theorem dX11_unlikes_14 : decode cX11_unlikes 14 = .ok (.iaload, 1) := by decide +kernel
theorem dX11_unlikes_15 : decode cX11_unlikes 15 = .ok (.sipush 3245, 3) := by decide +kernel
theorem dX11_unlikes_18 : decode cX11_unlikes 18 = .ok (.invokevirtual 215, 3) := by decide +kernel
theorem dX11_unlikes_21 : decode cX11_unlikes 21 = .ok (.ifCond .ne 5, 3) := by decide +kernel
theorem dX11_unlikes_24 : decode cX11_unlikes 24 = .ok (.iconst 0, 1) := by decide +kernel
theorem dX11_unlikes_25 : decode cX11_unlikes 25 = .ok (.ireturn, 1) := by decide +kernel
theorem dX11_unlikes_26 : decode cX11_unlikes 26 = .ok (.aload_n 0, 1) := by decide +kernel
theorem dX11_unlikes_27 : decode cX11_unlikes 27 = .ok (.getfield 7, 3) := by decide +kernel
theorem dX11_unlikes_30 : decode cX11_unlikes 30 = .ok (.sipush 3245, 3) := by decide +kernel
theorem dX11_unlikes_33 : decode cX11_unlikes 33 = .ok (.iaload, 1) := by decide +kernel
theorem dX11_unlikes_34 : decode cX11_unlikes 34 = .ok (.istore_n 1, 1) := by decide +kernel
theorem dX11_unlikes_35 : decode cX11_unlikes 35 = .ok (.aload_n 0, 1) := by decide +kernel
theorem dX11_unlikes_36 : decode cX11_unlikes 36 = .ok (.ldc 196, 2) := by decide +kernel
theorem dX11_unlikes_38 : decode cX11_unlikes 38 = .ok (.invokevirtual 198, 3) := by decide +kernel
theorem dX11_unlikes_41 : decode cX11_unlikes 41 = .ok (.ifCond .eq 27, 3) := by decide +kernel
theorem dX11_unlikes_44 : decode cX11_unlikes 44 = .ok (.aload_n 0, 1) := by decide +kernel
theorem dX11_unlikes_45 : decode cX11_unlikes 45 = .ok (.bipush 64, 2) := by decide +kernel
theorem dX11_unlikes_47 : decode cX11_unlikes 47 = .ok (.aload_n 0, 1) := by decide +kernel
theorem dX11_unlikes_48 : decode cX11_unlikes 48 = .ok (.getfield 7, 3) := by decide +kernel
theorem dX11_unlikes_51 : decode cX11_unlikes 51 = .ok (.sipush 2600, 3) := by decide +kernel
theorem dX11_unlikes_54 : decode cX11_unlikes 54 = .ok (.iaload, 1) := by decide +kernel
theorem dX11_unlikes_55 : decode cX11_unlikes 55 = .ok (.invokevirtual 202, 3) := by decide +kernel
theorem dX11_unlikes_58 : decode cX11_unlikes 58 = .ok (.iload_n 1, 1) := by decide +kernel
theorem dX11_unlikes_59 : decode cX11_unlikes 59 = .ok (.if_icmp .ne 9, 3) := by decide +kernel
theorem dX11_unlikes_62 : decode cX11_unlikes 62 = .ok (.aload_n 0, 1) := by decide +kernel
theorem dX11_unlikes_63 : decode cX11_unlikes 63 = .ok (.iconst 5, 1) := by decide +kernel
theorem dX11_unlikes_64 : decode cX11_unlikes 64 = .ok (.invokevirtual 185, 3) := by decide +kernel
theorem dX11_unlikes_67 : decode cX11_unlikes 67 = .ok (.ireturn, 1) := by decide +kernel
theorem dX11_unlikes_68 : decode cX11_unlikes 68 = .ok (.aload_n 0, 1) := by decide +kernel
theorem dX11_unlikes_69 : decode cX11_unlikes 69 = .ok (.bipush 64, 2) := by decide +kernel
theorem dX11_unlikes_71 : decode cX11_unlikes 71 = .ok (.aload_n 0, 1) := by decide +kernel
theorem dX11_unlikes_72 : decode cX11_unlikes 72 = .ok (.getfield 7, 3) := by decide +kernel
theorem dX11_unlikes_75 : decode cX11_unlikes 75 = .ok (.sipush 2600, 3) := by decide +kernel
theorem dX11_unlikes_78 : decode cX11_unlikes 78 = .ok (.iaload, 1) := by decide +kernel
theorem dX11_unlikes_79 : decode cX11_unlikes 79 = .ok (.sipush 3245, 3) := by decide +kernel
theorem dX11_unlikes_82 : decode cX11_unlikes 82 = .ok (.invokevirtual 215, 3) := by decide +kernel
theorem dX11_unlikes_85 : decode cX11_unlikes 85 = .ok (.ifCond .ne 5, 3) := by decide +kernel
theorem dX11_unlikes_88 : decode cX11_unlikes 88 = .ok (.iconst 0, 1) := by decide +kernel
theorem dX11_unlikes_89 : decode cX11_unlikes 89 = .ok (.ireturn, 1) := by decide +kernel
theorem dX11_unlikes_90 : decode cX11_unlikes 90 = .ok (.aload_n 0, 1) := by decide +kernel
theorem dX11_unlikes_91 : decode cX11_unlikes 91 = .ok (.getfield 7, 3) := by decide +kernel
theorem dX11_unlikes_94 : decode cX11_unlikes 94 = .ok (.sipush 3245, 3) := by decide +kernel
theorem dX11_unlikes_97 : decode cX11_unlikes 97 = .ok (.iaload, 1) := by decide +kernel
theorem dX11_unlikes_98 : decode cX11_unlikes 98 = .ok (.istore_n 2, 1) := by decide +kernel
theorem dX11_unlikes_99 : decode cX11_unlikes 99 = .ok (.aload_n 0, 1) := by decide +kernel
theorem dX11_unlikes_100 : decode cX11_unlikes 100 = .ok (.ldc 196, 2) := by decide +kernel
theorem dX11_unlikes_102 : decode cX11_unlikes 102 = .ok (.bipush 6, 2) := by decide +kernel
theorem dX11_unlikes_104 : decode cX11_unlikes 104 = .ok (.invokevirtual 218, 3) := by decide +kernel
theorem dX11_unlikes_107 : decode cX11_unlikes 107 = .ok (.ifCond .eq 23, 3) := by decide +kernel
theorem dX11_unlikes_110 : decode cX11_unlikes 110 = .ok (.aload_n 0, 1) := by decide +kernel
theorem dX11_unlikes_111 : decode cX11_unlikes 111 = .ok (.sipush 2618, 3) := by decide +kernel
theorem dX11_unlikes_114 : decode cX11_unlikes 114 = .ok (.bipush 8, 2) := by decide +kernel
theorem dX11_unlikes_116 : decode cX11_unlikes 116 = .ok (.iload_n 1, 1) := by decide +kernel
theorem dX11_unlikes_117 : decode cX11_unlikes 117 = .ok (.imul, 1) := by decide +kernel
theorem dX11_unlikes_118 : decode cX11_unlikes 118 = .ok (.iadd, 1) := by decide +kernel
theorem dX11_unlikes_119 : decode cX11_unlikes 119 = .ok (.iload_n 2, 1) := by decide +kernel
theorem dX11_unlikes_120 : decode cX11_unlikes 120 = .ok (.iadd, 1) := by decide +kernel
theorem dX11_unlikes_121 : decode cX11_unlikes 121 = .ok (.iconst 0, 1) := by decide +kernel
theorem dX11_unlikes_122 : decode cX11_unlikes 122 = .ok (.bipush 99, 2) := by decide +kernel
theorem dX11_unlikes_124 : decode cX11_unlikes 124 = .ok (.invokevirtual 212, 3) := by decide +kernel
theorem dX11_unlikes_127 : decode cX11_unlikes 127 = .ok (.ifCond .ne 5, 3) := by decide +kernel
theorem dX11_unlikes_130 : decode cX11_unlikes 130 = .ok (.iconst 0, 1) := by decide +kernel
theorem dX11_unlikes_131 : decode cX11_unlikes 131 = .ok (.ireturn, 1) := by decide +kernel
theorem dX11_unlikes_132 : decode cX11_unlikes 132 = .ok (.aload_n 0, 1) := by decide +kernel
theorem dX11_unlikes_133 : decode cX11_unlikes 133 = .ok (.getfield 7, 3) := by decide +kernel
theorem dX11_unlikes_136 : decode cX11_unlikes 136 = .ok (.sipush 2618, 3) := by decide +kernel
theorem dX11_unlikes_139 : decode cX11_unlikes 139 = .ok (.bipush 8, 2) := by decide +kernel
theorem dX11_unlikes_141 : decode cX11_unlikes 141 = .ok (.iload_n 2, 1) := by decide +kernel
theorem dX11_unlikes_142 : decode cX11_unlikes 142 = .ok (.imul, 1) := by decide +kernel
theorem dX11_unlikes_143 : decode cX11_unlikes 143 = .ok (.iadd, 1) := by decide +kernel
theorem dX11_unlikes_144 : decode cX11_unlikes 144 = .ok (.iload_n 1, 1) := by decide +kernel
theorem dX11_unlikes_145 : decode cX11_unlikes 145 = .ok (.iadd, 1) := by decide +kernel
theorem dX11_unlikes_146 : decode cX11_unlikes 146 = .ok (.aload_n 0, 1) := by decide +kernel
theorem dX11_unlikes_147 : decode cX11_unlikes 147 = .ok (.getfield 7, 3) := by decide +kernel
theorem dX11_unlikes_150 : decode cX11_unlikes 150 = .ok (.sipush 2618, 3) := by decide +kernel
theorem dX11_unlikes_153 : decode cX11_unlikes 153 = .ok (.bipush 8, 2) := by decide +kernel
theorem dX11_unlikes_155 : decode cX11_unlikes 155 = .ok (.iload_n 1, 1) := by decide +kernel
theorem dX11_unlikes_156 : decode cX11_unlikes 156 = .ok (.imul, 1) := by decide +kernel
theorem dX11_unlikes_157 : decode cX11_unlikes 157 = .ok (.iadd, 1) := by decide +kernel
theorem dX11_unlikes_158 : decode cX11_unlikes 158 = .ok (.iload_n 2, 1) := by decide +kernel
theorem dX11_unlikes_159 : decode cX11_unlikes 159 = .ok (.iadd, 1) := by decide +kernel
theorem dX11_unlikes_160 : decode cX11_unlikes 160 = .ok (.iaload, 1) := by decide +kernel
theorem dX11_unlikes_161 : decode cX11_unlikes 161 = .ok (.iastore, 1) := by decide +kernel
theorem dX11_unlikes_162 : decode cX11_unlikes 162 = .ok (.iconst 1, 1) := by decide +kernel
theorem dX11_unlikes_163 : decode cX11_unlikes 163 = .ok (.ireturn, 1) := by decide +kernel
theorem dX11_aHole_0 : decode cX11_aHole 0 = .ok (.sipush 2682, 3) := by decide +kernel
theorem dX11_aHole_3 : decode cX11_aHole 3 = .ok (.bipush 27, 2) := by decide +kernel
theorem dX11_aHole_5 : decode cX11_aHole 5 = .ok (.aload_n 0, 1) := by decide +kernel
theorem dX11_aHole_6 : decode cX11_aHole 6 = .ok (.getfield 7, 3) := by decide +kernel
theorem dX11_aHole_9 : decode cX11_aHole 9 = .ok (.sipush 2601, 3) := by decide +kernel
theorem dX11_aHole_12 : decode cX11_aHole 12 = .ok (.iaload, 1) := by decide +kernel
theorem dX11_aHole_13 : decode cX11_aHole 13 = .ok (.imul, 1) := by decide +kernel
theorem dX11_aHole_14 : decode cX11_aHole 14 = .ok (.iadd, 1) := by decide +kernel
theorem dX11_aHole_15 : decode cX11_aHole 15 = .ok (.istore_n 1, 1) := by decide +kernel
theorem dX11_aHole_16 : decode cX11_aHole 16 = .ok (.aload_n 0, 1) := by decide +kernel
theorem dX11_aHole_17 : decode cX11_aHole 17 = .ok (.iconst 1, 1) := by decide +kernel
theorem dX11_aHole_18 : decode cX11_aHole 18 = .ok (.bipush 6, 2) := by decide +kernel
theorem dX11_aHole_20 : decode cX11_aHole 20 = .ok (.bipush 8, 2) := by decide +kernel
theorem dX11_aHole_22 : decode cX11_aHole 22 = .ok (.invokevirtual 205, 3) := by decide +kernel
theorem dX11_aHole_25 : decode cX11_aHole 25 = .ok (.ifCond .ne 5, 3) := by decide +kernel
theorem dX11_aHole_28 : decode cX11_aHole 28 = .ok (.iconst 0, 1) := by decide +kernel
theorem dX11_aHole_29 : decode cX11_aHole 29 = .ok (.ireturn, 1) := by decide +kernel
theorem dX11_aHole_30 : decode cX11_aHole 30 = .ok (.aload_n 0, 1) := by decide +kernel
theorem dX11_aHole_31 : decode cX11_aHole 31 = .ok (.ldc 196, 2) := by decide +kernel
theorem dX11_aHole_33 : decode cX11_aHole 33 = .ok (.bipush 7, 2) := by decide +kernel
theorem dX11_aHole_35 : decode cX11_aHole 35 = .ok (.invokevirtual 218, 3) := by decide +kernel
theorem dX11_aHole_38 : decode cX11_aHole 38 = .ok (.ifCond .eq 15, 3) := by decide +kernel
theorem dX11_aHole_41 : decode cX11_aHole 41 = .ok (.aload_n 0, 1) := by decide +kernel
theorem dX11_aHole_42 : decode cX11_aHole 42 = .ok (.iload_n 1, 1) := by decide +kernel
theorem dX11_aHole_43 : decode cX11_aHole 43 = .ok (.iconst 0, 1) := by decide +kernel
theorem dX11_aHole_44 : decode cX11_aHole 44 = .ok (.sipush 999, 3) := by decide +kernel
theorem dX11_aHole_47 : decode cX11_aHole 47 = .ok (.invokevirtual 212, 3) := by decide +kernel
theorem dX11_aHole_50 : decode cX11_aHole 50 = .ok (.ifCond .ne 5, 3) := by decide +kernel
theorem dX11_aHole_53 : decode cX11_aHole 53 = .ok (.iconst 0, 1) := by decide +kernel
theorem dX11_aHole_54 : decode cX11_aHole 54 = .ok (.ireturn, 1) := by decide +kernel
theorem dX11_aHole_55 : decode cX11_aHole 55 = .ok (.aload_n 0, 1) := by decide +kernel
theorem dX11_aHole_56 : decode cX11_aHole 56 = .ok (.getfield 148, 3) := by decide +kernel
theorem dX11_aHole_59 : decode cX11_aHole 59 = .ok (.iconst 3, 1) := by decide +kernel
theorem dX11_aHole_60 : decode cX11_aHole 60 = .ok (.if_icmp .ne 64, 3) := by decide +kernel
theorem dX11_aHole_63 : decode cX11_aHole 63 = .ok (.aload_n 0, 1) := by decide +kernel
theorem dX11_aHole_64 : decode cX11_aHole 64 = .ok (.getfield 145, 3) := by decide +kernel
theorem dX11_aHole_67 : decode cX11_aHole 67 = .ok (.sipush 999, 3) := by decide +kernel
theorem dX11_aHole_70 : decode cX11_aHole 70 = .ok (.if_icmp .gt 54, 3) := by decide +kernel
theorem dX11_aHole_73 : decode cX11_aHole 73 = .ok (.sipush 2682, 3) := by decide +kernel
theorem dX11_aHole_76 : decode cX11_aHole 76 = .ok (.istore_n 2, 1) := by decide +kernel
theorem dX11_aHole_77 : decode cX11_aHole 77 = .ok (.iload_n 2, 1) := by decide +kernel
theorem dX11_aHole_78 : decode cX11_aHole 78 = .ok (.iload_n 1, 1) := by decide +kernel
theorem dX11_aHole_79 : decode cX11_aHole 79 = .ok (.if_icmp .ge 45, 3) := by decide +kernel
theorem dX11_aHole_82 : decode cX11_aHole 82 = .ok (.aload_n 0, 1) := by decide +kernel
theorem dX11_aHole_83 : decode cX11_aHole 83 = .ok (.getfield 7, 3) := by decide +kernel
theorem dX11_aHole_86 : decode cX11_aHole 86 = .ok (.iload_n 2, 1) := by decide +kernel
theorem dX11_aHole_87 : decode cX11_aHole 87 = .ok (.iaload, 1) := by decide +kernel
theorem dX11_aHole_88 : decode cX11_aHole 88 = .ok (.aload_n 0, 1) := by decide +kernel
theorem dX11_aHole_89 : decode cX11_aHole 89 = .ok (.getfield 7, 3) := by decide +kernel
theorem dX11_aHole_92 : decode cX11_aHole 92 = .ok (.iload_n 1, 1) := by decide +kernel
theorem dX11_aHole_93 : decode cX11_aHole 93 = .ok (.iaload, 1) := by decide +kernel
theorem dX11_aHole_94 : decode cX11_aHole 94 = .ok (.if_icmp .ne 24, 3) := by decide +kernel
theorem dX11_aHole_97 : decode cX11_aHole 97 = .ok (.aload_n 0, 1) := by decide +kernel
theorem dX11_aHole_98 : decode cX11_aHole 98 = .ok (.getfield 7, 3) := by decide +kernel
theorem dX11_aHole_101 : decode cX11_aHole 101 = .ok (.iload_n 2, 1) := by decide +kernel
theorem dX11_aHole_102 : decode cX11_aHole 102 = .ok (.iconst 1, 1) := by decide +kernel
theorem dX11_aHole_103 : decode cX11_aHole 103 = .ok (.iadd, 1) := by decide +kernel
theorem dX11_aHole_104 : decode cX11_aHole 104 = .ok (.iaload, 1) := by decide +kernel
theorem dX11_aHole_105 : decode cX11_aHole 105 = .ok (.aload_n 0, 1) := by decide +kernel
theorem dX11_aHole_106 : decode cX11_aHole 106 = .ok (.getfield 145, 3) := by decide +kernel
theorem dX11_aHole_109 : decode cX11_aHole 109 = .ok (.if_icmp .ne 9, 3) := by decide +kernel
theorem dX11_aHole_112 : decode cX11_aHole 112 = .ok (.aload_n 0, 1) := by decide +kernel
theorem dX11_aHole_113 : decode cX11_aHole 113 = .ok (.iconst 5, 1) := by decide +kernel
theorem dX11_aHole_114 : decode cX11_aHole 114 = .ok (.invokevirtual 185, 3) := by decide +kernel
theorem dX11_aHole_117 : decode cX11_aHole 117 = .ok (.ireturn, 1) := by decide +kernel
theorem dX11_aHole_118 : decode cX11_aHole 118 = .ok (.iinc 2 27, 3) := by decide +kernel
theorem dX11_aHole_121 : decode cX11_aHole 121 = .ok (.goto (-44), 3) := by decide +kernel
theorem dX11_aHole_124 : decode cX11_aHole 124 = .ok (.aload_n 0, 1) := by decide +kernel
theorem dX11_aHole_125 : decode cX11_aHole 125 = .ok (.iload_n 1, 1) := by decide +kernel
theorem dX11_aHole_126 : decode cX11_aHole 126 = .ok (.iconst 1, 1) := by decide +kernel
theorem dX11_aHole_127 : decode cX11_aHole 127 = .ok (.iadd, 1) := by decide +kernel
theorem dX11_aHole_128 : decode cX11_aHole 128 = .ok (.iconst 0, 1) := by decide +kernel
theorem dX11_aHole_129 : decode cX11_aHole 129 = .ok (.sipush 999, 3) := by decide +kernel
theorem dX11_aHole_132 : decode cX11_aHole 132 = .ok (.invokevirtual 212, 3) := by decide +kernel
theorem dX11_aHole_135 : decode cX11_aHole 135 = .ok (.ifCond .ne 5, 3) := by decide +kernel
theorem dX11_aHole_138 : decode cX11_aHole 138 = .ok (.iconst 0, 1) := by decide +kernel
theorem dX11_aHole_139 : decode cX11_aHole 139 = .ok (.ireturn, 1) := by decide +kernel
theorem dX11_aHole_140 : decode cX11_aHole 140 = .ok (.aload_n 0, 1) := by decide +kernel
theorem dX11_aHole_141 : decode cX11_aHole 141 = .ok (.getfield 7, 3) := by decide +kernel
theorem dX11_aHole_144 : decode cX11_aHole 144 = .ok (.iload_n 1, 1) := by decide +kernel
theorem dX11_aHole_145 : decode cX11_aHole 145 = .ok (.iconst 2, 1) := by decide +kernel
theorem dX11_aHole_146 : decode cX11_aHole 146 = .ok (.iadd, 1) := by decide +kernel
theorem dX11_aHole_147 : decode cX11_aHole 147 = .ok (.iconst 0, 1) := by decide +kernel
theorem dX11_aHole_148 : decode cX11_aHole 148 = .ok (.iastore, 1) := by decide +kernel
theorem dX11_aHole_149 : decode cX11_aHole 149 = .ok (.aload_n 0, 1) := by decide +kernel
theorem dX11_aHole_150 : decode cX11_aHole 150 = .ok (.ldc 196, 2) := by decide +kernel
theorem dX11_aHole_152 : decode cX11_aHole 152 = .ok (.invokevirtual 188, 3) := by decide +kernel
theorem dX11_aHole_155 : decode cX11_aHole 155 = .ok (.bipush 8, 2) := by decide +kernel
theorem dX11_aHole_157 : decode cX11_aHole 157 = .ok (.if_icmp .ne 101, 3) := by decide +kernel
theorem dX11_aHole_160 : decode cX11_aHole 160 = .ok (.aload_n 0, 1) := by decide +kernel
theorem dX11_aHole_161 : decode cX11_aHole 161 = .ok (.getfield 7, 3) := by decide +kernel
theorem dX11_aHole_164 : decode cX11_aHole 164 = .ok (.iload_n 1, 1) := by decide +kernel
theorem dX11_aHole_165 : decode cX11_aHole 165 = .ok (.iconst 2, 1) := by decide +kernel
theorem dX11_aHole_166 : decode cX11_aHole 166 = .ok (.iadd, 1) := by decide +kernel
theorem dX11_aHole_167 : decode cX11_aHole 167 = .ok (.iaload, 1) := by decide +kernel
theorem dX11_aHole_168 : decode cX11_aHole 168 = .ok (.bipush 8, 2) := by decide +kernel
theorem dX11_aHole_170 : decode cX11_aHole 170 = .ok (.if_icmp .ne 10, 3) := by decide +kernel
theorem dX11_aHole_173 : decode cX11_aHole 173 = .ok (.aload_n 0, 1) := by decide +kernel
theorem dX11_aHole_174 : decode cX11_aHole 174 = .ok (.bipush 6, 2) := by decide +kernel
theorem dX11_aHole_176 : decode cX11_aHole 176 = .ok (.invokevirtual 185, 3) := by decide +kernel
theorem dX11_aHole_179 : decode cX11_aHole 179 = .ok (.ireturn, 1) := by decide +kernel
theorem dX11_aHole_180 : decode cX11_aHole 180 = .ok (.aload_n 0, 1) := by decide +kernel
theorem dX11_aHole_181 : decode cX11_aHole 181 = .ok (.invokevirtual 179, 3) := by decide +kernel
theorem dX11_aHole_184 : decode cX11_aHole 184 = .ok (.iload_n 1, 1) := by decide +kernel
theorem dX11_aHole_185 : decode cX11_aHole 185 = .ok (.iconst 3, 1) := by decide +kernel
theorem dX11_aHole_186 : decode cX11_aHole 186 = .ok (.iadd, 1) := by decide +kernel
theorem dX11_aHole_187 : decode cX11_aHole 187 = .ok (.iconst 2, 1) := by decide +kernel
theorem dX11_aHole_188 : decode cX11_aHole 188 = .ok (.aload_n 0, 1) := by decide +kernel
theorem dX11_aHole_189 : decode cX11_aHole 189 = .ok (.getfield 7, 3) := by decide +kernel
theorem dX11_aHole_192 : decode cX11_aHole 192 = .ok (.iload_n 1, 1) := by decide +kernel
theorem dX11_aHole_193 : decode cX11_aHole 193 = .ok (.iconst 2, 1) := by decide +kernel
theorem dX11_aHole_194 : decode cX11_aHole 194 = .ok (.iadd, 1) := by decide +kernel
theorem dX11_aHole_195 : decode cX11_aHole 195 = .ok (.iaload, 1) := by decide +kernel
theorem dX11_aHole_196 : decode cX11_aHole 196 = .ok (.imul, 1) := by decide +kernel
theorem dX11_aHole_197 : decode cX11_aHole 197 = .ok (.iadd, 1) := by decide +kernel
theorem dX11_aHole_198 : decode cX11_aHole 198 = .ok (.istore_n 2, 1) := by decide +kernel
theorem dX11_aHole_199 : decode cX11_aHole 199 = .ok (.aload_n 0, 1) := by decide +kernel
theorem dX11_aHole_200 : decode cX11_aHole 200 = .ok (.bipush 64, 2) := by decide +kernel
theorem dX11_aHole_202 : decode cX11_aHole 202 = .ok (.aload_n 0, 1) := by decide +kernel
theorem dX11_aHole_203 : decode cX11_aHole 203 = .ok (.getfield 7, 3) := by decide +kernel
theorem dX11_aHole_206 : decode cX11_aHole 206 = .ok (.sipush 2600, 3) := by decide +kernel
theorem dX11_aHole_209 : decode cX11_aHole 209 = .ok (.iaload, 1) := by decide +kernel
theorem dX11_aHole_210 : decode cX11_aHole 210 = .ok (.iload_n 2, 1) := by decide +kernel
theorem dX11_aHole_211 : decode cX11_aHole 211 = .ok (.invokevirtual 215, 3) := by decide +kernel
theorem dX11_aHole_214 : decode cX11_aHole 214 = .ok (.ifCond .eq 27, 3) := by decide +kernel
theorem dX11_aHole_217 : decode cX11_aHole 217 = .ok (.aload_n 0, 1) := by decide +kernel
theorem dX11_aHole_218 : decode cX11_aHole 218 = .ok (.ldc 196, 2) := by decide +kernel
theorem dX11_aHole_220 : decode cX11_aHole 220 = .ok (.bipush 9, 2) := by decide +kernel
theorem dX11_aHole_222 : decode cX11_aHole 222 = .ok (.invokevirtual 218, 3) := by decide +kernel
theorem dX11_aHole_225 : decode cX11_aHole 225 = .ok (.ifCond .eq 16, 3) := by decide +kernel
theorem dX11_aHole_228 : decode cX11_aHole 228 = .ok (.aload_n 0, 1) := by decide +kernel
theorem dX11_aHole_229 : decode cX11_aHole 229 = .ok (.iload_n 2, 1) := by decide +kernel
theorem dX11_aHole_230 : decode cX11_aHole 230 = .ok (.iconst 1, 1) := by decide +kernel
theorem dX11_aHole_231 : decode cX11_aHole 231 = .ok (.iadd, 1) := by decide +kernel
theorem dX11_aHole_232 : decode cX11_aHole 232 = .ok (.iconst 1, 1) := by decide +kernel
theorem dX11_aHole_233 : decode cX11_aHole 233 = .ok (.bipush 99, 2) := by decide +kernel
theorem dX11_aHole_235 : decode cX11_aHole 235 = .ok (.invokevirtual 212, 3) := by decide +kernel
theorem dX11_aHole_238 : decode cX11_aHole 238 = .ok (.ifCond .ne 5, 3) := by decide +kernel
theorem dX11_aHole_241 : decode cX11_aHole 241 = .ok (.iconst 0, 1) := by decide +kernel
theorem dX11_aHole_242 : decode cX11_aHole 242 = .ok (.ireturn, 1) := by decide +kernel
theorem dX11_aHole_243 : decode cX11_aHole 243 = .ok (.aload_n 0, 1) := by decide +kernel
theorem dX11_aHole_244 : decode cX11_aHole 244 = .ok (.getfield 7, 3) := by decide +kernel
theorem dX11_aHole_247 : decode cX11_aHole 247 = .ok (.iload_n 1, 1) := by decide +kernel
theorem dX11_aHole_248 : decode cX11_aHole 248 = .ok (.iconst 2, 1) := by decide +kernel
theorem dX11_aHole_249 : decode cX11_aHole 249 = .ok (.iadd, 1) := by decide +kernel
theorem dX11_aHole_250 : decode cX11_aHole 250 = .ok (.dup2, 1) := by decide +kernel
theorem dX11_aHole_251 : decode cX11_aHole 251 = .ok (.iaload, 1) := by decide +kernel
theorem dX11_aHole_252 : decode cX11_aHole 252 = .ok (.iconst 1, 1) := by decide +kernel
theorem dX11_aHole_253 : decode cX11_aHole 253 = .ok (.iadd, 1) := by decide +kernel
theorem dX11_aHole_254 : decode cX11_aHole 254 = .ok (.iastore, 1) := by decide +kernel
theorem dX11_aHole_255 : decode cX11_aHole 255 = .ok (.goto (-106), 3) := by decide +kernel
theorem dX11_aHole_258 : decode cX11_aHole 258 = .ok (.aload_n 0, 1) := by decide +kernel
theorem dX11_aHole_259 : decode cX11_aHole 259 = .ok (.getfield 7, 3) := by decide +kernel
theorem dX11_aHole_262 : decode cX11_aHole 262 = .ok (.sipush 2601, 3) := by decide +kernel
theorem dX11_aHole_265 : decode cX11_aHole 265 = .ok (.dup2, 1) := by decide +kernel
theorem dX11_aHole_266 : decode cX11_aHole 266 = .ok (.iaload, 1) := by decide +kernel
theorem dX11_aHole_267 : decode cX11_aHole 267 = .ok (.iconst 1, 1) := by decide +kernel
theorem dX11_aHole_268 : decode cX11_aHole 268 = .ok (.iadd, 1) := by decide +kernel
theorem dX11_aHole_269 : decode cX11_aHole 269 = .ok (.iastore, 1) := by decide +kernel
theorem dX11_aHole_270 : decode cX11_aHole 270 = .ok (.iconst 1, 1) := by decide +kernel
theorem dX11_aHole_271 : decode cX11_aHole 271 = .ok (.ireturn, 1) := by decide +kernel
theorem dX11_leftOf_0 : decode cX11_leftOf 0 = .ok (.iload_n 2, 1) := by decide +kernel
theorem dX11_leftOf_1 : decode cX11_leftOf 1 = .ok (.iload_n 0, 1) := by decide +kernel
theorem dX11_leftOf_2 : decode cX11_leftOf 2 = .ok (.isub, 1) := by decide +kernel
theorem dX11_leftOf_3 : decode cX11_leftOf 3 = .ok (.i2l, 1) := by decide +kernel
theorem dX11_leftOf_4 : decode cX11_leftOf 4 = .ok (.iload 5, 2) := by decide +kernel
theorem dX11_leftOf_6 : decode cX11_leftOf 6 = .ok (.iload_n 1, 1) := by decide +kernel
theorem dX11_leftOf_7 : decode cX11_leftOf 7 = .ok (.isub, 1) := by decide +kernel
theorem dX11_leftOf_8 : decode cX11_leftOf 8 = .ok (.i2l, 1) := by decide +kernel
theorem dX11_leftOf_9 : decode cX11_leftOf 9 = .ok (.lmul, 1) := by decide +kernel
theorem dX11_leftOf_10 : decode cX11_leftOf 10 = .ok (.iload_n 3, 1) := by decide +kernel
theorem dX11_leftOf_11 : decode cX11_leftOf 11 = .ok (.iload_n 1, 1) := by decide +kernel
theorem dX11_leftOf_12 : decode cX11_leftOf 12 = .ok (.isub, 1) := by decide +kernel
theorem dX11_leftOf_13 : decode cX11_leftOf 13 = .ok (.i2l, 1) := by decide +kernel
theorem dX11_leftOf_14 : decode cX11_leftOf 14 = .ok (.iload 4, 2) := by decide +kernel
theorem dX11_leftOf_16 : decode cX11_leftOf 16 = .ok (.iload_n 0, 1) := by decide +kernel
theorem dX11_leftOf_17 : decode cX11_leftOf 17 = .ok (.isub, 1) := by decide +kernel
theorem dX11_leftOf_18 : decode cX11_leftOf 18 = .ok (.i2l, 1) := by decide +kernel
theorem dX11_leftOf_19 : decode cX11_leftOf 19 = .ok (.lmul, 1) := by decide +kernel
theorem dX11_leftOf_20 : decode cX11_leftOf 20 = .ok (.lsub, 1) := by decide +kernel
theorem dX11_leftOf_21 : decode cX11_leftOf 21 = .ok (.lreturn, 1) := by decide +kernel
theorem dX11_cornersOf_0 : decode cX11_cornersOf 0 = .ok (.iload_n 1, 1) := by decide +kernel
theorem dX11_cornersOf_1 : decode cX11_cornersOf 1 = .ok (.bipush 82, 2) := by decide +kernel
theorem dX11_cornersOf_3 : decode cX11_cornersOf 3 = .ok (.iadd, 1) := by decide +kernel
theorem dX11_cornersOf_4 : decode cX11_cornersOf 4 = .ok (.bipush 27, 2) := by decide +kernel
theorem dX11_cornersOf_6 : decode cX11_cornersOf 6 = .ok (.iload_n 2, 1) := by decide +kernel
theorem dX11_cornersOf_7 : decode cX11_cornersOf 7 = .ok (.imul, 1) := by decide +kernel
theorem dX11_cornersOf_8 : decode cX11_cornersOf 8 = .ok (.iadd, 1) := by decide +kernel
theorem dX11_cornersOf_9 : decode cX11_cornersOf 9 = .ok (.istore 5, 2) := by decide +kernel
theorem dX11_cornersOf_11 : decode cX11_cornersOf 11 = .ok (.iload_n 1, 1) := by decide +kernel
theorem dX11_cornersOf_12 : decode cX11_cornersOf 12 = .ok (.bipush 82, 2) := by decide +kernel
theorem dX11_cornersOf_14 : decode cX11_cornersOf 14 = .ok (.iadd, 1) := by decide +kernel
theorem dX11_cornersOf_15 : decode cX11_cornersOf 15 = .ok (.bipush 27, 2) := by decide +kernel
theorem dX11_cornersOf_17 : decode cX11_cornersOf 17 = .ok (.iload_n 3, 1) := by decide +kernel
theorem dX11_cornersOf_18 : decode cX11_cornersOf 18 = .ok (.imul, 1) := by decide +kernel
theorem dX11_cornersOf_19 : decode cX11_cornersOf 19 = .ok (.iadd, 1) := by decide +kernel
theorem dX11_cornersOf_20 : decode cX11_cornersOf 20 = .ok (.istore 6, 2) := by decide +kernel
theorem dX11_cornersOf_22 : decode cX11_cornersOf 22 = .ok (.iload_n 1, 1) := by decide +kernel
theorem dX11_cornersOf_23 : decode cX11_cornersOf 23 = .ok (.bipush 82, 2) := by decide +kernel
theorem dX11_cornersOf_25 : decode cX11_cornersOf 25 = .ok (.iadd, 1) := by decide +kernel
theorem dX11_cornersOf_26 : decode cX11_cornersOf 26 = .ok (.bipush 27, 2) := by decide +kernel
theorem dX11_cornersOf_28 : decode cX11_cornersOf 28 = .ok (.iload 4, 2) := by decide +kernel
theorem dX11_cornersOf_30 : decode cX11_cornersOf 30 = .ok (.imul, 1) := by decide +kernel
theorem dX11_cornersOf_31 : decode cX11_cornersOf 31 = .ok (.iadd, 1) := by decide +kernel
theorem dX11_cornersOf_32 : decode cX11_cornersOf 32 = .ok (.istore 7, 2) := by decide +kernel
theorem dX11_cornersOf_34 : decode cX11_cornersOf 34 = .ok (.aload_n 0, 1) := by decide +kernel
theorem dX11_cornersOf_35 : decode cX11_cornersOf 35 = .ok (.getfield 7, 3) := by decide +kernel
theorem dX11_cornersOf_38 : decode cX11_cornersOf 38 = .ok (.iload 5, 2) := by decide +kernel
theorem dX11_cornersOf_40 : decode cX11_cornersOf 40 = .ok (.iaload, 1) := by decide +kernel
theorem dX11_cornersOf_41 : decode cX11_cornersOf 41 = .ok (.aload_n 0, 1) := by decide +kernel
theorem dX11_cornersOf_42 : decode cX11_cornersOf 42 = .ok (.getfield 7, 3) := by decide +kernel
theorem dX11_cornersOf_45 : decode cX11_cornersOf 45 = .ok (.iload 5, 2) := by decide +kernel
theorem dX11_cornersOf_47 : decode cX11_cornersOf 47 = .ok (.iconst 1, 1) := by decide +kernel
theorem dX11_cornersOf_48 : decode cX11_cornersOf 48 = .ok (.iadd, 1) := by decide +kernel
theorem dX11_cornersOf_49 : decode cX11_cornersOf 49 = .ok (.iaload, 1) := by decide +kernel
theorem dX11_cornersOf_50 : decode cX11_cornersOf 50 = .ok (.aload_n 0, 1) := by decide +kernel
theorem dX11_cornersOf_51 : decode cX11_cornersOf 51 = .ok (.getfield 7, 3) := by decide +kernel
theorem dX11_cornersOf_54 : decode cX11_cornersOf 54 = .ok (.iload 6, 2) := by decide +kernel
theorem dX11_cornersOf_56 : decode cX11_cornersOf 56 = .ok (.iaload, 1) := by decide +kernel
theorem dX11_cornersOf_57 : decode cX11_cornersOf 57 = .ok (.aload_n 0, 1) := by decide +kernel
theorem dX11_cornersOf_58 : decode cX11_cornersOf 58 = .ok (.getfield 7, 3) := by decide +kernel
theorem dX11_cornersOf_61 : decode cX11_cornersOf 61 = .ok (.iload 6, 2) := by decide +kernel
theorem dX11_cornersOf_63 : decode cX11_cornersOf 63 = .ok (.iconst 1, 1) := by decide +kernel
theorem dX11_cornersOf_64 : decode cX11_cornersOf 64 = .ok (.iadd, 1) := by decide +kernel
theorem dX11_cornersOf_65 : decode cX11_cornersOf 65 = .ok (.iaload, 1) := by decide +kernel
theorem dX11_cornersOf_66 : decode cX11_cornersOf 66 = .ok (.aload_n 0, 1) := by decide +kernel
theorem dX11_cornersOf_67 : decode cX11_cornersOf 67 = .ok (.getfield 7, 3) := by decide +kernel
theorem dX11_cornersOf_70 : decode cX11_cornersOf 70 = .ok (.iload 7, 2) := by decide +kernel
theorem dX11_cornersOf_72 : decode cX11_cornersOf 72 = .ok (.iaload, 1) := by decide +kernel
theorem dX11_cornersOf_73 : decode cX11_cornersOf 73 = .ok (.aload_n 0, 1) := by decide +kernel
theorem dX11_cornersOf_74 : decode cX11_cornersOf 74 = .ok (.getfield 7, 3) := by decide +kernel
theorem dX11_cornersOf_77 : decode cX11_cornersOf 77 = .ok (.iload 7, 2) := by decide +kernel
theorem dX11_cornersOf_79 : decode cX11_cornersOf 79 = .ok (.iconst 1, 1) := by decide +kernel
theorem dX11_cornersOf_80 : decode cX11_cornersOf 80 = .ok (.iadd, 1) := by decide +kernel
theorem dX11_cornersOf_81 : decode cX11_cornersOf 81 = .ok (.iaload, 1) := by decide +kernel
theorem dX11_cornersOf_82 : decode cX11_cornersOf 82 = .ok (.invokestatic 222, 3) := by decide +kernel
theorem dX11_cornersOf_85 : decode cX11_cornersOf 85 = .ok (.lreturn, 1) := by decide +kernel
theorem dX11_aTriangle_0 : decode cX11_aTriangle 0 = .ok (.sipush 2844, 3) := by decide +kernel
theorem dX11_aTriangle_3 : decode cX11_aTriangle 3 = .ok (.iconst 3, 1) := by decide +kernel
theorem dX11_aTriangle_4 : decode cX11_aTriangle 4 = .ok (.aload_n 0, 1) := by decide +kernel
theorem dX11_aTriangle_5 : decode cX11_aTriangle 5 = .ok (.getfield 7, 3) := by decide +kernel
theorem dX11_aTriangle_8 : decode cX11_aTriangle 8 = .ok (.sipush 2602, 3) := by decide +kernel
theorem dX11_aTriangle_11 : decode cX11_aTriangle 11 = .ok (.iaload, 1) := by decide +kernel
theorem dX11_aTriangle_12 : decode cX11_aTriangle 12 = .ok (.imul, 1) := by decide +kernel
theorem dX11_aTriangle_13 : decode cX11_aTriangle 13 = .ok (.iadd, 1) := by decide +kernel
theorem dX11_aTriangle_14 : decode cX11_aTriangle 14 = .ok (.istore_n 1, 1) := by decide +kernel
theorem dX11_aTriangle_15 : decode cX11_aTriangle 15 = .ok (.aload_n 0, 1) := by decide +kernel
theorem dX11_aTriangle_16 : decode cX11_aTriangle 16 = .ok (.getfield 7, 3) := by decide +kernel
theorem dX11_aTriangle_19 : decode cX11_aTriangle 19 = .ok (.sipush 2602, 3) := by decide +kernel
theorem dX11_aTriangle_22 : decode cX11_aTriangle 22 = .ok (.iaload, 1) := by decide +kernel
theorem dX11_aTriangle_23 : decode cX11_aTriangle 23 = .ok (.bipush 8, 2) := by decide +kernel
theorem dX11_aTriangle_25 : decode cX11_aTriangle 25 = .ok (.if_icmp .ne 10, 3) := by decide +kernel
theorem dX11_aTriangle_28 : decode cX11_aTriangle 28 = .ok (.aload_n 0, 1) := by decide +kernel
theorem dX11_aTriangle_29 : decode cX11_aTriangle 29 = .ok (.bipush 6, 2) := by decide +kernel
theorem dX11_aTriangle_31 : decode cX11_aTriangle 31 = .ok (.invokevirtual 185, 3) := by decide +kernel
theorem dX11_aTriangle_34 : decode cX11_aTriangle 34 = .ok (.ireturn, 1) := by decide +kernel
theorem dX11_aTriangle_35 : decode cX11_aTriangle 35 = .ok (.aload_n 0, 1) := by decide +kernel
theorem dX11_aTriangle_36 : decode cX11_aTriangle 36 = .ok (.invokevirtual 179, 3) := by decide +kernel
theorem dX11_aTriangle_39 : decode cX11_aTriangle 39 = .ok (.aload_n 0, 1) := by decide +kernel
theorem dX11_aTriangle_40 : decode cX11_aTriangle 40 = .ok (.bipush 72, 2) := by decide +kernel
theorem dX11_aTriangle_42 : decode cX11_aTriangle 42 = .ok (.aload_n 0, 1) := by decide +kernel
theorem dX11_aTriangle_43 : decode cX11_aTriangle 43 = .ok (.getfield 7, 3) := by decide +kernel
theorem dX11_aTriangle_46 : decode cX11_aTriangle 46 = .ok (.sipush 2601, 3) := by decide +kernel
theorem dX11_aTriangle_49 : decode cX11_aTriangle 49 = .ok (.iaload, 1) := by decide +kernel
theorem dX11_aTriangle_50 : decode cX11_aTriangle 50 = .ok (.iload_n 1, 1) := by decide +kernel
theorem dX11_aTriangle_51 : decode cX11_aTriangle 51 = .ok (.invokevirtual 215, 3) := by decide +kernel
theorem dX11_aTriangle_54 : decode cX11_aTriangle 54 = .ok (.ifCond .eq 23, 3) := by decide +kernel
theorem dX11_aTriangle_57 : decode cX11_aTriangle 57 = .ok (.aload_n 0, 1) := by decide +kernel
theorem dX11_aTriangle_58 : decode cX11_aTriangle 58 = .ok (.bipush 72, 2) := by decide +kernel
theorem dX11_aTriangle_60 : decode cX11_aTriangle 60 = .ok (.aload_n 0, 1) := by decide +kernel
theorem dX11_aTriangle_61 : decode cX11_aTriangle 61 = .ok (.getfield 7, 3) := by decide +kernel
theorem dX11_aTriangle_64 : decode cX11_aTriangle 64 = .ok (.sipush 2601, 3) := by decide +kernel
theorem dX11_aTriangle_67 : decode cX11_aTriangle 67 = .ok (.iaload, 1) := by decide +kernel
theorem dX11_aTriangle_68 : decode cX11_aTriangle 68 = .ok (.iload_n 1, 1) := by decide +kernel
theorem dX11_aTriangle_69 : decode cX11_aTriangle 69 = .ok (.iconst 1, 1) := by decide +kernel
theorem dX11_aTriangle_70 : decode cX11_aTriangle 70 = .ok (.iadd, 1) := by decide +kernel
theorem dX11_aTriangle_71 : decode cX11_aTriangle 71 = .ok (.invokevirtual 215, 3) := by decide +kernel
theorem dX11_aTriangle_74 : decode cX11_aTriangle 74 = .ok (.ifCond .ne 5, 3) := by decide +kernel
theorem dX11_aTriangle_77 : decode cX11_aTriangle 77 = .ok (.iconst 0, 1) := by decide +kernel
theorem dX11_aTriangle_78 : decode cX11_aTriangle 78 = .ok (.ireturn, 1) := by decide +kernel
theorem dX11_aTriangle_79 : decode cX11_aTriangle 79 = .ok (.aload_n 0, 1) := by decide +kernel
theorem dX11_aTriangle_80 : decode cX11_aTriangle 80 = .ok (.ldc 196, 2) := by decide +kernel
theorem dX11_aTriangle_82 : decode cX11_aTriangle 82 = .ok (.invokevirtual 198, 3) := by decide +kernel
theorem dX11_aTriangle_85 : decode cX11_aTriangle 85 = .ok (.ifCond .eq 56, 3) := by decide +kernel
theorem dX11_aTriangle_88 : decode cX11_aTriangle 88 = .ok (.aload_n 0, 1) := by decide +kernel
theorem dX11_aTriangle_89 : decode cX11_aTriangle 89 = .ok (.bipush 72, 2) := by decide +kernel
theorem dX11_aTriangle_91 : decode cX11_aTriangle 91 = .ok (.aload_n 0, 1) := by decide +kernel
theorem dX11_aTriangle_92 : decode cX11_aTriangle 92 = .ok (.getfield 7, 3) := by decide +kernel
theorem dX11_aTriangle_95 : decode cX11_aTriangle 95 = .ok (.sipush 2601, 3) := by decide +kernel
theorem dX11_aTriangle_98 : decode cX11_aTriangle 98 = .ok (.iaload, 1) := by decide +kernel
theorem dX11_aTriangle_99 : decode cX11_aTriangle 99 = .ok (.invokevirtual 202, 3) := by decide +kernel
theorem dX11_aTriangle_102 : decode cX11_aTriangle 102 = .ok (.istore_n 2, 1) := by decide +kernel
theorem dX11_aTriangle_103 : decode cX11_aTriangle 103 = .ok (.iload_n 2, 1) := by decide +kernel
theorem dX11_aTriangle_104 : decode cX11_aTriangle 104 = .ok (.iconst (-1), 1) := by decide +kernel
theorem dX11_aTriangle_105 : decode cX11_aTriangle 105 = .ok (.if_icmp .eq 36, 3) := by decide +kernel
theorem dX11_aTriangle_108 : decode cX11_aTriangle 108 = .ok (.aload_n 0, 1) := by decide +kernel
theorem dX11_aTriangle_109 : decode cX11_aTriangle 109 = .ok (.sipush 2600, 3) := by decide +kernel
theorem dX11_aTriangle_112 : decode cX11_aTriangle 112 = .ok (.aload_n 0, 1) := by decide +kernel
theorem dX11_aTriangle_113 : decode cX11_aTriangle 113 = .ok (.getfield 7, 3) := by decide +kernel
theorem dX11_aTriangle_116 : decode cX11_aTriangle 116 = .ok (.iload_n 1, 1) := by decide +kernel
theorem dX11_aTriangle_117 : decode cX11_aTriangle 117 = .ok (.iaload, 1) := by decide +kernel
theorem dX11_aTriangle_118 : decode cX11_aTriangle 118 = .ok (.aload_n 0, 1) := by decide +kernel
theorem dX11_aTriangle_119 : decode cX11_aTriangle 119 = .ok (.getfield 7, 3) := by decide +kernel
theorem dX11_aTriangle_122 : decode cX11_aTriangle 122 = .ok (.iload_n 1, 1) := by decide +kernel
theorem dX11_aTriangle_123 : decode cX11_aTriangle 123 = .ok (.iconst 1, 1) := by decide +kernel
theorem dX11_aTriangle_124 : decode cX11_aTriangle 124 = .ok (.iadd, 1) := by decide +kernel
theorem dX11_aTriangle_125 : decode cX11_aTriangle 125 = .ok (.iaload, 1) := by decide +kernel
theorem dX11_aTriangle_126 : decode cX11_aTriangle 126 = .ok (.iload_n 2, 1) := by decide +kernel
theorem dX11_aTriangle_127 : decode cX11_aTriangle 127 = .ok (.invokevirtual 226, 3) := by decide +kernel
theorem dX11_aTriangle_130 : decode cX11_aTriangle 130 = .ok (.lconst 0, 1) := by decide +kernel
theorem dX11_aTriangle_131 : decode cX11_aTriangle 131 = .ok (.lcmp, 1) := by decide +kernel
theorem dX11_aTriangle_132 : decode cX11_aTriangle 132 = .ok (.ifCond .ne 9, 3) := by decide +kernel
theorem dX11_aTriangle_135 : decode cX11_aTriangle 135 = .ok (.aload_n 0, 1) := by decide +kernel
theorem dX11_aTriangle_136 : decode cX11_aTriangle 136 = .ok (.iconst 5, 1) := by decide +kernel
theorem dX11_aTriangle_137 : decode cX11_aTriangle 137 = .ok (.invokevirtual 185, 3) := by decide +kernel
theorem dX11_aTriangle_140 : decode cX11_aTriangle 140 = .ok (.ireturn, 1) := by decide +kernel
theorem dX11_aTriangle_141 : decode cX11_aTriangle 141 = .ok (.aload_n 0, 1) := by decide +kernel
theorem dX11_aTriangle_142 : decode cX11_aTriangle 142 = .ok (.bipush 72, 2) := by decide +kernel
theorem dX11_aTriangle_144 : decode cX11_aTriangle 144 = .ok (.aload_n 0, 1) := by decide +kernel
theorem dX11_aTriangle_145 : decode cX11_aTriangle 145 = .ok (.getfield 7, 3) := by decide +kernel
theorem dX11_aTriangle_148 : decode cX11_aTriangle 148 = .ok (.sipush 2601, 3) := by decide +kernel
theorem dX11_aTriangle_151 : decode cX11_aTriangle 151 = .ok (.iaload, 1) := by decide +kernel
theorem dX11_aTriangle_152 : decode cX11_aTriangle 152 = .ok (.iload_n 1, 1) := by decide +kernel
theorem dX11_aTriangle_153 : decode cX11_aTriangle 153 = .ok (.iconst 2, 1) := by decide +kernel
theorem dX11_aTriangle_154 : decode cX11_aTriangle 154 = .ok (.iadd, 1) := by decide +kernel
theorem dX11_aTriangle_155 : decode cX11_aTriangle 155 = .ok (.invokevirtual 215, 3) := by decide +kernel
theorem dX11_aTriangle_158 : decode cX11_aTriangle 158 = .ok (.ifCond .ne 5, 3) := by decide +kernel
theorem dX11_aTriangle_161 : decode cX11_aTriangle 161 = .ok (.iconst 0, 1) := by decide +kernel
theorem dX11_aTriangle_162 : decode cX11_aTriangle 162 = .ok (.ireturn, 1) := by decide +kernel
theorem dX11_aTriangle_163 : decode cX11_aTriangle 163 = .ok (.aload_n 0, 1) := by decide +kernel
theorem dX11_aTriangle_164 : decode cX11_aTriangle 164 = .ok (.getfield 7, 3) := by decide +kernel
theorem dX11_aTriangle_167 : decode cX11_aTriangle 167 = .ok (.sipush 2602, 3) := by decide +kernel
theorem dX11_aTriangle_170 : decode cX11_aTriangle 170 = .ok (.dup2, 1) := by decide +kernel
theorem dX11_aTriangle_171 : decode cX11_aTriangle 171 = .ok (.iaload, 1) := by decide +kernel
theorem dX11_aTriangle_172 : decode cX11_aTriangle 172 = .ok (.iconst 1, 1) := by decide +kernel
theorem dX11_aTriangle_173 : decode cX11_aTriangle 173 = .ok (.iadd, 1) := by decide +kernel
theorem dX11_aTriangle_174 : decode cX11_aTriangle 174 = .ok (.iastore, 1) := by decide +kernel
theorem dX11_aTriangle_175 : decode cX11_aTriangle 175 = .ok (.iconst 1, 1) := by decide +kernel
theorem dX11_aTriangle_176 : decode cX11_aTriangle 176 = .ok (.ireturn, 1) := by decide +kernel
theorem dX11_aFault_0 : decode cX11_aFault 0 = .ok (.sipush 2868, 3) := by decide +kernel
theorem dX11_aFault_3 : decode cX11_aFault 3 = .ok (.iconst 5, 1) := by decide +kernel
theorem dX11_aFault_4 : decode cX11_aFault 4 = .ok (.aload_n 0, 1) := by decide +kernel
theorem dX11_aFault_5 : decode cX11_aFault 5 = .ok (.getfield 7, 3) := by decide +kernel
theorem dX11_aFault_8 : decode cX11_aFault 8 = .ok (.sipush 2603, 3) := by decide +kernel
theorem dX11_aFault_11 : decode cX11_aFault 11 = .ok (.iaload, 1) := by decide +kernel
theorem dX11_aFault_12 : decode cX11_aFault 12 = .ok (.imul, 1) := by decide +kernel
theorem dX11_aFault_13 : decode cX11_aFault 13 = .ok (.iadd, 1) := by decide +kernel
theorem dX11_aFault_14 : decode cX11_aFault 14 = .ok (.istore_n 1, 1) := by decide +kernel
theorem dX11_aFault_15 : decode cX11_aFault 15 = .ok (.aload_n 0, 1) := by decide +kernel
theorem dX11_aFault_16 : decode cX11_aFault 16 = .ok (.iconst 3, 1) := by decide +kernel
theorem dX11_aFault_17 : decode cX11_aFault 17 = .ok (.iconst 2, 1) := by decide +kernel
theorem dX11_aFault_18 : decode cX11_aFault 18 = .ok (.bipush 14, 2) := by decide +kernel
theorem dX11_aFault_20 : decode cX11_aFault 20 = .ok (.invokevirtual 205, 3) := by decide +kernel
theorem dX11_aFault_23 : decode cX11_aFault 23 = .ok (.ifCond .ne 5, 3) := by decide +kernel
theorem dX11_aFault_26 : decode cX11_aFault 26 = .ok (.iconst 0, 1) := by decide +kernel
theorem dX11_aFault_27 : decode cX11_aFault 27 = .ok (.ireturn, 1) := by decide +kernel
theorem dX11_aFault_28 : decode cX11_aFault 28 = .ok (.aload_n 0, 1) := by decide +kernel
theorem dX11_aFault_29 : decode cX11_aFault 29 = .ok (.ldc 196, 2) := by decide +kernel
theorem dX11_aFault_31 : decode cX11_aFault 31 = .ok (.bipush 10, 2) := by decide +kernel
theorem dX11_aFault_33 : decode cX11_aFault 33 = .ok (.invokevirtual 218, 3) := by decide +kernel
theorem dX11_aFault_36 : decode cX11_aFault 36 = .ok (.ifCond .eq 54, 3) := by decide +kernel
theorem dX11_aFault_39 : decode cX11_aFault 39 = .ok (.aload_n 0, 1) := by decide +kernel
theorem dX11_aFault_40 : decode cX11_aFault 40 = .ok (.iload_n 1, 1) := by decide +kernel
theorem dX11_aFault_41 : decode cX11_aFault 41 = .ok (.iconst 0, 1) := by decide +kernel
theorem dX11_aFault_42 : decode cX11_aFault 42 = .ok (.sipush 999, 3) := by decide +kernel
theorem dX11_aFault_45 : decode cX11_aFault 45 = .ok (.invokevirtual 212, 3) := by decide +kernel
theorem dX11_aFault_48 : decode cX11_aFault 48 = .ok (.ifCond .eq 42, 3) := by decide +kernel
theorem dX11_aFault_51 : decode cX11_aFault 51 = .ok (.aload_n 0, 1) := by decide +kernel
theorem dX11_aFault_52 : decode cX11_aFault 52 = .ok (.iload_n 1, 1) := by decide +kernel
theorem dX11_aFault_53 : decode cX11_aFault 53 = .ok (.iconst 1, 1) := by decide +kernel
theorem dX11_aFault_54 : decode cX11_aFault 54 = .ok (.iadd, 1) := by decide +kernel
theorem dX11_aFault_55 : decode cX11_aFault 55 = .ok (.iconst 0, 1) := by decide +kernel
theorem dX11_aFault_56 : decode cX11_aFault 56 = .ok (.sipush 999, 3) := by decide +kernel
theorem dX11_aFault_59 : decode cX11_aFault 59 = .ok (.invokevirtual 212, 3) := by decide +kernel
theorem dX11_aFault_62 : decode cX11_aFault 62 = .ok (.ifCond .eq 28, 3) := by decide +kernel
theorem dX11_aFault_65 : decode cX11_aFault 65 = .ok (.aload_n 0, 1) := by decide +kernel
theorem dX11_aFault_66 : decode cX11_aFault 66 = .ok (.ldc 196, 2) := by decide +kernel
theorem dX11_aFault_68 : decode cX11_aFault 68 = .ok (.bipush 11, 2) := by decide +kernel
theorem dX11_aFault_70 : decode cX11_aFault 70 = .ok (.invokevirtual 218, 3) := by decide +kernel
theorem dX11_aFault_73 : decode cX11_aFault 73 = .ok (.ifCond .eq 17, 3) := by decide +kernel
theorem dX11_aFault_76 : decode cX11_aFault 76 = .ok (.aload_n 0, 1) := by decide +kernel
theorem dX11_aFault_77 : decode cX11_aFault 77 = .ok (.iload_n 1, 1) := by decide +kernel
theorem dX11_aFault_78 : decode cX11_aFault 78 = .ok (.iconst 2, 1) := by decide +kernel
theorem dX11_aFault_79 : decode cX11_aFault 79 = .ok (.iadd, 1) := by decide +kernel
theorem dX11_aFault_80 : decode cX11_aFault 80 = .ok (.iconst 0, 1) := by decide +kernel
theorem dX11_aFault_81 : decode cX11_aFault 81 = .ok (.sipush 999, 3) := by decide +kernel
theorem dX11_aFault_84 : decode cX11_aFault 84 = .ok (.invokevirtual 212, 3) := by decide +kernel
theorem dX11_aFault_87 : decode cX11_aFault 87 = .ok (.ifCond .ne 5, 3) := by decide +kernel
theorem dX11_aFault_90 : decode cX11_aFault 90 = .ok (.iconst 0, 1) := by decide +kernel
theorem dX11_aFault_91 : decode cX11_aFault 91 = .ok (.ireturn, 1) := by decide +kernel
theorem dX11_aFault_92 : decode cX11_aFault 92 = .ok (.aload_n 0, 1) := by decide +kernel
theorem dX11_aFault_93 : decode cX11_aFault 93 = .ok (.getfield 148, 3) := by decide +kernel
theorem dX11_aFault_96 : decode cX11_aFault 96 = .ok (.iconst 3, 1) := by decide +kernel
theorem dX11_aFault_97 : decode cX11_aFault 97 = .ok (.if_icmp .ne 51, 3) := by decide +kernel
theorem dX11_aFault_100 : decode cX11_aFault 100 = .ok (.aload_n 0, 1) := by decide +kernel
theorem dX11_aFault_101 : decode cX11_aFault 101 = .ok (.getfield 145, 3) := by decide +kernel
theorem dX11_aFault_104 : decode cX11_aFault 104 = .ok (.sipush 999, 3) := by decide +kernel
theorem dX11_aFault_107 : decode cX11_aFault 107 = .ok (.if_icmp .gt 41, 3) := by decide +kernel
theorem dX11_aFault_110 : decode cX11_aFault 110 = .ok (.aload_n 0, 1) := by decide +kernel
theorem dX11_aFault_111 : decode cX11_aFault 111 = .ok (.getfield 7, 3) := by decide +kernel
theorem dX11_aFault_114 : decode cX11_aFault 114 = .ok (.iload_n 1, 1) := by decide +kernel
theorem dX11_aFault_115 : decode cX11_aFault 115 = .ok (.iaload, 1) := by decide +kernel
theorem dX11_aFault_116 : decode cX11_aFault 116 = .ok (.aload_n 0, 1) := by decide +kernel
theorem dX11_aFault_117 : decode cX11_aFault 117 = .ok (.getfield 7, 3) := by decide +kernel
theorem dX11_aFault_120 : decode cX11_aFault 120 = .ok (.iload_n 1, 1) := by decide +kernel
theorem dX11_aFault_121 : decode cX11_aFault 121 = .ok (.iconst 2, 1) := by decide +kernel
theorem dX11_aFault_122 : decode cX11_aFault 122 = .ok (.iadd, 1) := by decide +kernel
theorem dX11_aFault_123 : decode cX11_aFault 123 = .ok (.iaload, 1) := by decide +kernel
theorem dX11_aFault_124 : decode cX11_aFault 124 = .ok (.if_icmp .ne 24, 3) := by decide +kernel
theorem dX11_aFault_127 : decode cX11_aFault 127 = .ok (.aload_n 0, 1) := by decide +kernel
theorem dX11_aFault_128 : decode cX11_aFault 128 = .ok (.getfield 7, 3) := by decide +kernel
theorem dX11_aFault_131 : decode cX11_aFault 131 = .ok (.iload_n 1, 1) := by decide +kernel
theorem dX11_aFault_132 : decode cX11_aFault 132 = .ok (.iconst 1, 1) := by decide +kernel
theorem dX11_aFault_133 : decode cX11_aFault 133 = .ok (.iadd, 1) := by decide +kernel
theorem dX11_aFault_134 : decode cX11_aFault 134 = .ok (.iaload, 1) := by decide +kernel
theorem dX11_aFault_135 : decode cX11_aFault 135 = .ok (.aload_n 0, 1) := by decide +kernel
theorem dX11_aFault_136 : decode cX11_aFault 136 = .ok (.getfield 145, 3) := by decide +kernel
theorem dX11_aFault_139 : decode cX11_aFault 139 = .ok (.if_icmp .ne 9, 3) := by decide +kernel
theorem dX11_aFault_142 : decode cX11_aFault 142 = .ok (.aload_n 0, 1) := by decide +kernel
theorem dX11_aFault_143 : decode cX11_aFault 143 = .ok (.iconst 5, 1) := by decide +kernel
theorem dX11_aFault_144 : decode cX11_aFault 144 = .ok (.invokevirtual 185, 3) := by decide +kernel
theorem dX11_aFault_147 : decode cX11_aFault 147 = .ok (.ireturn, 1) := by decide +kernel
theorem dX11_aFault_148 : decode cX11_aFault 148 = .ok (.aload_n 0, 1) := by decide +kernel
theorem dX11_aFault_149 : decode cX11_aFault 149 = .ok (.iload_n 1, 1) := by decide +kernel
theorem dX11_aFault_150 : decode cX11_aFault 150 = .ok (.iconst 3, 1) := by decide +kernel
theorem dX11_aFault_151 : decode cX11_aFault 151 = .ok (.iadd, 1) := by decide +kernel
theorem dX11_aFault_152 : decode cX11_aFault 152 = .ok (.iconst 0, 1) := by decide +kernel
theorem dX11_aFault_153 : decode cX11_aFault 153 = .ok (.sipush 999, 3) := by decide +kernel
theorem dX11_aFault_156 : decode cX11_aFault 156 = .ok (.invokevirtual 212, 3) := by decide +kernel
theorem dX11_aFault_159 : decode cX11_aFault 159 = .ok (.ifCond .eq 28, 3) := by decide +kernel
theorem dX11_aFault_162 : decode cX11_aFault 162 = .ok (.aload_n 0, 1) := by decide +kernel
theorem dX11_aFault_163 : decode cX11_aFault 163 = .ok (.ldc 196, 2) := by decide +kernel
theorem dX11_aFault_165 : decode cX11_aFault 165 = .ok (.bipush 12, 2) := by decide +kernel
theorem dX11_aFault_167 : decode cX11_aFault 167 = .ok (.invokevirtual 218, 3) := by decide +kernel
theorem dX11_aFault_170 : decode cX11_aFault 170 = .ok (.ifCond .eq 17, 3) := by decide +kernel
theorem dX11_aFault_173 : decode cX11_aFault 173 = .ok (.aload_n 0, 1) := by decide +kernel
theorem dX11_aFault_174 : decode cX11_aFault 174 = .ok (.iload_n 1, 1) := by decide +kernel
theorem dX11_aFault_175 : decode cX11_aFault 175 = .ok (.iconst 4, 1) := by decide +kernel
theorem dX11_aFault_176 : decode cX11_aFault 176 = .ok (.iadd, 1) := by decide +kernel
theorem dX11_aFault_177 : decode cX11_aFault 177 = .ok (.iconst 0, 1) := by decide +kernel
theorem dX11_aFault_178 : decode cX11_aFault 178 = .ok (.sipush 999, 3) := by decide +kernel
theorem dX11_aFault_181 : decode cX11_aFault 181 = .ok (.invokevirtual 212, 3) := by decide +kernel
theorem dX11_aFault_184 : decode cX11_aFault 184 = .ok (.ifCond .ne 5, 3) := by decide +kernel
theorem dX11_aFault_187 : decode cX11_aFault 187 = .ok (.iconst 0, 1) := by decide +kernel
theorem dX11_aFault_188 : decode cX11_aFault 188 = .ok (.ireturn, 1) := by decide +kernel
theorem dX11_aFault_189 : decode cX11_aFault 189 = .ok (.aload_n 0, 1) := by decide +kernel
theorem dX11_aFault_190 : decode cX11_aFault 190 = .ok (.getfield 7, 3) := by decide +kernel
theorem dX11_aFault_193 : decode cX11_aFault 193 = .ok (.sipush 2603, 3) := by decide +kernel
theorem dX11_aFault_196 : decode cX11_aFault 196 = .ok (.dup2, 1) := by decide +kernel
theorem dX11_aFault_197 : decode cX11_aFault 197 = .ok (.iaload, 1) := by decide +kernel
theorem dX11_aFault_198 : decode cX11_aFault 198 = .ok (.iconst 1, 1) := by decide +kernel
theorem dX11_aFault_199 : decode cX11_aFault 199 = .ok (.iadd, 1) := by decide +kernel
theorem dX11_aFault_200 : decode cX11_aFault 200 = .ok (.iastore, 1) := by decide +kernel
theorem dX11_aFault_201 : decode cX11_aFault 201 = .ok (.iconst 1, 1) := by decide +kernel
theorem dX11_aFault_202 : decode cX11_aFault 202 = .ok (.ireturn, 1) := by decide +kernel
theorem dX11_isSign_0 : decode cX11_isSign 0 = .ok (.aload_n 0, 1) := by decide +kernel
theorem dX11_isSign_1 : decode cX11_isSign 1 = .ok (.getfield 148, 3) := by decide +kernel
theorem dX11_isSign_4 : decode cX11_isSign 4 = .ok (.iconst 4, 1) := by decide +kernel
theorem dX11_isSign_5 : decode cX11_isSign 5 = .ok (.if_icmp .ne 15, 3) := by decide +kernel
theorem dX11_isSign_8 : decode cX11_isSign 8 = .ok (.aload_n 0, 1) := by decide +kernel
theorem dX11_isSign_9 : decode cX11_isSign 9 = .ok (.getfield 145, 3) := by decide +kernel
theorem dX11_isSign_12 : decode cX11_isSign 12 = .ok (.iload_n 1, 1) := by decide +kernel
theorem dX11_isSign_13 : decode cX11_isSign 13 = .ok (.if_icmp .ne 7, 3) := by decide +kernel
theorem dX11_isSign_16 : decode cX11_isSign 16 = .ok (.iconst 1, 1) := by decide +kernel
theorem dX11_isSign_17 : decode cX11_isSign 17 = .ok (.goto 4, 3) := by decide +kernel
theorem dX11_isSign_20 : decode cX11_isSign 20 = .ok (.iconst 0, 1) := by decide +kernel
theorem dX11_isSign_21 : decode cX11_isSign 21 = .ok (.ireturn, 1) := by decide +kernel
theorem dX11_wantSign_0 : decode cX11_wantSign 0 = .ok (.aload_n 0, 1) := by decide +kernel
theorem dX11_wantSign_1 : decode cX11_wantSign 1 = .ok (.iload_n 1, 1) := by decide +kernel
theorem dX11_wantSign_2 : decode cX11_wantSign 2 = .ok (.invokevirtual 182, 3) := by decide +kernel
theorem dX11_wantSign_5 : decode cX11_wantSign 5 = .ok (.ifCond .ne 9, 3) := by decide +kernel
theorem dX11_wantSign_8 : decode cX11_wantSign 8 = .ok (.aload_n 0, 1) := by decide +kernel
theorem dX11_wantSign_9 : decode cX11_wantSign 9 = .ok (.iconst 2, 1) := by decide +kernel
theorem dX11_wantSign_10 : decode cX11_wantSign 10 = .ok (.invokevirtual 185, 3) := by decide +kernel
theorem dX11_wantSign_13 : decode cX11_wantSign 13 = .ok (.ireturn, 1) := by decide +kernel
theorem dX11_wantSign_14 : decode cX11_wantSign 14 = .ok (.aload_n 0, 1) := by decide +kernel
theorem dX11_wantSign_15 : decode cX11_wantSign 15 = .ok (.invokevirtual 179, 3) := by decide +kernel
theorem dX11_wantSign_18 : decode cX11_wantSign 18 = .ok (.iconst 1, 1) := by decide +kernel
theorem dX11_wantSign_19 : decode cX11_wantSign 19 = .ok (.ireturn, 1) := by decide +kernel
theorem dX11_fieldPart_0 : decode cX11_fieldPart 0 = .ok (.aload_n 0, 1) := by decide +kernel
theorem dX11_fieldPart_1 : decode cX11_fieldPart 1 = .ok (.ldc 196, 2) := by decide +kernel
theorem dX11_fieldPart_3 : decode cX11_fieldPart 3 = .ok (.invokevirtual 188, 3) := by decide +kernel
theorem dX11_fieldPart_6 : decode cX11_fieldPart 6 = .ok (.tableswitch 74 0 4 #[34, 42, 50, 58, 66], 34) := by decide +kernel
theorem dX11_fieldPart_40 : decode cX11_fieldPart 40 = .ok (.aload_n 0, 1) := by decide +kernel
theorem dX11_fieldPart_41 : decode cX11_fieldPart 41 = .ok (.invokevirtual 230, 3) := by decide +kernel
theorem dX11_fieldPart_44 : decode cX11_fieldPart 44 = .ok (.istore_n 1, 1) := by decide +kernel
theorem dX11_fieldPart_45 : decode cX11_fieldPart 45 = .ok (.goto 41, 3) := by decide +kernel
theorem dX11_fieldPart_48 : decode cX11_fieldPart 48 = .ok (.aload_n 0, 1) := by decide +kernel
theorem dX11_fieldPart_49 : decode cX11_fieldPart 49 = .ok (.invokevirtual 234, 3) := by decide +kernel
theorem dX11_fieldPart_52 : decode cX11_fieldPart 52 = .ok (.istore_n 1, 1) := by decide +kernel
theorem dX11_fieldPart_53 : decode cX11_fieldPart 53 = .ok (.goto 33, 3) := by decide +kernel
theorem dX11_fieldPart_56 : decode cX11_fieldPart 56 = .ok (.aload_n 0, 1) := by decide +kernel
theorem dX11_fieldPart_57 : decode cX11_fieldPart 57 = .ok (.invokevirtual 237, 3) := by decide +kernel
theorem dX11_fieldPart_60 : decode cX11_fieldPart 60 = .ok (.istore_n 1, 1) := by decide +kernel
theorem dX11_fieldPart_61 : decode cX11_fieldPart 61 = .ok (.goto 25, 3) := by decide +kernel
theorem dX11_fieldPart_64 : decode cX11_fieldPart 64 = .ok (.aload_n 0, 1) := by decide +kernel
theorem dX11_fieldPart_65 : decode cX11_fieldPart 65 = .ok (.invokevirtual 240, 3) := by decide +kernel
theorem dX11_fieldPart_68 : decode cX11_fieldPart 68 = .ok (.istore_n 1, 1) := by decide +kernel
theorem dX11_fieldPart_69 : decode cX11_fieldPart 69 = .ok (.goto 17, 3) := by decide +kernel
theorem dX11_fieldPart_72 : decode cX11_fieldPart 72 = .ok (.aload_n 0, 1) := by decide +kernel
theorem dX11_fieldPart_73 : decode cX11_fieldPart 73 = .ok (.invokevirtual 243, 3) := by decide +kernel
theorem dX11_fieldPart_76 : decode cX11_fieldPart 76 = .ok (.istore_n 1, 1) := by decide +kernel
theorem dX11_fieldPart_77 : decode cX11_fieldPart 77 = .ok (.goto 9, 3) := by decide +kernel
theorem dX11_fieldPart_80 : decode cX11_fieldPart 80 = .ok (.aload_n 0, 1) := by decide +kernel
theorem dX11_fieldPart_81 : decode cX11_fieldPart 81 = .ok (.iconst 2, 1) := by decide +kernel
theorem dX11_fieldPart_82 : decode cX11_fieldPart 82 = .ok (.invokevirtual 185, 3) := by decide +kernel
theorem dX11_fieldPart_85 : decode cX11_fieldPart 85 = .ok (.ireturn, 1) := by decide +kernel
theorem dX11_fieldPart_86 : decode cX11_fieldPart 86 = .ok (.iload_n 1, 1) := by decide +kernel
theorem dX11_fieldPart_87 : decode cX11_fieldPart 87 = .ok (.ifCond .eq 16, 3) := by decide +kernel
theorem dX11_fieldPart_90 : decode cX11_fieldPart 90 = .ok (.aload_n 0, 1) := by decide +kernel
theorem dX11_fieldPart_91 : decode cX11_fieldPart 91 = .ok (.bipush 59, 2) := by decide +kernel
theorem dX11_fieldPart_93 : decode cX11_fieldPart 93 = .ok (.invokevirtual 246, 3) := by decide +kernel
theorem dX11_fieldPart_96 : decode cX11_fieldPart 96 = .ok (.ifCond .eq 7, 3) := by decide +kernel
theorem dX11_fieldPart_99 : decode cX11_fieldPart 99 = .ok (.iconst 1, 1) := by decide +kernel
theorem dX11_fieldPart_100 : decode cX11_fieldPart 100 = .ok (.goto 4, 3) := by decide +kernel
theorem dX11_fieldPart_103 : decode cX11_fieldPart 103 = .ok (.iconst 0, 1) := by decide +kernel
theorem dX11_fieldPart_104 : decode cX11_fieldPart 104 = .ok (.ireturn, 1) := by decide +kernel
theorem dX11_gives_0 : decode cX11_gives 0 = .ok (.aload_n 0, 1) := by decide +kernel
theorem dX11_gives_1 : decode cX11_gives 1 = .ok (.iconst 0, 1) := by decide +kernel
theorem dX11_gives_2 : decode cX11_gives 2 = .ok (.putfield 96, 3) := by decide +kernel
theorem dX11_gives_5 : decode cX11_gives 5 = .ok (.iload_n 1, 1) := by decide +kernel
theorem dX11_gives_6 : decode cX11_gives 6 = .ok (.ireturn, 1) := by decide +kernel
theorem dX11_taken_0 : decode cX11_taken 0 = .ok (.aload_n 0, 1) := by decide +kernel
theorem dX11_taken_1 : decode cX11_taken 1 = .ok (.aload_n 0, 1) := by decide +kernel
theorem dX11_taken_2 : decode cX11_taken 2 = .ok (.getfield 173, 3) := by decide +kernel
theorem dX11_taken_5 : decode cX11_taken 5 = .ok (.putfield 37, 3) := by decide +kernel
theorem dX11_taken_8 : decode cX11_taken 8 = .ok (.aload_n 0, 1) := by decide +kernel
theorem dX11_taken_9 : decode cX11_taken 9 = .ok (.getfield 173, 3) := by decide +kernel
theorem dX11_taken_12 : decode cX11_taken 12 = .ok (.ifCond .le 12, 3) := by decide +kernel
theorem dX11_taken_15 : decode cX11_taken 15 = .ok (.aload_n 0, 1) := by decide +kernel
theorem dX11_taken_16 : decode cX11_taken 16 = .ok (.bipush 9, 2) := by decide +kernel
theorem dX11_taken_18 : decode cX11_taken 18 = .ok (.invokevirtual 102, 3) := by decide +kernel
theorem dX11_taken_21 : decode cX11_taken 21 = .ok (.goto 8, 3) := by decide +kernel
theorem dX11_taken_24 : decode cX11_taken 24 = .ok (.aload_n 0, 1) := by decide +kernel
theorem dX11_taken_25 : decode cX11_taken 25 = .ok (.iload_n 1, 1) := by decide +kernel
theorem dX11_taken_26 : decode cX11_taken 26 = .ok (.invokevirtual 106, 3) := by decide +kernel
theorem dX11_taken_29 : decode cX11_taken 29 = .ok (.ireturn, 1) := by decide +kernel
theorem dX11_field_0 : decode cX11_field 0 = .ok (.aload_n 0, 1) := by decide +kernel
theorem dX11_field_1 : decode cX11_field 1 = .ok (.iload_n 1, 1) := by decide +kernel
theorem dX11_field_2 : decode cX11_field 2 = .ok (.sipush 900, 3) := by decide +kernel
theorem dX11_field_5 : decode cX11_field 5 = .ok (.invokevirtual 249, 3) := by decide +kernel
theorem dX11_field_8 : decode cX11_field 8 = .ok (.ifCond .ne 9, 3) := by decide +kernel
theorem dX11_field_11 : decode cX11_field 11 = .ok (.aload_n 0, 1) := by decide +kernel
theorem dX11_field_12 : decode cX11_field 12 = .ok (.iconst 1, 1) := by decide +kernel
theorem dX11_field_13 : decode cX11_field 13 = .ok (.invokevirtual 102, 3) := by decide +kernel
theorem dX11_field_16 : decode cX11_field 16 = .ok (.ireturn, 1) := by decide +kernel
theorem dX11_field_17 : decode cX11_field 17 = .ok (.iconst 0, 1) := by decide +kernel
theorem dX11_field_18 : decode cX11_field 18 = .ok (.istore_n 2, 1) := by decide +kernel
theorem dX11_field_19 : decode cX11_field 19 = .ok (.iload_n 2, 1) := by decide +kernel
theorem dX11_field_20 : decode cX11_field 20 = .ok (.sipush 650, 3) := by decide +kernel
theorem dX11_field_23 : decode cX11_field 23 = .ok (.if_icmp .ge 20, 3) := by decide +kernel
theorem dX11_field_26 : decode cX11_field 26 = .ok (.aload_n 0, 1) := by decide +kernel
theorem dX11_field_27 : decode cX11_field 27 = .ok (.getfield 7, 3) := by decide +kernel
theorem dX11_field_30 : decode cX11_field 30 = .ok (.sipush 2600, 3) := by decide +kernel
theorem dX11_field_33 : decode cX11_field 33 = .ok (.iload_n 2, 1) := by decide +kernel
theorem dX11_field_34 : decode cX11_field 34 = .ok (.iadd, 1) := by decide +kernel
theorem dX11_field_35 : decode cX11_field 35 = .ok (.iconst 0, 1) := by decide +kernel
theorem dX11_field_36 : decode cX11_field 36 = .ok (.iastore, 1) := by decide +kernel
theorem dX11_field_37 : decode cX11_field 37 = .ok (.iinc 2 1, 3) := by decide +kernel
theorem dX11_field_40 : decode cX11_field 40 = .ok (.goto (-21), 3) := by decide +kernel
theorem dX11_field_43 : decode cX11_field 43 = .ok (.aload_n 0, 1) := by decide +kernel
theorem dX11_field_44 : decode cX11_field 44 = .ok (.getfield 7, 3) := by decide +kernel
theorem dX11_field_47 : decode cX11_field 47 = .ok (.sipush 2604, 3) := by decide +kernel
theorem dX11_field_50 : decode cX11_field 50 = .ok (.iconst (-1), 1) := by decide +kernel
theorem dX11_field_51 : decode cX11_field 51 = .ok (.iastore, 1) := by decide +kernel
theorem dX11_field_52 : decode cX11_field 52 = .ok (.iconst 1, 1) := by decide +kernel
theorem dX11_field_53 : decode cX11_field 53 = .ok (.istore_n 2, 1) := by decide +kernel
theorem dX11_field_54 : decode cX11_field 54 = .ok (.iload_n 2, 1) := by decide +kernel
theorem dX11_field_55 : decode cX11_field 55 = .ok (.ifCond .eq 18, 3) := by decide +kernel
theorem dX11_field_58 : decode cX11_field 58 = .ok (.aload_n 0, 1) := by decide +kernel
theorem dX11_field_59 : decode cX11_field 59 = .ok (.getfield 148, 3) := by decide +kernel
theorem dX11_field_62 : decode cX11_field 62 = .ok (.ifCond .eq 11, 3) := by decide +kernel
theorem dX11_field_65 : decode cX11_field 65 = .ok (.aload_n 0, 1) := by decide +kernel
theorem dX11_field_66 : decode cX11_field 66 = .ok (.invokevirtual 253, 3) := by decide +kernel
theorem dX11_field_69 : decode cX11_field 69 = .ok (.istore_n 2, 1) := by decide +kernel
theorem dX11_field_70 : decode cX11_field 70 = .ok (.goto (-16), 3) := by decide +kernel
theorem dX11_field_73 : decode cX11_field 73 = .ok (.aload_n 0, 1) := by decide +kernel
theorem dX11_field_74 : decode cX11_field 74 = .ok (.getfield 173, 3) := by decide +kernel
theorem dX11_field_77 : decode cX11_field 77 = .ok (.ifCond .ne 63, 3) := by decide +kernel
theorem dX11_field_80 : decode cX11_field 80 = .ok (.iconst 0, 1) := by decide +kernel
theorem dX11_field_81 : decode cX11_field 81 = .ok (.istore_n 3, 1) := by decide +kernel
theorem dX11_field_82 : decode cX11_field 82 = .ok (.iload_n 3, 1) := by decide +kernel
theorem dX11_field_83 : decode cX11_field 83 = .ok (.sipush 650, 3) := by decide +kernel
theorem dX11_field_86 : decode cX11_field 86 = .ok (.if_icmp .ge 25, 3) := by decide +kernel
theorem dX11_field_89 : decode cX11_field 89 = .ok (.aload_n 0, 1) := by decide +kernel
theorem dX11_field_90 : decode cX11_field 90 = .ok (.getfield 7, 3) := by decide +kernel
theorem dX11_field_93 : decode cX11_field 93 = .ok (.iload_n 3, 1) := by decide +kernel
theorem dX11_field_94 : decode cX11_field 94 = .ok (.aload_n 0, 1) := by decide +kernel
theorem dX11_field_95 : decode cX11_field 95 = .ok (.getfield 7, 3) := by decide +kernel
theorem dX11_field_98 : decode cX11_field 98 = .ok (.sipush 2600, 3) := by decide +kernel
theorem dX11_field_101 : decode cX11_field 101 = .ok (.iload_n 3, 1) := by decide +kernel
theorem dX11_field_102 : decode cX11_field 102 = .ok (.iadd, 1) := by decide +kernel
theorem dX11_field_103 : decode cX11_field 103 = .ok (.iaload, 1) := by decide +kernel
theorem dX11_field_104 : decode cX11_field 104 = .ok (.iastore, 1) := by decide +kernel
theorem dX11_field_105 : decode cX11_field 105 = .ok (.iinc 3 1, 3) := by decide +kernel
theorem dX11_field_108 : decode cX11_field 108 = .ok (.goto (-26), 3) := by decide +kernel
theorem dX11_field_111 : decode cX11_field 111 = .ok (.iconst 0, 1) := by decide +kernel
theorem dX11_field_112 : decode cX11_field 112 = .ok (.istore_n 3, 1) := by decide +kernel
theorem dX11_field_113 : decode cX11_field 113 = .ok (.iload_n 3, 1) := by decide +kernel
theorem dX11_field_114 : decode cX11_field 114 = .ok (.bipush 16, 2) := by decide +kernel
theorem dX11_field_116 : decode cX11_field 116 = .ok (.if_icmp .ge 24, 3) := by decide +kernel
theorem dX11_field_119 : decode cX11_field 119 = .ok (.aload_n 0, 1) := by decide +kernel
theorem dX11_field_120 : decode cX11_field 120 = .ok (.getfield 13, 3) := by decide +kernel
theorem dX11_field_123 : decode cX11_field 123 = .ok (.iload_n 3, 1) := by decide +kernel
theorem dX11_field_124 : decode cX11_field 124 = .ok (.aload_n 0, 1) := by decide +kernel
theorem dX11_field_125 : decode cX11_field 125 = .ok (.getfield 13, 3) := by decide +kernel
theorem dX11_field_128 : decode cX11_field 128 = .ok (.bipush 64, 2) := by decide +kernel
theorem dX11_field_130 : decode cX11_field 130 = .ok (.iload_n 3, 1) := by decide +kernel
theorem dX11_field_131 : decode cX11_field 131 = .ok (.iadd, 1) := by decide +kernel
theorem dX11_field_132 : decode cX11_field 132 = .ok (.laload, 1) := by decide +kernel
theorem dX11_field_133 : decode cX11_field 133 = .ok (.lastore, 1) := by decide +kernel
theorem dX11_field_134 : decode cX11_field 134 = .ok (.iinc 3 1, 3) := by decide +kernel
theorem dX11_field_137 : decode cX11_field 137 = .ok (.goto (-24), 3) := by decide +kernel
theorem dX11_field_140 : decode cX11_field 140 = .ok (.aload_n 0, 1) := by decide +kernel
theorem dX11_field_141 : decode cX11_field 141 = .ok (.aload_n 0, 1) := by decide +kernel
theorem dX11_field_142 : decode cX11_field 142 = .ok (.getfield 7, 3) := by decide +kernel
theorem dX11_field_145 : decode cX11_field 145 = .ok (.iconst 1, 1) := by decide +kernel
theorem dX11_field_146 : decode cX11_field 146 = .ok (.iaload, 1) := by decide +kernel
theorem dX11_field_147 : decode cX11_field 147 = .ok (.invokevirtual 256, 3) := by decide +kernel
theorem dX11_field_150 : decode cX11_field 150 = .ok (.ireturn, 1) := by decide +kernel
theorem dX11_holeTo_0 : decode cX11_holeTo 0 = .ok (.aload_n 0, 1) := by decide +kernel
theorem dX11_holeTo_1 : decode cX11_holeTo 1 = .ok (.bipush 8, 2) := by decide +kernel
theorem dX11_holeTo_3 : decode cX11_holeTo 3 = .ok (.aload_n 0, 1) := by decide +kernel
theorem dX11_holeTo_4 : decode cX11_holeTo 4 = .ok (.getfield 7, 3) := by decide +kernel
theorem dX11_holeTo_7 : decode cX11_holeTo 7 = .ok (.iconst 1, 1) := by decide +kernel
theorem dX11_holeTo_8 : decode cX11_holeTo 8 = .ok (.iaload, 1) := by decide +kernel
theorem dX11_holeTo_9 : decode cX11_holeTo 9 = .ok (.iload_n 1, 1) := by decide +kernel
theorem dX11_holeTo_10 : decode cX11_holeTo 10 = .ok (.invokevirtual 215, 3) := by decide +kernel
theorem dX11_holeTo_13 : decode cX11_holeTo 13 = .ok (.ireturn, 1) := by decide +kernel
theorem dX11_rockTo_0 : decode cX11_rockTo 0 = .ok (.aload_n 0, 1) := by decide +kernel
theorem dX11_rockTo_1 : decode cX11_rockTo 1 = .ok (.iconst 0, 1) := by decide +kernel
theorem dX11_rockTo_2 : decode cX11_rockTo 2 = .ok (.aload_n 0, 1) := by decide +kernel
theorem dX11_rockTo_3 : decode cX11_rockTo 3 = .ok (.getfield 7, 3) := by decide +kernel
theorem dX11_rockTo_6 : decode cX11_rockTo 6 = .ok (.iconst 0, 1) := by decide +kernel
theorem dX11_rockTo_7 : decode cX11_rockTo 7 = .ok (.iaload, 1) := by decide +kernel
theorem dX11_rockTo_8 : decode cX11_rockTo 8 = .ok (.iload_n 1, 1) := by decide +kernel
theorem dX11_rockTo_9 : decode cX11_rockTo 9 = .ok (.invokevirtual 215, 3) := by decide +kernel
theorem dX11_rockTo_12 : decode cX11_rockTo 12 = .ok (.ireturn, 1) := by decide +kernel
theorem dX11_test_0 : decode cX11_test 0 = .ok (.aload_n 0, 1) := by decide +kernel
theorem dX11_test_1 : decode cX11_test 1 = .ok (.ldc 196, 2) := by decide +kernel
theorem dX11_test_3 : decode cX11_test 3 = .ok (.invokevirtual 188, 3) := by decide +kernel
theorem dX11_test_6 : decode cX11_test 6 = .ok (.istore_n 2, 1) := by decide +kernel
theorem dX11_test_7 : decode cX11_test 7 = .ok (.iload_n 2, 1) := by decide +kernel
theorem dX11_test_8 : decode cX11_test 8 = .ok (.bipush 21, 2) := by decide +kernel
theorem dX11_test_10 : decode cX11_test 10 = .ok (.if_icmp .eq 21, 3) := by decide +kernel
theorem dX11_test_13 : decode cX11_test 13 = .ok (.iload_n 2, 1) := by decide +kernel
theorem dX11_test_14 : decode cX11_test 14 = .ok (.bipush 22, 2) := by decide +kernel
theorem dX11_test_16 : decode cX11_test 16 = .ok (.if_icmp .eq 15, 3) := by decide +kernel
theorem dX11_test_19 : decode cX11_test 19 = .ok (.iload_n 2, 1) := by decide +kernel
theorem dX11_test_20 : decode cX11_test 20 = .ok (.bipush 23, 2) := by decide +kernel
theorem dX11_test_22 : decode cX11_test 22 = .ok (.if_icmp .eq 9, 3) := by decide +kernel
theorem dX11_test_25 : decode cX11_test 25 = .ok (.aload_n 0, 1) := by decide +kernel
theorem dX11_test_26 : decode cX11_test 26 = .ok (.iconst 2, 1) := by decide +kernel
theorem dX11_test_27 : decode cX11_test 27 = .ok (.invokevirtual 185, 3) := by decide +kernel
theorem dX11_test_30 : decode cX11_test 30 = .ok (.ireturn, 1) := by decide +kernel
theorem dX11_test_31 : decode cX11_test 31 = .ok (.aload_n 0, 1) := by decide +kernel
theorem dX11_test_32 : decode cX11_test 32 = .ok (.getfield 7, 3) := by decide +kernel
theorem dX11_test_35 : decode cX11_test 35 = .ok (.iload_n 1, 1) := by decide +kernel
theorem dX11_test_36 : decode cX11_test 36 = .ok (.sipush 1700, 3) := by decide +kernel
theorem dX11_test_39 : decode cX11_test 39 = .ok (.iload_n 2, 1) := by decide +kernel
theorem dX11_test_40 : decode cX11_test 40 = .ok (.iadd, 1) := by decide +kernel
theorem dX11_test_41 : decode cX11_test 41 = .ok (.iastore, 1) := by decide +kernel
theorem dX11_test_42 : decode cX11_test 42 = .ok (.aload_n 0, 1) := by decide +kernel
theorem dX11_test_43 : decode cX11_test 43 = .ok (.invokevirtual 179, 3) := by decide +kernel
theorem dX11_test_46 : decode cX11_test 46 = .ok (.aload_n 0, 1) := by decide +kernel
theorem dX11_test_47 : decode cX11_test 47 = .ok (.iload_n 1, 1) := by decide +kernel
theorem dX11_test_48 : decode cX11_test 48 = .ok (.iconst 1, 1) := by decide +kernel
theorem dX11_test_49 : decode cX11_test 49 = .ok (.iadd, 1) := by decide +kernel
theorem dX11_test_50 : decode cX11_test 50 = .ok (.invokevirtual 259, 3) := by decide +kernel
theorem dX11_test_53 : decode cX11_test 53 = .ok (.ifCond .ne 5, 3) := by decide +kernel
theorem dX11_test_56 : decode cX11_test 56 = .ok (.iconst 0, 1) := by decide +kernel
theorem dX11_test_57 : decode cX11_test 57 = .ok (.ireturn, 1) := by decide +kernel
theorem dX11_test_58 : decode cX11_test 58 = .ok (.iload_n 2, 1) := by decide +kernel
theorem dX11_test_59 : decode cX11_test 59 = .ok (.bipush 21, 2) := by decide +kernel
theorem dX11_test_61 : decode cX11_test 61 = .ok (.if_icmp .eq 11, 3) := by decide +kernel
theorem dX11_test_64 : decode cX11_test 64 = .ok (.aload_n 0, 1) := by decide +kernel
theorem dX11_test_65 : decode cX11_test 65 = .ok (.iload_n 1, 1) := by decide +kernel
theorem dX11_test_66 : decode cX11_test 66 = .ok (.iconst 2, 1) := by decide +kernel
theorem dX11_test_67 : decode cX11_test 67 = .ok (.iadd, 1) := by decide +kernel
theorem dX11_test_68 : decode cX11_test 68 = .ok (.invokevirtual 262, 3) := by decide +kernel
theorem dX11_test_71 : decode cX11_test 71 = .ok (.ireturn, 1) := by decide +kernel
theorem dX11_test_72 : decode cX11_test 72 = .ok (.aload_n 0, 1) := by decide +kernel
theorem dX11_test_73 : decode cX11_test 73 = .ok (.bipush 60, 2) := by decide +kernel
theorem dX11_test_75 : decode cX11_test 75 = .ok (.invokevirtual 182, 3) := by decide +kernel
theorem dX11_test_78 : decode cX11_test 78 = .ok (.ifCond .ne 27, 3) := by decide +kernel
theorem dX11_test_81 : decode cX11_test 81 = .ok (.aload_n 0, 1) := by decide +kernel
theorem dX11_test_82 : decode cX11_test 82 = .ok (.bipush 62, 2) := by decide +kernel
theorem dX11_test_84 : decode cX11_test 84 = .ok (.invokevirtual 182, 3) := by decide +kernel
theorem dX11_test_87 : decode cX11_test 87 = .ok (.ifCond .ne 18, 3) := by decide +kernel
theorem dX11_test_90 : decode cX11_test 90 = .ok (.aload_n 0, 1) := by decide +kernel
theorem dX11_test_91 : decode cX11_test 91 = .ok (.bipush 61, 2) := by decide +kernel
theorem dX11_test_93 : decode cX11_test 93 = .ok (.invokevirtual 182, 3) := by decide +kernel
theorem dX11_test_96 : decode cX11_test 96 = .ok (.ifCond .ne 9, 3) := by decide +kernel
theorem dX11_test_99 : decode cX11_test 99 = .ok (.aload_n 0, 1) := by decide +kernel
theorem dX11_test_100 : decode cX11_test 100 = .ok (.iconst 2, 1) := by decide +kernel
theorem dX11_test_101 : decode cX11_test 101 = .ok (.invokevirtual 185, 3) := by decide +kernel
theorem dX11_test_104 : decode cX11_test 104 = .ok (.ireturn, 1) := by decide +kernel
theorem dX11_test_105 : decode cX11_test 105 = .ok (.aload_n 0, 1) := by decide +kernel
theorem dX11_test_106 : decode cX11_test 106 = .ok (.getfield 7, 3) := by decide +kernel
theorem dX11_test_109 : decode cX11_test 109 = .ok (.iload_n 1, 1) := by decide +kernel
theorem dX11_test_110 : decode cX11_test 110 = .ok (.iconst 5, 1) := by decide +kernel
theorem dX11_test_111 : decode cX11_test 111 = .ok (.iadd, 1) := by decide +kernel
theorem dX11_test_112 : decode cX11_test 112 = .ok (.aload_n 0, 1) := by decide +kernel
theorem dX11_test_113 : decode cX11_test 113 = .ok (.getfield 145, 3) := by decide +kernel
theorem dX11_test_116 : decode cX11_test 116 = .ok (.iastore, 1) := by decide +kernel
theorem dX11_test_117 : decode cX11_test 117 = .ok (.aload_n 0, 1) := by decide +kernel
theorem dX11_test_118 : decode cX11_test 118 = .ok (.invokevirtual 179, 3) := by decide +kernel
theorem dX11_test_121 : decode cX11_test 121 = .ok (.aload_n 0, 1) := by decide +kernel
theorem dX11_test_122 : decode cX11_test 122 = .ok (.iload_n 1, 1) := by decide +kernel
theorem dX11_test_123 : decode cX11_test 123 = .ok (.iconst 2, 1) := by decide +kernel
theorem dX11_test_124 : decode cX11_test 124 = .ok (.iadd, 1) := by decide +kernel
theorem dX11_test_125 : decode cX11_test 125 = .ok (.iconst 0, 1) := by decide +kernel
theorem dX11_test_126 : decode cX11_test 126 = .ok (.sipush 9999, 3) := by decide +kernel
theorem dX11_test_129 : decode cX11_test 129 = .ok (.invokevirtual 212, 3) := by decide +kernel
theorem dX11_test_132 : decode cX11_test 132 = .ok (.ireturn, 1) := by decide +kernel
def lX11_inWords_25 (K42 : Int32 → Option Int32) (t : Nat) (xr1 : Nat) (x2 : Int32) (x3 : Int32) (M : Mem) : Nat → Int32 → Option Int32
  | 0, _ => none
  | n + 1, x4 =>
    (sAt xr1 x4).bind fun v2 =>
 if v2 = (32 : Int32) then
 K42 x4
 else
 lX11_inWords_25 K42 t xr1 x2 x3 M n (x4 + 1)
theorem lX11_inWords_25_s (K42 : Int32 → Option Int32) (t : Nat) (xr1 : Nat) (x2 : Int32) (x3 : Int32) (M : Mem) (n : Nat) (x4 : Int32) : lX11_inWords_25 K42 t xr1 x2 x3 M (n + 1) x4 =
    (sAt xr1 x4).bind fun v2 =>
 if v2 = (32 : Int32) then
 K42 x4
 else
 lX11_inWords_25 K42 t xr1 x2 x3 M n (x4 + 1) := rfl
theorem lX11_inWords_25_0 (K42 : Int32 → Option Int32) (t : Nat) (xr1 : Nat) (x2 : Int32) (x3 : Int32) (M : Mem) (x4 : Int32) : lX11_inWords_25 K42 t xr1 x2 x3 M 0 x4 = none := rfl
set_option maxRecDepth 100000 in
set_option maxHeartbeats 4000000 in
theorem wlX11_inWords_25 {J : JT} (g : Gd J cX11_inWords RX11) (hr : Rt J (some .int)) (hR : (JR J).frames = 4 ∧ (JR J).locals = 121) (hn : Jn J = 7) (K42 : Int32 → Option Int32) (t : Nat) (xr1 : Nat) (x2 : Int32) (x3 : Int32) (M : Mem) (ht : isO 11 t) (hxr1 : isS xr1) (hK42 : ∀ (y4 : Int32), X J (fun b : Int32 => (some (Value.int b), M)) (K42 y4) 42 [(0, .ref t), (1, .ref xr1), (2, .int x2), (3, .int x3), (4, .int y4)] [] M) : ∀ (n : Nat) (x4 : Int32), X J (fun b : Int32 => (some (Value.int b), M)) (lX11_inWords_25 K42 t xr1 x2 x3 M n x4) 25 [(0, .ref t), (1, .ref xr1), (2, .int x2), (3, .int x3), (4, .int x4)] [] M := by
  intro n
  induction n with
  | zero =>
    intro x4
    exact x_none
  | succ n ih =>
    intro x4
    rw [lX11_inWords_25_s]
    exact (x_aload_n g 1 dX11_inWords_25 rfl rfl
 (x_iload g 4 dX11_inWords_26 rfl
 (x_scharAt g hR lk_RX11_169 hxr1 (Nat.le_of_ble_eq_true rfl) (Nat.le_of_ble_eq_true rfl) (Nat.le_of_ble_eq_true rfl) dX11_inWords_28 (fun v2 =>
 (x_bipush g dX11_inWords_31 kB_32
 (x_icmp_eq g 42 dX11_inWords_33 rfl
 (fun _ => (hK42 x4))
 (fun _ => (x_iinc (L' := [(4, .int (x4 + 1)), (0, .ref t), (1, .ref xr1), (2, .int x2), (3, .int x3)]) (v := (x4 + 1)) g 4 dX11_inWords_36 rfl (by rw [kI_1]) hn (Nat.le_of_ble_eq_true rfl) rfl
 (x_goto g 25 dX11_inWords_39 rfl
 (x_sub [1, 2, 3, 4, 0] rfl (ih (x4 + 1))))))))))))
def lX11_inWords_68 (K115 : Int32 → Option Int32) (t : Nat) (xr1 : Nat) (x2 : Int32) (x3 : Int32) (x4 : Int32) (M : Mem) : Nat → Int32 → Int32 → Option Int32
  | 0, _, _ => none
  | n + 1, x5, x6 =>
    if x4 ≤ x6 then
 K115 x5
 else
 if x5 = 0 then
 K115 x5
 else
 (sAt xr1 x6).bind fun v6 =>
 (fX11_byteAt t (((M.1 t 13) + x6) - x3) M).bind fun v7 =>
 jn (fun (v8 : Int32) => lX11_inWords_68 K115 t xr1 x2 x3 x4 M n v8 (x6 + 1)) (fun J9 => if v6 = v7 then
 J9 (1 : Int32)
 else
 J9 (0 : Int32))
theorem lX11_inWords_68_s (K115 : Int32 → Option Int32) (t : Nat) (xr1 : Nat) (x2 : Int32) (x3 : Int32) (x4 : Int32) (M : Mem) (n : Nat) (x5 : Int32) (x6 : Int32) : lX11_inWords_68 K115 t xr1 x2 x3 x4 M (n + 1) x5 x6 =
    if x4 ≤ x6 then
 K115 x5
 else
 if x5 = 0 then
 K115 x5
 else
 (sAt xr1 x6).bind fun v6 =>
 (fX11_byteAt t (((M.1 t 13) + x6) - x3) M).bind fun v7 =>
 jn (fun (v8 : Int32) => lX11_inWords_68 K115 t xr1 x2 x3 x4 M n v8 (x6 + 1)) (fun J9 => if v6 = v7 then
 J9 (1 : Int32)
 else
 J9 (0 : Int32)) := rfl
theorem lX11_inWords_68_0 (K115 : Int32 → Option Int32) (t : Nat) (xr1 : Nat) (x2 : Int32) (x3 : Int32) (x4 : Int32) (M : Mem) (x5 : Int32) (x6 : Int32) : lX11_inWords_68 K115 t xr1 x2 x3 x4 M 0 x5 x6 = none := rfl
set_option maxRecDepth 100000 in
set_option maxHeartbeats 4000000 in
theorem wlX11_inWords_68 {J : JT} (g : Gd J cX11_inWords RX11) (hr : Rt J (some .int)) (hR : (JR J).frames = 4 ∧ (JR J).locals = 121) (hn : Jn J = 7) (K115 : Int32 → Option Int32) (t : Nat) (xr1 : Nat) (x2 : Int32) (x3 : Int32) (x4 : Int32) (M : Mem) (ht : isO 11 t) (hxr1 : isS xr1) (hK115 : ∀ (y5 : Int32), X J (fun b : Int32 => (some (Value.int b), M)) (K115 y5) 115 [(0, .ref t), (1, .ref xr1), (2, .int x2), (4, .int x4), (5, .int y5)] [] M) : ∀ (n : Nat) (x5 : Int32) (x6 : Int32), X J (fun b : Int32 => (some (Value.int b), M)) (lX11_inWords_68 K115 t xr1 x2 x3 x4 M n x5 x6) 68 [(0, .ref t), (1, .ref xr1), (2, .int x2), (3, .int x3), (4, .int x4), (5, .int x5), (6, .int x6)] [] M := by
  intro n
  induction n with
  | zero =>
    intro x5 x6
    exact x_none
  | succ n ih =>
    intro x5 x6
    rw [lX11_inWords_68_s]
    exact (x_iload g 6 dX11_inWords_68 rfl
 (x_iload g 4 dX11_inWords_70 rfl
 (x_icmp_ge g 115 dX11_inWords_72 rfl
 (fun _ => (x_sub [0, 1, 2, 4, 5] rfl (hK115 x5)))
 (fun _ => (x_iload g 5 dX11_inWords_75 rfl
 (x_if_eq g 115 dX11_inWords_77 rfl
 (fun _ => (x_sub [0, 1, 2, 4, 5] rfl (hK115 x5)))
 (fun _ => (x_aload_n g 1 dX11_inWords_80 rfl rfl
 (x_iload g 6 dX11_inWords_81 rfl
 (x_scharAt g hR lk_RX11_169 hxr1 (Nat.le_of_ble_eq_true rfl) (Nat.le_of_ble_eq_true rfl) (Nat.le_of_ble_eq_true rfl) dX11_inWords_83 (fun v6 =>
 (x_aload_n g 0 dX11_inWords_86 rfl rfl
 (x_aload_n g 0 dX11_inWords_87 rfl rfl
 (x_getI g fl_RX11_142 rfl ht dX11_inWords_88
 (x_iload g 6 dX11_inWords_91 rfl
 (x_iadd g dX11_inWords_93
 (x_iload_n g 3 dX11_inWords_94 rfl rfl
 (x_isub g dX11_inWords_95
 (x_callVip (As := [.int (((M.1 t 13) + x6) - x3)]) g mv_X11_byteAt mi_X11_byteAt lk_RX11_139 ht (fun b hb => kX11_byteAt t (((M.1 t 13) + x6) - x3) M ht _ _ hb) rfl rfl hR ⟨Nat.le_of_ble_eq_true rfl, Nat.le_of_ble_eq_true rfl⟩ (Nat.le_of_ble_eq_true rfl) dX11_inWords_96 (fun v7 =>
 (x_jn (fun (J9 : Int32 → Option Int32) => ∀ (v8 : Int32), X J (fun b : Int32 => (some (Value.int b), M)) (J9 v8) 107 [(0, .ref t), (1, .ref xr1), (2, .int x2), (3, .int x3), (4, .int x4), (6, .int x6)] [.int v8] M) (fun v8 => (x_istore (L' := [(5, .int v8), (0, .ref t), (1, .ref xr1), (2, .int x2), (3, .int x3), (4, .int x4), (6, .int x6)]) g dX11_inWords_107 hn (Nat.le_of_ble_eq_true rfl) rfl
 (x_iinc (L' := [(6, .int (x6 + 1)), (5, .int v8), (0, .ref t), (1, .ref xr1), (2, .int x2), (3, .int x3), (4, .int x4)]) (v := (x6 + 1)) g 6 dX11_inWords_109 rfl (by rw [kI_1]) hn (Nat.le_of_ble_eq_true rfl) rfl
 (x_goto g 68 dX11_inWords_112 rfl
 (x_sub [2, 3, 4, 5, 6, 1, 0] rfl (ih v8 (x6 + 1))))))) (fun J9 hJ9 => (x_icmp_ne g 106 dX11_inWords_99 rfl
 (fun _ => (x_iconst g dX11_inWords_106 kI_0
 (x_sub [0, 1, 2, 3, 4, 6] rfl (hJ9 (0 : Int32)))))
 (fun _ => (x_iconst g dX11_inWords_102 kI_1
 (x_goto g 107 dX11_inWords_103 rfl
 (x_sub [0, 1, 2, 3, 4, 6] rfl (hJ9 (1 : Int32)))))))))))))))))))))))))))))
def lX11_inWords_14 (φ : Nat) (t : Nat) (xr1 : Nat) (M : Mem) : Nat → Int32 → Int32 → Option Int32
  | 0, _, _ => none
  | n + 1, x2, x3 =>
    (sLen xr1).bind fun v1 =>
 if v1 ≤ x3 then
 some (-1 : Int32)
 else
 lX11_inWords_25 (fun (v3 : Int32) => jn (fun (v4 : Int32) => lX11_inWords_68 (fun (v10 : Int32) => if v10 = 0 then
 nm (v3 + (1 : Int32)) (fun v11 =>
 lX11_inWords_14 φ t xr1 M n (x2 + 1) v11)
 else
 some x2) t xr1 x2 x3 v3 M φ v4 x3) (fun J5 => if (v3 - x3) = ((M.1 t 14) - (M.1 t 13)) then
 J5 (1 : Int32)
 else
 J5 (0 : Int32))) t xr1 x2 x3 M φ x3
theorem lX11_inWords_14_s (φ : Nat) (t : Nat) (xr1 : Nat) (M : Mem) (n : Nat) (x2 : Int32) (x3 : Int32) : lX11_inWords_14 φ t xr1 M (n + 1) x2 x3 =
    (sLen xr1).bind fun v1 =>
 if v1 ≤ x3 then
 some (-1 : Int32)
 else
 lX11_inWords_25 (fun (v3 : Int32) => jn (fun (v4 : Int32) => lX11_inWords_68 (fun (v10 : Int32) => if v10 = 0 then
 nm (v3 + (1 : Int32)) (fun v11 =>
 lX11_inWords_14 φ t xr1 M n (x2 + 1) v11)
 else
 some x2) t xr1 x2 x3 v3 M φ v4 x3) (fun J5 => if (v3 - x3) = ((M.1 t 14) - (M.1 t 13)) then
 J5 (1 : Int32)
 else
 J5 (0 : Int32))) t xr1 x2 x3 M φ x3 := rfl
theorem lX11_inWords_14_0 (φ : Nat) (t : Nat) (xr1 : Nat) (M : Mem) (x2 : Int32) (x3 : Int32) : lX11_inWords_14 φ t xr1 M 0 x2 x3 = none := rfl
set_option maxRecDepth 100000 in
set_option maxHeartbeats 4000000 in
theorem wlX11_inWords_14 {J : JT} (g : Gd J cX11_inWords RX11) (hr : Rt J (some .int)) (hR : (JR J).frames = 4 ∧ (JR J).locals = 121) (hn : Jn J = 7) (φ : Nat) (t : Nat) (xr1 : Nat) (M : Mem) (ht : isO 11 t) (hxr1 : isS xr1) : ∀ (n : Nat) (x2 : Int32) (x3 : Int32), X J (fun b : Int32 => (some (Value.int b), M)) (lX11_inWords_14 φ t xr1 M n x2 x3) 14 [(0, .ref t), (1, .ref xr1), (2, .int x2), (3, .int x3)] [] M := by
  intro n
  induction n with
  | zero =>
    intro x2 x3
    exact x_none
  | succ n ih =>
    intro x2 x3
    rw [lX11_inWords_14_s]
    exact (x_iload_n g 3 dX11_inWords_14 rfl rfl
 (x_aload_n g 1 dX11_inWords_15 rfl rfl
 (x_slength g hR lk_RX11_163 hxr1 (Nat.le_of_ble_eq_true rfl) (Nat.le_of_ble_eq_true rfl) (Nat.le_of_ble_eq_true rfl) dX11_inWords_16 (fun v1 =>
 (x_icmp_ge g 133 dX11_inWords_19 rfl
 (fun _ => (x_iconst g dX11_inWords_133 kI_m1
 (x_iret g hr rfl rfl dX11_inWords_134)))
 (fun _ => (x_iload_n g 3 dX11_inWords_22 rfl rfl
 (x_istore (L' := [(4, .int x3), (0, .ref t), (1, .ref xr1), (2, .int x2), (3, .int x3)]) g dX11_inWords_23 hn (Nat.le_of_ble_eq_true rfl) rfl
 (x_sub [1, 2, 3, 4, 0] rfl (wlX11_inWords_25 g hr hR hn _ t xr1 x2 x3 M ht hxr1
 (fun v3 => by exact (x_iload g 4 dX11_inWords_42 rfl
 (x_iload_n g 3 dX11_inWords_44 rfl rfl
 (x_isub g dX11_inWords_45
 (x_aload_n g 0 dX11_inWords_46 rfl rfl
 (x_getI g fl_RX11_136 rfl ht dX11_inWords_47
 (x_aload_n g 0 dX11_inWords_50 rfl rfl
 (x_getI g fl_RX11_142 rfl ht dX11_inWords_51
 (x_isub g dX11_inWords_54
 (x_jn (fun (J5 : Int32 → Option Int32) => ∀ (v4 : Int32), X J (fun b : Int32 => (some (Value.int b), M)) (J5 v4) 63 [(0, .ref t), (1, .ref xr1), (2, .int x2), (3, .int x3), (4, .int v3)] [.int v4] M) (fun v4 => (x_istore (L' := [(5, .int v4), (0, .ref t), (1, .ref xr1), (2, .int x2), (3, .int x3), (4, .int v3)]) g dX11_inWords_63 hn (Nat.le_of_ble_eq_true rfl) rfl
 (x_iload_n g 4 dX11_inWords_65 rfl rfl
 (x_istore (L' := [(6, .int x3), (5, .int v4), (0, .ref t), (1, .ref xr1), (2, .int x2), (3, .int x3), (4, .int v3)]) g dX11_inWords_66 hn (Nat.le_of_ble_eq_true rfl) rfl
 (x_sub [2, 3, 4, 5, 6, 1, 0] rfl (wlX11_inWords_68 g hr hR hn _ t xr1 x2 x3 v3 M ht hxr1
 (fun v10 => by exact (x_iload g 4 dX11_inWords_115 rfl
 (x_if_eq g 122 dX11_inWords_117 rfl
 (fun _ => (x_iinc (L' := [(2, .int (x2 + 1)), (0, .ref t), (1, .ref xr1), (4, .int v3), (5, .int v10)]) (v := (x2 + 1)) g 2 dX11_inWords_122 rfl (by rw [kI_1]) hn (Nat.le_of_ble_eq_true rfl) rfl
 (x_iload g 3 dX11_inWords_125 rfl
 (x_iconst g dX11_inWords_127 kI_1
 (x_iadd g dX11_inWords_128
 (x_nmI (fun v11 => (x_istore_n (L' := [(3, .int v11), (2, .int (x2 + 1)), (0, .ref t), (1, .ref xr1), (4, .int v3), (5, .int v10)]) g dX11_inWords_129 rfl hn (Nat.le_of_ble_eq_true rfl) rfl
 (x_goto g 14 dX11_inWords_130 rfl
 (x_sub [2, 3, 1, 0] rfl (ih (x2 + 1) v11)))))))))))
 (fun _ => (x_iload_n g 2 dX11_inWords_120 rfl rfl
 (x_iret g hr rfl rfl dX11_inWords_121)))))) φ v4 x3)))))) (fun J5 hJ5 => (x_icmp_ne g 62 dX11_inWords_55 rfl
 (fun _ => (x_iconst g dX11_inWords_62 kI_0
 (hJ5 (0 : Int32))))
 (fun _ => (x_iconst g dX11_inWords_58 kI_1
 (x_goto g 63 dX11_inWords_59 rfl
 (hJ5 (1 : Int32))))))))))))))))) φ x3))))))))))
def fX11_inWords (φ : Nat) (t : Nat) (a1 : Nat) (M : Mem) : Option Int32 :=
  if (M.1 t 12) = (2 : Int32) then
 lX11_inWords_14 φ t a1 M φ (0 : Int32) (1 : Int32)
 else
 some (-1 : Int32)
set_option maxRecDepth 100000 in
set_option maxHeartbeats 4000000 in
theorem kX11_inWords (φ : Nat) (t : Nat) (a1 : Nat) (M : Mem) (ht : isO 11 t) (ha1 : isS a1) (l : Launch) (G : GT) {b : Int32} (hE : fX11_inWords φ t a1 M = some b) : Ok l G yX11_inWords cX11_inWords 7 (some .int) 4 121 [.ref t, .ref a1] M ((fun b : Int32 => (some (Value.int b), M)) b).1 ((fun b : Int32 => (some (Value.int b), M)) b).2 := by
  refine Ok.ofX (pj := (fun b : Int32 => (some (Value.int b), M))) (by decide) (Nat.le_of_ble_eq_true rfl) hE (fun J g hr hG hl hR hn => ?_)
  show X J (fun b : Int32 => (some (Value.int b), M)) (fX11_inWords φ t a1 M) 0 [(0, .ref t), (1, .ref a1)] [] M
  unfold fX11_inWords
  exact (x_aload_n g 0 dX11_inWords_0 rfl rfl
 (x_getI g fl_RX11_148 rfl ht dX11_inWords_1
 (x_iconst g dX11_inWords_4 kI_2
 (x_icmp_eq g 10 dX11_inWords_5 rfl
 (fun _ => (x_iconst g dX11_inWords_10 kI_0
 (x_istore_n (L' := [(2, .int (0 : Int32)), (0, .ref t), (1, .ref a1)]) g dX11_inWords_11 rfl hn (Nat.le_of_ble_eq_true rfl) rfl
 (x_iconst g dX11_inWords_12 kI_1
 (x_istore_n (L' := [(3, .int (1 : Int32)), (2, .int (0 : Int32)), (0, .ref t), (1, .ref a1)]) g dX11_inWords_13 rfl hn (Nat.le_of_ble_eq_true rfl) rfl
 (x_sub [2, 3, 1, 0] rfl (wlX11_inWords_14 g hr hR hn  φ t a1 M ht ha1 φ (0 : Int32) (1 : Int32))))))))
 (fun _ => (x_iconst g dX11_inWords_8 kI_m1
 (x_iret g hr rfl rfl dX11_inWords_9)))))))
def fX11_fails (t : Nat) (a1 : Int32) (M : Mem) : Option (Int32 × Mem) :=
  if (M.1 t 18) = 0 then
 jn (fun (v1 : Int32) => nm (stI M t 18 v1) (fun M3 =>
 nm (stI M3 t 17 (M3.1 t 13)) (fun M4 =>
 some ((0 : Int32), M4)))) (fun J2 => if (M.1 t 12) = (1 : Int32) then
 J2 (1 : Int32)
 else
 J2 a1)
 else
 some ((0 : Int32), M)
set_option maxRecDepth 100000 in
set_option maxHeartbeats 4000000 in
theorem kX11_fails (t : Nat) (a1 : Int32) (M : Mem) (ht : isO 11 t) (l : Launch) (G : GT) {b : (Int32 × Mem)} (hE : fX11_fails t a1 M = some b) : Ok l G yX11_fails cX11_fails 2 (some .boolean) 0 0 [.ref t, .int a1] M ((fun q : Int32 × Mem => (some (Value.int q.1), q.2)) b).1 ((fun q : Int32 × Mem => (some (Value.int q.1), q.2)) b).2 := by
  refine Ok.ofX (pj := (fun q : Int32 × Mem => (some (Value.int q.1), q.2))) (by decide) (Nat.le_of_ble_eq_true rfl) hE (fun J g hr hG hl hR hn => ?_)
  show X J (fun q : Int32 × Mem => (some (Value.int q.1), q.2)) (fX11_fails t a1 M) 0 [(0, .ref t), (1, .int a1)] [] M
  unfold fX11_fails
  exact (x_aload_n g 0 dX11_fails_0 rfl rfl
 (x_getI g fl_RX11_173 rfl ht dX11_fails_1
 (x_if_ne g 32 dX11_fails_4 rfl
 (fun _ => (x_iconst g dX11_fails_32 kI_0
 (x_iret g hr rfl rfl dX11_fails_33)))
 (fun _ => (x_aload_n g 0 dX11_fails_7 rfl rfl
 (x_aload_n g 0 dX11_fails_8 rfl rfl
 (x_getI g fl_RX11_148 rfl ht dX11_fails_9
 (x_iconst g dX11_fails_12 kI_1
 (x_jn (fun (J2 : Int32 → Option (Int32 × Mem)) => ∀ (v1 : Int32), X J (fun q : Int32 × Mem => (some (Value.int q.1), q.2)) (J2 v1) 21 [(0, .ref t)] [.int v1, .ref t] M) (fun v1 => (x_putI g fp_RX11_173 rfl (Nat.le_of_ble_eq_true rfl) ht dX11_fails_21 (x_nmM (fun M3 =>
 (x_aload_n g 0 dX11_fails_24 rfl rfl
 (x_aload_n g 0 dX11_fails_25 rfl rfl
 (x_getI g fl_RX11_142 rfl ht dX11_fails_26
 (x_putI g fp_RX11_41 rfl (Nat.le_of_ble_eq_true rfl) ht dX11_fails_29 (x_nmM (fun M4 =>
 (x_iconst g dX11_fails_32 kI_0
 (x_iret g hr rfl rfl dX11_fails_33)))))))))))) (fun J2 hJ2 => (x_icmp_ne g 20 dX11_fails_13 rfl
 (fun _ => (x_iload_n g 1 dX11_fails_20 rfl rfl
 (x_sub [0] rfl (hJ2 a1))))
 (fun _ => (x_iconst g dX11_fails_16 kI_1
 (x_goto g 21 dX11_fails_17 rfl
 (x_sub [0] rfl (hJ2 (1 : Int32)))))))))))))))))
def fX11_isName (φ : Nat) (t : Nat) (a1 : Nat) (M : Mem) : Option Int32 :=
  if (M.1 t 12) = (2 : Int32) then
 if (8 : Int32) < ((M.1 t 14) - (M.1 t 13)) then
 some (0 : Int32)
 else
 (fX11_inWords φ t a1 M).bind fun v1 =>
 if v1 = (-1 : Int32) then
 some (1 : Int32)
 else
 some (0 : Int32)
 else
 some (0 : Int32)
set_option maxRecDepth 100000 in
set_option maxHeartbeats 4000000 in
theorem kX11_isName (φ : Nat) (t : Nat) (a1 : Nat) (M : Mem) (ht : isO 11 t) (ha1 : isS a1) (l : Launch) (G : GT) {b : Int32} (hE : fX11_isName φ t a1 M = some b) : Ok l G yX11_isName cX11_isName 2 (some .boolean) 5 147 [.ref t, .ref a1] M ((fun b : Int32 => (some (Value.int b), M)) b).1 ((fun b : Int32 => (some (Value.int b), M)) b).2 := by
  refine Ok.ofX (pj := (fun b : Int32 => (some (Value.int b), M))) (by decide) (Nat.le_of_ble_eq_true rfl) hE (fun J g hr hG hl hR hn => ?_)
  show X J (fun b : Int32 => (some (Value.int b), M)) (fX11_isName φ t a1 M) 0 [(0, .ref t), (1, .ref a1)] [] M
  unfold fX11_isName
  exact (x_aload_n g 0 dX11_isName_0 rfl rfl
 (x_getI g fl_RX11_148 rfl ht dX11_isName_1
 (x_iconst g dX11_isName_4 kI_2
 (x_icmp_ne g 35 dX11_isName_5 rfl
 (fun _ => (x_iconst g dX11_isName_35 kI_0
 (x_iret g hr rfl rfl dX11_isName_36)))
 (fun _ => (x_aload_n g 0 dX11_isName_8 rfl rfl
 (x_getI g fl_RX11_136 rfl ht dX11_isName_9
 (x_aload_n g 0 dX11_isName_12 rfl rfl
 (x_getI g fl_RX11_142 rfl ht dX11_isName_13
 (x_isub g dX11_isName_16
 (x_bipush g dX11_isName_17 kB_8
 (x_icmp_gt g 35 dX11_isName_19 rfl
 (fun _ => (x_iconst g dX11_isName_35 kI_0
 (x_iret g hr rfl rfl dX11_isName_36)))
 (fun _ => (x_aload_n g 0 dX11_isName_22 rfl rfl
 (x_aload_n g 1 dX11_isName_23 rfl rfl
 (x_callVip (As := [.ref a1]) g mv_X11_inWords mi_X11_inWords lk_RX11_188 ht (fun b hb => kX11_inWords φ t a1 M ht ha1 _ _ hb) rfl rfl hR ⟨Nat.le_of_ble_eq_true rfl, Nat.le_of_ble_eq_true rfl⟩ (Nat.le_of_ble_eq_true rfl) dX11_isName_24 (fun v1 =>
 (x_iconst g dX11_isName_27 kI_m1
 (x_icmp_ne g 35 dX11_isName_28 rfl
 (fun _ => (x_iconst g dX11_isName_35 kI_0
 (x_iret g hr rfl rfl dX11_isName_36)))
 (fun _ => (x_iconst g dX11_isName_31 kI_1
 (x_goto g 36 dX11_isName_32 rfl
 (x_iret g hr rfl rfl dX11_isName_36)))))))))))))))))))))))
def lX11_nameHere_7 (t : Nat) (M : Mem) : Nat → Int64 → Int32 → Option Int64
  | 0, _, _ => none
  | n + 1, xz1, x3 =>
    if (M.1 t 14) ≤ x3 then
 some xz1
 else
 (fX11_byteAt t x3 M).bind fun v2 =>
 nm ((xz1 <<< ((8 : Int32).toInt64 &&& 63)) ||| (v2.toInt64)) (fun vz3 =>
 lX11_nameHere_7 t M n vz3 (x3 + 1))
theorem lX11_nameHere_7_s (t : Nat) (M : Mem) (n : Nat) (xz1 : Int64) (x3 : Int32) : lX11_nameHere_7 t M (n + 1) xz1 x3 =
    if (M.1 t 14) ≤ x3 then
 some xz1
 else
 (fX11_byteAt t x3 M).bind fun v2 =>
 nm ((xz1 <<< ((8 : Int32).toInt64 &&& 63)) ||| (v2.toInt64)) (fun vz3 =>
 lX11_nameHere_7 t M n vz3 (x3 + 1)) := rfl
theorem lX11_nameHere_7_0 (t : Nat) (M : Mem) (xz1 : Int64) (x3 : Int32) : lX11_nameHere_7 t M 0 xz1 x3 = none := rfl
set_option maxRecDepth 100000 in
set_option maxHeartbeats 4000000 in
theorem wlX11_nameHere_7 {J : JT} (g : Gd J cX11_nameHere RX11) (hr : Rt J (some .long)) (hR : (JR J).frames = 1 ∧ (JR J).locals = 21) (hn : Jn J = 4) (t : Nat) (M : Mem) (ht : isO 11 t) : ∀ (n : Nat) (xz1 : Int64) (x3 : Int32), X J (fun b : Int64 => (some (Value.long b), M)) (lX11_nameHere_7 t M n xz1 x3) 7 [(0, .ref t), (1, .long xz1), (3, .int x3)] [] M := by
  intro n
  induction n with
  | zero =>
    intro xz1 x3
    exact x_none
  | succ n ih =>
    intro xz1 x3
    rw [lX11_nameHere_7_s]
    exact (x_iload_n g 2 dX11_nameHere_7 rfl rfl
 (x_aload_n g 0 dX11_nameHere_8 rfl rfl
 (x_getI g fl_RX11_136 rfl ht dX11_nameHere_9
 (x_icmp_ge g 33 dX11_nameHere_12 rfl
 (fun _ => (x_lload_n g 1 dX11_nameHere_33 rfl rfl
 (x_lret g hr rfl dX11_nameHere_34)))
 (fun _ => (x_lload_n g 1 dX11_nameHere_15 rfl rfl
 (x_bipush g dX11_nameHere_16 kB_8
 (x_lshl g dX11_nameHere_18
 (x_aload_n g 0 dX11_nameHere_19 rfl rfl
 (x_iload_n g 2 dX11_nameHere_20 rfl rfl
 (x_callVip (As := [.int x3]) g mv_X11_byteAt mi_X11_byteAt lk_RX11_139 ht (fun b hb => kX11_byteAt t x3 M ht _ _ hb) rfl rfl hR ⟨Nat.le_of_ble_eq_true rfl, Nat.le_of_ble_eq_true rfl⟩ (Nat.le_of_ble_eq_true rfl) dX11_nameHere_21 (fun v2 =>
 (x_i2l g dX11_nameHere_24
 (x_lor g dX11_nameHere_25
 (x_nmL (fun vz3 => (x_lstore_n (L' := [(1, .long vz3), (0, .ref t), (3, .int x3)]) g dX11_nameHere_26 rfl hn (Nat.le_of_ble_eq_true rfl) rfl
 (x_iinc (L' := [(3, .int (x3 + 1)), (1, .long vz3), (0, .ref t)]) (v := (x3 + 1)) g 2 dX11_nameHere_27 rfl (by rw [kI_1]) hn (Nat.le_of_ble_eq_true rfl) rfl
 (x_goto g 7 dX11_nameHere_30 rfl
 (x_sub [2, 1, 0] rfl (ih vz3 (x3 + 1))))))))))))))))))))))
def fX11_nameHere (φ : Nat) (t : Nat) (M : Mem) : Option Int64 :=
  nm (M.1 t 13) (fun v1 =>
 lX11_nameHere_7 t M φ (0 : Int64) v1)
set_option maxRecDepth 100000 in
set_option maxHeartbeats 4000000 in
theorem kX11_nameHere (φ : Nat) (t : Nat) (M : Mem) (ht : isO 11 t) (l : Launch) (G : GT) {b : Int64} (hE : fX11_nameHere φ t M = some b) : Ok l G yX11_nameHere cX11_nameHere 4 (some .long) 1 21 [.ref t] M ((fun b : Int64 => (some (Value.long b), M)) b).1 ((fun b : Int64 => (some (Value.long b), M)) b).2 := by
  refine Ok.ofX (pj := (fun b : Int64 => (some (Value.long b), M))) (by decide) (Nat.le_of_ble_eq_true rfl) hE (fun J g hr hG hl hR hn => ?_)
  show X J (fun b : Int64 => (some (Value.long b), M)) (fX11_nameHere φ t M) 0 [(0, .ref t)] [] M
  unfold fX11_nameHere
  exact (x_lconst g dX11_nameHere_0 kL_0
 (x_lstore_n (L' := [(1, .long (0 : Int64)), (0, .ref t)]) g dX11_nameHere_1 rfl hn (Nat.le_of_ble_eq_true rfl) rfl
 (x_aload_n g 1 dX11_nameHere_2 rfl rfl
 (x_getI g fl_RX11_142 rfl ht dX11_nameHere_3
 (x_nmI (fun v1 => (x_istore_n (L' := [(3, .int v1), (1, .long (0 : Int64)), (0, .ref t)]) g dX11_nameHere_6 rfl hn (Nat.le_of_ble_eq_true rfl) rfl
 (x_sub [2, 1, 0] rfl (wlX11_nameHere_7 g hr hR hn  t M ht φ (0 : Int64) v1)))))))))
def lX11_findHere_2 (φ : Nat) (t : Nat) (x1 : Int32) (x2 : Int32) (M : Mem) : Nat → Int32 → Option Int32
  | 0, _ => none
  | n + 1, x3 =>
    if x2 ≤ x3 then
 some (-1 : Int32)
 else
 ixk (x1 + x3) 90 (
 (fX11_nameHere φ t M).bind fun vz1 =>
 if (M.2.1 (t + 2) (x1 + x3).toNatClampNeg) = vz1 then
 some x3
 else
 lX11_findHere_2 φ t x1 x2 M n (x3 + 1))
theorem lX11_findHere_2_s (φ : Nat) (t : Nat) (x1 : Int32) (x2 : Int32) (M : Mem) (n : Nat) (x3 : Int32) : lX11_findHere_2 φ t x1 x2 M (n + 1) x3 =
    if x2 ≤ x3 then
 some (-1 : Int32)
 else
 ixk (x1 + x3) 90 (
 (fX11_nameHere φ t M).bind fun vz1 =>
 if (M.2.1 (t + 2) (x1 + x3).toNatClampNeg) = vz1 then
 some x3
 else
 lX11_findHere_2 φ t x1 x2 M n (x3 + 1)) := rfl
theorem lX11_findHere_2_0 (φ : Nat) (t : Nat) (x1 : Int32) (x2 : Int32) (M : Mem) (x3 : Int32) : lX11_findHere_2 φ t x1 x2 M 0 x3 = none := rfl
set_option maxRecDepth 100000 in
set_option maxHeartbeats 4000000 in
theorem wlX11_findHere_2 {J : JT} (g : Gd J cX11_findHere RX11) (hr : Rt J (some .int)) (hR : (JR J).frames = 2 ∧ (JR J).locals = 44) (hn : Jn J = 4) (φ : Nat) (t : Nat) (x1 : Int32) (x2 : Int32) (M : Mem) (ht : isO 11 t) : ∀ (n : Nat) (x3 : Int32), X J (fun b : Int32 => (some (Value.int b), M)) (lX11_findHere_2 φ t x1 x2 M n x3) 2 [(0, .ref t), (1, .int x1), (2, .int x2), (3, .int x3)] [] M := by
  intro n
  induction n with
  | zero =>
    intro x3
    exact x_none
  | succ n ih =>
    intro x3
    rw [lX11_findHere_2_s]
    exact (x_iload_n g 3 dX11_findHere_2 rfl rfl
 (x_iload_n g 2 dX11_findHere_3 rfl rfl
 (x_icmp_ge g 31 dX11_findHere_4 rfl
 (fun _ => (x_iconst g dX11_findHere_31 kI_m1
 (x_iret g hr rfl rfl dX11_findHere_32)))
 (fun _ => (x_aload_n g 0 dX11_findHere_7 rfl rfl
 (x_getS g 2 fl_RX11_13 rfl ht dX11_findHere_8
 (x_iload_n g 1 dX11_findHere_11 rfl rfl
 (x_iload_n g 3 dX11_findHere_12 rfl rfl
 (x_iadd g dX11_findHere_13
 (x_lald g (so_11_1 ht) dX11_findHere_14
 (x_aload_n g 0 dX11_findHere_15 rfl rfl
 (x_callVlp (As := []) g mv_X11_nameHere mi_X11_nameHere lk_RX11_192 ht (fun b hb => kX11_nameHere φ t M ht _ _ hb) rfl rfl hR ⟨Nat.le_of_ble_eq_true rfl, Nat.le_of_ble_eq_true rfl⟩ (Nat.le_of_ble_eq_true rfl) dX11_findHere_16 (fun vz1 =>
 (x_l_ne g 25 dX11_findHere_19 dX11_findHere_20 rfl
 (fun _ => (x_iinc (L' := [(3, .int (x3 + 1)), (0, .ref t), (1, .int x1), (2, .int x2)]) (v := (x3 + 1)) g 3 dX11_findHere_25 rfl (by rw [kI_1]) hn (Nat.le_of_ble_eq_true rfl) rfl
 (x_goto g 2 dX11_findHere_28 rfl
 (x_sub [1, 2, 3, 0] rfl (ih (x3 + 1))))))
 (fun _ => (x_iload_n g 3 dX11_findHere_23 rfl rfl
 (x_iret g hr rfl rfl dX11_findHere_24)))))))))))))))))
def fX11_findHere (φ : Nat) (t : Nat) (a1 : Int32) (a2 : Int32) (M : Mem) : Option Int32 :=
  lX11_findHere_2 φ t a1 a2 M φ (0 : Int32)
set_option maxRecDepth 100000 in
set_option maxHeartbeats 4000000 in
theorem kX11_findHere (φ : Nat) (t : Nat) (a1 : Int32) (a2 : Int32) (M : Mem) (ht : isO 11 t) (l : Launch) (G : GT) {b : Int32} (hE : fX11_findHere φ t a1 a2 M = some b) : Ok l G yX11_findHere cX11_findHere 4 (some .int) 2 44 [.ref t, .int a1, .int a2] M ((fun b : Int32 => (some (Value.int b), M)) b).1 ((fun b : Int32 => (some (Value.int b), M)) b).2 := by
  refine Ok.ofX (pj := (fun b : Int32 => (some (Value.int b), M))) (by decide) (Nat.le_of_ble_eq_true rfl) hE (fun J g hr hG hl hR hn => ?_)
  show X J (fun b : Int32 => (some (Value.int b), M)) (fX11_findHere φ t a1 a2 M) 0 [(0, .ref t), (1, .int a1), (2, .int a2)] [] M
  unfold fX11_findHere
  exact (x_iconst g dX11_findHere_0 kI_0
 (x_istore_n (L' := [(3, .int (0 : Int32)), (0, .ref t), (1, .int a1), (2, .int a2)]) g dX11_findHere_1 rfl hn (Nat.le_of_ble_eq_true rfl) rfl
 (x_sub [1, 2, 3, 0] rfl (wlX11_findHere_2 g hr hR hn  φ t a1 a2 M ht φ (0 : Int32)))))
def fX11_newOne (φ : Nat) (t : Nat) (a1 : Int32) (a2 : Int32) (a3 : Int32) (M : Mem) : Option (Int32 × Mem) :=
  ixk ((2600 : Int32) + a1) 3900 (
 if (M.1 (t + 1) ((2600 : Int32) + a1).toNatClampNeg) = a2 then
 bd (fX11_fails t (6 : Int32) M) fun v23 M24 =>
 if v23 = 0 ∨ v23 = 1 then some (v23, M24) else none
 else
 bd (fX11_ahead φ t M) fun vu1 M2 =>
 (fX11_isName φ t 1002 M2).bind fun v3 =>
 if v3 = 0 then
 bd (fX11_fails t (2 : Int32) M2) fun v20 M21 =>
 if v20 = 0 ∨ v20 = 1 then some (v20, M21) else none
 else
 ixk (2600 : Int32) 3900 (
 (fX11_findHere φ t (64 : Int32) (M2.1 (t + 1) (2600 : Int32).toNatClampNeg) M2).bind fun v4 =>
 if v4 = (-1 : Int32) then
 ixk (2601 : Int32) 3900 (
 (fX11_findHere φ t (72 : Int32) (M2.1 (t + 1) (2601 : Int32).toNatClampNeg) M2).bind fun v8 =>
 if v8 = (-1 : Int32) then
 ixk (2603 : Int32) 3900 (
 (fX11_findHere φ t (78 : Int32) (M2.1 (t + 1) (2603 : Int32).toNatClampNeg) M2).bind fun v12 =>
 if v12 = (-1 : Int32) then
 ixk ((2600 : Int32) + a1) 3900 (
 (fX11_nameHere φ t M2).bind fun vz13 =>
 ixk (((64 : Int32) + a3) + (M2.1 (t + 1) ((2600 : Int32) + a1).toNatClampNeg)) 90 (nm (stL M2 (t + 2) (((64 : Int32) + a3) + (M2.1 (t + 1) ((2600 : Int32) + a1).toNatClampNeg)).toNatClampNeg vz13) (fun M14 =>
 bd (fX11_ahead φ t M14) fun vu15 M16 =>
 some ((1 : Int32), M16))))
 else
 bd (fX11_fails t (3 : Int32) M2) fun v17 M18 =>
 if v17 = 0 ∨ v17 = 1 then some (v17, M18) else none)
 else
 bd (fX11_fails t (3 : Int32) M2) fun v9 M10 =>
 if v9 = 0 ∨ v9 = 1 then some (v9, M10) else none)
 else
 bd (fX11_fails t (3 : Int32) M2) fun v5 M6 =>
 if v5 = 0 ∨ v5 = 1 then some (v5, M6) else none))
set_option maxRecDepth 100000 in
set_option maxHeartbeats 4000000 in
theorem kX11_newOne (φ : Nat) (t : Nat) (a1 : Int32) (a2 : Int32) (a3 : Int32) (M : Mem) (ht : isO 11 t) (l : Launch) (G : GT) {b : (Int32 × Mem)} (hE : fX11_newOne φ t a1 a2 a3 M = some b) : Ok l G yX11_newOne cX11_newOne 4 (some .boolean) 6 168 [.ref t, .int a1, .int a2, .int a3] M ((fun q : Int32 × Mem => (some (Value.int q.1), q.2)) b).1 ((fun q : Int32 × Mem => (some (Value.int q.1), q.2)) b).2 := by
  refine Ok.ofX (pj := (fun q : Int32 × Mem => (some (Value.int q.1), q.2))) (by decide) (Nat.le_of_ble_eq_true rfl) hE (fun J g hr hG hl hR hn => ?_)
  show X J (fun q : Int32 × Mem => (some (Value.int q.1), q.2)) (fX11_newOne φ t a1 a2 a3 M) 0 [(0, .ref t), (1, .int a1), (2, .int a2), (3, .int a3)] [] M
  unfold fX11_newOne
  exact (x_aload_n g 0 dX11_newOne_0 rfl rfl
 (x_getS g 1 fl_RX11_7 rfl ht dX11_newOne_1
 (x_sipush g dX11_newOne_4 kS_2600
 (x_iload_n g 1 dX11_newOne_7 rfl rfl
 (x_iadd g dX11_newOne_8
 (x_iald g (so_11_0 ht) dX11_newOne_9
 (x_iload_n g 2 dX11_newOne_10 rfl rfl
 (x_icmp_ne g 21 dX11_newOne_11 rfl
 (fun _ => (x_aload_n g 0 dX11_newOne_21 rfl rfl
 (x_callVv (As := []) g mv_X11_ahead mi_X11_ahead lk_RX11_179 ht (fun b Mh_ hb => kX11_ahead φ t M ht _ _ hb) rfl rfl hR ⟨Nat.le_of_ble_eq_true rfl, Nat.le_of_ble_eq_true rfl⟩ (Nat.le_of_ble_eq_true rfl) dX11_newOne_22 (fun vu1 M2 =>
 (x_aload_n g 0 dX11_newOne_25 rfl rfl
 (x_ldcS2 g dX11_newOne_26
 (x_callVip (As := [.ref 1002]) g mv_X11_isName mi_X11_isName lk_RX11_198 ht (fun b hb => kX11_isName φ t 1002 M2 ht (Or.inr rfl) _ _ hb) rfl rfl hR ⟨Nat.le_of_ble_eq_true rfl, Nat.le_of_ble_eq_true rfl⟩ (Nat.le_of_ble_eq_true rfl) dX11_newOne_28 (fun v3 =>
 (x_if_ne g 40 dX11_newOne_31 rfl
 (fun _ => (x_aload_n g 0 dX11_newOne_40 rfl rfl
 (x_bipush g dX11_newOne_41 kB_64
 (x_aload_n g 0 dX11_newOne_43 rfl rfl
 (x_getS g 1 fl_RX11_7 rfl ht dX11_newOne_44
 (x_sipush g dX11_newOne_47 kS_2600
 (x_iald g (so_11_0 ht) dX11_newOne_50
 (x_callVip (As := [.int (64 : Int32), .int (M2.1 (t + 1) (2600 : Int32).toNatClampNeg)]) g mv_X11_findHere mi_X11_findHere lk_RX11_202 ht (fun b hb => kX11_findHere φ t (64 : Int32) (M2.1 (t + 1) (2600 : Int32).toNatClampNeg) M2 ht _ _ hb) rfl rfl hR ⟨Nat.le_of_ble_eq_true rfl, Nat.le_of_ble_eq_true rfl⟩ (Nat.le_of_ble_eq_true rfl) dX11_newOne_51 (fun v4 =>
 (x_iconst g dX11_newOne_54 kI_m1
 (x_icmp_ne g 94 dX11_newOne_55 rfl
 (fun _ => (x_aload_n g 0 dX11_newOne_94 rfl rfl
 (x_iconst g dX11_newOne_95 kI_3
 (x_callVi (As := [.int (3 : Int32)]) g mv_X11_fails mi_X11_fails lk_RX11_185 ht (fun b Mh_ hb => kX11_fails t (3 : Int32) M2 ht _ _ hb) rfl rfl hR ⟨Nat.le_of_ble_eq_true rfl, Nat.le_of_ble_eq_true rfl⟩ (Nat.le_of_ble_eq_true rfl) dX11_newOne_96 (fun v5 M6 =>
 (x_ck (fun hq7 => x_iret g hr (nbz hq7) rfl dX11_newOne_99)))))))
 (fun _ => (x_aload_n g 0 dX11_newOne_58 rfl rfl
 (x_bipush g dX11_newOne_59 kB_72
 (x_aload_n g 0 dX11_newOne_61 rfl rfl
 (x_getS g 1 fl_RX11_7 rfl ht dX11_newOne_62
 (x_sipush g dX11_newOne_65 kS_2601
 (x_iald g (so_11_0 ht) dX11_newOne_68
 (x_callVip (As := [.int (72 : Int32), .int (M2.1 (t + 1) (2601 : Int32).toNatClampNeg)]) g mv_X11_findHere mi_X11_findHere lk_RX11_202 ht (fun b hb => kX11_findHere φ t (72 : Int32) (M2.1 (t + 1) (2601 : Int32).toNatClampNeg) M2 ht _ _ hb) rfl rfl hR ⟨Nat.le_of_ble_eq_true rfl, Nat.le_of_ble_eq_true rfl⟩ (Nat.le_of_ble_eq_true rfl) dX11_newOne_69 (fun v8 =>
 (x_iconst g dX11_newOne_72 kI_m1
 (x_icmp_ne g 94 dX11_newOne_73 rfl
 (fun _ => (x_aload_n g 0 dX11_newOne_94 rfl rfl
 (x_iconst g dX11_newOne_95 kI_3
 (x_callVi (As := [.int (3 : Int32)]) g mv_X11_fails mi_X11_fails lk_RX11_185 ht (fun b Mh_ hb => kX11_fails t (3 : Int32) M2 ht _ _ hb) rfl rfl hR ⟨Nat.le_of_ble_eq_true rfl, Nat.le_of_ble_eq_true rfl⟩ (Nat.le_of_ble_eq_true rfl) dX11_newOne_96 (fun v9 M10 =>
 (x_ck (fun hq11 => x_iret g hr (nbz hq11) rfl dX11_newOne_99)))))))
 (fun _ => (x_aload_n g 0 dX11_newOne_76 rfl rfl
 (x_bipush g dX11_newOne_77 kB_78
 (x_aload_n g 0 dX11_newOne_79 rfl rfl
 (x_getS g 1 fl_RX11_7 rfl ht dX11_newOne_80
 (x_sipush g dX11_newOne_83 kS_2603
 (x_iald g (so_11_0 ht) dX11_newOne_86
 (x_callVip (As := [.int (78 : Int32), .int (M2.1 (t + 1) (2603 : Int32).toNatClampNeg)]) g mv_X11_findHere mi_X11_findHere lk_RX11_202 ht (fun b hb => kX11_findHere φ t (78 : Int32) (M2.1 (t + 1) (2603 : Int32).toNatClampNeg) M2 ht _ _ hb) rfl rfl hR ⟨Nat.le_of_ble_eq_true rfl, Nat.le_of_ble_eq_true rfl⟩ (Nat.le_of_ble_eq_true rfl) dX11_newOne_87 (fun v12 =>
 (x_iconst g dX11_newOne_90 kI_m1
 (x_icmp_eq g 100 dX11_newOne_91 rfl
 (fun _ => (x_aload_n g 0 dX11_newOne_100 rfl rfl
 (x_getS g 2 fl_RX11_13 rfl ht dX11_newOne_101
 (x_bipush g dX11_newOne_104 kB_64
 (x_iload_n g 3 dX11_newOne_106 rfl rfl
 (x_iadd g dX11_newOne_107
 (x_aload_n g 0 dX11_newOne_108 rfl rfl
 (x_getS g 1 fl_RX11_7 rfl ht dX11_newOne_109
 (x_sipush g dX11_newOne_112 kS_2600
 (x_iload_n g 1 dX11_newOne_115 rfl rfl
 (x_iadd g dX11_newOne_116
 (x_iald g (so_11_0 ht) dX11_newOne_117
 (x_iadd g dX11_newOne_118
 (x_aload_n g 0 dX11_newOne_119 rfl rfl
 (x_callVlp (As := []) g mv_X11_nameHere mi_X11_nameHere lk_RX11_192 ht (fun b hb => kX11_nameHere φ t M2 ht _ _ hb) rfl rfl hR ⟨Nat.le_of_ble_eq_true rfl, Nat.le_of_ble_eq_true rfl⟩ (Nat.le_of_ble_eq_true rfl) dX11_newOne_120 (fun vz13 =>
 (x_last g (so_11_1 ht) dX11_newOne_123 (x_nmM (fun M14 =>
 (x_aload_n g 0 dX11_newOne_124 rfl rfl
 (x_callVv (As := []) g mv_X11_ahead mi_X11_ahead lk_RX11_179 ht (fun b Mh_ hb => kX11_ahead φ t M14 ht _ _ hb) rfl rfl hR ⟨Nat.le_of_ble_eq_true rfl, Nat.le_of_ble_eq_true rfl⟩ (Nat.le_of_ble_eq_true rfl) dX11_newOne_125 (fun vu15 M16 =>
 (x_iconst g dX11_newOne_128 kI_1
 (x_iret g hr rfl rfl dX11_newOne_129))))))))))))))))))))))))
 (fun _ => (x_aload_n g 0 dX11_newOne_94 rfl rfl
 (x_iconst g dX11_newOne_95 kI_3
 (x_callVi (As := [.int (3 : Int32)]) g mv_X11_fails mi_X11_fails lk_RX11_185 ht (fun b Mh_ hb => kX11_fails t (3 : Int32) M2 ht _ _ hb) rfl rfl hR ⟨Nat.le_of_ble_eq_true rfl, Nat.le_of_ble_eq_true rfl⟩ (Nat.le_of_ble_eq_true rfl) dX11_newOne_96 (fun v17 M18 =>
 (x_ck (fun hq19 => x_iret g hr (nbz hq19) rfl dX11_newOne_99))))))))))))))))))))))))))))))))))))))))
 (fun _ => (x_aload_n g 0 dX11_newOne_34 rfl rfl
 (x_iconst g dX11_newOne_35 kI_2
 (x_callVi (As := [.int (2 : Int32)]) g mv_X11_fails mi_X11_fails lk_RX11_185 ht (fun b Mh_ hb => kX11_fails t (2 : Int32) M2 ht _ _ hb) rfl rfl hR ⟨Nat.le_of_ble_eq_true rfl, Nat.le_of_ble_eq_true rfl⟩ (Nat.le_of_ble_eq_true rfl) dX11_newOne_36 (fun v20 M21 =>
 (x_ck (fun hq22 => x_iret g hr (nbz hq22) rfl dX11_newOne_39))))))))))))))))
 (fun _ => (x_aload_n g 0 dX11_newOne_14 rfl rfl
 (x_bipush g dX11_newOne_15 kB_6
 (x_callVi (As := [.int (6 : Int32)]) g mv_X11_fails mi_X11_fails lk_RX11_185 ht (fun b Mh_ hb => kX11_fails t (6 : Int32) M ht _ _ hb) rfl rfl hR ⟨Nat.le_of_ble_eq_true rfl, Nat.le_of_ble_eq_true rfl⟩ (Nat.le_of_ble_eq_true rfl) dX11_newOne_17 (fun v23 M24 =>
 (x_ck (fun hq25 => x_iret g hr (nbz hq25) rfl dX11_newOne_20)))))))))))))))
def fX11_isThere (φ : Nat) (t : Nat) (a1 : Int32) (M : Mem) : Option (Int32 × Mem) :=
  (fX11_inWords φ t 1002 M).bind fun v1 =>
 if v1 = a1 then
 bd (fX11_ahead φ t M) fun vu2 M3 =>
 some ((1 : Int32), M3)
 else
 some ((0 : Int32), M)
set_option maxRecDepth 100000 in
set_option maxHeartbeats 4000000 in
theorem kX11_isThere (φ : Nat) (t : Nat) (a1 : Int32) (M : Mem) (ht : isO 11 t) (l : Launch) (G : GT) {b : (Int32 × Mem)} (hE : fX11_isThere φ t a1 M = some b) : Ok l G yX11_isThere cX11_isThere 2 (some .boolean) 5 147 [.ref t, .int a1] M ((fun q : Int32 × Mem => (some (Value.int q.1), q.2)) b).1 ((fun q : Int32 × Mem => (some (Value.int q.1), q.2)) b).2 := by
  refine Ok.ofX (pj := (fun q : Int32 × Mem => (some (Value.int q.1), q.2))) (by decide) (Nat.le_of_ble_eq_true rfl) hE (fun J g hr hG hl hR hn => ?_)
  show X J (fun q : Int32 × Mem => (some (Value.int q.1), q.2)) (fX11_isThere φ t a1 M) 0 [(0, .ref t), (1, .int a1)] [] M
  unfold fX11_isThere
  exact (x_aload_n g 0 dX11_isThere_0 rfl rfl
 (x_ldcS2 g dX11_isThere_1
 (x_callVip (As := [.ref 1002]) g mv_X11_inWords mi_X11_inWords lk_RX11_188 ht (fun b hb => kX11_inWords φ t 1002 M ht (Or.inr rfl) _ _ hb) rfl rfl hR ⟨Nat.le_of_ble_eq_true rfl, Nat.le_of_ble_eq_true rfl⟩ (Nat.le_of_ble_eq_true rfl) dX11_isThere_3 (fun v1 =>
 (x_iload_n g 1 dX11_isThere_6 rfl rfl
 (x_icmp_eq g 12 dX11_isThere_7 rfl
 (fun _ => (x_aload_n g 0 dX11_isThere_12 rfl rfl
 (x_callVv (As := []) g mv_X11_ahead mi_X11_ahead lk_RX11_179 ht (fun b Mh_ hb => kX11_ahead φ t M ht _ _ hb) rfl rfl hR ⟨Nat.le_of_ble_eq_true rfl, Nat.le_of_ble_eq_true rfl⟩ (Nat.le_of_ble_eq_true rfl) dX11_isThere_13 (fun vu2 M3 =>
 (x_iconst g dX11_isThere_16 kI_1
 (x_iret g hr rfl rfl dX11_isThere_17))))))
 (fun _ => (x_iconst g dX11_isThere_10 kI_0
 (x_iret g hr rfl rfl dX11_isThere_11)))))))))
def fX11_number (φ : Nat) (t : Nat) (a1 : Int32) (a2 : Int32) (a3 : Int32) (M : Mem) : Option (Int32 × Mem) :=
  if (M.1 t 12) = (3 : Int32) then
 if (M.1 t 15) < a2 then
 bd (fX11_fails t (4 : Int32) M) fun v1 M2 =>
 if v1 = 0 ∨ v1 = 1 then some (v1, M2) else none
 else
 if (M.1 t 15) ≤ a3 then
 ixk a1 3900 (nm (stI M (t + 1) a1.toNatClampNeg (M.1 t 15)) (fun M4 =>
 bd (fX11_ahead φ t M4) fun vu5 M6 =>
 some ((1 : Int32), M6)))
 else
 bd (fX11_fails t (4 : Int32) M) fun v7 M8 =>
 if v7 = 0 ∨ v7 = 1 then some (v7, M8) else none
 else
 bd (fX11_fails t (2 : Int32) M) fun v10 M11 =>
 if v10 = 0 ∨ v10 = 1 then some (v10, M11) else none
set_option maxRecDepth 100000 in
set_option maxHeartbeats 4000000 in
theorem kX11_number (φ : Nat) (t : Nat) (a1 : Int32) (a2 : Int32) (a3 : Int32) (M : Mem) (ht : isO 11 t) (l : Launch) (G : GT) {b : (Int32 × Mem)} (hE : fX11_number φ t a1 a2 a3 M = some b) : Ok l G yX11_number cX11_number 4 (some .boolean) 2 51 [.ref t, .int a1, .int a2, .int a3] M ((fun q : Int32 × Mem => (some (Value.int q.1), q.2)) b).1 ((fun q : Int32 × Mem => (some (Value.int q.1), q.2)) b).2 := by
  refine Ok.ofX (pj := (fun q : Int32 × Mem => (some (Value.int q.1), q.2))) (by decide) (Nat.le_of_ble_eq_true rfl) hE (fun J g hr hG hl hR hn => ?_)
  show X J (fun q : Int32 × Mem => (some (Value.int q.1), q.2)) (fX11_number φ t a1 a2 a3 M) 0 [(0, .ref t), (1, .int a1), (2, .int a2), (3, .int a3)] [] M
  unfold fX11_number
  exact (x_aload_n g 0 dX11_number_0 rfl rfl
 (x_getI g fl_RX11_148 rfl ht dX11_number_1
 (x_iconst g dX11_number_4 kI_3
 (x_icmp_eq g 14 dX11_number_5 rfl
 (fun _ => (x_aload_n g 0 dX11_number_14 rfl rfl
 (x_getI g fl_RX11_145 rfl ht dX11_number_15
 (x_iload_n g 2 dX11_number_18 rfl rfl
 (x_icmp_lt g 30 dX11_number_19 rfl
 (fun _ => (x_aload_n g 0 dX11_number_30 rfl rfl
 (x_iconst g dX11_number_31 kI_4
 (x_callVi (As := [.int (4 : Int32)]) g mv_X11_fails mi_X11_fails lk_RX11_185 ht (fun b Mh_ hb => kX11_fails t (4 : Int32) M ht _ _ hb) rfl rfl hR ⟨Nat.le_of_ble_eq_true rfl, Nat.le_of_ble_eq_true rfl⟩ (Nat.le_of_ble_eq_true rfl) dX11_number_32 (fun v1 M2 =>
 (x_ck (fun hq3 => x_iret g hr (nbz hq3) rfl dX11_number_35)))))))
 (fun _ => (x_aload_n g 0 dX11_number_22 rfl rfl
 (x_getI g fl_RX11_145 rfl ht dX11_number_23
 (x_iload_n g 3 dX11_number_26 rfl rfl
 (x_icmp_le g 36 dX11_number_27 rfl
 (fun _ => (x_aload_n g 0 dX11_number_36 rfl rfl
 (x_getS g 1 fl_RX11_7 rfl ht dX11_number_37
 (x_iload_n g 1 dX11_number_40 rfl rfl
 (x_aload_n g 0 dX11_number_41 rfl rfl
 (x_getI g fl_RX11_145 rfl ht dX11_number_42
 (x_iast g (so_11_0 ht) dX11_number_45 (x_nmM (fun M4 =>
 (x_aload_n g 0 dX11_number_46 rfl rfl
 (x_callVv (As := []) g mv_X11_ahead mi_X11_ahead lk_RX11_179 ht (fun b Mh_ hb => kX11_ahead φ t M4 ht _ _ hb) rfl rfl hR ⟨Nat.le_of_ble_eq_true rfl, Nat.le_of_ble_eq_true rfl⟩ (Nat.le_of_ble_eq_true rfl) dX11_number_47 (fun vu5 M6 =>
 (x_iconst g dX11_number_50 kI_1
 (x_iret g hr rfl rfl dX11_number_51))))))))))))))
 (fun _ => (x_aload_n g 0 dX11_number_30 rfl rfl
 (x_iconst g dX11_number_31 kI_4
 (x_callVi (As := [.int (4 : Int32)]) g mv_X11_fails mi_X11_fails lk_RX11_185 ht (fun b Mh_ hb => kX11_fails t (4 : Int32) M ht _ _ hb) rfl rfl hR ⟨Nat.le_of_ble_eq_true rfl, Nat.le_of_ble_eq_true rfl⟩ (Nat.le_of_ble_eq_true rfl) dX11_number_32 (fun v7 M8 =>
 (x_ck (fun hq9 => x_iret g hr (nbz hq9) rfl dX11_number_35)))))))))))))))))
 (fun _ => (x_aload_n g 0 dX11_number_8 rfl rfl
 (x_iconst g dX11_number_9 kI_2
 (x_callVi (As := [.int (2 : Int32)]) g mv_X11_fails mi_X11_fails lk_RX11_185 ht (fun b Mh_ hb => kX11_fails t (2 : Int32) M ht _ _ hb) rfl rfl hR ⟨Nat.le_of_ble_eq_true rfl, Nat.le_of_ble_eq_true rfl⟩ (Nat.le_of_ble_eq_true rfl) dX11_number_10 (fun v10 M11 =>
 (x_ck (fun hq12 => x_iret g hr (nbz hq12) rfl dX11_number_13)))))))))))
def lX11_aRock_35 (K80 : Mem → Option (Int32 × Mem)) (t : Nat) (x1 : Int32) : Nat → Int32 → Mem → Option (Int32 × Mem)
  | 0, _, _ => none
  | n + 1, x2, M =>
    if x1 ≤ x2 then
 K80 M
 else
 ixk (((2618 : Int32) + ((8 : Int32) * x1)) + x2) 3900 (nm (stI M (t + 1) (((2618 : Int32) + ((8 : Int32) * x1)) + x2).toNatClampNeg (9 : Int32)) (fun M5 =>
 ixk (((2618 : Int32) + ((8 : Int32) * x2)) + x1) 3900 (nm (stI M5 (t + 1) (((2618 : Int32) + ((8 : Int32) * x2)) + x1).toNatClampNeg (9 : Int32)) (fun M6 =>
 lX11_aRock_35 K80 t x1 n (x2 + 1) M6))))
theorem lX11_aRock_35_s (K80 : Mem → Option (Int32 × Mem)) (t : Nat) (x1 : Int32) (n : Nat) (x2 : Int32) (M : Mem) : lX11_aRock_35 K80 t x1 (n + 1) x2 M =
    if x1 ≤ x2 then
 K80 M
 else
 ixk (((2618 : Int32) + ((8 : Int32) * x1)) + x2) 3900 (nm (stI M (t + 1) (((2618 : Int32) + ((8 : Int32) * x1)) + x2).toNatClampNeg (9 : Int32)) (fun M5 =>
 ixk (((2618 : Int32) + ((8 : Int32) * x2)) + x1) 3900 (nm (stI M5 (t + 1) (((2618 : Int32) + ((8 : Int32) * x2)) + x1).toNatClampNeg (9 : Int32)) (fun M6 =>
 lX11_aRock_35 K80 t x1 n (x2 + 1) M6)))) := rfl
theorem lX11_aRock_35_0 (K80 : Mem → Option (Int32 × Mem)) (t : Nat) (x1 : Int32) (x2 : Int32) (M : Mem) : lX11_aRock_35 K80 t x1 0 x2 M = none := rfl
set_option maxRecDepth 100000 in
set_option maxHeartbeats 4000000 in
theorem wlX11_aRock_35 {J : JT} (g : Gd J cX11_aRock RX11) (hr : Rt J (some .boolean)) (hR : (JR J).frames = 7 ∧ (JR J).locals = 191) (hn : Jn J = 3) (K80 : Mem → Option (Int32 × Mem)) (t : Nat) (x1 : Int32) (ht : isO 11 t) (hK80 : ∀ (M : Mem), X J (fun q : Int32 × Mem => (some (Value.int q.1), q.2)) (K80 M) 80 [(0, .ref t), (1, .int x1)] [] M) : ∀ (n : Nat) (x2 : Int32) (M : Mem), X J (fun q : Int32 × Mem => (some (Value.int q.1), q.2)) (lX11_aRock_35 K80 t x1 n x2 M) 35 [(0, .ref t), (1, .int x1), (2, .int x2)] [] M := by
  intro n
  induction n with
  | zero =>
    intro x2 M
    exact x_none
  | succ n ih =>
    intro x2 M
    rw [lX11_aRock_35_s]
    exact (x_iload_n g 2 dX11_aRock_35 rfl rfl
 (x_iload_n g 1 dX11_aRock_36 rfl rfl
 (x_icmp_ge g 80 dX11_aRock_37 rfl
 (fun _ => (x_sub [0, 1] rfl (hK80 M)))
 (fun _ => (x_aload_n g 0 dX11_aRock_40 rfl rfl
 (x_getS g 1 fl_RX11_7 rfl ht dX11_aRock_41
 (x_sipush g dX11_aRock_44 kS_2618
 (x_bipush g dX11_aRock_47 kB_8
 (x_iload_n g 1 dX11_aRock_49 rfl rfl
 (x_imul g dX11_aRock_50
 (x_iadd g dX11_aRock_51
 (x_iload_n g 2 dX11_aRock_52 rfl rfl
 (x_iadd g dX11_aRock_53
 (x_bipush g dX11_aRock_54 kB_9
 (x_iast g (so_11_0 ht) dX11_aRock_56 (x_nmM (fun M5 =>
 (x_aload_n g 0 dX11_aRock_57 rfl rfl
 (x_getS g 1 fl_RX11_7 rfl ht dX11_aRock_58
 (x_sipush g dX11_aRock_61 kS_2618
 (x_bipush g dX11_aRock_64 kB_8
 (x_iload_n g 2 dX11_aRock_66 rfl rfl
 (x_imul g dX11_aRock_67
 (x_iadd g dX11_aRock_68
 (x_iload_n g 1 dX11_aRock_69 rfl rfl
 (x_iadd g dX11_aRock_70
 (x_bipush g dX11_aRock_71 kB_9
 (x_iast g (so_11_0 ht) dX11_aRock_73 (x_nmM (fun M6 =>
 (x_iinc (L' := [(2, .int (x2 + 1)), (0, .ref t), (1, .int x1)]) (v := (x2 + 1)) g 2 dX11_aRock_74 rfl (by rw [kI_1]) hn (Nat.le_of_ble_eq_true rfl) rfl
 (x_goto g 35 dX11_aRock_77 rfl
 (x_sub [1, 2, 0] rfl (ih (x2 + 1) M6))))))))))))))))))))))))))))))))))
def fX11_aRock (φ : Nat) (t : Nat) (M : Mem) : Option (Int32 × Mem) :=
  ixk (2600 : Int32) 3900 (
 nm (M.1 (t + 1) (2600 : Int32).toNatClampNeg) (fun v1 =>
 bd (fX11_newOne φ t (0 : Int32) (8 : Int32) (0 : Int32) M) fun v2 M3 =>
 if v2 = 0 then
 some ((0 : Int32), M3)
 else
 ixk ((2610 : Int32) + v1) 3900 (nm (stI M3 (t + 1) ((2610 : Int32) + v1).toNatClampNeg (5 : Int32)) (fun M4 =>
 lX11_aRock_35 (fun (M7 : Mem) => bd (fX11_isThere φ t (5 : Int32) M7) fun v8 M9 =>
 jn (fun (M10 : Mem) => ixk (2600 : Int32) 3900 (
 ixk (2600 : Int32) 3900 (nm (stI M10 (t + 1) (2600 : Int32).toNatClampNeg ((M10.1 (t + 1) (2600 : Int32).toNatClampNeg) + (1 : Int32))) (fun M12 =>
 some ((1 : Int32), M12))))) (fun J11 => if v8 = 0 then
 J11 M9
 else
 bd (fX11_number φ t ((2610 : Int32) + v1) (0 : Int32) (99 : Int32) M9) fun v13 M14 =>
 if v13 = 0 then
 some ((0 : Int32), M14)
 else
 J11 M14)) t v1 φ (0 : Int32) M4))))
set_option maxRecDepth 100000 in
set_option maxHeartbeats 4000000 in
theorem kX11_aRock (φ : Nat) (t : Nat) (M : Mem) (ht : isO 11 t) (l : Launch) (G : GT) {b : (Int32 × Mem)} (hE : fX11_aRock φ t M = some b) : Ok l G yX11_aRock cX11_aRock 3 (some .boolean) 7 191 [.ref t] M ((fun q : Int32 × Mem => (some (Value.int q.1), q.2)) b).1 ((fun q : Int32 × Mem => (some (Value.int q.1), q.2)) b).2 := by
  refine Ok.ofX (pj := (fun q : Int32 × Mem => (some (Value.int q.1), q.2))) (by decide) (Nat.le_of_ble_eq_true rfl) hE (fun J g hr hG hl hR hn => ?_)
  show X J (fun q : Int32 × Mem => (some (Value.int q.1), q.2)) (fX11_aRock φ t M) 0 [(0, .ref t)] [] M
  unfold fX11_aRock
  exact (x_aload_n g 0 dX11_aRock_0 rfl rfl
 (x_getS g 1 fl_RX11_7 rfl ht dX11_aRock_1
 (x_sipush g dX11_aRock_4 kS_2600
 (x_iald g (so_11_0 ht) dX11_aRock_7
 (x_nmI (fun v1 => (x_istore_n (L' := [(1, .int v1), (0, .ref t)]) g dX11_aRock_8 rfl hn (Nat.le_of_ble_eq_true rfl) rfl
 (x_aload_n g 1 dX11_aRock_9 rfl rfl
 (x_iconst g dX11_aRock_10 kI_0
 (x_bipush g dX11_aRock_11 kB_8
 (x_iconst g dX11_aRock_13 kI_0
 (x_callVi (As := [.int (0 : Int32), .int (8 : Int32), .int (0 : Int32)]) g mv_X11_newOne mi_X11_newOne lk_RX11_205 ht (fun b Mh_ hb => kX11_newOne φ t (0 : Int32) (8 : Int32) (0 : Int32) M ht _ _ hb) rfl rfl hR ⟨Nat.le_of_ble_eq_true rfl, Nat.le_of_ble_eq_true rfl⟩ (Nat.le_of_ble_eq_true rfl) dX11_aRock_14 (fun v2 M3 =>
 (x_if_ne g 22 dX11_aRock_17 rfl
 (fun _ => (x_aload_n g 1 dX11_aRock_22 rfl rfl
 (x_getS g 1 fl_RX11_7 rfl ht dX11_aRock_23
 (x_sipush g dX11_aRock_26 kS_2610
 (x_iload_n g 0 dX11_aRock_29 rfl rfl
 (x_iadd g dX11_aRock_30
 (x_iconst g dX11_aRock_31 kI_5
 (x_iast g (so_11_0 ht) dX11_aRock_32 (x_nmM (fun M4 =>
 (x_iconst g dX11_aRock_33 kI_0
 (x_istore_n (L' := [(2, .int (0 : Int32)), (1, .int v1), (0, .ref t)]) g dX11_aRock_34 rfl hn (Nat.le_of_ble_eq_true rfl) rfl
 (x_sub [2, 1, 0] rfl (wlX11_aRock_35 g hr hR hn _ t v1 ht
 (fun M7 => by exact (x_aload_n g 0 dX11_aRock_80 rfl rfl
 (x_iconst g dX11_aRock_81 kI_5
 (x_callVi (As := [.int (5 : Int32)]) g mv_X11_isThere mi_X11_isThere lk_RX11_209 ht (fun b Mh_ hb => kX11_isThere φ t (5 : Int32) M7 ht _ _ hb) rfl rfl hR ⟨Nat.le_of_ble_eq_true rfl, Nat.le_of_ble_eq_true rfl⟩ (Nat.le_of_ble_eq_true rfl) dX11_aRock_82 (fun v8 M9 =>
 (x_jn (fun (J11 : Mem → Option (Int32 × Mem)) => ∀ (M10 : Mem), X J (fun q : Int32 × Mem => (some (Value.int q.1), q.2)) (J11 M10) 105 [(0, .ref t)] [] M10) (fun M10 => (x_aload_n g 0 dX11_aRock_105 rfl rfl
 (x_getS g 1 fl_RX11_7 rfl ht dX11_aRock_106
 (x_sipush g dX11_aRock_109 kS_2600
 (x_dup2 g dX11_aRock_112 rfl rfl
 (x_iald g (so_11_0 ht) dX11_aRock_113
 (x_iconst g dX11_aRock_114 kI_1
 (x_iadd g dX11_aRock_115
 (x_iast g (so_11_0 ht) dX11_aRock_116 (x_nmM (fun M12 =>
 (x_iconst g dX11_aRock_117 kI_1
 (x_iret g hr rfl rfl dX11_aRock_118))))))))))))) (fun J11 hJ11 => (x_if_eq g 105 dX11_aRock_85 rfl
 (fun _ => (x_sub [0] rfl (hJ11 M9)))
 (fun _ => (x_aload_n g 0 dX11_aRock_88 rfl rfl
 (x_sipush g dX11_aRock_89 kS_2610
 (x_iload_n g 1 dX11_aRock_92 rfl rfl
 (x_iadd g dX11_aRock_93
 (x_iconst g dX11_aRock_94 kI_0
 (x_bipush g dX11_aRock_95 kB_99
 (x_callVi (As := [.int ((2610 : Int32) + v1), .int (0 : Int32), .int (99 : Int32)]) g mv_X11_number mi_X11_number lk_RX11_212 ht (fun b Mh_ hb => kX11_number φ t ((2610 : Int32) + v1) (0 : Int32) (99 : Int32) M9 ht _ _ hb) rfl rfl hR ⟨Nat.le_of_ble_eq_true rfl, Nat.le_of_ble_eq_true rfl⟩ (Nat.le_of_ble_eq_true rfl) dX11_aRock_97 (fun v13 M14 =>
 (x_if_ne g 105 dX11_aRock_100 rfl
 (fun _ => (x_sub [0] rfl (hJ11 M14)))
 (fun _ => (x_iconst g dX11_aRock_103 kI_0
 (x_iret g hr rfl rfl dX11_aRock_104))))))))))))))))))))) φ (0 : Int32) M4))))))))))))))
 (fun _ => (x_iconst g dX11_aRock_20 kI_0
 (x_iret g hr rfl rfl dX11_aRock_21)))))))))))))))))
def fX11_oldOne (φ : Nat) (t : Nat) (a1 : Int32) (a2 : Int32) (a3 : Int32) (M : Mem) : Option (Int32 × Mem) :=
  (fX11_isName φ t 1002 M).bind fun v1 =>
 if v1 = 0 then
 bd (fX11_fails t (2 : Int32) M) fun v9 M10 =>
 if v9 = 0 ∨ v9 = 1 then some (v9, M10) else none
 else
 (fX11_findHere φ t a1 a2 M).bind fun v2 =>
 ixk a3 3900 (nm (stI M (t + 1) a3.toNatClampNeg v2) (fun M3 =>
 ixk a3 3900 (
 if (M3.1 (t + 1) a3.toNatClampNeg) = (-1 : Int32) then
 bd (fX11_fails t (3 : Int32) M3) fun v6 M7 =>
 if v6 = 0 ∨ v6 = 1 then some (v6, M7) else none
 else
 bd (fX11_ahead φ t M3) fun vu4 M5 =>
 some ((1 : Int32), M5))))
set_option maxRecDepth 100000 in
set_option maxHeartbeats 4000000 in
theorem kX11_oldOne (φ : Nat) (t : Nat) (a1 : Int32) (a2 : Int32) (a3 : Int32) (M : Mem) (ht : isO 11 t) (l : Launch) (G : GT) {b : (Int32 × Mem)} (hE : fX11_oldOne φ t a1 a2 a3 M = some b) : Ok l G yX11_oldOne cX11_oldOne 4 (some .boolean) 6 168 [.ref t, .int a1, .int a2, .int a3] M ((fun q : Int32 × Mem => (some (Value.int q.1), q.2)) b).1 ((fun q : Int32 × Mem => (some (Value.int q.1), q.2)) b).2 := by
  refine Ok.ofX (pj := (fun q : Int32 × Mem => (some (Value.int q.1), q.2))) (by decide) (Nat.le_of_ble_eq_true rfl) hE (fun J g hr hG hl hR hn => ?_)
  show X J (fun q : Int32 × Mem => (some (Value.int q.1), q.2)) (fX11_oldOne φ t a1 a2 a3 M) 0 [(0, .ref t), (1, .int a1), (2, .int a2), (3, .int a3)] [] M
  unfold fX11_oldOne
  exact (x_aload_n g 0 dX11_oldOne_0 rfl rfl
 (x_ldcS2 g dX11_oldOne_1
 (x_callVip (As := [.ref 1002]) g mv_X11_isName mi_X11_isName lk_RX11_198 ht (fun b hb => kX11_isName φ t 1002 M ht (Or.inr rfl) _ _ hb) rfl rfl hR ⟨Nat.le_of_ble_eq_true rfl, Nat.le_of_ble_eq_true rfl⟩ (Nat.le_of_ble_eq_true rfl) dX11_oldOne_3 (fun v1 =>
 (x_if_ne g 15 dX11_oldOne_6 rfl
 (fun _ => (x_aload_n g 0 dX11_oldOne_15 rfl rfl
 (x_getS g 1 fl_RX11_7 rfl ht dX11_oldOne_16
 (x_iload_n g 3 dX11_oldOne_19 rfl rfl
 (x_aload_n g 0 dX11_oldOne_20 rfl rfl
 (x_iload_n g 1 dX11_oldOne_21 rfl rfl
 (x_iload_n g 2 dX11_oldOne_22 rfl rfl
 (x_callVip (As := [.int a1, .int a2]) g mv_X11_findHere mi_X11_findHere lk_RX11_202 ht (fun b hb => kX11_findHere φ t a1 a2 M ht _ _ hb) rfl rfl hR ⟨Nat.le_of_ble_eq_true rfl, Nat.le_of_ble_eq_true rfl⟩ (Nat.le_of_ble_eq_true rfl) dX11_oldOne_23 (fun v2 =>
 (x_iast g (so_11_0 ht) dX11_oldOne_26 (x_nmM (fun M3 =>
 (x_aload_n g 0 dX11_oldOne_27 rfl rfl
 (x_getS g 1 fl_RX11_7 rfl ht dX11_oldOne_28
 (x_iload_n g 3 dX11_oldOne_31 rfl rfl
 (x_iald g (so_11_0 ht) dX11_oldOne_32
 (x_iconst g dX11_oldOne_33 kI_m1
 (x_icmp_ne g 43 dX11_oldOne_34 rfl
 (fun _ => (x_aload_n g 0 dX11_oldOne_43 rfl rfl
 (x_callVv (As := []) g mv_X11_ahead mi_X11_ahead lk_RX11_179 ht (fun b Mh_ hb => kX11_ahead φ t M3 ht _ _ hb) rfl rfl hR ⟨Nat.le_of_ble_eq_true rfl, Nat.le_of_ble_eq_true rfl⟩ (Nat.le_of_ble_eq_true rfl) dX11_oldOne_44 (fun vu4 M5 =>
 (x_iconst g dX11_oldOne_47 kI_1
 (x_iret g hr rfl rfl dX11_oldOne_48))))))
 (fun _ => (x_aload_n g 0 dX11_oldOne_37 rfl rfl
 (x_iconst g dX11_oldOne_38 kI_3
 (x_callVi (As := [.int (3 : Int32)]) g mv_X11_fails mi_X11_fails lk_RX11_185 ht (fun b Mh_ hb => kX11_fails t (3 : Int32) M3 ht _ _ hb) rfl rfl hR ⟨Nat.le_of_ble_eq_true rfl, Nat.le_of_ble_eq_true rfl⟩ (Nat.le_of_ble_eq_true rfl) dX11_oldOne_39 (fun v6 M7 =>
 (x_ck (fun hq8 => x_iret g hr (nbz hq8) rfl dX11_oldOne_42)))))))))))))))))))))))))
 (fun _ => (x_aload_n g 0 dX11_oldOne_9 rfl rfl
 (x_iconst g dX11_oldOne_10 kI_2
 (x_callVi (As := [.int (2 : Int32)]) g mv_X11_fails mi_X11_fails lk_RX11_185 ht (fun b Mh_ hb => kX11_fails t (2 : Int32) M ht _ _ hb) rfl rfl hR ⟨Nat.le_of_ble_eq_true rfl, Nat.le_of_ble_eq_true rfl⟩ (Nat.le_of_ble_eq_true rfl) dX11_oldOne_11 (fun v9 M10 =>
 (x_ck (fun hq11 => x_iret g hr (nbz hq11) rfl dX11_oldOne_14))))))))))))
def fX11_wantWord (φ : Nat) (t : Nat) (a1 : Nat) (a2 : Int32) (M : Mem) : Option (Int32 × Mem) :=
  (fX11_inWords φ t a1 M).bind fun v1 =>
 if v1 = a2 then
 bd (fX11_ahead φ t M) fun vu2 M3 =>
 some ((1 : Int32), M3)
 else
 bd (fX11_fails t (2 : Int32) M) fun v4 M5 =>
 if v4 = 0 ∨ v4 = 1 then some (v4, M5) else none
set_option maxRecDepth 100000 in
set_option maxHeartbeats 4000000 in
theorem kX11_wantWord (φ : Nat) (t : Nat) (a1 : Nat) (a2 : Int32) (M : Mem) (ht : isO 11 t) (ha1 : isS a1) (l : Launch) (G : GT) {b : (Int32 × Mem)} (hE : fX11_wantWord φ t a1 a2 M = some b) : Ok l G yX11_wantWord cX11_wantWord 3 (some .boolean) 5 147 [.ref t, .ref a1, .int a2] M ((fun q : Int32 × Mem => (some (Value.int q.1), q.2)) b).1 ((fun q : Int32 × Mem => (some (Value.int q.1), q.2)) b).2 := by
  refine Ok.ofX (pj := (fun q : Int32 × Mem => (some (Value.int q.1), q.2))) (by decide) (Nat.le_of_ble_eq_true rfl) hE (fun J g hr hG hl hR hn => ?_)
  show X J (fun q : Int32 × Mem => (some (Value.int q.1), q.2)) (fX11_wantWord φ t a1 a2 M) 0 [(0, .ref t), (1, .ref a1), (2, .int a2)] [] M
  unfold fX11_wantWord
  exact (x_aload_n g 0 dX11_wantWord_0 rfl rfl
 (x_aload_n g 1 dX11_wantWord_1 rfl rfl
 (x_callVip (As := [.ref a1]) g mv_X11_inWords mi_X11_inWords lk_RX11_188 ht (fun b hb => kX11_inWords φ t a1 M ht ha1 _ _ hb) rfl rfl hR ⟨Nat.le_of_ble_eq_true rfl, Nat.le_of_ble_eq_true rfl⟩ (Nat.le_of_ble_eq_true rfl) dX11_wantWord_2 (fun v1 =>
 (x_iload_n g 2 dX11_wantWord_5 rfl rfl
 (x_icmp_eq g 15 dX11_wantWord_6 rfl
 (fun _ => (x_aload_n g 0 dX11_wantWord_15 rfl rfl
 (x_callVv (As := []) g mv_X11_ahead mi_X11_ahead lk_RX11_179 ht (fun b Mh_ hb => kX11_ahead φ t M ht _ _ hb) rfl rfl hR ⟨Nat.le_of_ble_eq_true rfl, Nat.le_of_ble_eq_true rfl⟩ (Nat.le_of_ble_eq_true rfl) dX11_wantWord_16 (fun vu2 M3 =>
 (x_iconst g dX11_wantWord_19 kI_1
 (x_iret g hr rfl rfl dX11_wantWord_20))))))
 (fun _ => (x_aload_n g 0 dX11_wantWord_9 rfl rfl
 (x_iconst g dX11_wantWord_10 kI_2
 (x_callVi (As := [.int (2 : Int32)]) g mv_X11_fails mi_X11_fails lk_RX11_185 ht (fun b Mh_ hb => kX11_fails t (2 : Int32) M ht _ _ hb) rfl rfl hR ⟨Nat.le_of_ble_eq_true rfl, Nat.le_of_ble_eq_true rfl⟩ (Nat.le_of_ble_eq_true rfl) dX11_wantWord_11 (fun v4 M5 =>
 (x_ck (fun hq6 => x_iret g hr (nbz hq6) rfl dX11_wantWord_14)))))))))))))
def fX11_unlikes (φ : Nat) (t : Nat) (M : Mem) : Option (Int32 × Mem) :=
  bd (fX11_ahead φ t M) fun vu1 M2 =>
 ixk (2600 : Int32) 3900 (
 bd (fX11_oldOne φ t (64 : Int32) (M2.1 (t + 1) (2600 : Int32).toNatClampNeg) (3245 : Int32) M2) fun v3 M4 =>
 if v3 = 0 then
 some ((0 : Int32), M4)
 else
 ixk (3245 : Int32) 3900 (
 nm (M4.1 (t + 1) (3245 : Int32).toNatClampNeg) (fun v5 =>
 (fX11_isName φ t 1002 M4).bind fun v6 =>
 jn (ixk (2600 : Int32) 3900 (
 bd (fX11_oldOne φ t (64 : Int32) (M4.1 (t + 1) (2600 : Int32).toNatClampNeg) (3245 : Int32) M4) fun v8 M9 =>
 if v8 = 0 then
 some ((0 : Int32), M9)
 else
 ixk (3245 : Int32) 3900 (
 nm (M9.1 (t + 1) (3245 : Int32).toNatClampNeg) (fun v10 =>
 bd (fX11_wantWord φ t 1002 (6 : Int32) M9) fun v11 M12 =>
 if v11 = 0 then
 some ((0 : Int32), M12)
 else
 bd (fX11_number φ t (((2618 : Int32) + ((8 : Int32) * v5)) + v10) (0 : Int32) (99 : Int32) M12) fun v13 M14 =>
 if v13 = 0 then
 some ((0 : Int32), M14)
 else
 ixk (((2618 : Int32) + ((8 : Int32) * v5)) + v10) 3900 (
 ixk (((2618 : Int32) + ((8 : Int32) * v10)) + v5) 3900 (nm (stI M14 (t + 1) (((2618 : Int32) + ((8 : Int32) * v10)) + v5).toNatClampNeg (M14.1 (t + 1) (((2618 : Int32) + ((8 : Int32) * v5)) + v10).toNatClampNeg)) (fun M15 =>
 some ((1 : Int32), M15)))))))) (fun J7 => if v6 = 0 then
 J7
 else
 ixk (2600 : Int32) 3900 (
 (fX11_findHere φ t (64 : Int32) (M4.1 (t + 1) (2600 : Int32).toNatClampNeg) M4).bind fun v16 =>
 if v16 = v5 then
 bd (fX11_fails t (5 : Int32) M4) fun v17 M18 =>
 if v17 = 0 ∨ v17 = 1 then some (v17, M18) else none
 else
 J7)))))
set_option maxRecDepth 100000 in
set_option maxHeartbeats 4000000 in
theorem kX11_unlikes (φ : Nat) (t : Nat) (M : Mem) (ht : isO 11 t) (l : Launch) (G : GT) {b : (Int32 × Mem)} (hE : fX11_unlikes φ t M = some b) : Ok l G yX11_unlikes cX11_unlikes 3 (some .boolean) 7 191 [.ref t] M ((fun q : Int32 × Mem => (some (Value.int q.1), q.2)) b).1 ((fun q : Int32 × Mem => (some (Value.int q.1), q.2)) b).2 := by
  refine Ok.ofX (pj := (fun q : Int32 × Mem => (some (Value.int q.1), q.2))) (by decide) (Nat.le_of_ble_eq_true rfl) hE (fun J g hr hG hl hR hn => ?_)
  show X J (fun q : Int32 × Mem => (some (Value.int q.1), q.2)) (fX11_unlikes φ t M) 0 [(0, .ref t)] [] M
  unfold fX11_unlikes
  exact (x_aload_n g 0 dX11_unlikes_0 rfl rfl
 (x_callVv (As := []) g mv_X11_ahead mi_X11_ahead lk_RX11_179 ht (fun b Mh_ hb => kX11_ahead φ t M ht _ _ hb) rfl rfl hR ⟨Nat.le_of_ble_eq_true rfl, Nat.le_of_ble_eq_true rfl⟩ (Nat.le_of_ble_eq_true rfl) dX11_unlikes_1 (fun vu1 M2 =>
 (x_aload_n g 0 dX11_unlikes_4 rfl rfl
 (x_bipush g dX11_unlikes_5 kB_64
 (x_aload_n g 0 dX11_unlikes_7 rfl rfl
 (x_getS g 1 fl_RX11_7 rfl ht dX11_unlikes_8
 (x_sipush g dX11_unlikes_11 kS_2600
 (x_iald g (so_11_0 ht) dX11_unlikes_14
 (x_sipush g dX11_unlikes_15 kS_3245
 (x_callVi (As := [.int (64 : Int32), .int (M2.1 (t + 1) (2600 : Int32).toNatClampNeg), .int (3245 : Int32)]) g mv_X11_oldOne mi_X11_oldOne lk_RX11_215 ht (fun b Mh_ hb => kX11_oldOne φ t (64 : Int32) (M2.1 (t + 1) (2600 : Int32).toNatClampNeg) (3245 : Int32) M2 ht _ _ hb) rfl rfl hR ⟨Nat.le_of_ble_eq_true rfl, Nat.le_of_ble_eq_true rfl⟩ (Nat.le_of_ble_eq_true rfl) dX11_unlikes_18 (fun v3 M4 =>
 (x_if_ne g 26 dX11_unlikes_21 rfl
 (fun _ => (x_aload_n g 0 dX11_unlikes_26 rfl rfl
 (x_getS g 1 fl_RX11_7 rfl ht dX11_unlikes_27
 (x_sipush g dX11_unlikes_30 kS_3245
 (x_iald g (so_11_0 ht) dX11_unlikes_33
 (x_nmI (fun v5 => (x_istore_n (L' := [(1, .int v5), (0, .ref t)]) g dX11_unlikes_34 rfl hn (Nat.le_of_ble_eq_true rfl) rfl
 (x_aload_n g 1 dX11_unlikes_35 rfl rfl
 (x_ldcS2 g dX11_unlikes_36
 (x_callVip (As := [.ref 1002]) g mv_X11_isName mi_X11_isName lk_RX11_198 ht (fun b hb => kX11_isName φ t 1002 M4 ht (Or.inr rfl) _ _ hb) rfl rfl hR ⟨Nat.le_of_ble_eq_true rfl, Nat.le_of_ble_eq_true rfl⟩ (Nat.le_of_ble_eq_true rfl) dX11_unlikes_38 (fun v6 =>
 (x_jn (fun (J7 : Option (Int32 × Mem)) => X J (fun q : Int32 × Mem => (some (Value.int q.1), q.2)) J7 68 [(0, .ref t), (1, .int v5)] [] M4) (x_aload_n g 0 dX11_unlikes_68 rfl rfl
 (x_bipush g dX11_unlikes_69 kB_64
 (x_aload_n g 0 dX11_unlikes_71 rfl rfl
 (x_getS g 1 fl_RX11_7 rfl ht dX11_unlikes_72
 (x_sipush g dX11_unlikes_75 kS_2600
 (x_iald g (so_11_0 ht) dX11_unlikes_78
 (x_sipush g dX11_unlikes_79 kS_3245
 (x_callVi (As := [.int (64 : Int32), .int (M4.1 (t + 1) (2600 : Int32).toNatClampNeg), .int (3245 : Int32)]) g mv_X11_oldOne mi_X11_oldOne lk_RX11_215 ht (fun b Mh_ hb => kX11_oldOne φ t (64 : Int32) (M4.1 (t + 1) (2600 : Int32).toNatClampNeg) (3245 : Int32) M4 ht _ _ hb) rfl rfl hR ⟨Nat.le_of_ble_eq_true rfl, Nat.le_of_ble_eq_true rfl⟩ (Nat.le_of_ble_eq_true rfl) dX11_unlikes_82 (fun v8 M9 =>
 (x_if_ne g 90 dX11_unlikes_85 rfl
 (fun _ => (x_aload_n g 0 dX11_unlikes_90 rfl rfl
 (x_getS g 1 fl_RX11_7 rfl ht dX11_unlikes_91
 (x_sipush g dX11_unlikes_94 kS_3245
 (x_iald g (so_11_0 ht) dX11_unlikes_97
 (x_nmI (fun v10 => (x_istore_n (L' := [(2, .int v10), (0, .ref t), (1, .int v5)]) g dX11_unlikes_98 rfl hn (Nat.le_of_ble_eq_true rfl) rfl
 (x_aload_n g 1 dX11_unlikes_99 rfl rfl
 (x_ldcS2 g dX11_unlikes_100
 (x_bipush g dX11_unlikes_102 kB_6
 (x_callVi (As := [.ref 1002, .int (6 : Int32)]) g mv_X11_wantWord mi_X11_wantWord lk_RX11_218 ht (fun b Mh_ hb => kX11_wantWord φ t 1002 (6 : Int32) M9 ht (Or.inr rfl) _ _ hb) rfl rfl hR ⟨Nat.le_of_ble_eq_true rfl, Nat.le_of_ble_eq_true rfl⟩ (Nat.le_of_ble_eq_true rfl) dX11_unlikes_104 (fun v11 M12 =>
 (x_if_eq g 130 dX11_unlikes_107 rfl
 (fun _ => (x_iconst g dX11_unlikes_130 kI_0
 (x_iret g hr rfl rfl dX11_unlikes_131)))
 (fun _ => (x_aload_n g 1 dX11_unlikes_110 rfl rfl
 (x_sipush g dX11_unlikes_111 kS_2618
 (x_bipush g dX11_unlikes_114 kB_8
 (x_iload_n g 2 dX11_unlikes_116 rfl rfl
 (x_imul g dX11_unlikes_117
 (x_iadd g dX11_unlikes_118
 (x_iload_n g 0 dX11_unlikes_119 rfl rfl
 (x_iadd g dX11_unlikes_120
 (x_iconst g dX11_unlikes_121 kI_0
 (x_bipush g dX11_unlikes_122 kB_99
 (x_callVi (As := [.int (((2618 : Int32) + ((8 : Int32) * v5)) + v10), .int (0 : Int32), .int (99 : Int32)]) g mv_X11_number mi_X11_number lk_RX11_212 ht (fun b Mh_ hb => kX11_number φ t (((2618 : Int32) + ((8 : Int32) * v5)) + v10) (0 : Int32) (99 : Int32) M12 ht _ _ hb) rfl rfl hR ⟨Nat.le_of_ble_eq_true rfl, Nat.le_of_ble_eq_true rfl⟩ (Nat.le_of_ble_eq_true rfl) dX11_unlikes_124 (fun v13 M14 =>
 (x_if_ne g 132 dX11_unlikes_127 rfl
 (fun _ => (x_aload_n g 1 dX11_unlikes_132 rfl rfl
 (x_getS g 1 fl_RX11_7 rfl ht dX11_unlikes_133
 (x_sipush g dX11_unlikes_136 kS_2618
 (x_bipush g dX11_unlikes_139 kB_8
 (x_iload_n g 0 dX11_unlikes_141 rfl rfl
 (x_imul g dX11_unlikes_142
 (x_iadd g dX11_unlikes_143
 (x_iload_n g 2 dX11_unlikes_144 rfl rfl
 (x_iadd g dX11_unlikes_145
 (x_aload_n g 1 dX11_unlikes_146 rfl rfl
 (x_getS g 1 fl_RX11_7 rfl ht dX11_unlikes_147
 (x_sipush g dX11_unlikes_150 kS_2618
 (x_bipush g dX11_unlikes_153 kB_8
 (x_iload_n g 2 dX11_unlikes_155 rfl rfl
 (x_imul g dX11_unlikes_156
 (x_iadd g dX11_unlikes_157
 (x_iload_n g 0 dX11_unlikes_158 rfl rfl
 (x_iadd g dX11_unlikes_159
 (x_iald g (so_11_0 ht) dX11_unlikes_160
 (x_iast g (so_11_0 ht) dX11_unlikes_161 (x_nmM (fun M15 =>
 (x_iconst g dX11_unlikes_162 kI_1
 (x_iret g hr rfl rfl dX11_unlikes_163)))))))))))))))))))))))))
 (fun _ => (x_iconst g dX11_unlikes_130 kI_0
 (x_iret g hr rfl rfl dX11_unlikes_131)))))))))))))))))))))))))))))))
 (fun _ => (x_iconst g dX11_unlikes_88 kI_0
 (x_iret g hr rfl rfl dX11_unlikes_89))))))))))))) (fun J7 hJ7 => (x_if_eq g 68 dX11_unlikes_41 rfl
 (fun _ => (x_sub [1, 0] rfl (hJ7)))
 (fun _ => (x_aload_n g 1 dX11_unlikes_44 rfl rfl
 (x_bipush g dX11_unlikes_45 kB_64
 (x_aload_n g 1 dX11_unlikes_47 rfl rfl
 (x_getS g 1 fl_RX11_7 rfl ht dX11_unlikes_48
 (x_sipush g dX11_unlikes_51 kS_2600
 (x_iald g (so_11_0 ht) dX11_unlikes_54
 (x_callVip (As := [.int (64 : Int32), .int (M4.1 (t + 1) (2600 : Int32).toNatClampNeg)]) g mv_X11_findHere mi_X11_findHere lk_RX11_202 ht (fun b hb => kX11_findHere φ t (64 : Int32) (M4.1 (t + 1) (2600 : Int32).toNatClampNeg) M4 ht _ _ hb) rfl rfl hR ⟨Nat.le_of_ble_eq_true rfl, Nat.le_of_ble_eq_true rfl⟩ (Nat.le_of_ble_eq_true rfl) dX11_unlikes_55 (fun v16 =>
 (x_iload_n g 0 dX11_unlikes_58 rfl rfl
 (x_icmp_ne g 68 dX11_unlikes_59 rfl
 (fun _ => (x_sub [1, 0] rfl (hJ7)))
 (fun _ => (x_aload_n g 1 dX11_unlikes_62 rfl rfl
 (x_iconst g dX11_unlikes_63 kI_5
 (x_callVi (As := [.int (5 : Int32)]) g mv_X11_fails mi_X11_fails lk_RX11_185 ht (fun b Mh_ hb => kX11_fails t (5 : Int32) M4 ht _ _ hb) rfl rfl hR ⟨Nat.le_of_ble_eq_true rfl, Nat.le_of_ble_eq_true rfl⟩ (Nat.le_of_ble_eq_true rfl) dX11_unlikes_64 (fun v17 M18 =>
 (x_ck (fun hq19 => x_iret g hr (nbz hq19) rfl dX11_unlikes_67)))))))))))))))))))))))))))))))))
 (fun _ => (x_iconst g dX11_unlikes_24 kI_0
 (x_iret g hr rfl rfl dX11_unlikes_25))))))))))))))))
def lX11_aHole_149 (K258 : Mem → Option (Int32 × Mem)) (φ : Nat) (t : Nat) (x1 : Int32) : Nat → Mem → Option (Int32 × Mem)
  | 0, _ => none
  | n + 1, M =>
    (fX11_inWords φ t 1002 M).bind fun v12 =>
 if v12 = (8 : Int32) then
 ixk (x1 + (2 : Int32)) 3900 (
 if (M.1 (t + 1) (x1 + (2 : Int32)).toNatClampNeg) = (8 : Int32) then
 bd (fX11_fails t (6 : Int32) M) fun v23 M24 =>
 if v23 = 0 ∨ v23 = 1 then some (v23, M24) else none
 else
 bd (fX11_ahead φ t M) fun vu13 M14 =>
 ixk (x1 + (2 : Int32)) 3900 (
 nm ((x1 + (3 : Int32)) + ((2 : Int32) * (M14.1 (t + 1) (x1 + (2 : Int32)).toNatClampNeg))) (fun v15 =>
 ixk (2600 : Int32) 3900 (
 bd (fX11_oldOne φ t (64 : Int32) (M14.1 (t + 1) (2600 : Int32).toNatClampNeg) v15 M14) fun v16 M17 =>
 if v16 = 0 then
 some ((0 : Int32), M17)
 else
 bd (fX11_wantWord φ t 1002 (9 : Int32) M17) fun v18 M19 =>
 if v18 = 0 then
 some ((0 : Int32), M19)
 else
 bd (fX11_number φ t (v15 + (1 : Int32)) (1 : Int32) (99 : Int32) M19) fun v20 M21 =>
 if v20 = 0 then
 some ((0 : Int32), M21)
 else
 ixk (x1 + (2 : Int32)) 3900 (
 ixk (x1 + (2 : Int32)) 3900 (nm (stI M21 (t + 1) (x1 + (2 : Int32)).toNatClampNeg ((M21.1 (t + 1) (x1 + (2 : Int32)).toNatClampNeg) + (1 : Int32))) (fun M22 =>
 lX11_aHole_149 K258 φ t x1 n M22)))))))
 else
 K258 M
theorem lX11_aHole_149_s (K258 : Mem → Option (Int32 × Mem)) (φ : Nat) (t : Nat) (x1 : Int32) (n : Nat) (M : Mem) : lX11_aHole_149 K258 φ t x1 (n + 1) M =
    (fX11_inWords φ t 1002 M).bind fun v12 =>
 if v12 = (8 : Int32) then
 ixk (x1 + (2 : Int32)) 3900 (
 if (M.1 (t + 1) (x1 + (2 : Int32)).toNatClampNeg) = (8 : Int32) then
 bd (fX11_fails t (6 : Int32) M) fun v23 M24 =>
 if v23 = 0 ∨ v23 = 1 then some (v23, M24) else none
 else
 bd (fX11_ahead φ t M) fun vu13 M14 =>
 ixk (x1 + (2 : Int32)) 3900 (
 nm ((x1 + (3 : Int32)) + ((2 : Int32) * (M14.1 (t + 1) (x1 + (2 : Int32)).toNatClampNeg))) (fun v15 =>
 ixk (2600 : Int32) 3900 (
 bd (fX11_oldOne φ t (64 : Int32) (M14.1 (t + 1) (2600 : Int32).toNatClampNeg) v15 M14) fun v16 M17 =>
 if v16 = 0 then
 some ((0 : Int32), M17)
 else
 bd (fX11_wantWord φ t 1002 (9 : Int32) M17) fun v18 M19 =>
 if v18 = 0 then
 some ((0 : Int32), M19)
 else
 bd (fX11_number φ t (v15 + (1 : Int32)) (1 : Int32) (99 : Int32) M19) fun v20 M21 =>
 if v20 = 0 then
 some ((0 : Int32), M21)
 else
 ixk (x1 + (2 : Int32)) 3900 (
 ixk (x1 + (2 : Int32)) 3900 (nm (stI M21 (t + 1) (x1 + (2 : Int32)).toNatClampNeg ((M21.1 (t + 1) (x1 + (2 : Int32)).toNatClampNeg) + (1 : Int32))) (fun M22 =>
 lX11_aHole_149 K258 φ t x1 n M22)))))))
 else
 K258 M := rfl
theorem lX11_aHole_149_0 (K258 : Mem → Option (Int32 × Mem)) (φ : Nat) (t : Nat) (x1 : Int32) (M : Mem) : lX11_aHole_149 K258 φ t x1 0 M = none := rfl
set_option maxRecDepth 100000 in
set_option maxHeartbeats 4000000 in
theorem wlX11_aHole_149 {J : JT} (g : Gd J cX11_aHole RX11) (hr : Rt J (some .boolean)) (hR : (JR J).frames = 7 ∧ (JR J).locals = 191) (hn : Jn J = 3) (K258 : Mem → Option (Int32 × Mem)) (φ : Nat) (t : Nat) (x1 : Int32) (ht : isO 11 t) (hK258 : ∀ (M : Mem), X J (fun q : Int32 × Mem => (some (Value.int q.1), q.2)) (K258 M) 258 [(0, .ref t)] [] M) : ∀ (n : Nat) (M : Mem), X J (fun q : Int32 × Mem => (some (Value.int q.1), q.2)) (lX11_aHole_149 K258 φ t x1 n M) 149 [(0, .ref t), (1, .int x1)] [] M := by
  intro n
  induction n with
  | zero =>
    intro M
    exact x_none
  | succ n ih =>
    intro M
    rw [lX11_aHole_149_s]
    exact (x_aload_n g 0 dX11_aHole_149 rfl rfl
 (x_ldcS2 g dX11_aHole_150
 (x_callVip (As := [.ref 1002]) g mv_X11_inWords mi_X11_inWords lk_RX11_188 ht (fun b hb => kX11_inWords φ t 1002 M ht (Or.inr rfl) _ _ hb) rfl rfl hR ⟨Nat.le_of_ble_eq_true rfl, Nat.le_of_ble_eq_true rfl⟩ (Nat.le_of_ble_eq_true rfl) dX11_aHole_152 (fun v12 =>
 (x_bipush g dX11_aHole_155 kB_8
 (x_icmp_ne g 258 dX11_aHole_157 rfl
 (fun _ => (x_sub [0] rfl (hK258 M)))
 (fun _ => (x_aload_n g 0 dX11_aHole_160 rfl rfl
 (x_getS g 1 fl_RX11_7 rfl ht dX11_aHole_161
 (x_iload_n g 1 dX11_aHole_164 rfl rfl
 (x_iconst g dX11_aHole_165 kI_2
 (x_iadd g dX11_aHole_166
 (x_iald g (so_11_0 ht) dX11_aHole_167
 (x_bipush g dX11_aHole_168 kB_8
 (x_icmp_ne g 180 dX11_aHole_170 rfl
 (fun _ => (x_aload_n g 0 dX11_aHole_180 rfl rfl
 (x_callVv (As := []) g mv_X11_ahead mi_X11_ahead lk_RX11_179 ht (fun b Mh_ hb => kX11_ahead φ t M ht _ _ hb) rfl rfl hR ⟨Nat.le_of_ble_eq_true rfl, Nat.le_of_ble_eq_true rfl⟩ (Nat.le_of_ble_eq_true rfl) dX11_aHole_181 (fun vu13 M14 =>
 (x_iload_n g 1 dX11_aHole_184 rfl rfl
 (x_iconst g dX11_aHole_185 kI_3
 (x_iadd g dX11_aHole_186
 (x_iconst g dX11_aHole_187 kI_2
 (x_aload_n g 0 dX11_aHole_188 rfl rfl
 (x_getS g 1 fl_RX11_7 rfl ht dX11_aHole_189
 (x_iload_n g 1 dX11_aHole_192 rfl rfl
 (x_iconst g dX11_aHole_193 kI_2
 (x_iadd g dX11_aHole_194
 (x_iald g (so_11_0 ht) dX11_aHole_195
 (x_imul g dX11_aHole_196
 (x_iadd g dX11_aHole_197
 (x_nmI (fun v15 => (x_istore_n (L' := [(2, .int v15), (0, .ref t), (1, .int x1)]) g dX11_aHole_198 rfl hn (Nat.le_of_ble_eq_true rfl) rfl
 (x_aload_n g 1 dX11_aHole_199 rfl rfl
 (x_bipush g dX11_aHole_200 kB_64
 (x_aload_n g 1 dX11_aHole_202 rfl rfl
 (x_getS g 1 fl_RX11_7 rfl ht dX11_aHole_203
 (x_sipush g dX11_aHole_206 kS_2600
 (x_iald g (so_11_0 ht) dX11_aHole_209
 (x_iload_n g 0 dX11_aHole_210 rfl rfl
 (x_callVi (As := [.int (64 : Int32), .int (M14.1 (t + 1) (2600 : Int32).toNatClampNeg), .int v15]) g mv_X11_oldOne mi_X11_oldOne lk_RX11_215 ht (fun b Mh_ hb => kX11_oldOne φ t (64 : Int32) (M14.1 (t + 1) (2600 : Int32).toNatClampNeg) v15 M14 ht _ _ hb) rfl rfl hR ⟨Nat.le_of_ble_eq_true rfl, Nat.le_of_ble_eq_true rfl⟩ (Nat.le_of_ble_eq_true rfl) dX11_aHole_211 (fun v16 M17 =>
 (x_if_eq g 241 dX11_aHole_214 rfl
 (fun _ => (x_iconst g dX11_aHole_241 kI_0
 (x_iret g hr rfl rfl dX11_aHole_242)))
 (fun _ => (x_aload_n g 1 dX11_aHole_217 rfl rfl
 (x_ldcS2 g dX11_aHole_218
 (x_bipush g dX11_aHole_220 kB_9
 (x_callVi (As := [.ref 1002, .int (9 : Int32)]) g mv_X11_wantWord mi_X11_wantWord lk_RX11_218 ht (fun b Mh_ hb => kX11_wantWord φ t 1002 (9 : Int32) M17 ht (Or.inr rfl) _ _ hb) rfl rfl hR ⟨Nat.le_of_ble_eq_true rfl, Nat.le_of_ble_eq_true rfl⟩ (Nat.le_of_ble_eq_true rfl) dX11_aHole_222 (fun v18 M19 =>
 (x_if_eq g 241 dX11_aHole_225 rfl
 (fun _ => (x_iconst g dX11_aHole_241 kI_0
 (x_iret g hr rfl rfl dX11_aHole_242)))
 (fun _ => (x_aload_n g 1 dX11_aHole_228 rfl rfl
 (x_iload_n g 0 dX11_aHole_229 rfl rfl
 (x_iconst g dX11_aHole_230 kI_1
 (x_iadd g dX11_aHole_231
 (x_iconst g dX11_aHole_232 kI_1
 (x_bipush g dX11_aHole_233 kB_99
 (x_callVi (As := [.int (v15 + (1 : Int32)), .int (1 : Int32), .int (99 : Int32)]) g mv_X11_number mi_X11_number lk_RX11_212 ht (fun b Mh_ hb => kX11_number φ t (v15 + (1 : Int32)) (1 : Int32) (99 : Int32) M19 ht _ _ hb) rfl rfl hR ⟨Nat.le_of_ble_eq_true rfl, Nat.le_of_ble_eq_true rfl⟩ (Nat.le_of_ble_eq_true rfl) dX11_aHole_235 (fun v20 M21 =>
 (x_if_ne g 243 dX11_aHole_238 rfl
 (fun _ => (x_aload_n g 1 dX11_aHole_243 rfl rfl
 (x_getS g 1 fl_RX11_7 rfl ht dX11_aHole_244
 (x_iload_n g 2 dX11_aHole_247 rfl rfl
 (x_iconst g dX11_aHole_248 kI_2
 (x_iadd g dX11_aHole_249
 (x_dup2 g dX11_aHole_250 rfl rfl
 (x_iald g (so_11_0 ht) dX11_aHole_251
 (x_iconst g dX11_aHole_252 kI_1
 (x_iadd g dX11_aHole_253
 (x_iast g (so_11_0 ht) dX11_aHole_254 (x_nmM (fun M22 =>
 (x_goto g 149 dX11_aHole_255 rfl
 (x_sub [1, 2] rfl (ih M22))))))))))))))))
 (fun _ => (x_iconst g dX11_aHole_241 kI_0
 (x_iret g hr rfl rfl dX11_aHole_242)))))))))))))))))))))))))))))))))))))))))))))))))
 (fun _ => (x_aload_n g 0 dX11_aHole_173 rfl rfl
 (x_bipush g dX11_aHole_174 kB_6
 (x_callVi (As := [.int (6 : Int32)]) g mv_X11_fails mi_X11_fails lk_RX11_185 ht (fun b Mh_ hb => kX11_fails t (6 : Int32) M ht _ _ hb) rfl rfl hR ⟨Nat.le_of_ble_eq_true rfl, Nat.le_of_ble_eq_true rfl⟩ (Nat.le_of_ble_eq_true rfl) dX11_aHole_176 (fun v23 M24 =>
 (x_ck (fun hq25 => x_iret g hr (nbz hq25) rfl dX11_aHole_179))))))))))))))))))))))
def lX11_aHole_77 (K124 : Option (Int32 × Mem)) (t : Nat) (x1 : Int32) (M : Mem) : Nat → Int32 → Option (Int32 × Mem)
  | 0, _ => none
  | n + 1, x2 =>
    if x1 ≤ x2 then
 K124
 else
 ixk x2 3900 (
 ixk x1 3900 (
 jn (lX11_aHole_77 K124 t x1 M n (x2 + 27)) (fun J28 => if (M.1 (t + 1) x2.toNatClampNeg) = (M.1 (t + 1) x1.toNatClampNeg) then
 ixk (x2 + (1 : Int32)) 3900 (
 if (M.1 (t + 1) (x2 + (1 : Int32)).toNatClampNeg) = (M.1 t 15) then
 bd (fX11_fails t (5 : Int32) M) fun v29 M30 =>
 if v29 = 0 ∨ v29 = 1 then some (v29, M30) else none
 else
 J28)
 else
 J28)))
theorem lX11_aHole_77_s (K124 : Option (Int32 × Mem)) (t : Nat) (x1 : Int32) (M : Mem) (n : Nat) (x2 : Int32) : lX11_aHole_77 K124 t x1 M (n + 1) x2 =
    if x1 ≤ x2 then
 K124
 else
 ixk x2 3900 (
 ixk x1 3900 (
 jn (lX11_aHole_77 K124 t x1 M n (x2 + 27)) (fun J28 => if (M.1 (t + 1) x2.toNatClampNeg) = (M.1 (t + 1) x1.toNatClampNeg) then
 ixk (x2 + (1 : Int32)) 3900 (
 if (M.1 (t + 1) (x2 + (1 : Int32)).toNatClampNeg) = (M.1 t 15) then
 bd (fX11_fails t (5 : Int32) M) fun v29 M30 =>
 if v29 = 0 ∨ v29 = 1 then some (v29, M30) else none
 else
 J28)
 else
 J28))) := rfl
theorem lX11_aHole_77_0 (K124 : Option (Int32 × Mem)) (t : Nat) (x1 : Int32) (M : Mem) (x2 : Int32) : lX11_aHole_77 K124 t x1 M 0 x2 = none := rfl
set_option maxRecDepth 100000 in
set_option maxHeartbeats 4000000 in
theorem wlX11_aHole_77 {J : JT} (g : Gd J cX11_aHole RX11) (hr : Rt J (some .boolean)) (hR : (JR J).frames = 7 ∧ (JR J).locals = 191) (hn : Jn J = 3) (K124 : Option (Int32 × Mem)) (t : Nat) (x1 : Int32) (M : Mem) (ht : isO 11 t) (hK124 : X J (fun q : Int32 × Mem => (some (Value.int q.1), q.2)) (K124) 124 [(0, .ref t), (1, .int x1)] [] M) : ∀ (n : Nat) (x2 : Int32), X J (fun q : Int32 × Mem => (some (Value.int q.1), q.2)) (lX11_aHole_77 K124 t x1 M n x2) 77 [(0, .ref t), (1, .int x1), (2, .int x2)] [] M := by
  intro n
  induction n with
  | zero =>
    intro x2
    exact x_none
  | succ n ih =>
    intro x2
    rw [lX11_aHole_77_s]
    exact (x_iload_n g 2 dX11_aHole_77 rfl rfl
 (x_iload_n g 1 dX11_aHole_78 rfl rfl
 (x_icmp_ge g 124 dX11_aHole_79 rfl
 (fun _ => (x_sub [0, 1] rfl (hK124)))
 (fun _ => (x_aload_n g 0 dX11_aHole_82 rfl rfl
 (x_getS g 1 fl_RX11_7 rfl ht dX11_aHole_83
 (x_iload_n g 2 dX11_aHole_86 rfl rfl
 (x_iald g (so_11_0 ht) dX11_aHole_87
 (x_aload_n g 0 dX11_aHole_88 rfl rfl
 (x_getS g 1 fl_RX11_7 rfl ht dX11_aHole_89
 (x_iload_n g 1 dX11_aHole_92 rfl rfl
 (x_iald g (so_11_0 ht) dX11_aHole_93
 (x_jn (fun (J28 : Option (Int32 × Mem)) => X J (fun q : Int32 × Mem => (some (Value.int q.1), q.2)) J28 118 [(0, .ref t), (1, .int x1), (2, .int x2)] [] M) (x_iinc (L' := [(2, .int (x2 + 27)), (0, .ref t), (1, .int x1)]) (v := (x2 + 27)) g 2 dX11_aHole_118 rfl (by rw [kI_27]) hn (Nat.le_of_ble_eq_true rfl) rfl
 (x_goto g 77 dX11_aHole_121 rfl
 (x_sub [1, 2, 0] rfl (ih (x2 + 27))))) (fun J28 hJ28 => (x_icmp_ne g 118 dX11_aHole_94 rfl
 (fun _ => (hJ28))
 (fun _ => (x_aload_n g 0 dX11_aHole_97 rfl rfl
 (x_getS g 1 fl_RX11_7 rfl ht dX11_aHole_98
 (x_iload_n g 2 dX11_aHole_101 rfl rfl
 (x_iconst g dX11_aHole_102 kI_1
 (x_iadd g dX11_aHole_103
 (x_iald g (so_11_0 ht) dX11_aHole_104
 (x_aload_n g 0 dX11_aHole_105 rfl rfl
 (x_getI g fl_RX11_145 rfl ht dX11_aHole_106
 (x_icmp_ne g 118 dX11_aHole_109 rfl
 (fun _ => (hJ28))
 (fun _ => (x_aload_n g 0 dX11_aHole_112 rfl rfl
 (x_iconst g dX11_aHole_113 kI_5
 (x_callVi (As := [.int (5 : Int32)]) g mv_X11_fails mi_X11_fails lk_RX11_185 ht (fun b Mh_ hb => kX11_fails t (5 : Int32) M ht _ _ hb) rfl rfl hR ⟨Nat.le_of_ble_eq_true rfl, Nat.le_of_ble_eq_true rfl⟩ (Nat.le_of_ble_eq_true rfl) dX11_aHole_114 (fun v29 M30 =>
 (x_ck (fun hq31 => x_iret g hr (nbz hq31) rfl dX11_aHole_117))))))))))))))))))))))))))))))))
def fX11_aHole (φ : Nat) (t : Nat) (M : Mem) : Option (Int32 × Mem) :=
  ixk (2601 : Int32) 3900 (
 nm ((2682 : Int32) + ((27 : Int32) * (M.1 (t + 1) (2601 : Int32).toNatClampNeg))) (fun v1 =>
 bd (fX11_newOne φ t (1 : Int32) (6 : Int32) (8 : Int32) M) fun v2 M3 =>
 if v2 = 0 then
 some ((0 : Int32), M3)
 else
 bd (fX11_wantWord φ t 1002 (7 : Int32) M3) fun v4 M5 =>
 if v4 = 0 then
 some ((0 : Int32), M5)
 else
 bd (fX11_number φ t v1 (0 : Int32) (999 : Int32) M5) fun v6 M7 =>
 if v6 = 0 then
 some ((0 : Int32), M7)
 else
 jn (bd (fX11_number φ t (v1 + (1 : Int32)) (0 : Int32) (999 : Int32) M7) fun v9 M10 =>
 if v9 = 0 then
 some ((0 : Int32), M10)
 else
 ixk (v1 + (2 : Int32)) 3900 (nm (stI M10 (t + 1) (v1 + (2 : Int32)).toNatClampNeg (0 : Int32)) (fun M11 =>
 lX11_aHole_149 (fun (M26 : Mem) => ixk (2601 : Int32) 3900 (
 ixk (2601 : Int32) 3900 (nm (stI M26 (t + 1) (2601 : Int32).toNatClampNeg ((M26.1 (t + 1) (2601 : Int32).toNatClampNeg) + (1 : Int32))) (fun M27 =>
 some ((1 : Int32), M27))))) φ t v1 φ M11))) (fun J8 => if (M7.1 t 12) = (3 : Int32) then
 if (999 : Int32) < (M7.1 t 15) then
 J8
 else
 lX11_aHole_77 (J8) t v1 M7 φ (2682 : Int32)
 else
 J8)))
set_option maxRecDepth 100000 in
set_option maxHeartbeats 4000000 in
theorem kX11_aHole (φ : Nat) (t : Nat) (M : Mem) (ht : isO 11 t) (l : Launch) (G : GT) {b : (Int32 × Mem)} (hE : fX11_aHole φ t M = some b) : Ok l G yX11_aHole cX11_aHole 3 (some .boolean) 7 191 [.ref t] M ((fun q : Int32 × Mem => (some (Value.int q.1), q.2)) b).1 ((fun q : Int32 × Mem => (some (Value.int q.1), q.2)) b).2 := by
  refine Ok.ofX (pj := (fun q : Int32 × Mem => (some (Value.int q.1), q.2))) (by decide) (Nat.le_of_ble_eq_true rfl) hE (fun J g hr hG hl hR hn => ?_)
  show X J (fun q : Int32 × Mem => (some (Value.int q.1), q.2)) (fX11_aHole φ t M) 0 [(0, .ref t)] [] M
  unfold fX11_aHole
  exact (x_sipush g dX11_aHole_0 kS_2682
 (x_bipush g dX11_aHole_3 kB_27
 (x_aload_n g 0 dX11_aHole_5 rfl rfl
 (x_getS g 1 fl_RX11_7 rfl ht dX11_aHole_6
 (x_sipush g dX11_aHole_9 kS_2601
 (x_iald g (so_11_0 ht) dX11_aHole_12
 (x_imul g dX11_aHole_13
 (x_iadd g dX11_aHole_14
 (x_nmI (fun v1 => (x_istore_n (L' := [(1, .int v1), (0, .ref t)]) g dX11_aHole_15 rfl hn (Nat.le_of_ble_eq_true rfl) rfl
 (x_aload_n g 1 dX11_aHole_16 rfl rfl
 (x_iconst g dX11_aHole_17 kI_1
 (x_bipush g dX11_aHole_18 kB_6
 (x_bipush g dX11_aHole_20 kB_8
 (x_callVi (As := [.int (1 : Int32), .int (6 : Int32), .int (8 : Int32)]) g mv_X11_newOne mi_X11_newOne lk_RX11_205 ht (fun b Mh_ hb => kX11_newOne φ t (1 : Int32) (6 : Int32) (8 : Int32) M ht _ _ hb) rfl rfl hR ⟨Nat.le_of_ble_eq_true rfl, Nat.le_of_ble_eq_true rfl⟩ (Nat.le_of_ble_eq_true rfl) dX11_aHole_22 (fun v2 M3 =>
 (x_if_ne g 30 dX11_aHole_25 rfl
 (fun _ => (x_aload_n g 1 dX11_aHole_30 rfl rfl
 (x_ldcS2 g dX11_aHole_31
 (x_bipush g dX11_aHole_33 kB_7
 (x_callVi (As := [.ref 1002, .int (7 : Int32)]) g mv_X11_wantWord mi_X11_wantWord lk_RX11_218 ht (fun b Mh_ hb => kX11_wantWord φ t 1002 (7 : Int32) M3 ht (Or.inr rfl) _ _ hb) rfl rfl hR ⟨Nat.le_of_ble_eq_true rfl, Nat.le_of_ble_eq_true rfl⟩ (Nat.le_of_ble_eq_true rfl) dX11_aHole_35 (fun v4 M5 =>
 (x_if_eq g 53 dX11_aHole_38 rfl
 (fun _ => (x_iconst g dX11_aHole_53 kI_0
 (x_iret g hr rfl rfl dX11_aHole_54)))
 (fun _ => (x_aload_n g 1 dX11_aHole_41 rfl rfl
 (x_iload_n g 0 dX11_aHole_42 rfl rfl
 (x_iconst g dX11_aHole_43 kI_0
 (x_sipush g dX11_aHole_44 kS_999
 (x_callVi (As := [.int v1, .int (0 : Int32), .int (999 : Int32)]) g mv_X11_number mi_X11_number lk_RX11_212 ht (fun b Mh_ hb => kX11_number φ t v1 (0 : Int32) (999 : Int32) M5 ht _ _ hb) rfl rfl hR ⟨Nat.le_of_ble_eq_true rfl, Nat.le_of_ble_eq_true rfl⟩ (Nat.le_of_ble_eq_true rfl) dX11_aHole_47 (fun v6 M7 =>
 (x_if_ne g 55 dX11_aHole_50 rfl
 (fun _ => (x_aload_n g 1 dX11_aHole_55 rfl rfl
 (x_getI g fl_RX11_148 rfl ht dX11_aHole_56
 (x_iconst g dX11_aHole_59 kI_3
 (x_jn (fun (J8 : Option (Int32 × Mem)) => X J (fun q : Int32 × Mem => (some (Value.int q.1), q.2)) J8 124 [(0, .ref t), (1, .int v1)] [] M7) (x_aload_n g 0 dX11_aHole_124 rfl rfl
 (x_iload_n g 1 dX11_aHole_125 rfl rfl
 (x_iconst g dX11_aHole_126 kI_1
 (x_iadd g dX11_aHole_127
 (x_iconst g dX11_aHole_128 kI_0
 (x_sipush g dX11_aHole_129 kS_999
 (x_callVi (As := [.int (v1 + (1 : Int32)), .int (0 : Int32), .int (999 : Int32)]) g mv_X11_number mi_X11_number lk_RX11_212 ht (fun b Mh_ hb => kX11_number φ t (v1 + (1 : Int32)) (0 : Int32) (999 : Int32) M7 ht _ _ hb) rfl rfl hR ⟨Nat.le_of_ble_eq_true rfl, Nat.le_of_ble_eq_true rfl⟩ (Nat.le_of_ble_eq_true rfl) dX11_aHole_132 (fun v9 M10 =>
 (x_if_ne g 140 dX11_aHole_135 rfl
 (fun _ => (x_aload_n g 0 dX11_aHole_140 rfl rfl
 (x_getS g 1 fl_RX11_7 rfl ht dX11_aHole_141
 (x_iload_n g 1 dX11_aHole_144 rfl rfl
 (x_iconst g dX11_aHole_145 kI_2
 (x_iadd g dX11_aHole_146
 (x_iconst g dX11_aHole_147 kI_0
 (x_iast g (so_11_0 ht) dX11_aHole_148 (x_nmM (fun M11 =>
 (wlX11_aHole_149 g hr hR hn _ φ t v1 ht
 (fun M26 => by exact (x_aload_n g 0 dX11_aHole_258 rfl rfl
 (x_getS g 1 fl_RX11_7 rfl ht dX11_aHole_259
 (x_sipush g dX11_aHole_262 kS_2601
 (x_dup2 g dX11_aHole_265 rfl rfl
 (x_iald g (so_11_0 ht) dX11_aHole_266
 (x_iconst g dX11_aHole_267 kI_1
 (x_iadd g dX11_aHole_268
 (x_iast g (so_11_0 ht) dX11_aHole_269 (x_nmM (fun M27 =>
 (x_iconst g dX11_aHole_270 kI_1
 (x_iret g hr rfl rfl dX11_aHole_271))))))))))))) φ M11)))))))))))
 (fun _ => (x_iconst g dX11_aHole_138 kI_0
 (x_iret g hr rfl rfl dX11_aHole_139)))))))))))) (fun J8 hJ8 => (x_icmp_ne g 124 dX11_aHole_60 rfl
 (fun _ => (x_sub [1, 0] rfl (hJ8)))
 (fun _ => (x_aload_n g 1 dX11_aHole_63 rfl rfl
 (x_getI g fl_RX11_145 rfl ht dX11_aHole_64
 (x_sipush g dX11_aHole_67 kS_999
 (x_icmp_gt g 124 dX11_aHole_70 rfl
 (fun _ => (x_sub [1, 0] rfl (hJ8)))
 (fun _ => (x_sipush g dX11_aHole_73 kS_2682
 (x_istore_n (L' := [(2, .int (2682 : Int32)), (1, .int v1), (0, .ref t)]) g dX11_aHole_76 rfl hn (Nat.le_of_ble_eq_true rfl) rfl
 (x_sub [2, 1, 0] rfl (wlX11_aHole_77 g hr hR hn _ t v1 M7 ht
 (by exact (hJ8)) φ (2682 : Int32))))))))))))))))))
 (fun _ => (x_iconst g dX11_aHole_53 kI_0
 (x_iret g hr rfl rfl dX11_aHole_54))))))))))))))))))
 (fun _ => (x_iconst g dX11_aHole_28 kI_0
 (x_iret g hr rfl rfl dX11_aHole_29)))))))))))))))))))))
def fX11_leftOf (a1 : Int32) (a2 : Int32) (a3 : Int32) (a4 : Int32) (a5 : Int32) (a6 : Int32) (M : Mem) : Option Int64 :=
  some ((((a3 - a1).toInt64) * ((a6 - a2).toInt64)) - (((a4 - a2).toInt64) * ((a5 - a1).toInt64)))
set_option maxRecDepth 100000 in
set_option maxHeartbeats 4000000 in
theorem kX11_leftOf (a1 : Int32) (a2 : Int32) (a3 : Int32) (a4 : Int32) (a5 : Int32) (a6 : Int32) (M : Mem) (l : Launch) (G : GT) {b : Int64} (hE : fX11_leftOf a1 a2 a3 a4 a5 a6 M = some b) : Ok l G yX11_leftOf cX11_leftOf 6 (some .long) 0 0 [.int a1, .int a2, .int a3, .int a4, .int a5, .int a6] M ((fun b : Int64 => (some (Value.long b), M)) b).1 ((fun b : Int64 => (some (Value.long b), M)) b).2 := by
  refine Ok.ofX (pj := (fun b : Int64 => (some (Value.long b), M))) (by decide) (Nat.le_of_ble_eq_true rfl) hE (fun J g hr hG hl hR hn => ?_)
  show X J (fun b : Int64 => (some (Value.long b), M)) (fX11_leftOf a1 a2 a3 a4 a5 a6 M) 0 [(0, .int a1), (1, .int a2), (2, .int a3), (3, .int a4), (4, .int a5), (5, .int a6)] [] M
  unfold fX11_leftOf
  exact (x_iload_n g 2 dX11_leftOf_0 rfl rfl
 (x_iload_n g 0 dX11_leftOf_1 rfl rfl
 (x_isub g dX11_leftOf_2
 (x_i2l g dX11_leftOf_3
 (x_iload g 5 dX11_leftOf_4 rfl
 (x_iload_n g 1 dX11_leftOf_6 rfl rfl
 (x_isub g dX11_leftOf_7
 (x_i2l g dX11_leftOf_8
 (x_lmul g dX11_leftOf_9
 (x_iload_n g 3 dX11_leftOf_10 rfl rfl
 (x_iload_n g 1 dX11_leftOf_11 rfl rfl
 (x_isub g dX11_leftOf_12
 (x_i2l g dX11_leftOf_13
 (x_iload g 4 dX11_leftOf_14 rfl
 (x_iload_n g 0 dX11_leftOf_16 rfl rfl
 (x_isub g dX11_leftOf_17
 (x_i2l g dX11_leftOf_18
 (x_lmul g dX11_leftOf_19
 (x_lsub g dX11_leftOf_20
 (x_lret g hr rfl dX11_leftOf_21))))))))))))))))))))
def fX11_cornersOf (t : Nat) (a1 : Int32) (a2 : Int32) (a3 : Int32) (a4 : Int32) (M : Mem) : Option Int64 :=
  nm ((a1 + (82 : Int32)) + ((27 : Int32) * a2)) (fun v1 =>
 nm ((a1 + (82 : Int32)) + ((27 : Int32) * a3)) (fun v2 =>
 nm ((a1 + (82 : Int32)) + ((27 : Int32) * a4)) (fun v3 =>
 ixk v1 3900 (
 ixk (v1 + (1 : Int32)) 3900 (
 ixk v2 3900 (
 ixk (v2 + (1 : Int32)) 3900 (
 ixk v3 3900 (
 ixk (v3 + (1 : Int32)) 3900 (
 (fX11_leftOf (M.1 (t + 1) v1.toNatClampNeg) (M.1 (t + 1) (v1 + (1 : Int32)).toNatClampNeg) (M.1 (t + 1) v2.toNatClampNeg) (M.1 (t + 1) (v2 + (1 : Int32)).toNatClampNeg) (M.1 (t + 1) v3.toNatClampNeg) (M.1 (t + 1) (v3 + (1 : Int32)).toNatClampNeg) M).bind fun vz4 =>
 some vz4)))))))))
set_option maxRecDepth 100000 in
set_option maxHeartbeats 4000000 in
theorem kX11_cornersOf (t : Nat) (a1 : Int32) (a2 : Int32) (a3 : Int32) (a4 : Int32) (M : Mem) (ht : isO 11 t) (l : Launch) (G : GT) {b : Int64} (hE : fX11_cornersOf t a1 a2 a3 a4 M = some b) : Ok l G yX11_cornersOf cX11_cornersOf 8 (some .long) 1 25 [.ref t, .int a1, .int a2, .int a3, .int a4] M ((fun b : Int64 => (some (Value.long b), M)) b).1 ((fun b : Int64 => (some (Value.long b), M)) b).2 := by
  refine Ok.ofX (pj := (fun b : Int64 => (some (Value.long b), M))) (by decide) (Nat.le_of_ble_eq_true rfl) hE (fun J g hr hG hl hR hn => ?_)
  show X J (fun b : Int64 => (some (Value.long b), M)) (fX11_cornersOf t a1 a2 a3 a4 M) 0 [(0, .ref t), (1, .int a1), (2, .int a2), (3, .int a3), (4, .int a4)] [] M
  unfold fX11_cornersOf
  exact (x_iload_n g 1 dX11_cornersOf_0 rfl rfl
 (x_bipush g dX11_cornersOf_1 kB_82
 (x_iadd g dX11_cornersOf_3
 (x_bipush g dX11_cornersOf_4 kB_27
 (x_iload_n g 2 dX11_cornersOf_6 rfl rfl
 (x_imul g dX11_cornersOf_7
 (x_iadd g dX11_cornersOf_8
 (x_nmI (fun v1 => (x_istore (L' := [(5, .int v1), (0, .ref t), (1, .int a1), (2, .int a2), (3, .int a3), (4, .int a4)]) g dX11_cornersOf_9 hn (Nat.le_of_ble_eq_true rfl) rfl
 (x_iload_n g 2 dX11_cornersOf_11 rfl rfl
 (x_bipush g dX11_cornersOf_12 kB_82
 (x_iadd g dX11_cornersOf_14
 (x_bipush g dX11_cornersOf_15 kB_27
 (x_iload_n g 4 dX11_cornersOf_17 rfl rfl
 (x_imul g dX11_cornersOf_18
 (x_iadd g dX11_cornersOf_19
 (x_nmI (fun v2 => (x_istore (L' := [(6, .int v2), (5, .int v1), (0, .ref t), (1, .int a1), (2, .int a2), (3, .int a3), (4, .int a4)]) g dX11_cornersOf_20 hn (Nat.le_of_ble_eq_true rfl) rfl
 (x_iload_n g 3 dX11_cornersOf_22 rfl rfl
 (x_bipush g dX11_cornersOf_23 kB_82
 (x_iadd g dX11_cornersOf_25
 (x_bipush g dX11_cornersOf_26 kB_27
 (x_iload g 6 dX11_cornersOf_28 rfl
 (x_imul g dX11_cornersOf_30
 (x_iadd g dX11_cornersOf_31
 (x_nmI (fun v3 => (x_istore (L' := [(7, .int v3), (6, .int v2), (5, .int v1), (0, .ref t), (1, .int a1), (2, .int a2), (3, .int a3), (4, .int a4)]) g dX11_cornersOf_32 hn (Nat.le_of_ble_eq_true rfl) rfl
 (x_aload_n g 3 dX11_cornersOf_34 rfl rfl
 (x_getS g 1 fl_RX11_7 rfl ht dX11_cornersOf_35
 (x_iload g 2 dX11_cornersOf_38 rfl
 (x_iald g (so_11_0 ht) dX11_cornersOf_40
 (x_aload_n g 3 dX11_cornersOf_41 rfl rfl
 (x_getS g 1 fl_RX11_7 rfl ht dX11_cornersOf_42
 (x_iload g 2 dX11_cornersOf_45 rfl
 (x_iconst g dX11_cornersOf_47 kI_1
 (x_iadd g dX11_cornersOf_48
 (x_iald g (so_11_0 ht) dX11_cornersOf_49
 (x_aload_n g 3 dX11_cornersOf_50 rfl rfl
 (x_getS g 1 fl_RX11_7 rfl ht dX11_cornersOf_51
 (x_iload g 1 dX11_cornersOf_54 rfl
 (x_iald g (so_11_0 ht) dX11_cornersOf_56
 (x_aload_n g 3 dX11_cornersOf_57 rfl rfl
 (x_getS g 1 fl_RX11_7 rfl ht dX11_cornersOf_58
 (x_iload g 1 dX11_cornersOf_61 rfl
 (x_iconst g dX11_cornersOf_63 kI_1
 (x_iadd g dX11_cornersOf_64
 (x_iald g (so_11_0 ht) dX11_cornersOf_65
 (x_aload_n g 3 dX11_cornersOf_66 rfl rfl
 (x_getS g 1 fl_RX11_7 rfl ht dX11_cornersOf_67
 (x_iload g 0 dX11_cornersOf_70 rfl
 (x_iald g (so_11_0 ht) dX11_cornersOf_72
 (x_aload_n g 3 dX11_cornersOf_73 rfl rfl
 (x_getS g 1 fl_RX11_7 rfl ht dX11_cornersOf_74
 (x_iload g 0 dX11_cornersOf_77 rfl
 (x_iconst g dX11_cornersOf_79 kI_1
 (x_iadd g dX11_cornersOf_80
 (x_iald g (so_11_0 ht) dX11_cornersOf_81
 (x_callSlp (As := [.int (M.1 (t + 1) v1.toNatClampNeg), .int (M.1 (t + 1) (v1 + (1 : Int32)).toNatClampNeg), .int (M.1 (t + 1) v2.toNatClampNeg), .int (M.1 (t + 1) (v2 + (1 : Int32)).toNatClampNeg), .int (M.1 (t + 1) v3.toNatClampNeg), .int (M.1 (t + 1) (v3 + (1 : Int32)).toNatClampNeg)]) g mv_X11_leftOf ms_X11_leftOf lk_RX11_222 (fun b hb => kX11_leftOf (M.1 (t + 1) v1.toNatClampNeg) (M.1 (t + 1) (v1 + (1 : Int32)).toNatClampNeg) (M.1 (t + 1) v2.toNatClampNeg) (M.1 (t + 1) (v2 + (1 : Int32)).toNatClampNeg) (M.1 (t + 1) v3.toNatClampNeg) (M.1 (t + 1) (v3 + (1 : Int32)).toNatClampNeg) M _ _ hb) rfl rfl hR ⟨Nat.le_of_ble_eq_true rfl, Nat.le_of_ble_eq_true rfl⟩ (Nat.le_of_ble_eq_true rfl) dX11_cornersOf_82 (fun vz4 =>
 (x_lret g hr rfl dX11_cornersOf_85)))))))))))))))))))))))))))))))))))))))))))))))))))))))))))))))
def fX11_aTriangle (φ : Nat) (t : Nat) (M : Mem) : Option (Int32 × Mem) :=
  ixk (2602 : Int32) 3900 (
 nm ((2844 : Int32) + ((3 : Int32) * (M.1 (t + 1) (2602 : Int32).toNatClampNeg))) (fun v1 =>
 ixk (2602 : Int32) 3900 (
 if (M.1 (t + 1) (2602 : Int32).toNatClampNeg) = (8 : Int32) then
 bd (fX11_fails t (6 : Int32) M) fun v18 M19 =>
 if v18 = 0 ∨ v18 = 1 then some (v18, M19) else none
 else
 bd (fX11_ahead φ t M) fun vu2 M3 =>
 ixk (2601 : Int32) 3900 (
 bd (fX11_oldOne φ t (72 : Int32) (M3.1 (t + 1) (2601 : Int32).toNatClampNeg) v1 M3) fun v4 M5 =>
 if v4 = 0 then
 some ((0 : Int32), M5)
 else
 ixk (2601 : Int32) 3900 (
 bd (fX11_oldOne φ t (72 : Int32) (M5.1 (t + 1) (2601 : Int32).toNatClampNeg) (v1 + (1 : Int32)) M5) fun v6 M7 =>
 if v6 = 0 then
 some ((0 : Int32), M7)
 else
 (fX11_isName φ t 1002 M7).bind fun v8 =>
 jn (ixk (2601 : Int32) 3900 (
 bd (fX11_oldOne φ t (72 : Int32) (M7.1 (t + 1) (2601 : Int32).toNatClampNeg) (v1 + (2 : Int32)) M7) fun v10 M11 =>
 if v10 = 0 then
 some ((0 : Int32), M11)
 else
 ixk (2602 : Int32) 3900 (
 ixk (2602 : Int32) 3900 (nm (stI M11 (t + 1) (2602 : Int32).toNatClampNeg ((M11.1 (t + 1) (2602 : Int32).toNatClampNeg) + (1 : Int32))) (fun M12 =>
 some ((1 : Int32), M12)))))) (fun J9 => if v8 = 0 then
 J9
 else
 ixk (2601 : Int32) 3900 (
 (fX11_findHere φ t (72 : Int32) (M7.1 (t + 1) (2601 : Int32).toNatClampNeg) M7).bind fun v13 =>
 if v13 = (-1 : Int32) then
 J9
 else
 ixk v1 3900 (
 ixk (v1 + (1 : Int32)) 3900 (
 (fX11_cornersOf t (2600 : Int32) (M7.1 (t + 1) v1.toNatClampNeg) (M7.1 (t + 1) (v1 + (1 : Int32)).toNatClampNeg) v13 M7).bind fun vz14 =>
 if vz14 = (0 : Int64) then
 bd (fX11_fails t (5 : Int32) M7) fun v15 M16 =>
 if v15 = 0 ∨ v15 = 1 then some (v15, M16) else none
 else
 J9)))))))))
set_option maxRecDepth 100000 in
set_option maxHeartbeats 4000000 in
theorem kX11_aTriangle (φ : Nat) (t : Nat) (M : Mem) (ht : isO 11 t) (l : Launch) (G : GT) {b : (Int32 × Mem)} (hE : fX11_aTriangle φ t M = some b) : Ok l G yX11_aTriangle cX11_aTriangle 3 (some .boolean) 7 191 [.ref t] M ((fun q : Int32 × Mem => (some (Value.int q.1), q.2)) b).1 ((fun q : Int32 × Mem => (some (Value.int q.1), q.2)) b).2 := by
  refine Ok.ofX (pj := (fun q : Int32 × Mem => (some (Value.int q.1), q.2))) (by decide) (Nat.le_of_ble_eq_true rfl) hE (fun J g hr hG hl hR hn => ?_)
  show X J (fun q : Int32 × Mem => (some (Value.int q.1), q.2)) (fX11_aTriangle φ t M) 0 [(0, .ref t)] [] M
  unfold fX11_aTriangle
  exact (x_sipush g dX11_aTriangle_0 kS_2844
 (x_iconst g dX11_aTriangle_3 kI_3
 (x_aload_n g 0 dX11_aTriangle_4 rfl rfl
 (x_getS g 1 fl_RX11_7 rfl ht dX11_aTriangle_5
 (x_sipush g dX11_aTriangle_8 kS_2602
 (x_iald g (so_11_0 ht) dX11_aTriangle_11
 (x_imul g dX11_aTriangle_12
 (x_iadd g dX11_aTriangle_13
 (x_nmI (fun v1 => (x_istore_n (L' := [(1, .int v1), (0, .ref t)]) g dX11_aTriangle_14 rfl hn (Nat.le_of_ble_eq_true rfl) rfl
 (x_aload_n g 1 dX11_aTriangle_15 rfl rfl
 (x_getS g 1 fl_RX11_7 rfl ht dX11_aTriangle_16
 (x_sipush g dX11_aTriangle_19 kS_2602
 (x_iald g (so_11_0 ht) dX11_aTriangle_22
 (x_bipush g dX11_aTriangle_23 kB_8
 (x_icmp_ne g 35 dX11_aTriangle_25 rfl
 (fun _ => (x_aload_n g 1 dX11_aTriangle_35 rfl rfl
 (x_callVv (As := []) g mv_X11_ahead mi_X11_ahead lk_RX11_179 ht (fun b Mh_ hb => kX11_ahead φ t M ht _ _ hb) rfl rfl hR ⟨Nat.le_of_ble_eq_true rfl, Nat.le_of_ble_eq_true rfl⟩ (Nat.le_of_ble_eq_true rfl) dX11_aTriangle_36 (fun vu2 M3 =>
 (x_aload_n g 1 dX11_aTriangle_39 rfl rfl
 (x_bipush g dX11_aTriangle_40 kB_72
 (x_aload_n g 1 dX11_aTriangle_42 rfl rfl
 (x_getS g 1 fl_RX11_7 rfl ht dX11_aTriangle_43
 (x_sipush g dX11_aTriangle_46 kS_2601
 (x_iald g (so_11_0 ht) dX11_aTriangle_49
 (x_iload_n g 0 dX11_aTriangle_50 rfl rfl
 (x_callVi (As := [.int (72 : Int32), .int (M3.1 (t + 1) (2601 : Int32).toNatClampNeg), .int v1]) g mv_X11_oldOne mi_X11_oldOne lk_RX11_215 ht (fun b Mh_ hb => kX11_oldOne φ t (72 : Int32) (M3.1 (t + 1) (2601 : Int32).toNatClampNeg) v1 M3 ht _ _ hb) rfl rfl hR ⟨Nat.le_of_ble_eq_true rfl, Nat.le_of_ble_eq_true rfl⟩ (Nat.le_of_ble_eq_true rfl) dX11_aTriangle_51 (fun v4 M5 =>
 (x_if_eq g 77 dX11_aTriangle_54 rfl
 (fun _ => (x_iconst g dX11_aTriangle_77 kI_0
 (x_iret g hr rfl rfl dX11_aTriangle_78)))
 (fun _ => (x_aload_n g 1 dX11_aTriangle_57 rfl rfl
 (x_bipush g dX11_aTriangle_58 kB_72
 (x_aload_n g 1 dX11_aTriangle_60 rfl rfl
 (x_getS g 1 fl_RX11_7 rfl ht dX11_aTriangle_61
 (x_sipush g dX11_aTriangle_64 kS_2601
 (x_iald g (so_11_0 ht) dX11_aTriangle_67
 (x_iload_n g 0 dX11_aTriangle_68 rfl rfl
 (x_iconst g dX11_aTriangle_69 kI_1
 (x_iadd g dX11_aTriangle_70
 (x_callVi (As := [.int (72 : Int32), .int (M5.1 (t + 1) (2601 : Int32).toNatClampNeg), .int (v1 + (1 : Int32))]) g mv_X11_oldOne mi_X11_oldOne lk_RX11_215 ht (fun b Mh_ hb => kX11_oldOne φ t (72 : Int32) (M5.1 (t + 1) (2601 : Int32).toNatClampNeg) (v1 + (1 : Int32)) M5 ht _ _ hb) rfl rfl hR ⟨Nat.le_of_ble_eq_true rfl, Nat.le_of_ble_eq_true rfl⟩ (Nat.le_of_ble_eq_true rfl) dX11_aTriangle_71 (fun v6 M7 =>
 (x_if_ne g 79 dX11_aTriangle_74 rfl
 (fun _ => (x_aload_n g 1 dX11_aTriangle_79 rfl rfl
 (x_ldcS2 g dX11_aTriangle_80
 (x_callVip (As := [.ref 1002]) g mv_X11_isName mi_X11_isName lk_RX11_198 ht (fun b hb => kX11_isName φ t 1002 M7 ht (Or.inr rfl) _ _ hb) rfl rfl hR ⟨Nat.le_of_ble_eq_true rfl, Nat.le_of_ble_eq_true rfl⟩ (Nat.le_of_ble_eq_true rfl) dX11_aTriangle_82 (fun v8 =>
 (x_jn (fun (J9 : Option (Int32 × Mem)) => X J (fun q : Int32 × Mem => (some (Value.int q.1), q.2)) J9 141 [(0, .ref t), (1, .int v1)] [] M7) (x_aload_n g 0 dX11_aTriangle_141 rfl rfl
 (x_bipush g dX11_aTriangle_142 kB_72
 (x_aload_n g 0 dX11_aTriangle_144 rfl rfl
 (x_getS g 1 fl_RX11_7 rfl ht dX11_aTriangle_145
 (x_sipush g dX11_aTriangle_148 kS_2601
 (x_iald g (so_11_0 ht) dX11_aTriangle_151
 (x_iload_n g 1 dX11_aTriangle_152 rfl rfl
 (x_iconst g dX11_aTriangle_153 kI_2
 (x_iadd g dX11_aTriangle_154
 (x_callVi (As := [.int (72 : Int32), .int (M7.1 (t + 1) (2601 : Int32).toNatClampNeg), .int (v1 + (2 : Int32))]) g mv_X11_oldOne mi_X11_oldOne lk_RX11_215 ht (fun b Mh_ hb => kX11_oldOne φ t (72 : Int32) (M7.1 (t + 1) (2601 : Int32).toNatClampNeg) (v1 + (2 : Int32)) M7 ht _ _ hb) rfl rfl hR ⟨Nat.le_of_ble_eq_true rfl, Nat.le_of_ble_eq_true rfl⟩ (Nat.le_of_ble_eq_true rfl) dX11_aTriangle_155 (fun v10 M11 =>
 (x_if_ne g 163 dX11_aTriangle_158 rfl
 (fun _ => (x_aload_n g 0 dX11_aTriangle_163 rfl rfl
 (x_getS g 1 fl_RX11_7 rfl ht dX11_aTriangle_164
 (x_sipush g dX11_aTriangle_167 kS_2602
 (x_dup2 g dX11_aTriangle_170 rfl rfl
 (x_iald g (so_11_0 ht) dX11_aTriangle_171
 (x_iconst g dX11_aTriangle_172 kI_1
 (x_iadd g dX11_aTriangle_173
 (x_iast g (so_11_0 ht) dX11_aTriangle_174 (x_nmM (fun M12 =>
 (x_iconst g dX11_aTriangle_175 kI_1
 (x_iret g hr rfl rfl dX11_aTriangle_176)))))))))))))
 (fun _ => (x_iconst g dX11_aTriangle_161 kI_0
 (x_iret g hr rfl rfl dX11_aTriangle_162))))))))))))))) (fun J9 hJ9 => (x_if_eq g 141 dX11_aTriangle_85 rfl
 (fun _ => (x_sub [1, 0] rfl (hJ9)))
 (fun _ => (x_aload_n g 1 dX11_aTriangle_88 rfl rfl
 (x_bipush g dX11_aTriangle_89 kB_72
 (x_aload_n g 1 dX11_aTriangle_91 rfl rfl
 (x_getS g 1 fl_RX11_7 rfl ht dX11_aTriangle_92
 (x_sipush g dX11_aTriangle_95 kS_2601
 (x_iald g (so_11_0 ht) dX11_aTriangle_98
 (x_callVip (As := [.int (72 : Int32), .int (M7.1 (t + 1) (2601 : Int32).toNatClampNeg)]) g mv_X11_findHere mi_X11_findHere lk_RX11_202 ht (fun b hb => kX11_findHere φ t (72 : Int32) (M7.1 (t + 1) (2601 : Int32).toNatClampNeg) M7 ht _ _ hb) rfl rfl hR ⟨Nat.le_of_ble_eq_true rfl, Nat.le_of_ble_eq_true rfl⟩ (Nat.le_of_ble_eq_true rfl) dX11_aTriangle_99 (fun v13 =>
 (x_istore_n (L' := [(2, .int v13), (1, .int v1), (0, .ref t)]) g dX11_aTriangle_102 rfl hn (Nat.le_of_ble_eq_true rfl) rfl
 (x_iload_n g 0 dX11_aTriangle_103 rfl rfl
 (x_iconst g dX11_aTriangle_104 kI_m1
 (x_icmp_eq g 141 dX11_aTriangle_105 rfl
 (fun _ => (x_sub [2, 1] rfl (hJ9)))
 (fun _ => (x_aload_n g 2 dX11_aTriangle_108 rfl rfl
 (x_sipush g dX11_aTriangle_109 kS_2600
 (x_aload_n g 2 dX11_aTriangle_112 rfl rfl
 (x_getS g 1 fl_RX11_7 rfl ht dX11_aTriangle_113
 (x_iload_n g 1 dX11_aTriangle_116 rfl rfl
 (x_iald g (so_11_0 ht) dX11_aTriangle_117
 (x_aload_n g 2 dX11_aTriangle_118 rfl rfl
 (x_getS g 1 fl_RX11_7 rfl ht dX11_aTriangle_119
 (x_iload_n g 1 dX11_aTriangle_122 rfl rfl
 (x_iconst g dX11_aTriangle_123 kI_1
 (x_iadd g dX11_aTriangle_124
 (x_iald g (so_11_0 ht) dX11_aTriangle_125
 (x_iload_n g 0 dX11_aTriangle_126 rfl rfl
 (x_callVlp (As := [.int (2600 : Int32), .int (M7.1 (t + 1) v1.toNatClampNeg), .int (M7.1 (t + 1) (v1 + (1 : Int32)).toNatClampNeg), .int v13]) g mv_X11_cornersOf mi_X11_cornersOf lk_RX11_226 ht (fun b hb => kX11_cornersOf t (2600 : Int32) (M7.1 (t + 1) v1.toNatClampNeg) (M7.1 (t + 1) (v1 + (1 : Int32)).toNatClampNeg) v13 M7 ht _ _ hb) rfl rfl hR ⟨Nat.le_of_ble_eq_true rfl, Nat.le_of_ble_eq_true rfl⟩ (Nat.le_of_ble_eq_true rfl) dX11_aTriangle_127 (fun vz14 =>
 (x_lconst g dX11_aTriangle_130 kL_0
 (x_l_ne g 141 dX11_aTriangle_131 dX11_aTriangle_132 rfl
 (fun _ => (x_sub [2, 1] rfl (hJ9)))
 (fun _ => (x_aload_n g 2 dX11_aTriangle_135 rfl rfl
 (x_iconst g dX11_aTriangle_136 kI_5
 (x_callVi (As := [.int (5 : Int32)]) g mv_X11_fails mi_X11_fails lk_RX11_185 ht (fun b Mh_ hb => kX11_fails t (5 : Int32) M7 ht _ _ hb) rfl rfl hR ⟨Nat.le_of_ble_eq_true rfl, Nat.le_of_ble_eq_true rfl⟩ (Nat.le_of_ble_eq_true rfl) dX11_aTriangle_137 (fun v15 M16 =>
 (x_ck (fun hq17 => x_iret g hr (nbz hq17) rfl dX11_aTriangle_140))))))))))))))))))))))))))))))))))))))))))))))
 (fun _ => (x_iconst g dX11_aTriangle_77 kI_0
 (x_iret g hr rfl rfl dX11_aTriangle_78))))))))))))))))))))))))))))))
 (fun _ => (x_aload_n g 1 dX11_aTriangle_28 rfl rfl
 (x_bipush g dX11_aTriangle_29 kB_6
 (x_callVi (As := [.int (6 : Int32)]) g mv_X11_fails mi_X11_fails lk_RX11_185 ht (fun b Mh_ hb => kX11_fails t (6 : Int32) M ht _ _ hb) rfl rfl hR ⟨Nat.le_of_ble_eq_true rfl, Nat.le_of_ble_eq_true rfl⟩ (Nat.le_of_ble_eq_true rfl) dX11_aTriangle_31 (fun v18 M19 =>
 (x_ck (fun hq20 => x_iret g hr (nbz hq20) rfl dX11_aTriangle_34))))))))))))))))))))))))
def fX11_aFault (φ : Nat) (t : Nat) (M : Mem) : Option (Int32 × Mem) :=
  ixk (2603 : Int32) 3900 (
 nm ((2868 : Int32) + ((5 : Int32) * (M.1 (t + 1) (2603 : Int32).toNatClampNeg))) (fun v1 =>
 bd (fX11_newOne φ t (3 : Int32) (2 : Int32) (14 : Int32) M) fun v2 M3 =>
 if v2 = 0 then
 some ((0 : Int32), M3)
 else
 bd (fX11_wantWord φ t 1002 (10 : Int32) M3) fun v4 M5 =>
 if v4 = 0 then
 some ((0 : Int32), M5)
 else
 bd (fX11_number φ t v1 (0 : Int32) (999 : Int32) M5) fun v6 M7 =>
 if v6 = 0 then
 some ((0 : Int32), M7)
 else
 bd (fX11_number φ t (v1 + (1 : Int32)) (0 : Int32) (999 : Int32) M7) fun v8 M9 =>
 if v8 = 0 then
 some ((0 : Int32), M9)
 else
 bd (fX11_wantWord φ t 1002 (11 : Int32) M9) fun v10 M11 =>
 if v10 = 0 then
 some ((0 : Int32), M11)
 else
 bd (fX11_number φ t (v1 + (2 : Int32)) (0 : Int32) (999 : Int32) M11) fun v12 M13 =>
 if v12 = 0 then
 some ((0 : Int32), M13)
 else
 jn (bd (fX11_number φ t (v1 + (3 : Int32)) (0 : Int32) (999 : Int32) M13) fun v15 M16 =>
 if v15 = 0 then
 some ((0 : Int32), M16)
 else
 bd (fX11_wantWord φ t 1002 (12 : Int32) M16) fun v17 M18 =>
 if v17 = 0 then
 some ((0 : Int32), M18)
 else
 bd (fX11_number φ t (v1 + (4 : Int32)) (0 : Int32) (999 : Int32) M18) fun v19 M20 =>
 if v19 = 0 then
 some ((0 : Int32), M20)
 else
 ixk (2603 : Int32) 3900 (
 ixk (2603 : Int32) 3900 (nm (stI M20 (t + 1) (2603 : Int32).toNatClampNeg ((M20.1 (t + 1) (2603 : Int32).toNatClampNeg) + (1 : Int32))) (fun M21 =>
 some ((1 : Int32), M21))))) (fun J14 => if (M13.1 t 12) = (3 : Int32) then
 if (999 : Int32) < (M13.1 t 15) then
 J14
 else
 ixk v1 3900 (
 ixk (v1 + (2 : Int32)) 3900 (
 if (M13.1 (t + 1) v1.toNatClampNeg) = (M13.1 (t + 1) (v1 + (2 : Int32)).toNatClampNeg) then
 ixk (v1 + (1 : Int32)) 3900 (
 if (M13.1 (t + 1) (v1 + (1 : Int32)).toNatClampNeg) = (M13.1 t 15) then
 bd (fX11_fails t (5 : Int32) M13) fun v22 M23 =>
 if v22 = 0 ∨ v22 = 1 then some (v22, M23) else none
 else
 J14)
 else
 J14))
 else
 J14)))
set_option maxRecDepth 100000 in
set_option maxHeartbeats 4000000 in
theorem kX11_aFault (φ : Nat) (t : Nat) (M : Mem) (ht : isO 11 t) (l : Launch) (G : GT) {b : (Int32 × Mem)} (hE : fX11_aFault φ t M = some b) : Ok l G yX11_aFault cX11_aFault 2 (some .boolean) 7 191 [.ref t] M ((fun q : Int32 × Mem => (some (Value.int q.1), q.2)) b).1 ((fun q : Int32 × Mem => (some (Value.int q.1), q.2)) b).2 := by
  refine Ok.ofX (pj := (fun q : Int32 × Mem => (some (Value.int q.1), q.2))) (by decide) (Nat.le_of_ble_eq_true rfl) hE (fun J g hr hG hl hR hn => ?_)
  show X J (fun q : Int32 × Mem => (some (Value.int q.1), q.2)) (fX11_aFault φ t M) 0 [(0, .ref t)] [] M
  unfold fX11_aFault
  exact (x_sipush g dX11_aFault_0 kS_2868
 (x_iconst g dX11_aFault_3 kI_5
 (x_aload_n g 0 dX11_aFault_4 rfl rfl
 (x_getS g 1 fl_RX11_7 rfl ht dX11_aFault_5
 (x_sipush g dX11_aFault_8 kS_2603
 (x_iald g (so_11_0 ht) dX11_aFault_11
 (x_imul g dX11_aFault_12
 (x_iadd g dX11_aFault_13
 (x_nmI (fun v1 => (x_istore_n (L' := [(1, .int v1), (0, .ref t)]) g dX11_aFault_14 rfl hn (Nat.le_of_ble_eq_true rfl) rfl
 (x_aload_n g 1 dX11_aFault_15 rfl rfl
 (x_iconst g dX11_aFault_16 kI_3
 (x_iconst g dX11_aFault_17 kI_2
 (x_bipush g dX11_aFault_18 kB_14
 (x_callVi (As := [.int (3 : Int32), .int (2 : Int32), .int (14 : Int32)]) g mv_X11_newOne mi_X11_newOne lk_RX11_205 ht (fun b Mh_ hb => kX11_newOne φ t (3 : Int32) (2 : Int32) (14 : Int32) M ht _ _ hb) rfl rfl hR ⟨Nat.le_of_ble_eq_true rfl, Nat.le_of_ble_eq_true rfl⟩ (Nat.le_of_ble_eq_true rfl) dX11_aFault_20 (fun v2 M3 =>
 (x_if_ne g 28 dX11_aFault_23 rfl
 (fun _ => (x_aload_n g 1 dX11_aFault_28 rfl rfl
 (x_ldcS2 g dX11_aFault_29
 (x_bipush g dX11_aFault_31 kB_10
 (x_callVi (As := [.ref 1002, .int (10 : Int32)]) g mv_X11_wantWord mi_X11_wantWord lk_RX11_218 ht (fun b Mh_ hb => kX11_wantWord φ t 1002 (10 : Int32) M3 ht (Or.inr rfl) _ _ hb) rfl rfl hR ⟨Nat.le_of_ble_eq_true rfl, Nat.le_of_ble_eq_true rfl⟩ (Nat.le_of_ble_eq_true rfl) dX11_aFault_33 (fun v4 M5 =>
 (x_if_eq g 90 dX11_aFault_36 rfl
 (fun _ => (x_iconst g dX11_aFault_90 kI_0
 (x_iret g hr rfl rfl dX11_aFault_91)))
 (fun _ => (x_aload_n g 1 dX11_aFault_39 rfl rfl
 (x_iload_n g 0 dX11_aFault_40 rfl rfl
 (x_iconst g dX11_aFault_41 kI_0
 (x_sipush g dX11_aFault_42 kS_999
 (x_callVi (As := [.int v1, .int (0 : Int32), .int (999 : Int32)]) g mv_X11_number mi_X11_number lk_RX11_212 ht (fun b Mh_ hb => kX11_number φ t v1 (0 : Int32) (999 : Int32) M5 ht _ _ hb) rfl rfl hR ⟨Nat.le_of_ble_eq_true rfl, Nat.le_of_ble_eq_true rfl⟩ (Nat.le_of_ble_eq_true rfl) dX11_aFault_45 (fun v6 M7 =>
 (x_if_eq g 90 dX11_aFault_48 rfl
 (fun _ => (x_iconst g dX11_aFault_90 kI_0
 (x_iret g hr rfl rfl dX11_aFault_91)))
 (fun _ => (x_aload_n g 1 dX11_aFault_51 rfl rfl
 (x_iload_n g 0 dX11_aFault_52 rfl rfl
 (x_iconst g dX11_aFault_53 kI_1
 (x_iadd g dX11_aFault_54
 (x_iconst g dX11_aFault_55 kI_0
 (x_sipush g dX11_aFault_56 kS_999
 (x_callVi (As := [.int (v1 + (1 : Int32)), .int (0 : Int32), .int (999 : Int32)]) g mv_X11_number mi_X11_number lk_RX11_212 ht (fun b Mh_ hb => kX11_number φ t (v1 + (1 : Int32)) (0 : Int32) (999 : Int32) M7 ht _ _ hb) rfl rfl hR ⟨Nat.le_of_ble_eq_true rfl, Nat.le_of_ble_eq_true rfl⟩ (Nat.le_of_ble_eq_true rfl) dX11_aFault_59 (fun v8 M9 =>
 (x_if_eq g 90 dX11_aFault_62 rfl
 (fun _ => (x_iconst g dX11_aFault_90 kI_0
 (x_iret g hr rfl rfl dX11_aFault_91)))
 (fun _ => (x_aload_n g 1 dX11_aFault_65 rfl rfl
 (x_ldcS2 g dX11_aFault_66
 (x_bipush g dX11_aFault_68 kB_11
 (x_callVi (As := [.ref 1002, .int (11 : Int32)]) g mv_X11_wantWord mi_X11_wantWord lk_RX11_218 ht (fun b Mh_ hb => kX11_wantWord φ t 1002 (11 : Int32) M9 ht (Or.inr rfl) _ _ hb) rfl rfl hR ⟨Nat.le_of_ble_eq_true rfl, Nat.le_of_ble_eq_true rfl⟩ (Nat.le_of_ble_eq_true rfl) dX11_aFault_70 (fun v10 M11 =>
 (x_if_eq g 90 dX11_aFault_73 rfl
 (fun _ => (x_iconst g dX11_aFault_90 kI_0
 (x_iret g hr rfl rfl dX11_aFault_91)))
 (fun _ => (x_aload_n g 1 dX11_aFault_76 rfl rfl
 (x_iload_n g 0 dX11_aFault_77 rfl rfl
 (x_iconst g dX11_aFault_78 kI_2
 (x_iadd g dX11_aFault_79
 (x_iconst g dX11_aFault_80 kI_0
 (x_sipush g dX11_aFault_81 kS_999
 (x_callVi (As := [.int (v1 + (2 : Int32)), .int (0 : Int32), .int (999 : Int32)]) g mv_X11_number mi_X11_number lk_RX11_212 ht (fun b Mh_ hb => kX11_number φ t (v1 + (2 : Int32)) (0 : Int32) (999 : Int32) M11 ht _ _ hb) rfl rfl hR ⟨Nat.le_of_ble_eq_true rfl, Nat.le_of_ble_eq_true rfl⟩ (Nat.le_of_ble_eq_true rfl) dX11_aFault_84 (fun v12 M13 =>
 (x_if_ne g 92 dX11_aFault_87 rfl
 (fun _ => (x_aload_n g 1 dX11_aFault_92 rfl rfl
 (x_getI g fl_RX11_148 rfl ht dX11_aFault_93
 (x_iconst g dX11_aFault_96 kI_3
 (x_jn (fun (J14 : Option (Int32 × Mem)) => X J (fun q : Int32 × Mem => (some (Value.int q.1), q.2)) J14 148 [(0, .ref t), (1, .int v1)] [] M13) (x_aload_n g 0 dX11_aFault_148 rfl rfl
 (x_iload_n g 1 dX11_aFault_149 rfl rfl
 (x_iconst g dX11_aFault_150 kI_3
 (x_iadd g dX11_aFault_151
 (x_iconst g dX11_aFault_152 kI_0
 (x_sipush g dX11_aFault_153 kS_999
 (x_callVi (As := [.int (v1 + (3 : Int32)), .int (0 : Int32), .int (999 : Int32)]) g mv_X11_number mi_X11_number lk_RX11_212 ht (fun b Mh_ hb => kX11_number φ t (v1 + (3 : Int32)) (0 : Int32) (999 : Int32) M13 ht _ _ hb) rfl rfl hR ⟨Nat.le_of_ble_eq_true rfl, Nat.le_of_ble_eq_true rfl⟩ (Nat.le_of_ble_eq_true rfl) dX11_aFault_156 (fun v15 M16 =>
 (x_if_eq g 187 dX11_aFault_159 rfl
 (fun _ => (x_iconst g dX11_aFault_187 kI_0
 (x_iret g hr rfl rfl dX11_aFault_188)))
 (fun _ => (x_aload_n g 0 dX11_aFault_162 rfl rfl
 (x_ldcS2 g dX11_aFault_163
 (x_bipush g dX11_aFault_165 kB_12
 (x_callVi (As := [.ref 1002, .int (12 : Int32)]) g mv_X11_wantWord mi_X11_wantWord lk_RX11_218 ht (fun b Mh_ hb => kX11_wantWord φ t 1002 (12 : Int32) M16 ht (Or.inr rfl) _ _ hb) rfl rfl hR ⟨Nat.le_of_ble_eq_true rfl, Nat.le_of_ble_eq_true rfl⟩ (Nat.le_of_ble_eq_true rfl) dX11_aFault_167 (fun v17 M18 =>
 (x_if_eq g 187 dX11_aFault_170 rfl
 (fun _ => (x_iconst g dX11_aFault_187 kI_0
 (x_iret g hr rfl rfl dX11_aFault_188)))
 (fun _ => (x_aload_n g 0 dX11_aFault_173 rfl rfl
 (x_iload_n g 1 dX11_aFault_174 rfl rfl
 (x_iconst g dX11_aFault_175 kI_4
 (x_iadd g dX11_aFault_176
 (x_iconst g dX11_aFault_177 kI_0
 (x_sipush g dX11_aFault_178 kS_999
 (x_callVi (As := [.int (v1 + (4 : Int32)), .int (0 : Int32), .int (999 : Int32)]) g mv_X11_number mi_X11_number lk_RX11_212 ht (fun b Mh_ hb => kX11_number φ t (v1 + (4 : Int32)) (0 : Int32) (999 : Int32) M18 ht _ _ hb) rfl rfl hR ⟨Nat.le_of_ble_eq_true rfl, Nat.le_of_ble_eq_true rfl⟩ (Nat.le_of_ble_eq_true rfl) dX11_aFault_181 (fun v19 M20 =>
 (x_if_ne g 189 dX11_aFault_184 rfl
 (fun _ => (x_aload_n g 0 dX11_aFault_189 rfl rfl
 (x_getS g 1 fl_RX11_7 rfl ht dX11_aFault_190
 (x_sipush g dX11_aFault_193 kS_2603
 (x_dup2 g dX11_aFault_196 rfl rfl
 (x_iald g (so_11_0 ht) dX11_aFault_197
 (x_iconst g dX11_aFault_198 kI_1
 (x_iadd g dX11_aFault_199
 (x_iast g (so_11_0 ht) dX11_aFault_200 (x_nmM (fun M21 =>
 (x_iconst g dX11_aFault_201 kI_1
 (x_iret g hr rfl rfl dX11_aFault_202)))))))))))))
 (fun _ => (x_iconst g dX11_aFault_187 kI_0
 (x_iret g hr rfl rfl dX11_aFault_188))))))))))))))))))))))))))))) (fun J14 hJ14 => (x_icmp_ne g 148 dX11_aFault_97 rfl
 (fun _ => (x_sub [1, 0] rfl (hJ14)))
 (fun _ => (x_aload_n g 1 dX11_aFault_100 rfl rfl
 (x_getI g fl_RX11_145 rfl ht dX11_aFault_101
 (x_sipush g dX11_aFault_104 kS_999
 (x_icmp_gt g 148 dX11_aFault_107 rfl
 (fun _ => (x_sub [1, 0] rfl (hJ14)))
 (fun _ => (x_aload_n g 1 dX11_aFault_110 rfl rfl
 (x_getS g 1 fl_RX11_7 rfl ht dX11_aFault_111
 (x_iload_n g 0 dX11_aFault_114 rfl rfl
 (x_iald g (so_11_0 ht) dX11_aFault_115
 (x_aload_n g 1 dX11_aFault_116 rfl rfl
 (x_getS g 1 fl_RX11_7 rfl ht dX11_aFault_117
 (x_iload_n g 0 dX11_aFault_120 rfl rfl
 (x_iconst g dX11_aFault_121 kI_2
 (x_iadd g dX11_aFault_122
 (x_iald g (so_11_0 ht) dX11_aFault_123
 (x_icmp_ne g 148 dX11_aFault_124 rfl
 (fun _ => (x_sub [1, 0] rfl (hJ14)))
 (fun _ => (x_aload_n g 1 dX11_aFault_127 rfl rfl
 (x_getS g 1 fl_RX11_7 rfl ht dX11_aFault_128
 (x_iload_n g 0 dX11_aFault_131 rfl rfl
 (x_iconst g dX11_aFault_132 kI_1
 (x_iadd g dX11_aFault_133
 (x_iald g (so_11_0 ht) dX11_aFault_134
 (x_aload_n g 1 dX11_aFault_135 rfl rfl
 (x_getI g fl_RX11_145 rfl ht dX11_aFault_136
 (x_icmp_ne g 148 dX11_aFault_139 rfl
 (fun _ => (x_sub [1, 0] rfl (hJ14)))
 (fun _ => (x_aload_n g 1 dX11_aFault_142 rfl rfl
 (x_iconst g dX11_aFault_143 kI_5
 (x_callVi (As := [.int (5 : Int32)]) g mv_X11_fails mi_X11_fails lk_RX11_185 ht (fun b Mh_ hb => kX11_fails t (5 : Int32) M13 ht _ _ hb) rfl rfl hR ⟨Nat.le_of_ble_eq_true rfl, Nat.le_of_ble_eq_true rfl⟩ (Nat.le_of_ble_eq_true rfl) dX11_aFault_144 (fun v22 M23 =>
 (x_ck (fun hq24 => x_iret g hr (nbz hq24) rfl dX11_aFault_147)))))))))))))))))))))))))))))))))))))))))
 (fun _ => (x_iconst g dX11_aFault_90 kI_0
 (x_iret g hr rfl rfl dX11_aFault_91)))))))))))))))))))))))))))))))))))))))))))))
 (fun _ => (x_iconst g dX11_aFault_26 kI_0
 (x_iret g hr rfl rfl dX11_aFault_27)))))))))))))))))))))
def fX11_isSign (t : Nat) (a1 : Int32) (M : Mem) : Option Int32 :=
  if (M.1 t 12) = (4 : Int32) then
 if (M.1 t 15) = a1 then
 some (1 : Int32)
 else
 some (0 : Int32)
 else
 some (0 : Int32)
set_option maxRecDepth 100000 in
set_option maxHeartbeats 4000000 in
theorem kX11_isSign (t : Nat) (a1 : Int32) (M : Mem) (ht : isO 11 t) (l : Launch) (G : GT) {b : Int32} (hE : fX11_isSign t a1 M = some b) : Ok l G yX11_isSign cX11_isSign 2 (some .boolean) 0 0 [.ref t, .int a1] M ((fun b : Int32 => (some (Value.int b), M)) b).1 ((fun b : Int32 => (some (Value.int b), M)) b).2 := by
  refine Ok.ofX (pj := (fun b : Int32 => (some (Value.int b), M))) (by decide) (Nat.le_of_ble_eq_true rfl) hE (fun J g hr hG hl hR hn => ?_)
  show X J (fun b : Int32 => (some (Value.int b), M)) (fX11_isSign t a1 M) 0 [(0, .ref t), (1, .int a1)] [] M
  unfold fX11_isSign
  exact (x_aload_n g 0 dX11_isSign_0 rfl rfl
 (x_getI g fl_RX11_148 rfl ht dX11_isSign_1
 (x_iconst g dX11_isSign_4 kI_4
 (x_icmp_ne g 20 dX11_isSign_5 rfl
 (fun _ => (x_iconst g dX11_isSign_20 kI_0
 (x_iret g hr rfl rfl dX11_isSign_21)))
 (fun _ => (x_aload_n g 0 dX11_isSign_8 rfl rfl
 (x_getI g fl_RX11_145 rfl ht dX11_isSign_9
 (x_iload_n g 1 dX11_isSign_12 rfl rfl
 (x_icmp_ne g 20 dX11_isSign_13 rfl
 (fun _ => (x_iconst g dX11_isSign_20 kI_0
 (x_iret g hr rfl rfl dX11_isSign_21)))
 (fun _ => (x_iconst g dX11_isSign_16 kI_1
 (x_goto g 21 dX11_isSign_17 rfl
 (x_iret g hr rfl rfl dX11_isSign_21)))))))))))))
def fX11_wantSign (φ : Nat) (t : Nat) (a1 : Int32) (M : Mem) : Option (Int32 × Mem) :=
  (fX11_isSign t a1 M).bind fun v1 =>
 if v1 = 0 then
 bd (fX11_fails t (2 : Int32) M) fun v4 M5 =>
 if v4 = 0 ∨ v4 = 1 then some (v4, M5) else none
 else
 bd (fX11_ahead φ t M) fun vu2 M3 =>
 some ((1 : Int32), M3)
set_option maxRecDepth 100000 in
set_option maxHeartbeats 4000000 in
theorem kX11_wantSign (φ : Nat) (t : Nat) (a1 : Int32) (M : Mem) (ht : isO 11 t) (l : Launch) (G : GT) {b : (Int32 × Mem)} (hE : fX11_wantSign φ t a1 M = some b) : Ok l G yX11_wantSign cX11_wantSign 2 (some .boolean) 2 51 [.ref t, .int a1] M ((fun q : Int32 × Mem => (some (Value.int q.1), q.2)) b).1 ((fun q : Int32 × Mem => (some (Value.int q.1), q.2)) b).2 := by
  refine Ok.ofX (pj := (fun q : Int32 × Mem => (some (Value.int q.1), q.2))) (by decide) (Nat.le_of_ble_eq_true rfl) hE (fun J g hr hG hl hR hn => ?_)
  show X J (fun q : Int32 × Mem => (some (Value.int q.1), q.2)) (fX11_wantSign φ t a1 M) 0 [(0, .ref t), (1, .int a1)] [] M
  unfold fX11_wantSign
  exact (x_aload_n g 0 dX11_wantSign_0 rfl rfl
 (x_iload_n g 1 dX11_wantSign_1 rfl rfl
 (x_callVip (As := [.int a1]) g mv_X11_isSign mi_X11_isSign lk_RX11_182 ht (fun b hb => kX11_isSign t a1 M ht _ _ hb) rfl rfl hR ⟨Nat.le_of_ble_eq_true rfl, Nat.le_of_ble_eq_true rfl⟩ (Nat.le_of_ble_eq_true rfl) dX11_wantSign_2 (fun v1 =>
 (x_if_ne g 14 dX11_wantSign_5 rfl
 (fun _ => (x_aload_n g 0 dX11_wantSign_14 rfl rfl
 (x_callVv (As := []) g mv_X11_ahead mi_X11_ahead lk_RX11_179 ht (fun b Mh_ hb => kX11_ahead φ t M ht _ _ hb) rfl rfl hR ⟨Nat.le_of_ble_eq_true rfl, Nat.le_of_ble_eq_true rfl⟩ (Nat.le_of_ble_eq_true rfl) dX11_wantSign_15 (fun vu2 M3 =>
 (x_iconst g dX11_wantSign_18 kI_1
 (x_iret g hr rfl rfl dX11_wantSign_19))))))
 (fun _ => (x_aload_n g 0 dX11_wantSign_8 rfl rfl
 (x_iconst g dX11_wantSign_9 kI_2
 (x_callVi (As := [.int (2 : Int32)]) g mv_X11_fails mi_X11_fails lk_RX11_185 ht (fun b Mh_ hb => kX11_fails t (2 : Int32) M ht _ _ hb) rfl rfl hR ⟨Nat.le_of_ble_eq_true rfl, Nat.le_of_ble_eq_true rfl⟩ (Nat.le_of_ble_eq_true rfl) dX11_wantSign_10 (fun v4 M5 =>
 (x_ck (fun hq6 => x_iret g hr (nbz hq6) rfl dX11_wantSign_13))))))))))))
def fX11_fieldPart (φ : Nat) (t : Nat) (M : Mem) : Option (Int32 × Mem) :=
  (fX11_inWords φ t 1002 M).bind fun v1 =>
 jn (fun (v2 : Int32) (M3 : Mem) => if v2 = 0 then
 some ((0 : Int32), M3)
 else
 bd (fX11_wantSign φ t (59 : Int32) M3) fun v5 M6 =>
 if v5 = 0 then
 some ((0 : Int32), M6)
 else
 some ((1 : Int32), M6)) (fun J4 => if v1 = 0 then
 bd (fX11_aRock φ t M) fun v27 M28 =>
 J4 v27 M28
 else
 if v1 = 1 then
 bd (fX11_unlikes φ t M) fun v24 M25 =>
 J4 v24 M25
 else
 if v1 = 2 then
 bd (fX11_aHole φ t M) fun v21 M22 =>
 J4 v21 M22
 else
 if v1 = 3 then
 bd (fX11_aTriangle φ t M) fun v18 M19 =>
 J4 v18 M19
 else
 if v1 = 4 then
 bd (fX11_aFault φ t M) fun v15 M16 =>
 J4 v15 M16
 else
 bd (fX11_fails t (2 : Int32) M) fun v7 M8 =>
 if v7 = 0 ∨ v7 = 1 then some (v7, M8) else none)
set_option maxRecDepth 100000 in
set_option maxHeartbeats 4000000 in
theorem kX11_fieldPart (φ : Nat) (t : Nat) (M : Mem) (ht : isO 11 t) (l : Launch) (G : GT) {b : (Int32 × Mem)} (hE : fX11_fieldPart φ t M = some b) : Ok l G yX11_fieldPart cX11_fieldPart 2 (some .boolean) 8 213 [.ref t] M ((fun q : Int32 × Mem => (some (Value.int q.1), q.2)) b).1 ((fun q : Int32 × Mem => (some (Value.int q.1), q.2)) b).2 := by
  refine Ok.ofX (pj := (fun q : Int32 × Mem => (some (Value.int q.1), q.2))) (by decide) (Nat.le_of_ble_eq_true rfl) hE (fun J g hr hG hl hR hn => ?_)
  show X J (fun q : Int32 × Mem => (some (Value.int q.1), q.2)) (fX11_fieldPart φ t M) 0 [(0, .ref t)] [] M
  unfold fX11_fieldPart
  exact (x_aload_n g 0 dX11_fieldPart_0 rfl rfl
 (x_ldcS2 g dX11_fieldPart_1
 (x_callVip (As := [.ref 1002]) g mv_X11_inWords mi_X11_inWords lk_RX11_188 ht (fun b hb => kX11_inWords φ t 1002 M ht (Or.inr rfl) _ _ hb) rfl rfl hR ⟨Nat.le_of_ble_eq_true rfl, Nat.le_of_ble_eq_true rfl⟩ (Nat.le_of_ble_eq_true rfl) dX11_fieldPart_3 (fun v1 =>
 (x_jn (fun (J4 : Int32 → Mem → Option (Int32 × Mem)) => ∀ (v2 : Int32) (M3 : Mem), X J (fun q : Int32 × Mem => (some (Value.int q.1), q.2)) (J4 v2 M3) 86 [(0, .ref t), (1, .int v2)] [] M3) (fun v2 M3 => (x_iload_n g 1 dX11_fieldPart_86 rfl rfl
 (x_if_eq g 103 dX11_fieldPart_87 rfl
 (fun _ => (x_iconst g dX11_fieldPart_103 kI_0
 (x_iret g hr rfl rfl dX11_fieldPart_104)))
 (fun _ => (x_aload_n g 0 dX11_fieldPart_90 rfl rfl
 (x_bipush g dX11_fieldPart_91 kB_59
 (x_callVi (As := [.int (59 : Int32)]) g mv_X11_wantSign mi_X11_wantSign lk_RX11_246 ht (fun b Mh_ hb => kX11_wantSign φ t (59 : Int32) M3 ht _ _ hb) rfl rfl hR ⟨Nat.le_of_ble_eq_true rfl, Nat.le_of_ble_eq_true rfl⟩ (Nat.le_of_ble_eq_true rfl) dX11_fieldPart_93 (fun v5 M6 =>
 (x_if_eq g 103 dX11_fieldPart_96 rfl
 (fun _ => (x_iconst g dX11_fieldPart_103 kI_0
 (x_iret g hr rfl rfl dX11_fieldPart_104)))
 (fun _ => (x_iconst g dX11_fieldPart_99 kI_1
 (x_goto g 104 dX11_fieldPart_100 rfl
 (x_iret g hr rfl rfl dX11_fieldPart_104))))))))))))) (fun J4 hJ4 => (x_if (fun he29 => x_tabIn (off := 34) g (0 : Int32) 40 dX11_fieldPart_6 he29 (by decide) rfl rfl
 (x_aload_n g 0 dX11_fieldPart_40 rfl rfl
 (x_callVi (As := []) g mv_X11_aRock mi_X11_aRock lk_RX11_230 ht (fun b Mh_ hb => kX11_aRock φ t M ht _ _ hb) rfl rfl hR ⟨Nat.le_of_ble_eq_true rfl, Nat.le_of_ble_eq_true rfl⟩ (Nat.le_of_ble_eq_true rfl) dX11_fieldPart_41 (fun v27 M28 =>
 (x_istore_n (L' := [(1, .int v27), (0, .ref t)]) g dX11_fieldPart_44 rfl hn (Nat.le_of_ble_eq_true rfl) rfl
 (x_goto g 86 dX11_fieldPart_45 rfl
 (x_sub [1, 0] rfl (hJ4 v27 M28)))))))) (fun hq10 => (x_if (fun he26 => x_tabIn (off := 42) g (1 : Int32) 48 dX11_fieldPart_6 he26 (by decide) rfl rfl
 (x_aload_n g 0 dX11_fieldPart_48 rfl rfl
 (x_callVi (As := []) g mv_X11_unlikes mi_X11_unlikes lk_RX11_234 ht (fun b Mh_ hb => kX11_unlikes φ t M ht _ _ hb) rfl rfl hR ⟨Nat.le_of_ble_eq_true rfl, Nat.le_of_ble_eq_true rfl⟩ (Nat.le_of_ble_eq_true rfl) dX11_fieldPart_49 (fun v24 M25 =>
 (x_istore_n (L' := [(1, .int v24), (0, .ref t)]) g dX11_fieldPart_52 rfl hn (Nat.le_of_ble_eq_true rfl) rfl
 (x_goto g 86 dX11_fieldPart_53 rfl
 (x_sub [1, 0] rfl (hJ4 v24 M25)))))))) (fun hq11 => (x_if (fun he23 => x_tabIn (off := 50) g (2 : Int32) 56 dX11_fieldPart_6 he23 (by decide) rfl rfl
 (x_aload_n g 0 dX11_fieldPart_56 rfl rfl
 (x_callVi (As := []) g mv_X11_aHole mi_X11_aHole lk_RX11_237 ht (fun b Mh_ hb => kX11_aHole φ t M ht _ _ hb) rfl rfl hR ⟨Nat.le_of_ble_eq_true rfl, Nat.le_of_ble_eq_true rfl⟩ (Nat.le_of_ble_eq_true rfl) dX11_fieldPart_57 (fun v21 M22 =>
 (x_istore_n (L' := [(1, .int v21), (0, .ref t)]) g dX11_fieldPart_60 rfl hn (Nat.le_of_ble_eq_true rfl) rfl
 (x_goto g 86 dX11_fieldPart_61 rfl
 (x_sub [1, 0] rfl (hJ4 v21 M22)))))))) (fun hq12 => (x_if (fun he20 => x_tabIn (off := 58) g (3 : Int32) 64 dX11_fieldPart_6 he20 (by decide) rfl rfl
 (x_aload_n g 0 dX11_fieldPart_64 rfl rfl
 (x_callVi (As := []) g mv_X11_aTriangle mi_X11_aTriangle lk_RX11_240 ht (fun b Mh_ hb => kX11_aTriangle φ t M ht _ _ hb) rfl rfl hR ⟨Nat.le_of_ble_eq_true rfl, Nat.le_of_ble_eq_true rfl⟩ (Nat.le_of_ble_eq_true rfl) dX11_fieldPart_65 (fun v18 M19 =>
 (x_istore_n (L' := [(1, .int v18), (0, .ref t)]) g dX11_fieldPart_68 rfl hn (Nat.le_of_ble_eq_true rfl) rfl
 (x_goto g 86 dX11_fieldPart_69 rfl
 (x_sub [1, 0] rfl (hJ4 v18 M19)))))))) (fun hq13 => (x_if (fun he17 => x_tabIn (off := 66) g (4 : Int32) 72 dX11_fieldPart_6 he17 (by decide) rfl rfl
 (x_aload_n g 0 dX11_fieldPart_72 rfl rfl
 (x_callVi (As := []) g mv_X11_aFault mi_X11_aFault lk_RX11_243 ht (fun b Mh_ hb => kX11_aFault φ t M ht _ _ hb) rfl rfl hR ⟨Nat.le_of_ble_eq_true rfl, Nat.le_of_ble_eq_true rfl⟩ (Nat.le_of_ble_eq_true rfl) dX11_fieldPart_73 (fun v15 M16 =>
 (x_istore_n (L' := [(1, .int v15), (0, .ref t)]) g dX11_fieldPart_76 rfl hn (Nat.le_of_ble_eq_true rfl) rfl
 (x_goto g 86 dX11_fieldPart_77 rfl
 (x_sub [1, 0] rfl (hJ4 v15 M16)))))))) (fun hq14 => (x_tabOut g 80 dX11_fieldPart_6 (by have a0 := tab_ne hq10 (by decide : (0 : Int32).toInt = 0); have a1 := tab_ne hq11 (by decide : (1 : Int32).toInt = 1); have a2 := tab_ne hq12 (by decide : (2 : Int32).toInt = 2); have a3 := tab_ne hq13 (by decide : (3 : Int32).toInt = 3); have a4 := tab_ne hq14 (by decide : (4 : Int32).toInt = 4); omega) rfl
 (x_aload_n g 0 dX11_fieldPart_80 rfl rfl
 (x_iconst g dX11_fieldPart_81 kI_2
 (x_callVi (As := [.int (2 : Int32)]) g mv_X11_fails mi_X11_fails lk_RX11_185 ht (fun b Mh_ hb => kX11_fails t (2 : Int32) M ht _ _ hb) rfl rfl hR ⟨Nat.le_of_ble_eq_true rfl, Nat.le_of_ble_eq_true rfl⟩ (Nat.le_of_ble_eq_true rfl) dX11_fieldPart_82 (fun v7 M8 =>
 (x_ck (fun hq9 => x_iret g hr (nbz hq9) rfl dX11_fieldPart_85)))))))))))))))))))))))
def fX11_gives (t : Nat) (a1 : Int32) (M : Mem) : Option (Int32 × Mem) :=
  nm (stI M t 2 (0 : Int32)) (fun M1 =>
 some (a1, M1))
set_option maxRecDepth 100000 in
set_option maxHeartbeats 4000000 in
theorem kX11_gives (t : Nat) (a1 : Int32) (M : Mem) (ht : isO 11 t) (l : Launch) (G : GT) {b : (Int32 × Mem)} (hE : fX11_gives t a1 M = some b) : Ok l G yX11_gives cX11_gives 2 (some .int) 0 0 [.ref t, .int a1] M ((fun q : Int32 × Mem => (some (Value.int q.1), q.2)) b).1 ((fun q : Int32 × Mem => (some (Value.int q.1), q.2)) b).2 := by
  refine Ok.ofX (pj := (fun q : Int32 × Mem => (some (Value.int q.1), q.2))) (by decide) (Nat.le_of_ble_eq_true rfl) hE (fun J g hr hG hl hR hn => ?_)
  show X J (fun q : Int32 × Mem => (some (Value.int q.1), q.2)) (fX11_gives t a1 M) 0 [(0, .ref t), (1, .int a1)] [] M
  unfold fX11_gives
  exact (x_aload_n g 0 dX11_gives_0 rfl rfl
 (x_iconst g dX11_gives_1 kI_0
 (x_putI g fp_RX11_96 rfl (Nat.le_of_ble_eq_true rfl) ht dX11_gives_2 (x_nmM (fun M1 =>
 (x_iload_n g 1 dX11_gives_5 rfl rfl
 (x_iret g hr rfl rfl dX11_gives_6)))))))
def fX11_taken (t : Nat) (a1 : Int32) (M : Mem) : Option (Int32 × Mem) :=
  nm (stI M t 16 (M.1 t 18)) (fun M1 =>
 if (M1.1 t 18) ≤ 0 then
 bd (fX11_gives t a1 M1) fun v2 M3 =>
 some (v2, M3)
 else
 bd (fX11_refuse t (9 : Int32) M1) fun v4 M5 =>
 some (v4, M5))
set_option maxRecDepth 100000 in
set_option maxHeartbeats 4000000 in
theorem kX11_taken (t : Nat) (a1 : Int32) (M : Mem) (ht : isO 11 t) (l : Launch) (G : GT) {b : (Int32 × Mem)} (hE : fX11_taken t a1 M = some b) : Ok l G yX11_taken cX11_taken 2 (some .int) 1 21 [.ref t, .int a1] M ((fun q : Int32 × Mem => (some (Value.int q.1), q.2)) b).1 ((fun q : Int32 × Mem => (some (Value.int q.1), q.2)) b).2 := by
  refine Ok.ofX (pj := (fun q : Int32 × Mem => (some (Value.int q.1), q.2))) (by decide) (Nat.le_of_ble_eq_true rfl) hE (fun J g hr hG hl hR hn => ?_)
  show X J (fun q : Int32 × Mem => (some (Value.int q.1), q.2)) (fX11_taken t a1 M) 0 [(0, .ref t), (1, .int a1)] [] M
  unfold fX11_taken
  exact (x_aload_n g 0 dX11_taken_0 rfl rfl
 (x_aload_n g 0 dX11_taken_1 rfl rfl
 (x_getI g fl_RX11_173 rfl ht dX11_taken_2
 (x_putI g fp_RX11_37 rfl (Nat.le_of_ble_eq_true rfl) ht dX11_taken_5 (x_nmM (fun M1 =>
 (x_aload_n g 0 dX11_taken_8 rfl rfl
 (x_getI g fl_RX11_173 rfl ht dX11_taken_9
 (x_if_le g 24 dX11_taken_12 rfl
 (fun _ => (x_aload_n g 0 dX11_taken_24 rfl rfl
 (x_iload_n g 1 dX11_taken_25 rfl rfl
 (x_callVi (As := [.int a1]) g mv_X11_gives mi_X11_gives lk_RX11_106 ht (fun b Mh_ hb => kX11_gives t a1 M1 ht _ _ hb) rfl rfl hR ⟨Nat.le_of_ble_eq_true rfl, Nat.le_of_ble_eq_true rfl⟩ (Nat.le_of_ble_eq_true rfl) dX11_taken_26 (fun v2 M3 =>
 (x_iret g hr rfl rfl dX11_taken_29))))))
 (fun _ => (x_aload_n g 0 dX11_taken_15 rfl rfl
 (x_bipush g dX11_taken_16 kB_9
 (x_callVi (As := [.int (9 : Int32)]) g mv_X11_refuse mi_X11_refuse lk_RX11_102 ht (fun b Mh_ hb => kX11_refuse t (9 : Int32) M1 ht _ _ hb) rfl rfl hR ⟨Nat.le_of_ble_eq_true rfl, Nat.le_of_ble_eq_true rfl⟩ (Nat.le_of_ble_eq_true rfl) dX11_taken_18 (fun v4 M5 =>
 (x_goto g 29 dX11_taken_21 rfl
 (x_iret g hr rfl rfl dX11_taken_29))))))))))))))))
def lX11_field_19 (K43 : Mem → Option (Int32 × Mem)) (t : Nat) : Nat → Int32 → Mem → Option (Int32 × Mem)
  | 0, _, _ => none
  | n + 1, x2, M =>
    if (650 : Int32) ≤ x2 then
 K43 M
 else
 ixk ((2600 : Int32) + x2) 3900 (nm (stI M (t + 1) ((2600 : Int32) + x2).toNatClampNeg (0 : Int32)) (fun M3 =>
 lX11_field_19 K43 t n (x2 + 1) M3))
theorem lX11_field_19_s (K43 : Mem → Option (Int32 × Mem)) (t : Nat) (n : Nat) (x2 : Int32) (M : Mem) : lX11_field_19 K43 t (n + 1) x2 M =
    if (650 : Int32) ≤ x2 then
 K43 M
 else
 ixk ((2600 : Int32) + x2) 3900 (nm (stI M (t + 1) ((2600 : Int32) + x2).toNatClampNeg (0 : Int32)) (fun M3 =>
 lX11_field_19 K43 t n (x2 + 1) M3)) := rfl
theorem lX11_field_19_0 (K43 : Mem → Option (Int32 × Mem)) (t : Nat) (x2 : Int32) (M : Mem) : lX11_field_19 K43 t 0 x2 M = none := rfl
set_option maxRecDepth 100000 in
set_option maxHeartbeats 4000000 in
theorem wlX11_field_19 {J : JT} (g : Gd J cX11_field RX11) (hr : Rt J (some .int)) (hR : (JR J).frames = 9 ∧ (JR J).locals = 234) (hn : Jn J = 4) (K43 : Mem → Option (Int32 × Mem)) (t : Nat) (ht : isO 11 t) (hK43 : ∀ (M : Mem), X J (fun q : Int32 × Mem => (some (Value.int q.1), q.2)) (K43 M) 43 [(0, .ref t)] [] M) : ∀ (n : Nat) (x2 : Int32) (M : Mem), X J (fun q : Int32 × Mem => (some (Value.int q.1), q.2)) (lX11_field_19 K43 t n x2 M) 19 [(0, .ref t), (2, .int x2)] [] M := by
  intro n
  induction n with
  | zero =>
    intro x2 M
    exact x_none
  | succ n ih =>
    intro x2 M
    rw [lX11_field_19_s]
    exact (x_iload_n g 1 dX11_field_19 rfl rfl
 (x_sipush g dX11_field_20 kS_650
 (x_icmp_ge g 43 dX11_field_23 rfl
 (fun _ => (x_sub [0] rfl (hK43 M)))
 (fun _ => (x_aload_n g 0 dX11_field_26 rfl rfl
 (x_getS g 1 fl_RX11_7 rfl ht dX11_field_27
 (x_sipush g dX11_field_30 kS_2600
 (x_iload_n g 1 dX11_field_33 rfl rfl
 (x_iadd g dX11_field_34
 (x_iconst g dX11_field_35 kI_0
 (x_iast g (so_11_0 ht) dX11_field_36 (x_nmM (fun M3 =>
 (x_iinc (L' := [(2, .int (x2 + 1)), (0, .ref t)]) (v := (x2 + 1)) g 1 dX11_field_37 rfl (by rw [kI_1]) hn (Nat.le_of_ble_eq_true rfl) rfl
 (x_goto g 19 dX11_field_40 rfl
 (x_sub [1, 0] rfl (ih (x2 + 1) M3)))))))))))))))))
def lX11_field_54 (K73 : Mem → Option (Int32 × Mem)) (φ : Nat) (t : Nat) : Nat → Int32 → Mem → Option (Int32 × Mem)
  | 0, _, _ => none
  | n + 1, x2, M =>
    if x2 = 0 then
 K73 M
 else
 if (M.1 t 12) = 0 then
 K73 M
 else
 bd (fX11_fieldPart φ t M) fun v6 M7 =>
 lX11_field_54 K73 φ t n v6 M7
theorem lX11_field_54_s (K73 : Mem → Option (Int32 × Mem)) (φ : Nat) (t : Nat) (n : Nat) (x2 : Int32) (M : Mem) : lX11_field_54 K73 φ t (n + 1) x2 M =
    if x2 = 0 then
 K73 M
 else
 if (M.1 t 12) = 0 then
 K73 M
 else
 bd (fX11_fieldPart φ t M) fun v6 M7 =>
 lX11_field_54 K73 φ t n v6 M7 := rfl
theorem lX11_field_54_0 (K73 : Mem → Option (Int32 × Mem)) (φ : Nat) (t : Nat) (x2 : Int32) (M : Mem) : lX11_field_54 K73 φ t 0 x2 M = none := rfl
set_option maxRecDepth 100000 in
set_option maxHeartbeats 4000000 in
theorem wlX11_field_54 {J : JT} (g : Gd J cX11_field RX11) (hr : Rt J (some .int)) (hR : (JR J).frames = 9 ∧ (JR J).locals = 234) (hn : Jn J = 4) (K73 : Mem → Option (Int32 × Mem)) (φ : Nat) (t : Nat) (ht : isO 11 t) (hK73 : ∀ (M : Mem), X J (fun q : Int32 × Mem => (some (Value.int q.1), q.2)) (K73 M) 73 [(0, .ref t)] [] M) : ∀ (n : Nat) (x2 : Int32) (M : Mem), X J (fun q : Int32 × Mem => (some (Value.int q.1), q.2)) (lX11_field_54 K73 φ t n x2 M) 54 [(0, .ref t), (2, .int x2)] [] M := by
  intro n
  induction n with
  | zero =>
    intro x2 M
    exact x_none
  | succ n ih =>
    intro x2 M
    rw [lX11_field_54_s]
    exact (x_iload_n g 1 dX11_field_54 rfl rfl
 (x_if_eq g 73 dX11_field_55 rfl
 (fun _ => (x_sub [0] rfl (hK73 M)))
 (fun _ => (x_aload_n g 0 dX11_field_58 rfl rfl
 (x_getI g fl_RX11_148 rfl ht dX11_field_59
 (x_if_eq g 73 dX11_field_62 rfl
 (fun _ => (x_sub [0] rfl (hK73 M)))
 (fun _ => (x_aload_n g 0 dX11_field_65 rfl rfl
 (x_callVi (As := []) g mv_X11_fieldPart mi_X11_fieldPart lk_RX11_253 ht (fun b Mh_ hb => kX11_fieldPart φ t M ht _ _ hb) rfl rfl hR ⟨Nat.le_of_ble_eq_true rfl, Nat.le_of_ble_eq_true rfl⟩ (Nat.le_of_ble_eq_true rfl) dX11_field_66 (fun v6 M7 =>
 (x_istore_n (L' := [(2, .int v6), (0, .ref t)]) g dX11_field_69 rfl hn (Nat.le_of_ble_eq_true rfl) rfl
 (x_goto g 54 dX11_field_70 rfl
 (x_sub [1, 0] rfl (ih v6 M7))))))))))))))
def lX11_field_82 (K111 : Mem → Option (Int32 × Mem)) (t : Nat) : Nat → Int32 → Mem → Option (Int32 × Mem)
  | 0, _, _ => none
  | n + 1, x3, M =>
    if (650 : Int32) ≤ x3 then
 K111 M
 else
 ixk ((2600 : Int32) + x3) 3900 (
 ixk x3 3900 (nm (stI M (t + 1) x3.toNatClampNeg (M.1 (t + 1) ((2600 : Int32) + x3).toNatClampNeg)) (fun M13 =>
 lX11_field_82 K111 t n (x3 + 1) M13)))
theorem lX11_field_82_s (K111 : Mem → Option (Int32 × Mem)) (t : Nat) (n : Nat) (x3 : Int32) (M : Mem) : lX11_field_82 K111 t (n + 1) x3 M =
    if (650 : Int32) ≤ x3 then
 K111 M
 else
 ixk ((2600 : Int32) + x3) 3900 (
 ixk x3 3900 (nm (stI M (t + 1) x3.toNatClampNeg (M.1 (t + 1) ((2600 : Int32) + x3).toNatClampNeg)) (fun M13 =>
 lX11_field_82 K111 t n (x3 + 1) M13))) := rfl
theorem lX11_field_82_0 (K111 : Mem → Option (Int32 × Mem)) (t : Nat) (x3 : Int32) (M : Mem) : lX11_field_82 K111 t 0 x3 M = none := rfl
set_option maxRecDepth 100000 in
set_option maxHeartbeats 4000000 in
theorem wlX11_field_82 {J : JT} (g : Gd J cX11_field RX11) (hr : Rt J (some .int)) (hR : (JR J).frames = 9 ∧ (JR J).locals = 234) (hn : Jn J = 4) (K111 : Mem → Option (Int32 × Mem)) (t : Nat) (ht : isO 11 t) (hK111 : ∀ (M : Mem), X J (fun q : Int32 × Mem => (some (Value.int q.1), q.2)) (K111 M) 111 [(0, .ref t)] [] M) : ∀ (n : Nat) (x3 : Int32) (M : Mem), X J (fun q : Int32 × Mem => (some (Value.int q.1), q.2)) (lX11_field_82 K111 t n x3 M) 82 [(0, .ref t), (3, .int x3)] [] M := by
  intro n
  induction n with
  | zero =>
    intro x3 M
    exact x_none
  | succ n ih =>
    intro x3 M
    rw [lX11_field_82_s]
    exact (x_iload_n g 1 dX11_field_82 rfl rfl
 (x_sipush g dX11_field_83 kS_650
 (x_icmp_ge g 111 dX11_field_86 rfl
 (fun _ => (x_sub [0] rfl (hK111 M)))
 (fun _ => (x_aload_n g 0 dX11_field_89 rfl rfl
 (x_getS g 1 fl_RX11_7 rfl ht dX11_field_90
 (x_iload_n g 1 dX11_field_93 rfl rfl
 (x_aload_n g 0 dX11_field_94 rfl rfl
 (x_getS g 1 fl_RX11_7 rfl ht dX11_field_95
 (x_sipush g dX11_field_98 kS_2600
 (x_iload_n g 1 dX11_field_101 rfl rfl
 (x_iadd g dX11_field_102
 (x_iald g (so_11_0 ht) dX11_field_103
 (x_iast g (so_11_0 ht) dX11_field_104 (x_nmM (fun M13 =>
 (x_iinc (L' := [(3, .int (x3 + 1)), (0, .ref t)]) (v := (x3 + 1)) g 1 dX11_field_105 rfl (by rw [kI_1]) hn (Nat.le_of_ble_eq_true rfl) rfl
 (x_goto g 82 dX11_field_108 rfl
 (x_sub [1, 0] rfl (ih (x3 + 1) M13))))))))))))))))))))
def lX11_field_113 (K140 : Mem → Option (Int32 × Mem)) (t : Nat) : Nat → Int32 → Mem → Option (Int32 × Mem)
  | 0, _, _ => none
  | n + 1, x3, M =>
    if (16 : Int32) ≤ x3 then
 K140 M
 else
 ixk ((64 : Int32) + x3) 90 (
 ixk x3 90 (nm (stL M (t + 2) x3.toNatClampNeg (M.2.1 (t + 2) ((64 : Int32) + x3).toNatClampNeg)) (fun M15 =>
 lX11_field_113 K140 t n (x3 + 1) M15)))
theorem lX11_field_113_s (K140 : Mem → Option (Int32 × Mem)) (t : Nat) (n : Nat) (x3 : Int32) (M : Mem) : lX11_field_113 K140 t (n + 1) x3 M =
    if (16 : Int32) ≤ x3 then
 K140 M
 else
 ixk ((64 : Int32) + x3) 90 (
 ixk x3 90 (nm (stL M (t + 2) x3.toNatClampNeg (M.2.1 (t + 2) ((64 : Int32) + x3).toNatClampNeg)) (fun M15 =>
 lX11_field_113 K140 t n (x3 + 1) M15))) := rfl
theorem lX11_field_113_0 (K140 : Mem → Option (Int32 × Mem)) (t : Nat) (x3 : Int32) (M : Mem) : lX11_field_113 K140 t 0 x3 M = none := rfl
set_option maxRecDepth 100000 in
set_option maxHeartbeats 4000000 in
theorem wlX11_field_113 {J : JT} (g : Gd J cX11_field RX11) (hr : Rt J (some .int)) (hR : (JR J).frames = 9 ∧ (JR J).locals = 234) (hn : Jn J = 4) (K140 : Mem → Option (Int32 × Mem)) (t : Nat) (ht : isO 11 t) (hK140 : ∀ (M : Mem), X J (fun q : Int32 × Mem => (some (Value.int q.1), q.2)) (K140 M) 140 [(0, .ref t)] [] M) : ∀ (n : Nat) (x3 : Int32) (M : Mem), X J (fun q : Int32 × Mem => (some (Value.int q.1), q.2)) (lX11_field_113 K140 t n x3 M) 113 [(0, .ref t), (3, .int x3)] [] M := by
  intro n
  induction n with
  | zero =>
    intro x3 M
    exact x_none
  | succ n ih =>
    intro x3 M
    rw [lX11_field_113_s]
    exact (x_iload_n g 1 dX11_field_113 rfl rfl
 (x_bipush g dX11_field_114 kB_16
 (x_icmp_ge g 140 dX11_field_116 rfl
 (fun _ => (x_sub [0] rfl (hK140 M)))
 (fun _ => (x_aload_n g 0 dX11_field_119 rfl rfl
 (x_getS g 2 fl_RX11_13 rfl ht dX11_field_120
 (x_iload_n g 1 dX11_field_123 rfl rfl
 (x_aload_n g 0 dX11_field_124 rfl rfl
 (x_getS g 2 fl_RX11_13 rfl ht dX11_field_125
 (x_bipush g dX11_field_128 kB_64
 (x_iload_n g 1 dX11_field_130 rfl rfl
 (x_iadd g dX11_field_131
 (x_lald g (so_11_1 ht) dX11_field_132
 (x_last g (so_11_1 ht) dX11_field_133 (x_nmM (fun M15 =>
 (x_iinc (L' := [(3, .int (x3 + 1)), (0, .ref t)]) (v := (x3 + 1)) g 1 dX11_field_134 rfl (by rw [kI_1]) hn (Nat.le_of_ble_eq_true rfl) rfl
 (x_goto g 113 dX11_field_137 rfl
 (x_sub [1, 0] rfl (ih (x3 + 1) M15))))))))))))))))))))
def fX11_field (φ : Nat) (t : Nat) (a1 : Int32) (M : Mem) : Option (Int32 × Mem) :=
  bd (fX11_begins φ t a1 (900 : Int32) M) fun v1 M2 =>
 if v1 = 0 then
 bd (fX11_refuse t (1 : Int32) M2) fun v17 M18 =>
 some (v17, M18)
 else
 lX11_field_19 (fun (M4 : Mem) => ixk (2604 : Int32) 3900 (nm (stI M4 (t + 1) (2604 : Int32).toNatClampNeg (-1 : Int32)) (fun M5 =>
 lX11_field_54 (fun (M8 : Mem) => jn (fun (M9 : Mem) => ixk (1 : Int32) 3900 (
 bd (fX11_taken t (M9.1 (t + 1) (1 : Int32).toNatClampNeg) M9) fun v11 M12 =>
 some (v11, M12))) (fun J10 => if (M8.1 t 18) = 0 then
 lX11_field_82 (fun (M14 : Mem) => lX11_field_113 (fun (M16 : Mem) => J10 M16) t φ (0 : Int32) M14) t φ (0 : Int32) M8
 else
 J10 M8)) φ t φ (1 : Int32) M5))) t φ (0 : Int32) M2
set_option maxRecDepth 100000 in
set_option maxHeartbeats 4000000 in
theorem kX11_field (φ : Nat) (t : Nat) (a1 : Int32) (M : Mem) (ht : isO 11 t) (l : Launch) (G : GT) {b : (Int32 × Mem)} (hE : fX11_field φ t a1 M = some b) : Ok l G yX11_field cX11_field 4 (some .int) 9 234 [.ref t, .int a1] M ((fun q : Int32 × Mem => (some (Value.int q.1), q.2)) b).1 ((fun q : Int32 × Mem => (some (Value.int q.1), q.2)) b).2 := by
  refine Ok.ofX (pj := (fun q : Int32 × Mem => (some (Value.int q.1), q.2))) (by decide) (Nat.le_of_ble_eq_true rfl) hE (fun J g hr hG hl hR hn => ?_)
  show X J (fun q : Int32 × Mem => (some (Value.int q.1), q.2)) (fX11_field φ t a1 M) 0 [(0, .ref t), (1, .int a1)] [] M
  unfold fX11_field
  exact (x_aload_n g 0 dX11_field_0 rfl rfl
 (x_iload_n g 1 dX11_field_1 rfl rfl
 (x_sipush g dX11_field_2 kS_900
 (x_callVi (As := [.int a1, .int (900 : Int32)]) g mv_X11_begins mi_X11_begins lk_RX11_249 ht (fun b Mh_ hb => kX11_begins φ t a1 (900 : Int32) M ht _ _ hb) rfl rfl hR ⟨Nat.le_of_ble_eq_true rfl, Nat.le_of_ble_eq_true rfl⟩ (Nat.le_of_ble_eq_true rfl) dX11_field_5 (fun v1 M2 =>
 (x_if_ne g 17 dX11_field_8 rfl
 (fun _ => (x_iconst g dX11_field_17 kI_0
 (x_istore_n (L' := [(2, .int (0 : Int32)), (0, .ref t), (1, .int a1)]) g dX11_field_18 rfl hn (Nat.le_of_ble_eq_true rfl) rfl
 (x_sub [1, 0] rfl (wlX11_field_19 g hr hR hn _ t ht
 (fun M4 => by exact (x_aload_n g 0 dX11_field_43 rfl rfl
 (x_getS g 1 fl_RX11_7 rfl ht dX11_field_44
 (x_sipush g dX11_field_47 kS_2604
 (x_iconst g dX11_field_50 kI_m1
 (x_iast g (so_11_0 ht) dX11_field_51 (x_nmM (fun M5 =>
 (x_iconst g dX11_field_52 kI_1
 (x_istore_n (L' := [(2, .int (1 : Int32)), (0, .ref t)]) g dX11_field_53 rfl hn (Nat.le_of_ble_eq_true rfl) rfl
 (x_sub [1, 0] rfl (wlX11_field_54 g hr hR hn _ φ t ht
 (fun M8 => by exact (x_aload_n g 0 dX11_field_73 rfl rfl
 (x_getI g fl_RX11_173 rfl ht dX11_field_74
 (x_jn (fun (J10 : Mem → Option (Int32 × Mem)) => ∀ (M9 : Mem), X J (fun q : Int32 × Mem => (some (Value.int q.1), q.2)) (J10 M9) 140 [(0, .ref t)] [] M9) (fun M9 => (x_aload_n g 0 dX11_field_140 rfl rfl
 (x_aload_n g 0 dX11_field_141 rfl rfl
 (x_getS g 1 fl_RX11_7 rfl ht dX11_field_142
 (x_iconst g dX11_field_145 kI_1
 (x_iald g (so_11_0 ht) dX11_field_146
 (x_callVi (As := [.int (M9.1 (t + 1) (1 : Int32).toNatClampNeg)]) g mv_X11_taken mi_X11_taken lk_RX11_256 ht (fun b Mh_ hb => kX11_taken t (M9.1 (t + 1) (1 : Int32).toNatClampNeg) M9 ht _ _ hb) rfl rfl hR ⟨Nat.le_of_ble_eq_true rfl, Nat.le_of_ble_eq_true rfl⟩ (Nat.le_of_ble_eq_true rfl) dX11_field_147 (fun v11 M12 =>
 (x_iret g hr rfl rfl dX11_field_150))))))))) (fun J10 hJ10 => (x_if_ne g 140 dX11_field_77 rfl
 (fun _ => (hJ10 M8))
 (fun _ => (x_iconst g dX11_field_80 kI_0
 (x_istore_n (L' := [(3, .int (0 : Int32)), (0, .ref t)]) g dX11_field_81 rfl hn (Nat.le_of_ble_eq_true rfl) rfl
 (x_sub [1, 0] rfl (wlX11_field_82 g hr hR hn _ t ht
 (fun M14 => by exact (x_iconst g dX11_field_111 kI_0
 (x_istore_n (L' := [(3, .int (0 : Int32)), (0, .ref t)]) g dX11_field_112 rfl hn (Nat.le_of_ble_eq_true rfl) rfl
 (x_sub [1, 0] rfl (wlX11_field_113 g hr hR hn _ t ht
 (fun M16 => by exact (hJ10 M16)) φ (0 : Int32) M14))))) φ (0 : Int32) M8))))))))))) φ (1 : Int32) M5)))))))))))) φ (0 : Int32) M2)))))
 (fun _ => (x_aload_n g 0 dX11_field_11 rfl rfl
 (x_iconst g dX11_field_12 kI_1
 (x_callVi (As := [.int (1 : Int32)]) g mv_X11_refuse mi_X11_refuse lk_RX11_102 ht (fun b Mh_ hb => kX11_refuse t (1 : Int32) M2 ht _ _ hb) rfl rfl hR ⟨Nat.le_of_ble_eq_true rfl, Nat.le_of_ble_eq_true rfl⟩ (Nat.le_of_ble_eq_true rfl) dX11_field_13 (fun v17 M18 =>
 (x_iret g hr rfl rfl dX11_field_16))))))))))))
def fX11_holeTo (φ : Nat) (t : Nat) (a1 : Int32) (M : Mem) : Option (Int32 × Mem) :=
  ixk (1 : Int32) 3900 (
 bd (fX11_oldOne φ t (8 : Int32) (M.1 (t + 1) (1 : Int32).toNatClampNeg) a1 M) fun v1 M2 =>
 if v1 = 0 ∨ v1 = 1 then some (v1, M2) else none)
set_option maxRecDepth 100000 in
set_option maxHeartbeats 4000000 in
theorem kX11_holeTo (φ : Nat) (t : Nat) (a1 : Int32) (M : Mem) (ht : isO 11 t) (l : Launch) (G : GT) {b : (Int32 × Mem)} (hE : fX11_holeTo φ t a1 M = some b) : Ok l G yX11_holeTo cX11_holeTo 2 (some .boolean) 7 191 [.ref t, .int a1] M ((fun q : Int32 × Mem => (some (Value.int q.1), q.2)) b).1 ((fun q : Int32 × Mem => (some (Value.int q.1), q.2)) b).2 := by
  refine Ok.ofX (pj := (fun q : Int32 × Mem => (some (Value.int q.1), q.2))) (by decide) (Nat.le_of_ble_eq_true rfl) hE (fun J g hr hG hl hR hn => ?_)
  show X J (fun q : Int32 × Mem => (some (Value.int q.1), q.2)) (fX11_holeTo φ t a1 M) 0 [(0, .ref t), (1, .int a1)] [] M
  unfold fX11_holeTo
  exact (x_aload_n g 0 dX11_holeTo_0 rfl rfl
 (x_bipush g dX11_holeTo_1 kB_8
 (x_aload_n g 0 dX11_holeTo_3 rfl rfl
 (x_getS g 1 fl_RX11_7 rfl ht dX11_holeTo_4
 (x_iconst g dX11_holeTo_7 kI_1
 (x_iald g (so_11_0 ht) dX11_holeTo_8
 (x_iload_n g 1 dX11_holeTo_9 rfl rfl
 (x_callVi (As := [.int (8 : Int32), .int (M.1 (t + 1) (1 : Int32).toNatClampNeg), .int a1]) g mv_X11_oldOne mi_X11_oldOne lk_RX11_215 ht (fun b Mh_ hb => kX11_oldOne φ t (8 : Int32) (M.1 (t + 1) (1 : Int32).toNatClampNeg) a1 M ht _ _ hb) rfl rfl hR ⟨Nat.le_of_ble_eq_true rfl, Nat.le_of_ble_eq_true rfl⟩ (Nat.le_of_ble_eq_true rfl) dX11_holeTo_10 (fun v1 M2 =>
 (x_ck (fun hq3 => x_iret g hr (nbz hq3) rfl dX11_holeTo_13)))))))))))
def fX11_rockTo (φ : Nat) (t : Nat) (a1 : Int32) (M : Mem) : Option (Int32 × Mem) :=
  ixk (0 : Int32) 3900 (
 bd (fX11_oldOne φ t (0 : Int32) (M.1 (t + 1) (0 : Int32).toNatClampNeg) a1 M) fun v1 M2 =>
 if v1 = 0 ∨ v1 = 1 then some (v1, M2) else none)
set_option maxRecDepth 100000 in
set_option maxHeartbeats 4000000 in
theorem kX11_rockTo (φ : Nat) (t : Nat) (a1 : Int32) (M : Mem) (ht : isO 11 t) (l : Launch) (G : GT) {b : (Int32 × Mem)} (hE : fX11_rockTo φ t a1 M = some b) : Ok l G yX11_rockTo cX11_rockTo 2 (some .boolean) 7 191 [.ref t, .int a1] M ((fun q : Int32 × Mem => (some (Value.int q.1), q.2)) b).1 ((fun q : Int32 × Mem => (some (Value.int q.1), q.2)) b).2 := by
  refine Ok.ofX (pj := (fun q : Int32 × Mem => (some (Value.int q.1), q.2))) (by decide) (Nat.le_of_ble_eq_true rfl) hE (fun J g hr hG hl hR hn => ?_)
  show X J (fun q : Int32 × Mem => (some (Value.int q.1), q.2)) (fX11_rockTo φ t a1 M) 0 [(0, .ref t), (1, .int a1)] [] M
  unfold fX11_rockTo
  exact (x_aload_n g 0 dX11_rockTo_0 rfl rfl
 (x_iconst g dX11_rockTo_1 kI_0
 (x_aload_n g 0 dX11_rockTo_2 rfl rfl
 (x_getS g 1 fl_RX11_7 rfl ht dX11_rockTo_3
 (x_iconst g dX11_rockTo_6 kI_0
 (x_iald g (so_11_0 ht) dX11_rockTo_7
 (x_iload_n g 1 dX11_rockTo_8 rfl rfl
 (x_callVi (As := [.int (0 : Int32), .int (M.1 (t + 1) (0 : Int32).toNatClampNeg), .int a1]) g mv_X11_oldOne mi_X11_oldOne lk_RX11_215 ht (fun b Mh_ hb => kX11_oldOne φ t (0 : Int32) (M.1 (t + 1) (0 : Int32).toNatClampNeg) a1 M ht _ _ hb) rfl rfl hR ⟨Nat.le_of_ble_eq_true rfl, Nat.le_of_ble_eq_true rfl⟩ (Nat.le_of_ble_eq_true rfl) dX11_rockTo_9 (fun v1 M2 =>
 (x_ck (fun hq3 => x_iret g hr (nbz hq3) rfl dX11_rockTo_12)))))))))))
def fX11_test (φ : Nat) (t : Nat) (a1 : Int32) (M : Mem) : Option (Int32 × Mem) :=
  (fX11_inWords φ t 1002 M).bind fun v1 =>
 jn (ixk a1 3900 (nm (stI M (t + 1) a1.toNatClampNeg ((1700 : Int32) + v1)) (fun M3 =>
 bd (fX11_ahead φ t M3) fun vu4 M5 =>
 bd (fX11_holeTo φ t (a1 + (1 : Int32)) M5) fun v6 M7 =>
 if v6 = 0 then
 some ((0 : Int32), M7)
 else
 if v1 = (21 : Int32) then
 (fX11_isSign t (60 : Int32) M7).bind fun v8 =>
 jn (ixk (a1 + (5 : Int32)) 3900 (nm (stI M7 (t + 1) (a1 + (5 : Int32)).toNatClampNeg (M7.1 t 15)) (fun M10 =>
 bd (fX11_ahead φ t M10) fun vu11 M12 =>
 bd (fX11_number φ t (a1 + (2 : Int32)) (0 : Int32) (9999 : Int32) M12) fun v13 M14 =>
 if v13 = 0 ∨ v13 = 1 then some (v13, M14) else none))) (fun J9 => if v8 = 0 then
 (fX11_isSign t (62 : Int32) M7).bind fun v16 =>
 if v16 = 0 then
 (fX11_isSign t (61 : Int32) M7).bind fun v17 =>
 if v17 = 0 then
 bd (fX11_fails t (2 : Int32) M7) fun v18 M19 =>
 if v18 = 0 ∨ v18 = 1 then some (v18, M19) else none
 else
 J9
 else
 J9
 else
 J9)
 else
 bd (fX11_rockTo φ t (a1 + (2 : Int32)) M7) fun v21 M22 =>
 if v21 = 0 ∨ v21 = 1 then some (v21, M22) else none))) (fun J2 => if v1 = (21 : Int32) then
 J2
 else
 if v1 = (22 : Int32) then
 J2
 else
 if v1 = (23 : Int32) then
 J2
 else
 bd (fX11_fails t (2 : Int32) M) fun v24 M25 =>
 if v24 = 0 ∨ v24 = 1 then some (v24, M25) else none)
set_option maxRecDepth 100000 in
set_option maxHeartbeats 4000000 in
theorem kX11_test (φ : Nat) (t : Nat) (a1 : Int32) (M : Mem) (ht : isO 11 t) (l : Launch) (G : GT) {b : (Int32 × Mem)} (hE : fX11_test φ t a1 M = some b) : Ok l G yX11_test cX11_test 3 (some .boolean) 8 212 [.ref t, .int a1] M ((fun q : Int32 × Mem => (some (Value.int q.1), q.2)) b).1 ((fun q : Int32 × Mem => (some (Value.int q.1), q.2)) b).2 := by
  refine Ok.ofX (pj := (fun q : Int32 × Mem => (some (Value.int q.1), q.2))) (by decide) (Nat.le_of_ble_eq_true rfl) hE (fun J g hr hG hl hR hn => ?_)
  show X J (fun q : Int32 × Mem => (some (Value.int q.1), q.2)) (fX11_test φ t a1 M) 0 [(0, .ref t), (1, .int a1)] [] M
  unfold fX11_test
  exact (x_aload_n g 0 dX11_test_0 rfl rfl
 (x_ldcS2 g dX11_test_1
 (x_callVip (As := [.ref 1002]) g mv_X11_inWords mi_X11_inWords lk_RX11_188 ht (fun b hb => kX11_inWords φ t 1002 M ht (Or.inr rfl) _ _ hb) rfl rfl hR ⟨Nat.le_of_ble_eq_true rfl, Nat.le_of_ble_eq_true rfl⟩ (Nat.le_of_ble_eq_true rfl) dX11_test_3 (fun v1 =>
 (x_istore_n (L' := [(2, .int v1), (0, .ref t), (1, .int a1)]) g dX11_test_6 rfl hn (Nat.le_of_ble_eq_true rfl) rfl
 (x_iload_n g 0 dX11_test_7 rfl rfl
 (x_bipush g dX11_test_8 kB_21
 (x_jn (fun (J2 : Option (Int32 × Mem)) => X J (fun q : Int32 × Mem => (some (Value.int q.1), q.2)) J2 31 [(0, .ref t), (1, .int a1), (2, .int v1)] [] M) (x_aload_n g 0 dX11_test_31 rfl rfl
 (x_getS g 1 fl_RX11_7 rfl ht dX11_test_32
 (x_iload_n g 1 dX11_test_35 rfl rfl
 (x_sipush g dX11_test_36 kS_1700
 (x_iload_n g 2 dX11_test_39 rfl rfl
 (x_iadd g dX11_test_40
 (x_iast g (so_11_0 ht) dX11_test_41 (x_nmM (fun M3 =>
 (x_aload_n g 0 dX11_test_42 rfl rfl
 (x_callVv (As := []) g mv_X11_ahead mi_X11_ahead lk_RX11_179 ht (fun b Mh_ hb => kX11_ahead φ t M3 ht _ _ hb) rfl rfl hR ⟨Nat.le_of_ble_eq_true rfl, Nat.le_of_ble_eq_true rfl⟩ (Nat.le_of_ble_eq_true rfl) dX11_test_43 (fun vu4 M5 =>
 (x_aload_n g 0 dX11_test_46 rfl rfl
 (x_iload_n g 1 dX11_test_47 rfl rfl
 (x_iconst g dX11_test_48 kI_1
 (x_iadd g dX11_test_49
 (x_callVi (As := [.int (a1 + (1 : Int32))]) g mv_X11_holeTo mi_X11_holeTo lk_RX11_259 ht (fun b Mh_ hb => kX11_holeTo φ t (a1 + (1 : Int32)) M5 ht _ _ hb) rfl rfl hR ⟨Nat.le_of_ble_eq_true rfl, Nat.le_of_ble_eq_true rfl⟩ (Nat.le_of_ble_eq_true rfl) dX11_test_50 (fun v6 M7 =>
 (x_if_ne g 58 dX11_test_53 rfl
 (fun _ => (x_iload_n g 2 dX11_test_58 rfl rfl
 (x_bipush g dX11_test_59 kB_21
 (x_icmp_eq g 72 dX11_test_61 rfl
 (fun _ => (x_aload_n g 0 dX11_test_72 rfl rfl
 (x_bipush g dX11_test_73 kB_60
 (x_callVip (As := [.int (60 : Int32)]) g mv_X11_isSign mi_X11_isSign lk_RX11_182 ht (fun b hb => kX11_isSign t (60 : Int32) M7 ht _ _ hb) rfl rfl hR ⟨Nat.le_of_ble_eq_true rfl, Nat.le_of_ble_eq_true rfl⟩ (Nat.le_of_ble_eq_true rfl) dX11_test_75 (fun v8 =>
 (x_jn (fun (J9 : Option (Int32 × Mem)) => X J (fun q : Int32 × Mem => (some (Value.int q.1), q.2)) J9 105 [(0, .ref t), (1, .int a1)] [] M7) (x_aload_n g 0 dX11_test_105 rfl rfl
 (x_getS g 1 fl_RX11_7 rfl ht dX11_test_106
 (x_iload_n g 1 dX11_test_109 rfl rfl
 (x_iconst g dX11_test_110 kI_5
 (x_iadd g dX11_test_111
 (x_aload_n g 0 dX11_test_112 rfl rfl
 (x_getI g fl_RX11_145 rfl ht dX11_test_113
 (x_iast g (so_11_0 ht) dX11_test_116 (x_nmM (fun M10 =>
 (x_aload_n g 0 dX11_test_117 rfl rfl
 (x_callVv (As := []) g mv_X11_ahead mi_X11_ahead lk_RX11_179 ht (fun b Mh_ hb => kX11_ahead φ t M10 ht _ _ hb) rfl rfl hR ⟨Nat.le_of_ble_eq_true rfl, Nat.le_of_ble_eq_true rfl⟩ (Nat.le_of_ble_eq_true rfl) dX11_test_118 (fun vu11 M12 =>
 (x_aload_n g 0 dX11_test_121 rfl rfl
 (x_iload_n g 1 dX11_test_122 rfl rfl
 (x_iconst g dX11_test_123 kI_2
 (x_iadd g dX11_test_124
 (x_iconst g dX11_test_125 kI_0
 (x_sipush g dX11_test_126 kS_9999
 (x_callVi (As := [.int (a1 + (2 : Int32)), .int (0 : Int32), .int (9999 : Int32)]) g mv_X11_number mi_X11_number lk_RX11_212 ht (fun b Mh_ hb => kX11_number φ t (a1 + (2 : Int32)) (0 : Int32) (9999 : Int32) M12 ht _ _ hb) rfl rfl hR ⟨Nat.le_of_ble_eq_true rfl, Nat.le_of_ble_eq_true rfl⟩ (Nat.le_of_ble_eq_true rfl) dX11_test_129 (fun v13 M14 =>
 (x_ck (fun hq15 => x_iret g hr (nbz hq15) rfl dX11_test_132))))))))))))))))))))))) (fun J9 hJ9 => (x_if_ne g 105 dX11_test_78 rfl
 (fun _ => (x_sub [0, 1] rfl (hJ9)))
 (fun _ => (x_aload_n g 0 dX11_test_81 rfl rfl
 (x_bipush g dX11_test_82 kB_62
 (x_callVip (As := [.int (62 : Int32)]) g mv_X11_isSign mi_X11_isSign lk_RX11_182 ht (fun b hb => kX11_isSign t (62 : Int32) M7 ht _ _ hb) rfl rfl hR ⟨Nat.le_of_ble_eq_true rfl, Nat.le_of_ble_eq_true rfl⟩ (Nat.le_of_ble_eq_true rfl) dX11_test_84 (fun v16 =>
 (x_if_ne g 105 dX11_test_87 rfl
 (fun _ => (x_sub [0, 1] rfl (hJ9)))
 (fun _ => (x_aload_n g 0 dX11_test_90 rfl rfl
 (x_bipush g dX11_test_91 kB_61
 (x_callVip (As := [.int (61 : Int32)]) g mv_X11_isSign mi_X11_isSign lk_RX11_182 ht (fun b hb => kX11_isSign t (61 : Int32) M7 ht _ _ hb) rfl rfl hR ⟨Nat.le_of_ble_eq_true rfl, Nat.le_of_ble_eq_true rfl⟩ (Nat.le_of_ble_eq_true rfl) dX11_test_93 (fun v17 =>
 (x_if_ne g 105 dX11_test_96 rfl
 (fun _ => (x_sub [0, 1] rfl (hJ9)))
 (fun _ => (x_aload_n g 0 dX11_test_99 rfl rfl
 (x_iconst g dX11_test_100 kI_2
 (x_callVi (As := [.int (2 : Int32)]) g mv_X11_fails mi_X11_fails lk_RX11_185 ht (fun b Mh_ hb => kX11_fails t (2 : Int32) M7 ht _ _ hb) rfl rfl hR ⟨Nat.le_of_ble_eq_true rfl, Nat.le_of_ble_eq_true rfl⟩ (Nat.le_of_ble_eq_true rfl) dX11_test_101 (fun v18 M19 =>
 (x_ck (fun hq20 => x_iret g hr (nbz hq20) rfl dX11_test_104)))))))))))))))))))))))))))
 (fun _ => (x_aload_n g 0 dX11_test_64 rfl rfl
 (x_iload_n g 1 dX11_test_65 rfl rfl
 (x_iconst g dX11_test_66 kI_2
 (x_iadd g dX11_test_67
 (x_callVi (As := [.int (a1 + (2 : Int32))]) g mv_X11_rockTo mi_X11_rockTo lk_RX11_262 ht (fun b Mh_ hb => kX11_rockTo φ t (a1 + (2 : Int32)) M7 ht _ _ hb) rfl rfl hR ⟨Nat.le_of_ble_eq_true rfl, Nat.le_of_ble_eq_true rfl⟩ (Nat.le_of_ble_eq_true rfl) dX11_test_68 (fun v21 M22 =>
 (x_ck (fun hq23 => x_iret g hr (nbz hq23) rfl dX11_test_71)))))))))))))
 (fun _ => (x_iconst g dX11_test_56 kI_0
 (x_iret g hr rfl rfl dX11_test_57)))))))))))))))))))))) (fun J2 hJ2 => (x_icmp_eq g 31 dX11_test_10 rfl
 (fun _ => (x_sub [1, 2, 0] rfl (hJ2)))
 (fun _ => (x_iload_n g 0 dX11_test_13 rfl rfl
 (x_bipush g dX11_test_14 kB_22
 (x_icmp_eq g 31 dX11_test_16 rfl
 (fun _ => (x_sub [1, 2, 0] rfl (hJ2)))
 (fun _ => (x_iload_n g 0 dX11_test_19 rfl rfl
 (x_bipush g dX11_test_20 kB_23
 (x_icmp_eq g 31 dX11_test_22 rfl
 (fun _ => (x_sub [1, 2, 0] rfl (hJ2)))
 (fun _ => (x_aload_n g 1 dX11_test_25 rfl rfl
 (x_iconst g dX11_test_26 kI_2
 (x_callVi (As := [.int (2 : Int32)]) g mv_X11_fails mi_X11_fails lk_RX11_185 ht (fun b Mh_ hb => kX11_fails t (2 : Int32) M ht _ _ hb) rfl rfl hR ⟨Nat.le_of_ble_eq_true rfl, Nat.le_of_ble_eq_true rfl⟩ (Nat.le_of_ble_eq_true rfl) dX11_test_27 (fun v24 M25 =>
 (x_ck (fun hq26 => x_iret g hr (nbz hq26) rfl dX11_test_30)))))))))))))))))))))))))
