theorem dX10_status_0 : decode cX10_status 0 = .ok (.aload_n 0, 1) := by decide +kernel
theorem dX10_status_1 : decode cX10_status 1 = .ok (.getfield 9, 3) := by decide +kernel
theorem dX10_status_4 : decode cX10_status 4 = .ok (.ireturn, 1) := by decide +kernel
theorem dX10_top_0 : decode cX10_top 0 = .ok (.aload_n 0, 1) := by decide +kernel
theorem dX10_top_1 : decode cX10_top 1 = .ok (.getfield 13, 3) := by decide +kernel
theorem dX10_top_4 : decode cX10_top 4 = .ok (.lreturn, 1) := by decide +kernel
theorem dX10_bottom_0 : decode cX10_bottom 0 = .ok (.aload_n 0, 1) := by decide +kernel
theorem dX10_bottom_1 : decode cX10_bottom 1 = .ok (.getfield 17, 3) := by decide +kernel
theorem dX10_bottom_4 : decode cX10_bottom 4 = .ok (.lreturn, 1) := by decide +kernel
theorem dX10_isWithin_0 : decode cX10_isWithin 0 = .ok (.iload_n 0, 1) := by decide +kernel
theorem dX10_isWithin_1 : decode cX10_isWithin 1 = .ok (.iload_n 1, 1) := by decide +kernel
theorem dX10_isWithin_2 : decode cX10_isWithin 2 = .ok (.if_icmp .lt 12, 3) := by decide +kernel
theorem dX10_isWithin_5 : decode cX10_isWithin 5 = .ok (.iload_n 0, 1) := by decide +kernel
theorem dX10_isWithin_6 : decode cX10_isWithin 6 = .ok (.iload_n 2, 1) := by decide +kernel
theorem dX10_isWithin_7 : decode cX10_isWithin 7 = .ok (.if_icmp .gt 7, 3) := by decide +kernel
theorem dX10_isWithin_10 : decode cX10_isWithin 10 = .ok (.iconst 1, 1) := by decide +kernel
theorem dX10_isWithin_11 : decode cX10_isWithin 11 = .ok (.goto 4, 3) := by decide +kernel
theorem dX10_isWithin_14 : decode cX10_isWithin 14 = .ok (.iconst 0, 1) := by decide +kernel
theorem dX10_isWithin_15 : decode cX10_isWithin 15 = .ok (.ireturn, 1) := by decide +kernel
theorem dX10_isTray_0 : decode cX10_isTray 0 = .ok (.iload_n 0, 1) := by decide +kernel
theorem dX10_isTray_1 : decode cX10_isTray 1 = .ok (.iconst 0, 1) := by decide +kernel
theorem dX10_isTray_2 : decode cX10_isTray 2 = .ok (.iconst 3, 1) := by decide +kernel
theorem dX10_isTray_3 : decode cX10_isTray 3 = .ok (.invokestatic 114, 3) := by decide +kernel
theorem dX10_isTray_6 : decode cX10_isTray 6 = .ok (.ireturn, 1) := by decide +kernel
theorem dX10_deny_0 : decode cX10_deny 0 = .ok (.aload_n 0, 1) := by decide +kernel
theorem dX10_deny_1 : decode cX10_deny 1 = .ok (.iload_n 1, 1) := by decide +kernel
theorem dX10_deny_2 : decode cX10_deny 2 = .ok (.putfield 9, 3) := by decide +kernel
theorem dX10_deny_5 : decode cX10_deny 5 = .ok (.iconst 0, 1) := by decide +kernel
theorem dX10_deny_6 : decode cX10_deny 6 = .ok (.ireturn, 1) := by decide +kernel
theorem dX7_renew_0 : decode cX7_renew 0 = .ok (.aload_n 0, 1) := by decide +kernel
theorem dX7_renew_1 : decode cX7_renew 1 = .ok (.iload_n 1, 1) := by decide +kernel
theorem dX7_renew_2 : decode cX7_renew 2 = .ok (.putfield 15, 3) := by decide +kernel
theorem dX7_renew_5 : decode cX7_renew 5 = .ok (.aload_n 0, 1) := by decide +kernel
theorem dX7_renew_6 : decode cX7_renew 6 = .ok (.iload_n 2, 1) := by decide +kernel
theorem dX7_renew_7 : decode cX7_renew 7 = .ok (.putfield 19, 3) := by decide +kernel
theorem dX7_renew_10 : decode cX7_renew 10 = .ok (.iconst 0, 1) := by decide +kernel
theorem dX7_renew_11 : decode cX7_renew 11 = .ok (.istore_n 3, 1) := by decide +kernel
theorem dX7_renew_12 : decode cX7_renew 12 = .ok (.iload_n 3, 1) := by decide +kernel
theorem dX7_renew_13 : decode cX7_renew 13 = .ok (.bipush 60, 2) := by decide +kernel
theorem dX7_renew_15 : decode cX7_renew 15 = .ok (.if_icmp .ge 16, 3) := by decide +kernel
theorem dX7_renew_18 : decode cX7_renew 18 = .ok (.aload_n 0, 1) := by decide +kernel
theorem dX7_renew_19 : decode cX7_renew 19 = .ok (.getfield 9, 3) := by decide +kernel
theorem dX7_renew_22 : decode cX7_renew 22 = .ok (.iload_n 3, 1) := by decide +kernel
theorem dX7_renew_23 : decode cX7_renew 23 = .ok (.lconst 0, 1) := by decide +kernel
theorem dX7_renew_24 : decode cX7_renew 24 = .ok (.lastore, 1) := by decide +kernel
theorem dX7_renew_25 : decode cX7_renew 25 = .ok (.iinc 3 1, 3) := by decide +kernel
theorem dX7_renew_28 : decode cX7_renew 28 = .ok (.goto (-16), 3) := by decide +kernel
theorem dX7_renew_31 : decode cX7_renew 31 = .ok (.return_, 1) := by decide +kernel
theorem dX10_grant_0 : decode cX10_grant 0 = .ok (.aload_n 0, 1) := by decide +kernel
theorem dX10_grant_1 : decode cX10_grant 1 = .ok (.iconst 0, 1) := by decide +kernel
theorem dX10_grant_2 : decode cX10_grant 2 = .ok (.putfield 9, 3) := by decide +kernel
theorem dX10_grant_5 : decode cX10_grant 5 = .ok (.iconst 1, 1) := by decide +kernel
theorem dX10_grant_6 : decode cX10_grant 6 = .ok (.ireturn, 1) := by decide +kernel
theorem dX10_tray_0 : decode cX10_tray 0 = .ok (.iload_n 1, 1) := by decide +kernel
theorem dX10_tray_1 : decode cX10_tray 1 = .ok (.invokestatic 110, 3) := by decide +kernel
theorem dX10_tray_4 : decode cX10_tray 4 = .ok (.ifCond .eq 22, 3) := by decide +kernel
theorem dX10_tray_7 : decode cX10_tray 7 = .ok (.iload_n 2, 1) := by decide +kernel
theorem dX10_tray_8 : decode cX10_tray 8 = .ok (.iconst 0, 1) := by decide +kernel
theorem dX10_tray_9 : decode cX10_tray 9 = .ok (.iconst 3, 1) := by decide +kernel
theorem dX10_tray_10 : decode cX10_tray 10 = .ok (.invokestatic 114, 3) := by decide +kernel
theorem dX10_tray_13 : decode cX10_tray 13 = .ok (.ifCond .eq 13, 3) := by decide +kernel
theorem dX10_tray_16 : decode cX10_tray 16 = .ok (.iload_n 3, 1) := by decide +kernel
theorem dX10_tray_17 : decode cX10_tray 17 = .ok (.iconst 0, 1) := by decide +kernel
theorem dX10_tray_18 : decode cX10_tray 18 = .ok (.bipush 60, 2) := by decide +kernel
theorem dX10_tray_20 : decode cX10_tray 20 = .ok (.invokestatic 114, 3) := by decide +kernel
theorem dX10_tray_23 : decode cX10_tray 23 = .ok (.ifCond .ne 9, 3) := by decide +kernel
theorem dX10_tray_26 : decode cX10_tray 26 = .ok (.aload_n 0, 1) := by decide +kernel
theorem dX10_tray_27 : decode cX10_tray 27 = .ok (.iconst 1, 1) := by decide +kernel
theorem dX10_tray_28 : decode cX10_tray 28 = .ok (.invokevirtual 118, 3) := by decide +kernel
theorem dX10_tray_31 : decode cX10_tray 31 = .ok (.ireturn, 1) := by decide +kernel
theorem dX10_tray_32 : decode cX10_tray 32 = .ok (.aload_n 0, 1) := by decide +kernel
theorem dX10_tray_33 : decode cX10_tray 33 = .ok (.getfield 22, 3) := by decide +kernel
theorem dX10_tray_36 : decode cX10_tray 36 = .ok (.iload_n 1, 1) := by decide +kernel
theorem dX10_tray_37 : decode cX10_tray 37 = .ok (.aaload, 1) := by decide +kernel
theorem dX10_tray_38 : decode cX10_tray 38 = .ok (.iload_n 2, 1) := by decide +kernel
theorem dX10_tray_39 : decode cX10_tray 39 = .ok (.iload_n 3, 1) := by decide +kernel
theorem dX10_tray_40 : decode cX10_tray 40 = .ok (.invokevirtual 121, 3) := by decide +kernel
theorem dX10_tray_43 : decode cX10_tray 43 = .ok (.aload_n 0, 1) := by decide +kernel
theorem dX10_tray_44 : decode cX10_tray 44 = .ok (.invokevirtual 125, 3) := by decide +kernel
theorem dX10_tray_47 : decode cX10_tray 47 = .ok (.ireturn, 1) := by decide +kernel
theorem dX7_isMissing_0 : decode cX7_isMissing 0 = .ok (.aload_n 0, 1) := by decide +kernel
theorem dX7_isMissing_1 : decode cX7_isMissing 1 = .ok (.getfield 19, 3) := by decide +kernel
theorem dX7_isMissing_4 : decode cX7_isMissing 4 = .ok (.iconst (-1), 1) := by decide +kernel
theorem dX7_isMissing_5 : decode cX7_isMissing 5 = .ok (.if_icmp .ne 7, 3) := by decide +kernel
theorem dX7_isMissing_8 : decode cX7_isMissing 8 = .ok (.iconst 1, 1) := by decide +kernel
theorem dX7_isMissing_9 : decode cX7_isMissing 9 = .ok (.goto 4, 3) := by decide +kernel
theorem dX7_isMissing_12 : decode cX7_isMissing 12 = .ok (.iconst 0, 1) := by decide +kernel
theorem dX7_isMissing_13 : decode cX7_isMissing 13 = .ok (.ireturn, 1) := by decide +kernel
theorem dX7_hasRow_0 : decode cX7_hasRow 0 = .ok (.iload_n 1, 1) := by decide +kernel
theorem dX7_hasRow_1 : decode cX7_hasRow 1 = .ok (.ifCond .lt 25, 3) := by decide +kernel
theorem dX7_hasRow_4 : decode cX7_hasRow 4 = .ok (.iload_n 2, 1) := by decide +kernel
theorem dX7_hasRow_5 : decode cX7_hasRow 5 = .ok (.ifCond .lt 21, 3) := by decide +kernel
theorem dX7_hasRow_8 : decode cX7_hasRow 8 = .ok (.iload_n 1, 1) := by decide +kernel
theorem dX7_hasRow_9 : decode cX7_hasRow 9 = .ok (.i2l, 1) := by decide +kernel
theorem dX7_hasRow_10 : decode cX7_hasRow 10 = .ok (.iload_n 2, 1) := by decide +kernel
theorem dX7_hasRow_11 : decode cX7_hasRow 11 = .ok (.i2l, 1) := by decide +kernel
theorem dX7_hasRow_12 : decode cX7_hasRow 12 = .ok (.ladd, 1) := by decide +kernel
theorem dX7_hasRow_13 : decode cX7_hasRow 13 = .ok (.aload_n 0, 1) := by decide +kernel
theorem dX7_hasRow_14 : decode cX7_hasRow 14 = .ok (.getfield 19, 3) := by decide +kernel
theorem dX7_hasRow_17 : decode cX7_hasRow 17 = .ok (.i2l, 1) := by decide +kernel
theorem dX7_hasRow_18 : decode cX7_hasRow 18 = .ok (.lcmp, 1) := by decide +kernel
theorem dX7_hasRow_19 : decode cX7_hasRow 19 = .ok (.ifCond .gt 7, 3) := by decide +kernel
theorem dX7_hasRow_22 : decode cX7_hasRow 22 = .ok (.iconst 1, 1) := by decide +kernel
theorem dX7_hasRow_23 : decode cX7_hasRow 23 = .ok (.goto 4, 3) := by decide +kernel
theorem dX7_hasRow_26 : decode cX7_hasRow 26 = .ok (.iconst 0, 1) := by decide +kernel
theorem dX7_hasRow_27 : decode cX7_hasRow 27 = .ok (.ireturn, 1) := by decide +kernel
theorem dX10_placeStatus_0 : decode cX10_placeStatus 0 = .ok (.iload_n 1, 1) := by decide +kernel
theorem dX10_placeStatus_1 : decode cX10_placeStatus 1 = .ok (.invokestatic 110, 3) := by decide +kernel
theorem dX10_placeStatus_4 : decode cX10_placeStatus 4 = .ok (.ifCond .ne 5, 3) := by decide +kernel
theorem dX10_placeStatus_7 : decode cX10_placeStatus 7 = .ok (.iconst 1, 1) := by decide +kernel
theorem dX10_placeStatus_8 : decode cX10_placeStatus 8 = .ok (.ireturn, 1) := by decide +kernel
theorem dX10_placeStatus_9 : decode cX10_placeStatus 9 = .ok (.aload_n 0, 1) := by decide +kernel
theorem dX10_placeStatus_10 : decode cX10_placeStatus 10 = .ok (.getfield 22, 3) := by decide +kernel
theorem dX10_placeStatus_13 : decode cX10_placeStatus 13 = .ok (.iload_n 1, 1) := by decide +kernel
theorem dX10_placeStatus_14 : decode cX10_placeStatus 14 = .ok (.aaload, 1) := by decide +kernel
theorem dX10_placeStatus_15 : decode cX10_placeStatus 15 = .ok (.invokevirtual 145, 3) := by decide +kernel
theorem dX10_placeStatus_18 : decode cX10_placeStatus 18 = .ok (.ifCond .eq 5, 3) := by decide +kernel
theorem dX10_placeStatus_21 : decode cX10_placeStatus 21 = .ok (.iconst 2, 1) := by decide +kernel
theorem dX10_placeStatus_22 : decode cX10_placeStatus 22 = .ok (.ireturn, 1) := by decide +kernel
theorem dX10_placeStatus_23 : decode cX10_placeStatus 23 = .ok (.aload_n 0, 1) := by decide +kernel
theorem dX10_placeStatus_24 : decode cX10_placeStatus 24 = .ok (.getfield 22, 3) := by decide +kernel
theorem dX10_placeStatus_27 : decode cX10_placeStatus 27 = .ok (.iload_n 1, 1) := by decide +kernel
theorem dX10_placeStatus_28 : decode cX10_placeStatus 28 = .ok (.aaload, 1) := by decide +kernel
theorem dX10_placeStatus_29 : decode cX10_placeStatus 29 = .ok (.iload_n 2, 1) := by decide +kernel
theorem dX10_placeStatus_30 : decode cX10_placeStatus 30 = .ok (.iconst 1, 1) := by decide +kernel
theorem dX10_placeStatus_31 : decode cX10_placeStatus 31 = .ok (.invokevirtual 151, 3) := by decide +kernel
theorem dX10_placeStatus_34 : decode cX10_placeStatus 34 = .ok (.ifCond .eq 7, 3) := by decide +kernel
theorem dX10_placeStatus_37 : decode cX10_placeStatus 37 = .ok (.iconst 0, 1) := by decide +kernel
theorem dX10_placeStatus_38 : decode cX10_placeStatus 38 = .ok (.goto 4, 3) := by decide +kernel
theorem dX10_placeStatus_41 : decode cX10_placeStatus 41 = .ok (.iconst 3, 1) := by decide +kernel
theorem dX10_placeStatus_42 : decode cX10_placeStatus 42 = .ok (.ireturn, 1) := by decide +kernel
theorem dX7_put_0 : decode cX7_put 0 = .ok (.aload_n 0, 1) := by decide +kernel
theorem dX7_put_1 : decode cX7_put 1 = .ok (.getfield 15, 3) := by decide +kernel
theorem dX7_put_4 : decode cX7_put 4 = .ok (.tableswitch 66 0 2 #[28, 41, 54], 28) := by decide +kernel
theorem dX7_put_32 : decode cX7_put 32 = .ok (.aload_n 0, 1) := by decide +kernel
theorem dX7_put_33 : decode cX7_put 33 = .ok (.getfield 9, 3) := by decide +kernel
theorem dX7_put_36 : decode cX7_put 36 = .ok (.iload_n 1, 1) := by decide +kernel
theorem dX7_put_37 : decode cX7_put 37 = .ok (.lload_n 2, 1) := by decide +kernel
theorem dX7_put_38 : decode cX7_put 38 = .ok (.l2i, 1) := by decide +kernel
theorem dX7_put_39 : decode cX7_put 39 = .ok (.i2b, 1) := by decide +kernel
theorem dX7_put_40 : decode cX7_put 40 = .ok (.i2l, 1) := by decide +kernel
theorem dX7_put_41 : decode cX7_put 41 = .ok (.lastore, 1) := by decide +kernel
theorem dX7_put_42 : decode cX7_put 42 = .ok (.goto 35, 3) := by decide +kernel
theorem dX7_put_45 : decode cX7_put 45 = .ok (.aload_n 0, 1) := by decide +kernel
theorem dX7_put_46 : decode cX7_put 46 = .ok (.getfield 9, 3) := by decide +kernel
theorem dX7_put_49 : decode cX7_put 49 = .ok (.iload_n 1, 1) := by decide +kernel
theorem dX7_put_50 : decode cX7_put 50 = .ok (.lload_n 2, 1) := by decide +kernel
theorem dX7_put_51 : decode cX7_put 51 = .ok (.l2i, 1) := by decide +kernel
theorem dX7_put_52 : decode cX7_put 52 = .ok (.i2s, 1) := by decide +kernel
theorem dX7_put_53 : decode cX7_put 53 = .ok (.i2l, 1) := by decide +kernel
theorem dX7_put_54 : decode cX7_put 54 = .ok (.lastore, 1) := by decide +kernel
theorem dX7_put_55 : decode cX7_put 55 = .ok (.goto 22, 3) := by decide +kernel
theorem dX7_put_58 : decode cX7_put 58 = .ok (.aload_n 0, 1) := by decide +kernel
theorem dX7_put_59 : decode cX7_put 59 = .ok (.getfield 9, 3) := by decide +kernel
theorem dX7_put_62 : decode cX7_put 62 = .ok (.iload_n 1, 1) := by decide +kernel
theorem dX7_put_63 : decode cX7_put 63 = .ok (.lload_n 2, 1) := by decide +kernel
theorem dX7_put_64 : decode cX7_put 64 = .ok (.l2i, 1) := by decide +kernel
theorem dX7_put_65 : decode cX7_put 65 = .ok (.i2l, 1) := by decide +kernel
theorem dX7_put_66 : decode cX7_put 66 = .ok (.lastore, 1) := by decide +kernel
theorem dX7_put_67 : decode cX7_put 67 = .ok (.goto 10, 3) := by decide +kernel
theorem dX7_put_70 : decode cX7_put 70 = .ok (.aload_n 0, 1) := by decide +kernel
theorem dX7_put_71 : decode cX7_put 71 = .ok (.getfield 9, 3) := by decide +kernel
theorem dX7_put_74 : decode cX7_put 74 = .ok (.iload_n 1, 1) := by decide +kernel
theorem dX7_put_75 : decode cX7_put 75 = .ok (.lload_n 2, 1) := by decide +kernel
theorem dX7_put_76 : decode cX7_put 76 = .ok (.lastore, 1) := by decide +kernel
theorem dX7_put_77 : decode cX7_put 77 = .ok (.return_, 1) := by decide +kernel
theorem dX10_write_0 : decode cX10_write 0 = .ok (.aload_n 0, 1) := by decide +kernel
theorem dX10_write_1 : decode cX10_write 1 = .ok (.iload_n 1, 1) := by decide +kernel
theorem dX10_write_2 : decode cX10_write 2 = .ok (.iload_n 2, 1) := by decide +kernel
theorem dX10_write_3 : decode cX10_write 3 = .ok (.invokevirtual 129, 3) := by decide +kernel
theorem dX10_write_6 : decode cX10_write 6 = .ok (.istore 5, 2) := by decide +kernel
theorem dX10_write_8 : decode cX10_write 8 = .ok (.iload 5, 2) := by decide +kernel
theorem dX10_write_10 : decode cX10_write 10 = .ok (.ifCond .eq 10, 3) := by decide +kernel
theorem dX10_write_13 : decode cX10_write 13 = .ok (.aload_n 0, 1) := by decide +kernel
theorem dX10_write_14 : decode cX10_write 14 = .ok (.iload 5, 2) := by decide +kernel
theorem dX10_write_16 : decode cX10_write 16 = .ok (.invokevirtual 118, 3) := by decide +kernel
theorem dX10_write_19 : decode cX10_write 19 = .ok (.ireturn, 1) := by decide +kernel
theorem dX10_write_20 : decode cX10_write 20 = .ok (.aload_n 0, 1) := by decide +kernel
theorem dX10_write_21 : decode cX10_write 21 = .ok (.getfield 22, 3) := by decide +kernel
theorem dX10_write_24 : decode cX10_write 24 = .ok (.iload_n 1, 1) := by decide +kernel
theorem dX10_write_25 : decode cX10_write 25 = .ok (.aaload, 1) := by decide +kernel
theorem dX10_write_26 : decode cX10_write 26 = .ok (.iload_n 2, 1) := by decide +kernel
theorem dX10_write_27 : decode cX10_write 27 = .ok (.lload_n 3, 1) := by decide +kernel
theorem dX10_write_28 : decode cX10_write 28 = .ok (.invokevirtual 133, 3) := by decide +kernel
theorem dX10_write_31 : decode cX10_write 31 = .ok (.aload_n 0, 1) := by decide +kernel
theorem dX10_write_32 : decode cX10_write 32 = .ok (.invokevirtual 125, 3) := by decide +kernel
theorem dX10_write_35 : decode cX10_write 35 = .ok (.ireturn, 1) := by decide +kernel
theorem dX10_refuse_0 : decode cX10_refuse 0 = .ok (.aload_n 0, 1) := by decide +kernel
theorem dX10_refuse_1 : decode cX10_refuse 1 = .ok (.iload_n 1, 1) := by decide +kernel
theorem dX10_refuse_2 : decode cX10_refuse 2 = .ok (.putfield 9, 3) := by decide +kernel
theorem dX10_refuse_5 : decode cX10_refuse 5 = .ok (.iconst (-1), 1) := by decide +kernel
theorem dX10_refuse_6 : decode cX10_refuse 6 = .ok (.ireturn, 1) := by decide +kernel
theorem dX10_read_0 : decode cX10_read 0 = .ok (.aload_n 0, 1) := by decide +kernel
theorem dX10_read_1 : decode cX10_read 1 = .ok (.iload_n 1, 1) := by decide +kernel
theorem dX10_read_2 : decode cX10_read 2 = .ok (.iload_n 2, 1) := by decide +kernel
theorem dX10_read_3 : decode cX10_read 3 = .ok (.invokevirtual 129, 3) := by decide +kernel
theorem dX10_read_6 : decode cX10_read 6 = .ok (.istore_n 3, 1) := by decide +kernel
theorem dX10_read_7 : decode cX10_read 7 = .ok (.iload_n 3, 1) := by decide +kernel
theorem dX10_read_8 : decode cX10_read 8 = .ok (.ifCond .eq 10, 3) := by decide +kernel
theorem dX10_read_11 : decode cX10_read 11 = .ok (.aload_n 0, 1) := by decide +kernel
theorem dX10_read_12 : decode cX10_read 12 = .ok (.iload_n 3, 1) := by decide +kernel
theorem dX10_read_13 : decode cX10_read 13 = .ok (.invokevirtual 137, 3) := by decide +kernel
theorem dX10_read_16 : decode cX10_read 16 = .ok (.i2l, 1) := by decide +kernel
theorem dX10_read_17 : decode cX10_read 17 = .ok (.lreturn, 1) := by decide +kernel
theorem dX10_read_18 : decode cX10_read 18 = .ok (.aload_n 0, 1) := by decide +kernel
theorem dX10_read_19 : decode cX10_read 19 = .ok (.iconst 0, 1) := by decide +kernel
theorem dX10_read_20 : decode cX10_read 20 = .ok (.putfield 9, 3) := by decide +kernel
theorem dX10_read_23 : decode cX10_read 23 = .ok (.aload_n 0, 1) := by decide +kernel
theorem dX10_read_24 : decode cX10_read 24 = .ok (.getfield 22, 3) := by decide +kernel
theorem dX10_read_27 : decode cX10_read 27 = .ok (.iload_n 1, 1) := by decide +kernel
theorem dX10_read_28 : decode cX10_read 28 = .ok (.aaload, 1) := by decide +kernel
theorem dX10_read_29 : decode cX10_read 29 = .ok (.getfield 141, 3) := by decide +kernel
theorem dX10_read_32 : decode cX10_read 32 = .ok (.iload_n 2, 1) := by decide +kernel
theorem dX10_read_33 : decode cX10_read 33 = .ok (.laload, 1) := by decide +kernel
theorem dX10_read_34 : decode cX10_read 34 = .ok (.lreturn, 1) := by decide +kernel
theorem dX10_pour_0 : decode cX10_pour 0 = .ok (.iload_n 1, 1) := by decide +kernel
theorem dX10_pour_1 : decode cX10_pour 1 = .ok (.invokestatic 110, 3) := by decide +kernel
theorem dX10_pour_4 : decode cX10_pour 4 = .ok (.ifCond .eq 24, 3) := by decide +kernel
theorem dX10_pour_7 : decode cX10_pour 7 = .ok (.iload_n 3, 1) := by decide +kernel
theorem dX10_pour_8 : decode cX10_pour 8 = .ok (.invokestatic 110, 3) := by decide +kernel
theorem dX10_pour_11 : decode cX10_pour 11 = .ok (.ifCond .eq 17, 3) := by decide +kernel
theorem dX10_pour_14 : decode cX10_pour 14 = .ok (.iload_n 2, 1) := by decide +kernel
theorem dX10_pour_15 : decode cX10_pour 15 = .ok (.ifCond .lt 13, 3) := by decide +kernel
theorem dX10_pour_18 : decode cX10_pour 18 = .ok (.iload 4, 2) := by decide +kernel
theorem dX10_pour_20 : decode cX10_pour 20 = .ok (.ifCond .lt 8, 3) := by decide +kernel
theorem dX10_pour_23 : decode cX10_pour 23 = .ok (.iload 5, 2) := by decide +kernel
theorem dX10_pour_25 : decode cX10_pour 25 = .ok (.ifCond .ge 9, 3) := by decide +kernel
theorem dX10_pour_28 : decode cX10_pour 28 = .ok (.aload_n 0, 1) := by decide +kernel
theorem dX10_pour_29 : decode cX10_pour 29 = .ok (.iconst 1, 1) := by decide +kernel
theorem dX10_pour_30 : decode cX10_pour 30 = .ok (.invokevirtual 118, 3) := by decide +kernel
theorem dX10_pour_33 : decode cX10_pour 33 = .ok (.ireturn, 1) := by decide +kernel
theorem dX10_pour_34 : decode cX10_pour 34 = .ok (.aload_n 0, 1) := by decide +kernel
theorem dX10_pour_35 : decode cX10_pour 35 = .ok (.getfield 22, 3) := by decide +kernel
theorem dX10_pour_38 : decode cX10_pour 38 = .ok (.iload_n 1, 1) := by decide +kernel
theorem dX10_pour_39 : decode cX10_pour 39 = .ok (.aaload, 1) := by decide +kernel
theorem dX10_pour_40 : decode cX10_pour 40 = .ok (.astore 6, 2) := by decide +kernel
theorem dX10_pour_42 : decode cX10_pour 42 = .ok (.aload_n 0, 1) := by decide +kernel
theorem dX10_pour_43 : decode cX10_pour 43 = .ok (.getfield 22, 3) := by decide +kernel
theorem dX10_pour_46 : decode cX10_pour 46 = .ok (.iload_n 3, 1) := by decide +kernel
theorem dX10_pour_47 : decode cX10_pour 47 = .ok (.aaload, 1) := by decide +kernel
theorem dX10_pour_48 : decode cX10_pour 48 = .ok (.astore 7, 2) := by decide +kernel
theorem dX10_pour_50 : decode cX10_pour 50 = .ok (.aload 6, 2) := by decide +kernel
theorem dX10_pour_52 : decode cX10_pour 52 = .ok (.invokevirtual 145, 3) := by decide +kernel
theorem dX10_pour_55 : decode cX10_pour 55 = .ok (.ifCond .ne 11, 3) := by decide +kernel
theorem dX10_pour_58 : decode cX10_pour 58 = .ok (.aload 7, 2) := by decide +kernel
theorem dX10_pour_60 : decode cX10_pour 60 = .ok (.invokevirtual 145, 3) := by decide +kernel
theorem dX10_pour_63 : decode cX10_pour 63 = .ok (.ifCond .eq 9, 3) := by decide +kernel
theorem dX10_pour_66 : decode cX10_pour 66 = .ok (.aload_n 0, 1) := by decide +kernel
theorem dX10_pour_67 : decode cX10_pour 67 = .ok (.iconst 2, 1) := by decide +kernel
theorem dX10_pour_68 : decode cX10_pour 68 = .ok (.invokevirtual 118, 3) := by decide +kernel
theorem dX10_pour_71 : decode cX10_pour 71 = .ok (.ireturn, 1) := by decide +kernel
theorem dX10_pour_72 : decode cX10_pour 72 = .ok (.aload 6, 2) := by decide +kernel
theorem dX10_pour_74 : decode cX10_pour 74 = .ok (.getfield 148, 3) := by decide +kernel
theorem dX10_pour_77 : decode cX10_pour 77 = .ok (.aload 7, 2) := by decide +kernel
theorem dX10_pour_79 : decode cX10_pour 79 = .ok (.getfield 148, 3) := by decide +kernel
theorem dX10_pour_82 : decode cX10_pour 82 = .ok (.if_icmp .eq 10, 3) := by decide +kernel
theorem dX10_pour_85 : decode cX10_pour 85 = .ok (.aload_n 0, 1) := by decide +kernel
theorem dX10_pour_86 : decode cX10_pour 86 = .ok (.bipush 8, 2) := by decide +kernel
theorem dX10_pour_88 : decode cX10_pour 88 = .ok (.invokevirtual 118, 3) := by decide +kernel
theorem dX10_pour_91 : decode cX10_pour 91 = .ok (.ireturn, 1) := by decide +kernel
theorem dX10_pour_92 : decode cX10_pour 92 = .ok (.aload 6, 2) := by decide +kernel
theorem dX10_pour_94 : decode cX10_pour 94 = .ok (.iload_n 2, 1) := by decide +kernel
theorem dX10_pour_95 : decode cX10_pour 95 = .ok (.iload 5, 2) := by decide +kernel
theorem dX10_pour_97 : decode cX10_pour 97 = .ok (.invokevirtual 151, 3) := by decide +kernel
theorem dX10_pour_100 : decode cX10_pour 100 = .ok (.ifCond .eq 15, 3) := by decide +kernel
theorem dX10_pour_103 : decode cX10_pour 103 = .ok (.aload 7, 2) := by decide +kernel
theorem dX10_pour_105 : decode cX10_pour 105 = .ok (.iload 4, 2) := by decide +kernel
theorem dX10_pour_107 : decode cX10_pour 107 = .ok (.iload 5, 2) := by decide +kernel
theorem dX10_pour_109 : decode cX10_pour 109 = .ok (.invokevirtual 151, 3) := by decide +kernel
theorem dX10_pour_112 : decode cX10_pour 112 = .ok (.ifCond .ne 9, 3) := by decide +kernel
theorem dX10_pour_115 : decode cX10_pour 115 = .ok (.aload_n 0, 1) := by decide +kernel
theorem dX10_pour_116 : decode cX10_pour 116 = .ok (.iconst 3, 1) := by decide +kernel
theorem dX10_pour_117 : decode cX10_pour 117 = .ok (.invokevirtual 118, 3) := by decide +kernel
theorem dX10_pour_120 : decode cX10_pour 120 = .ok (.ireturn, 1) := by decide +kernel
theorem dX10_pour_121 : decode cX10_pour 121 = .ok (.aload 6, 2) := by decide +kernel
theorem dX10_pour_123 : decode cX10_pour 123 = .ok (.getfield 141, 3) := by decide +kernel
theorem dX10_pour_126 : decode cX10_pour 126 = .ok (.iload_n 2, 1) := by decide +kernel
theorem dX10_pour_127 : decode cX10_pour 127 = .ok (.aload 7, 2) := by decide +kernel
theorem dX10_pour_129 : decode cX10_pour 129 = .ok (.getfield 141, 3) := by decide +kernel
theorem dX10_pour_132 : decode cX10_pour 132 = .ok (.iload 4, 2) := by decide +kernel
theorem dX10_pour_134 : decode cX10_pour 134 = .ok (.iload 5, 2) := by decide +kernel
theorem dX10_pour_136 : decode cX10_pour 136 = .ok (.invokestatic 155, 3) := by decide +kernel
theorem dX10_pour_139 : decode cX10_pour 139 = .ok (.aload_n 0, 1) := by decide +kernel
theorem dX10_pour_140 : decode cX10_pour 140 = .ok (.invokevirtual 125, 3) := by decide +kernel
theorem dX10_pour_143 : decode cX10_pour 143 = .ok (.ireturn, 1) := by decide +kernel
theorem dX6_hasRoomFor_0 : decode cX6_hasRoomFor 0 = .ok (.aload_n 0, 1) := by decide +kernel
theorem dX6_hasRoomFor_1 : decode cX6_hasRoomFor 1 = .ok (.getfield 15, 3) := by decide +kernel
theorem dX6_hasRoomFor_4 : decode cX6_hasRoomFor 4 = .ok (.iload_n 1, 1) := by decide +kernel
theorem dX6_hasRoomFor_5 : decode cX6_hasRoomFor 5 = .ok (.iadd, 1) := by decide +kernel
theorem dX6_hasRoomFor_6 : decode cX6_hasRoomFor 6 = .ok (.sipush 900, 3) := by decide +kernel
theorem dX6_hasRoomFor_9 : decode cX6_hasRoomFor 9 = .ok (.if_icmp .gt 7, 3) := by decide +kernel
theorem dX6_hasRoomFor_12 : decode cX6_hasRoomFor 12 = .ok (.iconst 1, 1) := by decide +kernel
theorem dX6_hasRoomFor_13 : decode cX6_hasRoomFor 13 = .ok (.goto 4, 3) := by decide +kernel
theorem dX6_hasRoomFor_16 : decode cX6_hasRoomFor 16 = .ok (.iconst 0, 1) := by decide +kernel
theorem dX6_hasRoomFor_17 : decode cX6_hasRoomFor 17 = .ok (.ireturn, 1) := by decide +kernel
theorem dX6_addInt_0 : decode cX6_addInt 0 = .ok (.bipush 24, 2) := by decide +kernel
theorem dX6_addInt_2 : decode cX6_addInt 2 = .ok (.istore_n 2, 1) := by decide +kernel
theorem dX6_addInt_3 : decode cX6_addInt 3 = .ok (.iload_n 2, 1) := by decide +kernel
theorem dX6_addInt_4 : decode cX6_addInt 4 = .ok (.ifCond .lt 42, 3) := by decide +kernel
theorem dX6_addInt_7 : decode cX6_addInt 7 = .ok (.aload_n 0, 1) := by decide +kernel
theorem dX6_addInt_8 : decode cX6_addInt 8 = .ok (.getfield 15, 3) := by decide +kernel
theorem dX6_addInt_11 : decode cX6_addInt 11 = .ok (.sipush 900, 3) := by decide +kernel
theorem dX6_addInt_14 : decode cX6_addInt 14 = .ok (.if_icmp .ge 32, 3) := by decide +kernel
theorem dX6_addInt_17 : decode cX6_addInt 17 = .ok (.aload_n 0, 1) := by decide +kernel
theorem dX6_addInt_18 : decode cX6_addInt 18 = .ok (.getfield 9, 3) := by decide +kernel
theorem dX6_addInt_21 : decode cX6_addInt 21 = .ok (.aload_n 0, 1) := by decide +kernel
theorem dX6_addInt_22 : decode cX6_addInt 22 = .ok (.getfield 15, 3) := by decide +kernel
theorem dX6_addInt_25 : decode cX6_addInt 25 = .ok (.iload_n 1, 1) := by decide +kernel
theorem dX6_addInt_26 : decode cX6_addInt 26 = .ok (.iload_n 2, 1) := by decide +kernel
theorem dX6_addInt_27 : decode cX6_addInt 27 = .ok (.ishr, 1) := by decide +kernel
theorem dX6_addInt_28 : decode cX6_addInt 28 = .ok (.i2b, 1) := by decide +kernel
theorem dX6_addInt_29 : decode cX6_addInt 29 = .ok (.bastore, 1) := by decide +kernel
theorem dX6_addInt_30 : decode cX6_addInt 30 = .ok (.aload_n 0, 1) := by decide +kernel
theorem dX6_addInt_31 : decode cX6_addInt 31 = .ok (.dup, 1) := by decide +kernel
theorem dX6_addInt_32 : decode cX6_addInt 32 = .ok (.getfield 15, 3) := by decide +kernel
theorem dX6_addInt_35 : decode cX6_addInt 35 = .ok (.iconst 1, 1) := by decide +kernel
theorem dX6_addInt_36 : decode cX6_addInt 36 = .ok (.iadd, 1) := by decide +kernel
theorem dX6_addInt_37 : decode cX6_addInt 37 = .ok (.putfield 15, 3) := by decide +kernel
theorem dX6_addInt_40 : decode cX6_addInt 40 = .ok (.iinc 2 (-8), 3) := by decide +kernel
theorem dX6_addInt_43 : decode cX6_addInt 43 = .ok (.goto (-40), 3) := by decide +kernel
theorem dX6_addInt_46 : decode cX6_addInt 46 = .ok (.return_, 1) := by decide +kernel
theorem dX10_feed_0 : decode cX10_feed 0 = .ok (.aload_n 0, 1) := by decide +kernel
theorem dX10_feed_1 : decode cX10_feed 1 = .ok (.getfield 29, 3) := by decide +kernel
theorem dX10_feed_4 : decode cX10_feed 4 = .ok (.bipush 20, 2) := by decide +kernel
theorem dX10_feed_6 : decode cX10_feed 6 = .ok (.invokevirtual 161, 3) := by decide +kernel
theorem dX10_feed_9 : decode cX10_feed 9 = .ok (.ifCond .ne 5, 3) := by decide +kernel
theorem dX10_feed_12 : decode cX10_feed 12 = .ok (.iconst (-1), 1) := by decide +kernel
theorem dX10_feed_13 : decode cX10_feed 13 = .ok (.ireturn, 1) := by decide +kernel
theorem dX10_feed_14 : decode cX10_feed 14 = .ok (.aload_n 0, 1) := by decide +kernel
theorem dX10_feed_15 : decode cX10_feed 15 = .ok (.getfield 29, 3) := by decide +kernel
theorem dX10_feed_18 : decode cX10_feed 18 = .ok (.iload_n 1, 1) := by decide +kernel
theorem dX10_feed_19 : decode cX10_feed 19 = .ok (.invokevirtual 164, 3) := by decide +kernel
theorem dX10_feed_22 : decode cX10_feed 22 = .ok (.aload_n 0, 1) := by decide +kernel
theorem dX10_feed_23 : decode cX10_feed 23 = .ok (.getfield 29, 3) := by decide +kernel
theorem dX10_feed_26 : decode cX10_feed 26 = .ok (.iload_n 2, 1) := by decide +kernel
theorem dX10_feed_27 : decode cX10_feed 27 = .ok (.invokevirtual 164, 3) := by decide +kernel
theorem dX10_feed_30 : decode cX10_feed 30 = .ok (.aload_n 0, 1) := by decide +kernel
theorem dX10_feed_31 : decode cX10_feed 31 = .ok (.getfield 29, 3) := by decide +kernel
theorem dX10_feed_34 : decode cX10_feed 34 = .ok (.iload_n 3, 1) := by decide +kernel
theorem dX10_feed_35 : decode cX10_feed 35 = .ok (.invokevirtual 164, 3) := by decide +kernel
theorem dX10_feed_38 : decode cX10_feed 38 = .ok (.aload_n 0, 1) := by decide +kernel
theorem dX10_feed_39 : decode cX10_feed 39 = .ok (.getfield 29, 3) := by decide +kernel
theorem dX10_feed_42 : decode cX10_feed 42 = .ok (.iload 4, 2) := by decide +kernel
theorem dX10_feed_44 : decode cX10_feed 44 = .ok (.invokevirtual 164, 3) := by decide +kernel
theorem dX10_feed_47 : decode cX10_feed 47 = .ok (.aload_n 0, 1) := by decide +kernel
theorem dX10_feed_48 : decode cX10_feed 48 = .ok (.getfield 29, 3) := by decide +kernel
theorem dX10_feed_51 : decode cX10_feed 51 = .ok (.iload 5, 2) := by decide +kernel
theorem dX10_feed_53 : decode cX10_feed 53 = .ok (.invokevirtual 164, 3) := by decide +kernel
theorem dX10_feed_56 : decode cX10_feed 56 = .ok (.aload_n 0, 1) := by decide +kernel
theorem dX10_feed_57 : decode cX10_feed 57 = .ok (.getfield 29, 3) := by decide +kernel
theorem dX10_feed_60 : decode cX10_feed 60 = .ok (.getfield 168, 3) := by decide +kernel
theorem dX10_feed_63 : decode cX10_feed 63 = .ok (.ireturn, 1) := by decide +kernel
theorem dX6_isBlank_0 : decode cX6_isBlank 0 = .ok (.iload_n 0, 1) := by decide +kernel
theorem dX6_isBlank_1 : decode cX6_isBlank 1 = .ok (.bipush 32, 2) := by decide +kernel
theorem dX6_isBlank_3 : decode cX6_isBlank 3 = .ok (.if_icmp .eq 9, 3) := by decide +kernel
theorem dX6_isBlank_6 : decode cX6_isBlank 6 = .ok (.iload_n 0, 1) := by decide +kernel
theorem dX6_isBlank_7 : decode cX6_isBlank 7 = .ok (.bipush 10, 2) := by decide +kernel
theorem dX6_isBlank_9 : decode cX6_isBlank 9 = .ok (.if_icmp .ne 7, 3) := by decide +kernel
theorem dX6_isBlank_12 : decode cX6_isBlank 12 = .ok (.iconst 1, 1) := by decide +kernel
theorem dX6_isBlank_13 : decode cX6_isBlank 13 = .ok (.goto 4, 3) := by decide +kernel
theorem dX6_isBlank_16 : decode cX6_isBlank 16 = .ok (.iconst 0, 1) := by decide +kernel
theorem dX6_isBlank_17 : decode cX6_isBlank 17 = .ok (.ireturn, 1) := by decide +kernel
theorem dX6_isLetter_0 : decode cX6_isLetter 0 = .ok (.iload_n 0, 1) := by decide +kernel
theorem dX6_isLetter_1 : decode cX6_isLetter 1 = .ok (.bipush 97, 2) := by decide +kernel
theorem dX6_isLetter_3 : decode cX6_isLetter 3 = .ok (.if_icmp .lt 13, 3) := by decide +kernel
theorem dX6_isLetter_6 : decode cX6_isLetter 6 = .ok (.iload_n 0, 1) := by decide +kernel
theorem dX6_isLetter_7 : decode cX6_isLetter 7 = .ok (.bipush 122, 2) := by decide +kernel
theorem dX6_isLetter_9 : decode cX6_isLetter 9 = .ok (.if_icmp .gt 7, 3) := by decide +kernel
theorem dX6_isLetter_12 : decode cX6_isLetter 12 = .ok (.iconst 1, 1) := by decide +kernel
theorem dX6_isLetter_13 : decode cX6_isLetter 13 = .ok (.goto 4, 3) := by decide +kernel
theorem dX6_isLetter_16 : decode cX6_isLetter 16 = .ok (.iconst 0, 1) := by decide +kernel
theorem dX6_isLetter_17 : decode cX6_isLetter 17 = .ok (.ireturn, 1) := by decide +kernel
theorem dX6_isSpelt_0 : decode cX6_isSpelt 0 = .ok (.iload_n 2, 1) := by decide +kernel
theorem dX6_isSpelt_1 : decode cX6_isSpelt 1 = .ok (.istore 4, 2) := by decide +kernel
theorem dX6_isSpelt_3 : decode cX6_isSpelt 3 = .ok (.iload 4, 2) := by decide +kernel
theorem dX6_isSpelt_5 : decode cX6_isSpelt 5 = .ok (.iload_n 3, 1) := by decide +kernel
theorem dX6_isSpelt_6 : decode cX6_isSpelt 6 = .ok (.if_icmp .ge 32, 3) := by decide +kernel
theorem dX6_isSpelt_9 : decode cX6_isSpelt 9 = .ok (.aload_n 0, 1) := by decide +kernel
theorem dX6_isSpelt_10 : decode cX6_isSpelt 10 = .ok (.getfield 9, 3) := by decide +kernel
theorem dX6_isSpelt_13 : decode cX6_isSpelt 13 = .ok (.iload 4, 2) := by decide +kernel
theorem dX6_isSpelt_15 : decode cX6_isSpelt 15 = .ok (.baload, 1) := by decide +kernel
theorem dX6_isSpelt_16 : decode cX6_isSpelt 16 = .ok (.ldc 78, 2) := by decide +kernel
theorem dX6_isSpelt_18 : decode cX6_isSpelt 18 = .ok (.iload_n 1, 1) := by decide +kernel
theorem dX6_isSpelt_19 : decode cX6_isSpelt 19 = .ok (.iload 4, 2) := by decide +kernel
theorem dX6_isSpelt_21 : decode cX6_isSpelt 21 = .ok (.iadd, 1) := by decide +kernel
theorem dX6_isSpelt_22 : decode cX6_isSpelt 22 = .ok (.iload_n 2, 1) := by decide +kernel
theorem dX6_isSpelt_23 : decode cX6_isSpelt 23 = .ok (.isub, 1) := by decide +kernel
theorem dX6_isSpelt_24 : decode cX6_isSpelt 24 = .ok (.invokevirtual 86, 3) := by decide +kernel
theorem dX6_isSpelt_27 : decode cX6_isSpelt 27 = .ok (.if_icmp .eq 5, 3) := by decide +kernel
theorem dX6_isSpelt_30 : decode cX6_isSpelt 30 = .ok (.iconst 0, 1) := by decide +kernel
theorem dX6_isSpelt_31 : decode cX6_isSpelt 31 = .ok (.ireturn, 1) := by decide +kernel
theorem dX6_isSpelt_32 : decode cX6_isSpelt 32 = .ok (.iinc 4 1, 3) := by decide +kernel
theorem dX6_isSpelt_35 : decode cX6_isSpelt 35 = .ok (.goto (-32), 3) := by decide +kernel
theorem dX6_isSpelt_38 : decode cX6_isSpelt 38 = .ok (.iconst 1, 1) := by decide +kernel
theorem dX6_isSpelt_39 : decode cX6_isSpelt 39 = .ok (.ireturn, 1) := by decide +kernel
theorem dX6_keptWord_0 : decode cX6_keptWord 0 = .ok (.iconst 0, 1) := by decide +kernel
theorem dX6_keptWord_1 : decode cX6_keptWord 1 = .ok (.istore_n 3, 1) := by decide +kernel
theorem dX6_keptWord_2 : decode cX6_keptWord 2 = .ok (.iconst 0, 1) := by decide +kernel
theorem dX6_keptWord_3 : decode cX6_keptWord 3 = .ok (.istore 4, 2) := by decide +kernel
theorem dX6_keptWord_5 : decode cX6_keptWord 5 = .ok (.iconst 0, 1) := by decide +kernel
theorem dX6_keptWord_6 : decode cX6_keptWord 6 = .ok (.istore 5, 2) := by decide +kernel
theorem dX6_keptWord_8 : decode cX6_keptWord 8 = .ok (.iload 5, 2) := by decide +kernel
theorem dX6_keptWord_10 : decode cX6_keptWord 10 = .ok (.ldc 78, 2) := by decide +kernel
theorem dX6_keptWord_12 : decode cX6_keptWord 12 = .ok (.invokevirtual 80, 3) := by decide +kernel
theorem dX6_keptWord_15 : decode cX6_keptWord 15 = .ok (.if_icmp .ge 54, 3) := by decide +kernel
theorem dX6_keptWord_18 : decode cX6_keptWord 18 = .ok (.ldc 78, 2) := by decide +kernel
theorem dX6_keptWord_20 : decode cX6_keptWord 20 = .ok (.iload 5, 2) := by decide +kernel
theorem dX6_keptWord_22 : decode cX6_keptWord 22 = .ok (.invokevirtual 86, 3) := by decide +kernel
theorem dX6_keptWord_25 : decode cX6_keptWord 25 = .ok (.bipush 32, 2) := by decide +kernel
theorem dX6_keptWord_27 : decode cX6_keptWord 27 = .ok (.if_icmp .ne 36, 3) := by decide +kernel
theorem dX6_keptWord_30 : decode cX6_keptWord 30 = .ok (.iload 5, 2) := by decide +kernel
theorem dX6_keptWord_32 : decode cX6_keptWord 32 = .ok (.iload 4, 2) := by decide +kernel
theorem dX6_keptWord_34 : decode cX6_keptWord 34 = .ok (.isub, 1) := by decide +kernel
theorem dX6_keptWord_35 : decode cX6_keptWord 35 = .ok (.iload_n 2, 1) := by decide +kernel
theorem dX6_keptWord_36 : decode cX6_keptWord 36 = .ok (.iload_n 1, 1) := by decide +kernel
theorem dX6_keptWord_37 : decode cX6_keptWord 37 = .ok (.isub, 1) := by decide +kernel
theorem dX6_keptWord_38 : decode cX6_keptWord 38 = .ok (.if_icmp .ne 16, 3) := by decide +kernel
theorem dX6_keptWord_41 : decode cX6_keptWord 41 = .ok (.aload_n 0, 1) := by decide +kernel
theorem dX6_keptWord_42 : decode cX6_keptWord 42 = .ok (.iload 4, 2) := by decide +kernel
theorem dX6_keptWord_44 : decode cX6_keptWord 44 = .ok (.iload_n 1, 1) := by decide +kernel
theorem dX6_keptWord_45 : decode cX6_keptWord 45 = .ok (.iload_n 2, 1) := by decide +kernel
theorem dX6_keptWord_46 : decode cX6_keptWord 46 = .ok (.invokevirtual 90, 3) := by decide +kernel
theorem dX6_keptWord_49 : decode cX6_keptWord 49 = .ok (.ifCond .eq 5, 3) := by decide +kernel
theorem dX6_keptWord_52 : decode cX6_keptWord 52 = .ok (.iload_n 3, 1) := by decide +kernel
theorem dX6_keptWord_53 : decode cX6_keptWord 53 = .ok (.ireturn, 1) := by decide +kernel
theorem dX6_keptWord_54 : decode cX6_keptWord 54 = .ok (.iinc 3 1, 3) := by decide +kernel
theorem dX6_keptWord_57 : decode cX6_keptWord 57 = .ok (.iload 5, 2) := by decide +kernel
theorem dX6_keptWord_59 : decode cX6_keptWord 59 = .ok (.iconst 1, 1) := by decide +kernel
theorem dX6_keptWord_60 : decode cX6_keptWord 60 = .ok (.iadd, 1) := by decide +kernel
theorem dX6_keptWord_61 : decode cX6_keptWord 61 = .ok (.istore 4, 2) := by decide +kernel
theorem dX6_keptWord_63 : decode cX6_keptWord 63 = .ok (.iinc 5 1, 3) := by decide +kernel
theorem dX6_keptWord_66 : decode cX6_keptWord 66 = .ok (.goto (-58), 3) := by decide +kernel
theorem dX6_keptWord_69 : decode cX6_keptWord 69 = .ok (.iconst (-1), 1) := by decide +kernel
theorem dX6_keptWord_70 : decode cX6_keptWord 70 = .ok (.ireturn, 1) := by decide +kernel
theorem dX6_addToken_0 : decode cX6_addToken 0 = .ok (.aload_n 0, 1) := by decide +kernel
theorem dX6_addToken_1 : decode cX6_addToken 1 = .ok (.getfield 19, 3) := by decide +kernel
theorem dX6_addToken_4 : decode cX6_addToken 4 = .ok (.aload_n 0, 1) := by decide +kernel
theorem dX6_addToken_5 : decode cX6_addToken 5 = .ok (.getfield 33, 3) := by decide +kernel
theorem dX6_addToken_8 : decode cX6_addToken 8 = .ok (.iload_n 1, 1) := by decide +kernel
theorem dX6_addToken_9 : decode cX6_addToken 9 = .ok (.iastore, 1) := by decide +kernel
theorem dX6_addToken_10 : decode cX6_addToken 10 = .ok (.aload_n 0, 1) := by decide +kernel
theorem dX6_addToken_11 : decode cX6_addToken 11 = .ok (.getfield 23, 3) := by decide +kernel
theorem dX6_addToken_14 : decode cX6_addToken 14 = .ok (.aload_n 0, 1) := by decide +kernel
theorem dX6_addToken_15 : decode cX6_addToken 15 = .ok (.getfield 33, 3) := by decide +kernel
theorem dX6_addToken_18 : decode cX6_addToken 18 = .ok (.iload_n 2, 1) := by decide +kernel
theorem dX6_addToken_19 : decode cX6_addToken 19 = .ok (.iastore, 1) := by decide +kernel
theorem dX6_addToken_20 : decode cX6_addToken 20 = .ok (.aload_n 0, 1) := by decide +kernel
theorem dX6_addToken_21 : decode cX6_addToken 21 = .ok (.getfield 26, 3) := by decide +kernel
theorem dX6_addToken_24 : decode cX6_addToken 24 = .ok (.aload_n 0, 1) := by decide +kernel
theorem dX6_addToken_25 : decode cX6_addToken 25 = .ok (.getfield 33, 3) := by decide +kernel
theorem dX6_addToken_28 : decode cX6_addToken 28 = .ok (.iload_n 3, 1) := by decide +kernel
theorem dX6_addToken_29 : decode cX6_addToken 29 = .ok (.iastore, 1) := by decide +kernel
theorem dX6_addToken_30 : decode cX6_addToken 30 = .ok (.aload_n 0, 1) := by decide +kernel
theorem dX6_addToken_31 : decode cX6_addToken 31 = .ok (.getfield 29, 3) := by decide +kernel
theorem dX6_addToken_34 : decode cX6_addToken 34 = .ok (.aload_n 0, 1) := by decide +kernel
theorem dX6_addToken_35 : decode cX6_addToken 35 = .ok (.getfield 33, 3) := by decide +kernel
theorem dX6_addToken_38 : decode cX6_addToken 38 = .ok (.lload 4, 2) := by decide +kernel
theorem dX6_addToken_40 : decode cX6_addToken 40 = .ok (.lastore, 1) := by decide +kernel
theorem dX6_addToken_41 : decode cX6_addToken 41 = .ok (.aload_n 0, 1) := by decide +kernel
theorem dX6_addToken_42 : decode cX6_addToken 42 = .ok (.dup, 1) := by decide +kernel
theorem dX6_addToken_43 : decode cX6_addToken 43 = .ok (.getfield 33, 3) := by decide +kernel
theorem dX6_addToken_46 : decode cX6_addToken 46 = .ok (.iconst 1, 1) := by decide +kernel
theorem dX6_addToken_47 : decode cX6_addToken 47 = .ok (.iadd, 1) := by decide +kernel
theorem dX6_addToken_48 : decode cX6_addToken 48 = .ok (.putfield 33, 3) := by decide +kernel
theorem dX6_addToken_51 : decode cX6_addToken 51 = .ok (.return_, 1) := by decide +kernel
theorem dX6_readWord_0 : decode cX6_readWord 0 = .ok (.iload_n 1, 1) := by decide +kernel
theorem dX6_readWord_1 : decode cX6_readWord 1 = .ok (.istore_n 3, 1) := by decide +kernel
theorem dX6_readWord_2 : decode cX6_readWord 2 = .ok (.lconst 0, 1) := by decide +kernel
theorem dX6_readWord_3 : decode cX6_readWord 3 = .ok (.lstore 4, 2) := by decide +kernel
theorem dX6_readWord_5 : decode cX6_readWord 5 = .ok (.iload_n 3, 1) := by decide +kernel
theorem dX6_readWord_6 : decode cX6_readWord 6 = .ok (.iload_n 2, 1) := by decide +kernel
theorem dX6_readWord_7 : decode cX6_readWord 7 = .ok (.if_icmp .ge 54, 3) := by decide +kernel
theorem dX6_readWord_10 : decode cX6_readWord 10 = .ok (.aload_n 0, 1) := by decide +kernel
theorem dX6_readWord_11 : decode cX6_readWord 11 = .ok (.getfield 9, 3) := by decide +kernel
theorem dX6_readWord_14 : decode cX6_readWord 14 = .ok (.iload_n 3, 1) := by decide +kernel
theorem dX6_readWord_15 : decode cX6_readWord 15 = .ok (.baload, 1) := by decide +kernel
theorem dX6_readWord_16 : decode cX6_readWord 16 = .ok (.invokestatic 61, 3) := by decide +kernel
theorem dX6_readWord_19 : decode cX6_readWord 19 = .ok (.ifCond .eq 42, 3) := by decide +kernel
theorem dX6_readWord_22 : decode cX6_readWord 22 = .ok (.iload_n 3, 1) := by decide +kernel
theorem dX6_readWord_23 : decode cX6_readWord 23 = .ok (.iload_n 1, 1) := by decide +kernel
theorem dX6_readWord_24 : decode cX6_readWord 24 = .ok (.isub, 1) := by decide +kernel
theorem dX6_readWord_25 : decode cX6_readWord 25 = .ok (.bipush 8, 2) := by decide +kernel
theorem dX6_readWord_27 : decode cX6_readWord 27 = .ok (.if_icmp .ge 25, 3) := by decide +kernel
theorem dX6_readWord_30 : decode cX6_readWord 30 = .ok (.lload 4, 2) := by decide +kernel
theorem dX6_readWord_32 : decode cX6_readWord 32 = .ok (.ldc2_w 73, 3) := by decide +kernel
theorem dX6_readWord_35 : decode cX6_readWord 35 = .ok (.lmul, 1) := by decide +kernel
theorem dX6_readWord_36 : decode cX6_readWord 36 = .ok (.aload_n 0, 1) := by decide +kernel
theorem dX6_readWord_37 : decode cX6_readWord 37 = .ok (.getfield 9, 3) := by decide +kernel
theorem dX6_readWord_40 : decode cX6_readWord 40 = .ok (.iload_n 3, 1) := by decide +kernel
theorem dX6_readWord_41 : decode cX6_readWord 41 = .ok (.baload, 1) := by decide +kernel
theorem dX6_readWord_42 : decode cX6_readWord 42 = .ok (.bipush 97, 2) := by decide +kernel
theorem dX6_readWord_44 : decode cX6_readWord 44 = .ok (.isub, 1) := by decide +kernel
theorem dX6_readWord_45 : decode cX6_readWord 45 = .ok (.iconst 1, 1) := by decide +kernel
theorem dX6_readWord_46 : decode cX6_readWord 46 = .ok (.iadd, 1) := by decide +kernel
theorem dX6_readWord_47 : decode cX6_readWord 47 = .ok (.i2l, 1) := by decide +kernel
theorem dX6_readWord_48 : decode cX6_readWord 48 = .ok (.ladd, 1) := by decide +kernel
theorem dX6_readWord_49 : decode cX6_readWord 49 = .ok (.goto 4, 3) := by decide +kernel
theorem dX6_readWord_52 : decode cX6_readWord 52 = .ok (.lconst 0, 1) := by decide +kernel
theorem dX6_readWord_53 : decode cX6_readWord 53 = .ok (.lstore 4, 2) := by decide +kernel
theorem dX6_readWord_55 : decode cX6_readWord 55 = .ok (.iinc 3 1, 3) := by decide +kernel
theorem dX6_readWord_58 : decode cX6_readWord 58 = .ok (.goto (-53), 3) := by decide +kernel
theorem dX6_readWord_61 : decode cX6_readWord 61 = .ok (.iload_n 3, 1) := by decide +kernel
theorem dX6_readWord_62 : decode cX6_readWord 62 = .ok (.iload_n 1, 1) := by decide +kernel
theorem dX6_readWord_63 : decode cX6_readWord 63 = .ok (.isub, 1) := by decide +kernel
theorem dX6_readWord_64 : decode cX6_readWord 64 = .ok (.bipush 8, 2) := by decide +kernel
theorem dX6_readWord_66 : decode cX6_readWord 66 = .ok (.if_icmp .le 6, 3) := by decide +kernel
theorem dX6_readWord_69 : decode cX6_readWord 69 = .ok (.lconst 0, 1) := by decide +kernel
theorem dX6_readWord_70 : decode cX6_readWord 70 = .ok (.lstore 4, 2) := by decide +kernel
theorem dX6_readWord_72 : decode cX6_readWord 72 = .ok (.aload_n 0, 1) := by decide +kernel
theorem dX6_readWord_73 : decode cX6_readWord 73 = .ok (.iconst 1, 1) := by decide +kernel
theorem dX6_readWord_74 : decode cX6_readWord 74 = .ok (.iload_n 1, 1) := by decide +kernel
theorem dX6_readWord_75 : decode cX6_readWord 75 = .ok (.aload_n 0, 1) := by decide +kernel
theorem dX6_readWord_76 : decode cX6_readWord 76 = .ok (.iload_n 1, 1) := by decide +kernel
theorem dX6_readWord_77 : decode cX6_readWord 77 = .ok (.iload_n 3, 1) := by decide +kernel
theorem dX6_readWord_78 : decode cX6_readWord 78 = .ok (.invokevirtual 75, 3) := by decide +kernel
theorem dX6_readWord_81 : decode cX6_readWord 81 = .ok (.lload 4, 2) := by decide +kernel
theorem dX6_readWord_83 : decode cX6_readWord 83 = .ok (.invokevirtual 57, 3) := by decide +kernel
theorem dX6_readWord_86 : decode cX6_readWord 86 = .ok (.iload_n 3, 1) := by decide +kernel
theorem dX6_readWord_87 : decode cX6_readWord 87 = .ok (.ireturn, 1) := by decide +kernel
theorem dX6_isDigit_0 : decode cX6_isDigit 0 = .ok (.iload_n 0, 1) := by decide +kernel
theorem dX6_isDigit_1 : decode cX6_isDigit 1 = .ok (.bipush 48, 2) := by decide +kernel
theorem dX6_isDigit_3 : decode cX6_isDigit 3 = .ok (.if_icmp .lt 13, 3) := by decide +kernel
theorem dX6_isDigit_6 : decode cX6_isDigit 6 = .ok (.iload_n 0, 1) := by decide +kernel
theorem dX6_isDigit_7 : decode cX6_isDigit 7 = .ok (.bipush 57, 2) := by decide +kernel
theorem dX6_isDigit_9 : decode cX6_isDigit 9 = .ok (.if_icmp .gt 7, 3) := by decide +kernel
theorem dX6_isDigit_12 : decode cX6_isDigit 12 = .ok (.iconst 1, 1) := by decide +kernel
theorem dX6_isDigit_13 : decode cX6_isDigit 13 = .ok (.goto 4, 3) := by decide +kernel
theorem dX6_isDigit_16 : decode cX6_isDigit 16 = .ok (.iconst 0, 1) := by decide +kernel
theorem dX6_isDigit_17 : decode cX6_isDigit 17 = .ok (.ireturn, 1) := by decide +kernel
theorem dX6_readNumber_0 : decode cX6_readNumber 0 = .ok (.iload_n 1, 1) := by decide +kernel
theorem dX6_readNumber_1 : decode cX6_readNumber 1 = .ok (.istore_n 3, 1) := by decide +kernel
theorem dX6_readNumber_2 : decode cX6_readNumber 2 = .ok (.iconst 0, 1) := by decide +kernel
theorem dX6_readNumber_3 : decode cX6_readNumber 3 = .ok (.istore 4, 2) := by decide +kernel
theorem dX6_readNumber_5 : decode cX6_readNumber 5 = .ok (.iload_n 3, 1) := by decide +kernel
theorem dX6_readNumber_6 : decode cX6_readNumber 6 = .ok (.iload_n 2, 1) := by decide +kernel
theorem dX6_readNumber_7 : decode cX6_readNumber 7 = .ok (.if_icmp .ge 49, 3) := by decide +kernel
theorem dX6_readNumber_10 : decode cX6_readNumber 10 = .ok (.aload_n 0, 1) := by decide +kernel
theorem dX6_readNumber_11 : decode cX6_readNumber 11 = .ok (.getfield 9, 3) := by decide +kernel
theorem dX6_readNumber_14 : decode cX6_readNumber 14 = .ok (.iload_n 3, 1) := by decide +kernel
theorem dX6_readNumber_15 : decode cX6_readNumber 15 = .ok (.baload, 1) := by decide +kernel
theorem dX6_readNumber_16 : decode cX6_readNumber 16 = .ok (.invokestatic 67, 3) := by decide +kernel
theorem dX6_readNumber_19 : decode cX6_readNumber 19 = .ok (.ifCond .eq 37, 3) := by decide +kernel
theorem dX6_readNumber_22 : decode cX6_readNumber 22 = .ok (.iload_n 3, 1) := by decide +kernel
theorem dX6_readNumber_23 : decode cX6_readNumber 23 = .ok (.iload_n 1, 1) := by decide +kernel
theorem dX6_readNumber_24 : decode cX6_readNumber 24 = .ok (.isub, 1) := by decide +kernel
theorem dX6_readNumber_25 : decode cX6_readNumber 25 = .ok (.iconst 4, 1) := by decide +kernel
theorem dX6_readNumber_26 : decode cX6_readNumber 26 = .ok (.if_icmp .ge 21, 3) := by decide +kernel
theorem dX6_readNumber_29 : decode cX6_readNumber 29 = .ok (.iload 4, 2) := by decide +kernel
theorem dX6_readNumber_31 : decode cX6_readNumber 31 = .ok (.bipush 10, 2) := by decide +kernel
theorem dX6_readNumber_33 : decode cX6_readNumber 33 = .ok (.imul, 1) := by decide +kernel
theorem dX6_readNumber_34 : decode cX6_readNumber 34 = .ok (.aload_n 0, 1) := by decide +kernel
theorem dX6_readNumber_35 : decode cX6_readNumber 35 = .ok (.getfield 9, 3) := by decide +kernel
theorem dX6_readNumber_38 : decode cX6_readNumber 38 = .ok (.iload_n 3, 1) := by decide +kernel
theorem dX6_readNumber_39 : decode cX6_readNumber 39 = .ok (.baload, 1) := by decide +kernel
theorem dX6_readNumber_40 : decode cX6_readNumber 40 = .ok (.bipush 48, 2) := by decide +kernel
theorem dX6_readNumber_42 : decode cX6_readNumber 42 = .ok (.isub, 1) := by decide +kernel
theorem dX6_readNumber_43 : decode cX6_readNumber 43 = .ok (.iadd, 1) := by decide +kernel
theorem dX6_readNumber_44 : decode cX6_readNumber 44 = .ok (.goto 4, 3) := by decide +kernel
theorem dX6_readNumber_47 : decode cX6_readNumber 47 = .ok (.iconst 0, 1) := by decide +kernel
theorem dX6_readNumber_48 : decode cX6_readNumber 48 = .ok (.istore 4, 2) := by decide +kernel
theorem dX6_readNumber_50 : decode cX6_readNumber 50 = .ok (.iinc 3 1, 3) := by decide +kernel
theorem dX6_readNumber_53 : decode cX6_readNumber 53 = .ok (.goto (-48), 3) := by decide +kernel
theorem dX6_readNumber_56 : decode cX6_readNumber 56 = .ok (.aload_n 0, 1) := by decide +kernel
theorem dX6_readNumber_57 : decode cX6_readNumber 57 = .ok (.iload_n 3, 1) := by decide +kernel
theorem dX6_readNumber_58 : decode cX6_readNumber 58 = .ok (.iload_n 1, 1) := by decide +kernel
theorem dX6_readNumber_59 : decode cX6_readNumber 59 = .ok (.isub, 1) := by decide +kernel
theorem dX6_readNumber_60 : decode cX6_readNumber 60 = .ok (.iconst 4, 1) := by decide +kernel
theorem dX6_readNumber_61 : decode cX6_readNumber 61 = .ok (.if_icmp .le 7, 3) := by decide +kernel
theorem dX6_readNumber_64 : decode cX6_readNumber 64 = .ok (.iconst 4, 1) := by decide +kernel
theorem dX6_readNumber_65 : decode cX6_readNumber 65 = .ok (.goto 4, 3) := by decide +kernel
theorem dX6_readNumber_68 : decode cX6_readNumber 68 = .ok (.iconst 2, 1) := by decide +kernel
theorem dX6_readNumber_69 : decode cX6_readNumber 69 = .ok (.iload_n 1, 1) := by decide +kernel
theorem dX6_readNumber_70 : decode cX6_readNumber 70 = .ok (.iload 4, 2) := by decide +kernel
theorem dX6_readNumber_72 : decode cX6_readNumber 72 = .ok (.lconst 0, 1) := by decide +kernel
theorem dX6_readNumber_73 : decode cX6_readNumber 73 = .ok (.invokevirtual 57, 3) := by decide +kernel
theorem dX6_readNumber_76 : decode cX6_readNumber 76 = .ok (.iload_n 3, 1) := by decide +kernel
theorem dX6_readNumber_77 : decode cX6_readNumber 77 = .ok (.ireturn, 1) := by decide +kernel
theorem dX6_readToken_0 : decode cX6_readToken 0 = .ok (.aload_n 0, 1) := by decide +kernel
theorem dX6_readToken_1 : decode cX6_readToken 1 = .ok (.getfield 9, 3) := by decide +kernel
theorem dX6_readToken_4 : decode cX6_readToken 4 = .ok (.iload_n 1, 1) := by decide +kernel
theorem dX6_readToken_5 : decode cX6_readToken 5 = .ok (.baload, 1) := by decide +kernel
theorem dX6_readToken_6 : decode cX6_readToken 6 = .ok (.istore_n 3, 1) := by decide +kernel
theorem dX6_readToken_7 : decode cX6_readToken 7 = .ok (.iload_n 3, 1) := by decide +kernel
theorem dX6_readToken_8 : decode cX6_readToken 8 = .ok (.invokestatic 61, 3) := by decide +kernel
theorem dX6_readToken_11 : decode cX6_readToken 11 = .ok (.ifCond .eq 10, 3) := by decide +kernel
theorem dX6_readToken_14 : decode cX6_readToken 14 = .ok (.aload_n 0, 1) := by decide +kernel
theorem dX6_readToken_15 : decode cX6_readToken 15 = .ok (.iload_n 1, 1) := by decide +kernel
theorem dX6_readToken_16 : decode cX6_readToken 16 = .ok (.iload_n 2, 1) := by decide +kernel
theorem dX6_readToken_17 : decode cX6_readToken 17 = .ok (.invokevirtual 64, 3) := by decide +kernel
theorem dX6_readToken_20 : decode cX6_readToken 20 = .ok (.ireturn, 1) := by decide +kernel
theorem dX6_readToken_21 : decode cX6_readToken 21 = .ok (.iload_n 3, 1) := by decide +kernel
theorem dX6_readToken_22 : decode cX6_readToken 22 = .ok (.invokestatic 67, 3) := by decide +kernel
theorem dX6_readToken_25 : decode cX6_readToken 25 = .ok (.ifCond .eq 10, 3) := by decide +kernel
theorem dX6_readToken_28 : decode cX6_readToken 28 = .ok (.aload_n 0, 1) := by decide +kernel
theorem dX6_readToken_29 : decode cX6_readToken 29 = .ok (.iload_n 1, 1) := by decide +kernel
theorem dX6_readToken_30 : decode cX6_readToken 30 = .ok (.iload_n 2, 1) := by decide +kernel
theorem dX6_readToken_31 : decode cX6_readToken 31 = .ok (.invokevirtual 70, 3) := by decide +kernel
theorem dX6_readToken_34 : decode cX6_readToken 34 = .ok (.ireturn, 1) := by decide +kernel
theorem dX6_readToken_35 : decode cX6_readToken 35 = .ok (.iload_n 3, 1) := by decide +kernel
theorem dX6_readToken_36 : decode cX6_readToken 36 = .ok (.bipush 59, 2) := by decide +kernel
theorem dX6_readToken_38 : decode cX6_readToken 38 = .ok (.if_icmp .eq 21, 3) := by decide +kernel
theorem dX6_readToken_41 : decode cX6_readToken 41 = .ok (.iload_n 3, 1) := by decide +kernel
theorem dX6_readToken_42 : decode cX6_readToken 42 = .ok (.bipush 60, 2) := by decide +kernel
theorem dX6_readToken_44 : decode cX6_readToken 44 = .ok (.if_icmp .eq 15, 3) := by decide +kernel
theorem dX6_readToken_47 : decode cX6_readToken 47 = .ok (.iload_n 3, 1) := by decide +kernel
theorem dX6_readToken_48 : decode cX6_readToken 48 = .ok (.bipush 62, 2) := by decide +kernel
theorem dX6_readToken_50 : decode cX6_readToken 50 = .ok (.if_icmp .eq 9, 3) := by decide +kernel
theorem dX6_readToken_53 : decode cX6_readToken 53 = .ok (.iload_n 3, 1) := by decide +kernel
theorem dX6_readToken_54 : decode cX6_readToken 54 = .ok (.bipush 61, 2) := by decide +kernel
theorem dX6_readToken_56 : decode cX6_readToken 56 = .ok (.if_icmp .ne 7, 3) := by decide +kernel
theorem dX6_readToken_59 : decode cX6_readToken 59 = .ok (.iconst 1, 1) := by decide +kernel
theorem dX6_readToken_60 : decode cX6_readToken 60 = .ok (.goto 4, 3) := by decide +kernel
theorem dX6_readToken_63 : decode cX6_readToken 63 = .ok (.iconst 0, 1) := by decide +kernel
theorem dX6_readToken_64 : decode cX6_readToken 64 = .ok (.istore 4, 2) := by decide +kernel
theorem dX6_readToken_66 : decode cX6_readToken 66 = .ok (.aload_n 0, 1) := by decide +kernel
theorem dX6_readToken_67 : decode cX6_readToken 67 = .ok (.iload 4, 2) := by decide +kernel
theorem dX6_readToken_69 : decode cX6_readToken 69 = .ok (.ifCond .eq 7, 3) := by decide +kernel
theorem dX6_readToken_72 : decode cX6_readToken 72 = .ok (.iconst 3, 1) := by decide +kernel
theorem dX6_readToken_73 : decode cX6_readToken 73 = .ok (.goto 4, 3) := by decide +kernel
theorem dX6_readToken_76 : decode cX6_readToken 76 = .ok (.iconst 4, 1) := by decide +kernel
theorem dX6_readToken_77 : decode cX6_readToken 77 = .ok (.iload_n 1, 1) := by decide +kernel
theorem dX6_readToken_78 : decode cX6_readToken 78 = .ok (.iload_n 3, 1) := by decide +kernel
theorem dX6_readToken_79 : decode cX6_readToken 79 = .ok (.lconst 0, 1) := by decide +kernel
theorem dX6_readToken_80 : decode cX6_readToken 80 = .ok (.invokevirtual 57, 3) := by decide +kernel
theorem dX6_readToken_83 : decode cX6_readToken 83 = .ok (.iload_n 1, 1) := by decide +kernel
theorem dX6_readToken_84 : decode cX6_readToken 84 = .ok (.iconst 1, 1) := by decide +kernel
theorem dX6_readToken_85 : decode cX6_readToken 85 = .ok (.iadd, 1) := by decide +kernel
theorem dX6_readToken_86 : decode cX6_readToken 86 = .ok (.ireturn, 1) := by decide +kernel
theorem dX6_begin_0 : decode cX6_begin 0 = .ok (.aload_n 0, 1) := by decide +kernel
theorem dX6_begin_1 : decode cX6_begin 1 = .ok (.iconst 0, 1) := by decide +kernel
theorem dX6_begin_2 : decode cX6_begin 2 = .ok (.putfield 33, 3) := by decide +kernel
theorem dX6_begin_5 : decode cX6_begin 5 = .ok (.aload_n 0, 1) := by decide +kernel
theorem dX6_begin_6 : decode cX6_begin 6 = .ok (.iconst 0, 1) := by decide +kernel
theorem dX6_begin_7 : decode cX6_begin 7 = .ok (.putfield 36, 3) := by decide +kernel
theorem dX6_begin_10 : decode cX6_begin 10 = .ok (.aload_n 0, 1) := by decide +kernel
theorem dX6_begin_11 : decode cX6_begin 11 = .ok (.iconst 1, 1) := by decide +kernel
theorem dX6_begin_12 : decode cX6_begin 12 = .ok (.putfield 39, 3) := by decide +kernel
theorem dX6_begin_15 : decode cX6_begin 15 = .ok (.aload_n 0, 1) := by decide +kernel
theorem dX6_begin_16 : decode cX6_begin 16 = .ok (.iconst 0, 1) := by decide +kernel
theorem dX6_begin_17 : decode cX6_begin 17 = .ok (.putfield 43, 3) := by decide +kernel
theorem dX6_begin_20 : decode cX6_begin 20 = .ok (.aload_n 0, 1) := by decide +kernel
theorem dX6_begin_21 : decode cX6_begin 21 = .ok (.iconst (-1), 1) := by decide +kernel
theorem dX6_begin_22 : decode cX6_begin 22 = .ok (.putfield 46, 3) := by decide +kernel
theorem dX6_begin_25 : decode cX6_begin 25 = .ok (.iconst 0, 1) := by decide +kernel
theorem dX6_begin_26 : decode cX6_begin 26 = .ok (.istore_n 2, 1) := by decide +kernel
theorem dX6_begin_27 : decode cX6_begin 27 = .ok (.iconst 0, 1) := by decide +kernel
theorem dX6_begin_28 : decode cX6_begin 28 = .ok (.istore_n 3, 1) := by decide +kernel
theorem dX6_begin_29 : decode cX6_begin 29 = .ok (.iload_n 3, 1) := by decide +kernel
theorem dX6_begin_30 : decode cX6_begin 30 = .ok (.sipush 900, 3) := by decide +kernel
theorem dX6_begin_33 : decode cX6_begin 33 = .ok (.if_icmp .ge 39, 3) := by decide +kernel
theorem dX6_begin_36 : decode cX6_begin 36 = .ok (.iload_n 2, 1) := by decide +kernel
theorem dX6_begin_37 : decode cX6_begin 37 = .ok (.iload_n 1, 1) := by decide +kernel
theorem dX6_begin_38 : decode cX6_begin 38 = .ok (.if_icmp .ge 34, 3) := by decide +kernel
theorem dX6_begin_41 : decode cX6_begin 41 = .ok (.aload_n 0, 1) := by decide +kernel
theorem dX6_begin_42 : decode cX6_begin 42 = .ok (.getfield 9, 3) := by decide +kernel
theorem dX6_begin_45 : decode cX6_begin 45 = .ok (.iload_n 2, 1) := by decide +kernel
theorem dX6_begin_46 : decode cX6_begin 46 = .ok (.baload, 1) := by decide +kernel
theorem dX6_begin_47 : decode cX6_begin 47 = .ok (.invokestatic 49, 3) := by decide +kernel
theorem dX6_begin_50 : decode cX6_begin 50 = .ok (.ifCond .eq 9, 3) := by decide +kernel
theorem dX6_begin_53 : decode cX6_begin 53 = .ok (.iload_n 2, 1) := by decide +kernel
theorem dX6_begin_54 : decode cX6_begin 54 = .ok (.iconst 1, 1) := by decide +kernel
theorem dX6_begin_55 : decode cX6_begin 55 = .ok (.iadd, 1) := by decide +kernel
theorem dX6_begin_56 : decode cX6_begin 56 = .ok (.goto 9, 3) := by decide +kernel
theorem dX6_begin_59 : decode cX6_begin 59 = .ok (.aload_n 0, 1) := by decide +kernel
theorem dX6_begin_60 : decode cX6_begin 60 = .ok (.iload_n 2, 1) := by decide +kernel
theorem dX6_begin_61 : decode cX6_begin 61 = .ok (.iload_n 1, 1) := by decide +kernel
theorem dX6_begin_62 : decode cX6_begin 62 = .ok (.invokevirtual 53, 3) := by decide +kernel
theorem dX6_begin_65 : decode cX6_begin 65 = .ok (.istore_n 2, 1) := by decide +kernel
theorem dX6_begin_66 : decode cX6_begin 66 = .ok (.iinc 3 1, 3) := by decide +kernel
theorem dX6_begin_69 : decode cX6_begin 69 = .ok (.goto (-40), 3) := by decide +kernel
theorem dX6_begin_72 : decode cX6_begin 72 = .ok (.aload_n 0, 1) := by decide +kernel
theorem dX6_begin_73 : decode cX6_begin 73 = .ok (.iconst 0, 1) := by decide +kernel
theorem dX6_begin_74 : decode cX6_begin 74 = .ok (.iload_n 1, 1) := by decide +kernel
theorem dX6_begin_75 : decode cX6_begin 75 = .ok (.iconst 0, 1) := by decide +kernel
theorem dX6_begin_76 : decode cX6_begin 76 = .ok (.lconst 0, 1) := by decide +kernel
theorem dX6_begin_77 : decode cX6_begin 77 = .ok (.invokevirtual 57, 3) := by decide +kernel
theorem dX6_begin_80 : decode cX6_begin 80 = .ok (.aload_n 0, 1) := by decide +kernel
theorem dX6_begin_81 : decode cX6_begin 81 = .ok (.iconst 0, 1) := by decide +kernel
theorem dX6_begin_82 : decode cX6_begin 82 = .ok (.putfield 15, 3) := by decide +kernel
theorem dX6_begin_85 : decode cX6_begin 85 = .ok (.return_, 1) := by decide +kernel
theorem dX2_clear_0 : decode cX2_clear 0 = .ok (.aload_n 0, 1) := by decide +kernel
theorem dX2_clear_1 : decode cX2_clear 1 = .ok (.iconst 0, 1) := by decide +kernel
theorem dX2_clear_2 : decode cX2_clear 2 = .ok (.putfield 9, 3) := by decide +kernel
theorem dX2_clear_5 : decode cX2_clear 5 = .ok (.aload_n 0, 1) := by decide +kernel
theorem dX2_clear_6 : decode cX2_clear 6 = .ok (.iconst 0, 1) := by decide +kernel
theorem dX2_clear_7 : decode cX2_clear 7 = .ok (.putfield 26, 3) := by decide +kernel
theorem dX2_clear_10 : decode cX2_clear 10 = .ok (.aload_n 0, 1) := by decide +kernel
theorem dX2_clear_11 : decode cX2_clear 11 = .ok (.iconst 0, 1) := by decide +kernel
theorem dX2_clear_12 : decode cX2_clear 12 = .ok (.putfield 47, 3) := by decide +kernel
theorem dX2_clear_15 : decode cX2_clear 15 = .ok (.aload_n 0, 1) := by decide +kernel
theorem dX2_clear_16 : decode cX2_clear 16 = .ok (.iconst 0, 1) := by decide +kernel
theorem dX2_clear_17 : decode cX2_clear 17 = .ok (.putfield 53, 3) := by decide +kernel
theorem dX2_clear_20 : decode cX2_clear 20 = .ok (.return_, 1) := by decide +kernel
theorem dX6_isAtEnd_0 : decode cX6_isAtEnd 0 = .ok (.aload_n 0, 1) := by decide +kernel
theorem dX6_isAtEnd_1 : decode cX6_isAtEnd 1 = .ok (.getfield 19, 3) := by decide +kernel
theorem dX6_isAtEnd_4 : decode cX6_isAtEnd 4 = .ok (.aload_n 0, 1) := by decide +kernel
theorem dX6_isAtEnd_5 : decode cX6_isAtEnd 5 = .ok (.getfield 36, 3) := by decide +kernel
theorem dX6_isAtEnd_8 : decode cX6_isAtEnd 8 = .ok (.iaload, 1) := by decide +kernel
theorem dX6_isAtEnd_9 : decode cX6_isAtEnd 9 = .ok (.ifCond .ne 7, 3) := by decide +kernel
theorem dX6_isAtEnd_12 : decode cX6_isAtEnd 12 = .ok (.iconst 1, 1) := by decide +kernel
theorem dX6_isAtEnd_13 : decode cX6_isAtEnd 13 = .ok (.goto 4, 3) := by decide +kernel
theorem dX6_isAtEnd_16 : decode cX6_isAtEnd 16 = .ok (.iconst 0, 1) := by decide +kernel
theorem dX6_isAtEnd_17 : decode cX6_isAtEnd 17 = .ok (.ireturn, 1) := by decide +kernel
theorem dX6_word_0 : decode cX6_word 0 = .ok (.aload_n 0, 1) := by decide +kernel
theorem dX6_word_1 : decode cX6_word 1 = .ok (.getfield 19, 3) := by decide +kernel
theorem dX6_word_4 : decode cX6_word 4 = .ok (.aload_n 0, 1) := by decide +kernel
theorem dX6_word_5 : decode cX6_word 5 = .ok (.getfield 36, 3) := by decide +kernel
theorem dX6_word_8 : decode cX6_word 8 = .ok (.iaload, 1) := by decide +kernel
theorem dX6_word_9 : decode cX6_word 9 = .ok (.iconst 1, 1) := by decide +kernel
theorem dX6_word_10 : decode cX6_word 10 = .ok (.if_icmp .ne 15, 3) := by decide +kernel
theorem dX6_word_13 : decode cX6_word 13 = .ok (.aload_n 0, 1) := by decide +kernel
theorem dX6_word_14 : decode cX6_word 14 = .ok (.getfield 26, 3) := by decide +kernel
theorem dX6_word_17 : decode cX6_word 17 = .ok (.aload_n 0, 1) := by decide +kernel
theorem dX6_word_18 : decode cX6_word 18 = .ok (.getfield 36, 3) := by decide +kernel
theorem dX6_word_21 : decode cX6_word 21 = .ok (.iaload, 1) := by decide +kernel
theorem dX6_word_22 : decode cX6_word 22 = .ok (.goto 4, 3) := by decide +kernel
theorem dX6_word_25 : decode cX6_word 25 = .ok (.iconst (-1), 1) := by decide +kernel
theorem dX6_word_26 : decode cX6_word 26 = .ok (.ireturn, 1) := by decide +kernel
theorem dX6_refuseToken_0 : decode cX6_refuseToken 0 = .ok (.aload_n 0, 1) := by decide +kernel
theorem dX6_refuseToken_1 : decode cX6_refuseToken 1 = .ok (.aload_n 0, 1) := by decide +kernel
theorem dX6_refuseToken_2 : decode cX6_refuseToken 2 = .ok (.getfield 19, 3) := by decide +kernel
theorem dX6_refuseToken_5 : decode cX6_refuseToken 5 = .ok (.aload_n 0, 1) := by decide +kernel
theorem dX6_refuseToken_6 : decode cX6_refuseToken 6 = .ok (.getfield 36, 3) := by decide +kernel
theorem dX6_refuseToken_9 : decode cX6_refuseToken 9 = .ok (.iaload, 1) := by decide +kernel
theorem dX6_refuseToken_10 : decode cX6_refuseToken 10 = .ok (.iconst 4, 1) := by decide +kernel
theorem dX6_refuseToken_11 : decode cX6_refuseToken 11 = .ok (.if_icmp .ne 7, 3) := by decide +kernel
theorem dX6_refuseToken_14 : decode cX6_refuseToken 14 = .ok (.iconst 1, 1) := by decide +kernel
theorem dX6_refuseToken_15 : decode cX6_refuseToken 15 = .ok (.goto 4, 3) := by decide +kernel
theorem dX6_refuseToken_18 : decode cX6_refuseToken 18 = .ok (.iload_n 1, 1) := by decide +kernel
theorem dX6_refuseToken_19 : decode cX6_refuseToken 19 = .ok (.putfield 43, 3) := by decide +kernel
theorem dX6_refuseToken_22 : decode cX6_refuseToken 22 = .ok (.aload_n 0, 1) := by decide +kernel
theorem dX6_refuseToken_23 : decode cX6_refuseToken 23 = .ok (.aload_n 0, 1) := by decide +kernel
theorem dX6_refuseToken_24 : decode cX6_refuseToken 24 = .ok (.getfield 23, 3) := by decide +kernel
theorem dX6_refuseToken_27 : decode cX6_refuseToken 27 = .ok (.aload_n 0, 1) := by decide +kernel
theorem dX6_refuseToken_28 : decode cX6_refuseToken 28 = .ok (.getfield 36, 3) := by decide +kernel
theorem dX6_refuseToken_31 : decode cX6_refuseToken 31 = .ok (.iaload, 1) := by decide +kernel
theorem dX6_refuseToken_32 : decode cX6_refuseToken 32 = .ok (.putfield 46, 3) := by decide +kernel
theorem dX6_refuseToken_35 : decode cX6_refuseToken 35 = .ok (.iconst 0, 1) := by decide +kernel
theorem dX6_refuseToken_36 : decode cX6_refuseToken 36 = .ok (.ireturn, 1) := by decide +kernel
theorem dX6_goOn_0 : decode cX6_goOn 0 = .ok (.aload_n 0, 1) := by decide +kernel
theorem dX6_goOn_1 : decode cX6_goOn 1 = .ok (.getfield 36, 3) := by decide +kernel
theorem dX6_goOn_4 : decode cX6_goOn 4 = .ok (.aload_n 0, 1) := by decide +kernel
theorem dX6_goOn_5 : decode cX6_goOn 5 = .ok (.getfield 33, 3) := by decide +kernel
theorem dX6_goOn_8 : decode cX6_goOn 8 = .ok (.iconst 1, 1) := by decide +kernel
theorem dX6_goOn_9 : decode cX6_goOn 9 = .ok (.isub, 1) := by decide +kernel
theorem dX6_goOn_10 : decode cX6_goOn 10 = .ok (.if_icmp .ge 13, 3) := by decide +kernel
theorem dX6_goOn_13 : decode cX6_goOn 13 = .ok (.aload_n 0, 1) := by decide +kernel
theorem dX6_goOn_14 : decode cX6_goOn 14 = .ok (.dup, 1) := by decide +kernel
theorem dX6_goOn_15 : decode cX6_goOn 15 = .ok (.getfield 36, 3) := by decide +kernel
theorem dX6_goOn_18 : decode cX6_goOn 18 = .ok (.iconst 1, 1) := by decide +kernel
theorem dX6_goOn_19 : decode cX6_goOn 19 = .ok (.iadd, 1) := by decide +kernel
theorem dX6_goOn_20 : decode cX6_goOn 20 = .ok (.putfield 36, 3) := by decide +kernel
theorem dX6_goOn_23 : decode cX6_goOn 23 = .ok (.return_, 1) := by decide +kernel
theorem dX6_isName_0 : decode cX6_isName 0 = .ok (.aload_n 0, 1) := by decide +kernel
theorem dX6_isName_1 : decode cX6_isName 1 = .ok (.getfield 19, 3) := by decide +kernel
theorem dX6_isName_4 : decode cX6_isName 4 = .ok (.aload_n 0, 1) := by decide +kernel
theorem dX6_isName_5 : decode cX6_isName 5 = .ok (.getfield 36, 3) := by decide +kernel
theorem dX6_isName_8 : decode cX6_isName 8 = .ok (.iaload, 1) := by decide +kernel
theorem dX6_isName_9 : decode cX6_isName 9 = .ok (.iconst 1, 1) := by decide +kernel
theorem dX6_isName_10 : decode cX6_isName 10 = .ok (.if_icmp .ne 34, 3) := by decide +kernel
theorem dX6_isName_13 : decode cX6_isName 13 = .ok (.aload_n 0, 1) := by decide +kernel
theorem dX6_isName_14 : decode cX6_isName 14 = .ok (.getfield 26, 3) := by decide +kernel
theorem dX6_isName_17 : decode cX6_isName 17 = .ok (.aload_n 0, 1) := by decide +kernel
theorem dX6_isName_18 : decode cX6_isName 18 = .ok (.getfield 36, 3) := by decide +kernel
theorem dX6_isName_21 : decode cX6_isName 21 = .ok (.iaload, 1) := by decide +kernel
theorem dX6_isName_22 : decode cX6_isName 22 = .ok (.iconst (-1), 1) := by decide +kernel
theorem dX6_isName_23 : decode cX6_isName 23 = .ok (.if_icmp .ne 21, 3) := by decide +kernel
theorem dX6_isName_26 : decode cX6_isName 26 = .ok (.aload_n 0, 1) := by decide +kernel
theorem dX6_isName_27 : decode cX6_isName 27 = .ok (.getfield 29, 3) := by decide +kernel
theorem dX6_isName_30 : decode cX6_isName 30 = .ok (.aload_n 0, 1) := by decide +kernel
theorem dX6_isName_31 : decode cX6_isName 31 = .ok (.getfield 36, 3) := by decide +kernel
theorem dX6_isName_34 : decode cX6_isName 34 = .ok (.laload, 1) := by decide +kernel
theorem dX6_isName_35 : decode cX6_isName 35 = .ok (.lconst 0, 1) := by decide +kernel
theorem dX6_isName_36 : decode cX6_isName 36 = .ok (.lcmp, 1) := by decide +kernel
theorem dX6_isName_37 : decode cX6_isName 37 = .ok (.ifCond .eq 7, 3) := by decide +kernel
theorem dX6_isName_40 : decode cX6_isName 40 = .ok (.iconst 1, 1) := by decide +kernel
theorem dX6_isName_41 : decode cX6_isName 41 = .ok (.goto 4, 3) := by decide +kernel
theorem dX6_isName_44 : decode cX6_isName 44 = .ok (.iconst 0, 1) := by decide +kernel
theorem dX6_isName_45 : decode cX6_isName 45 = .ok (.ireturn, 1) := by decide +kernel
theorem dX6_name_0 : decode cX6_name 0 = .ok (.aload_n 0, 1) := by decide +kernel
theorem dX6_name_1 : decode cX6_name 1 = .ok (.getfield 29, 3) := by decide +kernel
theorem dX6_name_4 : decode cX6_name 4 = .ok (.aload_n 0, 1) := by decide +kernel
theorem dX6_name_5 : decode cX6_name 5 = .ok (.getfield 36, 3) := by decide +kernel
theorem dX6_name_8 : decode cX6_name 8 = .ok (.laload, 1) := by decide +kernel
theorem dX6_name_9 : decode cX6_name 9 = .ok (.lreturn, 1) := by decide +kernel
theorem dX2_placeOf_0 : decode cX2_placeOf 0 = .ok (.iconst 0, 1) := by decide +kernel
theorem dX2_placeOf_1 : decode cX2_placeOf 1 = .ok (.istore 4, 2) := by decide +kernel
theorem dX2_placeOf_3 : decode cX2_placeOf 3 = .ok (.iload 4, 2) := by decide +kernel
theorem dX2_placeOf_5 : decode cX2_placeOf 5 = .ok (.iload_n 3, 1) := by decide +kernel
theorem dX2_placeOf_6 : decode cX2_placeOf 6 = .ok (.if_icmp .ge 21, 3) := by decide +kernel
theorem dX2_placeOf_9 : decode cX2_placeOf 9 = .ok (.aload_n 2, 1) := by decide +kernel
theorem dX2_placeOf_10 : decode cX2_placeOf 10 = .ok (.iload 4, 2) := by decide +kernel
theorem dX2_placeOf_12 : decode cX2_placeOf 12 = .ok (.laload, 1) := by decide +kernel
theorem dX2_placeOf_13 : decode cX2_placeOf 13 = .ok (.lload_n 0, 1) := by decide +kernel
theorem dX2_placeOf_14 : decode cX2_placeOf 14 = .ok (.lcmp, 1) := by decide +kernel
theorem dX2_placeOf_15 : decode cX2_placeOf 15 = .ok (.ifCond .ne 6, 3) := by decide +kernel
theorem dX2_placeOf_18 : decode cX2_placeOf 18 = .ok (.iload 4, 2) := by decide +kernel
theorem dX2_placeOf_20 : decode cX2_placeOf 20 = .ok (.ireturn, 1) := by decide +kernel
theorem dX2_placeOf_21 : decode cX2_placeOf 21 = .ok (.iinc 4 1, 3) := by decide +kernel
theorem dX2_placeOf_24 : decode cX2_placeOf 24 = .ok (.goto (-21), 3) := by decide +kernel
theorem dX2_placeOf_27 : decode cX2_placeOf 27 = .ok (.iconst (-1), 1) := by decide +kernel
theorem dX2_placeOf_28 : decode cX2_placeOf 28 = .ok (.ireturn, 1) := by decide +kernel
theorem dX2_rockNamed_0 : decode cX2_rockNamed 0 = .ok (.lload_n 1, 1) := by decide +kernel
theorem dX2_rockNamed_1 : decode cX2_rockNamed 1 = .ok (.aload_n 0, 1) := by decide +kernel
theorem dX2_rockNamed_2 : decode cX2_rockNamed 2 = .ok (.getfield 15, 3) := by decide +kernel
theorem dX2_rockNamed_5 : decode cX2_rockNamed 5 = .ok (.aload_n 0, 1) := by decide +kernel
theorem dX2_rockNamed_6 : decode cX2_rockNamed 6 = .ok (.getfield 9, 3) := by decide +kernel
theorem dX2_rockNamed_9 : decode cX2_rockNamed 9 = .ok (.invokestatic 75, 3) := by decide +kernel
theorem dX2_rockNamed_12 : decode cX2_rockNamed 12 = .ok (.ireturn, 1) := by decide +kernel
theorem dX2_holeNamed_0 : decode cX2_holeNamed 0 = .ok (.lload_n 1, 1) := by decide +kernel
theorem dX2_holeNamed_1 : decode cX2_holeNamed 1 = .ok (.aload_n 0, 1) := by decide +kernel
theorem dX2_holeNamed_2 : decode cX2_holeNamed 2 = .ok (.getfield 29, 3) := by decide +kernel
theorem dX2_holeNamed_5 : decode cX2_holeNamed 5 = .ok (.aload_n 0, 1) := by decide +kernel
theorem dX2_holeNamed_6 : decode cX2_holeNamed 6 = .ok (.getfield 26, 3) := by decide +kernel
theorem dX2_holeNamed_9 : decode cX2_holeNamed 9 = .ok (.invokestatic 75, 3) := by decide +kernel
theorem dX2_holeNamed_12 : decode cX2_holeNamed 12 = .ok (.ireturn, 1) := by decide +kernel
theorem dX2_faultNamed_0 : decode cX2_faultNamed 0 = .ok (.lload_n 1, 1) := by decide +kernel
theorem dX2_faultNamed_1 : decode cX2_faultNamed 1 = .ok (.aload_n 0, 1) := by decide +kernel
theorem dX2_faultNamed_2 : decode cX2_faultNamed 2 = .ok (.getfield 56, 3) := by decide +kernel
theorem dX2_faultNamed_5 : decode cX2_faultNamed 5 = .ok (.aload_n 0, 1) := by decide +kernel
theorem dX2_faultNamed_6 : decode cX2_faultNamed 6 = .ok (.getfield 53, 3) := by decide +kernel
theorem dX2_faultNamed_9 : decode cX2_faultNamed 9 = .ok (.invokestatic 75, 3) := by decide +kernel
theorem dX2_faultNamed_12 : decode cX2_faultNamed 12 = .ok (.ireturn, 1) := by decide +kernel
theorem dX2_isTakenName_0 : decode cX2_isTakenName 0 = .ok (.aload_n 0, 1) := by decide +kernel
theorem dX2_isTakenName_1 : decode cX2_isTakenName 1 = .ok (.lload_n 1, 1) := by decide +kernel
theorem dX2_isTakenName_2 : decode cX2_isTakenName 2 = .ok (.invokevirtual 79, 3) := by decide +kernel
theorem dX2_isTakenName_5 : decode cX2_isTakenName 5 = .ok (.iconst (-1), 1) := by decide +kernel
theorem dX2_isTakenName_6 : decode cX2_isTakenName 6 = .ok (.if_icmp .ne 21, 3) := by decide +kernel
theorem dX2_isTakenName_9 : decode cX2_isTakenName 9 = .ok (.aload_n 0, 1) := by decide +kernel
theorem dX2_isTakenName_10 : decode cX2_isTakenName 10 = .ok (.lload_n 1, 1) := by decide +kernel
theorem dX2_isTakenName_11 : decode cX2_isTakenName 11 = .ok (.invokevirtual 83, 3) := by decide +kernel
theorem dX2_isTakenName_14 : decode cX2_isTakenName 14 = .ok (.iconst (-1), 1) := by decide +kernel
theorem dX2_isTakenName_15 : decode cX2_isTakenName 15 = .ok (.if_icmp .ne 12, 3) := by decide +kernel
theorem dX2_isTakenName_18 : decode cX2_isTakenName 18 = .ok (.aload_n 0, 1) := by decide +kernel
theorem dX2_isTakenName_19 : decode cX2_isTakenName 19 = .ok (.lload_n 1, 1) := by decide +kernel
theorem dX2_isTakenName_20 : decode cX2_isTakenName 20 = .ok (.invokevirtual 86, 3) := by decide +kernel
theorem dX2_isTakenName_23 : decode cX2_isTakenName 23 = .ok (.iconst (-1), 1) := by decide +kernel
theorem dX2_isTakenName_24 : decode cX2_isTakenName 24 = .ok (.if_icmp .eq 7, 3) := by decide +kernel
theorem dX2_isTakenName_27 : decode cX2_isTakenName 27 = .ok (.iconst 1, 1) := by decide +kernel
theorem dX2_isTakenName_28 : decode cX2_isTakenName 28 = .ok (.goto 4, 3) := by decide +kernel
theorem dX2_isTakenName_31 : decode cX2_isTakenName 31 = .ok (.iconst 0, 1) := by decide +kernel
theorem dX2_isTakenName_32 : decode cX2_isTakenName 32 = .ok (.ireturn, 1) := by decide +kernel
theorem dX1_isNewName_0 : decode cX1_isNewName 0 = .ok (.aload_n 0, 1) := by decide +kernel
theorem dX1_isNewName_1 : decode cX1_isNewName 1 = .ok (.getfield 15, 3) := by decide +kernel
theorem dX1_isNewName_4 : decode cX1_isNewName 4 = .ok (.invokevirtual 148, 3) := by decide +kernel
theorem dX1_isNewName_7 : decode cX1_isNewName 7 = .ok (.ifCond .eq 24, 3) := by decide +kernel
theorem dX1_isNewName_10 : decode cX1_isNewName 10 = .ok (.aload_n 0, 1) := by decide +kernel
theorem dX1_isNewName_11 : decode cX1_isNewName 11 = .ok (.getfield 19, 3) := by decide +kernel
theorem dX1_isNewName_14 : decode cX1_isNewName 14 = .ok (.aload_n 0, 1) := by decide +kernel
theorem dX1_isNewName_15 : decode cX1_isNewName 15 = .ok (.getfield 15, 3) := by decide +kernel
theorem dX1_isNewName_18 : decode cX1_isNewName 18 = .ok (.invokevirtual 73, 3) := by decide +kernel
theorem dX1_isNewName_21 : decode cX1_isNewName 21 = .ok (.invokevirtual 151, 3) := by decide +kernel
theorem dX1_isNewName_24 : decode cX1_isNewName 24 = .ok (.ifCond .ne 7, 3) := by decide +kernel
theorem dX1_isNewName_27 : decode cX1_isNewName 27 = .ok (.iconst 1, 1) := by decide +kernel
theorem dX1_isNewName_28 : decode cX1_isNewName 28 = .ok (.goto 4, 3) := by decide +kernel
theorem dX1_isNewName_31 : decode cX1_isNewName 31 = .ok (.iconst 0, 1) := by decide +kernel
theorem dX1_isNewName_32 : decode cX1_isNewName 32 = .ok (.ireturn, 1) := by decide +kernel
theorem dX6_nameFault_0 : decode cX6_nameFault 0 = .ok (.aload_n 0, 1) := by decide +kernel
theorem dX6_nameFault_1 : decode cX6_nameFault 1 = .ok (.invokevirtual 94, 3) := by decide +kernel
theorem dX6_nameFault_4 : decode cX6_nameFault 4 = .ok (.ifCond .eq 7, 3) := by decide +kernel
theorem dX6_nameFault_7 : decode cX6_nameFault 7 = .ok (.iconst 3, 1) := by decide +kernel
theorem dX6_nameFault_8 : decode cX6_nameFault 8 = .ok (.goto 4, 3) := by decide +kernel
theorem dX6_nameFault_11 : decode cX6_nameFault 11 = .ok (.iconst 2, 1) := by decide +kernel
theorem dX6_nameFault_12 : decode cX6_nameFault 12 = .ok (.ireturn, 1) := by decide +kernel
theorem dX6_value_0 : decode cX6_value 0 = .ok (.aload_n 0, 1) := by decide +kernel
theorem dX6_value_1 : decode cX6_value 1 = .ok (.getfield 26, 3) := by decide +kernel
theorem dX6_value_4 : decode cX6_value 4 = .ok (.aload_n 0, 1) := by decide +kernel
theorem dX6_value_5 : decode cX6_value 5 = .ok (.getfield 36, 3) := by decide +kernel
theorem dX6_value_8 : decode cX6_value 8 = .ok (.iaload, 1) := by decide +kernel
theorem dX6_value_9 : decode cX6_value 9 = .ok (.ireturn, 1) := by decide +kernel
theorem dX6_isNumber_0 : decode cX6_isNumber 0 = .ok (.aload_n 0, 1) := by decide +kernel
theorem dX6_isNumber_1 : decode cX6_isNumber 1 = .ok (.getfield 19, 3) := by decide +kernel
theorem dX6_isNumber_4 : decode cX6_isNumber 4 = .ok (.aload_n 0, 1) := by decide +kernel
theorem dX6_isNumber_5 : decode cX6_isNumber 5 = .ok (.getfield 36, 3) := by decide +kernel
theorem dX6_isNumber_8 : decode cX6_isNumber 8 = .ok (.iaload, 1) := by decide +kernel
theorem dX6_isNumber_9 : decode cX6_isNumber 9 = .ok (.iconst 2, 1) := by decide +kernel
theorem dX6_isNumber_10 : decode cX6_isNumber 10 = .ok (.if_icmp .ne 33, 3) := by decide +kernel
theorem dX6_isNumber_13 : decode cX6_isNumber 13 = .ok (.aload_n 0, 1) := by decide +kernel
theorem dX6_isNumber_14 : decode cX6_isNumber 14 = .ok (.getfield 26, 3) := by decide +kernel
theorem dX6_isNumber_17 : decode cX6_isNumber 17 = .ok (.aload_n 0, 1) := by decide +kernel
theorem dX6_isNumber_18 : decode cX6_isNumber 18 = .ok (.getfield 36, 3) := by decide +kernel
theorem dX6_isNumber_21 : decode cX6_isNumber 21 = .ok (.iaload, 1) := by decide +kernel
theorem dX6_isNumber_22 : decode cX6_isNumber 22 = .ok (.iload_n 1, 1) := by decide +kernel
theorem dX6_isNumber_23 : decode cX6_isNumber 23 = .ok (.if_icmp .lt 20, 3) := by decide +kernel
theorem dX6_isNumber_26 : decode cX6_isNumber 26 = .ok (.aload_n 0, 1) := by decide +kernel
theorem dX6_isNumber_27 : decode cX6_isNumber 27 = .ok (.getfield 26, 3) := by decide +kernel
theorem dX6_isNumber_30 : decode cX6_isNumber 30 = .ok (.aload_n 0, 1) := by decide +kernel
theorem dX6_isNumber_31 : decode cX6_isNumber 31 = .ok (.getfield 36, 3) := by decide +kernel
theorem dX6_isNumber_34 : decode cX6_isNumber 34 = .ok (.iaload, 1) := by decide +kernel
theorem dX6_isNumber_35 : decode cX6_isNumber 35 = .ok (.iload_n 2, 1) := by decide +kernel
theorem dX6_isNumber_36 : decode cX6_isNumber 36 = .ok (.if_icmp .gt 7, 3) := by decide +kernel
theorem dX6_isNumber_39 : decode cX6_isNumber 39 = .ok (.iconst 1, 1) := by decide +kernel
theorem dX6_isNumber_40 : decode cX6_isNumber 40 = .ok (.goto 4, 3) := by decide +kernel
theorem dX6_isNumber_43 : decode cX6_isNumber 43 = .ok (.iconst 0, 1) := by decide +kernel
theorem dX6_isNumber_44 : decode cX6_isNumber 44 = .ok (.ireturn, 1) := by decide +kernel
theorem dX6_numberFault_0 : decode cX6_numberFault 0 = .ok (.aload_n 0, 1) := by decide +kernel
theorem dX6_numberFault_1 : decode cX6_numberFault 1 = .ok (.getfield 19, 3) := by decide +kernel
theorem dX6_numberFault_4 : decode cX6_numberFault 4 = .ok (.aload_n 0, 1) := by decide +kernel
theorem dX6_numberFault_5 : decode cX6_numberFault 5 = .ok (.getfield 36, 3) := by decide +kernel
theorem dX6_numberFault_8 : decode cX6_numberFault 8 = .ok (.iaload, 1) := by decide +kernel
theorem dX6_numberFault_9 : decode cX6_numberFault 9 = .ok (.iconst 2, 1) := by decide +kernel
theorem dX6_numberFault_10 : decode cX6_numberFault 10 = .ok (.if_icmp .ne 7, 3) := by decide +kernel
theorem dX6_numberFault_13 : decode cX6_numberFault 13 = .ok (.iconst 4, 1) := by decide +kernel
theorem dX6_numberFault_14 : decode cX6_numberFault 14 = .ok (.goto 4, 3) := by decide +kernel
theorem dX6_numberFault_17 : decode cX6_numberFault 17 = .ok (.iconst 2, 1) := by decide +kernel
theorem dX6_numberFault_18 : decode cX6_numberFault 18 = .ok (.ireturn, 1) := by decide +kernel
theorem dX6_passNumber_0 : decode cX6_passNumber 0 = .ok (.aload_n 0, 1) := by decide +kernel
theorem dX6_passNumber_1 : decode cX6_passNumber 1 = .ok (.iload_n 1, 1) := by decide +kernel
theorem dX6_passNumber_2 : decode cX6_passNumber 2 = .ok (.iload_n 2, 1) := by decide +kernel
theorem dX6_passNumber_3 : decode cX6_passNumber 3 = .ok (.invokevirtual 98, 3) := by decide +kernel
theorem dX6_passNumber_6 : decode cX6_passNumber 6 = .ok (.ifCond .ne 12, 3) := by decide +kernel
theorem dX6_passNumber_9 : decode cX6_passNumber 9 = .ok (.aload_n 0, 1) := by decide +kernel
theorem dX6_passNumber_10 : decode cX6_passNumber 10 = .ok (.aload_n 0, 1) := by decide +kernel
theorem dX6_passNumber_11 : decode cX6_passNumber 11 = .ok (.invokevirtual 102, 3) := by decide +kernel
theorem dX6_passNumber_14 : decode cX6_passNumber 14 = .ok (.invokevirtual 105, 3) := by decide +kernel
theorem dX6_passNumber_17 : decode cX6_passNumber 17 = .ok (.ireturn, 1) := by decide +kernel
theorem dX6_passNumber_18 : decode cX6_passNumber 18 = .ok (.aload_n 0, 1) := by decide +kernel
theorem dX6_passNumber_19 : decode cX6_passNumber 19 = .ok (.invokevirtual 108, 3) := by decide +kernel
theorem dX6_passNumber_22 : decode cX6_passNumber 22 = .ok (.iconst 1, 1) := by decide +kernel
theorem dX6_passNumber_23 : decode cX6_passNumber 23 = .ok (.ireturn, 1) := by decide +kernel
theorem dX2_setCostOfTwo_0 : decode cX2_setCostOfTwo 0 = .ok (.aload_n 0, 1) := by decide +kernel
theorem dX2_setCostOfTwo_1 : decode cX2_setCostOfTwo 1 = .ok (.getfield 23, 3) := by decide +kernel
theorem dX2_setCostOfTwo_4 : decode cX2_setCostOfTwo 4 = .ok (.iload_n 1, 1) := by decide +kernel
theorem dX2_setCostOfTwo_5 : decode cX2_setCostOfTwo 5 = .ok (.bipush 8, 2) := by decide +kernel
theorem dX2_setCostOfTwo_7 : decode cX2_setCostOfTwo 7 = .ok (.imul, 1) := by decide +kernel
theorem dX2_setCostOfTwo_8 : decode cX2_setCostOfTwo 8 = .ok (.iload_n 2, 1) := by decide +kernel
theorem dX2_setCostOfTwo_9 : decode cX2_setCostOfTwo 9 = .ok (.iadd, 1) := by decide +kernel
theorem dX2_setCostOfTwo_10 : decode cX2_setCostOfTwo 10 = .ok (.iload_n 3, 1) := by decide +kernel
theorem dX2_setCostOfTwo_11 : decode cX2_setCostOfTwo 11 = .ok (.iastore, 1) := by decide +kernel
theorem dX2_setCostOfTwo_12 : decode cX2_setCostOfTwo 12 = .ok (.aload_n 0, 1) := by decide +kernel
theorem dX2_setCostOfTwo_13 : decode cX2_setCostOfTwo 13 = .ok (.getfield 23, 3) := by decide +kernel
theorem dX2_setCostOfTwo_16 : decode cX2_setCostOfTwo 16 = .ok (.iload_n 2, 1) := by decide +kernel
theorem dX2_setCostOfTwo_17 : decode cX2_setCostOfTwo 17 = .ok (.bipush 8, 2) := by decide +kernel
theorem dX2_setCostOfTwo_19 : decode cX2_setCostOfTwo 19 = .ok (.imul, 1) := by decide +kernel
theorem dX2_setCostOfTwo_20 : decode cX2_setCostOfTwo 20 = .ok (.iload_n 1, 1) := by decide +kernel
theorem dX2_setCostOfTwo_21 : decode cX2_setCostOfTwo 21 = .ok (.iadd, 1) := by decide +kernel
theorem dX2_setCostOfTwo_22 : decode cX2_setCostOfTwo 22 = .ok (.iload_n 3, 1) := by decide +kernel
theorem dX2_setCostOfTwo_23 : decode cX2_setCostOfTwo 23 = .ok (.iastore, 1) := by decide +kernel
theorem dX2_setCostOfTwo_24 : decode cX2_setCostOfTwo 24 = .ok (.return_, 1) := by decide +kernel
theorem dX2_addRock_0 : decode cX2_addRock 0 = .ok (.aload_n 0, 1) := by decide +kernel
theorem dX2_addRock_1 : decode cX2_addRock 1 = .ok (.getfield 15, 3) := by decide +kernel
theorem dX2_addRock_4 : decode cX2_addRock 4 = .ok (.aload_n 0, 1) := by decide +kernel
theorem dX2_addRock_5 : decode cX2_addRock 5 = .ok (.getfield 9, 3) := by decide +kernel
theorem dX2_addRock_8 : decode cX2_addRock 8 = .ok (.lload_n 1, 1) := by decide +kernel
theorem dX2_addRock_9 : decode cX2_addRock 9 = .ok (.lastore, 1) := by decide +kernel
theorem dX2_addRock_10 : decode cX2_addRock 10 = .ok (.aload_n 0, 1) := by decide +kernel
theorem dX2_addRock_11 : decode cX2_addRock 11 = .ok (.getfield 19, 3) := by decide +kernel
theorem dX2_addRock_14 : decode cX2_addRock 14 = .ok (.aload_n 0, 1) := by decide +kernel
theorem dX2_addRock_15 : decode cX2_addRock 15 = .ok (.getfield 9, 3) := by decide +kernel
theorem dX2_addRock_18 : decode cX2_addRock 18 = .ok (.iload_n 3, 1) := by decide +kernel
theorem dX2_addRock_19 : decode cX2_addRock 19 = .ok (.iastore, 1) := by decide +kernel
theorem dX2_addRock_20 : decode cX2_addRock 20 = .ok (.iconst 0, 1) := by decide +kernel
theorem dX2_addRock_21 : decode cX2_addRock 21 = .ok (.istore 4, 2) := by decide +kernel
theorem dX2_addRock_23 : decode cX2_addRock 23 = .ok (.iload 4, 2) := by decide +kernel
theorem dX2_addRock_25 : decode cX2_addRock 25 = .ok (.aload_n 0, 1) := by decide +kernel
theorem dX2_addRock_26 : decode cX2_addRock 26 = .ok (.getfield 9, 3) := by decide +kernel
theorem dX2_addRock_29 : decode cX2_addRock 29 = .ok (.if_icmp .ge 21, 3) := by decide +kernel
theorem dX2_addRock_32 : decode cX2_addRock 32 = .ok (.aload_n 0, 1) := by decide +kernel
theorem dX2_addRock_33 : decode cX2_addRock 33 = .ok (.iload 4, 2) := by decide +kernel
theorem dX2_addRock_35 : decode cX2_addRock 35 = .ok (.aload_n 0, 1) := by decide +kernel
theorem dX2_addRock_36 : decode cX2_addRock 36 = .ok (.getfield 9, 3) := by decide +kernel
theorem dX2_addRock_39 : decode cX2_addRock 39 = .ok (.bipush 9, 2) := by decide +kernel
theorem dX2_addRock_41 : decode cX2_addRock 41 = .ok (.invokevirtual 89, 3) := by decide +kernel
theorem dX2_addRock_44 : decode cX2_addRock 44 = .ok (.iinc 4 1, 3) := by decide +kernel
theorem dX2_addRock_47 : decode cX2_addRock 47 = .ok (.goto (-24), 3) := by decide +kernel
theorem dX2_addRock_50 : decode cX2_addRock 50 = .ok (.aload_n 0, 1) := by decide +kernel
theorem dX2_addRock_51 : decode cX2_addRock 51 = .ok (.aload_n 0, 1) := by decide +kernel
theorem dX2_addRock_52 : decode cX2_addRock 52 = .ok (.getfield 9, 3) := by decide +kernel
theorem dX2_addRock_55 : decode cX2_addRock 55 = .ok (.aload_n 0, 1) := by decide +kernel
theorem dX2_addRock_56 : decode cX2_addRock 56 = .ok (.getfield 9, 3) := by decide +kernel
theorem dX2_addRock_59 : decode cX2_addRock 59 = .ok (.iconst 0, 1) := by decide +kernel
theorem dX2_addRock_60 : decode cX2_addRock 60 = .ok (.invokevirtual 89, 3) := by decide +kernel
theorem dX2_addRock_63 : decode cX2_addRock 63 = .ok (.aload_n 0, 1) := by decide +kernel
theorem dX2_addRock_64 : decode cX2_addRock 64 = .ok (.dup, 1) := by decide +kernel
theorem dX2_addRock_65 : decode cX2_addRock 65 = .ok (.getfield 9, 3) := by decide +kernel
theorem dX2_addRock_68 : decode cX2_addRock 68 = .ok (.iconst 1, 1) := by decide +kernel
theorem dX2_addRock_69 : decode cX2_addRock 69 = .ok (.iadd, 1) := by decide +kernel
theorem dX2_addRock_70 : decode cX2_addRock 70 = .ok (.putfield 9, 3) := by decide +kernel
theorem dX2_addRock_73 : decode cX2_addRock 73 = .ok (.return_, 1) := by decide +kernel
theorem dX6_isSign_0 : decode cX6_isSign 0 = .ok (.aload_n 0, 1) := by decide +kernel
theorem dX6_isSign_1 : decode cX6_isSign 1 = .ok (.getfield 19, 3) := by decide +kernel
theorem dX6_isSign_4 : decode cX6_isSign 4 = .ok (.aload_n 0, 1) := by decide +kernel
theorem dX6_isSign_5 : decode cX6_isSign 5 = .ok (.getfield 36, 3) := by decide +kernel
theorem dX6_isSign_8 : decode cX6_isSign 8 = .ok (.iaload, 1) := by decide +kernel
theorem dX6_isSign_9 : decode cX6_isSign 9 = .ok (.iconst 3, 1) := by decide +kernel
theorem dX6_isSign_10 : decode cX6_isSign 10 = .ok (.if_icmp .ne 20, 3) := by decide +kernel
theorem dX6_isSign_13 : decode cX6_isSign 13 = .ok (.aload_n 0, 1) := by decide +kernel
theorem dX6_isSign_14 : decode cX6_isSign 14 = .ok (.getfield 26, 3) := by decide +kernel
theorem dX6_isSign_17 : decode cX6_isSign 17 = .ok (.aload_n 0, 1) := by decide +kernel
theorem dX6_isSign_18 : decode cX6_isSign 18 = .ok (.getfield 36, 3) := by decide +kernel
theorem dX6_isSign_21 : decode cX6_isSign 21 = .ok (.iaload, 1) := by decide +kernel
theorem dX6_isSign_22 : decode cX6_isSign 22 = .ok (.iload_n 1, 1) := by decide +kernel
theorem dX6_isSign_23 : decode cX6_isSign 23 = .ok (.if_icmp .ne 7, 3) := by decide +kernel
theorem dX6_isSign_26 : decode cX6_isSign 26 = .ok (.iconst 1, 1) := by decide +kernel
theorem dX6_isSign_27 : decode cX6_isSign 27 = .ok (.goto 4, 3) := by decide +kernel
theorem dX6_isSign_30 : decode cX6_isSign 30 = .ok (.iconst 0, 1) := by decide +kernel
theorem dX6_isSign_31 : decode cX6_isSign 31 = .ok (.ireturn, 1) := by decide +kernel
theorem dX6_passSemicolon_0 : decode cX6_passSemicolon 0 = .ok (.aload_n 0, 1) := by decide +kernel
theorem dX6_passSemicolon_1 : decode cX6_passSemicolon 1 = .ok (.bipush 59, 2) := by decide +kernel
theorem dX6_passSemicolon_3 : decode cX6_passSemicolon 3 = .ok (.invokevirtual 114, 3) := by decide +kernel
theorem dX6_passSemicolon_6 : decode cX6_passSemicolon 6 = .ok (.ifCond .ne 9, 3) := by decide +kernel
theorem dX6_passSemicolon_9 : decode cX6_passSemicolon 9 = .ok (.aload_n 0, 1) := by decide +kernel
theorem dX6_passSemicolon_10 : decode cX6_passSemicolon 10 = .ok (.iconst 2, 1) := by decide +kernel
theorem dX6_passSemicolon_11 : decode cX6_passSemicolon 11 = .ok (.invokevirtual 105, 3) := by decide +kernel
theorem dX6_passSemicolon_14 : decode cX6_passSemicolon 14 = .ok (.ireturn, 1) := by decide +kernel
theorem dX6_passSemicolon_15 : decode cX6_passSemicolon 15 = .ok (.aload_n 0, 1) := by decide +kernel
theorem dX6_passSemicolon_16 : decode cX6_passSemicolon 16 = .ok (.invokevirtual 108, 3) := by decide +kernel
theorem dX6_passSemicolon_19 : decode cX6_passSemicolon 19 = .ok (.iconst 1, 1) := by decide +kernel
theorem dX6_passSemicolon_20 : decode cX6_passSemicolon 20 = .ok (.ireturn, 1) := by decide +kernel
theorem dX1_passRock_0 : decode cX1_passRock 0 = .ok (.aload_n 0, 1) := by decide +kernel
theorem dX1_passRock_1 : decode cX1_passRock 1 = .ok (.getfield 19, 3) := by decide +kernel
theorem dX1_passRock_4 : decode cX1_passRock 4 = .ok (.getfield 60, 3) := by decide +kernel
theorem dX1_passRock_7 : decode cX1_passRock 7 = .ok (.bipush 8, 2) := by decide +kernel
theorem dX1_passRock_9 : decode cX1_passRock 9 = .ok (.if_icmp .lt 13, 3) := by decide +kernel
theorem dX1_passRock_12 : decode cX1_passRock 12 = .ok (.aload_n 0, 1) := by decide +kernel
theorem dX1_passRock_13 : decode cX1_passRock 13 = .ok (.getfield 15, 3) := by decide +kernel
theorem dX1_passRock_16 : decode cX1_passRock 16 = .ok (.bipush 6, 2) := by decide +kernel
theorem dX1_passRock_18 : decode cX1_passRock 18 = .ok (.invokevirtual 56, 3) := by decide +kernel
theorem dX1_passRock_21 : decode cX1_passRock 21 = .ok (.ireturn, 1) := by decide +kernel
theorem dX1_passRock_22 : decode cX1_passRock 22 = .ok (.aload_n 0, 1) := by decide +kernel
theorem dX1_passRock_23 : decode cX1_passRock 23 = .ok (.getfield 15, 3) := by decide +kernel
theorem dX1_passRock_26 : decode cX1_passRock 26 = .ok (.invokevirtual 64, 3) := by decide +kernel
theorem dX1_passRock_29 : decode cX1_passRock 29 = .ok (.aload_n 0, 1) := by decide +kernel
theorem dX1_passRock_30 : decode cX1_passRock 30 = .ok (.invokevirtual 67, 3) := by decide +kernel
theorem dX1_passRock_33 : decode cX1_passRock 33 = .ok (.ifCond .ne 18, 3) := by decide +kernel
theorem dX1_passRock_36 : decode cX1_passRock 36 = .ok (.aload_n 0, 1) := by decide +kernel
theorem dX1_passRock_37 : decode cX1_passRock 37 = .ok (.getfield 15, 3) := by decide +kernel
theorem dX1_passRock_40 : decode cX1_passRock 40 = .ok (.aload_n 0, 1) := by decide +kernel
theorem dX1_passRock_41 : decode cX1_passRock 41 = .ok (.getfield 15, 3) := by decide +kernel
theorem dX1_passRock_44 : decode cX1_passRock 44 = .ok (.invokevirtual 70, 3) := by decide +kernel
theorem dX1_passRock_47 : decode cX1_passRock 47 = .ok (.invokevirtual 56, 3) := by decide +kernel
theorem dX1_passRock_50 : decode cX1_passRock 50 = .ok (.ireturn, 1) := by decide +kernel
theorem dX1_passRock_51 : decode cX1_passRock 51 = .ok (.aload_n 0, 1) := by decide +kernel
theorem dX1_passRock_52 : decode cX1_passRock 52 = .ok (.getfield 15, 3) := by decide +kernel
theorem dX1_passRock_55 : decode cX1_passRock 55 = .ok (.invokevirtual 73, 3) := by decide +kernel
theorem dX1_passRock_58 : decode cX1_passRock 58 = .ok (.lstore_n 1, 1) := by decide +kernel
theorem dX1_passRock_59 : decode cX1_passRock 59 = .ok (.aload_n 0, 1) := by decide +kernel
theorem dX1_passRock_60 : decode cX1_passRock 60 = .ok (.getfield 15, 3) := by decide +kernel
theorem dX1_passRock_63 : decode cX1_passRock 63 = .ok (.invokevirtual 64, 3) := by decide +kernel
theorem dX1_passRock_66 : decode cX1_passRock 66 = .ok (.iconst 5, 1) := by decide +kernel
theorem dX1_passRock_67 : decode cX1_passRock 67 = .ok (.istore_n 3, 1) := by decide +kernel
theorem dX1_passRock_68 : decode cX1_passRock 68 = .ok (.aload_n 0, 1) := by decide +kernel
theorem dX1_passRock_69 : decode cX1_passRock 69 = .ok (.getfield 15, 3) := by decide +kernel
theorem dX1_passRock_72 : decode cX1_passRock 72 = .ok (.invokevirtual 37, 3) := by decide +kernel
theorem dX1_passRock_75 : decode cX1_passRock 75 = .ok (.iconst 1, 1) := by decide +kernel
theorem dX1_passRock_76 : decode cX1_passRock 76 = .ok (.if_icmp .ne 33, 3) := by decide +kernel
theorem dX1_passRock_79 : decode cX1_passRock 79 = .ok (.aload_n 0, 1) := by decide +kernel
theorem dX1_passRock_80 : decode cX1_passRock 80 = .ok (.getfield 15, 3) := by decide +kernel
theorem dX1_passRock_83 : decode cX1_passRock 83 = .ok (.invokevirtual 64, 3) := by decide +kernel
theorem dX1_passRock_86 : decode cX1_passRock 86 = .ok (.aload_n 0, 1) := by decide +kernel
theorem dX1_passRock_87 : decode cX1_passRock 87 = .ok (.getfield 15, 3) := by decide +kernel
theorem dX1_passRock_90 : decode cX1_passRock 90 = .ok (.invokevirtual 77, 3) := by decide +kernel
theorem dX1_passRock_93 : decode cX1_passRock 93 = .ok (.istore_n 3, 1) := by decide +kernel
theorem dX1_passRock_94 : decode cX1_passRock 94 = .ok (.aload_n 0, 1) := by decide +kernel
theorem dX1_passRock_95 : decode cX1_passRock 95 = .ok (.getfield 15, 3) := by decide +kernel
theorem dX1_passRock_98 : decode cX1_passRock 98 = .ok (.iconst 0, 1) := by decide +kernel
theorem dX1_passRock_99 : decode cX1_passRock 99 = .ok (.bipush 99, 2) := by decide +kernel
theorem dX1_passRock_101 : decode cX1_passRock 101 = .ok (.invokevirtual 80, 3) := by decide +kernel
theorem dX1_passRock_104 : decode cX1_passRock 104 = .ok (.ifCond .ne 5, 3) := by decide +kernel
theorem dX1_passRock_107 : decode cX1_passRock 107 = .ok (.iconst 0, 1) := by decide +kernel
theorem dX1_passRock_108 : decode cX1_passRock 108 = .ok (.ireturn, 1) := by decide +kernel
theorem dX1_passRock_109 : decode cX1_passRock 109 = .ok (.aload_n 0, 1) := by decide +kernel
theorem dX1_passRock_110 : decode cX1_passRock 110 = .ok (.getfield 19, 3) := by decide +kernel
theorem dX1_passRock_113 : decode cX1_passRock 113 = .ok (.lload_n 1, 1) := by decide +kernel
theorem dX1_passRock_114 : decode cX1_passRock 114 = .ok (.iload_n 3, 1) := by decide +kernel
theorem dX1_passRock_115 : decode cX1_passRock 115 = .ok (.invokevirtual 84, 3) := by decide +kernel
theorem dX1_passRock_118 : decode cX1_passRock 118 = .ok (.aload_n 0, 1) := by decide +kernel
theorem dX1_passRock_119 : decode cX1_passRock 119 = .ok (.getfield 15, 3) := by decide +kernel
theorem dX1_passRock_122 : decode cX1_passRock 122 = .ok (.invokevirtual 88, 3) := by decide +kernel
theorem dX1_passRock_125 : decode cX1_passRock 125 = .ok (.ireturn, 1) := by decide +kernel
def fX10_status (t : Nat) (M : Mem) : Option Int32 :=
  some (M.1 t 0)
set_option maxRecDepth 100000 in
set_option maxHeartbeats 4000000 in
theorem kX10_status (t : Nat) (M : Mem) (ht : isO 10 t) (l : Launch) (G : GT) {b : Int32} (hE : fX10_status t M = some b) : Ok l G yX10_status cX10_status 1 (some .int) 0 0 [.ref t] M ((fun b : Int32 => (some (Value.int b), M)) b).1 ((fun b : Int32 => (some (Value.int b), M)) b).2 := by
  refine Ok.ofX (pj := (fun b : Int32 => (some (Value.int b), M))) (by decide) (Nat.le_of_ble_eq_true rfl) hE (fun J g hr hG hl hR hn => ?_)
  show X J (fun b : Int32 => (some (Value.int b), M)) (fX10_status t M) 0 [(0, .ref t)] [] M
  unfold fX10_status
  exact (x_aload_n g 0 dX10_status_0 rfl rfl
 (x_getI g fl_RX10_9 rfl ht dX10_status_1
 (x_iret g hr rfl rfl dX10_status_4)))
def fX10_top (t : Nat) (M : Mem) : Option Int64 :=
  some (M.2.1 t 1)
set_option maxRecDepth 100000 in
set_option maxHeartbeats 4000000 in
theorem kX10_top (t : Nat) (M : Mem) (ht : isO 10 t) (l : Launch) (G : GT) {b : Int64} (hE : fX10_top t M = some b) : Ok l G yX10_top cX10_top 1 (some .long) 0 0 [.ref t] M ((fun b : Int64 => (some (Value.long b), M)) b).1 ((fun b : Int64 => (some (Value.long b), M)) b).2 := by
  refine Ok.ofX (pj := (fun b : Int64 => (some (Value.long b), M))) (by decide) (Nat.le_of_ble_eq_true rfl) hE (fun J g hr hG hl hR hn => ?_)
  show X J (fun b : Int64 => (some (Value.long b), M)) (fX10_top t M) 0 [(0, .ref t)] [] M
  unfold fX10_top
  exact (x_aload_n g 0 dX10_top_0 rfl rfl
 (x_getL g fl_RX10_13 rfl ht dX10_top_1
 (x_lret g hr rfl dX10_top_4)))
def fX10_bottom (t : Nat) (M : Mem) : Option Int64 :=
  some (M.2.1 t 2)
set_option maxRecDepth 100000 in
set_option maxHeartbeats 4000000 in
theorem kX10_bottom (t : Nat) (M : Mem) (ht : isO 10 t) (l : Launch) (G : GT) {b : Int64} (hE : fX10_bottom t M = some b) : Ok l G yX10_bottom cX10_bottom 1 (some .long) 0 0 [.ref t] M ((fun b : Int64 => (some (Value.long b), M)) b).1 ((fun b : Int64 => (some (Value.long b), M)) b).2 := by
  refine Ok.ofX (pj := (fun b : Int64 => (some (Value.long b), M))) (by decide) (Nat.le_of_ble_eq_true rfl) hE (fun J g hr hG hl hR hn => ?_)
  show X J (fun b : Int64 => (some (Value.long b), M)) (fX10_bottom t M) 0 [(0, .ref t)] [] M
  unfold fX10_bottom
  exact (x_aload_n g 0 dX10_bottom_0 rfl rfl
 (x_getL g fl_RX10_17 rfl ht dX10_bottom_1
 (x_lret g hr rfl dX10_bottom_4)))
def fX10_isWithin (a1 : Int32) (a2 : Int32) (a3 : Int32) (M : Mem) : Option Int32 :=
  if a1 < a2 then
 some (0 : Int32)
 else
 if a3 < a1 then
 some (0 : Int32)
 else
 some (1 : Int32)
set_option maxRecDepth 100000 in
set_option maxHeartbeats 4000000 in
theorem kX10_isWithin (a1 : Int32) (a2 : Int32) (a3 : Int32) (M : Mem) (l : Launch) (G : GT) {b : Int32} (hE : fX10_isWithin a1 a2 a3 M = some b) : Ok l G yX10_isWithin cX10_isWithin 3 (some .boolean) 0 0 [.int a1, .int a2, .int a3] M ((fun b : Int32 => (some (Value.int b), M)) b).1 ((fun b : Int32 => (some (Value.int b), M)) b).2 := by
  refine Ok.ofX (pj := (fun b : Int32 => (some (Value.int b), M))) (by decide) (Nat.le_of_ble_eq_true rfl) hE (fun J g hr hG hl hR hn => ?_)
  show X J (fun b : Int32 => (some (Value.int b), M)) (fX10_isWithin a1 a2 a3 M) 0 [(0, .int a1), (1, .int a2), (2, .int a3)] [] M
  unfold fX10_isWithin
  exact (x_iload_n g 0 dX10_isWithin_0 rfl rfl
 (x_iload_n g 1 dX10_isWithin_1 rfl rfl
 (x_icmp_lt g 14 dX10_isWithin_2 rfl
 (fun _ => (x_iconst g dX10_isWithin_14 kI_0
 (x_iret g hr rfl rfl dX10_isWithin_15)))
 (fun _ => (x_iload_n g 0 dX10_isWithin_5 rfl rfl
 (x_iload_n g 2 dX10_isWithin_6 rfl rfl
 (x_icmp_gt g 14 dX10_isWithin_7 rfl
 (fun _ => (x_iconst g dX10_isWithin_14 kI_0
 (x_iret g hr rfl rfl dX10_isWithin_15)))
 (fun _ => (x_iconst g dX10_isWithin_10 kI_1
 (x_goto g 15 dX10_isWithin_11 rfl
 (x_iret g hr rfl rfl dX10_isWithin_15)))))))))))
def fX10_isTray (a1 : Int32) (M : Mem) : Option Int32 :=
  (fX10_isWithin a1 (0 : Int32) (3 : Int32) M).bind fun v1 =>
 if v1 = 0 ∨ v1 = 1 then some v1 else none
set_option maxRecDepth 100000 in
set_option maxHeartbeats 4000000 in
theorem kX10_isTray (a1 : Int32) (M : Mem) (l : Launch) (G : GT) {b : Int32} (hE : fX10_isTray a1 M = some b) : Ok l G yX10_isTray cX10_isTray 1 (some .boolean) 1 22 [.int a1] M ((fun b : Int32 => (some (Value.int b), M)) b).1 ((fun b : Int32 => (some (Value.int b), M)) b).2 := by
  refine Ok.ofX (pj := (fun b : Int32 => (some (Value.int b), M))) (by decide) (Nat.le_of_ble_eq_true rfl) hE (fun J g hr hG hl hR hn => ?_)
  show X J (fun b : Int32 => (some (Value.int b), M)) (fX10_isTray a1 M) 0 [(0, .int a1)] [] M
  unfold fX10_isTray
  exact (x_iload_n g 0 dX10_isTray_0 rfl rfl
 (x_iconst g dX10_isTray_1 kI_0
 (x_iconst g dX10_isTray_2 kI_3
 (x_callSip (As := [.int a1, .int (0 : Int32), .int (3 : Int32)]) g mv_X10_isWithin ms_X10_isWithin lk_RX10_114 (fun b hb => kX10_isWithin a1 (0 : Int32) (3 : Int32) M _ _ hb) rfl rfl hR ⟨Nat.le_of_ble_eq_true rfl, Nat.le_of_ble_eq_true rfl⟩ (Nat.le_of_ble_eq_true rfl) dX10_isTray_3 (fun v1 =>
 (x_ck (fun hq2 => x_iret g hr (nbz hq2) rfl dX10_isTray_6)))))))
def fX10_deny (t : Nat) (a1 : Int32) (M : Mem) : Option (Int32 × Mem) :=
  nm (stI M t 0 a1) (fun M1 =>
 some ((0 : Int32), M1))
set_option maxRecDepth 100000 in
set_option maxHeartbeats 4000000 in
theorem kX10_deny (t : Nat) (a1 : Int32) (M : Mem) (ht : isO 10 t) (l : Launch) (G : GT) {b : (Int32 × Mem)} (hE : fX10_deny t a1 M = some b) : Ok l G yX10_deny cX10_deny 2 (some .boolean) 0 0 [.ref t, .int a1] M ((fun q : Int32 × Mem => (some (Value.int q.1), q.2)) b).1 ((fun q : Int32 × Mem => (some (Value.int q.1), q.2)) b).2 := by
  refine Ok.ofX (pj := (fun q : Int32 × Mem => (some (Value.int q.1), q.2))) (by decide) (Nat.le_of_ble_eq_true rfl) hE (fun J g hr hG hl hR hn => ?_)
  show X J (fun q : Int32 × Mem => (some (Value.int q.1), q.2)) (fX10_deny t a1 M) 0 [(0, .ref t), (1, .int a1)] [] M
  unfold fX10_deny
  exact (x_aload_n g 0 dX10_deny_0 rfl rfl
 (x_iload_n g 1 dX10_deny_1 rfl rfl
 (x_putI g fp_RX10_9 rfl (Nat.le_of_ble_eq_true rfl) ht dX10_deny_2 (x_nmM (fun M1 =>
 (x_iconst g dX10_deny_5 kI_0
 (x_iret g hr rfl rfl dX10_deny_6)))))))
def lX7_renew_12 (t : Nat) : Nat → Int32 → Mem → Option (Unit × Mem)
  | 0, _, _ => none
  | n + 1, x3, M =>
    if (60 : Int32) ≤ x3 then
 some ((), M)
 else
 ixk x3 60 (nm (stL M (t + 1) x3.toNatClampNeg (0 : Int64)) (fun M3 =>
 lX7_renew_12 t n (x3 + 1) M3))
theorem lX7_renew_12_s (t : Nat) (n : Nat) (x3 : Int32) (M : Mem) : lX7_renew_12 t (n + 1) x3 M =
    if (60 : Int32) ≤ x3 then
 some ((), M)
 else
 ixk x3 60 (nm (stL M (t + 1) x3.toNatClampNeg (0 : Int64)) (fun M3 =>
 lX7_renew_12 t n (x3 + 1) M3)) := rfl
theorem lX7_renew_12_0 (t : Nat) (x3 : Int32) (M : Mem) : lX7_renew_12 t 0 x3 M = none := rfl
set_option maxRecDepth 100000 in
set_option maxHeartbeats 4000000 in
theorem wlX7_renew_12 {J : JT} (g : Gd J cX7_renew RX7) (hr : Rt J none) (hR : (JR J).frames = 0 ∧ (JR J).locals = 0) (hn : Jn J = 4) (t : Nat) (ht : isO 7 t) : ∀ (n : Nat) (x3 : Int32) (M : Mem), X J (fun q : Unit × Mem => ((none : Option Value), q.2)) (lX7_renew_12 t n x3 M) 12 [(0, .ref t), (3, .int x3)] [] M := by
  intro n
  induction n with
  | zero =>
    intro x3 M
    exact x_none
  | succ n ih =>
    intro x3 M
    rw [lX7_renew_12_s]
    exact (x_iload_n g 1 dX7_renew_12 rfl rfl
 (x_bipush g dX7_renew_13 kB_60
 (x_icmp_ge g 31 dX7_renew_15 rfl
 (fun _ => (x_vret g hr rfl dX7_renew_31))
 (fun _ => (x_aload_n g 0 dX7_renew_18 rfl rfl
 (x_getS g 1 fl_RX7_9 rfl ht dX7_renew_19
 (x_iload_n g 1 dX7_renew_22 rfl rfl
 (x_lconst g dX7_renew_23 kL_0
 (x_last g (so_7_0 ht) dX7_renew_24 (x_nmM (fun M3 =>
 (x_iinc (L' := [(3, .int (x3 + 1)), (0, .ref t)]) (v := (x3 + 1)) g 1 dX7_renew_25 rfl (by rw [kI_1]) hn (Nat.le_of_ble_eq_true rfl) rfl
 (x_goto g 12 dX7_renew_28 rfl
 (x_sub [1, 0] rfl (ih (x3 + 1) M3)))))))))))))))
def fX7_renew (φ : Nat) (t : Nat) (a1 : Int32) (a2 : Int32) (M : Mem) : Option (Unit × Mem) :=
  nm (stI M t 1 a1) (fun M1 =>
 nm (stI M1 t 2 a2) (fun M2 =>
 lX7_renew_12 t φ (0 : Int32) M2))
set_option maxRecDepth 100000 in
set_option maxHeartbeats 4000000 in
theorem kX7_renew (φ : Nat) (t : Nat) (a1 : Int32) (a2 : Int32) (M : Mem) (ht : isO 7 t) (l : Launch) (G : GT) {b : (Unit × Mem)} (hE : fX7_renew φ t a1 a2 M = some b) : Ok l G yX7_renew cX7_renew 4 none 0 0 [.ref t, .int a1, .int a2] M ((fun q : Unit × Mem => ((none : Option Value), q.2)) b).1 ((fun q : Unit × Mem => ((none : Option Value), q.2)) b).2 := by
  refine Ok.ofX (pj := (fun q : Unit × Mem => ((none : Option Value), q.2))) (by decide) (Nat.le_of_ble_eq_true rfl) hE (fun J g hr hG hl hR hn => ?_)
  show X J (fun q : Unit × Mem => ((none : Option Value), q.2)) (fX7_renew φ t a1 a2 M) 0 [(0, .ref t), (1, .int a1), (2, .int a2)] [] M
  unfold fX7_renew
  exact (x_aload_n g 0 dX7_renew_0 rfl rfl
 (x_iload_n g 1 dX7_renew_1 rfl rfl
 (x_putI g fp_RX7_15 rfl (Nat.le_of_ble_eq_true rfl) ht dX7_renew_2 (x_nmM (fun M1 =>
 (x_aload_n g 0 dX7_renew_5 rfl rfl
 (x_iload_n g 2 dX7_renew_6 rfl rfl
 (x_putI g fp_RX7_19 rfl (Nat.le_of_ble_eq_true rfl) ht dX7_renew_7 (x_nmM (fun M2 =>
 (x_iconst g dX7_renew_10 kI_0
 (x_istore_n (L' := [(3, .int (0 : Int32)), (0, .ref t), (1, .int a1), (2, .int a2)]) g dX7_renew_11 rfl hn (Nat.le_of_ble_eq_true rfl) rfl
 (x_sub [1, 0] rfl (wlX7_renew_12 g hr hR hn  t ht φ (0 : Int32) M2))))))))))))))
def fX10_grant (t : Nat) (M : Mem) : Option (Int32 × Mem) :=
  nm (stI M t 0 (0 : Int32)) (fun M1 =>
 some ((1 : Int32), M1))
set_option maxRecDepth 100000 in
set_option maxHeartbeats 4000000 in
theorem kX10_grant (t : Nat) (M : Mem) (ht : isO 10 t) (l : Launch) (G : GT) {b : (Int32 × Mem)} (hE : fX10_grant t M = some b) : Ok l G yX10_grant cX10_grant 1 (some .boolean) 0 0 [.ref t] M ((fun q : Int32 × Mem => (some (Value.int q.1), q.2)) b).1 ((fun q : Int32 × Mem => (some (Value.int q.1), q.2)) b).2 := by
  refine Ok.ofX (pj := (fun q : Int32 × Mem => (some (Value.int q.1), q.2))) (by decide) (Nat.le_of_ble_eq_true rfl) hE (fun J g hr hG hl hR hn => ?_)
  show X J (fun q : Int32 × Mem => (some (Value.int q.1), q.2)) (fX10_grant t M) 0 [(0, .ref t)] [] M
  unfold fX10_grant
  exact (x_aload_n g 0 dX10_grant_0 rfl rfl
 (x_iconst g dX10_grant_1 kI_0
 (x_putI g fp_RX10_9 rfl (Nat.le_of_ble_eq_true rfl) ht dX10_grant_2 (x_nmM (fun M1 =>
 (x_iconst g dX10_grant_5 kI_1
 (x_iret g hr rfl rfl dX10_grant_6)))))))
def fX10_tray (φ : Nat) (t : Nat) (a1 : Int32) (a2 : Int32) (a3 : Int32) (M : Mem) : Option (Int32 × Mem) :=
  (fX10_isTray a1 M).bind fun v1 =>
 if v1 = 0 then
 bd (fX10_deny t (1 : Int32) M) fun v2 M3 =>
 if v2 = 0 ∨ v2 = 1 then some (v2, M3) else none
 else
 (fX10_isWithin a2 (0 : Int32) (3 : Int32) M).bind fun v5 =>
 if v5 = 0 then
 bd (fX10_deny t (1 : Int32) M) fun v6 M7 =>
 if v6 = 0 ∨ v6 = 1 then some (v6, M7) else none
 else
 (fX10_isWithin a3 (0 : Int32) (60 : Int32) M).bind fun v9 =>
 if v9 = 0 then
 bd (fX10_deny t (1 : Int32) M) fun v16 M17 =>
 if v16 = 0 ∨ v16 = 1 then some (v16, M17) else none
 else
 ixk a1 4 (
 bd (fX7_renew φ (srf (t + 1) a1.toNatClampNeg) a2 a3 M) fun vu11 M12 =>
 bd (fX10_grant t M12) fun v13 M14 =>
 if v13 = 0 ∨ v13 = 1 then some (v13, M14) else none)
set_option maxRecDepth 100000 in
set_option maxHeartbeats 4000000 in
theorem kX10_tray (φ : Nat) (t : Nat) (a1 : Int32) (a2 : Int32) (a3 : Int32) (M : Mem) (ht : isO 10 t) (l : Launch) (G : GT) {b : (Int32 × Mem)} (hE : fX10_tray φ t a1 a2 a3 M = some b) : Ok l G yX10_tray cX10_tray 4 (some .boolean) 2 42 [.ref t, .int a1, .int a2, .int a3] M ((fun q : Int32 × Mem => (some (Value.int q.1), q.2)) b).1 ((fun q : Int32 × Mem => (some (Value.int q.1), q.2)) b).2 := by
  refine Ok.ofX (pj := (fun q : Int32 × Mem => (some (Value.int q.1), q.2))) (by decide) (Nat.le_of_ble_eq_true rfl) hE (fun J g hr hG hl hR hn => ?_)
  show X J (fun q : Int32 × Mem => (some (Value.int q.1), q.2)) (fX10_tray φ t a1 a2 a3 M) 0 [(0, .ref t), (1, .int a1), (2, .int a2), (3, .int a3)] [] M
  unfold fX10_tray
  exact (x_iload_n g 1 dX10_tray_0 rfl rfl
 (x_callSip (As := [.int a1]) g mv_X10_isTray ms_X10_isTray lk_RX10_110 (fun b hb => kX10_isTray a1 M _ _ hb) rfl rfl hR ⟨Nat.le_of_ble_eq_true rfl, Nat.le_of_ble_eq_true rfl⟩ (Nat.le_of_ble_eq_true rfl) dX10_tray_1 (fun v1 =>
 (x_if_eq g 26 dX10_tray_4 rfl
 (fun _ => (x_aload_n g 0 dX10_tray_26 rfl rfl
 (x_iconst g dX10_tray_27 kI_1
 (x_callVi (As := [.int (1 : Int32)]) g mv_X10_deny mi_X10_deny lk_RX10_118 ht (fun b Mh_ hb => kX10_deny t (1 : Int32) M ht _ _ hb) rfl rfl hR ⟨Nat.le_of_ble_eq_true rfl, Nat.le_of_ble_eq_true rfl⟩ (Nat.le_of_ble_eq_true rfl) dX10_tray_28 (fun v2 M3 =>
 (x_ck (fun hq4 => x_iret g hr (nbz hq4) rfl dX10_tray_31)))))))
 (fun _ => (x_iload_n g 2 dX10_tray_7 rfl rfl
 (x_iconst g dX10_tray_8 kI_0
 (x_iconst g dX10_tray_9 kI_3
 (x_callSip (As := [.int a2, .int (0 : Int32), .int (3 : Int32)]) g mv_X10_isWithin ms_X10_isWithin lk_RX10_114 (fun b hb => kX10_isWithin a2 (0 : Int32) (3 : Int32) M _ _ hb) rfl rfl hR ⟨Nat.le_of_ble_eq_true rfl, Nat.le_of_ble_eq_true rfl⟩ (Nat.le_of_ble_eq_true rfl) dX10_tray_10 (fun v5 =>
 (x_if_eq g 26 dX10_tray_13 rfl
 (fun _ => (x_aload_n g 0 dX10_tray_26 rfl rfl
 (x_iconst g dX10_tray_27 kI_1
 (x_callVi (As := [.int (1 : Int32)]) g mv_X10_deny mi_X10_deny lk_RX10_118 ht (fun b Mh_ hb => kX10_deny t (1 : Int32) M ht _ _ hb) rfl rfl hR ⟨Nat.le_of_ble_eq_true rfl, Nat.le_of_ble_eq_true rfl⟩ (Nat.le_of_ble_eq_true rfl) dX10_tray_28 (fun v6 M7 =>
 (x_ck (fun hq8 => x_iret g hr (nbz hq8) rfl dX10_tray_31)))))))
 (fun _ => (x_iload_n g 3 dX10_tray_16 rfl rfl
 (x_iconst g dX10_tray_17 kI_0
 (x_bipush g dX10_tray_18 kB_60
 (x_callSip (As := [.int a3, .int (0 : Int32), .int (60 : Int32)]) g mv_X10_isWithin ms_X10_isWithin lk_RX10_114 (fun b hb => kX10_isWithin a3 (0 : Int32) (60 : Int32) M _ _ hb) rfl rfl hR ⟨Nat.le_of_ble_eq_true rfl, Nat.le_of_ble_eq_true rfl⟩ (Nat.le_of_ble_eq_true rfl) dX10_tray_20 (fun v9 =>
 (x_if_ne g 32 dX10_tray_23 rfl
 (fun _ => (x_aload_n g 0 dX10_tray_32 rfl rfl
 (x_getS g 1 fl_RX10_22 rfl ht dX10_tray_33
 (x_iload_n g 1 dX10_tray_36 rfl rfl
 (x_aald g 4 (fun _ => rfl) (so_10_3 ht) dX10_tray_37 (fun hq10 =>
 (x_iload_n g 2 dX10_tray_38 rfl rfl
 (x_iload_n g 3 dX10_tray_39 rfl rfl
 (x_callVv (As := [.int a2, .int a3]) g mv_X7_renew mi_X7_renew lk_RX10_121 (se_10_3 ht hq10) (fun b Mh_ hb => kX7_renew φ (srf (t + 1) a1.toNatClampNeg) a2 a3 M (se_10_3 ht hq10) _ _ hb) rfl rfl hR ⟨Nat.le_of_ble_eq_true rfl, Nat.le_of_ble_eq_true rfl⟩ (Nat.le_of_ble_eq_true rfl) dX10_tray_40 (fun vu11 M12 =>
 (x_aload_n g 0 dX10_tray_43 rfl rfl
 (x_callVi (As := []) g mv_X10_grant mi_X10_grant lk_RX10_125 ht (fun b Mh_ hb => kX10_grant t M12 ht _ _ hb) rfl rfl hR ⟨Nat.le_of_ble_eq_true rfl, Nat.le_of_ble_eq_true rfl⟩ (Nat.le_of_ble_eq_true rfl) dX10_tray_44 (fun v13 M14 =>
 (x_ck (fun hq15 => x_iret g hr (nbz hq15) rfl dX10_tray_47)))))))))))))))
 (fun _ => (x_aload_n g 0 dX10_tray_26 rfl rfl
 (x_iconst g dX10_tray_27 kI_1
 (x_callVi (As := [.int (1 : Int32)]) g mv_X10_deny mi_X10_deny lk_RX10_118 ht (fun b Mh_ hb => kX10_deny t (1 : Int32) M ht _ _ hb) rfl rfl hR ⟨Nat.le_of_ble_eq_true rfl, Nat.le_of_ble_eq_true rfl⟩ (Nat.le_of_ble_eq_true rfl) dX10_tray_28 (fun v16 M17 =>
 (x_ck (fun hq18 => x_iret g hr (nbz hq18) rfl dX10_tray_31)))))))))))))))))))))))))
def fX7_isMissing (t : Nat) (M : Mem) : Option Int32 :=
  if (M.1 t 2) = (-1 : Int32) then
 some (1 : Int32)
 else
 some (0 : Int32)
set_option maxRecDepth 100000 in
set_option maxHeartbeats 4000000 in
theorem kX7_isMissing (t : Nat) (M : Mem) (ht : isO 7 t) (l : Launch) (G : GT) {b : Int32} (hE : fX7_isMissing t M = some b) : Ok l G yX7_isMissing cX7_isMissing 1 (some .boolean) 0 0 [.ref t] M ((fun b : Int32 => (some (Value.int b), M)) b).1 ((fun b : Int32 => (some (Value.int b), M)) b).2 := by
  refine Ok.ofX (pj := (fun b : Int32 => (some (Value.int b), M))) (by decide) (Nat.le_of_ble_eq_true rfl) hE (fun J g hr hG hl hR hn => ?_)
  show X J (fun b : Int32 => (some (Value.int b), M)) (fX7_isMissing t M) 0 [(0, .ref t)] [] M
  unfold fX7_isMissing
  exact (x_aload_n g 0 dX7_isMissing_0 rfl rfl
 (x_getI g fl_RX7_19 rfl ht dX7_isMissing_1
 (x_iconst g dX7_isMissing_4 kI_m1
 (x_icmp_ne g 12 dX7_isMissing_5 rfl
 (fun _ => (x_iconst g dX7_isMissing_12 kI_0
 (x_iret g hr rfl rfl dX7_isMissing_13)))
 (fun _ => (x_iconst g dX7_isMissing_8 kI_1
 (x_goto g 13 dX7_isMissing_9 rfl
 (x_iret g hr rfl rfl dX7_isMissing_13))))))))
def fX7_hasRow (t : Nat) (a1 : Int32) (a2 : Int32) (M : Mem) : Option Int32 :=
  if a1 < 0 then
 some (0 : Int32)
 else
 if a2 < 0 then
 some (0 : Int32)
 else
 if ((M.1 t 2).toInt64) < ((a1.toInt64) + (a2.toInt64)) then
 some (0 : Int32)
 else
 some (1 : Int32)
set_option maxRecDepth 100000 in
set_option maxHeartbeats 4000000 in
theorem kX7_hasRow (t : Nat) (a1 : Int32) (a2 : Int32) (M : Mem) (ht : isO 7 t) (l : Launch) (G : GT) {b : Int32} (hE : fX7_hasRow t a1 a2 M = some b) : Ok l G yX7_hasRow cX7_hasRow 3 (some .boolean) 0 0 [.ref t, .int a1, .int a2] M ((fun b : Int32 => (some (Value.int b), M)) b).1 ((fun b : Int32 => (some (Value.int b), M)) b).2 := by
  refine Ok.ofX (pj := (fun b : Int32 => (some (Value.int b), M))) (by decide) (Nat.le_of_ble_eq_true rfl) hE (fun J g hr hG hl hR hn => ?_)
  show X J (fun b : Int32 => (some (Value.int b), M)) (fX7_hasRow t a1 a2 M) 0 [(0, .ref t), (1, .int a1), (2, .int a2)] [] M
  unfold fX7_hasRow
  exact (x_iload_n g 1 dX7_hasRow_0 rfl rfl
 (x_if_lt g 26 dX7_hasRow_1 rfl
 (fun _ => (x_iconst g dX7_hasRow_26 kI_0
 (x_iret g hr rfl rfl dX7_hasRow_27)))
 (fun _ => (x_iload_n g 2 dX7_hasRow_4 rfl rfl
 (x_if_lt g 26 dX7_hasRow_5 rfl
 (fun _ => (x_iconst g dX7_hasRow_26 kI_0
 (x_iret g hr rfl rfl dX7_hasRow_27)))
 (fun _ => (x_iload_n g 1 dX7_hasRow_8 rfl rfl
 (x_i2l g dX7_hasRow_9
 (x_iload_n g 2 dX7_hasRow_10 rfl rfl
 (x_i2l g dX7_hasRow_11
 (x_ladd g dX7_hasRow_12
 (x_aload_n g 0 dX7_hasRow_13 rfl rfl
 (x_getI g fl_RX7_19 rfl ht dX7_hasRow_14
 (x_i2l g dX7_hasRow_17
 (x_l_gt g 26 dX7_hasRow_18 dX7_hasRow_19 rfl
 (fun _ => (x_iconst g dX7_hasRow_26 kI_0
 (x_iret g hr rfl rfl dX7_hasRow_27)))
 (fun _ => (x_iconst g dX7_hasRow_22 kI_1
 (x_goto g 27 dX7_hasRow_23 rfl
 (x_iret g hr rfl rfl dX7_hasRow_27)))))))))))))))))))
def fX10_placeStatus (t : Nat) (a1 : Int32) (a2 : Int32) (M : Mem) : Option Int32 :=
  (fX10_isTray a1 M).bind fun v1 =>
 if v1 = 0 then
 some (1 : Int32)
 else
 ixk a1 4 (
 (fX7_isMissing (srf (t + 1) a1.toNatClampNeg) M).bind fun v3 =>
 if v3 = 0 then
 ixk a1 4 (
 (fX7_hasRow (srf (t + 1) a1.toNatClampNeg) a2 (1 : Int32) M).bind fun v5 =>
 if v5 = 0 then
 some (3 : Int32)
 else
 some (0 : Int32))
 else
 some (2 : Int32))
set_option maxRecDepth 100000 in
set_option maxHeartbeats 4000000 in
theorem kX10_placeStatus (t : Nat) (a1 : Int32) (a2 : Int32) (M : Mem) (ht : isO 10 t) (l : Launch) (G : GT) {b : Int32} (hE : fX10_placeStatus t a1 a2 M = some b) : Ok l G yX10_placeStatus cX10_placeStatus 3 (some .int) 2 42 [.ref t, .int a1, .int a2] M ((fun b : Int32 => (some (Value.int b), M)) b).1 ((fun b : Int32 => (some (Value.int b), M)) b).2 := by
  refine Ok.ofX (pj := (fun b : Int32 => (some (Value.int b), M))) (by decide) (Nat.le_of_ble_eq_true rfl) hE (fun J g hr hG hl hR hn => ?_)
  show X J (fun b : Int32 => (some (Value.int b), M)) (fX10_placeStatus t a1 a2 M) 0 [(0, .ref t), (1, .int a1), (2, .int a2)] [] M
  unfold fX10_placeStatus
  exact (x_iload_n g 1 dX10_placeStatus_0 rfl rfl
 (x_callSip (As := [.int a1]) g mv_X10_isTray ms_X10_isTray lk_RX10_110 (fun b hb => kX10_isTray a1 M _ _ hb) rfl rfl hR ⟨Nat.le_of_ble_eq_true rfl, Nat.le_of_ble_eq_true rfl⟩ (Nat.le_of_ble_eq_true rfl) dX10_placeStatus_1 (fun v1 =>
 (x_if_ne g 9 dX10_placeStatus_4 rfl
 (fun _ => (x_aload_n g 0 dX10_placeStatus_9 rfl rfl
 (x_getS g 1 fl_RX10_22 rfl ht dX10_placeStatus_10
 (x_iload_n g 1 dX10_placeStatus_13 rfl rfl
 (x_aald g 4 (fun _ => rfl) (so_10_3 ht) dX10_placeStatus_14 (fun hq2 =>
 (x_callVip (As := []) g mv_X7_isMissing mi_X7_isMissing lk_RX10_145 (se_10_3 ht hq2) (fun b hb => kX7_isMissing (srf (t + 1) a1.toNatClampNeg) M (se_10_3 ht hq2) _ _ hb) rfl rfl hR ⟨Nat.le_of_ble_eq_true rfl, Nat.le_of_ble_eq_true rfl⟩ (Nat.le_of_ble_eq_true rfl) dX10_placeStatus_15 (fun v3 =>
 (x_if_eq g 23 dX10_placeStatus_18 rfl
 (fun _ => (x_aload_n g 0 dX10_placeStatus_23 rfl rfl
 (x_getS g 1 fl_RX10_22 rfl ht dX10_placeStatus_24
 (x_iload_n g 1 dX10_placeStatus_27 rfl rfl
 (x_aald g 4 (fun _ => rfl) (so_10_3 ht) dX10_placeStatus_28 (fun hq4 =>
 (x_iload_n g 2 dX10_placeStatus_29 rfl rfl
 (x_iconst g dX10_placeStatus_30 kI_1
 (x_callVip (As := [.int a2, .int (1 : Int32)]) g mv_X7_hasRow mi_X7_hasRow lk_RX10_151 (se_10_3 ht hq4) (fun b hb => kX7_hasRow (srf (t + 1) a1.toNatClampNeg) a2 (1 : Int32) M (se_10_3 ht hq4) _ _ hb) rfl rfl hR ⟨Nat.le_of_ble_eq_true rfl, Nat.le_of_ble_eq_true rfl⟩ (Nat.le_of_ble_eq_true rfl) dX10_placeStatus_31 (fun v5 =>
 (x_if_eq g 41 dX10_placeStatus_34 rfl
 (fun _ => (x_iconst g dX10_placeStatus_41 kI_3
 (x_iret g hr rfl rfl dX10_placeStatus_42)))
 (fun _ => (x_iconst g dX10_placeStatus_37 kI_0
 (x_goto g 42 dX10_placeStatus_38 rfl
 (x_iret g hr rfl rfl dX10_placeStatus_42)))))))))))))))
 (fun _ => (x_iconst g dX10_placeStatus_21 kI_2
 (x_iret g hr rfl rfl dX10_placeStatus_22))))))))))))
 (fun _ => (x_iconst g dX10_placeStatus_7 kI_1
 (x_iret g hr rfl rfl dX10_placeStatus_8)))))))
def fX7_put (t : Nat) (a1 : Int32) (a2 : Int64) (M : Mem) : Option (Unit × Mem) :=
  if (M.1 t 1) = 0 then
 ixk a1 60 (nm (stL M (t + 1) a1.toNatClampNeg (((a2.toInt32).toInt8.toInt32).toInt64)) (fun M9 =>
 some ((), M9)))
 else
 if (M.1 t 1) = 1 then
 ixk a1 60 (nm (stL M (t + 1) a1.toNatClampNeg (((a2.toInt32).toInt16.toInt32).toInt64)) (fun M7 =>
 some ((), M7)))
 else
 if (M.1 t 1) = 2 then
 ixk a1 60 (nm (stL M (t + 1) a1.toNatClampNeg ((a2.toInt32).toInt64)) (fun M5 =>
 some ((), M5)))
 else
 ixk a1 60 (nm (stL M (t + 1) a1.toNatClampNeg a2) (fun M1 =>
 some ((), M1)))
set_option maxRecDepth 100000 in
set_option maxHeartbeats 4000000 in
theorem kX7_put (t : Nat) (a1 : Int32) (a2 : Int64) (M : Mem) (ht : isO 7 t) (l : Launch) (G : GT) {b : (Unit × Mem)} (hE : fX7_put t a1 a2 M = some b) : Ok l G yX7_put cX7_put 4 none 0 0 [.ref t, .int a1, .long a2] M ((fun q : Unit × Mem => ((none : Option Value), q.2)) b).1 ((fun q : Unit × Mem => ((none : Option Value), q.2)) b).2 := by
  refine Ok.ofX (pj := (fun q : Unit × Mem => ((none : Option Value), q.2))) (by decide) (Nat.le_of_ble_eq_true rfl) hE (fun J g hr hG hl hR hn => ?_)
  show X J (fun q : Unit × Mem => ((none : Option Value), q.2)) (fX7_put t a1 a2 M) 0 [(0, .ref t), (1, .int a1), (2, .long a2)] [] M
  unfold fX7_put
  exact (x_aload_n g 0 dX7_put_0 rfl rfl
 (x_getI g fl_RX7_15 rfl ht dX7_put_1
 (x_if (fun he10 => x_tabIn (off := 28) g (0 : Int32) 32 dX7_put_4 he10 (by decide) rfl rfl
 (x_aload_n g 0 dX7_put_32 rfl rfl
 (x_getS g 1 fl_RX7_9 rfl ht dX7_put_33
 (x_iload_n g 1 dX7_put_36 rfl rfl
 (x_lload_n g 2 dX7_put_37 rfl rfl
 (x_l2i g dX7_put_38
 (x_i2b g dX7_put_39
 (x_i2l g dX7_put_40
 (x_last g (so_7_0 ht) dX7_put_41 (x_nmM (fun M9 =>
 (x_goto g 77 dX7_put_42 rfl
 (x_vret g hr rfl dX7_put_77))))))))))))) (fun hq2 => (x_if (fun he8 => x_tabIn (off := 41) g (1 : Int32) 45 dX7_put_4 he8 (by decide) rfl rfl
 (x_aload_n g 0 dX7_put_45 rfl rfl
 (x_getS g 1 fl_RX7_9 rfl ht dX7_put_46
 (x_iload_n g 1 dX7_put_49 rfl rfl
 (x_lload_n g 2 dX7_put_50 rfl rfl
 (x_l2i g dX7_put_51
 (x_i2s g dX7_put_52
 (x_i2l g dX7_put_53
 (x_last g (so_7_0 ht) dX7_put_54 (x_nmM (fun M7 =>
 (x_goto g 77 dX7_put_55 rfl
 (x_vret g hr rfl dX7_put_77))))))))))))) (fun hq3 => (x_if (fun he6 => x_tabIn (off := 54) g (2 : Int32) 58 dX7_put_4 he6 (by decide) rfl rfl
 (x_aload_n g 0 dX7_put_58 rfl rfl
 (x_getS g 1 fl_RX7_9 rfl ht dX7_put_59
 (x_iload_n g 1 dX7_put_62 rfl rfl
 (x_lload_n g 2 dX7_put_63 rfl rfl
 (x_l2i g dX7_put_64
 (x_i2l g dX7_put_65
 (x_last g (so_7_0 ht) dX7_put_66 (x_nmM (fun M5 =>
 (x_goto g 77 dX7_put_67 rfl
 (x_vret g hr rfl dX7_put_77)))))))))))) (fun hq4 => (x_tabOut g 70 dX7_put_4 (by have a0 := tab_ne hq2 (by decide : (0 : Int32).toInt = 0); have a1 := tab_ne hq3 (by decide : (1 : Int32).toInt = 1); have a2 := tab_ne hq4 (by decide : (2 : Int32).toInt = 2); omega) rfl
 (x_aload_n g 0 dX7_put_70 rfl rfl
 (x_getS g 1 fl_RX7_9 rfl ht dX7_put_71
 (x_iload_n g 1 dX7_put_74 rfl rfl
 (x_lload_n g 2 dX7_put_75 rfl rfl
 (x_last g (so_7_0 ht) dX7_put_76 (x_nmM (fun M1 =>
 (x_vret g hr rfl dX7_put_77)))))))))))))))))
def fX10_write (t : Nat) (a1 : Int32) (a2 : Int32) (a3 : Int64) (M : Mem) : Option (Int32 × Mem) :=
  (fX10_placeStatus t a1 a2 M).bind fun v1 =>
 if v1 = 0 then
 ixk a1 4 (
 bd (fX7_put (srf (t + 1) a1.toNatClampNeg) a2 a3 M) fun vu3 M4 =>
 bd (fX10_grant t M4) fun v5 M6 =>
 if v5 = 0 ∨ v5 = 1 then some (v5, M6) else none)
 else
 bd (fX10_deny t v1 M) fun v8 M9 =>
 if v8 = 0 ∨ v8 = 1 then some (v8, M9) else none
set_option maxRecDepth 100000 in
set_option maxHeartbeats 4000000 in
theorem kX10_write (t : Nat) (a1 : Int32) (a2 : Int32) (a3 : Int64) (M : Mem) (ht : isO 10 t) (l : Launch) (G : GT) {b : (Int32 × Mem)} (hE : fX10_write t a1 a2 a3 M = some b) : Ok l G yX10_write cX10_write 6 (some .boolean) 3 64 [.ref t, .int a1, .int a2, .long a3] M ((fun q : Int32 × Mem => (some (Value.int q.1), q.2)) b).1 ((fun q : Int32 × Mem => (some (Value.int q.1), q.2)) b).2 := by
  refine Ok.ofX (pj := (fun q : Int32 × Mem => (some (Value.int q.1), q.2))) (by decide) (Nat.le_of_ble_eq_true rfl) hE (fun J g hr hG hl hR hn => ?_)
  show X J (fun q : Int32 × Mem => (some (Value.int q.1), q.2)) (fX10_write t a1 a2 a3 M) 0 [(0, .ref t), (1, .int a1), (2, .int a2), (3, .long a3)] [] M
  unfold fX10_write
  exact (x_aload_n g 0 dX10_write_0 rfl rfl
 (x_iload_n g 1 dX10_write_1 rfl rfl
 (x_iload_n g 2 dX10_write_2 rfl rfl
 (x_callVip (As := [.int a1, .int a2]) g mv_X10_placeStatus mi_X10_placeStatus lk_RX10_129 ht (fun b hb => kX10_placeStatus t a1 a2 M ht _ _ hb) rfl rfl hR ⟨Nat.le_of_ble_eq_true rfl, Nat.le_of_ble_eq_true rfl⟩ (Nat.le_of_ble_eq_true rfl) dX10_write_3 (fun v1 =>
 (x_istore (L' := [(5, .int v1), (0, .ref t), (1, .int a1), (2, .int a2), (3, .long a3)]) g dX10_write_6 hn (Nat.le_of_ble_eq_true rfl) rfl
 (x_iload g 0 dX10_write_8 rfl
 (x_if_eq g 20 dX10_write_10 rfl
 (fun _ => (x_aload_n g 1 dX10_write_20 rfl rfl
 (x_getS g 1 fl_RX10_22 rfl ht dX10_write_21
 (x_iload_n g 2 dX10_write_24 rfl rfl
 (x_aald g 4 (fun _ => rfl) (so_10_3 ht) dX10_write_25 (fun hq2 =>
 (x_iload_n g 3 dX10_write_26 rfl rfl
 (x_lload_n g 4 dX10_write_27 rfl rfl
 (x_callVv (As := [.int a2, .long a3]) g mv_X7_put mi_X7_put lk_RX10_133 (se_10_3 ht hq2) (fun b Mh_ hb => kX7_put (srf (t + 1) a1.toNatClampNeg) a2 a3 M (se_10_3 ht hq2) _ _ hb) rfl rfl hR ⟨Nat.le_of_ble_eq_true rfl, Nat.le_of_ble_eq_true rfl⟩ (Nat.le_of_ble_eq_true rfl) dX10_write_28 (fun vu3 M4 =>
 (x_aload_n g 1 dX10_write_31 rfl rfl
 (x_callVi (As := []) g mv_X10_grant mi_X10_grant lk_RX10_125 ht (fun b Mh_ hb => kX10_grant t M4 ht _ _ hb) rfl rfl hR ⟨Nat.le_of_ble_eq_true rfl, Nat.le_of_ble_eq_true rfl⟩ (Nat.le_of_ble_eq_true rfl) dX10_write_32 (fun v5 M6 =>
 (x_ck (fun hq7 => x_iret g hr (nbz hq7) rfl dX10_write_35)))))))))))))))
 (fun _ => (x_aload_n g 1 dX10_write_13 rfl rfl
 (x_iload g 0 dX10_write_14 rfl
 (x_callVi (As := [.int v1]) g mv_X10_deny mi_X10_deny lk_RX10_118 ht (fun b Mh_ hb => kX10_deny t v1 M ht _ _ hb) rfl rfl hR ⟨Nat.le_of_ble_eq_true rfl, Nat.le_of_ble_eq_true rfl⟩ (Nat.le_of_ble_eq_true rfl) dX10_write_16 (fun v8 M9 =>
 (x_ck (fun hq10 => x_iret g hr (nbz hq10) rfl dX10_write_19)))))))))))))))
def fX10_refuse (t : Nat) (a1 : Int32) (M : Mem) : Option (Int32 × Mem) :=
  nm (stI M t 0 a1) (fun M1 =>
 some ((-1 : Int32), M1))
set_option maxRecDepth 100000 in
set_option maxHeartbeats 4000000 in
theorem kX10_refuse (t : Nat) (a1 : Int32) (M : Mem) (ht : isO 10 t) (l : Launch) (G : GT) {b : (Int32 × Mem)} (hE : fX10_refuse t a1 M = some b) : Ok l G yX10_refuse cX10_refuse 2 (some .int) 0 0 [.ref t, .int a1] M ((fun q : Int32 × Mem => (some (Value.int q.1), q.2)) b).1 ((fun q : Int32 × Mem => (some (Value.int q.1), q.2)) b).2 := by
  refine Ok.ofX (pj := (fun q : Int32 × Mem => (some (Value.int q.1), q.2))) (by decide) (Nat.le_of_ble_eq_true rfl) hE (fun J g hr hG hl hR hn => ?_)
  show X J (fun q : Int32 × Mem => (some (Value.int q.1), q.2)) (fX10_refuse t a1 M) 0 [(0, .ref t), (1, .int a1)] [] M
  unfold fX10_refuse
  exact (x_aload_n g 0 dX10_refuse_0 rfl rfl
 (x_iload_n g 1 dX10_refuse_1 rfl rfl
 (x_putI g fp_RX10_9 rfl (Nat.le_of_ble_eq_true rfl) ht dX10_refuse_2 (x_nmM (fun M1 =>
 (x_iconst g dX10_refuse_5 kI_m1
 (x_iret g hr rfl rfl dX10_refuse_6)))))))
def fX10_read (t : Nat) (a1 : Int32) (a2 : Int32) (M : Mem) : Option (Int64 × Mem) :=
  (fX10_placeStatus t a1 a2 M).bind fun v1 =>
 if v1 = 0 then
 nm (stI M t 0 (0 : Int32)) (fun M2 =>
 ixk a1 4 (
 ixk a2 60 (
 some ((M2.2.1 ((srf (t + 1) a1.toNatClampNeg) + 1) a2.toNatClampNeg), M2))))
 else
 bd (fX10_refuse t v1 M) fun v4 M5 =>
 some ((v4.toInt64), M5)
set_option maxRecDepth 100000 in
set_option maxHeartbeats 4000000 in
theorem kX10_read (t : Nat) (a1 : Int32) (a2 : Int32) (M : Mem) (ht : isO 10 t) (l : Launch) (G : GT) {b : (Int64 × Mem)} (hE : fX10_read t a1 a2 M = some b) : Ok l G yX10_read cX10_read 4 (some .long) 3 64 [.ref t, .int a1, .int a2] M ((fun q : Int64 × Mem => (some (Value.long q.1), q.2)) b).1 ((fun q : Int64 × Mem => (some (Value.long q.1), q.2)) b).2 := by
  refine Ok.ofX (pj := (fun q : Int64 × Mem => (some (Value.long q.1), q.2))) (by decide) (Nat.le_of_ble_eq_true rfl) hE (fun J g hr hG hl hR hn => ?_)
  show X J (fun q : Int64 × Mem => (some (Value.long q.1), q.2)) (fX10_read t a1 a2 M) 0 [(0, .ref t), (1, .int a1), (2, .int a2)] [] M
  unfold fX10_read
  exact (x_aload_n g 0 dX10_read_0 rfl rfl
 (x_iload_n g 1 dX10_read_1 rfl rfl
 (x_iload_n g 2 dX10_read_2 rfl rfl
 (x_callVip (As := [.int a1, .int a2]) g mv_X10_placeStatus mi_X10_placeStatus lk_RX10_129 ht (fun b hb => kX10_placeStatus t a1 a2 M ht _ _ hb) rfl rfl hR ⟨Nat.le_of_ble_eq_true rfl, Nat.le_of_ble_eq_true rfl⟩ (Nat.le_of_ble_eq_true rfl) dX10_read_3 (fun v1 =>
 (x_istore_n (L' := [(3, .int v1), (0, .ref t), (1, .int a1), (2, .int a2)]) g dX10_read_6 rfl hn (Nat.le_of_ble_eq_true rfl) rfl
 (x_iload_n g 0 dX10_read_7 rfl rfl
 (x_if_eq g 18 dX10_read_8 rfl
 (fun _ => (x_aload_n g 1 dX10_read_18 rfl rfl
 (x_iconst g dX10_read_19 kI_0
 (x_putI g fp_RX10_9 rfl (Nat.le_of_ble_eq_true rfl) ht dX10_read_20 (x_nmM (fun M2 =>
 (x_aload_n g 1 dX10_read_23 rfl rfl
 (x_getS g 1 fl_RX10_22 rfl ht dX10_read_24
 (x_iload_n g 2 dX10_read_27 rfl rfl
 (x_aald g 4 (fun _ => rfl) (so_10_3 ht) dX10_read_28 (fun hq3 =>
 (x_getS g 1 fl_RX10_141 rfl (se_10_3 ht hq3) dX10_read_29
 (x_iload_n g 3 dX10_read_32 rfl rfl
 (x_lald g (so_7_0 (se_10_3 ht hq3)) dX10_read_33
 (x_lret g hr rfl dX10_read_34)))))))))))))))
 (fun _ => (x_aload_n g 1 dX10_read_11 rfl rfl
 (x_iload_n g 0 dX10_read_12 rfl rfl
 (x_callVi (As := [.int v1]) g mv_X10_refuse mi_X10_refuse lk_RX10_137 ht (fun b Mh_ hb => kX10_refuse t v1 M ht _ _ hb) rfl rfl hR ⟨Nat.le_of_ble_eq_true rfl, Nat.le_of_ble_eq_true rfl⟩ (Nat.le_of_ble_eq_true rfl) dX10_read_13 (fun v4 M5 =>
 (x_i2l g dX10_read_16
 (x_lret g hr rfl dX10_read_17)))))))))))))))
def fX10_pour (t : Nat) (a1 : Int32) (a2 : Int32) (a3 : Int32) (a4 : Int32) (a5 : Int32) (M : Mem) : Option (Int32 × Mem) :=
  (fX10_isTray a1 M).bind fun v1 =>
 if v1 = 0 then
 bd (fX10_deny t (1 : Int32) M) fun v2 M3 =>
 if v2 = 0 ∨ v2 = 1 then some (v2, M3) else none
 else
 (fX10_isTray a3 M).bind fun v5 =>
 if v5 = 0 then
 bd (fX10_deny t (1 : Int32) M) fun v6 M7 =>
 if v6 = 0 ∨ v6 = 1 then some (v6, M7) else none
 else
 if a2 < 0 then
 bd (fX10_deny t (1 : Int32) M) fun v9 M10 =>
 if v9 = 0 ∨ v9 = 1 then some (v9, M10) else none
 else
 if a4 < 0 then
 bd (fX10_deny t (1 : Int32) M) fun v12 M13 =>
 if v12 = 0 ∨ v12 = 1 then some (v12, M13) else none
 else
 if 0 ≤ a5 then
 ixk a1 4 (
 ixk a3 4 (
 (fX7_isMissing (srf (t + 1) a1.toNatClampNeg) M).bind fun v17 =>
 if v17 = 0 then
 (fX7_isMissing (srf (t + 1) a3.toNatClampNeg) M).bind fun v21 =>
 if v21 = 0 then
 if (M.1 (srf (t + 1) a1.toNatClampNeg) 1) = (M.1 (srf (t + 1) a3.toNatClampNeg) 1) then
 (fX7_hasRow (srf (t + 1) a1.toNatClampNeg) a2 a5 M).bind fun v22 =>
 if v22 = 0 then
 bd (fX10_deny t (3 : Int32) M) fun v23 M24 =>
 if v23 = 0 ∨ v23 = 1 then some (v23, M24) else none
 else
 (fX7_hasRow (srf (t + 1) a3.toNatClampNeg) a4 a5 M).bind fun v26 =>
 if v26 = 0 then
 bd (fX10_deny t (3 : Int32) M) fun v31 M32 =>
 if v31 = 0 ∨ v31 = 1 then some (v31, M32) else none
 else
 cpk a2 a4 a5 60 60 (nm (cpL M ((srf (t + 1) a1.toNatClampNeg) + 1) ((srf (t + 1) a3.toNatClampNeg) + 1) a2.toNatClampNeg a4.toNatClampNeg a5.toNatClampNeg) (fun M27 =>
 bd (fX10_grant t M27) fun v28 M29 =>
 if v28 = 0 ∨ v28 = 1 then some (v28, M29) else none))
 else
 bd (fX10_deny t (8 : Int32) M) fun v34 M35 =>
 if v34 = 0 ∨ v34 = 1 then some (v34, M35) else none
 else
 bd (fX10_deny t (2 : Int32) M) fun v37 M38 =>
 if v37 = 0 ∨ v37 = 1 then some (v37, M38) else none
 else
 bd (fX10_deny t (2 : Int32) M) fun v18 M19 =>
 if v18 = 0 ∨ v18 = 1 then some (v18, M19) else none))
 else
 bd (fX10_deny t (1 : Int32) M) fun v40 M41 =>
 if v40 = 0 ∨ v40 = 1 then some (v40, M41) else none
set_option maxRecDepth 100000 in
set_option maxHeartbeats 4000000 in
theorem kX10_pour (t : Nat) (a1 : Int32) (a2 : Int32) (a3 : Int32) (a4 : Int32) (a5 : Int32) (M : Mem) (ht : isO 10 t) (l : Launch) (G : GT) {b : (Int32 × Mem)} (hE : fX10_pour t a1 a2 a3 a4 a5 M = some b) : Ok l G yX10_pour cX10_pour 8 (some .boolean) 2 60 [.ref t, .int a1, .int a2, .int a3, .int a4, .int a5] M ((fun q : Int32 × Mem => (some (Value.int q.1), q.2)) b).1 ((fun q : Int32 × Mem => (some (Value.int q.1), q.2)) b).2 := by
  refine Ok.ofX (pj := (fun q : Int32 × Mem => (some (Value.int q.1), q.2))) (by decide) (Nat.le_of_ble_eq_true rfl) hE (fun J g hr hG hl hR hn => ?_)
  show X J (fun q : Int32 × Mem => (some (Value.int q.1), q.2)) (fX10_pour t a1 a2 a3 a4 a5 M) 0 [(0, .ref t), (1, .int a1), (2, .int a2), (3, .int a3), (4, .int a4), (5, .int a5)] [] M
  unfold fX10_pour
  exact (x_iload_n g 1 dX10_pour_0 rfl rfl
 (x_callSip (As := [.int a1]) g mv_X10_isTray ms_X10_isTray lk_RX10_110 (fun b hb => kX10_isTray a1 M _ _ hb) rfl rfl hR ⟨Nat.le_of_ble_eq_true rfl, Nat.le_of_ble_eq_true rfl⟩ (Nat.le_of_ble_eq_true rfl) dX10_pour_1 (fun v1 =>
 (x_if_eq g 28 dX10_pour_4 rfl
 (fun _ => (x_aload_n g 0 dX10_pour_28 rfl rfl
 (x_iconst g dX10_pour_29 kI_1
 (x_callVi (As := [.int (1 : Int32)]) g mv_X10_deny mi_X10_deny lk_RX10_118 ht (fun b Mh_ hb => kX10_deny t (1 : Int32) M ht _ _ hb) rfl rfl hR ⟨Nat.le_of_ble_eq_true rfl, Nat.le_of_ble_eq_true rfl⟩ (Nat.le_of_ble_eq_true rfl) dX10_pour_30 (fun v2 M3 =>
 (x_ck (fun hq4 => x_iret g hr (nbz hq4) rfl dX10_pour_33)))))))
 (fun _ => (x_iload_n g 3 dX10_pour_7 rfl rfl
 (x_callSip (As := [.int a3]) g mv_X10_isTray ms_X10_isTray lk_RX10_110 (fun b hb => kX10_isTray a3 M _ _ hb) rfl rfl hR ⟨Nat.le_of_ble_eq_true rfl, Nat.le_of_ble_eq_true rfl⟩ (Nat.le_of_ble_eq_true rfl) dX10_pour_8 (fun v5 =>
 (x_if_eq g 28 dX10_pour_11 rfl
 (fun _ => (x_aload_n g 0 dX10_pour_28 rfl rfl
 (x_iconst g dX10_pour_29 kI_1
 (x_callVi (As := [.int (1 : Int32)]) g mv_X10_deny mi_X10_deny lk_RX10_118 ht (fun b Mh_ hb => kX10_deny t (1 : Int32) M ht _ _ hb) rfl rfl hR ⟨Nat.le_of_ble_eq_true rfl, Nat.le_of_ble_eq_true rfl⟩ (Nat.le_of_ble_eq_true rfl) dX10_pour_30 (fun v6 M7 =>
 (x_ck (fun hq8 => x_iret g hr (nbz hq8) rfl dX10_pour_33)))))))
 (fun _ => (x_iload_n g 2 dX10_pour_14 rfl rfl
 (x_if_lt g 28 dX10_pour_15 rfl
 (fun _ => (x_aload_n g 0 dX10_pour_28 rfl rfl
 (x_iconst g dX10_pour_29 kI_1
 (x_callVi (As := [.int (1 : Int32)]) g mv_X10_deny mi_X10_deny lk_RX10_118 ht (fun b Mh_ hb => kX10_deny t (1 : Int32) M ht _ _ hb) rfl rfl hR ⟨Nat.le_of_ble_eq_true rfl, Nat.le_of_ble_eq_true rfl⟩ (Nat.le_of_ble_eq_true rfl) dX10_pour_30 (fun v9 M10 =>
 (x_ck (fun hq11 => x_iret g hr (nbz hq11) rfl dX10_pour_33)))))))
 (fun _ => (x_iload g 4 dX10_pour_18 rfl
 (x_if_lt g 28 dX10_pour_20 rfl
 (fun _ => (x_aload_n g 0 dX10_pour_28 rfl rfl
 (x_iconst g dX10_pour_29 kI_1
 (x_callVi (As := [.int (1 : Int32)]) g mv_X10_deny mi_X10_deny lk_RX10_118 ht (fun b Mh_ hb => kX10_deny t (1 : Int32) M ht _ _ hb) rfl rfl hR ⟨Nat.le_of_ble_eq_true rfl, Nat.le_of_ble_eq_true rfl⟩ (Nat.le_of_ble_eq_true rfl) dX10_pour_30 (fun v12 M13 =>
 (x_ck (fun hq14 => x_iret g hr (nbz hq14) rfl dX10_pour_33)))))))
 (fun _ => (x_iload g 5 dX10_pour_23 rfl
 (x_if_ge g 34 dX10_pour_25 rfl
 (fun _ => (x_aload_n g 0 dX10_pour_34 rfl rfl
 (x_getS g 1 fl_RX10_22 rfl ht dX10_pour_35
 (x_iload_n g 1 dX10_pour_38 rfl rfl
 (x_aald g 4 (fun _ => rfl) (so_10_3 ht) dX10_pour_39 (fun hq15 =>
 (x_astore (L' := [(6, .ref (srf (t + 1) a1.toNatClampNeg)), (0, .ref t), (1, .int a1), (2, .int a2), (3, .int a3), (4, .int a4), (5, .int a5)]) g dX10_pour_40 hn (Nat.le_of_ble_eq_true rfl) rfl
 (x_aload_n g 1 dX10_pour_42 rfl rfl
 (x_getS g 1 fl_RX10_22 rfl ht dX10_pour_43
 (x_iload_n g 4 dX10_pour_46 rfl rfl
 (x_aald g 4 (fun _ => rfl) (so_10_3 ht) dX10_pour_47 (fun hq16 =>
 (x_astore (L' := [(7, .ref (srf (t + 1) a3.toNatClampNeg)), (6, .ref (srf (t + 1) a1.toNatClampNeg)), (0, .ref t), (1, .int a1), (2, .int a2), (3, .int a3), (4, .int a4), (5, .int a5)]) g dX10_pour_48 hn (Nat.le_of_ble_eq_true rfl) rfl
 (x_aload g 1 dX10_pour_50 rfl
 (x_callVip (As := []) g mv_X7_isMissing mi_X7_isMissing lk_RX10_145 (se_10_3 ht hq15) (fun b hb => kX7_isMissing (srf (t + 1) a1.toNatClampNeg) M (se_10_3 ht hq15) _ _ hb) rfl rfl hR ⟨Nat.le_of_ble_eq_true rfl, Nat.le_of_ble_eq_true rfl⟩ (Nat.le_of_ble_eq_true rfl) dX10_pour_52 (fun v17 =>
 (x_if_ne g 66 dX10_pour_55 rfl
 (fun _ => (x_aload_n g 2 dX10_pour_66 rfl rfl
 (x_iconst g dX10_pour_67 kI_2
 (x_callVi (As := [.int (2 : Int32)]) g mv_X10_deny mi_X10_deny lk_RX10_118 ht (fun b Mh_ hb => kX10_deny t (2 : Int32) M ht _ _ hb) rfl rfl hR ⟨Nat.le_of_ble_eq_true rfl, Nat.le_of_ble_eq_true rfl⟩ (Nat.le_of_ble_eq_true rfl) dX10_pour_68 (fun v18 M19 =>
 (x_ck (fun hq20 => x_iret g hr (nbz hq20) rfl dX10_pour_71)))))))
 (fun _ => (x_aload g 0 dX10_pour_58 rfl
 (x_callVip (As := []) g mv_X7_isMissing mi_X7_isMissing lk_RX10_145 (se_10_3 ht hq16) (fun b hb => kX7_isMissing (srf (t + 1) a3.toNatClampNeg) M (se_10_3 ht hq16) _ _ hb) rfl rfl hR ⟨Nat.le_of_ble_eq_true rfl, Nat.le_of_ble_eq_true rfl⟩ (Nat.le_of_ble_eq_true rfl) dX10_pour_60 (fun v21 =>
 (x_if_eq g 72 dX10_pour_63 rfl
 (fun _ => (x_aload g 1 dX10_pour_72 rfl
 (x_getI g fl_RX10_148 rfl (se_10_3 ht hq15) dX10_pour_74
 (x_aload g 0 dX10_pour_77 rfl
 (x_getI g fl_RX10_148 rfl (se_10_3 ht hq16) dX10_pour_79
 (x_icmp_eq g 92 dX10_pour_82 rfl
 (fun _ => (x_aload g 1 dX10_pour_92 rfl
 (x_iload_n g 4 dX10_pour_94 rfl rfl
 (x_iload g 7 dX10_pour_95 rfl
 (x_callVip (As := [.int a2, .int a5]) g mv_X7_hasRow mi_X7_hasRow lk_RX10_151 (se_10_3 ht hq15) (fun b hb => kX7_hasRow (srf (t + 1) a1.toNatClampNeg) a2 a5 M (se_10_3 ht hq15) _ _ hb) rfl rfl hR ⟨Nat.le_of_ble_eq_true rfl, Nat.le_of_ble_eq_true rfl⟩ (Nat.le_of_ble_eq_true rfl) dX10_pour_97 (fun v22 =>
 (x_if_eq g 115 dX10_pour_100 rfl
 (fun _ => (x_aload_n g 2 dX10_pour_115 rfl rfl
 (x_iconst g dX10_pour_116 kI_3
 (x_callVi (As := [.int (3 : Int32)]) g mv_X10_deny mi_X10_deny lk_RX10_118 ht (fun b Mh_ hb => kX10_deny t (3 : Int32) M ht _ _ hb) rfl rfl hR ⟨Nat.le_of_ble_eq_true rfl, Nat.le_of_ble_eq_true rfl⟩ (Nat.le_of_ble_eq_true rfl) dX10_pour_117 (fun v23 M24 =>
 (x_ck (fun hq25 => x_iret g hr (nbz hq25) rfl dX10_pour_120)))))))
 (fun _ => (x_aload g 0 dX10_pour_103 rfl
 (x_iload g 6 dX10_pour_105 rfl
 (x_iload g 7 dX10_pour_107 rfl
 (x_callVip (As := [.int a4, .int a5]) g mv_X7_hasRow mi_X7_hasRow lk_RX10_151 (se_10_3 ht hq16) (fun b hb => kX7_hasRow (srf (t + 1) a3.toNatClampNeg) a4 a5 M (se_10_3 ht hq16) _ _ hb) rfl rfl hR ⟨Nat.le_of_ble_eq_true rfl, Nat.le_of_ble_eq_true rfl⟩ (Nat.le_of_ble_eq_true rfl) dX10_pour_109 (fun v26 =>
 (x_if_ne g 121 dX10_pour_112 rfl
 (fun _ => (x_aload g 1 dX10_pour_121 rfl
 (x_getS g 1 fl_RX10_141 rfl (se_10_3 ht hq15) dX10_pour_123
 (x_iload_n g 4 dX10_pour_126 rfl rfl
 (x_aload g 0 dX10_pour_127 rfl
 (x_getS g 1 fl_RX10_141 rfl (se_10_3 ht hq16) dX10_pour_129
 (x_iload g 6 dX10_pour_132 rfl
 (x_iload g 7 dX10_pour_134 rfl
 (x_cpyL g hR lk_RX10_155 ok_acn ok_acs ok_sys (so_7_0 (se_10_3 ht hq15)) (so_7_0 (se_10_3 ht hq16)) (Nat.le_of_ble_eq_true rfl) (Nat.le_of_ble_eq_true rfl) dX10_pour_136 (x_nmM (fun M27 =>
 (x_aload_n g 2 dX10_pour_139 rfl rfl
 (x_callVi (As := []) g mv_X10_grant mi_X10_grant lk_RX10_125 ht (fun b Mh_ hb => kX10_grant t M27 ht _ _ hb) rfl rfl hR ⟨Nat.le_of_ble_eq_true rfl, Nat.le_of_ble_eq_true rfl⟩ (Nat.le_of_ble_eq_true rfl) dX10_pour_140 (fun v28 M29 =>
 (x_ck (fun hq30 => x_iret g hr (nbz hq30) rfl dX10_pour_143))))))))))))))))
 (fun _ => (x_aload_n g 2 dX10_pour_115 rfl rfl
 (x_iconst g dX10_pour_116 kI_3
 (x_callVi (As := [.int (3 : Int32)]) g mv_X10_deny mi_X10_deny lk_RX10_118 ht (fun b Mh_ hb => kX10_deny t (3 : Int32) M ht _ _ hb) rfl rfl hR ⟨Nat.le_of_ble_eq_true rfl, Nat.le_of_ble_eq_true rfl⟩ (Nat.le_of_ble_eq_true rfl) dX10_pour_117 (fun v31 M32 =>
 (x_ck (fun hq33 => x_iret g hr (nbz hq33) rfl dX10_pour_120)))))))))))))))))))))
 (fun _ => (x_aload_n g 2 dX10_pour_85 rfl rfl
 (x_bipush g dX10_pour_86 kB_8
 (x_callVi (As := [.int (8 : Int32)]) g mv_X10_deny mi_X10_deny lk_RX10_118 ht (fun b Mh_ hb => kX10_deny t (8 : Int32) M ht _ _ hb) rfl rfl hR ⟨Nat.le_of_ble_eq_true rfl, Nat.le_of_ble_eq_true rfl⟩ (Nat.le_of_ble_eq_true rfl) dX10_pour_88 (fun v34 M35 =>
 (x_ck (fun hq36 => x_iret g hr (nbz hq36) rfl dX10_pour_91)))))))))))))
 (fun _ => (x_aload_n g 2 dX10_pour_66 rfl rfl
 (x_iconst g dX10_pour_67 kI_2
 (x_callVi (As := [.int (2 : Int32)]) g mv_X10_deny mi_X10_deny lk_RX10_118 ht (fun b Mh_ hb => kX10_deny t (2 : Int32) M ht _ _ hb) rfl rfl hR ⟨Nat.le_of_ble_eq_true rfl, Nat.le_of_ble_eq_true rfl⟩ (Nat.le_of_ble_eq_true rfl) dX10_pour_68 (fun v37 M38 =>
 (x_ck (fun hq39 => x_iret g hr (nbz hq39) rfl dX10_pour_71)))))))))))))))))))))))))))))
 (fun _ => (x_aload_n g 0 dX10_pour_28 rfl rfl
 (x_iconst g dX10_pour_29 kI_1
 (x_callVi (As := [.int (1 : Int32)]) g mv_X10_deny mi_X10_deny lk_RX10_118 ht (fun b Mh_ hb => kX10_deny t (1 : Int32) M ht _ _ hb) rfl rfl hR ⟨Nat.le_of_ble_eq_true rfl, Nat.le_of_ble_eq_true rfl⟩ (Nat.le_of_ble_eq_true rfl) dX10_pour_30 (fun v40 M41 =>
 (x_ck (fun hq42 => x_iret g hr (nbz hq42) rfl dX10_pour_33)))))))))))))))))))))))))
def fX6_hasRoomFor (t : Nat) (a1 : Int32) (M : Mem) : Option Int32 :=
  if (900 : Int32) < ((M.1 t 1) + a1) then
 some (0 : Int32)
 else
 some (1 : Int32)
set_option maxRecDepth 100000 in
set_option maxHeartbeats 4000000 in
theorem kX6_hasRoomFor (t : Nat) (a1 : Int32) (M : Mem) (ht : isO 6 t) (l : Launch) (G : GT) {b : Int32} (hE : fX6_hasRoomFor t a1 M = some b) : Ok l G yX6_hasRoomFor cX6_hasRoomFor 2 (some .boolean) 0 0 [.ref t, .int a1] M ((fun b : Int32 => (some (Value.int b), M)) b).1 ((fun b : Int32 => (some (Value.int b), M)) b).2 := by
  refine Ok.ofX (pj := (fun b : Int32 => (some (Value.int b), M))) (by decide) (Nat.le_of_ble_eq_true rfl) hE (fun J g hr hG hl hR hn => ?_)
  show X J (fun b : Int32 => (some (Value.int b), M)) (fX6_hasRoomFor t a1 M) 0 [(0, .ref t), (1, .int a1)] [] M
  unfold fX6_hasRoomFor
  exact (x_aload_n g 0 dX6_hasRoomFor_0 rfl rfl
 (x_getI g fl_RX6_15 rfl ht dX6_hasRoomFor_1
 (x_iload_n g 1 dX6_hasRoomFor_4 rfl rfl
 (x_iadd g dX6_hasRoomFor_5
 (x_sipush g dX6_hasRoomFor_6 kS_900
 (x_icmp_gt g 16 dX6_hasRoomFor_9 rfl
 (fun _ => (x_iconst g dX6_hasRoomFor_16 kI_0
 (x_iret g hr rfl rfl dX6_hasRoomFor_17)))
 (fun _ => (x_iconst g dX6_hasRoomFor_12 kI_1
 (x_goto g 17 dX6_hasRoomFor_13 rfl
 (x_iret g hr rfl rfl dX6_hasRoomFor_17))))))))))
def lX6_addInt_3 (t : Nat) (x1 : Int32) : Nat → Int32 → Mem → Option (Unit × Mem)
  | 0, _, _ => none
  | n + 1, x2, M =>
    if x2 < 0 then
 some ((), M)
 else
 if (900 : Int32) ≤ (M.1 t 1) then
 some ((), M)
 else
 ixk (M.1 t 1) 900 (nm (stI M (t + 1) (M.1 t 1).toNatClampNeg (vp_nar .byte ((x1 >>> (x2 &&& 31)).toInt8.toInt32))) (fun M1 =>
 nm (stI M1 t 1 ((M1.1 t 1) + (1 : Int32))) (fun M2 =>
 lX6_addInt_3 t x1 n (x2 + (-8)) M2)))
theorem lX6_addInt_3_s (t : Nat) (x1 : Int32) (n : Nat) (x2 : Int32) (M : Mem) : lX6_addInt_3 t x1 (n + 1) x2 M =
    if x2 < 0 then
 some ((), M)
 else
 if (900 : Int32) ≤ (M.1 t 1) then
 some ((), M)
 else
 ixk (M.1 t 1) 900 (nm (stI M (t + 1) (M.1 t 1).toNatClampNeg (vp_nar .byte ((x1 >>> (x2 &&& 31)).toInt8.toInt32))) (fun M1 =>
 nm (stI M1 t 1 ((M1.1 t 1) + (1 : Int32))) (fun M2 =>
 lX6_addInt_3 t x1 n (x2 + (-8)) M2))) := rfl
theorem lX6_addInt_3_0 (t : Nat) (x1 : Int32) (x2 : Int32) (M : Mem) : lX6_addInt_3 t x1 0 x2 M = none := rfl
set_option maxRecDepth 100000 in
set_option maxHeartbeats 4000000 in
theorem wlX6_addInt_3 {J : JT} (g : Gd J cX6_addInt RX6) (hr : Rt J none) (hR : (JR J).frames = 0 ∧ (JR J).locals = 0) (hn : Jn J = 3) (t : Nat) (x1 : Int32) (ht : isO 6 t) : ∀ (n : Nat) (x2 : Int32) (M : Mem), X J (fun q : Unit × Mem => ((none : Option Value), q.2)) (lX6_addInt_3 t x1 n x2 M) 3 [(0, .ref t), (1, .int x1), (2, .int x2)] [] M := by
  intro n
  induction n with
  | zero =>
    intro x2 M
    exact x_none
  | succ n ih =>
    intro x2 M
    rw [lX6_addInt_3_s]
    exact (x_iload_n g 2 dX6_addInt_3 rfl rfl
 (x_if_lt g 46 dX6_addInt_4 rfl
 (fun _ => (x_vret g hr rfl dX6_addInt_46))
 (fun _ => (x_aload_n g 0 dX6_addInt_7 rfl rfl
 (x_getI g fl_RX6_15 rfl ht dX6_addInt_8
 (x_sipush g dX6_addInt_11 kS_900
 (x_icmp_ge g 46 dX6_addInt_14 rfl
 (fun _ => (x_vret g hr rfl dX6_addInt_46))
 (fun _ => (x_aload_n g 0 dX6_addInt_17 rfl rfl
 (x_getS g 1 fl_RX6_9 rfl ht dX6_addInt_18
 (x_aload_n g 0 dX6_addInt_21 rfl rfl
 (x_getI g fl_RX6_15 rfl ht dX6_addInt_22
 (x_iload_n g 1 dX6_addInt_25 rfl rfl
 (x_iload_n g 2 dX6_addInt_26 rfl rfl
 (x_ishr g dX6_addInt_27
 (x_i2b g dX6_addInt_28
 (x_bast g (so_6_0 ht) dX6_addInt_29 (x_nmM (fun M1 =>
 (x_aload_n g 0 dX6_addInt_30 rfl rfl
 (x_dup g dX6_addInt_31 rfl
 (x_getI g fl_RX6_15 rfl ht dX6_addInt_32
 (x_iconst g dX6_addInt_35 kI_1
 (x_iadd g dX6_addInt_36
 (x_putI g fp_RX6_15 rfl (Nat.le_of_ble_eq_true rfl) ht dX6_addInt_37 (x_nmM (fun M2 =>
 (x_iinc (L' := [(2, .int (x2 + (-8))), (0, .ref t), (1, .int x1)]) (v := (x2 + (-8))) g 2 dX6_addInt_40 rfl (by rw [kI_m8]) hn (Nat.le_of_ble_eq_true rfl) rfl
 (x_goto g 3 dX6_addInt_43 rfl
 (x_sub [1, 2, 0] rfl (ih (x2 + (-8)) M2)))))))))))))))))))))))))))))))
def fX6_addInt (φ : Nat) (t : Nat) (a1 : Int32) (M : Mem) : Option (Unit × Mem) :=
  lX6_addInt_3 t a1 φ (24 : Int32) M
set_option maxRecDepth 100000 in
set_option maxHeartbeats 4000000 in
theorem kX6_addInt (φ : Nat) (t : Nat) (a1 : Int32) (M : Mem) (ht : isO 6 t) (l : Launch) (G : GT) {b : (Unit × Mem)} (hE : fX6_addInt φ t a1 M = some b) : Ok l G yX6_addInt cX6_addInt 3 none 0 0 [.ref t, .int a1] M ((fun q : Unit × Mem => ((none : Option Value), q.2)) b).1 ((fun q : Unit × Mem => ((none : Option Value), q.2)) b).2 := by
  refine Ok.ofX (pj := (fun q : Unit × Mem => ((none : Option Value), q.2))) (by decide) (Nat.le_of_ble_eq_true rfl) hE (fun J g hr hG hl hR hn => ?_)
  show X J (fun q : Unit × Mem => ((none : Option Value), q.2)) (fX6_addInt φ t a1 M) 0 [(0, .ref t), (1, .int a1)] [] M
  unfold fX6_addInt
  exact (x_bipush g dX6_addInt_0 kB_24
 (x_istore_n (L' := [(2, .int (24 : Int32)), (0, .ref t), (1, .int a1)]) g dX6_addInt_2 rfl hn (Nat.le_of_ble_eq_true rfl) rfl
 (x_sub [1, 2, 0] rfl (wlX6_addInt_3 g hr hR hn  t a1 ht φ (24 : Int32) M))))
def fX10_feed (φ : Nat) (t : Nat) (a1 : Int32) (a2 : Int32) (a3 : Int32) (a4 : Int32) (a5 : Int32) (M : Mem) : Option (Int32 × Mem) :=
  (fX6_hasRoomFor (t + 2) (20 : Int32) M).bind fun v1 =>
 if v1 = 0 then
 some ((-1 : Int32), M)
 else
 bd (fX6_addInt φ (t + 2) a1 M) fun vu2 M3 =>
 bd (fX6_addInt φ (t + 2) a2 M3) fun vu4 M5 =>
 bd (fX6_addInt φ (t + 2) a3 M5) fun vu6 M7 =>
 bd (fX6_addInt φ (t + 2) a4 M7) fun vu8 M9 =>
 bd (fX6_addInt φ (t + 2) a5 M9) fun vu10 M11 =>
 some ((M11.1 (t + 2) 1), M11)
set_option maxRecDepth 100000 in
set_option maxHeartbeats 4000000 in
theorem kX10_feed (φ : Nat) (t : Nat) (a1 : Int32) (a2 : Int32) (a3 : Int32) (a4 : Int32) (a5 : Int32) (M : Mem) (ht : isO 10 t) (l : Launch) (G : GT) {b : (Int32 × Mem)} (hE : fX10_feed φ t a1 a2 a3 a4 a5 M = some b) : Ok l G yX10_feed cX10_feed 6 (some .int) 1 22 [.ref t, .int a1, .int a2, .int a3, .int a4, .int a5] M ((fun q : Int32 × Mem => (some (Value.int q.1), q.2)) b).1 ((fun q : Int32 × Mem => (some (Value.int q.1), q.2)) b).2 := by
  refine Ok.ofX (pj := (fun q : Int32 × Mem => (some (Value.int q.1), q.2))) (by decide) (Nat.le_of_ble_eq_true rfl) hE (fun J g hr hG hl hR hn => ?_)
  show X J (fun q : Int32 × Mem => (some (Value.int q.1), q.2)) (fX10_feed φ t a1 a2 a3 a4 a5 M) 0 [(0, .ref t), (1, .int a1), (2, .int a2), (3, .int a3), (4, .int a4), (5, .int a5)] [] M
  unfold fX10_feed
  exact (x_aload_n g 0 dX10_feed_0 rfl rfl
 (x_getS g 2 fl_RX10_29 rfl ht dX10_feed_1
 (x_bipush g dX10_feed_4 kB_20
 (x_callVip (As := [.int (20 : Int32)]) g mv_X6_hasRoomFor mi_X6_hasRoomFor lk_RX10_161 (so_10_4 ht) (fun b hb => kX6_hasRoomFor (t + 2) (20 : Int32) M (so_10_4 ht) _ _ hb) rfl rfl hR ⟨Nat.le_of_ble_eq_true rfl, Nat.le_of_ble_eq_true rfl⟩ (Nat.le_of_ble_eq_true rfl) dX10_feed_6 (fun v1 =>
 (x_if_ne g 14 dX10_feed_9 rfl
 (fun _ => (x_aload_n g 0 dX10_feed_14 rfl rfl
 (x_getS g 2 fl_RX10_29 rfl ht dX10_feed_15
 (x_iload_n g 1 dX10_feed_18 rfl rfl
 (x_callVv (As := [.int a1]) g mv_X6_addInt mi_X6_addInt lk_RX10_164 (so_10_4 ht) (fun b Mh_ hb => kX6_addInt φ (t + 2) a1 M (so_10_4 ht) _ _ hb) rfl rfl hR ⟨Nat.le_of_ble_eq_true rfl, Nat.le_of_ble_eq_true rfl⟩ (Nat.le_of_ble_eq_true rfl) dX10_feed_19 (fun vu2 M3 =>
 (x_aload_n g 0 dX10_feed_22 rfl rfl
 (x_getS g 2 fl_RX10_29 rfl ht dX10_feed_23
 (x_iload_n g 2 dX10_feed_26 rfl rfl
 (x_callVv (As := [.int a2]) g mv_X6_addInt mi_X6_addInt lk_RX10_164 (so_10_4 ht) (fun b Mh_ hb => kX6_addInt φ (t + 2) a2 M3 (so_10_4 ht) _ _ hb) rfl rfl hR ⟨Nat.le_of_ble_eq_true rfl, Nat.le_of_ble_eq_true rfl⟩ (Nat.le_of_ble_eq_true rfl) dX10_feed_27 (fun vu4 M5 =>
 (x_aload_n g 0 dX10_feed_30 rfl rfl
 (x_getS g 2 fl_RX10_29 rfl ht dX10_feed_31
 (x_iload_n g 3 dX10_feed_34 rfl rfl
 (x_callVv (As := [.int a3]) g mv_X6_addInt mi_X6_addInt lk_RX10_164 (so_10_4 ht) (fun b Mh_ hb => kX6_addInt φ (t + 2) a3 M5 (so_10_4 ht) _ _ hb) rfl rfl hR ⟨Nat.le_of_ble_eq_true rfl, Nat.le_of_ble_eq_true rfl⟩ (Nat.le_of_ble_eq_true rfl) dX10_feed_35 (fun vu6 M7 =>
 (x_aload_n g 0 dX10_feed_38 rfl rfl
 (x_getS g 2 fl_RX10_29 rfl ht dX10_feed_39
 (x_iload g 4 dX10_feed_42 rfl
 (x_callVv (As := [.int a4]) g mv_X6_addInt mi_X6_addInt lk_RX10_164 (so_10_4 ht) (fun b Mh_ hb => kX6_addInt φ (t + 2) a4 M7 (so_10_4 ht) _ _ hb) rfl rfl hR ⟨Nat.le_of_ble_eq_true rfl, Nat.le_of_ble_eq_true rfl⟩ (Nat.le_of_ble_eq_true rfl) dX10_feed_44 (fun vu8 M9 =>
 (x_aload_n g 0 dX10_feed_47 rfl rfl
 (x_getS g 2 fl_RX10_29 rfl ht dX10_feed_48
 (x_iload g 5 dX10_feed_51 rfl
 (x_callVv (As := [.int a5]) g mv_X6_addInt mi_X6_addInt lk_RX10_164 (so_10_4 ht) (fun b Mh_ hb => kX6_addInt φ (t + 2) a5 M9 (so_10_4 ht) _ _ hb) rfl rfl hR ⟨Nat.le_of_ble_eq_true rfl, Nat.le_of_ble_eq_true rfl⟩ (Nat.le_of_ble_eq_true rfl) dX10_feed_53 (fun vu10 M11 =>
 (x_aload_n g 0 dX10_feed_56 rfl rfl
 (x_getS g 2 fl_RX10_29 rfl ht dX10_feed_57
 (x_getI g fl_RX10_168 rfl (so_10_4 ht) dX10_feed_60
 (x_iret g hr rfl rfl dX10_feed_63))))))))))))))))))))))))))))))
 (fun _ => (x_iconst g dX10_feed_12 kI_m1
 (x_iret g hr rfl rfl dX10_feed_13)))))))))
def fX6_isBlank (a1 : Int32) (M : Mem) : Option Int32 :=
  if a1 = (32 : Int32) then
 some (1 : Int32)
 else
 if a1 = (10 : Int32) then
 some (1 : Int32)
 else
 some (0 : Int32)
set_option maxRecDepth 100000 in
set_option maxHeartbeats 4000000 in
theorem kX6_isBlank (a1 : Int32) (M : Mem) (l : Launch) (G : GT) {b : Int32} (hE : fX6_isBlank a1 M = some b) : Ok l G yX6_isBlank cX6_isBlank 1 (some .boolean) 0 0 [.int a1] M ((fun b : Int32 => (some (Value.int b), M)) b).1 ((fun b : Int32 => (some (Value.int b), M)) b).2 := by
  refine Ok.ofX (pj := (fun b : Int32 => (some (Value.int b), M))) (by decide) (Nat.le_of_ble_eq_true rfl) hE (fun J g hr hG hl hR hn => ?_)
  show X J (fun b : Int32 => (some (Value.int b), M)) (fX6_isBlank a1 M) 0 [(0, .int a1)] [] M
  unfold fX6_isBlank
  exact (x_iload_n g 0 dX6_isBlank_0 rfl rfl
 (x_bipush g dX6_isBlank_1 kB_32
 (x_icmp_eq g 12 dX6_isBlank_3 rfl
 (fun _ => (x_iconst g dX6_isBlank_12 kI_1
 (x_goto g 17 dX6_isBlank_13 rfl
 (x_iret g hr rfl rfl dX6_isBlank_17))))
 (fun _ => (x_iload_n g 0 dX6_isBlank_6 rfl rfl
 (x_bipush g dX6_isBlank_7 kB_10
 (x_icmp_ne g 16 dX6_isBlank_9 rfl
 (fun _ => (x_iconst g dX6_isBlank_16 kI_0
 (x_iret g hr rfl rfl dX6_isBlank_17)))
 (fun _ => (x_iconst g dX6_isBlank_12 kI_1
 (x_goto g 17 dX6_isBlank_13 rfl
 (x_iret g hr rfl rfl dX6_isBlank_17)))))))))))
def fX6_isLetter (a1 : Int32) (M : Mem) : Option Int32 :=
  if a1 < (97 : Int32) then
 some (0 : Int32)
 else
 if (122 : Int32) < a1 then
 some (0 : Int32)
 else
 some (1 : Int32)
set_option maxRecDepth 100000 in
set_option maxHeartbeats 4000000 in
theorem kX6_isLetter (a1 : Int32) (M : Mem) (l : Launch) (G : GT) {b : Int32} (hE : fX6_isLetter a1 M = some b) : Ok l G yX6_isLetter cX6_isLetter 1 (some .boolean) 0 0 [.int a1] M ((fun b : Int32 => (some (Value.int b), M)) b).1 ((fun b : Int32 => (some (Value.int b), M)) b).2 := by
  refine Ok.ofX (pj := (fun b : Int32 => (some (Value.int b), M))) (by decide) (Nat.le_of_ble_eq_true rfl) hE (fun J g hr hG hl hR hn => ?_)
  show X J (fun b : Int32 => (some (Value.int b), M)) (fX6_isLetter a1 M) 0 [(0, .int a1)] [] M
  unfold fX6_isLetter
  exact (x_iload_n g 0 dX6_isLetter_0 rfl rfl
 (x_bipush g dX6_isLetter_1 kB_97
 (x_icmp_lt g 16 dX6_isLetter_3 rfl
 (fun _ => (x_iconst g dX6_isLetter_16 kI_0
 (x_iret g hr rfl rfl dX6_isLetter_17)))
 (fun _ => (x_iload_n g 0 dX6_isLetter_6 rfl rfl
 (x_bipush g dX6_isLetter_7 kB_122
 (x_icmp_gt g 16 dX6_isLetter_9 rfl
 (fun _ => (x_iconst g dX6_isLetter_16 kI_0
 (x_iret g hr rfl rfl dX6_isLetter_17)))
 (fun _ => (x_iconst g dX6_isLetter_12 kI_1
 (x_goto g 17 dX6_isLetter_13 rfl
 (x_iret g hr rfl rfl dX6_isLetter_17)))))))))))
def lX6_isSpelt_3 (t : Nat) (x1 : Int32) (x2 : Int32) (x3 : Int32) (M : Mem) : Nat → Int32 → Option Int32
  | 0, _ => none
  | n + 1, x4 =>
    if x3 ≤ x4 then
 some (1 : Int32)
 else
 ixk x4 900 (
 (sAt 1001 ((x1 + x4) - x2)).bind fun v1 =>
 if (M.1 (t + 1) x4.toNatClampNeg) = v1 then
 lX6_isSpelt_3 t x1 x2 x3 M n (x4 + 1)
 else
 some (0 : Int32))
theorem lX6_isSpelt_3_s (t : Nat) (x1 : Int32) (x2 : Int32) (x3 : Int32) (M : Mem) (n : Nat) (x4 : Int32) : lX6_isSpelt_3 t x1 x2 x3 M (n + 1) x4 =
    if x3 ≤ x4 then
 some (1 : Int32)
 else
 ixk x4 900 (
 (sAt 1001 ((x1 + x4) - x2)).bind fun v1 =>
 if (M.1 (t + 1) x4.toNatClampNeg) = v1 then
 lX6_isSpelt_3 t x1 x2 x3 M n (x4 + 1)
 else
 some (0 : Int32)) := rfl
theorem lX6_isSpelt_3_0 (t : Nat) (x1 : Int32) (x2 : Int32) (x3 : Int32) (M : Mem) (x4 : Int32) : lX6_isSpelt_3 t x1 x2 x3 M 0 x4 = none := rfl
set_option maxRecDepth 100000 in
set_option maxHeartbeats 4000000 in
theorem wlX6_isSpelt_3 {J : JT} (g : Gd J cX6_isSpelt RX6) (hr : Rt J (some .boolean)) (hR : (JR J).frames = 4 ∧ (JR J).locals = 121) (hn : Jn J = 5) (t : Nat) (x1 : Int32) (x2 : Int32) (x3 : Int32) (M : Mem) (ht : isO 6 t) : ∀ (n : Nat) (x4 : Int32), X J (fun b : Int32 => (some (Value.int b), M)) (lX6_isSpelt_3 t x1 x2 x3 M n x4) 3 [(0, .ref t), (1, .int x1), (2, .int x2), (3, .int x3), (4, .int x4)] [] M := by
  intro n
  induction n with
  | zero =>
    intro x4
    exact x_none
  | succ n ih =>
    intro x4
    rw [lX6_isSpelt_3_s]
    exact (x_iload g 4 dX6_isSpelt_3 rfl
 (x_iload_n g 3 dX6_isSpelt_5 rfl rfl
 (x_icmp_ge g 38 dX6_isSpelt_6 rfl
 (fun _ => (x_iconst g dX6_isSpelt_38 kI_1
 (x_iret g hr rfl rfl dX6_isSpelt_39)))
 (fun _ => (x_aload_n g 0 dX6_isSpelt_9 rfl rfl
 (x_getS g 1 fl_RX6_9 rfl ht dX6_isSpelt_10
 (x_iload g 4 dX6_isSpelt_13 rfl
 (x_bald g (so_6_0 ht) dX6_isSpelt_15
 (x_ldcS1 g dX6_isSpelt_16
 (x_iload_n g 1 dX6_isSpelt_18 rfl rfl
 (x_iload g 4 dX6_isSpelt_19 rfl
 (x_iadd g dX6_isSpelt_21
 (x_iload_n g 2 dX6_isSpelt_22 rfl rfl
 (x_isub g dX6_isSpelt_23
 (x_scharAt g hR lk_RX6_86 (Or.inl rfl) (Nat.le_of_ble_eq_true rfl) (Nat.le_of_ble_eq_true rfl) (Nat.le_of_ble_eq_true rfl) dX6_isSpelt_24 (fun v1 =>
 (x_icmp_eq g 32 dX6_isSpelt_27 rfl
 (fun _ => (x_iinc (L' := [(4, .int (x4 + 1)), (0, .ref t), (1, .int x1), (2, .int x2), (3, .int x3)]) (v := (x4 + 1)) g 4 dX6_isSpelt_32 rfl (by rw [kI_1]) hn (Nat.le_of_ble_eq_true rfl) rfl
 (x_goto g 3 dX6_isSpelt_35 rfl
 (x_sub [1, 2, 3, 4, 0] rfl (ih (x4 + 1))))))
 (fun _ => (x_iconst g dX6_isSpelt_30 kI_0
 (x_iret g hr rfl rfl dX6_isSpelt_31))))))))))))))))))))
def fX6_isSpelt (φ : Nat) (t : Nat) (a1 : Int32) (a2 : Int32) (a3 : Int32) (M : Mem) : Option Int32 :=
  lX6_isSpelt_3 t a1 a2 a3 M φ a2
set_option maxRecDepth 100000 in
set_option maxHeartbeats 4000000 in
theorem kX6_isSpelt (φ : Nat) (t : Nat) (a1 : Int32) (a2 : Int32) (a3 : Int32) (M : Mem) (ht : isO 6 t) (l : Launch) (G : GT) {b : Int32} (hE : fX6_isSpelt φ t a1 a2 a3 M = some b) : Ok l G yX6_isSpelt cX6_isSpelt 5 (some .boolean) 4 121 [.ref t, .int a1, .int a2, .int a3] M ((fun b : Int32 => (some (Value.int b), M)) b).1 ((fun b : Int32 => (some (Value.int b), M)) b).2 := by
  refine Ok.ofX (pj := (fun b : Int32 => (some (Value.int b), M))) (by decide) (Nat.le_of_ble_eq_true rfl) hE (fun J g hr hG hl hR hn => ?_)
  show X J (fun b : Int32 => (some (Value.int b), M)) (fX6_isSpelt φ t a1 a2 a3 M) 0 [(0, .ref t), (1, .int a1), (2, .int a2), (3, .int a3)] [] M
  unfold fX6_isSpelt
  exact (x_iload_n g 2 dX6_isSpelt_0 rfl rfl
 (x_istore (L' := [(4, .int a2), (0, .ref t), (1, .int a1), (2, .int a2), (3, .int a3)]) g dX6_isSpelt_1 hn (Nat.le_of_ble_eq_true rfl) rfl
 (x_sub [1, 2, 3, 4, 0] rfl (wlX6_isSpelt_3 g hr hR hn  t a1 a2 a3 M ht φ a2))))
def lX6_keptWord_8 (φ : Nat) (t : Nat) (x1 : Int32) (x2 : Int32) (M : Mem) : Nat → Int32 → Int32 → Int32 → Option Int32
  | 0, _, _, _ => none
  | n + 1, x3, x4, x5 =>
    (sLen 1001).bind fun v1 =>
 if v1 ≤ x5 then
 some (-1 : Int32)
 else
 (sAt 1001 x5).bind fun v2 =>
 jn (fun (v3 : Int32) (v4 : Int32) => lX6_keptWord_8 φ t x1 x2 M n v3 v4 (x5 + 1)) (fun J5 => if v2 = (32 : Int32) then
 jn (nm (x5 + (1 : Int32)) (fun v7 =>
 J5 (x3 + 1) v7)) (fun J6 => if (x5 - x4) = (x2 - x1) then
 (fX6_isSpelt φ t x4 x1 x2 M).bind fun v8 =>
 if v8 = 0 then
 J6
 else
 some x3
 else
 J6)
 else
 J5 x3 x4)
theorem lX6_keptWord_8_s (φ : Nat) (t : Nat) (x1 : Int32) (x2 : Int32) (M : Mem) (n : Nat) (x3 : Int32) (x4 : Int32) (x5 : Int32) : lX6_keptWord_8 φ t x1 x2 M (n + 1) x3 x4 x5 =
    (sLen 1001).bind fun v1 =>
 if v1 ≤ x5 then
 some (-1 : Int32)
 else
 (sAt 1001 x5).bind fun v2 =>
 jn (fun (v3 : Int32) (v4 : Int32) => lX6_keptWord_8 φ t x1 x2 M n v3 v4 (x5 + 1)) (fun J5 => if v2 = (32 : Int32) then
 jn (nm (x5 + (1 : Int32)) (fun v7 =>
 J5 (x3 + 1) v7)) (fun J6 => if (x5 - x4) = (x2 - x1) then
 (fX6_isSpelt φ t x4 x1 x2 M).bind fun v8 =>
 if v8 = 0 then
 J6
 else
 some x3
 else
 J6)
 else
 J5 x3 x4) := rfl
theorem lX6_keptWord_8_0 (φ : Nat) (t : Nat) (x1 : Int32) (x2 : Int32) (M : Mem) (x3 : Int32) (x4 : Int32) (x5 : Int32) : lX6_keptWord_8 φ t x1 x2 M 0 x3 x4 x5 = none := rfl
set_option maxRecDepth 100000 in
set_option maxHeartbeats 4000000 in
theorem wlX6_keptWord_8 {J : JT} (g : Gd J cX6_keptWord RX6) (hr : Rt J (some .int)) (hR : (JR J).frames = 5 ∧ (JR J).locals = 145) (hn : Jn J = 6) (φ : Nat) (t : Nat) (x1 : Int32) (x2 : Int32) (M : Mem) (ht : isO 6 t) : ∀ (n : Nat) (x3 : Int32) (x4 : Int32) (x5 : Int32), X J (fun b : Int32 => (some (Value.int b), M)) (lX6_keptWord_8 φ t x1 x2 M n x3 x4 x5) 8 [(0, .ref t), (1, .int x1), (2, .int x2), (3, .int x3), (4, .int x4), (5, .int x5)] [] M := by
  intro n
  induction n with
  | zero =>
    intro x3 x4 x5
    exact x_none
  | succ n ih =>
    intro x3 x4 x5
    rw [lX6_keptWord_8_s]
    exact (x_iload g 5 dX6_keptWord_8 rfl
 (x_ldcS1 g dX6_keptWord_10
 (x_slength g hR lk_RX6_80 (Or.inl rfl) (Nat.le_of_ble_eq_true rfl) (Nat.le_of_ble_eq_true rfl) (Nat.le_of_ble_eq_true rfl) dX6_keptWord_12 (fun v1 =>
 (x_icmp_ge g 69 dX6_keptWord_15 rfl
 (fun _ => (x_iconst g dX6_keptWord_69 kI_m1
 (x_iret g hr rfl rfl dX6_keptWord_70)))
 (fun _ => (x_ldcS1 g dX6_keptWord_18
 (x_iload g 5 dX6_keptWord_20 rfl
 (x_scharAt g hR lk_RX6_86 (Or.inl rfl) (Nat.le_of_ble_eq_true rfl) (Nat.le_of_ble_eq_true rfl) (Nat.le_of_ble_eq_true rfl) dX6_keptWord_22 (fun v2 =>
 (x_bipush g dX6_keptWord_25 kB_32
 (x_jn (fun (J5 : Int32 → Int32 → Option Int32) => ∀ (v3 : Int32) (v4 : Int32), X J (fun b : Int32 => (some (Value.int b), M)) (J5 v3 v4) 63 [(0, .ref t), (1, .int x1), (2, .int x2), (3, .int v3), (4, .int v4), (5, .int x5)] [] M) (fun v3 v4 => (x_iinc (L' := [(5, .int (x5 + 1)), (0, .ref t), (1, .int x1), (2, .int x2), (3, .int v3), (4, .int v4)]) (v := (x5 + 1)) g 5 dX6_keptWord_63 rfl (by rw [kI_1]) hn (Nat.le_of_ble_eq_true rfl) rfl
 (x_goto g 8 dX6_keptWord_66 rfl
 (x_sub [1, 2, 3, 4, 5, 0] rfl (ih v3 v4 (x5 + 1)))))) (fun J5 hJ5 => (x_icmp_ne g 63 dX6_keptWord_27 rfl
 (fun _ => (hJ5 x3 x4))
 (fun _ => (x_iload g 5 dX6_keptWord_30 rfl
 (x_iload g 4 dX6_keptWord_32 rfl
 (x_isub g dX6_keptWord_34
 (x_iload_n g 2 dX6_keptWord_35 rfl rfl
 (x_iload_n g 1 dX6_keptWord_36 rfl rfl
 (x_isub g dX6_keptWord_37
 (x_jn (fun (J6 : Option Int32) => X J (fun b : Int32 => (some (Value.int b), M)) J6 54 [(0, .ref t), (1, .int x1), (2, .int x2), (3, .int x3), (5, .int x5)] [] M) (x_iinc (L' := [(3, .int (x3 + 1)), (0, .ref t), (1, .int x1), (2, .int x2), (5, .int x5)]) (v := (x3 + 1)) g 3 dX6_keptWord_54 rfl (by rw [kI_1]) hn (Nat.le_of_ble_eq_true rfl) rfl
 (x_iload g 4 dX6_keptWord_57 rfl
 (x_iconst g dX6_keptWord_59 kI_1
 (x_iadd g dX6_keptWord_60
 (x_nmI (fun v7 => (x_istore (L' := [(4, .int v7), (3, .int (x3 + 1)), (0, .ref t), (1, .int x1), (2, .int x2), (5, .int x5)]) g dX6_keptWord_61 hn (Nat.le_of_ble_eq_true rfl) rfl
 (x_sub [2, 3, 4, 1, 0, 5] rfl (hJ5 (x3 + 1) v7))))))))) (fun J6 hJ6 => (x_icmp_ne g 54 dX6_keptWord_38 rfl
 (fun _ => (x_sub [0, 1, 2, 3, 5] rfl (hJ6)))
 (fun _ => (x_aload_n g 0 dX6_keptWord_41 rfl rfl
 (x_iload g 4 dX6_keptWord_42 rfl
 (x_iload_n g 1 dX6_keptWord_44 rfl rfl
 (x_iload_n g 2 dX6_keptWord_45 rfl rfl
 (x_callVip (As := [.int x4, .int x1, .int x2]) g mv_X6_isSpelt mi_X6_isSpelt lk_RX6_90 ht (fun b hb => kX6_isSpelt φ t x4 x1 x2 M ht _ _ hb) rfl rfl hR ⟨Nat.le_of_ble_eq_true rfl, Nat.le_of_ble_eq_true rfl⟩ (Nat.le_of_ble_eq_true rfl) dX6_keptWord_46 (fun v8 =>
 (x_if_eq g 54 dX6_keptWord_49 rfl
 (fun _ => (x_sub [0, 1, 2, 3, 5] rfl (hJ6)))
 (fun _ => (x_iload_n g 3 dX6_keptWord_52 rfl rfl
 (x_iret g hr rfl rfl dX6_keptWord_53)))))))))))))))))))))))))))))))))))
def fX6_keptWord (φ : Nat) (t : Nat) (a1 : Int32) (a2 : Int32) (M : Mem) : Option Int32 :=
  lX6_keptWord_8 φ t a1 a2 M φ (0 : Int32) (0 : Int32) (0 : Int32)
set_option maxRecDepth 100000 in
set_option maxHeartbeats 4000000 in
theorem kX6_keptWord (φ : Nat) (t : Nat) (a1 : Int32) (a2 : Int32) (M : Mem) (ht : isO 6 t) (l : Launch) (G : GT) {b : Int32} (hE : fX6_keptWord φ t a1 a2 M = some b) : Ok l G yX6_keptWord cX6_keptWord 6 (some .int) 5 145 [.ref t, .int a1, .int a2] M ((fun b : Int32 => (some (Value.int b), M)) b).1 ((fun b : Int32 => (some (Value.int b), M)) b).2 := by
  refine Ok.ofX (pj := (fun b : Int32 => (some (Value.int b), M))) (by decide) (Nat.le_of_ble_eq_true rfl) hE (fun J g hr hG hl hR hn => ?_)
  show X J (fun b : Int32 => (some (Value.int b), M)) (fX6_keptWord φ t a1 a2 M) 0 [(0, .ref t), (1, .int a1), (2, .int a2)] [] M
  unfold fX6_keptWord
  exact (x_iconst g dX6_keptWord_0 kI_0
 (x_istore_n (L' := [(3, .int (0 : Int32)), (0, .ref t), (1, .int a1), (2, .int a2)]) g dX6_keptWord_1 rfl hn (Nat.le_of_ble_eq_true rfl) rfl
 (x_iconst g dX6_keptWord_2 kI_0
 (x_istore (L' := [(4, .int (0 : Int32)), (3, .int (0 : Int32)), (0, .ref t), (1, .int a1), (2, .int a2)]) g dX6_keptWord_3 hn (Nat.le_of_ble_eq_true rfl) rfl
 (x_iconst g dX6_keptWord_5 kI_0
 (x_istore (L' := [(5, .int (0 : Int32)), (4, .int (0 : Int32)), (3, .int (0 : Int32)), (0, .ref t), (1, .int a1), (2, .int a2)]) g dX6_keptWord_6 hn (Nat.le_of_ble_eq_true rfl) rfl
 (x_sub [3, 4, 5, 2, 1, 0] rfl (wlX6_keptWord_8 g hr hR hn  φ t a1 a2 M ht φ (0 : Int32) (0 : Int32) (0 : Int32)))))))))
def fX6_addToken (t : Nat) (a1 : Int32) (a2 : Int32) (a3 : Int32) (a4 : Int64) (M : Mem) : Option (Unit × Mem) :=
  ixk (M.1 t 6) 901 (nm (stI M (t + 2) (M.1 t 6).toNatClampNeg a1) (fun M1 =>
 ixk (M1.1 t 6) 901 (nm (stI M1 (t + 3) (M1.1 t 6).toNatClampNeg a2) (fun M2 =>
 ixk (M2.1 t 6) 901 (nm (stI M2 (t + 4) (M2.1 t 6).toNatClampNeg a3) (fun M3 =>
 ixk (M3.1 t 6) 901 (nm (stL M3 (t + 5) (M3.1 t 6).toNatClampNeg a4) (fun M4 =>
 nm (stI M4 t 6 ((M4.1 t 6) + (1 : Int32))) (fun M5 =>
 some ((), M5))))))))))
set_option maxRecDepth 100000 in
set_option maxHeartbeats 4000000 in
theorem kX6_addToken (t : Nat) (a1 : Int32) (a2 : Int32) (a3 : Int32) (a4 : Int64) (M : Mem) (ht : isO 6 t) (l : Launch) (G : GT) {b : (Unit × Mem)} (hE : fX6_addToken t a1 a2 a3 a4 M = some b) : Ok l G yX6_addToken cX6_addToken 6 none 0 0 [.ref t, .int a1, .int a2, .int a3, .long a4] M ((fun q : Unit × Mem => ((none : Option Value), q.2)) b).1 ((fun q : Unit × Mem => ((none : Option Value), q.2)) b).2 := by
  refine Ok.ofX (pj := (fun q : Unit × Mem => ((none : Option Value), q.2))) (by decide) (Nat.le_of_ble_eq_true rfl) hE (fun J g hr hG hl hR hn => ?_)
  show X J (fun q : Unit × Mem => ((none : Option Value), q.2)) (fX6_addToken t a1 a2 a3 a4 M) 0 [(0, .ref t), (1, .int a1), (2, .int a2), (3, .int a3), (4, .long a4)] [] M
  unfold fX6_addToken
  exact (x_aload_n g 0 dX6_addToken_0 rfl rfl
 (x_getS g 2 fl_RX6_19 rfl ht dX6_addToken_1
 (x_aload_n g 0 dX6_addToken_4 rfl rfl
 (x_getI g fl_RX6_33 rfl ht dX6_addToken_5
 (x_iload_n g 1 dX6_addToken_8 rfl rfl
 (x_iast g (so_6_2 ht) dX6_addToken_9 (x_nmM (fun M1 =>
 (x_aload_n g 0 dX6_addToken_10 rfl rfl
 (x_getS g 3 fl_RX6_23 rfl ht dX6_addToken_11
 (x_aload_n g 0 dX6_addToken_14 rfl rfl
 (x_getI g fl_RX6_33 rfl ht dX6_addToken_15
 (x_iload_n g 2 dX6_addToken_18 rfl rfl
 (x_iast g (so_6_3 ht) dX6_addToken_19 (x_nmM (fun M2 =>
 (x_aload_n g 0 dX6_addToken_20 rfl rfl
 (x_getS g 4 fl_RX6_26 rfl ht dX6_addToken_21
 (x_aload_n g 0 dX6_addToken_24 rfl rfl
 (x_getI g fl_RX6_33 rfl ht dX6_addToken_25
 (x_iload_n g 3 dX6_addToken_28 rfl rfl
 (x_iast g (so_6_4 ht) dX6_addToken_29 (x_nmM (fun M3 =>
 (x_aload_n g 0 dX6_addToken_30 rfl rfl
 (x_getS g 5 fl_RX6_29 rfl ht dX6_addToken_31
 (x_aload_n g 0 dX6_addToken_34 rfl rfl
 (x_getI g fl_RX6_33 rfl ht dX6_addToken_35
 (x_lload g 4 dX6_addToken_38 rfl
 (x_last g (so_6_5 ht) dX6_addToken_40 (x_nmM (fun M4 =>
 (x_aload_n g 0 dX6_addToken_41 rfl rfl
 (x_dup g dX6_addToken_42 rfl
 (x_getI g fl_RX6_33 rfl ht dX6_addToken_43
 (x_iconst g dX6_addToken_46 kI_1
 (x_iadd g dX6_addToken_47
 (x_putI g fp_RX6_33 rfl (Nat.le_of_ble_eq_true rfl) ht dX6_addToken_48 (x_nmM (fun M5 =>
 (x_vret g hr rfl dX6_addToken_51)))))))))))))))))))))))))))))))))))))))))
def lX6_readWord_5 (K61 : Int32 → Int64 → Option (Int32 × Mem)) (t : Nat) (x1 : Int32) (x2 : Int32) (M : Mem) : Nat → Int32 → Int64 → Option (Int32 × Mem)
  | 0, _, _ => none
  | n + 1, x3, xz4 =>
    if x2 ≤ x3 then
 K61 x3 xz4
 else
 ixk x3 900 (
 (fX6_isLetter (M.1 (t + 1) x3.toNatClampNeg) M).bind fun v1 =>
 if v1 = 0 then
 K61 x3 xz4
 else
 jn (fun (vz2 : Int64) => lX6_readWord_5 K61 t x1 x2 M n (x3 + 1) vz2) (fun J3 => if (8 : Int32) ≤ (x3 - x1) then
 J3 (0 : Int64)
 else
 ixk x3 900 (
 J3 ((xz4 * (32 : Int64)) + ((((M.1 (t + 1) x3.toNatClampNeg) - (97 : Int32)) + (1 : Int32)).toInt64)))))
theorem lX6_readWord_5_s (K61 : Int32 → Int64 → Option (Int32 × Mem)) (t : Nat) (x1 : Int32) (x2 : Int32) (M : Mem) (n : Nat) (x3 : Int32) (xz4 : Int64) : lX6_readWord_5 K61 t x1 x2 M (n + 1) x3 xz4 =
    if x2 ≤ x3 then
 K61 x3 xz4
 else
 ixk x3 900 (
 (fX6_isLetter (M.1 (t + 1) x3.toNatClampNeg) M).bind fun v1 =>
 if v1 = 0 then
 K61 x3 xz4
 else
 jn (fun (vz2 : Int64) => lX6_readWord_5 K61 t x1 x2 M n (x3 + 1) vz2) (fun J3 => if (8 : Int32) ≤ (x3 - x1) then
 J3 (0 : Int64)
 else
 ixk x3 900 (
 J3 ((xz4 * (32 : Int64)) + ((((M.1 (t + 1) x3.toNatClampNeg) - (97 : Int32)) + (1 : Int32)).toInt64))))) := rfl
theorem lX6_readWord_5_0 (K61 : Int32 → Int64 → Option (Int32 × Mem)) (t : Nat) (x1 : Int32) (x2 : Int32) (M : Mem) (x3 : Int32) (xz4 : Int64) : lX6_readWord_5 K61 t x1 x2 M 0 x3 xz4 = none := rfl
set_option maxRecDepth 100000 in
set_option maxHeartbeats 4000000 in
theorem wlX6_readWord_5 {J : JT} (g : Gd J cX6_readWord RX6) (hr : Rt J (some .int)) (hR : (JR J).frames = 6 ∧ (JR J).locals = 170) (hn : Jn J = 6) (K61 : Int32 → Int64 → Option (Int32 × Mem)) (t : Nat) (x1 : Int32) (x2 : Int32) (M : Mem) (ht : isO 6 t) (hK61 : ∀ (y3 : Int32) (yz4 : Int64), X J (fun q : Int32 × Mem => (some (Value.int q.1), q.2)) (K61 y3 yz4) 61 [(0, .ref t), (1, .int x1), (3, .int y3), (4, .long yz4)] [] M) : ∀ (n : Nat) (x3 : Int32) (xz4 : Int64), X J (fun q : Int32 × Mem => (some (Value.int q.1), q.2)) (lX6_readWord_5 K61 t x1 x2 M n x3 xz4) 5 [(0, .ref t), (1, .int x1), (2, .int x2), (3, .int x3), (4, .long xz4)] [] M := by
  intro n
  induction n with
  | zero =>
    intro x3 xz4
    exact x_none
  | succ n ih =>
    intro x3 xz4
    rw [lX6_readWord_5_s]
    exact (x_iload_n g 3 dX6_readWord_5 rfl rfl
 (x_iload_n g 2 dX6_readWord_6 rfl rfl
 (x_icmp_ge g 61 dX6_readWord_7 rfl
 (fun _ => (x_sub [0, 1, 3, 4] rfl (hK61 x3 xz4)))
 (fun _ => (x_aload_n g 0 dX6_readWord_10 rfl rfl
 (x_getS g 1 fl_RX6_9 rfl ht dX6_readWord_11
 (x_iload_n g 3 dX6_readWord_14 rfl rfl
 (x_bald g (so_6_0 ht) dX6_readWord_15
 (x_callSip (As := [.int (M.1 (t + 1) x3.toNatClampNeg)]) g mv_X6_isLetter ms_X6_isLetter lk_RX6_61 (fun b hb => kX6_isLetter (M.1 (t + 1) x3.toNatClampNeg) M _ _ hb) rfl rfl hR ⟨Nat.le_of_ble_eq_true rfl, Nat.le_of_ble_eq_true rfl⟩ (Nat.le_of_ble_eq_true rfl) dX6_readWord_16 (fun v1 =>
 (x_if_eq g 61 dX6_readWord_19 rfl
 (fun _ => (x_sub [0, 1, 3, 4] rfl (hK61 x3 xz4)))
 (fun _ => (x_iload_n g 3 dX6_readWord_22 rfl rfl
 (x_iload_n g 1 dX6_readWord_23 rfl rfl
 (x_isub g dX6_readWord_24
 (x_bipush g dX6_readWord_25 kB_8
 (x_jn (fun (J3 : Int64 → Option (Int32 × Mem)) => ∀ (vz2 : Int64), X J (fun q : Int32 × Mem => (some (Value.int q.1), q.2)) (J3 vz2) 53 [(0, .ref t), (1, .int x1), (2, .int x2), (3, .int x3)] [.long vz2] M) (fun vz2 => (x_lstore (L' := [(4, .long vz2), (0, .ref t), (1, .int x1), (2, .int x2), (3, .int x3)]) g dX6_readWord_53 hn (Nat.le_of_ble_eq_true rfl) rfl
 (x_iinc (L' := [(3, .int (x3 + 1)), (4, .long vz2), (0, .ref t), (1, .int x1), (2, .int x2)]) (v := (x3 + 1)) g 4 dX6_readWord_55 rfl (by rw [kI_1]) hn (Nat.le_of_ble_eq_true rfl) rfl
 (x_goto g 5 dX6_readWord_58 rfl
 (x_sub [2, 3, 4, 0, 1] rfl (ih (x3 + 1) vz2)))))) (fun J3 hJ3 => (x_icmp_ge g 52 dX6_readWord_27 rfl
 (fun _ => (x_lconst g dX6_readWord_52 kL_0
 (x_sub [0, 1, 2, 3] rfl (hJ3 (0 : Int64)))))
 (fun _ => (x_lload g 4 dX6_readWord_30 rfl
 (x_ldc2 g cw_RX6_73 dX6_readWord_32
 (x_lmul g dX6_readWord_35
 (x_aload_n g 0 dX6_readWord_36 rfl rfl
 (x_getS g 1 fl_RX6_9 rfl ht dX6_readWord_37
 (x_iload_n g 3 dX6_readWord_40 rfl rfl
 (x_bald g (so_6_0 ht) dX6_readWord_41
 (x_bipush g dX6_readWord_42 kB_97
 (x_isub g dX6_readWord_44
 (x_iconst g dX6_readWord_45 kI_1
 (x_iadd g dX6_readWord_46
 (x_i2l g dX6_readWord_47
 (x_ladd g dX6_readWord_48
 (x_goto g 53 dX6_readWord_49 rfl
 (x_sub [0, 1, 2, 3] rfl (hJ3 ((xz4 * (32 : Int64)) + ((((M.1 (t + 1) x3.toNatClampNeg) - (97 : Int32)) + (1 : Int32)).toInt64))))))))))))))))))))))))))))))))))))))
def fX6_readWord (φ : Nat) (t : Nat) (a1 : Int32) (a2 : Int32) (M : Mem) : Option (Int32 × Mem) :=
  lX6_readWord_5 (fun (v4 : Int32) (vz5 : Int64) => jn (fun (vz6 : Int64) => (fX6_keptWord φ t a1 v4 M).bind fun v8 =>
 bd (fX6_addToken t (1 : Int32) a1 v8 vz6 M) fun vu9 M10 =>
 some (v4, M10)) (fun J7 => if (v4 - a1) ≤ (8 : Int32) then
 J7 vz5
 else
 J7 (0 : Int64))) t a1 a2 M φ a1 (0 : Int64)
set_option maxRecDepth 100000 in
set_option maxHeartbeats 4000000 in
theorem kX6_readWord (φ : Nat) (t : Nat) (a1 : Int32) (a2 : Int32) (M : Mem) (ht : isO 6 t) (l : Launch) (G : GT) {b : (Int32 × Mem)} (hE : fX6_readWord φ t a1 a2 M = some b) : Ok l G yX6_readWord cX6_readWord 6 (some .int) 6 170 [.ref t, .int a1, .int a2] M ((fun q : Int32 × Mem => (some (Value.int q.1), q.2)) b).1 ((fun q : Int32 × Mem => (some (Value.int q.1), q.2)) b).2 := by
  refine Ok.ofX (pj := (fun q : Int32 × Mem => (some (Value.int q.1), q.2))) (by decide) (Nat.le_of_ble_eq_true rfl) hE (fun J g hr hG hl hR hn => ?_)
  show X J (fun q : Int32 × Mem => (some (Value.int q.1), q.2)) (fX6_readWord φ t a1 a2 M) 0 [(0, .ref t), (1, .int a1), (2, .int a2)] [] M
  unfold fX6_readWord
  exact (x_iload_n g 1 dX6_readWord_0 rfl rfl
 (x_istore_n (L' := [(3, .int a1), (0, .ref t), (1, .int a1), (2, .int a2)]) g dX6_readWord_1 rfl hn (Nat.le_of_ble_eq_true rfl) rfl
 (x_lconst g dX6_readWord_2 kL_0
 (x_lstore (L' := [(4, .long (0 : Int64)), (3, .int a1), (0, .ref t), (1, .int a1), (2, .int a2)]) g dX6_readWord_3 hn (Nat.le_of_ble_eq_true rfl) rfl
 (x_sub [2, 3, 4, 1, 0] rfl (wlX6_readWord_5 g hr hR hn _ t a1 a2 M ht
 (fun v4 vz5 => by exact (x_iload_n g 2 dX6_readWord_61 rfl rfl
 (x_iload_n g 1 dX6_readWord_62 rfl rfl
 (x_isub g dX6_readWord_63
 (x_bipush g dX6_readWord_64 kB_8
 (x_jn (fun (J7 : Int64 → Option (Int32 × Mem)) => ∀ (vz6 : Int64), X J (fun q : Int32 × Mem => (some (Value.int q.1), q.2)) (J7 vz6) 72 [(0, .ref t), (1, .int a1), (3, .int v4), (4, .long vz6)] [] M) (fun vz6 => (x_aload_n g 0 dX6_readWord_72 rfl rfl
 (x_iconst g dX6_readWord_73 kI_1
 (x_iload_n g 1 dX6_readWord_74 rfl rfl
 (x_aload_n g 0 dX6_readWord_75 rfl rfl
 (x_iload_n g 1 dX6_readWord_76 rfl rfl
 (x_iload_n g 2 dX6_readWord_77 rfl rfl
 (x_callVip (As := [.int a1, .int v4]) g mv_X6_keptWord mi_X6_keptWord lk_RX6_75 ht (fun b hb => kX6_keptWord φ t a1 v4 M ht _ _ hb) rfl rfl hR ⟨Nat.le_of_ble_eq_true rfl, Nat.le_of_ble_eq_true rfl⟩ (Nat.le_of_ble_eq_true rfl) dX6_readWord_78 (fun v8 =>
 (x_lload g 3 dX6_readWord_81 rfl
 (x_callVv (As := [.int (1 : Int32), .int a1, .int v8, .long vz6]) g mv_X6_addToken mi_X6_addToken lk_RX6_57 ht (fun b Mh_ hb => kX6_addToken t (1 : Int32) a1 v8 vz6 M ht _ _ hb) rfl rfl hR ⟨Nat.le_of_ble_eq_true rfl, Nat.le_of_ble_eq_true rfl⟩ (Nat.le_of_ble_eq_true rfl) dX6_readWord_83 (fun vu9 M10 =>
 (x_iload_n g 2 dX6_readWord_86 rfl rfl
 (x_iret g hr rfl rfl dX6_readWord_87)))))))))))))) (fun J7 hJ7 => (x_icmp_le g 72 dX6_readWord_66 rfl
 (fun _ => (hJ7 vz5))
 (fun _ => (x_lconst g dX6_readWord_69 kL_0
 (x_lstore (L' := [(4, .long (0 : Int64)), (0, .ref t), (1, .int a1), (3, .int v4)]) g dX6_readWord_70 hn (Nat.le_of_ble_eq_true rfl) rfl
 (x_sub [1, 2, 3, 0] rfl (hJ7 (0 : Int64)))))))))))))) φ a1 (0 : Int64)))))))
def fX6_isDigit (a1 : Int32) (M : Mem) : Option Int32 :=
  if a1 < (48 : Int32) then
 some (0 : Int32)
 else
 if (57 : Int32) < a1 then
 some (0 : Int32)
 else
 some (1 : Int32)
set_option maxRecDepth 100000 in
set_option maxHeartbeats 4000000 in
theorem kX6_isDigit (a1 : Int32) (M : Mem) (l : Launch) (G : GT) {b : Int32} (hE : fX6_isDigit a1 M = some b) : Ok l G yX6_isDigit cX6_isDigit 1 (some .boolean) 0 0 [.int a1] M ((fun b : Int32 => (some (Value.int b), M)) b).1 ((fun b : Int32 => (some (Value.int b), M)) b).2 := by
  refine Ok.ofX (pj := (fun b : Int32 => (some (Value.int b), M))) (by decide) (Nat.le_of_ble_eq_true rfl) hE (fun J g hr hG hl hR hn => ?_)
  show X J (fun b : Int32 => (some (Value.int b), M)) (fX6_isDigit a1 M) 0 [(0, .int a1)] [] M
  unfold fX6_isDigit
  exact (x_iload_n g 0 dX6_isDigit_0 rfl rfl
 (x_bipush g dX6_isDigit_1 kB_48
 (x_icmp_lt g 16 dX6_isDigit_3 rfl
 (fun _ => (x_iconst g dX6_isDigit_16 kI_0
 (x_iret g hr rfl rfl dX6_isDigit_17)))
 (fun _ => (x_iload_n g 0 dX6_isDigit_6 rfl rfl
 (x_bipush g dX6_isDigit_7 kB_57
 (x_icmp_gt g 16 dX6_isDigit_9 rfl
 (fun _ => (x_iconst g dX6_isDigit_16 kI_0
 (x_iret g hr rfl rfl dX6_isDigit_17)))
 (fun _ => (x_iconst g dX6_isDigit_12 kI_1
 (x_goto g 17 dX6_isDigit_13 rfl
 (x_iret g hr rfl rfl dX6_isDigit_17)))))))))))
def lX6_readNumber_5 (K56 : Int32 → Int32 → Option (Int32 × Mem)) (t : Nat) (x1 : Int32) (x2 : Int32) (M : Mem) : Nat → Int32 → Int32 → Option (Int32 × Mem)
  | 0, _, _ => none
  | n + 1, x3, x4 =>
    if x2 ≤ x3 then
 K56 x3 x4
 else
 ixk x3 900 (
 (fX6_isDigit (M.1 (t + 1) x3.toNatClampNeg) M).bind fun v1 =>
 if v1 = 0 then
 K56 x3 x4
 else
 jn (fun (v2 : Int32) => lX6_readNumber_5 K56 t x1 x2 M n (x3 + 1) v2) (fun J3 => if (4 : Int32) ≤ (x3 - x1) then
 J3 (0 : Int32)
 else
 ixk x3 900 (
 J3 ((x4 * (10 : Int32)) + ((M.1 (t + 1) x3.toNatClampNeg) - (48 : Int32))))))
theorem lX6_readNumber_5_s (K56 : Int32 → Int32 → Option (Int32 × Mem)) (t : Nat) (x1 : Int32) (x2 : Int32) (M : Mem) (n : Nat) (x3 : Int32) (x4 : Int32) : lX6_readNumber_5 K56 t x1 x2 M (n + 1) x3 x4 =
    if x2 ≤ x3 then
 K56 x3 x4
 else
 ixk x3 900 (
 (fX6_isDigit (M.1 (t + 1) x3.toNatClampNeg) M).bind fun v1 =>
 if v1 = 0 then
 K56 x3 x4
 else
 jn (fun (v2 : Int32) => lX6_readNumber_5 K56 t x1 x2 M n (x3 + 1) v2) (fun J3 => if (4 : Int32) ≤ (x3 - x1) then
 J3 (0 : Int32)
 else
 ixk x3 900 (
 J3 ((x4 * (10 : Int32)) + ((M.1 (t + 1) x3.toNatClampNeg) - (48 : Int32)))))) := rfl
theorem lX6_readNumber_5_0 (K56 : Int32 → Int32 → Option (Int32 × Mem)) (t : Nat) (x1 : Int32) (x2 : Int32) (M : Mem) (x3 : Int32) (x4 : Int32) : lX6_readNumber_5 K56 t x1 x2 M 0 x3 x4 = none := rfl
set_option maxRecDepth 100000 in
set_option maxHeartbeats 4000000 in
theorem wlX6_readNumber_5 {J : JT} (g : Gd J cX6_readNumber RX6) (hr : Rt J (some .int)) (hR : (JR J).frames = 1 ∧ (JR J).locals = 25) (hn : Jn J = 5) (K56 : Int32 → Int32 → Option (Int32 × Mem)) (t : Nat) (x1 : Int32) (x2 : Int32) (M : Mem) (ht : isO 6 t) (hK56 : ∀ (y3 : Int32) (y4 : Int32), X J (fun q : Int32 × Mem => (some (Value.int q.1), q.2)) (K56 y3 y4) 56 [(0, .ref t), (1, .int x1), (3, .int y3), (4, .int y4)] [] M) : ∀ (n : Nat) (x3 : Int32) (x4 : Int32), X J (fun q : Int32 × Mem => (some (Value.int q.1), q.2)) (lX6_readNumber_5 K56 t x1 x2 M n x3 x4) 5 [(0, .ref t), (1, .int x1), (2, .int x2), (3, .int x3), (4, .int x4)] [] M := by
  intro n
  induction n with
  | zero =>
    intro x3 x4
    exact x_none
  | succ n ih =>
    intro x3 x4
    rw [lX6_readNumber_5_s]
    exact (x_iload_n g 3 dX6_readNumber_5 rfl rfl
 (x_iload_n g 2 dX6_readNumber_6 rfl rfl
 (x_icmp_ge g 56 dX6_readNumber_7 rfl
 (fun _ => (x_sub [0, 1, 3, 4] rfl (hK56 x3 x4)))
 (fun _ => (x_aload_n g 0 dX6_readNumber_10 rfl rfl
 (x_getS g 1 fl_RX6_9 rfl ht dX6_readNumber_11
 (x_iload_n g 3 dX6_readNumber_14 rfl rfl
 (x_bald g (so_6_0 ht) dX6_readNumber_15
 (x_callSip (As := [.int (M.1 (t + 1) x3.toNatClampNeg)]) g mv_X6_isDigit ms_X6_isDigit lk_RX6_67 (fun b hb => kX6_isDigit (M.1 (t + 1) x3.toNatClampNeg) M _ _ hb) rfl rfl hR ⟨Nat.le_of_ble_eq_true rfl, Nat.le_of_ble_eq_true rfl⟩ (Nat.le_of_ble_eq_true rfl) dX6_readNumber_16 (fun v1 =>
 (x_if_eq g 56 dX6_readNumber_19 rfl
 (fun _ => (x_sub [0, 1, 3, 4] rfl (hK56 x3 x4)))
 (fun _ => (x_iload_n g 3 dX6_readNumber_22 rfl rfl
 (x_iload_n g 1 dX6_readNumber_23 rfl rfl
 (x_isub g dX6_readNumber_24
 (x_iconst g dX6_readNumber_25 kI_4
 (x_jn (fun (J3 : Int32 → Option (Int32 × Mem)) => ∀ (v2 : Int32), X J (fun q : Int32 × Mem => (some (Value.int q.1), q.2)) (J3 v2) 48 [(0, .ref t), (1, .int x1), (2, .int x2), (3, .int x3)] [.int v2] M) (fun v2 => (x_istore (L' := [(4, .int v2), (0, .ref t), (1, .int x1), (2, .int x2), (3, .int x3)]) g dX6_readNumber_48 hn (Nat.le_of_ble_eq_true rfl) rfl
 (x_iinc (L' := [(3, .int (x3 + 1)), (4, .int v2), (0, .ref t), (1, .int x1), (2, .int x2)]) (v := (x3 + 1)) g 4 dX6_readNumber_50 rfl (by rw [kI_1]) hn (Nat.le_of_ble_eq_true rfl) rfl
 (x_goto g 5 dX6_readNumber_53 rfl
 (x_sub [2, 3, 4, 0, 1] rfl (ih (x3 + 1) v2)))))) (fun J3 hJ3 => (x_icmp_ge g 47 dX6_readNumber_26 rfl
 (fun _ => (x_iconst g dX6_readNumber_47 kI_0
 (x_sub [0, 1, 2, 3] rfl (hJ3 (0 : Int32)))))
 (fun _ => (x_iload g 4 dX6_readNumber_29 rfl
 (x_bipush g dX6_readNumber_31 kB_10
 (x_imul g dX6_readNumber_33
 (x_aload_n g 0 dX6_readNumber_34 rfl rfl
 (x_getS g 1 fl_RX6_9 rfl ht dX6_readNumber_35
 (x_iload_n g 3 dX6_readNumber_38 rfl rfl
 (x_bald g (so_6_0 ht) dX6_readNumber_39
 (x_bipush g dX6_readNumber_40 kB_48
 (x_isub g dX6_readNumber_42
 (x_iadd g dX6_readNumber_43
 (x_goto g 48 dX6_readNumber_44 rfl
 (x_sub [0, 1, 2, 3] rfl (hJ3 ((x4 * (10 : Int32)) + ((M.1 (t + 1) x3.toNatClampNeg) - (48 : Int32))))))))))))))))))))))))))))))))))))
def fX6_readNumber (φ : Nat) (t : Nat) (a1 : Int32) (a2 : Int32) (M : Mem) : Option (Int32 × Mem) :=
  lX6_readNumber_5 (fun (v4 : Int32) (v5 : Int32) => jn (fun (v6 : Int32) => bd (fX6_addToken t v6 a1 v5 (0 : Int64) M) fun vu8 M9 =>
 some (v4, M9)) (fun J7 => if (v4 - a1) ≤ (4 : Int32) then
 J7 (2 : Int32)
 else
 J7 (4 : Int32))) t a1 a2 M φ a1 (0 : Int32)
set_option maxRecDepth 100000 in
set_option maxHeartbeats 4000000 in
theorem kX6_readNumber (φ : Nat) (t : Nat) (a1 : Int32) (a2 : Int32) (M : Mem) (ht : isO 6 t) (l : Launch) (G : GT) {b : (Int32 × Mem)} (hE : fX6_readNumber φ t a1 a2 M = some b) : Ok l G yX6_readNumber cX6_readNumber 5 (some .int) 1 25 [.ref t, .int a1, .int a2] M ((fun q : Int32 × Mem => (some (Value.int q.1), q.2)) b).1 ((fun q : Int32 × Mem => (some (Value.int q.1), q.2)) b).2 := by
  refine Ok.ofX (pj := (fun q : Int32 × Mem => (some (Value.int q.1), q.2))) (by decide) (Nat.le_of_ble_eq_true rfl) hE (fun J g hr hG hl hR hn => ?_)
  show X J (fun q : Int32 × Mem => (some (Value.int q.1), q.2)) (fX6_readNumber φ t a1 a2 M) 0 [(0, .ref t), (1, .int a1), (2, .int a2)] [] M
  unfold fX6_readNumber
  exact (x_iload_n g 1 dX6_readNumber_0 rfl rfl
 (x_istore_n (L' := [(3, .int a1), (0, .ref t), (1, .int a1), (2, .int a2)]) g dX6_readNumber_1 rfl hn (Nat.le_of_ble_eq_true rfl) rfl
 (x_iconst g dX6_readNumber_2 kI_0
 (x_istore (L' := [(4, .int (0 : Int32)), (3, .int a1), (0, .ref t), (1, .int a1), (2, .int a2)]) g dX6_readNumber_3 hn (Nat.le_of_ble_eq_true rfl) rfl
 (x_sub [2, 3, 4, 1, 0] rfl (wlX6_readNumber_5 g hr hR hn _ t a1 a2 M ht
 (fun v4 v5 => by exact (x_aload_n g 0 dX6_readNumber_56 rfl rfl
 (x_iload_n g 2 dX6_readNumber_57 rfl rfl
 (x_iload_n g 1 dX6_readNumber_58 rfl rfl
 (x_isub g dX6_readNumber_59
 (x_iconst g dX6_readNumber_60 kI_4
 (x_jn (fun (J7 : Int32 → Option (Int32 × Mem)) => ∀ (v6 : Int32), X J (fun q : Int32 × Mem => (some (Value.int q.1), q.2)) (J7 v6) 69 [(1, .int a1), (3, .int v4), (4, .int v5)] [.int v6, .ref t] M) (fun v6 => (x_iload_n g 0 dX6_readNumber_69 rfl rfl
 (x_iload g 2 dX6_readNumber_70 rfl
 (x_lconst g dX6_readNumber_72 kL_0
 (x_callVv (As := [.int v6, .int a1, .int v5, .long (0 : Int64)]) g mv_X6_addToken mi_X6_addToken lk_RX6_57 ht (fun b Mh_ hb => kX6_addToken t v6 a1 v5 (0 : Int64) M ht _ _ hb) rfl rfl hR ⟨Nat.le_of_ble_eq_true rfl, Nat.le_of_ble_eq_true rfl⟩ (Nat.le_of_ble_eq_true rfl) dX6_readNumber_73 (fun vu8 M9 =>
 (x_iload_n g 1 dX6_readNumber_76 rfl rfl
 (x_iret g hr rfl rfl dX6_readNumber_77)))))))) (fun J7 hJ7 => (x_icmp_le g 68 dX6_readNumber_61 rfl
 (fun _ => (x_iconst g dX6_readNumber_68 kI_2
 (x_sub [1, 2, 3] rfl (hJ7 (2 : Int32)))))
 (fun _ => (x_iconst g dX6_readNumber_64 kI_4
 (x_goto g 69 dX6_readNumber_65 rfl
 (x_sub [1, 2, 3] rfl (hJ7 (4 : Int32))))))))))))))) φ a1 (0 : Int32)))))))
def fX6_readToken (φ : Nat) (t : Nat) (a1 : Int32) (a2 : Int32) (M : Mem) : Option (Int32 × Mem) :=
  ixk a1 900 (
 nm (M.1 (t + 1) a1.toNatClampNeg) (fun v1 =>
 (fX6_isLetter v1 M).bind fun v2 =>
 if v2 = 0 then
 (fX6_isDigit v1 M).bind fun v3 =>
 if v3 = 0 then
 jn (fun (v4 : Int32) => jn (fun (v6 : Int32) => bd (fX6_addToken t v6 a1 v1 (0 : Int64) M) fun vu8 M9 =>
 some ((a1 + (1 : Int32)), M9)) (fun J7 => if v4 = 0 then
 J7 (4 : Int32)
 else
 J7 (3 : Int32))) (fun J5 => jn (J5 (1 : Int32)) (fun J10 => if v1 = (59 : Int32) then
 J10
 else
 if v1 = (60 : Int32) then
 J10
 else
 if v1 = (62 : Int32) then
 J10
 else
 if v1 = (61 : Int32) then
 J10
 else
 J5 (0 : Int32)))
 else
 bd (fX6_readNumber φ t a1 a2 M) fun v11 M12 =>
 some (v11, M12)
 else
 bd (fX6_readWord φ t a1 a2 M) fun v13 M14 =>
 some (v13, M14)))
set_option maxRecDepth 100000 in
set_option maxHeartbeats 4000000 in
theorem kX6_readToken (φ : Nat) (t : Nat) (a1 : Int32) (a2 : Int32) (M : Mem) (ht : isO 6 t) (l : Launch) (G : GT) {b : (Int32 × Mem)} (hE : fX6_readToken φ t a1 a2 M = some b) : Ok l G yX6_readToken cX6_readToken 5 (some .int) 7 195 [.ref t, .int a1, .int a2] M ((fun q : Int32 × Mem => (some (Value.int q.1), q.2)) b).1 ((fun q : Int32 × Mem => (some (Value.int q.1), q.2)) b).2 := by
  refine Ok.ofX (pj := (fun q : Int32 × Mem => (some (Value.int q.1), q.2))) (by decide) (Nat.le_of_ble_eq_true rfl) hE (fun J g hr hG hl hR hn => ?_)
  show X J (fun q : Int32 × Mem => (some (Value.int q.1), q.2)) (fX6_readToken φ t a1 a2 M) 0 [(0, .ref t), (1, .int a1), (2, .int a2)] [] M
  unfold fX6_readToken
  exact (x_aload_n g 0 dX6_readToken_0 rfl rfl
 (x_getS g 1 fl_RX6_9 rfl ht dX6_readToken_1
 (x_iload_n g 1 dX6_readToken_4 rfl rfl
 (x_bald g (so_6_0 ht) dX6_readToken_5
 (x_nmI (fun v1 => (x_istore_n (L' := [(3, .int v1), (0, .ref t), (1, .int a1), (2, .int a2)]) g dX6_readToken_6 rfl hn (Nat.le_of_ble_eq_true rfl) rfl
 (x_iload_n g 0 dX6_readToken_7 rfl rfl
 (x_callSip (As := [.int v1]) g mv_X6_isLetter ms_X6_isLetter lk_RX6_61 (fun b hb => kX6_isLetter v1 M _ _ hb) rfl rfl hR ⟨Nat.le_of_ble_eq_true rfl, Nat.le_of_ble_eq_true rfl⟩ (Nat.le_of_ble_eq_true rfl) dX6_readToken_8 (fun v2 =>
 (x_if_eq g 21 dX6_readToken_11 rfl
 (fun _ => (x_iload_n g 0 dX6_readToken_21 rfl rfl
 (x_callSip (As := [.int v1]) g mv_X6_isDigit ms_X6_isDigit lk_RX6_67 (fun b hb => kX6_isDigit v1 M _ _ hb) rfl rfl hR ⟨Nat.le_of_ble_eq_true rfl, Nat.le_of_ble_eq_true rfl⟩ (Nat.le_of_ble_eq_true rfl) dX6_readToken_22 (fun v3 =>
 (x_if_eq g 35 dX6_readToken_25 rfl
 (fun _ => (x_iload_n g 0 dX6_readToken_35 rfl rfl
 (x_bipush g dX6_readToken_36 kB_59
 (x_jn (fun (J5 : Int32 → Option (Int32 × Mem)) => ∀ (v4 : Int32), X J (fun q : Int32 × Mem => (some (Value.int q.1), q.2)) (J5 v4) 64 [(0, .ref t), (1, .int a1), (3, .int v1)] [.int v4] M) (fun v4 => (x_istore (L' := [(4, .int v4), (0, .ref t), (1, .int a1), (3, .int v1)]) g dX6_readToken_64 hn (Nat.le_of_ble_eq_true rfl) rfl
 (x_aload_n g 1 dX6_readToken_66 rfl rfl
 (x_iload g 0 dX6_readToken_67 rfl
 (x_jn (fun (J7 : Int32 → Option (Int32 × Mem)) => ∀ (v6 : Int32), X J (fun q : Int32 × Mem => (some (Value.int q.1), q.2)) (J7 v6) 77 [(1, .int a1), (3, .int v1)] [.int v6, .ref t] M) (fun v6 => (x_iload_n g 0 dX6_readToken_77 rfl rfl
 (x_iload_n g 1 dX6_readToken_78 rfl rfl
 (x_lconst g dX6_readToken_79 kL_0
 (x_callVv (As := [.int v6, .int a1, .int v1, .long (0 : Int64)]) g mv_X6_addToken mi_X6_addToken lk_RX6_57 ht (fun b Mh_ hb => kX6_addToken t v6 a1 v1 (0 : Int64) M ht _ _ hb) rfl rfl hR ⟨Nat.le_of_ble_eq_true rfl, Nat.le_of_ble_eq_true rfl⟩ (Nat.le_of_ble_eq_true rfl) dX6_readToken_80 (fun vu8 M9 =>
 (x_iload_n g 0 dX6_readToken_83 rfl rfl
 (x_iconst g dX6_readToken_84 kI_1
 (x_iadd g dX6_readToken_85
 (x_iret g hr rfl rfl dX6_readToken_86)))))))))) (fun J7 hJ7 => (x_if_eq g 76 dX6_readToken_69 rfl
 (fun _ => (x_iconst g dX6_readToken_76 kI_4
 (x_sub [2, 3] rfl (hJ7 (4 : Int32)))))
 (fun _ => (x_iconst g dX6_readToken_72 kI_3
 (x_goto g 77 dX6_readToken_73 rfl
 (x_sub [2, 3] rfl (hJ7 (3 : Int32))))))))))))) (fun J5 hJ5 => (x_jn (fun (J10 : Option (Int32 × Mem)) => X J (fun q : Int32 × Mem => (some (Value.int q.1), q.2)) J10 59 [(0, .ref t), (1, .int a1), (3, .int v1)] [] M) (x_iconst g dX6_readToken_59 kI_1
 (x_goto g 64 dX6_readToken_60 rfl
 (hJ5 (1 : Int32)))) (fun J10 hJ10 => (x_icmp_eq g 59 dX6_readToken_38 rfl
 (fun _ => (x_sub [1, 2, 0] rfl (hJ10)))
 (fun _ => (x_iload_n g 0 dX6_readToken_41 rfl rfl
 (x_bipush g dX6_readToken_42 kB_60
 (x_icmp_eq g 59 dX6_readToken_44 rfl
 (fun _ => (x_sub [1, 2, 0] rfl (hJ10)))
 (fun _ => (x_iload_n g 0 dX6_readToken_47 rfl rfl
 (x_bipush g dX6_readToken_48 kB_62
 (x_icmp_eq g 59 dX6_readToken_50 rfl
 (fun _ => (x_sub [1, 2, 0] rfl (hJ10)))
 (fun _ => (x_iload_n g 0 dX6_readToken_53 rfl rfl
 (x_bipush g dX6_readToken_54 kB_61
 (x_icmp_ne g 63 dX6_readToken_56 rfl
 (fun _ => (x_iconst g dX6_readToken_63 kI_0
 (x_sub [1, 2, 0] rfl (hJ5 (0 : Int32)))))
 (fun _ => (x_sub [1, 2, 0] rfl (hJ10)))))))))))))))))))))))
 (fun _ => (x_aload_n g 1 dX6_readToken_28 rfl rfl
 (x_iload_n g 2 dX6_readToken_29 rfl rfl
 (x_iload_n g 3 dX6_readToken_30 rfl rfl
 (x_callVi (As := [.int a1, .int a2]) g mv_X6_readNumber mi_X6_readNumber lk_RX6_70 ht (fun b Mh_ hb => kX6_readNumber φ t a1 a2 M ht _ _ hb) rfl rfl hR ⟨Nat.le_of_ble_eq_true rfl, Nat.le_of_ble_eq_true rfl⟩ (Nat.le_of_ble_eq_true rfl) dX6_readToken_31 (fun v11 M12 =>
 (x_iret g hr rfl rfl dX6_readToken_34))))))))))))
 (fun _ => (x_aload_n g 1 dX6_readToken_14 rfl rfl
 (x_iload_n g 2 dX6_readToken_15 rfl rfl
 (x_iload_n g 3 dX6_readToken_16 rfl rfl
 (x_callVi (As := [.int a1, .int a2]) g mv_X6_readWord mi_X6_readWord lk_RX6_64 ht (fun b Mh_ hb => kX6_readWord φ t a1 a2 M ht _ _ hb) rfl rfl hR ⟨Nat.le_of_ble_eq_true rfl, Nat.le_of_ble_eq_true rfl⟩ (Nat.le_of_ble_eq_true rfl) dX6_readToken_17 (fun v13 M14 =>
 (x_iret g hr rfl rfl dX6_readToken_20))))))))))))))))))
def lX6_begin_29 (K72 : Mem → Option (Unit × Mem)) (φ : Nat) (t : Nat) (x1 : Int32) : Nat → Int32 → Int32 → Mem → Option (Unit × Mem)
  | 0, _, _, _ => none
  | n + 1, x2, x3, M =>
    if (900 : Int32) ≤ x3 then
 K72 M
 else
 if x1 ≤ x2 then
 K72 M
 else
 ixk x2 900 (
 (fX6_isBlank (M.1 (t + 1) x2.toNatClampNeg) M).bind fun v6 =>
 jn (fun (v7 : Int32) (M8 : Mem) => lX6_begin_29 K72 φ t x1 n v7 (x3 + 1) M8) (fun J9 => if v6 = 0 then
 bd (fX6_readToken φ t x2 x1 M) fun v10 M11 =>
 J9 v10 M11
 else
 J9 (x2 + (1 : Int32)) M))
theorem lX6_begin_29_s (K72 : Mem → Option (Unit × Mem)) (φ : Nat) (t : Nat) (x1 : Int32) (n : Nat) (x2 : Int32) (x3 : Int32) (M : Mem) : lX6_begin_29 K72 φ t x1 (n + 1) x2 x3 M =
    if (900 : Int32) ≤ x3 then
 K72 M
 else
 if x1 ≤ x2 then
 K72 M
 else
 ixk x2 900 (
 (fX6_isBlank (M.1 (t + 1) x2.toNatClampNeg) M).bind fun v6 =>
 jn (fun (v7 : Int32) (M8 : Mem) => lX6_begin_29 K72 φ t x1 n v7 (x3 + 1) M8) (fun J9 => if v6 = 0 then
 bd (fX6_readToken φ t x2 x1 M) fun v10 M11 =>
 J9 v10 M11
 else
 J9 (x2 + (1 : Int32)) M)) := rfl
theorem lX6_begin_29_0 (K72 : Mem → Option (Unit × Mem)) (φ : Nat) (t : Nat) (x1 : Int32) (x2 : Int32) (x3 : Int32) (M : Mem) : lX6_begin_29 K72 φ t x1 0 x2 x3 M = none := rfl
set_option maxRecDepth 100000 in
set_option maxHeartbeats 4000000 in
theorem wlX6_begin_29 {J : JT} (g : Gd J cX6_begin RX6) (hr : Rt J none) (hR : (JR J).frames = 8 ∧ (JR J).locals = 219) (hn : Jn J = 4) (K72 : Mem → Option (Unit × Mem)) (φ : Nat) (t : Nat) (x1 : Int32) (ht : isO 6 t) (hK72 : ∀ (M : Mem), X J (fun q : Unit × Mem => ((none : Option Value), q.2)) (K72 M) 72 [(0, .ref t), (1, .int x1)] [] M) : ∀ (n : Nat) (x2 : Int32) (x3 : Int32) (M : Mem), X J (fun q : Unit × Mem => ((none : Option Value), q.2)) (lX6_begin_29 K72 φ t x1 n x2 x3 M) 29 [(0, .ref t), (1, .int x1), (2, .int x2), (3, .int x3)] [] M := by
  intro n
  induction n with
  | zero =>
    intro x2 x3 M
    exact x_none
  | succ n ih =>
    intro x2 x3 M
    rw [lX6_begin_29_s]
    exact (x_iload_n g 3 dX6_begin_29 rfl rfl
 (x_sipush g dX6_begin_30 kS_900
 (x_icmp_ge g 72 dX6_begin_33 rfl
 (fun _ => (x_sub [0, 1] rfl (hK72 M)))
 (fun _ => (x_iload_n g 2 dX6_begin_36 rfl rfl
 (x_iload_n g 1 dX6_begin_37 rfl rfl
 (x_icmp_ge g 72 dX6_begin_38 rfl
 (fun _ => (x_sub [0, 1] rfl (hK72 M)))
 (fun _ => (x_aload_n g 0 dX6_begin_41 rfl rfl
 (x_getS g 1 fl_RX6_9 rfl ht dX6_begin_42
 (x_iload_n g 2 dX6_begin_45 rfl rfl
 (x_bald g (so_6_0 ht) dX6_begin_46
 (x_callSip (As := [.int (M.1 (t + 1) x2.toNatClampNeg)]) g mv_X6_isBlank ms_X6_isBlank lk_RX6_49 (fun b hb => kX6_isBlank (M.1 (t + 1) x2.toNatClampNeg) M _ _ hb) rfl rfl hR ⟨Nat.le_of_ble_eq_true rfl, Nat.le_of_ble_eq_true rfl⟩ (Nat.le_of_ble_eq_true rfl) dX6_begin_47 (fun v6 =>
 (x_jn (fun (J9 : Int32 → Mem → Option (Unit × Mem)) => ∀ (v7 : Int32) (M8 : Mem), X J (fun q : Unit × Mem => ((none : Option Value), q.2)) (J9 v7 M8) 65 [(0, .ref t), (1, .int x1), (3, .int x3)] [.int v7] M8) (fun v7 M8 => (x_istore_n (L' := [(2, .int v7), (0, .ref t), (1, .int x1), (3, .int x3)]) g dX6_begin_65 rfl hn (Nat.le_of_ble_eq_true rfl) rfl
 (x_iinc (L' := [(3, .int (x3 + 1)), (2, .int v7), (0, .ref t), (1, .int x1)]) (v := (x3 + 1)) g 3 dX6_begin_66 rfl (by rw [kI_1]) hn (Nat.le_of_ble_eq_true rfl) rfl
 (x_goto g 29 dX6_begin_69 rfl
 (x_sub [2, 3, 1, 0] rfl (ih v7 (x3 + 1) M8)))))) (fun J9 hJ9 => (x_if_eq g 59 dX6_begin_50 rfl
 (fun _ => (x_aload_n g 0 dX6_begin_59 rfl rfl
 (x_iload_n g 2 dX6_begin_60 rfl rfl
 (x_iload_n g 1 dX6_begin_61 rfl rfl
 (x_callVi (As := [.int x2, .int x1]) g mv_X6_readToken mi_X6_readToken lk_RX6_53 ht (fun b Mh_ hb => kX6_readToken φ t x2 x1 M ht _ _ hb) rfl rfl hR ⟨Nat.le_of_ble_eq_true rfl, Nat.le_of_ble_eq_true rfl⟩ (Nat.le_of_ble_eq_true rfl) dX6_begin_62 (fun v10 M11 =>
 (x_sub [0, 1, 3] rfl (hJ9 v10 M11))))))))
 (fun _ => (x_iload_n g 2 dX6_begin_53 rfl rfl
 (x_iconst g dX6_begin_54 kI_1
 (x_iadd g dX6_begin_55
 (x_goto g 65 dX6_begin_56 rfl
 (x_sub [0, 1, 3] rfl (hJ9 (x2 + (1 : Int32)) M))))))))))))))))))))))))
def fX6_begin (φ : Nat) (t : Nat) (a1 : Int32) (M : Mem) : Option (Unit × Mem) :=
  nm (stI M t 6 (0 : Int32)) (fun M1 =>
 nm (stI M1 t 7 (0 : Int32)) (fun M2 =>
 nm (stI M2 t 8 (1 : Int32)) (fun M3 =>
 nm (stI M3 t 9 (0 : Int32)) (fun M4 =>
 nm (stI M4 t 10 (-1 : Int32)) (fun M5 =>
 lX6_begin_29 (fun (M12 : Mem) => bd (fX6_addToken t (0 : Int32) a1 (0 : Int32) (0 : Int64) M12) fun vu13 M14 =>
 nm (stI M14 t 1 (0 : Int32)) (fun M15 =>
 some ((), M15))) φ t a1 φ (0 : Int32) (0 : Int32) M5)))))
set_option maxRecDepth 100000 in
set_option maxHeartbeats 4000000 in
theorem kX6_begin (φ : Nat) (t : Nat) (a1 : Int32) (M : Mem) (ht : isO 6 t) (l : Launch) (G : GT) {b : (Unit × Mem)} (hE : fX6_begin φ t a1 M = some b) : Ok l G yX6_begin cX6_begin 4 none 8 219 [.ref t, .int a1] M ((fun q : Unit × Mem => ((none : Option Value), q.2)) b).1 ((fun q : Unit × Mem => ((none : Option Value), q.2)) b).2 := by
  refine Ok.ofX (pj := (fun q : Unit × Mem => ((none : Option Value), q.2))) (by decide) (Nat.le_of_ble_eq_true rfl) hE (fun J g hr hG hl hR hn => ?_)
  show X J (fun q : Unit × Mem => ((none : Option Value), q.2)) (fX6_begin φ t a1 M) 0 [(0, .ref t), (1, .int a1)] [] M
  unfold fX6_begin
  exact (x_aload_n g 0 dX6_begin_0 rfl rfl
 (x_iconst g dX6_begin_1 kI_0
 (x_putI g fp_RX6_33 rfl (Nat.le_of_ble_eq_true rfl) ht dX6_begin_2 (x_nmM (fun M1 =>
 (x_aload_n g 0 dX6_begin_5 rfl rfl
 (x_iconst g dX6_begin_6 kI_0
 (x_putI g fp_RX6_36 rfl (Nat.le_of_ble_eq_true rfl) ht dX6_begin_7 (x_nmM (fun M2 =>
 (x_aload_n g 0 dX6_begin_10 rfl rfl
 (x_iconst g dX6_begin_11 kI_1
 (x_putZ g fp_RX6_39 rfl (Nat.le_of_ble_eq_true rfl) ht (Or.inr rfl) dX6_begin_12 (x_nmM (fun M3 =>
 (x_aload_n g 0 dX6_begin_15 rfl rfl
 (x_iconst g dX6_begin_16 kI_0
 (x_putI g fp_RX6_43 rfl (Nat.le_of_ble_eq_true rfl) ht dX6_begin_17 (x_nmM (fun M4 =>
 (x_aload_n g 0 dX6_begin_20 rfl rfl
 (x_iconst g dX6_begin_21 kI_m1
 (x_putI g fp_RX6_46 rfl (Nat.le_of_ble_eq_true rfl) ht dX6_begin_22 (x_nmM (fun M5 =>
 (x_iconst g dX6_begin_25 kI_0
 (x_istore_n (L' := [(2, .int (0 : Int32)), (0, .ref t), (1, .int a1)]) g dX6_begin_26 rfl hn (Nat.le_of_ble_eq_true rfl) rfl
 (x_iconst g dX6_begin_27 kI_0
 (x_istore_n (L' := [(3, .int (0 : Int32)), (2, .int (0 : Int32)), (0, .ref t), (1, .int a1)]) g dX6_begin_28 rfl hn (Nat.le_of_ble_eq_true rfl) rfl
 (x_sub [2, 3, 1, 0] rfl (wlX6_begin_29 g hr hR hn _ φ t a1 ht
 (fun M12 => by exact (x_aload_n g 0 dX6_begin_72 rfl rfl
 (x_iconst g dX6_begin_73 kI_0
 (x_iload_n g 1 dX6_begin_74 rfl rfl
 (x_iconst g dX6_begin_75 kI_0
 (x_lconst g dX6_begin_76 kL_0
 (x_callVv (As := [.int (0 : Int32), .int a1, .int (0 : Int32), .long (0 : Int64)]) g mv_X6_addToken mi_X6_addToken lk_RX6_57 ht (fun b Mh_ hb => kX6_addToken t (0 : Int32) a1 (0 : Int32) (0 : Int64) M12 ht _ _ hb) rfl rfl hR ⟨Nat.le_of_ble_eq_true rfl, Nat.le_of_ble_eq_true rfl⟩ (Nat.le_of_ble_eq_true rfl) dX6_begin_77 (fun vu13 M14 =>
 (x_aload_n g 0 dX6_begin_80 rfl rfl
 (x_iconst g dX6_begin_81 kI_0
 (x_putI g fp_RX6_15 rfl (Nat.le_of_ble_eq_true rfl) ht dX6_begin_82 (x_nmM (fun M15 =>
 (x_vret g hr rfl dX6_begin_85)))))))))))))) φ (0 : Int32) (0 : Int32) M5)))))))))))))))))))))))))))))))
def fX2_clear (t : Nat) (M : Mem) : Option (Unit × Mem) :=
  nm (stI M t 0 (0 : Int32)) (fun M1 =>
 nm (stI M1 t 4 (0 : Int32)) (fun M2 =>
 nm (stI M2 t 11 (0 : Int32)) (fun M3 =>
 nm (stI M3 t 13 (0 : Int32)) (fun M4 =>
 some ((), M4)))))
set_option maxRecDepth 100000 in
set_option maxHeartbeats 4000000 in
theorem kX2_clear (t : Nat) (M : Mem) (ht : isO 2 t) (l : Launch) (G : GT) {b : (Unit × Mem)} (hE : fX2_clear t M = some b) : Ok l G yX2_clear cX2_clear 1 none 0 0 [.ref t] M ((fun q : Unit × Mem => ((none : Option Value), q.2)) b).1 ((fun q : Unit × Mem => ((none : Option Value), q.2)) b).2 := by
  refine Ok.ofX (pj := (fun q : Unit × Mem => ((none : Option Value), q.2))) (by decide) (Nat.le_of_ble_eq_true rfl) hE (fun J g hr hG hl hR hn => ?_)
  show X J (fun q : Unit × Mem => ((none : Option Value), q.2)) (fX2_clear t M) 0 [(0, .ref t)] [] M
  unfold fX2_clear
  exact (x_aload_n g 0 dX2_clear_0 rfl rfl
 (x_iconst g dX2_clear_1 kI_0
 (x_putI g fp_RX2_9 rfl (Nat.le_of_ble_eq_true rfl) ht dX2_clear_2 (x_nmM (fun M1 =>
 (x_aload_n g 0 dX2_clear_5 rfl rfl
 (x_iconst g dX2_clear_6 kI_0
 (x_putI g fp_RX2_26 rfl (Nat.le_of_ble_eq_true rfl) ht dX2_clear_7 (x_nmM (fun M2 =>
 (x_aload_n g 0 dX2_clear_10 rfl rfl
 (x_iconst g dX2_clear_11 kI_0
 (x_putI g fp_RX2_47 rfl (Nat.le_of_ble_eq_true rfl) ht dX2_clear_12 (x_nmM (fun M3 =>
 (x_aload_n g 0 dX2_clear_15 rfl rfl
 (x_iconst g dX2_clear_16 kI_0
 (x_putI g fp_RX2_53 rfl (Nat.le_of_ble_eq_true rfl) ht dX2_clear_17 (x_nmM (fun M4 =>
 (x_vret g hr rfl dX2_clear_20)))))))))))))))))))))
def fX6_isAtEnd (t : Nat) (M : Mem) : Option Int32 :=
  ixk (M.1 t 7) 901 (
 if (M.1 (t + 2) (M.1 t 7).toNatClampNeg) = 0 then
 some (1 : Int32)
 else
 some (0 : Int32))
set_option maxRecDepth 100000 in
set_option maxHeartbeats 4000000 in
theorem kX6_isAtEnd (t : Nat) (M : Mem) (ht : isO 6 t) (l : Launch) (G : GT) {b : Int32} (hE : fX6_isAtEnd t M = some b) : Ok l G yX6_isAtEnd cX6_isAtEnd 1 (some .boolean) 0 0 [.ref t] M ((fun b : Int32 => (some (Value.int b), M)) b).1 ((fun b : Int32 => (some (Value.int b), M)) b).2 := by
  refine Ok.ofX (pj := (fun b : Int32 => (some (Value.int b), M))) (by decide) (Nat.le_of_ble_eq_true rfl) hE (fun J g hr hG hl hR hn => ?_)
  show X J (fun b : Int32 => (some (Value.int b), M)) (fX6_isAtEnd t M) 0 [(0, .ref t)] [] M
  unfold fX6_isAtEnd
  exact (x_aload_n g 0 dX6_isAtEnd_0 rfl rfl
 (x_getS g 2 fl_RX6_19 rfl ht dX6_isAtEnd_1
 (x_aload_n g 0 dX6_isAtEnd_4 rfl rfl
 (x_getI g fl_RX6_36 rfl ht dX6_isAtEnd_5
 (x_iald g (so_6_2 ht) dX6_isAtEnd_8
 (x_if_ne g 16 dX6_isAtEnd_9 rfl
 (fun _ => (x_iconst g dX6_isAtEnd_16 kI_0
 (x_iret g hr rfl rfl dX6_isAtEnd_17)))
 (fun _ => (x_iconst g dX6_isAtEnd_12 kI_1
 (x_goto g 17 dX6_isAtEnd_13 rfl
 (x_iret g hr rfl rfl dX6_isAtEnd_17))))))))))
def fX6_word (t : Nat) (M : Mem) : Option Int32 :=
  ixk (M.1 t 7) 901 (
 if (M.1 (t + 2) (M.1 t 7).toNatClampNeg) = (1 : Int32) then
 ixk (M.1 t 7) 901 (
 some (M.1 (t + 4) (M.1 t 7).toNatClampNeg))
 else
 some (-1 : Int32))
set_option maxRecDepth 100000 in
set_option maxHeartbeats 4000000 in
theorem kX6_word (t : Nat) (M : Mem) (ht : isO 6 t) (l : Launch) (G : GT) {b : Int32} (hE : fX6_word t M = some b) : Ok l G yX6_word cX6_word 1 (some .int) 0 0 [.ref t] M ((fun b : Int32 => (some (Value.int b), M)) b).1 ((fun b : Int32 => (some (Value.int b), M)) b).2 := by
  refine Ok.ofX (pj := (fun b : Int32 => (some (Value.int b), M))) (by decide) (Nat.le_of_ble_eq_true rfl) hE (fun J g hr hG hl hR hn => ?_)
  show X J (fun b : Int32 => (some (Value.int b), M)) (fX6_word t M) 0 [(0, .ref t)] [] M
  unfold fX6_word
  exact (x_aload_n g 0 dX6_word_0 rfl rfl
 (x_getS g 2 fl_RX6_19 rfl ht dX6_word_1
 (x_aload_n g 0 dX6_word_4 rfl rfl
 (x_getI g fl_RX6_36 rfl ht dX6_word_5
 (x_iald g (so_6_2 ht) dX6_word_8
 (x_iconst g dX6_word_9 kI_1
 (x_icmp_ne g 25 dX6_word_10 rfl
 (fun _ => (x_iconst g dX6_word_25 kI_m1
 (x_iret g hr rfl rfl dX6_word_26)))
 (fun _ => (x_aload_n g 0 dX6_word_13 rfl rfl
 (x_getS g 4 fl_RX6_26 rfl ht dX6_word_14
 (x_aload_n g 0 dX6_word_17 rfl rfl
 (x_getI g fl_RX6_36 rfl ht dX6_word_18
 (x_iald g (so_6_4 ht) dX6_word_21
 (x_goto g 26 dX6_word_22 rfl
 (x_iret g hr rfl rfl dX6_word_26)))))))))))))))
def fX6_refuseToken (t : Nat) (a1 : Int32) (M : Mem) : Option (Int32 × Mem) :=
  ixk (M.1 t 7) 901 (
 jn (fun (v1 : Int32) => nm (stI M t 9 v1) (fun M3 =>
 ixk (M3.1 t 7) 901 (
 nm (stI M3 t 10 (M3.1 (t + 3) (M3.1 t 7).toNatClampNeg)) (fun M4 =>
 some ((0 : Int32), M4))))) (fun J2 => if (M.1 (t + 2) (M.1 t 7).toNatClampNeg) = (4 : Int32) then
 J2 (1 : Int32)
 else
 J2 a1))
set_option maxRecDepth 100000 in
set_option maxHeartbeats 4000000 in
theorem kX6_refuseToken (t : Nat) (a1 : Int32) (M : Mem) (ht : isO 6 t) (l : Launch) (G : GT) {b : (Int32 × Mem)} (hE : fX6_refuseToken t a1 M = some b) : Ok l G yX6_refuseToken cX6_refuseToken 2 (some .boolean) 0 0 [.ref t, .int a1] M ((fun q : Int32 × Mem => (some (Value.int q.1), q.2)) b).1 ((fun q : Int32 × Mem => (some (Value.int q.1), q.2)) b).2 := by
  refine Ok.ofX (pj := (fun q : Int32 × Mem => (some (Value.int q.1), q.2))) (by decide) (Nat.le_of_ble_eq_true rfl) hE (fun J g hr hG hl hR hn => ?_)
  show X J (fun q : Int32 × Mem => (some (Value.int q.1), q.2)) (fX6_refuseToken t a1 M) 0 [(0, .ref t), (1, .int a1)] [] M
  unfold fX6_refuseToken
  exact (x_aload_n g 0 dX6_refuseToken_0 rfl rfl
 (x_aload_n g 0 dX6_refuseToken_1 rfl rfl
 (x_getS g 2 fl_RX6_19 rfl ht dX6_refuseToken_2
 (x_aload_n g 0 dX6_refuseToken_5 rfl rfl
 (x_getI g fl_RX6_36 rfl ht dX6_refuseToken_6
 (x_iald g (so_6_2 ht) dX6_refuseToken_9
 (x_iconst g dX6_refuseToken_10 kI_4
 (x_jn (fun (J2 : Int32 → Option (Int32 × Mem)) => ∀ (v1 : Int32), X J (fun q : Int32 × Mem => (some (Value.int q.1), q.2)) (J2 v1) 19 [(0, .ref t)] [.int v1, .ref t] M) (fun v1 => (x_putI g fp_RX6_43 rfl (Nat.le_of_ble_eq_true rfl) ht dX6_refuseToken_19 (x_nmM (fun M3 =>
 (x_aload_n g 0 dX6_refuseToken_22 rfl rfl
 (x_aload_n g 0 dX6_refuseToken_23 rfl rfl
 (x_getS g 3 fl_RX6_23 rfl ht dX6_refuseToken_24
 (x_aload_n g 0 dX6_refuseToken_27 rfl rfl
 (x_getI g fl_RX6_36 rfl ht dX6_refuseToken_28
 (x_iald g (so_6_3 ht) dX6_refuseToken_31
 (x_putI g fp_RX6_46 rfl (Nat.le_of_ble_eq_true rfl) ht dX6_refuseToken_32 (x_nmM (fun M4 =>
 (x_iconst g dX6_refuseToken_35 kI_0
 (x_iret g hr rfl rfl dX6_refuseToken_36))))))))))))))) (fun J2 hJ2 => (x_icmp_ne g 18 dX6_refuseToken_11 rfl
 (fun _ => (x_iload_n g 1 dX6_refuseToken_18 rfl rfl
 (x_sub [0] rfl (hJ2 a1))))
 (fun _ => (x_iconst g dX6_refuseToken_14 kI_1
 (x_goto g 19 dX6_refuseToken_15 rfl
 (x_sub [0] rfl (hJ2 (1 : Int32))))))))))))))))
def fX6_goOn (t : Nat) (M : Mem) : Option (Unit × Mem) :=
  if ((M.1 t 6) - (1 : Int32)) ≤ (M.1 t 7) then
 some ((), M)
 else
 nm (stI M t 7 ((M.1 t 7) + (1 : Int32))) (fun M1 =>
 some ((), M1))
set_option maxRecDepth 100000 in
set_option maxHeartbeats 4000000 in
theorem kX6_goOn (t : Nat) (M : Mem) (ht : isO 6 t) (l : Launch) (G : GT) {b : (Unit × Mem)} (hE : fX6_goOn t M = some b) : Ok l G yX6_goOn cX6_goOn 1 none 0 0 [.ref t] M ((fun q : Unit × Mem => ((none : Option Value), q.2)) b).1 ((fun q : Unit × Mem => ((none : Option Value), q.2)) b).2 := by
  refine Ok.ofX (pj := (fun q : Unit × Mem => ((none : Option Value), q.2))) (by decide) (Nat.le_of_ble_eq_true rfl) hE (fun J g hr hG hl hR hn => ?_)
  show X J (fun q : Unit × Mem => ((none : Option Value), q.2)) (fX6_goOn t M) 0 [(0, .ref t)] [] M
  unfold fX6_goOn
  exact (x_aload_n g 0 dX6_goOn_0 rfl rfl
 (x_getI g fl_RX6_36 rfl ht dX6_goOn_1
 (x_aload_n g 0 dX6_goOn_4 rfl rfl
 (x_getI g fl_RX6_33 rfl ht dX6_goOn_5
 (x_iconst g dX6_goOn_8 kI_1
 (x_isub g dX6_goOn_9
 (x_icmp_ge g 23 dX6_goOn_10 rfl
 (fun _ => (x_vret g hr rfl dX6_goOn_23))
 (fun _ => (x_aload_n g 0 dX6_goOn_13 rfl rfl
 (x_dup g dX6_goOn_14 rfl
 (x_getI g fl_RX6_36 rfl ht dX6_goOn_15
 (x_iconst g dX6_goOn_18 kI_1
 (x_iadd g dX6_goOn_19
 (x_putI g fp_RX6_36 rfl (Nat.le_of_ble_eq_true rfl) ht dX6_goOn_20 (x_nmM (fun M1 =>
 (x_vret g hr rfl dX6_goOn_23)))))))))))))))))
def fX6_isName (t : Nat) (M : Mem) : Option Int32 :=
  ixk (M.1 t 7) 901 (
 if (M.1 (t + 2) (M.1 t 7).toNatClampNeg) = (1 : Int32) then
 ixk (M.1 t 7) 901 (
 if (M.1 (t + 4) (M.1 t 7).toNatClampNeg) = (-1 : Int32) then
 ixk (M.1 t 7) 901 (
 if (M.2.1 (t + 5) (M.1 t 7).toNatClampNeg) = (0 : Int64) then
 some (0 : Int32)
 else
 some (1 : Int32))
 else
 some (0 : Int32))
 else
 some (0 : Int32))
set_option maxRecDepth 100000 in
set_option maxHeartbeats 4000000 in
theorem kX6_isName (t : Nat) (M : Mem) (ht : isO 6 t) (l : Launch) (G : GT) {b : Int32} (hE : fX6_isName t M = some b) : Ok l G yX6_isName cX6_isName 1 (some .boolean) 0 0 [.ref t] M ((fun b : Int32 => (some (Value.int b), M)) b).1 ((fun b : Int32 => (some (Value.int b), M)) b).2 := by
  refine Ok.ofX (pj := (fun b : Int32 => (some (Value.int b), M))) (by decide) (Nat.le_of_ble_eq_true rfl) hE (fun J g hr hG hl hR hn => ?_)
  show X J (fun b : Int32 => (some (Value.int b), M)) (fX6_isName t M) 0 [(0, .ref t)] [] M
  unfold fX6_isName
  exact (x_aload_n g 0 dX6_isName_0 rfl rfl
 (x_getS g 2 fl_RX6_19 rfl ht dX6_isName_1
 (x_aload_n g 0 dX6_isName_4 rfl rfl
 (x_getI g fl_RX6_36 rfl ht dX6_isName_5
 (x_iald g (so_6_2 ht) dX6_isName_8
 (x_iconst g dX6_isName_9 kI_1
 (x_icmp_ne g 44 dX6_isName_10 rfl
 (fun _ => (x_iconst g dX6_isName_44 kI_0
 (x_iret g hr rfl rfl dX6_isName_45)))
 (fun _ => (x_aload_n g 0 dX6_isName_13 rfl rfl
 (x_getS g 4 fl_RX6_26 rfl ht dX6_isName_14
 (x_aload_n g 0 dX6_isName_17 rfl rfl
 (x_getI g fl_RX6_36 rfl ht dX6_isName_18
 (x_iald g (so_6_4 ht) dX6_isName_21
 (x_iconst g dX6_isName_22 kI_m1
 (x_icmp_ne g 44 dX6_isName_23 rfl
 (fun _ => (x_iconst g dX6_isName_44 kI_0
 (x_iret g hr rfl rfl dX6_isName_45)))
 (fun _ => (x_aload_n g 0 dX6_isName_26 rfl rfl
 (x_getS g 5 fl_RX6_29 rfl ht dX6_isName_27
 (x_aload_n g 0 dX6_isName_30 rfl rfl
 (x_getI g fl_RX6_36 rfl ht dX6_isName_31
 (x_lald g (so_6_5 ht) dX6_isName_34
 (x_lconst g dX6_isName_35 kL_0
 (x_l_eq g 44 dX6_isName_36 dX6_isName_37 rfl
 (fun _ => (x_iconst g dX6_isName_44 kI_0
 (x_iret g hr rfl rfl dX6_isName_45)))
 (fun _ => (x_iconst g dX6_isName_40 kI_1
 (x_goto g 45 dX6_isName_41 rfl
 (x_iret g hr rfl rfl dX6_isName_45)))))))))))))))))))))))))))
def fX6_name (t : Nat) (M : Mem) : Option Int64 :=
  ixk (M.1 t 7) 901 (
 some (M.2.1 (t + 5) (M.1 t 7).toNatClampNeg))
set_option maxRecDepth 100000 in
set_option maxHeartbeats 4000000 in
theorem kX6_name (t : Nat) (M : Mem) (ht : isO 6 t) (l : Launch) (G : GT) {b : Int64} (hE : fX6_name t M = some b) : Ok l G yX6_name cX6_name 1 (some .long) 0 0 [.ref t] M ((fun b : Int64 => (some (Value.long b), M)) b).1 ((fun b : Int64 => (some (Value.long b), M)) b).2 := by
  refine Ok.ofX (pj := (fun b : Int64 => (some (Value.long b), M))) (by decide) (Nat.le_of_ble_eq_true rfl) hE (fun J g hr hG hl hR hn => ?_)
  show X J (fun b : Int64 => (some (Value.long b), M)) (fX6_name t M) 0 [(0, .ref t)] [] M
  unfold fX6_name
  exact (x_aload_n g 0 dX6_name_0 rfl rfl
 (x_getS g 5 fl_RX6_29 rfl ht dX6_name_1
 (x_aload_n g 0 dX6_name_4 rfl rfl
 (x_getI g fl_RX6_36 rfl ht dX6_name_5
 (x_lald g (so_6_5 ht) dX6_name_8
 (x_lret g hr rfl dX6_name_9))))))
def lX2_placeOf_3 (nxr2 : Nat) (xz0 : Int64) (xr2 : Nat) (x3 : Int32) (M : Mem) : Nat → Int32 → Option Int32
  | 0, _ => none
  | n + 1, x4 =>
    if x3 ≤ x4 then
 some (-1 : Int32)
 else
 ixk x4 nxr2 (
 if (M.2.1 xr2 x4.toNatClampNeg) = xz0 then
 some x4
 else
 lX2_placeOf_3 nxr2 xz0 xr2 x3 M n (x4 + 1))
theorem lX2_placeOf_3_s (nxr2 : Nat) (xz0 : Int64) (xr2 : Nat) (x3 : Int32) (M : Mem) (n : Nat) (x4 : Int32) : lX2_placeOf_3 nxr2 xz0 xr2 x3 M (n + 1) x4 =
    if x3 ≤ x4 then
 some (-1 : Int32)
 else
 ixk x4 nxr2 (
 if (M.2.1 xr2 x4.toNatClampNeg) = xz0 then
 some x4
 else
 lX2_placeOf_3 nxr2 xz0 xr2 x3 M n (x4 + 1)) := rfl
theorem lX2_placeOf_3_0 (nxr2 : Nat) (xz0 : Int64) (xr2 : Nat) (x3 : Int32) (M : Mem) (x4 : Int32) : lX2_placeOf_3 nxr2 xz0 xr2 x3 M 0 x4 = none := rfl
set_option maxRecDepth 100000 in
set_option maxHeartbeats 4000000 in
theorem wlX2_placeOf_3 {J : JT} (g : Gd J cX2_placeOf RX2) (hr : Rt J (some .int)) (hR : (JR J).frames = 0 ∧ (JR J).locals = 0) (hn : Jn J = 5) (nxr2 : Nat) (xz0 : Int64) (xr2 : Nat) (x3 : Int32) (M : Mem) (hxr2 : isA .long nxr2 xr2) : ∀ (n : Nat) (x4 : Int32), X J (fun b : Int32 => (some (Value.int b), M)) (lX2_placeOf_3 nxr2 xz0 xr2 x3 M n x4) 3 [(0, .long xz0), (2, .ref xr2), (3, .int x3), (4, .int x4)] [] M := by
  intro n
  induction n with
  | zero =>
    intro x4
    exact x_none
  | succ n ih =>
    intro x4
    rw [lX2_placeOf_3_s]
    exact (x_iload g 3 dX2_placeOf_3 rfl
 (x_iload_n g 2 dX2_placeOf_5 rfl rfl
 (x_icmp_ge g 27 dX2_placeOf_6 rfl
 (fun _ => (x_iconst g dX2_placeOf_27 kI_m1
 (x_iret g hr rfl rfl dX2_placeOf_28)))
 (fun _ => (x_aload_n g 1 dX2_placeOf_9 rfl rfl
 (x_iload g 3 dX2_placeOf_10 rfl
 (x_lald g hxr2 dX2_placeOf_12
 (x_lload_n g 0 dX2_placeOf_13 rfl rfl
 (x_l_ne g 21 dX2_placeOf_14 dX2_placeOf_15 rfl
 (fun _ => (x_iinc (L' := [(4, .int (x4 + 1)), (0, .long xz0), (2, .ref xr2), (3, .int x3)]) (v := (x4 + 1)) g 3 dX2_placeOf_21 rfl (by rw [kI_1]) hn (Nat.le_of_ble_eq_true rfl) rfl
 (x_goto g 3 dX2_placeOf_24 rfl
 (x_sub [1, 2, 3, 0] rfl (ih (x4 + 1))))))
 (fun _ => (x_iload g 3 dX2_placeOf_18 rfl
 (x_iret g hr rfl rfl dX2_placeOf_20))))))))))))
def fX2_placeOf (φ : Nat) (n2 : Nat) (a1 : Int64) (a2 : Nat) (a3 : Int32) (M : Mem) : Option Int32 :=
  lX2_placeOf_3 n2 a1 a2 a3 M φ (0 : Int32)
set_option maxRecDepth 100000 in
set_option maxHeartbeats 4000000 in
theorem kX2_placeOf (φ : Nat) (n2 : Nat) (a1 : Int64) (a2 : Nat) (a3 : Int32) (M : Mem) (ha2 : isA .long n2 a2) (l : Launch) (G : GT) {b : Int32} (hE : fX2_placeOf φ n2 a1 a2 a3 M = some b) : Ok l G yX2_placeOf cX2_placeOf 5 (some .int) 0 0 [.long a1, .ref a2, .int a3] M ((fun b : Int32 => (some (Value.int b), M)) b).1 ((fun b : Int32 => (some (Value.int b), M)) b).2 := by
  refine Ok.ofX (pj := (fun b : Int32 => (some (Value.int b), M))) (by decide) (Nat.le_of_ble_eq_true rfl) hE (fun J g hr hG hl hR hn => ?_)
  show X J (fun b : Int32 => (some (Value.int b), M)) (fX2_placeOf φ n2 a1 a2 a3 M) 0 [(0, .long a1), (2, .ref a2), (3, .int a3)] [] M
  unfold fX2_placeOf
  exact (x_iconst g dX2_placeOf_0 kI_0
 (x_istore (L' := [(4, .int (0 : Int32)), (0, .long a1), (2, .ref a2), (3, .int a3)]) g dX2_placeOf_1 hn (Nat.le_of_ble_eq_true rfl) rfl
 (x_sub [1, 2, 3, 0] rfl (wlX2_placeOf_3 g hr hR hn  n2 a1 a2 a3 M ha2 φ (0 : Int32)))))
def fX2_rockNamed (φ : Nat) (t : Nat) (a1 : Int64) (M : Mem) : Option Int32 :=
  (fX2_placeOf φ 8 a1 (t + 1) (M.1 t 0) M).bind fun v1 =>
 some v1
set_option maxRecDepth 100000 in
set_option maxHeartbeats 4000000 in
theorem kX2_rockNamed (φ : Nat) (t : Nat) (a1 : Int64) (M : Mem) (ht : isO 2 t) (l : Launch) (G : GT) {b : Int32} (hE : fX2_rockNamed φ t a1 M = some b) : Ok l G yX2_rockNamed cX2_rockNamed 3 (some .int) 1 24 [.ref t, .long a1] M ((fun b : Int32 => (some (Value.int b), M)) b).1 ((fun b : Int32 => (some (Value.int b), M)) b).2 := by
  refine Ok.ofX (pj := (fun b : Int32 => (some (Value.int b), M))) (by decide) (Nat.le_of_ble_eq_true rfl) hE (fun J g hr hG hl hR hn => ?_)
  show X J (fun b : Int32 => (some (Value.int b), M)) (fX2_rockNamed φ t a1 M) 0 [(0, .ref t), (1, .long a1)] [] M
  unfold fX2_rockNamed
  exact (x_lload_n g 1 dX2_rockNamed_0 rfl rfl
 (x_aload_n g 0 dX2_rockNamed_1 rfl rfl
 (x_getS g 1 fl_RX2_15 rfl ht dX2_rockNamed_2
 (x_aload_n g 0 dX2_rockNamed_5 rfl rfl
 (x_getI g fl_RX2_9 rfl ht dX2_rockNamed_6
 (x_callSip (As := [.long a1, .ref (t + 1), .int (M.1 t 0)]) g mv_X2_placeOf ms_X2_placeOf lk_RX2_75 (fun b hb => kX2_placeOf φ 8 a1 (t + 1) (M.1 t 0) M (so_2_1 ht) _ _ hb) rfl rfl hR ⟨Nat.le_of_ble_eq_true rfl, Nat.le_of_ble_eq_true rfl⟩ (Nat.le_of_ble_eq_true rfl) dX2_rockNamed_9 (fun v1 =>
 (x_iret g hr rfl rfl dX2_rockNamed_12))))))))
def fX2_holeNamed (φ : Nat) (t : Nat) (a1 : Int64) (M : Mem) : Option Int32 :=
  (fX2_placeOf φ 6 a1 (t + 4) (M.1 t 4) M).bind fun v1 =>
 some v1
set_option maxRecDepth 100000 in
set_option maxHeartbeats 4000000 in
theorem kX2_holeNamed (φ : Nat) (t : Nat) (a1 : Int64) (M : Mem) (ht : isO 2 t) (l : Launch) (G : GT) {b : Int32} (hE : fX2_holeNamed φ t a1 M = some b) : Ok l G yX2_holeNamed cX2_holeNamed 3 (some .int) 1 24 [.ref t, .long a1] M ((fun b : Int32 => (some (Value.int b), M)) b).1 ((fun b : Int32 => (some (Value.int b), M)) b).2 := by
  refine Ok.ofX (pj := (fun b : Int32 => (some (Value.int b), M))) (by decide) (Nat.le_of_ble_eq_true rfl) hE (fun J g hr hG hl hR hn => ?_)
  show X J (fun b : Int32 => (some (Value.int b), M)) (fX2_holeNamed φ t a1 M) 0 [(0, .ref t), (1, .long a1)] [] M
  unfold fX2_holeNamed
  exact (x_lload_n g 1 dX2_holeNamed_0 rfl rfl
 (x_aload_n g 0 dX2_holeNamed_1 rfl rfl
 (x_getS g 4 fl_RX2_29 rfl ht dX2_holeNamed_2
 (x_aload_n g 0 dX2_holeNamed_5 rfl rfl
 (x_getI g fl_RX2_26 rfl ht dX2_holeNamed_6
 (x_callSip (As := [.long a1, .ref (t + 4), .int (M.1 t 4)]) g mv_X2_placeOf ms_X2_placeOf lk_RX2_75 (fun b hb => kX2_placeOf φ 6 a1 (t + 4) (M.1 t 4) M (so_2_5 ht) _ _ hb) rfl rfl hR ⟨Nat.le_of_ble_eq_true rfl, Nat.le_of_ble_eq_true rfl⟩ (Nat.le_of_ble_eq_true rfl) dX2_holeNamed_9 (fun v1 =>
 (x_iret g hr rfl rfl dX2_holeNamed_12))))))))
def fX2_faultNamed (φ : Nat) (t : Nat) (a1 : Int64) (M : Mem) : Option Int32 :=
  (fX2_placeOf φ 2 a1 (t + 11) (M.1 t 13) M).bind fun v1 =>
 some v1
set_option maxRecDepth 100000 in
set_option maxHeartbeats 4000000 in
theorem kX2_faultNamed (φ : Nat) (t : Nat) (a1 : Int64) (M : Mem) (ht : isO 2 t) (l : Launch) (G : GT) {b : Int32} (hE : fX2_faultNamed φ t a1 M = some b) : Ok l G yX2_faultNamed cX2_faultNamed 3 (some .int) 1 24 [.ref t, .long a1] M ((fun b : Int32 => (some (Value.int b), M)) b).1 ((fun b : Int32 => (some (Value.int b), M)) b).2 := by
  refine Ok.ofX (pj := (fun b : Int32 => (some (Value.int b), M))) (by decide) (Nat.le_of_ble_eq_true rfl) hE (fun J g hr hG hl hR hn => ?_)
  show X J (fun b : Int32 => (some (Value.int b), M)) (fX2_faultNamed φ t a1 M) 0 [(0, .ref t), (1, .long a1)] [] M
  unfold fX2_faultNamed
  exact (x_lload_n g 1 dX2_faultNamed_0 rfl rfl
 (x_aload_n g 0 dX2_faultNamed_1 rfl rfl
 (x_getS g 11 fl_RX2_56 rfl ht dX2_faultNamed_2
 (x_aload_n g 0 dX2_faultNamed_5 rfl rfl
 (x_getI g fl_RX2_53 rfl ht dX2_faultNamed_6
 (x_callSip (As := [.long a1, .ref (t + 11), .int (M.1 t 13)]) g mv_X2_placeOf ms_X2_placeOf lk_RX2_75 (fun b hb => kX2_placeOf φ 2 a1 (t + 11) (M.1 t 13) M (so_2_14 ht) _ _ hb) rfl rfl hR ⟨Nat.le_of_ble_eq_true rfl, Nat.le_of_ble_eq_true rfl⟩ (Nat.le_of_ble_eq_true rfl) dX2_faultNamed_9 (fun v1 =>
 (x_iret g hr rfl rfl dX2_faultNamed_12))))))))
def fX2_isTakenName (φ : Nat) (t : Nat) (a1 : Int64) (M : Mem) : Option Int32 :=
  (fX2_rockNamed φ t a1 M).bind fun v1 =>
 if v1 = (-1 : Int32) then
 (fX2_holeNamed φ t a1 M).bind fun v2 =>
 if v2 = (-1 : Int32) then
 (fX2_faultNamed φ t a1 M).bind fun v3 =>
 if v3 = (-1 : Int32) then
 some (0 : Int32)
 else
 some (1 : Int32)
 else
 some (1 : Int32)
 else
 some (1 : Int32)
set_option maxRecDepth 100000 in
set_option maxHeartbeats 4000000 in
theorem kX2_isTakenName (φ : Nat) (t : Nat) (a1 : Int64) (M : Mem) (ht : isO 2 t) (l : Launch) (G : GT) {b : Int32} (hE : fX2_isTakenName φ t a1 M = some b) : Ok l G yX2_isTakenName cX2_isTakenName 3 (some .boolean) 2 46 [.ref t, .long a1] M ((fun b : Int32 => (some (Value.int b), M)) b).1 ((fun b : Int32 => (some (Value.int b), M)) b).2 := by
  refine Ok.ofX (pj := (fun b : Int32 => (some (Value.int b), M))) (by decide) (Nat.le_of_ble_eq_true rfl) hE (fun J g hr hG hl hR hn => ?_)
  show X J (fun b : Int32 => (some (Value.int b), M)) (fX2_isTakenName φ t a1 M) 0 [(0, .ref t), (1, .long a1)] [] M
  unfold fX2_isTakenName
  exact (x_aload_n g 0 dX2_isTakenName_0 rfl rfl
 (x_lload_n g 1 dX2_isTakenName_1 rfl rfl
 (x_callVip (As := [.long a1]) g mv_X2_rockNamed mi_X2_rockNamed lk_RX2_79 ht (fun b hb => kX2_rockNamed φ t a1 M ht _ _ hb) rfl rfl hR ⟨Nat.le_of_ble_eq_true rfl, Nat.le_of_ble_eq_true rfl⟩ (Nat.le_of_ble_eq_true rfl) dX2_isTakenName_2 (fun v1 =>
 (x_iconst g dX2_isTakenName_5 kI_m1
 (x_icmp_ne g 27 dX2_isTakenName_6 rfl
 (fun _ => (x_iconst g dX2_isTakenName_27 kI_1
 (x_goto g 32 dX2_isTakenName_28 rfl
 (x_iret g hr rfl rfl dX2_isTakenName_32))))
 (fun _ => (x_aload_n g 0 dX2_isTakenName_9 rfl rfl
 (x_lload_n g 1 dX2_isTakenName_10 rfl rfl
 (x_callVip (As := [.long a1]) g mv_X2_holeNamed mi_X2_holeNamed lk_RX2_83 ht (fun b hb => kX2_holeNamed φ t a1 M ht _ _ hb) rfl rfl hR ⟨Nat.le_of_ble_eq_true rfl, Nat.le_of_ble_eq_true rfl⟩ (Nat.le_of_ble_eq_true rfl) dX2_isTakenName_11 (fun v2 =>
 (x_iconst g dX2_isTakenName_14 kI_m1
 (x_icmp_ne g 27 dX2_isTakenName_15 rfl
 (fun _ => (x_iconst g dX2_isTakenName_27 kI_1
 (x_goto g 32 dX2_isTakenName_28 rfl
 (x_iret g hr rfl rfl dX2_isTakenName_32))))
 (fun _ => (x_aload_n g 0 dX2_isTakenName_18 rfl rfl
 (x_lload_n g 1 dX2_isTakenName_19 rfl rfl
 (x_callVip (As := [.long a1]) g mv_X2_faultNamed mi_X2_faultNamed lk_RX2_86 ht (fun b hb => kX2_faultNamed φ t a1 M ht _ _ hb) rfl rfl hR ⟨Nat.le_of_ble_eq_true rfl, Nat.le_of_ble_eq_true rfl⟩ (Nat.le_of_ble_eq_true rfl) dX2_isTakenName_20 (fun v3 =>
 (x_iconst g dX2_isTakenName_23 kI_m1
 (x_icmp_eq g 31 dX2_isTakenName_24 rfl
 (fun _ => (x_iconst g dX2_isTakenName_31 kI_0
 (x_iret g hr rfl rfl dX2_isTakenName_32)))
 (fun _ => (x_iconst g dX2_isTakenName_27 kI_1
 (x_goto g 32 dX2_isTakenName_28 rfl
 (x_iret g hr rfl rfl dX2_isTakenName_32))))))))))))))))))))))))
def fX1_isNewName (φ : Nat) (t : Nat) (M : Mem) : Option Int32 :=
  (ldr 6 (M.2.2 t 1)).bind fun vr1 =>
 (fX6_isName vr1 M).bind fun v2 =>
 if v2 = 0 then
 some (0 : Int32)
 else
 (ldr 2 (M.2.2 t 2)).bind fun vr3 =>
 (ldr 6 (M.2.2 t 1)).bind fun vr4 =>
 (fX6_name vr4 M).bind fun vz5 =>
 (fX2_isTakenName φ vr3 vz5 M).bind fun v6 =>
 if v6 = 0 then
 some (1 : Int32)
 else
 some (0 : Int32)
set_option maxRecDepth 100000 in
set_option maxHeartbeats 4000000 in
theorem kX1_isNewName (φ : Nat) (t : Nat) (M : Mem) (ht : isO 1 t) (l : Launch) (G : GT) {b : Int32} (hE : fX1_isNewName φ t M = some b) : Ok l G yX1_isNewName cX1_isNewName 1 (some .boolean) 3 68 [.ref t] M ((fun b : Int32 => (some (Value.int b), M)) b).1 ((fun b : Int32 => (some (Value.int b), M)) b).2 := by
  refine Ok.ofX (pj := (fun b : Int32 => (some (Value.int b), M))) (by decide) (Nat.le_of_ble_eq_true rfl) hE (fun J g hr hG hl hR hn => ?_)
  show X J (fun b : Int32 => (some (Value.int b), M)) (fX1_isNewName φ t M) 0 [(0, .ref t)] [] M
  unfold fX1_isNewName
  exact (x_aload_n g 0 dX1_isNewName_0 rfl rfl
 (x_getD g fl_RX1_15 rfl ht dX1_isNewName_1 (fun vr1 hvr1 =>
 (x_callVip (As := []) g mv_X6_isName mi_X6_isName lk_RX1_148 hvr1 (fun b hb => kX6_isName vr1 M hvr1 _ _ hb) rfl rfl hR ⟨Nat.le_of_ble_eq_true rfl, Nat.le_of_ble_eq_true rfl⟩ (Nat.le_of_ble_eq_true rfl) dX1_isNewName_4 (fun v2 =>
 (x_if_eq g 31 dX1_isNewName_7 rfl
 (fun _ => (x_iconst g dX1_isNewName_31 kI_0
 (x_iret g hr rfl rfl dX1_isNewName_32)))
 (fun _ => (x_aload_n g 0 dX1_isNewName_10 rfl rfl
 (x_getD g fl_RX1_19 rfl ht dX1_isNewName_11 (fun vr3 hvr3 =>
 (x_aload_n g 0 dX1_isNewName_14 rfl rfl
 (x_getD g fl_RX1_15 rfl ht dX1_isNewName_15 (fun vr4 hvr4 =>
 (x_callVlp (As := []) g mv_X6_name mi_X6_name lk_RX1_73 hvr4 (fun b hb => kX6_name vr4 M hvr4 _ _ hb) rfl rfl hR ⟨Nat.le_of_ble_eq_true rfl, Nat.le_of_ble_eq_true rfl⟩ (Nat.le_of_ble_eq_true rfl) dX1_isNewName_18 (fun vz5 =>
 (x_callVip (As := [.long vz5]) g mv_X2_isTakenName mi_X2_isTakenName lk_RX1_151 hvr3 (fun b hb => kX2_isTakenName φ vr3 vz5 M hvr3 _ _ hb) rfl rfl hR ⟨Nat.le_of_ble_eq_true rfl, Nat.le_of_ble_eq_true rfl⟩ (Nat.le_of_ble_eq_true rfl) dX1_isNewName_21 (fun v6 =>
 (x_if_ne g 31 dX1_isNewName_24 rfl
 (fun _ => (x_iconst g dX1_isNewName_31 kI_0
 (x_iret g hr rfl rfl dX1_isNewName_32)))
 (fun _ => (x_iconst g dX1_isNewName_27 kI_1
 (x_goto g 32 dX1_isNewName_28 rfl
 (x_iret g hr rfl rfl dX1_isNewName_32))))))))))))))))))))))
def fX6_nameFault (t : Nat) (M : Mem) : Option Int32 :=
  (fX6_isName t M).bind fun v1 =>
 if v1 = 0 then
 some (2 : Int32)
 else
 some (3 : Int32)
set_option maxRecDepth 100000 in
set_option maxHeartbeats 4000000 in
theorem kX6_nameFault (t : Nat) (M : Mem) (ht : isO 6 t) (l : Launch) (G : GT) {b : Int32} (hE : fX6_nameFault t M = some b) : Ok l G yX6_nameFault cX6_nameFault 1 (some .int) 1 20 [.ref t] M ((fun b : Int32 => (some (Value.int b), M)) b).1 ((fun b : Int32 => (some (Value.int b), M)) b).2 := by
  refine Ok.ofX (pj := (fun b : Int32 => (some (Value.int b), M))) (by decide) (Nat.le_of_ble_eq_true rfl) hE (fun J g hr hG hl hR hn => ?_)
  show X J (fun b : Int32 => (some (Value.int b), M)) (fX6_nameFault t M) 0 [(0, .ref t)] [] M
  unfold fX6_nameFault
  exact (x_aload_n g 0 dX6_nameFault_0 rfl rfl
 (x_callVip (As := []) g mv_X6_isName mi_X6_isName lk_RX6_94 ht (fun b hb => kX6_isName t M ht _ _ hb) rfl rfl hR ⟨Nat.le_of_ble_eq_true rfl, Nat.le_of_ble_eq_true rfl⟩ (Nat.le_of_ble_eq_true rfl) dX6_nameFault_1 (fun v1 =>
 (x_if_eq g 11 dX6_nameFault_4 rfl
 (fun _ => (x_iconst g dX6_nameFault_11 kI_2
 (x_iret g hr rfl rfl dX6_nameFault_12)))
 (fun _ => (x_iconst g dX6_nameFault_7 kI_3
 (x_goto g 12 dX6_nameFault_8 rfl
 (x_iret g hr rfl rfl dX6_nameFault_12))))))))
def fX6_value (t : Nat) (M : Mem) : Option Int32 :=
  ixk (M.1 t 7) 901 (
 some (M.1 (t + 4) (M.1 t 7).toNatClampNeg))
set_option maxRecDepth 100000 in
set_option maxHeartbeats 4000000 in
theorem kX6_value (t : Nat) (M : Mem) (ht : isO 6 t) (l : Launch) (G : GT) {b : Int32} (hE : fX6_value t M = some b) : Ok l G yX6_value cX6_value 1 (some .int) 0 0 [.ref t] M ((fun b : Int32 => (some (Value.int b), M)) b).1 ((fun b : Int32 => (some (Value.int b), M)) b).2 := by
  refine Ok.ofX (pj := (fun b : Int32 => (some (Value.int b), M))) (by decide) (Nat.le_of_ble_eq_true rfl) hE (fun J g hr hG hl hR hn => ?_)
  show X J (fun b : Int32 => (some (Value.int b), M)) (fX6_value t M) 0 [(0, .ref t)] [] M
  unfold fX6_value
  exact (x_aload_n g 0 dX6_value_0 rfl rfl
 (x_getS g 4 fl_RX6_26 rfl ht dX6_value_1
 (x_aload_n g 0 dX6_value_4 rfl rfl
 (x_getI g fl_RX6_36 rfl ht dX6_value_5
 (x_iald g (so_6_4 ht) dX6_value_8
 (x_iret g hr rfl rfl dX6_value_9))))))
def fX6_isNumber (t : Nat) (a1 : Int32) (a2 : Int32) (M : Mem) : Option Int32 :=
  ixk (M.1 t 7) 901 (
 if (M.1 (t + 2) (M.1 t 7).toNatClampNeg) = (2 : Int32) then
 ixk (M.1 t 7) 901 (
 if (M.1 (t + 4) (M.1 t 7).toNatClampNeg) < a1 then
 some (0 : Int32)
 else
 ixk (M.1 t 7) 901 (
 if a2 < (M.1 (t + 4) (M.1 t 7).toNatClampNeg) then
 some (0 : Int32)
 else
 some (1 : Int32)))
 else
 some (0 : Int32))
set_option maxRecDepth 100000 in
set_option maxHeartbeats 4000000 in
theorem kX6_isNumber (t : Nat) (a1 : Int32) (a2 : Int32) (M : Mem) (ht : isO 6 t) (l : Launch) (G : GT) {b : Int32} (hE : fX6_isNumber t a1 a2 M = some b) : Ok l G yX6_isNumber cX6_isNumber 3 (some .boolean) 0 0 [.ref t, .int a1, .int a2] M ((fun b : Int32 => (some (Value.int b), M)) b).1 ((fun b : Int32 => (some (Value.int b), M)) b).2 := by
  refine Ok.ofX (pj := (fun b : Int32 => (some (Value.int b), M))) (by decide) (Nat.le_of_ble_eq_true rfl) hE (fun J g hr hG hl hR hn => ?_)
  show X J (fun b : Int32 => (some (Value.int b), M)) (fX6_isNumber t a1 a2 M) 0 [(0, .ref t), (1, .int a1), (2, .int a2)] [] M
  unfold fX6_isNumber
  exact (x_aload_n g 0 dX6_isNumber_0 rfl rfl
 (x_getS g 2 fl_RX6_19 rfl ht dX6_isNumber_1
 (x_aload_n g 0 dX6_isNumber_4 rfl rfl
 (x_getI g fl_RX6_36 rfl ht dX6_isNumber_5
 (x_iald g (so_6_2 ht) dX6_isNumber_8
 (x_iconst g dX6_isNumber_9 kI_2
 (x_icmp_ne g 43 dX6_isNumber_10 rfl
 (fun _ => (x_iconst g dX6_isNumber_43 kI_0
 (x_iret g hr rfl rfl dX6_isNumber_44)))
 (fun _ => (x_aload_n g 0 dX6_isNumber_13 rfl rfl
 (x_getS g 4 fl_RX6_26 rfl ht dX6_isNumber_14
 (x_aload_n g 0 dX6_isNumber_17 rfl rfl
 (x_getI g fl_RX6_36 rfl ht dX6_isNumber_18
 (x_iald g (so_6_4 ht) dX6_isNumber_21
 (x_iload_n g 1 dX6_isNumber_22 rfl rfl
 (x_icmp_lt g 43 dX6_isNumber_23 rfl
 (fun _ => (x_iconst g dX6_isNumber_43 kI_0
 (x_iret g hr rfl rfl dX6_isNumber_44)))
 (fun _ => (x_aload_n g 0 dX6_isNumber_26 rfl rfl
 (x_getS g 4 fl_RX6_26 rfl ht dX6_isNumber_27
 (x_aload_n g 0 dX6_isNumber_30 rfl rfl
 (x_getI g fl_RX6_36 rfl ht dX6_isNumber_31
 (x_iald g (so_6_4 ht) dX6_isNumber_34
 (x_iload_n g 2 dX6_isNumber_35 rfl rfl
 (x_icmp_gt g 43 dX6_isNumber_36 rfl
 (fun _ => (x_iconst g dX6_isNumber_43 kI_0
 (x_iret g hr rfl rfl dX6_isNumber_44)))
 (fun _ => (x_iconst g dX6_isNumber_39 kI_1
 (x_goto g 44 dX6_isNumber_40 rfl
 (x_iret g hr rfl rfl dX6_isNumber_44)))))))))))))))))))))))))))
def fX6_numberFault (t : Nat) (M : Mem) : Option Int32 :=
  ixk (M.1 t 7) 901 (
 if (M.1 (t + 2) (M.1 t 7).toNatClampNeg) = (2 : Int32) then
 some (4 : Int32)
 else
 some (2 : Int32))
set_option maxRecDepth 100000 in
set_option maxHeartbeats 4000000 in
theorem kX6_numberFault (t : Nat) (M : Mem) (ht : isO 6 t) (l : Launch) (G : GT) {b : Int32} (hE : fX6_numberFault t M = some b) : Ok l G yX6_numberFault cX6_numberFault 1 (some .int) 0 0 [.ref t] M ((fun b : Int32 => (some (Value.int b), M)) b).1 ((fun b : Int32 => (some (Value.int b), M)) b).2 := by
  refine Ok.ofX (pj := (fun b : Int32 => (some (Value.int b), M))) (by decide) (Nat.le_of_ble_eq_true rfl) hE (fun J g hr hG hl hR hn => ?_)
  show X J (fun b : Int32 => (some (Value.int b), M)) (fX6_numberFault t M) 0 [(0, .ref t)] [] M
  unfold fX6_numberFault
  exact (x_aload_n g 0 dX6_numberFault_0 rfl rfl
 (x_getS g 2 fl_RX6_19 rfl ht dX6_numberFault_1
 (x_aload_n g 0 dX6_numberFault_4 rfl rfl
 (x_getI g fl_RX6_36 rfl ht dX6_numberFault_5
 (x_iald g (so_6_2 ht) dX6_numberFault_8
 (x_iconst g dX6_numberFault_9 kI_2
 (x_icmp_ne g 17 dX6_numberFault_10 rfl
 (fun _ => (x_iconst g dX6_numberFault_17 kI_2
 (x_iret g hr rfl rfl dX6_numberFault_18)))
 (fun _ => (x_iconst g dX6_numberFault_13 kI_4
 (x_goto g 18 dX6_numberFault_14 rfl
 (x_iret g hr rfl rfl dX6_numberFault_18)))))))))))
def fX6_passNumber (t : Nat) (a1 : Int32) (a2 : Int32) (M : Mem) : Option (Int32 × Mem) :=
  (fX6_isNumber t a1 a2 M).bind fun v1 =>
 if v1 = 0 then
 (fX6_numberFault t M).bind fun v4 =>
 bd (fX6_refuseToken t v4 M) fun v5 M6 =>
 if v5 = 0 ∨ v5 = 1 then some (v5, M6) else none
 else
 bd (fX6_goOn t M) fun vu2 M3 =>
 some ((1 : Int32), M3)
set_option maxRecDepth 100000 in
set_option maxHeartbeats 4000000 in
theorem kX6_passNumber (t : Nat) (a1 : Int32) (a2 : Int32) (M : Mem) (ht : isO 6 t) (l : Launch) (G : GT) {b : (Int32 × Mem)} (hE : fX6_passNumber t a1 a2 M = some b) : Ok l G yX6_passNumber cX6_passNumber 3 (some .boolean) 1 22 [.ref t, .int a1, .int a2] M ((fun q : Int32 × Mem => (some (Value.int q.1), q.2)) b).1 ((fun q : Int32 × Mem => (some (Value.int q.1), q.2)) b).2 := by
  refine Ok.ofX (pj := (fun q : Int32 × Mem => (some (Value.int q.1), q.2))) (by decide) (Nat.le_of_ble_eq_true rfl) hE (fun J g hr hG hl hR hn => ?_)
  show X J (fun q : Int32 × Mem => (some (Value.int q.1), q.2)) (fX6_passNumber t a1 a2 M) 0 [(0, .ref t), (1, .int a1), (2, .int a2)] [] M
  unfold fX6_passNumber
  exact (x_aload_n g 0 dX6_passNumber_0 rfl rfl
 (x_iload_n g 1 dX6_passNumber_1 rfl rfl
 (x_iload_n g 2 dX6_passNumber_2 rfl rfl
 (x_callVip (As := [.int a1, .int a2]) g mv_X6_isNumber mi_X6_isNumber lk_RX6_98 ht (fun b hb => kX6_isNumber t a1 a2 M ht _ _ hb) rfl rfl hR ⟨Nat.le_of_ble_eq_true rfl, Nat.le_of_ble_eq_true rfl⟩ (Nat.le_of_ble_eq_true rfl) dX6_passNumber_3 (fun v1 =>
 (x_if_ne g 18 dX6_passNumber_6 rfl
 (fun _ => (x_aload_n g 0 dX6_passNumber_18 rfl rfl
 (x_callVv (As := []) g mv_X6_goOn mi_X6_goOn lk_RX6_108 ht (fun b Mh_ hb => kX6_goOn t M ht _ _ hb) rfl rfl hR ⟨Nat.le_of_ble_eq_true rfl, Nat.le_of_ble_eq_true rfl⟩ (Nat.le_of_ble_eq_true rfl) dX6_passNumber_19 (fun vu2 M3 =>
 (x_iconst g dX6_passNumber_22 kI_1
 (x_iret g hr rfl rfl dX6_passNumber_23))))))
 (fun _ => (x_aload_n g 0 dX6_passNumber_9 rfl rfl
 (x_aload_n g 0 dX6_passNumber_10 rfl rfl
 (x_callVip (As := []) g mv_X6_numberFault mi_X6_numberFault lk_RX6_102 ht (fun b hb => kX6_numberFault t M ht _ _ hb) rfl rfl hR ⟨Nat.le_of_ble_eq_true rfl, Nat.le_of_ble_eq_true rfl⟩ (Nat.le_of_ble_eq_true rfl) dX6_passNumber_11 (fun v4 =>
 (x_callVi (As := [.int v4]) g mv_X6_refuseToken mi_X6_refuseToken lk_RX6_105 ht (fun b Mh_ hb => kX6_refuseToken t v4 M ht _ _ hb) rfl rfl hR ⟨Nat.le_of_ble_eq_true rfl, Nat.le_of_ble_eq_true rfl⟩ (Nat.le_of_ble_eq_true rfl) dX6_passNumber_14 (fun v5 M6 =>
 (x_ck (fun hq7 => x_iret g hr (nbz hq7) rfl dX6_passNumber_17)))))))))))))))
def fX2_setCostOfTwo (t : Nat) (a1 : Int32) (a2 : Int32) (a3 : Int32) (M : Mem) : Option (Unit × Mem) :=
  ixk ((a1 * (8 : Int32)) + a2) 64 (nm (stI M (t + 3) ((a1 * (8 : Int32)) + a2).toNatClampNeg a3) (fun M1 =>
 ixk ((a2 * (8 : Int32)) + a1) 64 (nm (stI M1 (t + 3) ((a2 * (8 : Int32)) + a1).toNatClampNeg a3) (fun M2 =>
 some ((), M2)))))
set_option maxRecDepth 100000 in
set_option maxHeartbeats 4000000 in
theorem kX2_setCostOfTwo (t : Nat) (a1 : Int32) (a2 : Int32) (a3 : Int32) (M : Mem) (ht : isO 2 t) (l : Launch) (G : GT) {b : (Unit × Mem)} (hE : fX2_setCostOfTwo t a1 a2 a3 M = some b) : Ok l G yX2_setCostOfTwo cX2_setCostOfTwo 4 none 0 0 [.ref t, .int a1, .int a2, .int a3] M ((fun q : Unit × Mem => ((none : Option Value), q.2)) b).1 ((fun q : Unit × Mem => ((none : Option Value), q.2)) b).2 := by
  refine Ok.ofX (pj := (fun q : Unit × Mem => ((none : Option Value), q.2))) (by decide) (Nat.le_of_ble_eq_true rfl) hE (fun J g hr hG hl hR hn => ?_)
  show X J (fun q : Unit × Mem => ((none : Option Value), q.2)) (fX2_setCostOfTwo t a1 a2 a3 M) 0 [(0, .ref t), (1, .int a1), (2, .int a2), (3, .int a3)] [] M
  unfold fX2_setCostOfTwo
  exact (x_aload_n g 0 dX2_setCostOfTwo_0 rfl rfl
 (x_getS g 3 fl_RX2_23 rfl ht dX2_setCostOfTwo_1
 (x_iload_n g 1 dX2_setCostOfTwo_4 rfl rfl
 (x_bipush g dX2_setCostOfTwo_5 kB_8
 (x_imul g dX2_setCostOfTwo_7
 (x_iload_n g 2 dX2_setCostOfTwo_8 rfl rfl
 (x_iadd g dX2_setCostOfTwo_9
 (x_iload_n g 3 dX2_setCostOfTwo_10 rfl rfl
 (x_iast g (so_2_3 ht) dX2_setCostOfTwo_11 (x_nmM (fun M1 =>
 (x_aload_n g 0 dX2_setCostOfTwo_12 rfl rfl
 (x_getS g 3 fl_RX2_23 rfl ht dX2_setCostOfTwo_13
 (x_iload_n g 2 dX2_setCostOfTwo_16 rfl rfl
 (x_bipush g dX2_setCostOfTwo_17 kB_8
 (x_imul g dX2_setCostOfTwo_19
 (x_iload_n g 1 dX2_setCostOfTwo_20 rfl rfl
 (x_iadd g dX2_setCostOfTwo_21
 (x_iload_n g 3 dX2_setCostOfTwo_22 rfl rfl
 (x_iast g (so_2_3 ht) dX2_setCostOfTwo_23 (x_nmM (fun M2 =>
 (x_vret g hr rfl dX2_setCostOfTwo_24)))))))))))))))))))))))
def lX2_addRock_23 (K50 : Mem → Option (Unit × Mem)) (t : Nat) : Nat → Int32 → Mem → Option (Unit × Mem)
  | 0, _, _ => none
  | n + 1, x4, M =>
    if (M.1 t 0) ≤ x4 then
 K50 M
 else
 bd (fX2_setCostOfTwo t x4 (M.1 t 0) (9 : Int32) M) fun vu3 M4 =>
 lX2_addRock_23 K50 t n (x4 + 1) M4
theorem lX2_addRock_23_s (K50 : Mem → Option (Unit × Mem)) (t : Nat) (n : Nat) (x4 : Int32) (M : Mem) : lX2_addRock_23 K50 t (n + 1) x4 M =
    if (M.1 t 0) ≤ x4 then
 K50 M
 else
 bd (fX2_setCostOfTwo t x4 (M.1 t 0) (9 : Int32) M) fun vu3 M4 =>
 lX2_addRock_23 K50 t n (x4 + 1) M4 := rfl
theorem lX2_addRock_23_0 (K50 : Mem → Option (Unit × Mem)) (t : Nat) (x4 : Int32) (M : Mem) : lX2_addRock_23 K50 t 0 x4 M = none := rfl
set_option maxRecDepth 100000 in
set_option maxHeartbeats 4000000 in
theorem wlX2_addRock_23 {J : JT} (g : Gd J cX2_addRock RX2) (hr : Rt J none) (hR : (JR J).frames = 1 ∧ (JR J).locals = 23) (hn : Jn J = 5) (K50 : Mem → Option (Unit × Mem)) (t : Nat) (ht : isO 2 t) (hK50 : ∀ (M : Mem), X J (fun q : Unit × Mem => ((none : Option Value), q.2)) (K50 M) 50 [(0, .ref t)] [] M) : ∀ (n : Nat) (x4 : Int32) (M : Mem), X J (fun q : Unit × Mem => ((none : Option Value), q.2)) (lX2_addRock_23 K50 t n x4 M) 23 [(0, .ref t), (4, .int x4)] [] M := by
  intro n
  induction n with
  | zero =>
    intro x4 M
    exact x_none
  | succ n ih =>
    intro x4 M
    rw [lX2_addRock_23_s]
    exact (x_iload g 1 dX2_addRock_23 rfl
 (x_aload_n g 0 dX2_addRock_25 rfl rfl
 (x_getI g fl_RX2_9 rfl ht dX2_addRock_26
 (x_icmp_ge g 50 dX2_addRock_29 rfl
 (fun _ => (x_sub [0] rfl (hK50 M)))
 (fun _ => (x_aload_n g 0 dX2_addRock_32 rfl rfl
 (x_iload g 1 dX2_addRock_33 rfl
 (x_aload_n g 0 dX2_addRock_35 rfl rfl
 (x_getI g fl_RX2_9 rfl ht dX2_addRock_36
 (x_bipush g dX2_addRock_39 kB_9
 (x_callVv (As := [.int x4, .int (M.1 t 0), .int (9 : Int32)]) g mv_X2_setCostOfTwo mi_X2_setCostOfTwo lk_RX2_89 ht (fun b Mh_ hb => kX2_setCostOfTwo t x4 (M.1 t 0) (9 : Int32) M ht _ _ hb) rfl rfl hR ⟨Nat.le_of_ble_eq_true rfl, Nat.le_of_ble_eq_true rfl⟩ (Nat.le_of_ble_eq_true rfl) dX2_addRock_41 (fun vu3 M4 =>
 (x_iinc (L' := [(4, .int (x4 + 1)), (0, .ref t)]) (v := (x4 + 1)) g 1 dX2_addRock_44 rfl (by rw [kI_1]) hn (Nat.le_of_ble_eq_true rfl) rfl
 (x_goto g 23 dX2_addRock_47 rfl
 (x_sub [1, 0] rfl (ih (x4 + 1) M4))))))))))))))))
def fX2_addRock (φ : Nat) (t : Nat) (a1 : Int64) (a2 : Int32) (M : Mem) : Option (Unit × Mem) :=
  ixk (M.1 t 0) 8 (nm (stL M (t + 1) (M.1 t 0).toNatClampNeg a1) (fun M1 =>
 ixk (M1.1 t 0) 8 (nm (stI M1 (t + 2) (M1.1 t 0).toNatClampNeg a2) (fun M2 =>
 lX2_addRock_23 (fun (M5 : Mem) => bd (fX2_setCostOfTwo t (M5.1 t 0) (M5.1 t 0) (0 : Int32) M5) fun vu6 M7 =>
 nm (stI M7 t 0 ((M7.1 t 0) + (1 : Int32))) (fun M8 =>
 some ((), M8))) t φ (0 : Int32) M2))))
set_option maxRecDepth 100000 in
set_option maxHeartbeats 4000000 in
theorem kX2_addRock (φ : Nat) (t : Nat) (a1 : Int64) (a2 : Int32) (M : Mem) (ht : isO 2 t) (l : Launch) (G : GT) {b : (Unit × Mem)} (hE : fX2_addRock φ t a1 a2 M = some b) : Ok l G yX2_addRock cX2_addRock 5 none 1 23 [.ref t, .long a1, .int a2] M ((fun q : Unit × Mem => ((none : Option Value), q.2)) b).1 ((fun q : Unit × Mem => ((none : Option Value), q.2)) b).2 := by
  refine Ok.ofX (pj := (fun q : Unit × Mem => ((none : Option Value), q.2))) (by decide) (Nat.le_of_ble_eq_true rfl) hE (fun J g hr hG hl hR hn => ?_)
  show X J (fun q : Unit × Mem => ((none : Option Value), q.2)) (fX2_addRock φ t a1 a2 M) 0 [(0, .ref t), (1, .long a1), (3, .int a2)] [] M
  unfold fX2_addRock
  exact (x_aload_n g 0 dX2_addRock_0 rfl rfl
 (x_getS g 1 fl_RX2_15 rfl ht dX2_addRock_1
 (x_aload_n g 0 dX2_addRock_4 rfl rfl
 (x_getI g fl_RX2_9 rfl ht dX2_addRock_5
 (x_lload_n g 1 dX2_addRock_8 rfl rfl
 (x_last g (so_2_1 ht) dX2_addRock_9 (x_nmM (fun M1 =>
 (x_aload_n g 0 dX2_addRock_10 rfl rfl
 (x_getS g 2 fl_RX2_19 rfl ht dX2_addRock_11
 (x_aload_n g 0 dX2_addRock_14 rfl rfl
 (x_getI g fl_RX2_9 rfl ht dX2_addRock_15
 (x_iload_n g 2 dX2_addRock_18 rfl rfl
 (x_iast g (so_2_2 ht) dX2_addRock_19 (x_nmM (fun M2 =>
 (x_iconst g dX2_addRock_20 kI_0
 (x_istore (L' := [(4, .int (0 : Int32)), (0, .ref t), (1, .long a1), (3, .int a2)]) g dX2_addRock_21 hn (Nat.le_of_ble_eq_true rfl) rfl
 (x_sub [1, 0] rfl (wlX2_addRock_23 g hr hR hn _ t ht
 (fun M5 => by exact (x_aload_n g 0 dX2_addRock_50 rfl rfl
 (x_aload_n g 0 dX2_addRock_51 rfl rfl
 (x_getI g fl_RX2_9 rfl ht dX2_addRock_52
 (x_aload_n g 0 dX2_addRock_55 rfl rfl
 (x_getI g fl_RX2_9 rfl ht dX2_addRock_56
 (x_iconst g dX2_addRock_59 kI_0
 (x_callVv (As := [.int (M5.1 t 0), .int (M5.1 t 0), .int (0 : Int32)]) g mv_X2_setCostOfTwo mi_X2_setCostOfTwo lk_RX2_89 ht (fun b Mh_ hb => kX2_setCostOfTwo t (M5.1 t 0) (M5.1 t 0) (0 : Int32) M5 ht _ _ hb) rfl rfl hR ⟨Nat.le_of_ble_eq_true rfl, Nat.le_of_ble_eq_true rfl⟩ (Nat.le_of_ble_eq_true rfl) dX2_addRock_60 (fun vu6 M7 =>
 (x_aload_n g 0 dX2_addRock_63 rfl rfl
 (x_dup g dX2_addRock_64 rfl
 (x_getI g fl_RX2_9 rfl ht dX2_addRock_65
 (x_iconst g dX2_addRock_68 kI_1
 (x_iadd g dX2_addRock_69
 (x_putI g fp_RX2_9 rfl (Nat.le_of_ble_eq_true rfl) ht dX2_addRock_70 (x_nmM (fun M8 =>
 (x_vret g hr rfl dX2_addRock_73)))))))))))))))))) φ (0 : Int32) M2))))))))))))))))))))
def fX6_isSign (t : Nat) (a1 : Int32) (M : Mem) : Option Int32 :=
  ixk (M.1 t 7) 901 (
 if (M.1 (t + 2) (M.1 t 7).toNatClampNeg) = (3 : Int32) then
 ixk (M.1 t 7) 901 (
 if (M.1 (t + 4) (M.1 t 7).toNatClampNeg) = a1 then
 some (1 : Int32)
 else
 some (0 : Int32))
 else
 some (0 : Int32))
set_option maxRecDepth 100000 in
set_option maxHeartbeats 4000000 in
theorem kX6_isSign (t : Nat) (a1 : Int32) (M : Mem) (ht : isO 6 t) (l : Launch) (G : GT) {b : Int32} (hE : fX6_isSign t a1 M = some b) : Ok l G yX6_isSign cX6_isSign 2 (some .boolean) 0 0 [.ref t, .int a1] M ((fun b : Int32 => (some (Value.int b), M)) b).1 ((fun b : Int32 => (some (Value.int b), M)) b).2 := by
  refine Ok.ofX (pj := (fun b : Int32 => (some (Value.int b), M))) (by decide) (Nat.le_of_ble_eq_true rfl) hE (fun J g hr hG hl hR hn => ?_)
  show X J (fun b : Int32 => (some (Value.int b), M)) (fX6_isSign t a1 M) 0 [(0, .ref t), (1, .int a1)] [] M
  unfold fX6_isSign
  exact (x_aload_n g 0 dX6_isSign_0 rfl rfl
 (x_getS g 2 fl_RX6_19 rfl ht dX6_isSign_1
 (x_aload_n g 0 dX6_isSign_4 rfl rfl
 (x_getI g fl_RX6_36 rfl ht dX6_isSign_5
 (x_iald g (so_6_2 ht) dX6_isSign_8
 (x_iconst g dX6_isSign_9 kI_3
 (x_icmp_ne g 30 dX6_isSign_10 rfl
 (fun _ => (x_iconst g dX6_isSign_30 kI_0
 (x_iret g hr rfl rfl dX6_isSign_31)))
 (fun _ => (x_aload_n g 0 dX6_isSign_13 rfl rfl
 (x_getS g 4 fl_RX6_26 rfl ht dX6_isSign_14
 (x_aload_n g 0 dX6_isSign_17 rfl rfl
 (x_getI g fl_RX6_36 rfl ht dX6_isSign_18
 (x_iald g (so_6_4 ht) dX6_isSign_21
 (x_iload_n g 1 dX6_isSign_22 rfl rfl
 (x_icmp_ne g 30 dX6_isSign_23 rfl
 (fun _ => (x_iconst g dX6_isSign_30 kI_0
 (x_iret g hr rfl rfl dX6_isSign_31)))
 (fun _ => (x_iconst g dX6_isSign_26 kI_1
 (x_goto g 31 dX6_isSign_27 rfl
 (x_iret g hr rfl rfl dX6_isSign_31)))))))))))))))))))
def fX6_passSemicolon (t : Nat) (M : Mem) : Option (Int32 × Mem) :=
  (fX6_isSign t (59 : Int32) M).bind fun v1 =>
 if v1 = 0 then
 bd (fX6_refuseToken t (2 : Int32) M) fun v4 M5 =>
 if v4 = 0 ∨ v4 = 1 then some (v4, M5) else none
 else
 bd (fX6_goOn t M) fun vu2 M3 =>
 some ((1 : Int32), M3)
set_option maxRecDepth 100000 in
set_option maxHeartbeats 4000000 in
theorem kX6_passSemicolon (t : Nat) (M : Mem) (ht : isO 6 t) (l : Launch) (G : GT) {b : (Int32 × Mem)} (hE : fX6_passSemicolon t M = some b) : Ok l G yX6_passSemicolon cX6_passSemicolon 1 (some .boolean) 1 21 [.ref t] M ((fun q : Int32 × Mem => (some (Value.int q.1), q.2)) b).1 ((fun q : Int32 × Mem => (some (Value.int q.1), q.2)) b).2 := by
  refine Ok.ofX (pj := (fun q : Int32 × Mem => (some (Value.int q.1), q.2))) (by decide) (Nat.le_of_ble_eq_true rfl) hE (fun J g hr hG hl hR hn => ?_)
  show X J (fun q : Int32 × Mem => (some (Value.int q.1), q.2)) (fX6_passSemicolon t M) 0 [(0, .ref t)] [] M
  unfold fX6_passSemicolon
  exact (x_aload_n g 0 dX6_passSemicolon_0 rfl rfl
 (x_bipush g dX6_passSemicolon_1 kB_59
 (x_callVip (As := [.int (59 : Int32)]) g mv_X6_isSign mi_X6_isSign lk_RX6_114 ht (fun b hb => kX6_isSign t (59 : Int32) M ht _ _ hb) rfl rfl hR ⟨Nat.le_of_ble_eq_true rfl, Nat.le_of_ble_eq_true rfl⟩ (Nat.le_of_ble_eq_true rfl) dX6_passSemicolon_3 (fun v1 =>
 (x_if_ne g 15 dX6_passSemicolon_6 rfl
 (fun _ => (x_aload_n g 0 dX6_passSemicolon_15 rfl rfl
 (x_callVv (As := []) g mv_X6_goOn mi_X6_goOn lk_RX6_108 ht (fun b Mh_ hb => kX6_goOn t M ht _ _ hb) rfl rfl hR ⟨Nat.le_of_ble_eq_true rfl, Nat.le_of_ble_eq_true rfl⟩ (Nat.le_of_ble_eq_true rfl) dX6_passSemicolon_16 (fun vu2 M3 =>
 (x_iconst g dX6_passSemicolon_19 kI_1
 (x_iret g hr rfl rfl dX6_passSemicolon_20))))))
 (fun _ => (x_aload_n g 0 dX6_passSemicolon_9 rfl rfl
 (x_iconst g dX6_passSemicolon_10 kI_2
 (x_callVi (As := [.int (2 : Int32)]) g mv_X6_refuseToken mi_X6_refuseToken lk_RX6_105 ht (fun b Mh_ hb => kX6_refuseToken t (2 : Int32) M ht _ _ hb) rfl rfl hR ⟨Nat.le_of_ble_eq_true rfl, Nat.le_of_ble_eq_true rfl⟩ (Nat.le_of_ble_eq_true rfl) dX6_passSemicolon_11 (fun v4 M5 =>
 (x_ck (fun hq6 => x_iret g hr (nbz hq6) rfl dX6_passSemicolon_14))))))))))))
def fX1_passRock (φ : Nat) (t : Nat) (M : Mem) : Option (Int32 × Mem) :=
  (ldr 2 (M.2.2 t 2)).bind fun vr1 =>
 if (M.1 vr1 0) < (8 : Int32) then
 (ldr 6 (M.2.2 t 1)).bind fun vr2 =>
 bd (fX6_goOn vr2 M) fun vu3 M4 =>
 (fX1_isNewName φ t M4).bind fun v5 =>
 if v5 = 0 then
 (ldr 6 (M4.2.2 t 1)).bind fun vr31 =>
 (ldr 6 (M4.2.2 t 1)).bind fun vr32 =>
 (fX6_nameFault vr32 M4).bind fun v33 =>
 bd (fX6_refuseToken vr31 v33 M4) fun v34 M35 =>
 if v34 = 0 ∨ v34 = 1 then some (v34, M35) else none
 else
 (ldr 6 (M4.2.2 t 1)).bind fun vr6 =>
 (fX6_name vr6 M4).bind fun vz7 =>
 (ldr 6 (M4.2.2 t 1)).bind fun vr8 =>
 bd (fX6_goOn vr8 M4) fun vu9 M10 =>
 (ldr 6 (M10.2.2 t 1)).bind fun vr11 =>
 (fX6_word vr11 M10).bind fun v12 =>
 jn (fun (v13 : Int32) (M14 : Mem) => (ldr 2 (M14.2.2 t 2)).bind fun vr16 =>
 bd (fX2_addRock φ vr16 vz7 v13 M14) fun vu17 M18 =>
 (ldr 6 (M18.2.2 t 1)).bind fun vr19 =>
 bd (fX6_passSemicolon vr19 M18) fun v20 M21 =>
 if v20 = 0 ∨ v20 = 1 then some (v20, M21) else none) (fun J15 => if v12 = (1 : Int32) then
 (ldr 6 (M10.2.2 t 1)).bind fun vr23 =>
 bd (fX6_goOn vr23 M10) fun vu24 M25 =>
 (ldr 6 (M25.2.2 t 1)).bind fun vr26 =>
 (fX6_value vr26 M25).bind fun v27 =>
 (ldr 6 (M25.2.2 t 1)).bind fun vr28 =>
 bd (fX6_passNumber vr28 (0 : Int32) (99 : Int32) M25) fun v29 M30 =>
 if v29 = 0 then
 some ((0 : Int32), M30)
 else
 J15 v27 M30
 else
 J15 (5 : Int32) M10)
 else
 (ldr 6 (M.2.2 t 1)).bind fun vr37 =>
 bd (fX6_refuseToken vr37 (6 : Int32) M) fun v38 M39 =>
 if v38 = 0 ∨ v38 = 1 then some (v38, M39) else none
set_option maxRecDepth 100000 in
set_option maxHeartbeats 4000000 in
theorem kX1_passRock (φ : Nat) (t : Nat) (M : Mem) (ht : isO 1 t) (l : Launch) (G : GT) {b : (Int32 × Mem)} (hE : fX1_passRock φ t M = some b) : Ok l G yX1_passRock cX1_passRock 4 (some .boolean) 4 88 [.ref t] M ((fun q : Int32 × Mem => (some (Value.int q.1), q.2)) b).1 ((fun q : Int32 × Mem => (some (Value.int q.1), q.2)) b).2 := by
  refine Ok.ofX (pj := (fun q : Int32 × Mem => (some (Value.int q.1), q.2))) (by decide) (Nat.le_of_ble_eq_true rfl) hE (fun J g hr hG hl hR hn => ?_)
  show X J (fun q : Int32 × Mem => (some (Value.int q.1), q.2)) (fX1_passRock φ t M) 0 [(0, .ref t)] [] M
  unfold fX1_passRock
  exact (x_aload_n g 0 dX1_passRock_0 rfl rfl
 (x_getD g fl_RX1_19 rfl ht dX1_passRock_1 (fun vr1 hvr1 =>
 (x_getI g fl_RX1_60 rfl hvr1 dX1_passRock_4
 (x_bipush g dX1_passRock_7 kB_8
 (x_icmp_lt g 22 dX1_passRock_9 rfl
 (fun _ => (x_aload_n g 0 dX1_passRock_22 rfl rfl
 (x_getD g fl_RX1_15 rfl ht dX1_passRock_23 (fun vr2 hvr2 =>
 (x_callVv (As := []) g mv_X6_goOn mi_X6_goOn lk_RX1_64 hvr2 (fun b Mh_ hb => kX6_goOn vr2 M hvr2 _ _ hb) rfl rfl hR ⟨Nat.le_of_ble_eq_true rfl, Nat.le_of_ble_eq_true rfl⟩ (Nat.le_of_ble_eq_true rfl) dX1_passRock_26 (fun vu3 M4 =>
 (x_aload_n g 0 dX1_passRock_29 rfl rfl
 (x_callVip (As := []) g mv_X1_isNewName mi_X1_isNewName lk_RX1_67 ht (fun b hb => kX1_isNewName φ t M4 ht _ _ hb) rfl rfl hR ⟨Nat.le_of_ble_eq_true rfl, Nat.le_of_ble_eq_true rfl⟩ (Nat.le_of_ble_eq_true rfl) dX1_passRock_30 (fun v5 =>
 (x_if_ne g 51 dX1_passRock_33 rfl
 (fun _ => (x_aload_n g 0 dX1_passRock_51 rfl rfl
 (x_getD g fl_RX1_15 rfl ht dX1_passRock_52 (fun vr6 hvr6 =>
 (x_callVlp (As := []) g mv_X6_name mi_X6_name lk_RX1_73 hvr6 (fun b hb => kX6_name vr6 M4 hvr6 _ _ hb) rfl rfl hR ⟨Nat.le_of_ble_eq_true rfl, Nat.le_of_ble_eq_true rfl⟩ (Nat.le_of_ble_eq_true rfl) dX1_passRock_55 (fun vz7 =>
 (x_lstore_n (L' := [(1, .long vz7), (0, .ref t)]) g dX1_passRock_58 rfl hn (Nat.le_of_ble_eq_true rfl) rfl
 (x_aload_n g 1 dX1_passRock_59 rfl rfl
 (x_getD g fl_RX1_15 rfl ht dX1_passRock_60 (fun vr8 hvr8 =>
 (x_callVv (As := []) g mv_X6_goOn mi_X6_goOn lk_RX1_64 hvr8 (fun b Mh_ hb => kX6_goOn vr8 M4 hvr8 _ _ hb) rfl rfl hR ⟨Nat.le_of_ble_eq_true rfl, Nat.le_of_ble_eq_true rfl⟩ (Nat.le_of_ble_eq_true rfl) dX1_passRock_63 (fun vu9 M10 =>
 (x_iconst g dX1_passRock_66 kI_5
 (x_istore_n (L' := [(3, .int (5 : Int32)), (1, .long vz7), (0, .ref t)]) g dX1_passRock_67 rfl hn (Nat.le_of_ble_eq_true rfl) rfl
 (x_aload_n g 2 dX1_passRock_68 rfl rfl
 (x_getD g fl_RX1_15 rfl ht dX1_passRock_69 (fun vr11 hvr11 =>
 (x_callVip (As := []) g mv_X6_word mi_X6_word lk_RX1_37 hvr11 (fun b hb => kX6_word vr11 M10 hvr11 _ _ hb) rfl rfl hR ⟨Nat.le_of_ble_eq_true rfl, Nat.le_of_ble_eq_true rfl⟩ (Nat.le_of_ble_eq_true rfl) dX1_passRock_72 (fun v12 =>
 (x_iconst g dX1_passRock_75 kI_1
 (x_jn (fun (J15 : Int32 → Mem → Option (Int32 × Mem)) => ∀ (v13 : Int32) (M14 : Mem), X J (fun q : Int32 × Mem => (some (Value.int q.1), q.2)) (J15 v13 M14) 109 [(0, .ref t), (1, .long vz7), (3, .int v13)] [] M14) (fun v13 M14 => (x_aload_n g 0 dX1_passRock_109 rfl rfl
 (x_getD g fl_RX1_19 rfl ht dX1_passRock_110 (fun vr16 hvr16 =>
 (x_lload_n g 1 dX1_passRock_113 rfl rfl
 (x_iload_n g 2 dX1_passRock_114 rfl rfl
 (x_callVv (As := [.long vz7, .int v13]) g mv_X2_addRock mi_X2_addRock lk_RX1_84 hvr16 (fun b Mh_ hb => kX2_addRock φ vr16 vz7 v13 M14 hvr16 _ _ hb) rfl rfl hR ⟨Nat.le_of_ble_eq_true rfl, Nat.le_of_ble_eq_true rfl⟩ (Nat.le_of_ble_eq_true rfl) dX1_passRock_115 (fun vu17 M18 =>
 (x_aload_n g 0 dX1_passRock_118 rfl rfl
 (x_getD g fl_RX1_15 rfl ht dX1_passRock_119 (fun vr19 hvr19 =>
 (x_callVi (As := []) g mv_X6_passSemicolon mi_X6_passSemicolon lk_RX1_88 hvr19 (fun b Mh_ hb => kX6_passSemicolon vr19 M18 hvr19 _ _ hb) rfl rfl hR ⟨Nat.le_of_ble_eq_true rfl, Nat.le_of_ble_eq_true rfl⟩ (Nat.le_of_ble_eq_true rfl) dX1_passRock_122 (fun v20 M21 =>
 (x_ck (fun hq22 => x_iret g hr (nbz hq22) rfl dX1_passRock_125))))))))))))))) (fun J15 hJ15 => (x_icmp_ne g 109 dX1_passRock_76 rfl
 (fun _ => (x_sub [2, 1, 0] rfl (hJ15 (5 : Int32) M10)))
 (fun _ => (x_aload_n g 2 dX1_passRock_79 rfl rfl
 (x_getD g fl_RX1_15 rfl ht dX1_passRock_80 (fun vr23 hvr23 =>
 (x_callVv (As := []) g mv_X6_goOn mi_X6_goOn lk_RX1_64 hvr23 (fun b Mh_ hb => kX6_goOn vr23 M10 hvr23 _ _ hb) rfl rfl hR ⟨Nat.le_of_ble_eq_true rfl, Nat.le_of_ble_eq_true rfl⟩ (Nat.le_of_ble_eq_true rfl) dX1_passRock_83 (fun vu24 M25 =>
 (x_aload_n g 2 dX1_passRock_86 rfl rfl
 (x_getD g fl_RX1_15 rfl ht dX1_passRock_87 (fun vr26 hvr26 =>
 (x_callVip (As := []) g mv_X6_value mi_X6_value lk_RX1_77 hvr26 (fun b hb => kX6_value vr26 M25 hvr26 _ _ hb) rfl rfl hR ⟨Nat.le_of_ble_eq_true rfl, Nat.le_of_ble_eq_true rfl⟩ (Nat.le_of_ble_eq_true rfl) dX1_passRock_90 (fun v27 =>
 (x_istore_n (L' := [(3, .int v27), (1, .long vz7), (0, .ref t)]) g dX1_passRock_93 rfl hn (Nat.le_of_ble_eq_true rfl) rfl
 (x_aload_n g 2 dX1_passRock_94 rfl rfl
 (x_getD g fl_RX1_15 rfl ht dX1_passRock_95 (fun vr28 hvr28 =>
 (x_iconst g dX1_passRock_98 kI_0
 (x_bipush g dX1_passRock_99 kB_99
 (x_callVi (As := [.int (0 : Int32), .int (99 : Int32)]) g mv_X6_passNumber mi_X6_passNumber lk_RX1_80 hvr28 (fun b Mh_ hb => kX6_passNumber vr28 (0 : Int32) (99 : Int32) M25 hvr28 _ _ hb) rfl rfl hR ⟨Nat.le_of_ble_eq_true rfl, Nat.le_of_ble_eq_true rfl⟩ (Nat.le_of_ble_eq_true rfl) dX1_passRock_101 (fun v29 M30 =>
 (x_if_ne g 109 dX1_passRock_104 rfl
 (fun _ => (x_sub [2, 1, 0] rfl (hJ15 v27 M30)))
 (fun _ => (x_iconst g dX1_passRock_107 kI_0
 (x_iret g hr rfl rfl dX1_passRock_108))))))))))))))))))))))))))))))))))))))))))))))
 (fun _ => (x_aload_n g 0 dX1_passRock_36 rfl rfl
 (x_getD g fl_RX1_15 rfl ht dX1_passRock_37 (fun vr31 hvr31 =>
 (x_aload_n g 0 dX1_passRock_40 rfl rfl
 (x_getD g fl_RX1_15 rfl ht dX1_passRock_41 (fun vr32 hvr32 =>
 (x_callVip (As := []) g mv_X6_nameFault mi_X6_nameFault lk_RX1_70 hvr32 (fun b hb => kX6_nameFault vr32 M4 hvr32 _ _ hb) rfl rfl hR ⟨Nat.le_of_ble_eq_true rfl, Nat.le_of_ble_eq_true rfl⟩ (Nat.le_of_ble_eq_true rfl) dX1_passRock_44 (fun v33 =>
 (x_callVi (As := [.int v33]) g mv_X6_refuseToken mi_X6_refuseToken lk_RX1_56 hvr31 (fun b Mh_ hb => kX6_refuseToken vr31 v33 M4 hvr31 _ _ hb) rfl rfl hR ⟨Nat.le_of_ble_eq_true rfl, Nat.le_of_ble_eq_true rfl⟩ (Nat.le_of_ble_eq_true rfl) dX1_passRock_47 (fun v34 M35 =>
 (x_ck (fun hq36 => x_iret g hr (nbz hq36) rfl dX1_passRock_50)))))))))))))))))))))))
 (fun _ => (x_aload_n g 0 dX1_passRock_12 rfl rfl
 (x_getD g fl_RX1_15 rfl ht dX1_passRock_13 (fun vr37 hvr37 =>
 (x_bipush g dX1_passRock_16 kB_6
 (x_callVi (As := [.int (6 : Int32)]) g mv_X6_refuseToken mi_X6_refuseToken lk_RX1_56 hvr37 (fun b Mh_ hb => kX6_refuseToken vr37 (6 : Int32) M hvr37 _ _ hb) rfl rfl hR ⟨Nat.le_of_ble_eq_true rfl, Nat.le_of_ble_eq_true rfl⟩ (Nat.le_of_ble_eq_true rfl) dX1_passRock_18 (fun v38 M39 =>
 (x_ck (fun hq40 => x_iret g hr (nbz hq40) rfl dX1_passRock_21)))))))))))))))
