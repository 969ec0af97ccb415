theorem dX0_init_0 : decode cX0_init 0 = .ok (.aload_n 0, 1) := by decide +kernel
theorem dX0_init_1 : decode cX0_init 1 = .ok (.invokespecial 3, 3) := by decide +kernel
theorem dX0_init_4 : decode cX0_init 4 = .ok (.aload_n 0, 1) := by decide +kernel
theorem dX0_init_5 : decode cX0_init 5 = .ok (.bipush 16, 2) := by decide +kernel
theorem dX0_init_7 : decode cX0_init 7 = .ok (.bipush 64, 2) := by decide +kernel
theorem dX0_init_9 : decode cX0_init 9 = .ok (.multianewarray 9 2, 4) := by decide +kernel
theorem dX0_init_13 : decode cX0_init 13 = .ok (.putfield 11, 3) := by decide +kernel
theorem dX0_init_16 : decode cX0_init 16 = .ok (.return_, 1) := by decide +kernel
theorem dX0_forget_0 : decode cX0_forget 0 = .ok (.aload_n 0, 1) := by decide +kernel
theorem dX0_forget_1 : decode cX0_forget 1 = .ok (.dup, 1) := by decide +kernel
theorem dX0_forget_2 : decode cX0_forget 2 = .ok (.getfield 16, 3) := by decide +kernel
theorem dX0_forget_5 : decode cX0_forget 5 = .ok (.iconst 1, 1) := by decide +kernel
theorem dX0_forget_6 : decode cX0_forget 6 = .ok (.iload_n 1, 1) := by decide +kernel
theorem dX0_forget_7 : decode cX0_forget 7 = .ok (.ishl, 1) := by decide +kernel
theorem dX0_forget_8 : decode cX0_forget 8 = .ok (.ior, 1) := by decide +kernel
theorem dX0_forget_9 : decode cX0_forget 9 = .ok (.putfield 16, 3) := by decide +kernel
theorem dX0_forget_12 : decode cX0_forget 12 = .ok (.return_, 1) := by decide +kernel
theorem dX0_valueOf_0 : decode cX0_valueOf 0 = .ok (.aload_n 0, 1) := by decide +kernel
theorem dX0_valueOf_1 : decode cX0_valueOf 1 = .ok (.aload_n 1, 1) := by decide +kernel
theorem dX0_valueOf_2 : decode cX0_valueOf 2 = .ok (.invokevirtual 20, 3) := by decide +kernel
theorem dX0_valueOf_5 : decode cX0_valueOf 5 = .ok (.aload_n 0, 1) := by decide +kernel
theorem dX0_valueOf_6 : decode cX0_valueOf 6 = .ok (.getfield 11, 3) := by decide +kernel
theorem dX0_valueOf_9 : decode cX0_valueOf 9 = .ok (.iload_n 2, 1) := by decide +kernel
theorem dX0_valueOf_10 : decode cX0_valueOf 10 = .ok (.aaload, 1) := by decide +kernel
theorem dX0_valueOf_11 : decode cX0_valueOf 11 = .ok (.aload_n 1, 1) := by decide +kernel
theorem dX0_valueOf_12 : decode cX0_valueOf 12 = .ok (.iload_n 2, 1) := by decide +kernel
theorem dX0_valueOf_13 : decode cX0_valueOf 13 = .ok (.invokestatic 24, 3) := by decide +kernel
theorem dX0_valueOf_16 : decode cX0_valueOf 16 = .ok (.iaload, 1) := by decide +kernel
theorem dX0_valueOf_17 : decode cX0_valueOf 17 = .ok (.ireturn, 1) := by decide +kernel
theorem dX0_betterBy_0 : decode cX0_betterBy 0 = .ok (.aload_n 0, 1) := by decide +kernel
theorem dX0_betterBy_1 : decode cX0_betterBy 1 = .ok (.aload_n 1, 1) := by decide +kernel
theorem dX0_betterBy_2 : decode cX0_betterBy 2 = .ok (.iload_n 2, 1) := by decide +kernel
theorem dX0_betterBy_3 : decode cX0_betterBy 3 = .ok (.invokevirtual 28, 3) := by decide +kernel
theorem dX0_betterBy_6 : decode cX0_betterBy 6 = .ok (.istore_n 3, 1) := by decide +kernel
theorem dX0_betterBy_7 : decode cX0_betterBy 7 = .ok (.iload_n 3, 1) := by decide +kernel
theorem dX0_betterBy_8 : decode cX0_betterBy 8 = .ok (.ldc 31, 2) := by decide +kernel
theorem dX0_betterBy_10 : decode cX0_betterBy 10 = .ok (.if_icmp .ne 5, 3) := by decide +kernel
theorem dX0_betterBy_13 : decode cX0_betterBy 13 = .ok (.iconst 0, 1) := by decide +kernel
theorem dX0_betterBy_14 : decode cX0_betterBy 14 = .ok (.ireturn, 1) := by decide +kernel
theorem dX0_betterBy_15 : decode cX0_betterBy 15 = .ok (.iconst 0, 1) := by decide +kernel
theorem dX0_betterBy_16 : decode cX0_betterBy 16 = .ok (.istore 4, 2) := by decide +kernel
theorem dX0_betterBy_18 : decode cX0_betterBy 18 = .ok (.iload 4, 2) := by decide +kernel
theorem dX0_betterBy_20 : decode cX0_betterBy 20 = .ok (.iconst 4, 1) := by decide +kernel
theorem dX0_betterBy_21 : decode cX0_betterBy 21 = .ok (.if_icmp .ge 39, 3) := by decide +kernel
theorem dX0_betterBy_24 : decode cX0_betterBy 24 = .ok (.iload_n 2, 1) := by decide +kernel
theorem dX0_betterBy_25 : decode cX0_betterBy 25 = .ok (.iload 4, 2) := by decide +kernel
theorem dX0_betterBy_27 : decode cX0_betterBy 27 = .ok (.invokestatic 32, 3) := by decide +kernel
theorem dX0_betterBy_30 : decode cX0_betterBy 30 = .ok (.ifCond .eq 24, 3) := by decide +kernel
theorem dX0_betterBy_33 : decode cX0_betterBy 33 = .ok (.iload_n 3, 1) := by decide +kernel
theorem dX0_betterBy_34 : decode cX0_betterBy 34 = .ok (.aload_n 1, 1) := by decide +kernel
theorem dX0_betterBy_35 : decode cX0_betterBy 35 = .ok (.iload 4, 2) := by decide +kernel
theorem dX0_betterBy_37 : decode cX0_betterBy 37 = .ok (.aaload, 1) := by decide +kernel
theorem dX0_betterBy_38 : decode cX0_betterBy 38 = .ok (.getfield 36, 3) := by decide +kernel
theorem dX0_betterBy_41 : decode cX0_betterBy 41 = .ok (.getfield 42, 3) := by decide +kernel
theorem dX0_betterBy_44 : decode cX0_betterBy 44 = .ok (.aload_n 1, 1) := by decide +kernel
theorem dX0_betterBy_45 : decode cX0_betterBy 45 = .ok (.iload 4, 2) := by decide +kernel
theorem dX0_betterBy_47 : decode cX0_betterBy 47 = .ok (.aaload, 1) := by decide +kernel
theorem dX0_betterBy_48 : decode cX0_betterBy 48 = .ok (.getfield 48, 3) := by decide +kernel
theorem dX0_betterBy_51 : decode cX0_betterBy 51 = .ok (.iaload, 1) := by decide +kernel
theorem dX0_betterBy_52 : decode cX0_betterBy 52 = .ok (.isub, 1) := by decide +kernel
theorem dX0_betterBy_53 : decode cX0_betterBy 53 = .ok (.istore_n 3, 1) := by decide +kernel
theorem dX0_betterBy_54 : decode cX0_betterBy 54 = .ok (.iinc 4 1, 3) := by decide +kernel
theorem dX0_betterBy_57 : decode cX0_betterBy 57 = .ok (.goto (-39), 3) := by decide +kernel
theorem dX0_betterBy_60 : decode cX0_betterBy 60 = .ok (.iload_n 3, 1) := by decide +kernel
theorem dX0_betterBy_61 : decode cX0_betterBy 61 = .ok (.ireturn, 1) := by decide +kernel
theorem dX0_shareOf_0 : decode cX0_shareOf 0 = .ok (.lconst 0, 1) := by decide +kernel
theorem dX0_shareOf_1 : decode cX0_shareOf 1 = .ok (.lstore_n 3, 1) := by decide +kernel
theorem dX0_shareOf_2 : decode cX0_shareOf 2 = .ok (.iconst 1, 1) := by decide +kernel
theorem dX0_shareOf_3 : decode cX0_shareOf 3 = .ok (.iload_n 2, 1) := by decide +kernel
theorem dX0_shareOf_4 : decode cX0_shareOf 4 = .ok (.ishl, 1) := by decide +kernel
theorem dX0_shareOf_5 : decode cX0_shareOf 5 = .ok (.istore 5, 2) := by decide +kernel
theorem dX0_shareOf_7 : decode cX0_shareOf 7 = .ok (.iconst 0, 1) := by decide +kernel
theorem dX0_shareOf_8 : decode cX0_shareOf 8 = .ok (.istore 6, 2) := by decide +kernel
theorem dX0_shareOf_10 : decode cX0_shareOf 10 = .ok (.iload 6, 2) := by decide +kernel
theorem dX0_shareOf_12 : decode cX0_shareOf 12 = .ok (.bipush 16, 2) := by decide +kernel
theorem dX0_shareOf_14 : decode cX0_shareOf 14 = .ok (.if_icmp .ge 53, 3) := by decide +kernel
theorem dX0_shareOf_17 : decode cX0_shareOf 17 = .ok (.iload 6, 2) := by decide +kernel
theorem dX0_shareOf_19 : decode cX0_shareOf 19 = .ok (.iload 5, 2) := by decide +kernel
theorem dX0_shareOf_21 : decode cX0_shareOf 21 = .ok (.iand, 1) := by decide +kernel
theorem dX0_shareOf_22 : decode cX0_shareOf 22 = .ok (.ifCond .ne 39, 3) := by decide +kernel
theorem dX0_shareOf_25 : decode cX0_shareOf 25 = .ok (.aload_n 0, 1) := by decide +kernel
theorem dX0_shareOf_26 : decode cX0_shareOf 26 = .ok (.aload_n 1, 1) := by decide +kernel
theorem dX0_shareOf_27 : decode cX0_shareOf 27 = .ok (.iload 6, 2) := by decide +kernel
theorem dX0_shareOf_29 : decode cX0_shareOf 29 = .ok (.iload 5, 2) := by decide +kernel
theorem dX0_shareOf_31 : decode cX0_shareOf 31 = .ok (.ior, 1) := by decide +kernel
theorem dX0_shareOf_32 : decode cX0_shareOf 32 = .ok (.invokevirtual 51, 3) := by decide +kernel
theorem dX0_shareOf_35 : decode cX0_shareOf 35 = .ok (.aload_n 0, 1) := by decide +kernel
theorem dX0_shareOf_36 : decode cX0_shareOf 36 = .ok (.aload_n 1, 1) := by decide +kernel
theorem dX0_shareOf_37 : decode cX0_shareOf 37 = .ok (.iload 6, 2) := by decide +kernel
theorem dX0_shareOf_39 : decode cX0_shareOf 39 = .ok (.invokevirtual 51, 3) := by decide +kernel
theorem dX0_shareOf_42 : decode cX0_shareOf 42 = .ok (.isub, 1) := by decide +kernel
theorem dX0_shareOf_43 : decode cX0_shareOf 43 = .ok (.istore 7, 2) := by decide +kernel
theorem dX0_shareOf_45 : decode cX0_shareOf 45 = .ok (.lload_n 3, 1) := by decide +kernel
theorem dX0_shareOf_46 : decode cX0_shareOf 46 = .ok (.iload 6, 2) := by decide +kernel
theorem dX0_shareOf_48 : decode cX0_shareOf 48 = .ok (.invokestatic 54, 3) := by decide +kernel
theorem dX0_shareOf_51 : decode cX0_shareOf 51 = .ok (.invokestatic 60, 3) := by decide +kernel
theorem dX0_shareOf_54 : decode cX0_shareOf 54 = .ok (.i2l, 1) := by decide +kernel
theorem dX0_shareOf_55 : decode cX0_shareOf 55 = .ok (.iload 7, 2) := by decide +kernel
theorem dX0_shareOf_57 : decode cX0_shareOf 57 = .ok (.i2l, 1) := by decide +kernel
theorem dX0_shareOf_58 : decode cX0_shareOf 58 = .ok (.lmul, 1) := by decide +kernel
theorem dX0_shareOf_59 : decode cX0_shareOf 59 = .ok (.ladd, 1) := by decide +kernel
theorem dX0_shareOf_60 : decode cX0_shareOf 60 = .ok (.lstore_n 3, 1) := by decide +kernel
theorem dX0_shareOf_61 : decode cX0_shareOf 61 = .ok (.iinc 6 1, 3) := by decide +kernel
theorem dX0_shareOf_64 : decode cX0_shareOf 64 = .ok (.goto (-54), 3) := by decide +kernel
theorem dX0_shareOf_67 : decode cX0_shareOf 67 = .ok (.lload_n 3, 1) := by decide +kernel
theorem dX0_shareOf_68 : decode cX0_shareOf 68 = .ok (.lreturn, 1) := by decide +kernel
theorem dX0_ordersWith_0 : decode cX0_ordersWith 0 = .ok (.iload_n 0, 1) := by decide +kernel
theorem dX0_ordersWith_1 : decode cX0_ordersWith 1 = .ok (.ifCond .lt 19, 3) := by decide +kernel
theorem dX0_ordersWith_4 : decode cX0_ordersWith 4 = .ok (.iload_n 0, 1) := by decide +kernel
theorem dX0_ordersWith_5 : decode cX0_ordersWith 5 = .ok (.getstatic 63, 3) := by decide +kernel
theorem dX0_ordersWith_8 : decode cX0_ordersWith 8 = .ok (.arraylength, 1) := by decide +kernel
theorem dX0_ordersWith_9 : decode cX0_ordersWith 9 = .ok (.if_icmp .ge 11, 3) := by decide +kernel
theorem dX0_ordersWith_12 : decode cX0_ordersWith 12 = .ok (.getstatic 63, 3) := by decide +kernel
theorem dX0_ordersWith_15 : decode cX0_ordersWith 15 = .ok (.iload_n 0, 1) := by decide +kernel
theorem dX0_ordersWith_16 : decode cX0_ordersWith 16 = .ok (.iaload, 1) := by decide +kernel
theorem dX0_ordersWith_17 : decode cX0_ordersWith 17 = .ok (.goto 4, 3) := by decide +kernel
theorem dX0_ordersWith_20 : decode cX0_ordersWith 20 = .ok (.iconst 0, 1) := by decide +kernel
theorem dX0_ordersWith_21 : decode cX0_ordersWith 21 = .ok (.ireturn, 1) := by decide +kernel
theorem dX0_valueOrZero_0 : decode cX0_valueOrZero 0 = .ok (.iload_n 2, 1) := by decide +kernel
theorem dX0_valueOrZero_1 : decode cX0_valueOrZero 1 = .ok (.ifCond .ne 8, 3) := by decide +kernel
theorem dX0_valueOrZero_4 : decode cX0_valueOrZero 4 = .ok (.ldc 31, 2) := by decide +kernel
theorem dX0_valueOrZero_6 : decode cX0_valueOrZero 6 = .ok (.goto 9, 3) := by decide +kernel
theorem dX0_valueOrZero_9 : decode cX0_valueOrZero 9 = .ok (.aload_n 0, 1) := by decide +kernel
theorem dX0_valueOrZero_10 : decode cX0_valueOrZero 10 = .ok (.aload_n 1, 1) := by decide +kernel
theorem dX0_valueOrZero_11 : decode cX0_valueOrZero 11 = .ok (.iload_n 2, 1) := by decide +kernel
theorem dX0_valueOrZero_12 : decode cX0_valueOrZero 12 = .ok (.invokevirtual 28, 3) := by decide +kernel
theorem dX0_valueOrZero_15 : decode cX0_valueOrZero 15 = .ok (.istore_n 3, 1) := by decide +kernel
theorem dX0_valueOrZero_16 : decode cX0_valueOrZero 16 = .ok (.iload_n 3, 1) := by decide +kernel
theorem dX0_valueOrZero_17 : decode cX0_valueOrZero 17 = .ok (.ldc 31, 2) := by decide +kernel
theorem dX0_valueOrZero_19 : decode cX0_valueOrZero 19 = .ok (.if_icmp .ne 7, 3) := by decide +kernel
theorem dX0_valueOrZero_22 : decode cX0_valueOrZero 22 = .ok (.iconst 0, 1) := by decide +kernel
theorem dX0_valueOrZero_23 : decode cX0_valueOrZero 23 = .ok (.goto 4, 3) := by decide +kernel
theorem dX0_valueOrZero_26 : decode cX0_valueOrZero 26 = .ok (.iload_n 3, 1) := by decide +kernel
theorem dX0_valueOrZero_27 : decode cX0_valueOrZero 27 = .ok (.ireturn, 1) := by decide +kernel
theorem dX0_thingsOf_0 : decode cX0_thingsOf 0 = .ok (.iconst 0, 1) := by decide +kernel
theorem dX0_thingsOf_1 : decode cX0_thingsOf 1 = .ok (.istore_n 2, 1) := by decide +kernel
theorem dX0_thingsOf_2 : decode cX0_thingsOf 2 = .ok (.iconst 0, 1) := by decide +kernel
theorem dX0_thingsOf_3 : decode cX0_thingsOf 3 = .ok (.istore_n 3, 1) := by decide +kernel
theorem dX0_thingsOf_4 : decode cX0_thingsOf 4 = .ok (.iload_n 3, 1) := by decide +kernel
theorem dX0_thingsOf_5 : decode cX0_thingsOf 5 = .ok (.iconst 4, 1) := by decide +kernel
theorem dX0_thingsOf_6 : decode cX0_thingsOf 6 = .ok (.if_icmp .ge 26, 3) := by decide +kernel
theorem dX0_thingsOf_9 : decode cX0_thingsOf 9 = .ok (.iload_n 1, 1) := by decide +kernel
theorem dX0_thingsOf_10 : decode cX0_thingsOf 10 = .ok (.iload_n 3, 1) := by decide +kernel
theorem dX0_thingsOf_11 : decode cX0_thingsOf 11 = .ok (.invokestatic 32, 3) := by decide +kernel
theorem dX0_thingsOf_14 : decode cX0_thingsOf 14 = .ok (.ifCond .eq 12, 3) := by decide +kernel
theorem dX0_thingsOf_17 : decode cX0_thingsOf 17 = .ok (.iload_n 2, 1) := by decide +kernel
theorem dX0_thingsOf_18 : decode cX0_thingsOf 18 = .ok (.aload_n 0, 1) := by decide +kernel
theorem dX0_thingsOf_19 : decode cX0_thingsOf 19 = .ok (.iload_n 3, 1) := by decide +kernel
theorem dX0_thingsOf_20 : decode cX0_thingsOf 20 = .ok (.aaload, 1) := by decide +kernel
theorem dX0_thingsOf_21 : decode cX0_thingsOf 21 = .ok (.getfield 48, 3) := by decide +kernel
theorem dX0_thingsOf_24 : decode cX0_thingsOf 24 = .ok (.ior, 1) := by decide +kernel
theorem dX0_thingsOf_25 : decode cX0_thingsOf 25 = .ok (.istore_n 2, 1) := by decide +kernel
theorem dX0_thingsOf_26 : decode cX0_thingsOf 26 = .ok (.iinc 3 1, 3) := by decide +kernel
theorem dX0_thingsOf_29 : decode cX0_thingsOf 29 = .ok (.goto (-25), 3) := by decide +kernel
theorem dX0_thingsOf_32 : decode cX0_thingsOf 32 = .ok (.iload_n 2, 1) := by decide +kernel
theorem dX0_thingsOf_33 : decode cX0_thingsOf 33 = .ok (.ireturn, 1) := by decide +kernel
theorem dX0_renew_0 : decode cX0_renew 0 = .ok (.iconst 1, 1) := by decide +kernel
theorem dX0_renew_1 : decode cX0_renew 1 = .ok (.istore_n 2, 1) := by decide +kernel
theorem dX0_renew_2 : decode cX0_renew 2 = .ok (.iload_n 2, 1) := by decide +kernel
theorem dX0_renew_3 : decode cX0_renew 3 = .ok (.bipush 16, 2) := by decide +kernel
theorem dX0_renew_5 : decode cX0_renew 5 = .ok (.if_icmp .ge 31, 3) := by decide +kernel
theorem dX0_renew_8 : decode cX0_renew 8 = .ok (.aload_n 0, 1) := by decide +kernel
theorem dX0_renew_9 : decode cX0_renew 9 = .ok (.getfield 16, 3) := by decide +kernel
theorem dX0_renew_12 : decode cX0_renew 12 = .ok (.ifCond .eq 24, 3) := by decide +kernel
theorem dX0_renew_15 : decode cX0_renew 15 = .ok (.iload_n 2, 1) := by decide +kernel
theorem dX0_renew_16 : decode cX0_renew 16 = .ok (.aload_n 0, 1) := by decide +kernel
theorem dX0_renew_17 : decode cX0_renew 17 = .ok (.getfield 16, 3) := by decide +kernel
theorem dX0_renew_20 : decode cX0_renew 20 = .ok (.iand, 1) := by decide +kernel
theorem dX0_renew_21 : decode cX0_renew 21 = .ok (.ifCond .eq 9, 3) := by decide +kernel
theorem dX0_renew_24 : decode cX0_renew 24 = .ok (.aload_n 0, 1) := by decide +kernel
theorem dX0_renew_25 : decode cX0_renew 25 = .ok (.aload_n 1, 1) := by decide +kernel
theorem dX0_renew_26 : decode cX0_renew 26 = .ok (.iload_n 2, 1) := by decide +kernel
theorem dX0_renew_27 : decode cX0_renew 27 = .ok (.invokevirtual 66, 3) := by decide +kernel
theorem dX0_renew_30 : decode cX0_renew 30 = .ok (.iinc 2 1, 3) := by decide +kernel
theorem dX0_renew_33 : decode cX0_renew 33 = .ok (.goto (-31), 3) := by decide +kernel
theorem dX0_renew_36 : decode cX0_renew 36 = .ok (.aload_n 0, 1) := by decide +kernel
theorem dX0_renew_37 : decode cX0_renew 37 = .ok (.iconst 0, 1) := by decide +kernel
theorem dX0_renew_38 : decode cX0_renew 38 = .ok (.putfield 16, 3) := by decide +kernel
theorem dX0_renew_41 : decode cX0_renew 41 = .ok (.return_, 1) := by decide +kernel
theorem dX0_fill_0 : decode cX0_fill 0 = .ok (.iload_n 2, 1) := by decide +kernel
theorem dX0_fill_1 : decode cX0_fill 1 = .ok (.iload_n 2, 1) := by decide +kernel
theorem dX0_fill_2 : decode cX0_fill 2 = .ok (.iconst 1, 1) := by decide +kernel
theorem dX0_fill_3 : decode cX0_fill 3 = .ok (.isub, 1) := by decide +kernel
theorem dX0_fill_4 : decode cX0_fill 4 = .ok (.iand, 1) := by decide +kernel
theorem dX0_fill_5 : decode cX0_fill 5 = .ok (.istore_n 3, 1) := by decide +kernel
theorem dX0_fill_6 : decode cX0_fill 6 = .ok (.aload_n 1, 1) := by decide +kernel
theorem dX0_fill_7 : decode cX0_fill 7 = .ok (.iload_n 2, 1) := by decide +kernel
theorem dX0_fill_8 : decode cX0_fill 8 = .ok (.invokestatic 70, 3) := by decide +kernel
theorem dX0_fill_11 : decode cX0_fill 11 = .ok (.aaload, 1) := by decide +kernel
theorem dX0_fill_12 : decode cX0_fill 12 = .ok (.getfield 36, 3) := by decide +kernel
theorem dX0_fill_15 : decode cX0_fill 15 = .ok (.astore 4, 2) := by decide +kernel
theorem dX0_fill_17 : decode cX0_fill 17 = .ok (.iconst 0, 1) := by decide +kernel
theorem dX0_fill_18 : decode cX0_fill 18 = .ok (.istore 5, 2) := by decide +kernel
theorem dX0_fill_20 : decode cX0_fill 20 = .ok (.iload 5, 2) := by decide +kernel
theorem dX0_fill_22 : decode cX0_fill 22 = .ok (.bipush 64, 2) := by decide +kernel
theorem dX0_fill_24 : decode cX0_fill 24 = .ok (.if_icmp .ge 45, 3) := by decide +kernel
theorem dX0_fill_27 : decode cX0_fill 27 = .ok (.aload_n 0, 1) := by decide +kernel
theorem dX0_fill_28 : decode cX0_fill 28 = .ok (.getfield 11, 3) := by decide +kernel
theorem dX0_fill_31 : decode cX0_fill 31 = .ok (.iload_n 2, 1) := by decide +kernel
theorem dX0_fill_32 : decode cX0_fill 32 = .ok (.aaload, 1) := by decide +kernel
theorem dX0_fill_33 : decode cX0_fill 33 = .ok (.iload 5, 2) := by decide +kernel
theorem dX0_fill_35 : decode cX0_fill 35 = .ok (.iload_n 3, 1) := by decide +kernel
theorem dX0_fill_36 : decode cX0_fill 36 = .ok (.ifCond .ne 13, 3) := by decide +kernel
theorem dX0_fill_39 : decode cX0_fill 39 = .ok (.aload 4, 2) := by decide +kernel
theorem dX0_fill_41 : decode cX0_fill 41 = .ok (.iload 5, 2) := by decide +kernel
theorem dX0_fill_43 : decode cX0_fill 43 = .ok (.invokestatic 73, 3) := by decide +kernel
theorem dX0_fill_46 : decode cX0_fill 46 = .ok (.goto 16, 3) := by decide +kernel
theorem dX0_fill_49 : decode cX0_fill 49 = .ok (.aload 4, 2) := by decide +kernel
theorem dX0_fill_51 : decode cX0_fill 51 = .ok (.aload_n 0, 1) := by decide +kernel
theorem dX0_fill_52 : decode cX0_fill 52 = .ok (.getfield 11, 3) := by decide +kernel
theorem dX0_fill_55 : decode cX0_fill 55 = .ok (.iload_n 3, 1) := by decide +kernel
theorem dX0_fill_56 : decode cX0_fill 56 = .ok (.aaload, 1) := by decide +kernel
theorem dX0_fill_57 : decode cX0_fill 57 = .ok (.iload 5, 2) := by decide +kernel
theorem dX0_fill_59 : decode cX0_fill 59 = .ok (.invokestatic 77, 3) := by decide +kernel
theorem dX0_fill_62 : decode cX0_fill 62 = .ok (.iastore, 1) := by decide +kernel
theorem dX0_fill_63 : decode cX0_fill 63 = .ok (.iinc 5 1, 3) := by decide +kernel
theorem dX0_fill_66 : decode cX0_fill 66 = .ok (.goto (-46), 3) := by decide +kernel
theorem dX0_fill_69 : decode cX0_fill 69 = .ok (.return_, 1) := by decide +kernel
theorem dX0_worthOrNone_0 : decode cX0_worthOrNone 0 = .ok (.aload_n 0, 1) := by decide +kernel
theorem dX0_worthOrNone_1 : decode cX0_worthOrNone 1 = .ok (.getfield 81, 3) := by decide +kernel
theorem dX0_worthOrNone_4 : decode cX0_worthOrNone 4 = .ok (.iload_n 1, 1) := by decide +kernel
theorem dX0_worthOrNone_5 : decode cX0_worthOrNone 5 = .ok (.baload, 1) := by decide +kernel
theorem dX0_worthOrNone_6 : decode cX0_worthOrNone 6 = .ok (.ifCond .eq 8, 3) := by decide +kernel
theorem dX0_worthOrNone_9 : decode cX0_worthOrNone 9 = .ok (.ldc 31, 2) := by decide +kernel
theorem dX0_worthOrNone_11 : decode cX0_worthOrNone 11 = .ok (.goto 9, 3) := by decide +kernel
theorem dX0_worthOrNone_14 : decode cX0_worthOrNone 14 = .ok (.aload_n 0, 1) := by decide +kernel
theorem dX0_worthOrNone_15 : decode cX0_worthOrNone 15 = .ok (.getfield 42, 3) := by decide +kernel
theorem dX0_worthOrNone_18 : decode cX0_worthOrNone 18 = .ok (.iload_n 1, 1) := by decide +kernel
theorem dX0_worthOrNone_19 : decode cX0_worthOrNone 19 = .ok (.iaload, 1) := by decide +kernel
theorem dX0_worthOrNone_20 : decode cX0_worthOrNone 20 = .ok (.ireturn, 1) := by decide +kernel
theorem dX0_mostParted_0 : decode cX0_mostParted 0 = .ok (.aload_n 1, 1) := by decide +kernel
theorem dX0_mostParted_1 : decode cX0_mostParted 1 = .ok (.iload_n 2, 1) := by decide +kernel
theorem dX0_mostParted_2 : decode cX0_mostParted 2 = .ok (.iaload, 1) := by decide +kernel
theorem dX0_mostParted_3 : decode cX0_mostParted 3 = .ok (.istore_n 3, 1) := by decide +kernel
theorem dX0_mostParted_4 : decode cX0_mostParted 4 = .ok (.iload_n 2, 1) := by decide +kernel
theorem dX0_mostParted_5 : decode cX0_mostParted 5 = .ok (.istore 4, 2) := by decide +kernel
theorem dX0_mostParted_7 : decode cX0_mostParted 7 = .ok (.iload 4, 2) := by decide +kernel
theorem dX0_mostParted_9 : decode cX0_mostParted 9 = .ok (.ifCond .le 54, 3) := by decide +kernel
theorem dX0_mostParted_12 : decode cX0_mostParted 12 = .ok (.aload_n 1, 1) := by decide +kernel
theorem dX0_mostParted_13 : decode cX0_mostParted 13 = .ok (.iload_n 2, 1) := by decide +kernel
theorem dX0_mostParted_14 : decode cX0_mostParted 14 = .ok (.iload 4, 2) := by decide +kernel
theorem dX0_mostParted_16 : decode cX0_mostParted 16 = .ok (.ixor, 1) := by decide +kernel
theorem dX0_mostParted_17 : decode cX0_mostParted 17 = .ok (.iaload, 1) := by decide +kernel
theorem dX0_mostParted_18 : decode cX0_mostParted 18 = .ok (.istore 5, 2) := by decide +kernel
theorem dX0_mostParted_20 : decode cX0_mostParted 20 = .ok (.iload 5, 2) := by decide +kernel
theorem dX0_mostParted_22 : decode cX0_mostParted 22 = .ok (.ldc 31, 2) := by decide +kernel
theorem dX0_mostParted_24 : decode cX0_mostParted 24 = .ok (.if_icmp .eq 28, 3) := by decide +kernel
theorem dX0_mostParted_27 : decode cX0_mostParted 27 = .ok (.aload_n 0, 1) := by decide +kernel
theorem dX0_mostParted_28 : decode cX0_mostParted 28 = .ok (.getfield 81, 3) := by decide +kernel
theorem dX0_mostParted_31 : decode cX0_mostParted 31 = .ok (.iload 4, 2) := by decide +kernel
theorem dX0_mostParted_33 : decode cX0_mostParted 33 = .ok (.baload, 1) := by decide +kernel
theorem dX0_mostParted_34 : decode cX0_mostParted 34 = .ok (.ifCond .ne 18, 3) := by decide +kernel
theorem dX0_mostParted_37 : decode cX0_mostParted 37 = .ok (.iload_n 3, 1) := by decide +kernel
theorem dX0_mostParted_38 : decode cX0_mostParted 38 = .ok (.iload 5, 2) := by decide +kernel
theorem dX0_mostParted_40 : decode cX0_mostParted 40 = .ok (.aload_n 0, 1) := by decide +kernel
theorem dX0_mostParted_41 : decode cX0_mostParted 41 = .ok (.getfield 42, 3) := by decide +kernel
theorem dX0_mostParted_44 : decode cX0_mostParted 44 = .ok (.iload 4, 2) := by decide +kernel
theorem dX0_mostParted_46 : decode cX0_mostParted 46 = .ok (.iaload, 1) := by decide +kernel
theorem dX0_mostParted_47 : decode cX0_mostParted 47 = .ok (.iadd, 1) := by decide +kernel
theorem dX0_mostParted_48 : decode cX0_mostParted 48 = .ok (.invokestatic 85, 3) := by decide +kernel
theorem dX0_mostParted_51 : decode cX0_mostParted 51 = .ok (.istore_n 3, 1) := by decide +kernel
theorem dX0_mostParted_52 : decode cX0_mostParted 52 = .ok (.iload 4, 2) := by decide +kernel
theorem dX0_mostParted_54 : decode cX0_mostParted 54 = .ok (.iconst 1, 1) := by decide +kernel
theorem dX0_mostParted_55 : decode cX0_mostParted 55 = .ok (.isub, 1) := by decide +kernel
theorem dX0_mostParted_56 : decode cX0_mostParted 56 = .ok (.iload_n 2, 1) := by decide +kernel
theorem dX0_mostParted_57 : decode cX0_mostParted 57 = .ok (.iand, 1) := by decide +kernel
theorem dX0_mostParted_58 : decode cX0_mostParted 58 = .ok (.istore 4, 2) := by decide +kernel
theorem dX0_mostParted_60 : decode cX0_mostParted 60 = .ok (.goto (-53), 3) := by decide +kernel
theorem dX0_mostParted_63 : decode cX0_mostParted 63 = .ok (.iload_n 3, 1) := by decide +kernel
theorem dX0_mostParted_64 : decode cX0_mostParted 64 = .ok (.ireturn, 1) := by decide +kernel
theorem dX1_init_0 : decode cX1_init 0 = .ok (.aload_n 0, 1) := by decide +kernel
theorem dX1_init_1 : decode cX1_init 1 = .ok (.invokespecial 1, 3) := by decide +kernel
theorem dX1_init_4 : decode cX1_init 4 = .ok (.aload_n 0, 1) := by decide +kernel
theorem dX1_init_5 : decode cX1_init 5 = .ok (.sipush 1000, 3) := by decide +kernel
theorem dX1_init_8 : decode cX1_init 8 = .ok (.putfield 7, 3) := by decide +kernel
theorem dX1_init_11 : decode cX1_init 11 = .ok (.aload_n 0, 1) := by decide +kernel
theorem dX1_init_12 : decode cX1_init 12 = .ok (.bipush 100, 2) := by decide +kernel
theorem dX1_init_14 : decode cX1_init 14 = .ok (.putfield 13, 3) := by decide +kernel
theorem dX1_init_17 : decode cX1_init 17 = .ok (.aload_n 0, 1) := by decide +kernel
theorem dX1_init_18 : decode cX1_init 18 = .ok (.bipush 10, 2) := by decide +kernel
theorem dX1_init_20 : decode cX1_init 20 = .ok (.putfield 16, 3) := by decide +kernel
theorem dX1_init_23 : decode cX1_init 23 = .ok (.aload_n 0, 1) := by decide +kernel
theorem dX1_init_24 : decode cX1_init 24 = .ok (.new 19, 3) := by decide +kernel
theorem dX1_init_27 : decode cX1_init 27 = .ok (.dup, 1) := by decide +kernel
theorem dX1_init_28 : decode cX1_init 28 = .ok (.invokespecial 21, 3) := by decide +kernel
theorem dX1_init_31 : decode cX1_init 31 = .ok (.putfield 22, 3) := by decide +kernel
theorem dX1_init_34 : decode cX1_init 34 = .ok (.return_, 1) := by decide +kernel
theorem dX1_change_0 : decode cX1_change 0 = .ok (.iload_n 1, 1) := by decide +kernel
theorem dX1_change_1 : decode cX1_change 1 = .ok (.ifCond .ne 16, 3) := by decide +kernel
theorem dX1_change_4 : decode cX1_change 4 = .ok (.aload_n 0, 1) := by decide +kernel
theorem dX1_change_5 : decode cX1_change 5 = .ok (.getfield 26, 3) := by decide +kernel
theorem dX1_change_8 : decode cX1_change 8 = .ok (.istore_n 3, 1) := by decide +kernel
theorem dX1_change_9 : decode cX1_change 9 = .ok (.aload_n 0, 1) := by decide +kernel
theorem dX1_change_10 : decode cX1_change 10 = .ok (.iload_n 2, 1) := by decide +kernel
theorem dX1_change_11 : decode cX1_change 11 = .ok (.putfield 26, 3) := by decide +kernel
theorem dX1_change_14 : decode cX1_change 14 = .ok (.goto 31, 3) := by decide +kernel
theorem dX1_change_17 : decode cX1_change 17 = .ok (.iload_n 1, 1) := by decide +kernel
theorem dX1_change_18 : decode cX1_change 18 = .ok (.iconst 1, 1) := by decide +kernel
theorem dX1_change_19 : decode cX1_change 19 = .ok (.if_icmp .ne 16, 3) := by decide +kernel
theorem dX1_change_22 : decode cX1_change 22 = .ok (.aload_n 0, 1) := by decide +kernel
theorem dX1_change_23 : decode cX1_change 23 = .ok (.getfield 13, 3) := by decide +kernel
theorem dX1_change_26 : decode cX1_change 26 = .ok (.istore_n 3, 1) := by decide +kernel
theorem dX1_change_27 : decode cX1_change 27 = .ok (.aload_n 0, 1) := by decide +kernel
theorem dX1_change_28 : decode cX1_change 28 = .ok (.iload_n 2, 1) := by decide +kernel
theorem dX1_change_29 : decode cX1_change 29 = .ok (.putfield 13, 3) := by decide +kernel
theorem dX1_change_32 : decode cX1_change 32 = .ok (.goto 13, 3) := by decide +kernel
theorem dX1_change_35 : decode cX1_change 35 = .ok (.aload_n 0, 1) := by decide +kernel
theorem dX1_change_36 : decode cX1_change 36 = .ok (.getfield 16, 3) := by decide +kernel
theorem dX1_change_39 : decode cX1_change 39 = .ok (.istore_n 3, 1) := by decide +kernel
theorem dX1_change_40 : decode cX1_change 40 = .ok (.aload_n 0, 1) := by decide +kernel
theorem dX1_change_41 : decode cX1_change 41 = .ok (.iload_n 2, 1) := by decide +kernel
theorem dX1_change_42 : decode cX1_change 42 = .ok (.putfield 16, 3) := by decide +kernel
theorem dX1_change_45 : decode cX1_change 45 = .ok (.iload_n 3, 1) := by decide +kernel
theorem dX1_change_46 : decode cX1_change 46 = .ok (.ireturn, 1) := by decide +kernel
theorem dX1_levelAt_0 : decode cX1_levelAt 0 = .ok (.aload_n 0, 1) := by decide +kernel
theorem dX1_levelAt_1 : decode cX1_levelAt 1 = .ok (.getfield 13, 3) := by decide +kernel
theorem dX1_levelAt_4 : decode cX1_levelAt 4 = .ok (.iload_n 1, 1) := by decide +kernel
theorem dX1_levelAt_5 : decode cX1_levelAt 5 = .ok (.aload_n 0, 1) := by decide +kernel
theorem dX1_levelAt_6 : decode cX1_levelAt 6 = .ok (.getfield 16, 3) := by decide +kernel
theorem dX1_levelAt_9 : decode cX1_levelAt 9 = .ok (.imul, 1) := by decide +kernel
theorem dX1_levelAt_10 : decode cX1_levelAt 10 = .ok (.isub, 1) := by decide +kernel
theorem dX1_levelAt_11 : decode cX1_levelAt 11 = .ok (.aload_n 0, 1) := by decide +kernel
theorem dX1_levelAt_12 : decode cX1_levelAt 12 = .ok (.getfield 26, 3) := by decide +kernel
theorem dX1_levelAt_15 : decode cX1_levelAt 15 = .ok (.invokestatic 29, 3) := by decide +kernel
theorem dX1_levelAt_18 : decode cX1_levelAt 18 = .ok (.ireturn, 1) := by decide +kernel
theorem dX1_wouldRather_0 : decode cX1_wouldRather 0 = .ok (.aload_n 0, 1) := by decide +kernel
theorem dX1_wouldRather_1 : decode cX1_wouldRather 1 = .ok (.getfield 22, 3) := by decide +kernel
theorem dX1_wouldRather_4 : decode cX1_wouldRather 4 = .ok (.getfield 35, 3) := by decide +kernel
theorem dX1_wouldRather_7 : decode cX1_wouldRather 7 = .ok (.iload_n 1, 1) := by decide +kernel
theorem dX1_wouldRather_8 : decode cX1_wouldRather 8 = .ok (.baload, 1) := by decide +kernel
theorem dX1_wouldRather_9 : decode cX1_wouldRather 9 = .ok (.ifCond .ne 31, 3) := by decide +kernel
theorem dX1_wouldRather_12 : decode cX1_wouldRather 12 = .ok (.aload_n 0, 1) := by decide +kernel
theorem dX1_wouldRather_13 : decode cX1_wouldRather 13 = .ok (.getfield 22, 3) := by decide +kernel
theorem dX1_wouldRather_16 : decode cX1_wouldRather 16 = .ok (.getfield 39, 3) := by decide +kernel
theorem dX1_wouldRather_19 : decode cX1_wouldRather 19 = .ok (.aload_n 0, 1) := by decide +kernel
theorem dX1_wouldRather_20 : decode cX1_wouldRather 20 = .ok (.getfield 43, 3) := by decide +kernel
theorem dX1_wouldRather_23 : decode cX1_wouldRather 23 = .ok (.iaload, 1) := by decide +kernel
theorem dX1_wouldRather_24 : decode cX1_wouldRather 24 = .ok (.aload_n 0, 1) := by decide +kernel
theorem dX1_wouldRather_25 : decode cX1_wouldRather 25 = .ok (.getfield 22, 3) := by decide +kernel
theorem dX1_wouldRather_28 : decode cX1_wouldRather 28 = .ok (.getfield 39, 3) := by decide +kernel
theorem dX1_wouldRather_31 : decode cX1_wouldRather 31 = .ok (.iload_n 1, 1) := by decide +kernel
theorem dX1_wouldRather_32 : decode cX1_wouldRather 32 = .ok (.iaload, 1) := by decide +kernel
theorem dX1_wouldRather_33 : decode cX1_wouldRather 33 = .ok (.if_icmp .ge 7, 3) := by decide +kernel
theorem dX1_wouldRather_36 : decode cX1_wouldRather 36 = .ok (.iconst 1, 1) := by decide +kernel
theorem dX1_wouldRather_37 : decode cX1_wouldRather 37 = .ok (.goto 4, 3) := by decide +kernel
theorem dX1_wouldRather_40 : decode cX1_wouldRather 40 = .ok (.iconst 0, 1) := by decide +kernel
theorem dX1_wouldRather_41 : decode cX1_wouldRather 41 = .ok (.ireturn, 1) := by decide +kernel
theorem dX2_init_0 : decode cX2_init 0 = .ok (.aload_n 0, 1) := by decide +kernel
theorem dX2_init_1 : decode cX2_init 1 = .ok (.invokespecial 3, 3) := by decide +kernel
theorem dX2_init_4 : decode cX2_init 4 = .ok (.aload_n 0, 1) := by decide +kernel
theorem dX2_init_5 : decode cX2_init 5 = .ok (.bipush 16, 2) := by decide +kernel
theorem dX2_init_7 : decode cX2_init 7 = .ok (.anewarray 11, 3) := by decide +kernel
theorem dX2_init_10 : decode cX2_init 10 = .ok (.putfield 13, 3) := by decide +kernel
theorem dX2_init_13 : decode cX2_init 13 = .ok (.aload_n 0, 1) := by decide +kernel
theorem dX2_init_14 : decode cX2_init 14 = .ok (.bipush 16, 2) := by decide +kernel
theorem dX2_init_16 : decode cX2_init 16 = .ok (.newarray .int, 2) := by decide +kernel
theorem dX2_init_18 : decode cX2_init 18 = .ok (.putfield 17, 3) := by decide +kernel
theorem dX2_init_21 : decode cX2_init 21 = .ok (.aload_n 0, 1) := by decide +kernel
theorem dX2_init_22 : decode cX2_init 22 = .ok (.bipush 10, 2) := by decide +kernel
theorem dX2_init_24 : decode cX2_init 24 = .ok (.newarray .int, 2) := by decide +kernel
theorem dX2_init_26 : decode cX2_init 26 = .ok (.putfield 21, 3) := by decide +kernel
theorem dX2_init_29 : decode cX2_init 29 = .ok (.aload_n 0, 1) := by decide +kernel
theorem dX2_init_30 : decode cX2_init 30 = .ok (.bipush 10, 2) := by decide +kernel
theorem dX2_init_32 : decode cX2_init 32 = .ok (.newarray .int, 2) := by decide +kernel
theorem dX2_init_34 : decode cX2_init 34 = .ok (.putfield 24, 3) := by decide +kernel
theorem dX2_init_37 : decode cX2_init 37 = .ok (.iconst 0, 1) := by decide +kernel
theorem dX2_init_38 : decode cX2_init 38 = .ok (.istore_n 1, 1) := by decide +kernel
theorem dX2_init_39 : decode cX2_init 39 = .ok (.iload_n 1, 1) := by decide +kernel
theorem dX2_init_40 : decode cX2_init 40 = .ok (.bipush 16, 2) := by decide +kernel
theorem dX2_init_42 : decode cX2_init 42 = .ok (.if_icmp .ge 22, 3) := by decide +kernel
theorem dX2_init_45 : decode cX2_init 45 = .ok (.aload_n 0, 1) := by decide +kernel
theorem dX2_init_46 : decode cX2_init 46 = .ok (.getfield 13, 3) := by decide +kernel
theorem dX2_init_49 : decode cX2_init 49 = .ok (.iload_n 1, 1) := by decide +kernel
theorem dX2_init_50 : decode cX2_init 50 = .ok (.new 11, 3) := by decide +kernel
theorem dX2_init_53 : decode cX2_init 53 = .ok (.dup, 1) := by decide +kernel
theorem dX2_init_54 : decode cX2_init 54 = .ok (.invokespecial 27, 3) := by decide +kernel
theorem dX2_init_57 : decode cX2_init 57 = .ok (.aastore, 1) := by decide +kernel
theorem dX2_init_58 : decode cX2_init 58 = .ok (.iinc 1 1, 3) := by decide +kernel
theorem dX2_init_61 : decode cX2_init 61 = .ok (.goto (-22), 3) := by decide +kernel
theorem dX2_init_64 : decode cX2_init 64 = .ok (.iconst 0, 1) := by decide +kernel
theorem dX2_init_65 : decode cX2_init 65 = .ok (.istore_n 1, 1) := by decide +kernel
theorem dX2_init_66 : decode cX2_init 66 = .ok (.iload_n 1, 1) := by decide +kernel
theorem dX2_init_67 : decode cX2_init 67 = .ok (.bipush 10, 2) := by decide +kernel
theorem dX2_init_69 : decode cX2_init 69 = .ok (.if_icmp .ge 16, 3) := by decide +kernel
theorem dX2_init_72 : decode cX2_init 72 = .ok (.aload_n 0, 1) := by decide +kernel
theorem dX2_init_73 : decode cX2_init 73 = .ok (.getfield 21, 3) := by decide +kernel
theorem dX2_init_76 : decode cX2_init 76 = .ok (.iload_n 1, 1) := by decide +kernel
theorem dX2_init_77 : decode cX2_init 77 = .ok (.iconst (-1), 1) := by decide +kernel
theorem dX2_init_78 : decode cX2_init 78 = .ok (.iastore, 1) := by decide +kernel
theorem dX2_init_79 : decode cX2_init 79 = .ok (.iinc 1 1, 3) := by decide +kernel
theorem dX2_init_82 : decode cX2_init 82 = .ok (.goto (-16), 3) := by decide +kernel
theorem dX2_init_85 : decode cX2_init 85 = .ok (.return_, 1) := by decide +kernel
theorem dX2_hasTerm_0 : decode cX2_hasTerm 0 = .ok (.iload_n 1, 1) := by decide +kernel
theorem dX2_hasTerm_1 : decode cX2_hasTerm 1 = .ok (.ifCond .lt 21, 3) := by decide +kernel
theorem dX2_hasTerm_4 : decode cX2_hasTerm 4 = .ok (.iload_n 1, 1) := by decide +kernel
theorem dX2_hasTerm_5 : decode cX2_hasTerm 5 = .ok (.aload_n 0, 1) := by decide +kernel
theorem dX2_hasTerm_6 : decode cX2_hasTerm 6 = .ok (.getfield 28, 3) := by decide +kernel
theorem dX2_hasTerm_9 : decode cX2_hasTerm 9 = .ok (.if_icmp .ge 13, 3) := by decide +kernel
theorem dX2_hasTerm_12 : decode cX2_hasTerm 12 = .ok (.iload_n 1, 1) := by decide +kernel
theorem dX2_hasTerm_13 : decode cX2_hasTerm 13 = .ok (.bipush 16, 2) := by decide +kernel
theorem dX2_hasTerm_15 : decode cX2_hasTerm 15 = .ok (.if_icmp .ge 7, 3) := by decide +kernel
theorem dX2_hasTerm_18 : decode cX2_hasTerm 18 = .ok (.iconst 1, 1) := by decide +kernel
theorem dX2_hasTerm_19 : decode cX2_hasTerm 19 = .ok (.goto 4, 3) := by decide +kernel
theorem dX2_hasTerm_22 : decode cX2_hasTerm 22 = .ok (.iconst 0, 1) := by decide +kernel
theorem dX2_hasTerm_23 : decode cX2_hasTerm 23 = .ok (.ireturn, 1) := by decide +kernel
theorem dX2_isBar_0 : decode cX2_isBar 0 = .ok (.aload_n 0, 1) := by decide +kernel
theorem dX2_isBar_1 : decode cX2_isBar 1 = .ok (.getfield 13, 3) := by decide +kernel
theorem dX2_isBar_4 : decode cX2_isBar 4 = .ok (.iload_n 1, 1) := by decide +kernel
theorem dX2_isBar_5 : decode cX2_isBar 5 = .ok (.aaload, 1) := by decide +kernel
theorem dX2_isBar_6 : decode cX2_isBar 6 = .ok (.getfield 32, 3) := by decide +kernel
theorem dX2_isBar_9 : decode cX2_isBar 9 = .ok (.iconst 3, 1) := by decide +kernel
theorem dX2_isBar_10 : decode cX2_isBar 10 = .ok (.if_icmp .ne 7, 3) := by decide +kernel
theorem dX2_isBar_13 : decode cX2_isBar 13 = .ok (.iconst 1, 1) := by decide +kernel
theorem dX2_isBar_14 : decode cX2_isBar 14 = .ok (.goto 4, 3) := by decide +kernel
theorem dX2_isBar_17 : decode cX2_isBar 17 = .ok (.iconst 0, 1) := by decide +kernel
theorem dX2_isBar_18 : decode cX2_isBar 18 = .ok (.ireturn, 1) := by decide +kernel
theorem dX2_add_0 : decode cX2_add 0 = .ok (.aload_n 0, 1) := by decide +kernel
theorem dX2_add_1 : decode cX2_add 1 = .ok (.getfield 28, 3) := by decide +kernel
theorem dX2_add_4 : decode cX2_add 4 = .ok (.ifCond .lt 12, 3) := by decide +kernel
theorem dX2_add_7 : decode cX2_add 7 = .ok (.aload_n 0, 1) := by decide +kernel
theorem dX2_add_8 : decode cX2_add 8 = .ok (.getfield 28, 3) := by decide +kernel
theorem dX2_add_11 : decode cX2_add 11 = .ok (.bipush 16, 2) := by decide +kernel
theorem dX2_add_13 : decode cX2_add 13 = .ok (.if_icmp .lt 6, 3) := by decide +kernel
theorem dX2_add_16 : decode cX2_add 16 = .ok (.bipush (-3), 2) := by decide +kernel
theorem dX2_add_18 : decode cX2_add 18 = .ok (.ireturn, 1) := by decide +kernel
theorem dX2_add_19 : decode cX2_add 19 = .ok (.aload_n 0, 1) := by decide +kernel
theorem dX2_add_20 : decode cX2_add 20 = .ok (.getfield 13, 3) := by decide +kernel
theorem dX2_add_23 : decode cX2_add 23 = .ok (.aload_n 0, 1) := by decide +kernel
theorem dX2_add_24 : decode cX2_add 24 = .ok (.getfield 28, 3) := by decide +kernel
theorem dX2_add_27 : decode cX2_add 27 = .ok (.aaload, 1) := by decide +kernel
theorem dX2_add_28 : decode cX2_add 28 = .ok (.astore 7, 2) := by decide +kernel
theorem dX2_add_30 : decode cX2_add 30 = .ok (.aload 7, 2) := by decide +kernel
theorem dX2_add_32 : decode cX2_add 32 = .ok (.iload_n 1, 1) := by decide +kernel
theorem dX2_add_33 : decode cX2_add 33 = .ok (.putfield 32, 3) := by decide +kernel
theorem dX2_add_36 : decode cX2_add 36 = .ok (.aload 7, 2) := by decide +kernel
theorem dX2_add_38 : decode cX2_add 38 = .ok (.iload_n 2, 1) := by decide +kernel
theorem dX2_add_39 : decode cX2_add 39 = .ok (.putfield 35, 3) := by decide +kernel
theorem dX2_add_42 : decode cX2_add 42 = .ok (.aload 7, 2) := by decide +kernel
theorem dX2_add_44 : decode cX2_add 44 = .ok (.iload_n 3, 1) := by decide +kernel
theorem dX2_add_45 : decode cX2_add 45 = .ok (.putfield 38, 3) := by decide +kernel
theorem dX2_add_48 : decode cX2_add 48 = .ok (.aload 7, 2) := by decide +kernel
theorem dX2_add_50 : decode cX2_add 50 = .ok (.iload 4, 2) := by decide +kernel
theorem dX2_add_52 : decode cX2_add 52 = .ok (.putfield 41, 3) := by decide +kernel
theorem dX2_add_55 : decode cX2_add 55 = .ok (.aload 7, 2) := by decide +kernel
theorem dX2_add_57 : decode cX2_add 57 = .ok (.iload 5, 2) := by decide +kernel
theorem dX2_add_59 : decode cX2_add 59 = .ok (.putfield 44, 3) := by decide +kernel
theorem dX2_add_62 : decode cX2_add 62 = .ok (.aload 7, 2) := by decide +kernel
theorem dX2_add_64 : decode cX2_add 64 = .ok (.iload 6, 2) := by decide +kernel
theorem dX2_add_66 : decode cX2_add 66 = .ok (.putfield 47, 3) := by decide +kernel
theorem dX2_add_69 : decode cX2_add 69 = .ok (.aload_n 0, 1) := by decide +kernel
theorem dX2_add_70 : decode cX2_add 70 = .ok (.dup, 1) := by decide +kernel
theorem dX2_add_71 : decode cX2_add 71 = .ok (.getfield 28, 3) := by decide +kernel
theorem dX2_add_74 : decode cX2_add 74 = .ok (.iconst 1, 1) := by decide +kernel
theorem dX2_add_75 : decode cX2_add 75 = .ok (.iadd, 1) := by decide +kernel
theorem dX2_add_76 : decode cX2_add 76 = .ok (.putfield 28, 3) := by decide +kernel
theorem dX2_add_79 : decode cX2_add 79 = .ok (.aload_n 0, 1) := by decide +kernel
theorem dX2_add_80 : decode cX2_add 80 = .ok (.getfield 28, 3) := by decide +kernel
theorem dX2_add_83 : decode cX2_add 83 = .ok (.iconst 1, 1) := by decide +kernel
theorem dX2_add_84 : decode cX2_add 84 = .ok (.isub, 1) := by decide +kernel
theorem dX2_add_85 : decode cX2_add 85 = .ok (.ireturn, 1) := by decide +kernel
theorem dX2_hasHappened_0 : decode cX2_hasHappened 0 = .ok (.aload_n 0, 1) := by decide +kernel
theorem dX2_hasHappened_1 : decode cX2_hasHappened 1 = .ok (.getfield 21, 3) := by decide +kernel
theorem dX2_hasHappened_4 : decode cX2_hasHappened 4 = .ok (.iload_n 1, 1) := by decide +kernel
theorem dX2_hasHappened_5 : decode cX2_hasHappened 5 = .ok (.iaload, 1) := by decide +kernel
theorem dX2_hasHappened_6 : decode cX2_hasHappened 6 = .ok (.iconst (-1), 1) := by decide +kernel
theorem dX2_hasHappened_7 : decode cX2_hasHappened 7 = .ok (.if_icmp .eq 7, 3) := by decide +kernel
theorem dX2_hasHappened_10 : decode cX2_hasHappened 10 = .ok (.iconst 1, 1) := by decide +kernel
theorem dX2_hasHappened_11 : decode cX2_hasHappened 11 = .ok (.goto 4, 3) := by decide +kernel
theorem dX2_hasHappened_14 : decode cX2_hasHappened 14 = .ok (.iconst 0, 1) := by decide +kernel
theorem dX2_hasHappened_15 : decode cX2_hasHappened 15 = .ok (.ireturn, 1) := by decide +kernel
theorem dX2_record_0 : decode cX2_record 0 = .ok (.aload_n 0, 1) := by decide +kernel
theorem dX2_record_1 : decode cX2_record 1 = .ok (.getfield 21, 3) := by decide +kernel
theorem dX2_record_4 : decode cX2_record 4 = .ok (.iload_n 1, 1) := by decide +kernel
theorem dX2_record_5 : decode cX2_record 5 = .ok (.iload_n 2, 1) := by decide +kernel
theorem dX2_record_6 : decode cX2_record 6 = .ok (.iastore, 1) := by decide +kernel
theorem dX2_record_7 : decode cX2_record 7 = .ok (.aload_n 0, 1) := by decide +kernel
theorem dX2_record_8 : decode cX2_record 8 = .ok (.getfield 24, 3) := by decide +kernel
theorem dX2_record_11 : decode cX2_record 11 = .ok (.iload_n 1, 1) := by decide +kernel
theorem dX2_record_12 : decode cX2_record 12 = .ok (.iload_n 3, 1) := by decide +kernel
theorem dX2_record_13 : decode cX2_record 13 = .ok (.iastore, 1) := by decide +kernel
theorem dX2_record_14 : decode cX2_record 14 = .ok (.return_, 1) := by decide +kernel
theorem dX2_isKnown_0 : decode cX2_isKnown 0 = .ok (.aload_n 0, 1) := by decide +kernel
theorem dX2_isKnown_1 : decode cX2_isKnown 1 = .ok (.iload_n 1, 1) := by decide +kernel
theorem dX2_isKnown_2 : decode cX2_isKnown 2 = .ok (.invokevirtual 50, 3) := by decide +kernel
theorem dX2_isKnown_5 : decode cX2_isKnown 5 = .ok (.ifCond .eq 17, 3) := by decide +kernel
theorem dX2_isKnown_8 : decode cX2_isKnown 8 = .ok (.aload_n 0, 1) := by decide +kernel
theorem dX2_isKnown_9 : decode cX2_isKnown 9 = .ok (.getfield 24, 3) := by decide +kernel
theorem dX2_isKnown_12 : decode cX2_isKnown 12 = .ok (.iload_n 1, 1) := by decide +kernel
theorem dX2_isKnown_13 : decode cX2_isKnown 13 = .ok (.iaload, 1) := by decide +kernel
theorem dX2_isKnown_14 : decode cX2_isKnown 14 = .ok (.iload_n 2, 1) := by decide +kernel
theorem dX2_isKnown_15 : decode cX2_isKnown 15 = .ok (.if_icmp .gt 7, 3) := by decide +kernel
theorem dX2_isKnown_18 : decode cX2_isKnown 18 = .ok (.iconst 1, 1) := by decide +kernel
theorem dX2_isKnown_19 : decode cX2_isKnown 19 = .ok (.goto 4, 3) := by decide +kernel
theorem dX2_isKnown_22 : decode cX2_isKnown 22 = .ok (.iconst 0, 1) := by decide +kernel
theorem dX2_isKnown_23 : decode cX2_isKnown 23 = .ok (.ireturn, 1) := by decide +kernel
theorem dX2_settle_0 : decode cX2_settle 0 = .ok (.iconst 0, 1) := by decide +kernel
theorem dX2_settle_1 : decode cX2_settle 1 = .ok (.istore_n 2, 1) := by decide +kernel
theorem dX2_settle_2 : decode cX2_settle 2 = .ok (.iload_n 2, 1) := by decide +kernel
theorem dX2_settle_3 : decode cX2_settle 3 = .ok (.aload_n 0, 1) := by decide +kernel
theorem dX2_settle_4 : decode cX2_settle 4 = .ok (.getfield 28, 3) := by decide +kernel
theorem dX2_settle_7 : decode cX2_settle 7 = .ok (.if_icmp .ge 32, 3) := by decide +kernel
theorem dX2_settle_10 : decode cX2_settle 10 = .ok (.iload_n 2, 1) := by decide +kernel
theorem dX2_settle_11 : decode cX2_settle 11 = .ok (.bipush 16, 2) := by decide +kernel
theorem dX2_settle_13 : decode cX2_settle 13 = .ok (.if_icmp .ge 26, 3) := by decide +kernel
theorem dX2_settle_16 : decode cX2_settle 16 = .ok (.aload_n 0, 1) := by decide +kernel
theorem dX2_settle_17 : decode cX2_settle 17 = .ok (.getfield 17, 3) := by decide +kernel
theorem dX2_settle_20 : decode cX2_settle 20 = .ok (.iload_n 2, 1) := by decide +kernel
theorem dX2_settle_21 : decode cX2_settle 21 = .ok (.aload_n 0, 1) := by decide +kernel
theorem dX2_settle_22 : decode cX2_settle 22 = .ok (.aload_n 0, 1) := by decide +kernel
theorem dX2_settle_23 : decode cX2_settle 23 = .ok (.getfield 13, 3) := by decide +kernel
theorem dX2_settle_26 : decode cX2_settle 26 = .ok (.iload_n 2, 1) := by decide +kernel
theorem dX2_settle_27 : decode cX2_settle 27 = .ok (.aaload, 1) := by decide +kernel
theorem dX2_settle_28 : decode cX2_settle 28 = .ok (.iload_n 1, 1) := by decide +kernel
theorem dX2_settle_29 : decode cX2_settle 29 = .ok (.invokevirtual 54, 3) := by decide +kernel
theorem dX2_settle_32 : decode cX2_settle 32 = .ok (.iastore, 1) := by decide +kernel
theorem dX2_settle_33 : decode cX2_settle 33 = .ok (.iinc 2 1, 3) := by decide +kernel
theorem dX2_settle_36 : decode cX2_settle 36 = .ok (.goto (-34), 3) := by decide +kernel
theorem dX2_settle_39 : decode cX2_settle 39 = .ok (.return_, 1) := by decide +kernel
theorem dX2_endOf_0 : decode cX2_endOf 0 = .ok (.aload_n 1, 1) := by decide +kernel
theorem dX2_endOf_1 : decode cX2_endOf 1 = .ok (.getfield 32, 3) := by decide +kernel
theorem dX2_endOf_4 : decode cX2_endOf 4 = .ok (.ifCond .ne 8, 3) := by decide +kernel
theorem dX2_endOf_7 : decode cX2_endOf 7 = .ok (.aload_n 1, 1) := by decide +kernel
theorem dX2_endOf_8 : decode cX2_endOf 8 = .ok (.getfield 44, 3) := by decide +kernel
theorem dX2_endOf_11 : decode cX2_endOf 11 = .ok (.ireturn, 1) := by decide +kernel
theorem dX2_endOf_12 : decode cX2_endOf 12 = .ok (.aload_n 1, 1) := by decide +kernel
theorem dX2_endOf_13 : decode cX2_endOf 13 = .ok (.getfield 32, 3) := by decide +kernel
theorem dX2_endOf_16 : decode cX2_endOf 16 = .ok (.iconst 1, 1) := by decide +kernel
theorem dX2_endOf_17 : decode cX2_endOf 17 = .ok (.if_icmp .ne 35, 3) := by decide +kernel
theorem dX2_endOf_20 : decode cX2_endOf 20 = .ok (.aload_n 0, 1) := by decide +kernel
theorem dX2_endOf_21 : decode cX2_endOf 21 = .ok (.aload_n 1, 1) := by decide +kernel
theorem dX2_endOf_22 : decode cX2_endOf 22 = .ok (.getfield 44, 3) := by decide +kernel
theorem dX2_endOf_25 : decode cX2_endOf 25 = .ok (.iload_n 2, 1) := by decide +kernel
theorem dX2_endOf_26 : decode cX2_endOf 26 = .ok (.invokevirtual 58, 3) := by decide +kernel
theorem dX2_endOf_29 : decode cX2_endOf 29 = .ok (.ifCond .eq 20, 3) := by decide +kernel
theorem dX2_endOf_32 : decode cX2_endOf 32 = .ok (.aload_n 0, 1) := by decide +kernel
theorem dX2_endOf_33 : decode cX2_endOf 33 = .ok (.getfield 21, 3) := by decide +kernel
theorem dX2_endOf_36 : decode cX2_endOf 36 = .ok (.aload_n 1, 1) := by decide +kernel
theorem dX2_endOf_37 : decode cX2_endOf 37 = .ok (.getfield 44, 3) := by decide +kernel
theorem dX2_endOf_40 : decode cX2_endOf 40 = .ok (.iaload, 1) := by decide +kernel
theorem dX2_endOf_41 : decode cX2_endOf 41 = .ok (.aload_n 1, 1) := by decide +kernel
theorem dX2_endOf_42 : decode cX2_endOf 42 = .ok (.getfield 47, 3) := by decide +kernel
theorem dX2_endOf_45 : decode cX2_endOf 45 = .ok (.iadd, 1) := by decide +kernel
theorem dX2_endOf_46 : decode cX2_endOf 46 = .ok (.goto 5, 3) := by decide +kernel
theorem dX2_endOf_49 : decode cX2_endOf 49 = .ok (.bipush (-4), 2) := by decide +kernel
theorem dX2_endOf_51 : decode cX2_endOf 51 = .ok (.ireturn, 1) := by decide +kernel
theorem dX2_endOf_52 : decode cX2_endOf 52 = .ok (.aload_n 1, 1) := by decide +kernel
theorem dX2_endOf_53 : decode cX2_endOf 53 = .ok (.getfield 32, 3) := by decide +kernel
theorem dX2_endOf_56 : decode cX2_endOf 56 = .ok (.iconst 2, 1) := by decide +kernel
theorem dX2_endOf_57 : decode cX2_endOf 57 = .ok (.if_icmp .ne 31, 3) := by decide +kernel
theorem dX2_endOf_60 : decode cX2_endOf 60 = .ok (.aload_n 0, 1) := by decide +kernel
theorem dX2_endOf_61 : decode cX2_endOf 61 = .ok (.aload_n 1, 1) := by decide +kernel
theorem dX2_endOf_62 : decode cX2_endOf 62 = .ok (.getfield 44, 3) := by decide +kernel
theorem dX2_endOf_65 : decode cX2_endOf 65 = .ok (.iload_n 2, 1) := by decide +kernel
theorem dX2_endOf_66 : decode cX2_endOf 66 = .ok (.invokevirtual 62, 3) := by decide +kernel
theorem dX2_endOf_69 : decode cX2_endOf 69 = .ok (.istore_n 3, 1) := by decide +kernel
theorem dX2_endOf_70 : decode cX2_endOf 70 = .ok (.iload_n 3, 1) := by decide +kernel
theorem dX2_endOf_71 : decode cX2_endOf 71 = .ok (.bipush (-4), 2) := by decide +kernel
theorem dX2_endOf_73 : decode cX2_endOf 73 = .ok (.if_icmp .ne 8, 3) := by decide +kernel
theorem dX2_endOf_76 : decode cX2_endOf 76 = .ok (.bipush (-4), 2) := by decide +kernel
theorem dX2_endOf_78 : decode cX2_endOf 78 = .ok (.goto 9, 3) := by decide +kernel
theorem dX2_endOf_81 : decode cX2_endOf 81 = .ok (.iload_n 3, 1) := by decide +kernel
theorem dX2_endOf_82 : decode cX2_endOf 82 = .ok (.aload_n 1, 1) := by decide +kernel
theorem dX2_endOf_83 : decode cX2_endOf 83 = .ok (.getfield 47, 3) := by decide +kernel
theorem dX2_endOf_86 : decode cX2_endOf 86 = .ok (.iadd, 1) := by decide +kernel
theorem dX2_endOf_87 : decode cX2_endOf 87 = .ok (.ireturn, 1) := by decide +kernel
theorem dX2_endOf_88 : decode cX2_endOf 88 = .ok (.bipush (-4), 2) := by decide +kernel
theorem dX2_endOf_90 : decode cX2_endOf 90 = .ok (.ireturn, 1) := by decide +kernel
theorem dX2_stateOf_0 : decode cX2_stateOf 0 = .ok (.aload_n 0, 1) := by decide +kernel
theorem dX2_stateOf_1 : decode cX2_stateOf 1 = .ok (.getfield 13, 3) := by decide +kernel
theorem dX2_stateOf_4 : decode cX2_stateOf 4 = .ok (.iload_n 1, 1) := by decide +kernel
theorem dX2_stateOf_5 : decode cX2_stateOf 5 = .ok (.aaload, 1) := by decide +kernel
theorem dX2_stateOf_6 : decode cX2_stateOf 6 = .ok (.astore_n 3, 1) := by decide +kernel
theorem dX2_stateOf_7 : decode cX2_stateOf 7 = .ok (.aload_n 3, 1) := by decide +kernel
theorem dX2_stateOf_8 : decode cX2_stateOf 8 = .ok (.getfield 32, 3) := by decide +kernel
theorem dX2_stateOf_11 : decode cX2_stateOf 11 = .ok (.iconst 3, 1) := by decide +kernel
theorem dX2_stateOf_12 : decode cX2_stateOf 12 = .ok (.if_icmp .ne 21, 3) := by decide +kernel
theorem dX2_stateOf_15 : decode cX2_stateOf 15 = .ok (.aload_n 0, 1) := by decide +kernel
theorem dX2_stateOf_16 : decode cX2_stateOf 16 = .ok (.aload_n 3, 1) := by decide +kernel
theorem dX2_stateOf_17 : decode cX2_stateOf 17 = .ok (.getfield 44, 3) := by decide +kernel
theorem dX2_stateOf_20 : decode cX2_stateOf 20 = .ok (.iload_n 2, 1) := by decide +kernel
theorem dX2_stateOf_21 : decode cX2_stateOf 21 = .ok (.invokevirtual 58, 3) := by decide +kernel
theorem dX2_stateOf_24 : decode cX2_stateOf 24 = .ok (.ifCond .eq 7, 3) := by decide +kernel
theorem dX2_stateOf_27 : decode cX2_stateOf 27 = .ok (.iconst 4, 1) := by decide +kernel
theorem dX2_stateOf_28 : decode cX2_stateOf 28 = .ok (.goto 4, 3) := by decide +kernel
theorem dX2_stateOf_31 : decode cX2_stateOf 31 = .ok (.iconst 1, 1) := by decide +kernel
theorem dX2_stateOf_32 : decode cX2_stateOf 32 = .ok (.ireturn, 1) := by decide +kernel
theorem dX2_stateOf_33 : decode cX2_stateOf 33 = .ok (.aload_n 0, 1) := by decide +kernel
theorem dX2_stateOf_34 : decode cX2_stateOf 34 = .ok (.getfield 17, 3) := by decide +kernel
theorem dX2_stateOf_37 : decode cX2_stateOf 37 = .ok (.iload_n 1, 1) := by decide +kernel
theorem dX2_stateOf_38 : decode cX2_stateOf 38 = .ok (.iaload, 1) := by decide +kernel
theorem dX2_stateOf_39 : decode cX2_stateOf 39 = .ok (.istore 4, 2) := by decide +kernel
theorem dX2_stateOf_41 : decode cX2_stateOf 41 = .ok (.iload 4, 2) := by decide +kernel
theorem dX2_stateOf_43 : decode cX2_stateOf 43 = .ok (.bipush (-4), 2) := by decide +kernel
theorem dX2_stateOf_45 : decode cX2_stateOf 45 = .ok (.if_icmp .ne 5, 3) := by decide +kernel
theorem dX2_stateOf_48 : decode cX2_stateOf 48 = .ok (.iconst 1, 1) := by decide +kernel
theorem dX2_stateOf_49 : decode cX2_stateOf 49 = .ok (.ireturn, 1) := by decide +kernel
theorem dX2_stateOf_50 : decode cX2_stateOf 50 = .ok (.aload_n 3, 1) := by decide +kernel
theorem dX2_stateOf_51 : decode cX2_stateOf 51 = .ok (.iload_n 2, 1) := by decide +kernel
theorem dX2_stateOf_52 : decode cX2_stateOf 52 = .ok (.invokevirtual 66, 3) := by decide +kernel
theorem dX2_stateOf_55 : decode cX2_stateOf 55 = .ok (.ifCond .eq 18, 3) := by decide +kernel
theorem dX2_stateOf_58 : decode cX2_stateOf 58 = .ok (.aload_n 3, 1) := by decide +kernel
theorem dX2_stateOf_59 : decode cX2_stateOf 59 = .ok (.getfield 69, 3) := by decide +kernel
theorem dX2_stateOf_62 : decode cX2_stateOf 62 = .ok (.iload 4, 2) := by decide +kernel
theorem dX2_stateOf_64 : decode cX2_stateOf 64 = .ok (.if_icmp .gt 7, 3) := by decide +kernel
theorem dX2_stateOf_67 : decode cX2_stateOf 67 = .ok (.iconst 3, 1) := by decide +kernel
theorem dX2_stateOf_68 : decode cX2_stateOf 68 = .ok (.goto 4, 3) := by decide +kernel
theorem dX2_stateOf_71 : decode cX2_stateOf 71 = .ok (.iconst 5, 1) := by decide +kernel
theorem dX2_stateOf_72 : decode cX2_stateOf 72 = .ok (.ireturn, 1) := by decide +kernel
theorem dX2_stateOf_73 : decode cX2_stateOf 73 = .ok (.iload_n 2, 1) := by decide +kernel
theorem dX2_stateOf_74 : decode cX2_stateOf 74 = .ok (.iload 4, 2) := by decide +kernel
theorem dX2_stateOf_76 : decode cX2_stateOf 76 = .ok (.if_icmp .le 7, 3) := by decide +kernel
theorem dX2_stateOf_79 : decode cX2_stateOf 79 = .ok (.iconst 4, 1) := by decide +kernel
theorem dX2_stateOf_80 : decode cX2_stateOf 80 = .ok (.goto 4, 3) := by decide +kernel
theorem dX2_stateOf_83 : decode cX2_stateOf 83 = .ok (.iconst 2, 1) := by decide +kernel
theorem dX2_stateOf_84 : decode cX2_stateOf 84 = .ok (.ireturn, 1) := by decide +kernel
theorem dX2_breakOf_0 : decode cX2_breakOf 0 = .ok (.aload_n 0, 1) := by decide +kernel
theorem dX2_breakOf_1 : decode cX2_breakOf 1 = .ok (.iload_n 1, 1) := by decide +kernel
theorem dX2_breakOf_2 : decode cX2_breakOf 2 = .ok (.iload_n 2, 1) := by decide +kernel
theorem dX2_breakOf_3 : decode cX2_breakOf 3 = .ok (.invokevirtual 72, 3) := by decide +kernel
theorem dX2_breakOf_6 : decode cX2_breakOf 6 = .ok (.istore_n 3, 1) := by decide +kernel
theorem dX2_breakOf_7 : decode cX2_breakOf 7 = .ok (.iload_n 3, 1) := by decide +kernel
theorem dX2_breakOf_8 : decode cX2_breakOf 8 = .ok (.iconst 4, 1) := by decide +kernel
theorem dX2_breakOf_9 : decode cX2_breakOf 9 = .ok (.if_icmp .eq 11, 3) := by decide +kernel
theorem dX2_breakOf_12 : decode cX2_breakOf 12 = .ok (.iload_n 3, 1) := by decide +kernel
theorem dX2_breakOf_13 : decode cX2_breakOf 13 = .ok (.iconst 5, 1) := by decide +kernel
theorem dX2_breakOf_14 : decode cX2_breakOf 14 = .ok (.if_icmp .eq 6, 3) := by decide +kernel
theorem dX2_breakOf_17 : decode cX2_breakOf 17 = .ok (.bipush (-4), 2) := by decide +kernel
theorem dX2_breakOf_19 : decode cX2_breakOf 19 = .ok (.ireturn, 1) := by decide +kernel
theorem dX2_breakOf_20 : decode cX2_breakOf 20 = .ok (.aload_n 0, 1) := by decide +kernel
theorem dX2_breakOf_21 : decode cX2_breakOf 21 = .ok (.iload_n 1, 1) := by decide +kernel
theorem dX2_breakOf_22 : decode cX2_breakOf 22 = .ok (.invokevirtual 75, 3) := by decide +kernel
theorem dX2_breakOf_25 : decode cX2_breakOf 25 = .ok (.ifCond .eq 20, 3) := by decide +kernel
theorem dX2_breakOf_28 : decode cX2_breakOf 28 = .ok (.aload_n 0, 1) := by decide +kernel
theorem dX2_breakOf_29 : decode cX2_breakOf 29 = .ok (.getfield 21, 3) := by decide +kernel
theorem dX2_breakOf_32 : decode cX2_breakOf 32 = .ok (.aload_n 0, 1) := by decide +kernel
theorem dX2_breakOf_33 : decode cX2_breakOf 33 = .ok (.getfield 13, 3) := by decide +kernel
theorem dX2_breakOf_36 : decode cX2_breakOf 36 = .ok (.iload_n 1, 1) := by decide +kernel
theorem dX2_breakOf_37 : decode cX2_breakOf 37 = .ok (.aaload, 1) := by decide +kernel
theorem dX2_breakOf_38 : decode cX2_breakOf 38 = .ok (.getfield 44, 3) := by decide +kernel
theorem dX2_breakOf_41 : decode cX2_breakOf 41 = .ok (.iaload, 1) := by decide +kernel
theorem dX2_breakOf_42 : decode cX2_breakOf 42 = .ok (.goto 11, 3) := by decide +kernel
theorem dX2_breakOf_45 : decode cX2_breakOf 45 = .ok (.aload_n 0, 1) := by decide +kernel
theorem dX2_breakOf_46 : decode cX2_breakOf 46 = .ok (.getfield 17, 3) := by decide +kernel
theorem dX2_breakOf_49 : decode cX2_breakOf 49 = .ok (.iload_n 1, 1) := by decide +kernel
theorem dX2_breakOf_50 : decode cX2_breakOf 50 = .ok (.iaload, 1) := by decide +kernel
theorem dX2_breakOf_51 : decode cX2_breakOf 51 = .ok (.iconst 1, 1) := by decide +kernel
theorem dX2_breakOf_52 : decode cX2_breakOf 52 = .ok (.iadd, 1) := by decide +kernel
theorem dX2_breakOf_53 : decode cX2_breakOf 53 = .ok (.ireturn, 1) := by decide +kernel
theorem dX2_owedBy_0 : decode cX2_owedBy 0 = .ok (.iconst 0, 1) := by decide +kernel
theorem dX2_owedBy_1 : decode cX2_owedBy 1 = .ok (.istore_n 3, 1) := by decide +kernel
theorem dX2_owedBy_2 : decode cX2_owedBy 2 = .ok (.iconst 0, 1) := by decide +kernel
theorem dX2_owedBy_3 : decode cX2_owedBy 3 = .ok (.istore 4, 2) := by decide +kernel
theorem dX2_owedBy_5 : decode cX2_owedBy 5 = .ok (.iload 4, 2) := by decide +kernel
theorem dX2_owedBy_7 : decode cX2_owedBy 7 = .ok (.aload_n 0, 1) := by decide +kernel
theorem dX2_owedBy_8 : decode cX2_owedBy 8 = .ok (.getfield 28, 3) := by decide +kernel
theorem dX2_owedBy_11 : decode cX2_owedBy 11 = .ok (.if_icmp .ge 73, 3) := by decide +kernel
theorem dX2_owedBy_14 : decode cX2_owedBy 14 = .ok (.iload 4, 2) := by decide +kernel
theorem dX2_owedBy_16 : decode cX2_owedBy 16 = .ok (.bipush 16, 2) := by decide +kernel
theorem dX2_owedBy_18 : decode cX2_owedBy 18 = .ok (.if_icmp .ge 66, 3) := by decide +kernel
theorem dX2_owedBy_21 : decode cX2_owedBy 21 = .ok (.aload_n 0, 1) := by decide +kernel
theorem dX2_owedBy_22 : decode cX2_owedBy 22 = .ok (.iload 4, 2) := by decide +kernel
theorem dX2_owedBy_24 : decode cX2_owedBy 24 = .ok (.iload_n 2, 1) := by decide +kernel
theorem dX2_owedBy_25 : decode cX2_owedBy 25 = .ok (.invokevirtual 72, 3) := by decide +kernel
theorem dX2_owedBy_28 : decode cX2_owedBy 28 = .ok (.istore 5, 2) := by decide +kernel
theorem dX2_owedBy_30 : decode cX2_owedBy 30 = .ok (.aload_n 0, 1) := by decide +kernel
theorem dX2_owedBy_31 : decode cX2_owedBy 31 = .ok (.getfield 13, 3) := by decide +kernel
theorem dX2_owedBy_34 : decode cX2_owedBy 34 = .ok (.iload 4, 2) := by decide +kernel
theorem dX2_owedBy_36 : decode cX2_owedBy 36 = .ok (.aaload, 1) := by decide +kernel
theorem dX2_owedBy_37 : decode cX2_owedBy 37 = .ok (.getfield 35, 3) := by decide +kernel
theorem dX2_owedBy_40 : decode cX2_owedBy 40 = .ok (.iload_n 1, 1) := by decide +kernel
theorem dX2_owedBy_41 : decode cX2_owedBy 41 = .ok (.if_icmp .ne 37, 3) := by decide +kernel
theorem dX2_owedBy_44 : decode cX2_owedBy 44 = .ok (.aload_n 0, 1) := by decide +kernel
theorem dX2_owedBy_45 : decode cX2_owedBy 45 = .ok (.iload 4, 2) := by decide +kernel
theorem dX2_owedBy_47 : decode cX2_owedBy 47 = .ok (.invokevirtual 75, 3) := by decide +kernel
theorem dX2_owedBy_50 : decode cX2_owedBy 50 = .ok (.ifCond .ne 28, 3) := by decide +kernel
theorem dX2_owedBy_53 : decode cX2_owedBy 53 = .ok (.iload 5, 2) := by decide +kernel
theorem dX2_owedBy_55 : decode cX2_owedBy 55 = .ok (.iconst 2, 1) := by decide +kernel
theorem dX2_owedBy_56 : decode cX2_owedBy 56 = .ok (.if_icmp .eq 9, 3) := by decide +kernel
theorem dX2_owedBy_59 : decode cX2_owedBy 59 = .ok (.iload 5, 2) := by decide +kernel
theorem dX2_owedBy_61 : decode cX2_owedBy 61 = .ok (.iconst 4, 1) := by decide +kernel
theorem dX2_owedBy_62 : decode cX2_owedBy 62 = .ok (.if_icmp .ne 16, 3) := by decide +kernel
theorem dX2_owedBy_65 : decode cX2_owedBy 65 = .ok (.iload_n 3, 1) := by decide +kernel
theorem dX2_owedBy_66 : decode cX2_owedBy 66 = .ok (.aload_n 0, 1) := by decide +kernel
theorem dX2_owedBy_67 : decode cX2_owedBy 67 = .ok (.getfield 13, 3) := by decide +kernel
theorem dX2_owedBy_70 : decode cX2_owedBy 70 = .ok (.iload 4, 2) := by decide +kernel
theorem dX2_owedBy_72 : decode cX2_owedBy 72 = .ok (.aaload, 1) := by decide +kernel
theorem dX2_owedBy_73 : decode cX2_owedBy 73 = .ok (.getfield 41, 3) := by decide +kernel
theorem dX2_owedBy_76 : decode cX2_owedBy 76 = .ok (.iadd, 1) := by decide +kernel
theorem dX2_owedBy_77 : decode cX2_owedBy 77 = .ok (.istore_n 3, 1) := by decide +kernel
theorem dX2_owedBy_78 : decode cX2_owedBy 78 = .ok (.iinc 4 1, 3) := by decide +kernel
theorem dX2_owedBy_81 : decode cX2_owedBy 81 = .ok (.goto (-76), 3) := by decide +kernel
theorem dX2_owedBy_84 : decode cX2_owedBy 84 = .ok (.iload_n 3, 1) := by decide +kernel
theorem dX2_owedBy_85 : decode cX2_owedBy 85 = .ok (.ireturn, 1) := by decide +kernel
theorem dX3_init_0 : decode cX3_init 0 = .ok (.aload_n 0, 1) := by decide +kernel
theorem dX3_init_1 : decode cX3_init 1 = .ok (.invokespecial 3, 3) := by decide +kernel
theorem dX3_init_4 : decode cX3_init 4 = .ok (.aload_n 0, 1) := by decide +kernel
theorem dX3_init_5 : decode cX3_init 5 = .ok (.bipush 64, 2) := by decide +kernel
theorem dX3_init_7 : decode cX3_init 7 = .ok (.newarray .int, 2) := by decide +kernel
theorem dX3_init_9 : decode cX3_init 9 = .ok (.putfield 9, 3) := by decide +kernel
theorem dX3_init_12 : decode cX3_init 12 = .ok (.return_, 1) := by decide +kernel
theorem dX3_rank_0 : decode cX3_rank 0 = .ok (.aload_n 0, 1) := by decide +kernel
theorem dX3_rank_1 : decode cX3_rank 1 = .ok (.iconst 0, 1) := by decide +kernel
theorem dX3_rank_2 : decode cX3_rank 2 = .ok (.putfield 15, 3) := by decide +kernel
theorem dX3_rank_5 : decode cX3_rank 5 = .ok (.iconst 0, 1) := by decide +kernel
theorem dX3_rank_6 : decode cX3_rank 6 = .ok (.istore_n 3, 1) := by decide +kernel
theorem dX3_rank_7 : decode cX3_rank 7 = .ok (.iload_n 3, 1) := by decide +kernel
theorem dX3_rank_8 : decode cX3_rank 8 = .ok (.bipush 64, 2) := by decide +kernel
theorem dX3_rank_10 : decode cX3_rank 10 = .ok (.if_icmp .ge 33, 3) := by decide +kernel
theorem dX3_rank_13 : decode cX3_rank 13 = .ok (.aload_n 1, 1) := by decide +kernel
theorem dX3_rank_14 : decode cX3_rank 14 = .ok (.iload_n 3, 1) := by decide +kernel
theorem dX3_rank_15 : decode cX3_rank 15 = .ok (.invokevirtual 19, 3) := by decide +kernel
theorem dX3_rank_18 : decode cX3_rank 18 = .ok (.ifCond .eq 19, 3) := by decide +kernel
theorem dX3_rank_21 : decode cX3_rank 21 = .ok (.aload_n 1, 1) := by decide +kernel
theorem dX3_rank_22 : decode cX3_rank 22 = .ok (.iload_n 2, 1) := by decide +kernel
theorem dX3_rank_23 : decode cX3_rank 23 = .ok (.iload_n 3, 1) := by decide +kernel
theorem dX3_rank_24 : decode cX3_rank 24 = .ok (.invokevirtual 25, 3) := by decide +kernel
theorem dX3_rank_27 : decode cX3_rank 27 = .ok (.ifCond .ne 10, 3) := by decide +kernel
theorem dX3_rank_30 : decode cX3_rank 30 = .ok (.aload_n 0, 1) := by decide +kernel
theorem dX3_rank_31 : decode cX3_rank 31 = .ok (.aload_n 1, 1) := by decide +kernel
theorem dX3_rank_32 : decode cX3_rank 32 = .ok (.iload_n 2, 1) := by decide +kernel
theorem dX3_rank_33 : decode cX3_rank 33 = .ok (.iload_n 3, 1) := by decide +kernel
theorem dX3_rank_34 : decode cX3_rank 34 = .ok (.invokevirtual 29, 3) := by decide +kernel
theorem dX3_rank_37 : decode cX3_rank 37 = .ok (.iinc 3 1, 3) := by decide +kernel
theorem dX3_rank_40 : decode cX3_rank 40 = .ok (.goto (-33), 3) := by decide +kernel
theorem dX3_rank_43 : decode cX3_rank 43 = .ok (.return_, 1) := by decide +kernel
theorem dX3_insert_0 : decode cX3_insert 0 = .ok (.aload_n 0, 1) := by decide +kernel
theorem dX3_insert_1 : decode cX3_insert 1 = .ok (.getfield 15, 3) := by decide +kernel
theorem dX3_insert_4 : decode cX3_insert 4 = .ok (.bipush 64, 2) := by decide +kernel
theorem dX3_insert_6 : decode cX3_insert 6 = .ok (.if_icmp .lt 4, 3) := by decide +kernel
theorem dX3_insert_9 : decode cX3_insert 9 = .ok (.return_, 1) := by decide +kernel
theorem dX3_insert_10 : decode cX3_insert 10 = .ok (.aload_n 1, 1) := by decide +kernel
theorem dX3_insert_11 : decode cX3_insert 11 = .ok (.iload_n 2, 1) := by decide +kernel
theorem dX3_insert_12 : decode cX3_insert 12 = .ok (.iload_n 3, 1) := by decide +kernel
theorem dX3_insert_13 : decode cX3_insert 13 = .ok (.invokevirtual 33, 3) := by decide +kernel
theorem dX3_insert_16 : decode cX3_insert 16 = .ok (.istore 4, 2) := by decide +kernel
theorem dX3_insert_18 : decode cX3_insert 18 = .ok (.aload_n 0, 1) := by decide +kernel
theorem dX3_insert_19 : decode cX3_insert 19 = .ok (.getfield 15, 3) := by decide +kernel
theorem dX3_insert_22 : decode cX3_insert 22 = .ok (.istore 5, 2) := by decide +kernel
theorem dX3_insert_24 : decode cX3_insert 24 = .ok (.iload 5, 2) := by decide +kernel
theorem dX3_insert_26 : decode cX3_insert 26 = .ok (.ifCond .le 44, 3) := by decide +kernel
theorem dX3_insert_29 : decode cX3_insert 29 = .ok (.aload_n 1, 1) := by decide +kernel
theorem dX3_insert_30 : decode cX3_insert 30 = .ok (.iload_n 2, 1) := by decide +kernel
theorem dX3_insert_31 : decode cX3_insert 31 = .ok (.aload_n 0, 1) := by decide +kernel
theorem dX3_insert_32 : decode cX3_insert 32 = .ok (.getfield 9, 3) := by decide +kernel
theorem dX3_insert_35 : decode cX3_insert 35 = .ok (.iload 5, 2) := by decide +kernel
theorem dX3_insert_37 : decode cX3_insert 37 = .ok (.iconst 1, 1) := by decide +kernel
theorem dX3_insert_38 : decode cX3_insert 38 = .ok (.isub, 1) := by decide +kernel
theorem dX3_insert_39 : decode cX3_insert 39 = .ok (.iaload, 1) := by decide +kernel
theorem dX3_insert_40 : decode cX3_insert 40 = .ok (.invokevirtual 33, 3) := by decide +kernel
theorem dX3_insert_43 : decode cX3_insert 43 = .ok (.iload 4, 2) := by decide +kernel
theorem dX3_insert_45 : decode cX3_insert 45 = .ok (.if_icmp .ge 25, 3) := by decide +kernel
theorem dX3_insert_48 : decode cX3_insert 48 = .ok (.aload_n 0, 1) := by decide +kernel
theorem dX3_insert_49 : decode cX3_insert 49 = .ok (.getfield 9, 3) := by decide +kernel
theorem dX3_insert_52 : decode cX3_insert 52 = .ok (.iload 5, 2) := by decide +kernel
theorem dX3_insert_54 : decode cX3_insert 54 = .ok (.aload_n 0, 1) := by decide +kernel
theorem dX3_insert_55 : decode cX3_insert 55 = .ok (.getfield 9, 3) := by decide +kernel
theorem dX3_insert_58 : decode cX3_insert 58 = .ok (.iload 5, 2) := by decide +kernel
theorem dX3_insert_60 : decode cX3_insert 60 = .ok (.iconst 1, 1) := by decide +kernel
theorem dX3_insert_61 : decode cX3_insert 61 = .ok (.isub, 1) := by decide +kernel
theorem dX3_insert_62 : decode cX3_insert 62 = .ok (.iaload, 1) := by decide +kernel
theorem dX3_insert_63 : decode cX3_insert 63 = .ok (.iastore, 1) := by decide +kernel
theorem dX3_insert_64 : decode cX3_insert 64 = .ok (.iinc 5 (-1), 3) := by decide +kernel
theorem dX3_insert_67 : decode cX3_insert 67 = .ok (.goto (-43), 3) := by decide +kernel
theorem dX3_insert_70 : decode cX3_insert 70 = .ok (.aload_n 0, 1) := by decide +kernel
theorem dX3_insert_71 : decode cX3_insert 71 = .ok (.getfield 9, 3) := by decide +kernel
theorem dX3_insert_74 : decode cX3_insert 74 = .ok (.iload 5, 2) := by decide +kernel
theorem dX3_insert_76 : decode cX3_insert 76 = .ok (.iload_n 3, 1) := by decide +kernel
theorem dX3_insert_77 : decode cX3_insert 77 = .ok (.iastore, 1) := by decide +kernel
theorem dX3_insert_78 : decode cX3_insert 78 = .ok (.aload_n 0, 1) := by decide +kernel
theorem dX3_insert_79 : decode cX3_insert 79 = .ok (.dup, 1) := by decide +kernel
theorem dX3_insert_80 : decode cX3_insert 80 = .ok (.getfield 15, 3) := by decide +kernel
theorem dX3_insert_83 : decode cX3_insert 83 = .ok (.iconst 1, 1) := by decide +kernel
theorem dX3_insert_84 : decode cX3_insert 84 = .ok (.iadd, 1) := by decide +kernel
theorem dX3_insert_85 : decode cX3_insert 85 = .ok (.putfield 15, 3) := by decide +kernel
theorem dX3_insert_88 : decode cX3_insert 88 = .ok (.return_, 1) := by decide +kernel
theorem dX3_choose_0 : decode cX3_choose 0 = .ok (.iload 4, 2) := by decide +kernel
theorem dX3_choose_2 : decode cX3_choose 2 = .ok (.iconst 2, 1) := by decide +kernel
theorem dX3_choose_3 : decode cX3_choose 3 = .ok (.idiv, 1) := by decide +kernel
theorem dX3_choose_4 : decode cX3_choose 4 = .ok (.istore 5, 2) := by decide +kernel
theorem dX3_choose_6 : decode cX3_choose 6 = .ok (.aload_n 2, 1) := by decide +kernel
theorem dX3_choose_7 : decode cX3_choose 7 = .ok (.iload 5, 2) := by decide +kernel
theorem dX3_choose_9 : decode cX3_choose 9 = .ok (.invokevirtual 37, 3) := by decide +kernel
theorem dX3_choose_12 : decode cX3_choose 12 = .ok (.istore 6, 2) := by decide +kernel
theorem dX3_choose_14 : decode cX3_choose 14 = .ok (.aload_n 0, 1) := by decide +kernel
theorem dX3_choose_15 : decode cX3_choose 15 = .ok (.iconst 0, 1) := by decide +kernel
theorem dX3_choose_16 : decode cX3_choose 16 = .ok (.putfield 43, 3) := by decide +kernel
theorem dX3_choose_19 : decode cX3_choose 19 = .ok (.aload_n 0, 1) := by decide +kernel
theorem dX3_choose_20 : decode cX3_choose 20 = .ok (.iconst 0, 1) := by decide +kernel
theorem dX3_choose_21 : decode cX3_choose 21 = .ok (.putfield 46, 3) := by decide +kernel
theorem dX3_choose_24 : decode cX3_choose 24 = .ok (.aload_n 3, 1) := by decide +kernel
theorem dX3_choose_25 : decode cX3_choose 25 = .ok (.aload_n 1, 1) := by decide +kernel
theorem dX3_choose_26 : decode cX3_choose 26 = .ok (.iload 4, 2) := by decide +kernel
theorem dX3_choose_28 : decode cX3_choose 28 = .ok (.iload 6, 2) := by decide +kernel
theorem dX3_choose_30 : decode cX3_choose 30 = .ok (.invokevirtual 49, 3) := by decide +kernel
theorem dX3_choose_33 : decode cX3_choose 33 = .ok (.ifCond .eq 9, 3) := by decide +kernel
theorem dX3_choose_36 : decode cX3_choose 36 = .ok (.aload_n 0, 1) := by decide +kernel
theorem dX3_choose_37 : decode cX3_choose 37 = .ok (.iconst 3, 1) := by decide +kernel
theorem dX3_choose_38 : decode cX3_choose 38 = .ok (.putfield 55, 3) := by decide +kernel
theorem dX3_choose_41 : decode cX3_choose 41 = .ok (.return_, 1) := by decide +kernel
theorem dX3_choose_42 : decode cX3_choose 42 = .ok (.aload_n 0, 1) := by decide +kernel
theorem dX3_choose_43 : decode cX3_choose 43 = .ok (.iconst 4, 1) := by decide +kernel
theorem dX3_choose_44 : decode cX3_choose 44 = .ok (.putfield 55, 3) := by decide +kernel
theorem dX3_choose_47 : decode cX3_choose 47 = .ok (.aload_n 0, 1) := by decide +kernel
theorem dX3_choose_48 : decode cX3_choose 48 = .ok (.getfield 15, 3) := by decide +kernel
theorem dX3_choose_51 : decode cX3_choose 51 = .ok (.ifCond .le 8, 3) := by decide +kernel
theorem dX3_choose_54 : decode cX3_choose 54 = .ok (.iload 5, 2) := by decide +kernel
theorem dX3_choose_56 : decode cX3_choose 56 = .ok (.ifCond .ge 4, 3) := by decide +kernel
theorem dX3_choose_59 : decode cX3_choose 59 = .ok (.return_, 1) := by decide +kernel
theorem dX3_choose_60 : decode cX3_choose 60 = .ok (.aload_n 0, 1) := by decide +kernel
theorem dX3_choose_61 : decode cX3_choose 61 = .ok (.getfield 9, 3) := by decide +kernel
theorem dX3_choose_64 : decode cX3_choose 64 = .ok (.iload 5, 2) := by decide +kernel
theorem dX3_choose_66 : decode cX3_choose 66 = .ok (.aload_n 0, 1) := by decide +kernel
theorem dX3_choose_67 : decode cX3_choose 67 = .ok (.getfield 15, 3) := by decide +kernel
theorem dX3_choose_70 : decode cX3_choose 70 = .ok (.irem, 1) := by decide +kernel
theorem dX3_choose_71 : decode cX3_choose 71 = .ok (.iaload, 1) := by decide +kernel
theorem dX3_choose_72 : decode cX3_choose 72 = .ok (.istore 7, 2) := by decide +kernel
theorem dX3_choose_74 : decode cX3_choose 74 = .ok (.aload_n 1, 1) := by decide +kernel
theorem dX3_choose_75 : decode cX3_choose 75 = .ok (.aload_n 3, 1) := by decide +kernel
theorem dX3_choose_76 : decode cX3_choose 76 = .ok (.iload 4, 2) := by decide +kernel
theorem dX3_choose_78 : decode cX3_choose 78 = .ok (.invokevirtual 58, 3) := by decide +kernel
theorem dX3_choose_81 : decode cX3_choose 81 = .ok (.iload 7, 2) := by decide +kernel
theorem dX3_choose_83 : decode cX3_choose 83 = .ok (.iload 6, 2) := by decide +kernel
theorem dX3_choose_85 : decode cX3_choose 85 = .ok (.invokevirtual 61, 3) := by decide +kernel
theorem dX3_choose_88 : decode cX3_choose 88 = .ok (.istore 8, 2) := by decide +kernel
theorem dX3_choose_90 : decode cX3_choose 90 = .ok (.iload 8, 2) := by decide +kernel
theorem dX3_choose_92 : decode cX3_choose 92 = .ok (.invokestatic 65, 3) := by decide +kernel
theorem dX3_choose_95 : decode cX3_choose 95 = .ok (.ifCond .eq 25, 3) := by decide +kernel
theorem dX3_choose_98 : decode cX3_choose 98 = .ok (.aload_n 0, 1) := by decide +kernel
theorem dX3_choose_99 : decode cX3_choose 99 = .ok (.aload_n 3, 1) := by decide +kernel
theorem dX3_choose_100 : decode cX3_choose 100 = .ok (.iload 4, 2) := by decide +kernel
theorem dX3_choose_102 : decode cX3_choose 102 = .ok (.invokevirtual 68, 3) := by decide +kernel
theorem dX3_choose_105 : decode cX3_choose 105 = .ok (.putfield 55, 3) := by decide +kernel
theorem dX3_choose_108 : decode cX3_choose 108 = .ok (.aload_n 0, 1) := by decide +kernel
theorem dX3_choose_109 : decode cX3_choose 109 = .ok (.iload 7, 2) := by decide +kernel
theorem dX3_choose_111 : decode cX3_choose 111 = .ok (.putfield 43, 3) := by decide +kernel
theorem dX3_choose_114 : decode cX3_choose 114 = .ok (.aload_n 0, 1) := by decide +kernel
theorem dX3_choose_115 : decode cX3_choose 115 = .ok (.iload 8, 2) := by decide +kernel
theorem dX3_choose_117 : decode cX3_choose 117 = .ok (.putfield 46, 3) := by decide +kernel
theorem dX3_choose_120 : decode cX3_choose 120 = .ok (.return_, 1) := by decide +kernel
theorem dX4_init_0 : decode cX4_init 0 = .ok (.aload_n 0, 1) := by decide +kernel
theorem dX4_init_1 : decode cX4_init 1 = .ok (.invokespecial 3, 3) := by decide +kernel
theorem dX4_init_4 : decode cX4_init 4 = .ok (.aload_n 0, 1) := by decide +kernel
theorem dX4_init_5 : decode cX4_init 5 = .ok (.aload_n 1, 1) := by decide +kernel
theorem dX4_init_6 : decode cX4_init 6 = .ok (.aload_n 2, 1) := by decide +kernel
theorem dX4_init_7 : decode cX4_init 7 = .ok (.invokevirtual 9, 3) := by decide +kernel
theorem dX4_init_10 : decode cX4_init 10 = .ok (.return_, 1) := by decide +kernel
theorem dX4_take_0 : decode cX4_take 0 = .ok (.aload_n 0, 1) := by decide +kernel
theorem dX4_take_1 : decode cX4_take 1 = .ok (.aload_n 1, 1) := by decide +kernel
theorem dX4_take_2 : decode cX4_take 2 = .ok (.getfield 15, 3) := by decide +kernel
theorem dX4_take_5 : decode cX4_take 5 = .ok (.putfield 21, 3) := by decide +kernel
theorem dX4_take_8 : decode cX4_take 8 = .ok (.aload_n 0, 1) := by decide +kernel
theorem dX4_take_9 : decode cX4_take 9 = .ok (.aload_n 2, 1) := by decide +kernel
theorem dX4_take_10 : decode cX4_take 10 = .ok (.getfield 15, 3) := by decide +kernel
theorem dX4_take_13 : decode cX4_take 13 = .ok (.putfield 24, 3) := by decide +kernel
theorem dX4_take_16 : decode cX4_take 16 = .ok (.aload_n 0, 1) := by decide +kernel
theorem dX4_take_17 : decode cX4_take 17 = .ok (.aload_n 1, 1) := by decide +kernel
theorem dX4_take_18 : decode cX4_take 18 = .ok (.getfield 27, 3) := by decide +kernel
theorem dX4_take_21 : decode cX4_take 21 = .ok (.putfield 30, 3) := by decide +kernel
theorem dX4_take_24 : decode cX4_take 24 = .ok (.aload_n 0, 1) := by decide +kernel
theorem dX4_take_25 : decode cX4_take 25 = .ok (.aload_n 2, 1) := by decide +kernel
theorem dX4_take_26 : decode cX4_take 26 = .ok (.getfield 27, 3) := by decide +kernel
theorem dX4_take_29 : decode cX4_take 29 = .ok (.putfield 33, 3) := by decide +kernel
theorem dX4_take_32 : decode cX4_take 32 = .ok (.aload_n 0, 1) := by decide +kernel
theorem dX4_take_33 : decode cX4_take 33 = .ok (.aload_n 1, 1) := by decide +kernel
theorem dX4_take_34 : decode cX4_take 34 = .ok (.getfield 36, 3) := by decide +kernel
theorem dX4_take_37 : decode cX4_take 37 = .ok (.putfield 40, 3) := by decide +kernel
theorem dX4_take_40 : decode cX4_take 40 = .ok (.aload_n 0, 1) := by decide +kernel
theorem dX4_take_41 : decode cX4_take 41 = .ok (.aload_n 2, 1) := by decide +kernel
theorem dX4_take_42 : decode cX4_take 42 = .ok (.getfield 36, 3) := by decide +kernel
theorem dX4_take_45 : decode cX4_take 45 = .ok (.putfield 43, 3) := by decide +kernel
theorem dX4_take_48 : decode cX4_take 48 = .ok (.return_, 1) := by decide +kernel
theorem dX4_suppose_0 : decode cX4_suppose 0 = .ok (.aload_n 0, 1) := by decide +kernel
theorem dX4_suppose_1 : decode cX4_suppose 1 = .ok (.aload_n 1, 1) := by decide +kernel
theorem dX4_suppose_2 : decode cX4_suppose 2 = .ok (.getfield 21, 3) := by decide +kernel
theorem dX4_suppose_5 : decode cX4_suppose 5 = .ok (.putfield 21, 3) := by decide +kernel
theorem dX4_suppose_8 : decode cX4_suppose 8 = .ok (.aload_n 0, 1) := by decide +kernel
theorem dX4_suppose_9 : decode cX4_suppose 9 = .ok (.aload_n 1, 1) := by decide +kernel
theorem dX4_suppose_10 : decode cX4_suppose 10 = .ok (.getfield 24, 3) := by decide +kernel
theorem dX4_suppose_13 : decode cX4_suppose 13 = .ok (.putfield 24, 3) := by decide +kernel
theorem dX4_suppose_16 : decode cX4_suppose 16 = .ok (.aload_n 0, 1) := by decide +kernel
theorem dX4_suppose_17 : decode cX4_suppose 17 = .ok (.aload_n 1, 1) := by decide +kernel
theorem dX4_suppose_18 : decode cX4_suppose 18 = .ok (.getfield 30, 3) := by decide +kernel
theorem dX4_suppose_21 : decode cX4_suppose 21 = .ok (.putfield 30, 3) := by decide +kernel
theorem dX4_suppose_24 : decode cX4_suppose 24 = .ok (.aload_n 0, 1) := by decide +kernel
theorem dX4_suppose_25 : decode cX4_suppose 25 = .ok (.aload_n 1, 1) := by decide +kernel
theorem dX4_suppose_26 : decode cX4_suppose 26 = .ok (.getfield 33, 3) := by decide +kernel
theorem dX4_suppose_29 : decode cX4_suppose 29 = .ok (.putfield 33, 3) := by decide +kernel
theorem dX4_suppose_32 : decode cX4_suppose 32 = .ok (.aload_n 0, 1) := by decide +kernel
theorem dX4_suppose_33 : decode cX4_suppose 33 = .ok (.iload_n 2, 1) := by decide +kernel
theorem dX4_suppose_34 : decode cX4_suppose 34 = .ok (.ifCond .ne 7, 3) := by decide +kernel
theorem dX4_suppose_37 : decode cX4_suppose 37 = .ok (.aload_n 3, 1) := by decide +kernel
theorem dX4_suppose_38 : decode cX4_suppose 38 = .ok (.goto 7, 3) := by decide +kernel
theorem dX4_suppose_41 : decode cX4_suppose 41 = .ok (.aload_n 1, 1) := by decide +kernel
theorem dX4_suppose_42 : decode cX4_suppose 42 = .ok (.getfield 40, 3) := by decide +kernel
theorem dX4_suppose_45 : decode cX4_suppose 45 = .ok (.putfield 40, 3) := by decide +kernel
theorem dX4_suppose_48 : decode cX4_suppose 48 = .ok (.aload_n 0, 1) := by decide +kernel
theorem dX4_suppose_49 : decode cX4_suppose 49 = .ok (.iload_n 2, 1) := by decide +kernel
theorem dX4_suppose_50 : decode cX4_suppose 50 = .ok (.ifCond .ne 10, 3) := by decide +kernel
theorem dX4_suppose_53 : decode cX4_suppose 53 = .ok (.aload_n 1, 1) := by decide +kernel
theorem dX4_suppose_54 : decode cX4_suppose 54 = .ok (.getfield 43, 3) := by decide +kernel
theorem dX4_suppose_57 : decode cX4_suppose 57 = .ok (.goto 4, 3) := by decide +kernel
theorem dX4_suppose_60 : decode cX4_suppose 60 = .ok (.aload_n 3, 1) := by decide +kernel
theorem dX4_suppose_61 : decode cX4_suppose 61 = .ok (.putfield 43, 3) := by decide +kernel
theorem dX4_suppose_64 : decode cX4_suppose 64 = .ok (.return_, 1) := by decide +kernel
theorem dX4_pool_0 : decode cX4_pool 0 = .ok (.aload_n 0, 1) := by decide +kernel
theorem dX4_pool_1 : decode cX4_pool 1 = .ok (.getfield 21, 3) := by decide +kernel
theorem dX4_pool_4 : decode cX4_pool 4 = .ok (.aload_n 0, 1) := by decide +kernel
theorem dX4_pool_5 : decode cX4_pool 5 = .ok (.getfield 24, 3) := by decide +kernel
theorem dX4_pool_8 : decode cX4_pool 8 = .ok (.ior, 1) := by decide +kernel
theorem dX4_pool_9 : decode cX4_pool 9 = .ok (.ireturn, 1) := by decide +kernel
theorem dX4_isInPool_0 : decode cX4_isInPool 0 = .ok (.iload_n 1, 1) := by decide +kernel
theorem dX4_isInPool_1 : decode cX4_isInPool 1 = .ok (.aload_n 0, 1) := by decide +kernel
theorem dX4_isInPool_2 : decode cX4_isInPool 2 = .ok (.invokevirtual 46, 3) := by decide +kernel
theorem dX4_isInPool_5 : decode cX4_isInPool 5 = .ok (.iconst (-1), 1) := by decide +kernel
theorem dX4_isInPool_6 : decode cX4_isInPool 6 = .ok (.ixor, 1) := by decide +kernel
theorem dX4_isInPool_7 : decode cX4_isInPool 7 = .ok (.iand, 1) := by decide +kernel
theorem dX4_isInPool_8 : decode cX4_isInPool 8 = .ok (.ifCond .ne 7, 3) := by decide +kernel
theorem dX4_isInPool_11 : decode cX4_isInPool 11 = .ok (.iconst 1, 1) := by decide +kernel
theorem dX4_isInPool_12 : decode cX4_isInPool 12 = .ok (.goto 4, 3) := by decide +kernel
theorem dX4_isInPool_15 : decode cX4_isInPool 15 = .ok (.iconst 0, 1) := by decide +kernel
theorem dX4_isInPool_16 : decode cX4_isInPool 16 = .ok (.ireturn, 1) := by decide +kernel
theorem dX4_isBarredTo_0 : decode cX4_isBarredTo 0 = .ok (.iload_n 1, 1) := by decide +kernel
theorem dX4_isBarredTo_1 : decode cX4_isBarredTo 1 = .ok (.ifCond .ne 20, 3) := by decide +kernel
theorem dX4_isBarredTo_4 : decode cX4_isBarredTo 4 = .ok (.aload_n 0, 1) := by decide +kernel
theorem dX4_isBarredTo_5 : decode cX4_isBarredTo 5 = .ok (.getfield 40, 3) := by decide +kernel
theorem dX4_isBarredTo_8 : decode cX4_isBarredTo 8 = .ok (.getfield 50, 3) := by decide +kernel
theorem dX4_isBarredTo_11 : decode cX4_isBarredTo 11 = .ok (.aload_n 0, 1) := by decide +kernel
theorem dX4_isBarredTo_12 : decode cX4_isBarredTo 12 = .ok (.getfield 21, 3) := by decide +kernel
theorem dX4_isBarredTo_15 : decode cX4_isBarredTo 15 = .ok (.iload_n 2, 1) := by decide +kernel
theorem dX4_isBarredTo_16 : decode cX4_isBarredTo 16 = .ok (.ixor, 1) := by decide +kernel
theorem dX4_isBarredTo_17 : decode cX4_isBarredTo 17 = .ok (.baload, 1) := by decide +kernel
theorem dX4_isBarredTo_18 : decode cX4_isBarredTo 18 = .ok (.goto 17, 3) := by decide +kernel
theorem dX4_isBarredTo_21 : decode cX4_isBarredTo 21 = .ok (.aload_n 0, 1) := by decide +kernel
theorem dX4_isBarredTo_22 : decode cX4_isBarredTo 22 = .ok (.getfield 43, 3) := by decide +kernel
theorem dX4_isBarredTo_25 : decode cX4_isBarredTo 25 = .ok (.getfield 50, 3) := by decide +kernel
theorem dX4_isBarredTo_28 : decode cX4_isBarredTo 28 = .ok (.aload_n 0, 1) := by decide +kernel
theorem dX4_isBarredTo_29 : decode cX4_isBarredTo 29 = .ok (.getfield 24, 3) := by decide +kernel
theorem dX4_isBarredTo_32 : decode cX4_isBarredTo 32 = .ok (.iload_n 2, 1) := by decide +kernel
theorem dX4_isBarredTo_33 : decode cX4_isBarredTo 33 = .ok (.ixor, 1) := by decide +kernel
theorem dX4_isBarredTo_34 : decode cX4_isBarredTo 34 = .ok (.baload, 1) := by decide +kernel
theorem dX4_isBarredTo_35 : decode cX4_isBarredTo 35 = .ok (.ireturn, 1) := by decide +kernel
theorem dX4_worthThen_0 : decode cX4_worthThen 0 = .ok (.iload_n 1, 1) := by decide +kernel
theorem dX4_worthThen_1 : decode cX4_worthThen 1 = .ok (.ifCond .ne 20, 3) := by decide +kernel
theorem dX4_worthThen_4 : decode cX4_worthThen 4 = .ok (.aload_n 0, 1) := by decide +kernel
theorem dX4_worthThen_5 : decode cX4_worthThen 5 = .ok (.getfield 40, 3) := by decide +kernel
theorem dX4_worthThen_8 : decode cX4_worthThen 8 = .ok (.getfield 56, 3) := by decide +kernel
theorem dX4_worthThen_11 : decode cX4_worthThen 11 = .ok (.aload_n 0, 1) := by decide +kernel
theorem dX4_worthThen_12 : decode cX4_worthThen 12 = .ok (.getfield 21, 3) := by decide +kernel
theorem dX4_worthThen_15 : decode cX4_worthThen 15 = .ok (.iload_n 2, 1) := by decide +kernel
theorem dX4_worthThen_16 : decode cX4_worthThen 16 = .ok (.ixor, 1) := by decide +kernel
theorem dX4_worthThen_17 : decode cX4_worthThen 17 = .ok (.iaload, 1) := by decide +kernel
theorem dX4_worthThen_18 : decode cX4_worthThen 18 = .ok (.goto 17, 3) := by decide +kernel
theorem dX4_worthThen_21 : decode cX4_worthThen 21 = .ok (.aload_n 0, 1) := by decide +kernel
theorem dX4_worthThen_22 : decode cX4_worthThen 22 = .ok (.getfield 43, 3) := by decide +kernel
theorem dX4_worthThen_25 : decode cX4_worthThen 25 = .ok (.getfield 56, 3) := by decide +kernel
theorem dX4_worthThen_28 : decode cX4_worthThen 28 = .ok (.aload_n 0, 1) := by decide +kernel
theorem dX4_worthThen_29 : decode cX4_worthThen 29 = .ok (.getfield 24, 3) := by decide +kernel
theorem dX4_worthThen_32 : decode cX4_worthThen 32 = .ok (.iload_n 2, 1) := by decide +kernel
theorem dX4_worthThen_33 : decode cX4_worthThen 33 = .ok (.ixor, 1) := by decide +kernel
theorem dX4_worthThen_34 : decode cX4_worthThen 34 = .ok (.iaload, 1) := by decide +kernel
theorem dX4_worthThen_35 : decode cX4_worthThen 35 = .ok (.ireturn, 1) := by decide +kernel
theorem dX4_gained_0 : decode cX4_gained 0 = .ok (.aload_n 0, 1) := by decide +kernel
theorem dX4_gained_1 : decode cX4_gained 1 = .ok (.iload_n 1, 1) := by decide +kernel
theorem dX4_gained_2 : decode cX4_gained 2 = .ok (.iload_n 2, 1) := by decide +kernel
theorem dX4_gained_3 : decode cX4_gained 3 = .ok (.invokevirtual 60, 3) := by decide +kernel
theorem dX4_gained_6 : decode cX4_gained 6 = .ok (.aload_n 0, 1) := by decide +kernel
theorem dX4_gained_7 : decode cX4_gained 7 = .ok (.iload_n 1, 1) := by decide +kernel
theorem dX4_gained_8 : decode cX4_gained 8 = .ok (.iconst 0, 1) := by decide +kernel
theorem dX4_gained_9 : decode cX4_gained 9 = .ok (.invokevirtual 60, 3) := by decide +kernel
theorem dX4_gained_12 : decode cX4_gained 12 = .ok (.isub, 1) := by decide +kernel
theorem dX4_gained_13 : decode cX4_gained 13 = .ok (.istore 4, 2) := by decide +kernel
theorem dX4_gained_15 : decode cX4_gained 15 = .ok (.iload_n 1, 1) := by decide +kernel
theorem dX4_gained_16 : decode cX4_gained 16 = .ok (.ifCond .ne 10, 3) := by decide +kernel
theorem dX4_gained_19 : decode cX4_gained 19 = .ok (.iload 4, 2) := by decide +kernel
theorem dX4_gained_21 : decode cX4_gained 21 = .ok (.iload_n 3, 1) := by decide +kernel
theorem dX4_gained_22 : decode cX4_gained 22 = .ok (.isub, 1) := by decide +kernel
theorem dX4_gained_23 : decode cX4_gained 23 = .ok (.goto 7, 3) := by decide +kernel
theorem dX4_gained_26 : decode cX4_gained 26 = .ok (.iload 4, 2) := by decide +kernel
theorem dX4_gained_28 : decode cX4_gained 28 = .ok (.iload_n 3, 1) := by decide +kernel
theorem dX4_gained_29 : decode cX4_gained 29 = .ok (.iadd, 1) := by decide +kernel
theorem dX4_gained_30 : decode cX4_gained 30 = .ok (.ireturn, 1) := by decide +kernel
theorem dX4_priceFor_0 : decode cX4_priceFor 0 = .ok (.aload_n 0, 1) := by decide +kernel
theorem dX4_priceFor_1 : decode cX4_priceFor 1 = .ok (.iload_n 1, 1) := by decide +kernel
theorem dX4_priceFor_2 : decode cX4_priceFor 2 = .ok (.iload_n 2, 1) := by decide +kernel
theorem dX4_priceFor_3 : decode cX4_priceFor 3 = .ok (.iconst 0, 1) := by decide +kernel
theorem dX4_priceFor_4 : decode cX4_priceFor 4 = .ok (.invokevirtual 64, 3) := by decide +kernel
theorem dX4_priceFor_7 : decode cX4_priceFor 7 = .ok (.iload_n 3, 1) := by decide +kernel
theorem dX4_priceFor_8 : decode cX4_priceFor 8 = .ok (.isub, 1) := by decide +kernel
theorem dX4_priceFor_9 : decode cX4_priceFor 9 = .ok (.istore 4, 2) := by decide +kernel
theorem dX4_priceFor_11 : decode cX4_priceFor 11 = .ok (.iload_n 1, 1) := by decide +kernel
theorem dX4_priceFor_12 : decode cX4_priceFor 12 = .ok (.ifCond .ne 8, 3) := by decide +kernel
theorem dX4_priceFor_15 : decode cX4_priceFor 15 = .ok (.iload 4, 2) := by decide +kernel
theorem dX4_priceFor_17 : decode cX4_priceFor 17 = .ok (.goto 6, 3) := by decide +kernel
theorem dX4_priceFor_20 : decode cX4_priceFor 20 = .ok (.iload 4, 2) := by decide +kernel
theorem dX4_priceFor_22 : decode cX4_priceFor 22 = .ok (.ineg, 1) := by decide +kernel
theorem dX4_priceFor_23 : decode cX4_priceFor 23 = .ok (.ireturn, 1) := by decide +kernel
theorem dX4_sumOfGains_0 : decode cX4_sumOfGains 0 = .ok (.aload_n 0, 1) := by decide +kernel
theorem dX4_sumOfGains_1 : decode cX4_sumOfGains 1 = .ok (.iconst 0, 1) := by decide +kernel
theorem dX4_sumOfGains_2 : decode cX4_sumOfGains 2 = .ok (.iload_n 1, 1) := by decide +kernel
theorem dX4_sumOfGains_3 : decode cX4_sumOfGains 3 = .ok (.iconst 0, 1) := by decide +kernel
theorem dX4_sumOfGains_4 : decode cX4_sumOfGains 4 = .ok (.invokevirtual 64, 3) := by decide +kernel
theorem dX4_sumOfGains_7 : decode cX4_sumOfGains 7 = .ok (.aload_n 0, 1) := by decide +kernel
theorem dX4_sumOfGains_8 : decode cX4_sumOfGains 8 = .ok (.iconst 1, 1) := by decide +kernel
theorem dX4_sumOfGains_9 : decode cX4_sumOfGains 9 = .ok (.iload_n 1, 1) := by decide +kernel
theorem dX4_sumOfGains_10 : decode cX4_sumOfGains 10 = .ok (.iconst 0, 1) := by decide +kernel
theorem dX4_sumOfGains_11 : decode cX4_sumOfGains 11 = .ok (.invokevirtual 64, 3) := by decide +kernel
theorem dX4_sumOfGains_14 : decode cX4_sumOfGains 14 = .ok (.iadd, 1) := by decide +kernel
theorem dX4_sumOfGains_15 : decode cX4_sumOfGains 15 = .ok (.ireturn, 1) := by decide +kernel
theorem dX4_evenPrice_0 : decode cX4_evenPrice 0 = .ok (.aload_n 0, 1) := by decide +kernel
theorem dX4_evenPrice_1 : decode cX4_evenPrice 1 = .ok (.iconst 0, 1) := by decide +kernel
theorem dX4_evenPrice_2 : decode cX4_evenPrice 2 = .ok (.iload_n 1, 1) := by decide +kernel
theorem dX4_evenPrice_3 : decode cX4_evenPrice 3 = .ok (.iconst 0, 1) := by decide +kernel
theorem dX4_evenPrice_4 : decode cX4_evenPrice 4 = .ok (.invokevirtual 64, 3) := by decide +kernel
theorem dX4_evenPrice_7 : decode cX4_evenPrice 7 = .ok (.aload_n 0, 1) := by decide +kernel
theorem dX4_evenPrice_8 : decode cX4_evenPrice 8 = .ok (.iconst 1, 1) := by decide +kernel
theorem dX4_evenPrice_9 : decode cX4_evenPrice 9 = .ok (.iload_n 1, 1) := by decide +kernel
theorem dX4_evenPrice_10 : decode cX4_evenPrice 10 = .ok (.iconst 0, 1) := by decide +kernel
theorem dX4_evenPrice_11 : decode cX4_evenPrice 11 = .ok (.invokevirtual 64, 3) := by decide +kernel
theorem dX4_evenPrice_14 : decode cX4_evenPrice 14 = .ok (.isub, 1) := by decide +kernel
theorem dX4_evenPrice_15 : decode cX4_evenPrice 15 = .ok (.iconst 2, 1) := by decide +kernel
theorem dX4_evenPrice_16 : decode cX4_evenPrice 16 = .ok (.idiv, 1) := by decide +kernel
theorem dX4_evenPrice_17 : decode cX4_evenPrice 17 = .ok (.ireturn, 1) := by decide +kernel
theorem dX4_isOpenToBoth_0 : decode cX4_isOpenToBoth 0 = .ok (.aload_n 0, 1) := by decide +kernel
theorem dX4_isOpenToBoth_1 : decode cX4_isOpenToBoth 1 = .ok (.getfield 40, 3) := by decide +kernel
theorem dX4_isOpenToBoth_4 : decode cX4_isOpenToBoth 4 = .ok (.getfield 50, 3) := by decide +kernel
theorem dX4_isOpenToBoth_7 : decode cX4_isOpenToBoth 7 = .ok (.aload_n 0, 1) := by decide +kernel
theorem dX4_isOpenToBoth_8 : decode cX4_isOpenToBoth 8 = .ok (.getfield 21, 3) := by decide +kernel
theorem dX4_isOpenToBoth_11 : decode cX4_isOpenToBoth 11 = .ok (.iload_n 1, 1) := by decide +kernel
theorem dX4_isOpenToBoth_12 : decode cX4_isOpenToBoth 12 = .ok (.ixor, 1) := by decide +kernel
theorem dX4_isOpenToBoth_13 : decode cX4_isOpenToBoth 13 = .ok (.baload, 1) := by decide +kernel
theorem dX4_isOpenToBoth_14 : decode cX4_isOpenToBoth 14 = .ok (.ifCond .ne 24, 3) := by decide +kernel
theorem dX4_isOpenToBoth_17 : decode cX4_isOpenToBoth 17 = .ok (.aload_n 0, 1) := by decide +kernel
theorem dX4_isOpenToBoth_18 : decode cX4_isOpenToBoth 18 = .ok (.getfield 43, 3) := by decide +kernel
theorem dX4_isOpenToBoth_21 : decode cX4_isOpenToBoth 21 = .ok (.getfield 50, 3) := by decide +kernel
theorem dX4_isOpenToBoth_24 : decode cX4_isOpenToBoth 24 = .ok (.aload_n 0, 1) := by decide +kernel
theorem dX4_isOpenToBoth_25 : decode cX4_isOpenToBoth 25 = .ok (.getfield 24, 3) := by decide +kernel
theorem dX4_isOpenToBoth_28 : decode cX4_isOpenToBoth 28 = .ok (.iload_n 1, 1) := by decide +kernel
theorem dX4_isOpenToBoth_29 : decode cX4_isOpenToBoth 29 = .ok (.ixor, 1) := by decide +kernel
theorem dX4_isOpenToBoth_30 : decode cX4_isOpenToBoth 30 = .ok (.baload, 1) := by decide +kernel
theorem dX4_isOpenToBoth_31 : decode cX4_isOpenToBoth 31 = .ok (.ifCond .ne 7, 3) := by decide +kernel
theorem dX4_isOpenToBoth_34 : decode cX4_isOpenToBoth 34 = .ok (.iconst 1, 1) := by decide +kernel
theorem dX4_isOpenToBoth_35 : decode cX4_isOpenToBoth 35 = .ok (.goto 4, 3) := by decide +kernel
theorem dX4_isOpenToBoth_38 : decode cX4_isOpenToBoth 38 = .ok (.iconst 0, 1) := by decide +kernel
theorem dX4_isOpenToBoth_39 : decode cX4_isOpenToBoth 39 = .ok (.ireturn, 1) := by decide +kernel
theorem dX4_isGood_0 : decode cX4_isGood 0 = .ok (.aload_n 0, 1) := by decide +kernel
theorem dX4_isGood_1 : decode cX4_isGood 1 = .ok (.iload_n 1, 1) := by decide +kernel
theorem dX4_isGood_2 : decode cX4_isGood 2 = .ok (.invokevirtual 68, 3) := by decide +kernel
theorem dX4_isGood_5 : decode cX4_isGood 5 = .ok (.ifCond .eq 39, 3) := by decide +kernel
theorem dX4_isGood_8 : decode cX4_isGood 8 = .ok (.aload_n 0, 1) := by decide +kernel
theorem dX4_isGood_9 : decode cX4_isGood 9 = .ok (.getfield 30, 3) := by decide +kernel
theorem dX4_isGood_12 : decode cX4_isGood 12 = .ok (.iload_n 2, 1) := by decide +kernel
theorem dX4_isGood_13 : decode cX4_isGood 13 = .ok (.isub, 1) := by decide +kernel
theorem dX4_isGood_14 : decode cX4_isGood 14 = .ok (.iconst 0, 1) := by decide +kernel
theorem dX4_isGood_15 : decode cX4_isGood 15 = .ok (.sipush 9999, 3) := by decide +kernel
theorem dX4_isGood_18 : decode cX4_isGood 18 = .ok (.invokestatic 72, 3) := by decide +kernel
theorem dX4_isGood_21 : decode cX4_isGood 21 = .ok (.ifCond .eq 23, 3) := by decide +kernel
theorem dX4_isGood_24 : decode cX4_isGood 24 = .ok (.aload_n 0, 1) := by decide +kernel
theorem dX4_isGood_25 : decode cX4_isGood 25 = .ok (.getfield 33, 3) := by decide +kernel
theorem dX4_isGood_28 : decode cX4_isGood 28 = .ok (.iload_n 2, 1) := by decide +kernel
theorem dX4_isGood_29 : decode cX4_isGood 29 = .ok (.iadd, 1) := by decide +kernel
theorem dX4_isGood_30 : decode cX4_isGood 30 = .ok (.iconst 0, 1) := by decide +kernel
theorem dX4_isGood_31 : decode cX4_isGood 31 = .ok (.sipush 9999, 3) := by decide +kernel
theorem dX4_isGood_34 : decode cX4_isGood 34 = .ok (.invokestatic 72, 3) := by decide +kernel
theorem dX4_isGood_37 : decode cX4_isGood 37 = .ok (.ifCond .eq 7, 3) := by decide +kernel
theorem dX4_isGood_40 : decode cX4_isGood 40 = .ok (.iconst 1, 1) := by decide +kernel
theorem dX4_isGood_41 : decode cX4_isGood 41 = .ok (.goto 4, 3) := by decide +kernel
theorem dX4_isGood_44 : decode cX4_isGood 44 = .ok (.iconst 0, 1) := by decide +kernel
theorem dX4_isGood_45 : decode cX4_isGood 45 = .ok (.ireturn, 1) := by decide +kernel
theorem dX4_bestSet_0 : decode cX4_bestSet 0 = .ok (.iconst (-1), 1) := by decide +kernel
theorem dX4_bestSet_1 : decode cX4_bestSet 1 = .ok (.istore_n 1, 1) := by decide +kernel
theorem dX4_bestSet_2 : decode cX4_bestSet 2 = .ok (.iconst 0, 1) := by decide +kernel
theorem dX4_bestSet_3 : decode cX4_bestSet 3 = .ok (.istore_n 2, 1) := by decide +kernel
theorem dX4_bestSet_4 : decode cX4_bestSet 4 = .ok (.iconst 0, 1) := by decide +kernel
theorem dX4_bestSet_5 : decode cX4_bestSet 5 = .ok (.istore_n 3, 1) := by decide +kernel
theorem dX4_bestSet_6 : decode cX4_bestSet 6 = .ok (.iload_n 3, 1) := by decide +kernel
theorem dX4_bestSet_7 : decode cX4_bestSet 7 = .ok (.bipush 64, 2) := by decide +kernel
theorem dX4_bestSet_9 : decode cX4_bestSet 9 = .ok (.if_icmp .ge 46, 3) := by decide +kernel
theorem dX4_bestSet_12 : decode cX4_bestSet 12 = .ok (.aload_n 0, 1) := by decide +kernel
theorem dX4_bestSet_13 : decode cX4_bestSet 13 = .ok (.iload_n 3, 1) := by decide +kernel
theorem dX4_bestSet_14 : decode cX4_bestSet 14 = .ok (.invokevirtual 76, 3) := by decide +kernel
theorem dX4_bestSet_17 : decode cX4_bestSet 17 = .ok (.ifCond .eq 32, 3) := by decide +kernel
theorem dX4_bestSet_20 : decode cX4_bestSet 20 = .ok (.aload_n 0, 1) := by decide +kernel
theorem dX4_bestSet_21 : decode cX4_bestSet 21 = .ok (.iload_n 3, 1) := by decide +kernel
theorem dX4_bestSet_22 : decode cX4_bestSet 22 = .ok (.invokevirtual 68, 3) := by decide +kernel
theorem dX4_bestSet_25 : decode cX4_bestSet 25 = .ok (.ifCond .eq 24, 3) := by decide +kernel
theorem dX4_bestSet_28 : decode cX4_bestSet 28 = .ok (.iload_n 1, 1) := by decide +kernel
theorem dX4_bestSet_29 : decode cX4_bestSet 29 = .ok (.ifCond .lt 12, 3) := by decide +kernel
theorem dX4_bestSet_32 : decode cX4_bestSet 32 = .ok (.aload_n 0, 1) := by decide +kernel
theorem dX4_bestSet_33 : decode cX4_bestSet 33 = .ok (.iload_n 3, 1) := by decide +kernel
theorem dX4_bestSet_34 : decode cX4_bestSet 34 = .ok (.invokevirtual 79, 3) := by decide +kernel
theorem dX4_bestSet_37 : decode cX4_bestSet 37 = .ok (.iload_n 2, 1) := by decide +kernel
theorem dX4_bestSet_38 : decode cX4_bestSet 38 = .ok (.if_icmp .le 11, 3) := by decide +kernel
theorem dX4_bestSet_41 : decode cX4_bestSet 41 = .ok (.iload_n 3, 1) := by decide +kernel
theorem dX4_bestSet_42 : decode cX4_bestSet 42 = .ok (.istore_n 1, 1) := by decide +kernel
theorem dX4_bestSet_43 : decode cX4_bestSet 43 = .ok (.aload_n 0, 1) := by decide +kernel
theorem dX4_bestSet_44 : decode cX4_bestSet 44 = .ok (.iload_n 3, 1) := by decide +kernel
theorem dX4_bestSet_45 : decode cX4_bestSet 45 = .ok (.invokevirtual 79, 3) := by decide +kernel
theorem dX4_bestSet_48 : decode cX4_bestSet 48 = .ok (.istore_n 2, 1) := by decide +kernel
theorem dX4_bestSet_49 : decode cX4_bestSet 49 = .ok (.iinc 3 1, 3) := by decide +kernel
theorem dX4_bestSet_52 : decode cX4_bestSet 52 = .ok (.goto (-46), 3) := by decide +kernel
theorem dX4_bestSet_55 : decode cX4_bestSet 55 = .ok (.iload_n 1, 1) := by decide +kernel
theorem dX4_bestSet_56 : decode cX4_bestSet 56 = .ok (.ireturn, 1) := by decide +kernel
theorem dX5_init_0 : decode cX5_init 0 = .ok (.aload_n 0, 1) := by decide +kernel
theorem dX5_init_1 : decode cX5_init 1 = .ok (.invokespecial 1, 3) := by decide +kernel
theorem dX5_init_4 : decode cX5_init 4 = .ok (.aload_n 0, 1) := by decide +kernel
theorem dX5_init_5 : decode cX5_init 5 = .ok (.bipush 16, 2) := by decide +kernel
theorem dX5_init_7 : decode cX5_init 7 = .ok (.newarray .int, 2) := by decide +kernel
theorem dX5_init_9 : decode cX5_init 9 = .ok (.putfield 9, 3) := by decide +kernel
theorem dX5_init_12 : decode cX5_init 12 = .ok (.bipush 7, 2) := by decide +kernel
theorem dX5_init_14 : decode cX5_init 14 = .ok (.istore_n 1, 1) := by decide +kernel
theorem dX5_init_15 : decode cX5_init 15 = .ok (.iload_n 1, 1) := by decide +kernel
theorem dX5_init_16 : decode cX5_init 16 = .ok (.ifCond .le 36, 3) := by decide +kernel
theorem dX5_init_19 : decode cX5_init 19 = .ok (.aload_n 0, 1) := by decide +kernel
theorem dX5_init_20 : decode cX5_init 20 = .ok (.getfield 9, 3) := by decide +kernel
theorem dX5_init_23 : decode cX5_init 23 = .ok (.iload_n 1, 1) := by decide +kernel
theorem dX5_init_24 : decode cX5_init 24 = .ok (.aload_n 0, 1) := by decide +kernel
theorem dX5_init_25 : decode cX5_init 25 = .ok (.getfield 9, 3) := by decide +kernel
theorem dX5_init_28 : decode cX5_init 28 = .ok (.iconst 2, 1) := by decide +kernel
theorem dX5_init_29 : decode cX5_init 29 = .ok (.iload_n 1, 1) := by decide +kernel
theorem dX5_init_30 : decode cX5_init 30 = .ok (.imul, 1) := by decide +kernel
theorem dX5_init_31 : decode cX5_init 31 = .ok (.iaload, 1) := by decide +kernel
theorem dX5_init_32 : decode cX5_init 32 = .ok (.aload_n 0, 1) := by decide +kernel
theorem dX5_init_33 : decode cX5_init 33 = .ok (.getfield 9, 3) := by decide +kernel
theorem dX5_init_36 : decode cX5_init 36 = .ok (.iconst 2, 1) := by decide +kernel
theorem dX5_init_37 : decode cX5_init 37 = .ok (.iload_n 1, 1) := by decide +kernel
theorem dX5_init_38 : decode cX5_init 38 = .ok (.imul, 1) := by decide +kernel
theorem dX5_init_39 : decode cX5_init 39 = .ok (.iconst 1, 1) := by decide +kernel
theorem dX5_init_40 : decode cX5_init 40 = .ok (.iadd, 1) := by decide +kernel
theorem dX5_init_41 : decode cX5_init 41 = .ok (.iaload, 1) := by decide +kernel
theorem dX5_init_42 : decode cX5_init 42 = .ok (.invokestatic 13, 3) := by decide +kernel
theorem dX5_init_45 : decode cX5_init 45 = .ok (.iastore, 1) := by decide +kernel
theorem dX5_init_46 : decode cX5_init 46 = .ok (.iinc 1 (-1), 3) := by decide +kernel
theorem dX5_init_49 : decode cX5_init 49 = .ok (.goto (-34), 3) := by decide +kernel
theorem dX5_init_52 : decode cX5_init 52 = .ok (.return_, 1) := by decide +kernel
theorem dX5_sum_0 : decode cX5_sum 0 = .ok (.bipush 37, 2) := by decide +kernel
theorem dX5_sum_2 : decode cX5_sum 2 = .ok (.iload_n 0, 1) := by decide +kernel
theorem dX5_sum_3 : decode cX5_sum 3 = .ok (.imul, 1) := by decide +kernel
theorem dX5_sum_4 : decode cX5_sum 4 = .ok (.bipush 101, 2) := by decide +kernel
theorem dX5_sum_6 : decode cX5_sum 6 = .ok (.iload_n 1, 1) := by decide +kernel
theorem dX5_sum_7 : decode cX5_sum 7 = .ok (.imul, 1) := by decide +kernel
theorem dX5_sum_8 : decode cX5_sum 8 = .ok (.iadd, 1) := by decide +kernel
theorem dX5_sum_9 : decode cX5_sum 9 = .ok (.bipush 13, 2) := by decide +kernel
theorem dX5_sum_11 : decode cX5_sum 11 = .ok (.iadd, 1) := by decide +kernel
theorem dX5_sum_12 : decode cX5_sum 12 = .ok (.sipush 9973, 3) := by decide +kernel
theorem dX5_sum_15 : decode cX5_sum 15 = .ok (.irem, 1) := by decide +kernel
theorem dX5_sum_16 : decode cX5_sum 16 = .ok (.ireturn, 1) := by decide +kernel
theorem dX5_put_0 : decode cX5_put 0 = .ok (.aload_n 0, 1) := by decide +kernel
theorem dX5_put_1 : decode cX5_put 1 = .ok (.getfield 9, 3) := by decide +kernel
theorem dX5_put_4 : decode cX5_put 4 = .ok (.bipush 8, 2) := by decide +kernel
theorem dX5_put_6 : decode cX5_put 6 = .ok (.iload_n 1, 1) := by decide +kernel
theorem dX5_put_7 : decode cX5_put 7 = .ok (.iadd, 1) := by decide +kernel
theorem dX5_put_8 : decode cX5_put 8 = .ok (.iaload, 1) := by decide +kernel
theorem dX5_put_9 : decode cX5_put 9 = .ok (.istore_n 3, 1) := by decide +kernel
theorem dX5_put_10 : decode cX5_put 10 = .ok (.aload_n 0, 1) := by decide +kernel
theorem dX5_put_11 : decode cX5_put 11 = .ok (.getfield 9, 3) := by decide +kernel
theorem dX5_put_14 : decode cX5_put 14 = .ok (.bipush 8, 2) := by decide +kernel
theorem dX5_put_16 : decode cX5_put 16 = .ok (.iload_n 1, 1) := by decide +kernel
theorem dX5_put_17 : decode cX5_put 17 = .ok (.iadd, 1) := by decide +kernel
theorem dX5_put_18 : decode cX5_put 18 = .ok (.iload_n 2, 1) := by decide +kernel
theorem dX5_put_19 : decode cX5_put 19 = .ok (.iastore, 1) := by decide +kernel
theorem dX5_put_20 : decode cX5_put 20 = .ok (.bipush 8, 2) := by decide +kernel
theorem dX5_put_22 : decode cX5_put 22 = .ok (.iload_n 1, 1) := by decide +kernel
theorem dX5_put_23 : decode cX5_put 23 = .ok (.iadd, 1) := by decide +kernel
theorem dX5_put_24 : decode cX5_put 24 = .ok (.iconst 2, 1) := by decide +kernel
theorem dX5_put_25 : decode cX5_put 25 = .ok (.idiv, 1) := by decide +kernel
theorem dX5_put_26 : decode cX5_put 26 = .ok (.istore 4, 2) := by decide +kernel
theorem dX5_put_28 : decode cX5_put 28 = .ok (.iload 4, 2) := by decide +kernel
theorem dX5_put_30 : decode cX5_put 30 = .ok (.ifCond .le 42, 3) := by decide +kernel
theorem dX5_put_33 : decode cX5_put 33 = .ok (.aload_n 0, 1) := by decide +kernel
theorem dX5_put_34 : decode cX5_put 34 = .ok (.getfield 9, 3) := by decide +kernel
theorem dX5_put_37 : decode cX5_put 37 = .ok (.iload 4, 2) := by decide +kernel
theorem dX5_put_39 : decode cX5_put 39 = .ok (.aload_n 0, 1) := by decide +kernel
theorem dX5_put_40 : decode cX5_put 40 = .ok (.getfield 9, 3) := by decide +kernel
theorem dX5_put_43 : decode cX5_put 43 = .ok (.iconst 2, 1) := by decide +kernel
theorem dX5_put_44 : decode cX5_put 44 = .ok (.iload 4, 2) := by decide +kernel
theorem dX5_put_46 : decode cX5_put 46 = .ok (.imul, 1) := by decide +kernel
theorem dX5_put_47 : decode cX5_put 47 = .ok (.iaload, 1) := by decide +kernel
theorem dX5_put_48 : decode cX5_put 48 = .ok (.aload_n 0, 1) := by decide +kernel
theorem dX5_put_49 : decode cX5_put 49 = .ok (.getfield 9, 3) := by decide +kernel
theorem dX5_put_52 : decode cX5_put 52 = .ok (.iconst 2, 1) := by decide +kernel
theorem dX5_put_53 : decode cX5_put 53 = .ok (.iload 4, 2) := by decide +kernel
theorem dX5_put_55 : decode cX5_put 55 = .ok (.imul, 1) := by decide +kernel
theorem dX5_put_56 : decode cX5_put 56 = .ok (.iconst 1, 1) := by decide +kernel
theorem dX5_put_57 : decode cX5_put 57 = .ok (.iadd, 1) := by decide +kernel
theorem dX5_put_58 : decode cX5_put 58 = .ok (.iaload, 1) := by decide +kernel
theorem dX5_put_59 : decode cX5_put 59 = .ok (.invokestatic 13, 3) := by decide +kernel
theorem dX5_put_62 : decode cX5_put 62 = .ok (.iastore, 1) := by decide +kernel
theorem dX5_put_63 : decode cX5_put 63 = .ok (.iload 4, 2) := by decide +kernel
theorem dX5_put_65 : decode cX5_put 65 = .ok (.iconst 2, 1) := by decide +kernel
theorem dX5_put_66 : decode cX5_put 66 = .ok (.idiv, 1) := by decide +kernel
theorem dX5_put_67 : decode cX5_put 67 = .ok (.istore 4, 2) := by decide +kernel
theorem dX5_put_69 : decode cX5_put 69 = .ok (.goto (-41), 3) := by decide +kernel
theorem dX5_put_72 : decode cX5_put 72 = .ok (.iload_n 3, 1) := by decide +kernel
theorem dX5_put_73 : decode cX5_put 73 = .ok (.ireturn, 1) := by decide +kernel
theorem dX5_beside_0 : decode cX5_beside 0 = .ok (.aload_n 0, 1) := by decide +kernel
theorem dX5_beside_1 : decode cX5_beside 1 = .ok (.getfield 9, 3) := by decide +kernel
theorem dX5_beside_4 : decode cX5_beside 4 = .ok (.bipush 8, 2) := by decide +kernel
theorem dX5_beside_6 : decode cX5_beside 6 = .ok (.iload_n 1, 1) := by decide +kernel
theorem dX5_beside_7 : decode cX5_beside 7 = .ok (.iadd, 1) := by decide +kernel
theorem dX5_beside_8 : decode cX5_beside 8 = .ok (.iload_n 2, 1) := by decide +kernel
theorem dX5_beside_9 : decode cX5_beside 9 = .ok (.ishr, 1) := by decide +kernel
theorem dX5_beside_10 : decode cX5_beside 10 = .ok (.iconst 1, 1) := by decide +kernel
theorem dX5_beside_11 : decode cX5_beside 11 = .ok (.ixor, 1) := by decide +kernel
theorem dX5_beside_12 : decode cX5_beside 12 = .ok (.iaload, 1) := by decide +kernel
theorem dX5_beside_13 : decode cX5_beside 13 = .ok (.ireturn, 1) := by decide +kernel
theorem dX5_climb_0 : decode cX5_climb 0 = .ok (.iload_n 0, 1) := by decide +kernel
theorem dX5_climb_1 : decode cX5_climb 1 = .ok (.iconst 1, 1) := by decide +kernel
theorem dX5_climb_2 : decode cX5_climb 2 = .ok (.iand, 1) := by decide +kernel
theorem dX5_climb_3 : decode cX5_climb 3 = .ok (.ifCond .ne 11, 3) := by decide +kernel
theorem dX5_climb_6 : decode cX5_climb 6 = .ok (.iload_n 1, 1) := by decide +kernel
theorem dX5_climb_7 : decode cX5_climb 7 = .ok (.iload_n 2, 1) := by decide +kernel
theorem dX5_climb_8 : decode cX5_climb 8 = .ok (.invokestatic 13, 3) := by decide +kernel
theorem dX5_climb_11 : decode cX5_climb 11 = .ok (.goto 8, 3) := by decide +kernel
theorem dX5_climb_14 : decode cX5_climb 14 = .ok (.iload_n 2, 1) := by decide +kernel
theorem dX5_climb_15 : decode cX5_climb 15 = .ok (.iload_n 1, 1) := by decide +kernel
theorem dX5_climb_16 : decode cX5_climb 16 = .ok (.invokestatic 13, 3) := by decide +kernel
theorem dX5_climb_19 : decode cX5_climb 19 = .ok (.ireturn, 1) := by decide +kernel
theorem dX6_init_0 : decode cX6_init 0 = .ok (.aload_n 0, 1) := by decide +kernel
theorem dX6_init_1 : decode cX6_init 1 = .ok (.invokespecial 3, 3) := by decide +kernel
theorem dX6_init_4 : decode cX6_init 4 = .ok (.aload_n 0, 1) := by decide +kernel
theorem dX6_init_5 : decode cX6_init 5 = .ok (.bipush 12, 2) := by decide +kernel
theorem dX6_init_7 : decode cX6_init 7 = .ok (.newarray .int, 2) := by decide +kernel
theorem dX6_init_9 : decode cX6_init 9 = .ok (.putfield 11, 3) := by decide +kernel
theorem dX6_init_12 : decode cX6_init 12 = .ok (.aload_n 0, 1) := by decide +kernel
theorem dX6_init_13 : decode cX6_init 13 = .ok (.iconst (-1), 1) := by decide +kernel
theorem dX6_init_14 : decode cX6_init 14 = .ok (.putfield 15, 3) := by decide +kernel
theorem dX6_init_17 : decode cX6_init 17 = .ok (.return_, 1) := by decide +kernel
theorem dX6_isMissing_0 : decode cX6_isMissing 0 = .ok (.aload_n 0, 1) := by decide +kernel
theorem dX6_isMissing_1 : decode cX6_isMissing 1 = .ok (.getfield 15, 3) := by decide +kernel
theorem dX6_isMissing_4 : decode cX6_isMissing 4 = .ok (.iconst (-1), 1) := by decide +kernel
theorem dX6_isMissing_5 : decode cX6_isMissing 5 = .ok (.if_icmp .ne 7, 3) := by decide +kernel
theorem dX6_isMissing_8 : decode cX6_isMissing 8 = .ok (.iconst 1, 1) := by decide +kernel
theorem dX6_isMissing_9 : decode cX6_isMissing 9 = .ok (.goto 4, 3) := by decide +kernel
theorem dX6_isMissing_12 : decode cX6_isMissing 12 = .ok (.iconst 0, 1) := by decide +kernel
theorem dX6_isMissing_13 : decode cX6_isMissing 13 = .ok (.ireturn, 1) := by decide +kernel
theorem dX6_renew_0 : decode cX6_renew 0 = .ok (.aload_n 0, 1) := by decide +kernel
theorem dX6_renew_1 : decode cX6_renew 1 = .ok (.iload_n 1, 1) := by decide +kernel
theorem dX6_renew_2 : decode cX6_renew 2 = .ok (.putfield 15, 3) := by decide +kernel
theorem dX6_renew_5 : decode cX6_renew 5 = .ok (.aload_n 0, 1) := by decide +kernel
theorem dX6_renew_6 : decode cX6_renew 6 = .ok (.iload_n 2, 1) := by decide +kernel
theorem dX6_renew_7 : decode cX6_renew 7 = .ok (.putfield 19, 3) := by decide +kernel
theorem dX6_renew_10 : decode cX6_renew 10 = .ok (.iconst 0, 1) := by decide +kernel
theorem dX6_renew_11 : decode cX6_renew 11 = .ok (.istore_n 3, 1) := by decide +kernel
theorem dX6_renew_12 : decode cX6_renew 12 = .ok (.iload_n 3, 1) := by decide +kernel
theorem dX6_renew_13 : decode cX6_renew 13 = .ok (.bipush 12, 2) := by decide +kernel
theorem dX6_renew_15 : decode cX6_renew 15 = .ok (.if_icmp .ge 16, 3) := by decide +kernel
theorem dX6_renew_18 : decode cX6_renew 18 = .ok (.aload_n 0, 1) := by decide +kernel
theorem dX6_renew_19 : decode cX6_renew 19 = .ok (.getfield 11, 3) := by decide +kernel
theorem dX6_renew_22 : decode cX6_renew 22 = .ok (.iload_n 3, 1) := by decide +kernel
theorem dX6_renew_23 : decode cX6_renew 23 = .ok (.iconst 0, 1) := by decide +kernel
theorem dX6_renew_24 : decode cX6_renew 24 = .ok (.iastore, 1) := by decide +kernel
theorem dX6_renew_25 : decode cX6_renew 25 = .ok (.iinc 3 1, 3) := by decide +kernel
theorem dX6_renew_28 : decode cX6_renew 28 = .ok (.goto (-16), 3) := by decide +kernel
theorem dX6_renew_31 : decode cX6_renew 31 = .ok (.return_, 1) := by decide +kernel
theorem dX6_lose_0 : decode cX6_lose 0 = .ok (.aload_n 0, 1) := by decide +kernel
theorem dX6_lose_1 : decode cX6_lose 1 = .ok (.getfield 19, 3) := by decide +kernel
theorem dX6_lose_4 : decode cX6_lose 4 = .ok (.istore_n 1, 1) := by decide +kernel
theorem dX6_lose_5 : decode cX6_lose 5 = .ok (.aload_n 0, 1) := by decide +kernel
theorem dX6_lose_6 : decode cX6_lose 6 = .ok (.iconst (-1), 1) := by decide +kernel
theorem dX6_lose_7 : decode cX6_lose 7 = .ok (.putfield 15, 3) := by decide +kernel
theorem dX6_lose_10 : decode cX6_lose 10 = .ok (.aload_n 0, 1) := by decide +kernel
theorem dX6_lose_11 : decode cX6_lose 11 = .ok (.iconst 0, 1) := by decide +kernel
theorem dX6_lose_12 : decode cX6_lose 12 = .ok (.putfield 19, 3) := by decide +kernel
theorem dX6_lose_15 : decode cX6_lose 15 = .ok (.iload_n 1, 1) := by decide +kernel
theorem dX6_lose_16 : decode cX6_lose 16 = .ok (.ireturn, 1) := by decide +kernel
theorem dX6_refusal_0 : decode cX6_refusal 0 = .ok (.aload_n 0, 1) := by decide +kernel
theorem dX6_refusal_1 : decode cX6_refusal 1 = .ok (.invokevirtual 22, 3) := by decide +kernel
theorem dX6_refusal_4 : decode cX6_refusal 4 = .ok (.ifCond .eq 6, 3) := by decide +kernel
theorem dX6_refusal_7 : decode cX6_refusal 7 = .ok (.bipush (-11), 2) := by decide +kernel
theorem dX6_refusal_9 : decode cX6_refusal 9 = .ok (.ireturn, 1) := by decide +kernel
theorem dX6_refusal_10 : decode cX6_refusal 10 = .ok (.aload_n 0, 1) := by decide +kernel
theorem dX6_refusal_11 : decode cX6_refusal 11 = .ok (.getfield 15, 3) := by decide +kernel
theorem dX6_refusal_14 : decode cX6_refusal 14 = .ok (.iload_n 1, 1) := by decide +kernel
theorem dX6_refusal_15 : decode cX6_refusal 15 = .ok (.if_icmp .eq 6, 3) := by decide +kernel
theorem dX6_refusal_18 : decode cX6_refusal 18 = .ok (.bipush (-12), 2) := by decide +kernel
theorem dX6_refusal_20 : decode cX6_refusal 20 = .ok (.ireturn, 1) := by decide +kernel
theorem dX6_refusal_21 : decode cX6_refusal 21 = .ok (.iload_n 2, 1) := by decide +kernel
theorem dX6_refusal_22 : decode cX6_refusal 22 = .ok (.ifCond .lt 13, 3) := by decide +kernel
theorem dX6_refusal_25 : decode cX6_refusal 25 = .ok (.iload_n 2, 1) := by decide +kernel
theorem dX6_refusal_26 : decode cX6_refusal 26 = .ok (.aload_n 0, 1) := by decide +kernel
theorem dX6_refusal_27 : decode cX6_refusal 27 = .ok (.getfield 19, 3) := by decide +kernel
theorem dX6_refusal_30 : decode cX6_refusal 30 = .ok (.iload_n 3, 1) := by decide +kernel
theorem dX6_refusal_31 : decode cX6_refusal 31 = .ok (.isub, 1) := by decide +kernel
theorem dX6_refusal_32 : decode cX6_refusal 32 = .ok (.if_icmp .le 8, 3) := by decide +kernel
theorem dX6_refusal_35 : decode cX6_refusal 35 = .ok (.bipush (-13), 2) := by decide +kernel
theorem dX6_refusal_37 : decode cX6_refusal 37 = .ok (.goto 4, 3) := by decide +kernel
theorem dX6_refusal_40 : decode cX6_refusal 40 = .ok (.iconst 0, 1) := by decide +kernel
theorem dX6_refusal_41 : decode cX6_refusal 41 = .ok (.ireturn, 1) := by decide +kernel
theorem dX6_put_0 : decode cX6_put 0 = .ok (.iload_n 1, 1) := by decide +kernel
theorem dX6_put_1 : decode cX6_put 1 = .ok (.ifCond .lt 9, 3) := by decide +kernel
theorem dX6_put_4 : decode cX6_put 4 = .ok (.iload_n 1, 1) := by decide +kernel
theorem dX6_put_5 : decode cX6_put 5 = .ok (.bipush 12, 2) := by decide +kernel
theorem dX6_put_7 : decode cX6_put 7 = .ok (.if_icmp .lt 4, 3) := by decide +kernel
theorem dX6_put_10 : decode cX6_put 10 = .ok (.return_, 1) := by decide +kernel
theorem dX6_put_11 : decode cX6_put 11 = .ok (.aload_n 0, 1) := by decide +kernel
theorem dX6_put_12 : decode cX6_put 12 = .ok (.getfield 11, 3) := by decide +kernel
theorem dX6_put_15 : decode cX6_put 15 = .ok (.iload_n 1, 1) := by decide +kernel
theorem dX6_put_16 : decode cX6_put 16 = .ok (.aload_n 0, 1) := by decide +kernel
theorem dX6_put_17 : decode cX6_put 17 = .ok (.getfield 15, 3) := by decide +kernel
theorem dX6_put_20 : decode cX6_put 20 = .ok (.ifCond .ne 8, 3) := by decide +kernel
theorem dX6_put_23 : decode cX6_put 23 = .ok (.iload_n 2, 1) := by decide +kernel
theorem dX6_put_24 : decode cX6_put 24 = .ok (.i2b, 1) := by decide +kernel
theorem dX6_put_25 : decode cX6_put 25 = .ok (.goto 17, 3) := by decide +kernel
theorem dX6_put_28 : decode cX6_put 28 = .ok (.aload_n 0, 1) := by decide +kernel
theorem dX6_put_29 : decode cX6_put 29 = .ok (.getfield 15, 3) := by decide +kernel
theorem dX6_put_32 : decode cX6_put 32 = .ok (.iconst 1, 1) := by decide +kernel
theorem dX6_put_33 : decode cX6_put 33 = .ok (.if_icmp .ne 8, 3) := by decide +kernel
theorem dX6_put_36 : decode cX6_put 36 = .ok (.iload_n 2, 1) := by decide +kernel
theorem dX6_put_37 : decode cX6_put 37 = .ok (.i2s, 1) := by decide +kernel
theorem dX6_put_38 : decode cX6_put 38 = .ok (.goto 4, 3) := by decide +kernel
theorem dX6_put_41 : decode cX6_put 41 = .ok (.iload_n 2, 1) := by decide +kernel
theorem dX6_put_42 : decode cX6_put 42 = .ok (.iastore, 1) := by decide +kernel
theorem dX6_put_43 : decode cX6_put 43 = .ok (.return_, 1) := by decide +kernel
theorem dX6_areWithin_0 : decode cX6_areWithin 0 = .ok (.iload_n 1, 1) := by decide +kernel
theorem dX6_areWithin_1 : decode cX6_areWithin 1 = .ok (.ifCond .lt 11, 3) := by decide +kernel
theorem dX6_areWithin_4 : decode cX6_areWithin 4 = .ok (.iload_n 1, 1) := by decide +kernel
theorem dX6_areWithin_5 : decode cX6_areWithin 5 = .ok (.bipush 12, 2) := by decide +kernel
theorem dX6_areWithin_7 : decode cX6_areWithin 7 = .ok (.iload_n 2, 1) := by decide +kernel
theorem dX6_areWithin_8 : decode cX6_areWithin 8 = .ok (.isub, 1) := by decide +kernel
theorem dX6_areWithin_9 : decode cX6_areWithin 9 = .ok (.if_icmp .le 5, 3) := by decide +kernel
theorem dX6_areWithin_12 : decode cX6_areWithin 12 = .ok (.iconst 0, 1) := by decide +kernel
theorem dX6_areWithin_13 : decode cX6_areWithin 13 = .ok (.ireturn, 1) := by decide +kernel
theorem dX6_areWithin_14 : decode cX6_areWithin 14 = .ok (.iload_n 1, 1) := by decide +kernel
theorem dX6_areWithin_15 : decode cX6_areWithin 15 = .ok (.istore 4, 2) := by decide +kernel
theorem dX6_areWithin_17 : decode cX6_areWithin 17 = .ok (.iload 4, 2) := by decide +kernel
theorem dX6_areWithin_19 : decode cX6_areWithin 19 = .ok (.iload_n 1, 1) := by decide +kernel
theorem dX6_areWithin_20 : decode cX6_areWithin 20 = .ok (.iload_n 2, 1) := by decide +kernel
theorem dX6_areWithin_21 : decode cX6_areWithin 21 = .ok (.iadd, 1) := by decide +kernel
theorem dX6_areWithin_22 : decode cX6_areWithin 22 = .ok (.if_icmp .ge 27, 3) := by decide +kernel
theorem dX6_areWithin_25 : decode cX6_areWithin 25 = .ok (.aload_n 0, 1) := by decide +kernel
theorem dX6_areWithin_26 : decode cX6_areWithin 26 = .ok (.getfield 11, 3) := by decide +kernel
theorem dX6_areWithin_29 : decode cX6_areWithin 29 = .ok (.iload 4, 2) := by decide +kernel
theorem dX6_areWithin_31 : decode cX6_areWithin 31 = .ok (.iaload, 1) := by decide +kernel
theorem dX6_areWithin_32 : decode cX6_areWithin 32 = .ok (.iload_n 3, 1) := by decide +kernel
theorem dX6_areWithin_33 : decode cX6_areWithin 33 = .ok (.ineg, 1) := by decide +kernel
theorem dX6_areWithin_34 : decode cX6_areWithin 34 = .ok (.iload_n 3, 1) := by decide +kernel
theorem dX6_areWithin_35 : decode cX6_areWithin 35 = .ok (.invokestatic 26, 3) := by decide +kernel
theorem dX6_areWithin_38 : decode cX6_areWithin 38 = .ok (.ifCond .ne 5, 3) := by decide +kernel
theorem dX6_areWithin_41 : decode cX6_areWithin 41 = .ok (.iconst 0, 1) := by decide +kernel
theorem dX6_areWithin_42 : decode cX6_areWithin 42 = .ok (.ireturn, 1) := by decide +kernel
theorem dX6_areWithin_43 : decode cX6_areWithin 43 = .ok (.iinc 4 1, 3) := by decide +kernel
theorem dX6_areWithin_46 : decode cX6_areWithin 46 = .ok (.goto (-29), 3) := by decide +kernel
theorem dX6_areWithin_49 : decode cX6_areWithin 49 = .ok (.iconst 1, 1) := by decide +kernel
theorem dX6_areWithin_50 : decode cX6_areWithin 50 = .ok (.ireturn, 1) := by decide +kernel
theorem dX7_init_0 : decode cX7_init 0 = .ok (.aload_n 0, 1) := by decide +kernel
theorem dX7_init_1 : decode cX7_init 1 = .ok (.invokespecial 3, 3) := by decide +kernel
theorem dX7_init_4 : decode cX7_init 4 = .ok (.aload_n 0, 1) := by decide +kernel
theorem dX7_init_5 : decode cX7_init 5 = .ok (.iconst 0, 1) := by decide +kernel
theorem dX7_init_6 : decode cX7_init 6 = .ok (.putfield 11, 3) := by decide +kernel
theorem dX7_init_9 : decode cX7_init 9 = .ok (.aload_n 0, 1) := by decide +kernel
theorem dX7_init_10 : decode cX7_init 10 = .ok (.iconst 1, 1) := by decide +kernel
theorem dX7_init_11 : decode cX7_init 11 = .ok (.putfield 15, 3) := by decide +kernel
theorem dX7_init_14 : decode cX7_init 14 = .ok (.aload_n 0, 1) := by decide +kernel
theorem dX7_init_15 : decode cX7_init 15 = .ok (.bipush 20, 2) := by decide +kernel
theorem dX7_init_17 : decode cX7_init 17 = .ok (.newarray .int, 2) := by decide +kernel
theorem dX7_init_19 : decode cX7_init 19 = .ok (.putfield 18, 3) := by decide +kernel
theorem dX7_init_22 : decode cX7_init 22 = .ok (.aload_n 0, 1) := by decide +kernel
theorem dX7_init_23 : decode cX7_init 23 = .ok (.bipush 20, 2) := by decide +kernel
theorem dX7_init_25 : decode cX7_init 25 = .ok (.newarray .int, 2) := by decide +kernel
theorem dX7_init_27 : decode cX7_init 27 = .ok (.putfield 22, 3) := by decide +kernel
theorem dX7_init_30 : decode cX7_init 30 = .ok (.aload_n 0, 1) := by decide +kernel
theorem dX7_init_31 : decode cX7_init 31 = .ok (.bipush 20, 2) := by decide +kernel
theorem dX7_init_33 : decode cX7_init 33 = .ok (.newarray .int, 2) := by decide +kernel
theorem dX7_init_35 : decode cX7_init 35 = .ok (.putfield 25, 3) := by decide +kernel
theorem dX7_init_38 : decode cX7_init 38 = .ok (.aload_n 0, 1) := by decide +kernel
theorem dX7_init_39 : decode cX7_init 39 = .ok (.aload_n 1, 1) := by decide +kernel
theorem dX7_init_40 : decode cX7_init 40 = .ok (.putfield 28, 3) := by decide +kernel
theorem dX7_init_43 : decode cX7_init 43 = .ok (.return_, 1) := by decide +kernel
theorem dX7_begin_0 : decode cX7_begin 0 = .ok (.aload_n 0, 1) := by decide +kernel
theorem dX7_begin_1 : decode cX7_begin 1 = .ok (.iload_n 1, 1) := by decide +kernel
theorem dX7_begin_2 : decode cX7_begin 2 = .ok (.putfield 32, 3) := by decide +kernel
theorem dX7_begin_5 : decode cX7_begin 5 = .ok (.aload_n 0, 1) := by decide +kernel
theorem dX7_begin_6 : decode cX7_begin 6 = .ok (.iload_n 2, 1) := by decide +kernel
theorem dX7_begin_7 : decode cX7_begin 7 = .ok (.putfield 15, 3) := by decide +kernel
theorem dX7_begin_10 : decode cX7_begin 10 = .ok (.aload_n 0, 1) := by decide +kernel
theorem dX7_begin_11 : decode cX7_begin 11 = .ok (.iload_n 3, 1) := by decide +kernel
theorem dX7_begin_12 : decode cX7_begin 12 = .ok (.putfield 35, 3) := by decide +kernel
theorem dX7_begin_15 : decode cX7_begin 15 = .ok (.aload_n 0, 1) := by decide +kernel
theorem dX7_begin_16 : decode cX7_begin 16 = .ok (.iconst 0, 1) := by decide +kernel
theorem dX7_begin_17 : decode cX7_begin 17 = .ok (.putfield 38, 3) := by decide +kernel
theorem dX7_begin_20 : decode cX7_begin 20 = .ok (.aload_n 0, 1) := by decide +kernel
theorem dX7_begin_21 : decode cX7_begin 21 = .ok (.iconst 1, 1) := by decide +kernel
theorem dX7_begin_22 : decode cX7_begin 22 = .ok (.putfield 11, 3) := by decide +kernel
theorem dX7_begin_25 : decode cX7_begin 25 = .ok (.return_, 1) := by decide +kernel
theorem dX7_isOpen_0 : decode cX7_isOpen 0 = .ok (.aload_n 0, 1) := by decide +kernel
theorem dX7_isOpen_1 : decode cX7_isOpen 1 = .ok (.getfield 11, 3) := by decide +kernel
theorem dX7_isOpen_4 : decode cX7_isOpen 4 = .ok (.iconst 1, 1) := by decide +kernel
theorem dX7_isOpen_5 : decode cX7_isOpen 5 = .ok (.if_icmp .ne 7, 3) := by decide +kernel
theorem dX7_isOpen_8 : decode cX7_isOpen 8 = .ok (.iconst 1, 1) := by decide +kernel
theorem dX7_isOpen_9 : decode cX7_isOpen 9 = .ok (.goto 4, 3) := by decide +kernel
theorem dX7_isOpen_12 : decode cX7_isOpen 12 = .ok (.iconst 0, 1) := by decide +kernel
theorem dX7_isOpen_13 : decode cX7_isOpen 13 = .ok (.ireturn, 1) := by decide +kernel
theorem dX7_sideAt_0 : decode cX7_sideAt 0 = .ok (.iload_n 1, 1) := by decide +kernel
theorem dX7_sideAt_1 : decode cX7_sideAt 1 = .ok (.iconst 1, 1) := by decide +kernel
theorem dX7_sideAt_2 : decode cX7_sideAt 2 = .ok (.iand, 1) := by decide +kernel
theorem dX7_sideAt_3 : decode cX7_sideAt 3 = .ok (.ireturn, 1) := by decide +kernel
theorem dX7_partyOf_0 : decode cX7_partyOf 0 = .ok (.aload_n 0, 1) := by decide +kernel
theorem dX7_partyOf_1 : decode cX7_partyOf 1 = .ok (.iload_n 1, 1) := by decide +kernel
theorem dX7_partyOf_2 : decode cX7_partyOf 2 = .ok (.invokevirtual 41, 3) := by decide +kernel
theorem dX7_partyOf_5 : decode cX7_partyOf 5 = .ok (.ifCond .ne 10, 3) := by decide +kernel
theorem dX7_partyOf_8 : decode cX7_partyOf 8 = .ok (.aload_n 0, 1) := by decide +kernel
theorem dX7_partyOf_9 : decode cX7_partyOf 9 = .ok (.getfield 32, 3) := by decide +kernel
theorem dX7_partyOf_12 : decode cX7_partyOf 12 = .ok (.goto 7, 3) := by decide +kernel
theorem dX7_partyOf_15 : decode cX7_partyOf 15 = .ok (.aload_n 0, 1) := by decide +kernel
theorem dX7_partyOf_16 : decode cX7_partyOf 16 = .ok (.getfield 15, 3) := by decide +kernel
theorem dX7_partyOf_19 : decode cX7_partyOf 19 = .ok (.ireturn, 1) := by decide +kernel
theorem dX7_saidBy_0 : decode cX7_saidBy 0 = .ok (.iload_n 1, 1) := by decide +kernel
theorem dX7_saidBy_1 : decode cX7_saidBy 1 = .ok (.ifCond .ne 14, 3) := by decide +kernel
theorem dX7_saidBy_4 : decode cX7_saidBy 4 = .ok (.aload_n 0, 1) := by decide +kernel
theorem dX7_saidBy_5 : decode cX7_saidBy 5 = .ok (.getfield 38, 3) := by decide +kernel
theorem dX7_saidBy_8 : decode cX7_saidBy 8 = .ok (.iconst 1, 1) := by decide +kernel
theorem dX7_saidBy_9 : decode cX7_saidBy 9 = .ok (.iadd, 1) := by decide +kernel
theorem dX7_saidBy_10 : decode cX7_saidBy 10 = .ok (.iconst 2, 1) := by decide +kernel
theorem dX7_saidBy_11 : decode cX7_saidBy 11 = .ok (.idiv, 1) := by decide +kernel
theorem dX7_saidBy_12 : decode cX7_saidBy 12 = .ok (.goto 9, 3) := by decide +kernel
theorem dX7_saidBy_15 : decode cX7_saidBy 15 = .ok (.aload_n 0, 1) := by decide +kernel
theorem dX7_saidBy_16 : decode cX7_saidBy 16 = .ok (.getfield 38, 3) := by decide +kernel
theorem dX7_saidBy_19 : decode cX7_saidBy 19 = .ok (.iconst 2, 1) := by decide +kernel
theorem dX7_saidBy_20 : decode cX7_saidBy 20 = .ok (.idiv, 1) := by decide +kernel
theorem dX7_saidBy_21 : decode cX7_saidBy 21 = .ok (.ireturn, 1) := by decide +kernel
theorem dX7_hasWord_0 : decode cX7_hasWord 0 = .ok (.iload_n 1, 1) := by decide +kernel
theorem dX7_hasWord_1 : decode cX7_hasWord 1 = .ok (.ifCond .lt 21, 3) := by decide +kernel
theorem dX7_hasWord_4 : decode cX7_hasWord 4 = .ok (.iload_n 1, 1) := by decide +kernel
theorem dX7_hasWord_5 : decode cX7_hasWord 5 = .ok (.aload_n 0, 1) := by decide +kernel
theorem dX7_hasWord_6 : decode cX7_hasWord 6 = .ok (.getfield 38, 3) := by decide +kernel
theorem dX7_hasWord_9 : decode cX7_hasWord 9 = .ok (.if_icmp .ge 13, 3) := by decide +kernel
theorem dX7_hasWord_12 : decode cX7_hasWord 12 = .ok (.iload_n 1, 1) := by decide +kernel
theorem dX7_hasWord_13 : decode cX7_hasWord 13 = .ok (.bipush 20, 2) := by decide +kernel
theorem dX7_hasWord_15 : decode cX7_hasWord 15 = .ok (.if_icmp .ge 7, 3) := by decide +kernel
theorem dX7_hasWord_18 : decode cX7_hasWord 18 = .ok (.iconst 1, 1) := by decide +kernel
theorem dX7_hasWord_19 : decode cX7_hasWord 19 = .ok (.goto 4, 3) := by decide +kernel
theorem dX7_hasWord_22 : decode cX7_hasWord 22 = .ok (.iconst 0, 1) := by decide +kernel
theorem dX7_hasWord_23 : decode cX7_hasWord 23 = .ok (.ireturn, 1) := by decide +kernel
theorem dX7_kindAt_0 : decode cX7_kindAt 0 = .ok (.aload_n 0, 1) := by decide +kernel
theorem dX7_kindAt_1 : decode cX7_kindAt 1 = .ok (.iload_n 1, 1) := by decide +kernel
theorem dX7_kindAt_2 : decode cX7_kindAt 2 = .ok (.invokevirtual 45, 3) := by decide +kernel
theorem dX7_kindAt_5 : decode cX7_kindAt 5 = .ok (.ifCond .eq 12, 3) := by decide +kernel
theorem dX7_kindAt_8 : decode cX7_kindAt 8 = .ok (.aload_n 0, 1) := by decide +kernel
theorem dX7_kindAt_9 : decode cX7_kindAt 9 = .ok (.getfield 18, 3) := by decide +kernel
theorem dX7_kindAt_12 : decode cX7_kindAt 12 = .ok (.iload_n 1, 1) := by decide +kernel
theorem dX7_kindAt_13 : decode cX7_kindAt 13 = .ok (.iaload, 1) := by decide +kernel
theorem dX7_kindAt_14 : decode cX7_kindAt 14 = .ok (.goto 5, 3) := by decide +kernel
theorem dX7_kindAt_17 : decode cX7_kindAt 17 = .ok (.bipush (-4), 2) := by decide +kernel
theorem dX7_kindAt_19 : decode cX7_kindAt 19 = .ok (.ireturn, 1) := by decide +kernel
theorem dX7_setAt_0 : decode cX7_setAt 0 = .ok (.aload_n 0, 1) := by decide +kernel
theorem dX7_setAt_1 : decode cX7_setAt 1 = .ok (.iload_n 1, 1) := by decide +kernel
theorem dX7_setAt_2 : decode cX7_setAt 2 = .ok (.invokevirtual 45, 3) := by decide +kernel
theorem dX7_setAt_5 : decode cX7_setAt 5 = .ok (.ifCond .eq 12, 3) := by decide +kernel
theorem dX7_setAt_8 : decode cX7_setAt 8 = .ok (.aload_n 0, 1) := by decide +kernel
theorem dX7_setAt_9 : decode cX7_setAt 9 = .ok (.getfield 22, 3) := by decide +kernel
theorem dX7_setAt_12 : decode cX7_setAt 12 = .ok (.iload_n 1, 1) := by decide +kernel
theorem dX7_setAt_13 : decode cX7_setAt 13 = .ok (.iaload, 1) := by decide +kernel
theorem dX7_setAt_14 : decode cX7_setAt 14 = .ok (.goto 4, 3) := by decide +kernel
theorem dX7_setAt_17 : decode cX7_setAt 17 = .ok (.iconst 0, 1) := by decide +kernel
theorem dX7_setAt_18 : decode cX7_setAt 18 = .ok (.ireturn, 1) := by decide +kernel
theorem dX7_priceAt_0 : decode cX7_priceAt 0 = .ok (.aload_n 0, 1) := by decide +kernel
theorem dX7_priceAt_1 : decode cX7_priceAt 1 = .ok (.iload_n 1, 1) := by decide +kernel
theorem dX7_priceAt_2 : decode cX7_priceAt 2 = .ok (.invokevirtual 45, 3) := by decide +kernel
theorem dX7_priceAt_5 : decode cX7_priceAt 5 = .ok (.ifCond .eq 12, 3) := by decide +kernel
theorem dX7_priceAt_8 : decode cX7_priceAt 8 = .ok (.aload_n 0, 1) := by decide +kernel
theorem dX7_priceAt_9 : decode cX7_priceAt 9 = .ok (.getfield 25, 3) := by decide +kernel
theorem dX7_priceAt_12 : decode cX7_priceAt 12 = .ok (.iload_n 1, 1) := by decide +kernel
theorem dX7_priceAt_13 : decode cX7_priceAt 13 = .ok (.iaload, 1) := by decide +kernel
theorem dX7_priceAt_14 : decode cX7_priceAt 14 = .ok (.goto 4, 3) := by decide +kernel
theorem dX7_priceAt_17 : decode cX7_priceAt 17 = .ok (.iconst 0, 1) := by decide +kernel
theorem dX7_priceAt_18 : decode cX7_priceAt 18 = .ok (.ireturn, 1) := by decide +kernel
theorem dX7_isOffer_0 : decode cX7_isOffer 0 = .ok (.aload_n 0, 1) := by decide +kernel
theorem dX7_isOffer_1 : decode cX7_isOffer 1 = .ok (.iload_n 1, 1) := by decide +kernel
theorem dX7_isOffer_2 : decode cX7_isOffer 2 = .ok (.invokevirtual 45, 3) := by decide +kernel
theorem dX7_isOffer_5 : decode cX7_isOffer 5 = .ok (.ifCond .eq 27, 3) := by decide +kernel
theorem dX7_isOffer_8 : decode cX7_isOffer 8 = .ok (.aload_n 0, 1) := by decide +kernel
theorem dX7_isOffer_9 : decode cX7_isOffer 9 = .ok (.getfield 18, 3) := by decide +kernel
theorem dX7_isOffer_12 : decode cX7_isOffer 12 = .ok (.iload_n 1, 1) := by decide +kernel
theorem dX7_isOffer_13 : decode cX7_isOffer 13 = .ok (.iaload, 1) := by decide +kernel
theorem dX7_isOffer_14 : decode cX7_isOffer 14 = .ok (.iconst 1, 1) := by decide +kernel
theorem dX7_isOffer_15 : decode cX7_isOffer 15 = .ok (.if_icmp .eq 13, 3) := by decide +kernel
theorem dX7_isOffer_18 : decode cX7_isOffer 18 = .ok (.aload_n 0, 1) := by decide +kernel
theorem dX7_isOffer_19 : decode cX7_isOffer 19 = .ok (.getfield 18, 3) := by decide +kernel
theorem dX7_isOffer_22 : decode cX7_isOffer 22 = .ok (.iload_n 1, 1) := by decide +kernel
theorem dX7_isOffer_23 : decode cX7_isOffer 23 = .ok (.iaload, 1) := by decide +kernel
theorem dX7_isOffer_24 : decode cX7_isOffer 24 = .ok (.iconst 2, 1) := by decide +kernel
theorem dX7_isOffer_25 : decode cX7_isOffer 25 = .ok (.if_icmp .ne 7, 3) := by decide +kernel
theorem dX7_isOffer_28 : decode cX7_isOffer 28 = .ok (.iconst 1, 1) := by decide +kernel
theorem dX7_isOffer_29 : decode cX7_isOffer 29 = .ok (.goto 4, 3) := by decide +kernel
theorem dX7_isOffer_32 : decode cX7_isOffer 32 = .ok (.iconst 0, 1) := by decide +kernel
theorem dX7_isOffer_33 : decode cX7_isOffer 33 = .ok (.ireturn, 1) := by decide +kernel
theorem dX7_isWord_0 : decode cX7_isWord 0 = .ok (.aload_n 0, 1) := by decide +kernel
theorem dX7_isWord_1 : decode cX7_isWord 1 = .ok (.iload_n 1, 1) := by decide +kernel
theorem dX7_isWord_2 : decode cX7_isWord 2 = .ok (.invokevirtual 45, 3) := by decide +kernel
theorem dX7_isWord_5 : decode cX7_isWord 5 = .ok (.ifCond .eq 38, 3) := by decide +kernel
theorem dX7_isWord_8 : decode cX7_isWord 8 = .ok (.aload_n 0, 1) := by decide +kernel
theorem dX7_isWord_9 : decode cX7_isWord 9 = .ok (.getfield 18, 3) := by decide +kernel
theorem dX7_isWord_12 : decode cX7_isWord 12 = .ok (.iload_n 1, 1) := by decide +kernel
theorem dX7_isWord_13 : decode cX7_isWord 13 = .ok (.iaload, 1) := by decide +kernel
theorem dX7_isWord_14 : decode cX7_isWord 14 = .ok (.iload_n 2, 1) := by decide +kernel
theorem dX7_isWord_15 : decode cX7_isWord 15 = .ok (.if_icmp .ne 28, 3) := by decide +kernel
theorem dX7_isWord_18 : decode cX7_isWord 18 = .ok (.aload_n 0, 1) := by decide +kernel
theorem dX7_isWord_19 : decode cX7_isWord 19 = .ok (.getfield 22, 3) := by decide +kernel
theorem dX7_isWord_22 : decode cX7_isWord 22 = .ok (.iload_n 1, 1) := by decide +kernel
theorem dX7_isWord_23 : decode cX7_isWord 23 = .ok (.iaload, 1) := by decide +kernel
theorem dX7_isWord_24 : decode cX7_isWord 24 = .ok (.iload_n 3, 1) := by decide +kernel
theorem dX7_isWord_25 : decode cX7_isWord 25 = .ok (.if_icmp .ne 18, 3) := by decide +kernel
theorem dX7_isWord_28 : decode cX7_isWord 28 = .ok (.aload_n 0, 1) := by decide +kernel
theorem dX7_isWord_29 : decode cX7_isWord 29 = .ok (.getfield 25, 3) := by decide +kernel
theorem dX7_isWord_32 : decode cX7_isWord 32 = .ok (.iload_n 1, 1) := by decide +kernel
theorem dX7_isWord_33 : decode cX7_isWord 33 = .ok (.iaload, 1) := by decide +kernel
theorem dX7_isWord_34 : decode cX7_isWord 34 = .ok (.iload 4, 2) := by decide +kernel
theorem dX7_isWord_36 : decode cX7_isWord 36 = .ok (.if_icmp .ne 7, 3) := by decide +kernel
theorem dX7_isWord_39 : decode cX7_isWord 39 = .ok (.iconst 1, 1) := by decide +kernel
theorem dX7_isWord_40 : decode cX7_isWord 40 = .ok (.goto 4, 3) := by decide +kernel
theorem dX7_isWord_43 : decode cX7_isWord 43 = .ok (.iconst 0, 1) := by decide +kernel
theorem dX7_isWord_44 : decode cX7_isWord 44 = .ok (.ireturn, 1) := by decide +kernel
theorem dX7_offerKind_0 : decode cX7_offerKind 0 = .ok (.aload_n 0, 1) := by decide +kernel
theorem dX7_offerKind_1 : decode cX7_offerKind 1 = .ok (.iload_n 1, 1) := by decide +kernel
theorem dX7_offerKind_2 : decode cX7_offerKind 2 = .ok (.iconst 1, 1) := by decide +kernel
theorem dX7_offerKind_3 : decode cX7_offerKind 3 = .ok (.isub, 1) := by decide +kernel
theorem dX7_offerKind_4 : decode cX7_offerKind 4 = .ok (.invokevirtual 49, 3) := by decide +kernel
theorem dX7_offerKind_7 : decode cX7_offerKind 7 = .ok (.ifCond .eq 7, 3) := by decide +kernel
theorem dX7_offerKind_10 : decode cX7_offerKind 10 = .ok (.iconst 2, 1) := by decide +kernel
theorem dX7_offerKind_11 : decode cX7_offerKind 11 = .ok (.goto 4, 3) := by decide +kernel
theorem dX7_offerKind_14 : decode cX7_offerKind 14 = .ok (.iconst 1, 1) := by decide +kernel
theorem dX7_offerKind_15 : decode cX7_offerKind 15 = .ok (.ireturn, 1) := by decide +kernel
theorem dX7_suits_0 : decode cX7_suits 0 = .ok (.iload_n 2, 1) := by decide +kernel
theorem dX7_suits_1 : decode cX7_suits 1 = .ok (.iconst 1, 1) := by decide +kernel
theorem dX7_suits_2 : decode cX7_suits 2 = .ok (.isub, 1) := by decide +kernel
theorem dX7_suits_3 : decode cX7_suits 3 = .ok (.istore 4, 2) := by decide +kernel
theorem dX7_suits_5 : decode cX7_suits 5 = .ok (.aload_n 0, 1) := by decide +kernel
theorem dX7_suits_6 : decode cX7_suits 6 = .ok (.iload 4, 2) := by decide +kernel
theorem dX7_suits_8 : decode cX7_suits 8 = .ok (.invokevirtual 49, 3) := by decide +kernel
theorem dX7_suits_11 : decode cX7_suits 11 = .ok (.ifCond .eq 51, 3) := by decide +kernel
theorem dX7_suits_14 : decode cX7_suits 14 = .ok (.aload_n 1, 1) := by decide +kernel
theorem dX7_suits_15 : decode cX7_suits 15 = .ok (.aload_n 0, 1) := by decide +kernel
theorem dX7_suits_16 : decode cX7_suits 16 = .ok (.iload 4, 2) := by decide +kernel
theorem dX7_suits_18 : decode cX7_suits 18 = .ok (.invokevirtual 52, 3) := by decide +kernel
theorem dX7_suits_21 : decode cX7_suits 21 = .ok (.aload_n 0, 1) := by decide +kernel
theorem dX7_suits_22 : decode cX7_suits 22 = .ok (.iload 4, 2) := by decide +kernel
theorem dX7_suits_24 : decode cX7_suits 24 = .ok (.invokevirtual 55, 3) := by decide +kernel
theorem dX7_suits_27 : decode cX7_suits 27 = .ok (.invokevirtual 58, 3) := by decide +kernel
theorem dX7_suits_30 : decode cX7_suits 30 = .ok (.ifCond .eq 32, 3) := by decide +kernel
theorem dX7_suits_33 : decode cX7_suits 33 = .ok (.aload_n 1, 1) := by decide +kernel
theorem dX7_suits_34 : decode cX7_suits 34 = .ok (.aload_n 0, 1) := by decide +kernel
theorem dX7_suits_35 : decode cX7_suits 35 = .ok (.iload_n 2, 1) := by decide +kernel
theorem dX7_suits_36 : decode cX7_suits 36 = .ok (.invokevirtual 41, 3) := by decide +kernel
theorem dX7_suits_39 : decode cX7_suits 39 = .ok (.aload_n 0, 1) := by decide +kernel
theorem dX7_suits_40 : decode cX7_suits 40 = .ok (.iload 4, 2) := by decide +kernel
theorem dX7_suits_42 : decode cX7_suits 42 = .ok (.invokevirtual 52, 3) := by decide +kernel
theorem dX7_suits_45 : decode cX7_suits 45 = .ok (.aload_n 0, 1) := by decide +kernel
theorem dX7_suits_46 : decode cX7_suits 46 = .ok (.iload 4, 2) := by decide +kernel
theorem dX7_suits_48 : decode cX7_suits 48 = .ok (.invokevirtual 55, 3) := by decide +kernel
theorem dX7_suits_51 : decode cX7_suits 51 = .ok (.invokevirtual 64, 3) := by decide +kernel
theorem dX7_suits_54 : decode cX7_suits 54 = .ok (.iload_n 3, 1) := by decide +kernel
theorem dX7_suits_55 : decode cX7_suits 55 = .ok (.if_icmp .lt 7, 3) := by decide +kernel
theorem dX7_suits_58 : decode cX7_suits 58 = .ok (.iconst 1, 1) := by decide +kernel
theorem dX7_suits_59 : decode cX7_suits 59 = .ok (.goto 4, 3) := by decide +kernel
theorem dX7_suits_62 : decode cX7_suits 62 = .ok (.iconst 0, 1) := by decide +kernel
theorem dX7_suits_63 : decode cX7_suits 63 = .ok (.ireturn, 1) := by decide +kernel
theorem dX7_add_0 : decode cX7_add 0 = .ok (.aload_n 0, 1) := by decide +kernel
theorem dX7_add_1 : decode cX7_add 1 = .ok (.invokevirtual 68, 3) := by decide +kernel
theorem dX7_add_4 : decode cX7_add 4 = .ok (.ifCond .eq 19, 3) := by decide +kernel
theorem dX7_add_7 : decode cX7_add 7 = .ok (.aload_n 0, 1) := by decide +kernel
theorem dX7_add_8 : decode cX7_add 8 = .ok (.getfield 38, 3) := by decide +kernel
theorem dX7_add_11 : decode cX7_add 11 = .ok (.ifCond .lt 12, 3) := by decide +kernel
theorem dX7_add_14 : decode cX7_add 14 = .ok (.aload_n 0, 1) := by decide +kernel
theorem dX7_add_15 : decode cX7_add 15 = .ok (.getfield 38, 3) := by decide +kernel
theorem dX7_add_18 : decode cX7_add 18 = .ok (.bipush 20, 2) := by decide +kernel
theorem dX7_add_20 : decode cX7_add 20 = .ok (.if_icmp .lt 4, 3) := by decide +kernel
theorem dX7_add_23 : decode cX7_add 23 = .ok (.return_, 1) := by decide +kernel
theorem dX7_add_24 : decode cX7_add 24 = .ok (.aload_n 0, 1) := by decide +kernel
theorem dX7_add_25 : decode cX7_add 25 = .ok (.getfield 18, 3) := by decide +kernel
theorem dX7_add_28 : decode cX7_add 28 = .ok (.aload_n 0, 1) := by decide +kernel
theorem dX7_add_29 : decode cX7_add 29 = .ok (.getfield 38, 3) := by decide +kernel
theorem dX7_add_32 : decode cX7_add 32 = .ok (.iload_n 1, 1) := by decide +kernel
theorem dX7_add_33 : decode cX7_add 33 = .ok (.iastore, 1) := by decide +kernel
theorem dX7_add_34 : decode cX7_add 34 = .ok (.aload_n 0, 1) := by decide +kernel
theorem dX7_add_35 : decode cX7_add 35 = .ok (.getfield 22, 3) := by decide +kernel
theorem dX7_add_38 : decode cX7_add 38 = .ok (.aload_n 0, 1) := by decide +kernel
theorem dX7_add_39 : decode cX7_add 39 = .ok (.getfield 38, 3) := by decide +kernel
theorem dX7_add_42 : decode cX7_add 42 = .ok (.iload_n 2, 1) := by decide +kernel
theorem dX7_add_43 : decode cX7_add 43 = .ok (.iastore, 1) := by decide +kernel
theorem dX7_add_44 : decode cX7_add 44 = .ok (.aload_n 0, 1) := by decide +kernel
theorem dX7_add_45 : decode cX7_add 45 = .ok (.getfield 25, 3) := by decide +kernel
theorem dX7_add_48 : decode cX7_add 48 = .ok (.aload_n 0, 1) := by decide +kernel
theorem dX7_add_49 : decode cX7_add 49 = .ok (.getfield 38, 3) := by decide +kernel
theorem dX7_add_52 : decode cX7_add 52 = .ok (.iload_n 3, 1) := by decide +kernel
theorem dX7_add_53 : decode cX7_add 53 = .ok (.iastore, 1) := by decide +kernel
theorem dX7_add_54 : decode cX7_add 54 = .ok (.aload_n 0, 1) := by decide +kernel
theorem dX7_add_55 : decode cX7_add 55 = .ok (.dup, 1) := by decide +kernel
theorem dX7_add_56 : decode cX7_add 56 = .ok (.getfield 38, 3) := by decide +kernel
theorem dX7_add_59 : decode cX7_add 59 = .ok (.iconst 1, 1) := by decide +kernel
theorem dX7_add_60 : decode cX7_add 60 = .ok (.iadd, 1) := by decide +kernel
theorem dX7_add_61 : decode cX7_add 61 = .ok (.putfield 38, 3) := by decide +kernel
theorem dX7_add_64 : decode cX7_add 64 = .ok (.iload_n 1, 1) := by decide +kernel
theorem dX7_add_65 : decode cX7_add 65 = .ok (.iconst 3, 1) := by decide +kernel
theorem dX7_add_66 : decode cX7_add 66 = .ok (.if_icmp .ne 11, 3) := by decide +kernel
theorem dX7_add_69 : decode cX7_add 69 = .ok (.aload_n 0, 1) := by decide +kernel
theorem dX7_add_70 : decode cX7_add 70 = .ok (.iconst 2, 1) := by decide +kernel
theorem dX7_add_71 : decode cX7_add 71 = .ok (.putfield 11, 3) := by decide +kernel
theorem dX7_add_74 : decode cX7_add 74 = .ok (.goto 32, 3) := by decide +kernel
theorem dX7_add_77 : decode cX7_add 77 = .ok (.iload_n 1, 1) := by decide +kernel
theorem dX7_add_78 : decode cX7_add 78 = .ok (.iconst 4, 1) := by decide +kernel
theorem dX7_add_79 : decode cX7_add 79 = .ok (.if_icmp .ne 11, 3) := by decide +kernel
theorem dX7_add_82 : decode cX7_add 82 = .ok (.aload_n 0, 1) := by decide +kernel
theorem dX7_add_83 : decode cX7_add 83 = .ok (.iconst 3, 1) := by decide +kernel
theorem dX7_add_84 : decode cX7_add 84 = .ok (.putfield 11, 3) := by decide +kernel
theorem dX7_add_87 : decode cX7_add 87 = .ok (.goto 19, 3) := by decide +kernel
theorem dX7_add_90 : decode cX7_add 90 = .ok (.aload_n 0, 1) := by decide +kernel
theorem dX7_add_91 : decode cX7_add 91 = .ok (.getfield 38, 3) := by decide +kernel
theorem dX7_add_94 : decode cX7_add 94 = .ok (.aload_n 0, 1) := by decide +kernel
theorem dX7_add_95 : decode cX7_add 95 = .ok (.getfield 35, 3) := by decide +kernel
theorem dX7_add_98 : decode cX7_add 98 = .ok (.if_icmp .lt 8, 3) := by decide +kernel
theorem dX7_add_101 : decode cX7_add 101 = .ok (.aload_n 0, 1) := by decide +kernel
theorem dX7_add_102 : decode cX7_add 102 = .ok (.iconst 4, 1) := by decide +kernel
theorem dX7_add_103 : decode cX7_add 103 = .ok (.putfield 11, 3) := by decide +kernel
theorem dX7_add_106 : decode cX7_add 106 = .ok (.return_, 1) := by decide +kernel
theorem dX8_init_0 : decode cX8_init 0 = .ok (.aload_n 0, 1) := by decide +kernel
theorem dX8_init_1 : decode cX8_init 1 = .ok (.invokespecial 3, 3) := by decide +kernel
theorem dX8_init_4 : decode cX8_init 4 = .ok (.aload_n 0, 1) := by decide +kernel
theorem dX8_init_5 : decode cX8_init 5 = .ok (.bipush 90, 2) := by decide +kernel
theorem dX8_init_7 : decode cX8_init 7 = .ok (.newarray .int, 2) := by decide +kernel
theorem dX8_init_9 : decode cX8_init 9 = .ok (.putfield 11, 3) := by decide +kernel
theorem dX8_init_12 : decode cX8_init 12 = .ok (.return_, 1) := by decide +kernel
theorem dX8_append_0 : decode cX8_append 0 = .ok (.iload_n 3, 1) := by decide +kernel
theorem dX8_append_1 : decode cX8_append 1 = .ok (.iconst 1, 1) := by decide +kernel
theorem dX8_append_2 : decode cX8_append 2 = .ok (.bipush 8, 2) := by decide +kernel
theorem dX8_append_4 : decode cX8_append 4 = .ok (.invokestatic 15, 3) := by decide +kernel
theorem dX8_append_7 : decode cX8_append 7 = .ok (.ifCond .ne 5, 3) := by decide +kernel
theorem dX8_append_10 : decode cX8_append 10 = .ok (.iconst (-1), 1) := by decide +kernel
theorem dX8_append_11 : decode cX8_append 11 = .ok (.ireturn, 1) := by decide +kernel
theorem dX8_append_12 : decode cX8_append 12 = .ok (.iconst 0, 1) := by decide +kernel
theorem dX8_append_13 : decode cX8_append 13 = .ok (.istore 4, 2) := by decide +kernel
theorem dX8_append_15 : decode cX8_append 15 = .ok (.iload 4, 2) := by decide +kernel
theorem dX8_append_17 : decode cX8_append 17 = .ok (.iload_n 3, 1) := by decide +kernel
theorem dX8_append_18 : decode cX8_append 18 = .ok (.if_icmp .ge 27, 3) := by decide +kernel
theorem dX8_append_21 : decode cX8_append 21 = .ok (.lload_n 1, 1) := by decide +kernel
theorem dX8_append_22 : decode cX8_append 22 = .ok (.iload 4, 2) := by decide +kernel
theorem dX8_append_24 : decode cX8_append 24 = .ok (.invokestatic 19, 3) := by decide +kernel
theorem dX8_append_27 : decode cX8_append 27 = .ok (.bipush 32, 2) := by decide +kernel
theorem dX8_append_29 : decode cX8_append 29 = .ok (.bipush 126, 2) := by decide +kernel
theorem dX8_append_31 : decode cX8_append 31 = .ok (.invokestatic 15, 3) := by decide +kernel
theorem dX8_append_34 : decode cX8_append 34 = .ok (.ifCond .ne 5, 3) := by decide +kernel
theorem dX8_append_37 : decode cX8_append 37 = .ok (.iconst (-1), 1) := by decide +kernel
theorem dX8_append_38 : decode cX8_append 38 = .ok (.ireturn, 1) := by decide +kernel
theorem dX8_append_39 : decode cX8_append 39 = .ok (.iinc 4 1, 3) := by decide +kernel
theorem dX8_append_42 : decode cX8_append 42 = .ok (.goto (-27), 3) := by decide +kernel
theorem dX8_append_45 : decode cX8_append 45 = .ok (.aload_n 0, 1) := by decide +kernel
theorem dX8_append_46 : decode cX8_append 46 = .ok (.getfield 23, 3) := by decide +kernel
theorem dX8_append_49 : decode cX8_append 49 = .ok (.iload_n 3, 1) := by decide +kernel
theorem dX8_append_50 : decode cX8_append 50 = .ok (.iadd, 1) := by decide +kernel
theorem dX8_append_51 : decode cX8_append 51 = .ok (.bipush 90, 2) := by decide +kernel
theorem dX8_append_53 : decode cX8_append 53 = .ok (.if_icmp .le 6, 3) := by decide +kernel
theorem dX8_append_56 : decode cX8_append 56 = .ok (.bipush (-3), 2) := by decide +kernel
theorem dX8_append_58 : decode cX8_append 58 = .ok (.ireturn, 1) := by decide +kernel
theorem dX8_append_59 : decode cX8_append 59 = .ok (.iload_n 3, 1) := by decide +kernel
theorem dX8_append_60 : decode cX8_append 60 = .ok (.iconst 1, 1) := by decide +kernel
theorem dX8_append_61 : decode cX8_append 61 = .ok (.isub, 1) := by decide +kernel
theorem dX8_append_62 : decode cX8_append 62 = .ok (.istore 4, 2) := by decide +kernel
theorem dX8_append_64 : decode cX8_append 64 = .ok (.iload 4, 2) := by decide +kernel
theorem dX8_append_66 : decode cX8_append 66 = .ok (.ifCond .lt 34, 3) := by decide +kernel
theorem dX8_append_69 : decode cX8_append 69 = .ok (.aload_n 0, 1) := by decide +kernel
theorem dX8_append_70 : decode cX8_append 70 = .ok (.getfield 11, 3) := by decide +kernel
theorem dX8_append_73 : decode cX8_append 73 = .ok (.aload_n 0, 1) := by decide +kernel
theorem dX8_append_74 : decode cX8_append 74 = .ok (.getfield 23, 3) := by decide +kernel
theorem dX8_append_77 : decode cX8_append 77 = .ok (.lload_n 1, 1) := by decide +kernel
theorem dX8_append_78 : decode cX8_append 78 = .ok (.iload 4, 2) := by decide +kernel
theorem dX8_append_80 : decode cX8_append 80 = .ok (.invokestatic 19, 3) := by decide +kernel
theorem dX8_append_83 : decode cX8_append 83 = .ok (.iastore, 1) := by decide +kernel
theorem dX8_append_84 : decode cX8_append 84 = .ok (.aload_n 0, 1) := by decide +kernel
theorem dX8_append_85 : decode cX8_append 85 = .ok (.dup, 1) := by decide +kernel
theorem dX8_append_86 : decode cX8_append 86 = .ok (.getfield 23, 3) := by decide +kernel
theorem dX8_append_89 : decode cX8_append 89 = .ok (.iconst 1, 1) := by decide +kernel
theorem dX8_append_90 : decode cX8_append 90 = .ok (.iadd, 1) := by decide +kernel
theorem dX8_append_91 : decode cX8_append 91 = .ok (.putfield 23, 3) := by decide +kernel
theorem dX8_append_94 : decode cX8_append 94 = .ok (.iinc 4 (-1), 3) := by decide +kernel
theorem dX8_append_97 : decode cX8_append 97 = .ok (.goto (-33), 3) := by decide +kernel
theorem dX8_append_100 : decode cX8_append 100 = .ok (.aload_n 0, 1) := by decide +kernel
theorem dX8_append_101 : decode cX8_append 101 = .ok (.getfield 23, 3) := by decide +kernel
theorem dX8_append_104 : decode cX8_append 104 = .ok (.ireturn, 1) := by decide +kernel
theorem dX8_byteOf_0 : decode cX8_byteOf 0 = .ok (.lload_n 0, 1) := by decide +kernel
theorem dX8_byteOf_1 : decode cX8_byteOf 1 = .ok (.bipush 8, 2) := by decide +kernel
theorem dX8_byteOf_3 : decode cX8_byteOf 3 = .ok (.iload_n 2, 1) := by decide +kernel
theorem dX8_byteOf_4 : decode cX8_byteOf 4 = .ok (.imul, 1) := by decide +kernel
theorem dX8_byteOf_5 : decode cX8_byteOf 5 = .ok (.lushr, 1) := by decide +kernel
theorem dX8_byteOf_6 : decode cX8_byteOf 6 = .ok (.l2i, 1) := by decide +kernel
theorem dX8_byteOf_7 : decode cX8_byteOf 7 = .ok (.sipush 255, 3) := by decide +kernel
theorem dX8_byteOf_10 : decode cX8_byteOf 10 = .ok (.iand, 1) := by decide +kernel
theorem dX8_byteOf_11 : decode cX8_byteOf 11 = .ok (.ireturn, 1) := by decide +kernel
theorem dX8_readInto_0 : decode cX8_readInto 0 = .ok (.aload_n 1, 1) := by decide +kernel
theorem dX8_readInto_1 : decode cX8_readInto 1 = .ok (.invokevirtual 27, 3) := by decide +kernel
theorem dX8_readInto_4 : decode cX8_readInto 4 = .ok (.aload_n 0, 1) := by decide +kernel
theorem dX8_readInto_5 : decode cX8_readInto 5 = .ok (.iconst 0, 1) := by decide +kernel
theorem dX8_readInto_6 : decode cX8_readInto 6 = .ok (.putfield 32, 3) := by decide +kernel
theorem dX8_readInto_9 : decode cX8_readInto 9 = .ok (.aload_n 0, 1) := by decide +kernel
theorem dX8_readInto_10 : decode cX8_readInto 10 = .ok (.aload_n 1, 1) := by decide +kernel
theorem dX8_readInto_11 : decode cX8_readInto 11 = .ok (.invokevirtual 35, 3) := by decide +kernel
theorem dX8_readInto_14 : decode cX8_readInto 14 = .ok (.istore_n 2, 1) := by decide +kernel
theorem dX8_readInto_15 : decode cX8_readInto 15 = .ok (.aload_n 0, 1) := by decide +kernel
theorem dX8_readInto_16 : decode cX8_readInto 16 = .ok (.iconst 0, 1) := by decide +kernel
theorem dX8_readInto_17 : decode cX8_readInto 17 = .ok (.putfield 23, 3) := by decide +kernel
theorem dX8_readInto_20 : decode cX8_readInto 20 = .ok (.iload_n 2, 1) := by decide +kernel
theorem dX8_readInto_21 : decode cX8_readInto 21 = .ok (.ireturn, 1) := by decide +kernel
theorem dX8_readClauses_0 : decode cX8_readClauses 0 = .ok (.iconst 1, 1) := by decide +kernel
theorem dX8_readClauses_1 : decode cX8_readClauses 1 = .ok (.istore_n 2, 1) := by decide +kernel
theorem dX8_readClauses_2 : decode cX8_readClauses 2 = .ok (.iload_n 2, 1) := by decide +kernel
theorem dX8_readClauses_3 : decode cX8_readClauses 3 = .ok (.bipush 12, 2) := by decide +kernel
theorem dX8_readClauses_5 : decode cX8_readClauses 5 = .ok (.if_icmp .gt 49, 3) := by decide +kernel
theorem dX8_readClauses_8 : decode cX8_readClauses 8 = .ok (.aload_n 0, 1) := by decide +kernel
theorem dX8_readClauses_9 : decode cX8_readClauses 9 = .ok (.aload_n 1, 1) := by decide +kernel
theorem dX8_readClauses_10 : decode cX8_readClauses 10 = .ok (.invokevirtual 39, 3) := by decide +kernel
theorem dX8_readClauses_13 : decode cX8_readClauses 13 = .ok (.istore_n 3, 1) := by decide +kernel
theorem dX8_readClauses_14 : decode cX8_readClauses 14 = .ok (.iload_n 3, 1) := by decide +kernel
theorem dX8_readClauses_15 : decode cX8_readClauses 15 = .ok (.ifCond .ge 5, 3) := by decide +kernel
theorem dX8_readClauses_18 : decode cX8_readClauses 18 = .ok (.iload_n 3, 1) := by decide +kernel
theorem dX8_readClauses_19 : decode cX8_readClauses 19 = .ok (.ireturn, 1) := by decide +kernel
theorem dX8_readClauses_20 : decode cX8_readClauses 20 = .ok (.aload_n 0, 1) := by decide +kernel
theorem dX8_readClauses_21 : decode cX8_readClauses 21 = .ok (.invokevirtual 42, 3) := by decide +kernel
theorem dX8_readClauses_24 : decode cX8_readClauses 24 = .ok (.bipush 59, 2) := by decide +kernel
theorem dX8_readClauses_26 : decode cX8_readClauses 26 = .ok (.if_icmp .ne 28, 3) := by decide +kernel
theorem dX8_readClauses_29 : decode cX8_readClauses 29 = .ok (.iload_n 2, 1) := by decide +kernel
theorem dX8_readClauses_30 : decode cX8_readClauses 30 = .ok (.bipush 12, 2) := by decide +kernel
theorem dX8_readClauses_32 : decode cX8_readClauses 32 = .ok (.if_icmp .ne 6, 3) := by decide +kernel
theorem dX8_readClauses_35 : decode cX8_readClauses 35 = .ok (.goto 19, 3) := by decide +kernel
theorem dX8_readClauses_38 : decode cX8_readClauses 38 = .ok (.aload_n 0, 1) := by decide +kernel
theorem dX8_readClauses_39 : decode cX8_readClauses 39 = .ok (.dup, 1) := by decide +kernel
theorem dX8_readClauses_40 : decode cX8_readClauses 40 = .ok (.getfield 32, 3) := by decide +kernel
theorem dX8_readClauses_43 : decode cX8_readClauses 43 = .ok (.iconst 1, 1) := by decide +kernel
theorem dX8_readClauses_44 : decode cX8_readClauses 44 = .ok (.iadd, 1) := by decide +kernel
theorem dX8_readClauses_45 : decode cX8_readClauses 45 = .ok (.putfield 32, 3) := by decide +kernel
theorem dX8_readClauses_48 : decode cX8_readClauses 48 = .ok (.iinc 2 1, 3) := by decide +kernel
theorem dX8_readClauses_51 : decode cX8_readClauses 51 = .ok (.goto (-49), 3) := by decide +kernel
theorem dX8_readClauses_54 : decode cX8_readClauses 54 = .ok (.aload_n 0, 1) := by decide +kernel
theorem dX8_readClauses_55 : decode cX8_readClauses 55 = .ok (.invokevirtual 42, 3) := by decide +kernel
theorem dX8_readClauses_58 : decode cX8_readClauses 58 = .ok (.iconst (-1), 1) := by decide +kernel
theorem dX8_readClauses_59 : decode cX8_readClauses 59 = .ok (.if_icmp .ne 10, 3) := by decide +kernel
theorem dX8_readClauses_62 : decode cX8_readClauses 62 = .ok (.aload_n 1, 1) := by decide +kernel
theorem dX8_readClauses_63 : decode cX8_readClauses 63 = .ok (.getfield 46, 3) := by decide +kernel
theorem dX8_readClauses_66 : decode cX8_readClauses 66 = .ok (.goto 10, 3) := by decide +kernel
theorem dX8_readClauses_69 : decode cX8_readClauses 69 = .ok (.aload_n 0, 1) := by decide +kernel
theorem dX8_readClauses_70 : decode cX8_readClauses 70 = .ok (.getfield 32, 3) := by decide +kernel
theorem dX8_readClauses_73 : decode cX8_readClauses 73 = .ok (.invokestatic 49, 3) := by decide +kernel
theorem dX8_readClauses_76 : decode cX8_readClauses 76 = .ok (.ireturn, 1) := by decide +kernel
theorem dX8_readClause_0 : decode cX8_readClause 0 = .ok (.aload_n 0, 1) := by decide +kernel
theorem dX8_readClause_1 : decode cX8_readClause 1 = .ok (.invokevirtual 42, 3) := by decide +kernel
theorem dX8_readClause_4 : decode cX8_readClause 4 = .ok (.bipush 33, 2) := by decide +kernel
theorem dX8_readClause_6 : decode cX8_readClause 6 = .ok (.if_icmp .ne 7, 3) := by decide +kernel
theorem dX8_readClause_9 : decode cX8_readClause 9 = .ok (.iconst 1, 1) := by decide +kernel
theorem dX8_readClause_10 : decode cX8_readClause 10 = .ok (.goto 4, 3) := by decide +kernel
theorem dX8_readClause_13 : decode cX8_readClause 13 = .ok (.iconst 0, 1) := by decide +kernel
theorem dX8_readClause_14 : decode cX8_readClause 14 = .ok (.istore_n 2, 1) := by decide +kernel
theorem dX8_readClause_15 : decode cX8_readClause 15 = .ok (.iload_n 2, 1) := by decide +kernel
theorem dX8_readClause_16 : decode cX8_readClause 16 = .ok (.ifCond .eq 13, 3) := by decide +kernel
theorem dX8_readClause_19 : decode cX8_readClause 19 = .ok (.aload_n 0, 1) := by decide +kernel
theorem dX8_readClause_20 : decode cX8_readClause 20 = .ok (.dup, 1) := by decide +kernel
theorem dX8_readClause_21 : decode cX8_readClause 21 = .ok (.getfield 32, 3) := by decide +kernel
theorem dX8_readClause_24 : decode cX8_readClause 24 = .ok (.iconst 1, 1) := by decide +kernel
theorem dX8_readClause_25 : decode cX8_readClause 25 = .ok (.iadd, 1) := by decide +kernel
theorem dX8_readClause_26 : decode cX8_readClause 26 = .ok (.putfield 32, 3) := by decide +kernel
theorem dX8_readClause_29 : decode cX8_readClause 29 = .ok (.aload_n 0, 1) := by decide +kernel
theorem dX8_readClause_30 : decode cX8_readClause 30 = .ok (.invokevirtual 53, 3) := by decide +kernel
theorem dX8_readClause_33 : decode cX8_readClause 33 = .ok (.istore_n 3, 1) := by decide +kernel
theorem dX8_readClause_34 : decode cX8_readClause 34 = .ok (.iload_n 3, 1) := by decide +kernel
theorem dX8_readClause_35 : decode cX8_readClause 35 = .ok (.ifCond .ne 11, 3) := by decide +kernel
theorem dX8_readClause_38 : decode cX8_readClause 38 = .ok (.aload_n 0, 1) := by decide +kernel
theorem dX8_readClause_39 : decode cX8_readClause 39 = .ok (.getfield 32, 3) := by decide +kernel
theorem dX8_readClause_42 : decode cX8_readClause 42 = .ok (.invokestatic 49, 3) := by decide +kernel
theorem dX8_readClause_45 : decode cX8_readClause 45 = .ok (.ireturn, 1) := by decide +kernel
theorem dX8_readClause_46 : decode cX8_readClause 46 = .ok (.iload_n 2, 1) := by decide +kernel
theorem dX8_readClause_47 : decode cX8_readClause 47 = .ok (.ifCond .eq 10, 3) := by decide +kernel
theorem dX8_readClause_50 : decode cX8_readClause 50 = .ok (.aload_n 1, 1) := by decide +kernel
theorem dX8_readClause_51 : decode cX8_readClause 51 = .ok (.iload_n 3, 1) := by decide +kernel
theorem dX8_readClause_52 : decode cX8_readClause 52 = .ok (.invokevirtual 56, 3) := by decide +kernel
theorem dX8_readClause_55 : decode cX8_readClause 55 = .ok (.iconst 0, 1) := by decide +kernel
theorem dX8_readClause_56 : decode cX8_readClause 56 = .ok (.ireturn, 1) := by decide +kernel
theorem dX8_readClause_57 : decode cX8_readClause 57 = .ok (.aload_n 0, 1) := by decide +kernel
theorem dX8_readClause_58 : decode cX8_readClause 58 = .ok (.aload_n 1, 1) := by decide +kernel
theorem dX8_readClause_59 : decode cX8_readClause 59 = .ok (.iload_n 3, 1) := by decide +kernel
theorem dX8_readClause_60 : decode cX8_readClause 60 = .ok (.invokevirtual 60, 3) := by decide +kernel
theorem dX8_readClause_63 : decode cX8_readClause 63 = .ok (.ireturn, 1) := by decide +kernel
theorem dX8_readLetters_0 : decode cX8_readLetters 0 = .ok (.iconst 0, 1) := by decide +kernel
theorem dX8_readLetters_1 : decode cX8_readLetters 1 = .ok (.istore_n 1, 1) := by decide +kernel
theorem dX8_readLetters_2 : decode cX8_readLetters 2 = .ok (.iconst 0, 1) := by decide +kernel
theorem dX8_readLetters_3 : decode cX8_readLetters 3 = .ok (.istore_n 2, 1) := by decide +kernel
theorem dX8_readLetters_4 : decode cX8_readLetters 4 = .ok (.iload_n 2, 1) := by decide +kernel
theorem dX8_readLetters_5 : decode cX8_readLetters 5 = .ok (.bipush 6, 2) := by decide +kernel
theorem dX8_readLetters_7 : decode cX8_readLetters 7 = .ok (.if_icmp .ge 39, 3) := by decide +kernel
theorem dX8_readLetters_10 : decode cX8_readLetters 10 = .ok (.aload_n 0, 1) := by decide +kernel
theorem dX8_readLetters_11 : decode cX8_readLetters 11 = .ok (.invokevirtual 42, 3) := by decide +kernel
theorem dX8_readLetters_14 : decode cX8_readLetters 14 = .ok (.invokestatic 64, 3) := by decide +kernel
theorem dX8_readLetters_17 : decode cX8_readLetters 17 = .ok (.istore_n 3, 1) := by decide +kernel
theorem dX8_readLetters_18 : decode cX8_readLetters 18 = .ok (.iload_n 3, 1) := by decide +kernel
theorem dX8_readLetters_19 : decode cX8_readLetters 19 = .ok (.iload_n 1, 1) := by decide +kernel
theorem dX8_readLetters_20 : decode cX8_readLetters 20 = .ok (.if_icmp .gt 6, 3) := by decide +kernel
theorem dX8_readLetters_23 : decode cX8_readLetters 23 = .ok (.goto 23, 3) := by decide +kernel
theorem dX8_readLetters_26 : decode cX8_readLetters 26 = .ok (.iload_n 1, 1) := by decide +kernel
theorem dX8_readLetters_27 : decode cX8_readLetters 27 = .ok (.iload_n 3, 1) := by decide +kernel
theorem dX8_readLetters_28 : decode cX8_readLetters 28 = .ok (.ior, 1) := by decide +kernel
theorem dX8_readLetters_29 : decode cX8_readLetters 29 = .ok (.istore_n 1, 1) := by decide +kernel
theorem dX8_readLetters_30 : decode cX8_readLetters 30 = .ok (.aload_n 0, 1) := by decide +kernel
theorem dX8_readLetters_31 : decode cX8_readLetters 31 = .ok (.dup, 1) := by decide +kernel
theorem dX8_readLetters_32 : decode cX8_readLetters 32 = .ok (.getfield 32, 3) := by decide +kernel
theorem dX8_readLetters_35 : decode cX8_readLetters 35 = .ok (.iconst 1, 1) := by decide +kernel
theorem dX8_readLetters_36 : decode cX8_readLetters 36 = .ok (.iadd, 1) := by decide +kernel
theorem dX8_readLetters_37 : decode cX8_readLetters 37 = .ok (.putfield 32, 3) := by decide +kernel
theorem dX8_readLetters_40 : decode cX8_readLetters 40 = .ok (.iinc 2 1, 3) := by decide +kernel
theorem dX8_readLetters_43 : decode cX8_readLetters 43 = .ok (.goto (-39), 3) := by decide +kernel
theorem dX8_readLetters_46 : decode cX8_readLetters 46 = .ok (.iload_n 1, 1) := by decide +kernel
theorem dX8_readLetters_47 : decode cX8_readLetters 47 = .ok (.ireturn, 1) := by decide +kernel
theorem dX8_readNumber_0 : decode cX8_readNumber 0 = .ok (.aload_n 0, 1) := by decide +kernel
theorem dX8_readNumber_1 : decode cX8_readNumber 1 = .ok (.invokevirtual 42, 3) := by decide +kernel
theorem dX8_readNumber_4 : decode cX8_readNumber 4 = .ok (.bipush 45, 2) := by decide +kernel
theorem dX8_readNumber_6 : decode cX8_readNumber 6 = .ok (.if_icmp .ne 7, 3) := by decide +kernel
theorem dX8_readNumber_9 : decode cX8_readNumber 9 = .ok (.iconst 1, 1) := by decide +kernel
theorem dX8_readNumber_10 : decode cX8_readNumber 10 = .ok (.goto 4, 3) := by decide +kernel
theorem dX8_readNumber_13 : decode cX8_readNumber 13 = .ok (.iconst 0, 1) := by decide +kernel
theorem dX8_readNumber_14 : decode cX8_readNumber 14 = .ok (.istore_n 3, 1) := by decide +kernel
theorem dX8_readNumber_15 : decode cX8_readNumber 15 = .ok (.iload_n 3, 1) := by decide +kernel
theorem dX8_readNumber_16 : decode cX8_readNumber 16 = .ok (.ifCond .eq 13, 3) := by decide +kernel
theorem dX8_readNumber_19 : decode cX8_readNumber 19 = .ok (.aload_n 0, 1) := by decide +kernel
theorem dX8_readNumber_20 : decode cX8_readNumber 20 = .ok (.dup, 1) := by decide +kernel
theorem dX8_readNumber_21 : decode cX8_readNumber 21 = .ok (.getfield 32, 3) := by decide +kernel
theorem dX8_readNumber_24 : decode cX8_readNumber 24 = .ok (.iconst 1, 1) := by decide +kernel
theorem dX8_readNumber_25 : decode cX8_readNumber 25 = .ok (.iadd, 1) := by decide +kernel
theorem dX8_readNumber_26 : decode cX8_readNumber 26 = .ok (.putfield 32, 3) := by decide +kernel
theorem dX8_readNumber_29 : decode cX8_readNumber 29 = .ok (.aload_n 0, 1) := by decide +kernel
theorem dX8_readNumber_30 : decode cX8_readNumber 30 = .ok (.invokevirtual 42, 3) := by decide +kernel
theorem dX8_readNumber_33 : decode cX8_readNumber 33 = .ok (.invokestatic 67, 3) := by decide +kernel
theorem dX8_readNumber_36 : decode cX8_readNumber 36 = .ok (.ifCond .ne 11, 3) := by decide +kernel
theorem dX8_readNumber_39 : decode cX8_readNumber 39 = .ok (.aload_n 0, 1) := by decide +kernel
theorem dX8_readNumber_40 : decode cX8_readNumber 40 = .ok (.getfield 32, 3) := by decide +kernel
theorem dX8_readNumber_43 : decode cX8_readNumber 43 = .ok (.invokestatic 49, 3) := by decide +kernel
theorem dX8_readNumber_46 : decode cX8_readNumber 46 = .ok (.ireturn, 1) := by decide +kernel
theorem dX8_readNumber_47 : decode cX8_readNumber 47 = .ok (.aload_n 0, 1) := by decide +kernel
theorem dX8_readNumber_48 : decode cX8_readNumber 48 = .ok (.getfield 32, 3) := by decide +kernel
theorem dX8_readNumber_51 : decode cX8_readNumber 51 = .ok (.istore 4, 2) := by decide +kernel
theorem dX8_readNumber_53 : decode cX8_readNumber 53 = .ok (.iconst 0, 1) := by decide +kernel
theorem dX8_readNumber_54 : decode cX8_readNumber 54 = .ok (.istore 5, 2) := by decide +kernel
theorem dX8_readNumber_56 : decode cX8_readNumber 56 = .ok (.aload_n 0, 1) := by decide +kernel
theorem dX8_readNumber_57 : decode cX8_readNumber 57 = .ok (.getfield 32, 3) := by decide +kernel
theorem dX8_readNumber_60 : decode cX8_readNumber 60 = .ok (.aload_n 0, 1) := by decide +kernel
theorem dX8_readNumber_61 : decode cX8_readNumber 61 = .ok (.getfield 23, 3) := by decide +kernel
theorem dX8_readNumber_64 : decode cX8_readNumber 64 = .ok (.if_icmp .ge 56, 3) := by decide +kernel
theorem dX8_readNumber_67 : decode cX8_readNumber 67 = .ok (.aload_n 0, 1) := by decide +kernel
theorem dX8_readNumber_68 : decode cX8_readNumber 68 = .ok (.getfield 11, 3) := by decide +kernel
theorem dX8_readNumber_71 : decode cX8_readNumber 71 = .ok (.aload_n 0, 1) := by decide +kernel
theorem dX8_readNumber_72 : decode cX8_readNumber 72 = .ok (.getfield 32, 3) := by decide +kernel
theorem dX8_readNumber_75 : decode cX8_readNumber 75 = .ok (.iaload, 1) := by decide +kernel
theorem dX8_readNumber_76 : decode cX8_readNumber 76 = .ok (.invokestatic 67, 3) := by decide +kernel
theorem dX8_readNumber_79 : decode cX8_readNumber 79 = .ok (.ifCond .eq 41, 3) := by decide +kernel
theorem dX8_readNumber_82 : decode cX8_readNumber 82 = .ok (.bipush 10, 2) := by decide +kernel
theorem dX8_readNumber_84 : decode cX8_readNumber 84 = .ok (.iload 5, 2) := by decide +kernel
theorem dX8_readNumber_86 : decode cX8_readNumber 86 = .ok (.imul, 1) := by decide +kernel
theorem dX8_readNumber_87 : decode cX8_readNumber 87 = .ok (.aload_n 0, 1) := by decide +kernel
theorem dX8_readNumber_88 : decode cX8_readNumber 88 = .ok (.getfield 11, 3) := by decide +kernel
theorem dX8_readNumber_91 : decode cX8_readNumber 91 = .ok (.aload_n 0, 1) := by decide +kernel
theorem dX8_readNumber_92 : decode cX8_readNumber 92 = .ok (.getfield 32, 3) := by decide +kernel
theorem dX8_readNumber_95 : decode cX8_readNumber 95 = .ok (.iaload, 1) := by decide +kernel
theorem dX8_readNumber_96 : decode cX8_readNumber 96 = .ok (.iadd, 1) := by decide +kernel
theorem dX8_readNumber_97 : decode cX8_readNumber 97 = .ok (.bipush 48, 2) := by decide +kernel
theorem dX8_readNumber_99 : decode cX8_readNumber 99 = .ok (.isub, 1) := by decide +kernel
theorem dX8_readNumber_100 : decode cX8_readNumber 100 = .ok (.bipush 100, 2) := by decide +kernel
theorem dX8_readNumber_102 : decode cX8_readNumber 102 = .ok (.invokestatic 71, 3) := by decide +kernel
theorem dX8_readNumber_105 : decode cX8_readNumber 105 = .ok (.istore 5, 2) := by decide +kernel
theorem dX8_readNumber_107 : decode cX8_readNumber 107 = .ok (.aload_n 0, 1) := by decide +kernel
theorem dX8_readNumber_108 : decode cX8_readNumber 108 = .ok (.dup, 1) := by decide +kernel
theorem dX8_readNumber_109 : decode cX8_readNumber 109 = .ok (.getfield 32, 3) := by decide +kernel
theorem dX8_readNumber_112 : decode cX8_readNumber 112 = .ok (.iconst 1, 1) := by decide +kernel
theorem dX8_readNumber_113 : decode cX8_readNumber 113 = .ok (.iadd, 1) := by decide +kernel
theorem dX8_readNumber_114 : decode cX8_readNumber 114 = .ok (.putfield 32, 3) := by decide +kernel
theorem dX8_readNumber_117 : decode cX8_readNumber 117 = .ok (.goto (-61), 3) := by decide +kernel
theorem dX8_readNumber_120 : decode cX8_readNumber 120 = .ok (.iload 5, 2) := by decide +kernel
theorem dX8_readNumber_122 : decode cX8_readNumber 122 = .ok (.bipush 99, 2) := by decide +kernel
theorem dX8_readNumber_124 : decode cX8_readNumber 124 = .ok (.if_icmp .le 9, 3) := by decide +kernel
theorem dX8_readNumber_127 : decode cX8_readNumber 127 = .ok (.iload 4, 2) := by decide +kernel
theorem dX8_readNumber_129 : decode cX8_readNumber 129 = .ok (.invokestatic 49, 3) := by decide +kernel
theorem dX8_readNumber_132 : decode cX8_readNumber 132 = .ok (.ireturn, 1) := by decide +kernel
theorem dX8_readNumber_133 : decode cX8_readNumber 133 = .ok (.aload_n 1, 1) := by decide +kernel
theorem dX8_readNumber_134 : decode cX8_readNumber 134 = .ok (.iload_n 2, 1) := by decide +kernel
theorem dX8_readNumber_135 : decode cX8_readNumber 135 = .ok (.iload_n 3, 1) := by decide +kernel
theorem dX8_readNumber_136 : decode cX8_readNumber 136 = .ok (.ifCond .eq 9, 3) := by decide +kernel
theorem dX8_readNumber_139 : decode cX8_readNumber 139 = .ok (.iload 5, 2) := by decide +kernel
theorem dX8_readNumber_141 : decode cX8_readNumber 141 = .ok (.ineg, 1) := by decide +kernel
theorem dX8_readNumber_142 : decode cX8_readNumber 142 = .ok (.goto 5, 3) := by decide +kernel
theorem dX8_readNumber_145 : decode cX8_readNumber 145 = .ok (.iload 5, 2) := by decide +kernel
theorem dX8_readNumber_147 : decode cX8_readNumber 147 = .ok (.invokevirtual 77, 3) := by decide +kernel
theorem dX8_readNumber_150 : decode cX8_readNumber 150 = .ok (.iconst 0, 1) := by decide +kernel
theorem dX8_readNumber_151 : decode cX8_readNumber 151 = .ok (.ireturn, 1) := by decide +kernel
theorem dX8_next_0 : decode cX8_next 0 = .ok (.aload_n 0, 1) := by decide +kernel
theorem dX8_next_1 : decode cX8_next 1 = .ok (.getfield 32, 3) := by decide +kernel
theorem dX8_next_4 : decode cX8_next 4 = .ok (.aload_n 0, 1) := by decide +kernel
theorem dX8_next_5 : decode cX8_next 5 = .ok (.getfield 23, 3) := by decide +kernel
theorem dX8_next_8 : decode cX8_next 8 = .ok (.if_icmp .ge 30, 3) := by decide +kernel
theorem dX8_next_11 : decode cX8_next 11 = .ok (.aload_n 0, 1) := by decide +kernel
theorem dX8_next_12 : decode cX8_next 12 = .ok (.getfield 11, 3) := by decide +kernel
theorem dX8_next_15 : decode cX8_next 15 = .ok (.aload_n 0, 1) := by decide +kernel
theorem dX8_next_16 : decode cX8_next 16 = .ok (.getfield 32, 3) := by decide +kernel
theorem dX8_next_19 : decode cX8_next 19 = .ok (.iaload, 1) := by decide +kernel
theorem dX8_next_20 : decode cX8_next 20 = .ok (.bipush 32, 2) := by decide +kernel
theorem dX8_next_22 : decode cX8_next 22 = .ok (.if_icmp .ne 16, 3) := by decide +kernel
theorem dX8_next_25 : decode cX8_next 25 = .ok (.aload_n 0, 1) := by decide +kernel
theorem dX8_next_26 : decode cX8_next 26 = .ok (.dup, 1) := by decide +kernel
theorem dX8_next_27 : decode cX8_next 27 = .ok (.getfield 32, 3) := by decide +kernel
theorem dX8_next_30 : decode cX8_next 30 = .ok (.iconst 1, 1) := by decide +kernel
theorem dX8_next_31 : decode cX8_next 31 = .ok (.iadd, 1) := by decide +kernel
theorem dX8_next_32 : decode cX8_next 32 = .ok (.putfield 32, 3) := by decide +kernel
theorem dX8_next_35 : decode cX8_next 35 = .ok (.goto (-35), 3) := by decide +kernel
theorem dX8_next_38 : decode cX8_next 38 = .ok (.aload_n 0, 1) := by decide +kernel
theorem dX8_next_39 : decode cX8_next 39 = .ok (.getfield 32, 3) := by decide +kernel
theorem dX8_next_42 : decode cX8_next 42 = .ok (.aload_n 0, 1) := by decide +kernel
theorem dX8_next_43 : decode cX8_next 43 = .ok (.getfield 23, 3) := by decide +kernel
theorem dX8_next_46 : decode cX8_next 46 = .ok (.if_icmp .ge 15, 3) := by decide +kernel
theorem dX8_next_49 : decode cX8_next 49 = .ok (.aload_n 0, 1) := by decide +kernel
theorem dX8_next_50 : decode cX8_next 50 = .ok (.getfield 11, 3) := by decide +kernel
theorem dX8_next_53 : decode cX8_next 53 = .ok (.aload_n 0, 1) := by decide +kernel
theorem dX8_next_54 : decode cX8_next 54 = .ok (.getfield 32, 3) := by decide +kernel
theorem dX8_next_57 : decode cX8_next 57 = .ok (.iaload, 1) := by decide +kernel
theorem dX8_next_58 : decode cX8_next 58 = .ok (.goto 4, 3) := by decide +kernel
theorem dX8_next_61 : decode cX8_next 61 = .ok (.iconst (-1), 1) := by decide +kernel
theorem dX8_next_62 : decode cX8_next 62 = .ok (.ireturn, 1) := by decide +kernel
theorem dX8_faultAt_0 : decode cX8_faultAt 0 = .ok (.bipush (-20), 2) := by decide +kernel
theorem dX8_faultAt_2 : decode cX8_faultAt 2 = .ok (.iload_n 0, 1) := by decide +kernel
theorem dX8_faultAt_3 : decode cX8_faultAt 3 = .ok (.isub, 1) := by decide +kernel
theorem dX8_faultAt_4 : decode cX8_faultAt 4 = .ok (.ireturn, 1) := by decide +kernel
theorem dX8_isDigit_0 : decode cX8_isDigit 0 = .ok (.iload_n 0, 1) := by decide +kernel
theorem dX8_isDigit_1 : decode cX8_isDigit 1 = .ok (.bipush 48, 2) := by decide +kernel
theorem dX8_isDigit_3 : decode cX8_isDigit 3 = .ok (.if_icmp .lt 13, 3) := by decide +kernel
theorem dX8_isDigit_6 : decode cX8_isDigit 6 = .ok (.iload_n 0, 1) := by decide +kernel
theorem dX8_isDigit_7 : decode cX8_isDigit 7 = .ok (.bipush 57, 2) := by decide +kernel
theorem dX8_isDigit_9 : decode cX8_isDigit 9 = .ok (.if_icmp .gt 7, 3) := by decide +kernel
theorem dX8_isDigit_12 : decode cX8_isDigit 12 = .ok (.iconst 1, 1) := by decide +kernel
theorem dX8_isDigit_13 : decode cX8_isDigit 13 = .ok (.goto 4, 3) := by decide +kernel
theorem dX8_isDigit_16 : decode cX8_isDigit 16 = .ok (.iconst 0, 1) := by decide +kernel
theorem dX8_isDigit_17 : decode cX8_isDigit 17 = .ok (.ireturn, 1) := by decide +kernel
theorem dX8_letterBit_0 : decode cX8_letterBit 0 = .ok (.iload_n 0, 1) := by decide +kernel
theorem dX8_letterBit_1 : decode cX8_letterBit 1 = .ok (.bipush 97, 2) := by decide +kernel
theorem dX8_letterBit_3 : decode cX8_letterBit 3 = .ok (.if_icmp .lt 18, 3) := by decide +kernel
theorem dX8_letterBit_6 : decode cX8_letterBit 6 = .ok (.iload_n 0, 1) := by decide +kernel
theorem dX8_letterBit_7 : decode cX8_letterBit 7 = .ok (.bipush 103, 2) := by decide +kernel
theorem dX8_letterBit_9 : decode cX8_letterBit 9 = .ok (.if_icmp .ge 12, 3) := by decide +kernel
theorem dX8_letterBit_12 : decode cX8_letterBit 12 = .ok (.iconst 1, 1) := by decide +kernel
theorem dX8_letterBit_13 : decode cX8_letterBit 13 = .ok (.iload_n 0, 1) := by decide +kernel
theorem dX8_letterBit_14 : decode cX8_letterBit 14 = .ok (.bipush 97, 2) := by decide +kernel
theorem dX8_letterBit_16 : decode cX8_letterBit 16 = .ok (.isub, 1) := by decide +kernel
theorem dX8_letterBit_17 : decode cX8_letterBit 17 = .ok (.ishl, 1) := by decide +kernel
theorem dX8_letterBit_18 : decode cX8_letterBit 18 = .ok (.goto 4, 3) := by decide +kernel
theorem dX8_letterBit_21 : decode cX8_letterBit 21 = .ok (.iconst 0, 1) := by decide +kernel
theorem dX8_letterBit_22 : decode cX8_letterBit 22 = .ok (.ireturn, 1) := by decide +kernel
theorem dX9_init_0 : decode cX9_init 0 = .ok (.aload_n 0, 1) := by decide +kernel
theorem dX9_init_1 : decode cX9_init 1 = .ok (.invokespecial 1, 3) := by decide +kernel
theorem dX9_init_4 : decode cX9_init 4 = .ok (.aload_n 0, 1) := by decide +kernel
theorem dX9_init_5 : decode cX9_init 5 = .ok (.iconst (-1), 1) := by decide +kernel
theorem dX9_init_6 : decode cX9_init 6 = .ok (.putfield 9, 3) := by decide +kernel
theorem dX9_init_9 : decode cX9_init 9 = .ok (.return_, 1) := by decide +kernel
theorem dX9_isPaid_0 : decode cX9_isPaid 0 = .ok (.aload_n 0, 1) := by decide +kernel
theorem dX9_isPaid_1 : decode cX9_isPaid 1 = .ok (.getfield 9, 3) := by decide +kernel
theorem dX9_isPaid_4 : decode cX9_isPaid 4 = .ok (.iconst (-1), 1) := by decide +kernel
theorem dX9_isPaid_5 : decode cX9_isPaid 5 = .ok (.if_icmp .eq 7, 3) := by decide +kernel
theorem dX9_isPaid_8 : decode cX9_isPaid 8 = .ok (.iconst 1, 1) := by decide +kernel
theorem dX9_isPaid_9 : decode cX9_isPaid 9 = .ok (.goto 4, 3) := by decide +kernel
theorem dX9_isPaid_12 : decode cX9_isPaid 12 = .ok (.iconst 0, 1) := by decide +kernel
theorem dX9_isPaid_13 : decode cX9_isPaid 13 = .ok (.ireturn, 1) := by decide +kernel
theorem dX9_isPaidBy_0 : decode cX9_isPaidBy 0 = .ok (.aload_n 0, 1) := by decide +kernel
theorem dX9_isPaidBy_1 : decode cX9_isPaidBy 1 = .ok (.invokevirtual 13, 3) := by decide +kernel
theorem dX9_isPaidBy_4 : decode cX9_isPaidBy 4 = .ok (.ifCond .eq 15, 3) := by decide +kernel
theorem dX9_isPaidBy_7 : decode cX9_isPaidBy 7 = .ok (.aload_n 0, 1) := by decide +kernel
theorem dX9_isPaidBy_8 : decode cX9_isPaidBy 8 = .ok (.getfield 9, 3) := by decide +kernel
theorem dX9_isPaidBy_11 : decode cX9_isPaidBy 11 = .ok (.iload_n 1, 1) := by decide +kernel
theorem dX9_isPaidBy_12 : decode cX9_isPaidBy 12 = .ok (.if_icmp .gt 7, 3) := by decide +kernel
theorem dX9_isPaidBy_15 : decode cX9_isPaidBy 15 = .ok (.iconst 1, 1) := by decide +kernel
theorem dX9_isPaidBy_16 : decode cX9_isPaidBy 16 = .ok (.goto 4, 3) := by decide +kernel
theorem dX9_isPaidBy_19 : decode cX9_isPaidBy 19 = .ok (.iconst 0, 1) := by decide +kernel
theorem dX9_isPaidBy_20 : decode cX9_isPaidBy 20 = .ok (.ireturn, 1) := by decide +kernel
theorem dX10_init_0 : decode cX10_init 0 = .ok (.aload_n 0, 1) := by decide +kernel
theorem dX10_init_1 : decode cX10_init 1 = .ok (.invokespecial 3, 3) := by decide +kernel
theorem dX10_init_4 : decode cX10_init 4 = .ok (.aload_n 0, 1) := by decide +kernel
theorem dX10_init_5 : decode cX10_init 5 = .ok (.bipush 64, 2) := by decide +kernel
theorem dX10_init_7 : decode cX10_init 7 = .ok (.newarray .int, 2) := by decide +kernel
theorem dX10_init_9 : decode cX10_init 9 = .ok (.putfield 9, 3) := by decide +kernel
theorem dX10_init_12 : decode cX10_init 12 = .ok (.aload_n 0, 1) := by decide +kernel
theorem dX10_init_13 : decode cX10_init 13 = .ok (.bipush 64, 2) := by decide +kernel
theorem dX10_init_15 : decode cX10_init 15 = .ok (.newarray .boolean, 2) := by decide +kernel
theorem dX10_init_17 : decode cX10_init 17 = .ok (.putfield 15, 3) := by decide +kernel
theorem dX10_init_20 : decode cX10_init 20 = .ok (.return_, 1) := by decide +kernel
theorem dX10_clear_0 : decode cX10_clear 0 = .ok (.aload_n 0, 1) := by decide +kernel
theorem dX10_clear_1 : decode cX10_clear 1 = .ok (.iconst 0, 1) := by decide +kernel
theorem dX10_clear_2 : decode cX10_clear 2 = .ok (.putfield 19, 3) := by decide +kernel
theorem dX10_clear_5 : decode cX10_clear 5 = .ok (.iconst 0, 1) := by decide +kernel
theorem dX10_clear_6 : decode cX10_clear 6 = .ok (.istore_n 1, 1) := by decide +kernel
theorem dX10_clear_7 : decode cX10_clear 7 = .ok (.iload_n 1, 1) := by decide +kernel
theorem dX10_clear_8 : decode cX10_clear 8 = .ok (.bipush 64, 2) := by decide +kernel
theorem dX10_clear_10 : decode cX10_clear 10 = .ok (.if_icmp .ge 23, 3) := by decide +kernel
theorem dX10_clear_13 : decode cX10_clear 13 = .ok (.aload_n 0, 1) := by decide +kernel
theorem dX10_clear_14 : decode cX10_clear 14 = .ok (.getfield 9, 3) := by decide +kernel
theorem dX10_clear_17 : decode cX10_clear 17 = .ok (.iload_n 1, 1) := by decide +kernel
theorem dX10_clear_18 : decode cX10_clear 18 = .ok (.iconst 0, 1) := by decide +kernel
theorem dX10_clear_19 : decode cX10_clear 19 = .ok (.iastore, 1) := by decide +kernel
theorem dX10_clear_20 : decode cX10_clear 20 = .ok (.aload_n 0, 1) := by decide +kernel
theorem dX10_clear_21 : decode cX10_clear 21 = .ok (.getfield 15, 3) := by decide +kernel
theorem dX10_clear_24 : decode cX10_clear 24 = .ok (.iload_n 1, 1) := by decide +kernel
theorem dX10_clear_25 : decode cX10_clear 25 = .ok (.iconst 0, 1) := by decide +kernel
theorem dX10_clear_26 : decode cX10_clear 26 = .ok (.bastore, 1) := by decide +kernel
theorem dX10_clear_27 : decode cX10_clear 27 = .ok (.iinc 1 1, 3) := by decide +kernel
theorem dX10_clear_30 : decode cX10_clear 30 = .ok (.goto (-23), 3) := by decide +kernel
theorem dX10_clear_33 : decode cX10_clear 33 = .ok (.return_, 1) := by decide +kernel
theorem dX10_addNumber_0 : decode cX10_addNumber 0 = .ok (.aload_n 0, 1) := by decide +kernel
theorem dX10_addNumber_1 : decode cX10_addNumber 1 = .ok (.dup, 1) := by decide +kernel
theorem dX10_addNumber_2 : decode cX10_addNumber 2 = .ok (.getfield 19, 3) := by decide +kernel
theorem dX10_addNumber_5 : decode cX10_addNumber 5 = .ok (.iconst 1, 1) := by decide +kernel
theorem dX10_addNumber_6 : decode cX10_addNumber 6 = .ok (.iadd, 1) := by decide +kernel
theorem dX10_addNumber_7 : decode cX10_addNumber 7 = .ok (.putfield 19, 3) := by decide +kernel
theorem dX10_addNumber_10 : decode cX10_addNumber 10 = .ok (.iconst 0, 1) := by decide +kernel
theorem dX10_addNumber_11 : decode cX10_addNumber 11 = .ok (.istore_n 3, 1) := by decide +kernel
theorem dX10_addNumber_12 : decode cX10_addNumber 12 = .ok (.iload_n 3, 1) := by decide +kernel
theorem dX10_addNumber_13 : decode cX10_addNumber 13 = .ok (.bipush 64, 2) := by decide +kernel
theorem dX10_addNumber_15 : decode cX10_addNumber 15 = .ok (.if_icmp .ge 26, 3) := by decide +kernel
theorem dX10_addNumber_18 : decode cX10_addNumber 18 = .ok (.iload_n 3, 1) := by decide +kernel
theorem dX10_addNumber_19 : decode cX10_addNumber 19 = .ok (.iload_n 1, 1) := by decide +kernel
theorem dX10_addNumber_20 : decode cX10_addNumber 20 = .ok (.iand, 1) := by decide +kernel
theorem dX10_addNumber_21 : decode cX10_addNumber 21 = .ok (.iload_n 1, 1) := by decide +kernel
theorem dX10_addNumber_22 : decode cX10_addNumber 22 = .ok (.if_icmp .ne 13, 3) := by decide +kernel
theorem dX10_addNumber_25 : decode cX10_addNumber 25 = .ok (.aload_n 0, 1) := by decide +kernel
theorem dX10_addNumber_26 : decode cX10_addNumber 26 = .ok (.getfield 9, 3) := by decide +kernel
theorem dX10_addNumber_29 : decode cX10_addNumber 29 = .ok (.iload_n 3, 1) := by decide +kernel
theorem dX10_addNumber_30 : decode cX10_addNumber 30 = .ok (.dup2, 1) := by decide +kernel
theorem dX10_addNumber_31 : decode cX10_addNumber 31 = .ok (.iaload, 1) := by decide +kernel
theorem dX10_addNumber_32 : decode cX10_addNumber 32 = .ok (.iload_n 2, 1) := by decide +kernel
theorem dX10_addNumber_33 : decode cX10_addNumber 33 = .ok (.iadd, 1) := by decide +kernel
theorem dX10_addNumber_34 : decode cX10_addNumber 34 = .ok (.iastore, 1) := by decide +kernel
theorem dX10_addNumber_35 : decode cX10_addNumber 35 = .ok (.iinc 3 1, 3) := by decide +kernel
theorem dX10_addNumber_38 : decode cX10_addNumber 38 = .ok (.goto (-26), 3) := by decide +kernel
theorem dX10_addNumber_41 : decode cX10_addNumber 41 = .ok (.return_, 1) := by decide +kernel
theorem dX10_addBar_0 : decode cX10_addBar 0 = .ok (.aload_n 0, 1) := by decide +kernel
theorem dX10_addBar_1 : decode cX10_addBar 1 = .ok (.dup, 1) := by decide +kernel
theorem dX10_addBar_2 : decode cX10_addBar 2 = .ok (.getfield 19, 3) := by decide +kernel
theorem dX10_addBar_5 : decode cX10_addBar 5 = .ok (.iconst 1, 1) := by decide +kernel
theorem dX10_addBar_6 : decode cX10_addBar 6 = .ok (.iadd, 1) := by decide +kernel
theorem dX10_addBar_7 : decode cX10_addBar 7 = .ok (.putfield 19, 3) := by decide +kernel
theorem dX10_addBar_10 : decode cX10_addBar 10 = .ok (.iconst 0, 1) := by decide +kernel
theorem dX10_addBar_11 : decode cX10_addBar 11 = .ok (.istore_n 2, 1) := by decide +kernel
theorem dX10_addBar_12 : decode cX10_addBar 12 = .ok (.iload_n 2, 1) := by decide +kernel
theorem dX10_addBar_13 : decode cX10_addBar 13 = .ok (.bipush 64, 2) := by decide +kernel
theorem dX10_addBar_15 : decode cX10_addBar 15 = .ok (.if_icmp .ge 23, 3) := by decide +kernel
theorem dX10_addBar_18 : decode cX10_addBar 18 = .ok (.iload_n 2, 1) := by decide +kernel
theorem dX10_addBar_19 : decode cX10_addBar 19 = .ok (.iload_n 1, 1) := by decide +kernel
theorem dX10_addBar_20 : decode cX10_addBar 20 = .ok (.iand, 1) := by decide +kernel
theorem dX10_addBar_21 : decode cX10_addBar 21 = .ok (.iload_n 1, 1) := by decide +kernel
theorem dX10_addBar_22 : decode cX10_addBar 22 = .ok (.if_icmp .ne 10, 3) := by decide +kernel
theorem dX10_addBar_25 : decode cX10_addBar 25 = .ok (.aload_n 0, 1) := by decide +kernel
theorem dX10_addBar_26 : decode cX10_addBar 26 = .ok (.getfield 15, 3) := by decide +kernel
theorem dX10_addBar_29 : decode cX10_addBar 29 = .ok (.iload_n 2, 1) := by decide +kernel
theorem dX10_addBar_30 : decode cX10_addBar 30 = .ok (.iconst 1, 1) := by decide +kernel
theorem dX10_addBar_31 : decode cX10_addBar 31 = .ok (.bastore, 1) := by decide +kernel
theorem dX10_addBar_32 : decode cX10_addBar 32 = .ok (.iinc 2 1, 3) := by decide +kernel
theorem dX10_addBar_35 : decode cX10_addBar 35 = .ok (.goto (-23), 3) := by decide +kernel
theorem dX10_addBar_38 : decode cX10_addBar 38 = .ok (.return_, 1) := by decide +kernel
theorem dX10_become_0 : decode cX10_become 0 = .ok (.aload_n 0, 1) := by decide +kernel
theorem dX10_become_1 : decode cX10_become 1 = .ok (.aload_n 1, 1) := by decide +kernel
theorem dX10_become_2 : decode cX10_become 2 = .ok (.getfield 19, 3) := by decide +kernel
theorem dX10_become_5 : decode cX10_become 5 = .ok (.putfield 19, 3) := by decide +kernel
theorem dX10_become_8 : decode cX10_become 8 = .ok (.iconst 0, 1) := by decide +kernel
theorem dX10_become_9 : decode cX10_become 9 = .ok (.istore_n 2, 1) := by decide +kernel
theorem dX10_become_10 : decode cX10_become 10 = .ok (.iload_n 2, 1) := by decide +kernel
theorem dX10_become_11 : decode cX10_become 11 = .ok (.bipush 64, 2) := by decide +kernel
theorem dX10_become_13 : decode cX10_become 13 = .ok (.if_icmp .ge 33, 3) := by decide +kernel
theorem dX10_become_16 : decode cX10_become 16 = .ok (.aload_n 0, 1) := by decide +kernel
theorem dX10_become_17 : decode cX10_become 17 = .ok (.getfield 9, 3) := by decide +kernel
theorem dX10_become_20 : decode cX10_become 20 = .ok (.iload_n 2, 1) := by decide +kernel
theorem dX10_become_21 : decode cX10_become 21 = .ok (.aload_n 1, 1) := by decide +kernel
theorem dX10_become_22 : decode cX10_become 22 = .ok (.getfield 9, 3) := by decide +kernel
theorem dX10_become_25 : decode cX10_become 25 = .ok (.iload_n 2, 1) := by decide +kernel
theorem dX10_become_26 : decode cX10_become 26 = .ok (.iaload, 1) := by decide +kernel
theorem dX10_become_27 : decode cX10_become 27 = .ok (.iastore, 1) := by decide +kernel
theorem dX10_become_28 : decode cX10_become 28 = .ok (.aload_n 0, 1) := by decide +kernel
theorem dX10_become_29 : decode cX10_become 29 = .ok (.getfield 15, 3) := by decide +kernel
theorem dX10_become_32 : decode cX10_become 32 = .ok (.iload_n 2, 1) := by decide +kernel
theorem dX10_become_33 : decode cX10_become 33 = .ok (.aload_n 1, 1) := by decide +kernel
theorem dX10_become_34 : decode cX10_become 34 = .ok (.getfield 15, 3) := by decide +kernel
theorem dX10_become_37 : decode cX10_become 37 = .ok (.iload_n 2, 1) := by decide +kernel
theorem dX10_become_38 : decode cX10_become 38 = .ok (.baload, 1) := by decide +kernel
theorem dX10_become_39 : decode cX10_become 39 = .ok (.bastore, 1) := by decide +kernel
theorem dX10_become_40 : decode cX10_become 40 = .ok (.iinc 2 1, 3) := by decide +kernel
theorem dX10_become_43 : decode cX10_become 43 = .ok (.goto (-33), 3) := by decide +kernel
theorem dX10_become_46 : decode cX10_become 46 = .ok (.return_, 1) := by decide +kernel
theorem dX10_tellAlone_0 : decode cX10_tellAlone 0 = .ok (.aload_n 0, 1) := by decide +kernel
theorem dX10_tellAlone_1 : decode cX10_tellAlone 1 = .ok (.invokevirtual 23, 3) := by decide +kernel
theorem dX10_tellAlone_4 : decode cX10_tellAlone 4 = .ok (.iload_n 2, 1) := by decide +kernel
theorem dX10_tellAlone_5 : decode cX10_tellAlone 5 = .ok (.ifCond .lt 12, 3) := by decide +kernel
theorem dX10_tellAlone_8 : decode cX10_tellAlone 8 = .ok (.iload_n 2, 1) := by decide +kernel
theorem dX10_tellAlone_9 : decode cX10_tellAlone 9 = .ok (.aload_n 1, 1) := by decide +kernel
theorem dX10_tellAlone_10 : decode cX10_tellAlone 10 = .ok (.arraylength, 1) := by decide +kernel
theorem dX10_tellAlone_11 : decode cX10_tellAlone 11 = .ok (.bipush 6, 2) := by decide +kernel
theorem dX10_tellAlone_13 : decode cX10_tellAlone 13 = .ok (.isub, 1) := by decide +kernel
theorem dX10_tellAlone_14 : decode cX10_tellAlone 14 = .ok (.if_icmp .le 4, 3) := by decide +kernel
theorem dX10_tellAlone_17 : decode cX10_tellAlone 17 = .ok (.return_, 1) := by decide +kernel
theorem dX10_tellAlone_18 : decode cX10_tellAlone 18 = .ok (.aload_n 0, 1) := by decide +kernel
theorem dX10_tellAlone_19 : decode cX10_tellAlone 19 = .ok (.bipush 6, 2) := by decide +kernel
theorem dX10_tellAlone_21 : decode cX10_tellAlone 21 = .ok (.putfield 19, 3) := by decide +kernel
theorem dX10_tellAlone_24 : decode cX10_tellAlone 24 = .ok (.iconst 1, 1) := by decide +kernel
theorem dX10_tellAlone_25 : decode cX10_tellAlone 25 = .ok (.istore_n 3, 1) := by decide +kernel
theorem dX10_tellAlone_26 : decode cX10_tellAlone 26 = .ok (.iload_n 3, 1) := by decide +kernel
theorem dX10_tellAlone_27 : decode cX10_tellAlone 27 = .ok (.bipush 64, 2) := by decide +kernel
theorem dX10_tellAlone_29 : decode cX10_tellAlone 29 = .ok (.if_icmp .ge 38, 3) := by decide +kernel
theorem dX10_tellAlone_32 : decode cX10_tellAlone 32 = .ok (.iload_n 3, 1) := by decide +kernel
theorem dX10_tellAlone_33 : decode cX10_tellAlone 33 = .ok (.invokestatic 26, 3) := by decide +kernel
theorem dX10_tellAlone_36 : decode cX10_tellAlone 36 = .ok (.istore 4, 2) := by decide +kernel
theorem dX10_tellAlone_38 : decode cX10_tellAlone 38 = .ok (.aload_n 0, 1) := by decide +kernel
theorem dX10_tellAlone_39 : decode cX10_tellAlone 39 = .ok (.getfield 9, 3) := by decide +kernel
theorem dX10_tellAlone_42 : decode cX10_tellAlone 42 = .ok (.iload_n 3, 1) := by decide +kernel
theorem dX10_tellAlone_43 : decode cX10_tellAlone 43 = .ok (.aload_n 0, 1) := by decide +kernel
theorem dX10_tellAlone_44 : decode cX10_tellAlone 44 = .ok (.getfield 9, 3) := by decide +kernel
theorem dX10_tellAlone_47 : decode cX10_tellAlone 47 = .ok (.iload_n 3, 1) := by decide +kernel
theorem dX10_tellAlone_48 : decode cX10_tellAlone 48 = .ok (.iload_n 3, 1) := by decide +kernel
theorem dX10_tellAlone_49 : decode cX10_tellAlone 49 = .ok (.iconst 1, 1) := by decide +kernel
theorem dX10_tellAlone_50 : decode cX10_tellAlone 50 = .ok (.isub, 1) := by decide +kernel
theorem dX10_tellAlone_51 : decode cX10_tellAlone 51 = .ok (.iand, 1) := by decide +kernel
theorem dX10_tellAlone_52 : decode cX10_tellAlone 52 = .ok (.iaload, 1) := by decide +kernel
theorem dX10_tellAlone_53 : decode cX10_tellAlone 53 = .ok (.aload_n 1, 1) := by decide +kernel
theorem dX10_tellAlone_54 : decode cX10_tellAlone 54 = .ok (.iload_n 2, 1) := by decide +kernel
theorem dX10_tellAlone_55 : decode cX10_tellAlone 55 = .ok (.iload 4, 2) := by decide +kernel
theorem dX10_tellAlone_57 : decode cX10_tellAlone 57 = .ok (.iadd, 1) := by decide +kernel
theorem dX10_tellAlone_58 : decode cX10_tellAlone 58 = .ok (.iaload, 1) := by decide +kernel
theorem dX10_tellAlone_59 : decode cX10_tellAlone 59 = .ok (.iadd, 1) := by decide +kernel
theorem dX10_tellAlone_60 : decode cX10_tellAlone 60 = .ok (.iastore, 1) := by decide +kernel
theorem dX10_tellAlone_61 : decode cX10_tellAlone 61 = .ok (.iinc 3 1, 3) := by decide +kernel
theorem dX10_tellAlone_64 : decode cX10_tellAlone 64 = .ok (.goto (-38), 3) := by decide +kernel
theorem dX10_tellAlone_67 : decode cX10_tellAlone 67 = .ok (.return_, 1) := by decide +kernel
theorem dX11_init_0 : decode cX11_init 0 = .ok (.aload_n 0, 1) := by decide +kernel
theorem dX11_init_1 : decode cX11_init 1 = .ok (.invokespecial 3, 3) := by decide +kernel
theorem dX11_init_4 : decode cX11_init 4 = .ok (.aload_n 0, 1) := by decide +kernel
theorem dX11_init_5 : decode cX11_init 5 = .ok (.iconst 4, 1) := by decide +kernel
theorem dX11_init_6 : decode cX11_init 6 = .ok (.anewarray 9, 3) := by decide +kernel
theorem dX11_init_9 : decode cX11_init 9 = .ok (.putfield 11, 3) := by decide +kernel
theorem dX11_init_12 : decode cX11_init 12 = .ok (.aload_n 0, 1) := by decide +kernel
theorem dX11_init_13 : decode cX11_init 13 = .ok (.new 15, 3) := by decide +kernel
theorem dX11_init_16 : decode cX11_init 16 = .ok (.dup, 1) := by decide +kernel
theorem dX11_init_17 : decode cX11_init 17 = .ok (.invokespecial 17, 3) := by decide +kernel
theorem dX11_init_20 : decode cX11_init 20 = .ok (.putfield 18, 3) := by decide +kernel
theorem dX11_init_23 : decode cX11_init 23 = .ok (.aload_n 0, 1) := by decide +kernel
theorem dX11_init_24 : decode cX11_init 24 = .ok (.new 22, 3) := by decide +kernel
theorem dX11_init_27 : decode cX11_init 27 = .ok (.dup, 1) := by decide +kernel
theorem dX11_init_28 : decode cX11_init 28 = .ok (.invokespecial 24, 3) := by decide +kernel
theorem dX11_init_31 : decode cX11_init 31 = .ok (.putfield 25, 3) := by decide +kernel
theorem dX11_init_34 : decode cX11_init 34 = .ok (.aload_n 0, 1) := by decide +kernel
theorem dX11_init_35 : decode cX11_init 35 = .ok (.new 22, 3) := by decide +kernel
theorem dX11_init_38 : decode cX11_init 38 = .ok (.dup, 1) := by decide +kernel
theorem dX11_init_39 : decode cX11_init 39 = .ok (.invokespecial 24, 3) := by decide +kernel
theorem dX11_init_42 : decode cX11_init 42 = .ok (.putfield 29, 3) := by decide +kernel
theorem dX11_init_45 : decode cX11_init 45 = .ok (.aload_n 0, 1) := by decide +kernel
theorem dX11_init_46 : decode cX11_init 46 = .ok (.bipush 6, 2) := by decide +kernel
theorem dX11_init_48 : decode cX11_init 48 = .ok (.newarray .int, 2) := by decide +kernel
theorem dX11_init_50 : decode cX11_init 50 = .ok (.putfield 32, 3) := by decide +kernel
theorem dX11_init_53 : decode cX11_init 53 = .ok (.aload_n 0, 1) := by decide +kernel
theorem dX11_init_54 : decode cX11_init 54 = .ok (.new 36, 3) := by decide +kernel
theorem dX11_init_57 : decode cX11_init 57 = .ok (.dup, 1) := by decide +kernel
theorem dX11_init_58 : decode cX11_init 58 = .ok (.invokespecial 38, 3) := by decide +kernel
theorem dX11_init_61 : decode cX11_init 61 = .ok (.putfield 39, 3) := by decide +kernel
theorem dX11_init_64 : decode cX11_init 64 = .ok (.aload_n 0, 1) := by decide +kernel
theorem dX11_init_65 : decode cX11_init 65 = .ok (.new 43, 3) := by decide +kernel
theorem dX11_init_68 : decode cX11_init 68 = .ok (.dup, 1) := by decide +kernel
theorem dX11_init_69 : decode cX11_init 69 = .ok (.invokespecial 45, 3) := by decide +kernel
theorem dX11_init_72 : decode cX11_init 72 = .ok (.putfield 46, 3) := by decide +kernel
theorem dX11_init_75 : decode cX11_init 75 = .ok (.aload_n 0, 1) := by decide +kernel
theorem dX11_init_76 : decode cX11_init 76 = .ok (.new 50, 3) := by decide +kernel
theorem dX11_init_79 : decode cX11_init 79 = .ok (.dup, 1) := by decide +kernel
theorem dX11_init_80 : decode cX11_init 80 = .ok (.invokespecial 52, 3) := by decide +kernel
theorem dX11_init_83 : decode cX11_init 83 = .ok (.putfield 53, 3) := by decide +kernel
theorem dX11_init_86 : decode cX11_init 86 = .ok (.aload_n 0, 1) := by decide +kernel
theorem dX11_init_87 : decode cX11_init 87 = .ok (.new 57, 3) := by decide +kernel
theorem dX11_init_90 : decode cX11_init 90 = .ok (.dup, 1) := by decide +kernel
theorem dX11_init_91 : decode cX11_init 91 = .ok (.invokespecial 59, 3) := by decide +kernel
theorem dX11_init_94 : decode cX11_init 94 = .ok (.putfield 60, 3) := by decide +kernel
theorem dX11_init_97 : decode cX11_init 97 = .ok (.aload_n 0, 1) := by decide +kernel
theorem dX11_init_98 : decode cX11_init 98 = .ok (.iconst 4, 1) := by decide +kernel
theorem dX11_init_99 : decode cX11_init 99 = .ok (.anewarray 64, 3) := by decide +kernel
theorem dX11_init_102 : decode cX11_init 102 = .ok (.putfield 66, 3) := by decide +kernel
theorem dX11_init_105 : decode cX11_init 105 = .ok (.iconst 0, 1) := by decide +kernel
theorem dX11_init_106 : decode cX11_init 106 = .ok (.istore_n 1, 1) := by decide +kernel
theorem dX11_init_107 : decode cX11_init 107 = .ok (.iload_n 1, 1) := by decide +kernel
theorem dX11_init_108 : decode cX11_init 108 = .ok (.iconst 4, 1) := by decide +kernel
theorem dX11_init_109 : decode cX11_init 109 = .ok (.if_icmp .ge 22, 3) := by decide +kernel
theorem dX11_init_112 : decode cX11_init 112 = .ok (.aload_n 0, 1) := by decide +kernel
theorem dX11_init_113 : decode cX11_init 113 = .ok (.getfield 11, 3) := by decide +kernel
theorem dX11_init_116 : decode cX11_init 116 = .ok (.iload_n 1, 1) := by decide +kernel
theorem dX11_init_117 : decode cX11_init 117 = .ok (.new 9, 3) := by decide +kernel
theorem dX11_init_120 : decode cX11_init 120 = .ok (.dup, 1) := by decide +kernel
theorem dX11_init_121 : decode cX11_init 121 = .ok (.invokespecial 70, 3) := by decide +kernel
theorem dX11_init_124 : decode cX11_init 124 = .ok (.aastore, 1) := by decide +kernel
theorem dX11_init_125 : decode cX11_init 125 = .ok (.iinc 1 1, 3) := by decide +kernel
theorem dX11_init_128 : decode cX11_init 128 = .ok (.goto (-21), 3) := by decide +kernel
theorem dX11_init_131 : decode cX11_init 131 = .ok (.aload_n 0, 1) := by decide +kernel
theorem dX11_init_132 : decode cX11_init 132 = .ok (.getfield 11, 3) := by decide +kernel
theorem dX11_init_135 : decode cX11_init 135 = .ok (.iconst 0, 1) := by decide +kernel
theorem dX11_init_136 : decode cX11_init 136 = .ok (.aaload, 1) := by decide +kernel
theorem dX11_init_137 : decode cX11_init 137 = .ok (.bipush 63, 2) := by decide +kernel
theorem dX11_init_139 : decode cX11_init 139 = .ok (.putfield 71, 3) := by decide +kernel
theorem dX11_init_142 : decode cX11_init 142 = .ok (.aload_n 0, 1) := by decide +kernel
theorem dX11_init_143 : decode cX11_init 143 = .ok (.new 75, 3) := by decide +kernel
theorem dX11_init_146 : decode cX11_init 146 = .ok (.dup, 1) := by decide +kernel
theorem dX11_init_147 : decode cX11_init 147 = .ok (.aload_n 0, 1) := by decide +kernel
theorem dX11_init_148 : decode cX11_init 148 = .ok (.getfield 11, 3) := by decide +kernel
theorem dX11_init_151 : decode cX11_init 151 = .ok (.iconst 0, 1) := by decide +kernel
theorem dX11_init_152 : decode cX11_init 152 = .ok (.aaload, 1) := by decide +kernel
theorem dX11_init_153 : decode cX11_init 153 = .ok (.aload_n 0, 1) := by decide +kernel
theorem dX11_init_154 : decode cX11_init 154 = .ok (.getfield 11, 3) := by decide +kernel
theorem dX11_init_157 : decode cX11_init 157 = .ok (.iconst 1, 1) := by decide +kernel
theorem dX11_init_158 : decode cX11_init 158 = .ok (.aaload, 1) := by decide +kernel
theorem dX11_init_159 : decode cX11_init 159 = .ok (.invokespecial 77, 3) := by decide +kernel
theorem dX11_init_162 : decode cX11_init 162 = .ok (.putfield 80, 3) := by decide +kernel
theorem dX11_init_165 : decode cX11_init 165 = .ok (.aload_n 0, 1) := by decide +kernel
theorem dX11_init_166 : decode cX11_init 166 = .ok (.new 75, 3) := by decide +kernel
theorem dX11_init_169 : decode cX11_init 169 = .ok (.dup, 1) := by decide +kernel
theorem dX11_init_170 : decode cX11_init 170 = .ok (.aload_n 0, 1) := by decide +kernel
theorem dX11_init_171 : decode cX11_init 171 = .ok (.getfield 11, 3) := by decide +kernel
theorem dX11_init_174 : decode cX11_init 174 = .ok (.iconst 0, 1) := by decide +kernel
theorem dX11_init_175 : decode cX11_init 175 = .ok (.aaload, 1) := by decide +kernel
theorem dX11_init_176 : decode cX11_init 176 = .ok (.aload_n 0, 1) := by decide +kernel
theorem dX11_init_177 : decode cX11_init 177 = .ok (.getfield 11, 3) := by decide +kernel
theorem dX11_init_180 : decode cX11_init 180 = .ok (.iconst 1, 1) := by decide +kernel
theorem dX11_init_181 : decode cX11_init 181 = .ok (.aaload, 1) := by decide +kernel
theorem dX11_init_182 : decode cX11_init 182 = .ok (.invokespecial 77, 3) := by decide +kernel
theorem dX11_init_185 : decode cX11_init 185 = .ok (.putfield 84, 3) := by decide +kernel
theorem dX11_init_188 : decode cX11_init 188 = .ok (.aload_n 0, 1) := by decide +kernel
theorem dX11_init_189 : decode cX11_init 189 = .ok (.new 87, 3) := by decide +kernel
theorem dX11_init_192 : decode cX11_init 192 = .ok (.dup, 1) := by decide +kernel
theorem dX11_init_193 : decode cX11_init 193 = .ok (.new 75, 3) := by decide +kernel
theorem dX11_init_196 : decode cX11_init 196 = .ok (.dup, 1) := by decide +kernel
theorem dX11_init_197 : decode cX11_init 197 = .ok (.aload_n 0, 1) := by decide +kernel
theorem dX11_init_198 : decode cX11_init 198 = .ok (.getfield 11, 3) := by decide +kernel
theorem dX11_init_201 : decode cX11_init 201 = .ok (.iconst 0, 1) := by decide +kernel
theorem dX11_init_202 : decode cX11_init 202 = .ok (.aaload, 1) := by decide +kernel
theorem dX11_init_203 : decode cX11_init 203 = .ok (.aload_n 0, 1) := by decide +kernel
theorem dX11_init_204 : decode cX11_init 204 = .ok (.getfield 11, 3) := by decide +kernel
theorem dX11_init_207 : decode cX11_init 207 = .ok (.iconst 1, 1) := by decide +kernel
theorem dX11_init_208 : decode cX11_init 208 = .ok (.aaload, 1) := by decide +kernel
theorem dX11_init_209 : decode cX11_init 209 = .ok (.invokespecial 77, 3) := by decide +kernel
theorem dX11_init_212 : decode cX11_init 212 = .ok (.invokespecial 89, 3) := by decide +kernel
theorem dX11_init_215 : decode cX11_init 215 = .ok (.putfield 92, 3) := by decide +kernel
theorem dX11_init_218 : decode cX11_init 218 = .ok (.iconst 0, 1) := by decide +kernel
theorem dX11_init_219 : decode cX11_init 219 = .ok (.istore_n 1, 1) := by decide +kernel
theorem dX11_init_220 : decode cX11_init 220 = .ok (.iload_n 1, 1) := by decide +kernel
theorem dX11_init_221 : decode cX11_init 221 = .ok (.iconst 4, 1) := by decide +kernel
theorem dX11_init_222 : decode cX11_init 222 = .ok (.if_icmp .ge 22, 3) := by decide +kernel
theorem dX11_init_225 : decode cX11_init 225 = .ok (.aload_n 0, 1) := by decide +kernel
theorem dX11_init_226 : decode cX11_init 226 = .ok (.getfield 66, 3) := by decide +kernel
theorem dX11_init_229 : decode cX11_init 229 = .ok (.iload_n 1, 1) := by decide +kernel
theorem dX11_init_230 : decode cX11_init 230 = .ok (.new 64, 3) := by decide +kernel
theorem dX11_init_233 : decode cX11_init 233 = .ok (.dup, 1) := by decide +kernel
theorem dX11_init_234 : decode cX11_init 234 = .ok (.invokespecial 96, 3) := by decide +kernel
theorem dX11_init_237 : decode cX11_init 237 = .ok (.aastore, 1) := by decide +kernel
theorem dX11_init_238 : decode cX11_init 238 = .ok (.iinc 1 1, 3) := by decide +kernel
theorem dX11_init_241 : decode cX11_init 241 = .ok (.goto (-21), 3) := by decide +kernel
theorem dX11_init_244 : decode cX11_init 244 = .ok (.return_, 1) := by decide +kernel
theorem dX11_own_0 : decode cX11_own 0 = .ok (.iload_n 1, 1) := by decide +kernel
theorem dX11_own_1 : decode cX11_own 1 = .ok (.invokestatic 97, 3) := by decide +kernel
theorem dX11_own_4 : decode cX11_own 4 = .ok (.ifCond .eq 10, 3) := by decide +kernel
theorem dX11_own_7 : decode cX11_own 7 = .ok (.iload_n 2, 1) := by decide +kernel
theorem dX11_own_8 : decode cX11_own 8 = .ok (.invokestatic 101, 3) := by decide +kernel
theorem dX11_own_11 : decode cX11_own 11 = .ok (.ifCond .ne 5, 3) := by decide +kernel
theorem dX11_own_14 : decode cX11_own 14 = .ok (.iconst (-1), 1) := by decide +kernel
theorem dX11_own_15 : decode cX11_own 15 = .ok (.ireturn, 1) := by decide +kernel
theorem dX11_own_16 : decode cX11_own 16 = .ok (.aload_n 0, 1) := by decide +kernel
theorem dX11_own_17 : decode cX11_own 17 = .ok (.getfield 92, 3) := by decide +kernel
theorem dX11_own_20 : decode cX11_own 20 = .ok (.invokevirtual 104, 3) := by decide +kernel
theorem dX11_own_23 : decode cX11_own 23 = .ok (.ifCond .eq 6, 3) := by decide +kernel
theorem dX11_own_26 : decode cX11_own 26 = .ok (.bipush (-2), 2) := by decide +kernel
theorem dX11_own_28 : decode cX11_own 28 = .ok (.ireturn, 1) := by decide +kernel
theorem dX11_own_29 : decode cX11_own 29 = .ok (.aload_n 0, 1) := by decide +kernel
theorem dX11_own_30 : decode cX11_own 30 = .ok (.iload_n 1, 1) := by decide +kernel
theorem dX11_own_31 : decode cX11_own 31 = .ok (.invokevirtual 108, 3) := by decide +kernel
theorem dX11_own_34 : decode cX11_own 34 = .ok (.istore_n 3, 1) := by decide +kernel
theorem dX11_own_35 : decode cX11_own 35 = .ok (.aload_n 0, 1) := by decide +kernel
theorem dX11_own_36 : decode cX11_own 36 = .ok (.getfield 11, 3) := by decide +kernel
theorem dX11_own_39 : decode cX11_own 39 = .ok (.iload_n 3, 1) := by decide +kernel
theorem dX11_own_40 : decode cX11_own 40 = .ok (.aaload, 1) := by decide +kernel
theorem dX11_own_41 : decode cX11_own 41 = .ok (.dup, 1) := by decide +kernel
theorem dX11_own_42 : decode cX11_own 42 = .ok (.getfield 71, 3) := by decide +kernel
theorem dX11_own_45 : decode cX11_own 45 = .ok (.iconst 1, 1) := by decide +kernel
theorem dX11_own_46 : decode cX11_own 46 = .ok (.iload_n 1, 1) := by decide +kernel
theorem dX11_own_47 : decode cX11_own 47 = .ok (.ishl, 1) := by decide +kernel
theorem dX11_own_48 : decode cX11_own 48 = .ok (.iconst (-1), 1) := by decide +kernel
theorem dX11_own_49 : decode cX11_own 49 = .ok (.ixor, 1) := by decide +kernel
theorem dX11_own_50 : decode cX11_own 50 = .ok (.iand, 1) := by decide +kernel
theorem dX11_own_51 : decode cX11_own 51 = .ok (.putfield 71, 3) := by decide +kernel
theorem dX11_own_54 : decode cX11_own 54 = .ok (.aload_n 0, 1) := by decide +kernel
theorem dX11_own_55 : decode cX11_own 55 = .ok (.getfield 11, 3) := by decide +kernel
theorem dX11_own_58 : decode cX11_own 58 = .ok (.iload_n 2, 1) := by decide +kernel
theorem dX11_own_59 : decode cX11_own 59 = .ok (.aaload, 1) := by decide +kernel
theorem dX11_own_60 : decode cX11_own 60 = .ok (.dup, 1) := by decide +kernel
theorem dX11_own_61 : decode cX11_own 61 = .ok (.getfield 71, 3) := by decide +kernel
theorem dX11_own_64 : decode cX11_own 64 = .ok (.iconst 1, 1) := by decide +kernel
theorem dX11_own_65 : decode cX11_own 65 = .ok (.iload_n 1, 1) := by decide +kernel
theorem dX11_own_66 : decode cX11_own 66 = .ok (.ishl, 1) := by decide +kernel
theorem dX11_own_67 : decode cX11_own 67 = .ok (.ior, 1) := by decide +kernel
theorem dX11_own_68 : decode cX11_own 68 = .ok (.putfield 71, 3) := by decide +kernel
theorem dX11_own_71 : decode cX11_own 71 = .ok (.iload_n 3, 1) := by decide +kernel
theorem dX11_own_72 : decode cX11_own 72 = .ok (.ireturn, 1) := by decide +kernel
theorem dX11_coins_0 : decode cX11_coins 0 = .ok (.iload_n 1, 1) := by decide +kernel
theorem dX11_coins_1 : decode cX11_coins 1 = .ok (.invokestatic 101, 3) := by decide +kernel
theorem dX11_coins_4 : decode cX11_coins 4 = .ok (.ifCond .eq 14, 3) := by decide +kernel
theorem dX11_coins_7 : decode cX11_coins 7 = .ok (.iload_n 2, 1) := by decide +kernel
theorem dX11_coins_8 : decode cX11_coins 8 = .ok (.iconst 0, 1) := by decide +kernel
