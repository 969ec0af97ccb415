theorem dX12_keepClause_31 : decode cX12_keepClause 31 = .ok (.iload_n 1, 1) := by decide +kernel
theorem dX12_keepClause_32 : decode cX12_keepClause 32 = .ok (.imul, 1) := by decide +kernel
theorem dX12_keepClause_33 : decode cX12_keepClause 33 = .ok (.iload_n 2, 1) := by decide +kernel
theorem dX12_keepClause_34 : decode cX12_keepClause 34 = .ok (.iadd, 1) := by decide +kernel
theorem dX12_keepClause_35 : decode cX12_keepClause 35 = .ok (.iload 5, 2) := by decide +kernel
theorem dX12_keepClause_37 : decode cX12_keepClause 37 = .ok (.bastore, 1) := by decide +kernel
theorem dX12_keepClause_38 : decode cX12_keepClause 38 = .ok (.aload_n 0, 1) := by decide +kernel
theorem dX12_keepClause_39 : decode cX12_keepClause 39 = .ok (.getfield 25, 3) := by decide +kernel
theorem dX12_keepClause_42 : decode cX12_keepClause 42 = .ok (.iload_n 1, 1) := by decide +kernel
theorem dX12_keepClause_43 : decode cX12_keepClause 43 = .ok (.iload_n 2, 1) := by decide +kernel
theorem dX12_keepClause_44 : decode cX12_keepClause 44 = .ok (.iconst 1, 1) := by decide +kernel
theorem dX12_keepClause_45 : decode cX12_keepClause 45 = .ok (.iadd, 1) := by decide +kernel
theorem dX12_keepClause_46 : decode cX12_keepClause 46 = .ok (.iastore, 1) := by decide +kernel
theorem dX12_keepClause_47 : decode cX12_keepClause 47 = .ok (.return_, 1) := by decide +kernel
theorem dX12_wish_0 : decode cX12_wish 0 = .ok (.iload_n 1, 1) := by decide +kernel
theorem dX12_wish_1 : decode cX12_wish 1 = .ok (.invokestatic 143, 3) := by decide +kernel
theorem dX12_wish_4 : decode cX12_wish 4 = .ok (.ifCond .ne 5, 3) := by decide +kernel
theorem dX12_wish_7 : decode cX12_wish 7 = .ok (.iconst (-1), 1) := by decide +kernel
theorem dX12_wish_8 : decode cX12_wish 8 = .ok (.ireturn, 1) := by decide +kernel
theorem dX12_wish_9 : decode cX12_wish 9 = .ok (.aload_n 0, 1) := by decide +kernel
theorem dX12_wish_10 : decode cX12_wish 10 = .ok (.invokevirtual 147, 3) := by decide +kernel
theorem dX12_wish_13 : decode cX12_wish 13 = .ok (.ifCond .eq 6, 3) := by decide +kernel
theorem dX12_wish_16 : decode cX12_wish 16 = .ok (.bipush (-2), 2) := by decide +kernel
theorem dX12_wish_18 : decode cX12_wish 18 = .ok (.ireturn, 1) := by decide +kernel
theorem dX12_wish_19 : decode cX12_wish 19 = .ok (.aload_n 0, 1) := by decide +kernel
theorem dX12_wish_20 : decode cX12_wish 20 = .ok (.invokevirtual 188, 3) := by decide +kernel
theorem dX12_wish_23 : decode cX12_wish 23 = .ok (.istore_n 2, 1) := by decide +kernel
theorem dX12_wish_24 : decode cX12_wish 24 = .ok (.aload_n 0, 1) := by decide +kernel
theorem dX12_wish_25 : decode cX12_wish 25 = .ok (.iconst 0, 1) := by decide +kernel
theorem dX12_wish_26 : decode cX12_wish 26 = .ok (.putfield 161, 3) := by decide +kernel
theorem dX12_wish_29 : decode cX12_wish 29 = .ok (.iload_n 2, 1) := by decide +kernel
theorem dX12_wish_30 : decode cX12_wish 30 = .ok (.ifCond .ge 16, 3) := by decide +kernel
theorem dX12_wish_33 : decode cX12_wish 33 = .ok (.aload_n 0, 1) := by decide +kernel
theorem dX12_wish_34 : decode cX12_wish 34 = .ok (.invokevirtual 167, 3) := by decide +kernel
theorem dX12_wish_37 : decode cX12_wish 37 = .ok (.pop, 1) := by decide +kernel
theorem dX12_wish_38 : decode cX12_wish 38 = .ok (.bipush (-20), 2) := by decide +kernel
theorem dX12_wish_40 : decode cX12_wish 40 = .ok (.aload_n 0, 1) := by decide +kernel
theorem dX12_wish_41 : decode cX12_wish 41 = .ok (.getfield 164, 3) := by decide +kernel
theorem dX12_wish_44 : decode cX12_wish 44 = .ok (.isub, 1) := by decide +kernel
theorem dX12_wish_45 : decode cX12_wish 45 = .ok (.ireturn, 1) := by decide +kernel
theorem dX12_wish_46 : decode cX12_wish 46 = .ok (.iconst 0, 1) := by decide +kernel
theorem dX12_wish_47 : decode cX12_wish 47 = .ok (.istore_n 3, 1) := by decide +kernel
theorem dX12_wish_48 : decode cX12_wish 48 = .ok (.iload_n 3, 1) := by decide +kernel
theorem dX12_wish_49 : decode cX12_wish 49 = .ok (.iload_n 2, 1) := by decide +kernel
theorem dX12_wish_50 : decode cX12_wish 50 = .ok (.if_icmp .ge 33, 3) := by decide +kernel
theorem dX12_wish_53 : decode cX12_wish 53 = .ok (.aload_n 0, 1) := by decide +kernel
theorem dX12_wish_54 : decode cX12_wish 54 = .ok (.iload_n 1, 1) := by decide +kernel
theorem dX12_wish_55 : decode cX12_wish 55 = .ok (.iload_n 3, 1) := by decide +kernel
theorem dX12_wish_56 : decode cX12_wish 56 = .ok (.aload_n 0, 1) := by decide +kernel
theorem dX12_wish_57 : decode cX12_wish 57 = .ok (.getfield 41, 3) := by decide +kernel
theorem dX12_wish_60 : decode cX12_wish 60 = .ok (.iload_n 3, 1) := by decide +kernel
theorem dX12_wish_61 : decode cX12_wish 61 = .ok (.iaload, 1) := by decide +kernel
theorem dX12_wish_62 : decode cX12_wish 62 = .ok (.aload_n 0, 1) := by decide +kernel
theorem dX12_wish_63 : decode cX12_wish 63 = .ok (.getfield 44, 3) := by decide +kernel
theorem dX12_wish_66 : decode cX12_wish 66 = .ok (.iload_n 3, 1) := by decide +kernel
theorem dX12_wish_67 : decode cX12_wish 67 = .ok (.iaload, 1) := by decide +kernel
theorem dX12_wish_68 : decode cX12_wish 68 = .ok (.aload_n 0, 1) := by decide +kernel
theorem dX12_wish_69 : decode cX12_wish 69 = .ok (.getfield 47, 3) := by decide +kernel
theorem dX12_wish_72 : decode cX12_wish 72 = .ok (.iload_n 3, 1) := by decide +kernel
theorem dX12_wish_73 : decode cX12_wish 73 = .ok (.baload, 1) := by decide +kernel
theorem dX12_wish_74 : decode cX12_wish 74 = .ok (.invokevirtual 191, 3) := by decide +kernel
theorem dX12_wish_77 : decode cX12_wish 77 = .ok (.iinc 3 1, 3) := by decide +kernel
theorem dX12_wish_80 : decode cX12_wish 80 = .ok (.goto (-32), 3) := by decide +kernel
theorem dX12_wish_83 : decode cX12_wish 83 = .ok (.iload_n 2, 1) := by decide +kernel
theorem dX12_wish_84 : decode cX12_wish 84 = .ok (.ireturn, 1) := by decide +kernel
theorem dX12_worthOf_0 : decode cX12_worthOf 0 = .ok (.iconst 0, 1) := by decide +kernel
theorem dX12_worthOf_1 : decode cX12_worthOf 1 = .ok (.istore_n 3, 1) := by decide +kernel
theorem dX12_worthOf_2 : decode cX12_worthOf 2 = .ok (.bipush 12, 2) := by decide +kernel
theorem dX12_worthOf_4 : decode cX12_worthOf 4 = .ok (.iload_n 1, 1) := by decide +kernel
theorem dX12_worthOf_5 : decode cX12_worthOf 5 = .ok (.imul, 1) := by decide +kernel
theorem dX12_worthOf_6 : decode cX12_worthOf 6 = .ok (.istore 4, 2) := by decide +kernel
theorem dX12_worthOf_8 : decode cX12_worthOf 8 = .ok (.iload 4, 2) := by decide +kernel
theorem dX12_worthOf_10 : decode cX12_worthOf 10 = .ok (.bipush 12, 2) := by decide +kernel
theorem dX12_worthOf_12 : decode cX12_worthOf 12 = .ok (.iload_n 1, 1) := by decide +kernel
theorem dX12_worthOf_13 : decode cX12_worthOf 13 = .ok (.imul, 1) := by decide +kernel
theorem dX12_worthOf_14 : decode cX12_worthOf 14 = .ok (.aload_n 0, 1) := by decide +kernel
theorem dX12_worthOf_15 : decode cX12_worthOf 15 = .ok (.getfield 25, 3) := by decide +kernel
theorem dX12_worthOf_18 : decode cX12_worthOf 18 = .ok (.iload_n 1, 1) := by decide +kernel
theorem dX12_worthOf_19 : decode cX12_worthOf 19 = .ok (.iaload, 1) := by decide +kernel
theorem dX12_worthOf_20 : decode cX12_worthOf 20 = .ok (.iadd, 1) := by decide +kernel
theorem dX12_worthOf_21 : decode cX12_worthOf 21 = .ok (.if_icmp .ge 37, 3) := by decide +kernel
theorem dX12_worthOf_24 : decode cX12_worthOf 24 = .ok (.iload_n 3, 1) := by decide +kernel
theorem dX12_worthOf_25 : decode cX12_worthOf 25 = .ok (.aload_n 0, 1) := by decide +kernel
theorem dX12_worthOf_26 : decode cX12_worthOf 26 = .ok (.getfield 28, 3) := by decide +kernel
theorem dX12_worthOf_29 : decode cX12_worthOf 29 = .ok (.iload 4, 2) := by decide +kernel
theorem dX12_worthOf_31 : decode cX12_worthOf 31 = .ok (.iaload, 1) := by decide +kernel
theorem dX12_worthOf_32 : decode cX12_worthOf 32 = .ok (.iload_n 2, 1) := by decide +kernel
theorem dX12_worthOf_33 : decode cX12_worthOf 33 = .ok (.iconst (-1), 1) := by decide +kernel
theorem dX12_worthOf_34 : decode cX12_worthOf 34 = .ok (.ixor, 1) := by decide +kernel
theorem dX12_worthOf_35 : decode cX12_worthOf 35 = .ok (.iand, 1) := by decide +kernel
theorem dX12_worthOf_36 : decode cX12_worthOf 36 = .ok (.ifCond .ne 13, 3) := by decide +kernel
theorem dX12_worthOf_39 : decode cX12_worthOf 39 = .ok (.aload_n 0, 1) := by decide +kernel
theorem dX12_worthOf_40 : decode cX12_worthOf 40 = .ok (.getfield 31, 3) := by decide +kernel
theorem dX12_worthOf_43 : decode cX12_worthOf 43 = .ok (.iload 4, 2) := by decide +kernel
theorem dX12_worthOf_45 : decode cX12_worthOf 45 = .ok (.iaload, 1) := by decide +kernel
theorem dX12_worthOf_46 : decode cX12_worthOf 46 = .ok (.goto 4, 3) := by decide +kernel
theorem dX12_worthOf_49 : decode cX12_worthOf 49 = .ok (.iconst 0, 1) := by decide +kernel
theorem dX12_worthOf_50 : decode cX12_worthOf 50 = .ok (.iadd, 1) := by decide +kernel
theorem dX12_worthOf_51 : decode cX12_worthOf 51 = .ok (.istore_n 3, 1) := by decide +kernel
theorem dX12_worthOf_52 : decode cX12_worthOf 52 = .ok (.iinc 4 1, 3) := by decide +kernel
theorem dX12_worthOf_55 : decode cX12_worthOf 55 = .ok (.goto (-47), 3) := by decide +kernel
theorem dX12_worthOf_58 : decode cX12_worthOf 58 = .ok (.iload_n 3, 1) := by decide +kernel
theorem dX12_worthOf_59 : decode cX12_worthOf 59 = .ok (.ireturn, 1) := by decide +kernel
theorem dX12_isBarred_0 : decode cX12_isBarred 0 = .ok (.iconst 0, 1) := by decide +kernel
theorem dX12_isBarred_1 : decode cX12_isBarred 1 = .ok (.istore_n 3, 1) := by decide +kernel
theorem dX12_isBarred_2 : decode cX12_isBarred 2 = .ok (.bipush 12, 2) := by decide +kernel
theorem dX12_isBarred_4 : decode cX12_isBarred 4 = .ok (.iload_n 1, 1) := by decide +kernel
theorem dX12_isBarred_5 : decode cX12_isBarred 5 = .ok (.imul, 1) := by decide +kernel
theorem dX12_isBarred_6 : decode cX12_isBarred 6 = .ok (.istore 4, 2) := by decide +kernel
theorem dX12_isBarred_8 : decode cX12_isBarred 8 = .ok (.iload 4, 2) := by decide +kernel
theorem dX12_isBarred_10 : decode cX12_isBarred 10 = .ok (.bipush 12, 2) := by decide +kernel
theorem dX12_isBarred_12 : decode cX12_isBarred 12 = .ok (.iload_n 1, 1) := by decide +kernel
theorem dX12_isBarred_13 : decode cX12_isBarred 13 = .ok (.imul, 1) := by decide +kernel
theorem dX12_isBarred_14 : decode cX12_isBarred 14 = .ok (.aload_n 0, 1) := by decide +kernel
theorem dX12_isBarred_15 : decode cX12_isBarred 15 = .ok (.getfield 25, 3) := by decide +kernel
theorem dX12_isBarred_18 : decode cX12_isBarred 18 = .ok (.iload_n 1, 1) := by decide +kernel
theorem dX12_isBarred_19 : decode cX12_isBarred 19 = .ok (.iaload, 1) := by decide +kernel
theorem dX12_isBarred_20 : decode cX12_isBarred 20 = .ok (.iadd, 1) := by decide +kernel
theorem dX12_isBarred_21 : decode cX12_isBarred 21 = .ok (.if_icmp .ge 43, 3) := by decide +kernel
theorem dX12_isBarred_24 : decode cX12_isBarred 24 = .ok (.iload_n 3, 1) := by decide +kernel
theorem dX12_isBarred_25 : decode cX12_isBarred 25 = .ok (.ifCond .ne 27, 3) := by decide +kernel
theorem dX12_isBarred_28 : decode cX12_isBarred 28 = .ok (.aload_n 0, 1) := by decide +kernel
theorem dX12_isBarred_29 : decode cX12_isBarred 29 = .ok (.getfield 34, 3) := by decide +kernel
theorem dX12_isBarred_32 : decode cX12_isBarred 32 = .ok (.iload 4, 2) := by decide +kernel
theorem dX12_isBarred_34 : decode cX12_isBarred 34 = .ok (.baload, 1) := by decide +kernel
theorem dX12_isBarred_35 : decode cX12_isBarred 35 = .ok (.ifCond .eq 21, 3) := by decide +kernel
theorem dX12_isBarred_38 : decode cX12_isBarred 38 = .ok (.aload_n 0, 1) := by decide +kernel
theorem dX12_isBarred_39 : decode cX12_isBarred 39 = .ok (.getfield 28, 3) := by decide +kernel
theorem dX12_isBarred_42 : decode cX12_isBarred 42 = .ok (.iload 4, 2) := by decide +kernel
theorem dX12_isBarred_44 : decode cX12_isBarred 44 = .ok (.iaload, 1) := by decide +kernel
theorem dX12_isBarred_45 : decode cX12_isBarred 45 = .ok (.iload_n 2, 1) := by decide +kernel
theorem dX12_isBarred_46 : decode cX12_isBarred 46 = .ok (.iconst (-1), 1) := by decide +kernel
theorem dX12_isBarred_47 : decode cX12_isBarred 47 = .ok (.ixor, 1) := by decide +kernel
theorem dX12_isBarred_48 : decode cX12_isBarred 48 = .ok (.iand, 1) := by decide +kernel
theorem dX12_isBarred_49 : decode cX12_isBarred 49 = .ok (.ifCond .ne 7, 3) := by decide +kernel
theorem dX12_isBarred_52 : decode cX12_isBarred 52 = .ok (.iconst 1, 1) := by decide +kernel
theorem dX12_isBarred_53 : decode cX12_isBarred 53 = .ok (.goto 4, 3) := by decide +kernel
theorem dX12_isBarred_56 : decode cX12_isBarred 56 = .ok (.iconst 0, 1) := by decide +kernel
theorem dX12_isBarred_57 : decode cX12_isBarred 57 = .ok (.istore_n 3, 1) := by decide +kernel
theorem dX12_isBarred_58 : decode cX12_isBarred 58 = .ok (.iinc 4 1, 3) := by decide +kernel
theorem dX12_isBarred_61 : decode cX12_isBarred 61 = .ok (.goto (-53), 3) := by decide +kernel
theorem dX12_isBarred_64 : decode cX12_isBarred 64 = .ok (.iload_n 3, 1) := by decide +kernel
theorem dX12_isBarred_65 : decode cX12_isBarred 65 = .ok (.ireturn, 1) := by decide +kernel
theorem dX12_isSet_0 : decode cX12_isSet 0 = .ok (.iload_n 0, 1) := by decide +kernel
theorem dX12_isSet_1 : decode cX12_isSet 1 = .ok (.i2l, 1) := by decide +kernel
theorem dX12_isSet_2 : decode cX12_isSet 2 = .ok (.lconst 0, 1) := by decide +kernel
theorem dX12_isSet_3 : decode cX12_isSet 3 = .ok (.ldc2_w 195, 3) := by decide +kernel
theorem dX12_isSet_6 : decode cX12_isSet 6 = .ok (.invokestatic 133, 3) := by decide +kernel
theorem dX12_isSet_9 : decode cX12_isSet 9 = .ok (.ireturn, 1) := by decide +kernel
theorem dX12_worth_0 : decode cX12_worth 0 = .ok (.iload_n 1, 1) := by decide +kernel
theorem dX12_worth_1 : decode cX12_worth 1 = .ok (.invokestatic 143, 3) := by decide +kernel
theorem dX12_worth_4 : decode cX12_worth 4 = .ok (.ifCond .eq 19, 3) := by decide +kernel
theorem dX12_worth_7 : decode cX12_worth 7 = .ok (.iload_n 2, 1) := by decide +kernel
theorem dX12_worth_8 : decode cX12_worth 8 = .ok (.invokestatic 197, 3) := by decide +kernel
theorem dX12_worth_11 : decode cX12_worth 11 = .ok (.ifCond .eq 12, 3) := by decide +kernel
theorem dX12_worth_14 : decode cX12_worth 14 = .ok (.aload_n 0, 1) := by decide +kernel
theorem dX12_worth_15 : decode cX12_worth 15 = .ok (.iload_n 1, 1) := by decide +kernel
theorem dX12_worth_16 : decode cX12_worth 16 = .ok (.iload_n 2, 1) := by decide +kernel
theorem dX12_worth_17 : decode cX12_worth 17 = .ok (.invokevirtual 200, 3) := by decide +kernel
theorem dX12_worth_20 : decode cX12_worth 20 = .ok (.goto 6, 3) := by decide +kernel
theorem dX12_worth_23 : decode cX12_worth 23 = .ok (.sipush (-10001), 3) := by decide +kernel
theorem dX12_worth_26 : decode cX12_worth 26 = .ok (.ireturn, 1) := by decide +kernel
theorem dX12_barred_0 : decode cX12_barred 0 = .ok (.iload_n 1, 1) := by decide +kernel
theorem dX12_barred_1 : decode cX12_barred 1 = .ok (.invokestatic 143, 3) := by decide +kernel
theorem dX12_barred_4 : decode cX12_barred 4 = .ok (.ifCond .eq 10, 3) := by decide +kernel
theorem dX12_barred_7 : decode cX12_barred 7 = .ok (.iload_n 2, 1) := by decide +kernel
theorem dX12_barred_8 : decode cX12_barred 8 = .ok (.invokestatic 197, 3) := by decide +kernel
theorem dX12_barred_11 : decode cX12_barred 11 = .ok (.ifCond .ne 7, 3) := by decide +kernel
theorem dX12_barred_14 : decode cX12_barred 14 = .ok (.iconst (-1), 1) := by decide +kernel
theorem dX12_barred_15 : decode cX12_barred 15 = .ok (.goto 17, 3) := by decide +kernel
theorem dX12_barred_18 : decode cX12_barred 18 = .ok (.aload_n 0, 1) := by decide +kernel
theorem dX12_barred_19 : decode cX12_barred 19 = .ok (.iload_n 1, 1) := by decide +kernel
theorem dX12_barred_20 : decode cX12_barred 20 = .ok (.iload_n 2, 1) := by decide +kernel
theorem dX12_barred_21 : decode cX12_barred 21 = .ok (.invokevirtual 204, 3) := by decide +kernel
theorem dX12_barred_24 : decode cX12_barred 24 = .ok (.ifCond .eq 7, 3) := by decide +kernel
theorem dX12_barred_27 : decode cX12_barred 27 = .ok (.iconst 1, 1) := by decide +kernel
theorem dX12_barred_28 : decode cX12_barred 28 = .ok (.goto 4, 3) := by decide +kernel
theorem dX12_barred_31 : decode cX12_barred 31 = .ok (.iconst 0, 1) := by decide +kernel
theorem dX12_barred_32 : decode cX12_barred 32 = .ok (.ireturn, 1) := by decide +kernel
theorem dX12_thingsOf_0 : decode cX12_thingsOf 0 = .ok (.iconst 0, 1) := by decide +kernel
theorem dX12_thingsOf_1 : decode cX12_thingsOf 1 = .ok (.istore_n 2, 1) := by decide +kernel
theorem dX12_thingsOf_2 : decode cX12_thingsOf 2 = .ok (.iconst 0, 1) := by decide +kernel
theorem dX12_thingsOf_3 : decode cX12_thingsOf 3 = .ok (.istore_n 3, 1) := by decide +kernel
theorem dX12_thingsOf_4 : decode cX12_thingsOf 4 = .ok (.iload_n 3, 1) := by decide +kernel
theorem dX12_thingsOf_5 : decode cX12_thingsOf 5 = .ok (.bipush 6, 2) := by decide +kernel
theorem dX12_thingsOf_7 : decode cX12_thingsOf 7 = .ok (.if_icmp .ge 29, 3) := by decide +kernel
theorem dX12_thingsOf_10 : decode cX12_thingsOf 10 = .ok (.iload_n 2, 1) := by decide +kernel
theorem dX12_thingsOf_11 : decode cX12_thingsOf 11 = .ok (.aload_n 0, 1) := by decide +kernel
theorem dX12_thingsOf_12 : decode cX12_thingsOf 12 = .ok (.getfield 7, 3) := by decide +kernel
theorem dX12_thingsOf_15 : decode cX12_thingsOf 15 = .ok (.iload_n 3, 1) := by decide +kernel
theorem dX12_thingsOf_16 : decode cX12_thingsOf 16 = .ok (.iaload, 1) := by decide +kernel
theorem dX12_thingsOf_17 : decode cX12_thingsOf 17 = .ok (.iload_n 1, 1) := by decide +kernel
theorem dX12_thingsOf_18 : decode cX12_thingsOf 18 = .ok (.if_icmp .ne 9, 3) := by decide +kernel
theorem dX12_thingsOf_21 : decode cX12_thingsOf 21 = .ok (.iconst 1, 1) := by decide +kernel
theorem dX12_thingsOf_22 : decode cX12_thingsOf 22 = .ok (.iload_n 3, 1) := by decide +kernel
theorem dX12_thingsOf_23 : decode cX12_thingsOf 23 = .ok (.ishl, 1) := by decide +kernel
theorem dX12_thingsOf_24 : decode cX12_thingsOf 24 = .ok (.goto 4, 3) := by decide +kernel
theorem dX12_thingsOf_27 : decode cX12_thingsOf 27 = .ok (.iconst 0, 1) := by decide +kernel
theorem dX12_thingsOf_28 : decode cX12_thingsOf 28 = .ok (.ior, 1) := by decide +kernel
theorem dX12_thingsOf_29 : decode cX12_thingsOf 29 = .ok (.istore_n 2, 1) := by decide +kernel
theorem dX12_thingsOf_30 : decode cX12_thingsOf 30 = .ok (.iinc 3 1, 3) := by decide +kernel
theorem dX12_thingsOf_33 : decode cX12_thingsOf 33 = .ok (.goto (-29), 3) := by decide +kernel
theorem dX12_thingsOf_36 : decode cX12_thingsOf 36 = .ok (.iload_n 2, 1) := by decide +kernel
theorem dX12_thingsOf_37 : decode cX12_thingsOf 37 = .ok (.ireturn, 1) := by decide +kernel
theorem dX12_told_0 : decode cX12_told 0 = .ok (.iload_n 1, 1) := by decide +kernel
theorem dX12_told_1 : decode cX12_told 1 = .ok (.invokestatic 143, 3) := by decide +kernel
theorem dX12_told_4 : decode cX12_told 4 = .ok (.ifCond .eq 15, 3) := by decide +kernel
theorem dX12_told_7 : decode cX12_told 7 = .ok (.iload_n 2, 1) := by decide +kernel
theorem dX12_told_8 : decode cX12_told 8 = .ok (.i2l, 1) := by decide +kernel
theorem dX12_told_9 : decode cX12_told 9 = .ok (.lconst 0, 1) := by decide +kernel
theorem dX12_told_10 : decode cX12_told 10 = .ok (.ldc2_w 141, 3) := by decide +kernel
theorem dX12_told_13 : decode cX12_told 13 = .ok (.invokestatic 133, 3) := by decide +kernel
theorem dX12_told_16 : decode cX12_told 16 = .ok (.ifCond .ne 5, 3) := by decide +kernel
theorem dX12_told_19 : decode cX12_told 19 = .ok (.iconst (-1), 1) := by decide +kernel
theorem dX12_told_20 : decode cX12_told 20 = .ok (.ireturn, 1) := by decide +kernel
theorem dX12_told_21 : decode cX12_told 21 = .ok (.iload_n 2, 1) := by decide +kernel
theorem dX12_told_22 : decode cX12_told 22 = .ok (.ifCond .ne 11, 3) := by decide +kernel
theorem dX12_told_25 : decode cX12_told 25 = .ok (.aload_n 0, 1) := by decide +kernel
theorem dX12_told_26 : decode cX12_told 26 = .ok (.iload_n 1, 1) := by decide +kernel
theorem dX12_told_27 : decode cX12_told 27 = .ok (.invokevirtual 208, 3) := by decide +kernel
theorem dX12_told_30 : decode cX12_told 30 = .ok (.goto 65, 3) := by decide +kernel
theorem dX12_told_33 : decode cX12_told 33 = .ok (.iload_n 2, 1) := by decide +kernel
theorem dX12_told_34 : decode cX12_told 34 = .ok (.iconst 1, 1) := by decide +kernel
theorem dX12_told_35 : decode cX12_told 35 = .ok (.if_icmp .ne 12, 3) := by decide +kernel
theorem dX12_told_38 : decode cX12_told 38 = .ok (.aload_n 0, 1) := by decide +kernel
theorem dX12_told_39 : decode cX12_told 39 = .ok (.getfield 13, 3) := by decide +kernel
theorem dX12_told_42 : decode cX12_told 42 = .ok (.iload_n 1, 1) := by decide +kernel
theorem dX12_told_43 : decode cX12_told 43 = .ok (.iaload, 1) := by decide +kernel
theorem dX12_told_44 : decode cX12_told 44 = .ok (.goto 51, 3) := by decide +kernel
theorem dX12_told_47 : decode cX12_told 47 = .ok (.iload_n 2, 1) := by decide +kernel
theorem dX12_told_48 : decode cX12_told 48 = .ok (.iconst 2, 1) := by decide +kernel
theorem dX12_told_49 : decode cX12_told 49 = .ok (.if_icmp .ne 12, 3) := by decide +kernel
theorem dX12_told_52 : decode cX12_told 52 = .ok (.aload_n 0, 1) := by decide +kernel
theorem dX12_told_53 : decode cX12_told 53 = .ok (.getfield 16, 3) := by decide +kernel
theorem dX12_told_56 : decode cX12_told 56 = .ok (.iload_n 1, 1) := by decide +kernel
theorem dX12_told_57 : decode cX12_told 57 = .ok (.iaload, 1) := by decide +kernel
theorem dX12_told_58 : decode cX12_told 58 = .ok (.goto 37, 3) := by decide +kernel
theorem dX12_told_61 : decode cX12_told 61 = .ok (.iload_n 2, 1) := by decide +kernel
theorem dX12_told_62 : decode cX12_told 62 = .ok (.iconst 3, 1) := by decide +kernel
theorem dX12_told_63 : decode cX12_told 63 = .ok (.if_icmp .ne 12, 3) := by decide +kernel
theorem dX12_told_66 : decode cX12_told 66 = .ok (.aload_n 0, 1) := by decide +kernel
theorem dX12_told_67 : decode cX12_told 67 = .ok (.getfield 19, 3) := by decide +kernel
theorem dX12_told_70 : decode cX12_told 70 = .ok (.iload_n 1, 1) := by decide +kernel
theorem dX12_told_71 : decode cX12_told 71 = .ok (.iaload, 1) := by decide +kernel
theorem dX12_told_72 : decode cX12_told 72 = .ok (.goto 23, 3) := by decide +kernel
theorem dX12_told_75 : decode cX12_told 75 = .ok (.iload_n 2, 1) := by decide +kernel
theorem dX12_told_76 : decode cX12_told 76 = .ok (.iconst 4, 1) := by decide +kernel
theorem dX12_told_77 : decode cX12_told 77 = .ok (.if_icmp .ne 12, 3) := by decide +kernel
theorem dX12_told_80 : decode cX12_told 80 = .ok (.aload_n 0, 1) := by decide +kernel
theorem dX12_told_81 : decode cX12_told 81 = .ok (.getfield 22, 3) := by decide +kernel
theorem dX12_told_84 : decode cX12_told 84 = .ok (.iload_n 1, 1) := by decide +kernel
theorem dX12_told_85 : decode cX12_told 85 = .ok (.iaload, 1) := by decide +kernel
theorem dX12_told_86 : decode cX12_told 86 = .ok (.goto 9, 3) := by decide +kernel
theorem dX12_told_89 : decode cX12_told 89 = .ok (.aload_n 0, 1) := by decide +kernel
theorem dX12_told_90 : decode cX12_told 90 = .ok (.getfield 25, 3) := by decide +kernel
theorem dX12_told_93 : decode cX12_told 93 = .ok (.iload_n 1, 1) := by decide +kernel
theorem dX12_told_94 : decode cX12_told 94 = .ok (.iaload, 1) := by decide +kernel
theorem dX12_told_95 : decode cX12_told 95 = .ok (.ireturn, 1) := by decide +kernel
theorem dX12_set_0 : decode cX12_set 0 = .ok (.iload_n 1, 1) := by decide +kernel
theorem dX12_set_1 : decode cX12_set 1 = .ok (.invokestatic 143, 3) := by decide +kernel
theorem dX12_set_4 : decode cX12_set 4 = .ok (.ifCond .eq 38, 3) := by decide +kernel
theorem dX12_set_7 : decode cX12_set 7 = .ok (.iload_n 2, 1) := by decide +kernel
theorem dX12_set_8 : decode cX12_set 8 = .ok (.i2l, 1) := by decide +kernel
theorem dX12_set_9 : decode cX12_set 9 = .ok (.lconst 0, 1) := by decide +kernel
theorem dX12_set_10 : decode cX12_set 10 = .ok (.ldc2_w 212, 3) := by decide +kernel
theorem dX12_set_13 : decode cX12_set 13 = .ok (.invokestatic 133, 3) := by decide +kernel
theorem dX12_set_16 : decode cX12_set 16 = .ok (.ifCond .eq 26, 3) := by decide +kernel
theorem dX12_set_19 : decode cX12_set 19 = .ok (.iload_n 3, 1) := by decide +kernel
theorem dX12_set_20 : decode cX12_set 20 = .ok (.i2l, 1) := by decide +kernel
theorem dX12_set_21 : decode cX12_set 21 = .ok (.lconst 0, 1) := by decide +kernel
theorem dX12_set_22 : decode cX12_set 22 = .ok (.iload_n 2, 1) := by decide +kernel
theorem dX12_set_23 : decode cX12_set 23 = .ok (.iconst 2, 1) := by decide +kernel
theorem dX12_set_24 : decode cX12_set 24 = .ok (.if_icmp .ne 9, 3) := by decide +kernel
theorem dX12_set_27 : decode cX12_set 27 = .ok (.ldc2_w 214, 3) := by decide +kernel
theorem dX12_set_30 : decode cX12_set 30 = .ok (.goto 6, 3) := by decide +kernel
theorem dX12_set_33 : decode cX12_set 33 = .ok (.ldc2_w 216, 3) := by decide +kernel
theorem dX12_set_36 : decode cX12_set 36 = .ok (.invokestatic 133, 3) := by decide +kernel
theorem dX12_set_39 : decode cX12_set 39 = .ok (.ifCond .ne 5, 3) := by decide +kernel
theorem dX12_set_42 : decode cX12_set 42 = .ok (.iconst (-1), 1) := by decide +kernel
theorem dX12_set_43 : decode cX12_set 43 = .ok (.ireturn, 1) := by decide +kernel
theorem dX12_set_44 : decode cX12_set 44 = .ok (.aload_n 0, 1) := by decide +kernel
theorem dX12_set_45 : decode cX12_set 45 = .ok (.invokevirtual 147, 3) := by decide +kernel
theorem dX12_set_48 : decode cX12_set 48 = .ok (.ifCond .eq 6, 3) := by decide +kernel
theorem dX12_set_51 : decode cX12_set 51 = .ok (.bipush (-2), 2) := by decide +kernel
theorem dX12_set_53 : decode cX12_set 53 = .ok (.ireturn, 1) := by decide +kernel
theorem dX12_set_54 : decode cX12_set 54 = .ok (.iload_n 2, 1) := by decide +kernel
theorem dX12_set_55 : decode cX12_set 55 = .ok (.ifCond .ne 12, 3) := by decide +kernel
theorem dX12_set_58 : decode cX12_set 58 = .ok (.aload_n 0, 1) := by decide +kernel
theorem dX12_set_59 : decode cX12_set 59 = .ok (.getfield 16, 3) := by decide +kernel
theorem dX12_set_62 : decode cX12_set 62 = .ok (.iload_n 1, 1) := by decide +kernel
theorem dX12_set_63 : decode cX12_set 63 = .ok (.iaload, 1) := by decide +kernel
theorem dX12_set_64 : decode cX12_set 64 = .ok (.goto 23, 3) := by decide +kernel
theorem dX12_set_67 : decode cX12_set 67 = .ok (.iload_n 2, 1) := by decide +kernel
theorem dX12_set_68 : decode cX12_set 68 = .ok (.iconst 1, 1) := by decide +kernel
theorem dX12_set_69 : decode cX12_set 69 = .ok (.if_icmp .ne 12, 3) := by decide +kernel
theorem dX12_set_72 : decode cX12_set 72 = .ok (.aload_n 0, 1) := by decide +kernel
theorem dX12_set_73 : decode cX12_set 73 = .ok (.getfield 19, 3) := by decide +kernel
theorem dX12_set_76 : decode cX12_set 76 = .ok (.iload_n 1, 1) := by decide +kernel
theorem dX12_set_77 : decode cX12_set 77 = .ok (.iaload, 1) := by decide +kernel
theorem dX12_set_78 : decode cX12_set 78 = .ok (.goto 9, 3) := by decide +kernel
theorem dX12_set_81 : decode cX12_set 81 = .ok (.aload_n 0, 1) := by decide +kernel
theorem dX12_set_82 : decode cX12_set 82 = .ok (.getfield 22, 3) := by decide +kernel
theorem dX12_set_85 : decode cX12_set 85 = .ok (.iload_n 1, 1) := by decide +kernel
theorem dX12_set_86 : decode cX12_set 86 = .ok (.iaload, 1) := by decide +kernel
theorem dX12_set_87 : decode cX12_set 87 = .ok (.istore 4, 2) := by decide +kernel
theorem dX12_set_89 : decode cX12_set 89 = .ok (.iload_n 2, 1) := by decide +kernel
theorem dX12_set_90 : decode cX12_set 90 = .ok (.ifCond .ne 13, 3) := by decide +kernel
theorem dX12_set_93 : decode cX12_set 93 = .ok (.aload_n 0, 1) := by decide +kernel
theorem dX12_set_94 : decode cX12_set 94 = .ok (.getfield 16, 3) := by decide +kernel
theorem dX12_set_97 : decode cX12_set 97 = .ok (.iload_n 1, 1) := by decide +kernel
theorem dX12_set_98 : decode cX12_set 98 = .ok (.iload_n 3, 1) := by decide +kernel
theorem dX12_set_99 : decode cX12_set 99 = .ok (.iastore, 1) := by decide +kernel
theorem dX12_set_100 : decode cX12_set 100 = .ok (.goto 25, 3) := by decide +kernel
theorem dX12_set_103 : decode cX12_set 103 = .ok (.iload_n 2, 1) := by decide +kernel
theorem dX12_set_104 : decode cX12_set 104 = .ok (.iconst 1, 1) := by decide +kernel
theorem dX12_set_105 : decode cX12_set 105 = .ok (.if_icmp .ne 13, 3) := by decide +kernel
theorem dX12_set_108 : decode cX12_set 108 = .ok (.aload_n 0, 1) := by decide +kernel
theorem dX12_set_109 : decode cX12_set 109 = .ok (.getfield 19, 3) := by decide +kernel
theorem dX12_set_112 : decode cX12_set 112 = .ok (.iload_n 1, 1) := by decide +kernel
theorem dX12_set_113 : decode cX12_set 113 = .ok (.iload_n 3, 1) := by decide +kernel
theorem dX12_set_114 : decode cX12_set 114 = .ok (.iastore, 1) := by decide +kernel
theorem dX12_set_115 : decode cX12_set 115 = .ok (.goto 10, 3) := by decide +kernel
theorem dX12_set_118 : decode cX12_set 118 = .ok (.aload_n 0, 1) := by decide +kernel
theorem dX12_set_119 : decode cX12_set 119 = .ok (.getfield 22, 3) := by decide +kernel
theorem dX12_set_122 : decode cX12_set 122 = .ok (.iload_n 1, 1) := by decide +kernel
theorem dX12_set_123 : decode cX12_set 123 = .ok (.iload_n 3, 1) := by decide +kernel
theorem dX12_set_124 : decode cX12_set 124 = .ok (.iastore, 1) := by decide +kernel
theorem dX12_set_125 : decode cX12_set 125 = .ok (.iload 4, 2) := by decide +kernel
theorem dX12_set_127 : decode cX12_set 127 = .ok (.ireturn, 1) := by decide +kernel
theorem dX12_isExchange_0 : decode cX12_isExchange 0 = .ok (.iload_n 1, 1) := by decide +kernel
theorem dX12_isExchange_1 : decode cX12_isExchange 1 = .ok (.invokestatic 143, 3) := by decide +kernel
theorem dX12_isExchange_4 : decode cX12_isExchange 4 = .ok (.ifCond .eq 59, 3) := by decide +kernel
theorem dX12_isExchange_7 : decode cX12_isExchange 7 = .ok (.iload_n 2, 1) := by decide +kernel
theorem dX12_isExchange_8 : decode cX12_isExchange 8 = .ok (.invokestatic 143, 3) := by decide +kernel
theorem dX12_isExchange_11 : decode cX12_isExchange 11 = .ok (.ifCond .eq 52, 3) := by decide +kernel
theorem dX12_isExchange_14 : decode cX12_isExchange 14 = .ok (.iload_n 1, 1) := by decide +kernel
theorem dX12_isExchange_15 : decode cX12_isExchange 15 = .ok (.iload_n 2, 1) := by decide +kernel
theorem dX12_isExchange_16 : decode cX12_isExchange 16 = .ok (.if_icmp .eq 47, 3) := by decide +kernel
theorem dX12_isExchange_19 : decode cX12_isExchange 19 = .ok (.iload_n 3, 1) := by decide +kernel
theorem dX12_isExchange_20 : decode cX12_isExchange 20 = .ok (.invokestatic 197, 3) := by decide +kernel
theorem dX12_isExchange_23 : decode cX12_isExchange 23 = .ok (.ifCond .eq 40, 3) := by decide +kernel
theorem dX12_isExchange_26 : decode cX12_isExchange 26 = .ok (.iload_n 3, 1) := by decide +kernel
theorem dX12_isExchange_27 : decode cX12_isExchange 27 = .ok (.aload_n 0, 1) := by decide +kernel
theorem dX12_isExchange_28 : decode cX12_isExchange 28 = .ok (.iload_n 1, 1) := by decide +kernel
theorem dX12_isExchange_29 : decode cX12_isExchange 29 = .ok (.invokevirtual 208, 3) := by decide +kernel
theorem dX12_isExchange_32 : decode cX12_isExchange 32 = .ok (.aload_n 0, 1) := by decide +kernel
theorem dX12_isExchange_33 : decode cX12_isExchange 33 = .ok (.iload_n 2, 1) := by decide +kernel
theorem dX12_isExchange_34 : decode cX12_isExchange 34 = .ok (.invokevirtual 208, 3) := by decide +kernel
theorem dX12_isExchange_37 : decode cX12_isExchange 37 = .ok (.ior, 1) := by decide +kernel
theorem dX12_isExchange_38 : decode cX12_isExchange 38 = .ok (.iconst (-1), 1) := by decide +kernel
theorem dX12_isExchange_39 : decode cX12_isExchange 39 = .ok (.ixor, 1) := by decide +kernel
theorem dX12_isExchange_40 : decode cX12_isExchange 40 = .ok (.iand, 1) := by decide +kernel
theorem dX12_isExchange_41 : decode cX12_isExchange 41 = .ok (.ifCond .ne 22, 3) := by decide +kernel
theorem dX12_isExchange_44 : decode cX12_isExchange 44 = .ok (.iload 4, 2) := by decide +kernel
theorem dX12_isExchange_46 : decode cX12_isExchange 46 = .ok (.i2l, 1) := by decide +kernel
theorem dX12_isExchange_47 : decode cX12_isExchange 47 = .ok (.ldc2_w 218, 3) := by decide +kernel
theorem dX12_isExchange_50 : decode cX12_isExchange 50 = .ok (.ldc2_w 216, 3) := by decide +kernel
theorem dX12_isExchange_53 : decode cX12_isExchange 53 = .ok (.invokestatic 133, 3) := by decide +kernel
theorem dX12_isExchange_56 : decode cX12_isExchange 56 = .ok (.ifCond .eq 7, 3) := by decide +kernel
theorem dX12_isExchange_59 : decode cX12_isExchange 59 = .ok (.iconst 1, 1) := by decide +kernel
theorem dX12_isExchange_60 : decode cX12_isExchange 60 = .ok (.goto 4, 3) := by decide +kernel
theorem dX12_isExchange_63 : decode cX12_isExchange 63 = .ok (.iconst 0, 1) := by decide +kernel
theorem dX12_isExchange_64 : decode cX12_isExchange 64 = .ok (.ireturn, 1) := by decide +kernel
theorem dX12_moreBy_0 : decode cX12_moreBy 0 = .ok (.aload_n 0, 1) := by decide +kernel
theorem dX12_moreBy_1 : decode cX12_moreBy 1 = .ok (.iload_n 1, 1) := by decide +kernel
theorem dX12_moreBy_2 : decode cX12_moreBy 2 = .ok (.invokevirtual 208, 3) := by decide +kernel
theorem dX12_moreBy_5 : decode cX12_moreBy 5 = .ok (.istore_n 3, 1) := by decide +kernel
theorem dX12_moreBy_6 : decode cX12_moreBy 6 = .ok (.aload_n 0, 1) := by decide +kernel
theorem dX12_moreBy_7 : decode cX12_moreBy 7 = .ok (.iload_n 1, 1) := by decide +kernel
theorem dX12_moreBy_8 : decode cX12_moreBy 8 = .ok (.iload_n 3, 1) := by decide +kernel
theorem dX12_moreBy_9 : decode cX12_moreBy 9 = .ok (.iload_n 2, 1) := by decide +kernel
theorem dX12_moreBy_10 : decode cX12_moreBy 10 = .ok (.ixor, 1) := by decide +kernel
theorem dX12_moreBy_11 : decode cX12_moreBy 11 = .ok (.invokevirtual 200, 3) := by decide +kernel
theorem dX12_moreBy_14 : decode cX12_moreBy 14 = .ok (.aload_n 0, 1) := by decide +kernel
theorem dX12_moreBy_15 : decode cX12_moreBy 15 = .ok (.iload_n 1, 1) := by decide +kernel
theorem dX12_moreBy_16 : decode cX12_moreBy 16 = .ok (.iload_n 3, 1) := by decide +kernel
theorem dX12_moreBy_17 : decode cX12_moreBy 17 = .ok (.invokevirtual 200, 3) := by decide +kernel
theorem dX12_moreBy_20 : decode cX12_moreBy 20 = .ok (.isub, 1) := by decide +kernel
theorem dX12_moreBy_21 : decode cX12_moreBy 21 = .ok (.ireturn, 1) := by decide +kernel
theorem dX12_gain_0 : decode cX12_gain 0 = .ok (.aload_n 0, 1) := by decide +kernel
theorem dX12_gain_1 : decode cX12_gain 1 = .ok (.iload_n 1, 1) := by decide +kernel
theorem dX12_gain_2 : decode cX12_gain 2 = .ok (.iload_n 2, 1) := by decide +kernel
theorem dX12_gain_3 : decode cX12_gain 3 = .ok (.iload_n 3, 1) := by decide +kernel
theorem dX12_gain_4 : decode cX12_gain 4 = .ok (.iload 4, 2) := by decide +kernel
theorem dX12_gain_6 : decode cX12_gain 6 = .ok (.invokevirtual 220, 3) := by decide +kernel
theorem dX12_gain_9 : decode cX12_gain 9 = .ok (.ifCond .eq 14, 3) := by decide +kernel
theorem dX12_gain_12 : decode cX12_gain 12 = .ok (.iload 5, 2) := by decide +kernel
theorem dX12_gain_14 : decode cX12_gain 14 = .ok (.i2l, 1) := by decide +kernel
theorem dX12_gain_15 : decode cX12_gain 15 = .ok (.lconst 0, 1) := by decide +kernel
theorem dX12_gain_16 : decode cX12_gain 16 = .ok (.lconst 1, 1) := by decide +kernel
theorem dX12_gain_17 : decode cX12_gain 17 = .ok (.invokestatic 133, 3) := by decide +kernel
theorem dX12_gain_20 : decode cX12_gain 20 = .ok (.ifCond .ne 7, 3) := by decide +kernel
theorem dX12_gain_23 : decode cX12_gain 23 = .ok (.sipush (-10001), 3) := by decide +kernel
theorem dX12_gain_26 : decode cX12_gain 26 = .ok (.ireturn, 1) := by decide +kernel
theorem dX12_gain_27 : decode cX12_gain 27 = .ok (.iload 5, 2) := by decide +kernel
theorem dX12_gain_29 : decode cX12_gain 29 = .ok (.ifCond .ne 15, 3) := by decide +kernel
theorem dX12_gain_32 : decode cX12_gain 32 = .ok (.aload_n 0, 1) := by decide +kernel
theorem dX12_gain_33 : decode cX12_gain 33 = .ok (.iload_n 1, 1) := by decide +kernel
theorem dX12_gain_34 : decode cX12_gain 34 = .ok (.iload_n 3, 1) := by decide +kernel
theorem dX12_gain_35 : decode cX12_gain 35 = .ok (.invokevirtual 224, 3) := by decide +kernel
theorem dX12_gain_38 : decode cX12_gain 38 = .ok (.iload 4, 2) := by decide +kernel
theorem dX12_gain_40 : decode cX12_gain 40 = .ok (.isub, 1) := by decide +kernel
theorem dX12_gain_41 : decode cX12_gain 41 = .ok (.goto 12, 3) := by decide +kernel
theorem dX12_gain_44 : decode cX12_gain 44 = .ok (.aload_n 0, 1) := by decide +kernel
theorem dX12_gain_45 : decode cX12_gain 45 = .ok (.iload_n 2, 1) := by decide +kernel
theorem dX12_gain_46 : decode cX12_gain 46 = .ok (.iload_n 3, 1) := by decide +kernel
theorem dX12_gain_47 : decode cX12_gain 47 = .ok (.invokevirtual 224, 3) := by decide +kernel
theorem dX12_gain_50 : decode cX12_gain 50 = .ok (.iload 4, 2) := by decide +kernel
theorem dX12_gain_52 : decode cX12_gain 52 = .ok (.iadd, 1) := by decide +kernel
theorem dX12_gain_53 : decode cX12_gain 53 = .ok (.ireturn, 1) := by decide +kernel
theorem dX12_isFree_0 : decode cX12_isFree 0 = .ok (.aload_n 0, 1) := by decide +kernel
theorem dX12_isFree_1 : decode cX12_isFree 1 = .ok (.iload_n 1, 1) := by decide +kernel
theorem dX12_isFree_2 : decode cX12_isFree 2 = .ok (.aload_n 0, 1) := by decide +kernel
theorem dX12_isFree_3 : decode cX12_isFree 3 = .ok (.iload_n 1, 1) := by decide +kernel
theorem dX12_isFree_4 : decode cX12_isFree 4 = .ok (.invokevirtual 208, 3) := by decide +kernel
theorem dX12_isFree_7 : decode cX12_isFree 7 = .ok (.iload_n 2, 1) := by decide +kernel
theorem dX12_isFree_8 : decode cX12_isFree 8 = .ok (.ixor, 1) := by decide +kernel
theorem dX12_isFree_9 : decode cX12_isFree 9 = .ok (.invokevirtual 204, 3) := by decide +kernel
theorem dX12_isFree_12 : decode cX12_isFree 12 = .ok (.ifCond .ne 7, 3) := by decide +kernel
theorem dX12_isFree_15 : decode cX12_isFree 15 = .ok (.iconst 1, 1) := by decide +kernel
theorem dX12_isFree_16 : decode cX12_isFree 16 = .ok (.goto 4, 3) := by decide +kernel
theorem dX12_isFree_19 : decode cX12_isFree 19 = .ok (.iconst 0, 1) := by decide +kernel
theorem dX12_isFree_20 : decode cX12_isFree 20 = .ok (.ireturn, 1) := by decide +kernel
theorem dX12_isGood_0 : decode cX12_isGood 0 = .ok (.aload_n 0, 1) := by decide +kernel
theorem dX12_isGood_1 : decode cX12_isGood 1 = .ok (.iload_n 1, 1) := by decide +kernel
theorem dX12_isGood_2 : decode cX12_isGood 2 = .ok (.iload_n 3, 1) := by decide +kernel
theorem dX12_isGood_3 : decode cX12_isGood 3 = .ok (.invokevirtual 227, 3) := by decide +kernel
theorem dX12_isGood_6 : decode cX12_isGood 6 = .ok (.ifCond .eq 56, 3) := by decide +kernel
theorem dX12_isGood_9 : decode cX12_isGood 9 = .ok (.aload_n 0, 1) := by decide +kernel
theorem dX12_isGood_10 : decode cX12_isGood 10 = .ok (.iload_n 2, 1) := by decide +kernel
theorem dX12_isGood_11 : decode cX12_isGood 11 = .ok (.iload_n 3, 1) := by decide +kernel
theorem dX12_isGood_12 : decode cX12_isGood 12 = .ok (.invokevirtual 227, 3) := by decide +kernel
theorem dX12_isGood_15 : decode cX12_isGood 15 = .ok (.ifCond .eq 47, 3) := by decide +kernel
theorem dX12_isGood_18 : decode cX12_isGood 18 = .ok (.aload_n 0, 1) := by decide +kernel
theorem dX12_isGood_19 : decode cX12_isGood 19 = .ok (.getfield 13, 3) := by decide +kernel
theorem dX12_isGood_22 : decode cX12_isGood 22 = .ok (.iload_n 1, 1) := by decide +kernel
theorem dX12_isGood_23 : decode cX12_isGood 23 = .ok (.iaload, 1) := by decide +kernel
theorem dX12_isGood_24 : decode cX12_isGood 24 = .ok (.iload 4, 2) := by decide +kernel
theorem dX12_isGood_26 : decode cX12_isGood 26 = .ok (.isub, 1) := by decide +kernel
theorem dX12_isGood_27 : decode cX12_isGood 27 = .ok (.i2l, 1) := by decide +kernel
theorem dX12_isGood_28 : decode cX12_isGood 28 = .ok (.lconst 0, 1) := by decide +kernel
theorem dX12_isGood_29 : decode cX12_isGood 29 = .ok (.ldc2_w 151, 3) := by decide +kernel
theorem dX12_isGood_32 : decode cX12_isGood 32 = .ok (.invokestatic 133, 3) := by decide +kernel
theorem dX12_isGood_35 : decode cX12_isGood 35 = .ok (.ifCond .eq 27, 3) := by decide +kernel
theorem dX12_isGood_38 : decode cX12_isGood 38 = .ok (.aload_n 0, 1) := by decide +kernel
theorem dX12_isGood_39 : decode cX12_isGood 39 = .ok (.getfield 13, 3) := by decide +kernel
theorem dX12_isGood_42 : decode cX12_isGood 42 = .ok (.iload_n 2, 1) := by decide +kernel
theorem dX12_isGood_43 : decode cX12_isGood 43 = .ok (.iaload, 1) := by decide +kernel
theorem dX12_isGood_44 : decode cX12_isGood 44 = .ok (.iload 4, 2) := by decide +kernel
theorem dX12_isGood_46 : decode cX12_isGood 46 = .ok (.iadd, 1) := by decide +kernel
theorem dX12_isGood_47 : decode cX12_isGood 47 = .ok (.i2l, 1) := by decide +kernel
theorem dX12_isGood_48 : decode cX12_isGood 48 = .ok (.lconst 0, 1) := by decide +kernel
theorem dX12_isGood_49 : decode cX12_isGood 49 = .ok (.ldc2_w 151, 3) := by decide +kernel
theorem dX12_isGood_52 : decode cX12_isGood 52 = .ok (.invokestatic 133, 3) := by decide +kernel
theorem dX12_isGood_55 : decode cX12_isGood 55 = .ok (.ifCond .eq 7, 3) := by decide +kernel
theorem dX12_isGood_58 : decode cX12_isGood 58 = .ok (.iconst 1, 1) := by decide +kernel
theorem dX12_isGood_59 : decode cX12_isGood 59 = .ok (.goto 4, 3) := by decide +kernel
theorem dX12_isGood_62 : decode cX12_isGood 62 = .ok (.iconst 0, 1) := by decide +kernel
theorem dX12_isGood_63 : decode cX12_isGood 63 = .ok (.ireturn, 1) := by decide +kernel
theorem dX12_good_0 : decode cX12_good 0 = .ok (.aload_n 0, 1) := by decide +kernel
theorem dX12_good_1 : decode cX12_good 1 = .ok (.iload_n 1, 1) := by decide +kernel
theorem dX12_good_2 : decode cX12_good 2 = .ok (.iload_n 2, 1) := by decide +kernel
theorem dX12_good_3 : decode cX12_good 3 = .ok (.iload_n 3, 1) := by decide +kernel
theorem dX12_good_4 : decode cX12_good 4 = .ok (.iload 4, 2) := by decide +kernel
theorem dX12_good_6 : decode cX12_good 6 = .ok (.invokevirtual 220, 3) := by decide +kernel
theorem dX12_good_9 : decode cX12_good 9 = .ok (.ifCond .ne 7, 3) := by decide +kernel
theorem dX12_good_12 : decode cX12_good 12 = .ok (.iconst (-1), 1) := by decide +kernel
theorem dX12_good_13 : decode cX12_good 13 = .ok (.goto 20, 3) := by decide +kernel
theorem dX12_good_16 : decode cX12_good 16 = .ok (.aload_n 0, 1) := by decide +kernel
theorem dX12_good_17 : decode cX12_good 17 = .ok (.iload_n 1, 1) := by decide +kernel
theorem dX12_good_18 : decode cX12_good 18 = .ok (.iload_n 2, 1) := by decide +kernel
theorem dX12_good_19 : decode cX12_good 19 = .ok (.iload_n 3, 1) := by decide +kernel
theorem dX12_good_20 : decode cX12_good 20 = .ok (.iload 4, 2) := by decide +kernel
theorem dX12_good_22 : decode cX12_good 22 = .ok (.invokevirtual 230, 3) := by decide +kernel
theorem dX12_good_25 : decode cX12_good 25 = .ok (.ifCond .eq 7, 3) := by decide +kernel
theorem dX12_good_28 : decode cX12_good 28 = .ok (.iconst 1, 1) := by decide +kernel
theorem dX12_good_29 : decode cX12_good 29 = .ok (.goto 4, 3) := by decide +kernel
theorem dX12_good_32 : decode cX12_good 32 = .ok (.iconst 0, 1) := by decide +kernel
theorem dX12_good_33 : decode cX12_good 33 = .ok (.ireturn, 1) := by decide +kernel
theorem dX12_best_0 : decode cX12_best 0 = .ok (.iload_n 1, 1) := by decide +kernel
theorem dX12_best_1 : decode cX12_best 1 = .ok (.invokestatic 143, 3) := by decide +kernel
theorem dX12_best_4 : decode cX12_best 4 = .ok (.ifCond .eq 27, 3) := by decide +kernel
theorem dX12_best_7 : decode cX12_best 7 = .ok (.iload_n 2, 1) := by decide +kernel
theorem dX12_best_8 : decode cX12_best 8 = .ok (.invokestatic 143, 3) := by decide +kernel
theorem dX12_best_11 : decode cX12_best 11 = .ok (.ifCond .eq 20, 3) := by decide +kernel
theorem dX12_best_14 : decode cX12_best 14 = .ok (.iload_n 1, 1) := by decide +kernel
theorem dX12_best_15 : decode cX12_best 15 = .ok (.iload_n 2, 1) := by decide +kernel
theorem dX12_best_16 : decode cX12_best 16 = .ok (.if_icmp .eq 15, 3) := by decide +kernel
theorem dX12_best_19 : decode cX12_best 19 = .ok (.iload_n 3, 1) := by decide +kernel
theorem dX12_best_20 : decode cX12_best 20 = .ok (.i2l, 1) := by decide +kernel
theorem dX12_best_21 : decode cX12_best 21 = .ok (.lconst 0, 1) := by decide +kernel
theorem dX12_best_22 : decode cX12_best 22 = .ok (.ldc2_w 131, 3) := by decide +kernel
theorem dX12_best_25 : decode cX12_best 25 = .ok (.invokestatic 133, 3) := by decide +kernel
theorem dX12_best_28 : decode cX12_best 28 = .ok (.ifCond .ne 7, 3) := by decide +kernel
theorem dX12_best_31 : decode cX12_best 31 = .ok (.sipush (-10001), 3) := by decide +kernel
theorem dX12_best_34 : decode cX12_best 34 = .ok (.ireturn, 1) := by decide +kernel
theorem dX12_best_35 : decode cX12_best 35 = .ok (.aload_n 0, 1) := by decide +kernel
theorem dX12_best_36 : decode cX12_best 36 = .ok (.iload_n 1, 1) := by decide +kernel
theorem dX12_best_37 : decode cX12_best 37 = .ok (.invokevirtual 208, 3) := by decide +kernel
theorem dX12_best_40 : decode cX12_best 40 = .ok (.aload_n 0, 1) := by decide +kernel
theorem dX12_best_41 : decode cX12_best 41 = .ok (.iload_n 2, 1) := by decide +kernel
theorem dX12_best_42 : decode cX12_best 42 = .ok (.invokevirtual 208, 3) := by decide +kernel
theorem dX12_best_45 : decode cX12_best 45 = .ok (.ior, 1) := by decide +kernel
theorem dX12_best_46 : decode cX12_best 46 = .ok (.istore 4, 2) := by decide +kernel
theorem dX12_best_48 : decode cX12_best 48 = .ok (.iconst (-1), 1) := by decide +kernel
theorem dX12_best_49 : decode cX12_best 49 = .ok (.istore 5, 2) := by decide +kernel
theorem dX12_best_51 : decode cX12_best 51 = .ok (.iconst 0, 1) := by decide +kernel
theorem dX12_best_52 : decode cX12_best 52 = .ok (.istore 6, 2) := by decide +kernel
theorem dX12_best_54 : decode cX12_best 54 = .ok (.iconst 0, 1) := by decide +kernel
theorem dX12_best_55 : decode cX12_best 55 = .ok (.istore 7, 2) := by decide +kernel
theorem dX12_best_57 : decode cX12_best 57 = .ok (.iload 7, 2) := by decide +kernel
theorem dX12_best_59 : decode cX12_best 59 = .ok (.bipush 64, 2) := by decide +kernel
theorem dX12_best_61 : decode cX12_best 61 = .ok (.if_icmp .ge 76, 3) := by decide +kernel
theorem dX12_best_64 : decode cX12_best 64 = .ok (.iload 7, 2) := by decide +kernel
theorem dX12_best_66 : decode cX12_best 66 = .ok (.iload 4, 2) := by decide +kernel
theorem dX12_best_68 : decode cX12_best 68 = .ok (.iconst (-1), 1) := by decide +kernel
theorem dX12_best_69 : decode cX12_best 69 = .ok (.ixor, 1) := by decide +kernel
theorem dX12_best_70 : decode cX12_best 70 = .ok (.iand, 1) := by decide +kernel
theorem dX12_best_71 : decode cX12_best 71 = .ok (.ifCond .ne 60, 3) := by decide +kernel
theorem dX12_best_74 : decode cX12_best 74 = .ok (.aload_n 0, 1) := by decide +kernel
theorem dX12_best_75 : decode cX12_best 75 = .ok (.iload_n 1, 1) := by decide +kernel
theorem dX12_best_76 : decode cX12_best 76 = .ok (.iload 7, 2) := by decide +kernel
theorem dX12_best_78 : decode cX12_best 78 = .ok (.invokevirtual 227, 3) := by decide +kernel
theorem dX12_best_81 : decode cX12_best 81 = .ok (.ifCond .eq 50, 3) := by decide +kernel
theorem dX12_best_84 : decode cX12_best 84 = .ok (.aload_n 0, 1) := by decide +kernel
theorem dX12_best_85 : decode cX12_best 85 = .ok (.iload_n 2, 1) := by decide +kernel
theorem dX12_best_86 : decode cX12_best 86 = .ok (.iload 7, 2) := by decide +kernel
theorem dX12_best_88 : decode cX12_best 88 = .ok (.invokevirtual 227, 3) := by decide +kernel
theorem dX12_best_91 : decode cX12_best 91 = .ok (.ifCond .eq 40, 3) := by decide +kernel
theorem dX12_best_94 : decode cX12_best 94 = .ok (.aload_n 0, 1) := by decide +kernel
theorem dX12_best_95 : decode cX12_best 95 = .ok (.iload_n 1, 1) := by decide +kernel
theorem dX12_best_96 : decode cX12_best 96 = .ok (.iload 7, 2) := by decide +kernel
theorem dX12_best_98 : decode cX12_best 98 = .ok (.invokevirtual 224, 3) := by decide +kernel
theorem dX12_best_101 : decode cX12_best 101 = .ok (.aload_n 0, 1) := by decide +kernel
theorem dX12_best_102 : decode cX12_best 102 = .ok (.iload_n 2, 1) := by decide +kernel
theorem dX12_best_103 : decode cX12_best 103 = .ok (.iload 7, 2) := by decide +kernel
theorem dX12_best_105 : decode cX12_best 105 = .ok (.invokevirtual 224, 3) := by decide +kernel
theorem dX12_best_108 : decode cX12_best 108 = .ok (.iadd, 1) := by decide +kernel
theorem dX12_best_109 : decode cX12_best 109 = .ok (.istore 8, 2) := by decide +kernel
theorem dX12_best_111 : decode cX12_best 111 = .ok (.iload 5, 2) := by decide +kernel
theorem dX12_best_113 : decode cX12_best 113 = .ok (.ifCond .lt 10, 3) := by decide +kernel
theorem dX12_best_116 : decode cX12_best 116 = .ok (.iload 8, 2) := by decide +kernel
theorem dX12_best_118 : decode cX12_best 118 = .ok (.iload 6, 2) := by decide +kernel
theorem dX12_best_120 : decode cX12_best 120 = .ok (.if_icmp .le 11, 3) := by decide +kernel
theorem dX12_best_123 : decode cX12_best 123 = .ok (.iload 7, 2) := by decide +kernel
theorem dX12_best_125 : decode cX12_best 125 = .ok (.istore 5, 2) := by decide +kernel
theorem dX12_best_127 : decode cX12_best 127 = .ok (.iload 8, 2) := by decide +kernel
theorem dX12_best_129 : decode cX12_best 129 = .ok (.istore 6, 2) := by decide +kernel
theorem dX12_best_131 : decode cX12_best 131 = .ok (.iinc 7 1, 3) := by decide +kernel
theorem dX12_best_134 : decode cX12_best 134 = .ok (.goto (-77), 3) := by decide +kernel
theorem dX12_best_137 : decode cX12_best 137 = .ok (.iload 5, 2) := by decide +kernel
theorem dX12_best_139 : decode cX12_best 139 = .ok (.ifCond .lt 21, 3) := by decide +kernel
theorem dX12_best_142 : decode cX12_best 142 = .ok (.iload 6, 2) := by decide +kernel
theorem dX12_best_144 : decode cX12_best 144 = .ok (.aload_n 0, 1) := by decide +kernel
theorem dX12_best_145 : decode cX12_best 145 = .ok (.getfield 16, 3) := by decide +kernel
theorem dX12_best_148 : decode cX12_best 148 = .ok (.iload_n 1, 1) := by decide +kernel
theorem dX12_best_149 : decode cX12_best 149 = .ok (.iaload, 1) := by decide +kernel
theorem dX12_best_150 : decode cX12_best 150 = .ok (.aload_n 0, 1) := by decide +kernel
theorem dX12_best_151 : decode cX12_best 151 = .ok (.getfield 16, 3) := by decide +kernel
theorem dX12_best_154 : decode cX12_best 154 = .ok (.iload_n 2, 1) := by decide +kernel
theorem dX12_best_155 : decode cX12_best 155 = .ok (.iaload, 1) := by decide +kernel
theorem dX12_best_156 : decode cX12_best 156 = .ok (.iadd, 1) := by decide +kernel
theorem dX12_best_157 : decode cX12_best 157 = .ok (.if_icmp .ge 7, 3) := by decide +kernel
theorem dX12_best_160 : decode cX12_best 160 = .ok (.sipush (-10004), 3) := by decide +kernel
theorem dX12_best_163 : decode cX12_best 163 = .ok (.ireturn, 1) := by decide +kernel
theorem dX12_best_164 : decode cX12_best 164 = .ok (.aload_n 0, 1) := by decide +kernel
theorem dX12_best_165 : decode cX12_best 165 = .ok (.iload_n 1, 1) := by decide +kernel
theorem dX12_best_166 : decode cX12_best 166 = .ok (.iload 5, 2) := by decide +kernel
theorem dX12_best_168 : decode cX12_best 168 = .ok (.invokevirtual 224, 3) := by decide +kernel
theorem dX12_best_171 : decode cX12_best 171 = .ok (.aload_n 0, 1) := by decide +kernel
theorem dX12_best_172 : decode cX12_best 172 = .ok (.iload_n 2, 1) := by decide +kernel
theorem dX12_best_173 : decode cX12_best 173 = .ok (.iload 5, 2) := by decide +kernel
theorem dX12_best_175 : decode cX12_best 175 = .ok (.invokevirtual 224, 3) := by decide +kernel
theorem dX12_best_178 : decode cX12_best 178 = .ok (.isub, 1) := by decide +kernel
theorem dX12_best_179 : decode cX12_best 179 = .ok (.iconst 2, 1) := by decide +kernel
theorem dX12_best_180 : decode cX12_best 180 = .ok (.idiv, 1) := by decide +kernel
theorem dX12_best_181 : decode cX12_best 181 = .ok (.istore 7, 2) := by decide +kernel
theorem dX12_best_183 : decode cX12_best 183 = .ok (.iload 7, 2) := by decide +kernel
theorem dX12_best_185 : decode cX12_best 185 = .ok (.i2l, 1) := by decide +kernel
theorem dX12_best_186 : decode cX12_best 186 = .ok (.ldc2_w 218, 3) := by decide +kernel
theorem dX12_best_189 : decode cX12_best 189 = .ok (.ldc2_w 216, 3) := by decide +kernel
theorem dX12_best_192 : decode cX12_best 192 = .ok (.invokestatic 133, 3) := by decide +kernel
theorem dX12_best_195 : decode cX12_best 195 = .ok (.ifCond .eq 16, 3) := by decide +kernel
theorem dX12_best_198 : decode cX12_best 198 = .ok (.aload_n 0, 1) := by decide +kernel
theorem dX12_best_199 : decode cX12_best 199 = .ok (.iload_n 1, 1) := by decide +kernel
theorem dX12_best_200 : decode cX12_best 200 = .ok (.iload_n 2, 1) := by decide +kernel
theorem dX12_best_201 : decode cX12_best 201 = .ok (.iload 5, 2) := by decide +kernel
theorem dX12_best_203 : decode cX12_best 203 = .ok (.iload 7, 2) := by decide +kernel
theorem dX12_best_205 : decode cX12_best 205 = .ok (.invokevirtual 230, 3) := by decide +kernel
theorem dX12_best_208 : decode cX12_best 208 = .ok (.ifCond .ne 7, 3) := by decide +kernel
theorem dX12_best_211 : decode cX12_best 211 = .ok (.sipush (-10004), 3) := by decide +kernel
theorem dX12_best_214 : decode cX12_best 214 = .ok (.ireturn, 1) := by decide +kernel
theorem dX12_best_215 : decode cX12_best 215 = .ok (.iload_n 3, 1) := by decide +kernel
theorem dX12_best_216 : decode cX12_best 216 = .ok (.ifCond .ne 8, 3) := by decide +kernel
theorem dX12_best_219 : decode cX12_best 219 = .ok (.iload 5, 2) := by decide +kernel
theorem dX12_best_221 : decode cX12_best 221 = .ok (.goto 41, 3) := by decide +kernel
theorem dX12_best_224 : decode cX12_best 224 = .ok (.iload_n 3, 1) := by decide +kernel
theorem dX12_best_225 : decode cX12_best 225 = .ok (.iconst 1, 1) := by decide +kernel
theorem dX12_best_226 : decode cX12_best 226 = .ok (.if_icmp .ne 8, 3) := by decide +kernel
theorem dX12_best_229 : decode cX12_best 229 = .ok (.iload 7, 2) := by decide +kernel
theorem dX12_best_231 : decode cX12_best 231 = .ok (.goto 31, 3) := by decide +kernel
theorem dX12_best_234 : decode cX12_best 234 = .ok (.iload_n 3, 1) := by decide +kernel
theorem dX12_best_235 : decode cX12_best 235 = .ok (.iconst 2, 1) := by decide +kernel
theorem dX12_best_236 : decode cX12_best 236 = .ok (.if_icmp .ne 16, 3) := by decide +kernel
theorem dX12_best_239 : decode cX12_best 239 = .ok (.aload_n 0, 1) := by decide +kernel
theorem dX12_best_240 : decode cX12_best 240 = .ok (.iload_n 1, 1) := by decide +kernel
theorem dX12_best_241 : decode cX12_best 241 = .ok (.iload 5, 2) := by decide +kernel
theorem dX12_best_243 : decode cX12_best 243 = .ok (.invokevirtual 224, 3) := by decide +kernel
theorem dX12_best_246 : decode cX12_best 246 = .ok (.iload 7, 2) := by decide +kernel
theorem dX12_best_248 : decode cX12_best 248 = .ok (.isub, 1) := by decide +kernel
theorem dX12_best_249 : decode cX12_best 249 = .ok (.goto 13, 3) := by decide +kernel
theorem dX12_best_252 : decode cX12_best 252 = .ok (.aload_n 0, 1) := by decide +kernel
theorem dX12_best_253 : decode cX12_best 253 = .ok (.iload_n 2, 1) := by decide +kernel
theorem dX12_best_254 : decode cX12_best 254 = .ok (.iload 5, 2) := by decide +kernel
theorem dX12_best_256 : decode cX12_best 256 = .ok (.invokevirtual 224, 3) := by decide +kernel
theorem dX12_best_259 : decode cX12_best 259 = .ok (.iload 7, 2) := by decide +kernel
theorem dX12_best_261 : decode cX12_best 261 = .ok (.iadd, 1) := by decide +kernel
theorem dX12_best_262 : decode cX12_best 262 = .ok (.ireturn, 1) := by decide +kernel
theorem dX12_talk_0 : decode cX12_talk 0 = .ok (.iload_n 1, 1) := by decide +kernel
theorem dX12_talk_1 : decode cX12_talk 1 = .ok (.invokestatic 143, 3) := by decide +kernel
theorem dX12_talk_4 : decode cX12_talk 4 = .ok (.ifCond .eq 27, 3) := by decide +kernel
theorem dX12_talk_7 : decode cX12_talk 7 = .ok (.iload_n 2, 1) := by decide +kernel
theorem dX12_talk_8 : decode cX12_talk 8 = .ok (.invokestatic 143, 3) := by decide +kernel
theorem dX12_talk_11 : decode cX12_talk 11 = .ok (.ifCond .eq 20, 3) := by decide +kernel
theorem dX12_talk_14 : decode cX12_talk 14 = .ok (.iload_n 1, 1) := by decide +kernel
theorem dX12_talk_15 : decode cX12_talk 15 = .ok (.iload_n 2, 1) := by decide +kernel
theorem dX12_talk_16 : decode cX12_talk 16 = .ok (.if_icmp .eq 15, 3) := by decide +kernel
theorem dX12_talk_19 : decode cX12_talk 19 = .ok (.iload_n 3, 1) := by decide +kernel
theorem dX12_talk_20 : decode cX12_talk 20 = .ok (.i2l, 1) := by decide +kernel
theorem dX12_talk_21 : decode cX12_talk 21 = .ok (.lconst 1, 1) := by decide +kernel
theorem dX12_talk_22 : decode cX12_talk 22 = .ok (.ldc2_w 233, 3) := by decide +kernel
theorem dX12_talk_25 : decode cX12_talk 25 = .ok (.invokestatic 133, 3) := by decide +kernel
theorem dX12_talk_28 : decode cX12_talk 28 = .ok (.ifCond .ne 5, 3) := by decide +kernel
theorem dX12_talk_31 : decode cX12_talk 31 = .ok (.iconst (-1), 1) := by decide +kernel
theorem dX12_talk_32 : decode cX12_talk 32 = .ok (.ireturn, 1) := by decide +kernel
theorem dX12_talk_33 : decode cX12_talk 33 = .ok (.aload_n 0, 1) := by decide +kernel
theorem dX12_talk_34 : decode cX12_talk 34 = .ok (.invokevirtual 147, 3) := by decide +kernel
theorem dX12_talk_37 : decode cX12_talk 37 = .ok (.ifCond .eq 6, 3) := by decide +kernel
theorem dX12_talk_40 : decode cX12_talk 40 = .ok (.bipush (-2), 2) := by decide +kernel
theorem dX12_talk_42 : decode cX12_talk 42 = .ok (.ireturn, 1) := by decide +kernel
theorem dX12_talk_43 : decode cX12_talk 43 = .ok (.aload_n 0, 1) := by decide +kernel
theorem dX12_talk_44 : decode cX12_talk 44 = .ok (.iconst 1, 1) := by decide +kernel
theorem dX12_talk_45 : decode cX12_talk 45 = .ok (.putfield 137, 3) := by decide +kernel
theorem dX12_talk_48 : decode cX12_talk 48 = .ok (.aload_n 0, 1) := by decide +kernel
theorem dX12_talk_49 : decode cX12_talk 49 = .ok (.iload_n 1, 1) := by decide +kernel
theorem dX12_talk_50 : decode cX12_talk 50 = .ok (.putfield 235, 3) := by decide +kernel
theorem dX12_talk_53 : decode cX12_talk 53 = .ok (.aload_n 0, 1) := by decide +kernel
theorem dX12_talk_54 : decode cX12_talk 54 = .ok (.iload_n 2, 1) := by decide +kernel
theorem dX12_talk_55 : decode cX12_talk 55 = .ok (.putfield 238, 3) := by decide +kernel
theorem dX12_talk_58 : decode cX12_talk 58 = .ok (.aload_n 0, 1) := by decide +kernel
theorem dX12_talk_59 : decode cX12_talk 59 = .ok (.iload_n 3, 1) := by decide +kernel
theorem dX12_talk_60 : decode cX12_talk 60 = .ok (.putfield 241, 3) := by decide +kernel
theorem dX12_talk_63 : decode cX12_talk 63 = .ok (.aload_n 0, 1) := by decide +kernel
theorem dX12_talk_64 : decode cX12_talk 64 = .ok (.iconst 0, 1) := by decide +kernel
theorem dX12_talk_65 : decode cX12_talk 65 = .ok (.putfield 244, 3) := by decide +kernel
theorem dX12_talk_68 : decode cX12_talk 68 = .ok (.aload_n 0, 1) := by decide +kernel
theorem dX12_talk_69 : decode cX12_talk 69 = .ok (.aload_n 0, 1) := by decide +kernel
theorem dX12_talk_70 : decode cX12_talk 70 = .ok (.iload_n 1, 1) := by decide +kernel
theorem dX12_talk_71 : decode cX12_talk 71 = .ok (.invokevirtual 208, 3) := by decide +kernel
theorem dX12_talk_74 : decode cX12_talk 74 = .ok (.putfield 247, 3) := by decide +kernel
theorem dX12_talk_77 : decode cX12_talk 77 = .ok (.aload_n 0, 1) := by decide +kernel
theorem dX12_talk_78 : decode cX12_talk 78 = .ok (.aload_n 0, 1) := by decide +kernel
theorem dX12_talk_79 : decode cX12_talk 79 = .ok (.iload_n 2, 1) := by decide +kernel
theorem dX12_talk_80 : decode cX12_talk 80 = .ok (.invokevirtual 208, 3) := by decide +kernel
theorem dX12_talk_83 : decode cX12_talk 83 = .ok (.putfield 250, 3) := by decide +kernel
theorem dX12_talk_86 : decode cX12_talk 86 = .ok (.aload_n 0, 1) := by decide +kernel
theorem dX12_talk_87 : decode cX12_talk 87 = .ok (.aload_n 0, 1) := by decide +kernel
theorem dX12_talk_88 : decode cX12_talk 88 = .ok (.getfield 13, 3) := by decide +kernel
theorem dX12_talk_91 : decode cX12_talk 91 = .ok (.iload_n 1, 1) := by decide +kernel
theorem dX12_talk_92 : decode cX12_talk 92 = .ok (.iaload, 1) := by decide +kernel
theorem dX12_talk_93 : decode cX12_talk 93 = .ok (.putfield 253, 3) := by decide +kernel
theorem dX12_talk_96 : decode cX12_talk 96 = .ok (.aload_n 0, 1) := by decide +kernel
theorem dX12_talk_97 : decode cX12_talk 97 = .ok (.aload_n 0, 1) := by decide +kernel
theorem dX12_talk_98 : decode cX12_talk 98 = .ok (.getfield 13, 3) := by decide +kernel
theorem dX12_talk_101 : decode cX12_talk 101 = .ok (.iload_n 2, 1) := by decide +kernel
theorem dX12_talk_102 : decode cX12_talk 102 = .ok (.iaload, 1) := by decide +kernel
theorem dX12_talk_103 : decode cX12_talk 103 = .ok (.putfield 256, 3) := by decide +kernel
theorem dX12_talk_106 : decode cX12_talk 106 = .ok (.iconst 1, 1) := by decide +kernel
theorem dX12_talk_107 : decode cX12_talk 107 = .ok (.ireturn, 1) := by decide +kernel
theorem dX12_whose_0 : decode cX12_whose 0 = .ok (.iload_n 1, 1) := by decide +kernel
theorem dX12_whose_1 : decode cX12_whose 1 = .ok (.iconst 2, 1) := by decide +kernel
theorem dX12_whose_2 : decode cX12_whose 2 = .ok (.irem, 1) := by decide +kernel
theorem dX12_whose_3 : decode cX12_whose 3 = .ok (.ifCond .ne 10, 3) := by decide +kernel
theorem dX12_whose_6 : decode cX12_whose 6 = .ok (.aload_n 0, 1) := by decide +kernel
theorem dX12_whose_7 : decode cX12_whose 7 = .ok (.getfield 235, 3) := by decide +kernel
theorem dX12_whose_10 : decode cX12_whose 10 = .ok (.goto 7, 3) := by decide +kernel
theorem dX12_whose_13 : decode cX12_whose 13 = .ok (.aload_n 0, 1) := by decide +kernel
theorem dX12_whose_14 : decode cX12_whose 14 = .ok (.getfield 238, 3) := by decide +kernel
theorem dX12_whose_17 : decode cX12_whose 17 = .ok (.ireturn, 1) := by decide +kernel
theorem dX12_talks_0 : decode cX12_talks 0 = .ok (.iload_n 1, 1) := by decide +kernel
theorem dX12_talks_1 : decode cX12_talks 1 = .ok (.i2l, 1) := by decide +kernel
theorem dX12_talks_2 : decode cX12_talks 2 = .ok (.lconst 0, 1) := by decide +kernel
theorem dX12_talks_3 : decode cX12_talks 3 = .ok (.ldc2_w 212, 3) := by decide +kernel
theorem dX12_talks_6 : decode cX12_talks 6 = .ok (.invokestatic 133, 3) := by decide +kernel
theorem dX12_talks_9 : decode cX12_talks 9 = .ok (.ifCond .ne 5, 3) := by decide +kernel
theorem dX12_talks_12 : decode cX12_talks 12 = .ok (.iconst (-1), 1) := by decide +kernel
theorem dX12_talks_13 : decode cX12_talks 13 = .ok (.ireturn, 1) := by decide +kernel
theorem dX12_talks_14 : decode cX12_talks 14 = .ok (.iload_n 1, 1) := by decide +kernel
theorem dX12_talks_15 : decode cX12_talks 15 = .ok (.ifCond .ne 10, 3) := by decide +kernel
theorem dX12_talks_18 : decode cX12_talks 18 = .ok (.aload_n 0, 1) := by decide +kernel
theorem dX12_talks_19 : decode cX12_talks 19 = .ok (.getfield 137, 3) := by decide +kernel
theorem dX12_talks_22 : decode cX12_talks 22 = .ok (.goto 46, 3) := by decide +kernel
theorem dX12_talks_25 : decode cX12_talks 25 = .ok (.iload_n 1, 1) := by decide +kernel
theorem dX12_talks_26 : decode cX12_talks 26 = .ok (.iconst 1, 1) := by decide +kernel
theorem dX12_talks_27 : decode cX12_talks 27 = .ok (.if_icmp .ne 21, 3) := by decide +kernel
theorem dX12_talks_30 : decode cX12_talks 30 = .ok (.aload_n 0, 1) := by decide +kernel
theorem dX12_talks_31 : decode cX12_talks 31 = .ok (.getfield 137, 3) := by decide +kernel
theorem dX12_talks_34 : decode cX12_talks 34 = .ok (.ifCond .ne 7, 3) := by decide +kernel
theorem dX12_talks_37 : decode cX12_talks 37 = .ok (.iconst 0, 1) := by decide +kernel
theorem dX12_talks_38 : decode cX12_talks 38 = .ok (.goto 30, 3) := by decide +kernel
theorem dX12_talks_41 : decode cX12_talks 41 = .ok (.aload_n 0, 1) := by decide +kernel
theorem dX12_talks_42 : decode cX12_talks 42 = .ok (.getfield 244, 3) := by decide +kernel
theorem dX12_talks_45 : decode cX12_talks 45 = .ok (.goto 23, 3) := by decide +kernel
theorem dX12_talks_48 : decode cX12_talks 48 = .ok (.aload_n 0, 1) := by decide +kernel
theorem dX12_talks_49 : decode cX12_talks 49 = .ok (.invokevirtual 147, 3) := by decide +kernel
theorem dX12_talks_52 : decode cX12_talks 52 = .ok (.ifCond .eq 14, 3) := by decide +kernel
theorem dX12_talks_55 : decode cX12_talks 55 = .ok (.aload_n 0, 1) := by decide +kernel
theorem dX12_talks_56 : decode cX12_talks 56 = .ok (.aload_n 0, 1) := by decide +kernel
theorem dX12_talks_57 : decode cX12_talks 57 = .ok (.getfield 244, 3) := by decide +kernel
theorem dX12_talks_60 : decode cX12_talks 60 = .ok (.invokevirtual 259, 3) := by decide +kernel
theorem dX12_talks_63 : decode cX12_talks 63 = .ok (.goto 5, 3) := by decide +kernel
theorem dX12_talks_66 : decode cX12_talks 66 = .ok (.bipush (-4), 2) := by decide +kernel
theorem dX12_talks_68 : decode cX12_talks 68 = .ok (.ireturn, 1) := by decide +kernel
theorem dX12_say_0 : decode cX12_say 0 = .ok (.aload_n 0, 1) := by decide +kernel
theorem dX12_say_1 : decode cX12_say 1 = .ok (.getfield 50, 3) := by decide +kernel
theorem dX12_say_4 : decode cX12_say 4 = .ok (.aload_n 0, 1) := by decide +kernel
theorem dX12_say_5 : decode cX12_say 5 = .ok (.getfield 244, 3) := by decide +kernel
theorem dX12_say_8 : decode cX12_say 8 = .ok (.iload_n 1, 1) := by decide +kernel
theorem dX12_say_9 : decode cX12_say 9 = .ok (.iastore, 1) := by decide +kernel
theorem dX12_say_10 : decode cX12_say 10 = .ok (.aload_n 0, 1) := by decide +kernel
theorem dX12_say_11 : decode cX12_say 11 = .ok (.getfield 53, 3) := by decide +kernel
theorem dX12_say_14 : decode cX12_say 14 = .ok (.aload_n 0, 1) := by decide +kernel
theorem dX12_say_15 : decode cX12_say 15 = .ok (.getfield 244, 3) := by decide +kernel
theorem dX12_say_18 : decode cX12_say 18 = .ok (.iload_n 2, 1) := by decide +kernel
theorem dX12_say_19 : decode cX12_say 19 = .ok (.iastore, 1) := by decide +kernel
theorem dX12_say_20 : decode cX12_say 20 = .ok (.aload_n 0, 1) := by decide +kernel
theorem dX12_say_21 : decode cX12_say 21 = .ok (.getfield 56, 3) := by decide +kernel
theorem dX12_say_24 : decode cX12_say 24 = .ok (.aload_n 0, 1) := by decide +kernel
theorem dX12_say_25 : decode cX12_say 25 = .ok (.getfield 244, 3) := by decide +kernel
theorem dX12_say_28 : decode cX12_say 28 = .ok (.iload_n 3, 1) := by decide +kernel
theorem dX12_say_29 : decode cX12_say 29 = .ok (.iastore, 1) := by decide +kernel
theorem dX12_say_30 : decode cX12_say 30 = .ok (.aload_n 0, 1) := by decide +kernel
theorem dX12_say_31 : decode cX12_say 31 = .ok (.dup, 1) := by decide +kernel
theorem dX12_say_32 : decode cX12_say 32 = .ok (.getfield 244, 3) := by decide +kernel
theorem dX12_say_35 : decode cX12_say 35 = .ok (.iconst 1, 1) := by decide +kernel
theorem dX12_say_36 : decode cX12_say 36 = .ok (.iadd, 1) := by decide +kernel
theorem dX12_say_37 : decode cX12_say 37 = .ok (.putfield 244, 3) := by decide +kernel
theorem dX12_say_40 : decode cX12_say 40 = .ok (.iload_n 1, 1) := by decide +kernel
theorem dX12_say_41 : decode cX12_say 41 = .ok (.iconst 3, 1) := by decide +kernel
theorem dX12_say_42 : decode cX12_say 42 = .ok (.if_icmp .ne 11, 3) := by decide +kernel
theorem dX12_say_45 : decode cX12_say 45 = .ok (.aload_n 0, 1) := by decide +kernel
theorem dX12_say_46 : decode cX12_say 46 = .ok (.iconst 2, 1) := by decide +kernel
theorem dX12_say_47 : decode cX12_say 47 = .ok (.putfield 137, 3) := by decide +kernel
theorem dX12_say_50 : decode cX12_say 50 = .ok (.goto 32, 3) := by decide +kernel
theorem dX12_say_53 : decode cX12_say 53 = .ok (.iload_n 1, 1) := by decide +kernel
theorem dX12_say_54 : decode cX12_say 54 = .ok (.iconst 4, 1) := by decide +kernel
theorem dX12_say_55 : decode cX12_say 55 = .ok (.if_icmp .ne 11, 3) := by decide +kernel
theorem dX12_say_58 : decode cX12_say 58 = .ok (.aload_n 0, 1) := by decide +kernel
theorem dX12_say_59 : decode cX12_say 59 = .ok (.iconst 3, 1) := by decide +kernel
theorem dX12_say_60 : decode cX12_say 60 = .ok (.putfield 137, 3) := by decide +kernel
theorem dX12_say_63 : decode cX12_say 63 = .ok (.goto 19, 3) := by decide +kernel
theorem dX12_say_66 : decode cX12_say 66 = .ok (.aload_n 0, 1) := by decide +kernel
theorem dX12_say_67 : decode cX12_say 67 = .ok (.getfield 244, 3) := by decide +kernel
theorem dX12_say_70 : decode cX12_say 70 = .ok (.aload_n 0, 1) := by decide +kernel
theorem dX12_say_71 : decode cX12_say 71 = .ok (.getfield 241, 3) := by decide +kernel
theorem dX12_say_74 : decode cX12_say 74 = .ok (.if_icmp .ne 8, 3) := by decide +kernel
theorem dX12_say_77 : decode cX12_say 77 = .ok (.aload_n 0, 1) := by decide +kernel
theorem dX12_say_78 : decode cX12_say 78 = .ok (.iconst 4, 1) := by decide +kernel
theorem dX12_say_79 : decode cX12_say 79 = .ok (.putfield 137, 3) := by decide +kernel
theorem dX12_say_82 : decode cX12_say 82 = .ok (.return_, 1) := by decide +kernel
theorem dX12_ask_0 : decode cX12_ask 0 = .ok (.iload_n 1, 1) := by decide +kernel
theorem dX12_ask_1 : decode cX12_ask 1 = .ok (.i2l, 1) := by decide +kernel
theorem dX12_ask_2 : decode cX12_ask 2 = .ok (.lconst 0, 1) := by decide +kernel
theorem dX12_ask_3 : decode cX12_ask 3 = .ok (.ldc2_w 141, 3) := by decide +kernel
theorem dX12_ask_6 : decode cX12_ask 6 = .ok (.invokestatic 133, 3) := by decide +kernel
theorem dX12_ask_9 : decode cX12_ask 9 = .ok (.ifCond .ne 5, 3) := by decide +kernel
theorem dX12_ask_12 : decode cX12_ask 12 = .ok (.iconst (-1), 1) := by decide +kernel
theorem dX12_ask_13 : decode cX12_ask 13 = .ok (.ireturn, 1) := by decide +kernel
theorem dX12_ask_14 : decode cX12_ask 14 = .ok (.aload_n 0, 1) := by decide +kernel
theorem dX12_ask_15 : decode cX12_ask 15 = .ok (.invokevirtual 147, 3) := by decide +kernel
theorem dX12_ask_18 : decode cX12_ask 18 = .ok (.ifCond .eq 22, 3) := by decide +kernel
theorem dX12_ask_21 : decode cX12_ask 21 = .ok (.aload_n 0, 1) := by decide +kernel
theorem dX12_ask_22 : decode cX12_ask 22 = .ok (.getfield 7, 3) := by decide +kernel
theorem dX12_ask_25 : decode cX12_ask 25 = .ok (.iload_n 1, 1) := by decide +kernel
theorem dX12_ask_26 : decode cX12_ask 26 = .ok (.iaload, 1) := by decide +kernel
theorem dX12_ask_27 : decode cX12_ask 27 = .ok (.aload_n 0, 1) := by decide +kernel
theorem dX12_ask_28 : decode cX12_ask 28 = .ok (.aload_n 0, 1) := by decide +kernel
theorem dX12_ask_29 : decode cX12_ask 29 = .ok (.getfield 244, 3) := by decide +kernel
theorem dX12_ask_32 : decode cX12_ask 32 = .ok (.iconst 1, 1) := by decide +kernel
theorem dX12_ask_33 : decode cX12_ask 33 = .ok (.iadd, 1) := by decide +kernel
theorem dX12_ask_34 : decode cX12_ask 34 = .ok (.invokevirtual 259, 3) := by decide +kernel
theorem dX12_ask_37 : decode cX12_ask 37 = .ok (.if_icmp .eq 6, 3) := by decide +kernel
theorem dX12_ask_40 : decode cX12_ask 40 = .ok (.bipush (-2), 2) := by decide +kernel
theorem dX12_ask_42 : decode cX12_ask 42 = .ok (.ireturn, 1) := by decide +kernel
theorem dX12_ask_43 : decode cX12_ask 43 = .ok (.aload_n 0, 1) := by decide +kernel
theorem dX12_ask_44 : decode cX12_ask 44 = .ok (.iconst 0, 1) := by decide +kernel
theorem dX12_ask_45 : decode cX12_ask 45 = .ok (.iconst 0, 1) := by decide +kernel
theorem dX12_ask_46 : decode cX12_ask 46 = .ok (.iconst 0, 1) := by decide +kernel
theorem dX12_ask_47 : decode cX12_ask 47 = .ok (.invokevirtual 262, 3) := by decide +kernel
theorem dX12_ask_50 : decode cX12_ask 50 = .ok (.iconst 1, 1) := by decide +kernel
theorem dX12_ask_51 : decode cX12_ask 51 = .ok (.ireturn, 1) := by decide +kernel
theorem dX12_isOffer_0 : decode cX12_isOffer 0 = .ok (.iload_n 1, 1) := by decide +kernel
theorem dX12_isOffer_1 : decode cX12_isOffer 1 = .ok (.i2l, 1) := by decide +kernel
theorem dX12_isOffer_2 : decode cX12_isOffer 2 = .ok (.lconst 0, 1) := by decide +kernel
theorem dX12_isOffer_3 : decode cX12_isOffer 3 = .ok (.aload_n 0, 1) := by decide +kernel
theorem dX12_isOffer_4 : decode cX12_isOffer 4 = .ok (.getfield 244, 3) := by decide +kernel
theorem dX12_isOffer_7 : decode cX12_isOffer 7 = .ok (.iconst 1, 1) := by decide +kernel
theorem dX12_isOffer_8 : decode cX12_isOffer 8 = .ok (.isub, 1) := by decide +kernel
theorem dX12_isOffer_9 : decode cX12_isOffer 9 = .ok (.i2l, 1) := by decide +kernel
theorem dX12_isOffer_10 : decode cX12_isOffer 10 = .ok (.invokestatic 133, 3) := by decide +kernel
theorem dX12_isOffer_13 : decode cX12_isOffer 13 = .ok (.ifCond .eq 27, 3) := by decide +kernel
theorem dX12_isOffer_16 : decode cX12_isOffer 16 = .ok (.aload_n 0, 1) := by decide +kernel
theorem dX12_isOffer_17 : decode cX12_isOffer 17 = .ok (.getfield 50, 3) := by decide +kernel
theorem dX12_isOffer_20 : decode cX12_isOffer 20 = .ok (.iload_n 1, 1) := by decide +kernel
theorem dX12_isOffer_21 : decode cX12_isOffer 21 = .ok (.iaload, 1) := by decide +kernel
theorem dX12_isOffer_22 : decode cX12_isOffer 22 = .ok (.iconst 1, 1) := by decide +kernel
theorem dX12_isOffer_23 : decode cX12_isOffer 23 = .ok (.if_icmp .eq 13, 3) := by decide +kernel
theorem dX12_isOffer_26 : decode cX12_isOffer 26 = .ok (.aload_n 0, 1) := by decide +kernel
theorem dX12_isOffer_27 : decode cX12_isOffer 27 = .ok (.getfield 50, 3) := by decide +kernel
theorem dX12_isOffer_30 : decode cX12_isOffer 30 = .ok (.iload_n 1, 1) := by decide +kernel
theorem dX12_isOffer_31 : decode cX12_isOffer 31 = .ok (.iaload, 1) := by decide +kernel
theorem dX12_isOffer_32 : decode cX12_isOffer 32 = .ok (.iconst 2, 1) := by decide +kernel
theorem dX12_isOffer_33 : decode cX12_isOffer 33 = .ok (.if_icmp .ne 7, 3) := by decide +kernel
theorem dX12_isOffer_36 : decode cX12_isOffer 36 = .ok (.iconst 1, 1) := by decide +kernel
theorem dX12_isOffer_37 : decode cX12_isOffer 37 = .ok (.goto 4, 3) := by decide +kernel
theorem dX12_isOffer_40 : decode cX12_isOffer 40 = .ok (.iconst 0, 1) := by decide +kernel
theorem dX12_isOffer_41 : decode cX12_isOffer 41 = .ok (.ireturn, 1) := by decide +kernel
theorem dX12_sayOffer_0 : decode cX12_sayOffer 0 = .ok (.aload_n 0, 1) := by decide +kernel
theorem dX12_sayOffer_1 : decode cX12_sayOffer 1 = .ok (.aload_n 0, 1) := by decide +kernel
theorem dX12_sayOffer_2 : decode cX12_sayOffer 2 = .ok (.getfield 244, 3) := by decide +kernel
theorem dX12_sayOffer_5 : decode cX12_sayOffer 5 = .ok (.iconst 1, 1) := by decide +kernel
theorem dX12_sayOffer_6 : decode cX12_sayOffer 6 = .ok (.isub, 1) := by decide +kernel
theorem dX12_sayOffer_7 : decode cX12_sayOffer 7 = .ok (.invokevirtual 266, 3) := by decide +kernel
theorem dX12_sayOffer_10 : decode cX12_sayOffer 10 = .ok (.ifCond .eq 7, 3) := by decide +kernel
theorem dX12_sayOffer_13 : decode cX12_sayOffer 13 = .ok (.iconst 2, 1) := by decide +kernel
theorem dX12_sayOffer_14 : decode cX12_sayOffer 14 = .ok (.goto 4, 3) := by decide +kernel
theorem dX12_sayOffer_17 : decode cX12_sayOffer 17 = .ok (.iconst 1, 1) := by decide +kernel
theorem dX12_sayOffer_18 : decode cX12_sayOffer 18 = .ok (.istore_n 3, 1) := by decide +kernel
theorem dX12_sayOffer_19 : decode cX12_sayOffer 19 = .ok (.aload_n 0, 1) := by decide +kernel
theorem dX12_sayOffer_20 : decode cX12_sayOffer 20 = .ok (.iload_n 3, 1) := by decide +kernel
theorem dX12_sayOffer_21 : decode cX12_sayOffer 21 = .ok (.iload_n 1, 1) := by decide +kernel
theorem dX12_sayOffer_22 : decode cX12_sayOffer 22 = .ok (.iload_n 2, 1) := by decide +kernel
theorem dX12_sayOffer_23 : decode cX12_sayOffer 23 = .ok (.invokevirtual 262, 3) := by decide +kernel
theorem dX12_sayOffer_26 : decode cX12_sayOffer 26 = .ok (.iload_n 3, 1) := by decide +kernel
theorem dX12_sayOffer_27 : decode cX12_sayOffer 27 = .ok (.ireturn, 1) := by decide +kernel
theorem dX12_offer_0 : decode cX12_offer 0 = .ok (.aload_n 0, 1) := by decide +kernel
theorem dX12_offer_1 : decode cX12_offer 1 = .ok (.invokevirtual 147, 3) := by decide +kernel
theorem dX12_offer_4 : decode cX12_offer 4 = .ok (.ifCond .ne 6, 3) := by decide +kernel
theorem dX12_offer_7 : decode cX12_offer 7 = .ok (.bipush (-2), 2) := by decide +kernel
theorem dX12_offer_9 : decode cX12_offer 9 = .ok (.ireturn, 1) := by decide +kernel
theorem dX12_offer_10 : decode cX12_offer 10 = .ok (.aload_n 0, 1) := by decide +kernel
theorem dX12_offer_11 : decode cX12_offer 11 = .ok (.aload_n 0, 1) := by decide +kernel
theorem dX12_offer_12 : decode cX12_offer 12 = .ok (.getfield 235, 3) := by decide +kernel
theorem dX12_offer_15 : decode cX12_offer 15 = .ok (.aload_n 0, 1) := by decide +kernel
theorem dX12_offer_16 : decode cX12_offer 16 = .ok (.getfield 238, 3) := by decide +kernel
theorem dX12_offer_19 : decode cX12_offer 19 = .ok (.iload_n 1, 1) := by decide +kernel
theorem dX12_offer_20 : decode cX12_offer 20 = .ok (.iload_n 2, 1) := by decide +kernel
theorem dX12_offer_21 : decode cX12_offer 21 = .ok (.invokevirtual 220, 3) := by decide +kernel
theorem dX12_offer_24 : decode cX12_offer 24 = .ok (.ifCond .eq 12, 3) := by decide +kernel
theorem dX12_offer_27 : decode cX12_offer 27 = .ok (.aload_n 0, 1) := by decide +kernel
theorem dX12_offer_28 : decode cX12_offer 28 = .ok (.iload_n 1, 1) := by decide +kernel
theorem dX12_offer_29 : decode cX12_offer 29 = .ok (.iload_n 2, 1) := by decide +kernel
theorem dX12_offer_30 : decode cX12_offer 30 = .ok (.invokevirtual 269, 3) := by decide +kernel
theorem dX12_offer_33 : decode cX12_offer 33 = .ok (.goto 4, 3) := by decide +kernel
theorem dX12_offer_36 : decode cX12_offer 36 = .ok (.iconst (-1), 1) := by decide +kernel
theorem dX12_offer_37 : decode cX12_offer 37 = .ok (.ireturn, 1) := by decide +kernel
theorem dX12_yesGain_0 : decode cX12_yesGain 0 = .ok (.aload_n 0, 1) := by decide +kernel
theorem dX12_yesGain_1 : decode cX12_yesGain 1 = .ok (.getfield 244, 3) := by decide +kernel
theorem dX12_yesGain_4 : decode cX12_yesGain 4 = .ok (.iconst 1, 1) := by decide +kernel
theorem dX12_yesGain_5 : decode cX12_yesGain 5 = .ok (.isub, 1) := by decide +kernel
theorem dX12_yesGain_6 : decode cX12_yesGain 6 = .ok (.istore_n 1, 1) := by decide +kernel
theorem dX12_yesGain_7 : decode cX12_yesGain 7 = .ok (.aload_n 0, 1) := by decide +kernel
theorem dX12_yesGain_8 : decode cX12_yesGain 8 = .ok (.iload_n 1, 1) := by decide +kernel
theorem dX12_yesGain_9 : decode cX12_yesGain 9 = .ok (.invokevirtual 266, 3) := by decide +kernel
theorem dX12_yesGain_12 : decode cX12_yesGain 12 = .ok (.ifCond .eq 30, 3) := by decide +kernel
theorem dX12_yesGain_15 : decode cX12_yesGain 15 = .ok (.aload_n 0, 1) := by decide +kernel
theorem dX12_yesGain_16 : decode cX12_yesGain 16 = .ok (.aload_n 0, 1) := by decide +kernel
theorem dX12_yesGain_17 : decode cX12_yesGain 17 = .ok (.getfield 235, 3) := by decide +kernel
theorem dX12_yesGain_20 : decode cX12_yesGain 20 = .ok (.aload_n 0, 1) := by decide +kernel
theorem dX12_yesGain_21 : decode cX12_yesGain 21 = .ok (.getfield 238, 3) := by decide +kernel
theorem dX12_yesGain_24 : decode cX12_yesGain 24 = .ok (.aload_n 0, 1) := by decide +kernel
theorem dX12_yesGain_25 : decode cX12_yesGain 25 = .ok (.getfield 53, 3) := by decide +kernel
theorem dX12_yesGain_28 : decode cX12_yesGain 28 = .ok (.iload_n 1, 1) := by decide +kernel
theorem dX12_yesGain_29 : decode cX12_yesGain 29 = .ok (.iaload, 1) := by decide +kernel
theorem dX12_yesGain_30 : decode cX12_yesGain 30 = .ok (.aload_n 0, 1) := by decide +kernel
theorem dX12_yesGain_31 : decode cX12_yesGain 31 = .ok (.getfield 56, 3) := by decide +kernel
theorem dX12_yesGain_34 : decode cX12_yesGain 34 = .ok (.iload_n 1, 1) := by decide +kernel
theorem dX12_yesGain_35 : decode cX12_yesGain 35 = .ok (.iaload, 1) := by decide +kernel
theorem dX12_yesGain_36 : decode cX12_yesGain 36 = .ok (.invokevirtual 230, 3) := by decide +kernel
theorem dX12_yesGain_39 : decode cX12_yesGain 39 = .ok (.ifCond .ne 7, 3) := by decide +kernel
theorem dX12_yesGain_42 : decode cX12_yesGain 42 = .ok (.sipush (-10002), 3) := by decide +kernel
theorem dX12_yesGain_45 : decode cX12_yesGain 45 = .ok (.ireturn, 1) := by decide +kernel
theorem dX12_yesGain_46 : decode cX12_yesGain 46 = .ok (.aload_n 0, 1) := by decide +kernel
theorem dX12_yesGain_47 : decode cX12_yesGain 47 = .ok (.aload_n 0, 1) := by decide +kernel
theorem dX12_yesGain_48 : decode cX12_yesGain 48 = .ok (.getfield 244, 3) := by decide +kernel
theorem dX12_yesGain_51 : decode cX12_yesGain 51 = .ok (.invokevirtual 259, 3) := by decide +kernel
theorem dX12_yesGain_54 : decode cX12_yesGain 54 = .ok (.istore_n 2, 1) := by decide +kernel
theorem dX12_yesGain_55 : decode cX12_yesGain 55 = .ok (.aload_n 0, 1) := by decide +kernel
theorem dX12_yesGain_56 : decode cX12_yesGain 56 = .ok (.iload_n 2, 1) := by decide +kernel
theorem dX12_yesGain_57 : decode cX12_yesGain 57 = .ok (.aload_n 0, 1) := by decide +kernel
theorem dX12_yesGain_58 : decode cX12_yesGain 58 = .ok (.getfield 53, 3) := by decide +kernel
theorem dX12_yesGain_61 : decode cX12_yesGain 61 = .ok (.iload_n 1, 1) := by decide +kernel
theorem dX12_yesGain_62 : decode cX12_yesGain 62 = .ok (.iaload, 1) := by decide +kernel
theorem dX12_yesGain_63 : decode cX12_yesGain 63 = .ok (.invokevirtual 224, 3) := by decide +kernel
theorem dX12_yesGain_66 : decode cX12_yesGain 66 = .ok (.iload_n 2, 1) := by decide +kernel
theorem dX12_yesGain_67 : decode cX12_yesGain 67 = .ok (.aload_n 0, 1) := by decide +kernel
theorem dX12_yesGain_68 : decode cX12_yesGain 68 = .ok (.getfield 235, 3) := by decide +kernel
theorem dX12_yesGain_71 : decode cX12_yesGain 71 = .ok (.if_icmp .ne 13, 3) := by decide +kernel
theorem dX12_yesGain_74 : decode cX12_yesGain 74 = .ok (.aload_n 0, 1) := by decide +kernel
theorem dX12_yesGain_75 : decode cX12_yesGain 75 = .ok (.getfield 56, 3) := by decide +kernel
theorem dX12_yesGain_78 : decode cX12_yesGain 78 = .ok (.iload_n 1, 1) := by decide +kernel
theorem dX12_yesGain_79 : decode cX12_yesGain 79 = .ok (.iaload, 1) := by decide +kernel
theorem dX12_yesGain_80 : decode cX12_yesGain 80 = .ok (.ineg, 1) := by decide +kernel
theorem dX12_yesGain_81 : decode cX12_yesGain 81 = .ok (.goto 9, 3) := by decide +kernel
theorem dX12_yesGain_84 : decode cX12_yesGain 84 = .ok (.aload_n 0, 1) := by decide +kernel
theorem dX12_yesGain_85 : decode cX12_yesGain 85 = .ok (.getfield 56, 3) := by decide +kernel
theorem dX12_yesGain_88 : decode cX12_yesGain 88 = .ok (.iload_n 1, 1) := by decide +kernel
theorem dX12_yesGain_89 : decode cX12_yesGain 89 = .ok (.iaload, 1) := by decide +kernel
theorem dX12_yesGain_90 : decode cX12_yesGain 90 = .ok (.iadd, 1) := by decide +kernel
theorem dX12_yesGain_91 : decode cX12_yesGain 91 = .ok (.istore_n 3, 1) := by decide +kernel
theorem dX12_yesGain_92 : decode cX12_yesGain 92 = .ok (.iload_n 3, 1) := by decide +kernel
theorem dX12_yesGain_93 : decode cX12_yesGain 93 = .ok (.aload_n 0, 1) := by decide +kernel
theorem dX12_yesGain_94 : decode cX12_yesGain 94 = .ok (.getfield 16, 3) := by decide +kernel
theorem dX12_yesGain_97 : decode cX12_yesGain 97 = .ok (.iload_n 2, 1) := by decide +kernel
theorem dX12_yesGain_98 : decode cX12_yesGain 98 = .ok (.iaload, 1) := by decide +kernel
theorem dX12_yesGain_99 : decode cX12_yesGain 99 = .ok (.if_icmp .ge 9, 3) := by decide +kernel
theorem dX12_yesGain_102 : decode cX12_yesGain 102 = .ok (.sipush (-10002), 3) := by decide +kernel
theorem dX12_yesGain_105 : decode cX12_yesGain 105 = .ok (.goto 4, 3) := by decide +kernel
theorem dX12_yesGain_108 : decode cX12_yesGain 108 = .ok (.iload_n 3, 1) := by decide +kernel
theorem dX12_yesGain_109 : decode cX12_yesGain 109 = .ok (.ireturn, 1) := by decide +kernel
theorem dX12_agree_0 : decode cX12_agree 0 = .ok (.aload_n 0, 1) := by decide +kernel
theorem dX12_agree_1 : decode cX12_agree 1 = .ok (.getfield 53, 3) := by decide +kernel
theorem dX12_agree_4 : decode cX12_agree 4 = .ok (.aload_n 0, 1) := by decide +kernel
theorem dX12_agree_5 : decode cX12_agree 5 = .ok (.getfield 244, 3) := by decide +kernel
theorem dX12_agree_8 : decode cX12_agree 8 = .ok (.iconst 1, 1) := by decide +kernel
theorem dX12_agree_9 : decode cX12_agree 9 = .ok (.isub, 1) := by decide +kernel
theorem dX12_agree_10 : decode cX12_agree 10 = .ok (.iaload, 1) := by decide +kernel
theorem dX12_agree_11 : decode cX12_agree 11 = .ok (.istore_n 1, 1) := by decide +kernel
theorem dX12_agree_12 : decode cX12_agree 12 = .ok (.aload_n 0, 1) := by decide +kernel
theorem dX12_agree_13 : decode cX12_agree 13 = .ok (.getfield 56, 3) := by decide +kernel
theorem dX12_agree_16 : decode cX12_agree 16 = .ok (.aload_n 0, 1) := by decide +kernel
theorem dX12_agree_17 : decode cX12_agree 17 = .ok (.getfield 244, 3) := by decide +kernel
theorem dX12_agree_20 : decode cX12_agree 20 = .ok (.iconst 1, 1) := by decide +kernel
theorem dX12_agree_21 : decode cX12_agree 21 = .ok (.isub, 1) := by decide +kernel
theorem dX12_agree_22 : decode cX12_agree 22 = .ok (.iaload, 1) := by decide +kernel
theorem dX12_agree_23 : decode cX12_agree 23 = .ok (.istore_n 2, 1) := by decide +kernel
theorem dX12_agree_24 : decode cX12_agree 24 = .ok (.iconst 0, 1) := by decide +kernel
theorem dX12_agree_25 : decode cX12_agree 25 = .ok (.istore_n 3, 1) := by decide +kernel
theorem dX12_agree_26 : decode cX12_agree 26 = .ok (.iload_n 3, 1) := by decide +kernel
theorem dX12_agree_27 : decode cX12_agree 27 = .ok (.bipush 6, 2) := by decide +kernel
theorem dX12_agree_29 : decode cX12_agree 29 = .ok (.if_icmp .ge 48, 3) := by decide +kernel
theorem dX12_agree_32 : decode cX12_agree 32 = .ok (.iload_n 1, 1) := by decide +kernel
theorem dX12_agree_33 : decode cX12_agree 33 = .ok (.iload_n 3, 1) := by decide +kernel
theorem dX12_agree_34 : decode cX12_agree 34 = .ok (.ishr, 1) := by decide +kernel
theorem dX12_agree_35 : decode cX12_agree 35 = .ok (.iconst 1, 1) := by decide +kernel
theorem dX12_agree_36 : decode cX12_agree 36 = .ok (.iand, 1) := by decide +kernel
theorem dX12_agree_37 : decode cX12_agree 37 = .ok (.iconst 1, 1) := by decide +kernel
theorem dX12_agree_38 : decode cX12_agree 38 = .ok (.if_icmp .ne 33, 3) := by decide +kernel
theorem dX12_agree_41 : decode cX12_agree 41 = .ok (.aload_n 0, 1) := by decide +kernel
theorem dX12_agree_42 : decode cX12_agree 42 = .ok (.getfield 7, 3) := by decide +kernel
theorem dX12_agree_45 : decode cX12_agree 45 = .ok (.iload_n 3, 1) := by decide +kernel
theorem dX12_agree_46 : decode cX12_agree 46 = .ok (.aload_n 0, 1) := by decide +kernel
theorem dX12_agree_47 : decode cX12_agree 47 = .ok (.getfield 7, 3) := by decide +kernel
theorem dX12_agree_50 : decode cX12_agree 50 = .ok (.iload_n 3, 1) := by decide +kernel
theorem dX12_agree_51 : decode cX12_agree 51 = .ok (.iaload, 1) := by decide +kernel
theorem dX12_agree_52 : decode cX12_agree 52 = .ok (.aload_n 0, 1) := by decide +kernel
theorem dX12_agree_53 : decode cX12_agree 53 = .ok (.getfield 235, 3) := by decide +kernel
theorem dX12_agree_56 : decode cX12_agree 56 = .ok (.if_icmp .ne 10, 3) := by decide +kernel
theorem dX12_agree_59 : decode cX12_agree 59 = .ok (.aload_n 0, 1) := by decide +kernel
theorem dX12_agree_60 : decode cX12_agree 60 = .ok (.getfield 238, 3) := by decide +kernel
theorem dX12_agree_63 : decode cX12_agree 63 = .ok (.goto 7, 3) := by decide +kernel
theorem dX12_agree_66 : decode cX12_agree 66 = .ok (.aload_n 0, 1) := by decide +kernel
theorem dX12_agree_67 : decode cX12_agree 67 = .ok (.getfield 235, 3) := by decide +kernel
theorem dX12_agree_70 : decode cX12_agree 70 = .ok (.iastore, 1) := by decide +kernel
theorem dX12_agree_71 : decode cX12_agree 71 = .ok (.iinc 3 1, 3) := by decide +kernel
theorem dX12_agree_74 : decode cX12_agree 74 = .ok (.goto (-48), 3) := by decide +kernel
theorem dX12_agree_77 : decode cX12_agree 77 = .ok (.aload_n 0, 1) := by decide +kernel
theorem dX12_agree_78 : decode cX12_agree 78 = .ok (.getfield 13, 3) := by decide +kernel
theorem dX12_agree_81 : decode cX12_agree 81 = .ok (.aload_n 0, 1) := by decide +kernel
theorem dX12_agree_82 : decode cX12_agree 82 = .ok (.getfield 235, 3) := by decide +kernel
theorem dX12_agree_85 : decode cX12_agree 85 = .ok (.dup2, 1) := by decide +kernel
theorem dX12_agree_86 : decode cX12_agree 86 = .ok (.iaload, 1) := by decide +kernel
theorem dX12_agree_87 : decode cX12_agree 87 = .ok (.iload_n 2, 1) := by decide +kernel
theorem dX12_agree_88 : decode cX12_agree 88 = .ok (.isub, 1) := by decide +kernel
theorem dX12_agree_89 : decode cX12_agree 89 = .ok (.iastore, 1) := by decide +kernel
theorem dX12_agree_90 : decode cX12_agree 90 = .ok (.aload_n 0, 1) := by decide +kernel
theorem dX12_agree_91 : decode cX12_agree 91 = .ok (.getfield 13, 3) := by decide +kernel
theorem dX12_agree_94 : decode cX12_agree 94 = .ok (.aload_n 0, 1) := by decide +kernel
theorem dX12_agree_95 : decode cX12_agree 95 = .ok (.getfield 238, 3) := by decide +kernel
theorem dX12_agree_98 : decode cX12_agree 98 = .ok (.dup2, 1) := by decide +kernel
theorem dX12_agree_99 : decode cX12_agree 99 = .ok (.iaload, 1) := by decide +kernel
theorem dX12_agree_100 : decode cX12_agree 100 = .ok (.iload_n 2, 1) := by decide +kernel
theorem dX12_agree_101 : decode cX12_agree 101 = .ok (.iadd, 1) := by decide +kernel
theorem dX12_agree_102 : decode cX12_agree 102 = .ok (.iastore, 1) := by decide +kernel
theorem dX12_agree_103 : decode cX12_agree 103 = .ok (.aload_n 0, 1) := by decide +kernel
theorem dX12_agree_104 : decode cX12_agree 104 = .ok (.iconst 3, 1) := by decide +kernel
theorem dX12_agree_105 : decode cX12_agree 105 = .ok (.iconst 0, 1) := by decide +kernel
theorem dX12_agree_106 : decode cX12_agree 106 = .ok (.iconst 0, 1) := by decide +kernel
theorem dX12_agree_107 : decode cX12_agree 107 = .ok (.invokevirtual 262, 3) := by decide +kernel
theorem dX12_agree_110 : decode cX12_agree 110 = .ok (.return_, 1) := by decide +kernel
theorem dX12_yes_0 : decode cX12_yes 0 = .ok (.aload_n 0, 1) := by decide +kernel
theorem dX12_yes_1 : decode cX12_yes 1 = .ok (.invokevirtual 147, 3) := by decide +kernel
theorem dX12_yes_4 : decode cX12_yes 4 = .ok (.ifCond .eq 10, 3) := by decide +kernel
theorem dX12_yes_7 : decode cX12_yes 7 = .ok (.aload_n 0, 1) := by decide +kernel
theorem dX12_yes_8 : decode cX12_yes 8 = .ok (.invokevirtual 272, 3) := by decide +kernel
theorem dX12_yes_11 : decode cX12_yes 11 = .ok (.goto 6, 3) := by decide +kernel
theorem dX12_yes_14 : decode cX12_yes 14 = .ok (.sipush (-10002), 3) := by decide +kernel
theorem dX12_yes_17 : decode cX12_yes 17 = .ok (.istore_n 1, 1) := by decide +kernel
theorem dX12_yes_18 : decode cX12_yes 18 = .ok (.iload_n 1, 1) := by decide +kernel
theorem dX12_yes_19 : decode cX12_yes 19 = .ok (.sipush (-10000), 3) := by decide +kernel
theorem dX12_yes_22 : decode cX12_yes 22 = .ok (.if_icmp .le 7, 3) := by decide +kernel
theorem dX12_yes_25 : decode cX12_yes 25 = .ok (.aload_n 0, 1) := by decide +kernel
theorem dX12_yes_26 : decode cX12_yes 26 = .ok (.invokevirtual 275, 3) := by decide +kernel
theorem dX12_yes_29 : decode cX12_yes 29 = .ok (.iload_n 1, 1) := by decide +kernel
theorem dX12_yes_30 : decode cX12_yes 30 = .ok (.ireturn, 1) := by decide +kernel
theorem dX12_walk_0 : decode cX12_walk 0 = .ok (.aload_n 0, 1) := by decide +kernel
theorem dX12_walk_1 : decode cX12_walk 1 = .ok (.invokevirtual 147, 3) := by decide +kernel
theorem dX12_walk_4 : decode cX12_walk 4 = .ok (.ifCond .ne 6, 3) := by decide +kernel
theorem dX12_walk_7 : decode cX12_walk 7 = .ok (.bipush (-2), 2) := by decide +kernel
theorem dX12_walk_9 : decode cX12_walk 9 = .ok (.ireturn, 1) := by decide +kernel
theorem dX12_walk_10 : decode cX12_walk 10 = .ok (.aload_n 0, 1) := by decide +kernel
theorem dX12_walk_11 : decode cX12_walk 11 = .ok (.iconst 4, 1) := by decide +kernel
theorem dX12_walk_12 : decode cX12_walk 12 = .ok (.iconst 0, 1) := by decide +kernel
theorem dX12_walk_13 : decode cX12_walk 13 = .ok (.iconst 0, 1) := by decide +kernel
theorem dX12_walk_14 : decode cX12_walk 14 = .ok (.invokevirtual 262, 3) := by decide +kernel
theorem dX12_walk_17 : decode cX12_walk 17 = .ok (.aload_n 0, 1) := by decide +kernel
theorem dX12_walk_18 : decode cX12_walk 18 = .ok (.getfield 244, 3) := by decide +kernel
theorem dX12_walk_21 : decode cX12_walk 21 = .ok (.ireturn, 1) := by decide +kernel
theorem dX12_levelOf_0 : decode cX12_levelOf 0 = .ok (.aload_n 0, 1) := by decide +kernel
theorem dX12_levelOf_1 : decode cX12_levelOf 1 = .ok (.getfield 19, 3) := by decide +kernel
theorem dX12_levelOf_4 : decode cX12_levelOf 4 = .ok (.iload_n 1, 1) := by decide +kernel
theorem dX12_levelOf_5 : decode cX12_levelOf 5 = .ok (.iaload, 1) := by decide +kernel
theorem dX12_levelOf_6 : decode cX12_levelOf 6 = .ok (.iload_n 2, 1) := by decide +kernel
theorem dX12_levelOf_7 : decode cX12_levelOf 7 = .ok (.aload_n 0, 1) := by decide +kernel
theorem dX12_levelOf_8 : decode cX12_levelOf 8 = .ok (.getfield 22, 3) := by decide +kernel
theorem dX12_levelOf_11 : decode cX12_levelOf 11 = .ok (.iload_n 1, 1) := by decide +kernel
theorem dX12_levelOf_12 : decode cX12_levelOf 12 = .ok (.iaload, 1) := by decide +kernel
theorem dX12_levelOf_13 : decode cX12_levelOf 13 = .ok (.imul, 1) := by decide +kernel
theorem dX12_levelOf_14 : decode cX12_levelOf 14 = .ok (.isub, 1) := by decide +kernel
theorem dX12_levelOf_15 : decode cX12_levelOf 15 = .ok (.istore_n 3, 1) := by decide +kernel
theorem dX12_levelOf_16 : decode cX12_levelOf 16 = .ok (.iload_n 3, 1) := by decide +kernel
theorem dX12_levelOf_17 : decode cX12_levelOf 17 = .ok (.aload_n 0, 1) := by decide +kernel
theorem dX12_levelOf_18 : decode cX12_levelOf 18 = .ok (.getfield 16, 3) := by decide +kernel
theorem dX12_levelOf_21 : decode cX12_levelOf 21 = .ok (.iload_n 1, 1) := by decide +kernel
theorem dX12_levelOf_22 : decode cX12_levelOf 22 = .ok (.iaload, 1) := by decide +kernel
theorem dX12_levelOf_23 : decode cX12_levelOf 23 = .ok (.if_icmp .ge 12, 3) := by decide +kernel
theorem dX12_levelOf_26 : decode cX12_levelOf 26 = .ok (.aload_n 0, 1) := by decide +kernel
theorem dX12_levelOf_27 : decode cX12_levelOf 27 = .ok (.getfield 16, 3) := by decide +kernel
theorem dX12_levelOf_30 : decode cX12_levelOf 30 = .ok (.iload_n 1, 1) := by decide +kernel
theorem dX12_levelOf_31 : decode cX12_levelOf 31 = .ok (.iaload, 1) := by decide +kernel
theorem dX12_levelOf_32 : decode cX12_levelOf 32 = .ok (.goto 4, 3) := by decide +kernel
theorem dX12_levelOf_35 : decode cX12_levelOf 35 = .ok (.iload_n 3, 1) := by decide +kernel
theorem dX12_levelOf_36 : decode cX12_levelOf 36 = .ok (.ireturn, 1) := by decide +kernel
theorem dX12_addChoice_0 : decode cX12_addChoice 0 = .ok (.aload_n 0, 1) := by decide +kernel
theorem dX12_addChoice_1 : decode cX12_addChoice 1 = .ok (.getfield 278, 3) := by decide +kernel
theorem dX12_addChoice_4 : decode cX12_addChoice 4 = .ok (.istore_n 3, 1) := by decide +kernel
theorem dX12_addChoice_5 : decode cX12_addChoice 5 = .ok (.iload_n 3, 1) := by decide +kernel
theorem dX12_addChoice_6 : decode cX12_addChoice 6 = .ok (.ifCond .le 49, 3) := by decide +kernel
theorem dX12_addChoice_9 : decode cX12_addChoice 9 = .ok (.aload_n 0, 1) := by decide +kernel
theorem dX12_addChoice_10 : decode cX12_addChoice 10 = .ok (.getfield 62, 3) := by decide +kernel
theorem dX12_addChoice_13 : decode cX12_addChoice 13 = .ok (.iload_n 3, 1) := by decide +kernel
theorem dX12_addChoice_14 : decode cX12_addChoice 14 = .ok (.iconst 1, 1) := by decide +kernel
theorem dX12_addChoice_15 : decode cX12_addChoice 15 = .ok (.isub, 1) := by decide +kernel
theorem dX12_addChoice_16 : decode cX12_addChoice 16 = .ok (.iaload, 1) := by decide +kernel
theorem dX12_addChoice_17 : decode cX12_addChoice 17 = .ok (.iload_n 2, 1) := by decide +kernel
theorem dX12_addChoice_18 : decode cX12_addChoice 18 = .ok (.if_icmp .ge 37, 3) := by decide +kernel
theorem dX12_addChoice_21 : decode cX12_addChoice 21 = .ok (.aload_n 0, 1) := by decide +kernel
theorem dX12_addChoice_22 : decode cX12_addChoice 22 = .ok (.getfield 59, 3) := by decide +kernel
theorem dX12_addChoice_25 : decode cX12_addChoice 25 = .ok (.iload_n 3, 1) := by decide +kernel
theorem dX12_addChoice_26 : decode cX12_addChoice 26 = .ok (.aload_n 0, 1) := by decide +kernel
theorem dX12_addChoice_27 : decode cX12_addChoice 27 = .ok (.getfield 59, 3) := by decide +kernel
theorem dX12_addChoice_30 : decode cX12_addChoice 30 = .ok (.iload_n 3, 1) := by decide +kernel
theorem dX12_addChoice_31 : decode cX12_addChoice 31 = .ok (.iconst 1, 1) := by decide +kernel
theorem dX12_addChoice_32 : decode cX12_addChoice 32 = .ok (.isub, 1) := by decide +kernel
theorem dX12_addChoice_33 : decode cX12_addChoice 33 = .ok (.iaload, 1) := by decide +kernel
theorem dX12_addChoice_34 : decode cX12_addChoice 34 = .ok (.iastore, 1) := by decide +kernel
theorem dX12_addChoice_35 : decode cX12_addChoice 35 = .ok (.aload_n 0, 1) := by decide +kernel
theorem dX12_addChoice_36 : decode cX12_addChoice 36 = .ok (.getfield 62, 3) := by decide +kernel
theorem dX12_addChoice_39 : decode cX12_addChoice 39 = .ok (.iload_n 3, 1) := by decide +kernel
theorem dX12_addChoice_40 : decode cX12_addChoice 40 = .ok (.aload_n 0, 1) := by decide +kernel
theorem dX12_addChoice_41 : decode cX12_addChoice 41 = .ok (.getfield 62, 3) := by decide +kernel
theorem dX12_addChoice_44 : decode cX12_addChoice 44 = .ok (.iload_n 3, 1) := by decide +kernel
theorem dX12_addChoice_45 : decode cX12_addChoice 45 = .ok (.iconst 1, 1) := by decide +kernel
theorem dX12_addChoice_46 : decode cX12_addChoice 46 = .ok (.isub, 1) := by decide +kernel
theorem dX12_addChoice_47 : decode cX12_addChoice 47 = .ok (.iaload, 1) := by decide +kernel
theorem dX12_addChoice_48 : decode cX12_addChoice 48 = .ok (.iastore, 1) := by decide +kernel
theorem dX12_addChoice_49 : decode cX12_addChoice 49 = .ok (.iinc 3 (-1), 3) := by decide +kernel
theorem dX12_addChoice_52 : decode cX12_addChoice 52 = .ok (.goto (-47), 3) := by decide +kernel
theorem dX12_addChoice_55 : decode cX12_addChoice 55 = .ok (.aload_n 0, 1) := by decide +kernel
theorem dX12_addChoice_56 : decode cX12_addChoice 56 = .ok (.getfield 59, 3) := by decide +kernel
theorem dX12_addChoice_59 : decode cX12_addChoice 59 = .ok (.iload_n 3, 1) := by decide +kernel
theorem dX12_addChoice_60 : decode cX12_addChoice 60 = .ok (.iload_n 1, 1) := by decide +kernel
theorem dX12_addChoice_61 : decode cX12_addChoice 61 = .ok (.iastore, 1) := by decide +kernel
theorem dX12_addChoice_62 : decode cX12_addChoice 62 = .ok (.aload_n 0, 1) := by decide +kernel
theorem dX12_addChoice_63 : decode cX12_addChoice 63 = .ok (.getfield 62, 3) := by decide +kernel
theorem dX12_addChoice_66 : decode cX12_addChoice 66 = .ok (.iload_n 3, 1) := by decide +kernel
theorem dX12_addChoice_67 : decode cX12_addChoice 67 = .ok (.iload_n 2, 1) := by decide +kernel
theorem dX12_addChoice_68 : decode cX12_addChoice 68 = .ok (.iastore, 1) := by decide +kernel
theorem dX12_addChoice_69 : decode cX12_addChoice 69 = .ok (.aload_n 0, 1) := by decide +kernel
theorem dX12_addChoice_70 : decode cX12_addChoice 70 = .ok (.dup, 1) := by decide +kernel
theorem dX12_addChoice_71 : decode cX12_addChoice 71 = .ok (.getfield 278, 3) := by decide +kernel
theorem dX12_addChoice_74 : decode cX12_addChoice 74 = .ok (.iconst 1, 1) := by decide +kernel
theorem dX12_addChoice_75 : decode cX12_addChoice 75 = .ok (.iadd, 1) := by decide +kernel
theorem dX12_addChoice_76 : decode cX12_addChoice 76 = .ok (.putfield 278, 3) := by decide +kernel
theorem dX12_addChoice_79 : decode cX12_addChoice 79 = .ok (.return_, 1) := by decide +kernel
theorem dX12_findChoices_0 : decode cX12_findChoices 0 = .ok (.aload_n 0, 1) := by decide +kernel
theorem dX12_findChoices_1 : decode cX12_findChoices 1 = .ok (.aload_n 0, 1) := by decide +kernel
theorem dX12_findChoices_2 : decode cX12_findChoices 2 = .ok (.getfield 235, 3) := by decide +kernel
theorem dX12_findChoices_5 : decode cX12_findChoices 5 = .ok (.invokevirtual 208, 3) := by decide +kernel
theorem dX12_findChoices_8 : decode cX12_findChoices 8 = .ok (.aload_n 0, 1) := by decide +kernel
theorem dX12_findChoices_9 : decode cX12_findChoices 9 = .ok (.aload_n 0, 1) := by decide +kernel
theorem dX12_findChoices_10 : decode cX12_findChoices 10 = .ok (.getfield 238, 3) := by decide +kernel
theorem dX12_findChoices_13 : decode cX12_findChoices 13 = .ok (.invokevirtual 208, 3) := by decide +kernel
theorem dX12_findChoices_16 : decode cX12_findChoices 16 = .ok (.ior, 1) := by decide +kernel
theorem dX12_findChoices_17 : decode cX12_findChoices 17 = .ok (.istore_n 2, 1) := by decide +kernel
theorem dX12_findChoices_18 : decode cX12_findChoices 18 = .ok (.aload_n 0, 1) := by decide +kernel
theorem dX12_findChoices_19 : decode cX12_findChoices 19 = .ok (.iconst 0, 1) := by decide +kernel
theorem dX12_findChoices_20 : decode cX12_findChoices 20 = .ok (.putfield 278, 3) := by decide +kernel
theorem dX12_findChoices_23 : decode cX12_findChoices 23 = .ok (.iconst 0, 1) := by decide +kernel
theorem dX12_findChoices_24 : decode cX12_findChoices 24 = .ok (.istore_n 3, 1) := by decide +kernel
theorem dX12_findChoices_25 : decode cX12_findChoices 25 = .ok (.iload_n 3, 1) := by decide +kernel
theorem dX12_findChoices_26 : decode cX12_findChoices 26 = .ok (.bipush 64, 2) := by decide +kernel
theorem dX12_findChoices_28 : decode cX12_findChoices 28 = .ok (.if_icmp .ge 43, 3) := by decide +kernel
theorem dX12_findChoices_31 : decode cX12_findChoices 31 = .ok (.iload_n 3, 1) := by decide +kernel
theorem dX12_findChoices_32 : decode cX12_findChoices 32 = .ok (.iload_n 2, 1) := by decide +kernel
theorem dX12_findChoices_33 : decode cX12_findChoices 33 = .ok (.iconst (-1), 1) := by decide +kernel
theorem dX12_findChoices_34 : decode cX12_findChoices 34 = .ok (.ixor, 1) := by decide +kernel
theorem dX12_findChoices_35 : decode cX12_findChoices 35 = .ok (.iand, 1) := by decide +kernel
theorem dX12_findChoices_36 : decode cX12_findChoices 36 = .ok (.ifCond .ne 29, 3) := by decide +kernel
theorem dX12_findChoices_39 : decode cX12_findChoices 39 = .ok (.aload_n 0, 1) := by decide +kernel
theorem dX12_findChoices_40 : decode cX12_findChoices 40 = .ok (.iload_n 1, 1) := by decide +kernel
theorem dX12_findChoices_41 : decode cX12_findChoices 41 = .ok (.iload_n 3, 1) := by decide +kernel
theorem dX12_findChoices_42 : decode cX12_findChoices 42 = .ok (.invokevirtual 227, 3) := by decide +kernel
theorem dX12_findChoices_45 : decode cX12_findChoices 45 = .ok (.ifCond .eq 20, 3) := by decide +kernel
theorem dX12_findChoices_48 : decode cX12_findChoices 48 = .ok (.aload_n 0, 1) := by decide +kernel
theorem dX12_findChoices_49 : decode cX12_findChoices 49 = .ok (.iload_n 3, 1) := by decide +kernel
theorem dX12_findChoices_50 : decode cX12_findChoices 50 = .ok (.aload_n 0, 1) := by decide +kernel
theorem dX12_findChoices_51 : decode cX12_findChoices 51 = .ok (.iload_n 1, 1) := by decide +kernel
theorem dX12_findChoices_52 : decode cX12_findChoices 52 = .ok (.aload_n 0, 1) := by decide +kernel
theorem dX12_findChoices_53 : decode cX12_findChoices 53 = .ok (.iload_n 1, 1) := by decide +kernel
theorem dX12_findChoices_54 : decode cX12_findChoices 54 = .ok (.invokevirtual 208, 3) := by decide +kernel
theorem dX12_findChoices_57 : decode cX12_findChoices 57 = .ok (.iload_n 3, 1) := by decide +kernel
theorem dX12_findChoices_58 : decode cX12_findChoices 58 = .ok (.ixor, 1) := by decide +kernel
theorem dX12_findChoices_59 : decode cX12_findChoices 59 = .ok (.invokevirtual 200, 3) := by decide +kernel
theorem dX12_findChoices_62 : decode cX12_findChoices 62 = .ok (.invokevirtual 281, 3) := by decide +kernel
theorem dX12_findChoices_65 : decode cX12_findChoices 65 = .ok (.iinc 3 1, 3) := by decide +kernel
theorem dX12_findChoices_68 : decode cX12_findChoices 68 = .ok (.goto (-43), 3) := by decide +kernel
theorem dX12_findChoices_71 : decode cX12_findChoices 71 = .ok (.return_, 1) := by decide +kernel
theorem dX12_machineWord_0 : decode cX12_machineWord 0 = .ok (.aload_n 0, 1) := by decide +kernel
theorem dX12_machineWord_1 : decode cX12_machineWord 1 = .ok (.aload_n 0, 1) := by decide +kernel
theorem dX12_machineWord_2 : decode cX12_machineWord 2 = .ok (.getfield 244, 3) := by decide +kernel
theorem dX12_machineWord_5 : decode cX12_machineWord 5 = .ok (.invokevirtual 259, 3) := by decide +kernel
theorem dX12_machineWord_8 : decode cX12_machineWord 8 = .ok (.istore_n 1, 1) := by decide +kernel
theorem dX12_machineWord_9 : decode cX12_machineWord 9 = .ok (.aload_n 0, 1) := by decide +kernel
theorem dX12_machineWord_10 : decode cX12_machineWord 10 = .ok (.getfield 244, 3) := by decide +kernel
theorem dX12_machineWord_13 : decode cX12_machineWord 13 = .ok (.iconst 2, 1) := by decide +kernel
theorem dX12_machineWord_14 : decode cX12_machineWord 14 = .ok (.idiv, 1) := by decide +kernel
theorem dX12_machineWord_15 : decode cX12_machineWord 15 = .ok (.istore_n 2, 1) := by decide +kernel
theorem dX12_machineWord_16 : decode cX12_machineWord 16 = .ok (.aload_n 0, 1) := by decide +kernel
theorem dX12_machineWord_17 : decode cX12_machineWord 17 = .ok (.iload_n 1, 1) := by decide +kernel
theorem dX12_machineWord_18 : decode cX12_machineWord 18 = .ok (.iload_n 2, 1) := by decide +kernel
theorem dX12_machineWord_19 : decode cX12_machineWord 19 = .ok (.invokevirtual 285, 3) := by decide +kernel
theorem dX12_machineWord_22 : decode cX12_machineWord 22 = .ok (.istore_n 3, 1) := by decide +kernel
theorem dX12_machineWord_23 : decode cX12_machineWord 23 = .ok (.aload_n 0, 1) := by decide +kernel
theorem dX12_machineWord_24 : decode cX12_machineWord 24 = .ok (.invokevirtual 272, 3) := by decide +kernel
theorem dX12_machineWord_27 : decode cX12_machineWord 27 = .ok (.istore 4, 2) := by decide +kernel
theorem dX12_machineWord_29 : decode cX12_machineWord 29 = .ok (.iload 4, 2) := by decide +kernel
theorem dX12_machineWord_31 : decode cX12_machineWord 31 = .ok (.sipush (-10000), 3) := by decide +kernel
theorem dX12_machineWord_34 : decode cX12_machineWord 34 = .ok (.if_icmp .le 15, 3) := by decide +kernel
theorem dX12_machineWord_37 : decode cX12_machineWord 37 = .ok (.iload 4, 2) := by decide +kernel
theorem dX12_machineWord_39 : decode cX12_machineWord 39 = .ok (.iload_n 3, 1) := by decide +kernel
theorem dX12_machineWord_40 : decode cX12_machineWord 40 = .ok (.if_icmp .lt 9, 3) := by decide +kernel
theorem dX12_machineWord_43 : decode cX12_machineWord 43 = .ok (.aload_n 0, 1) := by decide +kernel
theorem dX12_machineWord_44 : decode cX12_machineWord 44 = .ok (.invokevirtual 275, 3) := by decide +kernel
theorem dX12_machineWord_47 : decode cX12_machineWord 47 = .ok (.iconst 3, 1) := by decide +kernel
theorem dX12_machineWord_48 : decode cX12_machineWord 48 = .ok (.ireturn, 1) := by decide +kernel
theorem dX12_machineWord_49 : decode cX12_machineWord 49 = .ok (.aload_n 0, 1) := by decide +kernel
theorem dX12_machineWord_50 : decode cX12_machineWord 50 = .ok (.iload_n 1, 1) := by decide +kernel
theorem dX12_machineWord_51 : decode cX12_machineWord 51 = .ok (.invokevirtual 288, 3) := by decide +kernel
theorem dX12_machineWord_54 : decode cX12_machineWord 54 = .ok (.sipush 1000, 3) := by decide +kernel
theorem dX12_machineWord_57 : decode cX12_machineWord 57 = .ok (.istore 5, 2) := by decide +kernel
theorem dX12_machineWord_59 : decode cX12_machineWord 59 = .ok (.iconst 0, 1) := by decide +kernel
theorem dX12_machineWord_60 : decode cX12_machineWord 60 = .ok (.istore 6, 2) := by decide +kernel
theorem dX12_machineWord_62 : decode cX12_machineWord 62 = .ok (.aload_n 0, 1) := by decide +kernel
theorem dX12_machineWord_63 : decode cX12_machineWord 63 = .ok (.getfield 278, 3) := by decide +kernel
theorem dX12_machineWord_66 : decode cX12_machineWord 66 = .ok (.ifCond .le 47, 3) := by decide +kernel
theorem dX12_machineWord_69 : decode cX12_machineWord 69 = .ok (.aload_n 0, 1) := by decide +kernel
theorem dX12_machineWord_70 : decode cX12_machineWord 70 = .ok (.getfield 59, 3) := by decide +kernel
theorem dX12_machineWord_73 : decode cX12_machineWord 73 = .ok (.iload_n 2, 1) := by decide +kernel
theorem dX12_machineWord_74 : decode cX12_machineWord 74 = .ok (.aload_n 0, 1) := by decide +kernel
theorem dX12_machineWord_75 : decode cX12_machineWord 75 = .ok (.getfield 278, 3) := by decide +kernel
theorem dX12_machineWord_78 : decode cX12_machineWord 78 = .ok (.irem, 1) := by decide +kernel
theorem dX12_machineWord_79 : decode cX12_machineWord 79 = .ok (.iaload, 1) := by decide +kernel
theorem dX12_machineWord_80 : decode cX12_machineWord 80 = .ok (.istore 6, 2) := by decide +kernel
theorem dX12_machineWord_82 : decode cX12_machineWord 82 = .ok (.iload_n 1, 1) := by decide +kernel
theorem dX12_machineWord_83 : decode cX12_machineWord 83 = .ok (.aload_n 0, 1) := by decide +kernel
theorem dX12_machineWord_84 : decode cX12_machineWord 84 = .ok (.getfield 235, 3) := by decide +kernel
theorem dX12_machineWord_87 : decode cX12_machineWord 87 = .ok (.if_icmp .ne 15, 3) := by decide +kernel
theorem dX12_machineWord_90 : decode cX12_machineWord 90 = .ok (.aload_n 0, 1) := by decide +kernel
theorem dX12_machineWord_91 : decode cX12_machineWord 91 = .ok (.iload_n 1, 1) := by decide +kernel
theorem dX12_machineWord_92 : decode cX12_machineWord 92 = .ok (.iload 6, 2) := by decide +kernel
theorem dX12_machineWord_94 : decode cX12_machineWord 94 = .ok (.invokevirtual 224, 3) := by decide +kernel
theorem dX12_machineWord_97 : decode cX12_machineWord 97 = .ok (.iload_n 3, 1) := by decide +kernel
theorem dX12_machineWord_98 : decode cX12_machineWord 98 = .ok (.isub, 1) := by decide +kernel
theorem dX12_machineWord_99 : decode cX12_machineWord 99 = .ok (.goto 12, 3) := by decide +kernel
theorem dX12_machineWord_102 : decode cX12_machineWord 102 = .ok (.iload_n 3, 1) := by decide +kernel
theorem dX12_machineWord_103 : decode cX12_machineWord 103 = .ok (.aload_n 0, 1) := by decide +kernel
theorem dX12_machineWord_104 : decode cX12_machineWord 104 = .ok (.iload_n 1, 1) := by decide +kernel
theorem dX12_machineWord_105 : decode cX12_machineWord 105 = .ok (.iload 6, 2) := by decide +kernel
theorem dX12_machineWord_107 : decode cX12_machineWord 107 = .ok (.invokevirtual 224, 3) := by decide +kernel
theorem dX12_machineWord_110 : decode cX12_machineWord 110 = .ok (.isub, 1) := by decide +kernel
theorem dX12_machineWord_111 : decode cX12_machineWord 111 = .ok (.istore 5, 2) := by decide +kernel
theorem dX12_machineWord_113 : decode cX12_machineWord 113 = .ok (.iload 5, 2) := by decide +kernel
theorem dX12_machineWord_115 : decode cX12_machineWord 115 = .ok (.i2l, 1) := by decide +kernel
theorem dX12_machineWord_116 : decode cX12_machineWord 116 = .ok (.ldc2_w 218, 3) := by decide +kernel
theorem dX12_machineWord_119 : decode cX12_machineWord 119 = .ok (.ldc2_w 216, 3) := by decide +kernel
theorem dX12_machineWord_122 : decode cX12_machineWord 122 = .ok (.invokestatic 133, 3) := by decide +kernel
theorem dX12_machineWord_125 : decode cX12_machineWord 125 = .ok (.ifCond .ne 12, 3) := by decide +kernel
theorem dX12_machineWord_128 : decode cX12_machineWord 128 = .ok (.aload_n 0, 1) := by decide +kernel
theorem dX12_machineWord_129 : decode cX12_machineWord 129 = .ok (.iconst 4, 1) := by decide +kernel
theorem dX12_machineWord_130 : decode cX12_machineWord 130 = .ok (.iconst 0, 1) := by decide +kernel
theorem dX12_machineWord_131 : decode cX12_machineWord 131 = .ok (.iconst 0, 1) := by decide +kernel
theorem dX12_machineWord_132 : decode cX12_machineWord 132 = .ok (.invokevirtual 262, 3) := by decide +kernel
theorem dX12_machineWord_135 : decode cX12_machineWord 135 = .ok (.iconst 4, 1) := by decide +kernel
theorem dX12_machineWord_136 : decode cX12_machineWord 136 = .ok (.ireturn, 1) := by decide +kernel
theorem dX12_machineWord_137 : decode cX12_machineWord 137 = .ok (.aload_n 0, 1) := by decide +kernel
theorem dX12_machineWord_138 : decode cX12_machineWord 138 = .ok (.iload 6, 2) := by decide +kernel
theorem dX12_machineWord_140 : decode cX12_machineWord 140 = .ok (.iload 5, 2) := by decide +kernel
theorem dX12_machineWord_142 : decode cX12_machineWord 142 = .ok (.invokevirtual 269, 3) := by decide +kernel
theorem dX12_machineWord_145 : decode cX12_machineWord 145 = .ok (.ireturn, 1) := by decide +kernel
theorem dX12_says_0 : decode cX12_says 0 = .ok (.aload_n 0, 1) := by decide +kernel
theorem dX12_says_1 : decode cX12_says 1 = .ok (.invokevirtual 147, 3) := by decide +kernel
theorem dX12_says_4 : decode cX12_says 4 = .ok (.ifCond .eq 10, 3) := by decide +kernel
theorem dX12_says_7 : decode cX12_says 7 = .ok (.aload_n 0, 1) := by decide +kernel
theorem dX12_says_8 : decode cX12_says 8 = .ok (.invokevirtual 292, 3) := by decide +kernel
theorem dX12_says_11 : decode cX12_says 11 = .ok (.goto 5, 3) := by decide +kernel
theorem dX12_says_14 : decode cX12_says 14 = .ok (.bipush (-2), 2) := by decide +kernel
theorem dX12_says_16 : decode cX12_says 16 = .ok (.ireturn, 1) := by decide +kernel
theorem dX12_runs_0 : decode cX12_runs 0 = .ok (.aload_n 0, 1) := by decide +kernel
theorem dX12_runs_1 : decode cX12_runs 1 = .ok (.invokevirtual 147, 3) := by decide +kernel
theorem dX12_runs_4 : decode cX12_runs 4 = .ok (.ifCond .ne 6, 3) := by decide +kernel
theorem dX12_runs_7 : decode cX12_runs 7 = .ok (.bipush (-2), 2) := by decide +kernel
theorem dX12_runs_9 : decode cX12_runs 9 = .ok (.ireturn, 1) := by decide +kernel
theorem dX12_runs_10 : decode cX12_runs 10 = .ok (.aload_n 0, 1) := by decide +kernel
theorem dX12_runs_11 : decode cX12_runs 11 = .ok (.invokevirtual 147, 3) := by decide +kernel
theorem dX12_runs_14 : decode cX12_runs 14 = .ok (.ifCond .eq 11, 3) := by decide +kernel
theorem dX12_runs_17 : decode cX12_runs 17 = .ok (.aload_n 0, 1) := by decide +kernel
theorem dX12_runs_18 : decode cX12_runs 18 = .ok (.invokevirtual 292, 3) := by decide +kernel
theorem dX12_runs_21 : decode cX12_runs 21 = .ok (.istore_n 1, 1) := by decide +kernel
theorem dX12_runs_22 : decode cX12_runs 22 = .ok (.goto (-12), 3) := by decide +kernel
theorem dX12_runs_25 : decode cX12_runs 25 = .ok (.aload_n 0, 1) := by decide +kernel
theorem dX12_runs_26 : decode cX12_runs 26 = .ok (.getfield 137, 3) := by decide +kernel
theorem dX12_runs_29 : decode cX12_runs 29 = .ok (.ireturn, 1) := by decide +kernel
theorem dX12_word_0 : decode cX12_word 0 = .ok (.iload_n 1, 1) := by decide +kernel
theorem dX12_word_1 : decode cX12_word 1 = .ok (.i2l, 1) := by decide +kernel
theorem dX12_word_2 : decode cX12_word 2 = .ok (.lconst 0, 1) := by decide +kernel
theorem dX12_word_3 : decode cX12_word 3 = .ok (.aload_n 0, 1) := by decide +kernel
theorem dX12_word_4 : decode cX12_word 4 = .ok (.getfield 244, 3) := by decide +kernel
theorem dX12_word_7 : decode cX12_word 7 = .ok (.iconst 1, 1) := by decide +kernel
theorem dX12_word_8 : decode cX12_word 8 = .ok (.isub, 1) := by decide +kernel
theorem dX12_word_9 : decode cX12_word 9 = .ok (.i2l, 1) := by decide +kernel
theorem dX12_word_10 : decode cX12_word 10 = .ok (.invokestatic 133, 3) := by decide +kernel
theorem dX12_word_13 : decode cX12_word 13 = .ok (.ifCond .eq 13, 3) := by decide +kernel
theorem dX12_word_16 : decode cX12_word 16 = .ok (.iload_n 2, 1) := by decide +kernel
theorem dX12_word_17 : decode cX12_word 17 = .ok (.i2l, 1) := by decide +kernel
theorem dX12_word_18 : decode cX12_word 18 = .ok (.lconst 0, 1) := by decide +kernel
theorem dX12_word_19 : decode cX12_word 19 = .ok (.lconst 1, 1) := by decide +kernel
theorem dX12_word_20 : decode cX12_word 20 = .ok (.invokestatic 133, 3) := by decide +kernel
theorem dX12_word_23 : decode cX12_word 23 = .ok (.ifCond .ne 5, 3) := by decide +kernel
theorem dX12_word_26 : decode cX12_word 26 = .ok (.iconst (-1), 1) := by decide +kernel
theorem dX12_word_27 : decode cX12_word 27 = .ok (.ireturn, 1) := by decide +kernel
theorem dX12_word_28 : decode cX12_word 28 = .ok (.iload_n 2, 1) := by decide +kernel
theorem dX12_word_29 : decode cX12_word 29 = .ok (.ifCond .ne 12, 3) := by decide +kernel
theorem dX12_word_32 : decode cX12_word 32 = .ok (.aload_n 0, 1) := by decide +kernel
theorem dX12_word_33 : decode cX12_word 33 = .ok (.getfield 50, 3) := by decide +kernel
theorem dX12_word_36 : decode cX12_word 36 = .ok (.iload_n 1, 1) := by decide +kernel
theorem dX12_word_37 : decode cX12_word 37 = .ok (.iaload, 1) := by decide +kernel
theorem dX12_word_38 : decode cX12_word 38 = .ok (.goto 8, 3) := by decide +kernel
theorem dX12_word_41 : decode cX12_word 41 = .ok (.aload_n 0, 1) := by decide +kernel
theorem dX12_word_42 : decode cX12_word 42 = .ok (.iload_n 1, 1) := by decide +kernel
theorem dX12_word_43 : decode cX12_word 43 = .ok (.invokevirtual 259, 3) := by decide +kernel
theorem dX12_word_46 : decode cX12_word 46 = .ok (.ireturn, 1) := by decide +kernel
theorem dX12_offered_0 : decode cX12_offered 0 = .ok (.iload_n 1, 1) := by decide +kernel
theorem dX12_offered_1 : decode cX12_offered 1 = .ok (.i2l, 1) := by decide +kernel
theorem dX12_offered_2 : decode cX12_offered 2 = .ok (.lconst 0, 1) := by decide +kernel
theorem dX12_offered_3 : decode cX12_offered 3 = .ok (.aload_n 0, 1) := by decide +kernel
theorem dX12_offered_4 : decode cX12_offered 4 = .ok (.getfield 244, 3) := by decide +kernel
theorem dX12_offered_7 : decode cX12_offered 7 = .ok (.iconst 1, 1) := by decide +kernel
theorem dX12_offered_8 : decode cX12_offered 8 = .ok (.isub, 1) := by decide +kernel
theorem dX12_offered_9 : decode cX12_offered 9 = .ok (.i2l, 1) := by decide +kernel
theorem dX12_offered_10 : decode cX12_offered 10 = .ok (.invokestatic 133, 3) := by decide +kernel
theorem dX12_offered_13 : decode cX12_offered 13 = .ok (.ifCond .eq 13, 3) := by decide +kernel
theorem dX12_offered_16 : decode cX12_offered 16 = .ok (.iload_n 2, 1) := by decide +kernel
theorem dX12_offered_17 : decode cX12_offered 17 = .ok (.i2l, 1) := by decide +kernel
theorem dX12_offered_18 : decode cX12_offered 18 = .ok (.lconst 0, 1) := by decide +kernel
theorem dX12_offered_19 : decode cX12_offered 19 = .ok (.lconst 1, 1) := by decide +kernel
theorem dX12_offered_20 : decode cX12_offered 20 = .ok (.invokestatic 133, 3) := by decide +kernel
theorem dX12_offered_23 : decode cX12_offered 23 = .ok (.ifCond .ne 7, 3) := by decide +kernel
theorem dX12_offered_26 : decode cX12_offered 26 = .ok (.sipush (-10001), 3) := by decide +kernel
theorem dX12_offered_29 : decode cX12_offered 29 = .ok (.ireturn, 1) := by decide +kernel
theorem dX12_offered_30 : decode cX12_offered 30 = .ok (.aload_n 0, 1) := by decide +kernel
theorem dX12_offered_31 : decode cX12_offered 31 = .ok (.iload_n 1, 1) := by decide +kernel
theorem dX12_offered_32 : decode cX12_offered 32 = .ok (.invokevirtual 266, 3) := by decide +kernel
theorem dX12_offered_35 : decode cX12_offered 35 = .ok (.ifCond .ne 9, 3) := by decide +kernel
theorem dX12_offered_38 : decode cX12_offered 38 = .ok (.sipush (-10012), 3) := by decide +kernel
theorem dX12_offered_41 : decode cX12_offered 41 = .ok (.goto 22, 3) := by decide +kernel
theorem dX12_offered_44 : decode cX12_offered 44 = .ok (.iload_n 2, 1) := by decide +kernel
theorem dX12_offered_45 : decode cX12_offered 45 = .ok (.ifCond .ne 12, 3) := by decide +kernel
theorem dX12_offered_48 : decode cX12_offered 48 = .ok (.aload_n 0, 1) := by decide +kernel
theorem dX12_offered_49 : decode cX12_offered 49 = .ok (.getfield 53, 3) := by decide +kernel
theorem dX12_offered_52 : decode cX12_offered 52 = .ok (.iload_n 1, 1) := by decide +kernel
theorem dX12_offered_53 : decode cX12_offered 53 = .ok (.iaload, 1) := by decide +kernel
theorem dX12_offered_54 : decode cX12_offered 54 = .ok (.goto 9, 3) := by decide +kernel
theorem dX12_offered_57 : decode cX12_offered 57 = .ok (.aload_n 0, 1) := by decide +kernel
theorem dX12_offered_58 : decode cX12_offered 58 = .ok (.getfield 56, 3) := by decide +kernel
theorem dX12_offered_61 : decode cX12_offered 61 = .ok (.iload_n 1, 1) := by decide +kernel
theorem dX12_offered_62 : decode cX12_offered 62 = .ok (.iaload, 1) := by decide +kernel
theorem dX12_offered_63 : decode cX12_offered 63 = .ok (.ireturn, 1) := by decide +kernel
theorem dX12_aloneWorth_0 : decode cX12_aloneWorth 0 = .ok (.iconst 0, 1) := by decide +kernel
theorem dX12_aloneWorth_1 : decode cX12_aloneWorth 1 = .ok (.istore_n 2, 1) := by decide +kernel
theorem dX12_aloneWorth_2 : decode cX12_aloneWorth 2 = .ok (.iconst 0, 1) := by decide +kernel
theorem dX12_aloneWorth_3 : decode cX12_aloneWorth 3 = .ok (.istore_n 3, 1) := by decide +kernel
theorem dX12_aloneWorth_4 : decode cX12_aloneWorth 4 = .ok (.iload_n 3, 1) := by decide +kernel
theorem dX12_aloneWorth_5 : decode cX12_aloneWorth 5 = .ok (.aload_n 0, 1) := by decide +kernel
theorem dX12_aloneWorth_6 : decode cX12_aloneWorth 6 = .ok (.getfield 295, 3) := by decide +kernel
theorem dX12_aloneWorth_9 : decode cX12_aloneWorth 9 = .ok (.if_icmp .ge 36, 3) := by decide +kernel
theorem dX12_aloneWorth_12 : decode cX12_aloneWorth 12 = .ok (.iload_n 2, 1) := by decide +kernel
theorem dX12_aloneWorth_13 : decode cX12_aloneWorth 13 = .ok (.iload_n 1, 1) := by decide +kernel
theorem dX12_aloneWorth_14 : decode cX12_aloneWorth 14 = .ok (.aload_n 0, 1) := by decide +kernel
theorem dX12_aloneWorth_15 : decode cX12_aloneWorth 15 = .ok (.getfield 65, 3) := by decide +kernel
theorem dX12_aloneWorth_18 : decode cX12_aloneWorth 18 = .ok (.iload_n 3, 1) := by decide +kernel
theorem dX12_aloneWorth_19 : decode cX12_aloneWorth 19 = .ok (.iaload, 1) := by decide +kernel
theorem dX12_aloneWorth_20 : decode cX12_aloneWorth 20 = .ok (.ishr, 1) := by decide +kernel
theorem dX12_aloneWorth_21 : decode cX12_aloneWorth 21 = .ok (.iconst 1, 1) := by decide +kernel
theorem dX12_aloneWorth_22 : decode cX12_aloneWorth 22 = .ok (.iand, 1) := by decide +kernel
theorem dX12_aloneWorth_23 : decode cX12_aloneWorth 23 = .ok (.iconst 1, 1) := by decide +kernel
theorem dX12_aloneWorth_24 : decode cX12_aloneWorth 24 = .ok (.if_icmp .ne 12, 3) := by decide +kernel
theorem dX12_aloneWorth_27 : decode cX12_aloneWorth 27 = .ok (.aload_n 0, 1) := by decide +kernel
theorem dX12_aloneWorth_28 : decode cX12_aloneWorth 28 = .ok (.getfield 68, 3) := by decide +kernel
theorem dX12_aloneWorth_31 : decode cX12_aloneWorth 31 = .ok (.iload_n 3, 1) := by decide +kernel
theorem dX12_aloneWorth_32 : decode cX12_aloneWorth 32 = .ok (.iaload, 1) := by decide +kernel
theorem dX12_aloneWorth_33 : decode cX12_aloneWorth 33 = .ok (.goto 4, 3) := by decide +kernel
theorem dX12_aloneWorth_36 : decode cX12_aloneWorth 36 = .ok (.iconst 0, 1) := by decide +kernel
theorem dX12_aloneWorth_37 : decode cX12_aloneWorth 37 = .ok (.iadd, 1) := by decide +kernel
theorem dX12_aloneWorth_38 : decode cX12_aloneWorth 38 = .ok (.istore_n 2, 1) := by decide +kernel
theorem dX12_aloneWorth_39 : decode cX12_aloneWorth 39 = .ok (.iinc 3 1, 3) := by decide +kernel
theorem dX12_aloneWorth_42 : decode cX12_aloneWorth 42 = .ok (.goto (-38), 3) := by decide +kernel
theorem dX12_aloneWorth_45 : decode cX12_aloneWorth 45 = .ok (.iload_n 2, 1) := by decide +kernel
theorem dX12_aloneWorth_46 : decode cX12_aloneWorth 46 = .ok (.ireturn, 1) := by decide +kernel
theorem dX12_wouldSay_0 : decode cX12_wouldSay 0 = .ok (.iload_n 1, 1) := by decide +kernel
theorem dX12_wouldSay_1 : decode cX12_wouldSay 1 = .ok (.aload_n 0, 1) := by decide +kernel
theorem dX12_wouldSay_2 : decode cX12_wouldSay 2 = .ok (.getfield 235, 3) := by decide +kernel
theorem dX12_wouldSay_5 : decode cX12_wouldSay 5 = .ok (.if_icmp .ne 10, 3) := by decide +kernel
theorem dX12_wouldSay_8 : decode cX12_wouldSay 8 = .ok (.aload_n 0, 1) := by decide +kernel
theorem dX12_wouldSay_9 : decode cX12_wouldSay 9 = .ok (.getfield 247, 3) := by decide +kernel
theorem dX12_wouldSay_12 : decode cX12_wouldSay 12 = .ok (.goto 7, 3) := by decide +kernel
theorem dX12_wouldSay_15 : decode cX12_wouldSay 15 = .ok (.aload_n 0, 1) := by decide +kernel
theorem dX12_wouldSay_16 : decode cX12_wouldSay 16 = .ok (.getfield 250, 3) := by decide +kernel
theorem dX12_wouldSay_19 : decode cX12_wouldSay 19 = .ok (.istore_n 3, 1) := by decide +kernel
theorem dX12_wouldSay_20 : decode cX12_wouldSay 20 = .ok (.iload_n 1, 1) := by decide +kernel
theorem dX12_wouldSay_21 : decode cX12_wouldSay 21 = .ok (.aload_n 0, 1) := by decide +kernel
theorem dX12_wouldSay_22 : decode cX12_wouldSay 22 = .ok (.getfield 235, 3) := by decide +kernel
theorem dX12_wouldSay_25 : decode cX12_wouldSay 25 = .ok (.if_icmp .ne 10, 3) := by decide +kernel
theorem dX12_wouldSay_28 : decode cX12_wouldSay 28 = .ok (.aload_n 0, 1) := by decide +kernel
theorem dX12_wouldSay_29 : decode cX12_wouldSay 29 = .ok (.getfield 250, 3) := by decide +kernel
theorem dX12_wouldSay_32 : decode cX12_wouldSay 32 = .ok (.goto 7, 3) := by decide +kernel
theorem dX12_wouldSay_35 : decode cX12_wouldSay 35 = .ok (.aload_n 0, 1) := by decide +kernel
theorem dX12_wouldSay_36 : decode cX12_wouldSay 36 = .ok (.getfield 247, 3) := by decide +kernel
theorem dX12_wouldSay_39 : decode cX12_wouldSay 39 = .ok (.istore 4, 2) := by decide +kernel
theorem dX12_wouldSay_41 : decode cX12_wouldSay 41 = .ok (.iload_n 1, 1) := by decide +kernel
theorem dX12_wouldSay_42 : decode cX12_wouldSay 42 = .ok (.aload_n 0, 1) := by decide +kernel
theorem dX12_wouldSay_43 : decode cX12_wouldSay 43 = .ok (.getfield 235, 3) := by decide +kernel
theorem dX12_wouldSay_46 : decode cX12_wouldSay 46 = .ok (.if_icmp .ne 10, 3) := by decide +kernel
theorem dX12_wouldSay_49 : decode cX12_wouldSay 49 = .ok (.aload_n 0, 1) := by decide +kernel
theorem dX12_wouldSay_50 : decode cX12_wouldSay 50 = .ok (.getfield 238, 3) := by decide +kernel
theorem dX12_wouldSay_53 : decode cX12_wouldSay 53 = .ok (.goto 7, 3) := by decide +kernel
theorem dX12_wouldSay_56 : decode cX12_wouldSay 56 = .ok (.aload_n 0, 1) := by decide +kernel
theorem dX12_wouldSay_57 : decode cX12_wouldSay 57 = .ok (.getfield 235, 3) := by decide +kernel
theorem dX12_wouldSay_60 : decode cX12_wouldSay 60 = .ok (.istore 5, 2) := by decide +kernel
theorem dX12_wouldSay_62 : decode cX12_wouldSay 62 = .ok (.aload_n 0, 1) := by decide +kernel
theorem dX12_wouldSay_63 : decode cX12_wouldSay 63 = .ok (.iload_n 1, 1) := by decide +kernel
theorem dX12_wouldSay_64 : decode cX12_wouldSay 64 = .ok (.iload_n 2, 1) := by decide +kernel
theorem dX12_wouldSay_65 : decode cX12_wouldSay 65 = .ok (.iconst 2, 1) := by decide +kernel
theorem dX12_wouldSay_66 : decode cX12_wouldSay 66 = .ok (.idiv, 1) := by decide +kernel
theorem dX12_wouldSay_67 : decode cX12_wouldSay 67 = .ok (.invokevirtual 285, 3) := by decide +kernel
theorem dX12_wouldSay_70 : decode cX12_wouldSay 70 = .ok (.istore 6, 2) := by decide +kernel
theorem dX12_wouldSay_72 : decode cX12_wouldSay 72 = .ok (.iload_n 1, 1) := by decide +kernel
theorem dX12_wouldSay_73 : decode cX12_wouldSay 73 = .ok (.aload_n 0, 1) := by decide +kernel
theorem dX12_wouldSay_74 : decode cX12_wouldSay 74 = .ok (.getfield 235, 3) := by decide +kernel
theorem dX12_wouldSay_77 : decode cX12_wouldSay 77 = .ok (.if_icmp .ne 7, 3) := by decide +kernel
theorem dX12_wouldSay_80 : decode cX12_wouldSay 80 = .ok (.iconst (-1), 1) := by decide +kernel
theorem dX12_wouldSay_81 : decode cX12_wouldSay 81 = .ok (.goto 4, 3) := by decide +kernel
theorem dX12_wouldSay_84 : decode cX12_wouldSay 84 = .ok (.iconst 1, 1) := by decide +kernel
theorem dX12_wouldSay_85 : decode cX12_wouldSay 85 = .ok (.istore 7, 2) := by decide +kernel
theorem dX12_wouldSay_87 : decode cX12_wouldSay 87 = .ok (.aload_n 0, 1) := by decide +kernel
theorem dX12_wouldSay_88 : decode cX12_wouldSay 88 = .ok (.iload_n 2, 1) := by decide +kernel
theorem dX12_wouldSay_89 : decode cX12_wouldSay 89 = .ok (.iconst 1, 1) := by decide +kernel
theorem dX12_wouldSay_90 : decode cX12_wouldSay 90 = .ok (.isub, 1) := by decide +kernel
theorem dX12_wouldSay_91 : decode cX12_wouldSay 91 = .ok (.invokevirtual 266, 3) := by decide +kernel
theorem dX12_wouldSay_94 : decode cX12_wouldSay 94 = .ok (.ifCond .eq 141, 3) := by decide +kernel
theorem dX12_wouldSay_97 : decode cX12_wouldSay 97 = .ok (.aload_n 0, 1) := by decide +kernel
theorem dX12_wouldSay_98 : decode cX12_wouldSay 98 = .ok (.getfield 53, 3) := by decide +kernel
theorem dX12_wouldSay_101 : decode cX12_wouldSay 101 = .ok (.iload_n 2, 1) := by decide +kernel
theorem dX12_wouldSay_102 : decode cX12_wouldSay 102 = .ok (.iconst 1, 1) := by decide +kernel
theorem dX12_wouldSay_103 : decode cX12_wouldSay 103 = .ok (.isub, 1) := by decide +kernel
theorem dX12_wouldSay_104 : decode cX12_wouldSay 104 = .ok (.iaload, 1) := by decide +kernel
theorem dX12_wouldSay_105 : decode cX12_wouldSay 105 = .ok (.istore 8, 2) := by decide +kernel
theorem dX12_wouldSay_107 : decode cX12_wouldSay 107 = .ok (.aload_n 0, 1) := by decide +kernel
theorem dX12_wouldSay_108 : decode cX12_wouldSay 108 = .ok (.getfield 56, 3) := by decide +kernel
theorem dX12_wouldSay_111 : decode cX12_wouldSay 111 = .ok (.iload_n 2, 1) := by decide +kernel
theorem dX12_wouldSay_112 : decode cX12_wouldSay 112 = .ok (.iconst 1, 1) := by decide +kernel
theorem dX12_wouldSay_113 : decode cX12_wouldSay 113 = .ok (.isub, 1) := by decide +kernel
theorem dX12_wouldSay_114 : decode cX12_wouldSay 114 = .ok (.iaload, 1) := by decide +kernel
theorem dX12_wouldSay_115 : decode cX12_wouldSay 115 = .ok (.istore 9, 2) := by decide +kernel
theorem dX12_wouldSay_117 : decode cX12_wouldSay 117 = .ok (.aload_n 0, 1) := by decide +kernel
theorem dX12_wouldSay_118 : decode cX12_wouldSay 118 = .ok (.iload_n 3, 1) := by decide +kernel
theorem dX12_wouldSay_119 : decode cX12_wouldSay 119 = .ok (.iload 8, 2) := by decide +kernel
theorem dX12_wouldSay_121 : decode cX12_wouldSay 121 = .ok (.ixor, 1) := by decide +kernel
theorem dX12_wouldSay_122 : decode cX12_wouldSay 122 = .ok (.invokevirtual 298, 3) := by decide +kernel
theorem dX12_wouldSay_125 : decode cX12_wouldSay 125 = .ok (.aload_n 0, 1) := by decide +kernel
theorem dX12_wouldSay_126 : decode cX12_wouldSay 126 = .ok (.iload_n 3, 1) := by decide +kernel
theorem dX12_wouldSay_127 : decode cX12_wouldSay 127 = .ok (.invokevirtual 298, 3) := by decide +kernel
theorem dX12_wouldSay_130 : decode cX12_wouldSay 130 = .ok (.isub, 1) := by decide +kernel
theorem dX12_wouldSay_131 : decode cX12_wouldSay 131 = .ok (.iload 7, 2) := by decide +kernel
theorem dX12_wouldSay_133 : decode cX12_wouldSay 133 = .ok (.iload 9, 2) := by decide +kernel
theorem dX12_wouldSay_135 : decode cX12_wouldSay 135 = .ok (.imul, 1) := by decide +kernel
theorem dX12_wouldSay_136 : decode cX12_wouldSay 136 = .ok (.iadd, 1) := by decide +kernel
theorem dX12_wouldSay_137 : decode cX12_wouldSay 137 = .ok (.istore 10, 2) := by decide +kernel
theorem dX12_wouldSay_139 : decode cX12_wouldSay 139 = .ok (.aload_n 0, 1) := by decide +kernel
theorem dX12_wouldSay_140 : decode cX12_wouldSay 140 = .ok (.iload 5, 2) := by decide +kernel
theorem dX12_wouldSay_142 : decode cX12_wouldSay 142 = .ok (.iload 4, 2) := by decide +kernel
theorem dX12_wouldSay_144 : decode cX12_wouldSay 144 = .ok (.iload 8, 2) := by decide +kernel
theorem dX12_wouldSay_146 : decode cX12_wouldSay 146 = .ok (.ixor, 1) := by decide +kernel
theorem dX12_wouldSay_147 : decode cX12_wouldSay 147 = .ok (.invokevirtual 204, 3) := by decide +kernel
theorem dX12_wouldSay_150 : decode cX12_wouldSay 150 = .ok (.ifCond .ne 43, 3) := by decide +kernel
theorem dX12_wouldSay_153 : decode cX12_wouldSay 153 = .ok (.aload_n 0, 1) := by decide +kernel
theorem dX12_wouldSay_154 : decode cX12_wouldSay 154 = .ok (.getfield 253, 3) := by decide +kernel
theorem dX12_wouldSay_157 : decode cX12_wouldSay 157 = .ok (.iload 9, 2) := by decide +kernel
theorem dX12_wouldSay_159 : decode cX12_wouldSay 159 = .ok (.isub, 1) := by decide +kernel
theorem dX12_wouldSay_160 : decode cX12_wouldSay 160 = .ok (.i2l, 1) := by decide +kernel
theorem dX12_wouldSay_161 : decode cX12_wouldSay 161 = .ok (.lconst 0, 1) := by decide +kernel
theorem dX12_wouldSay_162 : decode cX12_wouldSay 162 = .ok (.ldc2_w 151, 3) := by decide +kernel
theorem dX12_wouldSay_165 : decode cX12_wouldSay 165 = .ok (.invokestatic 133, 3) := by decide +kernel
theorem dX12_wouldSay_168 : decode cX12_wouldSay 168 = .ok (.ifCond .eq 25, 3) := by decide +kernel
theorem dX12_wouldSay_171 : decode cX12_wouldSay 171 = .ok (.aload_n 0, 1) := by decide +kernel
theorem dX12_wouldSay_172 : decode cX12_wouldSay 172 = .ok (.getfield 256, 3) := by decide +kernel
theorem dX12_wouldSay_175 : decode cX12_wouldSay 175 = .ok (.iload 9, 2) := by decide +kernel
theorem dX12_wouldSay_177 : decode cX12_wouldSay 177 = .ok (.iadd, 1) := by decide +kernel
theorem dX12_wouldSay_178 : decode cX12_wouldSay 178 = .ok (.i2l, 1) := by decide +kernel
theorem dX12_wouldSay_179 : decode cX12_wouldSay 179 = .ok (.lconst 0, 1) := by decide +kernel
theorem dX12_wouldSay_180 : decode cX12_wouldSay 180 = .ok (.ldc2_w 151, 3) := by decide +kernel
theorem dX12_wouldSay_183 : decode cX12_wouldSay 183 = .ok (.invokestatic 133, 3) := by decide +kernel
theorem dX12_wouldSay_186 : decode cX12_wouldSay 186 = .ok (.ifCond .eq 7, 3) := by decide +kernel
theorem dX12_wouldSay_189 : decode cX12_wouldSay 189 = .ok (.iconst 1, 1) := by decide +kernel
theorem dX12_wouldSay_190 : decode cX12_wouldSay 190 = .ok (.goto 4, 3) := by decide +kernel
theorem dX12_wouldSay_193 : decode cX12_wouldSay 193 = .ok (.iconst 0, 1) := by decide +kernel
theorem dX12_wouldSay_194 : decode cX12_wouldSay 194 = .ok (.istore 11, 2) := by decide +kernel
theorem dX12_wouldSay_196 : decode cX12_wouldSay 196 = .ok (.iload 11, 2) := by decide +kernel
theorem dX12_wouldSay_198 : decode cX12_wouldSay 198 = .ok (.ifCond .eq 37, 3) := by decide +kernel
theorem dX12_wouldSay_201 : decode cX12_wouldSay 201 = .ok (.iload 10, 2) := by decide +kernel
theorem dX12_wouldSay_203 : decode cX12_wouldSay 203 = .ok (.aload_n 0, 1) := by decide +kernel
theorem dX12_wouldSay_204 : decode cX12_wouldSay 204 = .ok (.getfield 16, 3) := by decide +kernel
theorem dX12_wouldSay_207 : decode cX12_wouldSay 207 = .ok (.iload_n 1, 1) := by decide +kernel
theorem dX12_wouldSay_208 : decode cX12_wouldSay 208 = .ok (.iaload, 1) := by decide +kernel
theorem dX12_wouldSay_209 : decode cX12_wouldSay 209 = .ok (.if_icmp .lt 26, 3) := by decide +kernel
theorem dX12_wouldSay_212 : decode cX12_wouldSay 212 = .ok (.iload 10, 2) := by decide +kernel
theorem dX12_wouldSay_214 : decode cX12_wouldSay 214 = .ok (.iload 6, 2) := by decide +kernel
theorem dX12_wouldSay_216 : decode cX12_wouldSay 216 = .ok (.if_icmp .lt 19, 3) := by decide +kernel
theorem dX12_wouldSay_219 : decode cX12_wouldSay 219 = .ok (.aload_n 0, 1) := by decide +kernel
theorem dX12_wouldSay_220 : decode cX12_wouldSay 220 = .ok (.getfield 50, 3) := by decide +kernel
theorem dX12_wouldSay_223 : decode cX12_wouldSay 223 = .ok (.iload_n 2, 1) := by decide +kernel
theorem dX12_wouldSay_224 : decode cX12_wouldSay 224 = .ok (.iaload, 1) := by decide +kernel
theorem dX12_wouldSay_225 : decode cX12_wouldSay 225 = .ok (.iconst 3, 1) := by decide +kernel
theorem dX12_wouldSay_226 : decode cX12_wouldSay 226 = .ok (.if_icmp .ne 7, 3) := by decide +kernel
theorem dX12_wouldSay_229 : decode cX12_wouldSay 229 = .ok (.iconst 1, 1) := by decide +kernel
theorem dX12_wouldSay_230 : decode cX12_wouldSay 230 = .ok (.goto 4, 3) := by decide +kernel
theorem dX12_wouldSay_233 : decode cX12_wouldSay 233 = .ok (.iconst 0, 1) := by decide +kernel
theorem dX12_wouldSay_234 : decode cX12_wouldSay 234 = .ok (.ireturn, 1) := by decide +kernel
theorem dX12_wouldSay_235 : decode cX12_wouldSay 235 = .ok (.aload_n 0, 1) := by decide +kernel
theorem dX12_wouldSay_236 : decode cX12_wouldSay 236 = .ok (.iconst 0, 1) := by decide +kernel
theorem dX12_wouldSay_237 : decode cX12_wouldSay 237 = .ok (.putfield 278, 3) := by decide +kernel
theorem dX12_wouldSay_240 : decode cX12_wouldSay 240 = .ok (.iconst 0, 1) := by decide +kernel
theorem dX12_wouldSay_241 : decode cX12_wouldSay 241 = .ok (.istore 8, 2) := by decide +kernel
theorem dX12_wouldSay_243 : decode cX12_wouldSay 243 = .ok (.iload 8, 2) := by decide +kernel
theorem dX12_wouldSay_245 : decode cX12_wouldSay 245 = .ok (.bipush 64, 2) := by decide +kernel
theorem dX12_wouldSay_247 : decode cX12_wouldSay 247 = .ok (.if_icmp .ge 40, 3) := by decide +kernel
theorem dX12_wouldSay_250 : decode cX12_wouldSay 250 = .ok (.iload 8, 2) := by decide +kernel
theorem dX12_wouldSay_252 : decode cX12_wouldSay 252 = .ok (.aload_n 0, 1) := by decide +kernel
theorem dX12_wouldSay_253 : decode cX12_wouldSay 253 = .ok (.getfield 247, 3) := by decide +kernel
theorem dX12_wouldSay_256 : decode cX12_wouldSay 256 = .ok (.aload_n 0, 1) := by decide +kernel
theorem dX12_wouldSay_257 : decode cX12_wouldSay 257 = .ok (.getfield 250, 3) := by decide +kernel
theorem dX12_wouldSay_260 : decode cX12_wouldSay 260 = .ok (.ior, 1) := by decide +kernel
theorem dX12_wouldSay_261 : decode cX12_wouldSay 261 = .ok (.iconst (-1), 1) := by decide +kernel
theorem dX12_wouldSay_262 : decode cX12_wouldSay 262 = .ok (.ixor, 1) := by decide +kernel
theorem dX12_wouldSay_263 : decode cX12_wouldSay 263 = .ok (.iand, 1) := by decide +kernel
theorem dX12_wouldSay_264 : decode cX12_wouldSay 264 = .ok (.ifCond .ne 17, 3) := by decide +kernel
theorem dX12_wouldSay_267 : decode cX12_wouldSay 267 = .ok (.aload_n 0, 1) := by decide +kernel
theorem dX12_wouldSay_268 : decode cX12_wouldSay 268 = .ok (.iload 8, 2) := by decide +kernel
theorem dX12_wouldSay_270 : decode cX12_wouldSay 270 = .ok (.aload_n 0, 1) := by decide +kernel
theorem dX12_wouldSay_271 : decode cX12_wouldSay 271 = .ok (.iload_n 3, 1) := by decide +kernel
theorem dX12_wouldSay_272 : decode cX12_wouldSay 272 = .ok (.iload 8, 2) := by decide +kernel
theorem dX12_wouldSay_274 : decode cX12_wouldSay 274 = .ok (.ixor, 1) := by decide +kernel
theorem dX12_wouldSay_275 : decode cX12_wouldSay 275 = .ok (.invokevirtual 298, 3) := by decide +kernel
theorem dX12_wouldSay_278 : decode cX12_wouldSay 278 = .ok (.invokevirtual 281, 3) := by decide +kernel
theorem dX12_wouldSay_281 : decode cX12_wouldSay 281 = .ok (.iinc 8 1, 3) := by decide +kernel
theorem dX12_wouldSay_284 : decode cX12_wouldSay 284 = .ok (.goto (-41), 3) := by decide +kernel
theorem dX12_wouldSay_287 : decode cX12_wouldSay 287 = .ok (.aload_n 0, 1) := by decide +kernel
theorem dX12_wouldSay_288 : decode cX12_wouldSay 288 = .ok (.getfield 59, 3) := by decide +kernel
theorem dX12_wouldSay_291 : decode cX12_wouldSay 291 = .ok (.iload_n 2, 1) := by decide +kernel
theorem dX12_wouldSay_292 : decode cX12_wouldSay 292 = .ok (.iconst 2, 1) := by decide +kernel
theorem dX12_wouldSay_293 : decode cX12_wouldSay 293 = .ok (.idiv, 1) := by decide +kernel
theorem dX12_wouldSay_294 : decode cX12_wouldSay 294 = .ok (.aload_n 0, 1) := by decide +kernel
theorem dX12_wouldSay_295 : decode cX12_wouldSay 295 = .ok (.getfield 278, 3) := by decide +kernel
theorem dX12_wouldSay_298 : decode cX12_wouldSay 298 = .ok (.irem, 1) := by decide +kernel
theorem dX12_wouldSay_299 : decode cX12_wouldSay 299 = .ok (.iaload, 1) := by decide +kernel
theorem dX12_wouldSay_300 : decode cX12_wouldSay 300 = .ok (.istore 8, 2) := by decide +kernel
theorem dX12_wouldSay_302 : decode cX12_wouldSay 302 = .ok (.aload_n 0, 1) := by decide +kernel
theorem dX12_wouldSay_303 : decode cX12_wouldSay 303 = .ok (.iload_n 3, 1) := by decide +kernel
theorem dX12_wouldSay_304 : decode cX12_wouldSay 304 = .ok (.iload 8, 2) := by decide +kernel
theorem dX12_wouldSay_306 : decode cX12_wouldSay 306 = .ok (.ixor, 1) := by decide +kernel
theorem dX12_wouldSay_307 : decode cX12_wouldSay 307 = .ok (.invokevirtual 298, 3) := by decide +kernel
theorem dX12_wouldSay_310 : decode cX12_wouldSay 310 = .ok (.aload_n 0, 1) := by decide +kernel
theorem dX12_wouldSay_311 : decode cX12_wouldSay 311 = .ok (.iload_n 3, 1) := by decide +kernel
theorem dX12_wouldSay_312 : decode cX12_wouldSay 312 = .ok (.invokevirtual 298, 3) := by decide +kernel
theorem dX12_wouldSay_315 : decode cX12_wouldSay 315 = .ok (.isub, 1) := by decide +kernel
theorem dX12_wouldSay_316 : decode cX12_wouldSay 316 = .ok (.istore 9, 2) := by decide +kernel
theorem dX12_wouldSay_318 : decode cX12_wouldSay 318 = .ok (.iload 7, 2) := by decide +kernel
theorem dX12_wouldSay_320 : decode cX12_wouldSay 320 = .ok (.iload 6, 2) := by decide +kernel
theorem dX12_wouldSay_322 : decode cX12_wouldSay 322 = .ok (.iload 9, 2) := by decide +kernel
theorem dX12_wouldSay_324 : decode cX12_wouldSay 324 = .ok (.isub, 1) := by decide +kernel
theorem dX12_wouldSay_325 : decode cX12_wouldSay 325 = .ok (.imul, 1) := by decide +kernel
theorem dX12_wouldSay_326 : decode cX12_wouldSay 326 = .ok (.istore 10, 2) := by decide +kernel
theorem dX12_wouldSay_328 : decode cX12_wouldSay 328 = .ok (.iload 10, 2) := by decide +kernel
theorem dX12_wouldSay_330 : decode cX12_wouldSay 330 = .ok (.i2l, 1) := by decide +kernel
theorem dX12_wouldSay_331 : decode cX12_wouldSay 331 = .ok (.ldc2_w 218, 3) := by decide +kernel
theorem dX12_wouldSay_334 : decode cX12_wouldSay 334 = .ok (.ldc2_w 216, 3) := by decide +kernel
theorem dX12_wouldSay_337 : decode cX12_wouldSay 337 = .ok (.invokestatic 133, 3) := by decide +kernel
theorem dX12_wouldSay_340 : decode cX12_wouldSay 340 = .ok (.ifCond .ne 19, 3) := by decide +kernel
theorem dX12_wouldSay_343 : decode cX12_wouldSay 343 = .ok (.aload_n 0, 1) := by decide +kernel
theorem dX12_wouldSay_344 : decode cX12_wouldSay 344 = .ok (.getfield 50, 3) := by decide +kernel
theorem dX12_wouldSay_347 : decode cX12_wouldSay 347 = .ok (.iload_n 2, 1) := by decide +kernel
theorem dX12_wouldSay_348 : decode cX12_wouldSay 348 = .ok (.iaload, 1) := by decide +kernel
theorem dX12_wouldSay_349 : decode cX12_wouldSay 349 = .ok (.iconst 4, 1) := by decide +kernel
theorem dX12_wouldSay_350 : decode cX12_wouldSay 350 = .ok (.if_icmp .ne 7, 3) := by decide +kernel
theorem dX12_wouldSay_353 : decode cX12_wouldSay 353 = .ok (.iconst 1, 1) := by decide +kernel
theorem dX12_wouldSay_354 : decode cX12_wouldSay 354 = .ok (.goto 4, 3) := by decide +kernel
theorem dX12_wouldSay_357 : decode cX12_wouldSay 357 = .ok (.iconst 0, 1) := by decide +kernel
theorem dX12_wouldSay_358 : decode cX12_wouldSay 358 = .ok (.ireturn, 1) := by decide +kernel
theorem dX12_wouldSay_359 : decode cX12_wouldSay 359 = .ok (.aload_n 0, 1) := by decide +kernel
theorem dX12_wouldSay_360 : decode cX12_wouldSay 360 = .ok (.iload_n 2, 1) := by decide +kernel
theorem dX12_wouldSay_361 : decode cX12_wouldSay 361 = .ok (.invokevirtual 266, 3) := by decide +kernel
theorem dX12_wouldSay_364 : decode cX12_wouldSay 364 = .ok (.ifCond .eq 29, 3) := by decide +kernel
theorem dX12_wouldSay_367 : decode cX12_wouldSay 367 = .ok (.aload_n 0, 1) := by decide +kernel
theorem dX12_wouldSay_368 : decode cX12_wouldSay 368 = .ok (.getfield 53, 3) := by decide +kernel
theorem dX12_wouldSay_371 : decode cX12_wouldSay 371 = .ok (.iload_n 2, 1) := by decide +kernel
theorem dX12_wouldSay_372 : decode cX12_wouldSay 372 = .ok (.iaload, 1) := by decide +kernel
theorem dX12_wouldSay_373 : decode cX12_wouldSay 373 = .ok (.iload 8, 2) := by decide +kernel
theorem dX12_wouldSay_375 : decode cX12_wouldSay 375 = .ok (.if_icmp .ne 18, 3) := by decide +kernel
theorem dX12_wouldSay_378 : decode cX12_wouldSay 378 = .ok (.aload_n 0, 1) := by decide +kernel
theorem dX12_wouldSay_379 : decode cX12_wouldSay 379 = .ok (.getfield 56, 3) := by decide +kernel
theorem dX12_wouldSay_382 : decode cX12_wouldSay 382 = .ok (.iload_n 2, 1) := by decide +kernel
theorem dX12_wouldSay_383 : decode cX12_wouldSay 383 = .ok (.iaload, 1) := by decide +kernel
theorem dX12_wouldSay_384 : decode cX12_wouldSay 384 = .ok (.iload 10, 2) := by decide +kernel
theorem dX12_wouldSay_386 : decode cX12_wouldSay 386 = .ok (.if_icmp .ne 7, 3) := by decide +kernel
theorem dX12_wouldSay_389 : decode cX12_wouldSay 389 = .ok (.iconst 1, 1) := by decide +kernel
theorem dX12_wouldSay_390 : decode cX12_wouldSay 390 = .ok (.goto 4, 3) := by decide +kernel
theorem dX12_wouldSay_393 : decode cX12_wouldSay 393 = .ok (.iconst 0, 1) := by decide +kernel
theorem dX12_wouldSay_394 : decode cX12_wouldSay 394 = .ok (.ireturn, 1) := by decide +kernel
theorem dX12_saidBy_0 : decode cX12_saidBy 0 = .ok (.iload_n 1, 1) := by decide +kernel
theorem dX12_saidBy_1 : decode cX12_saidBy 1 = .ok (.aload_n 0, 1) := by decide +kernel
theorem dX12_saidBy_2 : decode cX12_saidBy 2 = .ok (.getfield 235, 3) := by decide +kernel
theorem dX12_saidBy_5 : decode cX12_saidBy 5 = .ok (.if_icmp .ne 14, 3) := by decide +kernel
theorem dX12_saidBy_8 : decode cX12_saidBy 8 = .ok (.aload_n 0, 1) := by decide +kernel
theorem dX12_saidBy_9 : decode cX12_saidBy 9 = .ok (.getfield 244, 3) := by decide +kernel
theorem dX12_saidBy_12 : decode cX12_saidBy 12 = .ok (.iconst 1, 1) := by decide +kernel
theorem dX12_saidBy_13 : decode cX12_saidBy 13 = .ok (.iadd, 1) := by decide +kernel
theorem dX12_saidBy_14 : decode cX12_saidBy 14 = .ok (.iconst 2, 1) := by decide +kernel
theorem dX12_saidBy_15 : decode cX12_saidBy 15 = .ok (.idiv, 1) := by decide +kernel
theorem dX12_saidBy_16 : decode cX12_saidBy 16 = .ok (.goto 9, 3) := by decide +kernel
theorem dX12_saidBy_19 : decode cX12_saidBy 19 = .ok (.aload_n 0, 1) := by decide +kernel
theorem dX12_saidBy_20 : decode cX12_saidBy 20 = .ok (.getfield 244, 3) := by decide +kernel
theorem dX12_saidBy_23 : decode cX12_saidBy 23 = .ok (.iconst 2, 1) := by decide +kernel
theorem dX12_saidBy_24 : decode cX12_saidBy 24 = .ok (.idiv, 1) := by decide +kernel
theorem dX12_saidBy_25 : decode cX12_saidBy 25 = .ok (.ireturn, 1) := by decide +kernel
theorem dX12_learnt_0 : decode cX12_learnt 0 = .ok (.iload_n 1, 1) := by decide +kernel
theorem dX12_learnt_1 : decode cX12_learnt 1 = .ok (.invokestatic 143, 3) := by decide +kernel
theorem dX12_learnt_4 : decode cX12_learnt 4 = .ok (.ifCond .eq 7, 3) := by decide +kernel
theorem dX12_learnt_7 : decode cX12_learnt 7 = .ok (.iload_n 2, 1) := by decide +kernel
theorem dX12_learnt_8 : decode cX12_learnt 8 = .ok (.ifCond .ge 5, 3) := by decide +kernel
theorem dX12_learnt_11 : decode cX12_learnt 11 = .ok (.iconst (-1), 1) := by decide +kernel
theorem dX12_learnt_12 : decode cX12_learnt 12 = .ok (.ireturn, 1) := by decide +kernel
theorem dX12_learnt_13 : decode cX12_learnt 13 = .ok (.aload_n 0, 1) := by decide +kernel
theorem dX12_learnt_14 : decode cX12_learnt 14 = .ok (.getfield 137, 3) := by decide +kernel
theorem dX12_learnt_17 : decode cX12_learnt 17 = .ok (.ifCond .ne 6, 3) := by decide +kernel
theorem dX12_learnt_20 : decode cX12_learnt 20 = .ok (.bipush (-2), 2) := by decide +kernel
theorem dX12_learnt_22 : decode cX12_learnt 22 = .ok (.ireturn, 1) := by decide +kernel
theorem dX12_learnt_23 : decode cX12_learnt 23 = .ok (.iload_n 1, 1) := by decide +kernel
theorem dX12_learnt_24 : decode cX12_learnt 24 = .ok (.aload_n 0, 1) := by decide +kernel
theorem dX12_learnt_25 : decode cX12_learnt 25 = .ok (.getfield 235, 3) := by decide +kernel
theorem dX12_learnt_28 : decode cX12_learnt 28 = .ok (.if_icmp .eq 11, 3) := by decide +kernel
theorem dX12_learnt_31 : decode cX12_learnt 31 = .ok (.iload_n 1, 1) := by decide +kernel
theorem dX12_learnt_32 : decode cX12_learnt 32 = .ok (.aload_n 0, 1) := by decide +kernel
theorem dX12_learnt_33 : decode cX12_learnt 33 = .ok (.getfield 238, 3) := by decide +kernel
theorem dX12_learnt_36 : decode cX12_learnt 36 = .ok (.if_icmp .ne 12, 3) := by decide +kernel
theorem dX12_learnt_39 : decode cX12_learnt 39 = .ok (.iload_n 2, 1) := by decide +kernel
theorem dX12_learnt_40 : decode cX12_learnt 40 = .ok (.aload_n 0, 1) := by decide +kernel
theorem dX12_learnt_41 : decode cX12_learnt 41 = .ok (.iload_n 1, 1) := by decide +kernel
theorem dX12_learnt_42 : decode cX12_learnt 42 = .ok (.invokevirtual 301, 3) := by decide +kernel
theorem dX12_learnt_45 : decode cX12_learnt 45 = .ok (.if_icmp .le 5, 3) := by decide +kernel
theorem dX12_learnt_48 : decode cX12_learnt 48 = .ok (.iconst (-1), 1) := by decide +kernel
theorem dX12_learnt_49 : decode cX12_learnt 49 = .ok (.ireturn, 1) := by decide +kernel
theorem dX12_learnt_50 : decode cX12_learnt 50 = .ok (.aload_n 0, 1) := by decide +kernel
theorem dX12_learnt_51 : decode cX12_learnt 51 = .ok (.iconst 0, 1) := by decide +kernel
theorem dX12_learnt_52 : decode cX12_learnt 52 = .ok (.putfield 295, 3) := by decide +kernel
theorem dX12_learnt_55 : decode cX12_learnt 55 = .ok (.iconst 0, 1) := by decide +kernel
theorem dX12_learnt_56 : decode cX12_learnt 56 = .ok (.istore_n 3, 1) := by decide +kernel
theorem dX12_learnt_57 : decode cX12_learnt 57 = .ok (.iload_n 3, 1) := by decide +kernel
theorem dX12_learnt_58 : decode cX12_learnt 58 = .ok (.bipush 6, 2) := by decide +kernel
theorem dX12_learnt_60 : decode cX12_learnt 60 = .ok (.if_icmp .ge 46, 3) := by decide +kernel
theorem dX12_learnt_63 : decode cX12_learnt 63 = .ok (.aload_n 0, 1) := by decide +kernel
theorem dX12_learnt_64 : decode cX12_learnt 64 = .ok (.getfield 247, 3) := by decide +kernel
theorem dX12_learnt_67 : decode cX12_learnt 67 = .ok (.aload_n 0, 1) := by decide +kernel
theorem dX12_learnt_68 : decode cX12_learnt 68 = .ok (.getfield 250, 3) := by decide +kernel
theorem dX12_learnt_71 : decode cX12_learnt 71 = .ok (.ior, 1) := by decide +kernel
theorem dX12_learnt_72 : decode cX12_learnt 72 = .ok (.iload_n 3, 1) := by decide +kernel
theorem dX12_learnt_73 : decode cX12_learnt 73 = .ok (.ishr, 1) := by decide +kernel
theorem dX12_learnt_74 : decode cX12_learnt 74 = .ok (.iconst 1, 1) := by decide +kernel
theorem dX12_learnt_75 : decode cX12_learnt 75 = .ok (.iand, 1) := by decide +kernel
theorem dX12_learnt_76 : decode cX12_learnt 76 = .ok (.iconst 1, 1) := by decide +kernel
theorem dX12_learnt_77 : decode cX12_learnt 77 = .ok (.if_icmp .ne 23, 3) := by decide +kernel
theorem dX12_learnt_80 : decode cX12_learnt 80 = .ok (.aload_n 0, 1) := by decide +kernel
theorem dX12_learnt_81 : decode cX12_learnt 81 = .ok (.getfield 65, 3) := by decide +kernel
theorem dX12_learnt_84 : decode cX12_learnt 84 = .ok (.aload_n 0, 1) := by decide +kernel
theorem dX12_learnt_85 : decode cX12_learnt 85 = .ok (.getfield 295, 3) := by decide +kernel
theorem dX12_learnt_88 : decode cX12_learnt 88 = .ok (.iload_n 3, 1) := by decide +kernel
theorem dX12_learnt_89 : decode cX12_learnt 89 = .ok (.iastore, 1) := by decide +kernel
theorem dX12_learnt_90 : decode cX12_learnt 90 = .ok (.aload_n 0, 1) := by decide +kernel
theorem dX12_learnt_91 : decode cX12_learnt 91 = .ok (.dup, 1) := by decide +kernel
theorem dX12_learnt_92 : decode cX12_learnt 92 = .ok (.getfield 295, 3) := by decide +kernel
theorem dX12_learnt_95 : decode cX12_learnt 95 = .ok (.iconst 1, 1) := by decide +kernel
theorem dX12_learnt_96 : decode cX12_learnt 96 = .ok (.iadd, 1) := by decide +kernel
theorem dX12_learnt_97 : decode cX12_learnt 97 = .ok (.putfield 295, 3) := by decide +kernel
theorem dX12_learnt_100 : decode cX12_learnt 100 = .ok (.iinc 3 1, 3) := by decide +kernel
theorem dX12_learnt_103 : decode cX12_learnt 103 = .ok (.goto (-46), 3) := by decide +kernel
theorem dX12_learnt_106 : decode cX12_learnt 106 = .ok (.aload_n 0, 1) := by decide +kernel
theorem dX12_learnt_107 : decode cX12_learnt 107 = .ok (.getfield 295, 3) := by decide +kernel
theorem dX12_learnt_110 : decode cX12_learnt 110 = .ok (.iconst 4, 1) := by decide +kernel
theorem dX12_learnt_111 : decode cX12_learnt 111 = .ok (.if_icmp .le 6, 3) := by decide +kernel
theorem dX12_learnt_114 : decode cX12_learnt 114 = .ok (.bipush (-2), 2) := by decide +kernel
theorem dX12_learnt_116 : decode cX12_learnt 116 = .ok (.ireturn, 1) := by decide +kernel
theorem dX12_learnt_117 : decode cX12_learnt 117 = .ok (.iconst 0, 1) := by decide +kernel
theorem dX12_learnt_118 : decode cX12_learnt 118 = .ok (.istore_n 3, 1) := by decide +kernel
theorem dX12_learnt_119 : decode cX12_learnt 119 = .ok (.iconst 1, 1) := by decide +kernel
theorem dX12_learnt_120 : decode cX12_learnt 120 = .ok (.istore 4, 2) := by decide +kernel
theorem dX12_learnt_122 : decode cX12_learnt 122 = .ok (.iconst 0, 1) := by decide +kernel
theorem dX12_learnt_123 : decode cX12_learnt 123 = .ok (.istore 5, 2) := by decide +kernel
theorem dX12_learnt_125 : decode cX12_learnt 125 = .ok (.iload 5, 2) := by decide +kernel
theorem dX12_learnt_127 : decode cX12_learnt 127 = .ok (.aload_n 0, 1) := by decide +kernel
theorem dX12_learnt_128 : decode cX12_learnt 128 = .ok (.getfield 295, 3) := by decide +kernel
theorem dX12_learnt_131 : decode cX12_learnt 131 = .ok (.if_icmp .ge 15, 3) := by decide +kernel
theorem dX12_learnt_134 : decode cX12_learnt 134 = .ok (.iload 4, 2) := by decide +kernel
theorem dX12_learnt_136 : decode cX12_learnt 136 = .ok (.iconst 3, 1) := by decide +kernel
theorem dX12_learnt_137 : decode cX12_learnt 137 = .ok (.imul, 1) := by decide +kernel
theorem dX12_learnt_138 : decode cX12_learnt 138 = .ok (.istore 4, 2) := by decide +kernel
theorem dX12_learnt_140 : decode cX12_learnt 140 = .ok (.iinc 5 1, 3) := by decide +kernel
theorem dX12_learnt_143 : decode cX12_learnt 143 = .ok (.goto (-18), 3) := by decide +kernel
theorem dX12_learnt_146 : decode cX12_learnt 146 = .ok (.iload_n 2, 1) := by decide +kernel
theorem dX12_learnt_147 : decode cX12_learnt 147 = .ok (.ifCond .ne 11, 3) := by decide +kernel
theorem dX12_learnt_150 : decode cX12_learnt 150 = .ok (.aload_n 0, 1) := by decide +kernel
theorem dX12_learnt_151 : decode cX12_learnt 151 = .ok (.iload_n 1, 1) := by decide +kernel
theorem dX12_learnt_152 : decode cX12_learnt 152 = .ok (.invokevirtual 301, 3) := by decide +kernel
theorem dX12_learnt_155 : decode cX12_learnt 155 = .ok (.goto 4, 3) := by decide +kernel
theorem dX12_learnt_158 : decode cX12_learnt 158 = .ok (.iload_n 2, 1) := by decide +kernel
theorem dX12_learnt_159 : decode cX12_learnt 159 = .ok (.istore 5, 2) := by decide +kernel
theorem dX12_learnt_161 : decode cX12_learnt 161 = .ok (.iconst 0, 1) := by decide +kernel
theorem dX12_learnt_162 : decode cX12_learnt 162 = .ok (.istore 6, 2) := by decide +kernel
theorem dX12_learnt_164 : decode cX12_learnt 164 = .ok (.iload 6, 2) := by decide +kernel
theorem dX12_learnt_166 : decode cX12_learnt 166 = .ok (.iload 4, 2) := by decide +kernel
theorem dX12_learnt_168 : decode cX12_learnt 168 = .ok (.if_icmp .ge 116, 3) := by decide +kernel
theorem dX12_learnt_171 : decode cX12_learnt 171 = .ok (.iload 6, 2) := by decide +kernel
theorem dX12_learnt_173 : decode cX12_learnt 173 = .ok (.istore 7, 2) := by decide +kernel
theorem dX12_learnt_175 : decode cX12_learnt 175 = .ok (.iconst 0, 1) := by decide +kernel
theorem dX12_learnt_176 : decode cX12_learnt 176 = .ok (.istore 8, 2) := by decide +kernel
theorem dX12_learnt_178 : decode cX12_learnt 178 = .ok (.iload 8, 2) := by decide +kernel
theorem dX12_learnt_180 : decode cX12_learnt 180 = .ok (.aload_n 0, 1) := by decide +kernel
theorem dX12_learnt_181 : decode cX12_learnt 181 = .ok (.getfield 295, 3) := by decide +kernel
theorem dX12_learnt_184 : decode cX12_learnt 184 = .ok (.if_icmp .ge 29, 3) := by decide +kernel
theorem dX12_learnt_187 : decode cX12_learnt 187 = .ok (.aload_n 0, 1) := by decide +kernel
theorem dX12_learnt_188 : decode cX12_learnt 188 = .ok (.getfield 68, 3) := by decide +kernel
theorem dX12_learnt_191 : decode cX12_learnt 191 = .ok (.iload 8, 2) := by decide +kernel
theorem dX12_learnt_193 : decode cX12_learnt 193 = .ok (.bipush 10, 2) := by decide +kernel
theorem dX12_learnt_195 : decode cX12_learnt 195 = .ok (.iload 7, 2) := by decide +kernel
theorem dX12_learnt_197 : decode cX12_learnt 197 = .ok (.iconst 3, 1) := by decide +kernel
theorem dX12_learnt_198 : decode cX12_learnt 198 = .ok (.irem, 1) := by decide +kernel
theorem dX12_learnt_199 : decode cX12_learnt 199 = .ok (.imul, 1) := by decide +kernel
theorem dX12_learnt_200 : decode cX12_learnt 200 = .ok (.iastore, 1) := by decide +kernel
theorem dX12_learnt_201 : decode cX12_learnt 201 = .ok (.iload 7, 2) := by decide +kernel
theorem dX12_learnt_203 : decode cX12_learnt 203 = .ok (.iconst 3, 1) := by decide +kernel
theorem dX12_learnt_204 : decode cX12_learnt 204 = .ok (.idiv, 1) := by decide +kernel
theorem dX12_learnt_205 : decode cX12_learnt 205 = .ok (.istore 7, 2) := by decide +kernel
theorem dX12_learnt_207 : decode cX12_learnt 207 = .ok (.iinc 8 1, 3) := by decide +kernel
theorem dX12_learnt_210 : decode cX12_learnt 210 = .ok (.goto (-32), 3) := by decide +kernel
theorem dX12_learnt_213 : decode cX12_learnt 213 = .ok (.iconst 1, 1) := by decide +kernel
theorem dX12_learnt_214 : decode cX12_learnt 214 = .ok (.istore 8, 2) := by decide +kernel
theorem dX12_learnt_216 : decode cX12_learnt 216 = .ok (.iconst 0, 1) := by decide +kernel
theorem dX12_learnt_217 : decode cX12_learnt 217 = .ok (.istore 9, 2) := by decide +kernel
theorem dX12_learnt_219 : decode cX12_learnt 219 = .ok (.iload 9, 2) := by decide +kernel
theorem dX12_learnt_221 : decode cX12_learnt 221 = .ok (.iload 5, 2) := by decide +kernel
theorem dX12_learnt_223 : decode cX12_learnt 223 = .ok (.if_icmp .ge 42, 3) := by decide +kernel
theorem dX12_learnt_226 : decode cX12_learnt 226 = .ok (.iload 8, 2) := by decide +kernel
theorem dX12_learnt_228 : decode cX12_learnt 228 = .ok (.ifCond .eq 37, 3) := by decide +kernel
theorem dX12_learnt_231 : decode cX12_learnt 231 = .ok (.aload_n 0, 1) := by decide +kernel
theorem dX12_learnt_232 : decode cX12_learnt 232 = .ok (.iload_n 1, 1) := by decide +kernel
theorem dX12_learnt_233 : decode cX12_learnt 233 = .ok (.iload_n 1, 1) := by decide +kernel
theorem dX12_learnt_234 : decode cX12_learnt 234 = .ok (.aload_n 0, 1) := by decide +kernel
theorem dX12_learnt_235 : decode cX12_learnt 235 = .ok (.getfield 235, 3) := by decide +kernel
theorem dX12_learnt_238 : decode cX12_learnt 238 = .ok (.if_icmp .ne 10, 3) := by decide +kernel
theorem dX12_learnt_241 : decode cX12_learnt 241 = .ok (.iconst 2, 1) := by decide +kernel
theorem dX12_learnt_242 : decode cX12_learnt 242 = .ok (.iload 9, 2) := by decide +kernel
theorem dX12_learnt_244 : decode cX12_learnt 244 = .ok (.imul, 1) := by decide +kernel
theorem dX12_learnt_245 : decode cX12_learnt 245 = .ok (.goto 9, 3) := by decide +kernel
theorem dX12_learnt_248 : decode cX12_learnt 248 = .ok (.iconst 2, 1) := by decide +kernel
theorem dX12_learnt_249 : decode cX12_learnt 249 = .ok (.iload 9, 2) := by decide +kernel
theorem dX12_learnt_251 : decode cX12_learnt 251 = .ok (.imul, 1) := by decide +kernel
theorem dX12_learnt_252 : decode cX12_learnt 252 = .ok (.iconst 1, 1) := by decide +kernel
theorem dX12_learnt_253 : decode cX12_learnt 253 = .ok (.iadd, 1) := by decide +kernel
theorem dX12_learnt_254 : decode cX12_learnt 254 = .ok (.invokevirtual 304, 3) := by decide +kernel
theorem dX12_learnt_257 : decode cX12_learnt 257 = .ok (.istore 8, 2) := by decide +kernel
theorem dX12_learnt_259 : decode cX12_learnt 259 = .ok (.iinc 9 1, 3) := by decide +kernel
theorem dX12_learnt_262 : decode cX12_learnt 262 = .ok (.goto (-43), 3) := by decide +kernel
theorem dX12_learnt_265 : decode cX12_learnt 265 = .ok (.iload_n 3, 1) := by decide +kernel
theorem dX12_learnt_266 : decode cX12_learnt 266 = .ok (.iload 8, 2) := by decide +kernel
theorem dX12_learnt_268 : decode cX12_learnt 268 = .ok (.ifCond .eq 7, 3) := by decide +kernel
theorem dX12_learnt_271 : decode cX12_learnt 271 = .ok (.iconst 1, 1) := by decide +kernel
theorem dX12_learnt_272 : decode cX12_learnt 272 = .ok (.goto 4, 3) := by decide +kernel
theorem dX12_learnt_275 : decode cX12_learnt 275 = .ok (.iconst 0, 1) := by decide +kernel
theorem dX12_learnt_276 : decode cX12_learnt 276 = .ok (.iadd, 1) := by decide +kernel
theorem dX12_learnt_277 : decode cX12_learnt 277 = .ok (.istore_n 3, 1) := by decide +kernel
theorem dX12_learnt_278 : decode cX12_learnt 278 = .ok (.iinc 6 1, 3) := by decide +kernel
theorem dX12_learnt_281 : decode cX12_learnt 281 = .ok (.goto (-117), 3) := by decide +kernel
theorem dX12_learnt_284 : decode cX12_learnt 284 = .ok (.iload_n 3, 1) := by decide +kernel
theorem dX12_learnt_285 : decode cX12_learnt 285 = .ok (.ireturn, 1) := by decide +kernel
theorem dX12_findValue_0 : decode cX12_findValue 0 = .ok (.iconst 0, 1) := by decide +kernel
theorem dX12_findValue_1 : decode cX12_findValue 1 = .ok (.istore_n 2, 1) := by decide +kernel
theorem dX12_findValue_2 : decode cX12_findValue 2 = .ok (.iconst 0, 1) := by decide +kernel
theorem dX12_findValue_3 : decode cX12_findValue 3 = .ok (.istore_n 3, 1) := by decide +kernel
theorem dX12_findValue_4 : decode cX12_findValue 4 = .ok (.iconst 0, 1) := by decide +kernel
theorem dX12_findValue_5 : decode cX12_findValue 5 = .ok (.istore 4, 2) := by decide +kernel
theorem dX12_findValue_7 : decode cX12_findValue 7 = .ok (.iload 4, 2) := by decide +kernel
theorem dX12_findValue_9 : decode cX12_findValue 9 = .ok (.iconst 4, 1) := by decide +kernel
theorem dX12_findValue_10 : decode cX12_findValue 10 = .ok (.if_icmp .ge 39, 3) := by decide +kernel
theorem dX12_findValue_13 : decode cX12_findValue 13 = .ok (.iload_n 1, 1) := by decide +kernel
theorem dX12_findValue_14 : decode cX12_findValue 14 = .ok (.iload 4, 2) := by decide +kernel
theorem dX12_findValue_16 : decode cX12_findValue 16 = .ok (.ishr, 1) := by decide +kernel
theorem dX12_findValue_17 : decode cX12_findValue 17 = .ok (.iconst 1, 1) := by decide +kernel
theorem dX12_findValue_18 : decode cX12_findValue 18 = .ok (.iand, 1) := by decide +kernel
theorem dX12_findValue_19 : decode cX12_findValue 19 = .ok (.iconst 1, 1) := by decide +kernel
theorem dX12_findValue_20 : decode cX12_findValue 20 = .ok (.if_icmp .ne 23, 3) := by decide +kernel
theorem dX12_findValue_23 : decode cX12_findValue 23 = .ok (.aload_n 0, 1) := by decide +kernel
theorem dX12_findValue_24 : decode cX12_findValue 24 = .ok (.getfield 77, 3) := by decide +kernel
theorem dX12_findValue_27 : decode cX12_findValue 27 = .ok (.iload_n 2, 1) := by decide +kernel
theorem dX12_findValue_28 : decode cX12_findValue 28 = .ok (.iload 4, 2) := by decide +kernel
theorem dX12_findValue_30 : decode cX12_findValue 30 = .ok (.iastore, 1) := by decide +kernel
theorem dX12_findValue_31 : decode cX12_findValue 31 = .ok (.iload_n 3, 1) := by decide +kernel
theorem dX12_findValue_32 : decode cX12_findValue 32 = .ok (.aload_n 0, 1) := by decide +kernel
theorem dX12_findValue_33 : decode cX12_findValue 33 = .ok (.iload 4, 2) := by decide +kernel
theorem dX12_findValue_35 : decode cX12_findValue 35 = .ok (.invokevirtual 208, 3) := by decide +kernel
theorem dX12_findValue_38 : decode cX12_findValue 38 = .ok (.ior, 1) := by decide +kernel
theorem dX12_findValue_39 : decode cX12_findValue 39 = .ok (.istore_n 3, 1) := by decide +kernel
theorem dX12_findValue_40 : decode cX12_findValue 40 = .ok (.iinc 2 1, 3) := by decide +kernel
theorem dX12_findValue_43 : decode cX12_findValue 43 = .ok (.iinc 4 1, 3) := by decide +kernel
theorem dX12_findValue_46 : decode cX12_findValue 46 = .ok (.goto (-39), 3) := by decide +kernel
theorem dX12_findValue_49 : decode cX12_findValue 49 = .ok (.iconst 1, 1) := by decide +kernel
theorem dX12_findValue_50 : decode cX12_findValue 50 = .ok (.istore 4, 2) := by decide +kernel
theorem dX12_findValue_52 : decode cX12_findValue 52 = .ok (.iconst 0, 1) := by decide +kernel
theorem dX12_findValue_53 : decode cX12_findValue 53 = .ok (.istore 5, 2) := by decide +kernel
theorem dX12_findValue_55 : decode cX12_findValue 55 = .ok (.iload 5, 2) := by decide +kernel
theorem dX12_findValue_57 : decode cX12_findValue 57 = .ok (.bipush 6, 2) := by decide +kernel
theorem dX12_findValue_59 : decode cX12_findValue 59 = .ok (.if_icmp .ge 29, 3) := by decide +kernel
theorem dX12_findValue_62 : decode cX12_findValue 62 = .ok (.iload 4, 2) := by decide +kernel
theorem dX12_findValue_64 : decode cX12_findValue 64 = .ok (.iload_n 3, 1) := by decide +kernel
theorem dX12_findValue_65 : decode cX12_findValue 65 = .ok (.iload 5, 2) := by decide +kernel
theorem dX12_findValue_67 : decode cX12_findValue 67 = .ok (.ishr, 1) := by decide +kernel
theorem dX12_findValue_68 : decode cX12_findValue 68 = .ok (.iconst 1, 1) := by decide +kernel
theorem dX12_findValue_69 : decode cX12_findValue 69 = .ok (.iand, 1) := by decide +kernel
theorem dX12_findValue_70 : decode cX12_findValue 70 = .ok (.iconst 1, 1) := by decide +kernel
theorem dX12_findValue_71 : decode cX12_findValue 71 = .ok (.if_icmp .ne 7, 3) := by decide +kernel
theorem dX12_findValue_74 : decode cX12_findValue 74 = .ok (.iload_n 2, 1) := by decide +kernel
theorem dX12_findValue_75 : decode cX12_findValue 75 = .ok (.goto 4, 3) := by decide +kernel
theorem dX12_findValue_78 : decode cX12_findValue 78 = .ok (.iconst 1, 1) := by decide +kernel
theorem dX12_findValue_79 : decode cX12_findValue 79 = .ok (.imul, 1) := by decide +kernel
theorem dX12_findValue_80 : decode cX12_findValue 80 = .ok (.istore 4, 2) := by decide +kernel
theorem dX12_findValue_82 : decode cX12_findValue 82 = .ok (.iinc 5 1, 3) := by decide +kernel
theorem dX12_findValue_85 : decode cX12_findValue 85 = .ok (.goto (-30), 3) := by decide +kernel
theorem dX12_findValue_88 : decode cX12_findValue 88 = .ok (.aload_n 0, 1) := by decide +kernel
theorem dX12_findValue_89 : decode cX12_findValue 89 = .ok (.getfield 74, 3) := by decide +kernel
theorem dX12_findValue_92 : decode cX12_findValue 92 = .ok (.iload_n 1, 1) := by decide +kernel
theorem dX12_findValue_93 : decode cX12_findValue 93 = .ok (.iconst 0, 1) := by decide +kernel
theorem dX12_findValue_94 : decode cX12_findValue 94 = .ok (.bastore, 1) := by decide +kernel
theorem dX12_findValue_95 : decode cX12_findValue 95 = .ok (.aload_n 0, 1) := by decide +kernel
theorem dX12_findValue_96 : decode cX12_findValue 96 = .ok (.getfield 71, 3) := by decide +kernel
theorem dX12_findValue_99 : decode cX12_findValue 99 = .ok (.iload_n 1, 1) := by decide +kernel
theorem dX12_findValue_100 : decode cX12_findValue 100 = .ok (.iconst 0, 1) := by decide +kernel
theorem dX12_findValue_101 : decode cX12_findValue 101 = .ok (.iastore, 1) := by decide +kernel
theorem dX12_findValue_102 : decode cX12_findValue 102 = .ok (.iconst 0, 1) := by decide +kernel
theorem dX12_findValue_103 : decode cX12_findValue 103 = .ok (.istore 5, 2) := by decide +kernel
theorem dX12_findValue_105 : decode cX12_findValue 105 = .ok (.iload 5, 2) := by decide +kernel
theorem dX12_findValue_107 : decode cX12_findValue 107 = .ok (.iload 4, 2) := by decide +kernel
theorem dX12_findValue_109 : decode cX12_findValue 109 = .ok (.if_icmp .ge 205, 3) := by decide +kernel
theorem dX12_findValue_112 : decode cX12_findValue 112 = .ok (.iload_n 2, 1) := by decide +kernel
theorem dX12_findValue_113 : decode cX12_findValue 113 = .ok (.ifCond .le 201, 3) := by decide +kernel
theorem dX12_findValue_116 : decode cX12_findValue 116 = .ok (.iload 5, 2) := by decide +kernel
theorem dX12_findValue_118 : decode cX12_findValue 118 = .ok (.istore 6, 2) := by decide +kernel
theorem dX12_findValue_120 : decode cX12_findValue 120 = .ok (.iconst 0, 1) := by decide +kernel
theorem dX12_findValue_121 : decode cX12_findValue 121 = .ok (.istore 7, 2) := by decide +kernel
theorem dX12_findValue_123 : decode cX12_findValue 123 = .ok (.iload 7, 2) := by decide +kernel
theorem dX12_findValue_125 : decode cX12_findValue 125 = .ok (.iload_n 2, 1) := by decide +kernel
theorem dX12_findValue_126 : decode cX12_findValue 126 = .ok (.if_icmp .ge 17, 3) := by decide +kernel
theorem dX12_findValue_129 : decode cX12_findValue 129 = .ok (.aload_n 0, 1) := by decide +kernel
theorem dX12_findValue_130 : decode cX12_findValue 130 = .ok (.getfield 80, 3) := by decide +kernel
theorem dX12_findValue_133 : decode cX12_findValue 133 = .ok (.iload 7, 2) := by decide +kernel
theorem dX12_findValue_135 : decode cX12_findValue 135 = .ok (.iconst 0, 1) := by decide +kernel
theorem dX12_findValue_136 : decode cX12_findValue 136 = .ok (.iastore, 1) := by decide +kernel
theorem dX12_findValue_137 : decode cX12_findValue 137 = .ok (.iinc 7 1, 3) := by decide +kernel
theorem dX12_findValue_140 : decode cX12_findValue 140 = .ok (.goto (-17), 3) := by decide +kernel
theorem dX12_findValue_143 : decode cX12_findValue 143 = .ok (.iconst 0, 1) := by decide +kernel
theorem dX12_findValue_144 : decode cX12_findValue 144 = .ok (.istore 7, 2) := by decide +kernel
theorem dX12_findValue_146 : decode cX12_findValue 146 = .ok (.iload 7, 2) := by decide +kernel
theorem dX12_findValue_148 : decode cX12_findValue 148 = .ok (.bipush 6, 2) := by decide +kernel
theorem dX12_findValue_150 : decode cX12_findValue 150 = .ok (.if_icmp .ge 41, 3) := by decide +kernel
theorem dX12_findValue_153 : decode cX12_findValue 153 = .ok (.iload_n 3, 1) := by decide +kernel
theorem dX12_findValue_154 : decode cX12_findValue 154 = .ok (.iload 7, 2) := by decide +kernel
theorem dX12_findValue_156 : decode cX12_findValue 156 = .ok (.ishr, 1) := by decide +kernel
theorem dX12_findValue_157 : decode cX12_findValue 157 = .ok (.iconst 1, 1) := by decide +kernel
theorem dX12_findValue_158 : decode cX12_findValue 158 = .ok (.iand, 1) := by decide +kernel
theorem dX12_findValue_159 : decode cX12_findValue 159 = .ok (.iconst 1, 1) := by decide +kernel
theorem dX12_findValue_160 : decode cX12_findValue 160 = .ok (.if_icmp .ne 25, 3) := by decide +kernel
theorem dX12_findValue_163 : decode cX12_findValue 163 = .ok (.aload_n 0, 1) := by decide +kernel
theorem dX12_findValue_164 : decode cX12_findValue 164 = .ok (.getfield 80, 3) := by decide +kernel
theorem dX12_findValue_167 : decode cX12_findValue 167 = .ok (.iload 6, 2) := by decide +kernel
theorem dX12_findValue_169 : decode cX12_findValue 169 = .ok (.iload_n 2, 1) := by decide +kernel
theorem dX12_findValue_170 : decode cX12_findValue 170 = .ok (.irem, 1) := by decide +kernel
theorem dX12_findValue_171 : decode cX12_findValue 171 = .ok (.dup2, 1) := by decide +kernel
theorem dX12_findValue_172 : decode cX12_findValue 172 = .ok (.iaload, 1) := by decide +kernel
theorem dX12_findValue_173 : decode cX12_findValue 173 = .ok (.iconst 1, 1) := by decide +kernel
theorem dX12_findValue_174 : decode cX12_findValue 174 = .ok (.iload 7, 2) := by decide +kernel
theorem dX12_findValue_176 : decode cX12_findValue 176 = .ok (.ishl, 1) := by decide +kernel
theorem dX12_findValue_177 : decode cX12_findValue 177 = .ok (.ior, 1) := by decide +kernel
theorem dX12_findValue_178 : decode cX12_findValue 178 = .ok (.iastore, 1) := by decide +kernel
theorem dX12_findValue_179 : decode cX12_findValue 179 = .ok (.iload 6, 2) := by decide +kernel
theorem dX12_findValue_181 : decode cX12_findValue 181 = .ok (.iload_n 2, 1) := by decide +kernel
theorem dX12_findValue_182 : decode cX12_findValue 182 = .ok (.idiv, 1) := by decide +kernel
theorem dX12_findValue_183 : decode cX12_findValue 183 = .ok (.istore 6, 2) := by decide +kernel
theorem dX12_findValue_185 : decode cX12_findValue 185 = .ok (.iinc 7 1, 3) := by decide +kernel
theorem dX12_findValue_188 : decode cX12_findValue 188 = .ok (.goto (-42), 3) := by decide +kernel
theorem dX12_findValue_191 : decode cX12_findValue 191 = .ok (.iconst 0, 1) := by decide +kernel
theorem dX12_findValue_192 : decode cX12_findValue 192 = .ok (.istore 7, 2) := by decide +kernel
theorem dX12_findValue_194 : decode cX12_findValue 194 = .ok (.iconst 1, 1) := by decide +kernel
theorem dX12_findValue_195 : decode cX12_findValue 195 = .ok (.istore 8, 2) := by decide +kernel
theorem dX12_findValue_197 : decode cX12_findValue 197 = .ok (.iconst 0, 1) := by decide +kernel
theorem dX12_findValue_198 : decode cX12_findValue 198 = .ok (.istore 9, 2) := by decide +kernel
theorem dX12_findValue_200 : decode cX12_findValue 200 = .ok (.iload 9, 2) := by decide +kernel
theorem dX12_findValue_202 : decode cX12_findValue 202 = .ok (.iload_n 2, 1) := by decide +kernel
theorem dX12_findValue_203 : decode cX12_findValue 203 = .ok (.if_icmp .ge 65, 3) := by decide +kernel
theorem dX12_findValue_206 : decode cX12_findValue 206 = .ok (.iload 7, 2) := by decide +kernel
theorem dX12_findValue_208 : decode cX12_findValue 208 = .ok (.aload_n 0, 1) := by decide +kernel
theorem dX12_findValue_209 : decode cX12_findValue 209 = .ok (.aload_n 0, 1) := by decide +kernel
theorem dX12_findValue_210 : decode cX12_findValue 210 = .ok (.getfield 77, 3) := by decide +kernel
theorem dX12_findValue_213 : decode cX12_findValue 213 = .ok (.iload 9, 2) := by decide +kernel
theorem dX12_findValue_215 : decode cX12_findValue 215 = .ok (.iaload, 1) := by decide +kernel
theorem dX12_findValue_216 : decode cX12_findValue 216 = .ok (.aload_n 0, 1) := by decide +kernel
theorem dX12_findValue_217 : decode cX12_findValue 217 = .ok (.getfield 80, 3) := by decide +kernel
theorem dX12_findValue_220 : decode cX12_findValue 220 = .ok (.iload 9, 2) := by decide +kernel
theorem dX12_findValue_222 : decode cX12_findValue 222 = .ok (.iaload, 1) := by decide +kernel
theorem dX12_findValue_223 : decode cX12_findValue 223 = .ok (.invokevirtual 200, 3) := by decide +kernel
theorem dX12_findValue_226 : decode cX12_findValue 226 = .ok (.iadd, 1) := by decide +kernel
theorem dX12_findValue_227 : decode cX12_findValue 227 = .ok (.istore 7, 2) := by decide +kernel
theorem dX12_findValue_229 : decode cX12_findValue 229 = .ok (.iload 8, 2) := by decide +kernel
theorem dX12_findValue_231 : decode cX12_findValue 231 = .ok (.ifCond .eq 28, 3) := by decide +kernel
theorem dX12_findValue_234 : decode cX12_findValue 234 = .ok (.aload_n 0, 1) := by decide +kernel
theorem dX12_findValue_235 : decode cX12_findValue 235 = .ok (.aload_n 0, 1) := by decide +kernel
theorem dX12_findValue_236 : decode cX12_findValue 236 = .ok (.getfield 77, 3) := by decide +kernel
theorem dX12_findValue_239 : decode cX12_findValue 239 = .ok (.iload 9, 2) := by decide +kernel
theorem dX12_findValue_241 : decode cX12_findValue 241 = .ok (.iaload, 1) := by decide +kernel
theorem dX12_findValue_242 : decode cX12_findValue 242 = .ok (.aload_n 0, 1) := by decide +kernel
theorem dX12_findValue_243 : decode cX12_findValue 243 = .ok (.getfield 80, 3) := by decide +kernel
theorem dX12_findValue_246 : decode cX12_findValue 246 = .ok (.iload 9, 2) := by decide +kernel
theorem dX12_findValue_248 : decode cX12_findValue 248 = .ok (.iaload, 1) := by decide +kernel
theorem dX12_findValue_249 : decode cX12_findValue 249 = .ok (.invokevirtual 204, 3) := by decide +kernel
theorem dX12_findValue_252 : decode cX12_findValue 252 = .ok (.ifCond .ne 7, 3) := by decide +kernel
theorem dX12_findValue_255 : decode cX12_findValue 255 = .ok (.iconst 1, 1) := by decide +kernel
theorem dX12_findValue_256 : decode cX12_findValue 256 = .ok (.goto 4, 3) := by decide +kernel
theorem dX12_findValue_259 : decode cX12_findValue 259 = .ok (.iconst 0, 1) := by decide +kernel
theorem dX12_findValue_260 : decode cX12_findValue 260 = .ok (.istore 8, 2) := by decide +kernel
theorem dX12_findValue_262 : decode cX12_findValue 262 = .ok (.iinc 9 1, 3) := by decide +kernel
theorem dX12_findValue_265 : decode cX12_findValue 265 = .ok (.goto (-65), 3) := by decide +kernel
theorem dX12_findValue_268 : decode cX12_findValue 268 = .ok (.iload 8, 2) := by decide +kernel
theorem dX12_findValue_270 : decode cX12_findValue 270 = .ok (.ifCond .eq 38, 3) := by decide +kernel
theorem dX12_findValue_273 : decode cX12_findValue 273 = .ok (.aload_n 0, 1) := by decide +kernel
theorem dX12_findValue_274 : decode cX12_findValue 274 = .ok (.getfield 74, 3) := by decide +kernel
theorem dX12_findValue_277 : decode cX12_findValue 277 = .ok (.iload_n 1, 1) := by decide +kernel
theorem dX12_findValue_278 : decode cX12_findValue 278 = .ok (.baload, 1) := by decide +kernel
theorem dX12_findValue_279 : decode cX12_findValue 279 = .ok (.ifCond .eq 14, 3) := by decide +kernel
theorem dX12_findValue_282 : decode cX12_findValue 282 = .ok (.iload 7, 2) := by decide +kernel
theorem dX12_findValue_284 : decode cX12_findValue 284 = .ok (.aload_n 0, 1) := by decide +kernel
theorem dX12_findValue_285 : decode cX12_findValue 285 = .ok (.getfield 71, 3) := by decide +kernel
theorem dX12_findValue_288 : decode cX12_findValue 288 = .ok (.iload_n 1, 1) := by decide +kernel
theorem dX12_findValue_289 : decode cX12_findValue 289 = .ok (.iaload, 1) := by decide +kernel
theorem dX12_findValue_290 : decode cX12_findValue 290 = .ok (.if_icmp .le 18, 3) := by decide +kernel
theorem dX12_findValue_293 : decode cX12_findValue 293 = .ok (.aload_n 0, 1) := by decide +kernel
theorem dX12_findValue_294 : decode cX12_findValue 294 = .ok (.getfield 74, 3) := by decide +kernel
theorem dX12_findValue_297 : decode cX12_findValue 297 = .ok (.iload_n 1, 1) := by decide +kernel
theorem dX12_findValue_298 : decode cX12_findValue 298 = .ok (.iconst 1, 1) := by decide +kernel
theorem dX12_findValue_299 : decode cX12_findValue 299 = .ok (.bastore, 1) := by decide +kernel
theorem dX12_findValue_300 : decode cX12_findValue 300 = .ok (.aload_n 0, 1) := by decide +kernel
theorem dX12_findValue_301 : decode cX12_findValue 301 = .ok (.getfield 71, 3) := by decide +kernel
theorem dX12_findValue_304 : decode cX12_findValue 304 = .ok (.iload_n 1, 1) := by decide +kernel
theorem dX12_findValue_305 : decode cX12_findValue 305 = .ok (.iload 7, 2) := by decide +kernel
theorem dX12_findValue_307 : decode cX12_findValue 307 = .ok (.iastore, 1) := by decide +kernel
theorem dX12_findValue_308 : decode cX12_findValue 308 = .ok (.iinc 5 1, 3) := by decide +kernel
theorem dX12_findValue_311 : decode cX12_findValue 311 = .ok (.goto (-206), 3) := by decide +kernel
theorem dX12_findValue_314 : decode cX12_findValue 314 = .ok (.return_, 1) := by decide +kernel
theorem dX12_value_0 : decode cX12_value 0 = .ok (.iload_n 1, 1) := by decide +kernel
theorem dX12_value_1 : decode cX12_value 1 = .ok (.i2l, 1) := by decide +kernel
theorem dX12_value_2 : decode cX12_value 2 = .ok (.lconst 1, 1) := by decide +kernel
theorem dX12_value_3 : decode cX12_value 3 = .ok (.ldc2_w 307, 3) := by decide +kernel
theorem dX12_value_6 : decode cX12_value 6 = .ok (.invokestatic 133, 3) := by decide +kernel
theorem dX12_value_9 : decode cX12_value 9 = .ok (.ifCond .ne 7, 3) := by decide +kernel
theorem dX12_value_12 : decode cX12_value 12 = .ok (.sipush (-10001), 3) := by decide +kernel
theorem dX12_value_15 : decode cX12_value 15 = .ok (.ireturn, 1) := by decide +kernel
theorem dX12_value_16 : decode cX12_value 16 = .ok (.aload_n 0, 1) := by decide +kernel
theorem dX12_value_17 : decode cX12_value 17 = .ok (.iload_n 1, 1) := by decide +kernel
theorem dX12_value_18 : decode cX12_value 18 = .ok (.invokevirtual 309, 3) := by decide +kernel
theorem dX12_value_21 : decode cX12_value 21 = .ok (.aload_n 0, 1) := by decide +kernel
theorem dX12_value_22 : decode cX12_value 22 = .ok (.getfield 74, 3) := by decide +kernel
theorem dX12_value_25 : decode cX12_value 25 = .ok (.iload_n 1, 1) := by decide +kernel
theorem dX12_value_26 : decode cX12_value 26 = .ok (.baload, 1) := by decide +kernel
theorem dX12_value_27 : decode cX12_value 27 = .ok (.ifCond .eq 12, 3) := by decide +kernel
theorem dX12_value_30 : decode cX12_value 30 = .ok (.aload_n 0, 1) := by decide +kernel
theorem dX12_value_31 : decode cX12_value 31 = .ok (.getfield 71, 3) := by decide +kernel
theorem dX12_value_34 : decode cX12_value 34 = .ok (.iload_n 1, 1) := by decide +kernel
theorem dX12_value_35 : decode cX12_value 35 = .ok (.iaload, 1) := by decide +kernel
theorem dX12_value_36 : decode cX12_value 36 = .ok (.goto 6, 3) := by decide +kernel
theorem dX12_value_39 : decode cX12_value 39 = .ok (.sipush (-10004), 3) := by decide +kernel
theorem dX12_value_42 : decode cX12_value 42 = .ok (.ireturn, 1) := by decide +kernel
theorem dX12_betterBy_0 : decode cX12_betterBy 0 = .ok (.aload_n 0, 1) := by decide +kernel
theorem dX12_betterBy_1 : decode cX12_betterBy 1 = .ok (.iload_n 1, 1) := by decide +kernel
theorem dX12_betterBy_2 : decode cX12_betterBy 2 = .ok (.invokevirtual 309, 3) := by decide +kernel
theorem dX12_betterBy_5 : decode cX12_betterBy 5 = .ok (.iconst 0, 1) := by decide +kernel
theorem dX12_betterBy_6 : decode cX12_betterBy 6 = .ok (.istore_n 2, 1) := by decide +kernel
theorem dX12_betterBy_7 : decode cX12_betterBy 7 = .ok (.iconst 0, 1) := by decide +kernel
theorem dX12_betterBy_8 : decode cX12_betterBy 8 = .ok (.istore_n 3, 1) := by decide +kernel
theorem dX12_betterBy_9 : decode cX12_betterBy 9 = .ok (.iload_n 3, 1) := by decide +kernel
theorem dX12_betterBy_10 : decode cX12_betterBy 10 = .ok (.iconst 4, 1) := by decide +kernel
theorem dX12_betterBy_11 : decode cX12_betterBy 11 = .ok (.if_icmp .ge 35, 3) := by decide +kernel
theorem dX12_betterBy_14 : decode cX12_betterBy 14 = .ok (.iload_n 2, 1) := by decide +kernel
theorem dX12_betterBy_15 : decode cX12_betterBy 15 = .ok (.iload_n 1, 1) := by decide +kernel
theorem dX12_betterBy_16 : decode cX12_betterBy 16 = .ok (.iload_n 3, 1) := by decide +kernel
theorem dX12_betterBy_17 : decode cX12_betterBy 17 = .ok (.ishr, 1) := by decide +kernel
theorem dX12_betterBy_18 : decode cX12_betterBy 18 = .ok (.iconst 1, 1) := by decide +kernel
theorem dX12_betterBy_19 : decode cX12_betterBy 19 = .ok (.iand, 1) := by decide +kernel
theorem dX12_betterBy_20 : decode cX12_betterBy 20 = .ok (.iconst 1, 1) := by decide +kernel
theorem dX12_betterBy_21 : decode cX12_betterBy 21 = .ok (.if_icmp .ne 16, 3) := by decide +kernel
theorem dX12_betterBy_24 : decode cX12_betterBy 24 = .ok (.aload_n 0, 1) := by decide +kernel
theorem dX12_betterBy_25 : decode cX12_betterBy 25 = .ok (.iload_n 3, 1) := by decide +kernel
theorem dX12_betterBy_26 : decode cX12_betterBy 26 = .ok (.aload_n 0, 1) := by decide +kernel
theorem dX12_betterBy_27 : decode cX12_betterBy 27 = .ok (.iload_n 3, 1) := by decide +kernel
theorem dX12_betterBy_28 : decode cX12_betterBy 28 = .ok (.invokevirtual 208, 3) := by decide +kernel
theorem dX12_betterBy_31 : decode cX12_betterBy 31 = .ok (.invokevirtual 200, 3) := by decide +kernel
theorem dX12_betterBy_34 : decode cX12_betterBy 34 = .ok (.goto 4, 3) := by decide +kernel
theorem dX12_betterBy_37 : decode cX12_betterBy 37 = .ok (.iconst 0, 1) := by decide +kernel
theorem dX12_betterBy_38 : decode cX12_betterBy 38 = .ok (.iadd, 1) := by decide +kernel
theorem dX12_betterBy_39 : decode cX12_betterBy 39 = .ok (.istore_n 2, 1) := by decide +kernel
theorem dX12_betterBy_40 : decode cX12_betterBy 40 = .ok (.iinc 3 1, 3) := by decide +kernel
theorem dX12_betterBy_43 : decode cX12_betterBy 43 = .ok (.goto (-34), 3) := by decide +kernel
theorem dX12_betterBy_46 : decode cX12_betterBy 46 = .ok (.aload_n 0, 1) := by decide +kernel
theorem dX12_betterBy_47 : decode cX12_betterBy 47 = .ok (.getfield 74, 3) := by decide +kernel
theorem dX12_betterBy_50 : decode cX12_betterBy 50 = .ok (.iload_n 1, 1) := by decide +kernel
theorem dX12_betterBy_51 : decode cX12_betterBy 51 = .ok (.baload, 1) := by decide +kernel
theorem dX12_betterBy_52 : decode cX12_betterBy 52 = .ok (.ifCond .eq 14, 3) := by decide +kernel
theorem dX12_betterBy_55 : decode cX12_betterBy 55 = .ok (.aload_n 0, 1) := by decide +kernel
theorem dX12_betterBy_56 : decode cX12_betterBy 56 = .ok (.getfield 71, 3) := by decide +kernel
theorem dX12_betterBy_59 : decode cX12_betterBy 59 = .ok (.iload_n 1, 1) := by decide +kernel
theorem dX12_betterBy_60 : decode cX12_betterBy 60 = .ok (.iaload, 1) := by decide +kernel
theorem dX12_betterBy_61 : decode cX12_betterBy 61 = .ok (.iload_n 2, 1) := by decide +kernel
theorem dX12_betterBy_62 : decode cX12_betterBy 62 = .ok (.isub, 1) := by decide +kernel
theorem dX12_betterBy_63 : decode cX12_betterBy 63 = .ok (.goto 4, 3) := by decide +kernel
theorem dX12_betterBy_66 : decode cX12_betterBy 66 = .ok (.iconst 0, 1) := by decide +kernel
theorem dX12_betterBy_67 : decode cX12_betterBy 67 = .ok (.ireturn, 1) := by decide +kernel
theorem dX12_unrest_0 : decode cX12_unrest 0 = .ok (.iconst 0, 1) := by decide +kernel
theorem dX12_unrest_1 : decode cX12_unrest 1 = .ok (.istore_n 1, 1) := by decide +kernel
theorem dX12_unrest_2 : decode cX12_unrest 2 = .ok (.iconst 1, 1) := by decide +kernel
theorem dX12_unrest_3 : decode cX12_unrest 3 = .ok (.istore_n 2, 1) := by decide +kernel
theorem dX12_unrest_4 : decode cX12_unrest 4 = .ok (.iload_n 2, 1) := by decide +kernel
theorem dX12_unrest_5 : decode cX12_unrest 5 = .ok (.bipush 16, 2) := by decide +kernel
theorem dX12_unrest_7 : decode cX12_unrest 7 = .ok (.if_icmp .ge 26, 3) := by decide +kernel
theorem dX12_unrest_10 : decode cX12_unrest 10 = .ok (.aload_n 0, 1) := by decide +kernel
theorem dX12_unrest_11 : decode cX12_unrest 11 = .ok (.iload_n 2, 1) := by decide +kernel
theorem dX12_unrest_12 : decode cX12_unrest 12 = .ok (.invokevirtual 312, 3) := by decide +kernel
theorem dX12_unrest_15 : decode cX12_unrest 15 = .ok (.istore_n 3, 1) := by decide +kernel
theorem dX12_unrest_16 : decode cX12_unrest 16 = .ok (.iload_n 3, 1) := by decide +kernel
theorem dX12_unrest_17 : decode cX12_unrest 17 = .ok (.iload_n 1, 1) := by decide +kernel
theorem dX12_unrest_18 : decode cX12_unrest 18 = .ok (.if_icmp .le 7, 3) := by decide +kernel
theorem dX12_unrest_21 : decode cX12_unrest 21 = .ok (.iload_n 3, 1) := by decide +kernel
theorem dX12_unrest_22 : decode cX12_unrest 22 = .ok (.goto 4, 3) := by decide +kernel
theorem dX12_unrest_25 : decode cX12_unrest 25 = .ok (.iload_n 1, 1) := by decide +kernel
theorem dX12_unrest_26 : decode cX12_unrest 26 = .ok (.istore_n 1, 1) := by decide +kernel
theorem dX12_unrest_27 : decode cX12_unrest 27 = .ok (.iinc 2 1, 3) := by decide +kernel
theorem dX12_unrest_30 : decode cX12_unrest 30 = .ok (.goto (-26), 3) := by decide +kernel
theorem dX12_unrest_33 : decode cX12_unrest 33 = .ok (.iload_n 1, 1) := by decide +kernel
theorem dX12_unrest_34 : decode cX12_unrest 34 = .ok (.ireturn, 1) := by decide +kernel
theorem dX12_leaves_0 : decode cX12_leaves 0 = .ok (.iconst 1, 1) := by decide +kernel
theorem dX12_leaves_1 : decode cX12_leaves 1 = .ok (.istore_n 1, 1) := by decide +kernel
theorem dX12_leaves_2 : decode cX12_leaves 2 = .ok (.iload_n 1, 1) := by decide +kernel
theorem dX12_leaves_3 : decode cX12_leaves 3 = .ok (.bipush 16, 2) := by decide +kernel
theorem dX12_leaves_5 : decode cX12_leaves 5 = .ok (.if_icmp .ge 19, 3) := by decide +kernel
theorem dX12_leaves_8 : decode cX12_leaves 8 = .ok (.aload_n 0, 1) := by decide +kernel
theorem dX12_leaves_9 : decode cX12_leaves 9 = .ok (.iload_n 1, 1) := by decide +kernel
theorem dX12_leaves_10 : decode cX12_leaves 10 = .ok (.invokevirtual 312, 3) := by decide +kernel
theorem dX12_leaves_13 : decode cX12_leaves 13 = .ok (.ifCond .le 5, 3) := by decide +kernel
theorem dX12_leaves_16 : decode cX12_leaves 16 = .ok (.iload_n 1, 1) := by decide +kernel
theorem dX12_leaves_17 : decode cX12_leaves 17 = .ok (.ireturn, 1) := by decide +kernel
theorem dX12_leaves_18 : decode cX12_leaves 18 = .ok (.iinc 1 1, 3) := by decide +kernel
theorem dX12_leaves_21 : decode cX12_leaves 21 = .ok (.goto (-19), 3) := by decide +kernel
theorem dX12_leaves_24 : decode cX12_leaves 24 = .ok (.bipush (-4), 2) := by decide +kernel
theorem dX12_leaves_26 : decode cX12_leaves 26 = .ok (.ireturn, 1) := by decide +kernel
theorem dX12_share_0 : decode cX12_share 0 = .ok (.iload_n 1, 1) := by decide +kernel
theorem dX12_share_1 : decode cX12_share 1 = .ok (.invokestatic 143, 3) := by decide +kernel
theorem dX12_share_4 : decode cX12_share 4 = .ok (.ifCond .ne 7, 3) := by decide +kernel
theorem dX12_share_7 : decode cX12_share 7 = .ok (.ldc2_w 315, 3) := by decide +kernel
theorem dX12_share_10 : decode cX12_share 10 = .ok (.lreturn, 1) := by decide +kernel
theorem dX12_share_11 : decode cX12_share 11 = .ok (.aload_n 0, 1) := by decide +kernel
theorem dX12_share_12 : decode cX12_share 12 = .ok (.iconst 0, 1) := by decide +kernel
theorem dX12_share_13 : decode cX12_share 13 = .ok (.invokevirtual 309, 3) := by decide +kernel
theorem dX12_share_16 : decode cX12_share 16 = .ok (.iconst 1, 1) := by decide +kernel
theorem dX12_share_17 : decode cX12_share 17 = .ok (.istore_n 2, 1) := by decide +kernel
theorem dX12_share_18 : decode cX12_share 18 = .ok (.iload_n 2, 1) := by decide +kernel
theorem dX12_share_19 : decode cX12_share 19 = .ok (.bipush 16, 2) := by decide +kernel
theorem dX12_share_21 : decode cX12_share 21 = .ok (.if_icmp .ge 14, 3) := by decide +kernel
theorem dX12_share_24 : decode cX12_share 24 = .ok (.aload_n 0, 1) := by decide +kernel
theorem dX12_share_25 : decode cX12_share 25 = .ok (.iload_n 2, 1) := by decide +kernel
theorem dX12_share_26 : decode cX12_share 26 = .ok (.invokevirtual 309, 3) := by decide +kernel
theorem dX12_share_29 : decode cX12_share 29 = .ok (.iinc 2 1, 3) := by decide +kernel
theorem dX12_share_32 : decode cX12_share 32 = .ok (.goto (-14), 3) := by decide +kernel
theorem dX12_share_35 : decode cX12_share 35 = .ok (.lconst 0, 1) := by decide +kernel
theorem dX12_share_36 : decode cX12_share 36 = .ok (.lstore_n 2, 1) := by decide +kernel
theorem dX12_share_37 : decode cX12_share 37 = .ok (.iconst 0, 1) := by decide +kernel
theorem dX12_share_38 : decode cX12_share 38 = .ok (.istore 4, 2) := by decide +kernel
theorem dX12_share_40 : decode cX12_share 40 = .ok (.iload 4, 2) := by decide +kernel
theorem dX12_share_42 : decode cX12_share 42 = .ok (.bipush 16, 2) := by decide +kernel
theorem dX12_share_44 : decode cX12_share 44 = .ok (.if_icmp .ge 96, 3) := by decide +kernel
theorem dX12_share_47 : decode cX12_share 47 = .ok (.iload 4, 2) := by decide +kernel
theorem dX12_share_49 : decode cX12_share 49 = .ok (.iload_n 1, 1) := by decide +kernel
theorem dX12_share_50 : decode cX12_share 50 = .ok (.ishr, 1) := by decide +kernel
theorem dX12_share_51 : decode cX12_share 51 = .ok (.iconst 1, 1) := by decide +kernel
theorem dX12_share_52 : decode cX12_share 52 = .ok (.iand, 1) := by decide +kernel
theorem dX12_share_53 : decode cX12_share 53 = .ok (.ifCond .ne 81, 3) := by decide +kernel
theorem dX12_share_56 : decode cX12_share 56 = .ok (.iconst 0, 1) := by decide +kernel
theorem dX12_share_57 : decode cX12_share 57 = .ok (.istore 5, 2) := by decide +kernel
theorem dX12_share_59 : decode cX12_share 59 = .ok (.iconst 0, 1) := by decide +kernel
theorem dX12_share_60 : decode cX12_share 60 = .ok (.istore 6, 2) := by decide +kernel
theorem dX12_share_62 : decode cX12_share 62 = .ok (.iload 6, 2) := by decide +kernel
theorem dX12_share_64 : decode cX12_share 64 = .ok (.iconst 4, 1) := by decide +kernel
theorem dX12_share_65 : decode cX12_share 65 = .ok (.if_icmp .ge 21, 3) := by decide +kernel
theorem dX12_share_68 : decode cX12_share 68 = .ok (.iload 5, 2) := by decide +kernel
theorem dX12_share_70 : decode cX12_share 70 = .ok (.iload 4, 2) := by decide +kernel
theorem dX12_share_72 : decode cX12_share 72 = .ok (.iload 6, 2) := by decide +kernel
theorem dX12_share_74 : decode cX12_share 74 = .ok (.ishr, 1) := by decide +kernel
theorem dX12_share_75 : decode cX12_share 75 = .ok (.iconst 1, 1) := by decide +kernel
theorem dX12_share_76 : decode cX12_share 76 = .ok (.iand, 1) := by decide +kernel
theorem dX12_share_77 : decode cX12_share 77 = .ok (.iadd, 1) := by decide +kernel
theorem dX12_share_78 : decode cX12_share 78 = .ok (.istore 5, 2) := by decide +kernel
theorem dX12_share_80 : decode cX12_share 80 = .ok (.iinc 6 1, 3) := by decide +kernel
theorem dX12_share_83 : decode cX12_share 83 = .ok (.goto (-21), 3) := by decide +kernel
theorem dX12_share_86 : decode cX12_share 86 = .ok (.iload 5, 2) := by decide +kernel
theorem dX12_share_88 : decode cX12_share 88 = .ok (.ifCond .eq 9, 3) := by decide +kernel
theorem dX12_share_91 : decode cX12_share 91 = .ok (.iload 5, 2) := by decide +kernel
theorem dX12_share_93 : decode cX12_share 93 = .ok (.iconst 3, 1) := by decide +kernel
theorem dX12_share_94 : decode cX12_share 94 = .ok (.if_icmp .ne 9, 3) := by decide +kernel
theorem dX12_share_97 : decode cX12_share 97 = .ok (.ldc2_w 317, 3) := by decide +kernel
theorem dX12_share_100 : decode cX12_share 100 = .ok (.goto 6, 3) := by decide +kernel
theorem dX12_share_103 : decode cX12_share 103 = .ok (.ldc2_w 212, 3) := by decide +kernel
theorem dX12_share_106 : decode cX12_share 106 = .ok (.lstore 6, 2) := by decide +kernel
theorem dX12_share_108 : decode cX12_share 108 = .ok (.lload_n 2, 1) := by decide +kernel
theorem dX12_share_109 : decode cX12_share 109 = .ok (.lload 6, 2) := by decide +kernel
theorem dX12_share_111 : decode cX12_share 111 = .ok (.aload_n 0, 1) := by decide +kernel
theorem dX12_share_112 : decode cX12_share 112 = .ok (.getfield 71, 3) := by decide +kernel
theorem dX12_share_115 : decode cX12_share 115 = .ok (.iload 4, 2) := by decide +kernel
theorem dX12_share_117 : decode cX12_share 117 = .ok (.iconst 1, 1) := by decide +kernel
theorem dX12_share_118 : decode cX12_share 118 = .ok (.iload_n 1, 1) := by decide +kernel
theorem dX12_share_119 : decode cX12_share 119 = .ok (.ishl, 1) := by decide +kernel
theorem dX12_share_120 : decode cX12_share 120 = .ok (.ior, 1) := by decide +kernel
theorem dX12_share_121 : decode cX12_share 121 = .ok (.iaload, 1) := by decide +kernel
theorem dX12_share_122 : decode cX12_share 122 = .ok (.aload_n 0, 1) := by decide +kernel
theorem dX12_share_123 : decode cX12_share 123 = .ok (.getfield 71, 3) := by decide +kernel
theorem dX12_share_126 : decode cX12_share 126 = .ok (.iload 4, 2) := by decide +kernel
theorem dX12_share_128 : decode cX12_share 128 = .ok (.iaload, 1) := by decide +kernel
theorem dX12_share_129 : decode cX12_share 129 = .ok (.isub, 1) := by decide +kernel
theorem dX12_share_130 : decode cX12_share 130 = .ok (.i2l, 1) := by decide +kernel
theorem dX12_share_131 : decode cX12_share 131 = .ok (.lmul, 1) := by decide +kernel
theorem dX12_share_132 : decode cX12_share 132 = .ok (.ladd, 1) := by decide +kernel
theorem dX12_share_133 : decode cX12_share 133 = .ok (.lstore_n 2, 1) := by decide +kernel
theorem dX12_share_134 : decode cX12_share 134 = .ok (.iinc 4 1, 3) := by decide +kernel
theorem dX12_share_137 : decode cX12_share 137 = .ok (.goto (-97), 3) := by decide +kernel
theorem dX12_share_140 : decode cX12_share 140 = .ok (.lload_n 2, 1) := by decide +kernel
theorem dX12_share_141 : decode cX12_share 141 = .ok (.lreturn, 1) := by decide +kernel
theorem dX12_envy_0 : decode cX12_envy 0 = .ok (.iconst 0, 1) := by decide +kernel
theorem dX12_envy_1 : decode cX12_envy 1 = .ok (.istore_n 1, 1) := by decide +kernel
theorem dX12_envy_2 : decode cX12_envy 2 = .ok (.iload_n 1, 1) := by decide +kernel
theorem dX12_envy_3 : decode cX12_envy 3 = .ok (.iconst 4, 1) := by decide +kernel
theorem dX12_envy_4 : decode cX12_envy 4 = .ok (.if_icmp .ge 70, 3) := by decide +kernel
theorem dX12_envy_7 : decode cX12_envy 7 = .ok (.iconst 0, 1) := by decide +kernel
theorem dX12_envy_8 : decode cX12_envy 8 = .ok (.istore_n 2, 1) := by decide +kernel
theorem dX12_envy_9 : decode cX12_envy 9 = .ok (.iload_n 2, 1) := by decide +kernel
theorem dX12_envy_10 : decode cX12_envy 10 = .ok (.iconst 4, 1) := by decide +kernel
theorem dX12_envy_11 : decode cX12_envy 11 = .ok (.if_icmp .ge 57, 3) := by decide +kernel
theorem dX12_envy_14 : decode cX12_envy 14 = .ok (.iload_n 2, 1) := by decide +kernel
theorem dX12_envy_15 : decode cX12_envy 15 = .ok (.iload_n 1, 1) := by decide +kernel
theorem dX12_envy_16 : decode cX12_envy 16 = .ok (.if_icmp .eq 46, 3) := by decide +kernel
theorem dX12_envy_19 : decode cX12_envy 19 = .ok (.aload_n 0, 1) := by decide +kernel
theorem dX12_envy_20 : decode cX12_envy 20 = .ok (.iload_n 1, 1) := by decide +kernel
theorem dX12_envy_21 : decode cX12_envy 21 = .ok (.aload_n 0, 1) := by decide +kernel
theorem dX12_envy_22 : decode cX12_envy 22 = .ok (.iload_n 2, 1) := by decide +kernel
theorem dX12_envy_23 : decode cX12_envy 23 = .ok (.invokevirtual 208, 3) := by decide +kernel
theorem dX12_envy_26 : decode cX12_envy 26 = .ok (.invokevirtual 200, 3) := by decide +kernel
theorem dX12_envy_29 : decode cX12_envy 29 = .ok (.aload_n 0, 1) := by decide +kernel
theorem dX12_envy_30 : decode cX12_envy 30 = .ok (.iload_n 1, 1) := by decide +kernel
theorem dX12_envy_31 : decode cX12_envy 31 = .ok (.aload_n 0, 1) := by decide +kernel
theorem dX12_envy_32 : decode cX12_envy 32 = .ok (.iload_n 1, 1) := by decide +kernel
theorem dX12_envy_33 : decode cX12_envy 33 = .ok (.invokevirtual 208, 3) := by decide +kernel
theorem dX12_envy_36 : decode cX12_envy 36 = .ok (.invokevirtual 200, 3) := by decide +kernel
theorem dX12_envy_39 : decode cX12_envy 39 = .ok (.if_icmp .le 23, 3) := by decide +kernel
theorem dX12_envy_42 : decode cX12_envy 42 = .ok (.aload_n 0, 1) := by decide +kernel
theorem dX12_envy_43 : decode cX12_envy 43 = .ok (.iload_n 1, 1) := by decide +kernel
theorem dX12_envy_44 : decode cX12_envy 44 = .ok (.aload_n 0, 1) := by decide +kernel
theorem dX12_envy_45 : decode cX12_envy 45 = .ok (.iload_n 2, 1) := by decide +kernel
theorem dX12_envy_46 : decode cX12_envy 46 = .ok (.invokevirtual 208, 3) := by decide +kernel
theorem dX12_envy_49 : decode cX12_envy 49 = .ok (.invokevirtual 204, 3) := by decide +kernel
theorem dX12_envy_52 : decode cX12_envy 52 = .ok (.ifCond .ne 10, 3) := by decide +kernel
theorem dX12_envy_55 : decode cX12_envy 55 = .ok (.bipush 10, 2) := by decide +kernel
theorem dX12_envy_57 : decode cX12_envy 57 = .ok (.iload_n 1, 1) := by decide +kernel
theorem dX12_envy_58 : decode cX12_envy 58 = .ok (.imul, 1) := by decide +kernel
theorem dX12_envy_59 : decode cX12_envy 59 = .ok (.iload_n 2, 1) := by decide +kernel
theorem dX12_envy_60 : decode cX12_envy 60 = .ok (.iadd, 1) := by decide +kernel
theorem dX12_envy_61 : decode cX12_envy 61 = .ok (.ireturn, 1) := by decide +kernel
theorem dX12_envy_62 : decode cX12_envy 62 = .ok (.iinc 2 1, 3) := by decide +kernel
theorem dX12_envy_65 : decode cX12_envy 65 = .ok (.goto (-56), 3) := by decide +kernel
theorem dX12_envy_68 : decode cX12_envy 68 = .ok (.iinc 1 1, 3) := by decide +kernel
theorem dX12_envy_71 : decode cX12_envy 71 = .ok (.goto (-69), 3) := by decide +kernel
theorem dX12_envy_74 : decode cX12_envy 74 = .ok (.bipush (-4), 2) := by decide +kernel
theorem dX12_envy_76 : decode cX12_envy 76 = .ok (.ireturn, 1) := by decide +kernel
theorem dX12_isHour_0 : decode cX12_isHour 0 = .ok (.iload_n 0, 1) := by decide +kernel
theorem dX12_isHour_1 : decode cX12_isHour 1 = .ok (.i2l, 1) := by decide +kernel
theorem dX12_isHour_2 : decode cX12_isHour 2 = .ok (.lconst 0, 1) := by decide +kernel
theorem dX12_isHour_3 : decode cX12_isHour 3 = .ok (.ldc2_w 151, 3) := by decide +kernel
theorem dX12_isHour_6 : decode cX12_isHour 6 = .ok (.invokestatic 133, 3) := by decide +kernel
theorem dX12_isHour_9 : decode cX12_isHour 9 = .ok (.ireturn, 1) := by decide +kernel
theorem dX12_addTerm_0 : decode cX12_addTerm 0 = .ok (.aload_n 0, 1) := by decide +kernel
theorem dX12_addTerm_1 : decode cX12_addTerm 1 = .ok (.getfield 319, 3) := by decide +kernel
theorem dX12_addTerm_4 : decode cX12_addTerm 4 = .ok (.bipush 16, 2) := by decide +kernel
theorem dX12_addTerm_6 : decode cX12_addTerm 6 = .ok (.if_icmp .ne 6, 3) := by decide +kernel
theorem dX12_addTerm_9 : decode cX12_addTerm 9 = .ok (.bipush (-3), 2) := by decide +kernel
theorem dX12_addTerm_11 : decode cX12_addTerm 11 = .ok (.ireturn, 1) := by decide +kernel
theorem dX12_addTerm_12 : decode cX12_addTerm 12 = .ok (.aload_n 0, 1) := by decide +kernel
theorem dX12_addTerm_13 : decode cX12_addTerm 13 = .ok (.getfield 83, 3) := by decide +kernel
theorem dX12_addTerm_16 : decode cX12_addTerm 16 = .ok (.aload_n 0, 1) := by decide +kernel
theorem dX12_addTerm_17 : decode cX12_addTerm 17 = .ok (.getfield 319, 3) := by decide +kernel
theorem dX12_addTerm_20 : decode cX12_addTerm 20 = .ok (.iload_n 1, 1) := by decide +kernel
theorem dX12_addTerm_21 : decode cX12_addTerm 21 = .ok (.iastore, 1) := by decide +kernel
theorem dX12_addTerm_22 : decode cX12_addTerm 22 = .ok (.aload_n 0, 1) := by decide +kernel
theorem dX12_addTerm_23 : decode cX12_addTerm 23 = .ok (.getfield 86, 3) := by decide +kernel
theorem dX12_addTerm_26 : decode cX12_addTerm 26 = .ok (.aload_n 0, 1) := by decide +kernel
theorem dX12_addTerm_27 : decode cX12_addTerm 27 = .ok (.getfield 319, 3) := by decide +kernel
theorem dX12_addTerm_30 : decode cX12_addTerm 30 = .ok (.iload_n 2, 1) := by decide +kernel
theorem dX12_addTerm_31 : decode cX12_addTerm 31 = .ok (.iastore, 1) := by decide +kernel
theorem dX12_addTerm_32 : decode cX12_addTerm 32 = .ok (.aload_n 0, 1) := by decide +kernel
theorem dX12_addTerm_33 : decode cX12_addTerm 33 = .ok (.getfield 89, 3) := by decide +kernel
theorem dX12_addTerm_36 : decode cX12_addTerm 36 = .ok (.aload_n 0, 1) := by decide +kernel
theorem dX12_addTerm_37 : decode cX12_addTerm 37 = .ok (.getfield 319, 3) := by decide +kernel
theorem dX12_addTerm_40 : decode cX12_addTerm 40 = .ok (.iload_n 3, 1) := by decide +kernel
theorem dX12_addTerm_41 : decode cX12_addTerm 41 = .ok (.iastore, 1) := by decide +kernel
theorem dX12_addTerm_42 : decode cX12_addTerm 42 = .ok (.aload_n 0, 1) := by decide +kernel
theorem dX12_addTerm_43 : decode cX12_addTerm 43 = .ok (.getfield 92, 3) := by decide +kernel
theorem dX12_addTerm_46 : decode cX12_addTerm 46 = .ok (.aload_n 0, 1) := by decide +kernel
theorem dX12_addTerm_47 : decode cX12_addTerm 47 = .ok (.getfield 319, 3) := by decide +kernel
theorem dX12_addTerm_50 : decode cX12_addTerm 50 = .ok (.iload 4, 2) := by decide +kernel
theorem dX12_addTerm_52 : decode cX12_addTerm 52 = .ok (.iastore, 1) := by decide +kernel
theorem dX12_addTerm_53 : decode cX12_addTerm 53 = .ok (.aload_n 0, 1) := by decide +kernel
theorem dX12_addTerm_54 : decode cX12_addTerm 54 = .ok (.getfield 95, 3) := by decide +kernel
theorem dX12_addTerm_57 : decode cX12_addTerm 57 = .ok (.aload_n 0, 1) := by decide +kernel
theorem dX12_addTerm_58 : decode cX12_addTerm 58 = .ok (.getfield 319, 3) := by decide +kernel
theorem dX12_addTerm_61 : decode cX12_addTerm 61 = .ok (.iload 5, 2) := by decide +kernel
theorem dX12_addTerm_63 : decode cX12_addTerm 63 = .ok (.iastore, 1) := by decide +kernel
theorem dX12_addTerm_64 : decode cX12_addTerm 64 = .ok (.aload_n 0, 1) := by decide +kernel
theorem dX12_addTerm_65 : decode cX12_addTerm 65 = .ok (.getfield 98, 3) := by decide +kernel
theorem dX12_addTerm_68 : decode cX12_addTerm 68 = .ok (.aload_n 0, 1) := by decide +kernel
theorem dX12_addTerm_69 : decode cX12_addTerm 69 = .ok (.getfield 319, 3) := by decide +kernel
theorem dX12_addTerm_72 : decode cX12_addTerm 72 = .ok (.iload 6, 2) := by decide +kernel
theorem dX12_addTerm_74 : decode cX12_addTerm 74 = .ok (.iastore, 1) := by decide +kernel
theorem dX12_addTerm_75 : decode cX12_addTerm 75 = .ok (.aload_n 0, 1) := by decide +kernel
theorem dX12_addTerm_76 : decode cX12_addTerm 76 = .ok (.getfield 101, 3) := by decide +kernel
theorem dX12_addTerm_79 : decode cX12_addTerm 79 = .ok (.aload_n 0, 1) := by decide +kernel
theorem dX12_addTerm_80 : decode cX12_addTerm 80 = .ok (.getfield 319, 3) := by decide +kernel
theorem dX12_addTerm_83 : decode cX12_addTerm 83 = .ok (.bipush (-4), 2) := by decide +kernel
theorem dX12_addTerm_85 : decode cX12_addTerm 85 = .ok (.iastore, 1) := by decide +kernel
theorem dX12_addTerm_86 : decode cX12_addTerm 86 = .ok (.aload_n 0, 1) := by decide +kernel
theorem dX12_addTerm_87 : decode cX12_addTerm 87 = .ok (.dup, 1) := by decide +kernel
theorem dX12_addTerm_88 : decode cX12_addTerm 88 = .ok (.getfield 319, 3) := by decide +kernel
theorem dX12_addTerm_91 : decode cX12_addTerm 91 = .ok (.iconst 1, 1) := by decide +kernel
theorem dX12_addTerm_92 : decode cX12_addTerm 92 = .ok (.iadd, 1) := by decide +kernel
theorem dX12_addTerm_93 : decode cX12_addTerm 93 = .ok (.putfield 319, 3) := by decide +kernel
theorem dX12_addTerm_96 : decode cX12_addTerm 96 = .ok (.aload_n 0, 1) := by decide +kernel
theorem dX12_addTerm_97 : decode cX12_addTerm 97 = .ok (.getfield 319, 3) := by decide +kernel
theorem dX12_addTerm_100 : decode cX12_addTerm 100 = .ok (.iconst 1, 1) := by decide +kernel
theorem dX12_addTerm_101 : decode cX12_addTerm 101 = .ok (.isub, 1) := by decide +kernel
theorem dX12_addTerm_102 : decode cX12_addTerm 102 = .ok (.ireturn, 1) := by decide +kernel
theorem dX12_isDebt_0 : decode cX12_isDebt 0 = .ok (.iload_n 0, 1) := by decide +kernel
theorem dX12_isDebt_1 : decode cX12_isDebt 1 = .ok (.invokestatic 143, 3) := by decide +kernel
theorem dX12_isDebt_4 : decode cX12_isDebt 4 = .ok (.ifCond .eq 31, 3) := by decide +kernel
theorem dX12_isDebt_7 : decode cX12_isDebt 7 = .ok (.iload_n 1, 1) := by decide +kernel
theorem dX12_isDebt_8 : decode cX12_isDebt 8 = .ok (.invokestatic 143, 3) := by decide +kernel
theorem dX12_isDebt_11 : decode cX12_isDebt 11 = .ok (.ifCond .eq 24, 3) := by decide +kernel
theorem dX12_isDebt_14 : decode cX12_isDebt 14 = .ok (.iload_n 0, 1) := by decide +kernel
theorem dX12_isDebt_15 : decode cX12_isDebt 15 = .ok (.iload_n 1, 1) := by decide +kernel
theorem dX12_isDebt_16 : decode cX12_isDebt 16 = .ok (.if_icmp .eq 19, 3) := by decide +kernel
theorem dX12_isDebt_19 : decode cX12_isDebt 19 = .ok (.iload_n 2, 1) := by decide +kernel
theorem dX12_isDebt_20 : decode cX12_isDebt 20 = .ok (.i2l, 1) := by decide +kernel
theorem dX12_isDebt_21 : decode cX12_isDebt 21 = .ok (.lconst 1, 1) := by decide +kernel
theorem dX12_isDebt_22 : decode cX12_isDebt 22 = .ok (.ldc2_w 216, 3) := by decide +kernel
theorem dX12_isDebt_25 : decode cX12_isDebt 25 = .ok (.invokestatic 133, 3) := by decide +kernel
theorem dX12_isDebt_28 : decode cX12_isDebt 28 = .ok (.ifCond .eq 7, 3) := by decide +kernel
theorem dX12_isDebt_31 : decode cX12_isDebt 31 = .ok (.iconst 1, 1) := by decide +kernel
theorem dX12_isDebt_32 : decode cX12_isDebt 32 = .ok (.goto 4, 3) := by decide +kernel
theorem dX12_isDebt_35 : decode cX12_isDebt 35 = .ok (.iconst 0, 1) := by decide +kernel
theorem dX12_isDebt_36 : decode cX12_isDebt 36 = .ok (.ireturn, 1) := by decide +kernel
theorem dX12_due_0 : decode cX12_due 0 = .ok (.iload_n 1, 1) := by decide +kernel
theorem dX12_due_1 : decode cX12_due 1 = .ok (.iload_n 2, 1) := by decide +kernel
theorem dX12_due_2 : decode cX12_due 2 = .ok (.iload_n 3, 1) := by decide +kernel
theorem dX12_due_3 : decode cX12_due 3 = .ok (.invokestatic 322, 3) := by decide +kernel
theorem dX12_due_6 : decode cX12_due 6 = .ok (.ifCond .eq 25, 3) := by decide +kernel
theorem dX12_due_9 : decode cX12_due 9 = .ok (.iload 4, 2) := by decide +kernel
theorem dX12_due_11 : decode cX12_due 11 = .ok (.invokestatic 326, 3) := by decide +kernel
theorem dX12_due_14 : decode cX12_due 14 = .ok (.ifCond .eq 17, 3) := by decide +kernel
theorem dX12_due_17 : decode cX12_due 17 = .ok (.aload_n 0, 1) := by decide +kernel
theorem dX12_due_18 : decode cX12_due 18 = .ok (.iconst 0, 1) := by decide +kernel
theorem dX12_due_19 : decode cX12_due 19 = .ok (.iload_n 1, 1) := by decide +kernel
theorem dX12_due_20 : decode cX12_due 20 = .ok (.iload_n 2, 1) := by decide +kernel
theorem dX12_due_21 : decode cX12_due 21 = .ok (.iload_n 3, 1) := by decide +kernel
theorem dX12_due_22 : decode cX12_due 22 = .ok (.iload 4, 2) := by decide +kernel
theorem dX12_due_24 : decode cX12_due 24 = .ok (.iconst 0, 1) := by decide +kernel
theorem dX12_due_25 : decode cX12_due 25 = .ok (.invokevirtual 329, 3) := by decide +kernel
theorem dX12_due_28 : decode cX12_due 28 = .ok (.goto 4, 3) := by decide +kernel
theorem dX12_due_31 : decode cX12_due 31 = .ok (.iconst (-1), 1) := by decide +kernel
theorem dX12_due_32 : decode cX12_due 32 = .ok (.ireturn, 1) := by decide +kernel
theorem dX12_when_0 : decode cX12_when 0 = .ok (.iload_n 1, 1) := by decide +kernel
theorem dX12_when_1 : decode cX12_when 1 = .ok (.iload_n 2, 1) := by decide +kernel
theorem dX12_when_2 : decode cX12_when 2 = .ok (.iload_n 3, 1) := by decide +kernel
theorem dX12_when_3 : decode cX12_when 3 = .ok (.invokestatic 322, 3) := by decide +kernel
theorem dX12_when_6 : decode cX12_when 6 = .ok (.ifCond .eq 44, 3) := by decide +kernel
theorem dX12_when_9 : decode cX12_when 9 = .ok (.iload 4, 2) := by decide +kernel
theorem dX12_when_11 : decode cX12_when 11 = .ok (.i2l, 1) := by decide +kernel
theorem dX12_when_12 : decode cX12_when 12 = .ok (.lconst 0, 1) := by decide +kernel
theorem dX12_when_13 : decode cX12_when 13 = .ok (.ldc2_w 333, 3) := by decide +kernel
theorem dX12_when_16 : decode cX12_when 16 = .ok (.invokestatic 133, 3) := by decide +kernel
theorem dX12_when_19 : decode cX12_when 19 = .ok (.ifCond .eq 31, 3) := by decide +kernel
theorem dX12_when_22 : decode cX12_when 22 = .ok (.iload 5, 2) := by decide +kernel
theorem dX12_when_24 : decode cX12_when 24 = .ok (.i2l, 1) := by decide +kernel
theorem dX12_when_25 : decode cX12_when 25 = .ok (.lconst 0, 1) := by decide +kernel
theorem dX12_when_26 : decode cX12_when 26 = .ok (.ldc2_w 216, 3) := by decide +kernel
theorem dX12_when_29 : decode cX12_when 29 = .ok (.invokestatic 133, 3) := by decide +kernel
theorem dX12_when_32 : decode cX12_when 32 = .ok (.ifCond .eq 18, 3) := by decide +kernel
theorem dX12_when_35 : decode cX12_when 35 = .ok (.aload_n 0, 1) := by decide +kernel
theorem dX12_when_36 : decode cX12_when 36 = .ok (.iconst 1, 1) := by decide +kernel
theorem dX12_when_37 : decode cX12_when 37 = .ok (.iload_n 1, 1) := by decide +kernel
theorem dX12_when_38 : decode cX12_when 38 = .ok (.iload_n 2, 1) := by decide +kernel
theorem dX12_when_39 : decode cX12_when 39 = .ok (.iload_n 3, 1) := by decide +kernel
theorem dX12_when_40 : decode cX12_when 40 = .ok (.iload 4, 2) := by decide +kernel
theorem dX12_when_42 : decode cX12_when 42 = .ok (.iload 5, 2) := by decide +kernel
theorem dX12_when_44 : decode cX12_when 44 = .ok (.invokevirtual 329, 3) := by decide +kernel
theorem dX12_when_47 : decode cX12_when 47 = .ok (.goto 4, 3) := by decide +kernel
theorem dX12_when_50 : decode cX12_when 50 = .ok (.iconst (-1), 1) := by decide +kernel
theorem dX12_when_51 : decode cX12_when 51 = .ok (.ireturn, 1) := by decide +kernel
theorem dX12_mend_0 : decode cX12_mend 0 = .ok (.iload_n 1, 1) := by decide +kernel
theorem dX12_mend_1 : decode cX12_mend 1 = .ok (.iload_n 2, 1) := by decide +kernel
theorem dX12_mend_2 : decode cX12_mend 2 = .ok (.iload_n 3, 1) := by decide +kernel
theorem dX12_mend_3 : decode cX12_mend 3 = .ok (.invokestatic 322, 3) := by decide +kernel
theorem dX12_mend_6 : decode cX12_mend 6 = .ok (.ifCond .eq 48, 3) := by decide +kernel
theorem dX12_mend_9 : decode cX12_mend 9 = .ok (.iload 4, 2) := by decide +kernel
theorem dX12_mend_11 : decode cX12_mend 11 = .ok (.i2l, 1) := by decide +kernel
theorem dX12_mend_12 : decode cX12_mend 12 = .ok (.lconst 0, 1) := by decide +kernel
theorem dX12_mend_13 : decode cX12_mend 13 = .ok (.aload_n 0, 1) := by decide +kernel
theorem dX12_mend_14 : decode cX12_mend 14 = .ok (.getfield 319, 3) := by decide +kernel
theorem dX12_mend_17 : decode cX12_mend 17 = .ok (.iconst 1, 1) := by decide +kernel
theorem dX12_mend_18 : decode cX12_mend 18 = .ok (.isub, 1) := by decide +kernel
theorem dX12_mend_19 : decode cX12_mend 19 = .ok (.i2l, 1) := by decide +kernel
theorem dX12_mend_20 : decode cX12_mend 20 = .ok (.invokestatic 133, 3) := by decide +kernel
theorem dX12_mend_23 : decode cX12_mend 23 = .ok (.ifCond .eq 31, 3) := by decide +kernel
theorem dX12_mend_26 : decode cX12_mend 26 = .ok (.iload 5, 2) := by decide +kernel
theorem dX12_mend_28 : decode cX12_mend 28 = .ok (.i2l, 1) := by decide +kernel
