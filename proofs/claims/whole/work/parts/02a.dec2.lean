theorem dX11_coins_9 : decode cX11_coins 9 = .ok (.sipush 9999, 3) := by decide +kernel
theorem dX11_coins_12 : decode cX11_coins 12 = .ok (.invokestatic 112, 3) := by decide +kernel
theorem dX11_coins_15 : decode cX11_coins 15 = .ok (.ifCond .ne 5, 3) := by decide +kernel
theorem dX11_coins_18 : decode cX11_coins 18 = .ok (.iconst (-1), 1) := by decide +kernel
theorem dX11_coins_19 : decode cX11_coins 19 = .ok (.ireturn, 1) := by decide +kernel
theorem dX11_coins_20 : decode cX11_coins 20 = .ok (.aload_n 0, 1) := by decide +kernel
theorem dX11_coins_21 : decode cX11_coins 21 = .ok (.getfield 92, 3) := by decide +kernel
theorem dX11_coins_24 : decode cX11_coins 24 = .ok (.invokevirtual 104, 3) := by decide +kernel
theorem dX11_coins_27 : decode cX11_coins 27 = .ok (.ifCond .eq 6, 3) := by decide +kernel
theorem dX11_coins_30 : decode cX11_coins 30 = .ok (.bipush (-2), 2) := by decide +kernel
theorem dX11_coins_32 : decode cX11_coins 32 = .ok (.ireturn, 1) := by decide +kernel
theorem dX11_coins_33 : decode cX11_coins 33 = .ok (.aload_n 0, 1) := by decide +kernel
theorem dX11_coins_34 : decode cX11_coins 34 = .ok (.getfield 11, 3) := by decide +kernel
theorem dX11_coins_37 : decode cX11_coins 37 = .ok (.iload_n 1, 1) := by decide +kernel
theorem dX11_coins_38 : decode cX11_coins 38 = .ok (.aaload, 1) := by decide +kernel
theorem dX11_coins_39 : decode cX11_coins 39 = .ok (.getfield 116, 3) := by decide +kernel
theorem dX11_coins_42 : decode cX11_coins 42 = .ok (.istore_n 3, 1) := by decide +kernel
theorem dX11_coins_43 : decode cX11_coins 43 = .ok (.aload_n 0, 1) := by decide +kernel
theorem dX11_coins_44 : decode cX11_coins 44 = .ok (.getfield 11, 3) := by decide +kernel
theorem dX11_coins_47 : decode cX11_coins 47 = .ok (.iload_n 1, 1) := by decide +kernel
theorem dX11_coins_48 : decode cX11_coins 48 = .ok (.aaload, 1) := by decide +kernel
theorem dX11_coins_49 : decode cX11_coins 49 = .ok (.iload_n 2, 1) := by decide +kernel
theorem dX11_coins_50 : decode cX11_coins 50 = .ok (.putfield 116, 3) := by decide +kernel
theorem dX11_coins_53 : decode cX11_coins 53 = .ok (.iload_n 3, 1) := by decide +kernel
theorem dX11_coins_54 : decode cX11_coins 54 = .ok (.ireturn, 1) := by decide +kernel
theorem dX11_type_0 : decode cX11_type 0 = .ok (.aload_n 0, 1) := by decide +kernel
theorem dX11_type_1 : decode cX11_type 1 = .ok (.getfield 18, 3) := by decide +kernel
theorem dX11_type_4 : decode cX11_type 4 = .ok (.lload_n 1, 1) := by decide +kernel
theorem dX11_type_5 : decode cX11_type 5 = .ok (.iload_n 3, 1) := by decide +kernel
theorem dX11_type_6 : decode cX11_type 6 = .ok (.invokevirtual 119, 3) := by decide +kernel
theorem dX11_type_9 : decode cX11_type 9 = .ok (.ireturn, 1) := by decide +kernel
theorem dX11_wish_0 : decode cX11_wish 0 = .ok (.iload_n 1, 1) := by decide +kernel
theorem dX11_wish_1 : decode cX11_wish 1 = .ok (.invokestatic 101, 3) := by decide +kernel
theorem dX11_wish_4 : decode cX11_wish 4 = .ok (.ifCond .ne 5, 3) := by decide +kernel
theorem dX11_wish_7 : decode cX11_wish 7 = .ok (.iconst (-1), 1) := by decide +kernel
theorem dX11_wish_8 : decode cX11_wish 8 = .ok (.ireturn, 1) := by decide +kernel
theorem dX11_wish_9 : decode cX11_wish 9 = .ok (.aload_n 0, 1) := by decide +kernel
theorem dX11_wish_10 : decode cX11_wish 10 = .ok (.getfield 92, 3) := by decide +kernel
theorem dX11_wish_13 : decode cX11_wish 13 = .ok (.invokevirtual 104, 3) := by decide +kernel
theorem dX11_wish_16 : decode cX11_wish 16 = .ok (.ifCond .eq 6, 3) := by decide +kernel
theorem dX11_wish_19 : decode cX11_wish 19 = .ok (.bipush (-2), 2) := by decide +kernel
theorem dX11_wish_21 : decode cX11_wish 21 = .ok (.ireturn, 1) := by decide +kernel
theorem dX11_wish_22 : decode cX11_wish 22 = .ok (.aload_n 0, 1) := by decide +kernel
theorem dX11_wish_23 : decode cX11_wish 23 = .ok (.getfield 18, 3) := by decide +kernel
theorem dX11_wish_26 : decode cX11_wish 26 = .ok (.aload_n 0, 1) := by decide +kernel
theorem dX11_wish_27 : decode cX11_wish 27 = .ok (.getfield 25, 3) := by decide +kernel
theorem dX11_wish_30 : decode cX11_wish 30 = .ok (.invokevirtual 123, 3) := by decide +kernel
theorem dX11_wish_33 : decode cX11_wish 33 = .ok (.istore_n 2, 1) := by decide +kernel
theorem dX11_wish_34 : decode cX11_wish 34 = .ok (.iload_n 2, 1) := by decide +kernel
theorem dX11_wish_35 : decode cX11_wish 35 = .ok (.ifCond .le 27, 3) := by decide +kernel
theorem dX11_wish_38 : decode cX11_wish 38 = .ok (.aload_n 0, 1) := by decide +kernel
theorem dX11_wish_39 : decode cX11_wish 39 = .ok (.getfield 11, 3) := by decide +kernel
theorem dX11_wish_42 : decode cX11_wish 42 = .ok (.iload_n 1, 1) := by decide +kernel
theorem dX11_wish_43 : decode cX11_wish 43 = .ok (.aaload, 1) := by decide +kernel
theorem dX11_wish_44 : decode cX11_wish 44 = .ok (.getfield 127, 3) := by decide +kernel
theorem dX11_wish_47 : decode cX11_wish 47 = .ok (.aload_n 0, 1) := by decide +kernel
theorem dX11_wish_48 : decode cX11_wish 48 = .ok (.getfield 25, 3) := by decide +kernel
theorem dX11_wish_51 : decode cX11_wish 51 = .ok (.invokevirtual 130, 3) := by decide +kernel
theorem dX11_wish_54 : decode cX11_wish 54 = .ok (.aload_n 0, 1) := by decide +kernel
theorem dX11_wish_55 : decode cX11_wish 55 = .ok (.getfield 39, 3) := by decide +kernel
theorem dX11_wish_58 : decode cX11_wish 58 = .ok (.iload_n 1, 1) := by decide +kernel
theorem dX11_wish_59 : decode cX11_wish 59 = .ok (.invokevirtual 134, 3) := by decide +kernel
theorem dX11_wish_62 : decode cX11_wish 62 = .ok (.iload_n 2, 1) := by decide +kernel
theorem dX11_wish_63 : decode cX11_wish 63 = .ok (.ireturn, 1) := by decide +kernel
theorem dX11_worth_0 : decode cX11_worth 0 = .ok (.iload_n 1, 1) := by decide +kernel
theorem dX11_worth_1 : decode cX11_worth 1 = .ok (.invokestatic 101, 3) := by decide +kernel
theorem dX11_worth_4 : decode cX11_worth 4 = .ok (.ifCond .eq 10, 3) := by decide +kernel
theorem dX11_worth_7 : decode cX11_worth 7 = .ok (.iload_n 2, 1) := by decide +kernel
theorem dX11_worth_8 : decode cX11_worth 8 = .ok (.invokestatic 138, 3) := by decide +kernel
theorem dX11_worth_11 : decode cX11_worth 11 = .ok (.ifCond .ne 7, 3) := by decide +kernel
theorem dX11_worth_14 : decode cX11_worth 14 = .ok (.sipush (-10001), 3) := by decide +kernel
theorem dX11_worth_17 : decode cX11_worth 17 = .ok (.ireturn, 1) := by decide +kernel
theorem dX11_worth_18 : decode cX11_worth 18 = .ok (.aload_n 0, 1) := by decide +kernel
theorem dX11_worth_19 : decode cX11_worth 19 = .ok (.getfield 11, 3) := by decide +kernel
theorem dX11_worth_22 : decode cX11_worth 22 = .ok (.iload_n 1, 1) := by decide +kernel
theorem dX11_worth_23 : decode cX11_worth 23 = .ok (.aaload, 1) := by decide +kernel
theorem dX11_worth_24 : decode cX11_worth 24 = .ok (.getfield 127, 3) := by decide +kernel
theorem dX11_worth_27 : decode cX11_worth 27 = .ok (.getfield 141, 3) := by decide +kernel
theorem dX11_worth_30 : decode cX11_worth 30 = .ok (.iload_n 2, 1) := by decide +kernel
theorem dX11_worth_31 : decode cX11_worth 31 = .ok (.iaload, 1) := by decide +kernel
theorem dX11_worth_32 : decode cX11_worth 32 = .ok (.ireturn, 1) := by decide +kernel
theorem dX11_barred_0 : decode cX11_barred 0 = .ok (.iload_n 1, 1) := by decide +kernel
theorem dX11_barred_1 : decode cX11_barred 1 = .ok (.invokestatic 101, 3) := by decide +kernel
theorem dX11_barred_4 : decode cX11_barred 4 = .ok (.ifCond .eq 10, 3) := by decide +kernel
theorem dX11_barred_7 : decode cX11_barred 7 = .ok (.iload_n 2, 1) := by decide +kernel
theorem dX11_barred_8 : decode cX11_barred 8 = .ok (.invokestatic 138, 3) := by decide +kernel
theorem dX11_barred_11 : decode cX11_barred 11 = .ok (.ifCond .ne 5, 3) := by decide +kernel
theorem dX11_barred_14 : decode cX11_barred 14 = .ok (.iconst (-1), 1) := by decide +kernel
theorem dX11_barred_15 : decode cX11_barred 15 = .ok (.ireturn, 1) := by decide +kernel
theorem dX11_barred_16 : decode cX11_barred 16 = .ok (.aload_n 0, 1) := by decide +kernel
theorem dX11_barred_17 : decode cX11_barred 17 = .ok (.getfield 11, 3) := by decide +kernel
theorem dX11_barred_20 : decode cX11_barred 20 = .ok (.iload_n 1, 1) := by decide +kernel
theorem dX11_barred_21 : decode cX11_barred 21 = .ok (.aaload, 1) := by decide +kernel
theorem dX11_barred_22 : decode cX11_barred 22 = .ok (.getfield 127, 3) := by decide +kernel
theorem dX11_barred_25 : decode cX11_barred 25 = .ok (.getfield 144, 3) := by decide +kernel
theorem dX11_barred_28 : decode cX11_barred 28 = .ok (.iload_n 2, 1) := by decide +kernel
theorem dX11_barred_29 : decode cX11_barred 29 = .ok (.baload, 1) := by decide +kernel
theorem dX11_barred_30 : decode cX11_barred 30 = .ok (.invokestatic 148, 3) := by decide +kernel
theorem dX11_barred_33 : decode cX11_barred 33 = .ok (.ireturn, 1) := by decide +kernel
theorem dX11_told_0 : decode cX11_told 0 = .ok (.iload_n 1, 1) := by decide +kernel
theorem dX11_told_1 : decode cX11_told 1 = .ok (.invokestatic 101, 3) := by decide +kernel
theorem dX11_told_4 : decode cX11_told 4 = .ok (.ifCond .ne 5, 3) := by decide +kernel
theorem dX11_told_7 : decode cX11_told 7 = .ok (.iconst (-1), 1) := by decide +kernel
theorem dX11_told_8 : decode cX11_told 8 = .ok (.ireturn, 1) := by decide +kernel
theorem dX11_told_9 : decode cX11_told 9 = .ok (.aload_n 0, 1) := by decide +kernel
theorem dX11_told_10 : decode cX11_told 10 = .ok (.getfield 11, 3) := by decide +kernel
theorem dX11_told_13 : decode cX11_told 13 = .ok (.iload_n 1, 1) := by decide +kernel
theorem dX11_told_14 : decode cX11_told 14 = .ok (.aaload, 1) := by decide +kernel
theorem dX11_told_15 : decode cX11_told 15 = .ok (.astore_n 3, 1) := by decide +kernel
theorem dX11_told_16 : decode cX11_told 16 = .ok (.iload_n 2, 1) := by decide +kernel
theorem dX11_told_17 : decode cX11_told 17 = .ok (.tableswitch 72 0 5 #[39, 44, 49, 54, 59, 64], 39) := by decide +kernel
theorem dX11_told_56 : decode cX11_told 56 = .ok (.aload_n 3, 1) := by decide +kernel
theorem dX11_told_57 : decode cX11_told 57 = .ok (.getfield 71, 3) := by decide +kernel
theorem dX11_told_60 : decode cX11_told 60 = .ok (.ireturn, 1) := by decide +kernel
theorem dX11_told_61 : decode cX11_told 61 = .ok (.aload_n 3, 1) := by decide +kernel
theorem dX11_told_62 : decode cX11_told 62 = .ok (.getfield 116, 3) := by decide +kernel
theorem dX11_told_65 : decode cX11_told 65 = .ok (.ireturn, 1) := by decide +kernel
theorem dX11_told_66 : decode cX11_told 66 = .ok (.aload_n 3, 1) := by decide +kernel
theorem dX11_told_67 : decode cX11_told 67 = .ok (.getfield 152, 3) := by decide +kernel
theorem dX11_told_70 : decode cX11_told 70 = .ok (.ireturn, 1) := by decide +kernel
theorem dX11_told_71 : decode cX11_told 71 = .ok (.aload_n 3, 1) := by decide +kernel
theorem dX11_told_72 : decode cX11_told 72 = .ok (.getfield 155, 3) := by decide +kernel
theorem dX11_told_75 : decode cX11_told 75 = .ok (.ireturn, 1) := by decide +kernel
theorem dX11_told_76 : decode cX11_told 76 = .ok (.aload_n 3, 1) := by decide +kernel
theorem dX11_told_77 : decode cX11_told 77 = .ok (.getfield 158, 3) := by decide +kernel
theorem dX11_told_80 : decode cX11_told 80 = .ok (.ireturn, 1) := by decide +kernel
theorem dX11_told_81 : decode cX11_told 81 = .ok (.aload_n 3, 1) := by decide +kernel
theorem dX11_told_82 : decode cX11_told 82 = .ok (.getfield 127, 3) := by decide +kernel
theorem dX11_told_85 : decode cX11_told 85 = .ok (.getfield 161, 3) := by decide +kernel
theorem dX11_told_88 : decode cX11_told 88 = .ok (.ireturn, 1) := by decide +kernel
theorem dX11_told_89 : decode cX11_told 89 = .ok (.iconst (-1), 1) := by decide +kernel
theorem dX11_told_90 : decode cX11_told 90 = .ok (.ireturn, 1) := by decide +kernel
theorem dX11_set_0 : decode cX11_set 0 = .ok (.iload_n 1, 1) := by decide +kernel
theorem dX11_set_1 : decode cX11_set 1 = .ok (.invokestatic 101, 3) := by decide +kernel
theorem dX11_set_4 : decode cX11_set 4 = .ok (.ifCond .eq 33, 3) := by decide +kernel
theorem dX11_set_7 : decode cX11_set 7 = .ok (.iload_n 2, 1) := by decide +kernel
theorem dX11_set_8 : decode cX11_set 8 = .ok (.iconst 0, 1) := by decide +kernel
theorem dX11_set_9 : decode cX11_set 9 = .ok (.iconst 2, 1) := by decide +kernel
theorem dX11_set_10 : decode cX11_set 10 = .ok (.invokestatic 112, 3) := by decide +kernel
theorem dX11_set_13 : decode cX11_set 13 = .ok (.ifCond .eq 24, 3) := by decide +kernel
theorem dX11_set_16 : decode cX11_set 16 = .ok (.iload_n 3, 1) := by decide +kernel
theorem dX11_set_17 : decode cX11_set 17 = .ok (.iconst 0, 1) := by decide +kernel
theorem dX11_set_18 : decode cX11_set 18 = .ok (.iload_n 2, 1) := by decide +kernel
theorem dX11_set_19 : decode cX11_set 19 = .ok (.iconst 2, 1) := by decide +kernel
theorem dX11_set_20 : decode cX11_set 20 = .ok (.if_icmp .ne 8, 3) := by decide +kernel
theorem dX11_set_23 : decode cX11_set 23 = .ok (.bipush 99, 2) := by decide +kernel
theorem dX11_set_25 : decode cX11_set 25 = .ok (.goto 6, 3) := by decide +kernel
theorem dX11_set_28 : decode cX11_set 28 = .ok (.sipush 999, 3) := by decide +kernel
theorem dX11_set_31 : decode cX11_set 31 = .ok (.invokestatic 112, 3) := by decide +kernel
theorem dX11_set_34 : decode cX11_set 34 = .ok (.ifCond .ne 5, 3) := by decide +kernel
theorem dX11_set_37 : decode cX11_set 37 = .ok (.iconst (-1), 1) := by decide +kernel
theorem dX11_set_38 : decode cX11_set 38 = .ok (.ireturn, 1) := by decide +kernel
theorem dX11_set_39 : decode cX11_set 39 = .ok (.aload_n 0, 1) := by decide +kernel
theorem dX11_set_40 : decode cX11_set 40 = .ok (.getfield 92, 3) := by decide +kernel
theorem dX11_set_43 : decode cX11_set 43 = .ok (.invokevirtual 104, 3) := by decide +kernel
theorem dX11_set_46 : decode cX11_set 46 = .ok (.ifCond .eq 6, 3) := by decide +kernel
theorem dX11_set_49 : decode cX11_set 49 = .ok (.bipush (-2), 2) := by decide +kernel
theorem dX11_set_51 : decode cX11_set 51 = .ok (.ireturn, 1) := by decide +kernel
theorem dX11_set_52 : decode cX11_set 52 = .ok (.aload_n 0, 1) := by decide +kernel
theorem dX11_set_53 : decode cX11_set 53 = .ok (.getfield 11, 3) := by decide +kernel
theorem dX11_set_56 : decode cX11_set 56 = .ok (.iload_n 1, 1) := by decide +kernel
theorem dX11_set_57 : decode cX11_set 57 = .ok (.aaload, 1) := by decide +kernel
theorem dX11_set_58 : decode cX11_set 58 = .ok (.iload_n 2, 1) := by decide +kernel
theorem dX11_set_59 : decode cX11_set 59 = .ok (.iload_n 3, 1) := by decide +kernel
theorem dX11_set_60 : decode cX11_set 60 = .ok (.invokevirtual 164, 3) := by decide +kernel
theorem dX11_set_63 : decode cX11_set 63 = .ok (.ireturn, 1) := by decide +kernel
theorem dX11_gain_0 : decode cX11_gain 0 = .ok (.aload_n 0, 1) := by decide +kernel
theorem dX11_gain_1 : decode cX11_gain 1 = .ok (.iload_n 1, 1) := by decide +kernel
theorem dX11_gain_2 : decode cX11_gain 2 = .ok (.iload_n 2, 1) := by decide +kernel
theorem dX11_gain_3 : decode cX11_gain 3 = .ok (.iload_n 3, 1) := by decide +kernel
theorem dX11_gain_4 : decode cX11_gain 4 = .ok (.iload 4, 2) := by decide +kernel
theorem dX11_gain_6 : decode cX11_gain 6 = .ok (.invokevirtual 168, 3) := by decide +kernel
theorem dX11_gain_9 : decode cX11_gain 9 = .ok (.ifCond .eq 13, 3) := by decide +kernel
theorem dX11_gain_12 : decode cX11_gain 12 = .ok (.iload 5, 2) := by decide +kernel
theorem dX11_gain_14 : decode cX11_gain 14 = .ok (.iconst 0, 1) := by decide +kernel
theorem dX11_gain_15 : decode cX11_gain 15 = .ok (.iconst 1, 1) := by decide +kernel
theorem dX11_gain_16 : decode cX11_gain 16 = .ok (.invokestatic 112, 3) := by decide +kernel
theorem dX11_gain_19 : decode cX11_gain 19 = .ok (.ifCond .ne 7, 3) := by decide +kernel
theorem dX11_gain_22 : decode cX11_gain 22 = .ok (.sipush (-10001), 3) := by decide +kernel
theorem dX11_gain_25 : decode cX11_gain 25 = .ok (.ireturn, 1) := by decide +kernel
theorem dX11_gain_26 : decode cX11_gain 26 = .ok (.aload_n 0, 1) := by decide +kernel
theorem dX11_gain_27 : decode cX11_gain 27 = .ok (.getfield 80, 3) := by decide +kernel
theorem dX11_gain_30 : decode cX11_gain 30 = .ok (.aload_n 0, 1) := by decide +kernel
theorem dX11_gain_31 : decode cX11_gain 31 = .ok (.getfield 11, 3) := by decide +kernel
theorem dX11_gain_34 : decode cX11_gain 34 = .ok (.iload_n 1, 1) := by decide +kernel
theorem dX11_gain_35 : decode cX11_gain 35 = .ok (.aaload, 1) := by decide +kernel
theorem dX11_gain_36 : decode cX11_gain 36 = .ok (.aload_n 0, 1) := by decide +kernel
theorem dX11_gain_37 : decode cX11_gain 37 = .ok (.getfield 11, 3) := by decide +kernel
theorem dX11_gain_40 : decode cX11_gain 40 = .ok (.iload_n 2, 1) := by decide +kernel
theorem dX11_gain_41 : decode cX11_gain 41 = .ok (.aaload, 1) := by decide +kernel
theorem dX11_gain_42 : decode cX11_gain 42 = .ok (.invokevirtual 172, 3) := by decide +kernel
theorem dX11_gain_45 : decode cX11_gain 45 = .ok (.aload_n 0, 1) := by decide +kernel
theorem dX11_gain_46 : decode cX11_gain 46 = .ok (.getfield 80, 3) := by decide +kernel
theorem dX11_gain_49 : decode cX11_gain 49 = .ok (.iload 5, 2) := by decide +kernel
theorem dX11_gain_51 : decode cX11_gain 51 = .ok (.iload_n 3, 1) := by decide +kernel
theorem dX11_gain_52 : decode cX11_gain 52 = .ok (.iload 4, 2) := by decide +kernel
theorem dX11_gain_54 : decode cX11_gain 54 = .ok (.invokevirtual 175, 3) := by decide +kernel
theorem dX11_gain_57 : decode cX11_gain 57 = .ok (.ireturn, 1) := by decide +kernel
theorem dX11_good_0 : decode cX11_good 0 = .ok (.aload_n 0, 1) := by decide +kernel
theorem dX11_good_1 : decode cX11_good 1 = .ok (.iload_n 1, 1) := by decide +kernel
theorem dX11_good_2 : decode cX11_good 2 = .ok (.iload_n 2, 1) := by decide +kernel
theorem dX11_good_3 : decode cX11_good 3 = .ok (.iload_n 3, 1) := by decide +kernel
theorem dX11_good_4 : decode cX11_good 4 = .ok (.iload 4, 2) := by decide +kernel
theorem dX11_good_6 : decode cX11_good 6 = .ok (.invokevirtual 168, 3) := by decide +kernel
theorem dX11_good_9 : decode cX11_good 9 = .ok (.ifCond .ne 5, 3) := by decide +kernel
theorem dX11_good_12 : decode cX11_good 12 = .ok (.iconst (-1), 1) := by decide +kernel
theorem dX11_good_13 : decode cX11_good 13 = .ok (.ireturn, 1) := by decide +kernel
theorem dX11_good_14 : decode cX11_good 14 = .ok (.aload_n 0, 1) := by decide +kernel
theorem dX11_good_15 : decode cX11_good 15 = .ok (.getfield 80, 3) := by decide +kernel
theorem dX11_good_18 : decode cX11_good 18 = .ok (.aload_n 0, 1) := by decide +kernel
theorem dX11_good_19 : decode cX11_good 19 = .ok (.getfield 11, 3) := by decide +kernel
theorem dX11_good_22 : decode cX11_good 22 = .ok (.iload_n 1, 1) := by decide +kernel
theorem dX11_good_23 : decode cX11_good 23 = .ok (.aaload, 1) := by decide +kernel
theorem dX11_good_24 : decode cX11_good 24 = .ok (.aload_n 0, 1) := by decide +kernel
theorem dX11_good_25 : decode cX11_good 25 = .ok (.getfield 11, 3) := by decide +kernel
theorem dX11_good_28 : decode cX11_good 28 = .ok (.iload_n 2, 1) := by decide +kernel
theorem dX11_good_29 : decode cX11_good 29 = .ok (.aaload, 1) := by decide +kernel
theorem dX11_good_30 : decode cX11_good 30 = .ok (.invokevirtual 172, 3) := by decide +kernel
theorem dX11_good_33 : decode cX11_good 33 = .ok (.aload_n 0, 1) := by decide +kernel
theorem dX11_good_34 : decode cX11_good 34 = .ok (.getfield 80, 3) := by decide +kernel
theorem dX11_good_37 : decode cX11_good 37 = .ok (.iload_n 3, 1) := by decide +kernel
theorem dX11_good_38 : decode cX11_good 38 = .ok (.iload 4, 2) := by decide +kernel
theorem dX11_good_40 : decode cX11_good 40 = .ok (.invokevirtual 179, 3) := by decide +kernel
theorem dX11_good_43 : decode cX11_good 43 = .ok (.invokestatic 148, 3) := by decide +kernel
theorem dX11_good_46 : decode cX11_good 46 = .ok (.ireturn, 1) := by decide +kernel
theorem dX11_best_0 : decode cX11_best 0 = .ok (.iload_n 1, 1) := by decide +kernel
theorem dX11_best_1 : decode cX11_best 1 = .ok (.iload_n 2, 1) := by decide +kernel
theorem dX11_best_2 : decode cX11_best 2 = .ok (.invokestatic 183, 3) := by decide +kernel
theorem dX11_best_5 : decode cX11_best 5 = .ok (.ifCond .eq 12, 3) := by decide +kernel
theorem dX11_best_8 : decode cX11_best 8 = .ok (.iload_n 3, 1) := by decide +kernel
theorem dX11_best_9 : decode cX11_best 9 = .ok (.iconst 0, 1) := by decide +kernel
theorem dX11_best_10 : decode cX11_best 10 = .ok (.iconst 3, 1) := by decide +kernel
theorem dX11_best_11 : decode cX11_best 11 = .ok (.invokestatic 112, 3) := by decide +kernel
theorem dX11_best_14 : decode cX11_best 14 = .ok (.ifCond .ne 7, 3) := by decide +kernel
theorem dX11_best_17 : decode cX11_best 17 = .ok (.sipush (-10001), 3) := by decide +kernel
theorem dX11_best_20 : decode cX11_best 20 = .ok (.ireturn, 1) := by decide +kernel
theorem dX11_best_21 : decode cX11_best 21 = .ok (.aload_n 0, 1) := by decide +kernel
theorem dX11_best_22 : decode cX11_best 22 = .ok (.getfield 80, 3) := by decide +kernel
theorem dX11_best_25 : decode cX11_best 25 = .ok (.aload_n 0, 1) := by decide +kernel
theorem dX11_best_26 : decode cX11_best 26 = .ok (.getfield 11, 3) := by decide +kernel
theorem dX11_best_29 : decode cX11_best 29 = .ok (.iload_n 1, 1) := by decide +kernel
theorem dX11_best_30 : decode cX11_best 30 = .ok (.aaload, 1) := by decide +kernel
theorem dX11_best_31 : decode cX11_best 31 = .ok (.aload_n 0, 1) := by decide +kernel
theorem dX11_best_32 : decode cX11_best 32 = .ok (.getfield 11, 3) := by decide +kernel
theorem dX11_best_35 : decode cX11_best 35 = .ok (.iload_n 2, 1) := by decide +kernel
theorem dX11_best_36 : decode cX11_best 36 = .ok (.aaload, 1) := by decide +kernel
theorem dX11_best_37 : decode cX11_best 37 = .ok (.invokevirtual 172, 3) := by decide +kernel
theorem dX11_best_40 : decode cX11_best 40 = .ok (.aload_n 0, 1) := by decide +kernel
theorem dX11_best_41 : decode cX11_best 41 = .ok (.getfield 80, 3) := by decide +kernel
theorem dX11_best_44 : decode cX11_best 44 = .ok (.invokevirtual 186, 3) := by decide +kernel
theorem dX11_best_47 : decode cX11_best 47 = .ok (.istore 4, 2) := by decide +kernel
theorem dX11_best_49 : decode cX11_best 49 = .ok (.iload 4, 2) := by decide +kernel
theorem dX11_best_51 : decode cX11_best 51 = .ok (.ifCond .ge 7, 3) := by decide +kernel
theorem dX11_best_54 : decode cX11_best 54 = .ok (.sipush (-10004), 3) := by decide +kernel
theorem dX11_best_57 : decode cX11_best 57 = .ok (.ireturn, 1) := by decide +kernel
theorem dX11_best_58 : decode cX11_best 58 = .ok (.aload_n 0, 1) := by decide +kernel
theorem dX11_best_59 : decode cX11_best 59 = .ok (.getfield 80, 3) := by decide +kernel
theorem dX11_best_62 : decode cX11_best 62 = .ok (.iload 4, 2) := by decide +kernel
theorem dX11_best_64 : decode cX11_best 64 = .ok (.invokevirtual 190, 3) := by decide +kernel
theorem dX11_best_67 : decode cX11_best 67 = .ok (.istore 5, 2) := by decide +kernel
theorem dX11_best_69 : decode cX11_best 69 = .ok (.aload_n 0, 1) := by decide +kernel
theorem dX11_best_70 : decode cX11_best 70 = .ok (.getfield 80, 3) := by decide +kernel
theorem dX11_best_73 : decode cX11_best 73 = .ok (.iload 4, 2) := by decide +kernel
theorem dX11_best_75 : decode cX11_best 75 = .ok (.invokevirtual 193, 3) := by decide +kernel
theorem dX11_best_78 : decode cX11_best 78 = .ok (.aload_n 0, 1) := by decide +kernel
theorem dX11_best_79 : decode cX11_best 79 = .ok (.getfield 11, 3) := by decide +kernel
theorem dX11_best_82 : decode cX11_best 82 = .ok (.iload_n 1, 1) := by decide +kernel
theorem dX11_best_83 : decode cX11_best 83 = .ok (.aaload, 1) := by decide +kernel
theorem dX11_best_84 : decode cX11_best 84 = .ok (.getfield 152, 3) := by decide +kernel
theorem dX11_best_87 : decode cX11_best 87 = .ok (.aload_n 0, 1) := by decide +kernel
theorem dX11_best_88 : decode cX11_best 88 = .ok (.getfield 11, 3) := by decide +kernel
theorem dX11_best_91 : decode cX11_best 91 = .ok (.iload_n 2, 1) := by decide +kernel
theorem dX11_best_92 : decode cX11_best 92 = .ok (.aaload, 1) := by decide +kernel
theorem dX11_best_93 : decode cX11_best 93 = .ok (.getfield 152, 3) := by decide +kernel
theorem dX11_best_96 : decode cX11_best 96 = .ok (.iadd, 1) := by decide +kernel
theorem dX11_best_97 : decode cX11_best 97 = .ok (.if_icmp .lt 25, 3) := by decide +kernel
theorem dX11_best_100 : decode cX11_best 100 = .ok (.iload 5, 2) := by decide +kernel
theorem dX11_best_102 : decode cX11_best 102 = .ok (.invokestatic 196, 3) := by decide +kernel
theorem dX11_best_105 : decode cX11_best 105 = .ok (.ifCond .eq 17, 3) := by decide +kernel
theorem dX11_best_108 : decode cX11_best 108 = .ok (.aload_n 0, 1) := by decide +kernel
theorem dX11_best_109 : decode cX11_best 109 = .ok (.getfield 80, 3) := by decide +kernel
theorem dX11_best_112 : decode cX11_best 112 = .ok (.iload 4, 2) := by decide +kernel
theorem dX11_best_114 : decode cX11_best 114 = .ok (.iload 5, 2) := by decide +kernel
theorem dX11_best_116 : decode cX11_best 116 = .ok (.invokevirtual 179, 3) := by decide +kernel
theorem dX11_best_119 : decode cX11_best 119 = .ok (.ifCond .ne 7, 3) := by decide +kernel
theorem dX11_best_122 : decode cX11_best 122 = .ok (.sipush (-10004), 3) := by decide +kernel
theorem dX11_best_125 : decode cX11_best 125 = .ok (.ireturn, 1) := by decide +kernel
theorem dX11_best_126 : decode cX11_best 126 = .ok (.iload_n 3, 1) := by decide +kernel
theorem dX11_best_127 : decode cX11_best 127 = .ok (.tableswitch 44 0 2 #[25, 28, 31], 25) := by decide +kernel
theorem dX11_best_152 : decode cX11_best 152 = .ok (.iload 4, 2) := by decide +kernel
theorem dX11_best_154 : decode cX11_best 154 = .ok (.ireturn, 1) := by decide +kernel
theorem dX11_best_155 : decode cX11_best 155 = .ok (.iload 5, 2) := by decide +kernel
theorem dX11_best_157 : decode cX11_best 157 = .ok (.ireturn, 1) := by decide +kernel
theorem dX11_best_158 : decode cX11_best 158 = .ok (.aload_n 0, 1) := by decide +kernel
theorem dX11_best_159 : decode cX11_best 159 = .ok (.getfield 80, 3) := by decide +kernel
theorem dX11_best_162 : decode cX11_best 162 = .ok (.iconst 0, 1) := by decide +kernel
theorem dX11_best_163 : decode cX11_best 163 = .ok (.iload 4, 2) := by decide +kernel
theorem dX11_best_165 : decode cX11_best 165 = .ok (.iload 5, 2) := by decide +kernel
theorem dX11_best_167 : decode cX11_best 167 = .ok (.invokevirtual 175, 3) := by decide +kernel
theorem dX11_best_170 : decode cX11_best 170 = .ok (.ireturn, 1) := by decide +kernel
theorem dX11_best_171 : decode cX11_best 171 = .ok (.aload_n 0, 1) := by decide +kernel
theorem dX11_best_172 : decode cX11_best 172 = .ok (.getfield 80, 3) := by decide +kernel
theorem dX11_best_175 : decode cX11_best 175 = .ok (.iconst 1, 1) := by decide +kernel
theorem dX11_best_176 : decode cX11_best 176 = .ok (.iload 4, 2) := by decide +kernel
theorem dX11_best_178 : decode cX11_best 178 = .ok (.iload 5, 2) := by decide +kernel
theorem dX11_best_180 : decode cX11_best 180 = .ok (.invokevirtual 175, 3) := by decide +kernel
theorem dX11_best_183 : decode cX11_best 183 = .ok (.ireturn, 1) := by decide +kernel
theorem dX11_talk_0 : decode cX11_talk 0 = .ok (.iload_n 1, 1) := by decide +kernel
theorem dX11_talk_1 : decode cX11_talk 1 = .ok (.iload_n 2, 1) := by decide +kernel
theorem dX11_talk_2 : decode cX11_talk 2 = .ok (.invokestatic 183, 3) := by decide +kernel
theorem dX11_talk_5 : decode cX11_talk 5 = .ok (.ifCond .eq 13, 3) := by decide +kernel
theorem dX11_talk_8 : decode cX11_talk 8 = .ok (.iload_n 3, 1) := by decide +kernel
theorem dX11_talk_9 : decode cX11_talk 9 = .ok (.iconst 1, 1) := by decide +kernel
theorem dX11_talk_10 : decode cX11_talk 10 = .ok (.bipush 20, 2) := by decide +kernel
theorem dX11_talk_12 : decode cX11_talk 12 = .ok (.invokestatic 112, 3) := by decide +kernel
theorem dX11_talk_15 : decode cX11_talk 15 = .ok (.ifCond .ne 5, 3) := by decide +kernel
theorem dX11_talk_18 : decode cX11_talk 18 = .ok (.iconst (-1), 1) := by decide +kernel
theorem dX11_talk_19 : decode cX11_talk 19 = .ok (.ireturn, 1) := by decide +kernel
theorem dX11_talk_20 : decode cX11_talk 20 = .ok (.aload_n 0, 1) := by decide +kernel
theorem dX11_talk_21 : decode cX11_talk 21 = .ok (.getfield 92, 3) := by decide +kernel
theorem dX11_talk_24 : decode cX11_talk 24 = .ok (.invokevirtual 104, 3) := by decide +kernel
theorem dX11_talk_27 : decode cX11_talk 27 = .ok (.ifCond .eq 6, 3) := by decide +kernel
theorem dX11_talk_30 : decode cX11_talk 30 = .ok (.bipush (-2), 2) := by decide +kernel
theorem dX11_talk_32 : decode cX11_talk 32 = .ok (.ireturn, 1) := by decide +kernel
theorem dX11_talk_33 : decode cX11_talk 33 = .ok (.aload_n 0, 1) := by decide +kernel
theorem dX11_talk_34 : decode cX11_talk 34 = .ok (.getfield 92, 3) := by decide +kernel
theorem dX11_talk_37 : decode cX11_talk 37 = .ok (.getfield 199, 3) := by decide +kernel
theorem dX11_talk_40 : decode cX11_talk 40 = .ok (.aload_n 0, 1) := by decide +kernel
theorem dX11_talk_41 : decode cX11_talk 41 = .ok (.getfield 11, 3) := by decide +kernel
theorem dX11_talk_44 : decode cX11_talk 44 = .ok (.iload_n 1, 1) := by decide +kernel
theorem dX11_talk_45 : decode cX11_talk 45 = .ok (.aaload, 1) := by decide +kernel
theorem dX11_talk_46 : decode cX11_talk 46 = .ok (.aload_n 0, 1) := by decide +kernel
theorem dX11_talk_47 : decode cX11_talk 47 = .ok (.getfield 11, 3) := by decide +kernel
theorem dX11_talk_50 : decode cX11_talk 50 = .ok (.iload_n 2, 1) := by decide +kernel
theorem dX11_talk_51 : decode cX11_talk 51 = .ok (.aaload, 1) := by decide +kernel
theorem dX11_talk_52 : decode cX11_talk 52 = .ok (.invokevirtual 172, 3) := by decide +kernel
theorem dX11_talk_55 : decode cX11_talk 55 = .ok (.aload_n 0, 1) := by decide +kernel
theorem dX11_talk_56 : decode cX11_talk 56 = .ok (.getfield 92, 3) := by decide +kernel
theorem dX11_talk_59 : decode cX11_talk 59 = .ok (.iload_n 1, 1) := by decide +kernel
theorem dX11_talk_60 : decode cX11_talk 60 = .ok (.iload_n 2, 1) := by decide +kernel
theorem dX11_talk_61 : decode cX11_talk 61 = .ok (.iload_n 3, 1) := by decide +kernel
theorem dX11_talk_62 : decode cX11_talk 62 = .ok (.invokevirtual 202, 3) := by decide +kernel
theorem dX11_talk_65 : decode cX11_talk 65 = .ok (.iconst 1, 1) := by decide +kernel
theorem dX11_talk_66 : decode cX11_talk 66 = .ok (.ireturn, 1) := by decide +kernel
theorem dX11_talks_0 : decode cX11_talks 0 = .ok (.iload_n 1, 1) := by decide +kernel
theorem dX11_talks_1 : decode cX11_talks 1 = .ok (.tableswitch 73 0 2 #[27, 35, 43], 27) := by decide +kernel
theorem dX11_talks_28 : decode cX11_talks 28 = .ok (.aload_n 0, 1) := by decide +kernel
theorem dX11_talks_29 : decode cX11_talks 29 = .ok (.getfield 92, 3) := by decide +kernel
theorem dX11_talks_32 : decode cX11_talks 32 = .ok (.getfield 206, 3) := by decide +kernel
theorem dX11_talks_35 : decode cX11_talks 35 = .ok (.ireturn, 1) := by decide +kernel
theorem dX11_talks_36 : decode cX11_talks 36 = .ok (.aload_n 0, 1) := by decide +kernel
theorem dX11_talks_37 : decode cX11_talks 37 = .ok (.getfield 92, 3) := by decide +kernel
theorem dX11_talks_40 : decode cX11_talks 40 = .ok (.getfield 209, 3) := by decide +kernel
theorem dX11_talks_43 : decode cX11_talks 43 = .ok (.ireturn, 1) := by decide +kernel
theorem dX11_talks_44 : decode cX11_talks 44 = .ok (.aload_n 0, 1) := by decide +kernel
theorem dX11_talks_45 : decode cX11_talks 45 = .ok (.getfield 92, 3) := by decide +kernel
theorem dX11_talks_48 : decode cX11_talks 48 = .ok (.invokevirtual 104, 3) := by decide +kernel
theorem dX11_talks_51 : decode cX11_talks 51 = .ok (.ifCond .eq 20, 3) := by decide +kernel
theorem dX11_talks_54 : decode cX11_talks 54 = .ok (.aload_n 0, 1) := by decide +kernel
theorem dX11_talks_55 : decode cX11_talks 55 = .ok (.getfield 92, 3) := by decide +kernel
theorem dX11_talks_58 : decode cX11_talks 58 = .ok (.aload_n 0, 1) := by decide +kernel
theorem dX11_talks_59 : decode cX11_talks 59 = .ok (.getfield 92, 3) := by decide +kernel
theorem dX11_talks_62 : decode cX11_talks 62 = .ok (.getfield 209, 3) := by decide +kernel
theorem dX11_talks_65 : decode cX11_talks 65 = .ok (.invokevirtual 212, 3) := by decide +kernel
theorem dX11_talks_68 : decode cX11_talks 68 = .ok (.goto 5, 3) := by decide +kernel
theorem dX11_talks_71 : decode cX11_talks 71 = .ok (.bipush (-4), 2) := by decide +kernel
theorem dX11_talks_73 : decode cX11_talks 73 = .ok (.ireturn, 1) := by decide +kernel
theorem dX11_talks_74 : decode cX11_talks 74 = .ok (.iconst (-1), 1) := by decide +kernel
theorem dX11_talks_75 : decode cX11_talks 75 = .ok (.ireturn, 1) := by decide +kernel
theorem dX11_ask_0 : decode cX11_ask 0 = .ok (.iload_n 1, 1) := by decide +kernel
theorem dX11_ask_1 : decode cX11_ask 1 = .ok (.invokestatic 97, 3) := by decide +kernel
theorem dX11_ask_4 : decode cX11_ask 4 = .ok (.ifCond .ne 5, 3) := by decide +kernel
theorem dX11_ask_7 : decode cX11_ask 7 = .ok (.iconst (-1), 1) := by decide +kernel
theorem dX11_ask_8 : decode cX11_ask 8 = .ok (.ireturn, 1) := by decide +kernel
theorem dX11_ask_9 : decode cX11_ask 9 = .ok (.aload_n 0, 1) := by decide +kernel
theorem dX11_ask_10 : decode cX11_ask 10 = .ok (.getfield 92, 3) := by decide +kernel
theorem dX11_ask_13 : decode cX11_ask 13 = .ok (.invokevirtual 104, 3) := by decide +kernel
theorem dX11_ask_16 : decode cX11_ask 16 = .ok (.ifCond .eq 27, 3) := by decide +kernel
theorem dX11_ask_19 : decode cX11_ask 19 = .ok (.aload_n 0, 1) := by decide +kernel
theorem dX11_ask_20 : decode cX11_ask 20 = .ok (.iload_n 1, 1) := by decide +kernel
theorem dX11_ask_21 : decode cX11_ask 21 = .ok (.invokevirtual 108, 3) := by decide +kernel
theorem dX11_ask_24 : decode cX11_ask 24 = .ok (.aload_n 0, 1) := by decide +kernel
theorem dX11_ask_25 : decode cX11_ask 25 = .ok (.getfield 92, 3) := by decide +kernel
theorem dX11_ask_28 : decode cX11_ask 28 = .ok (.aload_n 0, 1) := by decide +kernel
theorem dX11_ask_29 : decode cX11_ask 29 = .ok (.getfield 92, 3) := by decide +kernel
theorem dX11_ask_32 : decode cX11_ask 32 = .ok (.getfield 209, 3) := by decide +kernel
theorem dX11_ask_35 : decode cX11_ask 35 = .ok (.iconst 1, 1) := by decide +kernel
theorem dX11_ask_36 : decode cX11_ask 36 = .ok (.iadd, 1) := by decide +kernel
theorem dX11_ask_37 : decode cX11_ask 37 = .ok (.invokevirtual 212, 3) := by decide +kernel
theorem dX11_ask_40 : decode cX11_ask 40 = .ok (.if_icmp .eq 6, 3) := by decide +kernel
theorem dX11_ask_43 : decode cX11_ask 43 = .ok (.bipush (-2), 2) := by decide +kernel
theorem dX11_ask_45 : decode cX11_ask 45 = .ok (.ireturn, 1) := by decide +kernel
theorem dX11_ask_46 : decode cX11_ask 46 = .ok (.aload_n 0, 1) := by decide +kernel
theorem dX11_ask_47 : decode cX11_ask 47 = .ok (.getfield 92, 3) := by decide +kernel
theorem dX11_ask_50 : decode cX11_ask 50 = .ok (.iconst 0, 1) := by decide +kernel
theorem dX11_ask_51 : decode cX11_ask 51 = .ok (.iconst 0, 1) := by decide +kernel
theorem dX11_ask_52 : decode cX11_ask 52 = .ok (.iconst 0, 1) := by decide +kernel
theorem dX11_ask_53 : decode cX11_ask 53 = .ok (.invokevirtual 215, 3) := by decide +kernel
theorem dX11_ask_56 : decode cX11_ask 56 = .ok (.iconst 1, 1) := by decide +kernel
theorem dX11_ask_57 : decode cX11_ask 57 = .ok (.ireturn, 1) := by decide +kernel
theorem dX11_offer_0 : decode cX11_offer 0 = .ok (.aload_n 0, 1) := by decide +kernel
theorem dX11_offer_1 : decode cX11_offer 1 = .ok (.getfield 92, 3) := by decide +kernel
theorem dX11_offer_4 : decode cX11_offer 4 = .ok (.invokevirtual 104, 3) := by decide +kernel
theorem dX11_offer_7 : decode cX11_offer 7 = .ok (.ifCond .ne 6, 3) := by decide +kernel
theorem dX11_offer_10 : decode cX11_offer 10 = .ok (.bipush (-2), 2) := by decide +kernel
theorem dX11_offer_12 : decode cX11_offer 12 = .ok (.ireturn, 1) := by decide +kernel
theorem dX11_offer_13 : decode cX11_offer 13 = .ok (.aload_n 0, 1) := by decide +kernel
theorem dX11_offer_14 : decode cX11_offer 14 = .ok (.aload_n 0, 1) := by decide +kernel
theorem dX11_offer_15 : decode cX11_offer 15 = .ok (.getfield 92, 3) := by decide +kernel
theorem dX11_offer_18 : decode cX11_offer 18 = .ok (.getfield 218, 3) := by decide +kernel
theorem dX11_offer_21 : decode cX11_offer 21 = .ok (.aload_n 0, 1) := by decide +kernel
theorem dX11_offer_22 : decode cX11_offer 22 = .ok (.getfield 92, 3) := by decide +kernel
theorem dX11_offer_25 : decode cX11_offer 25 = .ok (.getfield 221, 3) := by decide +kernel
theorem dX11_offer_28 : decode cX11_offer 28 = .ok (.iload_n 1, 1) := by decide +kernel
theorem dX11_offer_29 : decode cX11_offer 29 = .ok (.iload_n 2, 1) := by decide +kernel
theorem dX11_offer_30 : decode cX11_offer 30 = .ok (.invokevirtual 168, 3) := by decide +kernel
theorem dX11_offer_33 : decode cX11_offer 33 = .ok (.ifCond .ne 5, 3) := by decide +kernel
theorem dX11_offer_36 : decode cX11_offer 36 = .ok (.iconst (-1), 1) := by decide +kernel
theorem dX11_offer_37 : decode cX11_offer 37 = .ok (.ireturn, 1) := by decide +kernel
theorem dX11_offer_38 : decode cX11_offer 38 = .ok (.aload_n 0, 1) := by decide +kernel
theorem dX11_offer_39 : decode cX11_offer 39 = .ok (.getfield 92, 3) := by decide +kernel
theorem dX11_offer_42 : decode cX11_offer 42 = .ok (.aload_n 0, 1) := by decide +kernel
theorem dX11_offer_43 : decode cX11_offer 43 = .ok (.getfield 92, 3) := by decide +kernel
theorem dX11_offer_46 : decode cX11_offer 46 = .ok (.getfield 209, 3) := by decide +kernel
theorem dX11_offer_49 : decode cX11_offer 49 = .ok (.invokevirtual 224, 3) := by decide +kernel
theorem dX11_offer_52 : decode cX11_offer 52 = .ok (.istore_n 3, 1) := by decide +kernel
theorem dX11_offer_53 : decode cX11_offer 53 = .ok (.aload_n 0, 1) := by decide +kernel
theorem dX11_offer_54 : decode cX11_offer 54 = .ok (.getfield 92, 3) := by decide +kernel
theorem dX11_offer_57 : decode cX11_offer 57 = .ok (.iload_n 3, 1) := by decide +kernel
theorem dX11_offer_58 : decode cX11_offer 58 = .ok (.iload_n 1, 1) := by decide +kernel
theorem dX11_offer_59 : decode cX11_offer 59 = .ok (.iload_n 2, 1) := by decide +kernel
theorem dX11_offer_60 : decode cX11_offer 60 = .ok (.invokevirtual 215, 3) := by decide +kernel
theorem dX11_offer_63 : decode cX11_offer 63 = .ok (.iload_n 3, 1) := by decide +kernel
theorem dX11_offer_64 : decode cX11_offer 64 = .ok (.ireturn, 1) := by decide +kernel
theorem dX11_yes_0 : decode cX11_yes 0 = .ok (.aload_n 0, 1) := by decide +kernel
theorem dX11_yes_1 : decode cX11_yes 1 = .ok (.getfield 92, 3) := by decide +kernel
theorem dX11_yes_4 : decode cX11_yes 4 = .ok (.getfield 209, 3) := by decide +kernel
theorem dX11_yes_7 : decode cX11_yes 7 = .ok (.istore_n 1, 1) := by decide +kernel
theorem dX11_yes_8 : decode cX11_yes 8 = .ok (.aload_n 0, 1) := by decide +kernel
theorem dX11_yes_9 : decode cX11_yes 9 = .ok (.getfield 92, 3) := by decide +kernel
theorem dX11_yes_12 : decode cX11_yes 12 = .ok (.invokevirtual 104, 3) := by decide +kernel
theorem dX11_yes_15 : decode cX11_yes 15 = .ok (.ifCond .eq 37, 3) := by decide +kernel
theorem dX11_yes_18 : decode cX11_yes 18 = .ok (.aload_n 0, 1) := by decide +kernel
theorem dX11_yes_19 : decode cX11_yes 19 = .ok (.getfield 92, 3) := by decide +kernel
theorem dX11_yes_22 : decode cX11_yes 22 = .ok (.aload_n 0, 1) := by decide +kernel
theorem dX11_yes_23 : decode cX11_yes 23 = .ok (.getfield 92, 3) := by decide +kernel
theorem dX11_yes_26 : decode cX11_yes 26 = .ok (.getfield 199, 3) := by decide +kernel
theorem dX11_yes_29 : decode cX11_yes 29 = .ok (.iload_n 1, 1) := by decide +kernel
theorem dX11_yes_30 : decode cX11_yes 30 = .ok (.aload_n 0, 1) := by decide +kernel
theorem dX11_yes_31 : decode cX11_yes 31 = .ok (.getfield 11, 3) := by decide +kernel
theorem dX11_yes_34 : decode cX11_yes 34 = .ok (.aload_n 0, 1) := by decide +kernel
theorem dX11_yes_35 : decode cX11_yes 35 = .ok (.getfield 92, 3) := by decide +kernel
theorem dX11_yes_38 : decode cX11_yes 38 = .ok (.iload_n 1, 1) := by decide +kernel
theorem dX11_yes_39 : decode cX11_yes 39 = .ok (.invokevirtual 212, 3) := by decide +kernel
theorem dX11_yes_42 : decode cX11_yes 42 = .ok (.aaload, 1) := by decide +kernel
theorem dX11_yes_43 : decode cX11_yes 43 = .ok (.getfield 152, 3) := by decide +kernel
theorem dX11_yes_46 : decode cX11_yes 46 = .ok (.invokevirtual 227, 3) := by decide +kernel
theorem dX11_yes_49 : decode cX11_yes 49 = .ok (.ifCond .ne 7, 3) := by decide +kernel
theorem dX11_yes_52 : decode cX11_yes 52 = .ok (.sipush (-10002), 3) := by decide +kernel
theorem dX11_yes_55 : decode cX11_yes 55 = .ok (.ireturn, 1) := by decide +kernel
theorem dX11_yes_56 : decode cX11_yes 56 = .ok (.aload_n 0, 1) := by decide +kernel
theorem dX11_yes_57 : decode cX11_yes 57 = .ok (.invokevirtual 231, 3) := by decide +kernel
theorem dX11_yes_60 : decode cX11_yes 60 = .ok (.aload_n 0, 1) := by decide +kernel
theorem dX11_yes_61 : decode cX11_yes 61 = .ok (.getfield 92, 3) := by decide +kernel
theorem dX11_yes_64 : decode cX11_yes 64 = .ok (.getfield 199, 3) := by decide +kernel
theorem dX11_yes_67 : decode cX11_yes 67 = .ok (.aload_n 0, 1) := by decide +kernel
theorem dX11_yes_68 : decode cX11_yes 68 = .ok (.getfield 92, 3) := by decide +kernel
theorem dX11_yes_71 : decode cX11_yes 71 = .ok (.iload_n 1, 1) := by decide +kernel
theorem dX11_yes_72 : decode cX11_yes 72 = .ok (.invokevirtual 234, 3) := by decide +kernel
theorem dX11_yes_75 : decode cX11_yes 75 = .ok (.aload_n 0, 1) := by decide +kernel
theorem dX11_yes_76 : decode cX11_yes 76 = .ok (.getfield 92, 3) := by decide +kernel
theorem dX11_yes_79 : decode cX11_yes 79 = .ok (.iload_n 1, 1) := by decide +kernel
theorem dX11_yes_80 : decode cX11_yes 80 = .ok (.iconst 1, 1) := by decide +kernel
theorem dX11_yes_81 : decode cX11_yes 81 = .ok (.isub, 1) := by decide +kernel
theorem dX11_yes_82 : decode cX11_yes 82 = .ok (.invokevirtual 237, 3) := by decide +kernel
theorem dX11_yes_85 : decode cX11_yes 85 = .ok (.aload_n 0, 1) := by decide +kernel
theorem dX11_yes_86 : decode cX11_yes 86 = .ok (.getfield 92, 3) := by decide +kernel
theorem dX11_yes_89 : decode cX11_yes 89 = .ok (.iload_n 1, 1) := by decide +kernel
theorem dX11_yes_90 : decode cX11_yes 90 = .ok (.iconst 1, 1) := by decide +kernel
theorem dX11_yes_91 : decode cX11_yes 91 = .ok (.isub, 1) := by decide +kernel
theorem dX11_yes_92 : decode cX11_yes 92 = .ok (.invokevirtual 240, 3) := by decide +kernel
theorem dX11_yes_95 : decode cX11_yes 95 = .ok (.invokevirtual 175, 3) := by decide +kernel
theorem dX11_yes_98 : decode cX11_yes 98 = .ok (.ireturn, 1) := by decide +kernel
theorem dX11_walk_0 : decode cX11_walk 0 = .ok (.aload_n 0, 1) := by decide +kernel
theorem dX11_walk_1 : decode cX11_walk 1 = .ok (.getfield 92, 3) := by decide +kernel
theorem dX11_walk_4 : decode cX11_walk 4 = .ok (.invokevirtual 104, 3) := by decide +kernel
theorem dX11_walk_7 : decode cX11_walk 7 = .ok (.ifCond .ne 6, 3) := by decide +kernel
theorem dX11_walk_10 : decode cX11_walk 10 = .ok (.bipush (-2), 2) := by decide +kernel
theorem dX11_walk_12 : decode cX11_walk 12 = .ok (.ireturn, 1) := by decide +kernel
theorem dX11_walk_13 : decode cX11_walk 13 = .ok (.aload_n 0, 1) := by decide +kernel
theorem dX11_walk_14 : decode cX11_walk 14 = .ok (.getfield 92, 3) := by decide +kernel
theorem dX11_walk_17 : decode cX11_walk 17 = .ok (.iconst 4, 1) := by decide +kernel
theorem dX11_walk_18 : decode cX11_walk 18 = .ok (.iconst 0, 1) := by decide +kernel
theorem dX11_walk_19 : decode cX11_walk 19 = .ok (.iconst 0, 1) := by decide +kernel
theorem dX11_walk_20 : decode cX11_walk 20 = .ok (.invokevirtual 215, 3) := by decide +kernel
theorem dX11_walk_23 : decode cX11_walk 23 = .ok (.aload_n 0, 1) := by decide +kernel
theorem dX11_walk_24 : decode cX11_walk 24 = .ok (.getfield 92, 3) := by decide +kernel
theorem dX11_walk_27 : decode cX11_walk 27 = .ok (.getfield 209, 3) := by decide +kernel
theorem dX11_walk_30 : decode cX11_walk 30 = .ok (.ireturn, 1) := by decide +kernel
theorem dX11_says_0 : decode cX11_says 0 = .ok (.aload_n 0, 1) := by decide +kernel
theorem dX11_says_1 : decode cX11_says 1 = .ok (.getfield 92, 3) := by decide +kernel
theorem dX11_says_4 : decode cX11_says 4 = .ok (.invokevirtual 104, 3) := by decide +kernel
theorem dX11_says_7 : decode cX11_says 7 = .ok (.ifCond .ne 6, 3) := by decide +kernel
theorem dX11_says_10 : decode cX11_says 10 = .ok (.bipush (-2), 2) := by decide +kernel
theorem dX11_says_12 : decode cX11_says 12 = .ok (.ireturn, 1) := by decide +kernel
theorem dX11_says_13 : decode cX11_says 13 = .ok (.aload_n 0, 1) := by decide +kernel
theorem dX11_says_14 : decode cX11_says 14 = .ok (.invokevirtual 243, 3) := by decide +kernel
theorem dX11_says_17 : decode cX11_says 17 = .ok (.ireturn, 1) := by decide +kernel
theorem dX11_runs_0 : decode cX11_runs 0 = .ok (.aload_n 0, 1) := by decide +kernel
theorem dX11_runs_1 : decode cX11_runs 1 = .ok (.getfield 92, 3) := by decide +kernel
theorem dX11_runs_4 : decode cX11_runs 4 = .ok (.invokevirtual 104, 3) := by decide +kernel
theorem dX11_runs_7 : decode cX11_runs 7 = .ok (.ifCond .ne 6, 3) := by decide +kernel
theorem dX11_runs_10 : decode cX11_runs 10 = .ok (.bipush (-2), 2) := by decide +kernel
theorem dX11_runs_12 : decode cX11_runs 12 = .ok (.ireturn, 1) := by decide +kernel
theorem dX11_runs_13 : decode cX11_runs 13 = .ok (.iconst 0, 1) := by decide +kernel
theorem dX11_runs_14 : decode cX11_runs 14 = .ok (.istore_n 1, 1) := by decide +kernel
theorem dX11_runs_15 : decode cX11_runs 15 = .ok (.iload_n 1, 1) := by decide +kernel
theorem dX11_runs_16 : decode cX11_runs 16 = .ok (.bipush 20, 2) := by decide +kernel
theorem dX11_runs_18 : decode cX11_runs 18 = .ok (.if_icmp .ge 24, 3) := by decide +kernel
theorem dX11_runs_21 : decode cX11_runs 21 = .ok (.aload_n 0, 1) := by decide +kernel
theorem dX11_runs_22 : decode cX11_runs 22 = .ok (.getfield 92, 3) := by decide +kernel
theorem dX11_runs_25 : decode cX11_runs 25 = .ok (.invokevirtual 104, 3) := by decide +kernel
theorem dX11_runs_28 : decode cX11_runs 28 = .ok (.ifCond .eq 14, 3) := by decide +kernel
theorem dX11_runs_31 : decode cX11_runs 31 = .ok (.aload_n 0, 1) := by decide +kernel
theorem dX11_runs_32 : decode cX11_runs 32 = .ok (.invokevirtual 243, 3) := by decide +kernel
theorem dX11_runs_35 : decode cX11_runs 35 = .ok (.pop, 1) := by decide +kernel
theorem dX11_runs_36 : decode cX11_runs 36 = .ok (.iinc 1 1, 3) := by decide +kernel
theorem dX11_runs_39 : decode cX11_runs 39 = .ok (.goto (-24), 3) := by decide +kernel
theorem dX11_runs_42 : decode cX11_runs 42 = .ok (.aload_n 0, 1) := by decide +kernel
theorem dX11_runs_43 : decode cX11_runs 43 = .ok (.getfield 92, 3) := by decide +kernel
theorem dX11_runs_46 : decode cX11_runs 46 = .ok (.getfield 206, 3) := by decide +kernel
theorem dX11_runs_49 : decode cX11_runs 49 = .ok (.ireturn, 1) := by decide +kernel
theorem dX11_word_0 : decode cX11_word 0 = .ok (.aload_n 0, 1) := by decide +kernel
theorem dX11_word_1 : decode cX11_word 1 = .ok (.getfield 92, 3) := by decide +kernel
theorem dX11_word_4 : decode cX11_word 4 = .ok (.iload_n 1, 1) := by decide +kernel
theorem dX11_word_5 : decode cX11_word 5 = .ok (.invokevirtual 246, 3) := by decide +kernel
theorem dX11_word_8 : decode cX11_word 8 = .ok (.ifCond .eq 12, 3) := by decide +kernel
theorem dX11_word_11 : decode cX11_word 11 = .ok (.iload_n 2, 1) := by decide +kernel
theorem dX11_word_12 : decode cX11_word 12 = .ok (.iconst 0, 1) := by decide +kernel
theorem dX11_word_13 : decode cX11_word 13 = .ok (.iconst 1, 1) := by decide +kernel
theorem dX11_word_14 : decode cX11_word 14 = .ok (.invokestatic 112, 3) := by decide +kernel
theorem dX11_word_17 : decode cX11_word 17 = .ok (.ifCond .ne 5, 3) := by decide +kernel
theorem dX11_word_20 : decode cX11_word 20 = .ok (.iconst (-1), 1) := by decide +kernel
theorem dX11_word_21 : decode cX11_word 21 = .ok (.ireturn, 1) := by decide +kernel
theorem dX11_word_22 : decode cX11_word 22 = .ok (.iload_n 2, 1) := by decide +kernel
theorem dX11_word_23 : decode cX11_word 23 = .ok (.ifCond .ne 14, 3) := by decide +kernel
theorem dX11_word_26 : decode cX11_word 26 = .ok (.aload_n 0, 1) := by decide +kernel
theorem dX11_word_27 : decode cX11_word 27 = .ok (.getfield 92, 3) := by decide +kernel
theorem dX11_word_30 : decode cX11_word 30 = .ok (.iload_n 1, 1) := by decide +kernel
theorem dX11_word_31 : decode cX11_word 31 = .ok (.invokevirtual 249, 3) := by decide +kernel
theorem dX11_word_34 : decode cX11_word 34 = .ok (.goto 11, 3) := by decide +kernel
theorem dX11_word_37 : decode cX11_word 37 = .ok (.aload_n 0, 1) := by decide +kernel
theorem dX11_word_38 : decode cX11_word 38 = .ok (.getfield 92, 3) := by decide +kernel
theorem dX11_word_41 : decode cX11_word 41 = .ok (.iload_n 1, 1) := by decide +kernel
theorem dX11_word_42 : decode cX11_word 42 = .ok (.invokevirtual 212, 3) := by decide +kernel
theorem dX11_word_45 : decode cX11_word 45 = .ok (.ireturn, 1) := by decide +kernel
theorem dX11_offered_0 : decode cX11_offered 0 = .ok (.aload_n 0, 1) := by decide +kernel
theorem dX11_offered_1 : decode cX11_offered 1 = .ok (.getfield 92, 3) := by decide +kernel
theorem dX11_offered_4 : decode cX11_offered 4 = .ok (.iload_n 1, 1) := by decide +kernel
theorem dX11_offered_5 : decode cX11_offered 5 = .ok (.invokevirtual 246, 3) := by decide +kernel
theorem dX11_offered_8 : decode cX11_offered 8 = .ok (.ifCond .eq 12, 3) := by decide +kernel
theorem dX11_offered_11 : decode cX11_offered 11 = .ok (.iload_n 2, 1) := by decide +kernel
theorem dX11_offered_12 : decode cX11_offered 12 = .ok (.iconst 0, 1) := by decide +kernel
theorem dX11_offered_13 : decode cX11_offered 13 = .ok (.iconst 1, 1) := by decide +kernel
theorem dX11_offered_14 : decode cX11_offered 14 = .ok (.invokestatic 112, 3) := by decide +kernel
theorem dX11_offered_17 : decode cX11_offered 17 = .ok (.ifCond .ne 7, 3) := by decide +kernel
theorem dX11_offered_20 : decode cX11_offered 20 = .ok (.sipush (-10001), 3) := by decide +kernel
theorem dX11_offered_23 : decode cX11_offered 23 = .ok (.ireturn, 1) := by decide +kernel
theorem dX11_offered_24 : decode cX11_offered 24 = .ok (.aload_n 0, 1) := by decide +kernel
theorem dX11_offered_25 : decode cX11_offered 25 = .ok (.getfield 92, 3) := by decide +kernel
theorem dX11_offered_28 : decode cX11_offered 28 = .ok (.iload_n 1, 1) := by decide +kernel
theorem dX11_offered_29 : decode cX11_offered 29 = .ok (.invokevirtual 252, 3) := by decide +kernel
theorem dX11_offered_32 : decode cX11_offered 32 = .ok (.ifCond .ne 7, 3) := by decide +kernel
theorem dX11_offered_35 : decode cX11_offered 35 = .ok (.sipush (-10012), 3) := by decide +kernel
theorem dX11_offered_38 : decode cX11_offered 38 = .ok (.ireturn, 1) := by decide +kernel
theorem dX11_offered_39 : decode cX11_offered 39 = .ok (.iload_n 2, 1) := by decide +kernel
theorem dX11_offered_40 : decode cX11_offered 40 = .ok (.ifCond .ne 14, 3) := by decide +kernel
theorem dX11_offered_43 : decode cX11_offered 43 = .ok (.aload_n 0, 1) := by decide +kernel
theorem dX11_offered_44 : decode cX11_offered 44 = .ok (.getfield 92, 3) := by decide +kernel
theorem dX11_offered_47 : decode cX11_offered 47 = .ok (.iload_n 1, 1) := by decide +kernel
theorem dX11_offered_48 : decode cX11_offered 48 = .ok (.invokevirtual 237, 3) := by decide +kernel
theorem dX11_offered_51 : decode cX11_offered 51 = .ok (.goto 11, 3) := by decide +kernel
theorem dX11_offered_54 : decode cX11_offered 54 = .ok (.aload_n 0, 1) := by decide +kernel
theorem dX11_offered_55 : decode cX11_offered 55 = .ok (.getfield 92, 3) := by decide +kernel
theorem dX11_offered_58 : decode cX11_offered 58 = .ok (.iload_n 1, 1) := by decide +kernel
theorem dX11_offered_59 : decode cX11_offered 59 = .ok (.invokevirtual 240, 3) := by decide +kernel
theorem dX11_offered_62 : decode cX11_offered 62 = .ok (.ireturn, 1) := by decide +kernel
theorem dX11_learnt_0 : decode cX11_learnt 0 = .ok (.iload_n 1, 1) := by decide +kernel
theorem dX11_learnt_1 : decode cX11_learnt 1 = .ok (.invokestatic 101, 3) := by decide +kernel
theorem dX11_learnt_4 : decode cX11_learnt 4 = .ok (.ifCond .eq 7, 3) := by decide +kernel
theorem dX11_learnt_7 : decode cX11_learnt 7 = .ok (.iload_n 2, 1) := by decide +kernel
theorem dX11_learnt_8 : decode cX11_learnt 8 = .ok (.ifCond .ge 5, 3) := by decide +kernel
theorem dX11_learnt_11 : decode cX11_learnt 11 = .ok (.iconst (-1), 1) := by decide +kernel
theorem dX11_learnt_12 : decode cX11_learnt 12 = .ok (.ireturn, 1) := by decide +kernel
theorem dX11_learnt_13 : decode cX11_learnt 13 = .ok (.aload_n 0, 1) := by decide +kernel
theorem dX11_learnt_14 : decode cX11_learnt 14 = .ok (.getfield 92, 3) := by decide +kernel
theorem dX11_learnt_17 : decode cX11_learnt 17 = .ok (.getfield 206, 3) := by decide +kernel
theorem dX11_learnt_20 : decode cX11_learnt 20 = .ok (.ifCond .ne 6, 3) := by decide +kernel
theorem dX11_learnt_23 : decode cX11_learnt 23 = .ok (.bipush (-2), 2) := by decide +kernel
theorem dX11_learnt_25 : decode cX11_learnt 25 = .ok (.ireturn, 1) := by decide +kernel
theorem dX11_learnt_26 : decode cX11_learnt 26 = .ok (.iload_n 1, 1) := by decide +kernel
theorem dX11_learnt_27 : decode cX11_learnt 27 = .ok (.aload_n 0, 1) := by decide +kernel
theorem dX11_learnt_28 : decode cX11_learnt 28 = .ok (.getfield 92, 3) := by decide +kernel
theorem dX11_learnt_31 : decode cX11_learnt 31 = .ok (.getfield 218, 3) := by decide +kernel
theorem dX11_learnt_34 : decode cX11_learnt 34 = .ok (.if_icmp .eq 16, 3) := by decide +kernel
theorem dX11_learnt_37 : decode cX11_learnt 37 = .ok (.iload_n 1, 1) := by decide +kernel
theorem dX11_learnt_38 : decode cX11_learnt 38 = .ok (.aload_n 0, 1) := by decide +kernel
theorem dX11_learnt_39 : decode cX11_learnt 39 = .ok (.getfield 92, 3) := by decide +kernel
theorem dX11_learnt_42 : decode cX11_learnt 42 = .ok (.getfield 221, 3) := by decide +kernel
theorem dX11_learnt_45 : decode cX11_learnt 45 = .ok (.if_icmp .eq 5, 3) := by decide +kernel
theorem dX11_learnt_48 : decode cX11_learnt 48 = .ok (.iconst (-1), 1) := by decide +kernel
theorem dX11_learnt_49 : decode cX11_learnt 49 = .ok (.ireturn, 1) := by decide +kernel
theorem dX11_learnt_50 : decode cX11_learnt 50 = .ok (.iload_n 1, 1) := by decide +kernel
theorem dX11_learnt_51 : decode cX11_learnt 51 = .ok (.aload_n 0, 1) := by decide +kernel
theorem dX11_learnt_52 : decode cX11_learnt 52 = .ok (.getfield 92, 3) := by decide +kernel
theorem dX11_learnt_55 : decode cX11_learnt 55 = .ok (.getfield 218, 3) := by decide +kernel
theorem dX11_learnt_58 : decode cX11_learnt 58 = .ok (.if_icmp .ne 7, 3) := by decide +kernel
theorem dX11_learnt_61 : decode cX11_learnt 61 = .ok (.iconst 0, 1) := by decide +kernel
theorem dX11_learnt_62 : decode cX11_learnt 62 = .ok (.goto 4, 3) := by decide +kernel
theorem dX11_learnt_65 : decode cX11_learnt 65 = .ok (.iconst 1, 1) := by decide +kernel
theorem dX11_learnt_66 : decode cX11_learnt 66 = .ok (.istore_n 3, 1) := by decide +kernel
theorem dX11_learnt_67 : decode cX11_learnt 67 = .ok (.aload_n 0, 1) := by decide +kernel
theorem dX11_learnt_68 : decode cX11_learnt 68 = .ok (.getfield 92, 3) := by decide +kernel
theorem dX11_learnt_71 : decode cX11_learnt 71 = .ok (.iload_n 3, 1) := by decide +kernel
theorem dX11_learnt_72 : decode cX11_learnt 72 = .ok (.invokevirtual 255, 3) := by decide +kernel
theorem dX11_learnt_75 : decode cX11_learnt 75 = .ok (.istore 4, 2) := by decide +kernel
theorem dX11_learnt_77 : decode cX11_learnt 77 = .ok (.iload_n 2, 1) := by decide +kernel
theorem dX11_learnt_78 : decode cX11_learnt 78 = .ok (.iload 4, 2) := by decide +kernel
theorem dX11_learnt_80 : decode cX11_learnt 80 = .ok (.if_icmp .le 5, 3) := by decide +kernel
theorem dX11_learnt_83 : decode cX11_learnt 83 = .ok (.iconst (-1), 1) := by decide +kernel
theorem dX11_learnt_84 : decode cX11_learnt 84 = .ok (.ireturn, 1) := by decide +kernel
theorem dX11_learnt_85 : decode cX11_learnt 85 = .ok (.aload_n 0, 1) := by decide +kernel
theorem dX11_learnt_86 : decode cX11_learnt 86 = .ok (.getfield 92, 3) := by decide +kernel
theorem dX11_learnt_89 : decode cX11_learnt 89 = .ok (.getfield 199, 3) := by decide +kernel
theorem dX11_learnt_92 : decode cX11_learnt 92 = .ok (.invokevirtual 258, 3) := by decide +kernel
theorem dX11_learnt_95 : decode cX11_learnt 95 = .ok (.invokestatic 261, 3) := by decide +kernel
theorem dX11_learnt_98 : decode cX11_learnt 98 = .ok (.iconst 4, 1) := by decide +kernel
theorem dX11_learnt_99 : decode cX11_learnt 99 = .ok (.if_icmp .le 6, 3) := by decide +kernel
theorem dX11_learnt_102 : decode cX11_learnt 102 = .ok (.bipush (-2), 2) := by decide +kernel
theorem dX11_learnt_104 : decode cX11_learnt 104 = .ok (.ireturn, 1) := by decide +kernel
theorem dX11_learnt_105 : decode cX11_learnt 105 = .ok (.aload_n 0, 1) := by decide +kernel
theorem dX11_learnt_106 : decode cX11_learnt 106 = .ok (.iload_n 1, 1) := by decide +kernel
theorem dX11_learnt_107 : decode cX11_learnt 107 = .ok (.iload_n 3, 1) := by decide +kernel
theorem dX11_learnt_108 : decode cX11_learnt 108 = .ok (.iload_n 2, 1) := by decide +kernel
theorem dX11_learnt_109 : decode cX11_learnt 109 = .ok (.ifCond .ne 8, 3) := by decide +kernel
theorem dX11_learnt_112 : decode cX11_learnt 112 = .ok (.iload 4, 2) := by decide +kernel
theorem dX11_learnt_114 : decode cX11_learnt 114 = .ok (.goto 4, 3) := by decide +kernel
theorem dX11_learnt_117 : decode cX11_learnt 117 = .ok (.iload_n 2, 1) := by decide +kernel
theorem dX11_learnt_118 : decode cX11_learnt 118 = .ok (.invokevirtual 266, 3) := by decide +kernel
theorem dX11_learnt_121 : decode cX11_learnt 121 = .ok (.ireturn, 1) := by decide +kernel
theorem dX11_value_0 : decode cX11_value 0 = .ok (.iload_n 1, 1) := by decide +kernel
theorem dX11_value_1 : decode cX11_value 1 = .ok (.iconst 1, 1) := by decide +kernel
theorem dX11_value_2 : decode cX11_value 2 = .ok (.bipush 15, 2) := by decide +kernel
theorem dX11_value_4 : decode cX11_value 4 = .ok (.invokestatic 112, 3) := by decide +kernel
theorem dX11_value_7 : decode cX11_value 7 = .ok (.ifCond .ne 7, 3) := by decide +kernel
theorem dX11_value_10 : decode cX11_value 10 = .ok (.sipush (-10001), 3) := by decide +kernel
theorem dX11_value_13 : decode cX11_value 13 = .ok (.ireturn, 1) := by decide +kernel
theorem dX11_value_14 : decode cX11_value 14 = .ok (.aload_n 0, 1) := by decide +kernel
theorem dX11_value_15 : decode cX11_value 15 = .ok (.getfield 39, 3) := by decide +kernel
theorem dX11_value_18 : decode cX11_value 18 = .ok (.aload_n 0, 1) := by decide +kernel
theorem dX11_value_19 : decode cX11_value 19 = .ok (.getfield 11, 3) := by decide +kernel
theorem dX11_value_22 : decode cX11_value 22 = .ok (.iload_n 1, 1) := by decide +kernel
theorem dX11_value_23 : decode cX11_value 23 = .ok (.invokevirtual 269, 3) := by decide +kernel
theorem dX11_value_26 : decode cX11_value 26 = .ok (.istore_n 2, 1) := by decide +kernel
theorem dX11_value_27 : decode cX11_value 27 = .ok (.iload_n 2, 1) := by decide +kernel
theorem dX11_value_28 : decode cX11_value 28 = .ok (.ldc_w 273, 3) := by decide +kernel
theorem dX11_value_31 : decode cX11_value 31 = .ok (.if_icmp .ne 9, 3) := by decide +kernel
theorem dX11_value_34 : decode cX11_value 34 = .ok (.sipush (-10004), 3) := by decide +kernel
theorem dX11_value_37 : decode cX11_value 37 = .ok (.goto 4, 3) := by decide +kernel
theorem dX11_value_40 : decode cX11_value 40 = .ok (.iload_n 2, 1) := by decide +kernel
theorem dX11_value_41 : decode cX11_value 41 = .ok (.ireturn, 1) := by decide +kernel
theorem dX11_unrest_0 : decode cX11_unrest 0 = .ok (.iconst 0, 1) := by decide +kernel
theorem dX11_unrest_1 : decode cX11_unrest 1 = .ok (.istore_n 1, 1) := by decide +kernel
theorem dX11_unrest_2 : decode cX11_unrest 2 = .ok (.iconst 1, 1) := by decide +kernel
theorem dX11_unrest_3 : decode cX11_unrest 3 = .ok (.istore_n 2, 1) := by decide +kernel
theorem dX11_unrest_4 : decode cX11_unrest 4 = .ok (.iload_n 2, 1) := by decide +kernel
theorem dX11_unrest_5 : decode cX11_unrest 5 = .ok (.bipush 16, 2) := by decide +kernel
theorem dX11_unrest_7 : decode cX11_unrest 7 = .ok (.if_icmp .ge 26, 3) := by decide +kernel
theorem dX11_unrest_10 : decode cX11_unrest 10 = .ok (.iload_n 1, 1) := by decide +kernel
theorem dX11_unrest_11 : decode cX11_unrest 11 = .ok (.aload_n 0, 1) := by decide +kernel
theorem dX11_unrest_12 : decode cX11_unrest 12 = .ok (.getfield 39, 3) := by decide +kernel
theorem dX11_unrest_15 : decode cX11_unrest 15 = .ok (.aload_n 0, 1) := by decide +kernel
theorem dX11_unrest_16 : decode cX11_unrest 16 = .ok (.getfield 11, 3) := by decide +kernel
theorem dX11_unrest_19 : decode cX11_unrest 19 = .ok (.iload_n 2, 1) := by decide +kernel
theorem dX11_unrest_20 : decode cX11_unrest 20 = .ok (.invokevirtual 274, 3) := by decide +kernel
theorem dX11_unrest_23 : decode cX11_unrest 23 = .ok (.invokestatic 277, 3) := by decide +kernel
theorem dX11_unrest_26 : decode cX11_unrest 26 = .ok (.istore_n 1, 1) := by decide +kernel
theorem dX11_unrest_27 : decode cX11_unrest 27 = .ok (.iinc 2 1, 3) := by decide +kernel
theorem dX11_unrest_30 : decode cX11_unrest 30 = .ok (.goto (-26), 3) := by decide +kernel
theorem dX11_unrest_33 : decode cX11_unrest 33 = .ok (.iload_n 1, 1) := by decide +kernel
theorem dX11_unrest_34 : decode cX11_unrest 34 = .ok (.ireturn, 1) := by decide +kernel
theorem dX11_leaves_0 : decode cX11_leaves 0 = .ok (.iconst 1, 1) := by decide +kernel
theorem dX11_leaves_1 : decode cX11_leaves 1 = .ok (.istore_n 1, 1) := by decide +kernel
theorem dX11_leaves_2 : decode cX11_leaves 2 = .ok (.iload_n 1, 1) := by decide +kernel
theorem dX11_leaves_3 : decode cX11_leaves 3 = .ok (.bipush 16, 2) := by decide +kernel
theorem dX11_leaves_5 : decode cX11_leaves 5 = .ok (.if_icmp .ge 26, 3) := by decide +kernel
theorem dX11_leaves_8 : decode cX11_leaves 8 = .ok (.aload_n 0, 1) := by decide +kernel
theorem dX11_leaves_9 : decode cX11_leaves 9 = .ok (.getfield 39, 3) := by decide +kernel
theorem dX11_leaves_12 : decode cX11_leaves 12 = .ok (.aload_n 0, 1) := by decide +kernel
theorem dX11_leaves_13 : decode cX11_leaves 13 = .ok (.getfield 11, 3) := by decide +kernel
theorem dX11_leaves_16 : decode cX11_leaves 16 = .ok (.iload_n 1, 1) := by decide +kernel
theorem dX11_leaves_17 : decode cX11_leaves 17 = .ok (.invokevirtual 274, 3) := by decide +kernel
theorem dX11_leaves_20 : decode cX11_leaves 20 = .ok (.ifCond .le 5, 3) := by decide +kernel
theorem dX11_leaves_23 : decode cX11_leaves 23 = .ok (.iload_n 1, 1) := by decide +kernel
theorem dX11_leaves_24 : decode cX11_leaves 24 = .ok (.ireturn, 1) := by decide +kernel
theorem dX11_leaves_25 : decode cX11_leaves 25 = .ok (.iinc 1 1, 3) := by decide +kernel
theorem dX11_leaves_28 : decode cX11_leaves 28 = .ok (.goto (-26), 3) := by decide +kernel
theorem dX11_leaves_31 : decode cX11_leaves 31 = .ok (.bipush (-4), 2) := by decide +kernel
theorem dX11_leaves_33 : decode cX11_leaves 33 = .ok (.ireturn, 1) := by decide +kernel
theorem dX11_share_0 : decode cX11_share 0 = .ok (.iload_n 1, 1) := by decide +kernel
theorem dX11_share_1 : decode cX11_share 1 = .ok (.invokestatic 101, 3) := by decide +kernel
theorem dX11_share_4 : decode cX11_share 4 = .ok (.ifCond .ne 7, 3) := by decide +kernel
theorem dX11_share_7 : decode cX11_share 7 = .ok (.ldc2_w 282, 3) := by decide +kernel
theorem dX11_share_10 : decode cX11_share 10 = .ok (.lreturn, 1) := by decide +kernel
theorem dX11_share_11 : decode cX11_share 11 = .ok (.aload_n 0, 1) := by decide +kernel
theorem dX11_share_12 : decode cX11_share 12 = .ok (.getfield 39, 3) := by decide +kernel
theorem dX11_share_15 : decode cX11_share 15 = .ok (.aload_n 0, 1) := by decide +kernel
theorem dX11_share_16 : decode cX11_share 16 = .ok (.getfield 11, 3) := by decide +kernel
theorem dX11_share_19 : decode cX11_share 19 = .ok (.iload_n 1, 1) := by decide +kernel
theorem dX11_share_20 : decode cX11_share 20 = .ok (.invokevirtual 284, 3) := by decide +kernel
theorem dX11_share_23 : decode cX11_share 23 = .ok (.lreturn, 1) := by decide +kernel
theorem dX11_envy_0 : decode cX11_envy 0 = .ok (.iconst 0, 1) := by decide +kernel
theorem dX11_envy_1 : decode cX11_envy 1 = .ok (.istore_n 1, 1) := by decide +kernel
theorem dX11_envy_2 : decode cX11_envy 2 = .ok (.iload_n 1, 1) := by decide +kernel
theorem dX11_envy_3 : decode cX11_envy 3 = .ok (.iconst 4, 1) := by decide +kernel
theorem dX11_envy_4 : decode cX11_envy 4 = .ok (.if_icmp .ge 50, 3) := by decide +kernel
theorem dX11_envy_7 : decode cX11_envy 7 = .ok (.iconst 0, 1) := by decide +kernel
theorem dX11_envy_8 : decode cX11_envy 8 = .ok (.istore_n 2, 1) := by decide +kernel
theorem dX11_envy_9 : decode cX11_envy 9 = .ok (.iload_n 2, 1) := by decide +kernel
theorem dX11_envy_10 : decode cX11_envy 10 = .ok (.iconst 4, 1) := by decide +kernel
theorem dX11_envy_11 : decode cX11_envy 11 = .ok (.if_icmp .ge 37, 3) := by decide +kernel
theorem dX11_envy_14 : decode cX11_envy 14 = .ok (.aload_n 0, 1) := by decide +kernel
theorem dX11_envy_15 : decode cX11_envy 15 = .ok (.getfield 11, 3) := by decide +kernel
theorem dX11_envy_18 : decode cX11_envy 18 = .ok (.iload_n 1, 1) := by decide +kernel
theorem dX11_envy_19 : decode cX11_envy 19 = .ok (.aaload, 1) := by decide +kernel
theorem dX11_envy_20 : decode cX11_envy 20 = .ok (.aload_n 0, 1) := by decide +kernel
theorem dX11_envy_21 : decode cX11_envy 21 = .ok (.getfield 11, 3) := by decide +kernel
theorem dX11_envy_24 : decode cX11_envy 24 = .ok (.iload_n 2, 1) := by decide +kernel
theorem dX11_envy_25 : decode cX11_envy 25 = .ok (.aaload, 1) := by decide +kernel
theorem dX11_envy_26 : decode cX11_envy 26 = .ok (.getfield 71, 3) := by decide +kernel
theorem dX11_envy_29 : decode cX11_envy 29 = .ok (.invokevirtual 288, 3) := by decide +kernel
theorem dX11_envy_32 : decode cX11_envy 32 = .ok (.ifCond .eq 10, 3) := by decide +kernel
theorem dX11_envy_35 : decode cX11_envy 35 = .ok (.bipush 10, 2) := by decide +kernel
theorem dX11_envy_37 : decode cX11_envy 37 = .ok (.iload_n 1, 1) := by decide +kernel
theorem dX11_envy_38 : decode cX11_envy 38 = .ok (.imul, 1) := by decide +kernel
theorem dX11_envy_39 : decode cX11_envy 39 = .ok (.iload_n 2, 1) := by decide +kernel
theorem dX11_envy_40 : decode cX11_envy 40 = .ok (.iadd, 1) := by decide +kernel
theorem dX11_envy_41 : decode cX11_envy 41 = .ok (.ireturn, 1) := by decide +kernel
theorem dX11_envy_42 : decode cX11_envy 42 = .ok (.iinc 2 1, 3) := by decide +kernel
theorem dX11_envy_45 : decode cX11_envy 45 = .ok (.goto (-36), 3) := by decide +kernel
theorem dX11_envy_48 : decode cX11_envy 48 = .ok (.iinc 1 1, 3) := by decide +kernel
theorem dX11_envy_51 : decode cX11_envy 51 = .ok (.goto (-49), 3) := by decide +kernel
theorem dX11_envy_54 : decode cX11_envy 54 = .ok (.bipush (-4), 2) := by decide +kernel
theorem dX11_envy_56 : decode cX11_envy 56 = .ok (.ireturn, 1) := by decide +kernel
theorem dX11_due_0 : decode cX11_due 0 = .ok (.iload_n 1, 1) := by decide +kernel
theorem dX11_due_1 : decode cX11_due 1 = .ok (.iload_n 2, 1) := by decide +kernel
theorem dX11_due_2 : decode cX11_due 2 = .ok (.iload_n 3, 1) := by decide +kernel
theorem dX11_due_3 : decode cX11_due 3 = .ok (.invokestatic 291, 3) := by decide +kernel
theorem dX11_due_6 : decode cX11_due 6 = .ok (.ifCond .eq 11, 3) := by decide +kernel
theorem dX11_due_9 : decode cX11_due 9 = .ok (.iload 4, 2) := by decide +kernel
theorem dX11_due_11 : decode cX11_due 11 = .ok (.invokestatic 294, 3) := by decide +kernel
theorem dX11_due_14 : decode cX11_due 14 = .ok (.ifCond .ne 5, 3) := by decide +kernel
theorem dX11_due_17 : decode cX11_due 17 = .ok (.iconst (-1), 1) := by decide +kernel
theorem dX11_due_18 : decode cX11_due 18 = .ok (.ireturn, 1) := by decide +kernel
theorem dX11_due_19 : decode cX11_due 19 = .ok (.aload_n 0, 1) := by decide +kernel
theorem dX11_due_20 : decode cX11_due 20 = .ok (.getfield 53, 3) := by decide +kernel
theorem dX11_due_23 : decode cX11_due 23 = .ok (.iconst 0, 1) := by decide +kernel
theorem dX11_due_24 : decode cX11_due 24 = .ok (.iload_n 1, 1) := by decide +kernel
theorem dX11_due_25 : decode cX11_due 25 = .ok (.iload_n 2, 1) := by decide +kernel
theorem dX11_due_26 : decode cX11_due 26 = .ok (.iload_n 3, 1) := by decide +kernel
theorem dX11_due_27 : decode cX11_due 27 = .ok (.iload 4, 2) := by decide +kernel
theorem dX11_due_29 : decode cX11_due 29 = .ok (.iconst 0, 1) := by decide +kernel
theorem dX11_due_30 : decode cX11_due 30 = .ok (.invokevirtual 297, 3) := by decide +kernel
theorem dX11_due_33 : decode cX11_due 33 = .ok (.ireturn, 1) := by decide +kernel
theorem dX11_when_0 : decode cX11_when 0 = .ok (.iload_n 1, 1) := by decide +kernel
theorem dX11_when_1 : decode cX11_when 1 = .ok (.iload_n 2, 1) := by decide +kernel
theorem dX11_when_2 : decode cX11_when 2 = .ok (.iload_n 3, 1) := by decide +kernel
theorem dX11_when_3 : decode cX11_when 3 = .ok (.invokestatic 291, 3) := by decide +kernel
theorem dX11_when_6 : decode cX11_when 6 = .ok (.ifCond .eq 23, 3) := by decide +kernel
theorem dX11_when_9 : decode cX11_when 9 = .ok (.iload 4, 2) := by decide +kernel
theorem dX11_when_11 : decode cX11_when 11 = .ok (.invokestatic 300, 3) := by decide +kernel
theorem dX11_when_14 : decode cX11_when 14 = .ok (.ifCond .eq 15, 3) := by decide +kernel
theorem dX11_when_17 : decode cX11_when 17 = .ok (.iload 5, 2) := by decide +kernel
theorem dX11_when_19 : decode cX11_when 19 = .ok (.iconst 0, 1) := by decide +kernel
theorem dX11_when_20 : decode cX11_when 20 = .ok (.sipush 999, 3) := by decide +kernel
theorem dX11_when_23 : decode cX11_when 23 = .ok (.invokestatic 112, 3) := by decide +kernel
theorem dX11_when_26 : decode cX11_when 26 = .ok (.ifCond .ne 5, 3) := by decide +kernel
theorem dX11_when_29 : decode cX11_when 29 = .ok (.iconst (-1), 1) := by decide +kernel
theorem dX11_when_30 : decode cX11_when 30 = .ok (.ireturn, 1) := by decide +kernel
theorem dX11_when_31 : decode cX11_when 31 = .ok (.aload_n 0, 1) := by decide +kernel
theorem dX11_when_32 : decode cX11_when 32 = .ok (.getfield 53, 3) := by decide +kernel
theorem dX11_when_35 : decode cX11_when 35 = .ok (.iconst 1, 1) := by decide +kernel
theorem dX11_when_36 : decode cX11_when 36 = .ok (.iload_n 1, 1) := by decide +kernel
theorem dX11_when_37 : decode cX11_when 37 = .ok (.iload_n 2, 1) := by decide +kernel
theorem dX11_when_38 : decode cX11_when 38 = .ok (.iload_n 3, 1) := by decide +kernel
theorem dX11_when_39 : decode cX11_when 39 = .ok (.iload 4, 2) := by decide +kernel
theorem dX11_when_41 : decode cX11_when 41 = .ok (.iload 5, 2) := by decide +kernel
theorem dX11_when_43 : decode cX11_when 43 = .ok (.invokevirtual 297, 3) := by decide +kernel
theorem dX11_when_46 : decode cX11_when 46 = .ok (.ireturn, 1) := by decide +kernel
theorem dX11_mend_0 : decode cX11_mend 0 = .ok (.iload_n 1, 1) := by decide +kernel
theorem dX11_mend_1 : decode cX11_mend 1 = .ok (.iload_n 2, 1) := by decide +kernel
theorem dX11_mend_2 : decode cX11_mend 2 = .ok (.iload_n 3, 1) := by decide +kernel
theorem dX11_mend_3 : decode cX11_mend 3 = .ok (.invokestatic 291, 3) := by decide +kernel
theorem dX11_mend_6 : decode cX11_mend 6 = .ok (.ifCond .eq 27, 3) := by decide +kernel
theorem dX11_mend_9 : decode cX11_mend 9 = .ok (.aload_n 0, 1) := by decide +kernel
theorem dX11_mend_10 : decode cX11_mend 10 = .ok (.getfield 53, 3) := by decide +kernel
theorem dX11_mend_13 : decode cX11_mend 13 = .ok (.iload 4, 2) := by decide +kernel
theorem dX11_mend_15 : decode cX11_mend 15 = .ok (.invokevirtual 303, 3) := by decide +kernel
theorem dX11_mend_18 : decode cX11_mend 18 = .ok (.ifCond .eq 15, 3) := by decide +kernel
theorem dX11_mend_21 : decode cX11_mend 21 = .ok (.iload 5, 2) := by decide +kernel
theorem dX11_mend_23 : decode cX11_mend 23 = .ok (.iconst 0, 1) := by decide +kernel
theorem dX11_mend_24 : decode cX11_mend 24 = .ok (.sipush 999, 3) := by decide +kernel
theorem dX11_mend_27 : decode cX11_mend 27 = .ok (.invokestatic 112, 3) := by decide +kernel
theorem dX11_mend_30 : decode cX11_mend 30 = .ok (.ifCond .ne 5, 3) := by decide +kernel
theorem dX11_mend_33 : decode cX11_mend 33 = .ok (.iconst (-1), 1) := by decide +kernel
theorem dX11_mend_34 : decode cX11_mend 34 = .ok (.ireturn, 1) := by decide +kernel
theorem dX11_mend_35 : decode cX11_mend 35 = .ok (.aload_n 0, 1) := by decide +kernel
theorem dX11_mend_36 : decode cX11_mend 36 = .ok (.getfield 53, 3) := by decide +kernel
theorem dX11_mend_39 : decode cX11_mend 39 = .ok (.iconst 2, 1) := by decide +kernel
theorem dX11_mend_40 : decode cX11_mend 40 = .ok (.iload_n 1, 1) := by decide +kernel
theorem dX11_mend_41 : decode cX11_mend 41 = .ok (.iload_n 2, 1) := by decide +kernel
theorem dX11_mend_42 : decode cX11_mend 42 = .ok (.iload_n 3, 1) := by decide +kernel
theorem dX11_mend_43 : decode cX11_mend 43 = .ok (.iload 4, 2) := by decide +kernel
theorem dX11_mend_45 : decode cX11_mend 45 = .ok (.iload 5, 2) := by decide +kernel
theorem dX11_mend_47 : decode cX11_mend 47 = .ok (.invokevirtual 297, 3) := by decide +kernel
theorem dX11_mend_50 : decode cX11_mend 50 = .ok (.ireturn, 1) := by decide +kernel
theorem dX11_bar_0 : decode cX11_bar 0 = .ok (.iload_n 1, 1) := by decide +kernel
theorem dX11_bar_1 : decode cX11_bar 1 = .ok (.invokestatic 101, 3) := by decide +kernel
theorem dX11_bar_4 : decode cX11_bar 4 = .ok (.ifCond .eq 10, 3) := by decide +kernel
theorem dX11_bar_7 : decode cX11_bar 7 = .ok (.iload_n 2, 1) := by decide +kernel
theorem dX11_bar_8 : decode cX11_bar 8 = .ok (.invokestatic 300, 3) := by decide +kernel
theorem dX11_bar_11 : decode cX11_bar 11 = .ok (.ifCond .ne 5, 3) := by decide +kernel
theorem dX11_bar_14 : decode cX11_bar 14 = .ok (.iconst (-1), 1) := by decide +kernel
theorem dX11_bar_15 : decode cX11_bar 15 = .ok (.ireturn, 1) := by decide +kernel
theorem dX11_bar_16 : decode cX11_bar 16 = .ok (.aload_n 0, 1) := by decide +kernel
theorem dX11_bar_17 : decode cX11_bar 17 = .ok (.getfield 53, 3) := by decide +kernel
theorem dX11_bar_20 : decode cX11_bar 20 = .ok (.iconst 3, 1) := by decide +kernel
theorem dX11_bar_21 : decode cX11_bar 21 = .ok (.iload_n 1, 1) := by decide +kernel
theorem dX11_bar_22 : decode cX11_bar 22 = .ok (.iload_n 1, 1) := by decide +kernel
theorem dX11_bar_23 : decode cX11_bar 23 = .ok (.iconst 0, 1) := by decide +kernel
theorem dX11_bar_24 : decode cX11_bar 24 = .ok (.iload_n 2, 1) := by decide +kernel
theorem dX11_bar_25 : decode cX11_bar 25 = .ok (.iconst 0, 1) := by decide +kernel
theorem dX11_bar_26 : decode cX11_bar 26 = .ok (.invokevirtual 297, 3) := by decide +kernel
theorem dX11_bar_29 : decode cX11_bar 29 = .ok (.ireturn, 1) := by decide +kernel
theorem dX11_happen_0 : decode cX11_happen 0 = .ok (.iload_n 1, 1) := by decide +kernel
theorem dX11_happen_1 : decode cX11_happen 1 = .ok (.invokestatic 300, 3) := by decide +kernel
theorem dX11_happen_4 : decode cX11_happen 4 = .ok (.ifCond .eq 22, 3) := by decide +kernel
theorem dX11_happen_7 : decode cX11_happen 7 = .ok (.iload_n 2, 1) := by decide +kernel
theorem dX11_happen_8 : decode cX11_happen 8 = .ok (.invokestatic 294, 3) := by decide +kernel
theorem dX11_happen_11 : decode cX11_happen 11 = .ok (.ifCond .eq 15, 3) := by decide +kernel
theorem dX11_happen_14 : decode cX11_happen 14 = .ok (.iload_n 3, 1) := by decide +kernel
theorem dX11_happen_15 : decode cX11_happen 15 = .ok (.invokestatic 294, 3) := by decide +kernel
theorem dX11_happen_18 : decode cX11_happen 18 = .ok (.ifCond .eq 8, 3) := by decide +kernel
theorem dX11_happen_21 : decode cX11_happen 21 = .ok (.iload_n 3, 1) := by decide +kernel
theorem dX11_happen_22 : decode cX11_happen 22 = .ok (.iload_n 2, 1) := by decide +kernel
theorem dX11_happen_23 : decode cX11_happen 23 = .ok (.if_icmp .ge 5, 3) := by decide +kernel
theorem dX11_happen_26 : decode cX11_happen 26 = .ok (.iconst (-1), 1) := by decide +kernel
theorem dX11_happen_27 : decode cX11_happen 27 = .ok (.ireturn, 1) := by decide +kernel
theorem dX11_happen_28 : decode cX11_happen 28 = .ok (.aload_n 0, 1) := by decide +kernel
theorem dX11_happen_29 : decode cX11_happen 29 = .ok (.getfield 53, 3) := by decide +kernel
theorem dX11_happen_32 : decode cX11_happen 32 = .ok (.iload_n 1, 1) := by decide +kernel
theorem dX11_happen_33 : decode cX11_happen 33 = .ok (.invokevirtual 306, 3) := by decide +kernel
theorem dX11_happen_36 : decode cX11_happen 36 = .ok (.ifCond .eq 6, 3) := by decide +kernel
theorem dX11_happen_39 : decode cX11_happen 39 = .ok (.bipush (-2), 2) := by decide +kernel
theorem dX11_happen_41 : decode cX11_happen 41 = .ok (.ireturn, 1) := by decide +kernel
theorem dX11_happen_42 : decode cX11_happen 42 = .ok (.aload_n 0, 1) := by decide +kernel
theorem dX11_happen_43 : decode cX11_happen 43 = .ok (.getfield 53, 3) := by decide +kernel
theorem dX11_happen_46 : decode cX11_happen 46 = .ok (.iload_n 1, 1) := by decide +kernel
theorem dX11_happen_47 : decode cX11_happen 47 = .ok (.iload_n 2, 1) := by decide +kernel
theorem dX11_happen_48 : decode cX11_happen 48 = .ok (.iload_n 3, 1) := by decide +kernel
theorem dX11_happen_49 : decode cX11_happen 49 = .ok (.invokevirtual 309, 3) := by decide +kernel
theorem dX11_happen_52 : decode cX11_happen 52 = .ok (.iconst 1, 1) := by decide +kernel
theorem dX11_happen_53 : decode cX11_happen 53 = .ok (.ireturn, 1) := by decide +kernel
theorem dX11_pay_0 : decode cX11_pay 0 = .ok (.aload_n 0, 1) := by decide +kernel
theorem dX11_pay_1 : decode cX11_pay 1 = .ok (.getfield 53, 3) := by decide +kernel
theorem dX11_pay_4 : decode cX11_pay 4 = .ok (.iload_n 1, 1) := by decide +kernel
theorem dX11_pay_5 : decode cX11_pay 5 = .ok (.invokevirtual 303, 3) := by decide +kernel
theorem dX11_pay_8 : decode cX11_pay 8 = .ok (.ifCond .eq 10, 3) := by decide +kernel
theorem dX11_pay_11 : decode cX11_pay 11 = .ok (.iload_n 2, 1) := by decide +kernel
theorem dX11_pay_12 : decode cX11_pay 12 = .ok (.invokestatic 294, 3) := by decide +kernel
theorem dX11_pay_15 : decode cX11_pay 15 = .ok (.ifCond .ne 5, 3) := by decide +kernel
theorem dX11_pay_18 : decode cX11_pay 18 = .ok (.iconst (-1), 1) := by decide +kernel
theorem dX11_pay_19 : decode cX11_pay 19 = .ok (.ireturn, 1) := by decide +kernel
theorem dX11_pay_20 : decode cX11_pay 20 = .ok (.aload_n 0, 1) := by decide +kernel
theorem dX11_pay_21 : decode cX11_pay 21 = .ok (.getfield 53, 3) := by decide +kernel
theorem dX11_pay_24 : decode cX11_pay 24 = .ok (.iload_n 1, 1) := by decide +kernel
theorem dX11_pay_25 : decode cX11_pay 25 = .ok (.invokevirtual 312, 3) := by decide +kernel
theorem dX11_pay_28 : decode cX11_pay 28 = .ok (.ifCond .eq 6, 3) := by decide +kernel
theorem dX11_pay_31 : decode cX11_pay 31 = .ok (.bipush (-12), 2) := by decide +kernel
theorem dX11_pay_33 : decode cX11_pay 33 = .ok (.ireturn, 1) := by decide +kernel
theorem dX11_pay_34 : decode cX11_pay 34 = .ok (.aload_n 0, 1) := by decide +kernel
theorem dX11_pay_35 : decode cX11_pay 35 = .ok (.getfield 53, 3) := by decide +kernel
theorem dX11_pay_38 : decode cX11_pay 38 = .ok (.getfield 315, 3) := by decide +kernel
theorem dX11_pay_41 : decode cX11_pay 41 = .ok (.iload_n 1, 1) := by decide +kernel
theorem dX11_pay_42 : decode cX11_pay 42 = .ok (.aaload, 1) := by decide +kernel
theorem dX11_pay_43 : decode cX11_pay 43 = .ok (.astore_n 3, 1) := by decide +kernel
theorem dX11_pay_44 : decode cX11_pay 44 = .ok (.aload_n 0, 1) := by decide +kernel
theorem dX11_pay_45 : decode cX11_pay 45 = .ok (.getfield 11, 3) := by decide +kernel
theorem dX11_pay_48 : decode cX11_pay 48 = .ok (.aload_n 3, 1) := by decide +kernel
theorem dX11_pay_49 : decode cX11_pay 49 = .ok (.getfield 319, 3) := by decide +kernel
theorem dX11_pay_52 : decode cX11_pay 52 = .ok (.aaload, 1) := by decide +kernel
theorem dX11_pay_53 : decode cX11_pay 53 = .ok (.astore 4, 2) := by decide +kernel
theorem dX11_pay_55 : decode cX11_pay 55 = .ok (.aload_n 0, 1) := by decide +kernel
theorem dX11_pay_56 : decode cX11_pay 56 = .ok (.getfield 11, 3) := by decide +kernel
theorem dX11_pay_59 : decode cX11_pay 59 = .ok (.aload_n 3, 1) := by decide +kernel
theorem dX11_pay_60 : decode cX11_pay 60 = .ok (.getfield 324, 3) := by decide +kernel
theorem dX11_pay_63 : decode cX11_pay 63 = .ok (.aaload, 1) := by decide +kernel
theorem dX11_pay_64 : decode cX11_pay 64 = .ok (.astore 5, 2) := by decide +kernel
theorem dX11_pay_66 : decode cX11_pay 66 = .ok (.aload_n 3, 1) := by decide +kernel
theorem dX11_pay_67 : decode cX11_pay 67 = .ok (.invokevirtual 327, 3) := by decide +kernel
theorem dX11_pay_70 : decode cX11_pay 70 = .ok (.ifCond .ne 41, 3) := by decide +kernel
theorem dX11_pay_73 : decode cX11_pay 73 = .ok (.aload 4, 2) := by decide +kernel
theorem dX11_pay_75 : decode cX11_pay 75 = .ok (.getfield 116, 3) := by decide +kernel
theorem dX11_pay_78 : decode cX11_pay 78 = .ok (.aload_n 3, 1) := by decide +kernel
theorem dX11_pay_79 : decode cX11_pay 79 = .ok (.getfield 330, 3) := by decide +kernel
theorem dX11_pay_82 : decode cX11_pay 82 = .ok (.if_icmp .lt 29, 3) := by decide +kernel
theorem dX11_pay_85 : decode cX11_pay 85 = .ok (.aload 5, 2) := by decide +kernel
theorem dX11_pay_87 : decode cX11_pay 87 = .ok (.getfield 116, 3) := by decide +kernel
theorem dX11_pay_90 : decode cX11_pay 90 = .ok (.aload_n 3, 1) := by decide +kernel
theorem dX11_pay_91 : decode cX11_pay 91 = .ok (.getfield 330, 3) := by decide +kernel
theorem dX11_pay_94 : decode cX11_pay 94 = .ok (.iadd, 1) := by decide +kernel
theorem dX11_pay_95 : decode cX11_pay 95 = .ok (.sipush 9999, 3) := by decide +kernel
theorem dX11_pay_98 : decode cX11_pay 98 = .ok (.if_icmp .gt 13, 3) := by decide +kernel
theorem dX11_pay_101 : decode cX11_pay 101 = .ok (.aload_n 0, 1) := by decide +kernel
theorem dX11_pay_102 : decode cX11_pay 102 = .ok (.getfield 92, 3) := by decide +kernel
theorem dX11_pay_105 : decode cX11_pay 105 = .ok (.invokevirtual 104, 3) := by decide +kernel
theorem dX11_pay_108 : decode cX11_pay 108 = .ok (.ifCond .eq 6, 3) := by decide +kernel
theorem dX11_pay_111 : decode cX11_pay 111 = .ok (.bipush (-2), 2) := by decide +kernel
theorem dX11_pay_113 : decode cX11_pay 113 = .ok (.ireturn, 1) := by decide +kernel
theorem dX11_pay_114 : decode cX11_pay 114 = .ok (.aload 4, 2) := by decide +kernel
theorem dX11_pay_116 : decode cX11_pay 116 = .ok (.dup, 1) := by decide +kernel
theorem dX11_pay_117 : decode cX11_pay 117 = .ok (.getfield 116, 3) := by decide +kernel
theorem dX11_pay_120 : decode cX11_pay 120 = .ok (.aload_n 3, 1) := by decide +kernel
theorem dX11_pay_121 : decode cX11_pay 121 = .ok (.getfield 330, 3) := by decide +kernel
theorem dX11_pay_124 : decode cX11_pay 124 = .ok (.isub, 1) := by decide +kernel
theorem dX11_pay_125 : decode cX11_pay 125 = .ok (.putfield 116, 3) := by decide +kernel
theorem dX11_pay_128 : decode cX11_pay 128 = .ok (.aload 5, 2) := by decide +kernel
theorem dX11_pay_130 : decode cX11_pay 130 = .ok (.dup, 1) := by decide +kernel
theorem dX11_pay_131 : decode cX11_pay 131 = .ok (.getfield 116, 3) := by decide +kernel
theorem dX11_pay_134 : decode cX11_pay 134 = .ok (.aload_n 3, 1) := by decide +kernel
theorem dX11_pay_135 : decode cX11_pay 135 = .ok (.getfield 330, 3) := by decide +kernel
theorem dX11_pay_138 : decode cX11_pay 138 = .ok (.iadd, 1) := by decide +kernel
theorem dX11_pay_139 : decode cX11_pay 139 = .ok (.putfield 116, 3) := by decide +kernel
theorem dX11_pay_142 : decode cX11_pay 142 = .ok (.aload_n 3, 1) := by decide +kernel
theorem dX11_pay_143 : decode cX11_pay 143 = .ok (.iload_n 2, 1) := by decide +kernel
theorem dX11_pay_144 : decode cX11_pay 144 = .ok (.putfield 331, 3) := by decide +kernel
theorem dX11_pay_147 : decode cX11_pay 147 = .ok (.aload 5, 2) := by decide +kernel
theorem dX11_pay_149 : decode cX11_pay 149 = .ok (.getfield 116, 3) := by decide +kernel
theorem dX11_pay_152 : decode cX11_pay 152 = .ok (.ireturn, 1) := by decide +kernel
theorem dX11_state_0 : decode cX11_state 0 = .ok (.aload_n 0, 1) := by decide +kernel
theorem dX11_state_1 : decode cX11_state 1 = .ok (.getfield 53, 3) := by decide +kernel
theorem dX11_state_4 : decode cX11_state 4 = .ok (.iload_n 1, 1) := by decide +kernel
theorem dX11_state_5 : decode cX11_state 5 = .ok (.invokevirtual 303, 3) := by decide +kernel
theorem dX11_state_8 : decode cX11_state 8 = .ok (.ifCond .eq 10, 3) := by decide +kernel
theorem dX11_state_11 : decode cX11_state 11 = .ok (.iload_n 2, 1) := by decide +kernel
theorem dX11_state_12 : decode cX11_state 12 = .ok (.invokestatic 294, 3) := by decide +kernel
theorem dX11_state_15 : decode cX11_state 15 = .ok (.ifCond .ne 5, 3) := by decide +kernel
theorem dX11_state_18 : decode cX11_state 18 = .ok (.iconst (-1), 1) := by decide +kernel
theorem dX11_state_19 : decode cX11_state 19 = .ok (.ireturn, 1) := by decide +kernel
theorem dX11_state_20 : decode cX11_state 20 = .ok (.aload_n 0, 1) := by decide +kernel
theorem dX11_state_21 : decode cX11_state 21 = .ok (.getfield 53, 3) := by decide +kernel
theorem dX11_state_24 : decode cX11_state 24 = .ok (.iload_n 2, 1) := by decide +kernel
theorem dX11_state_25 : decode cX11_state 25 = .ok (.invokevirtual 334, 3) := by decide +kernel
theorem dX11_state_28 : decode cX11_state 28 = .ok (.aload_n 0, 1) := by decide +kernel
theorem dX11_state_29 : decode cX11_state 29 = .ok (.getfield 53, 3) := by decide +kernel
theorem dX11_state_32 : decode cX11_state 32 = .ok (.iload_n 1, 1) := by decide +kernel
theorem dX11_state_33 : decode cX11_state 33 = .ok (.iload_n 2, 1) := by decide +kernel
theorem dX11_state_34 : decode cX11_state 34 = .ok (.invokevirtual 337, 3) := by decide +kernel
theorem dX11_state_37 : decode cX11_state 37 = .ok (.ireturn, 1) := by decide +kernel
theorem dX11_end_0 : decode cX11_end 0 = .ok (.aload_n 0, 1) := by decide +kernel
theorem dX11_end_1 : decode cX11_end 1 = .ok (.getfield 53, 3) := by decide +kernel
theorem dX11_end_4 : decode cX11_end 4 = .ok (.iload_n 1, 1) := by decide +kernel
theorem dX11_end_5 : decode cX11_end 5 = .ok (.invokevirtual 303, 3) := by decide +kernel
theorem dX11_end_8 : decode cX11_end 8 = .ok (.ifCond .eq 10, 3) := by decide +kernel
theorem dX11_end_11 : decode cX11_end 11 = .ok (.iload_n 2, 1) := by decide +kernel
theorem dX11_end_12 : decode cX11_end 12 = .ok (.invokestatic 294, 3) := by decide +kernel
theorem dX11_end_15 : decode cX11_end 15 = .ok (.ifCond .ne 5, 3) := by decide +kernel
theorem dX11_end_18 : decode cX11_end 18 = .ok (.iconst (-1), 1) := by decide +kernel
theorem dX11_end_19 : decode cX11_end 19 = .ok (.ireturn, 1) := by decide +kernel
theorem dX11_end_20 : decode cX11_end 20 = .ok (.aload_n 0, 1) := by decide +kernel
theorem dX11_end_21 : decode cX11_end 21 = .ok (.getfield 53, 3) := by decide +kernel
theorem dX11_end_24 : decode cX11_end 24 = .ok (.iload_n 1, 1) := by decide +kernel
theorem dX11_end_25 : decode cX11_end 25 = .ok (.invokevirtual 312, 3) := by decide +kernel
theorem dX11_end_28 : decode cX11_end 28 = .ok (.ifCond .eq 6, 3) := by decide +kernel
theorem dX11_end_31 : decode cX11_end 31 = .ok (.bipush (-12), 2) := by decide +kernel
theorem dX11_end_33 : decode cX11_end 33 = .ok (.ireturn, 1) := by decide +kernel
theorem dX11_end_34 : decode cX11_end 34 = .ok (.aload_n 0, 1) := by decide +kernel
theorem dX11_end_35 : decode cX11_end 35 = .ok (.getfield 53, 3) := by decide +kernel
theorem dX11_end_38 : decode cX11_end 38 = .ok (.iload_n 2, 1) := by decide +kernel
theorem dX11_end_39 : decode cX11_end 39 = .ok (.invokevirtual 334, 3) := by decide +kernel
theorem dX11_end_42 : decode cX11_end 42 = .ok (.aload_n 0, 1) := by decide +kernel
theorem dX11_end_43 : decode cX11_end 43 = .ok (.getfield 53, 3) := by decide +kernel
theorem dX11_end_46 : decode cX11_end 46 = .ok (.getfield 340, 3) := by decide +kernel
theorem dX11_end_49 : decode cX11_end 49 = .ok (.iload_n 1, 1) := by decide +kernel
theorem dX11_end_50 : decode cX11_end 50 = .ok (.iaload, 1) := by decide +kernel
theorem dX11_end_51 : decode cX11_end 51 = .ok (.ireturn, 1) := by decide +kernel
theorem dX11_owes_0 : decode cX11_owes 0 = .ok (.iload_n 1, 1) := by decide +kernel
theorem dX11_owes_1 : decode cX11_owes 1 = .ok (.invokestatic 101, 3) := by decide +kernel
theorem dX11_owes_4 : decode cX11_owes 4 = .ok (.ifCond .eq 10, 3) := by decide +kernel
theorem dX11_owes_7 : decode cX11_owes 7 = .ok (.iload_n 2, 1) := by decide +kernel
theorem dX11_owes_8 : decode cX11_owes 8 = .ok (.invokestatic 294, 3) := by decide +kernel
theorem dX11_owes_11 : decode cX11_owes 11 = .ok (.ifCond .ne 5, 3) := by decide +kernel
theorem dX11_owes_14 : decode cX11_owes 14 = .ok (.iconst (-1), 1) := by decide +kernel
theorem dX11_owes_15 : decode cX11_owes 15 = .ok (.ireturn, 1) := by decide +kernel
theorem dX11_owes_16 : decode cX11_owes 16 = .ok (.aload_n 0, 1) := by decide +kernel
theorem dX11_owes_17 : decode cX11_owes 17 = .ok (.getfield 53, 3) := by decide +kernel
theorem dX11_owes_20 : decode cX11_owes 20 = .ok (.iload_n 2, 1) := by decide +kernel
theorem dX11_owes_21 : decode cX11_owes 21 = .ok (.invokevirtual 334, 3) := by decide +kernel
theorem dX11_owes_24 : decode cX11_owes 24 = .ok (.aload_n 0, 1) := by decide +kernel
theorem dX11_owes_25 : decode cX11_owes 25 = .ok (.getfield 53, 3) := by decide +kernel
theorem dX11_owes_28 : decode cX11_owes 28 = .ok (.iload_n 1, 1) := by decide +kernel
theorem dX11_owes_29 : decode cX11_owes 29 = .ok (.iload_n 2, 1) := by decide +kernel
theorem dX11_owes_30 : decode cX11_owes 30 = .ok (.invokevirtual 343, 3) := by decide +kernel
theorem dX11_owes_33 : decode cX11_owes 33 = .ok (.ireturn, 1) := by decide +kernel
theorem dX11_row_0 : decode cX11_row 0 = .ok (.iload_n 1, 1) := by decide +kernel
theorem dX11_row_1 : decode cX11_row 1 = .ok (.iconst 0, 1) := by decide +kernel
theorem dX11_row_2 : decode cX11_row 2 = .ok (.bipush 7, 2) := by decide +kernel
theorem dX11_row_4 : decode cX11_row 4 = .ok (.invokestatic 112, 3) := by decide +kernel
theorem dX11_row_7 : decode cX11_row 7 = .ok (.ifCond .eq 14, 3) := by decide +kernel
theorem dX11_row_10 : decode cX11_row 10 = .ok (.iload_n 2, 1) := by decide +kernel
theorem dX11_row_11 : decode cX11_row 11 = .ok (.iconst 0, 1) := by decide +kernel
theorem dX11_row_12 : decode cX11_row 12 = .ok (.sipush 999, 3) := by decide +kernel
theorem dX11_row_15 : decode cX11_row 15 = .ok (.invokestatic 112, 3) := by decide +kernel
theorem dX11_row_18 : decode cX11_row 18 = .ok (.ifCond .ne 5, 3) := by decide +kernel
theorem dX11_row_21 : decode cX11_row 21 = .ok (.iconst (-1), 1) := by decide +kernel
theorem dX11_row_22 : decode cX11_row 22 = .ok (.ireturn, 1) := by decide +kernel
theorem dX11_row_23 : decode cX11_row 23 = .ok (.aload_n 0, 1) := by decide +kernel
theorem dX11_row_24 : decode cX11_row 24 = .ok (.getfield 60, 3) := by decide +kernel
theorem dX11_row_27 : decode cX11_row 27 = .ok (.iload_n 1, 1) := by decide +kernel
theorem dX11_row_28 : decode cX11_row 28 = .ok (.iload_n 2, 1) := by decide +kernel
theorem dX11_row_29 : decode cX11_row 29 = .ok (.invokevirtual 346, 3) := by decide +kernel
theorem dX11_row_32 : decode cX11_row 32 = .ok (.ireturn, 1) := by decide +kernel
theorem dX11_root_0 : decode cX11_root 0 = .ok (.aload_n 0, 1) := by decide +kernel
theorem dX11_root_1 : decode cX11_root 1 = .ok (.getfield 60, 3) := by decide +kernel
theorem dX11_root_4 : decode cX11_root 4 = .ok (.getfield 349, 3) := by decide +kernel
theorem dX11_root_7 : decode cX11_root 7 = .ok (.iconst 1, 1) := by decide +kernel
theorem dX11_root_8 : decode cX11_root 8 = .ok (.iaload, 1) := by decide +kernel
theorem dX11_root_9 : decode cX11_root 9 = .ok (.ireturn, 1) := by decide +kernel
theorem dX11_proof_0 : decode cX11_proof 0 = .ok (.iload_n 1, 1) := by decide +kernel
theorem dX11_proof_1 : decode cX11_proof 1 = .ok (.iconst 0, 1) := by decide +kernel
theorem dX11_proof_2 : decode cX11_proof 2 = .ok (.bipush 7, 2) := by decide +kernel
theorem dX11_proof_4 : decode cX11_proof 4 = .ok (.invokestatic 112, 3) := by decide +kernel
theorem dX11_proof_7 : decode cX11_proof 7 = .ok (.ifCond .eq 12, 3) := by decide +kernel
theorem dX11_proof_10 : decode cX11_proof 10 = .ok (.iload_n 2, 1) := by decide +kernel
theorem dX11_proof_11 : decode cX11_proof 11 = .ok (.iconst 0, 1) := by decide +kernel
theorem dX11_proof_12 : decode cX11_proof 12 = .ok (.iconst 2, 1) := by decide +kernel
theorem dX11_proof_13 : decode cX11_proof 13 = .ok (.invokestatic 112, 3) := by decide +kernel
theorem dX11_proof_16 : decode cX11_proof 16 = .ok (.ifCond .ne 5, 3) := by decide +kernel
theorem dX11_proof_19 : decode cX11_proof 19 = .ok (.iconst (-1), 1) := by decide +kernel
theorem dX11_proof_20 : decode cX11_proof 20 = .ok (.ireturn, 1) := by decide +kernel
theorem dX11_proof_21 : decode cX11_proof 21 = .ok (.aload_n 0, 1) := by decide +kernel
theorem dX11_proof_22 : decode cX11_proof 22 = .ok (.getfield 60, 3) := by decide +kernel
theorem dX11_proof_25 : decode cX11_proof 25 = .ok (.iload_n 1, 1) := by decide +kernel
theorem dX11_proof_26 : decode cX11_proof 26 = .ok (.iload_n 2, 1) := by decide +kernel
theorem dX11_proof_27 : decode cX11_proof 27 = .ok (.invokevirtual 352, 3) := by decide +kernel
theorem dX11_proof_30 : decode cX11_proof 30 = .ok (.ireturn, 1) := by decide +kernel
theorem dX11_proves_0 : decode cX11_proves 0 = .ok (.iload_n 1, 1) := by decide +kernel
theorem dX11_proves_1 : decode cX11_proves 1 = .ok (.iconst 0, 1) := by decide +kernel
theorem dX11_proves_2 : decode cX11_proves 2 = .ok (.bipush 7, 2) := by decide +kernel
theorem dX11_proves_4 : decode cX11_proves 4 = .ok (.invokestatic 112, 3) := by decide +kernel
theorem dX11_proves_7 : decode cX11_proves 7 = .ok (.ifCond .eq 33, 3) := by decide +kernel
theorem dX11_proves_10 : decode cX11_proves 10 = .ok (.iload_n 2, 1) := by decide +kernel
theorem dX11_proves_11 : decode cX11_proves 11 = .ok (.invokestatic 355, 3) := by decide +kernel
theorem dX11_proves_14 : decode cX11_proves 14 = .ok (.ifCond .eq 26, 3) := by decide +kernel
theorem dX11_proves_17 : decode cX11_proves 17 = .ok (.iload_n 3, 1) := by decide +kernel
theorem dX11_proves_18 : decode cX11_proves 18 = .ok (.invokestatic 355, 3) := by decide +kernel
theorem dX11_proves_21 : decode cX11_proves 21 = .ok (.ifCond .eq 19, 3) := by decide +kernel
theorem dX11_proves_24 : decode cX11_proves 24 = .ok (.iload 4, 2) := by decide +kernel
theorem dX11_proves_26 : decode cX11_proves 26 = .ok (.invokestatic 355, 3) := by decide +kernel
theorem dX11_proves_29 : decode cX11_proves 29 = .ok (.ifCond .eq 11, 3) := by decide +kernel
theorem dX11_proves_32 : decode cX11_proves 32 = .ok (.iload 5, 2) := by decide +kernel
theorem dX11_proves_34 : decode cX11_proves 34 = .ok (.invokestatic 355, 3) := by decide +kernel
theorem dX11_proves_37 : decode cX11_proves 37 = .ok (.ifCond .ne 5, 3) := by decide +kernel
theorem dX11_proves_40 : decode cX11_proves 40 = .ok (.iconst (-1), 1) := by decide +kernel
theorem dX11_proves_41 : decode cX11_proves 41 = .ok (.ireturn, 1) := by decide +kernel
theorem dX11_proves_42 : decode cX11_proves 42 = .ok (.iload_n 1, 1) := by decide +kernel
theorem dX11_proves_43 : decode cX11_proves 43 = .ok (.iload_n 2, 1) := by decide +kernel
theorem dX11_proves_44 : decode cX11_proves 44 = .ok (.iload_n 3, 1) := by decide +kernel
theorem dX11_proves_45 : decode cX11_proves 45 = .ok (.invokestatic 358, 3) := by decide +kernel
theorem dX11_proves_48 : decode cX11_proves 48 = .ok (.istore 6, 2) := by decide +kernel
theorem dX11_proves_50 : decode cX11_proves 50 = .ok (.iload_n 1, 1) := by decide +kernel
theorem dX11_proves_51 : decode cX11_proves 51 = .ok (.iconst 1, 1) := by decide +kernel
theorem dX11_proves_52 : decode cX11_proves 52 = .ok (.ishr, 1) := by decide +kernel
theorem dX11_proves_53 : decode cX11_proves 53 = .ok (.iload 6, 2) := by decide +kernel
theorem dX11_proves_55 : decode cX11_proves 55 = .ok (.iload 4, 2) := by decide +kernel
theorem dX11_proves_57 : decode cX11_proves 57 = .ok (.invokestatic 358, 3) := by decide +kernel
theorem dX11_proves_60 : decode cX11_proves 60 = .ok (.istore 6, 2) := by decide +kernel
theorem dX11_proves_62 : decode cX11_proves 62 = .ok (.iload_n 1, 1) := by decide +kernel
theorem dX11_proves_63 : decode cX11_proves 63 = .ok (.iconst 2, 1) := by decide +kernel
theorem dX11_proves_64 : decode cX11_proves 64 = .ok (.ishr, 1) := by decide +kernel
theorem dX11_proves_65 : decode cX11_proves 65 = .ok (.iload 6, 2) := by decide +kernel
theorem dX11_proves_67 : decode cX11_proves 67 = .ok (.iload 5, 2) := by decide +kernel
theorem dX11_proves_69 : decode cX11_proves 69 = .ok (.invokestatic 358, 3) := by decide +kernel
theorem dX11_proves_72 : decode cX11_proves 72 = .ok (.istore 6, 2) := by decide +kernel
theorem dX11_proves_74 : decode cX11_proves 74 = .ok (.iload 6, 2) := by decide +kernel
theorem dX11_proves_76 : decode cX11_proves 76 = .ok (.aload_n 0, 1) := by decide +kernel
theorem dX11_proves_77 : decode cX11_proves 77 = .ok (.getfield 60, 3) := by decide +kernel
theorem dX11_proves_80 : decode cX11_proves 80 = .ok (.getfield 349, 3) := by decide +kernel
theorem dX11_proves_83 : decode cX11_proves 83 = .ok (.iconst 1, 1) := by decide +kernel
theorem dX11_proves_84 : decode cX11_proves 84 = .ok (.iaload, 1) := by decide +kernel
theorem dX11_proves_85 : decode cX11_proves 85 = .ok (.if_icmp .ne 7, 3) := by decide +kernel
theorem dX11_proves_88 : decode cX11_proves 88 = .ok (.iconst 1, 1) := by decide +kernel
theorem dX11_proves_89 : decode cX11_proves 89 = .ok (.goto 4, 3) := by decide +kernel
theorem dX11_proves_92 : decode cX11_proves 92 = .ok (.iconst 0, 1) := by decide +kernel
theorem dX11_proves_93 : decode cX11_proves 93 = .ok (.invokestatic 148, 3) := by decide +kernel
theorem dX11_proves_96 : decode cX11_proves 96 = .ok (.ireturn, 1) := by decide +kernel
theorem dX11_sheet_0 : decode cX11_sheet 0 = .ok (.iload_n 1, 1) := by decide +kernel
theorem dX11_sheet_1 : decode cX11_sheet 1 = .ok (.invokestatic 361, 3) := by decide +kernel
theorem dX11_sheet_4 : decode cX11_sheet 4 = .ok (.ifCond .eq 16, 3) := by decide +kernel
theorem dX11_sheet_7 : decode cX11_sheet 7 = .ok (.iload_n 2, 1) := by decide +kernel
theorem dX11_sheet_8 : decode cX11_sheet 8 = .ok (.invokestatic 364, 3) := by decide +kernel
theorem dX11_sheet_11 : decode cX11_sheet 11 = .ok (.ifCond .eq 9, 3) := by decide +kernel
theorem dX11_sheet_14 : decode cX11_sheet 14 = .ok (.iload_n 3, 1) := by decide +kernel
theorem dX11_sheet_15 : decode cX11_sheet 15 = .ok (.bipush 12, 2) := by decide +kernel
theorem dX11_sheet_17 : decode cX11_sheet 17 = .ok (.if_icmp .le 5, 3) := by decide +kernel
theorem dX11_sheet_20 : decode cX11_sheet 20 = .ok (.iconst (-1), 1) := by decide +kernel
theorem dX11_sheet_21 : decode cX11_sheet 21 = .ok (.ireturn, 1) := by decide +kernel
theorem dX11_sheet_22 : decode cX11_sheet 22 = .ok (.iload_n 3, 1) := by decide +kernel
theorem dX11_sheet_23 : decode cX11_sheet 23 = .ok (.ifCond .ge 6, 3) := by decide +kernel
theorem dX11_sheet_26 : decode cX11_sheet 26 = .ok (.bipush (-14), 2) := by decide +kernel
theorem dX11_sheet_28 : decode cX11_sheet 28 = .ok (.ireturn, 1) := by decide +kernel
theorem dX11_sheet_29 : decode cX11_sheet 29 = .ok (.aload_n 0, 1) := by decide +kernel
theorem dX11_sheet_30 : decode cX11_sheet 30 = .ok (.getfield 66, 3) := by decide +kernel
theorem dX11_sheet_33 : decode cX11_sheet 33 = .ok (.iload_n 1, 1) := by decide +kernel
theorem dX11_sheet_34 : decode cX11_sheet 34 = .ok (.aaload, 1) := by decide +kernel
theorem dX11_sheet_35 : decode cX11_sheet 35 = .ok (.iload_n 2, 1) := by decide +kernel
theorem dX11_sheet_36 : decode cX11_sheet 36 = .ok (.iload_n 3, 1) := by decide +kernel
theorem dX11_sheet_37 : decode cX11_sheet 37 = .ok (.invokevirtual 367, 3) := by decide +kernel
theorem dX11_sheet_40 : decode cX11_sheet 40 = .ok (.iload_n 3, 1) := by decide +kernel
theorem dX11_sheet_41 : decode cX11_sheet 41 = .ok (.ireturn, 1) := by decide +kernel
theorem dX11_drop_0 : decode cX11_drop 0 = .ok (.iload_n 1, 1) := by decide +kernel
theorem dX11_drop_1 : decode cX11_drop 1 = .ok (.invokestatic 361, 3) := by decide +kernel
theorem dX11_drop_4 : decode cX11_drop 4 = .ok (.ifCond .ne 5, 3) := by decide +kernel
theorem dX11_drop_7 : decode cX11_drop 7 = .ok (.iconst (-1), 1) := by decide +kernel
theorem dX11_drop_8 : decode cX11_drop 8 = .ok (.ireturn, 1) := by decide +kernel
theorem dX11_drop_9 : decode cX11_drop 9 = .ok (.aload_n 0, 1) := by decide +kernel
theorem dX11_drop_10 : decode cX11_drop 10 = .ok (.getfield 66, 3) := by decide +kernel
theorem dX11_drop_13 : decode cX11_drop 13 = .ok (.iload_n 1, 1) := by decide +kernel
theorem dX11_drop_14 : decode cX11_drop 14 = .ok (.aaload, 1) := by decide +kernel
theorem dX11_drop_15 : decode cX11_drop 15 = .ok (.invokevirtual 371, 3) := by decide +kernel
theorem dX11_drop_18 : decode cX11_drop 18 = .ok (.ifCond .eq 6, 3) := by decide +kernel
theorem dX11_drop_21 : decode cX11_drop 21 = .ok (.bipush (-11), 2) := by decide +kernel
theorem dX11_drop_23 : decode cX11_drop 23 = .ok (.ireturn, 1) := by decide +kernel
theorem dX11_drop_24 : decode cX11_drop 24 = .ok (.aload_n 0, 1) := by decide +kernel
theorem dX11_drop_25 : decode cX11_drop 25 = .ok (.getfield 66, 3) := by decide +kernel
theorem dX11_drop_28 : decode cX11_drop 28 = .ok (.iload_n 1, 1) := by decide +kernel
theorem dX11_drop_29 : decode cX11_drop 29 = .ok (.aaload, 1) := by decide +kernel
theorem dX11_drop_30 : decode cX11_drop 30 = .ok (.invokevirtual 374, 3) := by decide +kernel
theorem dX11_drop_33 : decode cX11_drop 33 = .ok (.ireturn, 1) := by decide +kernel
theorem dX11_item_0 : decode cX11_item 0 = .ok (.iload_n 1, 1) := by decide +kernel
theorem dX11_item_1 : decode cX11_item 1 = .ok (.invokestatic 361, 3) := by decide +kernel
theorem dX11_item_4 : decode cX11_item 4 = .ok (.ifCond .eq 10, 3) := by decide +kernel
theorem dX11_item_7 : decode cX11_item 7 = .ok (.iload_n 2, 1) := by decide +kernel
theorem dX11_item_8 : decode cX11_item 8 = .ok (.invokestatic 364, 3) := by decide +kernel
theorem dX11_item_11 : decode cX11_item 11 = .ok (.ifCond .ne 5, 3) := by decide +kernel
theorem dX11_item_14 : decode cX11_item 14 = .ok (.iconst (-1), 1) := by decide +kernel
theorem dX11_item_15 : decode cX11_item 15 = .ok (.ireturn, 1) := by decide +kernel
theorem dX11_item_16 : decode cX11_item 16 = .ok (.aload_n 0, 1) := by decide +kernel
theorem dX11_item_17 : decode cX11_item 17 = .ok (.getfield 66, 3) := by decide +kernel
theorem dX11_item_20 : decode cX11_item 20 = .ok (.iload_n 1, 1) := by decide +kernel
theorem dX11_item_21 : decode cX11_item 21 = .ok (.aaload, 1) := by decide +kernel
theorem dX11_item_22 : decode cX11_item 22 = .ok (.iload_n 2, 1) := by decide +kernel
theorem dX11_item_23 : decode cX11_item 23 = .ok (.iload_n 3, 1) := by decide +kernel
theorem dX11_item_24 : decode cX11_item 24 = .ok (.iconst 1, 1) := by decide +kernel
theorem dX11_item_25 : decode cX11_item 25 = .ok (.invokevirtual 377, 3) := by decide +kernel
theorem dX11_item_28 : decode cX11_item 28 = .ok (.istore 5, 2) := by decide +kernel
theorem dX11_item_30 : decode cX11_item 30 = .ok (.iload 5, 2) := by decide +kernel
theorem dX11_item_32 : decode cX11_item 32 = .ok (.ifCond .ge 6, 3) := by decide +kernel
theorem dX11_item_35 : decode cX11_item 35 = .ok (.iload 5, 2) := by decide +kernel
theorem dX11_item_37 : decode cX11_item 37 = .ok (.ireturn, 1) := by decide +kernel
theorem dX11_item_38 : decode cX11_item 38 = .ok (.aload_n 0, 1) := by decide +kernel
theorem dX11_item_39 : decode cX11_item 39 = .ok (.getfield 66, 3) := by decide +kernel
theorem dX11_item_42 : decode cX11_item 42 = .ok (.iload_n 1, 1) := by decide +kernel
theorem dX11_item_43 : decode cX11_item 43 = .ok (.aaload, 1) := by decide +kernel
theorem dX11_item_44 : decode cX11_item 44 = .ok (.iload_n 3, 1) := by decide +kernel
theorem dX11_item_45 : decode cX11_item 45 = .ok (.iload 4, 2) := by decide +kernel
theorem dX11_item_47 : decode cX11_item 47 = .ok (.invokevirtual 380, 3) := by decide +kernel
theorem dX11_item_50 : decode cX11_item 50 = .ok (.iconst 1, 1) := by decide +kernel
theorem dX11_item_51 : decode cX11_item 51 = .ok (.ireturn, 1) := by decide +kernel
theorem dX11_wishes_0 : decode cX11_wishes 0 = .ok (.iload_n 1, 1) := by decide +kernel
theorem dX11_wishes_1 : decode cX11_wishes 1 = .ok (.invokestatic 101, 3) := by decide +kernel
theorem dX11_wishes_4 : decode cX11_wishes 4 = .ok (.ifCond .eq 17, 3) := by decide +kernel
theorem dX11_wishes_7 : decode cX11_wishes 7 = .ok (.iload_n 2, 1) := by decide +kernel
theorem dX11_wishes_8 : decode cX11_wishes 8 = .ok (.invokestatic 361, 3) := by decide +kernel
theorem dX11_wishes_11 : decode cX11_wishes 11 = .ok (.ifCond .eq 10, 3) := by decide +kernel
theorem dX11_wishes_14 : decode cX11_wishes 14 = .ok (.iload_n 3, 1) := by decide +kernel
theorem dX11_wishes_15 : decode cX11_wishes 15 = .ok (.invokestatic 364, 3) := by decide +kernel
theorem dX11_wishes_18 : decode cX11_wishes 18 = .ok (.ifCond .ne 5, 3) := by decide +kernel
theorem dX11_wishes_21 : decode cX11_wishes 21 = .ok (.iconst (-1), 1) := by decide +kernel
theorem dX11_wishes_22 : decode cX11_wishes 22 = .ok (.ireturn, 1) := by decide +kernel
theorem dX11_wishes_23 : decode cX11_wishes 23 = .ok (.aload_n 0, 1) := by decide +kernel
theorem dX11_wishes_24 : decode cX11_wishes 24 = .ok (.getfield 92, 3) := by decide +kernel
theorem dX11_wishes_27 : decode cX11_wishes 27 = .ok (.invokevirtual 104, 3) := by decide +kernel
theorem dX11_wishes_30 : decode cX11_wishes 30 = .ok (.ifCond .eq 6, 3) := by decide +kernel
theorem dX11_wishes_33 : decode cX11_wishes 33 = .ok (.bipush (-2), 2) := by decide +kernel
theorem dX11_wishes_35 : decode cX11_wishes 35 = .ok (.ireturn, 1) := by decide +kernel
theorem dX11_wishes_36 : decode cX11_wishes 36 = .ok (.aload_n 0, 1) := by decide +kernel
theorem dX11_wishes_37 : decode cX11_wishes 37 = .ok (.getfield 66, 3) := by decide +kernel
theorem dX11_wishes_40 : decode cX11_wishes 40 = .ok (.iload_n 2, 1) := by decide +kernel
theorem dX11_wishes_41 : decode cX11_wishes 41 = .ok (.aaload, 1) := by decide +kernel
theorem dX11_wishes_42 : decode cX11_wishes 42 = .ok (.iload_n 3, 1) := by decide +kernel
theorem dX11_wishes_43 : decode cX11_wishes 43 = .ok (.iload 4, 2) := by decide +kernel
theorem dX11_wishes_45 : decode cX11_wishes 45 = .ok (.bipush 6, 2) := by decide +kernel
theorem dX11_wishes_47 : decode cX11_wishes 47 = .ok (.invokevirtual 377, 3) := by decide +kernel
theorem dX11_wishes_50 : decode cX11_wishes 50 = .ok (.istore 5, 2) := by decide +kernel
theorem dX11_wishes_52 : decode cX11_wishes 52 = .ok (.iload 5, 2) := by decide +kernel
theorem dX11_wishes_54 : decode cX11_wishes 54 = .ok (.ifCond .ge 6, 3) := by decide +kernel
theorem dX11_wishes_57 : decode cX11_wishes 57 = .ok (.iload 5, 2) := by decide +kernel
theorem dX11_wishes_59 : decode cX11_wishes 59 = .ok (.ireturn, 1) := by decide +kernel
theorem dX11_wishes_60 : decode cX11_wishes 60 = .ok (.aload_n 0, 1) := by decide +kernel
theorem dX11_wishes_61 : decode cX11_wishes 61 = .ok (.getfield 66, 3) := by decide +kernel
theorem dX11_wishes_64 : decode cX11_wishes 64 = .ok (.iload_n 2, 1) := by decide +kernel
theorem dX11_wishes_65 : decode cX11_wishes 65 = .ok (.aaload, 1) := by decide +kernel
theorem dX11_wishes_66 : decode cX11_wishes 66 = .ok (.iload 4, 2) := by decide +kernel
theorem dX11_wishes_68 : decode cX11_wishes 68 = .ok (.bipush 6, 2) := by decide +kernel
theorem dX11_wishes_70 : decode cX11_wishes 70 = .ok (.bipush 99, 2) := by decide +kernel
theorem dX11_wishes_72 : decode cX11_wishes 72 = .ok (.invokevirtual 382, 3) := by decide +kernel
theorem dX11_wishes_75 : decode cX11_wishes 75 = .ok (.ifCond .ne 6, 3) := by decide +kernel
theorem dX11_wishes_78 : decode cX11_wishes 78 = .ok (.bipush (-2), 2) := by decide +kernel
theorem dX11_wishes_80 : decode cX11_wishes 80 = .ok (.ireturn, 1) := by decide +kernel
theorem dX11_wishes_81 : decode cX11_wishes 81 = .ok (.aload_n 0, 1) := by decide +kernel
theorem dX11_wishes_82 : decode cX11_wishes 82 = .ok (.getfield 11, 3) := by decide +kernel
theorem dX11_wishes_85 : decode cX11_wishes 85 = .ok (.iload_n 1, 1) := by decide +kernel
theorem dX11_wishes_86 : decode cX11_wishes 86 = .ok (.aaload, 1) := by decide +kernel
theorem dX11_wishes_87 : decode cX11_wishes 87 = .ok (.getfield 127, 3) := by decide +kernel
theorem dX11_wishes_90 : decode cX11_wishes 90 = .ok (.aload_n 0, 1) := by decide +kernel
theorem dX11_wishes_91 : decode cX11_wishes 91 = .ok (.getfield 66, 3) := by decide +kernel
theorem dX11_wishes_94 : decode cX11_wishes 94 = .ok (.iload_n 2, 1) := by decide +kernel
theorem dX11_wishes_95 : decode cX11_wishes 95 = .ok (.aaload, 1) := by decide +kernel
theorem dX11_wishes_96 : decode cX11_wishes 96 = .ok (.getfield 385, 3) := by decide +kernel
theorem dX11_wishes_99 : decode cX11_wishes 99 = .ok (.iload 4, 2) := by decide +kernel
theorem dX11_wishes_101 : decode cX11_wishes 101 = .ok (.invokevirtual 388, 3) := by decide +kernel
theorem dX11_wishes_104 : decode cX11_wishes 104 = .ok (.aload_n 0, 1) := by decide +kernel
theorem dX11_wishes_105 : decode cX11_wishes 105 = .ok (.getfield 39, 3) := by decide +kernel
theorem dX11_wishes_108 : decode cX11_wishes 108 = .ok (.iload_n 1, 1) := by decide +kernel
theorem dX11_wishes_109 : decode cX11_wishes 109 = .ok (.invokevirtual 134, 3) := by decide +kernel
theorem dX11_wishes_112 : decode cX11_wishes 112 = .ok (.bipush 6, 2) := by decide +kernel
theorem dX11_wishes_114 : decode cX11_wishes 114 = .ok (.ireturn, 1) := by decide +kernel
theorem dX11_isWithin_0 : decode cX11_isWithin 0 = .ok (.iload_n 0, 1) := by decide +kernel
theorem dX11_isWithin_1 : decode cX11_isWithin 1 = .ok (.iload_n 1, 1) := by decide +kernel
theorem dX11_isWithin_2 : decode cX11_isWithin 2 = .ok (.if_icmp .lt 12, 3) := by decide +kernel
theorem dX11_isWithin_5 : decode cX11_isWithin 5 = .ok (.iload_n 0, 1) := by decide +kernel
theorem dX11_isWithin_6 : decode cX11_isWithin 6 = .ok (.iload_n 2, 1) := by decide +kernel
theorem dX11_isWithin_7 : decode cX11_isWithin 7 = .ok (.if_icmp .gt 7, 3) := by decide +kernel
theorem dX11_isWithin_10 : decode cX11_isWithin 10 = .ok (.iconst 1, 1) := by decide +kernel
theorem dX11_isWithin_11 : decode cX11_isWithin 11 = .ok (.goto 4, 3) := by decide +kernel
theorem dX11_isWithin_14 : decode cX11_isWithin 14 = .ok (.iconst 0, 1) := by decide +kernel
theorem dX11_isWithin_15 : decode cX11_isWithin 15 = .ok (.ireturn, 1) := by decide +kernel
theorem dX11_isHouse_0 : decode cX11_isHouse 0 = .ok (.iload_n 0, 1) := by decide +kernel
theorem dX11_isHouse_1 : decode cX11_isHouse 1 = .ok (.iconst 0, 1) := by decide +kernel
theorem dX11_isHouse_2 : decode cX11_isHouse 2 = .ok (.iconst 3, 1) := by decide +kernel
theorem dX11_isHouse_3 : decode cX11_isHouse 3 = .ok (.invokestatic 112, 3) := by decide +kernel
theorem dX11_isHouse_6 : decode cX11_isHouse 6 = .ok (.ireturn, 1) := by decide +kernel
theorem dX11_isTwoHouses_0 : decode cX11_isTwoHouses 0 = .ok (.iload_n 0, 1) := by decide +kernel
theorem dX11_isTwoHouses_1 : decode cX11_isTwoHouses 1 = .ok (.invokestatic 101, 3) := by decide +kernel
theorem dX11_isTwoHouses_4 : decode cX11_isTwoHouses 4 = .ok (.ifCond .eq 19, 3) := by decide +kernel
theorem dX11_isTwoHouses_7 : decode cX11_isTwoHouses 7 = .ok (.iload_n 1, 1) := by decide +kernel
theorem dX11_isTwoHouses_8 : decode cX11_isTwoHouses 8 = .ok (.invokestatic 101, 3) := by decide +kernel
theorem dX11_isTwoHouses_11 : decode cX11_isTwoHouses 11 = .ok (.ifCond .eq 12, 3) := by decide +kernel
theorem dX11_isTwoHouses_14 : decode cX11_isTwoHouses 14 = .ok (.iload_n 0, 1) := by decide +kernel
theorem dX11_isTwoHouses_15 : decode cX11_isTwoHouses 15 = .ok (.iload_n 1, 1) := by decide +kernel
theorem dX11_isTwoHouses_16 : decode cX11_isTwoHouses 16 = .ok (.if_icmp .eq 7, 3) := by decide +kernel
theorem dX11_isTwoHouses_19 : decode cX11_isTwoHouses 19 = .ok (.iconst 1, 1) := by decide +kernel
theorem dX11_isTwoHouses_20 : decode cX11_isTwoHouses 20 = .ok (.goto 4, 3) := by decide +kernel
theorem dX11_isTwoHouses_23 : decode cX11_isTwoHouses 23 = .ok (.iconst 0, 1) := by decide +kernel
theorem dX11_isTwoHouses_24 : decode cX11_isTwoHouses 24 = .ok (.ireturn, 1) := by decide +kernel
theorem dX11_isThing_0 : decode cX11_isThing 0 = .ok (.iload_n 0, 1) := by decide +kernel
theorem dX11_isThing_1 : decode cX11_isThing 1 = .ok (.iconst 0, 1) := by decide +kernel
theorem dX11_isThing_2 : decode cX11_isThing 2 = .ok (.iconst 5, 1) := by decide +kernel
theorem dX11_isThing_3 : decode cX11_isThing 3 = .ok (.invokestatic 112, 3) := by decide +kernel
theorem dX11_isThing_6 : decode cX11_isThing 6 = .ok (.ireturn, 1) := by decide +kernel
theorem dX11_isSet_0 : decode cX11_isSet 0 = .ok (.iload_n 0, 1) := by decide +kernel
theorem dX11_isSet_1 : decode cX11_isSet 1 = .ok (.iconst 0, 1) := by decide +kernel
theorem dX11_isSet_2 : decode cX11_isSet 2 = .ok (.bipush 63, 2) := by decide +kernel
theorem dX11_isSet_4 : decode cX11_isSet 4 = .ok (.invokestatic 112, 3) := by decide +kernel
theorem dX11_isSet_7 : decode cX11_isSet 7 = .ok (.ireturn, 1) := by decide +kernel
theorem dX11_isPrice_0 : decode cX11_isPrice 0 = .ok (.iload_n 0, 1) := by decide +kernel
theorem dX11_isPrice_1 : decode cX11_isPrice 1 = .ok (.sipush (-999), 3) := by decide +kernel
theorem dX11_isPrice_4 : decode cX11_isPrice 4 = .ok (.sipush 999, 3) := by decide +kernel
theorem dX11_isPrice_7 : decode cX11_isPrice 7 = .ok (.invokestatic 112, 3) := by decide +kernel
theorem dX11_isPrice_10 : decode cX11_isPrice 10 = .ok (.ireturn, 1) := by decide +kernel
theorem dX11_isHour_0 : decode cX11_isHour 0 = .ok (.iload_n 0, 1) := by decide +kernel
theorem dX11_isHour_1 : decode cX11_isHour 1 = .ok (.iconst 0, 1) := by decide +kernel
theorem dX11_isHour_2 : decode cX11_isHour 2 = .ok (.sipush 9999, 3) := by decide +kernel
theorem dX11_isHour_5 : decode cX11_isHour 5 = .ok (.invokestatic 112, 3) := by decide +kernel
theorem dX11_isHour_8 : decode cX11_isHour 8 = .ok (.ireturn, 1) := by decide +kernel
theorem dX11_isEvent_0 : decode cX11_isEvent 0 = .ok (.iload_n 0, 1) := by decide +kernel
theorem dX11_isEvent_1 : decode cX11_isEvent 1 = .ok (.iconst 0, 1) := by decide +kernel
theorem dX11_isEvent_2 : decode cX11_isEvent 2 = .ok (.bipush 9, 2) := by decide +kernel
theorem dX11_isEvent_4 : decode cX11_isEvent 4 = .ok (.invokestatic 112, 3) := by decide +kernel
theorem dX11_isEvent_7 : decode cX11_isEvent 7 = .ok (.ireturn, 1) := by decide +kernel
theorem dX11_isDebt_0 : decode cX11_isDebt 0 = .ok (.iload_n 0, 1) := by decide +kernel
theorem dX11_isDebt_1 : decode cX11_isDebt 1 = .ok (.iload_n 1, 1) := by decide +kernel
theorem dX11_isDebt_2 : decode cX11_isDebt 2 = .ok (.invokestatic 183, 3) := by decide +kernel
theorem dX11_isDebt_5 : decode cX11_isDebt 5 = .ok (.ifCond .eq 18, 3) := by decide +kernel
theorem dX11_isDebt_8 : decode cX11_isDebt 8 = .ok (.iload_n 2, 1) := by decide +kernel
theorem dX11_isDebt_9 : decode cX11_isDebt 9 = .ok (.iconst 1, 1) := by decide +kernel
theorem dX11_isDebt_10 : decode cX11_isDebt 10 = .ok (.sipush 999, 3) := by decide +kernel
theorem dX11_isDebt_13 : decode cX11_isDebt 13 = .ok (.invokestatic 112, 3) := by decide +kernel
theorem dX11_isDebt_16 : decode cX11_isDebt 16 = .ok (.ifCond .eq 7, 3) := by decide +kernel
theorem dX11_isDebt_19 : decode cX11_isDebt 19 = .ok (.iconst 1, 1) := by decide +kernel
theorem dX11_isDebt_20 : decode cX11_isDebt 20 = .ok (.goto 4, 3) := by decide +kernel
theorem dX11_isDebt_23 : decode cX11_isDebt 23 = .ok (.iconst 0, 1) := by decide +kernel
theorem dX11_isDebt_24 : decode cX11_isDebt 24 = .ok (.ireturn, 1) := by decide +kernel
theorem dX11_isSum_0 : decode cX11_isSum 0 = .ok (.iload_n 0, 1) := by decide +kernel
theorem dX11_isSum_1 : decode cX11_isSum 1 = .ok (.iconst 0, 1) := by decide +kernel
theorem dX11_isSum_2 : decode cX11_isSum 2 = .ok (.sipush 9972, 3) := by decide +kernel
theorem dX11_isSum_5 : decode cX11_isSum 5 = .ok (.invokestatic 112, 3) := by decide +kernel
theorem dX11_isSum_8 : decode cX11_isSum 8 = .ok (.ireturn, 1) := by decide +kernel
theorem dX11_isSheet_0 : decode cX11_isSheet 0 = .ok (.iload_n 0, 1) := by decide +kernel
theorem dX11_isSheet_1 : decode cX11_isSheet 1 = .ok (.iconst 0, 1) := by decide +kernel
theorem dX11_isSheet_2 : decode cX11_isSheet 2 = .ok (.iconst 3, 1) := by decide +kernel
theorem dX11_isSheet_3 : decode cX11_isSheet 3 = .ok (.invokestatic 112, 3) := by decide +kernel
theorem dX11_isSheet_6 : decode cX11_isSheet 6 = .ok (.ireturn, 1) := by decide +kernel
theorem dX11_isLane_0 : decode cX11_isLane 0 = .ok (.iload_n 0, 1) := by decide +kernel
theorem dX11_isLane_1 : decode cX11_isLane 1 = .ok (.iconst 0, 1) := by decide +kernel
theorem dX11_isLane_2 : decode cX11_isLane 2 = .ok (.iconst 2, 1) := by decide +kernel
theorem dX11_isLane_3 : decode cX11_isLane 3 = .ok (.invokestatic 112, 3) := by decide +kernel
theorem dX11_isLane_6 : decode cX11_isLane 6 = .ok (.ireturn, 1) := by decide +kernel
theorem dX11_isExchange_0 : decode cX11_isExchange 0 = .ok (.iload_n 1, 1) := by decide +kernel
theorem dX11_isExchange_1 : decode cX11_isExchange 1 = .ok (.iload_n 2, 1) := by decide +kernel
theorem dX11_isExchange_2 : decode cX11_isExchange 2 = .ok (.invokestatic 183, 3) := by decide +kernel
theorem dX11_isExchange_5 : decode cX11_isExchange 5 = .ok (.ifCond .eq 48, 3) := by decide +kernel
theorem dX11_isExchange_8 : decode cX11_isExchange 8 = .ok (.iload_n 3, 1) := by decide +kernel
theorem dX11_isExchange_9 : decode cX11_isExchange 9 = .ok (.invokestatic 138, 3) := by decide +kernel
theorem dX11_isExchange_12 : decode cX11_isExchange 12 = .ok (.ifCond .eq 41, 3) := by decide +kernel
theorem dX11_isExchange_15 : decode cX11_isExchange 15 = .ok (.iload 4, 2) := by decide +kernel
theorem dX11_isExchange_17 : decode cX11_isExchange 17 = .ok (.invokestatic 196, 3) := by decide +kernel
theorem dX11_isExchange_20 : decode cX11_isExchange 20 = .ok (.ifCond .eq 33, 3) := by decide +kernel
theorem dX11_isExchange_23 : decode cX11_isExchange 23 = .ok (.iload_n 3, 1) := by decide +kernel
theorem dX11_isExchange_24 : decode cX11_isExchange 24 = .ok (.aload_n 0, 1) := by decide +kernel
theorem dX11_isExchange_25 : decode cX11_isExchange 25 = .ok (.getfield 11, 3) := by decide +kernel
theorem dX11_isExchange_28 : decode cX11_isExchange 28 = .ok (.iload_n 1, 1) := by decide +kernel
theorem dX11_isExchange_29 : decode cX11_isExchange 29 = .ok (.aaload, 1) := by decide +kernel
theorem dX11_isExchange_30 : decode cX11_isExchange 30 = .ok (.getfield 71, 3) := by decide +kernel
theorem dX11_isExchange_33 : decode cX11_isExchange 33 = .ok (.aload_n 0, 1) := by decide +kernel
theorem dX11_isExchange_34 : decode cX11_isExchange 34 = .ok (.getfield 11, 3) := by decide +kernel
theorem dX11_isExchange_37 : decode cX11_isExchange 37 = .ok (.iload_n 2, 1) := by decide +kernel
theorem dX11_isExchange_38 : decode cX11_isExchange 38 = .ok (.aaload, 1) := by decide +kernel
theorem dX11_isExchange_39 : decode cX11_isExchange 39 = .ok (.getfield 71, 3) := by decide +kernel
theorem dX11_isExchange_42 : decode cX11_isExchange 42 = .ok (.ior, 1) := by decide +kernel
theorem dX11_isExchange_43 : decode cX11_isExchange 43 = .ok (.iconst (-1), 1) := by decide +kernel
theorem dX11_isExchange_44 : decode cX11_isExchange 44 = .ok (.ixor, 1) := by decide +kernel
theorem dX11_isExchange_45 : decode cX11_isExchange 45 = .ok (.iand, 1) := by decide +kernel
theorem dX11_isExchange_46 : decode cX11_isExchange 46 = .ok (.ifCond .ne 7, 3) := by decide +kernel
theorem dX11_isExchange_49 : decode cX11_isExchange 49 = .ok (.iconst 1, 1) := by decide +kernel
theorem dX11_isExchange_50 : decode cX11_isExchange 50 = .ok (.goto 4, 3) := by decide +kernel
theorem dX11_isExchange_53 : decode cX11_isExchange 53 = .ok (.iconst 0, 1) := by decide +kernel
theorem dX11_isExchange_54 : decode cX11_isExchange 54 = .ok (.ireturn, 1) := by decide +kernel
theorem dX11_hasBit_0 : decode cX11_hasBit 0 = .ok (.iload_n 0, 1) := by decide +kernel
theorem dX11_hasBit_1 : decode cX11_hasBit 1 = .ok (.iload_n 1, 1) := by decide +kernel
theorem dX11_hasBit_2 : decode cX11_hasBit 2 = .ok (.ishr, 1) := by decide +kernel
theorem dX11_hasBit_3 : decode cX11_hasBit 3 = .ok (.iconst 1, 1) := by decide +kernel
theorem dX11_hasBit_4 : decode cX11_hasBit 4 = .ok (.iand, 1) := by decide +kernel
theorem dX11_hasBit_5 : decode cX11_hasBit 5 = .ok (.iconst 1, 1) := by decide +kernel
theorem dX11_hasBit_6 : decode cX11_hasBit 6 = .ok (.if_icmp .ne 7, 3) := by decide +kernel
theorem dX11_hasBit_9 : decode cX11_hasBit 9 = .ok (.iconst 1, 1) := by decide +kernel
theorem dX11_hasBit_10 : decode cX11_hasBit 10 = .ok (.goto 4, 3) := by decide +kernel
theorem dX11_hasBit_13 : decode cX11_hasBit 13 = .ok (.iconst 0, 1) := by decide +kernel
theorem dX11_hasBit_14 : decode cX11_hasBit 14 = .ok (.ireturn, 1) := by decide +kernel
theorem dX11_oneIf_0 : decode cX11_oneIf 0 = .ok (.iload_n 0, 1) := by decide +kernel
theorem dX11_oneIf_1 : decode cX11_oneIf 1 = .ok (.ifCond .eq 7, 3) := by decide +kernel
theorem dX11_oneIf_4 : decode cX11_oneIf 4 = .ok (.iconst 1, 1) := by decide +kernel
theorem dX11_oneIf_5 : decode cX11_oneIf 5 = .ok (.goto 4, 3) := by decide +kernel
theorem dX11_oneIf_8 : decode cX11_oneIf 8 = .ok (.iconst 0, 1) := by decide +kernel
theorem dX11_oneIf_9 : decode cX11_oneIf 9 = .ok (.ireturn, 1) := by decide +kernel
theorem dX11_ownerOf_0 : decode cX11_ownerOf 0 = .ok (.iconst 0, 1) := by decide +kernel
theorem dX11_ownerOf_1 : decode cX11_ownerOf 1 = .ok (.istore_n 2, 1) := by decide +kernel
theorem dX11_ownerOf_2 : decode cX11_ownerOf 2 = .ok (.iconst 1, 1) := by decide +kernel
theorem dX11_ownerOf_3 : decode cX11_ownerOf 3 = .ok (.istore_n 3, 1) := by decide +kernel
theorem dX11_ownerOf_4 : decode cX11_ownerOf 4 = .ok (.iload_n 3, 1) := by decide +kernel
theorem dX11_ownerOf_5 : decode cX11_ownerOf 5 = .ok (.iconst 4, 1) := by decide +kernel
theorem dX11_ownerOf_6 : decode cX11_ownerOf 6 = .ok (.if_icmp .ge 27, 3) := by decide +kernel
theorem dX11_ownerOf_9 : decode cX11_ownerOf 9 = .ok (.aload_n 0, 1) := by decide +kernel
theorem dX11_ownerOf_10 : decode cX11_ownerOf 10 = .ok (.getfield 11, 3) := by decide +kernel
theorem dX11_ownerOf_13 : decode cX11_ownerOf 13 = .ok (.iload_n 3, 1) := by decide +kernel
theorem dX11_ownerOf_14 : decode cX11_ownerOf 14 = .ok (.aaload, 1) := by decide +kernel
theorem dX11_ownerOf_15 : decode cX11_ownerOf 15 = .ok (.getfield 71, 3) := by decide +kernel
theorem dX11_ownerOf_18 : decode cX11_ownerOf 18 = .ok (.iload_n 1, 1) := by decide +kernel
theorem dX11_ownerOf_19 : decode cX11_ownerOf 19 = .ok (.invokestatic 392, 3) := by decide +kernel
theorem dX11_ownerOf_22 : decode cX11_ownerOf 22 = .ok (.ifCond .eq 5, 3) := by decide +kernel
theorem dX11_ownerOf_25 : decode cX11_ownerOf 25 = .ok (.iload_n 3, 1) := by decide +kernel
theorem dX11_ownerOf_26 : decode cX11_ownerOf 26 = .ok (.istore_n 2, 1) := by decide +kernel
theorem dX11_ownerOf_27 : decode cX11_ownerOf 27 = .ok (.iinc 3 1, 3) := by decide +kernel
theorem dX11_ownerOf_30 : decode cX11_ownerOf 30 = .ok (.goto (-26), 3) := by decide +kernel
theorem dX11_ownerOf_33 : decode cX11_ownerOf 33 = .ok (.iload_n 2, 1) := by decide +kernel
theorem dX11_ownerOf_34 : decode cX11_ownerOf 34 = .ok (.ireturn, 1) := by decide +kernel
theorem dX11_agree_0 : decode cX11_agree 0 = .ok (.aload_n 0, 1) := by decide +kernel
theorem dX11_agree_1 : decode cX11_agree 1 = .ok (.getfield 92, 3) := by decide +kernel
theorem dX11_agree_4 : decode cX11_agree 4 = .ok (.aload_n 0, 1) := by decide +kernel
theorem dX11_agree_5 : decode cX11_agree 5 = .ok (.getfield 92, 3) := by decide +kernel
theorem dX11_agree_8 : decode cX11_agree 8 = .ok (.getfield 209, 3) := by decide +kernel
theorem dX11_agree_11 : decode cX11_agree 11 = .ok (.iconst 1, 1) := by decide +kernel
theorem dX11_agree_12 : decode cX11_agree 12 = .ok (.isub, 1) := by decide +kernel
theorem dX11_agree_13 : decode cX11_agree 13 = .ok (.invokevirtual 237, 3) := by decide +kernel
theorem dX11_agree_16 : decode cX11_agree 16 = .ok (.istore_n 1, 1) := by decide +kernel
theorem dX11_agree_17 : decode cX11_agree 17 = .ok (.aload_n 0, 1) := by decide +kernel
theorem dX11_agree_18 : decode cX11_agree 18 = .ok (.getfield 92, 3) := by decide +kernel
theorem dX11_agree_21 : decode cX11_agree 21 = .ok (.aload_n 0, 1) := by decide +kernel
theorem dX11_agree_22 : decode cX11_agree 22 = .ok (.getfield 92, 3) := by decide +kernel
theorem dX11_agree_25 : decode cX11_agree 25 = .ok (.getfield 209, 3) := by decide +kernel
theorem dX11_agree_28 : decode cX11_agree 28 = .ok (.iconst 1, 1) := by decide +kernel
theorem dX11_agree_29 : decode cX11_agree 29 = .ok (.isub, 1) := by decide +kernel
theorem dX11_agree_30 : decode cX11_agree 30 = .ok (.invokevirtual 240, 3) := by decide +kernel
theorem dX11_agree_33 : decode cX11_agree 33 = .ok (.istore_n 2, 1) := by decide +kernel
theorem dX11_agree_34 : decode cX11_agree 34 = .ok (.aload_n 0, 1) := by decide +kernel
theorem dX11_agree_35 : decode cX11_agree 35 = .ok (.getfield 11, 3) := by decide +kernel
theorem dX11_agree_38 : decode cX11_agree 38 = .ok (.aload_n 0, 1) := by decide +kernel
theorem dX11_agree_39 : decode cX11_agree 39 = .ok (.getfield 92, 3) := by decide +kernel
theorem dX11_agree_42 : decode cX11_agree 42 = .ok (.getfield 218, 3) := by decide +kernel
theorem dX11_agree_45 : decode cX11_agree 45 = .ok (.aaload, 1) := by decide +kernel
theorem dX11_agree_46 : decode cX11_agree 46 = .ok (.astore_n 3, 1) := by decide +kernel
theorem dX11_agree_47 : decode cX11_agree 47 = .ok (.aload_n 0, 1) := by decide +kernel
theorem dX11_agree_48 : decode cX11_agree 48 = .ok (.getfield 11, 3) := by decide +kernel
theorem dX11_agree_51 : decode cX11_agree 51 = .ok (.aload_n 0, 1) := by decide +kernel
theorem dX11_agree_52 : decode cX11_agree 52 = .ok (.getfield 92, 3) := by decide +kernel
theorem dX11_agree_55 : decode cX11_agree 55 = .ok (.getfield 221, 3) := by decide +kernel
theorem dX11_agree_58 : decode cX11_agree 58 = .ok (.aaload, 1) := by decide +kernel
theorem dX11_agree_59 : decode cX11_agree 59 = .ok (.astore 4, 2) := by decide +kernel
theorem dX11_agree_61 : decode cX11_agree 61 = .ok (.aload_n 3, 1) := by decide +kernel
theorem dX11_agree_62 : decode cX11_agree 62 = .ok (.dup, 1) := by decide +kernel
theorem dX11_agree_63 : decode cX11_agree 63 = .ok (.getfield 71, 3) := by decide +kernel
theorem dX11_agree_66 : decode cX11_agree 66 = .ok (.iload_n 1, 1) := by decide +kernel
theorem dX11_agree_67 : decode cX11_agree 67 = .ok (.ixor, 1) := by decide +kernel
theorem dX11_agree_68 : decode cX11_agree 68 = .ok (.putfield 71, 3) := by decide +kernel
theorem dX11_agree_71 : decode cX11_agree 71 = .ok (.aload 4, 2) := by decide +kernel
theorem dX11_agree_73 : decode cX11_agree 73 = .ok (.dup, 1) := by decide +kernel
theorem dX11_agree_74 : decode cX11_agree 74 = .ok (.getfield 71, 3) := by decide +kernel
theorem dX11_agree_77 : decode cX11_agree 77 = .ok (.iload_n 1, 1) := by decide +kernel
theorem dX11_agree_78 : decode cX11_agree 78 = .ok (.ixor, 1) := by decide +kernel
theorem dX11_agree_79 : decode cX11_agree 79 = .ok (.putfield 71, 3) := by decide +kernel
theorem dX11_agree_82 : decode cX11_agree 82 = .ok (.aload_n 3, 1) := by decide +kernel
theorem dX11_agree_83 : decode cX11_agree 83 = .ok (.dup, 1) := by decide +kernel
theorem dX11_agree_84 : decode cX11_agree 84 = .ok (.getfield 116, 3) := by decide +kernel
theorem dX11_agree_87 : decode cX11_agree 87 = .ok (.iload_n 2, 1) := by decide +kernel
theorem dX11_agree_88 : decode cX11_agree 88 = .ok (.isub, 1) := by decide +kernel
theorem dX11_agree_89 : decode cX11_agree 89 = .ok (.putfield 116, 3) := by decide +kernel
theorem dX11_agree_92 : decode cX11_agree 92 = .ok (.aload 4, 2) := by decide +kernel
theorem dX11_agree_94 : decode cX11_agree 94 = .ok (.dup, 1) := by decide +kernel
theorem dX11_agree_95 : decode cX11_agree 95 = .ok (.getfield 116, 3) := by decide +kernel
theorem dX11_agree_98 : decode cX11_agree 98 = .ok (.iload_n 2, 1) := by decide +kernel
theorem dX11_agree_99 : decode cX11_agree 99 = .ok (.iadd, 1) := by decide +kernel
theorem dX11_agree_100 : decode cX11_agree 100 = .ok (.putfield 116, 3) := by decide +kernel
theorem dX11_agree_103 : decode cX11_agree 103 = .ok (.aload_n 0, 1) := by decide +kernel
theorem dX11_agree_104 : decode cX11_agree 104 = .ok (.getfield 92, 3) := by decide +kernel
theorem dX11_agree_107 : decode cX11_agree 107 = .ok (.iconst 3, 1) := by decide +kernel
theorem dX11_agree_108 : decode cX11_agree 108 = .ok (.iconst 0, 1) := by decide +kernel
theorem dX11_agree_109 : decode cX11_agree 109 = .ok (.iconst 0, 1) := by decide +kernel
theorem dX11_agree_110 : decode cX11_agree 110 = .ok (.invokevirtual 215, 3) := by decide +kernel
theorem dX11_agree_113 : decode cX11_agree 113 = .ok (.return_, 1) := by decide +kernel
theorem dX11_letMachineSpeak_0 : decode cX11_letMachineSpeak 0 = .ok (.aload_n 0, 1) := by decide +kernel
theorem dX11_letMachineSpeak_1 : decode cX11_letMachineSpeak 1 = .ok (.getfield 92, 3) := by decide +kernel
theorem dX11_letMachineSpeak_4 : decode cX11_letMachineSpeak 4 = .ok (.getfield 209, 3) := by decide +kernel
theorem dX11_letMachineSpeak_7 : decode cX11_letMachineSpeak 7 = .ok (.istore_n 1, 1) := by decide +kernel
theorem dX11_letMachineSpeak_8 : decode cX11_letMachineSpeak 8 = .ok (.aload_n 0, 1) := by decide +kernel
theorem dX11_letMachineSpeak_9 : decode cX11_letMachineSpeak 9 = .ok (.getfield 46, 3) := by decide +kernel
theorem dX11_letMachineSpeak_12 : decode cX11_letMachineSpeak 12 = .ok (.aload_n 0, 1) := by decide +kernel
theorem dX11_letMachineSpeak_13 : decode cX11_letMachineSpeak 13 = .ok (.getfield 92, 3) := by decide +kernel
theorem dX11_letMachineSpeak_16 : decode cX11_letMachineSpeak 16 = .ok (.getfield 199, 3) := by decide +kernel
theorem dX11_letMachineSpeak_19 : decode cX11_letMachineSpeak 19 = .ok (.aload_n 0, 1) := by decide +kernel
theorem dX11_letMachineSpeak_20 : decode cX11_letMachineSpeak 20 = .ok (.getfield 92, 3) := by decide +kernel
theorem dX11_letMachineSpeak_23 : decode cX11_letMachineSpeak 23 = .ok (.iload_n 1, 1) := by decide +kernel
theorem dX11_letMachineSpeak_24 : decode cX11_letMachineSpeak 24 = .ok (.invokevirtual 234, 3) := by decide +kernel
theorem dX11_letMachineSpeak_27 : decode cX11_letMachineSpeak 27 = .ok (.invokevirtual 395, 3) := by decide +kernel
theorem dX11_letMachineSpeak_30 : decode cX11_letMachineSpeak 30 = .ok (.aload_n 0, 1) := by decide +kernel
theorem dX11_letMachineSpeak_31 : decode cX11_letMachineSpeak 31 = .ok (.getfield 46, 3) := by decide +kernel
theorem dX11_letMachineSpeak_34 : decode cX11_letMachineSpeak 34 = .ok (.aload_n 0, 1) := by decide +kernel
theorem dX11_letMachineSpeak_35 : decode cX11_letMachineSpeak 35 = .ok (.getfield 92, 3) := by decide +kernel
theorem dX11_letMachineSpeak_38 : decode cX11_letMachineSpeak 38 = .ok (.getfield 199, 3) := by decide +kernel
theorem dX11_letMachineSpeak_41 : decode cX11_letMachineSpeak 41 = .ok (.aload_n 0, 1) := by decide +kernel
theorem dX11_letMachineSpeak_42 : decode cX11_letMachineSpeak 42 = .ok (.getfield 11, 3) := by decide +kernel
theorem dX11_letMachineSpeak_45 : decode cX11_letMachineSpeak 45 = .ok (.aload_n 0, 1) := by decide +kernel
theorem dX11_letMachineSpeak_46 : decode cX11_letMachineSpeak 46 = .ok (.getfield 92, 3) := by decide +kernel
theorem dX11_letMachineSpeak_49 : decode cX11_letMachineSpeak 49 = .ok (.iload_n 1, 1) := by decide +kernel
theorem dX11_letMachineSpeak_50 : decode cX11_letMachineSpeak 50 = .ok (.invokevirtual 212, 3) := by decide +kernel
theorem dX11_letMachineSpeak_53 : decode cX11_letMachineSpeak 53 = .ok (.aaload, 1) := by decide +kernel
theorem dX11_letMachineSpeak_54 : decode cX11_letMachineSpeak 54 = .ok (.aload_n 0, 1) := by decide +kernel
theorem dX11_letMachineSpeak_55 : decode cX11_letMachineSpeak 55 = .ok (.getfield 92, 3) := by decide +kernel
theorem dX11_letMachineSpeak_58 : decode cX11_letMachineSpeak 58 = .ok (.iload_n 1, 1) := by decide +kernel
theorem dX11_letMachineSpeak_59 : decode cX11_letMachineSpeak 59 = .ok (.invokevirtual 399, 3) := by decide +kernel
theorem dX11_letMachineSpeak_62 : decode cX11_letMachineSpeak 62 = .ok (.aload_n 0, 1) := by decide +kernel
theorem dX11_letMachineSpeak_63 : decode cX11_letMachineSpeak 63 = .ok (.getfield 46, 3) := by decide +kernel
theorem dX11_letMachineSpeak_66 : decode cX11_letMachineSpeak 66 = .ok (.getfield 403, 3) := by decide +kernel
theorem dX11_letMachineSpeak_69 : decode cX11_letMachineSpeak 69 = .ok (.iconst 3, 1) := by decide +kernel
theorem dX11_letMachineSpeak_70 : decode cX11_letMachineSpeak 70 = .ok (.if_icmp .ne 10, 3) := by decide +kernel
theorem dX11_letMachineSpeak_73 : decode cX11_letMachineSpeak 73 = .ok (.aload_n 0, 1) := by decide +kernel
theorem dX11_letMachineSpeak_74 : decode cX11_letMachineSpeak 74 = .ok (.invokevirtual 231, 3) := by decide +kernel
theorem dX11_letMachineSpeak_77 : decode cX11_letMachineSpeak 77 = .ok (.goto 31, 3) := by decide +kernel
theorem dX11_letMachineSpeak_80 : decode cX11_letMachineSpeak 80 = .ok (.aload_n 0, 1) := by decide +kernel
theorem dX11_letMachineSpeak_81 : decode cX11_letMachineSpeak 81 = .ok (.getfield 92, 3) := by decide +kernel
theorem dX11_letMachineSpeak_84 : decode cX11_letMachineSpeak 84 = .ok (.aload_n 0, 1) := by decide +kernel
theorem dX11_letMachineSpeak_85 : decode cX11_letMachineSpeak 85 = .ok (.getfield 46, 3) := by decide +kernel
theorem dX11_letMachineSpeak_88 : decode cX11_letMachineSpeak 88 = .ok (.getfield 403, 3) := by decide +kernel
theorem dX11_letMachineSpeak_91 : decode cX11_letMachineSpeak 91 = .ok (.aload_n 0, 1) := by decide +kernel
theorem dX11_letMachineSpeak_92 : decode cX11_letMachineSpeak 92 = .ok (.getfield 46, 3) := by decide +kernel
theorem dX11_letMachineSpeak_95 : decode cX11_letMachineSpeak 95 = .ok (.getfield 406, 3) := by decide +kernel
theorem dX11_letMachineSpeak_98 : decode cX11_letMachineSpeak 98 = .ok (.aload_n 0, 1) := by decide +kernel
theorem dX11_letMachineSpeak_99 : decode cX11_letMachineSpeak 99 = .ok (.getfield 46, 3) := by decide +kernel
theorem dX11_letMachineSpeak_102 : decode cX11_letMachineSpeak 102 = .ok (.getfield 409, 3) := by decide +kernel
theorem dX11_letMachineSpeak_105 : decode cX11_letMachineSpeak 105 = .ok (.invokevirtual 215, 3) := by decide +kernel
theorem dX11_letMachineSpeak_108 : decode cX11_letMachineSpeak 108 = .ok (.aload_n 0, 1) := by decide +kernel
theorem dX11_letMachineSpeak_109 : decode cX11_letMachineSpeak 109 = .ok (.getfield 46, 3) := by decide +kernel
theorem dX11_letMachineSpeak_112 : decode cX11_letMachineSpeak 112 = .ok (.getfield 403, 3) := by decide +kernel
theorem dX11_letMachineSpeak_115 : decode cX11_letMachineSpeak 115 = .ok (.ireturn, 1) := by decide +kernel
theorem dX11_countGuesses_0 : decode cX11_countGuesses 0 = .ok (.aload_n 0, 1) := by decide +kernel
theorem dX11_countGuesses_1 : decode cX11_countGuesses 1 = .ok (.getfield 92, 3) := by decide +kernel
theorem dX11_countGuesses_4 : decode cX11_countGuesses 4 = .ok (.getfield 199, 3) := by decide +kernel
theorem dX11_countGuesses_7 : decode cX11_countGuesses 7 = .ok (.invokevirtual 258, 3) := by decide +kernel
theorem dX11_countGuesses_10 : decode cX11_countGuesses 10 = .ok (.istore 4, 2) := by decide +kernel
theorem dX11_countGuesses_12 : decode cX11_countGuesses 12 = .ok (.iconst 1, 1) := by decide +kernel
theorem dX11_countGuesses_13 : decode cX11_countGuesses 13 = .ok (.istore 5, 2) := by decide +kernel
theorem dX11_countGuesses_15 : decode cX11_countGuesses 15 = .ok (.iconst 0, 1) := by decide +kernel
theorem dX11_countGuesses_16 : decode cX11_countGuesses 16 = .ok (.istore 6, 2) := by decide +kernel
theorem dX11_countGuesses_18 : decode cX11_countGuesses 18 = .ok (.iload 6, 2) := by decide +kernel
theorem dX11_countGuesses_20 : decode cX11_countGuesses 20 = .ok (.bipush 6, 2) := by decide +kernel
theorem dX11_countGuesses_22 : decode cX11_countGuesses 22 = .ok (.if_icmp .ge 29, 3) := by decide +kernel
theorem dX11_countGuesses_25 : decode cX11_countGuesses 25 = .ok (.iload 5, 2) := by decide +kernel
theorem dX11_countGuesses_27 : decode cX11_countGuesses 27 = .ok (.iload 4, 2) := by decide +kernel
theorem dX11_countGuesses_29 : decode cX11_countGuesses 29 = .ok (.iload 6, 2) := by decide +kernel
theorem dX11_countGuesses_31 : decode cX11_countGuesses 31 = .ok (.invokestatic 392, 3) := by decide +kernel
theorem dX11_countGuesses_34 : decode cX11_countGuesses 34 = .ok (.ifCond .eq 7, 3) := by decide +kernel
theorem dX11_countGuesses_37 : decode cX11_countGuesses 37 = .ok (.iconst 3, 1) := by decide +kernel
theorem dX11_countGuesses_38 : decode cX11_countGuesses 38 = .ok (.goto 4, 3) := by decide +kernel
theorem dX11_countGuesses_41 : decode cX11_countGuesses 41 = .ok (.iconst 1, 1) := by decide +kernel
theorem dX11_countGuesses_42 : decode cX11_countGuesses 42 = .ok (.imul, 1) := by decide +kernel
theorem dX11_countGuesses_43 : decode cX11_countGuesses 43 = .ok (.istore 5, 2) := by decide +kernel
theorem dX11_countGuesses_45 : decode cX11_countGuesses 45 = .ok (.iinc 6 1, 3) := by decide +kernel
theorem dX11_countGuesses_48 : decode cX11_countGuesses 48 = .ok (.goto (-30), 3) := by decide +kernel
theorem dX11_countGuesses_51 : decode cX11_countGuesses 51 = .ok (.aload_n 0, 1) := by decide +kernel
theorem dX11_countGuesses_52 : decode cX11_countGuesses 52 = .ok (.getfield 84, 3) := by decide +kernel
theorem dX11_countGuesses_55 : decode cX11_countGuesses 55 = .ok (.aload_n 0, 1) := by decide +kernel
theorem dX11_countGuesses_56 : decode cX11_countGuesses 56 = .ok (.getfield 92, 3) := by decide +kernel
theorem dX11_countGuesses_59 : decode cX11_countGuesses 59 = .ok (.getfield 199, 3) := by decide +kernel
theorem dX11_countGuesses_62 : decode cX11_countGuesses 62 = .ok (.iload_n 2, 1) := by decide +kernel
theorem dX11_countGuesses_63 : decode cX11_countGuesses 63 = .ok (.aload_n 0, 1) := by decide +kernel
theorem dX11_countGuesses_64 : decode cX11_countGuesses 64 = .ok (.getfield 29, 3) := by decide +kernel
theorem dX11_countGuesses_67 : decode cX11_countGuesses 67 = .ok (.invokevirtual 412, 3) := by decide +kernel
theorem dX11_countGuesses_70 : decode cX11_countGuesses 70 = .ok (.iconst 0, 1) := by decide +kernel
theorem dX11_countGuesses_71 : decode cX11_countGuesses 71 = .ok (.istore 6, 2) := by decide +kernel
theorem dX11_countGuesses_73 : decode cX11_countGuesses 73 = .ok (.iconst 0, 1) := by decide +kernel
theorem dX11_countGuesses_74 : decode cX11_countGuesses 74 = .ok (.istore 7, 2) := by decide +kernel
theorem dX11_countGuesses_76 : decode cX11_countGuesses 76 = .ok (.iload 7, 2) := by decide +kernel
theorem dX11_countGuesses_78 : decode cX11_countGuesses 78 = .ok (.iload 5, 2) := by decide +kernel
theorem dX11_countGuesses_80 : decode cX11_countGuesses 80 = .ok (.if_icmp .ge 42, 3) := by decide +kernel
theorem dX11_countGuesses_83 : decode cX11_countGuesses 83 = .ok (.aload_n 0, 1) := by decide +kernel
theorem dX11_countGuesses_84 : decode cX11_countGuesses 84 = .ok (.iload 4, 2) := by decide +kernel
theorem dX11_countGuesses_86 : decode cX11_countGuesses 86 = .ok (.iload 7, 2) := by decide +kernel
theorem dX11_countGuesses_88 : decode cX11_countGuesses 88 = .ok (.invokevirtual 416, 3) := by decide +kernel
theorem dX11_countGuesses_91 : decode cX11_countGuesses 91 = .ok (.iload 6, 2) := by decide +kernel
theorem dX11_countGuesses_93 : decode cX11_countGuesses 93 = .ok (.aload_n 0, 1) := by decide +kernel
theorem dX11_countGuesses_94 : decode cX11_countGuesses 94 = .ok (.aload_n 0, 1) := by decide +kernel
theorem dX11_countGuesses_95 : decode cX11_countGuesses 95 = .ok (.getfield 11, 3) := by decide +kernel
theorem dX11_countGuesses_98 : decode cX11_countGuesses 98 = .ok (.iload_n 1, 1) := by decide +kernel
theorem dX11_countGuesses_99 : decode cX11_countGuesses 99 = .ok (.aaload, 1) := by decide +kernel
theorem dX11_countGuesses_100 : decode cX11_countGuesses 100 = .ok (.iload_n 2, 1) := by decide +kernel
theorem dX11_countGuesses_101 : decode cX11_countGuesses 101 = .ok (.iload_n 3, 1) := by decide +kernel
theorem dX11_countGuesses_102 : decode cX11_countGuesses 102 = .ok (.invokevirtual 419, 3) := by decide +kernel
theorem dX11_countGuesses_105 : decode cX11_countGuesses 105 = .ok (.ifCond .eq 7, 3) := by decide +kernel
theorem dX11_countGuesses_108 : decode cX11_countGuesses 108 = .ok (.iconst 1, 1) := by decide +kernel
theorem dX11_countGuesses_109 : decode cX11_countGuesses 109 = .ok (.goto 4, 3) := by decide +kernel
theorem dX11_countGuesses_112 : decode cX11_countGuesses 112 = .ok (.iconst 0, 1) := by decide +kernel
theorem dX11_countGuesses_113 : decode cX11_countGuesses 113 = .ok (.iadd, 1) := by decide +kernel
theorem dX11_countGuesses_114 : decode cX11_countGuesses 114 = .ok (.istore 6, 2) := by decide +kernel
theorem dX11_countGuesses_116 : decode cX11_countGuesses 116 = .ok (.iinc 7 1, 3) := by decide +kernel
theorem dX11_countGuesses_119 : decode cX11_countGuesses 119 = .ok (.goto (-43), 3) := by decide +kernel
theorem dX11_countGuesses_122 : decode cX11_countGuesses 122 = .ok (.iload 6, 2) := by decide +kernel
theorem dX11_countGuesses_124 : decode cX11_countGuesses 124 = .ok (.ireturn, 1) := by decide +kernel
theorem dX11_makeGuess_0 : decode cX11_makeGuess 0 = .ok (.iload_n 2, 1) := by decide +kernel
theorem dX11_makeGuess_1 : decode cX11_makeGuess 1 = .ok (.istore_n 3, 1) := by decide +kernel
theorem dX11_makeGuess_2 : decode cX11_makeGuess 2 = .ok (.iconst 0, 1) := by decide +kernel
theorem dX11_makeGuess_3 : decode cX11_makeGuess 3 = .ok (.istore 4, 2) := by decide +kernel
theorem dX11_makeGuess_5 : decode cX11_makeGuess 5 = .ok (.iload 4, 2) := by decide +kernel
theorem dX11_makeGuess_7 : decode cX11_makeGuess 7 = .ok (.bipush 6, 2) := by decide +kernel
theorem dX11_makeGuess_9 : decode cX11_makeGuess 9 = .ok (.if_icmp .ge 43, 3) := by decide +kernel
theorem dX11_makeGuess_12 : decode cX11_makeGuess 12 = .ok (.aload_n 0, 1) := by decide +kernel
theorem dX11_makeGuess_13 : decode cX11_makeGuess 13 = .ok (.getfield 32, 3) := by decide +kernel
theorem dX11_makeGuess_16 : decode cX11_makeGuess 16 = .ok (.iload 4, 2) := by decide +kernel
theorem dX11_makeGuess_18 : decode cX11_makeGuess 18 = .ok (.iconst 0, 1) := by decide +kernel
theorem dX11_makeGuess_19 : decode cX11_makeGuess 19 = .ok (.iastore, 1) := by decide +kernel
theorem dX11_makeGuess_20 : decode cX11_makeGuess 20 = .ok (.iload_n 1, 1) := by decide +kernel
theorem dX11_makeGuess_21 : decode cX11_makeGuess 21 = .ok (.iload 4, 2) := by decide +kernel
theorem dX11_makeGuess_23 : decode cX11_makeGuess 23 = .ok (.invokestatic 392, 3) := by decide +kernel
theorem dX11_makeGuess_26 : decode cX11_makeGuess 26 = .ok (.ifCond .eq 20, 3) := by decide +kernel
theorem dX11_makeGuess_29 : decode cX11_makeGuess 29 = .ok (.aload_n 0, 1) := by decide +kernel
theorem dX11_makeGuess_30 : decode cX11_makeGuess 30 = .ok (.getfield 32, 3) := by decide +kernel
theorem dX11_makeGuess_33 : decode cX11_makeGuess 33 = .ok (.iload 4, 2) := by decide +kernel
theorem dX11_makeGuess_35 : decode cX11_makeGuess 35 = .ok (.bipush 10, 2) := by decide +kernel
theorem dX11_makeGuess_37 : decode cX11_makeGuess 37 = .ok (.iload_n 3, 1) := by decide +kernel
theorem dX11_makeGuess_38 : decode cX11_makeGuess 38 = .ok (.iconst 3, 1) := by decide +kernel
theorem dX11_makeGuess_39 : decode cX11_makeGuess 39 = .ok (.irem, 1) := by decide +kernel
theorem dX11_makeGuess_40 : decode cX11_makeGuess 40 = .ok (.imul, 1) := by decide +kernel
theorem dX11_makeGuess_41 : decode cX11_makeGuess 41 = .ok (.iastore, 1) := by decide +kernel
theorem dX11_makeGuess_42 : decode cX11_makeGuess 42 = .ok (.iload_n 3, 1) := by decide +kernel
theorem dX11_makeGuess_43 : decode cX11_makeGuess 43 = .ok (.iconst 3, 1) := by decide +kernel
theorem dX11_makeGuess_44 : decode cX11_makeGuess 44 = .ok (.idiv, 1) := by decide +kernel
theorem dX11_makeGuess_45 : decode cX11_makeGuess 45 = .ok (.istore_n 3, 1) := by decide +kernel
theorem dX11_makeGuess_46 : decode cX11_makeGuess 46 = .ok (.iinc 4 1, 3) := by decide +kernel
theorem dX11_makeGuess_49 : decode cX11_makeGuess 49 = .ok (.goto (-44), 3) := by decide +kernel
theorem dX11_makeGuess_52 : decode cX11_makeGuess 52 = .ok (.aload_n 0, 1) := by decide +kernel
theorem dX11_makeGuess_53 : decode cX11_makeGuess 53 = .ok (.getfield 29, 3) := by decide +kernel
theorem dX11_makeGuess_56 : decode cX11_makeGuess 56 = .ok (.aload_n 0, 1) := by decide +kernel
theorem dX11_makeGuess_57 : decode cX11_makeGuess 57 = .ok (.getfield 32, 3) := by decide +kernel
theorem dX11_makeGuess_60 : decode cX11_makeGuess 60 = .ok (.iconst 0, 1) := by decide +kernel
theorem dX11_makeGuess_61 : decode cX11_makeGuess 61 = .ok (.invokevirtual 388, 3) := by decide +kernel
theorem dX11_makeGuess_64 : decode cX11_makeGuess 64 = .ok (.return_, 1) := by decide +kernel
theorem dX11_wouldHaveSaid_0 : decode cX11_wouldHaveSaid 0 = .ok (.aload_n 0, 1) := by decide +kernel
theorem dX11_wouldHaveSaid_1 : decode cX11_wouldHaveSaid 1 = .ok (.getfield 46, 3) := by decide +kernel
theorem dX11_wouldHaveSaid_4 : decode cX11_wouldHaveSaid 4 = .ok (.aload_n 0, 1) := by decide +kernel
theorem dX11_wouldHaveSaid_5 : decode cX11_wouldHaveSaid 5 = .ok (.getfield 84, 3) := by decide +kernel
theorem dX11_wouldHaveSaid_8 : decode cX11_wouldHaveSaid 8 = .ok (.iload_n 2, 1) := by decide +kernel
theorem dX11_wouldHaveSaid_9 : decode cX11_wouldHaveSaid 9 = .ok (.invokevirtual 395, 3) := by decide +kernel
theorem dX11_wouldHaveSaid_12 : decode cX11_wouldHaveSaid 12 = .ok (.iconst 0, 1) := by decide +kernel
theorem dX11_wouldHaveSaid_13 : decode cX11_wouldHaveSaid 13 = .ok (.istore 4, 2) := by decide +kernel
theorem dX11_wouldHaveSaid_15 : decode cX11_wouldHaveSaid 15 = .ok (.iload 4, 2) := by decide +kernel
theorem dX11_wouldHaveSaid_17 : decode cX11_wouldHaveSaid 17 = .ok (.iload_n 3, 1) := by decide +kernel
theorem dX11_wouldHaveSaid_18 : decode cX11_wouldHaveSaid 18 = .ok (.if_icmp .ge 70, 3) := by decide +kernel
theorem dX11_wouldHaveSaid_21 : decode cX11_wouldHaveSaid 21 = .ok (.iconst 2, 1) := by decide +kernel
theorem dX11_wouldHaveSaid_22 : decode cX11_wouldHaveSaid 22 = .ok (.iload 4, 2) := by decide +kernel
theorem dX11_wouldHaveSaid_24 : decode cX11_wouldHaveSaid 24 = .ok (.imul, 1) := by decide +kernel
theorem dX11_wouldHaveSaid_25 : decode cX11_wouldHaveSaid 25 = .ok (.iload_n 2, 1) := by decide +kernel
theorem dX11_wouldHaveSaid_26 : decode cX11_wouldHaveSaid 26 = .ok (.iadd, 1) := by decide +kernel
theorem dX11_wouldHaveSaid_27 : decode cX11_wouldHaveSaid 27 = .ok (.istore 5, 2) := by decide +kernel
theorem dX11_wouldHaveSaid_29 : decode cX11_wouldHaveSaid 29 = .ok (.aload_n 0, 1) := by decide +kernel
theorem dX11_wouldHaveSaid_30 : decode cX11_wouldHaveSaid 30 = .ok (.getfield 46, 3) := by decide +kernel
theorem dX11_wouldHaveSaid_33 : decode cX11_wouldHaveSaid 33 = .ok (.aload_n 0, 1) := by decide +kernel
theorem dX11_wouldHaveSaid_34 : decode cX11_wouldHaveSaid 34 = .ok (.getfield 84, 3) := by decide +kernel
theorem dX11_wouldHaveSaid_37 : decode cX11_wouldHaveSaid 37 = .ok (.aload_n 1, 1) := by decide +kernel
theorem dX11_wouldHaveSaid_38 : decode cX11_wouldHaveSaid 38 = .ok (.aload_n 0, 1) := by decide +kernel
theorem dX11_wouldHaveSaid_39 : decode cX11_wouldHaveSaid 39 = .ok (.getfield 92, 3) := by decide +kernel
theorem dX11_wouldHaveSaid_42 : decode cX11_wouldHaveSaid 42 = .ok (.iload 5, 2) := by decide +kernel
theorem dX11_wouldHaveSaid_44 : decode cX11_wouldHaveSaid 44 = .ok (.invokevirtual 399, 3) := by decide +kernel
theorem dX11_wouldHaveSaid_47 : decode cX11_wouldHaveSaid 47 = .ok (.aload_n 0, 1) := by decide +kernel
theorem dX11_wouldHaveSaid_48 : decode cX11_wouldHaveSaid 48 = .ok (.getfield 92, 3) := by decide +kernel
theorem dX11_wouldHaveSaid_51 : decode cX11_wouldHaveSaid 51 = .ok (.iload 5, 2) := by decide +kernel
theorem dX11_wouldHaveSaid_53 : decode cX11_wouldHaveSaid 53 = .ok (.aload_n 0, 1) := by decide +kernel
theorem dX11_wouldHaveSaid_54 : decode cX11_wouldHaveSaid 54 = .ok (.getfield 46, 3) := by decide +kernel
theorem dX11_wouldHaveSaid_57 : decode cX11_wouldHaveSaid 57 = .ok (.getfield 403, 3) := by decide +kernel
theorem dX11_wouldHaveSaid_60 : decode cX11_wouldHaveSaid 60 = .ok (.aload_n 0, 1) := by decide +kernel
theorem dX11_wouldHaveSaid_61 : decode cX11_wouldHaveSaid 61 = .ok (.getfield 46, 3) := by decide +kernel
theorem dX11_wouldHaveSaid_64 : decode cX11_wouldHaveSaid 64 = .ok (.getfield 406, 3) := by decide +kernel
theorem dX11_wouldHaveSaid_67 : decode cX11_wouldHaveSaid 67 = .ok (.aload_n 0, 1) := by decide +kernel
theorem dX11_wouldHaveSaid_68 : decode cX11_wouldHaveSaid 68 = .ok (.getfield 46, 3) := by decide +kernel
theorem dX11_wouldHaveSaid_71 : decode cX11_wouldHaveSaid 71 = .ok (.getfield 409, 3) := by decide +kernel
theorem dX11_wouldHaveSaid_74 : decode cX11_wouldHaveSaid 74 = .ok (.invokevirtual 423, 3) := by decide +kernel
theorem dX11_wouldHaveSaid_77 : decode cX11_wouldHaveSaid 77 = .ok (.ifCond .ne 5, 3) := by decide +kernel
theorem dX11_wouldHaveSaid_80 : decode cX11_wouldHaveSaid 80 = .ok (.iconst 0, 1) := by decide +kernel
theorem dX11_wouldHaveSaid_81 : decode cX11_wouldHaveSaid 81 = .ok (.ireturn, 1) := by decide +kernel
theorem dX11_wouldHaveSaid_82 : decode cX11_wouldHaveSaid 82 = .ok (.iinc 4 1, 3) := by decide +kernel
theorem dX11_wouldHaveSaid_85 : decode cX11_wouldHaveSaid 85 = .ok (.goto (-70), 3) := by decide +kernel
theorem dX11_wouldHaveSaid_88 : decode cX11_wouldHaveSaid 88 = .ok (.iconst 1, 1) := by decide +kernel
theorem dX11_wouldHaveSaid_89 : decode cX11_wouldHaveSaid 89 = .ok (.ireturn, 1) := by decide +kernel
theorem dX12_in_0 : decode cX12_in 0 = .ok (.lload_n 0, 1) := by decide +kernel
theorem dX12_in_1 : decode cX12_in 1 = .ok (.lload_n 2, 1) := by decide +kernel
theorem dX12_in_2 : decode cX12_in 2 = .ok (.lcmp, 1) := by decide +kernel
theorem dX12_in_3 : decode cX12_in 3 = .ok (.ifCond .lt 14, 3) := by decide +kernel
theorem dX12_in_6 : decode cX12_in 6 = .ok (.lload_n 0, 1) := by decide +kernel
theorem dX12_in_7 : decode cX12_in 7 = .ok (.lload 4, 2) := by decide +kernel
theorem dX12_in_9 : decode cX12_in 9 = .ok (.lcmp, 1) := by decide +kernel
theorem dX12_in_10 : decode cX12_in 10 = .ok (.ifCond .gt 7, 3) := by decide +kernel
theorem dX12_in_13 : decode cX12_in 13 = .ok (.iconst 1, 1) := by decide +kernel
theorem dX12_in_14 : decode cX12_in 14 = .ok (.goto 4, 3) := by decide +kernel
theorem dX12_in_17 : decode cX12_in 17 = .ok (.iconst 0, 1) := by decide +kernel
theorem dX12_in_18 : decode cX12_in 18 = .ok (.ireturn, 1) := by decide +kernel
theorem dX12_init_0 : decode cX12_init 0 = .ok (.aload_n 0, 1) := by decide +kernel
theorem dX12_init_1 : decode cX12_init 1 = .ok (.invokespecial 1, 3) := by decide +kernel
theorem dX12_init_4 : decode cX12_init 4 = .ok (.aload_n 0, 1) := by decide +kernel
theorem dX12_init_5 : decode cX12_init 5 = .ok (.bipush 6, 2) := by decide +kernel
theorem dX12_init_7 : decode cX12_init 7 = .ok (.newarray .int, 2) := by decide +kernel
theorem dX12_init_9 : decode cX12_init 9 = .ok (.putfield 7, 3) := by decide +kernel
theorem dX12_init_12 : decode cX12_init 12 = .ok (.aload_n 0, 1) := by decide +kernel
theorem dX12_init_13 : decode cX12_init 13 = .ok (.iconst 4, 1) := by decide +kernel
theorem dX12_init_14 : decode cX12_init 14 = .ok (.newarray .int, 2) := by decide +kernel
theorem dX12_init_16 : decode cX12_init 16 = .ok (.putfield 13, 3) := by decide +kernel
theorem dX12_init_19 : decode cX12_init 19 = .ok (.aload_n 0, 1) := by decide +kernel
theorem dX12_init_20 : decode cX12_init 20 = .ok (.iconst 4, 1) := by decide +kernel
theorem dX12_init_21 : decode cX12_init 21 = .ok (.newarray .int, 2) := by decide +kernel
theorem dX12_init_23 : decode cX12_init 23 = .ok (.putfield 16, 3) := by decide +kernel
theorem dX12_init_26 : decode cX12_init 26 = .ok (.aload_n 0, 1) := by decide +kernel
theorem dX12_init_27 : decode cX12_init 27 = .ok (.iconst 4, 1) := by decide +kernel
theorem dX12_init_28 : decode cX12_init 28 = .ok (.newarray .int, 2) := by decide +kernel
theorem dX12_init_30 : decode cX12_init 30 = .ok (.putfield 19, 3) := by decide +kernel
theorem dX12_init_33 : decode cX12_init 33 = .ok (.aload_n 0, 1) := by decide +kernel
theorem dX12_init_34 : decode cX12_init 34 = .ok (.iconst 4, 1) := by decide +kernel
theorem dX12_init_35 : decode cX12_init 35 = .ok (.newarray .int, 2) := by decide +kernel
theorem dX12_init_37 : decode cX12_init 37 = .ok (.putfield 22, 3) := by decide +kernel
theorem dX12_init_40 : decode cX12_init 40 = .ok (.aload_n 0, 1) := by decide +kernel
theorem dX12_init_41 : decode cX12_init 41 = .ok (.iconst 4, 1) := by decide +kernel
theorem dX12_init_42 : decode cX12_init 42 = .ok (.newarray .int, 2) := by decide +kernel
theorem dX12_init_44 : decode cX12_init 44 = .ok (.putfield 25, 3) := by decide +kernel
theorem dX12_init_47 : decode cX12_init 47 = .ok (.aload_n 0, 1) := by decide +kernel
theorem dX12_init_48 : decode cX12_init 48 = .ok (.bipush 48, 2) := by decide +kernel
theorem dX12_init_50 : decode cX12_init 50 = .ok (.newarray .int, 2) := by decide +kernel
theorem dX12_init_52 : decode cX12_init 52 = .ok (.putfield 28, 3) := by decide +kernel
theorem dX12_init_55 : decode cX12_init 55 = .ok (.aload_n 0, 1) := by decide +kernel
theorem dX12_init_56 : decode cX12_init 56 = .ok (.bipush 48, 2) := by decide +kernel
theorem dX12_init_58 : decode cX12_init 58 = .ok (.newarray .int, 2) := by decide +kernel
theorem dX12_init_60 : decode cX12_init 60 = .ok (.putfield 31, 3) := by decide +kernel
theorem dX12_init_63 : decode cX12_init 63 = .ok (.aload_n 0, 1) := by decide +kernel
theorem dX12_init_64 : decode cX12_init 64 = .ok (.bipush 48, 2) := by decide +kernel
theorem dX12_init_66 : decode cX12_init 66 = .ok (.newarray .boolean, 2) := by decide +kernel
theorem dX12_init_68 : decode cX12_init 68 = .ok (.putfield 34, 3) := by decide +kernel
theorem dX12_init_71 : decode cX12_init 71 = .ok (.aload_n 0, 1) := by decide +kernel
theorem dX12_init_72 : decode cX12_init 72 = .ok (.bipush 90, 2) := by decide +kernel
theorem dX12_init_74 : decode cX12_init 74 = .ok (.newarray .int, 2) := by decide +kernel
theorem dX12_init_76 : decode cX12_init 76 = .ok (.putfield 38, 3) := by decide +kernel
theorem dX12_init_79 : decode cX12_init 79 = .ok (.aload_n 0, 1) := by decide +kernel
theorem dX12_init_80 : decode cX12_init 80 = .ok (.bipush 12, 2) := by decide +kernel
theorem dX12_init_82 : decode cX12_init 82 = .ok (.newarray .int, 2) := by decide +kernel
theorem dX12_init_84 : decode cX12_init 84 = .ok (.putfield 41, 3) := by decide +kernel
theorem dX12_init_87 : decode cX12_init 87 = .ok (.aload_n 0, 1) := by decide +kernel
theorem dX12_init_88 : decode cX12_init 88 = .ok (.bipush 12, 2) := by decide +kernel
theorem dX12_init_90 : decode cX12_init 90 = .ok (.newarray .int, 2) := by decide +kernel
theorem dX12_init_92 : decode cX12_init 92 = .ok (.putfield 44, 3) := by decide +kernel
theorem dX12_init_95 : decode cX12_init 95 = .ok (.aload_n 0, 1) := by decide +kernel
theorem dX12_init_96 : decode cX12_init 96 = .ok (.bipush 12, 2) := by decide +kernel
theorem dX12_init_98 : decode cX12_init 98 = .ok (.newarray .boolean, 2) := by decide +kernel
theorem dX12_init_100 : decode cX12_init 100 = .ok (.putfield 47, 3) := by decide +kernel
theorem dX12_init_103 : decode cX12_init 103 = .ok (.aload_n 0, 1) := by decide +kernel
theorem dX12_init_104 : decode cX12_init 104 = .ok (.bipush 20, 2) := by decide +kernel
theorem dX12_init_106 : decode cX12_init 106 = .ok (.newarray .int, 2) := by decide +kernel
theorem dX12_init_108 : decode cX12_init 108 = .ok (.putfield 50, 3) := by decide +kernel
theorem dX12_init_111 : decode cX12_init 111 = .ok (.aload_n 0, 1) := by decide +kernel
theorem dX12_init_112 : decode cX12_init 112 = .ok (.bipush 20, 2) := by decide +kernel
theorem dX12_init_114 : decode cX12_init 114 = .ok (.newarray .int, 2) := by decide +kernel
theorem dX12_init_116 : decode cX12_init 116 = .ok (.putfield 53, 3) := by decide +kernel
theorem dX12_init_119 : decode cX12_init 119 = .ok (.aload_n 0, 1) := by decide +kernel
theorem dX12_init_120 : decode cX12_init 120 = .ok (.bipush 20, 2) := by decide +kernel
theorem dX12_init_122 : decode cX12_init 122 = .ok (.newarray .int, 2) := by decide +kernel
theorem dX12_init_124 : decode cX12_init 124 = .ok (.putfield 56, 3) := by decide +kernel
theorem dX12_init_127 : decode cX12_init 127 = .ok (.aload_n 0, 1) := by decide +kernel
theorem dX12_init_128 : decode cX12_init 128 = .ok (.bipush 64, 2) := by decide +kernel
theorem dX12_init_130 : decode cX12_init 130 = .ok (.newarray .int, 2) := by decide +kernel
theorem dX12_init_132 : decode cX12_init 132 = .ok (.putfield 59, 3) := by decide +kernel
theorem dX12_init_135 : decode cX12_init 135 = .ok (.aload_n 0, 1) := by decide +kernel
theorem dX12_init_136 : decode cX12_init 136 = .ok (.bipush 64, 2) := by decide +kernel
theorem dX12_init_138 : decode cX12_init 138 = .ok (.newarray .int, 2) := by decide +kernel
theorem dX12_init_140 : decode cX12_init 140 = .ok (.putfield 62, 3) := by decide +kernel
theorem dX12_init_143 : decode cX12_init 143 = .ok (.aload_n 0, 1) := by decide +kernel
theorem dX12_init_144 : decode cX12_init 144 = .ok (.bipush 6, 2) := by decide +kernel
theorem dX12_init_146 : decode cX12_init 146 = .ok (.newarray .int, 2) := by decide +kernel
theorem dX12_init_148 : decode cX12_init 148 = .ok (.putfield 65, 3) := by decide +kernel
theorem dX12_init_151 : decode cX12_init 151 = .ok (.aload_n 0, 1) := by decide +kernel
theorem dX12_init_152 : decode cX12_init 152 = .ok (.bipush 6, 2) := by decide +kernel
theorem dX12_init_154 : decode cX12_init 154 = .ok (.newarray .int, 2) := by decide +kernel
theorem dX12_init_156 : decode cX12_init 156 = .ok (.putfield 68, 3) := by decide +kernel
theorem dX12_init_159 : decode cX12_init 159 = .ok (.aload_n 0, 1) := by decide +kernel
theorem dX12_init_160 : decode cX12_init 160 = .ok (.bipush 16, 2) := by decide +kernel
theorem dX12_init_162 : decode cX12_init 162 = .ok (.newarray .int, 2) := by decide +kernel
theorem dX12_init_164 : decode cX12_init 164 = .ok (.putfield 71, 3) := by decide +kernel
theorem dX12_init_167 : decode cX12_init 167 = .ok (.aload_n 0, 1) := by decide +kernel
theorem dX12_init_168 : decode cX12_init 168 = .ok (.bipush 16, 2) := by decide +kernel
theorem dX12_init_170 : decode cX12_init 170 = .ok (.newarray .boolean, 2) := by decide +kernel
theorem dX12_init_172 : decode cX12_init 172 = .ok (.putfield 74, 3) := by decide +kernel
theorem dX12_init_175 : decode cX12_init 175 = .ok (.aload_n 0, 1) := by decide +kernel
theorem dX12_init_176 : decode cX12_init 176 = .ok (.iconst 4, 1) := by decide +kernel
theorem dX12_init_177 : decode cX12_init 177 = .ok (.newarray .int, 2) := by decide +kernel
theorem dX12_init_179 : decode cX12_init 179 = .ok (.putfield 77, 3) := by decide +kernel
theorem dX12_init_182 : decode cX12_init 182 = .ok (.aload_n 0, 1) := by decide +kernel
theorem dX12_init_183 : decode cX12_init 183 = .ok (.iconst 4, 1) := by decide +kernel
theorem dX12_init_184 : decode cX12_init 184 = .ok (.newarray .int, 2) := by decide +kernel
theorem dX12_init_186 : decode cX12_init 186 = .ok (.putfield 80, 3) := by decide +kernel
theorem dX12_init_189 : decode cX12_init 189 = .ok (.aload_n 0, 1) := by decide +kernel
theorem dX12_init_190 : decode cX12_init 190 = .ok (.bipush 16, 2) := by decide +kernel
theorem dX12_init_192 : decode cX12_init 192 = .ok (.newarray .int, 2) := by decide +kernel
theorem dX12_init_194 : decode cX12_init 194 = .ok (.putfield 83, 3) := by decide +kernel
theorem dX12_init_197 : decode cX12_init 197 = .ok (.aload_n 0, 1) := by decide +kernel
theorem dX12_init_198 : decode cX12_init 198 = .ok (.bipush 16, 2) := by decide +kernel
theorem dX12_init_200 : decode cX12_init 200 = .ok (.newarray .int, 2) := by decide +kernel
theorem dX12_init_202 : decode cX12_init 202 = .ok (.putfield 86, 3) := by decide +kernel
theorem dX12_init_205 : decode cX12_init 205 = .ok (.aload_n 0, 1) := by decide +kernel
theorem dX12_init_206 : decode cX12_init 206 = .ok (.bipush 16, 2) := by decide +kernel
theorem dX12_init_208 : decode cX12_init 208 = .ok (.newarray .int, 2) := by decide +kernel
theorem dX12_init_210 : decode cX12_init 210 = .ok (.putfield 89, 3) := by decide +kernel
theorem dX12_init_213 : decode cX12_init 213 = .ok (.aload_n 0, 1) := by decide +kernel
theorem dX12_init_214 : decode cX12_init 214 = .ok (.bipush 16, 2) := by decide +kernel
theorem dX12_init_216 : decode cX12_init 216 = .ok (.newarray .int, 2) := by decide +kernel
theorem dX12_init_218 : decode cX12_init 218 = .ok (.putfield 92, 3) := by decide +kernel
theorem dX12_init_221 : decode cX12_init 221 = .ok (.aload_n 0, 1) := by decide +kernel
theorem dX12_init_222 : decode cX12_init 222 = .ok (.bipush 16, 2) := by decide +kernel
theorem dX12_init_224 : decode cX12_init 224 = .ok (.newarray .int, 2) := by decide +kernel
theorem dX12_init_226 : decode cX12_init 226 = .ok (.putfield 95, 3) := by decide +kernel
theorem dX12_init_229 : decode cX12_init 229 = .ok (.aload_n 0, 1) := by decide +kernel
theorem dX12_init_230 : decode cX12_init 230 = .ok (.bipush 16, 2) := by decide +kernel
theorem dX12_init_232 : decode cX12_init 232 = .ok (.newarray .int, 2) := by decide +kernel
theorem dX12_init_234 : decode cX12_init 234 = .ok (.putfield 98, 3) := by decide +kernel
theorem dX12_init_237 : decode cX12_init 237 = .ok (.aload_n 0, 1) := by decide +kernel
theorem dX12_init_238 : decode cX12_init 238 = .ok (.bipush 16, 2) := by decide +kernel
theorem dX12_init_240 : decode cX12_init 240 = .ok (.newarray .int, 2) := by decide +kernel
theorem dX12_init_242 : decode cX12_init 242 = .ok (.putfield 101, 3) := by decide +kernel
theorem dX12_init_245 : decode cX12_init 245 = .ok (.aload_n 0, 1) := by decide +kernel
theorem dX12_init_246 : decode cX12_init 246 = .ok (.bipush 10, 2) := by decide +kernel
theorem dX12_init_248 : decode cX12_init 248 = .ok (.newarray .int, 2) := by decide +kernel
theorem dX12_init_250 : decode cX12_init 250 = .ok (.putfield 104, 3) := by decide +kernel
theorem dX12_init_253 : decode cX12_init 253 = .ok (.aload_n 0, 1) := by decide +kernel
theorem dX12_init_254 : decode cX12_init 254 = .ok (.bipush 10, 2) := by decide +kernel
theorem dX12_init_256 : decode cX12_init 256 = .ok (.newarray .int, 2) := by decide +kernel
theorem dX12_init_258 : decode cX12_init 258 = .ok (.putfield 107, 3) := by decide +kernel
theorem dX12_init_261 : decode cX12_init 261 = .ok (.aload_n 0, 1) := by decide +kernel
theorem dX12_init_262 : decode cX12_init 262 = .ok (.bipush 16, 2) := by decide +kernel
theorem dX12_init_264 : decode cX12_init 264 = .ok (.newarray .int, 2) := by decide +kernel
theorem dX12_init_266 : decode cX12_init 266 = .ok (.putfield 110, 3) := by decide +kernel
theorem dX12_init_269 : decode cX12_init 269 = .ok (.aload_n 0, 1) := by decide +kernel
theorem dX12_init_270 : decode cX12_init 270 = .ok (.bipush 16, 2) := by decide +kernel
theorem dX12_init_272 : decode cX12_init 272 = .ok (.newarray .int, 2) := by decide +kernel
theorem dX12_init_274 : decode cX12_init 274 = .ok (.putfield 113, 3) := by decide +kernel
theorem dX12_init_277 : decode cX12_init 277 = .ok (.aload_n 0, 1) := by decide +kernel
theorem dX12_init_278 : decode cX12_init 278 = .ok (.bipush 16, 2) := by decide +kernel
theorem dX12_init_280 : decode cX12_init 280 = .ok (.newarray .int, 2) := by decide +kernel
theorem dX12_init_282 : decode cX12_init 282 = .ok (.putfield 116, 3) := by decide +kernel
theorem dX12_init_285 : decode cX12_init 285 = .ok (.aload_n 0, 1) := by decide +kernel
theorem dX12_init_286 : decode cX12_init 286 = .ok (.bipush 8, 2) := by decide +kernel
theorem dX12_init_288 : decode cX12_init 288 = .ok (.newarray .int, 2) := by decide +kernel
theorem dX12_init_290 : decode cX12_init 290 = .ok (.putfield 119, 3) := by decide +kernel
theorem dX12_init_293 : decode cX12_init 293 = .ok (.aload_n 0, 1) := by decide +kernel
theorem dX12_init_294 : decode cX12_init 294 = .ok (.iconst 4, 1) := by decide +kernel
theorem dX12_init_295 : decode cX12_init 295 = .ok (.newarray .int, 2) := by decide +kernel
theorem dX12_init_297 : decode cX12_init 297 = .ok (.putfield 122, 3) := by decide +kernel
theorem dX12_init_300 : decode cX12_init 300 = .ok (.aload_n 0, 1) := by decide +kernel
theorem dX12_init_301 : decode cX12_init 301 = .ok (.iconst 4, 1) := by decide +kernel
theorem dX12_init_302 : decode cX12_init 302 = .ok (.newarray .int, 2) := by decide +kernel
theorem dX12_init_304 : decode cX12_init 304 = .ok (.putfield 125, 3) := by decide +kernel
theorem dX12_init_307 : decode cX12_init 307 = .ok (.aload_n 0, 1) := by decide +kernel
theorem dX12_init_308 : decode cX12_init 308 = .ok (.bipush 48, 2) := by decide +kernel
theorem dX12_init_310 : decode cX12_init 310 = .ok (.newarray .int, 2) := by decide +kernel
theorem dX12_init_312 : decode cX12_init 312 = .ok (.putfield 128, 3) := by decide +kernel
theorem dX12_init_315 : decode cX12_init 315 = .ok (.iconst 0, 1) := by decide +kernel
theorem dX12_init_316 : decode cX12_init 316 = .ok (.istore_n 1, 1) := by decide +kernel
theorem dX12_init_317 : decode cX12_init 317 = .ok (.iload_n 1, 1) := by decide +kernel
theorem dX12_init_318 : decode cX12_init 318 = .ok (.iconst 4, 1) := by decide +kernel
theorem dX12_init_319 : decode cX12_init 319 = .ok (.if_icmp .ge 34, 3) := by decide +kernel
theorem dX12_init_322 : decode cX12_init 322 = .ok (.aload_n 0, 1) := by decide +kernel
theorem dX12_init_323 : decode cX12_init 323 = .ok (.getfield 13, 3) := by decide +kernel
theorem dX12_init_326 : decode cX12_init 326 = .ok (.iload_n 1, 1) := by decide +kernel
theorem dX12_init_327 : decode cX12_init 327 = .ok (.sipush 1000, 3) := by decide +kernel
theorem dX12_init_330 : decode cX12_init 330 = .ok (.iastore, 1) := by decide +kernel
theorem dX12_init_331 : decode cX12_init 331 = .ok (.aload_n 0, 1) := by decide +kernel
theorem dX12_init_332 : decode cX12_init 332 = .ok (.getfield 19, 3) := by decide +kernel
theorem dX12_init_335 : decode cX12_init 335 = .ok (.iload_n 1, 1) := by decide +kernel
theorem dX12_init_336 : decode cX12_init 336 = .ok (.bipush 100, 2) := by decide +kernel
theorem dX12_init_338 : decode cX12_init 338 = .ok (.iastore, 1) := by decide +kernel
theorem dX12_init_339 : decode cX12_init 339 = .ok (.aload_n 0, 1) := by decide +kernel
theorem dX12_init_340 : decode cX12_init 340 = .ok (.getfield 22, 3) := by decide +kernel
theorem dX12_init_343 : decode cX12_init 343 = .ok (.iload_n 1, 1) := by decide +kernel
theorem dX12_init_344 : decode cX12_init 344 = .ok (.bipush 10, 2) := by decide +kernel
theorem dX12_init_346 : decode cX12_init 346 = .ok (.iastore, 1) := by decide +kernel
theorem dX12_init_347 : decode cX12_init 347 = .ok (.iinc 1 1, 3) := by decide +kernel
theorem dX12_init_350 : decode cX12_init 350 = .ok (.goto (-33), 3) := by decide +kernel
theorem dX12_init_353 : decode cX12_init 353 = .ok (.iconst 0, 1) := by decide +kernel
theorem dX12_init_354 : decode cX12_init 354 = .ok (.istore_n 1, 1) := by decide +kernel
theorem dX12_init_355 : decode cX12_init 355 = .ok (.iload_n 1, 1) := by decide +kernel
theorem dX12_init_356 : decode cX12_init 356 = .ok (.iconst 4, 1) := by decide +kernel
theorem dX12_init_357 : decode cX12_init 357 = .ok (.if_icmp .ge 16, 3) := by decide +kernel
theorem dX12_init_360 : decode cX12_init 360 = .ok (.aload_n 0, 1) := by decide +kernel
theorem dX12_init_361 : decode cX12_init 361 = .ok (.getfield 122, 3) := by decide +kernel
theorem dX12_init_364 : decode cX12_init 364 = .ok (.iload_n 1, 1) := by decide +kernel
theorem dX12_init_365 : decode cX12_init 365 = .ok (.iconst (-1), 1) := by decide +kernel
theorem dX12_init_366 : decode cX12_init 366 = .ok (.iastore, 1) := by decide +kernel
theorem dX12_init_367 : decode cX12_init 367 = .ok (.iinc 1 1, 3) := by decide +kernel
theorem dX12_init_370 : decode cX12_init 370 = .ok (.goto (-15), 3) := by decide +kernel
theorem dX12_init_373 : decode cX12_init 373 = .ok (.iconst 0, 1) := by decide +kernel
theorem dX12_init_374 : decode cX12_init 374 = .ok (.istore_n 1, 1) := by decide +kernel
theorem dX12_init_375 : decode cX12_init 375 = .ok (.iload_n 1, 1) := by decide +kernel
theorem dX12_init_376 : decode cX12_init 376 = .ok (.bipush 10, 2) := by decide +kernel
theorem dX12_init_378 : decode cX12_init 378 = .ok (.if_icmp .ge 17, 3) := by decide +kernel
theorem dX12_init_381 : decode cX12_init 381 = .ok (.aload_n 0, 1) := by decide +kernel
theorem dX12_init_382 : decode cX12_init 382 = .ok (.getfield 104, 3) := by decide +kernel
theorem dX12_init_385 : decode cX12_init 385 = .ok (.iload_n 1, 1) := by decide +kernel
theorem dX12_init_386 : decode cX12_init 386 = .ok (.bipush (-4), 2) := by decide +kernel
theorem dX12_init_388 : decode cX12_init 388 = .ok (.iastore, 1) := by decide +kernel
theorem dX12_init_389 : decode cX12_init 389 = .ok (.iinc 1 1, 3) := by decide +kernel
theorem dX12_init_392 : decode cX12_init 392 = .ok (.goto (-17), 3) := by decide +kernel
theorem dX12_init_395 : decode cX12_init 395 = .ok (.return_, 1) := by decide +kernel
theorem dX12_isHouse_0 : decode cX12_isHouse 0 = .ok (.iload_n 0, 1) := by decide +kernel
theorem dX12_isHouse_1 : decode cX12_isHouse 1 = .ok (.i2l, 1) := by decide +kernel
theorem dX12_isHouse_2 : decode cX12_isHouse 2 = .ok (.lconst 0, 1) := by decide +kernel
theorem dX12_isHouse_3 : decode cX12_isHouse 3 = .ok (.ldc2_w 131, 3) := by decide +kernel
theorem dX12_isHouse_6 : decode cX12_isHouse 6 = .ok (.invokestatic 133, 3) := by decide +kernel
theorem dX12_isHouse_9 : decode cX12_isHouse 9 = .ok (.ireturn, 1) := by decide +kernel
theorem dX12_isTalking_0 : decode cX12_isTalking 0 = .ok (.aload_n 0, 1) := by decide +kernel
theorem dX12_isTalking_1 : decode cX12_isTalking 1 = .ok (.getfield 137, 3) := by decide +kernel
theorem dX12_isTalking_4 : decode cX12_isTalking 4 = .ok (.iconst 1, 1) := by decide +kernel
theorem dX12_isTalking_5 : decode cX12_isTalking 5 = .ok (.if_icmp .ne 7, 3) := by decide +kernel
theorem dX12_isTalking_8 : decode cX12_isTalking 8 = .ok (.iconst 1, 1) := by decide +kernel
theorem dX12_isTalking_9 : decode cX12_isTalking 9 = .ok (.goto 4, 3) := by decide +kernel
theorem dX12_isTalking_12 : decode cX12_isTalking 12 = .ok (.iconst 0, 1) := by decide +kernel
theorem dX12_isTalking_13 : decode cX12_isTalking 13 = .ok (.ireturn, 1) := by decide +kernel
theorem dX12_own_0 : decode cX12_own 0 = .ok (.iload_n 1, 1) := by decide +kernel
theorem dX12_own_1 : decode cX12_own 1 = .ok (.i2l, 1) := by decide +kernel
theorem dX12_own_2 : decode cX12_own 2 = .ok (.lconst 0, 1) := by decide +kernel
theorem dX12_own_3 : decode cX12_own 3 = .ok (.ldc2_w 141, 3) := by decide +kernel
theorem dX12_own_6 : decode cX12_own 6 = .ok (.invokestatic 133, 3) := by decide +kernel
theorem dX12_own_9 : decode cX12_own 9 = .ok (.ifCond .eq 10, 3) := by decide +kernel
theorem dX12_own_12 : decode cX12_own 12 = .ok (.iload_n 2, 1) := by decide +kernel
theorem dX12_own_13 : decode cX12_own 13 = .ok (.invokestatic 143, 3) := by decide +kernel
theorem dX12_own_16 : decode cX12_own 16 = .ok (.ifCond .ne 5, 3) := by decide +kernel
theorem dX12_own_19 : decode cX12_own 19 = .ok (.iconst (-1), 1) := by decide +kernel
theorem dX12_own_20 : decode cX12_own 20 = .ok (.ireturn, 1) := by decide +kernel
theorem dX12_own_21 : decode cX12_own 21 = .ok (.aload_n 0, 1) := by decide +kernel
theorem dX12_own_22 : decode cX12_own 22 = .ok (.invokevirtual 147, 3) := by decide +kernel
theorem dX12_own_25 : decode cX12_own 25 = .ok (.ifCond .eq 6, 3) := by decide +kernel
theorem dX12_own_28 : decode cX12_own 28 = .ok (.bipush (-2), 2) := by decide +kernel
theorem dX12_own_30 : decode cX12_own 30 = .ok (.ireturn, 1) := by decide +kernel
theorem dX12_own_31 : decode cX12_own 31 = .ok (.aload_n 0, 1) := by decide +kernel
theorem dX12_own_32 : decode cX12_own 32 = .ok (.getfield 7, 3) := by decide +kernel
theorem dX12_own_35 : decode cX12_own 35 = .ok (.iload_n 1, 1) := by decide +kernel
theorem dX12_own_36 : decode cX12_own 36 = .ok (.iaload, 1) := by decide +kernel
theorem dX12_own_37 : decode cX12_own 37 = .ok (.istore_n 3, 1) := by decide +kernel
theorem dX12_own_38 : decode cX12_own 38 = .ok (.aload_n 0, 1) := by decide +kernel
theorem dX12_own_39 : decode cX12_own 39 = .ok (.getfield 7, 3) := by decide +kernel
theorem dX12_own_42 : decode cX12_own 42 = .ok (.iload_n 1, 1) := by decide +kernel
theorem dX12_own_43 : decode cX12_own 43 = .ok (.iload_n 2, 1) := by decide +kernel
theorem dX12_own_44 : decode cX12_own 44 = .ok (.iastore, 1) := by decide +kernel
theorem dX12_own_45 : decode cX12_own 45 = .ok (.iload_n 3, 1) := by decide +kernel
theorem dX12_own_46 : decode cX12_own 46 = .ok (.ireturn, 1) := by decide +kernel
theorem dX12_coins_0 : decode cX12_coins 0 = .ok (.iload_n 1, 1) := by decide +kernel
theorem dX12_coins_1 : decode cX12_coins 1 = .ok (.invokestatic 143, 3) := by decide +kernel
theorem dX12_coins_4 : decode cX12_coins 4 = .ok (.ifCond .eq 15, 3) := by decide +kernel
theorem dX12_coins_7 : decode cX12_coins 7 = .ok (.iload_n 2, 1) := by decide +kernel
theorem dX12_coins_8 : decode cX12_coins 8 = .ok (.i2l, 1) := by decide +kernel
theorem dX12_coins_9 : decode cX12_coins 9 = .ok (.lconst 0, 1) := by decide +kernel
theorem dX12_coins_10 : decode cX12_coins 10 = .ok (.ldc2_w 151, 3) := by decide +kernel
theorem dX12_coins_13 : decode cX12_coins 13 = .ok (.invokestatic 133, 3) := by decide +kernel
theorem dX12_coins_16 : decode cX12_coins 16 = .ok (.ifCond .ne 5, 3) := by decide +kernel
theorem dX12_coins_19 : decode cX12_coins 19 = .ok (.iconst (-1), 1) := by decide +kernel
theorem dX12_coins_20 : decode cX12_coins 20 = .ok (.ireturn, 1) := by decide +kernel
theorem dX12_coins_21 : decode cX12_coins 21 = .ok (.aload_n 0, 1) := by decide +kernel
theorem dX12_coins_22 : decode cX12_coins 22 = .ok (.invokevirtual 147, 3) := by decide +kernel
theorem dX12_coins_25 : decode cX12_coins 25 = .ok (.ifCond .eq 6, 3) := by decide +kernel
theorem dX12_coins_28 : decode cX12_coins 28 = .ok (.bipush (-2), 2) := by decide +kernel
theorem dX12_coins_30 : decode cX12_coins 30 = .ok (.ireturn, 1) := by decide +kernel
theorem dX12_coins_31 : decode cX12_coins 31 = .ok (.aload_n 0, 1) := by decide +kernel
theorem dX12_coins_32 : decode cX12_coins 32 = .ok (.getfield 13, 3) := by decide +kernel
theorem dX12_coins_35 : decode cX12_coins 35 = .ok (.iload_n 1, 1) := by decide +kernel
theorem dX12_coins_36 : decode cX12_coins 36 = .ok (.iaload, 1) := by decide +kernel
theorem dX12_coins_37 : decode cX12_coins 37 = .ok (.istore_n 3, 1) := by decide +kernel
theorem dX12_coins_38 : decode cX12_coins 38 = .ok (.aload_n 0, 1) := by decide +kernel
theorem dX12_coins_39 : decode cX12_coins 39 = .ok (.getfield 13, 3) := by decide +kernel
theorem dX12_coins_42 : decode cX12_coins 42 = .ok (.iload_n 1, 1) := by decide +kernel
theorem dX12_coins_43 : decode cX12_coins 43 = .ok (.iload_n 2, 1) := by decide +kernel
theorem dX12_coins_44 : decode cX12_coins 44 = .ok (.iastore, 1) := by decide +kernel
theorem dX12_coins_45 : decode cX12_coins 45 = .ok (.iload_n 3, 1) := by decide +kernel
theorem dX12_coins_46 : decode cX12_coins 46 = .ok (.ireturn, 1) := by decide +kernel
theorem dX12_type_0 : decode cX12_type 0 = .ok (.iload_n 3, 1) := by decide +kernel
theorem dX12_type_1 : decode cX12_type 1 = .ok (.i2l, 1) := by decide +kernel
theorem dX12_type_2 : decode cX12_type 2 = .ok (.lconst 1, 1) := by decide +kernel
theorem dX12_type_3 : decode cX12_type 3 = .ok (.ldc2_w 153, 3) := by decide +kernel
theorem dX12_type_6 : decode cX12_type 6 = .ok (.invokestatic 133, 3) := by decide +kernel
theorem dX12_type_9 : decode cX12_type 9 = .ok (.ifCond .ne 5, 3) := by decide +kernel
theorem dX12_type_12 : decode cX12_type 12 = .ok (.iconst (-1), 1) := by decide +kernel
theorem dX12_type_13 : decode cX12_type 13 = .ok (.ireturn, 1) := by decide +kernel
theorem dX12_type_14 : decode cX12_type 14 = .ok (.iload_n 3, 1) := by decide +kernel
theorem dX12_type_15 : decode cX12_type 15 = .ok (.iconst 1, 1) := by decide +kernel
theorem dX12_type_16 : decode cX12_type 16 = .ok (.isub, 1) := by decide +kernel
theorem dX12_type_17 : decode cX12_type 17 = .ok (.istore 4, 2) := by decide +kernel
theorem dX12_type_19 : decode cX12_type 19 = .ok (.iload 4, 2) := by decide +kernel
theorem dX12_type_21 : decode cX12_type 21 = .ok (.ifCond .lt 34, 3) := by decide +kernel
theorem dX12_type_24 : decode cX12_type 24 = .ok (.lload_n 1, 1) := by decide +kernel
theorem dX12_type_25 : decode cX12_type 25 = .ok (.bipush 8, 2) := by decide +kernel
theorem dX12_type_27 : decode cX12_type 27 = .ok (.iload 4, 2) := by decide +kernel
theorem dX12_type_29 : decode cX12_type 29 = .ok (.imul, 1) := by decide +kernel
theorem dX12_type_30 : decode cX12_type 30 = .ok (.lshr, 1) := by decide +kernel
theorem dX12_type_31 : decode cX12_type 31 = .ok (.ldc2_w 155, 3) := by decide +kernel
theorem dX12_type_34 : decode cX12_type 34 = .ok (.land, 1) := by decide +kernel
theorem dX12_type_35 : decode cX12_type 35 = .ok (.ldc2_w 157, 3) := by decide +kernel
theorem dX12_type_38 : decode cX12_type 38 = .ok (.ldc2_w 159, 3) := by decide +kernel
theorem dX12_type_41 : decode cX12_type 41 = .ok (.invokestatic 133, 3) := by decide +kernel
theorem dX12_type_44 : decode cX12_type 44 = .ok (.ifCond .ne 5, 3) := by decide +kernel
theorem dX12_type_47 : decode cX12_type 47 = .ok (.iconst (-1), 1) := by decide +kernel
theorem dX12_type_48 : decode cX12_type 48 = .ok (.ireturn, 1) := by decide +kernel
theorem dX12_type_49 : decode cX12_type 49 = .ok (.iinc 4 (-1), 3) := by decide +kernel
theorem dX12_type_52 : decode cX12_type 52 = .ok (.goto (-33), 3) := by decide +kernel
theorem dX12_type_55 : decode cX12_type 55 = .ok (.aload_n 0, 1) := by decide +kernel
theorem dX12_type_56 : decode cX12_type 56 = .ok (.getfield 161, 3) := by decide +kernel
theorem dX12_type_59 : decode cX12_type 59 = .ok (.iload_n 3, 1) := by decide +kernel
theorem dX12_type_60 : decode cX12_type 60 = .ok (.iadd, 1) := by decide +kernel
theorem dX12_type_61 : decode cX12_type 61 = .ok (.bipush 90, 2) := by decide +kernel
theorem dX12_type_63 : decode cX12_type 63 = .ok (.if_icmp .le 6, 3) := by decide +kernel
theorem dX12_type_66 : decode cX12_type 66 = .ok (.bipush (-3), 2) := by decide +kernel
theorem dX12_type_68 : decode cX12_type 68 = .ok (.ireturn, 1) := by decide +kernel
theorem dX12_type_69 : decode cX12_type 69 = .ok (.iload_n 3, 1) := by decide +kernel
theorem dX12_type_70 : decode cX12_type 70 = .ok (.iconst 1, 1) := by decide +kernel
theorem dX12_type_71 : decode cX12_type 71 = .ok (.isub, 1) := by decide +kernel
theorem dX12_type_72 : decode cX12_type 72 = .ok (.istore 4, 2) := by decide +kernel
theorem dX12_type_74 : decode cX12_type 74 = .ok (.iload 4, 2) := by decide +kernel
theorem dX12_type_76 : decode cX12_type 76 = .ok (.ifCond .lt 40, 3) := by decide +kernel
theorem dX12_type_79 : decode cX12_type 79 = .ok (.aload_n 0, 1) := by decide +kernel
theorem dX12_type_80 : decode cX12_type 80 = .ok (.getfield 38, 3) := by decide +kernel
theorem dX12_type_83 : decode cX12_type 83 = .ok (.aload_n 0, 1) := by decide +kernel
theorem dX12_type_84 : decode cX12_type 84 = .ok (.getfield 161, 3) := by decide +kernel
theorem dX12_type_87 : decode cX12_type 87 = .ok (.lload_n 1, 1) := by decide +kernel
theorem dX12_type_88 : decode cX12_type 88 = .ok (.bipush 8, 2) := by decide +kernel
theorem dX12_type_90 : decode cX12_type 90 = .ok (.iload 4, 2) := by decide +kernel
theorem dX12_type_92 : decode cX12_type 92 = .ok (.imul, 1) := by decide +kernel
theorem dX12_type_93 : decode cX12_type 93 = .ok (.lshr, 1) := by decide +kernel
theorem dX12_type_94 : decode cX12_type 94 = .ok (.ldc2_w 155, 3) := by decide +kernel
theorem dX12_type_97 : decode cX12_type 97 = .ok (.land, 1) := by decide +kernel
theorem dX12_type_98 : decode cX12_type 98 = .ok (.l2i, 1) := by decide +kernel
theorem dX12_type_99 : decode cX12_type 99 = .ok (.iastore, 1) := by decide +kernel
theorem dX12_type_100 : decode cX12_type 100 = .ok (.aload_n 0, 1) := by decide +kernel
theorem dX12_type_101 : decode cX12_type 101 = .ok (.dup, 1) := by decide +kernel
theorem dX12_type_102 : decode cX12_type 102 = .ok (.getfield 161, 3) := by decide +kernel
theorem dX12_type_105 : decode cX12_type 105 = .ok (.iconst 1, 1) := by decide +kernel
theorem dX12_type_106 : decode cX12_type 106 = .ok (.iadd, 1) := by decide +kernel
theorem dX12_type_107 : decode cX12_type 107 = .ok (.putfield 161, 3) := by decide +kernel
theorem dX12_type_110 : decode cX12_type 110 = .ok (.iinc 4 (-1), 3) := by decide +kernel
theorem dX12_type_113 : decode cX12_type 113 = .ok (.goto (-39), 3) := by decide +kernel
theorem dX12_type_116 : decode cX12_type 116 = .ok (.aload_n 0, 1) := by decide +kernel
theorem dX12_type_117 : decode cX12_type 117 = .ok (.getfield 161, 3) := by decide +kernel
theorem dX12_type_120 : decode cX12_type 120 = .ok (.ireturn, 1) := by decide +kernel
theorem dX12_next_0 : decode cX12_next 0 = .ok (.aload_n 0, 1) := by decide +kernel
theorem dX12_next_1 : decode cX12_next 1 = .ok (.getfield 164, 3) := by decide +kernel
theorem dX12_next_4 : decode cX12_next 4 = .ok (.aload_n 0, 1) := by decide +kernel
theorem dX12_next_5 : decode cX12_next 5 = .ok (.getfield 161, 3) := by decide +kernel
theorem dX12_next_8 : decode cX12_next 8 = .ok (.if_icmp .ge 30, 3) := by decide +kernel
theorem dX12_next_11 : decode cX12_next 11 = .ok (.aload_n 0, 1) := by decide +kernel
theorem dX12_next_12 : decode cX12_next 12 = .ok (.getfield 38, 3) := by decide +kernel
theorem dX12_next_15 : decode cX12_next 15 = .ok (.aload_n 0, 1) := by decide +kernel
theorem dX12_next_16 : decode cX12_next 16 = .ok (.getfield 164, 3) := by decide +kernel
theorem dX12_next_19 : decode cX12_next 19 = .ok (.iaload, 1) := by decide +kernel
theorem dX12_next_20 : decode cX12_next 20 = .ok (.bipush 32, 2) := by decide +kernel
theorem dX12_next_22 : decode cX12_next 22 = .ok (.if_icmp .ne 16, 3) := by decide +kernel
theorem dX12_next_25 : decode cX12_next 25 = .ok (.aload_n 0, 1) := by decide +kernel
theorem dX12_next_26 : decode cX12_next 26 = .ok (.dup, 1) := by decide +kernel
theorem dX12_next_27 : decode cX12_next 27 = .ok (.getfield 164, 3) := by decide +kernel
theorem dX12_next_30 : decode cX12_next 30 = .ok (.iconst 1, 1) := by decide +kernel
theorem dX12_next_31 : decode cX12_next 31 = .ok (.iadd, 1) := by decide +kernel
theorem dX12_next_32 : decode cX12_next 32 = .ok (.putfield 164, 3) := by decide +kernel
theorem dX12_next_35 : decode cX12_next 35 = .ok (.goto (-35), 3) := by decide +kernel
theorem dX12_next_38 : decode cX12_next 38 = .ok (.aload_n 0, 1) := by decide +kernel
theorem dX12_next_39 : decode cX12_next 39 = .ok (.getfield 164, 3) := by decide +kernel
theorem dX12_next_42 : decode cX12_next 42 = .ok (.aload_n 0, 1) := by decide +kernel
theorem dX12_next_43 : decode cX12_next 43 = .ok (.getfield 161, 3) := by decide +kernel
theorem dX12_next_46 : decode cX12_next 46 = .ok (.if_icmp .ge 15, 3) := by decide +kernel
theorem dX12_next_49 : decode cX12_next 49 = .ok (.aload_n 0, 1) := by decide +kernel
theorem dX12_next_50 : decode cX12_next 50 = .ok (.getfield 38, 3) := by decide +kernel
theorem dX12_next_53 : decode cX12_next 53 = .ok (.aload_n 0, 1) := by decide +kernel
theorem dX12_next_54 : decode cX12_next 54 = .ok (.getfield 164, 3) := by decide +kernel
theorem dX12_next_57 : decode cX12_next 57 = .ok (.iaload, 1) := by decide +kernel
theorem dX12_next_58 : decode cX12_next 58 = .ok (.goto 4, 3) := by decide +kernel
theorem dX12_next_61 : decode cX12_next 61 = .ok (.iconst (-1), 1) := by decide +kernel
theorem dX12_next_62 : decode cX12_next 62 = .ok (.ireturn, 1) := by decide +kernel
theorem dX12_readLetters_0 : decode cX12_readLetters 0 = .ok (.iconst 0, 1) := by decide +kernel
theorem dX12_readLetters_1 : decode cX12_readLetters 1 = .ok (.istore_n 1, 1) := by decide +kernel
theorem dX12_readLetters_2 : decode cX12_readLetters 2 = .ok (.aload_n 0, 1) := by decide +kernel
theorem dX12_readLetters_3 : decode cX12_readLetters 3 = .ok (.invokevirtual 167, 3) := by decide +kernel
theorem dX12_readLetters_6 : decode cX12_readLetters 6 = .ok (.i2l, 1) := by decide +kernel
theorem dX12_readLetters_7 : decode cX12_readLetters 7 = .ok (.ldc2_w 171, 3) := by decide +kernel
theorem dX12_readLetters_10 : decode cX12_readLetters 10 = .ok (.ldc2_w 173, 3) := by decide +kernel
theorem dX12_readLetters_13 : decode cX12_readLetters 13 = .ok (.invokestatic 133, 3) := by decide +kernel
theorem dX12_readLetters_16 : decode cX12_readLetters 16 = .ok (.ifCond .eq 41, 3) := by decide +kernel
theorem dX12_readLetters_19 : decode cX12_readLetters 19 = .ok (.iconst 1, 1) := by decide +kernel
theorem dX12_readLetters_20 : decode cX12_readLetters 20 = .ok (.aload_n 0, 1) := by decide +kernel
theorem dX12_readLetters_21 : decode cX12_readLetters 21 = .ok (.invokevirtual 167, 3) := by decide +kernel
theorem dX12_readLetters_24 : decode cX12_readLetters 24 = .ok (.bipush 97, 2) := by decide +kernel
theorem dX12_readLetters_26 : decode cX12_readLetters 26 = .ok (.isub, 1) := by decide +kernel
theorem dX12_readLetters_27 : decode cX12_readLetters 27 = .ok (.ishl, 1) := by decide +kernel
theorem dX12_readLetters_28 : decode cX12_readLetters 28 = .ok (.iload_n 1, 1) := by decide +kernel
theorem dX12_readLetters_29 : decode cX12_readLetters 29 = .ok (.if_icmp .le 28, 3) := by decide +kernel
theorem dX12_readLetters_32 : decode cX12_readLetters 32 = .ok (.iload_n 1, 1) := by decide +kernel
theorem dX12_readLetters_33 : decode cX12_readLetters 33 = .ok (.iconst 1, 1) := by decide +kernel
theorem dX12_readLetters_34 : decode cX12_readLetters 34 = .ok (.aload_n 0, 1) := by decide +kernel
theorem dX12_readLetters_35 : decode cX12_readLetters 35 = .ok (.invokevirtual 167, 3) := by decide +kernel
theorem dX12_readLetters_38 : decode cX12_readLetters 38 = .ok (.bipush 97, 2) := by decide +kernel
theorem dX12_readLetters_40 : decode cX12_readLetters 40 = .ok (.isub, 1) := by decide +kernel
theorem dX12_readLetters_41 : decode cX12_readLetters 41 = .ok (.ishl, 1) := by decide +kernel
theorem dX12_readLetters_42 : decode cX12_readLetters 42 = .ok (.ior, 1) := by decide +kernel
theorem dX12_readLetters_43 : decode cX12_readLetters 43 = .ok (.istore_n 1, 1) := by decide +kernel
theorem dX12_readLetters_44 : decode cX12_readLetters 44 = .ok (.aload_n 0, 1) := by decide +kernel
theorem dX12_readLetters_45 : decode cX12_readLetters 45 = .ok (.dup, 1) := by decide +kernel
theorem dX12_readLetters_46 : decode cX12_readLetters 46 = .ok (.getfield 164, 3) := by decide +kernel
theorem dX12_readLetters_49 : decode cX12_readLetters 49 = .ok (.iconst 1, 1) := by decide +kernel
theorem dX12_readLetters_50 : decode cX12_readLetters 50 = .ok (.iadd, 1) := by decide +kernel
theorem dX12_readLetters_51 : decode cX12_readLetters 51 = .ok (.putfield 164, 3) := by decide +kernel
theorem dX12_readLetters_54 : decode cX12_readLetters 54 = .ok (.goto (-52), 3) := by decide +kernel
theorem dX12_readLetters_57 : decode cX12_readLetters 57 = .ok (.iload_n 1, 1) := by decide +kernel
theorem dX12_readLetters_58 : decode cX12_readLetters 58 = .ok (.ireturn, 1) := by decide +kernel
theorem dX12_readNumber_0 : decode cX12_readNumber 0 = .ok (.aload_n 0, 1) := by decide +kernel
theorem dX12_readNumber_1 : decode cX12_readNumber 1 = .ok (.invokevirtual 167, 3) := by decide +kernel
theorem dX12_readNumber_4 : decode cX12_readNumber 4 = .ok (.istore_n 1, 1) := by decide +kernel
theorem dX12_readNumber_5 : decode cX12_readNumber 5 = .ok (.aload_n 0, 1) := by decide +kernel
theorem dX12_readNumber_6 : decode cX12_readNumber 6 = .ok (.getfield 164, 3) := by decide +kernel
theorem dX12_readNumber_9 : decode cX12_readNumber 9 = .ok (.istore_n 2, 1) := by decide +kernel
theorem dX12_readNumber_10 : decode cX12_readNumber 10 = .ok (.iconst 0, 1) := by decide +kernel
theorem dX12_readNumber_11 : decode cX12_readNumber 11 = .ok (.istore_n 3, 1) := by decide +kernel
theorem dX12_readNumber_12 : decode cX12_readNumber 12 = .ok (.aload_n 0, 1) := by decide +kernel
theorem dX12_readNumber_13 : decode cX12_readNumber 13 = .ok (.getfield 164, 3) := by decide +kernel
theorem dX12_readNumber_16 : decode cX12_readNumber 16 = .ok (.aload_n 0, 1) := by decide +kernel
theorem dX12_readNumber_17 : decode cX12_readNumber 17 = .ok (.getfield 161, 3) := by decide +kernel
theorem dX12_readNumber_20 : decode cX12_readNumber 20 = .ok (.if_icmp .ge 66, 3) := by decide +kernel
theorem dX12_readNumber_23 : decode cX12_readNumber 23 = .ok (.aload_n 0, 1) := by decide +kernel
theorem dX12_readNumber_24 : decode cX12_readNumber 24 = .ok (.getfield 38, 3) := by decide +kernel
theorem dX12_readNumber_27 : decode cX12_readNumber 27 = .ok (.aload_n 0, 1) := by decide +kernel
theorem dX12_readNumber_28 : decode cX12_readNumber 28 = .ok (.getfield 164, 3) := by decide +kernel
theorem dX12_readNumber_31 : decode cX12_readNumber 31 = .ok (.iaload, 1) := by decide +kernel
theorem dX12_readNumber_32 : decode cX12_readNumber 32 = .ok (.i2l, 1) := by decide +kernel
theorem dX12_readNumber_33 : decode cX12_readNumber 33 = .ok (.ldc2_w 175, 3) := by decide +kernel
theorem dX12_readNumber_36 : decode cX12_readNumber 36 = .ok (.ldc2_w 177, 3) := by decide +kernel
theorem dX12_readNumber_39 : decode cX12_readNumber 39 = .ok (.invokestatic 133, 3) := by decide +kernel
theorem dX12_readNumber_42 : decode cX12_readNumber 42 = .ok (.ifCond .eq 44, 3) := by decide +kernel
theorem dX12_readNumber_45 : decode cX12_readNumber 45 = .ok (.iload_n 3, 1) := by decide +kernel
theorem dX12_readNumber_46 : decode cX12_readNumber 46 = .ok (.bipush 99, 2) := by decide +kernel
theorem dX12_readNumber_48 : decode cX12_readNumber 48 = .ok (.if_icmp .le 7, 3) := by decide +kernel
theorem dX12_readNumber_51 : decode cX12_readNumber 51 = .ok (.iload_n 3, 1) := by decide +kernel
theorem dX12_readNumber_52 : decode cX12_readNumber 52 = .ok (.goto 20, 3) := by decide +kernel
theorem dX12_readNumber_55 : decode cX12_readNumber 55 = .ok (.bipush 10, 2) := by decide +kernel
theorem dX12_readNumber_57 : decode cX12_readNumber 57 = .ok (.iload_n 3, 1) := by decide +kernel
theorem dX12_readNumber_58 : decode cX12_readNumber 58 = .ok (.imul, 1) := by decide +kernel
theorem dX12_readNumber_59 : decode cX12_readNumber 59 = .ok (.aload_n 0, 1) := by decide +kernel
theorem dX12_readNumber_60 : decode cX12_readNumber 60 = .ok (.getfield 38, 3) := by decide +kernel
theorem dX12_readNumber_63 : decode cX12_readNumber 63 = .ok (.aload_n 0, 1) := by decide +kernel
theorem dX12_readNumber_64 : decode cX12_readNumber 64 = .ok (.getfield 164, 3) := by decide +kernel
theorem dX12_readNumber_67 : decode cX12_readNumber 67 = .ok (.iaload, 1) := by decide +kernel
theorem dX12_readNumber_68 : decode cX12_readNumber 68 = .ok (.iadd, 1) := by decide +kernel
theorem dX12_readNumber_69 : decode cX12_readNumber 69 = .ok (.bipush 48, 2) := by decide +kernel
theorem dX12_readNumber_71 : decode cX12_readNumber 71 = .ok (.isub, 1) := by decide +kernel
theorem dX12_readNumber_72 : decode cX12_readNumber 72 = .ok (.istore_n 3, 1) := by decide +kernel
theorem dX12_readNumber_73 : decode cX12_readNumber 73 = .ok (.aload_n 0, 1) := by decide +kernel
theorem dX12_readNumber_74 : decode cX12_readNumber 74 = .ok (.dup, 1) := by decide +kernel
theorem dX12_readNumber_75 : decode cX12_readNumber 75 = .ok (.getfield 164, 3) := by decide +kernel
theorem dX12_readNumber_78 : decode cX12_readNumber 78 = .ok (.iconst 1, 1) := by decide +kernel
theorem dX12_readNumber_79 : decode cX12_readNumber 79 = .ok (.iadd, 1) := by decide +kernel
theorem dX12_readNumber_80 : decode cX12_readNumber 80 = .ok (.putfield 164, 3) := by decide +kernel
theorem dX12_readNumber_83 : decode cX12_readNumber 83 = .ok (.goto (-71), 3) := by decide +kernel
theorem dX12_readNumber_86 : decode cX12_readNumber 86 = .ok (.iload_n 1, 1) := by decide +kernel
theorem dX12_readNumber_87 : decode cX12_readNumber 87 = .ok (.ifCond .lt 17, 3) := by decide +kernel
theorem dX12_readNumber_90 : decode cX12_readNumber 90 = .ok (.aload_n 0, 1) := by decide +kernel
theorem dX12_readNumber_91 : decode cX12_readNumber 91 = .ok (.getfield 164, 3) := by decide +kernel
theorem dX12_readNumber_94 : decode cX12_readNumber 94 = .ok (.iload_n 2, 1) := by decide +kernel
theorem dX12_readNumber_95 : decode cX12_readNumber 95 = .ok (.if_icmp .eq 9, 3) := by decide +kernel
theorem dX12_readNumber_98 : decode cX12_readNumber 98 = .ok (.iload_n 3, 1) := by decide +kernel
theorem dX12_readNumber_99 : decode cX12_readNumber 99 = .ok (.bipush 99, 2) := by decide +kernel
theorem dX12_readNumber_101 : decode cX12_readNumber 101 = .ok (.if_icmp .le 10, 3) := by decide +kernel
theorem dX12_readNumber_104 : decode cX12_readNumber 104 = .ok (.aload_n 0, 1) := by decide +kernel
theorem dX12_readNumber_105 : decode cX12_readNumber 105 = .ok (.iload_n 2, 1) := by decide +kernel
theorem dX12_readNumber_106 : decode cX12_readNumber 106 = .ok (.putfield 164, 3) := by decide +kernel
theorem dX12_readNumber_109 : decode cX12_readNumber 109 = .ok (.iconst (-1), 1) := by decide +kernel
theorem dX12_readNumber_110 : decode cX12_readNumber 110 = .ok (.ireturn, 1) := by decide +kernel
theorem dX12_readNumber_111 : decode cX12_readNumber 111 = .ok (.iload_n 3, 1) := by decide +kernel
theorem dX12_readNumber_112 : decode cX12_readNumber 112 = .ok (.ireturn, 1) := by decide +kernel
theorem dX12_readClause_0 : decode cX12_readClause 0 = .ok (.aload_n 0, 1) := by decide +kernel
theorem dX12_readClause_1 : decode cX12_readClause 1 = .ok (.getfield 47, 3) := by decide +kernel
theorem dX12_readClause_4 : decode cX12_readClause 4 = .ok (.iload_n 1, 1) := by decide +kernel
theorem dX12_readClause_5 : decode cX12_readClause 5 = .ok (.aload_n 0, 1) := by decide +kernel
theorem dX12_readClause_6 : decode cX12_readClause 6 = .ok (.invokevirtual 167, 3) := by decide +kernel
theorem dX12_readClause_9 : decode cX12_readClause 9 = .ok (.bipush 33, 2) := by decide +kernel
theorem dX12_readClause_11 : decode cX12_readClause 11 = .ok (.if_icmp .ne 7, 3) := by decide +kernel
theorem dX12_readClause_14 : decode cX12_readClause 14 = .ok (.iconst 1, 1) := by decide +kernel
theorem dX12_readClause_15 : decode cX12_readClause 15 = .ok (.goto 4, 3) := by decide +kernel
theorem dX12_readClause_18 : decode cX12_readClause 18 = .ok (.iconst 0, 1) := by decide +kernel
theorem dX12_readClause_19 : decode cX12_readClause 19 = .ok (.bastore, 1) := by decide +kernel
theorem dX12_readClause_20 : decode cX12_readClause 20 = .ok (.aload_n 0, 1) := by decide +kernel
theorem dX12_readClause_21 : decode cX12_readClause 21 = .ok (.dup, 1) := by decide +kernel
theorem dX12_readClause_22 : decode cX12_readClause 22 = .ok (.getfield 164, 3) := by decide +kernel
theorem dX12_readClause_25 : decode cX12_readClause 25 = .ok (.aload_n 0, 1) := by decide +kernel
theorem dX12_readClause_26 : decode cX12_readClause 26 = .ok (.getfield 47, 3) := by decide +kernel
theorem dX12_readClause_29 : decode cX12_readClause 29 = .ok (.iload_n 1, 1) := by decide +kernel
theorem dX12_readClause_30 : decode cX12_readClause 30 = .ok (.baload, 1) := by decide +kernel
theorem dX12_readClause_31 : decode cX12_readClause 31 = .ok (.ifCond .eq 7, 3) := by decide +kernel
theorem dX12_readClause_34 : decode cX12_readClause 34 = .ok (.iconst 1, 1) := by decide +kernel
theorem dX12_readClause_35 : decode cX12_readClause 35 = .ok (.goto 4, 3) := by decide +kernel
theorem dX12_readClause_38 : decode cX12_readClause 38 = .ok (.iconst 0, 1) := by decide +kernel
theorem dX12_readClause_39 : decode cX12_readClause 39 = .ok (.iadd, 1) := by decide +kernel
theorem dX12_readClause_40 : decode cX12_readClause 40 = .ok (.putfield 164, 3) := by decide +kernel
theorem dX12_readClause_43 : decode cX12_readClause 43 = .ok (.aload_n 0, 1) := by decide +kernel
theorem dX12_readClause_44 : decode cX12_readClause 44 = .ok (.getfield 41, 3) := by decide +kernel
theorem dX12_readClause_47 : decode cX12_readClause 47 = .ok (.iload_n 1, 1) := by decide +kernel
theorem dX12_readClause_48 : decode cX12_readClause 48 = .ok (.aload_n 0, 1) := by decide +kernel
theorem dX12_readClause_49 : decode cX12_readClause 49 = .ok (.invokevirtual 179, 3) := by decide +kernel
theorem dX12_readClause_52 : decode cX12_readClause 52 = .ok (.iastore, 1) := by decide +kernel
theorem dX12_readClause_53 : decode cX12_readClause 53 = .ok (.aload_n 0, 1) := by decide +kernel
theorem dX12_readClause_54 : decode cX12_readClause 54 = .ok (.getfield 44, 3) := by decide +kernel
theorem dX12_readClause_57 : decode cX12_readClause 57 = .ok (.iload_n 1, 1) := by decide +kernel
theorem dX12_readClause_58 : decode cX12_readClause 58 = .ok (.iconst 0, 1) := by decide +kernel
theorem dX12_readClause_59 : decode cX12_readClause 59 = .ok (.iastore, 1) := by decide +kernel
theorem dX12_readClause_60 : decode cX12_readClause 60 = .ok (.aload_n 0, 1) := by decide +kernel
theorem dX12_readClause_61 : decode cX12_readClause 61 = .ok (.getfield 41, 3) := by decide +kernel
theorem dX12_readClause_64 : decode cX12_readClause 64 = .ok (.iload_n 1, 1) := by decide +kernel
theorem dX12_readClause_65 : decode cX12_readClause 65 = .ok (.iaload, 1) := by decide +kernel
theorem dX12_readClause_66 : decode cX12_readClause 66 = .ok (.ifCond .eq 12, 3) := by decide +kernel
theorem dX12_readClause_69 : decode cX12_readClause 69 = .ok (.aload_n 0, 1) := by decide +kernel
theorem dX12_readClause_70 : decode cX12_readClause 70 = .ok (.getfield 47, 3) := by decide +kernel
theorem dX12_readClause_73 : decode cX12_readClause 73 = .ok (.iload_n 1, 1) := by decide +kernel
theorem dX12_readClause_74 : decode cX12_readClause 74 = .ok (.baload, 1) := by decide +kernel
theorem dX12_readClause_75 : decode cX12_readClause 75 = .ok (.ifCond .eq 18, 3) := by decide +kernel
theorem dX12_readClause_78 : decode cX12_readClause 78 = .ok (.aload_n 0, 1) := by decide +kernel
theorem dX12_readClause_79 : decode cX12_readClause 79 = .ok (.getfield 41, 3) := by decide +kernel
theorem dX12_readClause_82 : decode cX12_readClause 82 = .ok (.iload_n 1, 1) := by decide +kernel
theorem dX12_readClause_83 : decode cX12_readClause 83 = .ok (.iaload, 1) := by decide +kernel
theorem dX12_readClause_84 : decode cX12_readClause 84 = .ok (.ifCond .le 7, 3) := by decide +kernel
theorem dX12_readClause_87 : decode cX12_readClause 87 = .ok (.iconst 1, 1) := by decide +kernel
theorem dX12_readClause_88 : decode cX12_readClause 88 = .ok (.goto 4, 3) := by decide +kernel
theorem dX12_readClause_91 : decode cX12_readClause 91 = .ok (.iconst 0, 1) := by decide +kernel
theorem dX12_readClause_92 : decode cX12_readClause 92 = .ok (.ireturn, 1) := by decide +kernel
theorem dX12_readClause_93 : decode cX12_readClause 93 = .ok (.aload_n 0, 1) := by decide +kernel
theorem dX12_readClause_94 : decode cX12_readClause 94 = .ok (.invokevirtual 167, 3) := by decide +kernel
theorem dX12_readClause_97 : decode cX12_readClause 97 = .ok (.bipush 45, 2) := by decide +kernel
theorem dX12_readClause_99 : decode cX12_readClause 99 = .ok (.if_icmp .ne 7, 3) := by decide +kernel
theorem dX12_readClause_102 : decode cX12_readClause 102 = .ok (.iconst 1, 1) := by decide +kernel
theorem dX12_readClause_103 : decode cX12_readClause 103 = .ok (.goto 4, 3) := by decide +kernel
theorem dX12_readClause_106 : decode cX12_readClause 106 = .ok (.iconst 0, 1) := by decide +kernel
theorem dX12_readClause_107 : decode cX12_readClause 107 = .ok (.istore_n 2, 1) := by decide +kernel
theorem dX12_readClause_108 : decode cX12_readClause 108 = .ok (.aload_n 0, 1) := by decide +kernel
theorem dX12_readClause_109 : decode cX12_readClause 109 = .ok (.dup, 1) := by decide +kernel
theorem dX12_readClause_110 : decode cX12_readClause 110 = .ok (.getfield 164, 3) := by decide +kernel
theorem dX12_readClause_113 : decode cX12_readClause 113 = .ok (.iload_n 2, 1) := by decide +kernel
theorem dX12_readClause_114 : decode cX12_readClause 114 = .ok (.ifCond .eq 7, 3) := by decide +kernel
theorem dX12_readClause_117 : decode cX12_readClause 117 = .ok (.iconst 1, 1) := by decide +kernel
theorem dX12_readClause_118 : decode cX12_readClause 118 = .ok (.goto 4, 3) := by decide +kernel
theorem dX12_readClause_121 : decode cX12_readClause 121 = .ok (.iconst 0, 1) := by decide +kernel
theorem dX12_readClause_122 : decode cX12_readClause 122 = .ok (.iadd, 1) := by decide +kernel
theorem dX12_readClause_123 : decode cX12_readClause 123 = .ok (.putfield 164, 3) := by decide +kernel
theorem dX12_readClause_126 : decode cX12_readClause 126 = .ok (.aload_n 0, 1) := by decide +kernel
theorem dX12_readClause_127 : decode cX12_readClause 127 = .ok (.invokevirtual 182, 3) := by decide +kernel
theorem dX12_readClause_130 : decode cX12_readClause 130 = .ok (.istore_n 3, 1) := by decide +kernel
theorem dX12_readClause_131 : decode cX12_readClause 131 = .ok (.aload_n 0, 1) := by decide +kernel
theorem dX12_readClause_132 : decode cX12_readClause 132 = .ok (.getfield 44, 3) := by decide +kernel
theorem dX12_readClause_135 : decode cX12_readClause 135 = .ok (.iload_n 1, 1) := by decide +kernel
theorem dX12_readClause_136 : decode cX12_readClause 136 = .ok (.iload_n 2, 1) := by decide +kernel
theorem dX12_readClause_137 : decode cX12_readClause 137 = .ok (.ifCond .eq 8, 3) := by decide +kernel
theorem dX12_readClause_140 : decode cX12_readClause 140 = .ok (.iload_n 3, 1) := by decide +kernel
theorem dX12_readClause_141 : decode cX12_readClause 141 = .ok (.ineg, 1) := by decide +kernel
theorem dX12_readClause_142 : decode cX12_readClause 142 = .ok (.goto 4, 3) := by decide +kernel
theorem dX12_readClause_145 : decode cX12_readClause 145 = .ok (.iload_n 3, 1) := by decide +kernel
theorem dX12_readClause_146 : decode cX12_readClause 146 = .ok (.iastore, 1) := by decide +kernel
theorem dX12_readClause_147 : decode cX12_readClause 147 = .ok (.iload_n 3, 1) := by decide +kernel
theorem dX12_readClause_148 : decode cX12_readClause 148 = .ok (.ifCond .lt 7, 3) := by decide +kernel
theorem dX12_readClause_151 : decode cX12_readClause 151 = .ok (.iconst 1, 1) := by decide +kernel
theorem dX12_readClause_152 : decode cX12_readClause 152 = .ok (.goto 4, 3) := by decide +kernel
theorem dX12_readClause_155 : decode cX12_readClause 155 = .ok (.iconst 0, 1) := by decide +kernel
theorem dX12_readClause_156 : decode cX12_readClause 156 = .ok (.ireturn, 1) := by decide +kernel
theorem dX12_readAll_0 : decode cX12_readAll 0 = .ok (.aload_n 0, 1) := by decide +kernel
theorem dX12_readAll_1 : decode cX12_readAll 1 = .ok (.iconst 0, 1) := by decide +kernel
theorem dX12_readAll_2 : decode cX12_readAll 2 = .ok (.putfield 164, 3) := by decide +kernel
theorem dX12_readAll_5 : decode cX12_readAll 5 = .ok (.iconst 0, 1) := by decide +kernel
theorem dX12_readAll_6 : decode cX12_readAll 6 = .ok (.istore_n 1, 1) := by decide +kernel
theorem dX12_readAll_7 : decode cX12_readAll 7 = .ok (.iconst 1, 1) := by decide +kernel
theorem dX12_readAll_8 : decode cX12_readAll 8 = .ok (.istore_n 2, 1) := by decide +kernel
theorem dX12_readAll_9 : decode cX12_readAll 9 = .ok (.iload_n 2, 1) := by decide +kernel
theorem dX12_readAll_10 : decode cX12_readAll 10 = .ok (.ifCond .eq 70, 3) := by decide +kernel
theorem dX12_readAll_13 : decode cX12_readAll 13 = .ok (.aload_n 0, 1) := by decide +kernel
theorem dX12_readAll_14 : decode cX12_readAll 14 = .ok (.iload_n 1, 1) := by decide +kernel
theorem dX12_readAll_15 : decode cX12_readAll 15 = .ok (.invokevirtual 185, 3) := by decide +kernel
theorem dX12_readAll_18 : decode cX12_readAll 18 = .ok (.ifCond .ne 5, 3) := by decide +kernel
theorem dX12_readAll_21 : decode cX12_readAll 21 = .ok (.iconst (-1), 1) := by decide +kernel
theorem dX12_readAll_22 : decode cX12_readAll 22 = .ok (.ireturn, 1) := by decide +kernel
theorem dX12_readAll_23 : decode cX12_readAll 23 = .ok (.iinc 1 1, 3) := by decide +kernel
theorem dX12_readAll_26 : decode cX12_readAll 26 = .ok (.aload_n 0, 1) := by decide +kernel
theorem dX12_readAll_27 : decode cX12_readAll 27 = .ok (.invokevirtual 167, 3) := by decide +kernel
theorem dX12_readAll_30 : decode cX12_readAll 30 = .ok (.istore_n 3, 1) := by decide +kernel
theorem dX12_readAll_31 : decode cX12_readAll 31 = .ok (.iload_n 3, 1) := by decide +kernel
theorem dX12_readAll_32 : decode cX12_readAll 32 = .ok (.ifCond .lt 17, 3) := by decide +kernel
theorem dX12_readAll_35 : decode cX12_readAll 35 = .ok (.iload_n 3, 1) := by decide +kernel
theorem dX12_readAll_36 : decode cX12_readAll 36 = .ok (.bipush 59, 2) := by decide +kernel
theorem dX12_readAll_38 : decode cX12_readAll 38 = .ok (.if_icmp .ne 9, 3) := by decide +kernel
theorem dX12_readAll_41 : decode cX12_readAll 41 = .ok (.iload_n 1, 1) := by decide +kernel
theorem dX12_readAll_42 : decode cX12_readAll 42 = .ok (.bipush 12, 2) := by decide +kernel
theorem dX12_readAll_44 : decode cX12_readAll 44 = .ok (.if_icmp .ne 5, 3) := by decide +kernel
theorem dX12_readAll_47 : decode cX12_readAll 47 = .ok (.iconst (-1), 1) := by decide +kernel
theorem dX12_readAll_48 : decode cX12_readAll 48 = .ok (.ireturn, 1) := by decide +kernel
theorem dX12_readAll_49 : decode cX12_readAll 49 = .ok (.iload_n 3, 1) := by decide +kernel
theorem dX12_readAll_50 : decode cX12_readAll 50 = .ok (.ifCond .lt 7, 3) := by decide +kernel
theorem dX12_readAll_53 : decode cX12_readAll 53 = .ok (.iconst 1, 1) := by decide +kernel
theorem dX12_readAll_54 : decode cX12_readAll 54 = .ok (.goto 4, 3) := by decide +kernel
theorem dX12_readAll_57 : decode cX12_readAll 57 = .ok (.iconst 0, 1) := by decide +kernel
theorem dX12_readAll_58 : decode cX12_readAll 58 = .ok (.istore_n 2, 1) := by decide +kernel
theorem dX12_readAll_59 : decode cX12_readAll 59 = .ok (.aload_n 0, 1) := by decide +kernel
theorem dX12_readAll_60 : decode cX12_readAll 60 = .ok (.dup, 1) := by decide +kernel
theorem dX12_readAll_61 : decode cX12_readAll 61 = .ok (.getfield 164, 3) := by decide +kernel
theorem dX12_readAll_64 : decode cX12_readAll 64 = .ok (.iload_n 2, 1) := by decide +kernel
theorem dX12_readAll_65 : decode cX12_readAll 65 = .ok (.ifCond .eq 7, 3) := by decide +kernel
theorem dX12_readAll_68 : decode cX12_readAll 68 = .ok (.iconst 1, 1) := by decide +kernel
theorem dX12_readAll_69 : decode cX12_readAll 69 = .ok (.goto 4, 3) := by decide +kernel
theorem dX12_readAll_72 : decode cX12_readAll 72 = .ok (.iconst 0, 1) := by decide +kernel
theorem dX12_readAll_73 : decode cX12_readAll 73 = .ok (.iadd, 1) := by decide +kernel
theorem dX12_readAll_74 : decode cX12_readAll 74 = .ok (.putfield 164, 3) := by decide +kernel
theorem dX12_readAll_77 : decode cX12_readAll 77 = .ok (.goto (-68), 3) := by decide +kernel
theorem dX12_readAll_80 : decode cX12_readAll 80 = .ok (.iload_n 1, 1) := by decide +kernel
theorem dX12_readAll_81 : decode cX12_readAll 81 = .ok (.ireturn, 1) := by decide +kernel
theorem dX12_keepClause_0 : decode cX12_keepClause 0 = .ok (.aload_n 0, 1) := by decide +kernel
theorem dX12_keepClause_1 : decode cX12_keepClause 1 = .ok (.getfield 28, 3) := by decide +kernel
theorem dX12_keepClause_4 : decode cX12_keepClause 4 = .ok (.bipush 12, 2) := by decide +kernel
theorem dX12_keepClause_6 : decode cX12_keepClause 6 = .ok (.iload_n 1, 1) := by decide +kernel
theorem dX12_keepClause_7 : decode cX12_keepClause 7 = .ok (.imul, 1) := by decide +kernel
theorem dX12_keepClause_8 : decode cX12_keepClause 8 = .ok (.iload_n 2, 1) := by decide +kernel
theorem dX12_keepClause_9 : decode cX12_keepClause 9 = .ok (.iadd, 1) := by decide +kernel
theorem dX12_keepClause_10 : decode cX12_keepClause 10 = .ok (.iload_n 3, 1) := by decide +kernel
theorem dX12_keepClause_11 : decode cX12_keepClause 11 = .ok (.iastore, 1) := by decide +kernel
theorem dX12_keepClause_12 : decode cX12_keepClause 12 = .ok (.aload_n 0, 1) := by decide +kernel
theorem dX12_keepClause_13 : decode cX12_keepClause 13 = .ok (.getfield 31, 3) := by decide +kernel
theorem dX12_keepClause_16 : decode cX12_keepClause 16 = .ok (.bipush 12, 2) := by decide +kernel
theorem dX12_keepClause_18 : decode cX12_keepClause 18 = .ok (.iload_n 1, 1) := by decide +kernel
theorem dX12_keepClause_19 : decode cX12_keepClause 19 = .ok (.imul, 1) := by decide +kernel
theorem dX12_keepClause_20 : decode cX12_keepClause 20 = .ok (.iload_n 2, 1) := by decide +kernel
theorem dX12_keepClause_21 : decode cX12_keepClause 21 = .ok (.iadd, 1) := by decide +kernel
theorem dX12_keepClause_22 : decode cX12_keepClause 22 = .ok (.iload 4, 2) := by decide +kernel
theorem dX12_keepClause_24 : decode cX12_keepClause 24 = .ok (.iastore, 1) := by decide +kernel
theorem dX12_keepClause_25 : decode cX12_keepClause 25 = .ok (.aload_n 0, 1) := by decide +kernel
theorem dX12_keepClause_26 : decode cX12_keepClause 26 = .ok (.getfield 34, 3) := by decide +kernel
theorem dX12_keepClause_29 : decode cX12_keepClause 29 = .ok (.bipush 12, 2) := by decide +kernel
