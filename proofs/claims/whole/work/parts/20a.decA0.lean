theorem d_V_init_0 : decode b_V_init 0 = .ok (.aload_n 0, 1) := by decide +kernel
theorem d_V_init_1 : decode b_V_init 1 = .ok (.invokespecial 1, 3) := by decide +kernel
theorem d_V_init_4 : decode b_V_init 4 = .ok (.aload_n 0, 1) := by decide +kernel
theorem d_V_init_5 : decode b_V_init 5 = .ok (.bipush 8, 2) := by decide +kernel
theorem d_V_init_7 : decode b_V_init 7 = .ok (.newarray .int, 2) := by decide +kernel
theorem d_V_init_9 : decode b_V_init 9 = .ok (.putfield 9, 3) := by decide +kernel
theorem d_V_init_12 : decode b_V_init 12 = .ok (.aload_n 0, 1) := by decide +kernel
theorem d_V_init_13 : decode b_V_init 13 = .ok (.bipush 8, 2) := by decide +kernel
theorem d_V_init_15 : decode b_V_init 15 = .ok (.newarray .long, 2) := by decide +kernel
theorem d_V_init_17 : decode b_V_init 17 = .ok (.putfield 13, 3) := by decide +kernel
theorem d_V_init_20 : decode b_V_init 20 = .ok (.aload_n 0, 1) := by decide +kernel
theorem d_V_init_21 : decode b_V_init 21 = .ok (.bipush 8, 2) := by decide +kernel
theorem d_V_init_23 : decode b_V_init 23 = .ok (.newarray .long, 2) := by decide +kernel
theorem d_V_init_25 : decode b_V_init 25 = .ok (.putfield 17, 3) := by decide +kernel
theorem d_V_init_28 : decode b_V_init 28 = .ok (.aload_n 0, 1) := by decide +kernel
theorem d_V_init_29 : decode b_V_init 29 = .ok (.bipush 8, 2) := by decide +kernel
theorem d_V_init_31 : decode b_V_init 31 = .ok (.newarray .int, 2) := by decide +kernel
theorem d_V_init_33 : decode b_V_init 33 = .ok (.putfield 20, 3) := by decide +kernel
theorem d_V_init_36 : decode b_V_init 36 = .ok (.iconst 0, 1) := by decide +kernel
theorem d_V_init_37 : decode b_V_init 37 = .ok (.istore_n 1, 1) := by decide +kernel
theorem d_V_init_38 : decode b_V_init 38 = .ok (.iload_n 1, 1) := by decide +kernel
theorem d_V_init_39 : decode b_V_init 39 = .ok (.bipush 8, 2) := by decide +kernel
theorem d_V_init_41 : decode b_V_init 41 = .ok (.if_icmp .ge 16, 3) := by decide +kernel
theorem d_V_init_44 : decode b_V_init 44 = .ok (.aload_n 0, 1) := by decide +kernel
theorem d_V_init_45 : decode b_V_init 45 = .ok (.getfield 20, 3) := by decide +kernel
theorem d_V_init_48 : decode b_V_init 48 = .ok (.iload_n 1, 1) := by decide +kernel
theorem d_V_init_49 : decode b_V_init 49 = .ok (.iconst (-1), 1) := by decide +kernel
theorem d_V_init_50 : decode b_V_init 50 = .ok (.iastore, 1) := by decide +kernel
theorem d_V_init_51 : decode b_V_init 51 = .ok (.iinc 1 1, 3) := by decide +kernel
theorem d_V_init_54 : decode b_V_init 54 = .ok (.goto (-16), 3) := by decide +kernel
theorem d_V_init_57 : decode b_V_init 57 = .ok (.aload_n 0, 1) := by decide +kernel
theorem d_V_init_58 : decode b_V_init 58 = .ok (.bipush 6, 2) := by decide +kernel
theorem d_V_init_60 : decode b_V_init 60 = .ok (.anewarray 23, 3) := by decide +kernel
theorem d_V_init_63 : decode b_V_init 63 = .ok (.putfield 25, 3) := by decide +kernel
theorem d_V_init_66 : decode b_V_init 66 = .ok (.aload_n 0, 1) := by decide +kernel
theorem d_V_init_67 : decode b_V_init 67 = .ok (.bipush 6, 2) := by decide +kernel
theorem d_V_init_69 : decode b_V_init 69 = .ok (.anewarray 29, 3) := by decide +kernel
theorem d_V_init_72 : decode b_V_init 72 = .ok (.putfield 31, 3) := by decide +kernel
theorem d_V_init_75 : decode b_V_init 75 = .ok (.aload_n 0, 1) := by decide +kernel
theorem d_V_init_76 : decode b_V_init 76 = .ok (.bipush 8, 2) := by decide +kernel
theorem d_V_init_78 : decode b_V_init 78 = .ok (.newarray .int, 2) := by decide +kernel
theorem d_V_init_80 : decode b_V_init 80 = .ok (.putfield 35, 3) := by decide +kernel
theorem d_V_init_83 : decode b_V_init 83 = .ok (.aload_n 0, 1) := by decide +kernel
theorem d_V_init_84 : decode b_V_init 84 = .ok (.iconst 4, 1) := by decide +kernel
theorem d_V_init_85 : decode b_V_init 85 = .ok (.newarray .int, 2) := by decide +kernel
theorem d_V_init_87 : decode b_V_init 87 = .ok (.putfield 38, 3) := by decide +kernel
theorem d_V_init_90 : decode b_V_init 90 = .ok (.aload_n 0, 1) := by decide +kernel
theorem d_V_init_91 : decode b_V_init 91 = .ok (.iconst 4, 1) := by decide +kernel
theorem d_V_init_92 : decode b_V_init 92 = .ok (.newarray .int, 2) := by decide +kernel
theorem d_V_init_94 : decode b_V_init 94 = .ok (.putfield 41, 3) := by decide +kernel
theorem d_V_init_97 : decode b_V_init 97 = .ok (.return_, 1) := by decide +kernel
theorem d_V_isOutside_0 : decode b_V_isOutside 0 = .ok (.iload_n 0, 1) := by decide +kernel
theorem d_V_isOutside_1 : decode b_V_isOutside 1 = .ok (.iload_n 1, 1) := by decide +kernel
theorem d_V_isOutside_2 : decode b_V_isOutside 2 = .ok (.if_icmp .lt 8, 3) := by decide +kernel
theorem d_V_isOutside_5 : decode b_V_isOutside 5 = .ok (.iload_n 0, 1) := by decide +kernel
theorem d_V_isOutside_6 : decode b_V_isOutside 6 = .ok (.iload_n 2, 1) := by decide +kernel
theorem d_V_isOutside_7 : decode b_V_isOutside 7 = .ok (.if_icmp .le 7, 3) := by decide +kernel
theorem d_V_isOutside_10 : decode b_V_isOutside 10 = .ok (.iconst 1, 1) := by decide +kernel
theorem d_V_isOutside_11 : decode b_V_isOutside 11 = .ok (.goto 4, 3) := by decide +kernel
theorem d_V_isOutside_14 : decode b_V_isOutside 14 = .ok (.iconst 0, 1) := by decide +kernel
theorem d_V_isOutside_15 : decode b_V_isOutside 15 = .ok (.ireturn, 1) := by decide +kernel
theorem d_V_account_0 : decode b_V_account 0 = .ok (.iload_n 1, 1) := by decide +kernel
theorem d_V_account_1 : decode b_V_account 1 = .ok (.iconst 0, 1) := by decide +kernel
theorem d_V_account_2 : decode b_V_account 2 = .ok (.sipush 1000, 3) := by decide +kernel
theorem d_V_account_5 : decode b_V_account 5 = .ok (.invokestatic 44, 3) := by decide +kernel
theorem d_V_account_8 : decode b_V_account 8 = .ok (.ifCond .ne 13, 3) := by decide +kernel
theorem d_V_account_11 : decode b_V_account 11 = .ok (.iload_n 2, 1) := by decide +kernel
theorem d_V_account_12 : decode b_V_account 12 = .ok (.iconst 0, 1) := by decide +kernel
theorem d_V_account_13 : decode b_V_account 13 = .ok (.ldc 48, 2) := by decide +kernel
theorem d_V_account_15 : decode b_V_account 15 = .ok (.invokestatic 44, 3) := by decide +kernel
theorem d_V_account_18 : decode b_V_account 18 = .ok (.ifCond .eq 6, 3) := by decide +kernel
theorem d_V_account_21 : decode b_V_account 21 = .ok (.bipush (-2), 2) := by decide +kernel
theorem d_V_account_23 : decode b_V_account 23 = .ok (.ireturn, 1) := by decide +kernel
theorem d_V_account_24 : decode b_V_account 24 = .ok (.aload_n 0, 1) := by decide +kernel
theorem d_V_account_25 : decode b_V_account 25 = .ok (.getfield 49, 3) := by decide +kernel
theorem d_V_account_28 : decode b_V_account 28 = .ok (.bipush 8, 2) := by decide +kernel
theorem d_V_account_30 : decode b_V_account 30 = .ok (.if_icmp .lt 6, 3) := by decide +kernel
theorem d_V_account_33 : decode b_V_account 33 = .ok (.bipush (-4), 2) := by decide +kernel
theorem d_V_account_35 : decode b_V_account 35 = .ok (.ireturn, 1) := by decide +kernel
theorem d_V_account_36 : decode b_V_account 36 = .ok (.aload_n 0, 1) := by decide +kernel
theorem d_V_account_37 : decode b_V_account 37 = .ok (.getfield 49, 3) := by decide +kernel
theorem d_V_account_40 : decode b_V_account 40 = .ok (.istore_n 3, 1) := by decide +kernel
theorem d_V_account_41 : decode b_V_account 41 = .ok (.aload_n 0, 1) := by decide +kernel
theorem d_V_account_42 : decode b_V_account 42 = .ok (.getfield 9, 3) := by decide +kernel
theorem d_V_account_45 : decode b_V_account 45 = .ok (.iload_n 3, 1) := by decide +kernel
theorem d_V_account_46 : decode b_V_account 46 = .ok (.iload_n 1, 1) := by decide +kernel
theorem d_V_account_47 : decode b_V_account 47 = .ok (.iastore, 1) := by decide +kernel
theorem d_V_account_48 : decode b_V_account 48 = .ok (.aload_n 0, 1) := by decide +kernel
theorem d_V_account_49 : decode b_V_account 49 = .ok (.getfield 13, 3) := by decide +kernel
theorem d_V_account_52 : decode b_V_account 52 = .ok (.iload_n 3, 1) := by decide +kernel
theorem d_V_account_53 : decode b_V_account 53 = .ok (.iload_n 2, 1) := by decide +kernel
theorem d_V_account_54 : decode b_V_account 54 = .ok (.i2l, 1) := by decide +kernel
theorem d_V_account_55 : decode b_V_account 55 = .ok (.lastore, 1) := by decide +kernel
theorem d_V_account_56 : decode b_V_account 56 = .ok (.aload_n 0, 1) := by decide +kernel
theorem d_V_account_57 : decode b_V_account 57 = .ok (.dup, 1) := by decide +kernel
theorem d_V_account_58 : decode b_V_account 58 = .ok (.getfield 49, 3) := by decide +kernel
theorem d_V_account_61 : decode b_V_account 61 = .ok (.iconst 1, 1) := by decide +kernel
theorem d_V_account_62 : decode b_V_account 62 = .ok (.iadd, 1) := by decide +kernel
theorem d_V_account_63 : decode b_V_account 63 = .ok (.putfield 49, 3) := by decide +kernel
theorem d_V_account_66 : decode b_V_account 66 = .ok (.iload_n 3, 1) := by decide +kernel
theorem d_V_account_67 : decode b_V_account 67 = .ok (.ireturn, 1) := by decide +kernel
theorem d_V_isNoAccount_0 : decode b_V_isNoAccount 0 = .ok (.iload_n 1, 1) := by decide +kernel
theorem d_V_isNoAccount_1 : decode b_V_isNoAccount 1 = .ok (.ifCond .lt 17, 3) := by decide +kernel
theorem d_V_isNoAccount_4 : decode b_V_isNoAccount 4 = .ok (.iload_n 1, 1) := by decide +kernel
theorem d_V_isNoAccount_5 : decode b_V_isNoAccount 5 = .ok (.aload_n 0, 1) := by decide +kernel
theorem d_V_isNoAccount_6 : decode b_V_isNoAccount 6 = .ok (.getfield 49, 3) := by decide +kernel
theorem d_V_isNoAccount_9 : decode b_V_isNoAccount 9 = .ok (.if_icmp .ge 9, 3) := by decide +kernel
theorem d_V_isNoAccount_12 : decode b_V_isNoAccount 12 = .ok (.iload_n 1, 1) := by decide +kernel
theorem d_V_isNoAccount_13 : decode b_V_isNoAccount 13 = .ok (.bipush 8, 2) := by decide +kernel
theorem d_V_isNoAccount_15 : decode b_V_isNoAccount 15 = .ok (.if_icmp .lt 7, 3) := by decide +kernel
theorem d_V_isNoAccount_18 : decode b_V_isNoAccount 18 = .ok (.iconst 1, 1) := by decide +kernel
theorem d_V_isNoAccount_19 : decode b_V_isNoAccount 19 = .ok (.goto 4, 3) := by decide +kernel
theorem d_V_isNoAccount_22 : decode b_V_isNoAccount 22 = .ok (.iconst 0, 1) := by decide +kernel
theorem d_V_isNoAccount_23 : decode b_V_isNoAccount 23 = .ok (.ireturn, 1) := by decide +kernel
theorem d_V_weigh_0 : decode b_V_weigh 0 = .ok (.aload_n 0, 1) := by decide +kernel
theorem d_V_weigh_1 : decode b_V_weigh 1 = .ok (.iload_n 1, 1) := by decide +kernel
theorem d_V_weigh_2 : decode b_V_weigh 2 = .ok (.invokevirtual 53, 3) := by decide +kernel
theorem d_V_weigh_5 : decode b_V_weigh 5 = .ok (.ifCond .eq 5, 3) := by decide +kernel
theorem d_V_weigh_8 : decode b_V_weigh 8 = .ok (.iconst (-1), 1) := by decide +kernel
theorem d_V_weigh_9 : decode b_V_weigh 9 = .ok (.ireturn, 1) := by decide +kernel
theorem d_V_weigh_10 : decode b_V_weigh 10 = .ok (.iload_n 2, 1) := by decide +kernel
theorem d_V_weigh_11 : decode b_V_weigh 11 = .ok (.iconst 0, 1) := by decide +kernel
theorem d_V_weigh_12 : decode b_V_weigh 12 = .ok (.sipush 1000, 3) := by decide +kernel
theorem d_V_weigh_15 : decode b_V_weigh 15 = .ok (.invokestatic 44, 3) := by decide +kernel
theorem d_V_weigh_18 : decode b_V_weigh 18 = .ok (.ifCond .eq 6, 3) := by decide +kernel
theorem d_V_weigh_21 : decode b_V_weigh 21 = .ok (.bipush (-2), 2) := by decide +kernel
theorem d_V_weigh_23 : decode b_V_weigh 23 = .ok (.ireturn, 1) := by decide +kernel
theorem d_V_weigh_24 : decode b_V_weigh 24 = .ok (.aload_n 0, 1) := by decide +kernel
theorem d_V_weigh_25 : decode b_V_weigh 25 = .ok (.getfield 9, 3) := by decide +kernel
theorem d_V_weigh_28 : decode b_V_weigh 28 = .ok (.iload_n 1, 1) := by decide +kernel
theorem d_V_weigh_29 : decode b_V_weigh 29 = .ok (.iaload, 1) := by decide +kernel
theorem d_V_weigh_30 : decode b_V_weigh 30 = .ok (.istore_n 3, 1) := by decide +kernel
theorem d_V_weigh_31 : decode b_V_weigh 31 = .ok (.aload_n 0, 1) := by decide +kernel
theorem d_V_weigh_32 : decode b_V_weigh 32 = .ok (.getfield 9, 3) := by decide +kernel
theorem d_V_weigh_35 : decode b_V_weigh 35 = .ok (.iload_n 1, 1) := by decide +kernel
theorem d_V_weigh_36 : decode b_V_weigh 36 = .ok (.iload_n 2, 1) := by decide +kernel
theorem d_V_weigh_37 : decode b_V_weigh 37 = .ok (.iastore, 1) := by decide +kernel
theorem d_V_weigh_38 : decode b_V_weigh 38 = .ok (.iload_n 3, 1) := by decide +kernel
theorem d_V_weigh_39 : decode b_V_weigh 39 = .ok (.ireturn, 1) := by decide +kernel
theorem d_V_fund_0 : decode b_V_fund 0 = .ok (.aload_n 0, 1) := by decide +kernel
theorem d_V_fund_1 : decode b_V_fund 1 = .ok (.iload_n 1, 1) := by decide +kernel
theorem d_V_fund_2 : decode b_V_fund 2 = .ok (.invokevirtual 53, 3) := by decide +kernel
theorem d_V_fund_5 : decode b_V_fund 5 = .ok (.ifCond .eq 5, 3) := by decide +kernel
theorem d_V_fund_8 : decode b_V_fund 8 = .ok (.iconst (-1), 1) := by decide +kernel
theorem d_V_fund_9 : decode b_V_fund 9 = .ok (.ireturn, 1) := by decide +kernel
theorem d_V_fund_10 : decode b_V_fund 10 = .ok (.iload_n 2, 1) := by decide +kernel
theorem d_V_fund_11 : decode b_V_fund 11 = .ok (.iconst 0, 1) := by decide +kernel
theorem d_V_fund_12 : decode b_V_fund 12 = .ok (.ldc 57, 2) := by decide +kernel
theorem d_V_fund_14 : decode b_V_fund 14 = .ok (.invokestatic 44, 3) := by decide +kernel
theorem d_V_fund_17 : decode b_V_fund 17 = .ok (.ifCond .eq 6, 3) := by decide +kernel
theorem d_V_fund_20 : decode b_V_fund 20 = .ok (.bipush (-2), 2) := by decide +kernel
theorem d_V_fund_22 : decode b_V_fund 22 = .ok (.ireturn, 1) := by decide +kernel
theorem d_V_fund_23 : decode b_V_fund 23 = .ok (.aload_n 0, 1) := by decide +kernel
theorem d_V_fund_24 : decode b_V_fund 24 = .ok (.getfield 13, 3) := by decide +kernel
theorem d_V_fund_27 : decode b_V_fund 27 = .ok (.iload_n 1, 1) := by decide +kernel
theorem d_V_fund_28 : decode b_V_fund 28 = .ok (.dup2, 1) := by decide +kernel
theorem d_V_fund_29 : decode b_V_fund 29 = .ok (.laload, 1) := by decide +kernel
theorem d_V_fund_30 : decode b_V_fund 30 = .ok (.iload_n 2, 1) := by decide +kernel
theorem d_V_fund_31 : decode b_V_fund 31 = .ok (.i2l, 1) := by decide +kernel
theorem d_V_fund_32 : decode b_V_fund 32 = .ok (.ladd, 1) := by decide +kernel
theorem d_V_fund_33 : decode b_V_fund 33 = .ok (.lastore, 1) := by decide +kernel
theorem d_V_fund_34 : decode b_V_fund 34 = .ok (.iconst 1, 1) := by decide +kernel
theorem d_V_fund_35 : decode b_V_fund 35 = .ok (.ireturn, 1) := by decide +kernel
theorem d_V_speak_0 : decode b_V_speak 0 = .ok (.aload_n 0, 1) := by decide +kernel
theorem d_V_speak_1 : decode b_V_speak 1 = .ok (.iload_n 1, 1) := by decide +kernel
theorem d_V_speak_2 : decode b_V_speak 2 = .ok (.invokevirtual 53, 3) := by decide +kernel
theorem d_V_speak_5 : decode b_V_speak 5 = .ok (.ifCond .ne 11, 3) := by decide +kernel
theorem d_V_speak_8 : decode b_V_speak 8 = .ok (.aload_n 0, 1) := by decide +kernel
theorem d_V_speak_9 : decode b_V_speak 9 = .ok (.iload_n 2, 1) := by decide +kernel
theorem d_V_speak_10 : decode b_V_speak 10 = .ok (.invokevirtual 53, 3) := by decide +kernel
theorem d_V_speak_13 : decode b_V_speak 13 = .ok (.ifCond .eq 5, 3) := by decide +kernel
theorem d_V_speak_16 : decode b_V_speak 16 = .ok (.iconst (-1), 1) := by decide +kernel
theorem d_V_speak_17 : decode b_V_speak 17 = .ok (.ireturn, 1) := by decide +kernel
theorem d_V_speak_18 : decode b_V_speak 18 = .ok (.aload_n 0, 1) := by decide +kernel
theorem d_V_speak_19 : decode b_V_speak 19 = .ok (.getfield 20, 3) := by decide +kernel
theorem d_V_speak_22 : decode b_V_speak 22 = .ok (.iload_n 1, 1) := by decide +kernel
theorem d_V_speak_23 : decode b_V_speak 23 = .ok (.iaload, 1) := by decide +kernel
theorem d_V_speak_24 : decode b_V_speak 24 = .ok (.istore_n 3, 1) := by decide +kernel
theorem d_V_speak_25 : decode b_V_speak 25 = .ok (.aload_n 0, 1) := by decide +kernel
theorem d_V_speak_26 : decode b_V_speak 26 = .ok (.getfield 20, 3) := by decide +kernel
theorem d_V_speak_29 : decode b_V_speak 29 = .ok (.iload_n 1, 1) := by decide +kernel
theorem d_V_speak_30 : decode b_V_speak 30 = .ok (.iload_n 2, 1) := by decide +kernel
theorem d_V_speak_31 : decode b_V_speak 31 = .ok (.iload_n 1, 1) := by decide +kernel
theorem d_V_speak_32 : decode b_V_speak 32 = .ok (.if_icmp .ne 7, 3) := by decide +kernel
theorem d_V_speak_35 : decode b_V_speak 35 = .ok (.iconst (-1), 1) := by decide +kernel
theorem d_V_speak_36 : decode b_V_speak 36 = .ok (.goto 4, 3) := by decide +kernel
theorem d_V_speak_39 : decode b_V_speak 39 = .ok (.iload_n 2, 1) := by decide +kernel
theorem d_V_speak_40 : decode b_V_speak 40 = .ok (.iastore, 1) := by decide +kernel
theorem d_V_speak_41 : decode b_V_speak 41 = .ok (.iload_n 3, 1) := by decide +kernel
theorem d_V_speak_42 : decode b_V_speak 42 = .ok (.iconst (-1), 1) := by decide +kernel
theorem d_V_speak_43 : decode b_V_speak 43 = .ok (.if_icmp .ne 7, 3) := by decide +kernel
theorem d_V_speak_46 : decode b_V_speak 46 = .ok (.iload_n 1, 1) := by decide +kernel
theorem d_V_speak_47 : decode b_V_speak 47 = .ok (.goto 4, 3) := by decide +kernel
theorem d_V_speak_50 : decode b_V_speak 50 = .ok (.iload_n 3, 1) := by decide +kernel
theorem d_V_speak_51 : decode b_V_speak 51 = .ok (.ireturn, 1) := by decide +kernel
theorem d_V_holds_0 : decode b_V_holds 0 = .ok (.aload_n 0, 1) := by decide +kernel
theorem d_V_holds_1 : decode b_V_holds 1 = .ok (.iload_n 1, 1) := by decide +kernel
theorem d_V_holds_2 : decode b_V_holds 2 = .ok (.invokevirtual 53, 3) := by decide +kernel
theorem d_V_holds_5 : decode b_V_holds 5 = .ok (.ifCond .eq 7, 3) := by decide +kernel
theorem d_V_holds_8 : decode b_V_holds 8 = .ok (.ldc2_w 58, 3) := by decide +kernel
theorem d_V_holds_11 : decode b_V_holds 11 = .ok (.lreturn, 1) := by decide +kernel
theorem d_V_holds_12 : decode b_V_holds 12 = .ok (.iload_n 2, 1) := by decide +kernel
theorem d_V_holds_13 : decode b_V_holds 13 = .ok (.tableswitch 49 0 2 #[27, 35, 42], 27) := by decide +kernel
theorem d_V_holds_40 : decode b_V_holds 40 = .ok (.aload_n 0, 1) := by decide +kernel
theorem d_V_holds_41 : decode b_V_holds 41 = .ok (.getfield 9, 3) := by decide +kernel
theorem d_V_holds_44 : decode b_V_holds 44 = .ok (.iload_n 1, 1) := by decide +kernel
theorem d_V_holds_45 : decode b_V_holds 45 = .ok (.iaload, 1) := by decide +kernel
theorem d_V_holds_46 : decode b_V_holds 46 = .ok (.i2l, 1) := by decide +kernel
theorem d_V_holds_47 : decode b_V_holds 47 = .ok (.lreturn, 1) := by decide +kernel
theorem d_V_holds_48 : decode b_V_holds 48 = .ok (.aload_n 0, 1) := by decide +kernel
theorem d_V_holds_49 : decode b_V_holds 49 = .ok (.getfield 13, 3) := by decide +kernel
theorem d_V_holds_52 : decode b_V_holds 52 = .ok (.iload_n 1, 1) := by decide +kernel
theorem d_V_holds_53 : decode b_V_holds 53 = .ok (.laload, 1) := by decide +kernel
theorem d_V_holds_54 : decode b_V_holds 54 = .ok (.lreturn, 1) := by decide +kernel
theorem d_V_holds_55 : decode b_V_holds 55 = .ok (.aload_n 0, 1) := by decide +kernel
theorem d_V_holds_56 : decode b_V_holds 56 = .ok (.getfield 17, 3) := by decide +kernel
theorem d_V_holds_59 : decode b_V_holds 59 = .ok (.iload_n 1, 1) := by decide +kernel
theorem d_V_holds_60 : decode b_V_holds 60 = .ok (.laload, 1) := by decide +kernel
theorem d_V_holds_61 : decode b_V_holds 61 = .ok (.lreturn, 1) := by decide +kernel
theorem d_V_holds_62 : decode b_V_holds 62 = .ok (.ldc2_w 60, 3) := by decide +kernel
theorem d_V_holds_65 : decode b_V_holds 65 = .ok (.lreturn, 1) := by decide +kernel
theorem d_V_pot_0 : decode b_V_pot 0 = .ok (.aload_n 0, 1) := by decide +kernel
theorem d_V_pot_1 : decode b_V_pot 1 = .ok (.getfield 62, 3) := by decide +kernel
theorem d_V_pot_4 : decode b_V_pot 4 = .ok (.lreturn, 1) := by decide +kernel
theorem d_V_endQuestions_0 : decode b_V_endQuestions 0 = .ok (.iconst 0, 1) := by decide +kernel
theorem d_V_endQuestions_1 : decode b_V_endQuestions 1 = .ok (.istore_n 1, 1) := by decide +kernel
theorem d_V_endQuestions_2 : decode b_V_endQuestions 2 = .ok (.iload_n 1, 1) := by decide +kernel
theorem d_V_endQuestions_3 : decode b_V_endQuestions 3 = .ok (.bipush 6, 2) := by decide +kernel
theorem d_V_endQuestions_5 : decode b_V_endQuestions 5 = .ok (.if_icmp .ge 46, 3) := by decide +kernel
theorem d_V_endQuestions_8 : decode b_V_endQuestions 8 = .ok (.aload_n 0, 1) := by decide +kernel
theorem d_V_endQuestions_9 : decode b_V_endQuestions 9 = .ok (.getfield 25, 3) := by decide +kernel
theorem d_V_endQuestions_12 : decode b_V_endQuestions 12 = .ok (.iload_n 1, 1) := by decide +kernel
theorem d_V_endQuestions_13 : decode b_V_endQuestions 13 = .ok (.aaload, 1) := by decide +kernel
theorem d_V_endQuestions_14 : decode b_V_endQuestions 14 = .ok (.astore_n 2, 1) := by decide +kernel
theorem d_V_endQuestions_15 : decode b_V_endQuestions 15 = .ok (.aload_n 2, 1) := by decide +kernel
theorem d_V_endQuestions_16 : decode b_V_endQuestions 16 = .ok (.ifnull 29, 3) := by decide +kernel
theorem d_V_endQuestions_19 : decode b_V_endQuestions 19 = .ok (.aload_n 2, 1) := by decide +kernel
theorem d_V_endQuestions_20 : decode b_V_endQuestions 20 = .ok (.getfield 105, 3) := by decide +kernel
theorem d_V_endQuestions_23 : decode b_V_endQuestions 23 = .ok (.aload_n 0, 1) := by decide +kernel
theorem d_V_endQuestions_24 : decode b_V_endQuestions 24 = .ok (.getfield 66, 3) := by decide +kernel
theorem d_V_endQuestions_27 : decode b_V_endQuestions 27 = .ok (.if_icmp .ne 18, 3) := by decide +kernel
theorem d_V_endQuestions_30 : decode b_V_endQuestions 30 = .ok (.aload_n 0, 1) := by decide +kernel
theorem d_V_endQuestions_31 : decode b_V_endQuestions 31 = .ok (.getfield 20, 3) := by decide +kernel
theorem d_V_endQuestions_34 : decode b_V_endQuestions 34 = .ok (.iconst 0, 1) := by decide +kernel
theorem d_V_endQuestions_35 : decode b_V_endQuestions 35 = .ok (.aload_n 2, 1) := by decide +kernel
theorem d_V_endQuestions_36 : decode b_V_endQuestions 36 = .ok (.getfield 260, 3) := by decide +kernel
theorem d_V_endQuestions_39 : decode b_V_endQuestions 39 = .ok (.iconst 0, 1) := by decide +kernel
theorem d_V_endQuestions_40 : decode b_V_endQuestions 40 = .ok (.bipush 8, 2) := by decide +kernel
theorem d_V_endQuestions_42 : decode b_V_endQuestions 42 = .ok (.invokestatic 86, 3) := by decide +kernel
theorem d_V_endQuestions_45 : decode b_V_endQuestions 45 = .ok (.iinc 1 1, 3) := by decide +kernel
theorem d_V_endQuestions_48 : decode b_V_endQuestions 48 = .ok (.goto (-46), 3) := by decide +kernel
theorem d_V_endQuestions_51 : decode b_V_endQuestions 51 = .ok (.return_, 1) := by decide +kernel
theorem d_A_isSealed_0 : decode b_A_isSealed 0 = .ok (.aload_n 0, 1) := by decide +kernel
theorem d_A_isSealed_1 : decode b_A_isSealed 1 = .ok (.getfield 27, 3) := by decide +kernel
theorem d_A_isSealed_4 : decode b_A_isSealed 4 = .ok (.aload_n 0, 1) := by decide +kernel
theorem d_A_isSealed_5 : decode b_A_isSealed 5 = .ok (.getfield 24, 3) := by decide +kernel
theorem d_A_isSealed_8 : decode b_A_isSealed 8 = .ok (.if_icmp .le 7, 3) := by decide +kernel
theorem d_A_isSealed_11 : decode b_A_isSealed 11 = .ok (.iconst 1, 1) := by decide +kernel
theorem d_A_isSealed_12 : decode b_A_isSealed 12 = .ok (.goto 4, 3) := by decide +kernel
theorem d_A_isSealed_15 : decode b_A_isSealed 15 = .ok (.iconst 0, 1) := by decide +kernel
theorem d_A_isSealed_16 : decode b_A_isSealed 16 = .ok (.ireturn, 1) := by decide +kernel
theorem d_V_payAside_0 : decode b_V_payAside 0 = .ok (.aload_n 0, 1) := by decide +kernel
theorem d_V_payAside_1 : decode b_V_payAside 1 = .ok (.getfield 17, 3) := by decide +kernel
theorem d_V_payAside_4 : decode b_V_payAside 4 = .ok (.iload_n 1, 1) := by decide +kernel
theorem d_V_payAside_5 : decode b_V_payAside 5 = .ok (.dup2, 1) := by decide +kernel
theorem d_V_payAside_6 : decode b_V_payAside 6 = .ok (.laload, 1) := by decide +kernel
theorem d_V_payAside_7 : decode b_V_payAside 7 = .ok (.lload_n 2, 1) := by decide +kernel
theorem d_V_payAside_8 : decode b_V_payAside 8 = .ok (.lsub, 1) := by decide +kernel
theorem d_V_payAside_9 : decode b_V_payAside 9 = .ok (.lastore, 1) := by decide +kernel
theorem d_V_payAside_10 : decode b_V_payAside 10 = .ok (.aload_n 0, 1) := by decide +kernel
theorem d_V_payAside_11 : decode b_V_payAside 11 = .ok (.dup, 1) := by decide +kernel
theorem d_V_payAside_12 : decode b_V_payAside 12 = .ok (.getfield 62, 3) := by decide +kernel
theorem d_V_payAside_15 : decode b_V_payAside 15 = .ok (.lload_n 2, 1) := by decide +kernel
theorem d_V_payAside_16 : decode b_V_payAside 16 = .ok (.ladd, 1) := by decide +kernel
theorem d_V_payAside_17 : decode b_V_payAside 17 = .ok (.putfield 62, 3) := by decide +kernel
theorem d_V_payAside_20 : decode b_V_payAside 20 = .ok (.return_, 1) := by decide +kernel
theorem d_V_payUnopened_0 : decode b_V_payUnopened 0 = .ok (.iconst 0, 1) := by decide +kernel
theorem d_V_payUnopened_1 : decode b_V_payUnopened 1 = .ok (.istore_n 2, 1) := by decide +kernel
theorem d_V_payUnopened_2 : decode b_V_payUnopened 2 = .ok (.iload_n 2, 1) := by decide +kernel
theorem d_V_payUnopened_3 : decode b_V_payUnopened 3 = .ok (.bipush 8, 2) := by decide +kernel
theorem d_V_payUnopened_5 : decode b_V_payUnopened 5 = .ok (.if_icmp .ge 37, 3) := by decide +kernel
theorem d_V_payUnopened_8 : decode b_V_payUnopened 8 = .ok (.aload_n 1, 1) := by decide +kernel
theorem d_V_payUnopened_9 : decode b_V_payUnopened 9 = .ok (.getfield 208, 3) := by decide +kernel
theorem d_V_payUnopened_12 : decode b_V_payUnopened 12 = .ok (.iload_n 2, 1) := by decide +kernel
theorem d_V_payUnopened_13 : decode b_V_payUnopened 13 = .ok (.iaload, 1) := by decide +kernel
theorem d_V_payUnopened_14 : decode b_V_payUnopened 14 = .ok (.ifCond .eq 22, 3) := by decide +kernel
theorem d_V_payUnopened_17 : decode b_V_payUnopened 17 = .ok (.aload_n 1, 1) := by decide +kernel
theorem d_V_payUnopened_18 : decode b_V_payUnopened 18 = .ok (.getfield 201, 3) := by decide +kernel
theorem d_V_payUnopened_21 : decode b_V_payUnopened 21 = .ok (.iload_n 2, 1) := by decide +kernel
theorem d_V_payUnopened_22 : decode b_V_payUnopened 22 = .ok (.iaload, 1) := by decide +kernel
theorem d_V_payUnopened_23 : decode b_V_payUnopened 23 = .ok (.ifCond .ne 13, 3) := by decide +kernel
theorem d_V_payUnopened_26 : decode b_V_payUnopened 26 = .ok (.aload_n 0, 1) := by decide +kernel
theorem d_V_payUnopened_27 : decode b_V_payUnopened 27 = .ok (.iload_n 2, 1) := by decide +kernel
theorem d_V_payUnopened_28 : decode b_V_payUnopened 28 = .ok (.aload_n 1, 1) := by decide +kernel
theorem d_V_payUnopened_29 : decode b_V_payUnopened 29 = .ok (.getfield 171, 3) := by decide +kernel
theorem d_V_payUnopened_32 : decode b_V_payUnopened 32 = .ok (.i2l, 1) := by decide +kernel
theorem d_V_payUnopened_33 : decode b_V_payUnopened 33 = .ok (.invokevirtual 223, 3) := by decide +kernel
theorem d_V_payUnopened_36 : decode b_V_payUnopened 36 = .ok (.iinc 2 1, 3) := by decide +kernel
theorem d_V_payUnopened_39 : decode b_V_payUnopened 39 = .ok (.goto (-37), 3) := by decide +kernel
theorem d_V_payUnopened_42 : decode b_V_payUnopened 42 = .ok (.return_, 1) := by decide +kernel
theorem d_A_isAhead_0 : decode b_A_isAhead 0 = .ok (.aload_n 0, 1) := by decide +kernel
theorem d_A_isAhead_1 : decode b_A_isAhead 1 = .ok (.getfield 41, 3) := by decide +kernel
theorem d_A_isAhead_4 : decode b_A_isAhead 4 = .ok (.iload_n 1, 1) := by decide +kernel
theorem d_A_isAhead_5 : decode b_A_isAhead 5 = .ok (.iaload, 1) := by decide +kernel
theorem d_A_isAhead_6 : decode b_A_isAhead 6 = .ok (.aload_n 0, 1) := by decide +kernel
theorem d_A_isAhead_7 : decode b_A_isAhead 7 = .ok (.getfield 41, 3) := by decide +kernel
theorem d_A_isAhead_10 : decode b_A_isAhead 10 = .ok (.iload_n 2, 1) := by decide +kernel
theorem d_A_isAhead_11 : decode b_A_isAhead 11 = .ok (.iaload, 1) := by decide +kernel
theorem d_A_isAhead_12 : decode b_A_isAhead 12 = .ok (.if_icmp .gt 33, 3) := by decide +kernel
theorem d_A_isAhead_15 : decode b_A_isAhead 15 = .ok (.aload_n 0, 1) := by decide +kernel
theorem d_A_isAhead_16 : decode b_A_isAhead 16 = .ok (.getfield 41, 3) := by decide +kernel
theorem d_A_isAhead_19 : decode b_A_isAhead 19 = .ok (.iload_n 1, 1) := by decide +kernel
theorem d_A_isAhead_20 : decode b_A_isAhead 20 = .ok (.iaload, 1) := by decide +kernel
theorem d_A_isAhead_21 : decode b_A_isAhead 21 = .ok (.aload_n 0, 1) := by decide +kernel
theorem d_A_isAhead_22 : decode b_A_isAhead 22 = .ok (.getfield 41, 3) := by decide +kernel
theorem d_A_isAhead_25 : decode b_A_isAhead 25 = .ok (.iload_n 2, 1) := by decide +kernel
theorem d_A_isAhead_26 : decode b_A_isAhead 26 = .ok (.iaload, 1) := by decide +kernel
theorem d_A_isAhead_27 : decode b_A_isAhead 27 = .ok (.if_icmp .ne 22, 3) := by decide +kernel
theorem d_A_isAhead_30 : decode b_A_isAhead 30 = .ok (.aload_n 0, 1) := by decide +kernel
theorem d_A_isAhead_31 : decode b_A_isAhead 31 = .ok (.getfield 30, 3) := by decide +kernel
theorem d_A_isAhead_34 : decode b_A_isAhead 34 = .ok (.iload_n 1, 1) := by decide +kernel
theorem d_A_isAhead_35 : decode b_A_isAhead 35 = .ok (.iaload, 1) := by decide +kernel
theorem d_A_isAhead_36 : decode b_A_isAhead 36 = .ok (.aload_n 0, 1) := by decide +kernel
theorem d_A_isAhead_37 : decode b_A_isAhead 37 = .ok (.getfield 30, 3) := by decide +kernel
theorem d_A_isAhead_40 : decode b_A_isAhead 40 = .ok (.iload_n 2, 1) := by decide +kernel
theorem d_A_isAhead_41 : decode b_A_isAhead 41 = .ok (.iaload, 1) := by decide +kernel
theorem d_A_isAhead_42 : decode b_A_isAhead 42 = .ok (.if_icmp .ge 7, 3) := by decide +kernel
theorem d_A_isAhead_45 : decode b_A_isAhead 45 = .ok (.iconst 1, 1) := by decide +kernel
theorem d_A_isAhead_46 : decode b_A_isAhead 46 = .ok (.goto 4, 3) := by decide +kernel
theorem d_A_isAhead_49 : decode b_A_isAhead 49 = .ok (.iconst 0, 1) := by decide +kernel
theorem d_A_isAhead_50 : decode b_A_isAhead 50 = .ok (.ireturn, 1) := by decide +kernel
theorem d_A_bestWithout_0 : decode b_A_bestWithout 0 = .ok (.iconst (-1), 1) := by decide +kernel
theorem d_A_bestWithout_1 : decode b_A_bestWithout 1 = .ok (.istore_n 1, 1) := by decide +kernel
theorem d_A_bestWithout_2 : decode b_A_bestWithout 2 = .ok (.iconst 0, 1) := by decide +kernel
theorem d_A_bestWithout_3 : decode b_A_bestWithout 3 = .ok (.istore_n 2, 1) := by decide +kernel
theorem d_A_bestWithout_4 : decode b_A_bestWithout 4 = .ok (.iload_n 2, 1) := by decide +kernel
theorem d_A_bestWithout_5 : decode b_A_bestWithout 5 = .ok (.bipush 8, 2) := by decide +kernel
theorem d_A_bestWithout_7 : decode b_A_bestWithout 7 = .ok (.if_icmp .ge 43, 3) := by decide +kernel
theorem d_A_bestWithout_10 : decode b_A_bestWithout 10 = .ok (.aload_n 0, 1) := by decide +kernel
theorem d_A_bestWithout_11 : decode b_A_bestWithout 11 = .ok (.getfield 38, 3) := by decide +kernel
theorem d_A_bestWithout_14 : decode b_A_bestWithout 14 = .ok (.iload_n 2, 1) := by decide +kernel
theorem d_A_bestWithout_15 : decode b_A_bestWithout 15 = .ok (.iaload, 1) := by decide +kernel
theorem d_A_bestWithout_16 : decode b_A_bestWithout 16 = .ok (.ifCond .le 28, 3) := by decide +kernel
theorem d_A_bestWithout_19 : decode b_A_bestWithout 19 = .ok (.aload_n 0, 1) := by decide +kernel
theorem d_A_bestWithout_20 : decode b_A_bestWithout 20 = .ok (.getfield 44, 3) := by decide +kernel
theorem d_A_bestWithout_23 : decode b_A_bestWithout 23 = .ok (.iload_n 2, 1) := by decide +kernel
theorem d_A_bestWithout_24 : decode b_A_bestWithout 24 = .ok (.iaload, 1) := by decide +kernel
theorem d_A_bestWithout_25 : decode b_A_bestWithout 25 = .ok (.ifCond .ne 19, 3) := by decide +kernel
theorem d_A_bestWithout_28 : decode b_A_bestWithout 28 = .ok (.iload_n 1, 1) := by decide +kernel
theorem d_A_bestWithout_29 : decode b_A_bestWithout 29 = .ok (.iconst (-1), 1) := by decide +kernel
theorem d_A_bestWithout_30 : decode b_A_bestWithout 30 = .ok (.if_icmp .eq 12, 3) := by decide +kernel
theorem d_A_bestWithout_33 : decode b_A_bestWithout 33 = .ok (.aload_n 0, 1) := by decide +kernel
theorem d_A_bestWithout_34 : decode b_A_bestWithout 34 = .ok (.iload_n 2, 1) := by decide +kernel
theorem d_A_bestWithout_35 : decode b_A_bestWithout 35 = .ok (.iload_n 1, 1) := by decide +kernel
theorem d_A_bestWithout_36 : decode b_A_bestWithout 36 = .ok (.invokevirtual 53, 3) := by decide +kernel
theorem d_A_bestWithout_39 : decode b_A_bestWithout 39 = .ok (.ifCond .eq 5, 3) := by decide +kernel
theorem d_A_bestWithout_42 : decode b_A_bestWithout 42 = .ok (.iload_n 2, 1) := by decide +kernel
theorem d_A_bestWithout_43 : decode b_A_bestWithout 43 = .ok (.istore_n 1, 1) := by decide +kernel
theorem d_A_bestWithout_44 : decode b_A_bestWithout 44 = .ok (.iinc 2 1, 3) := by decide +kernel
theorem d_A_bestWithout_47 : decode b_A_bestWithout 47 = .ok (.goto (-43), 3) := by decide +kernel
theorem d_A_bestWithout_50 : decode b_A_bestWithout 50 = .ok (.iload_n 1, 1) := by decide +kernel
theorem d_A_bestWithout_51 : decode b_A_bestWithout 51 = .ok (.ireturn, 1) := by decide +kernel
theorem d_V_shareUnits_0 : decode b_V_shareUnits 0 = .ok (.aload_n 0, 1) := by decide +kernel
theorem d_V_shareUnits_1 : decode b_V_shareUnits 1 = .ok (.getfield 168, 3) := by decide +kernel
theorem d_V_shareUnits_4 : decode b_V_shareUnits 4 = .ok (.istore_n 1, 1) := by decide +kernel
theorem d_V_shareUnits_5 : decode b_V_shareUnits 5 = .ok (.iconst 0, 1) := by decide +kernel
theorem d_V_shareUnits_6 : decode b_V_shareUnits 6 = .ok (.istore_n 2, 1) := by decide +kernel
theorem d_V_shareUnits_7 : decode b_V_shareUnits 7 = .ok (.iload_n 2, 1) := by decide +kernel
theorem d_V_shareUnits_8 : decode b_V_shareUnits 8 = .ok (.bipush 8, 2) := by decide +kernel
theorem d_V_shareUnits_10 : decode b_V_shareUnits 10 = .ok (.if_icmp .ge 59, 3) := by decide +kernel
theorem d_V_shareUnits_13 : decode b_V_shareUnits 13 = .ok (.iload_n 1, 1) := by decide +kernel
theorem d_V_shareUnits_14 : decode b_V_shareUnits 14 = .ok (.ifCond .le 55, 3) := by decide +kernel
theorem d_V_shareUnits_17 : decode b_V_shareUnits 17 = .ok (.aload_n 0, 1) := by decide +kernel
theorem d_V_shareUnits_18 : decode b_V_shareUnits 18 = .ok (.invokevirtual 292, 3) := by decide +kernel
theorem d_V_shareUnits_21 : decode b_V_shareUnits 21 = .ok (.istore_n 3, 1) := by decide +kernel
theorem d_V_shareUnits_22 : decode b_V_shareUnits 22 = .ok (.iload_n 3, 1) := by decide +kernel
theorem d_V_shareUnits_23 : decode b_V_shareUnits 23 = .ok (.iconst (-1), 1) := by decide +kernel
theorem d_V_shareUnits_24 : decode b_V_shareUnits 24 = .ok (.if_icmp .ne 4, 3) := by decide +kernel
theorem d_V_shareUnits_27 : decode b_V_shareUnits 27 = .ok (.return_, 1) := by decide +kernel
theorem d_V_shareUnits_28 : decode b_V_shareUnits 28 = .ok (.iload_n 1, 1) := by decide +kernel
theorem d_V_shareUnits_29 : decode b_V_shareUnits 29 = .ok (.aload_n 0, 1) := by decide +kernel
theorem d_V_shareUnits_30 : decode b_V_shareUnits 30 = .ok (.getfield 198, 3) := by decide +kernel
theorem d_V_shareUnits_33 : decode b_V_shareUnits 33 = .ok (.iload_n 3, 1) := by decide +kernel
theorem d_V_shareUnits_34 : decode b_V_shareUnits 34 = .ok (.iaload, 1) := by decide +kernel
theorem d_V_shareUnits_35 : decode b_V_shareUnits 35 = .ok (.invokestatic 299, 3) := by decide +kernel
theorem d_V_shareUnits_38 : decode b_V_shareUnits 38 = .ok (.istore 4, 2) := by decide +kernel
theorem d_V_shareUnits_40 : decode b_V_shareUnits 40 = .ok (.aload_n 0, 1) := by decide +kernel
theorem d_V_shareUnits_41 : decode b_V_shareUnits 41 = .ok (.getfield 226, 3) := by decide +kernel
theorem d_V_shareUnits_44 : decode b_V_shareUnits 44 = .ok (.iload_n 3, 1) := by decide +kernel
theorem d_V_shareUnits_45 : decode b_V_shareUnits 45 = .ok (.iload 4, 2) := by decide +kernel
theorem d_V_shareUnits_47 : decode b_V_shareUnits 47 = .ok (.iastore, 1) := by decide +kernel
theorem d_V_shareUnits_48 : decode b_V_shareUnits 48 = .ok (.aload_n 0, 1) := by decide +kernel
theorem d_V_shareUnits_49 : decode b_V_shareUnits 49 = .ok (.aload_n 0, 1) := by decide +kernel
theorem d_V_shareUnits_50 : decode b_V_shareUnits 50 = .ok (.getfield 201, 3) := by decide +kernel
theorem d_V_shareUnits_53 : decode b_V_shareUnits 53 = .ok (.iload_n 3, 1) := by decide +kernel
theorem d_V_shareUnits_54 : decode b_V_shareUnits 54 = .ok (.iaload, 1) := by decide +kernel
theorem d_V_shareUnits_55 : decode b_V_shareUnits 55 = .ok (.putfield 191, 3) := by decide +kernel
theorem d_V_shareUnits_58 : decode b_V_shareUnits 58 = .ok (.iload_n 1, 1) := by decide +kernel
theorem d_V_shareUnits_59 : decode b_V_shareUnits 59 = .ok (.iload 4, 2) := by decide +kernel
theorem d_V_shareUnits_61 : decode b_V_shareUnits 61 = .ok (.isub, 1) := by decide +kernel
theorem d_V_shareUnits_62 : decode b_V_shareUnits 62 = .ok (.istore_n 1, 1) := by decide +kernel
theorem d_V_shareUnits_63 : decode b_V_shareUnits 63 = .ok (.iinc 2 1, 3) := by decide +kernel
theorem d_V_shareUnits_66 : decode b_V_shareUnits 66 = .ok (.goto (-59), 3) := by decide +kernel
theorem d_V_shareUnits_69 : decode b_V_shareUnits 69 = .ok (.return_, 1) := by decide +kernel
theorem d_A_costOf_0 : decode b_A_costOf 0 = .ok (.aload_n 0, 1) := by decide +kernel
theorem d_A_costOf_1 : decode b_A_costOf 1 = .ok (.getfield 38, 3) := by decide +kernel
theorem d_A_costOf_4 : decode b_A_costOf 4 = .ok (.iload_n 1, 1) := by decide +kernel
theorem d_A_costOf_5 : decode b_A_costOf 5 = .ok (.iaload, 1) := by decide +kernel
theorem d_A_costOf_6 : decode b_A_costOf 6 = .ok (.i2l, 1) := by decide +kernel
theorem d_A_costOf_7 : decode b_A_costOf 7 = .ok (.aload_n 0, 1) := by decide +kernel
theorem d_A_costOf_8 : decode b_A_costOf 8 = .ok (.getfield 41, 3) := by decide +kernel
theorem d_A_costOf_11 : decode b_A_costOf 11 = .ok (.iload_n 1, 1) := by decide +kernel
theorem d_A_costOf_12 : decode b_A_costOf 12 = .ok (.iaload, 1) := by decide +kernel
theorem d_A_costOf_13 : decode b_A_costOf 13 = .ok (.i2l, 1) := by decide +kernel
theorem d_A_costOf_14 : decode b_A_costOf 14 = .ok (.lmul, 1) := by decide +kernel
theorem d_A_costOf_15 : decode b_A_costOf 15 = .ok (.lreturn, 1) := by decide +kernel
theorem d_V_giveBack_0 : decode b_V_giveBack 0 = .ok (.aload_n 0, 1) := by decide +kernel
theorem d_V_giveBack_1 : decode b_V_giveBack 1 = .ok (.getfield 17, 3) := by decide +kernel
theorem d_V_giveBack_4 : decode b_V_giveBack 4 = .ok (.iload_n 1, 1) := by decide +kernel
theorem d_V_giveBack_5 : decode b_V_giveBack 5 = .ok (.dup2, 1) := by decide +kernel
theorem d_V_giveBack_6 : decode b_V_giveBack 6 = .ok (.laload, 1) := by decide +kernel
theorem d_V_giveBack_7 : decode b_V_giveBack 7 = .ok (.lload_n 2, 1) := by decide +kernel
theorem d_V_giveBack_8 : decode b_V_giveBack 8 = .ok (.lsub, 1) := by decide +kernel
theorem d_V_giveBack_9 : decode b_V_giveBack 9 = .ok (.lastore, 1) := by decide +kernel
theorem d_V_giveBack_10 : decode b_V_giveBack 10 = .ok (.aload_n 0, 1) := by decide +kernel
theorem d_V_giveBack_11 : decode b_V_giveBack 11 = .ok (.getfield 13, 3) := by decide +kernel
theorem d_V_giveBack_14 : decode b_V_giveBack 14 = .ok (.iload_n 1, 1) := by decide +kernel
theorem d_V_giveBack_15 : decode b_V_giveBack 15 = .ok (.dup2, 1) := by decide +kernel
theorem d_V_giveBack_16 : decode b_V_giveBack 16 = .ok (.laload, 1) := by decide +kernel
theorem d_V_giveBack_17 : decode b_V_giveBack 17 = .ok (.lload_n 2, 1) := by decide +kernel
theorem d_V_giveBack_18 : decode b_V_giveBack 18 = .ok (.ladd, 1) := by decide +kernel
theorem d_V_giveBack_19 : decode b_V_giveBack 19 = .ok (.lastore, 1) := by decide +kernel
theorem d_V_giveBack_20 : decode b_V_giveBack 20 = .ok (.return_, 1) := by decide +kernel
theorem d_V_settleBids_0 : decode b_V_settleBids 0 = .ok (.iconst 0, 1) := by decide +kernel
theorem d_V_settleBids_1 : decode b_V_settleBids 1 = .ok (.istore_n 2, 1) := by decide +kernel
theorem d_V_settleBids_2 : decode b_V_settleBids 2 = .ok (.iload_n 2, 1) := by decide +kernel
theorem d_V_settleBids_3 : decode b_V_settleBids 3 = .ok (.bipush 8, 2) := by decide +kernel
theorem d_V_settleBids_5 : decode b_V_settleBids 5 = .ok (.if_icmp .ge 46, 3) := by decide +kernel
theorem d_V_settleBids_8 : decode b_V_settleBids 8 = .ok (.aload_n 1, 1) := by decide +kernel
theorem d_V_settleBids_9 : decode b_V_settleBids 9 = .ok (.iload_n 2, 1) := by decide +kernel
theorem d_V_settleBids_10 : decode b_V_settleBids 10 = .ok (.invokevirtual 180, 3) := by decide +kernel
theorem d_V_settleBids_13 : decode b_V_settleBids 13 = .ok (.lstore_n 3, 1) := by decide +kernel
theorem d_V_settleBids_14 : decode b_V_settleBids 14 = .ok (.aload_n 1, 1) := by decide +kernel
theorem d_V_settleBids_15 : decode b_V_settleBids 15 = .ok (.getfield 226, 3) := by decide +kernel
theorem d_V_settleBids_18 : decode b_V_settleBids 18 = .ok (.iload_n 2, 1) := by decide +kernel
theorem d_V_settleBids_19 : decode b_V_settleBids 19 = .ok (.iaload, 1) := by decide +kernel
theorem d_V_settleBids_20 : decode b_V_settleBids 20 = .ok (.i2l, 1) := by decide +kernel
theorem d_V_settleBids_21 : decode b_V_settleBids 21 = .ok (.aload_n 1, 1) := by decide +kernel
theorem d_V_settleBids_22 : decode b_V_settleBids 22 = .ok (.getfield 191, 3) := by decide +kernel
theorem d_V_settleBids_25 : decode b_V_settleBids 25 = .ok (.i2l, 1) := by decide +kernel
theorem d_V_settleBids_26 : decode b_V_settleBids 26 = .ok (.lmul, 1) := by decide +kernel
theorem d_V_settleBids_27 : decode b_V_settleBids 27 = .ok (.lstore 5, 2) := by decide +kernel
theorem d_V_settleBids_29 : decode b_V_settleBids 29 = .ok (.aload_n 0, 1) := by decide +kernel
theorem d_V_settleBids_30 : decode b_V_settleBids 30 = .ok (.iload_n 2, 1) := by decide +kernel
theorem d_V_settleBids_31 : decode b_V_settleBids 31 = .ok (.lload 5, 2) := by decide +kernel
theorem d_V_settleBids_33 : decode b_V_settleBids 33 = .ok (.invokevirtual 223, 3) := by decide +kernel
theorem d_V_settleBids_36 : decode b_V_settleBids 36 = .ok (.aload_n 0, 1) := by decide +kernel
theorem d_V_settleBids_37 : decode b_V_settleBids 37 = .ok (.iload_n 2, 1) := by decide +kernel
theorem d_V_settleBids_38 : decode b_V_settleBids 38 = .ok (.lload_n 3, 1) := by decide +kernel
theorem d_V_settleBids_39 : decode b_V_settleBids 39 = .ok (.lload 5, 2) := by decide +kernel
theorem d_V_settleBids_41 : decode b_V_settleBids 41 = .ok (.lsub, 1) := by decide +kernel
theorem d_V_settleBids_42 : decode b_V_settleBids 42 = .ok (.invokevirtual 216, 3) := by decide +kernel
theorem d_V_settleBids_45 : decode b_V_settleBids 45 = .ok (.iinc 2 1, 3) := by decide +kernel
theorem d_V_settleBids_48 : decode b_V_settleBids 48 = .ok (.goto (-46), 3) := by decide +kernel
theorem d_V_settleBids_51 : decode b_V_settleBids 51 = .ok (.return_, 1) := by decide +kernel
