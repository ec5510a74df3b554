theorem dc_PC_init_0 : decode bc_PC_init 0 = .ok (.aload_n 0, 1) := by decide +kernel
theorem dc_PC_init_1 : decode bc_PC_init 1 = .ok (.invokespecial 1, 3) := by decide +kernel
theorem dc_PC_init_4 : decode bc_PC_init 4 = .ok (.aload_n 0, 1) := by decide +kernel
theorem dc_PC_init_5 : decode bc_PC_init 5 = .ok (.new 7, 3) := by decide +kernel
theorem dc_PC_init_8 : decode bc_PC_init 8 = .ok (.dup, 1) := by decide +kernel
theorem dc_PC_init_9 : decode bc_PC_init 9 = .ok (.bipush 60, 2) := by decide +kernel
theorem dc_PC_init_11 : decode bc_PC_init 11 = .ok (.invokespecial 11, 3) := by decide +kernel
theorem dc_PC_init_14 : decode bc_PC_init 14 = .ok (.putfield 14, 3) := by decide +kernel
theorem dc_PC_init_17 : decode bc_PC_init 17 = .ok (.aload_n 0, 1) := by decide +kernel
theorem dc_PC_init_18 : decode bc_PC_init 18 = .ok (.iconst 4, 1) := by decide +kernel
theorem dc_PC_init_19 : decode bc_PC_init 19 = .ok (.anewarray 18, 3) := by decide +kernel
theorem dc_PC_init_22 : decode bc_PC_init 22 = .ok (.putfield 20, 3) := by decide +kernel
theorem dc_PC_init_25 : decode bc_PC_init 25 = .ok (.aload_n 0, 1) := by decide +kernel
theorem dc_PC_init_26 : decode bc_PC_init 26 = .ok (.new 24, 3) := by decide +kernel
theorem dc_PC_init_29 : decode bc_PC_init 29 = .ok (.dup, 1) := by decide +kernel
theorem dc_PC_init_30 : decode bc_PC_init 30 = .ok (.invokespecial 26, 3) := by decide +kernel
theorem dc_PC_init_33 : decode bc_PC_init 33 = .ok (.putfield 27, 3) := by decide +kernel
theorem dc_PC_init_36 : decode bc_PC_init 36 = .ok (.aload_n 0, 1) := by decide +kernel
theorem dc_PC_init_37 : decode bc_PC_init 37 = .ok (.new 31, 3) := by decide +kernel
theorem dc_PC_init_40 : decode bc_PC_init 40 = .ok (.dup, 1) := by decide +kernel
theorem dc_PC_init_41 : decode bc_PC_init 41 = .ok (.invokespecial 33, 3) := by decide +kernel
theorem dc_PC_init_44 : decode bc_PC_init 44 = .ok (.putfield 34, 3) := by decide +kernel
theorem dc_PC_init_47 : decode bc_PC_init 47 = .ok (.aload_n 0, 1) := by decide +kernel
theorem dc_PC_init_48 : decode bc_PC_init 48 = .ok (.new 38, 3) := by decide +kernel
theorem dc_PC_init_51 : decode bc_PC_init 51 = .ok (.dup, 1) := by decide +kernel
theorem dc_PC_init_52 : decode bc_PC_init 52 = .ok (.invokespecial 40, 3) := by decide +kernel
theorem dc_PC_init_55 : decode bc_PC_init 55 = .ok (.putfield 41, 3) := by decide +kernel
theorem dc_PC_init_58 : decode bc_PC_init 58 = .ok (.aload_n 0, 1) := by decide +kernel
theorem dc_PC_init_59 : decode bc_PC_init 59 = .ok (.new 45, 3) := by decide +kernel
theorem dc_PC_init_62 : decode bc_PC_init 62 = .ok (.dup, 1) := by decide +kernel
theorem dc_PC_init_63 : decode bc_PC_init 63 = .ok (.invokespecial 47, 3) := by decide +kernel
theorem dc_PC_init_66 : decode bc_PC_init 66 = .ok (.putfield 48, 3) := by decide +kernel
theorem dc_PC_init_69 : decode bc_PC_init 69 = .ok (.aload_n 0, 1) := by decide +kernel
theorem dc_PC_init_70 : decode bc_PC_init 70 = .ok (.new 18, 3) := by decide +kernel
theorem dc_PC_init_73 : decode bc_PC_init 73 = .ok (.dup, 1) := by decide +kernel
theorem dc_PC_init_74 : decode bc_PC_init 74 = .ok (.invokespecial 52, 3) := by decide +kernel
theorem dc_PC_init_77 : decode bc_PC_init 77 = .ok (.putfield 53, 3) := by decide +kernel
theorem dc_PC_init_80 : decode bc_PC_init 80 = .ok (.aload_n 0, 1) := by decide +kernel
theorem dc_PC_init_81 : decode bc_PC_init 81 = .ok (.iconst (-1), 1) := by decide +kernel
theorem dc_PC_init_82 : decode bc_PC_init 82 = .ok (.putfield 57, 3) := by decide +kernel
theorem dc_PC_init_85 : decode bc_PC_init 85 = .ok (.return_, 1) := by decide +kernel
theorem dc_PC_feed_0 : decode bc_PC_feed 0 = .ok (.iload_n 1, 1) := by decide +kernel
theorem dc_PC_feed_1 : decode bc_PC_feed 1 = .ok (.iconst 0, 1) := by decide +kernel
theorem dc_PC_feed_2 : decode bc_PC_feed 2 = .ok (.sipush 255, 3) := by decide +kernel
theorem dc_PC_feed_5 : decode bc_PC_feed 5 = .ok (.invokestatic 61, 3) := by decide +kernel
theorem dc_PC_feed_8 : decode bc_PC_feed 8 = .ok (.ifCond .ne 5, 3) := by decide +kernel
theorem dc_PC_feed_11 : decode bc_PC_feed 11 = .ok (.iconst (-1), 1) := by decide +kernel
theorem dc_PC_feed_12 : decode bc_PC_feed 12 = .ok (.ireturn, 1) := by decide +kernel
theorem dc_PC_feed_13 : decode bc_PC_feed 13 = .ok (.aload_n 0, 1) := by decide +kernel
theorem dc_PC_feed_14 : decode bc_PC_feed 14 = .ok (.getfield 14, 3) := by decide +kernel
theorem dc_PC_feed_17 : decode bc_PC_feed 17 = .ok (.iload_n 1, 1) := by decide +kernel
theorem dc_PC_feed_18 : decode bc_PC_feed 18 = .ok (.invokevirtual 65, 3) := by decide +kernel
theorem dc_PC_feed_21 : decode bc_PC_feed 21 = .ok (.ifCond .eq 13, 3) := by decide +kernel
theorem dc_PC_feed_24 : decode bc_PC_feed 24 = .ok (.aload_n 0, 1) := by decide +kernel
theorem dc_PC_feed_25 : decode bc_PC_feed 25 = .ok (.getfield 14, 3) := by decide +kernel
theorem dc_PC_feed_28 : decode bc_PC_feed 28 = .ok (.invokevirtual 69, 3) := by decide +kernel
theorem dc_PC_feed_31 : decode bc_PC_feed 31 = .ok (.goto 5, 3) := by decide +kernel
theorem dc_PC_feed_34 : decode bc_PC_feed 34 = .ok (.bipush (-2), 2) := by decide +kernel
theorem dc_PC_feed_36 : decode bc_PC_feed 36 = .ok (.ireturn, 1) := by decide +kernel
theorem dc_PC_isWithin_0 : decode bc_PC_isWithin 0 = .ok (.iload_n 0, 1) := by decide +kernel
theorem dc_PC_isWithin_1 : decode bc_PC_isWithin 1 = .ok (.iload_n 1, 1) := by decide +kernel
theorem dc_PC_isWithin_2 : decode bc_PC_isWithin 2 = .ok (.if_icmp .lt 12, 3) := by decide +kernel
theorem dc_PC_isWithin_5 : decode bc_PC_isWithin 5 = .ok (.iload_n 0, 1) := by decide +kernel
theorem dc_PC_isWithin_6 : decode bc_PC_isWithin 6 = .ok (.iload_n 2, 1) := by decide +kernel
theorem dc_PC_isWithin_7 : decode bc_PC_isWithin 7 = .ok (.if_icmp .gt 7, 3) := by decide +kernel
theorem dc_PC_isWithin_10 : decode bc_PC_isWithin 10 = .ok (.iconst 1, 1) := by decide +kernel
theorem dc_PC_isWithin_11 : decode bc_PC_isWithin 11 = .ok (.goto 4, 3) := by decide +kernel
theorem dc_PC_isWithin_14 : decode bc_PC_isWithin 14 = .ok (.iconst 0, 1) := by decide +kernel
theorem dc_PC_isWithin_15 : decode bc_PC_isWithin 15 = .ok (.ireturn, 1) := by decide +kernel
theorem dc_PC_wipe_0 : decode bc_PC_wipe 0 = .ok (.aload_n 0, 1) := by decide +kernel
theorem dc_PC_wipe_1 : decode bc_PC_wipe 1 = .ok (.getfield 14, 3) := by decide +kernel
theorem dc_PC_wipe_4 : decode bc_PC_wipe 4 = .ok (.invokevirtual 69, 3) := by decide +kernel
theorem dc_PC_wipe_7 : decode bc_PC_wipe 7 = .ok (.istore_n 1, 1) := by decide +kernel
theorem dc_PC_wipe_8 : decode bc_PC_wipe 8 = .ok (.aload_n 0, 1) := by decide +kernel
theorem dc_PC_wipe_9 : decode bc_PC_wipe 9 = .ok (.getfield 14, 3) := by decide +kernel
theorem dc_PC_wipe_12 : decode bc_PC_wipe 12 = .ok (.invokevirtual 73, 3) := by decide +kernel
theorem dc_PC_wipe_15 : decode bc_PC_wipe 15 = .ok (.iload_n 1, 1) := by decide +kernel
theorem dc_PC_wipe_16 : decode bc_PC_wipe 16 = .ok (.ireturn, 1) := by decide +kernel
theorem dc_PC_make_0 : decode bc_PC_make 0 = .ok (.aload_n 0, 1) := by decide +kernel
theorem dc_PC_make_1 : decode bc_PC_make 1 = .ok (.iconst (-1), 1) := by decide +kernel
theorem dc_PC_make_2 : decode bc_PC_make 2 = .ok (.putfield 57, 3) := by decide +kernel
theorem dc_PC_make_5 : decode bc_PC_make 5 = .ok (.iload_n 1, 1) := by decide +kernel
theorem dc_PC_make_6 : decode bc_PC_make 6 = .ok (.iconst 0, 1) := by decide +kernel
theorem dc_PC_make_7 : decode bc_PC_make 7 = .ok (.iconst 3, 1) := by decide +kernel
theorem dc_PC_make_8 : decode bc_PC_make 8 = .ok (.invokestatic 61, 3) := by decide +kernel
theorem dc_PC_make_11 : decode bc_PC_make 11 = .ok (.ifCond .eq 14, 3) := by decide +kernel
theorem dc_PC_make_14 : decode bc_PC_make 14 = .ok (.iload_n 3, 1) := by decide +kernel
theorem dc_PC_make_15 : decode bc_PC_make 15 = .ok (.iconst 0, 1) := by decide +kernel
theorem dc_PC_make_16 : decode bc_PC_make 16 = .ok (.sipush 9999, 3) := by decide +kernel
theorem dc_PC_make_19 : decode bc_PC_make 19 = .ok (.invokestatic 61, 3) := by decide +kernel
theorem dc_PC_make_22 : decode bc_PC_make 22 = .ok (.ifCond .ne 5, 3) := by decide +kernel
theorem dc_PC_make_25 : decode bc_PC_make 25 = .ok (.iconst (-1), 1) := by decide +kernel
theorem dc_PC_make_26 : decode bc_PC_make 26 = .ok (.ireturn, 1) := by decide +kernel
theorem dc_PC_make_27 : decode bc_PC_make 27 = .ok (.aload_n 0, 1) := by decide +kernel
theorem dc_PC_make_28 : decode bc_PC_make 28 = .ok (.getfield 53, 3) := by decide +kernel
theorem dc_PC_make_31 : decode bc_PC_make 31 = .ok (.getfield 76, 3) := by decide +kernel
theorem dc_PC_make_34 : decode bc_PC_make 34 = .ok (.aload_n 0, 1) := by decide +kernel
theorem dc_PC_make_35 : decode bc_PC_make 35 = .ok (.getfield 14, 3) := by decide +kernel
theorem dc_PC_make_38 : decode bc_PC_make 38 = .ok (.invokevirtual 80, 3) := by decide +kernel
theorem dc_PC_make_41 : decode bc_PC_make 41 = .ok (.istore 4, 2) := by decide +kernel
theorem dc_PC_make_43 : decode bc_PC_make 43 = .ok (.iload 4, 2) := by decide +kernel
theorem dc_PC_make_45 : decode bc_PC_make 45 = .ok (.iconst (-1), 1) := by decide +kernel
theorem dc_PC_make_46 : decode bc_PC_make 46 = .ok (.if_icmp .eq 12, 3) := by decide +kernel
theorem dc_PC_make_49 : decode bc_PC_make 49 = .ok (.aload_n 0, 1) := by decide +kernel
theorem dc_PC_make_50 : decode bc_PC_make 50 = .ok (.iload 4, 2) := by decide +kernel
theorem dc_PC_make_52 : decode bc_PC_make 52 = .ok (.putfield 57, 3) := by decide +kernel
theorem dc_PC_make_55 : decode bc_PC_make 55 = .ok (.bipush (-3), 2) := by decide +kernel
theorem dc_PC_make_57 : decode bc_PC_make 57 = .ok (.ireturn, 1) := by decide +kernel
theorem dc_PC_make_58 : decode bc_PC_make 58 = .ok (.aload_n 0, 1) := by decide +kernel
theorem dc_PC_make_59 : decode bc_PC_make 59 = .ok (.getfield 53, 3) := by decide +kernel
theorem dc_PC_make_62 : decode bc_PC_make 62 = .ok (.getfield 76, 3) := by decide +kernel
theorem dc_PC_make_65 : decode bc_PC_make 65 = .ok (.invokevirtual 86, 3) := by decide +kernel
theorem dc_PC_make_68 : decode bc_PC_make 68 = .ok (.bipush 16, 2) := by decide +kernel
theorem dc_PC_make_70 : decode bc_PC_make 70 = .ok (.if_icmp .le 6, 3) := by decide +kernel
theorem dc_PC_make_73 : decode bc_PC_make 73 = .ok (.bipush (-2), 2) := by decide +kernel
theorem dc_PC_make_75 : decode bc_PC_make 75 = .ok (.ireturn, 1) := by decide +kernel
theorem dc_PC_make_76 : decode bc_PC_make 76 = .ok (.aload_n 0, 1) := by decide +kernel
theorem dc_PC_make_77 : decode bc_PC_make 77 = .ok (.getfield 53, 3) := by decide +kernel
theorem dc_PC_make_80 : decode bc_PC_make 80 = .ok (.invokevirtual 89, 3) := by decide +kernel
theorem dc_PC_make_83 : decode bc_PC_make 83 = .ok (.istore 5, 2) := by decide +kernel
theorem dc_PC_make_85 : decode bc_PC_make 85 = .ok (.iload 5, 2) := by decide +kernel
theorem dc_PC_make_87 : decode bc_PC_make 87 = .ok (.iconst (-1), 1) := by decide +kernel
theorem dc_PC_make_88 : decode bc_PC_make 88 = .ok (.if_icmp .eq 12, 3) := by decide +kernel
theorem dc_PC_make_91 : decode bc_PC_make 91 = .ok (.aload_n 0, 1) := by decide +kernel
theorem dc_PC_make_92 : decode bc_PC_make 92 = .ok (.iload 5, 2) := by decide +kernel
theorem dc_PC_make_94 : decode bc_PC_make 94 = .ok (.putfield 57, 3) := by decide +kernel
theorem dc_PC_make_97 : decode bc_PC_make 97 = .ok (.bipush (-4), 2) := by decide +kernel
theorem dc_PC_make_99 : decode bc_PC_make 99 = .ok (.ireturn, 1) := by decide +kernel
theorem dc_PC_make_100 : decode bc_PC_make 100 = .ok (.aload_n 0, 1) := by decide +kernel
theorem dc_PC_make_101 : decode bc_PC_make 101 = .ok (.getfield 53, 3) := by decide +kernel
theorem dc_PC_make_104 : decode bc_PC_make 104 = .ok (.iload_n 2, 1) := by decide +kernel
theorem dc_PC_make_105 : decode bc_PC_make 105 = .ok (.iload_n 3, 1) := by decide +kernel
theorem dc_PC_make_106 : decode bc_PC_make 106 = .ok (.invokevirtual 92, 3) := by decide +kernel
theorem dc_PC_make_109 : decode bc_PC_make 109 = .ok (.aload_n 0, 1) := by decide +kernel
theorem dc_PC_make_110 : decode bc_PC_make 110 = .ok (.getfield 53, 3) := by decide +kernel
theorem dc_PC_make_113 : decode bc_PC_make 113 = .ok (.getfield 76, 3) := by decide +kernel
theorem dc_PC_make_116 : decode bc_PC_make 116 = .ok (.invokevirtual 86, 3) := by decide +kernel
theorem dc_PC_make_119 : decode bc_PC_make 119 = .ok (.istore 6, 2) := by decide +kernel
theorem dc_PC_make_121 : decode bc_PC_make 121 = .ok (.aload_n 0, 1) := by decide +kernel
theorem dc_PC_make_122 : decode bc_PC_make 122 = .ok (.iload_n 1, 1) := by decide +kernel
theorem dc_PC_make_123 : decode bc_PC_make 123 = .ok (.invokevirtual 96, 3) := by decide +kernel
theorem dc_PC_make_126 : decode bc_PC_make 126 = .ok (.aload_n 0, 1) := by decide +kernel
theorem dc_PC_make_127 : decode bc_PC_make 127 = .ok (.getfield 14, 3) := by decide +kernel
theorem dc_PC_make_130 : decode bc_PC_make 130 = .ok (.invokevirtual 73, 3) := by decide +kernel
theorem dc_PC_make_133 : decode bc_PC_make 133 = .ok (.iload 6, 2) := by decide +kernel
theorem dc_PC_make_135 : decode bc_PC_make 135 = .ok (.ireturn, 1) := by decide +kernel
theorem dc_PC_putSpare_0 : decode bc_PC_putSpare 0 = .ok (.aload_n 0, 1) := by decide +kernel
theorem dc_PC_putSpare_1 : decode bc_PC_putSpare 1 = .ok (.getfield 20, 3) := by decide +kernel
theorem dc_PC_putSpare_4 : decode bc_PC_putSpare 4 = .ok (.iload_n 1, 1) := by decide +kernel
theorem dc_PC_putSpare_5 : decode bc_PC_putSpare 5 = .ok (.aaload, 1) := by decide +kernel
theorem dc_PC_putSpare_6 : decode bc_PC_putSpare 6 = .ok (.astore_n 2, 1) := by decide +kernel
theorem dc_PC_putSpare_7 : decode bc_PC_putSpare 7 = .ok (.aload_n 0, 1) := by decide +kernel
theorem dc_PC_putSpare_8 : decode bc_PC_putSpare 8 = .ok (.getfield 20, 3) := by decide +kernel
theorem dc_PC_putSpare_11 : decode bc_PC_putSpare 11 = .ok (.iload_n 1, 1) := by decide +kernel
theorem dc_PC_putSpare_12 : decode bc_PC_putSpare 12 = .ok (.aload_n 0, 1) := by decide +kernel
theorem dc_PC_putSpare_13 : decode bc_PC_putSpare 13 = .ok (.getfield 53, 3) := by decide +kernel
theorem dc_PC_putSpare_16 : decode bc_PC_putSpare 16 = .ok (.aastore, 1) := by decide +kernel
theorem dc_PC_putSpare_17 : decode bc_PC_putSpare 17 = .ok (.aload_n 0, 1) := by decide +kernel
theorem dc_PC_putSpare_18 : decode bc_PC_putSpare 18 = .ok (.aload_n 2, 1) := by decide +kernel
theorem dc_PC_putSpare_19 : decode bc_PC_putSpare 19 = .ok (.ifnonnull 13, 3) := by decide +kernel
theorem dc_PC_putSpare_22 : decode bc_PC_putSpare 22 = .ok (.new 18, 3) := by decide +kernel
theorem dc_PC_putSpare_25 : decode bc_PC_putSpare 25 = .ok (.dup, 1) := by decide +kernel
theorem dc_PC_putSpare_26 : decode bc_PC_putSpare 26 = .ok (.invokespecial 52, 3) := by decide +kernel
theorem dc_PC_putSpare_29 : decode bc_PC_putSpare 29 = .ok (.goto 4, 3) := by decide +kernel
theorem dc_PC_putSpare_32 : decode bc_PC_putSpare 32 = .ok (.aload_n 2, 1) := by decide +kernel
theorem dc_PC_putSpare_33 : decode bc_PC_putSpare 33 = .ok (.putfield 53, 3) := by decide +kernel
theorem dc_PC_putSpare_36 : decode bc_PC_putSpare 36 = .ok (.return_, 1) := by decide +kernel
theorem dc_PC_place_0 : decode bc_PC_place 0 = .ok (.aload_n 0, 1) := by decide +kernel
theorem dc_PC_place_1 : decode bc_PC_place 1 = .ok (.getfield 57, 3) := by decide +kernel
theorem dc_PC_place_4 : decode bc_PC_place 4 = .ok (.ireturn, 1) := by decide +kernel
theorem dc_PC_account_0 : decode bc_PC_account 0 = .ok (.iload_n 1, 1) := by decide +kernel
theorem dc_PC_account_1 : decode bc_PC_account 1 = .ok (.iconst 0, 1) := by decide +kernel
theorem dc_PC_account_2 : decode bc_PC_account 2 = .ok (.bipush 7, 2) := by decide +kernel
theorem dc_PC_account_4 : decode bc_PC_account 4 = .ok (.invokestatic 61, 3) := by decide +kernel
theorem dc_PC_account_7 : decode bc_PC_account 7 = .ok (.ifCond .eq 13, 3) := by decide +kernel
theorem dc_PC_account_10 : decode bc_PC_account 10 = .ok (.iload_n 2, 1) := by decide +kernel
theorem dc_PC_account_11 : decode bc_PC_account 11 = .ok (.iconst 0, 1) := by decide +kernel
theorem dc_PC_account_12 : decode bc_PC_account 12 = .ok (.ldc 99, 2) := by decide +kernel
theorem dc_PC_account_14 : decode bc_PC_account 14 = .ok (.invokestatic 61, 3) := by decide +kernel
theorem dc_PC_account_17 : decode bc_PC_account 17 = .ok (.ifCond .ne 5, 3) := by decide +kernel
theorem dc_PC_account_20 : decode bc_PC_account 20 = .ok (.iconst (-1), 1) := by decide +kernel
theorem dc_PC_account_21 : decode bc_PC_account 21 = .ok (.ireturn, 1) := by decide +kernel
theorem dc_PC_account_22 : decode bc_PC_account 22 = .ok (.aload_n 0, 1) := by decide +kernel
theorem dc_PC_account_23 : decode bc_PC_account 23 = .ok (.getfield 34, 3) := by decide +kernel
theorem dc_PC_account_26 : decode bc_PC_account 26 = .ok (.iload_n 1, 1) := by decide +kernel
theorem dc_PC_account_27 : decode bc_PC_account 27 = .ok (.iload_n 2, 1) := by decide +kernel
theorem dc_PC_account_28 : decode bc_PC_account 28 = .ok (.iload_n 3, 1) := by decide +kernel
theorem dc_PC_account_29 : decode bc_PC_account 29 = .ok (.invokevirtual 100, 3) := by decide +kernel
theorem dc_PC_account_32 : decode bc_PC_account 32 = .ok (.iconst 0, 1) := by decide +kernel
theorem dc_PC_account_33 : decode bc_PC_account 33 = .ok (.ireturn, 1) := by decide +kernel
theorem dc_PC_setting_0 : decode bc_PC_setting 0 = .ok (.aload_n 0, 1) := by decide +kernel
theorem dc_PC_setting_1 : decode bc_PC_setting 1 = .ok (.getfield 27, 3) := by decide +kernel
theorem dc_PC_setting_4 : decode bc_PC_setting 4 = .ok (.iload_n 1, 1) := by decide +kernel
theorem dc_PC_setting_5 : decode bc_PC_setting 5 = .ok (.iload_n 2, 1) := by decide +kernel
theorem dc_PC_setting_6 : decode bc_PC_setting 6 = .ok (.invokevirtual 104, 3) := by decide +kernel
theorem dc_PC_setting_9 : decode bc_PC_setting 9 = .ok (.ifCond .eq 7, 3) := by decide +kernel
theorem dc_PC_setting_12 : decode bc_PC_setting 12 = .ok (.iconst 0, 1) := by decide +kernel
theorem dc_PC_setting_13 : decode bc_PC_setting 13 = .ok (.goto 4, 3) := by decide +kernel
theorem dc_PC_setting_16 : decode bc_PC_setting 16 = .ok (.iconst (-1), 1) := by decide +kernel
theorem dc_PC_setting_17 : decode bc_PC_setting 17 = .ok (.ireturn, 1) := by decide +kernel
theorem dc_PC_pay_0 : decode bc_PC_pay 0 = .ok (.aload_n 0, 1) := by decide +kernel
theorem dc_PC_pay_1 : decode bc_PC_pay 1 = .ok (.iload_n 1, 1) := by decide +kernel
theorem dc_PC_pay_2 : decode bc_PC_pay 2 = .ok (.invokevirtual 108, 3) := by decide +kernel
theorem dc_PC_pay_5 : decode bc_PC_pay 5 = .ok (.astore 5, 2) := by decide +kernel
theorem dc_PC_pay_7 : decode bc_PC_pay 7 = .ok (.aload 5, 2) := by decide +kernel
theorem dc_PC_pay_9 : decode bc_PC_pay 9 = .ok (.ifnull 34, 3) := by decide +kernel
theorem dc_PC_pay_12 : decode bc_PC_pay 12 = .ok (.iload_n 2, 1) := by decide +kernel
theorem dc_PC_pay_13 : decode bc_PC_pay 13 = .ok (.iconst 1, 1) := by decide +kernel
theorem dc_PC_pay_14 : decode bc_PC_pay 14 = .ok (.ldc 112, 2) := by decide +kernel
theorem dc_PC_pay_16 : decode bc_PC_pay 16 = .ok (.invokestatic 61, 3) := by decide +kernel
theorem dc_PC_pay_19 : decode bc_PC_pay 19 = .ok (.ifCond .eq 24, 3) := by decide +kernel
theorem dc_PC_pay_22 : decode bc_PC_pay 22 = .ok (.iload_n 3, 1) := by decide +kernel
theorem dc_PC_pay_23 : decode bc_PC_pay 23 = .ok (.iconst (-1), 1) := by decide +kernel
theorem dc_PC_pay_24 : decode bc_PC_pay 24 = .ok (.sipush 9999, 3) := by decide +kernel
theorem dc_PC_pay_27 : decode bc_PC_pay 27 = .ok (.invokestatic 61, 3) := by decide +kernel
theorem dc_PC_pay_30 : decode bc_PC_pay 30 = .ok (.ifCond .eq 13, 3) := by decide +kernel
theorem dc_PC_pay_33 : decode bc_PC_pay 33 = .ok (.iload 4, 2) := by decide +kernel
theorem dc_PC_pay_35 : decode bc_PC_pay 35 = .ok (.iconst 0, 1) := by decide +kernel
theorem dc_PC_pay_36 : decode bc_PC_pay 36 = .ok (.iconst 3, 1) := by decide +kernel
theorem dc_PC_pay_37 : decode bc_PC_pay 37 = .ok (.invokestatic 61, 3) := by decide +kernel
theorem dc_PC_pay_40 : decode bc_PC_pay 40 = .ok (.ifCond .ne 5, 3) := by decide +kernel
theorem dc_PC_pay_43 : decode bc_PC_pay 43 = .ok (.iconst (-1), 1) := by decide +kernel
theorem dc_PC_pay_44 : decode bc_PC_pay 44 = .ok (.ireturn, 1) := by decide +kernel
theorem dc_PC_pay_45 : decode bc_PC_pay 45 = .ok (.aload_n 0, 1) := by decide +kernel
theorem dc_PC_pay_46 : decode bc_PC_pay 46 = .ok (.getfield 48, 3) := by decide +kernel
theorem dc_PC_pay_49 : decode bc_PC_pay 49 = .ok (.invokevirtual 113, 3) := by decide +kernel
theorem dc_PC_pay_52 : decode bc_PC_pay 52 = .ok (.bipush 6, 2) := by decide +kernel
theorem dc_PC_pay_54 : decode bc_PC_pay 54 = .ok (.if_icmp .lt 6, 3) := by decide +kernel
theorem dc_PC_pay_57 : decode bc_PC_pay 57 = .ok (.bipush (-2), 2) := by decide +kernel
theorem dc_PC_pay_59 : decode bc_PC_pay 59 = .ok (.ireturn, 1) := by decide +kernel
theorem dc_PC_pay_60 : decode bc_PC_pay 60 = .ok (.aload_n 0, 1) := by decide +kernel
theorem dc_PC_pay_61 : decode bc_PC_pay 61 = .ok (.getfield 41, 3) := by decide +kernel
theorem dc_PC_pay_64 : decode bc_PC_pay 64 = .ok (.iload_n 2, 1) := by decide +kernel
theorem dc_PC_pay_65 : decode bc_PC_pay 65 = .ok (.iload_n 3, 1) := by decide +kernel
theorem dc_PC_pay_66 : decode bc_PC_pay 66 = .ok (.iload 4, 2) := by decide +kernel
theorem dc_PC_pay_68 : decode bc_PC_pay 68 = .ok (.invokevirtual 114, 3) := by decide +kernel
theorem dc_PC_pay_71 : decode bc_PC_pay 71 = .ok (.aload_n 0, 1) := by decide +kernel
theorem dc_PC_pay_72 : decode bc_PC_pay 72 = .ok (.getfield 41, 3) := by decide +kernel
theorem dc_PC_pay_75 : decode bc_PC_pay 75 = .ok (.aload 5, 2) := by decide +kernel
theorem dc_PC_pay_77 : decode bc_PC_pay 77 = .ok (.aload_n 0, 1) := by decide +kernel
theorem dc_PC_pay_78 : decode bc_PC_pay 78 = .ok (.getfield 27, 3) := by decide +kernel
theorem dc_PC_pay_81 : decode bc_PC_pay 81 = .ok (.aload_n 0, 1) := by decide +kernel
theorem dc_PC_pay_82 : decode bc_PC_pay 82 = .ok (.getfield 34, 3) := by decide +kernel
theorem dc_PC_pay_85 : decode bc_PC_pay 85 = .ok (.invokevirtual 117, 3) := by decide +kernel
theorem dc_PC_pay_88 : decode bc_PC_pay 88 = .ok (.aload_n 0, 1) := by decide +kernel
theorem dc_PC_pay_89 : decode bc_PC_pay 89 = .ok (.getfield 41, 3) := by decide +kernel
theorem dc_PC_pay_92 : decode bc_PC_pay 92 = .ok (.getfield 121, 3) := by decide +kernel
theorem dc_PC_pay_95 : decode bc_PC_pay 95 = .ok (.iconst 1, 1) := by decide +kernel
theorem dc_PC_pay_96 : decode bc_PC_pay 96 = .ok (.if_icmp .ne 13, 3) := by decide +kernel
theorem dc_PC_pay_99 : decode bc_PC_pay 99 = .ok (.aload_n 0, 1) := by decide +kernel
theorem dc_PC_pay_100 : decode bc_PC_pay 100 = .ok (.dup, 1) := by decide +kernel
theorem dc_PC_pay_101 : decode bc_PC_pay 101 = .ok (.getfield 124, 3) := by decide +kernel
theorem dc_PC_pay_104 : decode bc_PC_pay 104 = .ok (.iconst 1, 1) := by decide +kernel
theorem dc_PC_pay_105 : decode bc_PC_pay 105 = .ok (.iadd, 1) := by decide +kernel
theorem dc_PC_pay_106 : decode bc_PC_pay 106 = .ok (.putfield 124, 3) := by decide +kernel
theorem dc_PC_pay_109 : decode bc_PC_pay 109 = .ok (.aload_n 0, 1) := by decide +kernel
theorem dc_PC_pay_110 : decode bc_PC_pay 110 = .ok (.getfield 41, 3) := by decide +kernel
theorem dc_PC_pay_113 : decode bc_PC_pay 113 = .ok (.aload_n 0, 1) := by decide +kernel
theorem dc_PC_pay_114 : decode bc_PC_pay 114 = .ok (.getfield 27, 3) := by decide +kernel
theorem dc_PC_pay_117 : decode bc_PC_pay 117 = .ok (.invokevirtual 127, 3) := by decide +kernel
theorem dc_PC_pay_120 : decode bc_PC_pay 120 = .ok (.ifCond .eq 27, 3) := by decide +kernel
theorem dc_PC_pay_123 : decode bc_PC_pay 123 = .ok (.aload_n 0, 1) := by decide +kernel
theorem dc_PC_pay_124 : decode bc_PC_pay 124 = .ok (.getfield 48, 3) := by decide +kernel
theorem dc_PC_pay_127 : decode bc_PC_pay 127 = .ok (.new 131, 3) := by decide +kernel
theorem dc_PC_pay_130 : decode bc_PC_pay 130 = .ok (.dup, 1) := by decide +kernel
theorem dc_PC_pay_131 : decode bc_PC_pay 131 = .ok (.aload_n 0, 1) := by decide +kernel
theorem dc_PC_pay_132 : decode bc_PC_pay 132 = .ok (.getfield 41, 3) := by decide +kernel
theorem dc_PC_pay_135 : decode bc_PC_pay 135 = .ok (.aload 5, 2) := by decide +kernel
theorem dc_PC_pay_137 : decode bc_PC_pay 137 = .ok (.getfield 133, 3) := by decide +kernel
theorem dc_PC_pay_140 : decode bc_PC_pay 140 = .ok (.invokespecial 136, 3) := by decide +kernel
theorem dc_PC_pay_143 : decode bc_PC_pay 143 = .ok (.invokevirtual 139, 3) := by decide +kernel
theorem dc_PC_pay_146 : decode bc_PC_pay 146 = .ok (.pop, 1) := by decide +kernel
theorem dc_PC_pay_147 : decode bc_PC_pay 147 = .ok (.aload_n 0, 1) := by decide +kernel
theorem dc_PC_pay_148 : decode bc_PC_pay 148 = .ok (.getfield 41, 3) := by decide +kernel
theorem dc_PC_pay_151 : decode bc_PC_pay 151 = .ok (.getfield 121, 3) := by decide +kernel
theorem dc_PC_pay_154 : decode bc_PC_pay 154 = .ok (.ireturn, 1) := by decide +kernel
theorem dc_PC_cardThere_0 : decode bc_PC_cardThere 0 = .ok (.iload_n 1, 1) := by decide +kernel
theorem dc_PC_cardThere_1 : decode bc_PC_cardThere 1 = .ok (.iconst 0, 1) := by decide +kernel
theorem dc_PC_cardThere_2 : decode bc_PC_cardThere 2 = .ok (.iconst 3, 1) := by decide +kernel
theorem dc_PC_cardThere_3 : decode bc_PC_cardThere 3 = .ok (.invokestatic 61, 3) := by decide +kernel
theorem dc_PC_cardThere_6 : decode bc_PC_cardThere 6 = .ok (.ifCond .eq 12, 3) := by decide +kernel
theorem dc_PC_cardThere_9 : decode bc_PC_cardThere 9 = .ok (.aload_n 0, 1) := by decide +kernel
theorem dc_PC_cardThere_10 : decode bc_PC_cardThere 10 = .ok (.getfield 20, 3) := by decide +kernel
theorem dc_PC_cardThere_13 : decode bc_PC_cardThere 13 = .ok (.iload_n 1, 1) := by decide +kernel
theorem dc_PC_cardThere_14 : decode bc_PC_cardThere 14 = .ok (.aaload, 1) := by decide +kernel
theorem dc_PC_cardThere_15 : decode bc_PC_cardThere 15 = .ok (.goto 4, 3) := by decide +kernel
theorem dc_PC_cardThere_18 : decode bc_PC_cardThere 18 = .ok (.aconst_null, 1) := by decide +kernel
theorem dc_PC_cardThere_19 : decode bc_PC_cardThere 19 = .ok (.areturn, 1) := by decide +kernel
theorem dc_PC_send_0 : decode bc_PC_send 0 = .ok (.iload_n 1, 1) := by decide +kernel
theorem dc_PC_send_1 : decode bc_PC_send 1 = .ok (.iconst 0, 1) := by decide +kernel
theorem dc_PC_send_2 : decode bc_PC_send 2 = .ok (.iconst 2, 1) := by decide +kernel
theorem dc_PC_send_3 : decode bc_PC_send 3 = .ok (.invokestatic 61, 3) := by decide +kernel
theorem dc_PC_send_6 : decode bc_PC_send 6 = .ok (.ifCond .eq 23, 3) := by decide +kernel
theorem dc_PC_send_9 : decode bc_PC_send 9 = .ok (.aload_n 0, 1) := by decide +kernel
theorem dc_PC_send_10 : decode bc_PC_send 10 = .ok (.getfield 27, 3) := by decide +kernel
theorem dc_PC_send_13 : decode bc_PC_send 13 = .ok (.invokevirtual 142, 3) := by decide +kernel
theorem dc_PC_send_16 : decode bc_PC_send 16 = .ok (.ifCond .eq 13, 3) := by decide +kernel
theorem dc_PC_send_19 : decode bc_PC_send 19 = .ok (.aload_n 0, 1) := by decide +kernel
theorem dc_PC_send_20 : decode bc_PC_send 20 = .ok (.getfield 48, 3) := by decide +kernel
theorem dc_PC_send_23 : decode bc_PC_send 23 = .ok (.invokevirtual 146, 3) := by decide +kernel
theorem dc_PC_send_26 : decode bc_PC_send 26 = .ok (.ifCond .eq 5, 3) := by decide +kernel
theorem dc_PC_send_29 : decode bc_PC_send 29 = .ok (.iconst (-1), 1) := by decide +kernel
theorem dc_PC_send_30 : decode bc_PC_send 30 = .ok (.ireturn, 1) := by decide +kernel
theorem dc_PC_send_31 : decode bc_PC_send 31 = .ok (.iload_n 1, 1) := by decide +kernel
theorem dc_PC_send_32 : decode bc_PC_send 32 = .ok (.iconst 1, 1) := by decide +kernel
theorem dc_PC_send_33 : decode bc_PC_send 33 = .ok (.if_icmp .ne 5, 3) := by decide +kernel
theorem dc_PC_send_36 : decode bc_PC_send 36 = .ok (.iconst 0, 1) := by decide +kernel
theorem dc_PC_send_37 : decode bc_PC_send 37 = .ok (.ireturn, 1) := by decide +kernel
theorem dc_PC_send_38 : decode bc_PC_send 38 = .ok (.aload_n 0, 1) := by decide +kernel
theorem dc_PC_send_39 : decode bc_PC_send 39 = .ok (.getfield 34, 3) := by decide +kernel
theorem dc_PC_send_42 : decode bc_PC_send 42 = .ok (.aload_n 0, 1) := by decide +kernel
theorem dc_PC_send_43 : decode bc_PC_send 43 = .ok (.getfield 48, 3) := by decide +kernel
theorem dc_PC_send_46 : decode bc_PC_send 46 = .ok (.iconst 0, 1) := by decide +kernel
theorem dc_PC_send_47 : decode bc_PC_send 47 = .ok (.invokevirtual 149, 3) := by decide +kernel
theorem dc_PC_send_50 : decode bc_PC_send 50 = .ok (.checkcast 131, 3) := by decide +kernel
theorem dc_PC_send_53 : decode bc_PC_send 53 = .ok (.invokevirtual 153, 3) := by decide +kernel
theorem dc_PC_send_56 : decode bc_PC_send 56 = .ok (.iload_n 1, 1) := by decide +kernel
theorem dc_PC_send_57 : decode bc_PC_send 57 = .ok (.iconst 2, 1) := by decide +kernel
theorem dc_PC_send_58 : decode bc_PC_send 58 = .ok (.if_icmp .ne 5, 3) := by decide +kernel
theorem dc_PC_send_61 : decode bc_PC_send 61 = .ok (.iconst 0, 1) := by decide +kernel
theorem dc_PC_send_62 : decode bc_PC_send 62 = .ok (.ireturn, 1) := by decide +kernel
theorem dc_PC_send_63 : decode bc_PC_send 63 = .ok (.aload_n 0, 1) := by decide +kernel
theorem dc_PC_send_64 : decode bc_PC_send 64 = .ok (.getfield 48, 3) := by decide +kernel
theorem dc_PC_send_67 : decode bc_PC_send 67 = .ok (.iconst 0, 1) := by decide +kernel
theorem dc_PC_send_68 : decode bc_PC_send 68 = .ok (.invokevirtual 157, 3) := by decide +kernel
theorem dc_PC_send_71 : decode bc_PC_send 71 = .ok (.pop, 1) := by decide +kernel
theorem dc_PC_send_72 : decode bc_PC_send 72 = .ok (.iconst 1, 1) := by decide +kernel
theorem dc_PC_send_73 : decode bc_PC_send 73 = .ok (.ireturn, 1) := by decide +kernel
theorem dc_PC_last_0 : decode bc_PC_last 0 = .ok (.aload_n 0, 1) := by decide +kernel
theorem dc_PC_last_1 : decode bc_PC_last 1 = .ok (.getfield 41, 3) := by decide +kernel
theorem dc_PC_last_4 : decode bc_PC_last 4 = .ok (.iload_n 1, 1) := by decide +kernel
theorem dc_PC_last_5 : decode bc_PC_last 5 = .ok (.invokevirtual 160, 3) := by decide +kernel
theorem dc_PC_last_8 : decode bc_PC_last 8 = .ok (.ireturn, 1) := by decide +kernel
theorem dc_PC_data_0 : decode bc_PC_data 0 = .ok (.aload_n 0, 1) := by decide +kernel
theorem dc_PC_data_1 : decode bc_PC_data 1 = .ok (.getfield 41, 3) := by decide +kernel
theorem dc_PC_data_4 : decode bc_PC_data 4 = .ok (.getfield 164, 3) := by decide +kernel
theorem dc_PC_data_7 : decode bc_PC_data 7 = .ok (.iload_n 1, 1) := by decide +kernel
theorem dc_PC_data_8 : decode bc_PC_data 8 = .ok (.invokevirtual 167, 3) := by decide +kernel
theorem dc_PC_data_11 : decode bc_PC_data 11 = .ok (.invokestatic 170, 3) := by decide +kernel
theorem dc_PC_data_14 : decode bc_PC_data 14 = .ok (.ireturn, 1) := by decide +kernel
theorem dc_PC_orRefused_0 : decode bc_PC_orRefused 0 = .ok (.iload_n 0, 1) := by decide +kernel
theorem dc_PC_orRefused_1 : decode bc_PC_orRefused 1 = .ok (.iconst (-1), 1) := by decide +kernel
theorem dc_PC_orRefused_2 : decode bc_PC_orRefused 2 = .ok (.if_icmp .ne 7, 3) := by decide +kernel
theorem dc_PC_orRefused_5 : decode bc_PC_orRefused 5 = .ok (.iconst (-1), 1) := by decide +kernel
theorem dc_PC_orRefused_6 : decode bc_PC_orRefused 6 = .ok (.goto 4, 3) := by decide +kernel
theorem dc_PC_orRefused_9 : decode bc_PC_orRefused 9 = .ok (.iload_n 0, 1) := by decide +kernel
theorem dc_PC_orRefused_10 : decode bc_PC_orRefused 10 = .ok (.ireturn, 1) := by decide +kernel
theorem dc_PC_card_0 : decode bc_PC_card 0 = .ok (.aload_n 0, 1) := by decide +kernel
theorem dc_PC_card_1 : decode bc_PC_card 1 = .ok (.iload_n 1, 1) := by decide +kernel
theorem dc_PC_card_2 : decode bc_PC_card 2 = .ok (.invokevirtual 108, 3) := by decide +kernel
theorem dc_PC_card_5 : decode bc_PC_card 5 = .ok (.astore_n 3, 1) := by decide +kernel
theorem dc_PC_card_6 : decode bc_PC_card 6 = .ok (.aload_n 3, 1) := by decide +kernel
theorem dc_PC_card_7 : decode bc_PC_card 7 = .ok (.ifnonnull 7, 3) := by decide +kernel
theorem dc_PC_card_10 : decode bc_PC_card 10 = .ok (.iconst (-1), 1) := by decide +kernel
theorem dc_PC_card_11 : decode bc_PC_card 11 = .ok (.goto 8, 3) := by decide +kernel
theorem dc_PC_card_14 : decode bc_PC_card 14 = .ok (.aload_n 3, 1) := by decide +kernel
theorem dc_PC_card_15 : decode bc_PC_card 15 = .ok (.iload_n 2, 1) := by decide +kernel
theorem dc_PC_card_16 : decode bc_PC_card 16 = .ok (.invokevirtual 173, 3) := by decide +kernel
theorem dc_PC_card_19 : decode bc_PC_card 19 = .ok (.ireturn, 1) := by decide +kernel
theorem dc_PC_value_0 : decode bc_PC_value 0 = .ok (.aload_n 0, 1) := by decide +kernel
theorem dc_PC_value_1 : decode bc_PC_value 1 = .ok (.iload_n 1, 1) := by decide +kernel
theorem dc_PC_value_2 : decode bc_PC_value 2 = .ok (.invokevirtual 108, 3) := by decide +kernel
theorem dc_PC_value_5 : decode bc_PC_value 5 = .ok (.astore 4, 2) := by decide +kernel
theorem dc_PC_value_7 : decode bc_PC_value 7 = .ok (.aload 4, 2) := by decide +kernel
theorem dc_PC_value_9 : decode bc_PC_value 9 = .ok (.ifnonnull 5, 3) := by decide +kernel
theorem dc_PC_value_12 : decode bc_PC_value 12 = .ok (.iconst (-1), 1) := by decide +kernel
theorem dc_PC_value_13 : decode bc_PC_value 13 = .ok (.ireturn, 1) := by decide +kernel
theorem dc_PC_value_14 : decode bc_PC_value 14 = .ok (.aload 4, 2) := by decide +kernel
theorem dc_PC_value_16 : decode bc_PC_value 16 = .ok (.getfield 76, 3) := by decide +kernel
theorem dc_PC_value_19 : decode bc_PC_value 19 = .ok (.aload 4, 2) := by decide +kernel
theorem dc_PC_value_21 : decode bc_PC_value 21 = .ok (.getfield 76, 3) := by decide +kernel
theorem dc_PC_value_24 : decode bc_PC_value 24 = .ok (.iload_n 2, 1) := by decide +kernel
theorem dc_PC_value_25 : decode bc_PC_value 25 = .ok (.invokevirtual 174, 3) := by decide +kernel
theorem dc_PC_value_28 : decode bc_PC_value 28 = .ok (.iload_n 3, 1) := by decide +kernel
theorem dc_PC_value_29 : decode bc_PC_value 29 = .ok (.invokevirtual 177, 3) := by decide +kernel
theorem dc_PC_value_32 : decode bc_PC_value 32 = .ok (.invokestatic 170, 3) := by decide +kernel
theorem dc_PC_value_35 : decode bc_PC_value 35 = .ok (.ireturn, 1) := by decide +kernel
theorem dc_PC_inside_0 : decode bc_PC_inside 0 = .ok (.aload_n 0, 1) := by decide +kernel
theorem dc_PC_inside_1 : decode bc_PC_inside 1 = .ok (.iload_n 1, 1) := by decide +kernel
theorem dc_PC_inside_2 : decode bc_PC_inside 2 = .ok (.invokevirtual 108, 3) := by decide +kernel
theorem dc_PC_inside_5 : decode bc_PC_inside 5 = .ok (.astore_n 3, 1) := by decide +kernel
theorem dc_PC_inside_6 : decode bc_PC_inside 6 = .ok (.aload_n 3, 1) := by decide +kernel
theorem dc_PC_inside_7 : decode bc_PC_inside 7 = .ok (.ifnonnull 5, 3) := by decide +kernel
theorem dc_PC_inside_10 : decode bc_PC_inside 10 = .ok (.iconst (-1), 1) := by decide +kernel
theorem dc_PC_inside_11 : decode bc_PC_inside 11 = .ok (.ireturn, 1) := by decide +kernel
theorem dc_PC_inside_12 : decode bc_PC_inside 12 = .ok (.aload_n 3, 1) := by decide +kernel
theorem dc_PC_inside_13 : decode bc_PC_inside 13 = .ok (.getfield 76, 3) := by decide +kernel
theorem dc_PC_inside_16 : decode bc_PC_inside 16 = .ok (.aload_n 3, 1) := by decide +kernel
theorem dc_PC_inside_17 : decode bc_PC_inside 17 = .ok (.getfield 76, 3) := by decide +kernel
theorem dc_PC_inside_20 : decode bc_PC_inside 20 = .ok (.iload_n 2, 1) := by decide +kernel
theorem dc_PC_inside_21 : decode bc_PC_inside 21 = .ok (.invokevirtual 174, 3) := by decide +kernel
theorem dc_PC_inside_24 : decode bc_PC_inside 24 = .ok (.invokevirtual 181, 3) := by decide +kernel
theorem dc_PC_inside_27 : decode bc_PC_inside 27 = .ok (.invokestatic 170, 3) := by decide +kernel
theorem dc_PC_inside_30 : decode bc_PC_inside 30 = .ok (.ireturn, 1) := by decide +kernel
theorem dc_PC_balance_0 : decode bc_PC_balance 0 = .ok (.aload_n 0, 1) := by decide +kernel
theorem dc_PC_balance_1 : decode bc_PC_balance 1 = .ok (.getfield 34, 3) := by decide +kernel
theorem dc_PC_balance_4 : decode bc_PC_balance 4 = .ok (.iload_n 1, 1) := by decide +kernel
theorem dc_PC_balance_5 : decode bc_PC_balance 5 = .ok (.invokevirtual 184, 3) := by decide +kernel
theorem dc_PC_balance_8 : decode bc_PC_balance 8 = .ok (.lreturn, 1) := by decide +kernel
theorem dc_PC_queued_0 : decode bc_PC_queued 0 = .ok (.iload_n 1, 1) := by decide +kernel
theorem dc_PC_queued_1 : decode bc_PC_queued 1 = .ok (.iconst 0, 1) := by decide +kernel
theorem dc_PC_queued_2 : decode bc_PC_queued 2 = .ok (.aload_n 0, 1) := by decide +kernel
theorem dc_PC_queued_3 : decode bc_PC_queued 3 = .ok (.getfield 48, 3) := by decide +kernel
theorem dc_PC_queued_6 : decode bc_PC_queued 6 = .ok (.invokevirtual 113, 3) := by decide +kernel
theorem dc_PC_queued_9 : decode bc_PC_queued 9 = .ok (.iconst 1, 1) := by decide +kernel
theorem dc_PC_queued_10 : decode bc_PC_queued 10 = .ok (.isub, 1) := by decide +kernel
theorem dc_PC_queued_11 : decode bc_PC_queued 11 = .ok (.invokestatic 61, 3) := by decide +kernel
theorem dc_PC_queued_14 : decode bc_PC_queued 14 = .ok (.ifCond .eq 20, 3) := by decide +kernel
theorem dc_PC_queued_17 : decode bc_PC_queued 17 = .ok (.aload_n 0, 1) := by decide +kernel
theorem dc_PC_queued_18 : decode bc_PC_queued 18 = .ok (.getfield 48, 3) := by decide +kernel
theorem dc_PC_queued_21 : decode bc_PC_queued 21 = .ok (.iload_n 1, 1) := by decide +kernel
theorem dc_PC_queued_22 : decode bc_PC_queued 22 = .ok (.invokevirtual 149, 3) := by decide +kernel
theorem dc_PC_queued_25 : decode bc_PC_queued 25 = .ok (.checkcast 131, 3) := by decide +kernel
theorem dc_PC_queued_28 : decode bc_PC_queued 28 = .ok (.getfield 188, 3) := by decide +kernel
theorem dc_PC_queued_31 : decode bc_PC_queued 31 = .ok (.goto 4, 3) := by decide +kernel
theorem dc_PC_queued_34 : decode bc_PC_queued 34 = .ok (.iconst (-1), 1) := by decide +kernel
theorem dc_PC_queued_35 : decode bc_PC_queued 35 = .ok (.ireturn, 1) := by decide +kernel
theorem dc_PC_count_0 : decode bc_PC_count 0 = .ok (.iload_n 1, 1) := by decide +kernel
theorem dc_PC_count_1 : decode bc_PC_count 1 = .ok (.tableswitch 72 0 4 #[35, 43, 51, 59, 64], 35) := by decide +kernel
theorem dc_PC_count_36 : decode bc_PC_count 36 = .ok (.aload_n 0, 1) := by decide +kernel
theorem dc_PC_count_37 : decode bc_PC_count 37 = .ok (.getfield 14, 3) := by decide +kernel
theorem dc_PC_count_40 : decode bc_PC_count 40 = .ok (.invokevirtual 69, 3) := by decide +kernel
theorem dc_PC_count_43 : decode bc_PC_count 43 = .ok (.ireturn, 1) := by decide +kernel
theorem dc_PC_count_44 : decode bc_PC_count 44 = .ok (.aload_n 0, 1) := by decide +kernel
theorem dc_PC_count_45 : decode bc_PC_count 45 = .ok (.getfield 41, 3) := by decide +kernel
theorem dc_PC_count_48 : decode bc_PC_count 48 = .ok (.getfield 191, 3) := by decide +kernel
theorem dc_PC_count_51 : decode bc_PC_count 51 = .ok (.ireturn, 1) := by decide +kernel
theorem dc_PC_count_52 : decode bc_PC_count 52 = .ok (.aload_n 0, 1) := by decide +kernel
theorem dc_PC_count_53 : decode bc_PC_count 53 = .ok (.getfield 48, 3) := by decide +kernel
theorem dc_PC_count_56 : decode bc_PC_count 56 = .ok (.invokevirtual 113, 3) := by decide +kernel
theorem dc_PC_count_59 : decode bc_PC_count 59 = .ok (.ireturn, 1) := by decide +kernel
theorem dc_PC_count_60 : decode bc_PC_count 60 = .ok (.aload_n 0, 1) := by decide +kernel
theorem dc_PC_count_61 : decode bc_PC_count 61 = .ok (.getfield 124, 3) := by decide +kernel
theorem dc_PC_count_64 : decode bc_PC_count 64 = .ok (.ireturn, 1) := by decide +kernel
theorem dc_PC_count_65 : decode bc_PC_count 65 = .ok (.aload_n 0, 1) := by decide +kernel
theorem dc_PC_count_66 : decode bc_PC_count 66 = .ok (.getfield 34, 3) := by decide +kernel
theorem dc_PC_count_69 : decode bc_PC_count 69 = .ok (.getfield 192, 3) := by decide +kernel
theorem dc_PC_count_72 : decode bc_PC_count 72 = .ok (.ireturn, 1) := by decide +kernel
theorem dc_PC_count_73 : decode bc_PC_count 73 = .ok (.iconst (-1), 1) := by decide +kernel
theorem dc_PC_count_74 : decode bc_PC_count 74 = .ok (.ireturn, 1) := by decide +kernel
theorem dc_Row_init_0 : decode bc_Row_init 0 = .ok (.aload_n 0, 1) := by decide +kernel
theorem dc_Row_init_1 : decode bc_Row_init 1 = .ok (.invokespecial 3, 3) := by decide +kernel
theorem dc_Row_init_4 : decode bc_Row_init 4 = .ok (.aload_n 0, 1) := by decide +kernel
theorem dc_Row_init_5 : decode bc_Row_init 5 = .ok (.iload_n 1, 1) := by decide +kernel
theorem dc_Row_init_6 : decode bc_Row_init 6 = .ok (.newarray .int, 2) := by decide +kernel
theorem dc_Row_init_8 : decode bc_Row_init 8 = .ok (.putfield 9, 3) := by decide +kernel
theorem dc_Row_init_11 : decode bc_Row_init 11 = .ok (.return_, 1) := by decide +kernel
theorem dc_Row_add_0 : decode bc_Row_add 0 = .ok (.aload_n 0, 1) := by decide +kernel
theorem dc_Row_add_1 : decode bc_Row_add 1 = .ok (.getfield 15, 3) := by decide +kernel
theorem dc_Row_add_4 : decode bc_Row_add 4 = .ok (.aload_n 0, 1) := by decide +kernel
theorem dc_Row_add_5 : decode bc_Row_add 5 = .ok (.getfield 9, 3) := by decide +kernel
theorem dc_Row_add_8 : decode bc_Row_add 8 = .ok (.arraylength, 1) := by decide +kernel
theorem dc_Row_add_9 : decode bc_Row_add 9 = .ok (.if_icmp .lt 5, 3) := by decide +kernel
theorem dc_Row_add_12 : decode bc_Row_add 12 = .ok (.iconst 0, 1) := by decide +kernel
theorem dc_Row_add_13 : decode bc_Row_add 13 = .ok (.ireturn, 1) := by decide +kernel
theorem dc_Row_add_14 : decode bc_Row_add 14 = .ok (.aload_n 0, 1) := by decide +kernel
theorem dc_Row_add_15 : decode bc_Row_add 15 = .ok (.getfield 9, 3) := by decide +kernel
theorem dc_Row_add_18 : decode bc_Row_add 18 = .ok (.aload_n 0, 1) := by decide +kernel
theorem dc_Row_add_19 : decode bc_Row_add 19 = .ok (.getfield 15, 3) := by decide +kernel
theorem dc_Row_add_22 : decode bc_Row_add 22 = .ok (.iload_n 1, 1) := by decide +kernel
theorem dc_Row_add_23 : decode bc_Row_add 23 = .ok (.iastore, 1) := by decide +kernel
theorem dc_Row_add_24 : decode bc_Row_add 24 = .ok (.aload_n 0, 1) := by decide +kernel
theorem dc_Row_add_25 : decode bc_Row_add 25 = .ok (.dup, 1) := by decide +kernel
theorem dc_Row_add_26 : decode bc_Row_add 26 = .ok (.getfield 15, 3) := by decide +kernel
theorem dc_Row_add_29 : decode bc_Row_add 29 = .ok (.iconst 1, 1) := by decide +kernel
theorem dc_Row_add_30 : decode bc_Row_add 30 = .ok (.iadd, 1) := by decide +kernel
theorem dc_Row_add_31 : decode bc_Row_add 31 = .ok (.putfield 15, 3) := by decide +kernel
theorem dc_Row_add_34 : decode bc_Row_add 34 = .ok (.iconst 1, 1) := by decide +kernel
theorem dc_Row_add_35 : decode bc_Row_add 35 = .ok (.ireturn, 1) := by decide +kernel
theorem dc_Row_length_0 : decode bc_Row_length 0 = .ok (.aload_n 0, 1) := by decide +kernel
theorem dc_Row_length_1 : decode bc_Row_length 1 = .ok (.getfield 15, 3) := by decide +kernel
theorem dc_Row_length_4 : decode bc_Row_length 4 = .ok (.ireturn, 1) := by decide +kernel
theorem dc_Row_clear_0 : decode bc_Row_clear 0 = .ok (.aload_n 0, 1) := by decide +kernel
theorem dc_Row_clear_1 : decode bc_Row_clear 1 = .ok (.iconst 0, 1) := by decide +kernel
theorem dc_Row_clear_2 : decode bc_Row_clear 2 = .ok (.putfield 15, 3) := by decide +kernel
theorem dc_Row_clear_5 : decode bc_Row_clear 5 = .ok (.return_, 1) := by decide +kernel
theorem dc_Row_copy_0 : decode bc_Row_copy 0 = .ok (.aload_n 0, 1) := by decide +kernel
theorem dc_Row_copy_1 : decode bc_Row_copy 1 = .ok (.invokevirtual 19, 3) := by decide +kernel
theorem dc_Row_copy_4 : decode bc_Row_copy 4 = .ok (.iconst 0, 1) := by decide +kernel
theorem dc_Row_copy_5 : decode bc_Row_copy 5 = .ok (.istore_n 2, 1) := by decide +kernel
theorem dc_Row_copy_6 : decode bc_Row_copy 6 = .ok (.iload_n 2, 1) := by decide +kernel
theorem dc_Row_copy_7 : decode bc_Row_copy 7 = .ok (.aload_n 1, 1) := by decide +kernel
theorem dc_Row_copy_8 : decode bc_Row_copy 8 = .ok (.getfield 15, 3) := by decide +kernel
theorem dc_Row_copy_11 : decode bc_Row_copy 11 = .ok (.if_icmp .ge 19, 3) := by decide +kernel
theorem dc_Row_copy_14 : decode bc_Row_copy 14 = .ok (.aload_n 0, 1) := by decide +kernel
theorem dc_Row_copy_15 : decode bc_Row_copy 15 = .ok (.aload_n 1, 1) := by decide +kernel
theorem dc_Row_copy_16 : decode bc_Row_copy 16 = .ok (.iload_n 2, 1) := by decide +kernel
theorem dc_Row_copy_17 : decode bc_Row_copy 17 = .ok (.invokevirtual 22, 3) := by decide +kernel
theorem dc_Row_copy_20 : decode bc_Row_copy 20 = .ok (.invokevirtual 26, 3) := by decide +kernel
theorem dc_Row_copy_23 : decode bc_Row_copy 23 = .ok (.pop, 1) := by decide +kernel
theorem dc_Row_copy_24 : decode bc_Row_copy 24 = .ok (.iinc 2 1, 3) := by decide +kernel
theorem dc_Row_copy_27 : decode bc_Row_copy 27 = .ok (.goto (-21), 3) := by decide +kernel
theorem dc_Row_copy_30 : decode bc_Row_copy 30 = .ok (.return_, 1) := by decide +kernel
theorem dc_Row_at_0 : decode bc_Row_at 0 = .ok (.iload_n 1, 1) := by decide +kernel
theorem dc_Row_at_1 : decode bc_Row_at 1 = .ok (.ifCond .lt 20, 3) := by decide +kernel
theorem dc_Row_at_4 : decode bc_Row_at 4 = .ok (.iload_n 1, 1) := by decide +kernel
theorem dc_Row_at_5 : decode bc_Row_at 5 = .ok (.aload_n 0, 1) := by decide +kernel
theorem dc_Row_at_6 : decode bc_Row_at 6 = .ok (.getfield 15, 3) := by decide +kernel
theorem dc_Row_at_9 : decode bc_Row_at 9 = .ok (.if_icmp .ge 12, 3) := by decide +kernel
theorem dc_Row_at_12 : decode bc_Row_at 12 = .ok (.aload_n 0, 1) := by decide +kernel
theorem dc_Row_at_13 : decode bc_Row_at 13 = .ok (.getfield 9, 3) := by decide +kernel
theorem dc_Row_at_16 : decode bc_Row_at 16 = .ok (.iload_n 1, 1) := by decide +kernel
theorem dc_Row_at_17 : decode bc_Row_at 17 = .ok (.iaload, 1) := by decide +kernel
theorem dc_Row_at_18 : decode bc_Row_at 18 = .ok (.goto 4, 3) := by decide +kernel
theorem dc_Row_at_21 : decode bc_Row_at 21 = .ok (.iconst (-1), 1) := by decide +kernel
theorem dc_Row_at_22 : decode bc_Row_at 22 = .ok (.ireturn, 1) := by decide +kernel
theorem dc_Row_atBefore_0 : decode bc_Row_atBefore 0 = .ok (.iload_n 1, 1) := by decide +kernel
theorem dc_Row_atBefore_1 : decode bc_Row_atBefore 1 = .ok (.ifCond .lt 25, 3) := by decide +kernel
theorem dc_Row_atBefore_4 : decode bc_Row_atBefore 4 = .ok (.iload_n 1, 1) := by decide +kernel
theorem dc_Row_atBefore_5 : decode bc_Row_atBefore 5 = .ok (.iload_n 2, 1) := by decide +kernel
theorem dc_Row_atBefore_6 : decode bc_Row_atBefore 6 = .ok (.if_icmp .ge 20, 3) := by decide +kernel
theorem dc_Row_atBefore_9 : decode bc_Row_atBefore 9 = .ok (.iload_n 1, 1) := by decide +kernel
theorem dc_Row_atBefore_10 : decode bc_Row_atBefore 10 = .ok (.aload_n 0, 1) := by decide +kernel
theorem dc_Row_atBefore_11 : decode bc_Row_atBefore 11 = .ok (.getfield 15, 3) := by decide +kernel
theorem dc_Row_atBefore_14 : decode bc_Row_atBefore 14 = .ok (.if_icmp .ge 12, 3) := by decide +kernel
theorem dc_Row_atBefore_17 : decode bc_Row_atBefore 17 = .ok (.aload_n 0, 1) := by decide +kernel
theorem dc_Row_atBefore_18 : decode bc_Row_atBefore 18 = .ok (.getfield 9, 3) := by decide +kernel
theorem dc_Row_atBefore_21 : decode bc_Row_atBefore 21 = .ok (.iload_n 1, 1) := by decide +kernel
theorem dc_Row_atBefore_22 : decode bc_Row_atBefore 22 = .ok (.iaload, 1) := by decide +kernel
theorem dc_Row_atBefore_23 : decode bc_Row_atBefore 23 = .ok (.goto 4, 3) := by decide +kernel
theorem dc_Row_atBefore_26 : decode bc_Row_atBefore 26 = .ok (.iconst (-1), 1) := by decide +kernel
theorem dc_Row_atBefore_27 : decode bc_Row_atBefore 27 = .ok (.ireturn, 1) := by decide +kernel
theorem dc_Term_init_0 : decode bc_Term_init 0 = .ok (.aload_n 0, 1) := by decide +kernel
theorem dc_Term_init_1 : decode bc_Term_init 1 = .ok (.invokespecial 1, 3) := by decide +kernel
theorem dc_Term_init_4 : decode bc_Term_init 4 = .ok (.aload_n 0, 1) := by decide +kernel
theorem dc_Term_init_5 : decode bc_Term_init 5 = .ok (.bipush 7, 2) := by decide +kernel
theorem dc_Term_init_7 : decode bc_Term_init 7 = .ok (.newarray .int, 2) := by decide +kernel
theorem dc_Term_init_9 : decode bc_Term_init 9 = .ok (.putfield 9, 3) := by decide +kernel
theorem dc_Term_init_12 : decode bc_Term_init 12 = .ok (.return_, 1) := by decide +kernel
theorem dc_Term_set_0 : decode bc_Term_set 0 = .ok (.iload_n 1, 1) := by decide +kernel
theorem dc_Term_set_1 : decode bc_Term_set 1 = .ok (.iconst 1, 1) := by decide +kernel
theorem dc_Term_set_2 : decode bc_Term_set 2 = .ok (.if_icmp .eq 8, 3) := by decide +kernel
theorem dc_Term_set_5 : decode bc_Term_set 5 = .ok (.iload_n 1, 1) := by decide +kernel
theorem dc_Term_set_6 : decode bc_Term_set 6 = .ok (.iconst 4, 1) := by decide +kernel
theorem dc_Term_set_7 : decode bc_Term_set 7 = .ok (.if_icmp .lt 8, 3) := by decide +kernel
theorem dc_Term_set_10 : decode bc_Term_set 10 = .ok (.ldc 13, 2) := by decide +kernel
theorem dc_Term_set_12 : decode bc_Term_set 12 = .ok (.goto 5, 3) := by decide +kernel
theorem dc_Term_set_15 : decode bc_Term_set 15 = .ok (.ldc 14, 2) := by decide +kernel
theorem dc_Term_set_17 : decode bc_Term_set 17 = .ok (.istore_n 3, 1) := by decide +kernel
theorem dc_Term_set_18 : decode bc_Term_set 18 = .ok (.iload_n 1, 1) := by decide +kernel
theorem dc_Term_set_19 : decode bc_Term_set 19 = .ok (.iconst 0, 1) := by decide +kernel
theorem dc_Term_set_20 : decode bc_Term_set 20 = .ok (.bipush 6, 2) := by decide +kernel
theorem dc_Term_set_22 : decode bc_Term_set 22 = .ok (.invokestatic 15, 3) := by decide +kernel
theorem dc_Term_set_25 : decode bc_Term_set 25 = .ok (.ifCond .eq 12, 3) := by decide +kernel
theorem dc_Term_set_28 : decode bc_Term_set 28 = .ok (.iload_n 2, 1) := by decide +kernel
theorem dc_Term_set_29 : decode bc_Term_set 29 = .ok (.iconst 0, 1) := by decide +kernel
theorem dc_Term_set_30 : decode bc_Term_set 30 = .ok (.iload_n 3, 1) := by decide +kernel
theorem dc_Term_set_31 : decode bc_Term_set 31 = .ok (.invokestatic 15, 3) := by decide +kernel
theorem dc_Term_set_34 : decode bc_Term_set 34 = .ok (.ifCond .ne 5, 3) := by decide +kernel
theorem dc_Term_set_37 : decode bc_Term_set 37 = .ok (.iconst 0, 1) := by decide +kernel
theorem dc_Term_set_38 : decode bc_Term_set 38 = .ok (.ireturn, 1) := by decide +kernel
theorem dc_Term_set_39 : decode bc_Term_set 39 = .ok (.aload_n 0, 1) := by decide +kernel
theorem dc_Term_set_40 : decode bc_Term_set 40 = .ok (.getfield 9, 3) := by decide +kernel
theorem dc_Term_set_43 : decode bc_Term_set 43 = .ok (.iload_n 1, 1) := by decide +kernel
theorem dc_Term_set_44 : decode bc_Term_set 44 = .ok (.iload_n 2, 1) := by decide +kernel
theorem dc_Term_set_45 : decode bc_Term_set 45 = .ok (.iastore, 1) := by decide +kernel
theorem dc_Term_set_46 : decode bc_Term_set 46 = .ok (.iconst 1, 1) := by decide +kernel
theorem dc_Term_set_47 : decode bc_Term_set 47 = .ok (.ireturn, 1) := by decide +kernel
theorem dc_Term_day_0 : decode bc_Term_day 0 = .ok (.aload_n 0, 1) := by decide +kernel
theorem dc_Term_day_1 : decode bc_Term_day 1 = .ok (.getfield 9, 3) := by decide +kernel
theorem dc_Term_day_4 : decode bc_Term_day 4 = .ok (.iconst 1, 1) := by decide +kernel
theorem dc_Term_day_5 : decode bc_Term_day 5 = .ok (.iaload, 1) := by decide +kernel
theorem dc_Term_day_6 : decode bc_Term_day 6 = .ok (.ireturn, 1) := by decide +kernel
theorem dc_Term_hasPad_0 : decode bc_Term_hasPad 0 = .ok (.aload_n 0, 1) := by decide +kernel
theorem dc_Term_hasPad_1 : decode bc_Term_hasPad 1 = .ok (.getfield 9, 3) := by decide +kernel
theorem dc_Term_hasPad_4 : decode bc_Term_hasPad 4 = .ok (.iconst 3, 1) := by decide +kernel
theorem dc_Term_hasPad_5 : decode bc_Term_hasPad 5 = .ok (.iaload, 1) := by decide +kernel
theorem dc_Term_hasPad_6 : decode bc_Term_hasPad 6 = .ok (.ifCond .eq 7, 3) := by decide +kernel
theorem dc_Term_hasPad_9 : decode bc_Term_hasPad 9 = .ok (.iconst 1, 1) := by decide +kernel
theorem dc_Term_hasPad_10 : decode bc_Term_hasPad 10 = .ok (.goto 4, 3) := by decide +kernel
theorem dc_Term_hasPad_13 : decode bc_Term_hasPad 13 = .ok (.iconst 0, 1) := by decide +kernel
theorem dc_Term_hasPad_14 : decode bc_Term_hasPad 14 = .ok (.ireturn, 1) := by decide +kernel
theorem dc_Term_floor_0 : decode bc_Term_floor 0 = .ok (.aload_n 0, 1) := by decide +kernel
theorem dc_Term_floor_1 : decode bc_Term_floor 1 = .ok (.getfield 9, 3) := by decide +kernel
theorem dc_Term_floor_4 : decode bc_Term_floor 4 = .ok (.iconst 0, 1) := by decide +kernel
theorem dc_Term_floor_5 : decode bc_Term_floor 5 = .ok (.iaload, 1) := by decide +kernel
theorem dc_Term_floor_6 : decode bc_Term_floor 6 = .ok (.ireturn, 1) := by decide +kernel
theorem dc_Term_maskDenial_0 : decode bc_Term_maskDenial 0 = .ok (.aload_n 0, 1) := by decide +kernel
theorem dc_Term_maskDenial_1 : decode bc_Term_maskDenial 1 = .ok (.getfield 9, 3) := by decide +kernel
theorem dc_Term_maskDenial_4 : decode bc_Term_maskDenial 4 = .ok (.iconst 5, 1) := by decide +kernel
theorem dc_Term_maskDenial_5 : decode bc_Term_maskDenial 5 = .ok (.iaload, 1) := by decide +kernel
theorem dc_Term_maskDenial_6 : decode bc_Term_maskDenial 6 = .ok (.ireturn, 1) := by decide +kernel
theorem dc_Term_isConnected_0 : decode bc_Term_isConnected 0 = .ok (.aload_n 0, 1) := by decide +kernel
theorem dc_Term_isConnected_1 : decode bc_Term_isConnected 1 = .ok (.getfield 9, 3) := by decide +kernel
theorem dc_Term_isConnected_4 : decode bc_Term_isConnected 4 = .ok (.iconst 2, 1) := by decide +kernel
theorem dc_Term_isConnected_5 : decode bc_Term_isConnected 5 = .ok (.iaload, 1) := by decide +kernel
theorem dc_Term_isConnected_6 : decode bc_Term_isConnected 6 = .ok (.ifCond .eq 7, 3) := by decide +kernel
theorem dc_Term_isConnected_9 : decode bc_Term_isConnected 9 = .ok (.iconst 1, 1) := by decide +kernel
theorem dc_Term_isConnected_10 : decode bc_Term_isConnected 10 = .ok (.goto 4, 3) := by decide +kernel
theorem dc_Term_isConnected_13 : decode bc_Term_isConnected 13 = .ok (.iconst 0, 1) := by decide +kernel
theorem dc_Term_isConnected_14 : decode bc_Term_isConnected 14 = .ok (.ireturn, 1) := by decide +kernel
theorem dc_Term_maskOnline_0 : decode bc_Term_maskOnline 0 = .ok (.aload_n 0, 1) := by decide +kernel
theorem dc_Term_maskOnline_1 : decode bc_Term_maskOnline 1 = .ok (.getfield 9, 3) := by decide +kernel
theorem dc_Term_maskOnline_4 : decode bc_Term_maskOnline 4 = .ok (.bipush 6, 2) := by decide +kernel
theorem dc_Term_maskOnline_6 : decode bc_Term_maskOnline 6 = .ok (.iaload, 1) := by decide +kernel
theorem dc_Term_maskOnline_7 : decode bc_Term_maskOnline 7 = .ok (.ireturn, 1) := by decide +kernel
theorem dc_Term_maskDefault_0 : decode bc_Term_maskDefault 0 = .ok (.aload_n 0, 1) := by decide +kernel
theorem dc_Term_maskDefault_1 : decode bc_Term_maskDefault 1 = .ok (.getfield 9, 3) := by decide +kernel
theorem dc_Term_maskDefault_4 : decode bc_Term_maskDefault 4 = .ok (.iconst 4, 1) := by decide +kernel
theorem dc_Term_maskDefault_5 : decode bc_Term_maskDefault 5 = .ok (.iaload, 1) := by decide +kernel
theorem dc_Term_maskDefault_6 : decode bc_Term_maskDefault 6 = .ok (.ireturn, 1) := by decide +kernel
theorem dc_Host_init_0 : decode bc_Host_init 0 = .ok (.aload_n 0, 1) := by decide +kernel
theorem dc_Host_init_1 : decode bc_Host_init 1 = .ok (.invokespecial 3, 3) := by decide +kernel
theorem dc_Host_init_4 : decode bc_Host_init 4 = .ok (.aload_n 0, 1) := by decide +kernel
theorem dc_Host_init_5 : decode bc_Host_init 5 = .ok (.bipush 8, 2) := by decide +kernel
theorem dc_Host_init_7 : decode bc_Host_init 7 = .ok (.newarray .long, 2) := by decide +kernel
theorem dc_Host_init_9 : decode bc_Host_init 9 = .ok (.putfield 9, 3) := by decide +kernel
theorem dc_Host_init_12 : decode bc_Host_init 12 = .ok (.aload_n 0, 1) := by decide +kernel
theorem dc_Host_init_13 : decode bc_Host_init 13 = .ok (.bipush 8, 2) := by decide +kernel
theorem dc_Host_init_15 : decode bc_Host_init 15 = .ok (.newarray .int, 2) := by decide +kernel
theorem dc_Host_init_17 : decode bc_Host_init 17 = .ok (.putfield 15, 3) := by decide +kernel
theorem dc_Host_init_20 : decode bc_Host_init 20 = .ok (.aload_n 0, 1) := by decide +kernel
theorem dc_Host_init_21 : decode bc_Host_init 21 = .ok (.bipush 8, 2) := by decide +kernel
theorem dc_Host_init_23 : decode bc_Host_init 23 = .ok (.newarray .int, 2) := by decide +kernel
theorem dc_Host_init_25 : decode bc_Host_init 25 = .ok (.putfield 19, 3) := by decide +kernel
theorem dc_Host_init_28 : decode bc_Host_init 28 = .ok (.return_, 1) := by decide +kernel
theorem dc_Host_open_0 : decode bc_Host_open 0 = .ok (.iload_n 1, 1) := by decide +kernel
theorem dc_Host_open_1 : decode bc_Host_open 1 = .ok (.invokestatic 22, 3) := by decide +kernel
theorem dc_Host_open_4 : decode bc_Host_open 4 = .ok (.ifCond .eq 25, 3) := by decide +kernel
theorem dc_Host_open_7 : decode bc_Host_open 7 = .ok (.aload_n 0, 1) := by decide +kernel
theorem dc_Host_open_8 : decode bc_Host_open 8 = .ok (.getfield 9, 3) := by decide +kernel
theorem dc_Host_open_11 : decode bc_Host_open 11 = .ok (.iload_n 1, 1) := by decide +kernel
theorem dc_Host_open_12 : decode bc_Host_open 12 = .ok (.iload_n 2, 1) := by decide +kernel
theorem dc_Host_open_13 : decode bc_Host_open 13 = .ok (.i2l, 1) := by decide +kernel
theorem dc_Host_open_14 : decode bc_Host_open 14 = .ok (.lastore, 1) := by decide +kernel
theorem dc_Host_open_15 : decode bc_Host_open 15 = .ok (.aload_n 0, 1) := by decide +kernel
theorem dc_Host_open_16 : decode bc_Host_open 16 = .ok (.getfield 15, 3) := by decide +kernel
theorem dc_Host_open_19 : decode bc_Host_open 19 = .ok (.iload_n 1, 1) := by decide +kernel
theorem dc_Host_open_20 : decode bc_Host_open 20 = .ok (.iload_n 3, 1) := by decide +kernel
theorem dc_Host_open_21 : decode bc_Host_open 21 = .ok (.iastore, 1) := by decide +kernel
theorem dc_Host_open_22 : decode bc_Host_open 22 = .ok (.aload_n 0, 1) := by decide +kernel
theorem dc_Host_open_23 : decode bc_Host_open 23 = .ok (.getfield 19, 3) := by decide +kernel
theorem dc_Host_open_26 : decode bc_Host_open 26 = .ok (.iload_n 1, 1) := by decide +kernel
theorem dc_Host_open_27 : decode bc_Host_open 27 = .ok (.iconst 0, 1) := by decide +kernel
theorem dc_Host_open_28 : decode bc_Host_open 28 = .ok (.iastore, 1) := by decide +kernel
theorem dc_Host_open_29 : decode bc_Host_open 29 = .ok (.return_, 1) := by decide +kernel
theorem dc_Host_isAccount_0 : decode bc_Host_isAccount 0 = .ok (.iload_n 0, 1) := by decide +kernel
theorem dc_Host_isAccount_1 : decode bc_Host_isAccount 1 = .ok (.iconst 0, 1) := by decide +kernel
theorem dc_Host_isAccount_2 : decode bc_Host_isAccount 2 = .ok (.bipush 7, 2) := by decide +kernel
theorem dc_Host_isAccount_4 : decode bc_Host_isAccount 4 = .ok (.invokestatic 26, 3) := by decide +kernel
theorem dc_Host_isAccount_7 : decode bc_Host_isAccount 7 = .ok (.ireturn, 1) := by decide +kernel
theorem dc_Host_judge_0 : decode bc_Host_judge 0 = .ok (.iload_n 1, 1) := by decide +kernel
theorem dc_Host_judge_1 : decode bc_Host_judge 1 = .ok (.invokestatic 22, 3) := by decide +kernel
theorem dc_Host_judge_4 : decode bc_Host_judge 4 = .ok (.ifCond .eq 20, 3) := by decide +kernel
theorem dc_Host_judge_7 : decode bc_Host_judge 7 = .ok (.aload_n 0, 1) := by decide +kernel
theorem dc_Host_judge_8 : decode bc_Host_judge 8 = .ok (.getfield 15, 3) := by decide +kernel
theorem dc_Host_judge_11 : decode bc_Host_judge 11 = .ok (.iload_n 1, 1) := by decide +kernel
theorem dc_Host_judge_12 : decode bc_Host_judge 12 = .ok (.iaload, 1) := by decide +kernel
theorem dc_Host_judge_13 : decode bc_Host_judge 13 = .ok (.iconst 1, 1) := by decide +kernel
theorem dc_Host_judge_14 : decode bc_Host_judge 14 = .ok (.iload_n 2, 1) := by decide +kernel
theorem dc_Host_judge_15 : decode bc_Host_judge 15 = .ok (.aload_n 3, 1) := by decide +kernel
theorem dc_Host_judge_16 : decode bc_Host_judge 16 = .ok (.invokestatic 32, 3) := by decide +kernel
theorem dc_Host_judge_19 : decode bc_Host_judge 19 = .ok (.iload 4, 2) := by decide +kernel
theorem dc_Host_judge_21 : decode bc_Host_judge 21 = .ok (.if_icmp .eq 5, 3) := by decide +kernel
theorem dc_Host_judge_24 : decode bc_Host_judge 24 = .ok (.iconst 2, 1) := by decide +kernel
theorem dc_Host_judge_25 : decode bc_Host_judge 25 = .ok (.ireturn, 1) := by decide +kernel
theorem dc_Host_judge_26 : decode bc_Host_judge 26 = .ok (.iload_n 2, 1) := by decide +kernel
theorem dc_Host_judge_27 : decode bc_Host_judge 27 = .ok (.aload_n 0, 1) := by decide +kernel
theorem dc_Host_judge_28 : decode bc_Host_judge 28 = .ok (.getfield 19, 3) := by decide +kernel
theorem dc_Host_judge_31 : decode bc_Host_judge 31 = .ok (.iload_n 1, 1) := by decide +kernel
theorem dc_Host_judge_32 : decode bc_Host_judge 32 = .ok (.iaload, 1) := by decide +kernel
theorem dc_Host_judge_33 : decode bc_Host_judge 33 = .ok (.if_icmp .gt 5, 3) := by decide +kernel
theorem dc_Host_judge_36 : decode bc_Host_judge 36 = .ok (.iconst 3, 1) := by decide +kernel
theorem dc_Host_judge_37 : decode bc_Host_judge 37 = .ok (.ireturn, 1) := by decide +kernel
theorem dc_Host_judge_38 : decode bc_Host_judge 38 = .ok (.aload_n 0, 1) := by decide +kernel
theorem dc_Host_judge_39 : decode bc_Host_judge 39 = .ok (.getfield 19, 3) := by decide +kernel
theorem dc_Host_judge_42 : decode bc_Host_judge 42 = .ok (.iload_n 1, 1) := by decide +kernel
theorem dc_Host_judge_43 : decode bc_Host_judge 43 = .ok (.iload_n 2, 1) := by decide +kernel
theorem dc_Host_judge_44 : decode bc_Host_judge 44 = .ok (.iastore, 1) := by decide +kernel
theorem dc_Host_judge_45 : decode bc_Host_judge 45 = .ok (.aload_n 0, 1) := by decide +kernel
theorem dc_Host_judge_46 : decode bc_Host_judge 46 = .ok (.getfield 9, 3) := by decide +kernel
theorem dc_Host_judge_49 : decode bc_Host_judge 49 = .ok (.iload_n 1, 1) := by decide +kernel
theorem dc_Host_judge_50 : decode bc_Host_judge 50 = .ok (.laload, 1) := by decide +kernel
theorem dc_Host_judge_51 : decode bc_Host_judge 51 = .ok (.iload 5, 2) := by decide +kernel
theorem dc_Host_judge_53 : decode bc_Host_judge 53 = .ok (.i2l, 1) := by decide +kernel
theorem dc_Host_judge_54 : decode bc_Host_judge 54 = .ok (.lcmp, 1) := by decide +kernel
theorem dc_Host_judge_55 : decode bc_Host_judge 55 = .ok (.ifCond .ge 5, 3) := by decide +kernel
theorem dc_Host_judge_58 : decode bc_Host_judge 58 = .ok (.iconst 4, 1) := by decide +kernel
theorem dc_Host_judge_59 : decode bc_Host_judge 59 = .ok (.ireturn, 1) := by decide +kernel
theorem dc_Host_judge_60 : decode bc_Host_judge 60 = .ok (.aload_n 0, 1) := by decide +kernel
theorem dc_Host_judge_61 : decode bc_Host_judge 61 = .ok (.getfield 9, 3) := by decide +kernel
theorem dc_Host_judge_64 : decode bc_Host_judge 64 = .ok (.iload_n 1, 1) := by decide +kernel
theorem dc_Host_judge_65 : decode bc_Host_judge 65 = .ok (.dup2, 1) := by decide +kernel
theorem dc_Host_judge_66 : decode bc_Host_judge 66 = .ok (.laload, 1) := by decide +kernel
theorem dc_Host_judge_67 : decode bc_Host_judge 67 = .ok (.iload 5, 2) := by decide +kernel
theorem dc_Host_judge_69 : decode bc_Host_judge 69 = .ok (.i2l, 1) := by decide +kernel
theorem dc_Host_judge_70 : decode bc_Host_judge 70 = .ok (.lsub, 1) := by decide +kernel
theorem dc_Host_judge_71 : decode bc_Host_judge 71 = .ok (.lastore, 1) := by decide +kernel
theorem dc_Host_judge_72 : decode bc_Host_judge 72 = .ok (.aload_n 0, 1) := by decide +kernel
theorem dc_Host_judge_73 : decode bc_Host_judge 73 = .ok (.dup, 1) := by decide +kernel
theorem dc_Host_judge_74 : decode bc_Host_judge 74 = .ok (.getfield 38, 3) := by decide +kernel
theorem dc_Host_judge_77 : decode bc_Host_judge 77 = .ok (.iconst 1, 1) := by decide +kernel
theorem dc_Host_judge_78 : decode bc_Host_judge 78 = .ok (.iadd, 1) := by decide +kernel
theorem dc_Host_judge_79 : decode bc_Host_judge 79 = .ok (.putfield 38, 3) := by decide +kernel
theorem dc_Host_judge_82 : decode bc_Host_judge 82 = .ok (.iconst 1, 1) := by decide +kernel
theorem dc_Host_judge_83 : decode bc_Host_judge 83 = .ok (.ireturn, 1) := by decide +kernel
theorem dc_Host_sealOf_0 : decode bc_Host_sealOf 0 = .ok (.iload_n 1, 1) := by decide +kernel
theorem dc_Host_sealOf_1 : decode bc_Host_sealOf 1 = .ok (.invokestatic 22, 3) := by decide +kernel
theorem dc_Host_sealOf_4 : decode bc_Host_sealOf 4 = .ok (.ifCond .eq 17, 3) := by decide +kernel
theorem dc_Host_sealOf_7 : decode bc_Host_sealOf 7 = .ok (.aload_n 0, 1) := by decide +kernel
theorem dc_Host_sealOf_8 : decode bc_Host_sealOf 8 = .ok (.getfield 15, 3) := by decide +kernel
theorem dc_Host_sealOf_11 : decode bc_Host_sealOf 11 = .ok (.iload_n 1, 1) := by decide +kernel
theorem dc_Host_sealOf_12 : decode bc_Host_sealOf 12 = .ok (.iaload, 1) := by decide +kernel
theorem dc_Host_sealOf_13 : decode bc_Host_sealOf 13 = .ok (.iload_n 2, 1) := by decide +kernel
theorem dc_Host_sealOf_14 : decode bc_Host_sealOf 14 = .ok (.iload_n 3, 1) := by decide +kernel
theorem dc_Host_sealOf_15 : decode bc_Host_sealOf 15 = .ok (.invokestatic 42, 3) := by decide +kernel
theorem dc_Host_sealOf_18 : decode bc_Host_sealOf 18 = .ok (.goto 4, 3) := by decide +kernel
theorem dc_Host_sealOf_21 : decode bc_Host_sealOf 21 = .ok (.iconst 0, 1) := by decide +kernel
theorem dc_Host_sealOf_22 : decode bc_Host_sealOf 22 = .ok (.ireturn, 1) := by decide +kernel
theorem dc_Host_reverse_0 : decode bc_Host_reverse 0 = .ok (.aload_n 1, 1) := by decide +kernel
theorem dc_Host_reverse_1 : decode bc_Host_reverse 1 = .ok (.getfield 46, 3) := by decide +kernel
theorem dc_Host_reverse_4 : decode bc_Host_reverse 4 = .ok (.ifCond .eq 45, 3) := by decide +kernel
theorem dc_Host_reverse_7 : decode bc_Host_reverse 7 = .ok (.aload_n 1, 1) := by decide +kernel
theorem dc_Host_reverse_8 : decode bc_Host_reverse 8 = .ok (.getfield 52, 3) := by decide +kernel
theorem dc_Host_reverse_11 : decode bc_Host_reverse 11 = .ok (.invokestatic 22, 3) := by decide +kernel
theorem dc_Host_reverse_14 : decode bc_Host_reverse 14 = .ok (.ifCond .eq 35, 3) := by decide +kernel
theorem dc_Host_reverse_17 : decode bc_Host_reverse 17 = .ok (.aload_n 0, 1) := by decide +kernel
theorem dc_Host_reverse_18 : decode bc_Host_reverse 18 = .ok (.getfield 9, 3) := by decide +kernel
theorem dc_Host_reverse_21 : decode bc_Host_reverse 21 = .ok (.aload_n 1, 1) := by decide +kernel
theorem dc_Host_reverse_22 : decode bc_Host_reverse 22 = .ok (.getfield 52, 3) := by decide +kernel
theorem dc_Host_reverse_25 : decode bc_Host_reverse 25 = .ok (.dup2, 1) := by decide +kernel
theorem dc_Host_reverse_26 : decode bc_Host_reverse 26 = .ok (.laload, 1) := by decide +kernel
theorem dc_Host_reverse_27 : decode bc_Host_reverse 27 = .ok (.aload_n 1, 1) := by decide +kernel
theorem dc_Host_reverse_28 : decode bc_Host_reverse 28 = .ok (.getfield 55, 3) := by decide +kernel
theorem dc_Host_reverse_31 : decode bc_Host_reverse 31 = .ok (.i2l, 1) := by decide +kernel
theorem dc_Host_reverse_32 : decode bc_Host_reverse 32 = .ok (.ladd, 1) := by decide +kernel
theorem dc_Host_reverse_33 : decode bc_Host_reverse 33 = .ok (.lastore, 1) := by decide +kernel
theorem dc_Host_reverse_34 : decode bc_Host_reverse 34 = .ok (.aload_n 0, 1) := by decide +kernel
theorem dc_Host_reverse_35 : decode bc_Host_reverse 35 = .ok (.dup, 1) := by decide +kernel
theorem dc_Host_reverse_36 : decode bc_Host_reverse 36 = .ok (.getfield 38, 3) := by decide +kernel
theorem dc_Host_reverse_39 : decode bc_Host_reverse 39 = .ok (.iconst 1, 1) := by decide +kernel
theorem dc_Host_reverse_40 : decode bc_Host_reverse 40 = .ok (.isub, 1) := by decide +kernel
theorem dc_Host_reverse_41 : decode bc_Host_reverse 41 = .ok (.putfield 38, 3) := by decide +kernel
theorem dc_Host_reverse_44 : decode bc_Host_reverse 44 = .ok (.aload_n 1, 1) := by decide +kernel
theorem dc_Host_reverse_45 : decode bc_Host_reverse 45 = .ok (.iconst 0, 1) := by decide +kernel
theorem dc_Host_reverse_46 : decode bc_Host_reverse 46 = .ok (.putfield 46, 3) := by decide +kernel
theorem dc_Host_reverse_49 : decode bc_Host_reverse 49 = .ok (.return_, 1) := by decide +kernel
theorem dc_Host_balanceOf_0 : decode bc_Host_balanceOf 0 = .ok (.iload_n 1, 1) := by decide +kernel
theorem dc_Host_balanceOf_1 : decode bc_Host_balanceOf 1 = .ok (.invokestatic 22, 3) := by decide +kernel
theorem dc_Host_balanceOf_4 : decode bc_Host_balanceOf 4 = .ok (.ifCond .eq 12, 3) := by decide +kernel
theorem dc_Host_balanceOf_7 : decode bc_Host_balanceOf 7 = .ok (.aload_n 0, 1) := by decide +kernel
theorem dc_Host_balanceOf_8 : decode bc_Host_balanceOf 8 = .ok (.getfield 9, 3) := by decide +kernel
theorem dc_Host_balanceOf_11 : decode bc_Host_balanceOf 11 = .ok (.iload_n 1, 1) := by decide +kernel
theorem dc_Host_balanceOf_12 : decode bc_Host_balanceOf 12 = .ok (.laload, 1) := by decide +kernel
theorem dc_Host_balanceOf_13 : decode bc_Host_balanceOf 13 = .ok (.goto 6, 3) := by decide +kernel
theorem dc_Host_balanceOf_16 : decode bc_Host_balanceOf 16 = .ok (.ldc2_w 30, 3) := by decide +kernel
theorem dc_Host_balanceOf_19 : decode bc_Host_balanceOf 19 = .ok (.lreturn, 1) := by decide +kernel
theorem dc_Pmt_init_0 : decode bc_Pmt_init 0 = .ok (.aload_n 0, 1) := by decide +kernel
theorem dc_Pmt_init_1 : decode bc_Pmt_init 1 = .ok (.invokespecial 3, 3) := by decide +kernel
theorem dc_Pmt_init_4 : decode bc_Pmt_init 4 = .ok (.aload_n 0, 1) := by decide +kernel
theorem dc_Pmt_init_5 : decode bc_Pmt_init 5 = .ok (.new 9, 3) := by decide +kernel
theorem dc_Pmt_init_8 : decode bc_Pmt_init 8 = .ok (.dup, 1) := by decide +kernel
theorem dc_Pmt_init_9 : decode bc_Pmt_init 9 = .ok (.bipush 40, 2) := by decide +kernel
theorem dc_Pmt_init_11 : decode bc_Pmt_init 11 = .ok (.invokespecial 11, 3) := by decide +kernel
theorem dc_Pmt_init_14 : decode bc_Pmt_init 14 = .ok (.putfield 14, 3) := by decide +kernel
theorem dc_Pmt_init_17 : decode bc_Pmt_init 17 = .ok (.return_, 1) := by decide +kernel
theorem dc_Pmt_start_0 : decode bc_Pmt_start 0 = .ok (.aload_n 0, 1) := by decide +kernel
theorem dc_Pmt_start_1 : decode bc_Pmt_start 1 = .ok (.dup, 1) := by decide +kernel
theorem dc_Pmt_start_2 : decode bc_Pmt_start 2 = .ok (.getfield 20, 3) := by decide +kernel
theorem dc_Pmt_start_5 : decode bc_Pmt_start 5 = .ok (.iconst 1, 1) := by decide +kernel
theorem dc_Pmt_start_6 : decode bc_Pmt_start 6 = .ok (.iadd, 1) := by decide +kernel
theorem dc_Pmt_start_7 : decode bc_Pmt_start 7 = .ok (.putfield 20, 3) := by decide +kernel
theorem dc_Pmt_start_10 : decode bc_Pmt_start 10 = .ok (.aload_n 0, 1) := by decide +kernel
theorem dc_Pmt_start_11 : decode bc_Pmt_start 11 = .ok (.iload_n 1, 1) := by decide +kernel
theorem dc_Pmt_start_12 : decode bc_Pmt_start 12 = .ok (.putfield 24, 3) := by decide +kernel
theorem dc_Pmt_start_15 : decode bc_Pmt_start 15 = .ok (.aload_n 0, 1) := by decide +kernel
theorem dc_Pmt_start_16 : decode bc_Pmt_start 16 = .ok (.iload_n 2, 1) := by decide +kernel
theorem dc_Pmt_start_17 : decode bc_Pmt_start 17 = .ok (.putfield 27, 3) := by decide +kernel
theorem dc_Pmt_start_20 : decode bc_Pmt_start 20 = .ok (.aload_n 0, 1) := by decide +kernel
theorem dc_Pmt_start_21 : decode bc_Pmt_start 21 = .ok (.iload_n 3, 1) := by decide +kernel
theorem dc_Pmt_start_22 : decode bc_Pmt_start 22 = .ok (.putfield 30, 3) := by decide +kernel
theorem dc_Pmt_start_25 : decode bc_Pmt_start 25 = .ok (.aload_n 0, 1) := by decide +kernel
theorem dc_Pmt_start_26 : decode bc_Pmt_start 26 = .ok (.iconst 0, 1) := by decide +kernel
theorem dc_Pmt_start_27 : decode bc_Pmt_start 27 = .ok (.putfield 33, 3) := by decide +kernel
theorem dc_Pmt_start_30 : decode bc_Pmt_start 30 = .ok (.aload_n 0, 1) := by decide +kernel
theorem dc_Pmt_start_31 : decode bc_Pmt_start 31 = .ok (.iconst (-1), 1) := by decide +kernel
theorem dc_Pmt_start_32 : decode bc_Pmt_start 32 = .ok (.putfield 36, 3) := by decide +kernel
theorem dc_Pmt_start_35 : decode bc_Pmt_start 35 = .ok (.aload_n 0, 1) := by decide +kernel
theorem dc_Pmt_start_36 : decode bc_Pmt_start 36 = .ok (.iconst 0, 1) := by decide +kernel
theorem dc_Pmt_start_37 : decode bc_Pmt_start 37 = .ok (.putfield 39, 3) := by decide +kernel
theorem dc_Pmt_start_40 : decode bc_Pmt_start 40 = .ok (.aload_n 0, 1) := by decide +kernel
theorem dc_Pmt_start_41 : decode bc_Pmt_start 41 = .ok (.iconst 0, 1) := by decide +kernel
theorem dc_Pmt_start_42 : decode bc_Pmt_start 42 = .ok (.putfield 42, 3) := by decide +kernel
theorem dc_Pmt_start_45 : decode bc_Pmt_start 45 = .ok (.return_, 1) := by decide +kernel
theorem dc_Pmt_run_0 : decode bc_Pmt_run 0 = .ok (.aload_n 1, 1) := by decide +kernel
theorem dc_Pmt_run_1 : decode bc_Pmt_run 1 = .ok (.dup, 1) := by decide +kernel
theorem dc_Pmt_run_2 : decode bc_Pmt_run 2 = .ok (.getfield 45, 3) := by decide +kernel
theorem dc_Pmt_run_5 : decode bc_Pmt_run 5 = .ok (.iconst 1, 1) := by decide +kernel
theorem dc_Pmt_run_6 : decode bc_Pmt_run 6 = .ok (.iadd, 1) := by decide +kernel
theorem dc_Pmt_run_7 : decode bc_Pmt_run 7 = .ok (.putfield 45, 3) := by decide +kernel
theorem dc_Pmt_run_10 : decode bc_Pmt_run 10 = .ok (.aload_n 0, 1) := by decide +kernel
theorem dc_Pmt_run_11 : decode bc_Pmt_run 11 = .ok (.aload_n 2, 1) := by decide +kernel
theorem dc_Pmt_run_12 : decode bc_Pmt_run 12 = .ok (.invokevirtual 50, 3) := by decide +kernel
theorem dc_Pmt_run_15 : decode bc_Pmt_run 15 = .ok (.aload_n 1, 1) := by decide +kernel
theorem dc_Pmt_run_16 : decode bc_Pmt_run 16 = .ok (.getfield 56, 3) := by decide +kernel
theorem dc_Pmt_run_19 : decode bc_Pmt_run 19 = .ok (.if_icmp .le 7, 3) := by decide +kernel
theorem dc_Pmt_run_22 : decode bc_Pmt_run 22 = .ok (.iconst 1, 1) := by decide +kernel
theorem dc_Pmt_run_23 : decode bc_Pmt_run 23 = .ok (.goto 4, 3) := by decide +kernel
theorem dc_Pmt_run_26 : decode bc_Pmt_run 26 = .ok (.iconst 0, 1) := by decide +kernel
theorem dc_Pmt_run_27 : decode bc_Pmt_run 27 = .ok (.iconst 1, 1) := by decide +kernel
theorem dc_Pmt_run_28 : decode bc_Pmt_run 28 = .ok (.invokevirtual 59, 3) := by decide +kernel
theorem dc_Pmt_run_31 : decode bc_Pmt_run 31 = .ok (.aload_n 0, 1) := by decide +kernel
theorem dc_Pmt_run_32 : decode bc_Pmt_run 32 = .ok (.aload_n 1, 1) := by decide +kernel
theorem dc_Pmt_run_33 : decode bc_Pmt_run 33 = .ok (.getfield 63, 3) := by decide +kernel
theorem dc_Pmt_run_36 : decode bc_Pmt_run 36 = .ok (.ifCond .ne 7, 3) := by decide +kernel
theorem dc_Pmt_run_39 : decode bc_Pmt_run 39 = .ok (.iconst 1, 1) := by decide +kernel
theorem dc_Pmt_run_40 : decode bc_Pmt_run 40 = .ok (.goto 4, 3) := by decide +kernel
theorem dc_Pmt_run_43 : decode bc_Pmt_run 43 = .ok (.iconst 0, 1) := by decide +kernel
theorem dc_Pmt_run_44 : decode bc_Pmt_run 44 = .ok (.sipush 512, 3) := by decide +kernel
theorem dc_Pmt_run_47 : decode bc_Pmt_run 47 = .ok (.invokevirtual 59, 3) := by decide +kernel
theorem dc_Pmt_run_50 : decode bc_Pmt_run 50 = .ok (.aload_n 0, 1) := by decide +kernel
theorem dc_Pmt_run_51 : decode bc_Pmt_run 51 = .ok (.aload_n 1, 1) := by decide +kernel
theorem dc_Pmt_run_52 : decode bc_Pmt_run 52 = .ok (.aload_n 2, 1) := by decide +kernel
theorem dc_Pmt_run_53 : decode bc_Pmt_run 53 = .ok (.invokevirtual 67, 3) := by decide +kernel
theorem dc_Pmt_run_56 : decode bc_Pmt_run 56 = .ok (.aload_n 0, 1) := by decide +kernel
theorem dc_Pmt_run_57 : decode bc_Pmt_run 57 = .ok (.aload_n 1, 1) := by decide +kernel
theorem dc_Pmt_run_58 : decode bc_Pmt_run 58 = .ok (.aload_n 2, 1) := by decide +kernel
theorem dc_Pmt_run_59 : decode bc_Pmt_run 59 = .ok (.invokevirtual 71, 3) := by decide +kernel
theorem dc_Pmt_run_62 : decode bc_Pmt_run 62 = .ok (.aload_n 0, 1) := by decide +kernel
theorem dc_Pmt_run_63 : decode bc_Pmt_run 63 = .ok (.aload_n 0, 1) := by decide +kernel
theorem dc_Pmt_run_64 : decode bc_Pmt_run 64 = .ok (.aload_n 1, 1) := by decide +kernel
theorem dc_Pmt_run_65 : decode bc_Pmt_run 65 = .ok (.aload_n 2, 1) := by decide +kernel
theorem dc_Pmt_run_66 : decode bc_Pmt_run 66 = .ok (.invokevirtual 74, 3) := by decide +kernel
theorem dc_Pmt_run_69 : decode bc_Pmt_run 69 = .ok (.putfield 78, 3) := by decide +kernel
theorem dc_Pmt_run_72 : decode bc_Pmt_run 72 = .ok (.aload_n 0, 1) := by decide +kernel
theorem dc_Pmt_run_73 : decode bc_Pmt_run 73 = .ok (.aload_n 1, 1) := by decide +kernel
theorem dc_Pmt_run_74 : decode bc_Pmt_run 74 = .ok (.aload_n 2, 1) := by decide +kernel
theorem dc_Pmt_run_75 : decode bc_Pmt_run 75 = .ok (.invokevirtual 81, 3) := by decide +kernel
theorem dc_Pmt_run_78 : decode bc_Pmt_run 78 = .ok (.aload_n 0, 1) := by decide +kernel
theorem dc_Pmt_run_79 : decode bc_Pmt_run 79 = .ok (.aload_n 1, 1) := by decide +kernel
theorem dc_Pmt_run_80 : decode bc_Pmt_run 80 = .ok (.aload_n 0, 1) := by decide +kernel
theorem dc_Pmt_run_81 : decode bc_Pmt_run 81 = .ok (.getfield 78, 3) := by decide +kernel
theorem dc_Pmt_run_84 : decode bc_Pmt_run 84 = .ok (.invokevirtual 84, 3) := by decide +kernel
theorem dc_Pmt_run_87 : decode bc_Pmt_run 87 = .ok (.putfield 88, 3) := by decide +kernel
theorem dc_Pmt_run_90 : decode bc_Pmt_run 90 = .ok (.aload_n 0, 1) := by decide +kernel
theorem dc_Pmt_run_91 : decode bc_Pmt_run 91 = .ok (.aload_n 1, 1) := by decide +kernel
theorem dc_Pmt_run_92 : decode bc_Pmt_run 92 = .ok (.getfield 90, 3) := by decide +kernel
theorem dc_Pmt_run_95 : decode bc_Pmt_run 95 = .ok (.aload_n 0, 1) := by decide +kernel
theorem dc_Pmt_run_96 : decode bc_Pmt_run 96 = .ok (.getfield 88, 3) := by decide +kernel
theorem dc_Pmt_run_99 : decode bc_Pmt_run 99 = .ok (.aload_n 1, 1) := by decide +kernel
theorem dc_Pmt_run_100 : decode bc_Pmt_run 100 = .ok (.getfield 45, 3) := by decide +kernel
theorem dc_Pmt_run_103 : decode bc_Pmt_run 103 = .ok (.aload_n 0, 1) := by decide +kernel
theorem dc_Pmt_run_104 : decode bc_Pmt_run 104 = .ok (.getfield 14, 3) := by decide +kernel
theorem dc_Pmt_run_107 : decode bc_Pmt_run 107 = .ok (.invokestatic 93, 3) := by decide +kernel
theorem dc_Pmt_run_110 : decode bc_Pmt_run 110 = .ok (.putfield 99, 3) := by decide +kernel
theorem dc_Pmt_run_113 : decode bc_Pmt_run 113 = .ok (.aload_n 0, 1) := by decide +kernel
theorem dc_Pmt_run_114 : decode bc_Pmt_run 114 = .ok (.getfield 88, 3) := by decide +kernel
theorem dc_Pmt_run_117 : decode bc_Pmt_run 117 = .ok (.iconst 1, 1) := by decide +kernel
theorem dc_Pmt_run_118 : decode bc_Pmt_run 118 = .ok (.if_icmp .ne 13, 3) := by decide +kernel
theorem dc_Pmt_run_121 : decode bc_Pmt_run 121 = .ok (.aload_n 0, 1) := by decide +kernel
theorem dc_Pmt_run_122 : decode bc_Pmt_run 122 = .ok (.aload_n 1, 1) := by decide +kernel
theorem dc_Pmt_run_123 : decode bc_Pmt_run 123 = .ok (.aload_n 2, 1) := by decide +kernel
theorem dc_Pmt_run_124 : decode bc_Pmt_run 124 = .ok (.aload_n 3, 1) := by decide +kernel
theorem dc_Pmt_run_125 : decode bc_Pmt_run 125 = .ok (.invokevirtual 102, 3) := by decide +kernel
theorem dc_Pmt_run_128 : decode bc_Pmt_run 128 = .ok (.goto 42, 3) := by decide +kernel
theorem dc_Pmt_run_131 : decode bc_Pmt_run 131 = .ok (.aload_n 1, 1) := by decide +kernel
theorem dc_Pmt_run_132 : decode bc_Pmt_run 132 = .ok (.dup, 1) := by decide +kernel
theorem dc_Pmt_run_133 : decode bc_Pmt_run 133 = .ok (.getfield 106, 3) := by decide +kernel
theorem dc_Pmt_run_136 : decode bc_Pmt_run 136 = .ok (.aload_n 0, 1) := by decide +kernel
theorem dc_Pmt_run_137 : decode bc_Pmt_run 137 = .ok (.getfield 88, 3) := by decide +kernel
theorem dc_Pmt_run_140 : decode bc_Pmt_run 140 = .ok (.iconst 2, 1) := by decide +kernel
theorem dc_Pmt_run_141 : decode bc_Pmt_run 141 = .ok (.if_icmp .ne 7, 3) := by decide +kernel
theorem dc_Pmt_run_144 : decode bc_Pmt_run 144 = .ok (.iconst 1, 1) := by decide +kernel
theorem dc_Pmt_run_145 : decode bc_Pmt_run 145 = .ok (.goto 4, 3) := by decide +kernel
theorem dc_Pmt_run_148 : decode bc_Pmt_run 148 = .ok (.iconst 0, 1) := by decide +kernel
theorem dc_Pmt_run_149 : decode bc_Pmt_run 149 = .ok (.iadd, 1) := by decide +kernel
theorem dc_Pmt_run_150 : decode bc_Pmt_run 150 = .ok (.putfield 106, 3) := by decide +kernel
theorem dc_Pmt_run_153 : decode bc_Pmt_run 153 = .ok (.aload_n 0, 1) := by decide +kernel
theorem dc_Pmt_run_154 : decode bc_Pmt_run 154 = .ok (.aload_n 0, 1) := by decide +kernel
theorem dc_Pmt_run_155 : decode bc_Pmt_run 155 = .ok (.getfield 88, 3) := by decide +kernel
theorem dc_Pmt_run_158 : decode bc_Pmt_run 158 = .ok (.iconst 2, 1) := by decide +kernel
theorem dc_Pmt_run_159 : decode bc_Pmt_run 159 = .ok (.if_icmp .ne 7, 3) := by decide +kernel
theorem dc_Pmt_run_162 : decode bc_Pmt_run 162 = .ok (.iconst 1, 1) := by decide +kernel
theorem dc_Pmt_run_163 : decode bc_Pmt_run 163 = .ok (.goto 4, 3) := by decide +kernel
theorem dc_Pmt_run_166 : decode bc_Pmt_run 166 = .ok (.iconst 2, 1) := by decide +kernel
theorem dc_Pmt_run_167 : decode bc_Pmt_run 167 = .ok (.putfield 109, 3) := by decide +kernel
theorem dc_Pmt_run_170 : decode bc_Pmt_run 170 = .ok (.return_, 1) := by decide +kernel
theorem dc_Pmt_setIf_0 : decode bc_Pmt_setIf 0 = .ok (.iload_n 1, 1) := by decide +kernel
theorem dc_Pmt_setIf_1 : decode bc_Pmt_setIf 1 = .ok (.ifCond .eq 13, 3) := by decide +kernel
theorem dc_Pmt_setIf_4 : decode bc_Pmt_setIf 4 = .ok (.aload_n 0, 1) := by decide +kernel
theorem dc_Pmt_setIf_5 : decode bc_Pmt_setIf 5 = .ok (.dup, 1) := by decide +kernel
theorem dc_Pmt_setIf_6 : decode bc_Pmt_setIf 6 = .ok (.getfield 33, 3) := by decide +kernel
theorem dc_Pmt_setIf_9 : decode bc_Pmt_setIf 9 = .ok (.iload_n 2, 1) := by decide +kernel
theorem dc_Pmt_setIf_10 : decode bc_Pmt_setIf 10 = .ok (.ior, 1) := by decide +kernel
theorem dc_Pmt_setIf_11 : decode bc_Pmt_setIf 11 = .ok (.putfield 33, 3) := by decide +kernel
theorem dc_Pmt_setIf_14 : decode bc_Pmt_setIf 14 = .ok (.return_, 1) := by decide +kernel
theorem dc_Pmt_checkHolder_0 : decode bc_Pmt_checkHolder 0 = .ok (.aload_n 1, 1) := by decide +kernel
theorem dc_Pmt_checkHolder_1 : decode bc_Pmt_checkHolder 1 = .ok (.getfield 112, 3) := by decide +kernel
theorem dc_Pmt_checkHolder_4 : decode bc_Pmt_checkHolder 4 = .ok (.sipush 142, 3) := by decide +kernel
theorem dc_Pmt_checkHolder_7 : decode bc_Pmt_checkHolder 7 = .ok (.invokevirtual 118, 3) := by decide +kernel
theorem dc_Pmt_checkHolder_10 : decode bc_Pmt_checkHolder 10 = .ok (.istore_n 3, 1) := by decide +kernel
theorem dc_Pmt_checkHolder_11 : decode bc_Pmt_checkHolder 11 = .ok (.iload_n 3, 1) := by decide +kernel
theorem dc_Pmt_checkHolder_12 : decode bc_Pmt_checkHolder 12 = .ok (.iconst (-1), 1) := by decide +kernel
theorem dc_Pmt_checkHolder_13 : decode bc_Pmt_checkHolder 13 = .ok (.if_icmp .ne 4, 3) := by decide +kernel
theorem dc_Pmt_checkHolder_16 : decode bc_Pmt_checkHolder 16 = .ok (.return_, 1) := by decide +kernel
theorem dc_Pmt_checkHolder_17 : decode bc_Pmt_checkHolder 17 = .ok (.aload_n 1, 1) := by decide +kernel
theorem dc_Pmt_checkHolder_18 : decode bc_Pmt_checkHolder 18 = .ok (.getfield 112, 3) := by decide +kernel
theorem dc_Pmt_checkHolder_21 : decode bc_Pmt_checkHolder 21 = .ok (.iload_n 3, 1) := by decide +kernel
theorem dc_Pmt_checkHolder_22 : decode bc_Pmt_checkHolder 22 = .ok (.invokevirtual 123, 3) := by decide +kernel
theorem dc_Pmt_checkHolder_25 : decode bc_Pmt_checkHolder 25 = .ok (.istore 4, 2) := by decide +kernel
theorem dc_Pmt_checkHolder_27 : decode bc_Pmt_checkHolder 27 = .ok (.iconst 2, 1) := by decide +kernel
theorem dc_Pmt_checkHolder_28 : decode bc_Pmt_checkHolder 28 = .ok (.istore 5, 2) := by decide +kernel
theorem dc_Pmt_checkHolder_30 : decode bc_Pmt_checkHolder 30 = .ok (.iload 5, 2) := by decide +kernel
theorem dc_Pmt_checkHolder_32 : decode bc_Pmt_checkHolder 32 = .ok (.aload_n 1, 1) := by decide +kernel
theorem dc_Pmt_checkHolder_33 : decode bc_Pmt_checkHolder 33 = .ok (.getfield 112, 3) := by decide +kernel
theorem dc_Pmt_checkHolder_36 : decode bc_Pmt_checkHolder 36 = .ok (.iload_n 3, 1) := by decide +kernel
theorem dc_Pmt_checkHolder_37 : decode bc_Pmt_checkHolder 37 = .ok (.invokevirtual 126, 3) := by decide +kernel
theorem dc_Pmt_checkHolder_40 : decode bc_Pmt_checkHolder 40 = .ok (.if_icmp .ge 72, 3) := by decide +kernel
theorem dc_Pmt_checkHolder_43 : decode bc_Pmt_checkHolder 43 = .ok (.aload_n 1, 1) := by decide +kernel
theorem dc_Pmt_checkHolder_44 : decode bc_Pmt_checkHolder 44 = .ok (.getfield 112, 3) := by decide +kernel
theorem dc_Pmt_checkHolder_47 : decode bc_Pmt_checkHolder 47 = .ok (.iload_n 3, 1) := by decide +kernel
theorem dc_Pmt_checkHolder_48 : decode bc_Pmt_checkHolder 48 = .ok (.iload 5, 2) := by decide +kernel
theorem dc_Pmt_checkHolder_50 : decode bc_Pmt_checkHolder 50 = .ok (.invokevirtual 129, 3) := by decide +kernel
theorem dc_Pmt_checkHolder_53 : decode bc_Pmt_checkHolder 53 = .ok (.istore 6, 2) := by decide +kernel
theorem dc_Pmt_checkHolder_55 : decode bc_Pmt_checkHolder 55 = .ok (.aload_n 0, 1) := by decide +kernel
theorem dc_Pmt_checkHolder_56 : decode bc_Pmt_checkHolder 56 = .ok (.aload_n 1, 1) := by decide +kernel
theorem dc_Pmt_checkHolder_57 : decode bc_Pmt_checkHolder 57 = .ok (.getfield 112, 3) := by decide +kernel
theorem dc_Pmt_checkHolder_60 : decode bc_Pmt_checkHolder 60 = .ok (.iload_n 3, 1) := by decide +kernel
theorem dc_Pmt_checkHolder_61 : decode bc_Pmt_checkHolder 61 = .ok (.iload 5, 2) := by decide +kernel
theorem dc_Pmt_checkHolder_63 : decode bc_Pmt_checkHolder 63 = .ok (.iconst 1, 1) := by decide +kernel
theorem dc_Pmt_checkHolder_64 : decode bc_Pmt_checkHolder 64 = .ok (.iadd, 1) := by decide +kernel
theorem dc_Pmt_checkHolder_65 : decode bc_Pmt_checkHolder 65 = .ok (.invokevirtual 129, 3) := by decide +kernel
theorem dc_Pmt_checkHolder_68 : decode bc_Pmt_checkHolder 68 = .ok (.iload 4, 2) := by decide +kernel
theorem dc_Pmt_checkHolder_70 : decode bc_Pmt_checkHolder 70 = .ok (.aload_n 2, 1) := by decide +kernel
theorem dc_Pmt_checkHolder_71 : decode bc_Pmt_checkHolder 71 = .ok (.invokevirtual 133, 3) := by decide +kernel
theorem dc_Pmt_checkHolder_74 : decode bc_Pmt_checkHolder 74 = .ok (.ifCond .ne 6, 3) := by decide +kernel
theorem dc_Pmt_checkHolder_77 : decode bc_Pmt_checkHolder 77 = .ok (.goto 29, 3) := by decide +kernel
theorem dc_Pmt_checkHolder_80 : decode bc_Pmt_checkHolder 80 = .ok (.aload_n 0, 1) := by decide +kernel
theorem dc_Pmt_checkHolder_81 : decode bc_Pmt_checkHolder 81 = .ok (.iload 6, 2) := by decide +kernel
theorem dc_Pmt_checkHolder_83 : decode bc_Pmt_checkHolder 83 = .ok (.bipush (-65), 2) := by decide +kernel
theorem dc_Pmt_checkHolder_85 : decode bc_Pmt_checkHolder 85 = .ok (.iand, 1) := by decide +kernel
theorem dc_Pmt_checkHolder_86 : decode bc_Pmt_checkHolder 86 = .ok (.aload_n 1, 1) := by decide +kernel
theorem dc_Pmt_checkHolder_87 : decode bc_Pmt_checkHolder 87 = .ok (.aload_n 2, 1) := by decide +kernel
theorem dc_Pmt_checkHolder_88 : decode bc_Pmt_checkHolder 88 = .ok (.invokevirtual 137, 3) := by decide +kernel
theorem dc_Pmt_checkHolder_91 : decode bc_Pmt_checkHolder 91 = .ok (.ifCond .eq 4, 3) := by decide +kernel
theorem dc_Pmt_checkHolder_94 : decode bc_Pmt_checkHolder 94 = .ok (.return_, 1) := by decide +kernel
theorem dc_Pmt_checkHolder_95 : decode bc_Pmt_checkHolder 95 = .ok (.iload 6, 2) := by decide +kernel
theorem dc_Pmt_checkHolder_97 : decode bc_Pmt_checkHolder 97 = .ok (.bipush 64, 2) := by decide +kernel
theorem dc_Pmt_checkHolder_99 : decode bc_Pmt_checkHolder 99 = .ok (.iand, 1) := by decide +kernel
theorem dc_Pmt_checkHolder_100 : decode bc_Pmt_checkHolder 100 = .ok (.ifCond .ne 6, 3) := by decide +kernel
theorem dc_Pmt_checkHolder_103 : decode bc_Pmt_checkHolder 103 = .ok (.goto 9, 3) := by decide +kernel
theorem dc_Pmt_checkHolder_106 : decode bc_Pmt_checkHolder 106 = .ok (.iinc 5 2, 3) := by decide +kernel
theorem dc_Pmt_checkHolder_109 : decode bc_Pmt_checkHolder 109 = .ok (.goto (-79), 3) := by decide +kernel
theorem dc_Pmt_checkHolder_112 : decode bc_Pmt_checkHolder 112 = .ok (.aload_n 0, 1) := by decide +kernel
theorem dc_Pmt_checkHolder_113 : decode bc_Pmt_checkHolder 113 = .ok (.dup, 1) := by decide +kernel
theorem dc_Pmt_checkHolder_114 : decode bc_Pmt_checkHolder 114 = .ok (.getfield 33, 3) := by decide +kernel
theorem dc_Pmt_checkHolder_117 : decode bc_Pmt_checkHolder 117 = .ok (.iconst 4, 1) := by decide +kernel
theorem dc_Pmt_checkHolder_118 : decode bc_Pmt_checkHolder 118 = .ok (.ior, 1) := by decide +kernel
theorem dc_Pmt_checkHolder_119 : decode bc_Pmt_checkHolder 119 = .ok (.putfield 33, 3) := by decide +kernel
theorem dc_Pmt_checkHolder_122 : decode bc_Pmt_checkHolder 122 = .ok (.return_, 1) := by decide +kernel
theorem dc_Pmt_isCase_0 : decode bc_Pmt_isCase 0 = .ok (.iload_n 1, 1) := by decide +kernel
theorem dc_Pmt_isCase_1 : decode bc_Pmt_isCase 1 = .ok (.tableswitch 66 0 3 #[31, 33, 47, 61], 31) := by decide +kernel
theorem dc_Pmt_isCase_32 : decode bc_Pmt_isCase 32 = .ok (.iconst 1, 1) := by decide +kernel
theorem dc_Pmt_isCase_33 : decode bc_Pmt_isCase 33 = .ok (.ireturn, 1) := by decide +kernel
theorem dc_Pmt_isCase_34 : decode bc_Pmt_isCase 34 = .ok (.aload_n 0, 1) := by decide +kernel
theorem dc_Pmt_isCase_35 : decode bc_Pmt_isCase 35 = .ok (.getfield 24, 3) := by decide +kernel
theorem dc_Pmt_isCase_38 : decode bc_Pmt_isCase 38 = .ok (.iload_n 2, 1) := by decide +kernel
theorem dc_Pmt_isCase_39 : decode bc_Pmt_isCase 39 = .ok (.if_icmp .ge 7, 3) := by decide +kernel
theorem dc_Pmt_isCase_42 : decode bc_Pmt_isCase 42 = .ok (.iconst 1, 1) := by decide +kernel
theorem dc_Pmt_isCase_43 : decode bc_Pmt_isCase 43 = .ok (.goto 4, 3) := by decide +kernel
theorem dc_Pmt_isCase_46 : decode bc_Pmt_isCase 46 = .ok (.iconst 0, 1) := by decide +kernel
theorem dc_Pmt_isCase_47 : decode bc_Pmt_isCase 47 = .ok (.ireturn, 1) := by decide +kernel
theorem dc_Pmt_isCase_48 : decode bc_Pmt_isCase 48 = .ok (.aload_n 0, 1) := by decide +kernel
theorem dc_Pmt_isCase_49 : decode bc_Pmt_isCase 49 = .ok (.getfield 24, 3) := by decide +kernel
theorem dc_Pmt_isCase_52 : decode bc_Pmt_isCase 52 = .ok (.iload_n 2, 1) := by decide +kernel
theorem dc_Pmt_isCase_53 : decode bc_Pmt_isCase 53 = .ok (.if_icmp .le 7, 3) := by decide +kernel
theorem dc_Pmt_isCase_56 : decode bc_Pmt_isCase 56 = .ok (.iconst 1, 1) := by decide +kernel
theorem dc_Pmt_isCase_57 : decode bc_Pmt_isCase 57 = .ok (.goto 4, 3) := by decide +kernel
theorem dc_Pmt_isCase_60 : decode bc_Pmt_isCase 60 = .ok (.iconst 0, 1) := by decide +kernel
theorem dc_Pmt_isCase_61 : decode bc_Pmt_isCase 61 = .ok (.ireturn, 1) := by decide +kernel
theorem dc_Pmt_isCase_62 : decode bc_Pmt_isCase 62 = .ok (.aload_n 3, 1) := by decide +kernel
theorem dc_Pmt_isCase_63 : decode bc_Pmt_isCase 63 = .ok (.invokevirtual 141, 3) := by decide +kernel
theorem dc_Pmt_isCase_66 : decode bc_Pmt_isCase 66 = .ok (.ireturn, 1) := by decide +kernel
theorem dc_Pmt_isCase_67 : decode bc_Pmt_isCase 67 = .ok (.iconst 0, 1) := by decide +kernel
theorem dc_Pmt_isCase_68 : decode bc_Pmt_isCase 68 = .ok (.ireturn, 1) := by decide +kernel
theorem dc_Pmt_isMet_0 : decode bc_Pmt_isMet 0 = .ok (.iload_n 1, 1) := by decide +kernel
theorem dc_Pmt_isMet_1 : decode bc_Pmt_isMet 1 = .ok (.lookupswitch 46 #[(0, 44), (1, 37), (31, 35)], 35) := by decide +kernel
theorem dc_Pmt_isMet_36 : decode bc_Pmt_isMet 36 = .ok (.iconst 1, 1) := by decide +kernel
theorem dc_Pmt_isMet_37 : decode bc_Pmt_isMet 37 = .ok (.ireturn, 1) := by decide +kernel
theorem dc_Pmt_isMet_38 : decode bc_Pmt_isMet 38 = .ok (.aload_n 0, 1) := by decide +kernel
theorem dc_Pmt_isMet_39 : decode bc_Pmt_isMet 39 = .ok (.aload_n 2, 1) := by decide +kernel
theorem dc_Pmt_isMet_40 : decode bc_Pmt_isMet 40 = .ok (.aload_n 3, 1) := by decide +kernel
theorem dc_Pmt_isMet_41 : decode bc_Pmt_isMet 41 = .ok (.invokevirtual 145, 3) := by decide +kernel
theorem dc_Pmt_isMet_44 : decode bc_Pmt_isMet 44 = .ok (.ireturn, 1) := by decide +kernel
theorem dc_Pmt_isMet_45 : decode bc_Pmt_isMet 45 = .ok (.iconst 0, 1) := by decide +kernel
theorem dc_Pmt_isMet_46 : decode bc_Pmt_isMet 46 = .ok (.ireturn, 1) := by decide +kernel
theorem dc_Pmt_isMet_47 : decode bc_Pmt_isMet 47 = .ok (.aload_n 0, 1) := by decide +kernel
theorem dc_Pmt_isMet_48 : decode bc_Pmt_isMet 48 = .ok (.dup, 1) := by decide +kernel
theorem dc_Pmt_isMet_49 : decode bc_Pmt_isMet 49 = .ok (.getfield 33, 3) := by decide +kernel
theorem dc_Pmt_isMet_52 : decode bc_Pmt_isMet 52 = .ok (.bipush 8, 2) := by decide +kernel
theorem dc_Pmt_isMet_54 : decode bc_Pmt_isMet 54 = .ok (.ior, 1) := by decide +kernel
theorem dc_Pmt_isMet_55 : decode bc_Pmt_isMet 55 = .ok (.putfield 33, 3) := by decide +kernel
theorem dc_Pmt_isMet_58 : decode bc_Pmt_isMet 58 = .ok (.iconst 0, 1) := by decide +kernel
theorem dc_Pmt_isMet_59 : decode bc_Pmt_isMet 59 = .ok (.ireturn, 1) := by decide +kernel
theorem dc_Pmt_isPinRight_0 : decode bc_Pmt_isPinRight 0 = .ok (.aload_n 2, 1) := by decide +kernel
theorem dc_Pmt_isPinRight_1 : decode bc_Pmt_isPinRight 1 = .ok (.invokevirtual 141, 3) := by decide +kernel
theorem dc_Pmt_isPinRight_4 : decode bc_Pmt_isPinRight 4 = .ok (.ifCond .eq 11, 3) := by decide +kernel
theorem dc_Pmt_isPinRight_7 : decode bc_Pmt_isPinRight 7 = .ok (.aload_n 0, 1) := by decide +kernel
theorem dc_Pmt_isPinRight_8 : decode bc_Pmt_isPinRight 8 = .ok (.getfield 27, 3) := by decide +kernel
theorem dc_Pmt_isPinRight_11 : decode bc_Pmt_isPinRight 11 = .ok (.iconst (-1), 1) := by decide +kernel
theorem dc_Pmt_isPinRight_12 : decode bc_Pmt_isPinRight 12 = .ok (.if_icmp .ne 16, 3) := by decide +kernel
theorem dc_Pmt_isPinRight_15 : decode bc_Pmt_isPinRight 15 = .ok (.aload_n 0, 1) := by decide +kernel
theorem dc_Pmt_isPinRight_16 : decode bc_Pmt_isPinRight 16 = .ok (.dup, 1) := by decide +kernel
theorem dc_Pmt_isPinRight_17 : decode bc_Pmt_isPinRight 17 = .ok (.getfield 33, 3) := by decide +kernel
theorem dc_Pmt_isPinRight_20 : decode bc_Pmt_isPinRight 20 = .ok (.bipush 16, 2) := by decide +kernel
theorem dc_Pmt_isPinRight_22 : decode bc_Pmt_isPinRight 22 = .ok (.ior, 1) := by decide +kernel
theorem dc_Pmt_isPinRight_23 : decode bc_Pmt_isPinRight 23 = .ok (.putfield 33, 3) := by decide +kernel
theorem dc_Pmt_isPinRight_26 : decode bc_Pmt_isPinRight 26 = .ok (.iconst 0, 1) := by decide +kernel
theorem dc_Pmt_isPinRight_27 : decode bc_Pmt_isPinRight 27 = .ok (.ireturn, 1) := by decide +kernel
theorem dc_Pmt_isPinRight_28 : decode bc_Pmt_isPinRight 28 = .ok (.aload_n 1, 1) := by decide +kernel
theorem dc_Pmt_isPinRight_29 : decode bc_Pmt_isPinRight 29 = .ok (.invokevirtual 149, 3) := by decide +kernel
theorem dc_Pmt_isPinRight_32 : decode bc_Pmt_isPinRight 32 = .ok (.ifCond .eq 16, 3) := by decide +kernel
theorem dc_Pmt_isPinRight_35 : decode bc_Pmt_isPinRight 35 = .ok (.aload_n 0, 1) := by decide +kernel
theorem dc_Pmt_isPinRight_36 : decode bc_Pmt_isPinRight 36 = .ok (.dup, 1) := by decide +kernel
theorem dc_Pmt_isPinRight_37 : decode bc_Pmt_isPinRight 37 = .ok (.getfield 33, 3) := by decide +kernel
theorem dc_Pmt_isPinRight_40 : decode bc_Pmt_isPinRight 40 = .ok (.bipush 32, 2) := by decide +kernel
theorem dc_Pmt_isPinRight_42 : decode bc_Pmt_isPinRight 42 = .ok (.ior, 1) := by decide +kernel
theorem dc_Pmt_isPinRight_43 : decode bc_Pmt_isPinRight 43 = .ok (.putfield 33, 3) := by decide +kernel
theorem dc_Pmt_isPinRight_46 : decode bc_Pmt_isPinRight 46 = .ok (.iconst 0, 1) := by decide +kernel
theorem dc_Pmt_isPinRight_47 : decode bc_Pmt_isPinRight 47 = .ok (.ireturn, 1) := by decide +kernel
theorem dc_Pmt_isPinRight_48 : decode bc_Pmt_isPinRight 48 = .ok (.aload_n 1, 1) := by decide +kernel
theorem dc_Pmt_isPinRight_49 : decode bc_Pmt_isPinRight 49 = .ok (.aload_n 0, 1) := by decide +kernel
theorem dc_Pmt_isPinRight_50 : decode bc_Pmt_isPinRight 50 = .ok (.getfield 27, 3) := by decide +kernel
theorem dc_Pmt_isPinRight_53 : decode bc_Pmt_isPinRight 53 = .ok (.invokevirtual 152, 3) := by decide +kernel
theorem dc_Pmt_isPinRight_56 : decode bc_Pmt_isPinRight 56 = .ok (.ireturn, 1) := by decide +kernel
theorem dc_Pmt_weighRisks_0 : decode bc_Pmt_weighRisks 0 = .ok (.aload_n 0, 1) := by decide +kernel
theorem dc_Pmt_weighRisks_1 : decode bc_Pmt_weighRisks 1 = .ok (.aload_n 0, 1) := by decide +kernel
theorem dc_Pmt_weighRisks_2 : decode bc_Pmt_weighRisks 2 = .ok (.getfield 24, 3) := by decide +kernel
theorem dc_Pmt_weighRisks_5 : decode bc_Pmt_weighRisks 5 = .ok (.aload_n 2, 1) := by decide +kernel
theorem dc_Pmt_weighRisks_6 : decode bc_Pmt_weighRisks 6 = .ok (.invokevirtual 156, 3) := by decide +kernel
theorem dc_Pmt_weighRisks_9 : decode bc_Pmt_weighRisks 9 = .ok (.if_icmp .lt 7, 3) := by decide +kernel
theorem dc_Pmt_weighRisks_12 : decode bc_Pmt_weighRisks 12 = .ok (.iconst 1, 1) := by decide +kernel
theorem dc_Pmt_weighRisks_13 : decode bc_Pmt_weighRisks 13 = .ok (.goto 4, 3) := by decide +kernel
theorem dc_Pmt_weighRisks_16 : decode bc_Pmt_weighRisks 16 = .ok (.iconst 0, 1) := by decide +kernel
theorem dc_Pmt_weighRisks_17 : decode bc_Pmt_weighRisks 17 = .ok (.bipush 64, 2) := by decide +kernel
theorem dc_Pmt_weighRisks_19 : decode bc_Pmt_weighRisks 19 = .ok (.invokevirtual 59, 3) := by decide +kernel
theorem dc_Pmt_weighRisks_22 : decode bc_Pmt_weighRisks 22 = .ok (.aload_n 1, 1) := by decide +kernel
theorem dc_Pmt_weighRisks_23 : decode bc_Pmt_weighRisks 23 = .ok (.getfield 159, 3) := by decide +kernel
theorem dc_Pmt_weighRisks_26 : decode bc_Pmt_weighRisks 26 = .ok (.iconst (-1), 1) := by decide +kernel
theorem dc_Pmt_weighRisks_27 : decode bc_Pmt_weighRisks 27 = .ok (.if_icmp .eq 33, 3) := by decide +kernel
theorem dc_Pmt_weighRisks_30 : decode bc_Pmt_weighRisks 30 = .ok (.aload_n 1, 1) := by decide +kernel
theorem dc_Pmt_weighRisks_31 : decode bc_Pmt_weighRisks 31 = .ok (.getfield 162, 3) := by decide +kernel
theorem dc_Pmt_weighRisks_34 : decode bc_Pmt_weighRisks 34 = .ok (.iconst (-1), 1) := by decide +kernel
theorem dc_Pmt_weighRisks_35 : decode bc_Pmt_weighRisks 35 = .ok (.if_icmp .eq 25, 3) := by decide +kernel
theorem dc_Pmt_weighRisks_38 : decode bc_Pmt_weighRisks 38 = .ok (.aload_n 0, 1) := by decide +kernel
theorem dc_Pmt_weighRisks_39 : decode bc_Pmt_weighRisks 39 = .ok (.aload_n 1, 1) := by decide +kernel
theorem dc_Pmt_weighRisks_40 : decode bc_Pmt_weighRisks 40 = .ok (.invokevirtual 165, 3) := by decide +kernel
theorem dc_Pmt_weighRisks_43 : decode bc_Pmt_weighRisks 43 = .ok (.sipush 128, 3) := by decide +kernel
theorem dc_Pmt_weighRisks_46 : decode bc_Pmt_weighRisks 46 = .ok (.invokevirtual 59, 3) := by decide +kernel
theorem dc_Pmt_weighRisks_49 : decode bc_Pmt_weighRisks 49 = .ok (.aload_n 0, 1) := by decide +kernel
theorem dc_Pmt_weighRisks_50 : decode bc_Pmt_weighRisks 50 = .ok (.aload_n 1, 1) := by decide +kernel
theorem dc_Pmt_weighRisks_51 : decode bc_Pmt_weighRisks 51 = .ok (.invokevirtual 168, 3) := by decide +kernel
theorem dc_Pmt_weighRisks_54 : decode bc_Pmt_weighRisks 54 = .ok (.sipush 256, 3) := by decide +kernel
theorem dc_Pmt_weighRisks_57 : decode bc_Pmt_weighRisks 57 = .ok (.invokevirtual 59, 3) := by decide +kernel
theorem dc_Pmt_weighRisks_60 : decode bc_Pmt_weighRisks 60 = .ok (.return_, 1) := by decide +kernel
theorem dc_Pmt_findWish_0 : decode bc_Pmt_findWish 0 = .ok (.aload_n 0, 1) := by decide +kernel
theorem dc_Pmt_findWish_1 : decode bc_Pmt_findWish 1 = .ok (.aload_n 1, 1) := by decide +kernel
theorem dc_Pmt_findWish_2 : decode bc_Pmt_findWish 2 = .ok (.getfield 171, 3) := by decide +kernel
theorem dc_Pmt_findWish_5 : decode bc_Pmt_findWish 5 = .ok (.aload_n 2, 1) := by decide +kernel
theorem dc_Pmt_findWish_6 : decode bc_Pmt_findWish 6 = .ok (.invokevirtual 174, 3) := by decide +kernel
theorem dc_Pmt_findWish_9 : decode bc_Pmt_findWish 9 = .ok (.ior, 1) := by decide +kernel
theorem dc_Pmt_findWish_10 : decode bc_Pmt_findWish 10 = .ok (.invokevirtual 176, 3) := by decide +kernel
theorem dc_Pmt_findWish_13 : decode bc_Pmt_findWish 13 = .ok (.ifCond .eq 5, 3) := by decide +kernel
theorem dc_Pmt_findWish_16 : decode bc_Pmt_findWish 16 = .ok (.iconst 0, 1) := by decide +kernel
theorem dc_Pmt_findWish_17 : decode bc_Pmt_findWish 17 = .ok (.ireturn, 1) := by decide +kernel
theorem dc_Pmt_findWish_18 : decode bc_Pmt_findWish 18 = .ok (.aload_n 2, 1) := by decide +kernel
theorem dc_Pmt_findWish_19 : decode bc_Pmt_findWish 19 = .ok (.invokevirtual 179, 3) := by decide +kernel
theorem dc_Pmt_findWish_22 : decode bc_Pmt_findWish 22 = .ok (.ifCond .eq 25, 3) := by decide +kernel
theorem dc_Pmt_findWish_25 : decode bc_Pmt_findWish 25 = .ok (.aload_n 0, 1) := by decide +kernel
theorem dc_Pmt_findWish_26 : decode bc_Pmt_findWish 26 = .ok (.aload_n 1, 1) := by decide +kernel
theorem dc_Pmt_findWish_27 : decode bc_Pmt_findWish 27 = .ok (.getfield 182, 3) := by decide +kernel
theorem dc_Pmt_findWish_30 : decode bc_Pmt_findWish 30 = .ok (.aload_n 2, 1) := by decide +kernel
theorem dc_Pmt_findWish_31 : decode bc_Pmt_findWish 31 = .ok (.invokevirtual 185, 3) := by decide +kernel
theorem dc_Pmt_findWish_34 : decode bc_Pmt_findWish 34 = .ok (.ior, 1) := by decide +kernel
theorem dc_Pmt_findWish_35 : decode bc_Pmt_findWish 35 = .ok (.invokevirtual 176, 3) := by decide +kernel
theorem dc_Pmt_findWish_38 : decode bc_Pmt_findWish 38 = .ok (.ifCond .eq 7, 3) := by decide +kernel
theorem dc_Pmt_findWish_41 : decode bc_Pmt_findWish 41 = .ok (.iconst 1, 1) := by decide +kernel
theorem dc_Pmt_findWish_42 : decode bc_Pmt_findWish 42 = .ok (.goto 4, 3) := by decide +kernel
theorem dc_Pmt_findWish_45 : decode bc_Pmt_findWish 45 = .ok (.iconst 2, 1) := by decide +kernel
theorem dc_Pmt_findWish_46 : decode bc_Pmt_findWish 46 = .ok (.ireturn, 1) := by decide +kernel
theorem dc_Pmt_findWish_47 : decode bc_Pmt_findWish 47 = .ok (.aload_n 0, 1) := by decide +kernel
theorem dc_Pmt_findWish_48 : decode bc_Pmt_findWish 48 = .ok (.aload_n 1, 1) := by decide +kernel
theorem dc_Pmt_findWish_49 : decode bc_Pmt_findWish 49 = .ok (.getfield 187, 3) := by decide +kernel
theorem dc_Pmt_findWish_52 : decode bc_Pmt_findWish 52 = .ok (.aload_n 2, 1) := by decide +kernel
theorem dc_Pmt_findWish_53 : decode bc_Pmt_findWish 53 = .ok (.invokevirtual 190, 3) := by decide +kernel
theorem dc_Pmt_findWish_56 : decode bc_Pmt_findWish 56 = .ok (.ior, 1) := by decide +kernel
theorem dc_Pmt_findWish_57 : decode bc_Pmt_findWish 57 = .ok (.invokevirtual 176, 3) := by decide +kernel
theorem dc_Pmt_findWish_60 : decode bc_Pmt_findWish 60 = .ok (.ifCond .eq 7, 3) := by decide +kernel
theorem dc_Pmt_findWish_63 : decode bc_Pmt_findWish 63 = .ok (.iconst 0, 1) := by decide +kernel
theorem dc_Pmt_findWish_64 : decode bc_Pmt_findWish 64 = .ok (.goto 4, 3) := by decide +kernel
theorem dc_Pmt_findWish_67 : decode bc_Pmt_findWish 67 = .ok (.iconst 2, 1) := by decide +kernel
theorem dc_Pmt_findWish_68 : decode bc_Pmt_findWish 68 = .ok (.ireturn, 1) := by decide +kernel
theorem dc_Pmt_hasFlagIn_0 : decode bc_Pmt_hasFlagIn 0 = .ok (.aload_n 0, 1) := by decide +kernel
theorem dc_Pmt_hasFlagIn_1 : decode bc_Pmt_hasFlagIn 1 = .ok (.getfield 33, 3) := by decide +kernel
theorem dc_Pmt_hasFlagIn_4 : decode bc_Pmt_hasFlagIn 4 = .ok (.iload_n 1, 1) := by decide +kernel
theorem dc_Pmt_hasFlagIn_5 : decode bc_Pmt_hasFlagIn 5 = .ok (.iand, 1) := by decide +kernel
theorem dc_Pmt_hasFlagIn_6 : decode bc_Pmt_hasFlagIn 6 = .ok (.ifCond .eq 7, 3) := by decide +kernel
theorem dc_Pmt_hasFlagIn_9 : decode bc_Pmt_hasFlagIn 9 = .ok (.iconst 1, 1) := by decide +kernel
theorem dc_Pmt_hasFlagIn_10 : decode bc_Pmt_hasFlagIn 10 = .ok (.goto 4, 3) := by decide +kernel
theorem dc_Pmt_hasFlagIn_13 : decode bc_Pmt_hasFlagIn 13 = .ok (.iconst 0, 1) := by decide +kernel
theorem dc_Pmt_hasFlagIn_14 : decode bc_Pmt_hasFlagIn 14 = .ok (.ireturn, 1) := by decide +kernel
theorem dc_Pmt_gatherData_0 : decode bc_Pmt_gatherData 0 = .ok (.aload_n 0, 1) := by decide +kernel
theorem dc_Pmt_gatherData_1 : decode bc_Pmt_gatherData 1 = .ok (.getfield 14, 3) := by decide +kernel
theorem dc_Pmt_gatherData_4 : decode bc_Pmt_gatherData 4 = .ok (.invokevirtual 192, 3) := by decide +kernel
theorem dc_Pmt_gatherData_7 : decode bc_Pmt_gatherData 7 = .ok (.aload_n 1, 1) := by decide +kernel
theorem dc_Pmt_gatherData_8 : decode bc_Pmt_gatherData 8 = .ok (.getfield 112, 3) := by decide +kernel
theorem dc_Pmt_gatherData_11 : decode bc_Pmt_gatherData 11 = .ok (.sipush 140, 3) := by decide +kernel
theorem dc_Pmt_gatherData_14 : decode bc_Pmt_gatherData 14 = .ok (.invokevirtual 118, 3) := by decide +kernel
theorem dc_Pmt_gatherData_17 : decode bc_Pmt_gatherData 17 = .ok (.istore_n 3, 1) := by decide +kernel
theorem dc_Pmt_gatherData_18 : decode bc_Pmt_gatherData 18 = .ok (.iconst 0, 1) := by decide +kernel
theorem dc_Pmt_gatherData_19 : decode bc_Pmt_gatherData 19 = .ok (.istore 4, 2) := by decide +kernel
theorem dc_Pmt_gatherData_21 : decode bc_Pmt_gatherData 21 = .ok (.iconst 0, 1) := by decide +kernel
theorem dc_Pmt_gatherData_22 : decode bc_Pmt_gatherData 22 = .ok (.istore 5, 2) := by decide +kernel
theorem dc_Pmt_gatherData_24 : decode bc_Pmt_gatherData 24 = .ok (.iload 5, 2) := by decide +kernel
theorem dc_Pmt_gatherData_26 : decode bc_Pmt_gatherData 26 = .ok (.bipush 8, 2) := by decide +kernel
theorem dc_Pmt_gatherData_28 : decode bc_Pmt_gatherData 28 = .ok (.if_icmp .ge 71, 3) := by decide +kernel
theorem dc_Pmt_gatherData_31 : decode bc_Pmt_gatherData 31 = .ok (.iload 4, 2) := by decide +kernel
theorem dc_Pmt_gatherData_33 : decode bc_Pmt_gatherData 33 = .ok (.aload_n 1, 1) := by decide +kernel
theorem dc_Pmt_gatherData_34 : decode bc_Pmt_gatherData 34 = .ok (.getfield 112, 3) := by decide +kernel
theorem dc_Pmt_gatherData_37 : decode bc_Pmt_gatherData 37 = .ok (.iload_n 3, 1) := by decide +kernel
theorem dc_Pmt_gatherData_38 : decode bc_Pmt_gatherData 38 = .ok (.invokevirtual 126, 3) := by decide +kernel
theorem dc_Pmt_gatherData_41 : decode bc_Pmt_gatherData 41 = .ok (.if_icmp .ge 58, 3) := by decide +kernel
theorem dc_Pmt_gatherData_44 : decode bc_Pmt_gatherData 44 = .ok (.aload_n 1, 1) := by decide +kernel
theorem dc_Pmt_gatherData_45 : decode bc_Pmt_gatherData 45 = .ok (.getfield 112, 3) := by decide +kernel
theorem dc_Pmt_gatherData_48 : decode bc_Pmt_gatherData 48 = .ok (.iload_n 3, 1) := by decide +kernel
theorem dc_Pmt_gatherData_49 : decode bc_Pmt_gatherData 49 = .ok (.iload 4, 2) := by decide +kernel
theorem dc_Pmt_gatherData_51 : decode bc_Pmt_gatherData 51 = .ok (.invokevirtual 195, 3) := by decide +kernel
theorem dc_Pmt_gatherData_54 : decode bc_Pmt_gatherData 54 = .ok (.istore 6, 2) := by decide +kernel
theorem dc_Pmt_gatherData_56 : decode bc_Pmt_gatherData 56 = .ok (.iload 4, 2) := by decide +kernel
theorem dc_Pmt_gatherData_58 : decode bc_Pmt_gatherData 58 = .ok (.iload 6, 2) := by decide +kernel
theorem dc_Pmt_gatherData_60 : decode bc_Pmt_gatherData 60 = .ok (.invokestatic 198, 3) := by decide +kernel
theorem dc_Pmt_gatherData_63 : decode bc_Pmt_gatherData 63 = .ok (.iadd, 1) := by decide +kernel
theorem dc_Pmt_gatherData_64 : decode bc_Pmt_gatherData 64 = .ok (.istore 7, 2) := by decide +kernel
theorem dc_Pmt_gatherData_66 : decode bc_Pmt_gatherData 66 = .ok (.aload_n 0, 1) := by decide +kernel
theorem dc_Pmt_gatherData_67 : decode bc_Pmt_gatherData 67 = .ok (.aload_n 0, 1) := by decide +kernel
theorem dc_Pmt_gatherData_68 : decode bc_Pmt_gatherData 68 = .ok (.iload 6, 2) := by decide +kernel
theorem dc_Pmt_gatherData_70 : decode bc_Pmt_gatherData 70 = .ok (.aload_n 2, 1) := by decide +kernel
theorem dc_Pmt_gatherData_71 : decode bc_Pmt_gatherData 71 = .ok (.invokevirtual 201, 3) := by decide +kernel
theorem dc_Pmt_gatherData_74 : decode bc_Pmt_gatherData 74 = .ok (.aload_n 1, 1) := by decide +kernel
theorem dc_Pmt_gatherData_75 : decode bc_Pmt_gatherData 75 = .ok (.getfield 112, 3) := by decide +kernel
theorem dc_Pmt_gatherData_78 : decode bc_Pmt_gatherData 78 = .ok (.iload_n 3, 1) := by decide +kernel
theorem dc_Pmt_gatherData_79 : decode bc_Pmt_gatherData 79 = .ok (.iload 7, 2) := by decide +kernel
theorem dc_Pmt_gatherData_81 : decode bc_Pmt_gatherData 81 = .ok (.invokevirtual 129, 3) := by decide +kernel
theorem dc_Pmt_gatherData_84 : decode bc_Pmt_gatherData 84 = .ok (.invokevirtual 205, 3) := by decide +kernel
theorem dc_Pmt_gatherData_87 : decode bc_Pmt_gatherData 87 = .ok (.iload 7, 2) := by decide +kernel
theorem dc_Pmt_gatherData_89 : decode bc_Pmt_gatherData 89 = .ok (.iconst 1, 1) := by decide +kernel
theorem dc_Pmt_gatherData_90 : decode bc_Pmt_gatherData 90 = .ok (.iadd, 1) := by decide +kernel
theorem dc_Pmt_gatherData_91 : decode bc_Pmt_gatherData 91 = .ok (.istore 4, 2) := by decide +kernel
theorem dc_Pmt_gatherData_93 : decode bc_Pmt_gatherData 93 = .ok (.iinc 5 1, 3) := by decide +kernel
theorem dc_Pmt_gatherData_96 : decode bc_Pmt_gatherData 96 = .ok (.goto (-72), 3) := by decide +kernel
theorem dc_Pmt_gatherData_99 : decode bc_Pmt_gatherData 99 = .ok (.return_, 1) := by decide +kernel
theorem dc_Pmt_demanded_0 : decode bc_Pmt_demanded 0 = .ok (.iload_n 1, 1) := by decide +kernel
theorem dc_Pmt_demanded_1 : decode bc_Pmt_demanded 1 = .ok (.lookupswitch 63 #[(149, 48), (154, 53), (40706, 43), (40759, 58)], 43) := by decide +kernel
theorem dc_Pmt_demanded_44 : decode bc_Pmt_demanded 44 = .ok (.aload_n 0, 1) := by decide +kernel
theorem dc_Pmt_demanded_45 : decode bc_Pmt_demanded 45 = .ok (.getfield 24, 3) := by decide +kernel
theorem dc_Pmt_demanded_48 : decode bc_Pmt_demanded 48 = .ok (.ireturn, 1) := by decide +kernel
theorem dc_Pmt_demanded_49 : decode bc_Pmt_demanded 49 = .ok (.aload_n 0, 1) := by decide +kernel
theorem dc_Pmt_demanded_50 : decode bc_Pmt_demanded 50 = .ok (.getfield 33, 3) := by decide +kernel
theorem dc_Pmt_demanded_53 : decode bc_Pmt_demanded 53 = .ok (.ireturn, 1) := by decide +kernel
theorem dc_Pmt_demanded_54 : decode bc_Pmt_demanded 54 = .ok (.aload_n 2, 1) := by decide +kernel
theorem dc_Pmt_demanded_55 : decode bc_Pmt_demanded 55 = .ok (.invokevirtual 50, 3) := by decide +kernel
theorem dc_Pmt_demanded_58 : decode bc_Pmt_demanded 58 = .ok (.ireturn, 1) := by decide +kernel
theorem dc_Pmt_demanded_59 : decode bc_Pmt_demanded 59 = .ok (.aload_n 0, 1) := by decide +kernel
theorem dc_Pmt_demanded_60 : decode bc_Pmt_demanded 60 = .ok (.getfield 20, 3) := by decide +kernel
theorem dc_Pmt_demanded_63 : decode bc_Pmt_demanded 63 = .ok (.ireturn, 1) := by decide +kernel
theorem dc_Pmt_demanded_64 : decode bc_Pmt_demanded 64 = .ok (.iconst 0, 1) := by decide +kernel
theorem dc_Pmt_demanded_65 : decode bc_Pmt_demanded 65 = .ok (.ireturn, 1) := by decide +kernel
theorem dc_Pmt_addNumber_0 : decode bc_Pmt_addNumber 0 = .ok (.iload_n 2, 1) := by decide +kernel
theorem dc_Pmt_addNumber_1 : decode bc_Pmt_addNumber 1 = .ok (.iconst 1, 1) := by decide +kernel
theorem dc_Pmt_addNumber_2 : decode bc_Pmt_addNumber 2 = .ok (.isub, 1) := by decide +kernel
theorem dc_Pmt_addNumber_3 : decode bc_Pmt_addNumber 3 = .ok (.istore_n 3, 1) := by decide +kernel
theorem dc_Pmt_addNumber_4 : decode bc_Pmt_addNumber 4 = .ok (.iload_n 3, 1) := by decide +kernel
theorem dc_Pmt_addNumber_5 : decode bc_Pmt_addNumber 5 = .ok (.ifCond .lt 36, 3) := by decide +kernel
theorem dc_Pmt_addNumber_8 : decode bc_Pmt_addNumber 8 = .ok (.aload_n 0, 1) := by decide +kernel
theorem dc_Pmt_addNumber_9 : decode bc_Pmt_addNumber 9 = .ok (.getfield 14, 3) := by decide +kernel
theorem dc_Pmt_addNumber_12 : decode bc_Pmt_addNumber 12 = .ok (.iload_n 3, 1) := by decide +kernel
theorem dc_Pmt_addNumber_13 : decode bc_Pmt_addNumber 13 = .ok (.iconst 4, 1) := by decide +kernel
theorem dc_Pmt_addNumber_14 : decode bc_Pmt_addNumber 14 = .ok (.if_icmp .ge 16, 3) := by decide +kernel
theorem dc_Pmt_addNumber_17 : decode bc_Pmt_addNumber 17 = .ok (.iload_n 1, 1) := by decide +kernel
theorem dc_Pmt_addNumber_18 : decode bc_Pmt_addNumber 18 = .ok (.bipush 8, 2) := by decide +kernel
theorem dc_Pmt_addNumber_20 : decode bc_Pmt_addNumber 20 = .ok (.iload_n 3, 1) := by decide +kernel
theorem dc_Pmt_addNumber_21 : decode bc_Pmt_addNumber 21 = .ok (.imul, 1) := by decide +kernel
theorem dc_Pmt_addNumber_22 : decode bc_Pmt_addNumber 22 = .ok (.iushr, 1) := by decide +kernel
theorem dc_Pmt_addNumber_23 : decode bc_Pmt_addNumber 23 = .ok (.sipush 255, 3) := by decide +kernel
theorem dc_Pmt_addNumber_26 : decode bc_Pmt_addNumber 26 = .ok (.iand, 1) := by decide +kernel
theorem dc_Pmt_addNumber_27 : decode bc_Pmt_addNumber 27 = .ok (.goto 4, 3) := by decide +kernel
theorem dc_Pmt_addNumber_30 : decode bc_Pmt_addNumber 30 = .ok (.iconst 0, 1) := by decide +kernel
theorem dc_Pmt_addNumber_31 : decode bc_Pmt_addNumber 31 = .ok (.invokevirtual 209, 3) := by decide +kernel
theorem dc_Pmt_addNumber_34 : decode bc_Pmt_addNumber 34 = .ok (.pop, 1) := by decide +kernel
theorem dc_Pmt_addNumber_35 : decode bc_Pmt_addNumber 35 = .ok (.iinc 3 (-1), 3) := by decide +kernel
theorem dc_Pmt_addNumber_38 : decode bc_Pmt_addNumber 38 = .ok (.goto (-34), 3) := by decide +kernel
theorem dc_Pmt_addNumber_41 : decode bc_Pmt_addNumber 41 = .ok (.return_, 1) := by decide +kernel
theorem dc_Pmt_askHost_0 : decode bc_Pmt_askHost 0 = .ok (.aload_n 2, 1) := by decide +kernel
theorem dc_Pmt_askHost_1 : decode bc_Pmt_askHost 1 = .ok (.invokevirtual 179, 3) := by decide +kernel
theorem dc_Pmt_askHost_4 : decode bc_Pmt_askHost 4 = .ok (.ifCond .eq 39, 3) := by decide +kernel
theorem dc_Pmt_askHost_7 : decode bc_Pmt_askHost 7 = .ok (.aload_n 0, 1) := by decide +kernel
theorem dc_Pmt_askHost_8 : decode bc_Pmt_askHost 8 = .ok (.getfield 30, 3) := by decide +kernel
theorem dc_Pmt_askHost_11 : decode bc_Pmt_askHost 11 = .ok (.iconst 1, 1) := by decide +kernel
theorem dc_Pmt_askHost_12 : decode bc_Pmt_askHost 12 = .ok (.if_icmp .eq 31, 3) := by decide +kernel
theorem dc_Pmt_askHost_15 : decode bc_Pmt_askHost 15 = .ok (.aload_n 0, 1) := by decide +kernel
theorem dc_Pmt_askHost_16 : decode bc_Pmt_askHost 16 = .ok (.aload_n 3, 1) := by decide +kernel
theorem dc_Pmt_askHost_17 : decode bc_Pmt_askHost 17 = .ok (.aload_n 1, 1) := by decide +kernel
theorem dc_Pmt_askHost_18 : decode bc_Pmt_askHost 18 = .ok (.getfield 212, 3) := by decide +kernel
theorem dc_Pmt_askHost_21 : decode bc_Pmt_askHost 21 = .ok (.aload_n 1, 1) := by decide +kernel
theorem dc_Pmt_askHost_22 : decode bc_Pmt_askHost 22 = .ok (.getfield 45, 3) := by decide +kernel
theorem dc_Pmt_askHost_25 : decode bc_Pmt_askHost 25 = .ok (.aload_n 0, 1) := by decide +kernel
theorem dc_Pmt_askHost_26 : decode bc_Pmt_askHost 26 = .ok (.getfield 14, 3) := by decide +kernel
theorem dc_Pmt_askHost_29 : decode bc_Pmt_askHost 29 = .ok (.aload_n 0, 1) := by decide +kernel
theorem dc_Pmt_askHost_30 : decode bc_Pmt_askHost 30 = .ok (.getfield 99, 3) := by decide +kernel
theorem dc_Pmt_askHost_33 : decode bc_Pmt_askHost 33 = .ok (.aload_n 0, 1) := by decide +kernel
theorem dc_Pmt_askHost_34 : decode bc_Pmt_askHost 34 = .ok (.getfield 24, 3) := by decide +kernel
theorem dc_Pmt_askHost_37 : decode bc_Pmt_askHost 37 = .ok (.invokevirtual 215, 3) := by decide +kernel
theorem dc_Pmt_askHost_40 : decode bc_Pmt_askHost 40 = .ok (.putfield 42, 3) := by decide +kernel
theorem dc_Pmt_askHost_43 : decode bc_Pmt_askHost 43 = .ok (.aload_n 0, 1) := by decide +kernel
theorem dc_Pmt_askHost_44 : decode bc_Pmt_askHost 44 = .ok (.getfield 30, 3) := by decide +kernel
theorem dc_Pmt_askHost_47 : decode bc_Pmt_askHost 47 = .ok (.iconst 3, 1) := by decide +kernel
theorem dc_Pmt_askHost_48 : decode bc_Pmt_askHost 48 = .ok (.if_icmp .ne 9, 3) := by decide +kernel
theorem dc_Pmt_askHost_51 : decode bc_Pmt_askHost 51 = .ok (.aload_n 0, 1) := by decide +kernel
theorem dc_Pmt_askHost_52 : decode bc_Pmt_askHost 52 = .ok (.iconst 3, 1) := by decide +kernel
theorem dc_Pmt_askHost_53 : decode bc_Pmt_askHost 53 = .ok (.putfield 109, 3) := by decide +kernel
theorem dc_Pmt_askHost_56 : decode bc_Pmt_askHost 56 = .ok (.return_, 1) := by decide +kernel
theorem dc_Pmt_askHost_57 : decode bc_Pmt_askHost 57 = .ok (.aload_n 0, 1) := by decide +kernel
theorem dc_Pmt_askHost_58 : decode bc_Pmt_askHost 58 = .ok (.aload_n 0, 1) := by decide +kernel
theorem dc_Pmt_askHost_59 : decode bc_Pmt_askHost 59 = .ok (.aload_n 2, 1) := by decide +kernel
theorem dc_Pmt_askHost_60 : decode bc_Pmt_askHost 60 = .ok (.invokevirtual 221, 3) := by decide +kernel
theorem dc_Pmt_askHost_63 : decode bc_Pmt_askHost 63 = .ok (.ifCond .eq 12, 3) := by decide +kernel
theorem dc_Pmt_askHost_66 : decode bc_Pmt_askHost 66 = .ok (.aload_n 0, 1) := by decide +kernel
theorem dc_Pmt_askHost_67 : decode bc_Pmt_askHost 67 = .ok (.aload_n 1, 1) := by decide +kernel
theorem dc_Pmt_askHost_68 : decode bc_Pmt_askHost 68 = .ok (.aload_n 3, 1) := by decide +kernel
theorem dc_Pmt_askHost_69 : decode bc_Pmt_askHost 69 = .ok (.invokevirtual 225, 3) := by decide +kernel
theorem dc_Pmt_askHost_72 : decode bc_Pmt_askHost 72 = .ok (.goto 9, 3) := by decide +kernel
theorem dc_Pmt_askHost_75 : decode bc_Pmt_askHost 75 = .ok (.aload_n 0, 1) := by decide +kernel
theorem dc_Pmt_askHost_76 : decode bc_Pmt_askHost 76 = .ok (.aload_n 1, 1) := by decide +kernel
theorem dc_Pmt_askHost_77 : decode bc_Pmt_askHost 77 = .ok (.aload_n 2, 1) := by decide +kernel
theorem dc_Pmt_askHost_78 : decode bc_Pmt_askHost 78 = .ok (.invokevirtual 229, 3) := by decide +kernel
theorem dc_Pmt_askHost_81 : decode bc_Pmt_askHost 81 = .ok (.putfield 36, 3) := by decide +kernel
theorem dc_Pmt_askHost_84 : decode bc_Pmt_askHost 84 = .ok (.aload_n 0, 1) := by decide +kernel
theorem dc_Pmt_askHost_85 : decode bc_Pmt_askHost 85 = .ok (.aload_n 1, 1) := by decide +kernel
theorem dc_Pmt_askHost_86 : decode bc_Pmt_askHost 86 = .ok (.getfield 90, 3) := by decide +kernel
theorem dc_Pmt_askHost_89 : decode bc_Pmt_askHost 89 = .ok (.aload_n 0, 1) := by decide +kernel
theorem dc_Pmt_askHost_90 : decode bc_Pmt_askHost 90 = .ok (.getfield 36, 3) := by decide +kernel
theorem dc_Pmt_askHost_93 : decode bc_Pmt_askHost 93 = .ok (.aload_n 1, 1) := by decide +kernel
theorem dc_Pmt_askHost_94 : decode bc_Pmt_askHost 94 = .ok (.getfield 45, 3) := by decide +kernel
theorem dc_Pmt_askHost_97 : decode bc_Pmt_askHost 97 = .ok (.aload_n 0, 1) := by decide +kernel
theorem dc_Pmt_askHost_98 : decode bc_Pmt_askHost 98 = .ok (.getfield 14, 3) := by decide +kernel
theorem dc_Pmt_askHost_101 : decode bc_Pmt_askHost 101 = .ok (.invokestatic 93, 3) := by decide +kernel
theorem dc_Pmt_askHost_104 : decode bc_Pmt_askHost 104 = .ok (.putfield 39, 3) := by decide +kernel
theorem dc_Pmt_askHost_107 : decode bc_Pmt_askHost 107 = .ok (.aload_n 0, 1) := by decide +kernel
theorem dc_Pmt_askHost_108 : decode bc_Pmt_askHost 108 = .ok (.aload_n 0, 1) := by decide +kernel
theorem dc_Pmt_askHost_109 : decode bc_Pmt_askHost 109 = .ok (.getfield 36, 3) := by decide +kernel
theorem dc_Pmt_askHost_112 : decode bc_Pmt_askHost 112 = .ok (.iconst 2, 1) := by decide +kernel
theorem dc_Pmt_askHost_113 : decode bc_Pmt_askHost 113 = .ok (.if_icmp .ne 7, 3) := by decide +kernel
theorem dc_Pmt_askHost_116 : decode bc_Pmt_askHost 116 = .ok (.iconst 1, 1) := by decide +kernel
theorem dc_Pmt_askHost_117 : decode bc_Pmt_askHost 117 = .ok (.goto 4, 3) := by decide +kernel
theorem dc_Pmt_askHost_120 : decode bc_Pmt_askHost 120 = .ok (.iconst 2, 1) := by decide +kernel
theorem dc_Pmt_askHost_121 : decode bc_Pmt_askHost 121 = .ok (.putfield 109, 3) := by decide +kernel
theorem dc_Pmt_askHost_124 : decode bc_Pmt_askHost 124 = .ok (.return_, 1) := by decide +kernel
theorem dc_Pmt_hasReply_0 : decode bc_Pmt_hasReply 0 = .ok (.aload_n 1, 1) := by decide +kernel
theorem dc_Pmt_hasReply_1 : decode bc_Pmt_hasReply 1 = .ok (.invokevirtual 179, 3) := by decide +kernel
theorem dc_Pmt_hasReply_4 : decode bc_Pmt_hasReply 4 = .ok (.ifCond .eq 23, 3) := by decide +kernel
theorem dc_Pmt_hasReply_7 : decode bc_Pmt_hasReply 7 = .ok (.aload_n 0, 1) := by decide +kernel
theorem dc_Pmt_hasReply_8 : decode bc_Pmt_hasReply 8 = .ok (.getfield 30, 3) := by decide +kernel
theorem dc_Pmt_hasReply_11 : decode bc_Pmt_hasReply 11 = .ok (.iconst 1, 1) := by decide +kernel
theorem dc_Pmt_hasReply_12 : decode bc_Pmt_hasReply 12 = .ok (.if_icmp .eq 15, 3) := by decide +kernel
theorem dc_Pmt_hasReply_15 : decode bc_Pmt_hasReply 15 = .ok (.aload_n 0, 1) := by decide +kernel
theorem dc_Pmt_hasReply_16 : decode bc_Pmt_hasReply 16 = .ok (.getfield 30, 3) := by decide +kernel
theorem dc_Pmt_hasReply_19 : decode bc_Pmt_hasReply 19 = .ok (.iconst 2, 1) := by decide +kernel
theorem dc_Pmt_hasReply_20 : decode bc_Pmt_hasReply 20 = .ok (.if_icmp .eq 7, 3) := by decide +kernel
theorem dc_Pmt_hasReply_23 : decode bc_Pmt_hasReply 23 = .ok (.iconst 1, 1) := by decide +kernel
theorem dc_Pmt_hasReply_24 : decode bc_Pmt_hasReply 24 = .ok (.goto 4, 3) := by decide +kernel
theorem dc_Pmt_hasReply_27 : decode bc_Pmt_hasReply 27 = .ok (.iconst 0, 1) := by decide +kernel
theorem dc_Pmt_hasReply_28 : decode bc_Pmt_hasReply 28 = .ok (.ireturn, 1) := by decide +kernel
theorem dc_Pmt_answerReply_0 : decode bc_Pmt_answerReply 0 = .ok (.aload_n 2, 1) := by decide +kernel
theorem dc_Pmt_answerReply_1 : decode bc_Pmt_answerReply 1 = .ok (.aload_n 1, 1) := by decide +kernel
theorem dc_Pmt_answerReply_2 : decode bc_Pmt_answerReply 2 = .ok (.getfield 212, 3) := by decide +kernel
theorem dc_Pmt_answerReply_5 : decode bc_Pmt_answerReply 5 = .ok (.aload_n 0, 1) := by decide +kernel
theorem dc_Pmt_answerReply_6 : decode bc_Pmt_answerReply 6 = .ok (.getfield 42, 3) := by decide +kernel
theorem dc_Pmt_answerReply_9 : decode bc_Pmt_answerReply 9 = .ok (.aload_n 0, 1) := by decide +kernel
theorem dc_Pmt_answerReply_10 : decode bc_Pmt_answerReply 10 = .ok (.getfield 99, 3) := by decide +kernel
theorem dc_Pmt_answerReply_13 : decode bc_Pmt_answerReply 13 = .ok (.invokevirtual 232, 3) := by decide +kernel
theorem dc_Pmt_answerReply_16 : decode bc_Pmt_answerReply 16 = .ok (.istore_n 3, 1) := by decide +kernel
theorem dc_Pmt_answerReply_17 : decode bc_Pmt_answerReply 17 = .ok (.aload_n 1, 1) := by decide +kernel
theorem dc_Pmt_answerReply_18 : decode bc_Pmt_answerReply 18 = .ok (.aload_n 0, 1) := by decide +kernel
theorem dc_Pmt_answerReply_19 : decode bc_Pmt_answerReply 19 = .ok (.getfield 42, 3) := by decide +kernel
theorem dc_Pmt_answerReply_22 : decode bc_Pmt_answerReply 22 = .ok (.aload_n 0, 1) := by decide +kernel
theorem dc_Pmt_answerReply_23 : decode bc_Pmt_answerReply 23 = .ok (.getfield 99, 3) := by decide +kernel
theorem dc_Pmt_answerReply_26 : decode bc_Pmt_answerReply 26 = .ok (.iload_n 3, 1) := by decide +kernel
theorem dc_Pmt_answerReply_27 : decode bc_Pmt_answerReply 27 = .ok (.invokevirtual 236, 3) := by decide +kernel
theorem dc_Pmt_answerReply_30 : decode bc_Pmt_answerReply 30 = .ok (.ifCond .ne 17, 3) := by decide +kernel
theorem dc_Pmt_answerReply_33 : decode bc_Pmt_answerReply 33 = .ok (.aload_n 0, 1) := by decide +kernel
theorem dc_Pmt_answerReply_34 : decode bc_Pmt_answerReply 34 = .ok (.dup, 1) := by decide +kernel
theorem dc_Pmt_answerReply_35 : decode bc_Pmt_answerReply 35 = .ok (.getfield 33, 3) := by decide +kernel
theorem dc_Pmt_answerReply_38 : decode bc_Pmt_answerReply 38 = .ok (.sipush 1024, 3) := by decide +kernel
theorem dc_Pmt_answerReply_41 : decode bc_Pmt_answerReply 41 = .ok (.ior, 1) := by decide +kernel
theorem dc_Pmt_answerReply_42 : decode bc_Pmt_answerReply 42 = .ok (.putfield 33, 3) := by decide +kernel
theorem dc_Pmt_answerReply_45 : decode bc_Pmt_answerReply 45 = .ok (.iconst 0, 1) := by decide +kernel
theorem dc_Pmt_answerReply_46 : decode bc_Pmt_answerReply 46 = .ok (.ireturn, 1) := by decide +kernel
theorem dc_Pmt_answerReply_47 : decode bc_Pmt_answerReply 47 = .ok (.aload_n 0, 1) := by decide +kernel
theorem dc_Pmt_answerReply_48 : decode bc_Pmt_answerReply 48 = .ok (.getfield 42, 3) := by decide +kernel
theorem dc_Pmt_answerReply_51 : decode bc_Pmt_answerReply 51 = .ok (.iconst 1, 1) := by decide +kernel
theorem dc_Pmt_answerReply_52 : decode bc_Pmt_answerReply 52 = .ok (.if_icmp .ne 7, 3) := by decide +kernel
theorem dc_Pmt_answerReply_55 : decode bc_Pmt_answerReply 55 = .ok (.iconst 2, 1) := by decide +kernel
theorem dc_Pmt_answerReply_56 : decode bc_Pmt_answerReply 56 = .ok (.goto 4, 3) := by decide +kernel
theorem dc_Pmt_answerReply_59 : decode bc_Pmt_answerReply 59 = .ok (.iconst 0, 1) := by decide +kernel
theorem dc_Pmt_answerReply_60 : decode bc_Pmt_answerReply 60 = .ok (.ireturn, 1) := by decide +kernel
theorem dc_Pmt_answerAlone_0 : decode bc_Pmt_answerAlone 0 = .ok (.aload_n 0, 1) := by decide +kernel
theorem dc_Pmt_answerAlone_1 : decode bc_Pmt_answerAlone 1 = .ok (.aload_n 1, 1) := by decide +kernel
theorem dc_Pmt_answerAlone_2 : decode bc_Pmt_answerAlone 2 = .ok (.getfield 187, 3) := by decide +kernel
theorem dc_Pmt_answerAlone_5 : decode bc_Pmt_answerAlone 5 = .ok (.aload_n 2, 1) := by decide +kernel
theorem dc_Pmt_answerAlone_6 : decode bc_Pmt_answerAlone 6 = .ok (.invokevirtual 190, 3) := by decide +kernel
theorem dc_Pmt_answerAlone_9 : decode bc_Pmt_answerAlone 9 = .ok (.ior, 1) := by decide +kernel
theorem dc_Pmt_answerAlone_10 : decode bc_Pmt_answerAlone 10 = .ok (.invokevirtual 176, 3) := by decide +kernel
theorem dc_Pmt_answerAlone_13 : decode bc_Pmt_answerAlone 13 = .ok (.ifCond .ne 17, 3) := by decide +kernel
theorem dc_Pmt_answerAlone_16 : decode bc_Pmt_answerAlone 16 = .ok (.aload_n 1, 1) := by decide +kernel
theorem dc_Pmt_answerAlone_17 : decode bc_Pmt_answerAlone 17 = .ok (.invokevirtual 149, 3) := by decide +kernel
theorem dc_Pmt_answerAlone_20 : decode bc_Pmt_answerAlone 20 = .ok (.ifCond .ne 10, 3) := by decide +kernel
theorem dc_Pmt_answerAlone_23 : decode bc_Pmt_answerAlone 23 = .ok (.aload_n 1, 1) := by decide +kernel
theorem dc_Pmt_answerAlone_24 : decode bc_Pmt_answerAlone 24 = .ok (.invokevirtual 168, 3) := by decide +kernel
theorem dc_Pmt_answerAlone_27 : decode bc_Pmt_answerAlone 27 = .ok (.ifCond .eq 5, 3) := by decide +kernel
theorem dc_Pmt_answerAlone_30 : decode bc_Pmt_answerAlone 30 = .ok (.iconst 0, 1) := by decide +kernel
theorem dc_Pmt_answerAlone_31 : decode bc_Pmt_answerAlone 31 = .ok (.ireturn, 1) := by decide +kernel
theorem dc_Pmt_answerAlone_32 : decode bc_Pmt_answerAlone 32 = .ok (.aload_n 1, 1) := by decide +kernel
theorem dc_Pmt_answerAlone_33 : decode bc_Pmt_answerAlone 33 = .ok (.dup, 1) := by decide +kernel
theorem dc_Pmt_answerAlone_34 : decode bc_Pmt_answerAlone 34 = .ok (.getfield 106, 3) := by decide +kernel
theorem dc_Pmt_answerAlone_37 : decode bc_Pmt_answerAlone 37 = .ok (.iconst 1, 1) := by decide +kernel
theorem dc_Pmt_answerAlone_38 : decode bc_Pmt_answerAlone 38 = .ok (.iadd, 1) := by decide +kernel
theorem dc_Pmt_answerAlone_39 : decode bc_Pmt_answerAlone 39 = .ok (.putfield 106, 3) := by decide +kernel
theorem dc_Pmt_answerAlone_42 : decode bc_Pmt_answerAlone 42 = .ok (.iconst 2, 1) := by decide +kernel
theorem dc_Pmt_answerAlone_43 : decode bc_Pmt_answerAlone 43 = .ok (.ireturn, 1) := by decide +kernel
theorem dc_Pmt_needsReversal_0 : decode bc_Pmt_needsReversal 0 = .ok (.aload_n 0, 1) := by decide +kernel
theorem dc_Pmt_needsReversal_1 : decode bc_Pmt_needsReversal 1 = .ok (.getfield 88, 3) := by decide +kernel
theorem dc_Pmt_needsReversal_4 : decode bc_Pmt_needsReversal 4 = .ok (.iconst 1, 1) := by decide +kernel
theorem dc_Pmt_needsReversal_5 : decode bc_Pmt_needsReversal 5 = .ok (.if_icmp .ne 10, 3) := by decide +kernel
theorem dc_Pmt_needsReversal_8 : decode bc_Pmt_needsReversal 8 = .ok (.aload_n 1, 1) := by decide +kernel
theorem dc_Pmt_needsReversal_9 : decode bc_Pmt_needsReversal 9 = .ok (.invokevirtual 179, 3) := by decide +kernel
theorem dc_Pmt_needsReversal_12 : decode bc_Pmt_needsReversal 12 = .ok (.ifCond .ne 5, 3) := by decide +kernel
theorem dc_Pmt_needsReversal_15 : decode bc_Pmt_needsReversal 15 = .ok (.iconst 0, 1) := by decide +kernel
theorem dc_Pmt_needsReversal_16 : decode bc_Pmt_needsReversal 16 = .ok (.ireturn, 1) := by decide +kernel
theorem dc_Pmt_needsReversal_17 : decode bc_Pmt_needsReversal 17 = .ok (.aload_n 0, 1) := by decide +kernel
theorem dc_Pmt_needsReversal_18 : decode bc_Pmt_needsReversal 18 = .ok (.aload_n 1, 1) := by decide +kernel
theorem dc_Pmt_needsReversal_19 : decode bc_Pmt_needsReversal 19 = .ok (.invokevirtual 221, 3) := by decide +kernel
theorem dc_Pmt_needsReversal_22 : decode bc_Pmt_needsReversal 22 = .ok (.ifCond .eq 19, 3) := by decide +kernel
theorem dc_Pmt_needsReversal_25 : decode bc_Pmt_needsReversal 25 = .ok (.aload_n 0, 1) := by decide +kernel
theorem dc_Pmt_needsReversal_26 : decode bc_Pmt_needsReversal 26 = .ok (.getfield 42, 3) := by decide +kernel
theorem dc_Pmt_needsReversal_29 : decode bc_Pmt_needsReversal 29 = .ok (.iconst 1, 1) := by decide +kernel
theorem dc_Pmt_needsReversal_30 : decode bc_Pmt_needsReversal 30 = .ok (.if_icmp .ne 15, 3) := by decide +kernel
theorem dc_Pmt_needsReversal_33 : decode bc_Pmt_needsReversal 33 = .ok (.aload_n 0, 1) := by decide +kernel
theorem dc_Pmt_needsReversal_34 : decode bc_Pmt_needsReversal 34 = .ok (.getfield 109, 3) := by decide +kernel
theorem dc_Pmt_needsReversal_37 : decode bc_Pmt_needsReversal 37 = .ok (.iconst 1, 1) := by decide +kernel
theorem dc_Pmt_needsReversal_38 : decode bc_Pmt_needsReversal 38 = .ok (.if_icmp .eq 7, 3) := by decide +kernel
theorem dc_Pmt_needsReversal_41 : decode bc_Pmt_needsReversal 41 = .ok (.iconst 1, 1) := by decide +kernel
theorem dc_Pmt_needsReversal_42 : decode bc_Pmt_needsReversal 42 = .ok (.goto 4, 3) := by decide +kernel
theorem dc_Pmt_needsReversal_45 : decode bc_Pmt_needsReversal 45 = .ok (.iconst 0, 1) := by decide +kernel
theorem dc_Pmt_needsReversal_46 : decode bc_Pmt_needsReversal 46 = .ok (.ireturn, 1) := by decide +kernel
theorem dc_Pmt_tell_0 : decode bc_Pmt_tell 0 = .ok (.iload_n 1, 1) := by decide +kernel
theorem dc_Pmt_tell_1 : decode bc_Pmt_tell 1 = .ok (.tableswitch 96 0 8 #[51, 56, 61, 66, 71, 76, 81, 86, 91], 51) := by decide +kernel
theorem dc_Pmt_tell_52 : decode bc_Pmt_tell 52 = .ok (.aload_n 0, 1) := by decide +kernel
theorem dc_Pmt_tell_53 : decode bc_Pmt_tell 53 = .ok (.getfield 109, 3) := by decide +kernel
theorem dc_Pmt_tell_56 : decode bc_Pmt_tell 56 = .ok (.ireturn, 1) := by decide +kernel
theorem dc_Pmt_tell_57 : decode bc_Pmt_tell 57 = .ok (.aload_n 0, 1) := by decide +kernel
theorem dc_Pmt_tell_58 : decode bc_Pmt_tell 58 = .ok (.getfield 33, 3) := by decide +kernel
theorem dc_Pmt_tell_61 : decode bc_Pmt_tell 61 = .ok (.ireturn, 1) := by decide +kernel
theorem dc_Pmt_tell_62 : decode bc_Pmt_tell 62 = .ok (.aload_n 0, 1) := by decide +kernel
theorem dc_Pmt_tell_63 : decode bc_Pmt_tell 63 = .ok (.getfield 78, 3) := by decide +kernel
theorem dc_Pmt_tell_66 : decode bc_Pmt_tell 66 = .ok (.ireturn, 1) := by decide +kernel
theorem dc_Pmt_tell_67 : decode bc_Pmt_tell 67 = .ok (.aload_n 0, 1) := by decide +kernel
theorem dc_Pmt_tell_68 : decode bc_Pmt_tell 68 = .ok (.getfield 88, 3) := by decide +kernel
theorem dc_Pmt_tell_71 : decode bc_Pmt_tell 71 = .ok (.ireturn, 1) := by decide +kernel
theorem dc_Pmt_tell_72 : decode bc_Pmt_tell 72 = .ok (.aload_n 0, 1) := by decide +kernel
theorem dc_Pmt_tell_73 : decode bc_Pmt_tell 73 = .ok (.getfield 99, 3) := by decide +kernel
theorem dc_Pmt_tell_76 : decode bc_Pmt_tell 76 = .ok (.ireturn, 1) := by decide +kernel
theorem dc_Pmt_tell_77 : decode bc_Pmt_tell 77 = .ok (.aload_n 0, 1) := by decide +kernel
theorem dc_Pmt_tell_78 : decode bc_Pmt_tell 78 = .ok (.getfield 36, 3) := by decide +kernel
theorem dc_Pmt_tell_81 : decode bc_Pmt_tell 81 = .ok (.ireturn, 1) := by decide +kernel
theorem dc_Pmt_tell_82 : decode bc_Pmt_tell 82 = .ok (.aload_n 0, 1) := by decide +kernel
theorem dc_Pmt_tell_83 : decode bc_Pmt_tell 83 = .ok (.getfield 39, 3) := by decide +kernel
theorem dc_Pmt_tell_86 : decode bc_Pmt_tell 86 = .ok (.ireturn, 1) := by decide +kernel
theorem dc_Pmt_tell_87 : decode bc_Pmt_tell 87 = .ok (.aload_n 0, 1) := by decide +kernel
theorem dc_Pmt_tell_88 : decode bc_Pmt_tell 88 = .ok (.getfield 42, 3) := by decide +kernel
theorem dc_Pmt_tell_91 : decode bc_Pmt_tell 91 = .ok (.ireturn, 1) := by decide +kernel
theorem dc_Pmt_tell_92 : decode bc_Pmt_tell 92 = .ok (.aload_n 0, 1) := by decide +kernel
theorem dc_Pmt_tell_93 : decode bc_Pmt_tell 93 = .ok (.getfield 20, 3) := by decide +kernel
theorem dc_Pmt_tell_96 : decode bc_Pmt_tell 96 = .ok (.ireturn, 1) := by decide +kernel
theorem dc_Pmt_tell_97 : decode bc_Pmt_tell 97 = .ok (.iconst (-1), 1) := by decide +kernel
theorem dc_Pmt_tell_98 : decode bc_Pmt_tell 98 = .ok (.ireturn, 1) := by decide +kernel
theorem dc_Card_init_0 : decode bc_Card_init 0 = .ok (.aload_n 0, 1) := by decide +kernel
theorem dc_Card_init_1 : decode bc_Card_init 1 = .ok (.invokespecial 3, 3) := by decide +kernel
theorem dc_Card_init_4 : decode bc_Card_init 4 = .ok (.aload_n 0, 1) := by decide +kernel
theorem dc_Card_init_5 : decode bc_Card_init 5 = .ok (.new 9, 3) := by decide +kernel
theorem dc_Card_init_8 : decode bc_Card_init 8 = .ok (.dup, 1) := by decide +kernel
theorem dc_Card_init_9 : decode bc_Card_init 9 = .ok (.invokespecial 11, 3) := by decide +kernel
theorem dc_Card_init_12 : decode bc_Card_init 12 = .ok (.putfield 12, 3) := by decide +kernel
theorem dc_Card_init_15 : decode bc_Card_init 15 = .ok (.return_, 1) := by decide +kernel
theorem dc_Card_unfitTag_0 : decode bc_Card_unfitTag 0 = .ok (.iconst 0, 1) := by decide +kernel
theorem dc_Card_unfitTag_1 : decode bc_Card_unfitTag 1 = .ok (.istore_n 1, 1) := by decide +kernel
theorem dc_Card_unfitTag_2 : decode bc_Card_unfitTag 2 = .ok (.iload_n 1, 1) := by decide +kernel
theorem dc_Card_unfitTag_3 : decode bc_Card_unfitTag 3 = .ok (.getstatic 77, 3) := by decide +kernel
theorem dc_Card_unfitTag_6 : decode bc_Card_unfitTag 6 = .ok (.arraylength, 1) := by decide +kernel
theorem dc_Card_unfitTag_7 : decode bc_Card_unfitTag 7 = .ok (.if_icmp .ge 27, 3) := by decide +kernel
theorem dc_Card_unfitTag_10 : decode bc_Card_unfitTag 10 = .ok (.aload_n 0, 1) := by decide +kernel
theorem dc_Card_unfitTag_11 : decode bc_Card_unfitTag 11 = .ok (.getstatic 77, 3) := by decide +kernel
theorem dc_Card_unfitTag_14 : decode bc_Card_unfitTag 14 = .ok (.iload_n 1, 1) := by decide +kernel
theorem dc_Card_unfitTag_15 : decode bc_Card_unfitTag 15 = .ok (.iaload, 1) := by decide +kernel
theorem dc_Card_unfitTag_16 : decode bc_Card_unfitTag 16 = .ok (.invokevirtual 81, 3) := by decide +kernel
theorem dc_Card_unfitTag_19 : decode bc_Card_unfitTag 19 = .ok (.ifCond .ne 9, 3) := by decide +kernel
theorem dc_Card_unfitTag_22 : decode bc_Card_unfitTag 22 = .ok (.getstatic 77, 3) := by decide +kernel
theorem dc_Card_unfitTag_25 : decode bc_Card_unfitTag 25 = .ok (.iload_n 1, 1) := by decide +kernel
theorem dc_Card_unfitTag_26 : decode bc_Card_unfitTag 26 = .ok (.iaload, 1) := by decide +kernel
theorem dc_Card_unfitTag_27 : decode bc_Card_unfitTag 27 = .ok (.ireturn, 1) := by decide +kernel
theorem dc_Card_unfitTag_28 : decode bc_Card_unfitTag 28 = .ok (.iinc 1 1, 3) := by decide +kernel
theorem dc_Card_unfitTag_31 : decode bc_Card_unfitTag 31 = .ok (.goto (-29), 3) := by decide +kernel
theorem dc_Card_unfitTag_34 : decode bc_Card_unfitTag 34 = .ok (.iconst (-1), 1) := by decide +kernel
theorem dc_Card_unfitTag_35 : decode bc_Card_unfitTag 35 = .ok (.ireturn, 1) := by decide +kernel
theorem dc_Card_fits_0 : decode bc_Card_fits 0 = .ok (.aload_n 0, 1) := by decide +kernel
theorem dc_Card_fits_1 : decode bc_Card_fits 1 = .ok (.getfield 12, 3) := by decide +kernel
theorem dc_Card_fits_4 : decode bc_Card_fits 4 = .ok (.iload_n 1, 1) := by decide +kernel
theorem dc_Card_fits_5 : decode bc_Card_fits 5 = .ok (.invokevirtual 40, 3) := by decide +kernel
theorem dc_Card_fits_8 : decode bc_Card_fits 8 = .ok (.istore_n 2, 1) := by decide +kernel
theorem dc_Card_fits_9 : decode bc_Card_fits 9 = .ok (.iload_n 2, 1) := by decide +kernel
theorem dc_Card_fits_10 : decode bc_Card_fits 10 = .ok (.iconst (-1), 1) := by decide +kernel
theorem dc_Card_fits_11 : decode bc_Card_fits 11 = .ok (.if_icmp .ne 29, 3) := by decide +kernel
theorem dc_Card_fits_14 : decode bc_Card_fits 14 = .ok (.iload_n 1, 1) := by decide +kernel
theorem dc_Card_fits_15 : decode bc_Card_fits 15 = .ok (.bipush 90, 2) := by decide +kernel
theorem dc_Card_fits_17 : decode bc_Card_fits 17 = .ok (.if_icmp .eq 21, 3) := by decide +kernel
theorem dc_Card_fits_20 : decode bc_Card_fits 20 = .ok (.iload_n 1, 1) := by decide +kernel
theorem dc_Card_fits_21 : decode bc_Card_fits 21 = .ok (.sipush 140, 3) := by decide +kernel
theorem dc_Card_fits_24 : decode bc_Card_fits 24 = .ok (.if_icmp .eq 14, 3) := by decide +kernel
theorem dc_Card_fits_27 : decode bc_Card_fits 27 = .ok (.iload_n 1, 1) := by decide +kernel
theorem dc_Card_fits_28 : decode bc_Card_fits 28 = .ok (.sipush 24356, 3) := by decide +kernel
theorem dc_Card_fits_31 : decode bc_Card_fits 31 = .ok (.if_icmp .eq 7, 3) := by decide +kernel
theorem dc_Card_fits_34 : decode bc_Card_fits 34 = .ok (.iconst 1, 1) := by decide +kernel
theorem dc_Card_fits_35 : decode bc_Card_fits 35 = .ok (.goto 4, 3) := by decide +kernel
theorem dc_Card_fits_38 : decode bc_Card_fits 38 = .ok (.iconst 0, 1) := by decide +kernel
theorem dc_Card_fits_39 : decode bc_Card_fits 39 = .ok (.ireturn, 1) := by decide +kernel
theorem dc_Card_fits_40 : decode bc_Card_fits 40 = .ok (.aload_n 0, 1) := by decide +kernel
theorem dc_Card_fits_41 : decode bc_Card_fits 41 = .ok (.getfield 12, 3) := by decide +kernel
theorem dc_Card_fits_44 : decode bc_Card_fits 44 = .ok (.iload_n 2, 1) := by decide +kernel
theorem dc_Card_fits_45 : decode bc_Card_fits 45 = .ok (.invokevirtual 85, 3) := by decide +kernel
theorem dc_Card_fits_48 : decode bc_Card_fits 48 = .ok (.istore_n 3, 1) := by decide +kernel
theorem dc_Card_fits_49 : decode bc_Card_fits 49 = .ok (.iload_n 1, 1) := by decide +kernel
theorem dc_Card_fits_50 : decode bc_Card_fits 50 = .ok (.lookupswitch 114 #[(90, 50), (140, 75), (142, 81), (40724, 103), (40739, 103)], 50) := by decide +kernel
theorem dc_Card_fits_100 : decode bc_Card_fits 100 = .ok (.iload_n 3, 1) := by decide +kernel
theorem dc_Card_fits_101 : decode bc_Card_fits 101 = .ok (.iconst 1, 1) := by decide +kernel
theorem dc_Card_fits_102 : decode bc_Card_fits 102 = .ok (.if_icmp .ne 21, 3) := by decide +kernel
theorem dc_Card_fits_105 : decode bc_Card_fits 105 = .ok (.aload_n 0, 1) := by decide +kernel
theorem dc_Card_fits_106 : decode bc_Card_fits 106 = .ok (.getfield 12, 3) := by decide +kernel
theorem dc_Card_fits_109 : decode bc_Card_fits 109 = .ok (.iload_n 2, 1) := by decide +kernel
theorem dc_Card_fits_110 : decode bc_Card_fits 110 = .ok (.iconst 0, 1) := by decide +kernel
theorem dc_Card_fits_111 : decode bc_Card_fits 111 = .ok (.invokevirtual 44, 3) := by decide +kernel
theorem dc_Card_fits_114 : decode bc_Card_fits 114 = .ok (.bipush 8, 2) := by decide +kernel
theorem dc_Card_fits_116 : decode bc_Card_fits 116 = .ok (.if_icmp .ge 7, 3) := by decide +kernel
theorem dc_Card_fits_119 : decode bc_Card_fits 119 = .ok (.iconst 1, 1) := by decide +kernel
theorem dc_Card_fits_120 : decode bc_Card_fits 120 = .ok (.goto 4, 3) := by decide +kernel
theorem dc_Card_fits_123 : decode bc_Card_fits 123 = .ok (.iconst 0, 1) := by decide +kernel
theorem dc_Card_fits_124 : decode bc_Card_fits 124 = .ok (.ireturn, 1) := by decide +kernel
theorem dc_Card_fits_125 : decode bc_Card_fits 125 = .ok (.aload_n 0, 1) := by decide +kernel
theorem dc_Card_fits_126 : decode bc_Card_fits 126 = .ok (.iload_n 2, 1) := by decide +kernel
theorem dc_Card_fits_127 : decode bc_Card_fits 127 = .ok (.invokevirtual 88, 3) := by decide +kernel
theorem dc_Card_fits_130 : decode bc_Card_fits 130 = .ok (.ireturn, 1) := by decide +kernel
theorem dc_Card_fits_131 : decode bc_Card_fits 131 = .ok (.iload_n 3, 1) := by decide +kernel
theorem dc_Card_fits_132 : decode bc_Card_fits 132 = .ok (.iconst 2, 1) := by decide +kernel
theorem dc_Card_fits_133 : decode bc_Card_fits 133 = .ok (.irem, 1) := by decide +kernel
theorem dc_Card_fits_134 : decode bc_Card_fits 134 = .ok (.ifCond .ne 17, 3) := by decide +kernel
theorem dc_Card_fits_137 : decode bc_Card_fits 137 = .ok (.iload_n 3, 1) := by decide +kernel
theorem dc_Card_fits_138 : decode bc_Card_fits 138 = .ok (.iconst 2, 1) := by decide +kernel
theorem dc_Card_fits_139 : decode bc_Card_fits 139 = .ok (.bipush 12, 2) := by decide +kernel
theorem dc_Card_fits_141 : decode bc_Card_fits 141 = .ok (.invokestatic 91, 3) := by decide +kernel
theorem dc_Card_fits_144 : decode bc_Card_fits 144 = .ok (.ifCond .eq 7, 3) := by decide +kernel
theorem dc_Card_fits_147 : decode bc_Card_fits 147 = .ok (.iconst 1, 1) := by decide +kernel
theorem dc_Card_fits_148 : decode bc_Card_fits 148 = .ok (.goto 4, 3) := by decide +kernel
theorem dc_Card_fits_151 : decode bc_Card_fits 151 = .ok (.iconst 0, 1) := by decide +kernel
theorem dc_Card_fits_152 : decode bc_Card_fits 152 = .ok (.ireturn, 1) := by decide +kernel
theorem dc_Card_fits_153 : decode bc_Card_fits 153 = .ok (.iload_n 3, 1) := by decide +kernel
theorem dc_Card_fits_154 : decode bc_Card_fits 154 = .ok (.iconst 1, 1) := by decide +kernel
theorem dc_Card_fits_155 : decode bc_Card_fits 155 = .ok (.if_icmp .ne 7, 3) := by decide +kernel
theorem dc_Card_fits_158 : decode bc_Card_fits 158 = .ok (.iconst 1, 1) := by decide +kernel
theorem dc_Card_fits_159 : decode bc_Card_fits 159 = .ok (.goto 4, 3) := by decide +kernel
theorem dc_Card_fits_162 : decode bc_Card_fits 162 = .ok (.iconst 0, 1) := by decide +kernel
theorem dc_Card_fits_163 : decode bc_Card_fits 163 = .ok (.ireturn, 1) := by decide +kernel
theorem dc_Card_fits_164 : decode bc_Card_fits 164 = .ok (.iload_n 3, 1) := by decide +kernel
theorem dc_Card_fits_165 : decode bc_Card_fits 165 = .ok (.iconst 2, 1) := by decide +kernel
theorem dc_Card_fits_166 : decode bc_Card_fits 166 = .ok (.if_icmp .ne 7, 3) := by decide +kernel
theorem dc_Card_fits_169 : decode bc_Card_fits 169 = .ok (.iconst 1, 1) := by decide +kernel
theorem dc_Card_fits_170 : decode bc_Card_fits 170 = .ok (.goto 4, 3) := by decide +kernel
theorem dc_Card_fits_173 : decode bc_Card_fits 173 = .ok (.iconst 0, 1) := by decide +kernel
theorem dc_Card_fits_174 : decode bc_Card_fits 174 = .ok (.ireturn, 1) := by decide +kernel
theorem dc_Card_isList_0 : decode bc_Card_isList 0 = .ok (.iconst 0, 1) := by decide +kernel
theorem dc_Card_isList_1 : decode bc_Card_isList 1 = .ok (.istore_n 2, 1) := by decide +kernel
theorem dc_Card_isList_2 : decode bc_Card_isList 2 = .ok (.iconst 0, 1) := by decide +kernel
theorem dc_Card_isList_3 : decode bc_Card_isList 3 = .ok (.istore_n 3, 1) := by decide +kernel
theorem dc_Card_isList_4 : decode bc_Card_isList 4 = .ok (.iconst 0, 1) := by decide +kernel
theorem dc_Card_isList_5 : decode bc_Card_isList 5 = .ok (.istore 4, 2) := by decide +kernel
theorem dc_Card_isList_7 : decode bc_Card_isList 7 = .ok (.iload 4, 2) := by decide +kernel
theorem dc_Card_isList_9 : decode bc_Card_isList 9 = .ok (.bipush 8, 2) := by decide +kernel
theorem dc_Card_isList_11 : decode bc_Card_isList 11 = .ok (.if_icmp .ge 77, 3) := by decide +kernel
theorem dc_Card_isList_14 : decode bc_Card_isList 14 = .ok (.iload_n 2, 1) := by decide +kernel
theorem dc_Card_isList_15 : decode bc_Card_isList 15 = .ok (.aload_n 0, 1) := by decide +kernel
theorem dc_Card_isList_16 : decode bc_Card_isList 16 = .ok (.getfield 12, 3) := by decide +kernel
theorem dc_Card_isList_19 : decode bc_Card_isList 19 = .ok (.iload_n 1, 1) := by decide +kernel
theorem dc_Card_isList_20 : decode bc_Card_isList 20 = .ok (.invokevirtual 85, 3) := by decide +kernel
theorem dc_Card_isList_23 : decode bc_Card_isList 23 = .ok (.if_icmp .ge 65, 3) := by decide +kernel
theorem dc_Card_isList_26 : decode bc_Card_isList 26 = .ok (.aload_n 0, 1) := by decide +kernel
theorem dc_Card_isList_27 : decode bc_Card_isList 27 = .ok (.getfield 12, 3) := by decide +kernel
theorem dc_Card_isList_30 : decode bc_Card_isList 30 = .ok (.iload_n 1, 1) := by decide +kernel
theorem dc_Card_isList_31 : decode bc_Card_isList 31 = .ok (.iload_n 2, 1) := by decide +kernel
theorem dc_Card_isList_32 : decode bc_Card_isList 32 = .ok (.invokevirtual 95, 3) := by decide +kernel
theorem dc_Card_isList_35 : decode bc_Card_isList 35 = .ok (.istore 5, 2) := by decide +kernel
theorem dc_Card_isList_37 : decode bc_Card_isList 37 = .ok (.iload_n 2, 1) := by decide +kernel
theorem dc_Card_isList_38 : decode bc_Card_isList 38 = .ok (.iload 5, 2) := by decide +kernel
theorem dc_Card_isList_40 : decode bc_Card_isList 40 = .ok (.invokestatic 98, 3) := by decide +kernel
theorem dc_Card_isList_43 : decode bc_Card_isList 43 = .ok (.iadd, 1) := by decide +kernel
theorem dc_Card_isList_44 : decode bc_Card_isList 44 = .ok (.istore 6, 2) := by decide +kernel
theorem dc_Card_isList_46 : decode bc_Card_isList 46 = .ok (.aload_n 0, 1) := by decide +kernel
theorem dc_Card_isList_47 : decode bc_Card_isList 47 = .ok (.getfield 12, 3) := by decide +kernel
theorem dc_Card_isList_50 : decode bc_Card_isList 50 = .ok (.iload_n 1, 1) := by decide +kernel
theorem dc_Card_isList_51 : decode bc_Card_isList 51 = .ok (.iload 6, 2) := by decide +kernel
theorem dc_Card_isList_53 : decode bc_Card_isList 53 = .ok (.invokevirtual 44, 3) := by decide +kernel
theorem dc_Card_isList_56 : decode bc_Card_isList 56 = .ok (.istore 7, 2) := by decide +kernel
theorem dc_Card_isList_58 : decode bc_Card_isList 58 = .ok (.iload 5, 2) := by decide +kernel
theorem dc_Card_isList_60 : decode bc_Card_isList 60 = .ok (.iconst (-1), 1) := by decide +kernel
theorem dc_Card_isList_61 : decode bc_Card_isList 61 = .ok (.if_icmp .eq 9, 3) := by decide +kernel
theorem dc_Card_isList_64 : decode bc_Card_isList 64 = .ok (.iload 7, 2) := by decide +kernel
theorem dc_Card_isList_66 : decode bc_Card_isList 66 = .ok (.iconst (-1), 1) := by decide +kernel
theorem dc_Card_isList_67 : decode bc_Card_isList 67 = .ok (.if_icmp .ne 5, 3) := by decide +kernel
theorem dc_Card_isList_70 : decode bc_Card_isList 70 = .ok (.iconst 0, 1) := by decide +kernel
theorem dc_Card_isList_71 : decode bc_Card_isList 71 = .ok (.ireturn, 1) := by decide +kernel
theorem dc_Card_isList_72 : decode bc_Card_isList 72 = .ok (.iload_n 3, 1) := by decide +kernel
theorem dc_Card_isList_73 : decode bc_Card_isList 73 = .ok (.iload 7, 2) := by decide +kernel
theorem dc_Card_isList_75 : decode bc_Card_isList 75 = .ok (.iadd, 1) := by decide +kernel
theorem dc_Card_isList_76 : decode bc_Card_isList 76 = .ok (.istore_n 3, 1) := by decide +kernel
theorem dc_Card_isList_77 : decode bc_Card_isList 77 = .ok (.iload 6, 2) := by decide +kernel
theorem dc_Card_isList_79 : decode bc_Card_isList 79 = .ok (.iconst 1, 1) := by decide +kernel
theorem dc_Card_isList_80 : decode bc_Card_isList 80 = .ok (.iadd, 1) := by decide +kernel
theorem dc_Card_isList_81 : decode bc_Card_isList 81 = .ok (.istore_n 2, 1) := by decide +kernel
theorem dc_Card_isList_82 : decode bc_Card_isList 82 = .ok (.iinc 4 1, 3) := by decide +kernel
theorem dc_Card_isList_85 : decode bc_Card_isList 85 = .ok (.goto (-78), 3) := by decide +kernel
theorem dc_Card_isList_88 : decode bc_Card_isList 88 = .ok (.iload_n 2, 1) := by decide +kernel
theorem dc_Card_isList_89 : decode bc_Card_isList 89 = .ok (.aload_n 0, 1) := by decide +kernel
theorem dc_Card_isList_90 : decode bc_Card_isList 90 = .ok (.getfield 12, 3) := by decide +kernel
theorem dc_Card_isList_93 : decode bc_Card_isList 93 = .ok (.iload_n 1, 1) := by decide +kernel
theorem dc_Card_isList_94 : decode bc_Card_isList 94 = .ok (.invokevirtual 85, 3) := by decide +kernel
theorem dc_Card_isList_97 : decode bc_Card_isList 97 = .ok (.if_icmp .ne 13, 3) := by decide +kernel
theorem dc_Card_isList_100 : decode bc_Card_isList 100 = .ok (.iload_n 3, 1) := by decide +kernel
theorem dc_Card_isList_101 : decode bc_Card_isList 101 = .ok (.bipush 40, 2) := by decide +kernel
theorem dc_Card_isList_103 : decode bc_Card_isList 103 = .ok (.if_icmp .gt 7, 3) := by decide +kernel
theorem dc_Card_isList_106 : decode bc_Card_isList 106 = .ok (.iconst 1, 1) := by decide +kernel
theorem dc_Card_isList_107 : decode bc_Card_isList 107 = .ok (.goto 4, 3) := by decide +kernel
theorem dc_Card_isList_110 : decode bc_Card_isList 110 = .ok (.iconst 0, 1) := by decide +kernel
theorem dc_Card_isList_111 : decode bc_Card_isList 111 = .ok (.ireturn, 1) := by decide +kernel
theorem dc_Card_reset_0 : decode bc_Card_reset 0 = .ok (.aload_n 0, 1) := by decide +kernel
theorem dc_Card_reset_1 : decode bc_Card_reset 1 = .ok (.iload_n 1, 1) := by decide +kernel
theorem dc_Card_reset_2 : decode bc_Card_reset 2 = .ok (.putfield 18, 3) := by decide +kernel
theorem dc_Card_reset_5 : decode bc_Card_reset 5 = .ok (.aload_n 0, 1) := by decide +kernel
theorem dc_Card_reset_6 : decode bc_Card_reset 6 = .ok (.iload_n 2, 1) := by decide +kernel
theorem dc_Card_reset_7 : decode bc_Card_reset 7 = .ok (.putfield 22, 3) := by decide +kernel
theorem dc_Card_reset_10 : decode bc_Card_reset 10 = .ok (.aload_n 0, 1) := by decide +kernel
theorem dc_Card_reset_11 : decode bc_Card_reset 11 = .ok (.iconst 3, 1) := by decide +kernel
theorem dc_Card_reset_12 : decode bc_Card_reset 12 = .ok (.putfield 25, 3) := by decide +kernel
theorem dc_Card_reset_15 : decode bc_Card_reset 15 = .ok (.aload_n 0, 1) := by decide +kernel
theorem dc_Card_reset_16 : decode bc_Card_reset 16 = .ok (.iconst 0, 1) := by decide +kernel
theorem dc_Card_reset_17 : decode bc_Card_reset 17 = .ok (.putfield 28, 3) := by decide +kernel
theorem dc_Card_reset_20 : decode bc_Card_reset 20 = .ok (.aload_n 0, 1) := by decide +kernel
theorem dc_Card_reset_21 : decode bc_Card_reset 21 = .ok (.iconst 0, 1) := by decide +kernel
theorem dc_Card_reset_22 : decode bc_Card_reset 22 = .ok (.putfield 31, 3) := by decide +kernel
theorem dc_Card_reset_25 : decode bc_Card_reset 25 = .ok (.aload_n 0, 1) := by decide +kernel
theorem dc_Card_reset_26 : decode bc_Card_reset 26 = .ok (.iconst 0, 1) := by decide +kernel
theorem dc_Card_reset_27 : decode bc_Card_reset 27 = .ok (.putfield 34, 3) := by decide +kernel
theorem dc_Card_reset_30 : decode bc_Card_reset 30 = .ok (.aload_n 0, 1) := by decide +kernel
theorem dc_Card_reset_31 : decode bc_Card_reset 31 = .ok (.aload_n 0, 1) := by decide +kernel
theorem dc_Card_reset_32 : decode bc_Card_reset 32 = .ok (.getfield 12, 3) := by decide +kernel
theorem dc_Card_reset_35 : decode bc_Card_reset 35 = .ok (.aload_n 0, 1) := by decide +kernel
theorem dc_Card_reset_36 : decode bc_Card_reset 36 = .ok (.getfield 12, 3) := by decide +kernel
theorem dc_Card_reset_39 : decode bc_Card_reset 39 = .ok (.bipush 90, 2) := by decide +kernel
theorem dc_Card_reset_41 : decode bc_Card_reset 41 = .ok (.invokevirtual 40, 3) := by decide +kernel
theorem dc_Card_reset_44 : decode bc_Card_reset 44 = .ok (.iconst 0, 1) := by decide +kernel
theorem dc_Card_reset_45 : decode bc_Card_reset 45 = .ok (.invokevirtual 44, 3) := by decide +kernel
theorem dc_Card_reset_48 : decode bc_Card_reset 48 = .ok (.putfield 48, 3) := by decide +kernel
theorem dc_Card_reset_51 : decode bc_Card_reset 51 = .ok (.aload_n 0, 1) := by decide +kernel
theorem dc_Card_reset_52 : decode bc_Card_reset 52 = .ok (.aload_n 0, 1) := by decide +kernel
theorem dc_Card_reset_53 : decode bc_Card_reset 53 = .ok (.getfield 12, 3) := by decide +kernel
theorem dc_Card_reset_56 : decode bc_Card_reset 56 = .ok (.aload_n 0, 1) := by decide +kernel
theorem dc_Card_reset_57 : decode bc_Card_reset 57 = .ok (.getfield 12, 3) := by decide +kernel
theorem dc_Card_reset_60 : decode bc_Card_reset 60 = .ok (.sipush 24356, 3) := by decide +kernel
theorem dc_Card_reset_63 : decode bc_Card_reset 63 = .ok (.invokevirtual 40, 3) := by decide +kernel
theorem dc_Card_reset_66 : decode bc_Card_reset 66 = .ok (.invokevirtual 51, 3) := by decide +kernel
theorem dc_Card_reset_69 : decode bc_Card_reset 69 = .ok (.putfield 54, 3) := by decide +kernel
theorem dc_Card_reset_72 : decode bc_Card_reset 72 = .ok (.aload_n 0, 1) := by decide +kernel
theorem dc_Card_reset_73 : decode bc_Card_reset 73 = .ok (.aload_n 0, 1) := by decide +kernel
theorem dc_Card_reset_74 : decode bc_Card_reset 74 = .ok (.getfield 12, 3) := by decide +kernel
theorem dc_Card_reset_77 : decode bc_Card_reset 77 = .ok (.aload_n 0, 1) := by decide +kernel
theorem dc_Card_reset_78 : decode bc_Card_reset 78 = .ok (.getfield 12, 3) := by decide +kernel
theorem dc_Card_reset_81 : decode bc_Card_reset 81 = .ok (.ldc 57, 2) := by decide +kernel
theorem dc_Card_reset_83 : decode bc_Card_reset 83 = .ok (.invokevirtual 40, 3) := by decide +kernel
theorem dc_Card_reset_86 : decode bc_Card_reset 86 = .ok (.invokevirtual 51, 3) := by decide +kernel
theorem dc_Card_reset_89 : decode bc_Card_reset 89 = .ok (.putfield 58, 3) := by decide +kernel
theorem dc_Card_reset_92 : decode bc_Card_reset 92 = .ok (.aload_n 0, 1) := by decide +kernel
theorem dc_Card_reset_93 : decode bc_Card_reset 93 = .ok (.aload_n 0, 1) := by decide +kernel
theorem dc_Card_reset_94 : decode bc_Card_reset 94 = .ok (.getfield 12, 3) := by decide +kernel
theorem dc_Card_reset_97 : decode bc_Card_reset 97 = .ok (.aload_n 0, 1) := by decide +kernel
theorem dc_Card_reset_98 : decode bc_Card_reset 98 = .ok (.getfield 12, 3) := by decide +kernel
theorem dc_Card_reset_101 : decode bc_Card_reset 101 = .ok (.ldc 61, 2) := by decide +kernel
theorem dc_Card_reset_103 : decode bc_Card_reset 103 = .ok (.invokevirtual 40, 3) := by decide +kernel
theorem dc_Card_reset_106 : decode bc_Card_reset 106 = .ok (.invokevirtual 51, 3) := by decide +kernel
theorem dc_Card_reset_109 : decode bc_Card_reset 109 = .ok (.putfield 62, 3) := by decide +kernel
theorem dc_Card_reset_112 : decode bc_Card_reset 112 = .ok (.aload_n 0, 1) := by decide +kernel
theorem dc_Card_reset_113 : decode bc_Card_reset 113 = .ok (.aload_n 0, 1) := by decide +kernel
theorem dc_Card_reset_114 : decode bc_Card_reset 114 = .ok (.getfield 12, 3) := by decide +kernel
theorem dc_Card_reset_117 : decode bc_Card_reset 117 = .ok (.aload_n 0, 1) := by decide +kernel
theorem dc_Card_reset_118 : decode bc_Card_reset 118 = .ok (.getfield 12, 3) := by decide +kernel
theorem dc_Card_reset_121 : decode bc_Card_reset 121 = .ok (.ldc 65, 2) := by decide +kernel
theorem dc_Card_reset_123 : decode bc_Card_reset 123 = .ok (.invokevirtual 40, 3) := by decide +kernel
theorem dc_Card_reset_126 : decode bc_Card_reset 126 = .ok (.invokevirtual 51, 3) := by decide +kernel
theorem dc_Card_reset_129 : decode bc_Card_reset 129 = .ok (.putfield 66, 3) := by decide +kernel
theorem dc_Card_reset_132 : decode bc_Card_reset 132 = .ok (.aload_n 0, 1) := by decide +kernel
theorem dc_Card_reset_133 : decode bc_Card_reset 133 = .ok (.aload_n 0, 1) := by decide +kernel
theorem dc_Card_reset_134 : decode bc_Card_reset 134 = .ok (.getfield 12, 3) := by decide +kernel
theorem dc_Card_reset_137 : decode bc_Card_reset 137 = .ok (.aload_n 0, 1) := by decide +kernel
theorem dc_Card_reset_138 : decode bc_Card_reset 138 = .ok (.getfield 12, 3) := by decide +kernel
theorem dc_Card_reset_141 : decode bc_Card_reset 141 = .ok (.ldc 69, 2) := by decide +kernel
theorem dc_Card_reset_143 : decode bc_Card_reset 143 = .ok (.invokevirtual 40, 3) := by decide +kernel
theorem dc_Card_reset_146 : decode bc_Card_reset 146 = .ok (.iconst 0, 1) := by decide +kernel
theorem dc_Card_reset_147 : decode bc_Card_reset 147 = .ok (.invokevirtual 44, 3) := by decide +kernel
theorem dc_Card_reset_150 : decode bc_Card_reset 150 = .ok (.putfield 70, 3) := by decide +kernel
theorem dc_Card_reset_153 : decode bc_Card_reset 153 = .ok (.aload_n 0, 1) := by decide +kernel
theorem dc_Card_reset_154 : decode bc_Card_reset 154 = .ok (.aload_n 0, 1) := by decide +kernel
theorem dc_Card_reset_155 : decode bc_Card_reset 155 = .ok (.getfield 12, 3) := by decide +kernel
theorem dc_Card_reset_158 : decode bc_Card_reset 158 = .ok (.aload_n 0, 1) := by decide +kernel
theorem dc_Card_reset_159 : decode bc_Card_reset 159 = .ok (.getfield 12, 3) := by decide +kernel
theorem dc_Card_reset_162 : decode bc_Card_reset 162 = .ok (.ldc 73, 2) := by decide +kernel
theorem dc_Card_reset_164 : decode bc_Card_reset 164 = .ok (.invokevirtual 40, 3) := by decide +kernel
theorem dc_Card_reset_167 : decode bc_Card_reset 167 = .ok (.iconst 0, 1) := by decide +kernel
theorem dc_Card_reset_168 : decode bc_Card_reset 168 = .ok (.invokevirtual 44, 3) := by decide +kernel
theorem dc_Card_reset_171 : decode bc_Card_reset 171 = .ok (.putfield 74, 3) := by decide +kernel
theorem dc_Card_reset_174 : decode bc_Card_reset 174 = .ok (.return_, 1) := by decide +kernel
theorem dc_Card_isBlocked_0 : decode bc_Card_isBlocked 0 = .ok (.aload_n 0, 1) := by decide +kernel
theorem dc_Card_isBlocked_1 : decode bc_Card_isBlocked 1 = .ok (.getfield 25, 3) := by decide +kernel
theorem dc_Card_isBlocked_4 : decode bc_Card_isBlocked 4 = .ok (.ifCond .ne 7, 3) := by decide +kernel
theorem dc_Card_isBlocked_7 : decode bc_Card_isBlocked 7 = .ok (.iconst 1, 1) := by decide +kernel
theorem dc_Card_isBlocked_8 : decode bc_Card_isBlocked 8 = .ok (.goto 4, 3) := by decide +kernel
theorem dc_Card_isBlocked_11 : decode bc_Card_isBlocked 11 = .ok (.iconst 0, 1) := by decide +kernel
theorem dc_Card_isBlocked_12 : decode bc_Card_isBlocked 12 = .ok (.ireturn, 1) := by decide +kernel
theorem dc_Card_acceptsPin_0 : decode bc_Card_acceptsPin 0 = .ok (.iload_n 1, 1) := by decide +kernel
theorem dc_Card_acceptsPin_1 : decode bc_Card_acceptsPin 1 = .ok (.aload_n 0, 1) := by decide +kernel
theorem dc_Card_acceptsPin_2 : decode bc_Card_acceptsPin 2 = .ok (.getfield 22, 3) := by decide +kernel
theorem dc_Card_acceptsPin_5 : decode bc_Card_acceptsPin 5 = .ok (.if_icmp .ne 10, 3) := by decide +kernel
theorem dc_Card_acceptsPin_8 : decode bc_Card_acceptsPin 8 = .ok (.aload_n 0, 1) := by decide +kernel
theorem dc_Card_acceptsPin_9 : decode bc_Card_acceptsPin 9 = .ok (.iconst 3, 1) := by decide +kernel
theorem dc_Card_acceptsPin_10 : decode bc_Card_acceptsPin 10 = .ok (.putfield 25, 3) := by decide +kernel
theorem dc_Card_acceptsPin_13 : decode bc_Card_acceptsPin 13 = .ok (.iconst 1, 1) := by decide +kernel
theorem dc_Card_acceptsPin_14 : decode bc_Card_acceptsPin 14 = .ok (.ireturn, 1) := by decide +kernel
theorem dc_Card_acceptsPin_15 : decode bc_Card_acceptsPin 15 = .ok (.aload_n 0, 1) := by decide +kernel
theorem dc_Card_acceptsPin_16 : decode bc_Card_acceptsPin 16 = .ok (.dup, 1) := by decide +kernel
theorem dc_Card_acceptsPin_17 : decode bc_Card_acceptsPin 17 = .ok (.getfield 25, 3) := by decide +kernel
theorem dc_Card_acceptsPin_20 : decode bc_Card_acceptsPin 20 = .ok (.iconst 1, 1) := by decide +kernel
theorem dc_Card_acceptsPin_21 : decode bc_Card_acceptsPin 21 = .ok (.isub, 1) := by decide +kernel
theorem dc_Card_acceptsPin_22 : decode bc_Card_acceptsPin 22 = .ok (.putfield 25, 3) := by decide +kernel
theorem dc_Card_acceptsPin_25 : decode bc_Card_acceptsPin 25 = .ok (.iconst 0, 1) := by decide +kernel
theorem dc_Card_acceptsPin_26 : decode bc_Card_acceptsPin 26 = .ok (.ireturn, 1) := by decide +kernel
theorem dc_Card_isRunAtLower_0 : decode bc_Card_isRunAtLower 0 = .ok (.aload_n 0, 1) := by decide +kernel
theorem dc_Card_isRunAtLower_1 : decode bc_Card_isRunAtLower 1 = .ok (.getfield 70, 3) := by decide +kernel
theorem dc_Card_isRunAtLower_4 : decode bc_Card_isRunAtLower 4 = .ok (.iconst (-1), 1) := by decide +kernel
theorem dc_Card_isRunAtLower_5 : decode bc_Card_isRunAtLower 5 = .ok (.if_icmp .eq 18, 3) := by decide +kernel
theorem dc_Card_isRunAtLower_8 : decode bc_Card_isRunAtLower 8 = .ok (.aload_n 0, 1) := by decide +kernel
theorem dc_Card_isRunAtLower_9 : decode bc_Card_isRunAtLower 9 = .ok (.getfield 31, 3) := by decide +kernel
theorem dc_Card_isRunAtLower_12 : decode bc_Card_isRunAtLower 12 = .ok (.aload_n 0, 1) := by decide +kernel
theorem dc_Card_isRunAtLower_13 : decode bc_Card_isRunAtLower 13 = .ok (.getfield 70, 3) := by decide +kernel
theorem dc_Card_isRunAtLower_16 : decode bc_Card_isRunAtLower 16 = .ok (.if_icmp .lt 7, 3) := by decide +kernel
theorem dc_Card_isRunAtLower_19 : decode bc_Card_isRunAtLower 19 = .ok (.iconst 1, 1) := by decide +kernel
theorem dc_Card_isRunAtLower_20 : decode bc_Card_isRunAtLower 20 = .ok (.goto 4, 3) := by decide +kernel
theorem dc_Card_isRunAtLower_23 : decode bc_Card_isRunAtLower 23 = .ok (.iconst 0, 1) := by decide +kernel
theorem dc_Card_isRunAtLower_24 : decode bc_Card_isRunAtLower 24 = .ok (.ireturn, 1) := by decide +kernel
theorem dc_Card_isRunAtUpper_0 : decode bc_Card_isRunAtUpper 0 = .ok (.aload_n 0, 1) := by decide +kernel
theorem dc_Card_isRunAtUpper_1 : decode bc_Card_isRunAtUpper 1 = .ok (.getfield 74, 3) := by decide +kernel
theorem dc_Card_isRunAtUpper_4 : decode bc_Card_isRunAtUpper 4 = .ok (.iconst (-1), 1) := by decide +kernel
theorem dc_Card_isRunAtUpper_5 : decode bc_Card_isRunAtUpper 5 = .ok (.if_icmp .eq 18, 3) := by decide +kernel
theorem dc_Card_isRunAtUpper_8 : decode bc_Card_isRunAtUpper 8 = .ok (.aload_n 0, 1) := by decide +kernel
theorem dc_Card_isRunAtUpper_9 : decode bc_Card_isRunAtUpper 9 = .ok (.getfield 31, 3) := by decide +kernel
theorem dc_Card_isRunAtUpper_12 : decode bc_Card_isRunAtUpper 12 = .ok (.aload_n 0, 1) := by decide +kernel
theorem dc_Card_isRunAtUpper_13 : decode bc_Card_isRunAtUpper 13 = .ok (.getfield 74, 3) := by decide +kernel
theorem dc_Card_isRunAtUpper_16 : decode bc_Card_isRunAtUpper 16 = .ok (.if_icmp .lt 7, 3) := by decide +kernel
theorem dc_Card_isRunAtUpper_19 : decode bc_Card_isRunAtUpper 19 = .ok (.iconst 1, 1) := by decide +kernel
theorem dc_Card_isRunAtUpper_20 : decode bc_Card_isRunAtUpper 20 = .ok (.goto 4, 3) := by decide +kernel
theorem dc_Card_isRunAtUpper_23 : decode bc_Card_isRunAtUpper 23 = .ok (.iconst 0, 1) := by decide +kernel
theorem dc_Card_isRunAtUpper_24 : decode bc_Card_isRunAtUpper 24 = .ok (.ireturn, 1) := by decide +kernel
theorem dc_Card_firstAnswer_0 : decode bc_Card_firstAnswer 0 = .ok (.iload_n 1, 1) := by decide +kernel
theorem dc_Card_firstAnswer_1 : decode bc_Card_firstAnswer 1 = .ok (.ifCond .eq 10, 3) := by decide +kernel
theorem dc_Card_firstAnswer_4 : decode bc_Card_firstAnswer 4 = .ok (.aload_n 0, 1) := by decide +kernel
theorem dc_Card_firstAnswer_5 : decode bc_Card_firstAnswer 5 = .ok (.invokevirtual 105, 3) := by decide +kernel
theorem dc_Card_firstAnswer_8 : decode bc_Card_firstAnswer 8 = .ok (.ifCond .eq 5, 3) := by decide +kernel
theorem dc_Card_firstAnswer_11 : decode bc_Card_firstAnswer 11 = .ok (.iconst 0, 1) := by decide +kernel
theorem dc_Card_firstAnswer_12 : decode bc_Card_firstAnswer 12 = .ok (.ireturn, 1) := by decide +kernel
theorem dc_Card_firstAnswer_13 : decode bc_Card_firstAnswer 13 = .ok (.iload_n 1, 1) := by decide +kernel
theorem dc_Card_firstAnswer_14 : decode bc_Card_firstAnswer 14 = .ok (.iconst 1, 1) := by decide +kernel
theorem dc_Card_firstAnswer_15 : decode bc_Card_firstAnswer 15 = .ok (.if_icmp .eq 10, 3) := by decide +kernel
theorem dc_Card_firstAnswer_18 : decode bc_Card_firstAnswer 18 = .ok (.aload_n 0, 1) := by decide +kernel
theorem dc_Card_firstAnswer_19 : decode bc_Card_firstAnswer 19 = .ok (.invokevirtual 109, 3) := by decide +kernel
theorem dc_Card_firstAnswer_22 : decode bc_Card_firstAnswer 22 = .ok (.ifCond .eq 7, 3) := by decide +kernel
theorem dc_Card_firstAnswer_25 : decode bc_Card_firstAnswer 25 = .ok (.iconst 1, 1) := by decide +kernel
theorem dc_Card_firstAnswer_26 : decode bc_Card_firstAnswer 26 = .ok (.goto 4, 3) := by decide +kernel
theorem dc_Card_firstAnswer_29 : decode bc_Card_firstAnswer 29 = .ok (.iconst 2, 1) := by decide +kernel
theorem dc_Card_firstAnswer_30 : decode bc_Card_firstAnswer 30 = .ok (.ireturn, 1) := by decide +kernel
theorem dc_Card_acceptsReply_0 : decode bc_Card_acceptsReply 0 = .ok (.aload_n 0, 1) := by decide +kernel
theorem dc_Card_acceptsReply_1 : decode bc_Card_acceptsReply 1 = .ok (.getfield 18, 3) := by decide +kernel
theorem dc_Card_acceptsReply_4 : decode bc_Card_acceptsReply 4 = .ok (.iload_n 1, 1) := by decide +kernel
theorem dc_Card_acceptsReply_5 : decode bc_Card_acceptsReply 5 = .ok (.iload_n 2, 1) := by decide +kernel
theorem dc_Card_acceptsReply_6 : decode bc_Card_acceptsReply 6 = .ok (.invokestatic 112, 3) := by decide +kernel
theorem dc_Card_acceptsReply_9 : decode bc_Card_acceptsReply 9 = .ok (.iload_n 3, 1) := by decide +kernel
theorem dc_Card_acceptsReply_10 : decode bc_Card_acceptsReply 10 = .ok (.if_icmp .eq 5, 3) := by decide +kernel
theorem dc_Card_acceptsReply_13 : decode bc_Card_acceptsReply 13 = .ok (.iconst 0, 1) := by decide +kernel
theorem dc_Card_acceptsReply_14 : decode bc_Card_acceptsReply 14 = .ok (.ireturn, 1) := by decide +kernel
theorem dc_Card_acceptsReply_15 : decode bc_Card_acceptsReply 15 = .ok (.aload_n 0, 1) := by decide +kernel
theorem dc_Card_acceptsReply_16 : decode bc_Card_acceptsReply 16 = .ok (.iconst 0, 1) := by decide +kernel
theorem dc_Card_acceptsReply_17 : decode bc_Card_acceptsReply 17 = .ok (.putfield 31, 3) := by decide +kernel
theorem dc_Card_acceptsReply_20 : decode bc_Card_acceptsReply 20 = .ok (.aload_n 0, 1) := by decide +kernel
theorem dc_Card_acceptsReply_21 : decode bc_Card_acceptsReply 21 = .ok (.iconst 1, 1) := by decide +kernel
theorem dc_Card_acceptsReply_22 : decode bc_Card_acceptsReply 22 = .ok (.putfield 34, 3) := by decide +kernel
theorem dc_Card_acceptsReply_25 : decode bc_Card_acceptsReply 25 = .ok (.iconst 1, 1) := by decide +kernel
theorem dc_Card_acceptsReply_26 : decode bc_Card_acceptsReply 26 = .ok (.ireturn, 1) := by decide +kernel
theorem dc_Card_tell_0 : decode bc_Card_tell 0 = .ok (.iload_n 1, 1) := by decide +kernel
theorem dc_Card_tell_1 : decode bc_Card_tell 1 = .ok (.tableswitch 80 0 5 #[39, 44, 49, 54, 67, 75], 39) := by decide +kernel
theorem dc_Card_tell_40 : decode bc_Card_tell 40 = .ok (.aload_n 0, 1) := by decide +kernel
theorem dc_Card_tell_41 : decode bc_Card_tell 41 = .ok (.getfield 25, 3) := by decide +kernel
theorem dc_Card_tell_44 : decode bc_Card_tell 44 = .ok (.ireturn, 1) := by decide +kernel
theorem dc_Card_tell_45 : decode bc_Card_tell 45 = .ok (.aload_n 0, 1) := by decide +kernel
theorem dc_Card_tell_46 : decode bc_Card_tell 46 = .ok (.getfield 28, 3) := by decide +kernel
theorem dc_Card_tell_49 : decode bc_Card_tell 49 = .ok (.ireturn, 1) := by decide +kernel
theorem dc_Card_tell_50 : decode bc_Card_tell 50 = .ok (.aload_n 0, 1) := by decide +kernel
theorem dc_Card_tell_51 : decode bc_Card_tell 51 = .ok (.getfield 31, 3) := by decide +kernel
theorem dc_Card_tell_54 : decode bc_Card_tell 54 = .ok (.ireturn, 1) := by decide +kernel
theorem dc_Card_tell_55 : decode bc_Card_tell 55 = .ok (.aload_n 0, 1) := by decide +kernel
theorem dc_Card_tell_56 : decode bc_Card_tell 56 = .ok (.getfield 34, 3) := by decide +kernel
theorem dc_Card_tell_59 : decode bc_Card_tell 59 = .ok (.ifCond .eq 7, 3) := by decide +kernel
theorem dc_Card_tell_62 : decode bc_Card_tell 62 = .ok (.iconst 1, 1) := by decide +kernel
theorem dc_Card_tell_63 : decode bc_Card_tell 63 = .ok (.goto 4, 3) := by decide +kernel
theorem dc_Card_tell_66 : decode bc_Card_tell 66 = .ok (.iconst 0, 1) := by decide +kernel
theorem dc_Card_tell_67 : decode bc_Card_tell 67 = .ok (.ireturn, 1) := by decide +kernel
theorem dc_Card_tell_68 : decode bc_Card_tell 68 = .ok (.aload_n 0, 1) := by decide +kernel
theorem dc_Card_tell_69 : decode bc_Card_tell 69 = .ok (.getfield 12, 3) := by decide +kernel
theorem dc_Card_tell_72 : decode bc_Card_tell 72 = .ok (.invokevirtual 101, 3) := by decide +kernel
theorem dc_Card_tell_75 : decode bc_Card_tell 75 = .ok (.ireturn, 1) := by decide +kernel
theorem dc_Card_tell_76 : decode bc_Card_tell 76 = .ok (.aload_n 0, 1) := by decide +kernel
theorem dc_Card_tell_77 : decode bc_Card_tell 77 = .ok (.getfield 48, 3) := by decide +kernel
theorem dc_Card_tell_80 : decode bc_Card_tell 80 = .ok (.ireturn, 1) := by decide +kernel
theorem dc_Card_tell_81 : decode bc_Card_tell 81 = .ok (.iconst (-1), 1) := by decide +kernel
theorem dc_Card_tell_82 : decode bc_Card_tell 82 = .ok (.ireturn, 1) := by decide +kernel
theorem dc_Tree_init_0 : decode bc_Tree_init 0 = .ok (.aload_n 0, 1) := by decide +kernel
theorem dc_Tree_init_1 : decode bc_Tree_init 1 = .ok (.invokespecial 3, 3) := by decide +kernel
theorem dc_Tree_init_4 : decode bc_Tree_init 4 = .ok (.aload_n 0, 1) := by decide +kernel
theorem dc_Tree_init_5 : decode bc_Tree_init 5 = .ok (.new 9, 3) := by decide +kernel
theorem dc_Tree_init_8 : decode bc_Tree_init 8 = .ok (.dup, 1) := by decide +kernel
theorem dc_Tree_init_9 : decode bc_Tree_init 9 = .ok (.bipush 60, 2) := by decide +kernel
theorem dc_Tree_init_11 : decode bc_Tree_init 11 = .ok (.invokespecial 11, 3) := by decide +kernel
theorem dc_Tree_init_14 : decode bc_Tree_init 14 = .ok (.putfield 14, 3) := by decide +kernel
theorem dc_Tree_init_17 : decode bc_Tree_init 17 = .ok (.aload_n 0, 1) := by decide +kernel
theorem dc_Tree_init_18 : decode bc_Tree_init 18 = .ok (.bipush 30, 2) := by decide +kernel
theorem dc_Tree_init_20 : decode bc_Tree_init 20 = .ok (.newarray .int, 2) := by decide +kernel
theorem dc_Tree_init_22 : decode bc_Tree_init 22 = .ok (.putfield 20, 3) := by decide +kernel
theorem dc_Tree_init_25 : decode bc_Tree_init 25 = .ok (.aload_n 0, 1) := by decide +kernel
theorem dc_Tree_init_26 : decode bc_Tree_init 26 = .ok (.bipush 30, 2) := by decide +kernel
theorem dc_Tree_init_28 : decode bc_Tree_init 28 = .ok (.newarray .int, 2) := by decide +kernel
theorem dc_Tree_init_30 : decode bc_Tree_init 30 = .ok (.putfield 24, 3) := by decide +kernel
theorem dc_Tree_init_33 : decode bc_Tree_init 33 = .ok (.aload_n 0, 1) := by decide +kernel
theorem dc_Tree_init_34 : decode bc_Tree_init 34 = .ok (.bipush 30, 2) := by decide +kernel
theorem dc_Tree_init_36 : decode bc_Tree_init 36 = .ok (.newarray .int, 2) := by decide +kernel
theorem dc_Tree_init_38 : decode bc_Tree_init 38 = .ok (.putfield 27, 3) := by decide +kernel
theorem dc_Tree_init_41 : decode bc_Tree_init 41 = .ok (.aload_n 0, 1) := by decide +kernel
theorem dc_Tree_init_42 : decode bc_Tree_init 42 = .ok (.bipush 30, 2) := by decide +kernel
theorem dc_Tree_init_44 : decode bc_Tree_init 44 = .ok (.newarray .int, 2) := by decide +kernel
theorem dc_Tree_init_46 : decode bc_Tree_init 46 = .ok (.putfield 30, 3) := by decide +kernel
theorem dc_Tree_init_49 : decode bc_Tree_init 49 = .ok (.return_, 1) := by decide +kernel
theorem dc_Tree_read_0 : decode bc_Tree_read 0 = .ok (.aload_n 0, 1) := by decide +kernel
theorem dc_Tree_read_1 : decode bc_Tree_read 1 = .ok (.getfield 14, 3) := by decide +kernel
theorem dc_Tree_read_4 : decode bc_Tree_read 4 = .ok (.aload_n 1, 1) := by decide +kernel
theorem dc_Tree_read_5 : decode bc_Tree_read 5 = .ok (.invokevirtual 33, 3) := by decide +kernel
theorem dc_Tree_read_8 : decode bc_Tree_read 8 = .ok (.aload_n 0, 1) := by decide +kernel
theorem dc_Tree_read_9 : decode bc_Tree_read 9 = .ok (.iconst 0, 1) := by decide +kernel
theorem dc_Tree_read_10 : decode bc_Tree_read 10 = .ok (.putfield 37, 3) := by decide +kernel
theorem dc_Tree_read_13 : decode bc_Tree_read 13 = .ok (.aload_n 0, 1) := by decide +kernel
theorem dc_Tree_read_14 : decode bc_Tree_read 14 = .ok (.iconst 0, 1) := by decide +kernel
theorem dc_Tree_read_15 : decode bc_Tree_read 15 = .ok (.aload_n 0, 1) := by decide +kernel
theorem dc_Tree_read_16 : decode bc_Tree_read 16 = .ok (.getfield 14, 3) := by decide +kernel
theorem dc_Tree_read_19 : decode bc_Tree_read 19 = .ok (.invokevirtual 41, 3) := by decide +kernel
theorem dc_Tree_read_22 : decode bc_Tree_read 22 = .ok (.iconst (-1), 1) := by decide +kernel
theorem dc_Tree_read_23 : decode bc_Tree_read 23 = .ok (.iconst 0, 1) := by decide +kernel
theorem dc_Tree_read_24 : decode bc_Tree_read 24 = .ok (.invokevirtual 45, 3) := by decide +kernel
theorem dc_Tree_read_27 : decode bc_Tree_read 27 = .ok (.ireturn, 1) := by decide +kernel
theorem dc_Tree_cut_0 : decode bc_Tree_cut 0 = .ok (.iload 4, 2) := by decide +kernel
theorem dc_Tree_cut_2 : decode bc_Tree_cut 2 = .ok (.iconst 3, 1) := by decide +kernel
theorem dc_Tree_cut_3 : decode bc_Tree_cut 3 = .ok (.if_icmp .le 14, 3) := by decide +kernel
theorem dc_Tree_cut_6 : decode bc_Tree_cut 6 = .ok (.iload_n 1, 1) := by decide +kernel
theorem dc_Tree_cut_7 : decode bc_Tree_cut 7 = .ok (.iload_n 2, 1) := by decide +kernel
theorem dc_Tree_cut_8 : decode bc_Tree_cut 8 = .ok (.if_icmp .ge 7, 3) := by decide +kernel
theorem dc_Tree_cut_11 : decode bc_Tree_cut 11 = .ok (.iload_n 1, 1) := by decide +kernel
theorem dc_Tree_cut_12 : decode bc_Tree_cut 12 = .ok (.goto 4, 3) := by decide +kernel
theorem dc_Tree_cut_15 : decode bc_Tree_cut 15 = .ok (.iconst (-1), 1) := by decide +kernel
theorem dc_Tree_cut_16 : decode bc_Tree_cut 16 = .ok (.ireturn, 1) := by decide +kernel
theorem dc_Tree_cut_17 : decode bc_Tree_cut 17 = .ok (.iload_n 1, 1) := by decide +kernel
theorem dc_Tree_cut_18 : decode bc_Tree_cut 18 = .ok (.istore 5, 2) := by decide +kernel
theorem dc_Tree_cut_20 : decode bc_Tree_cut 20 = .ok (.iconst 0, 1) := by decide +kernel
theorem dc_Tree_cut_21 : decode bc_Tree_cut 21 = .ok (.istore 6, 2) := by decide +kernel
theorem dc_Tree_cut_23 : decode bc_Tree_cut 23 = .ok (.iload 6, 2) := by decide +kernel
theorem dc_Tree_cut_25 : decode bc_Tree_cut 25 = .ok (.bipush 30, 2) := by decide +kernel
theorem dc_Tree_cut_27 : decode bc_Tree_cut 27 = .ok (.if_icmp .ge 154, 3) := by decide +kernel
theorem dc_Tree_cut_30 : decode bc_Tree_cut 30 = .ok (.iload 5, 2) := by decide +kernel
theorem dc_Tree_cut_32 : decode bc_Tree_cut 32 = .ok (.iload_n 2, 1) := by decide +kernel
theorem dc_Tree_cut_33 : decode bc_Tree_cut 33 = .ok (.if_icmp .ge 148, 3) := by decide +kernel
theorem dc_Tree_cut_36 : decode bc_Tree_cut 36 = .ok (.aload_n 0, 1) := by decide +kernel
theorem dc_Tree_cut_37 : decode bc_Tree_cut 37 = .ok (.getfield 14, 3) := by decide +kernel
theorem dc_Tree_cut_40 : decode bc_Tree_cut 40 = .ok (.iload 5, 2) := by decide +kernel
theorem dc_Tree_cut_42 : decode bc_Tree_cut 42 = .ok (.iload_n 2, 1) := by decide +kernel
theorem dc_Tree_cut_43 : decode bc_Tree_cut 43 = .ok (.invokestatic 49, 3) := by decide +kernel
theorem dc_Tree_cut_46 : decode bc_Tree_cut 46 = .ok (.istore 7, 2) := by decide +kernel
theorem dc_Tree_cut_48 : decode bc_Tree_cut 48 = .ok (.iload 7, 2) := by decide +kernel
theorem dc_Tree_cut_50 : decode bc_Tree_cut 50 = .ok (.iconst (-1), 1) := by decide +kernel
theorem dc_Tree_cut_51 : decode bc_Tree_cut 51 = .ok (.if_icmp .ne 6, 3) := by decide +kernel
theorem dc_Tree_cut_54 : decode bc_Tree_cut 54 = .ok (.iload 5, 2) := by decide +kernel
theorem dc_Tree_cut_56 : decode bc_Tree_cut 56 = .ok (.ireturn, 1) := by decide +kernel
theorem dc_Tree_cut_57 : decode bc_Tree_cut 57 = .ok (.iload 5, 2) := by decide +kernel
theorem dc_Tree_cut_59 : decode bc_Tree_cut 59 = .ok (.iload 7, 2) := by decide +kernel
theorem dc_Tree_cut_61 : decode bc_Tree_cut 61 = .ok (.invokestatic 55, 3) := by decide +kernel
theorem dc_Tree_cut_64 : decode bc_Tree_cut 64 = .ok (.iadd, 1) := by decide +kernel
theorem dc_Tree_cut_65 : decode bc_Tree_cut 65 = .ok (.istore 8, 2) := by decide +kernel
theorem dc_Tree_cut_67 : decode bc_Tree_cut 67 = .ok (.aload_n 0, 1) := by decide +kernel
theorem dc_Tree_cut_68 : decode bc_Tree_cut 68 = .ok (.iload 8, 2) := by decide +kernel
theorem dc_Tree_cut_70 : decode bc_Tree_cut 70 = .ok (.iload_n 2, 1) := by decide +kernel
theorem dc_Tree_cut_71 : decode bc_Tree_cut 71 = .ok (.invokevirtual 59, 3) := by decide +kernel
theorem dc_Tree_cut_74 : decode bc_Tree_cut 74 = .ok (.istore 9, 2) := by decide +kernel
theorem dc_Tree_cut_76 : decode bc_Tree_cut 76 = .ok (.iload 8, 2) := by decide +kernel
theorem dc_Tree_cut_78 : decode bc_Tree_cut 78 = .ok (.aload_n 0, 1) := by decide +kernel
theorem dc_Tree_cut_79 : decode bc_Tree_cut 79 = .ok (.getfield 14, 3) := by decide +kernel
theorem dc_Tree_cut_82 : decode bc_Tree_cut 82 = .ok (.iload 8, 2) := by decide +kernel
theorem dc_Tree_cut_84 : decode bc_Tree_cut 84 = .ok (.invokevirtual 63, 3) := by decide +kernel
theorem dc_Tree_cut_87 : decode bc_Tree_cut 87 = .ok (.sipush 129, 3) := by decide +kernel
theorem dc_Tree_cut_90 : decode bc_Tree_cut 90 = .ok (.if_icmp .ne 7, 3) := by decide +kernel
theorem dc_Tree_cut_93 : decode bc_Tree_cut 93 = .ok (.iconst 2, 1) := by decide +kernel
theorem dc_Tree_cut_94 : decode bc_Tree_cut 94 = .ok (.goto 4, 3) := by decide +kernel
theorem dc_Tree_cut_97 : decode bc_Tree_cut 97 = .ok (.iconst 1, 1) := by decide +kernel
theorem dc_Tree_cut_98 : decode bc_Tree_cut 98 = .ok (.iadd, 1) := by decide +kernel
theorem dc_Tree_cut_99 : decode bc_Tree_cut 99 = .ok (.istore 10, 2) := by decide +kernel
theorem dc_Tree_cut_101 : decode bc_Tree_cut 101 = .ok (.iload 9, 2) := by decide +kernel
theorem dc_Tree_cut_103 : decode bc_Tree_cut 103 = .ok (.iconst (-1), 1) := by decide +kernel
theorem dc_Tree_cut_104 : decode bc_Tree_cut 104 = .ok (.if_icmp .eq 12, 3) := by decide +kernel
theorem dc_Tree_cut_107 : decode bc_Tree_cut 107 = .ok (.iload 9, 2) := by decide +kernel
theorem dc_Tree_cut_109 : decode bc_Tree_cut 109 = .ok (.iload_n 2, 1) := by decide +kernel
theorem dc_Tree_cut_110 : decode bc_Tree_cut 110 = .ok (.iload 10, 2) := by decide +kernel
theorem dc_Tree_cut_112 : decode bc_Tree_cut 112 = .ok (.isub, 1) := by decide +kernel
theorem dc_Tree_cut_113 : decode bc_Tree_cut 113 = .ok (.if_icmp .le 6, 3) := by decide +kernel
theorem dc_Tree_cut_116 : decode bc_Tree_cut 116 = .ok (.iload 5, 2) := by decide +kernel
theorem dc_Tree_cut_118 : decode bc_Tree_cut 118 = .ok (.ireturn, 1) := by decide +kernel
theorem dc_Tree_cut_119 : decode bc_Tree_cut 119 = .ok (.aload_n 0, 1) := by decide +kernel
theorem dc_Tree_cut_120 : decode bc_Tree_cut 120 = .ok (.iload 7, 2) := by decide +kernel
theorem dc_Tree_cut_122 : decode bc_Tree_cut 122 = .ok (.iload 10, 2) := by decide +kernel
theorem dc_Tree_cut_124 : decode bc_Tree_cut 124 = .ok (.iload 9, 2) := by decide +kernel
theorem dc_Tree_cut_126 : decode bc_Tree_cut 126 = .ok (.iload_n 3, 1) := by decide +kernel
theorem dc_Tree_cut_127 : decode bc_Tree_cut 127 = .ok (.invokevirtual 66, 3) := by decide +kernel
theorem dc_Tree_cut_130 : decode bc_Tree_cut 130 = .ok (.istore 11, 2) := by decide +kernel
theorem dc_Tree_cut_132 : decode bc_Tree_cut 132 = .ok (.iload 7, 2) := by decide +kernel
theorem dc_Tree_cut_134 : decode bc_Tree_cut 134 = .ok (.invokestatic 69, 3) := by decide +kernel
theorem dc_Tree_cut_137 : decode bc_Tree_cut 137 = .ok (.ifCond .eq 31, 3) := by decide +kernel
theorem dc_Tree_cut_140 : decode bc_Tree_cut 140 = .ok (.aload_n 0, 1) := by decide +kernel
theorem dc_Tree_cut_141 : decode bc_Tree_cut 141 = .ok (.iload 10, 2) := by decide +kernel
theorem dc_Tree_cut_143 : decode bc_Tree_cut 143 = .ok (.iload 10, 2) := by decide +kernel
theorem dc_Tree_cut_145 : decode bc_Tree_cut 145 = .ok (.iload 9, 2) := by decide +kernel
theorem dc_Tree_cut_147 : decode bc_Tree_cut 147 = .ok (.iadd, 1) := by decide +kernel
theorem dc_Tree_cut_148 : decode bc_Tree_cut 148 = .ok (.iload 11, 2) := by decide +kernel
theorem dc_Tree_cut_150 : decode bc_Tree_cut 150 = .ok (.iload 4, 2) := by decide +kernel
theorem dc_Tree_cut_152 : decode bc_Tree_cut 152 = .ok (.iconst 1, 1) := by decide +kernel
theorem dc_Tree_cut_153 : decode bc_Tree_cut 153 = .ok (.iadd, 1) := by decide +kernel
theorem dc_Tree_cut_154 : decode bc_Tree_cut 154 = .ok (.invokevirtual 45, 3) := by decide +kernel
theorem dc_Tree_cut_157 : decode bc_Tree_cut 157 = .ok (.istore 12, 2) := by decide +kernel
theorem dc_Tree_cut_159 : decode bc_Tree_cut 159 = .ok (.iload 12, 2) := by decide +kernel
theorem dc_Tree_cut_161 : decode bc_Tree_cut 161 = .ok (.iconst (-1), 1) := by decide +kernel
theorem dc_Tree_cut_162 : decode bc_Tree_cut 162 = .ok (.if_icmp .eq 6, 3) := by decide +kernel
theorem dc_Tree_cut_165 : decode bc_Tree_cut 165 = .ok (.iload 12, 2) := by decide +kernel
theorem dc_Tree_cut_167 : decode bc_Tree_cut 167 = .ok (.ireturn, 1) := by decide +kernel
theorem dc_Tree_cut_168 : decode bc_Tree_cut 168 = .ok (.iload 10, 2) := by decide +kernel
theorem dc_Tree_cut_170 : decode bc_Tree_cut 170 = .ok (.iload 9, 2) := by decide +kernel
theorem dc_Tree_cut_172 : decode bc_Tree_cut 172 = .ok (.iadd, 1) := by decide +kernel
theorem dc_Tree_cut_173 : decode bc_Tree_cut 173 = .ok (.istore 5, 2) := by decide +kernel
theorem dc_Tree_cut_175 : decode bc_Tree_cut 175 = .ok (.iinc 6 1, 3) := by decide +kernel
theorem dc_Tree_cut_178 : decode bc_Tree_cut 178 = .ok (.goto (-155), 3) := by decide +kernel
theorem dc_Tree_cut_181 : decode bc_Tree_cut 181 = .ok (.iconst (-1), 1) := by decide +kernel
theorem dc_Tree_cut_182 : decode bc_Tree_cut 182 = .ok (.ireturn, 1) := by decide +kernel
theorem dc_Tree_readLength_0 : decode bc_Tree_readLength 0 = .ok (.aload_n 0, 1) := by decide +kernel
theorem dc_Tree_readLength_1 : decode bc_Tree_readLength 1 = .ok (.getfield 14, 3) := by decide +kernel
theorem dc_Tree_readLength_4 : decode bc_Tree_readLength 4 = .ok (.iload_n 1, 1) := by decide +kernel
theorem dc_Tree_readLength_5 : decode bc_Tree_readLength 5 = .ok (.iload_n 2, 1) := by decide +kernel
theorem dc_Tree_readLength_6 : decode bc_Tree_readLength 6 = .ok (.invokevirtual 73, 3) := by decide +kernel
theorem dc_Tree_readLength_9 : decode bc_Tree_readLength 9 = .ok (.istore_n 3, 1) := by decide +kernel
theorem dc_Tree_readLength_10 : decode bc_Tree_readLength 10 = .ok (.iload_n 3, 1) := by decide +kernel
theorem dc_Tree_readLength_11 : decode bc_Tree_readLength 11 = .ok (.sipush 129, 3) := by decide +kernel
theorem dc_Tree_readLength_14 : decode bc_Tree_readLength 14 = .ok (.if_icmp .ne 15, 3) := by decide +kernel
theorem dc_Tree_readLength_17 : decode bc_Tree_readLength 17 = .ok (.aload_n 0, 1) := by decide +kernel
theorem dc_Tree_readLength_18 : decode bc_Tree_readLength 18 = .ok (.getfield 14, 3) := by decide +kernel
theorem dc_Tree_readLength_21 : decode bc_Tree_readLength 21 = .ok (.iload_n 1, 1) := by decide +kernel
theorem dc_Tree_readLength_22 : decode bc_Tree_readLength 22 = .ok (.iconst 1, 1) := by decide +kernel
theorem dc_Tree_readLength_23 : decode bc_Tree_readLength 23 = .ok (.iadd, 1) := by decide +kernel
theorem dc_Tree_readLength_24 : decode bc_Tree_readLength 24 = .ok (.iload_n 2, 1) := by decide +kernel
theorem dc_Tree_readLength_25 : decode bc_Tree_readLength 25 = .ok (.invokevirtual 73, 3) := by decide +kernel
theorem dc_Tree_readLength_28 : decode bc_Tree_readLength 28 = .ok (.ireturn, 1) := by decide +kernel
theorem dc_Tree_readLength_29 : decode bc_Tree_readLength 29 = .ok (.iload_n 3, 1) := by decide +kernel
theorem dc_Tree_readLength_30 : decode bc_Tree_readLength 30 = .ok (.bipush 127, 2) := by decide +kernel
theorem dc_Tree_readLength_32 : decode bc_Tree_readLength 32 = .ok (.if_icmp .gt 7, 3) := by decide +kernel
theorem dc_Tree_readLength_35 : decode bc_Tree_readLength 35 = .ok (.iload_n 3, 1) := by decide +kernel
theorem dc_Tree_readLength_36 : decode bc_Tree_readLength 36 = .ok (.goto 4, 3) := by decide +kernel
theorem dc_Tree_readLength_39 : decode bc_Tree_readLength 39 = .ok (.iconst (-1), 1) := by decide +kernel
theorem dc_Tree_readLength_40 : decode bc_Tree_readLength 40 = .ok (.ireturn, 1) := by decide +kernel
theorem dc_Tree_keep_0 : decode bc_Tree_keep 0 = .ok (.aload_n 0, 1) := by decide +kernel
theorem dc_Tree_keep_1 : decode bc_Tree_keep 1 = .ok (.getfield 37, 3) := by decide +kernel
theorem dc_Tree_keep_4 : decode bc_Tree_keep 4 = .ok (.bipush 30, 2) := by decide +kernel
theorem dc_Tree_keep_6 : decode bc_Tree_keep 6 = .ok (.if_icmp .lt 5, 3) := by decide +kernel
theorem dc_Tree_keep_9 : decode bc_Tree_keep 9 = .ok (.iconst (-1), 1) := by decide +kernel
theorem dc_Tree_keep_10 : decode bc_Tree_keep 10 = .ok (.ireturn, 1) := by decide +kernel
theorem dc_Tree_keep_11 : decode bc_Tree_keep 11 = .ok (.aload_n 0, 1) := by decide +kernel
theorem dc_Tree_keep_12 : decode bc_Tree_keep 12 = .ok (.getfield 20, 3) := by decide +kernel
theorem dc_Tree_keep_15 : decode bc_Tree_keep 15 = .ok (.aload_n 0, 1) := by decide +kernel
theorem dc_Tree_keep_16 : decode bc_Tree_keep 16 = .ok (.getfield 37, 3) := by decide +kernel
theorem dc_Tree_keep_19 : decode bc_Tree_keep 19 = .ok (.iload_n 1, 1) := by decide +kernel
theorem dc_Tree_keep_20 : decode bc_Tree_keep 20 = .ok (.iastore, 1) := by decide +kernel
theorem dc_Tree_keep_21 : decode bc_Tree_keep 21 = .ok (.aload_n 0, 1) := by decide +kernel
theorem dc_Tree_keep_22 : decode bc_Tree_keep 22 = .ok (.getfield 24, 3) := by decide +kernel
theorem dc_Tree_keep_25 : decode bc_Tree_keep 25 = .ok (.aload_n 0, 1) := by decide +kernel
theorem dc_Tree_keep_26 : decode bc_Tree_keep 26 = .ok (.getfield 37, 3) := by decide +kernel
theorem dc_Tree_keep_29 : decode bc_Tree_keep 29 = .ok (.iload_n 2, 1) := by decide +kernel
theorem dc_Tree_keep_30 : decode bc_Tree_keep 30 = .ok (.iastore, 1) := by decide +kernel
theorem dc_Tree_keep_31 : decode bc_Tree_keep 31 = .ok (.aload_n 0, 1) := by decide +kernel
theorem dc_Tree_keep_32 : decode bc_Tree_keep 32 = .ok (.getfield 27, 3) := by decide +kernel
theorem dc_Tree_keep_35 : decode bc_Tree_keep 35 = .ok (.aload_n 0, 1) := by decide +kernel
theorem dc_Tree_keep_36 : decode bc_Tree_keep 36 = .ok (.getfield 37, 3) := by decide +kernel
theorem dc_Tree_keep_39 : decode bc_Tree_keep 39 = .ok (.iload_n 3, 1) := by decide +kernel
theorem dc_Tree_keep_40 : decode bc_Tree_keep 40 = .ok (.iastore, 1) := by decide +kernel
theorem dc_Tree_keep_41 : decode bc_Tree_keep 41 = .ok (.aload_n 0, 1) := by decide +kernel
theorem dc_Tree_keep_42 : decode bc_Tree_keep 42 = .ok (.getfield 30, 3) := by decide +kernel
theorem dc_Tree_keep_45 : decode bc_Tree_keep 45 = .ok (.aload_n 0, 1) := by decide +kernel
theorem dc_Tree_keep_46 : decode bc_Tree_keep 46 = .ok (.getfield 37, 3) := by decide +kernel
theorem dc_Tree_keep_49 : decode bc_Tree_keep 49 = .ok (.iconst 0, 1) := by decide +kernel
theorem dc_Tree_keep_50 : decode bc_Tree_keep 50 = .ok (.iastore, 1) := by decide +kernel
theorem dc_Tree_keep_51 : decode bc_Tree_keep 51 = .ok (.aload_n 0, 1) := by decide +kernel
theorem dc_Tree_keep_52 : decode bc_Tree_keep 52 = .ok (.iload 4, 2) := by decide +kernel
theorem dc_Tree_keep_54 : decode bc_Tree_keep 54 = .ok (.invokevirtual 76, 3) := by decide +kernel
theorem dc_Tree_keep_57 : decode bc_Tree_keep 57 = .ok (.ifCond .eq 14, 3) := by decide +kernel
theorem dc_Tree_keep_60 : decode bc_Tree_keep 60 = .ok (.aload_n 0, 1) := by decide +kernel
theorem dc_Tree_keep_61 : decode bc_Tree_keep 61 = .ok (.getfield 30, 3) := by decide +kernel
theorem dc_Tree_keep_64 : decode bc_Tree_keep 64 = .ok (.iload 4, 2) := by decide +kernel
theorem dc_Tree_keep_66 : decode bc_Tree_keep 66 = .ok (.dup2, 1) := by decide +kernel
theorem dc_Tree_keep_67 : decode bc_Tree_keep 67 = .ok (.iaload, 1) := by decide +kernel
theorem dc_Tree_keep_68 : decode bc_Tree_keep 68 = .ok (.iconst 1, 1) := by decide +kernel
theorem dc_Tree_keep_69 : decode bc_Tree_keep 69 = .ok (.iadd, 1) := by decide +kernel
theorem dc_Tree_keep_70 : decode bc_Tree_keep 70 = .ok (.iastore, 1) := by decide +kernel
theorem dc_Tree_keep_71 : decode bc_Tree_keep 71 = .ok (.aload_n 0, 1) := by decide +kernel
theorem dc_Tree_keep_72 : decode bc_Tree_keep 72 = .ok (.dup, 1) := by decide +kernel
theorem dc_Tree_keep_73 : decode bc_Tree_keep 73 = .ok (.getfield 37, 3) := by decide +kernel
theorem dc_Tree_keep_76 : decode bc_Tree_keep 76 = .ok (.iconst 1, 1) := by decide +kernel
theorem dc_Tree_keep_77 : decode bc_Tree_keep 77 = .ok (.iadd, 1) := by decide +kernel
theorem dc_Tree_keep_78 : decode bc_Tree_keep 78 = .ok (.putfield 37, 3) := by decide +kernel
theorem dc_Tree_keep_81 : decode bc_Tree_keep 81 = .ok (.aload_n 0, 1) := by decide +kernel
theorem dc_Tree_keep_82 : decode bc_Tree_keep 82 = .ok (.getfield 37, 3) := by decide +kernel
theorem dc_Tree_keep_85 : decode bc_Tree_keep 85 = .ok (.iconst 1, 1) := by decide +kernel
theorem dc_Tree_keep_86 : decode bc_Tree_keep 86 = .ok (.isub, 1) := by decide +kernel
theorem dc_Tree_keep_87 : decode bc_Tree_keep 87 = .ok (.ireturn, 1) := by decide +kernel
theorem dc_Tree_isObject_0 : decode bc_Tree_isObject 0 = .ok (.iload_n 1, 1) := by decide +kernel
theorem dc_Tree_isObject_1 : decode bc_Tree_isObject 1 = .ok (.ifCond .lt 15, 3) := by decide +kernel
theorem dc_Tree_isObject_4 : decode bc_Tree_isObject 4 = .ok (.iload_n 1, 1) := by decide +kernel
theorem dc_Tree_isObject_5 : decode bc_Tree_isObject 5 = .ok (.aload_n 0, 1) := by decide +kernel
theorem dc_Tree_isObject_6 : decode bc_Tree_isObject 6 = .ok (.getfield 37, 3) := by decide +kernel
theorem dc_Tree_isObject_9 : decode bc_Tree_isObject 9 = .ok (.if_icmp .ge 7, 3) := by decide +kernel
theorem dc_Tree_isObject_12 : decode bc_Tree_isObject 12 = .ok (.iconst 1, 1) := by decide +kernel
theorem dc_Tree_isObject_13 : decode bc_Tree_isObject 13 = .ok (.goto 4, 3) := by decide +kernel
theorem dc_Tree_isObject_16 : decode bc_Tree_isObject 16 = .ok (.iconst 0, 1) := by decide +kernel
theorem dc_Tree_isObject_17 : decode bc_Tree_isObject 17 = .ok (.ireturn, 1) := by decide +kernel
theorem dc_Tree_size_0 : decode bc_Tree_size 0 = .ok (.aload_n 0, 1) := by decide +kernel
theorem dc_Tree_size_1 : decode bc_Tree_size 1 = .ok (.getfield 37, 3) := by decide +kernel
theorem dc_Tree_size_4 : decode bc_Tree_size 4 = .ok (.ireturn, 1) := by decide +kernel
theorem dc_Tree_first_0 : decode bc_Tree_first 0 = .ok (.iconst 0, 1) := by decide +kernel
theorem dc_Tree_first_1 : decode bc_Tree_first 1 = .ok (.istore_n 2, 1) := by decide +kernel
theorem dc_Tree_first_2 : decode bc_Tree_first 2 = .ok (.iload_n 2, 1) := by decide +kernel
theorem dc_Tree_first_3 : decode bc_Tree_first 3 = .ok (.aload_n 0, 1) := by decide +kernel
theorem dc_Tree_first_4 : decode bc_Tree_first 4 = .ok (.getfield 37, 3) := by decide +kernel
theorem dc_Tree_first_7 : decode bc_Tree_first 7 = .ok (.if_icmp .ge 21, 3) := by decide +kernel
theorem dc_Tree_first_10 : decode bc_Tree_first 10 = .ok (.aload_n 0, 1) := by decide +kernel
theorem dc_Tree_first_11 : decode bc_Tree_first 11 = .ok (.getfield 20, 3) := by decide +kernel
theorem dc_Tree_first_14 : decode bc_Tree_first 14 = .ok (.iload_n 2, 1) := by decide +kernel
theorem dc_Tree_first_15 : decode bc_Tree_first 15 = .ok (.iaload, 1) := by decide +kernel
theorem dc_Tree_first_16 : decode bc_Tree_first 16 = .ok (.iload_n 1, 1) := by decide +kernel
theorem dc_Tree_first_17 : decode bc_Tree_first 17 = .ok (.if_icmp .ne 5, 3) := by decide +kernel
theorem dc_Tree_first_20 : decode bc_Tree_first 20 = .ok (.iload_n 2, 1) := by decide +kernel
theorem dc_Tree_first_21 : decode bc_Tree_first 21 = .ok (.ireturn, 1) := by decide +kernel
theorem dc_Tree_first_22 : decode bc_Tree_first 22 = .ok (.iinc 2 1, 3) := by decide +kernel
theorem dc_Tree_first_25 : decode bc_Tree_first 25 = .ok (.goto (-23), 3) := by decide +kernel
theorem dc_Tree_first_28 : decode bc_Tree_first 28 = .ok (.iconst (-1), 1) := by decide +kernel
theorem dc_Tree_first_29 : decode bc_Tree_first 29 = .ok (.ireturn, 1) := by decide +kernel
theorem dc_Tree_lengthOf_0 : decode bc_Tree_lengthOf 0 = .ok (.aload_n 0, 1) := by decide +kernel
theorem dc_Tree_lengthOf_1 : decode bc_Tree_lengthOf 1 = .ok (.iload_n 1, 1) := by decide +kernel
theorem dc_Tree_lengthOf_2 : decode bc_Tree_lengthOf 2 = .ok (.invokevirtual 76, 3) := by decide +kernel
theorem dc_Tree_lengthOf_5 : decode bc_Tree_lengthOf 5 = .ok (.ifCond .eq 12, 3) := by decide +kernel
theorem dc_Tree_lengthOf_8 : decode bc_Tree_lengthOf 8 = .ok (.aload_n 0, 1) := by decide +kernel
theorem dc_Tree_lengthOf_9 : decode bc_Tree_lengthOf 9 = .ok (.getfield 27, 3) := by decide +kernel
theorem dc_Tree_lengthOf_12 : decode bc_Tree_lengthOf 12 = .ok (.iload_n 1, 1) := by decide +kernel
theorem dc_Tree_lengthOf_13 : decode bc_Tree_lengthOf 13 = .ok (.iaload, 1) := by decide +kernel
theorem dc_Tree_lengthOf_14 : decode bc_Tree_lengthOf 14 = .ok (.goto 4, 3) := by decide +kernel
theorem dc_Tree_lengthOf_17 : decode bc_Tree_lengthOf 17 = .ok (.iconst 0, 1) := by decide +kernel
theorem dc_Tree_lengthOf_18 : decode bc_Tree_lengthOf 18 = .ok (.ireturn, 1) := by decide +kernel
theorem dc_Tree_byteOf_0 : decode bc_Tree_byteOf 0 = .ok (.aload_n 0, 1) := by decide +kernel
theorem dc_Tree_byteOf_1 : decode bc_Tree_byteOf 1 = .ok (.iload_n 1, 1) := by decide +kernel
theorem dc_Tree_byteOf_2 : decode bc_Tree_byteOf 2 = .ok (.iload_n 2, 1) := by decide +kernel
theorem dc_Tree_byteOf_3 : decode bc_Tree_byteOf 3 = .ok (.invokevirtual 79, 3) := by decide +kernel
theorem dc_Tree_byteOf_6 : decode bc_Tree_byteOf 6 = .ok (.ifCond .eq 21, 3) := by decide +kernel
theorem dc_Tree_byteOf_9 : decode bc_Tree_byteOf 9 = .ok (.aload_n 0, 1) := by decide +kernel
theorem dc_Tree_byteOf_10 : decode bc_Tree_byteOf 10 = .ok (.getfield 14, 3) := by decide +kernel
theorem dc_Tree_byteOf_13 : decode bc_Tree_byteOf 13 = .ok (.aload_n 0, 1) := by decide +kernel
theorem dc_Tree_byteOf_14 : decode bc_Tree_byteOf 14 = .ok (.getfield 24, 3) := by decide +kernel
theorem dc_Tree_byteOf_17 : decode bc_Tree_byteOf 17 = .ok (.iload_n 1, 1) := by decide +kernel
theorem dc_Tree_byteOf_18 : decode bc_Tree_byteOf 18 = .ok (.iaload, 1) := by decide +kernel
theorem dc_Tree_byteOf_19 : decode bc_Tree_byteOf 19 = .ok (.iload_n 2, 1) := by decide +kernel
theorem dc_Tree_byteOf_20 : decode bc_Tree_byteOf 20 = .ok (.iadd, 1) := by decide +kernel
theorem dc_Tree_byteOf_21 : decode bc_Tree_byteOf 21 = .ok (.invokevirtual 63, 3) := by decide +kernel
theorem dc_Tree_byteOf_24 : decode bc_Tree_byteOf 24 = .ok (.goto 4, 3) := by decide +kernel
theorem dc_Tree_byteOf_27 : decode bc_Tree_byteOf 27 = .ok (.iconst (-1), 1) := by decide +kernel
theorem dc_Tree_byteOf_28 : decode bc_Tree_byteOf 28 = .ok (.ireturn, 1) := by decide +kernel
theorem dc_Tree_hasByte_0 : decode bc_Tree_hasByte 0 = .ok (.aload_n 0, 1) := by decide +kernel
theorem dc_Tree_hasByte_1 : decode bc_Tree_hasByte 1 = .ok (.iload_n 1, 1) := by decide +kernel
theorem dc_Tree_hasByte_2 : decode bc_Tree_hasByte 2 = .ok (.invokevirtual 76, 3) := by decide +kernel
theorem dc_Tree_hasByte_5 : decode bc_Tree_hasByte 5 = .ok (.ifCond .eq 21, 3) := by decide +kernel
theorem dc_Tree_hasByte_8 : decode bc_Tree_hasByte 8 = .ok (.iload_n 2, 1) := by decide +kernel
theorem dc_Tree_hasByte_9 : decode bc_Tree_hasByte 9 = .ok (.ifCond .lt 17, 3) := by decide +kernel
theorem dc_Tree_hasByte_12 : decode bc_Tree_hasByte 12 = .ok (.iload_n 2, 1) := by decide +kernel
theorem dc_Tree_hasByte_13 : decode bc_Tree_hasByte 13 = .ok (.aload_n 0, 1) := by decide +kernel
theorem dc_Tree_hasByte_14 : decode bc_Tree_hasByte 14 = .ok (.getfield 27, 3) := by decide +kernel
theorem dc_Tree_hasByte_17 : decode bc_Tree_hasByte 17 = .ok (.iload_n 1, 1) := by decide +kernel
theorem dc_Tree_hasByte_18 : decode bc_Tree_hasByte 18 = .ok (.iaload, 1) := by decide +kernel
theorem dc_Tree_hasByte_19 : decode bc_Tree_hasByte 19 = .ok (.if_icmp .ge 7, 3) := by decide +kernel
theorem dc_Tree_hasByte_22 : decode bc_Tree_hasByte 22 = .ok (.iconst 1, 1) := by decide +kernel
theorem dc_Tree_hasByte_23 : decode bc_Tree_hasByte 23 = .ok (.goto 4, 3) := by decide +kernel
theorem dc_Tree_hasByte_26 : decode bc_Tree_hasByte 26 = .ok (.iconst 0, 1) := by decide +kernel
theorem dc_Tree_hasByte_27 : decode bc_Tree_hasByte 27 = .ok (.ireturn, 1) := by decide +kernel
theorem dc_Tree_tagOf_0 : decode bc_Tree_tagOf 0 = .ok (.aload_n 0, 1) := by decide +kernel
theorem dc_Tree_tagOf_1 : decode bc_Tree_tagOf 1 = .ok (.iload_n 1, 1) := by decide +kernel
theorem dc_Tree_tagOf_2 : decode bc_Tree_tagOf 2 = .ok (.iload_n 2, 1) := by decide +kernel
theorem dc_Tree_tagOf_3 : decode bc_Tree_tagOf 3 = .ok (.invokevirtual 79, 3) := by decide +kernel
theorem dc_Tree_tagOf_6 : decode bc_Tree_tagOf 6 = .ok (.ifCond .ne 5, 3) := by decide +kernel
theorem dc_Tree_tagOf_9 : decode bc_Tree_tagOf 9 = .ok (.iconst (-1), 1) := by decide +kernel
theorem dc_Tree_tagOf_10 : decode bc_Tree_tagOf 10 = .ok (.ireturn, 1) := by decide +kernel
theorem dc_Tree_tagOf_11 : decode bc_Tree_tagOf 11 = .ok (.aload_n 0, 1) := by decide +kernel
theorem dc_Tree_tagOf_12 : decode bc_Tree_tagOf 12 = .ok (.getfield 14, 3) := by decide +kernel
theorem dc_Tree_tagOf_15 : decode bc_Tree_tagOf 15 = .ok (.aload_n 0, 1) := by decide +kernel
theorem dc_Tree_tagOf_16 : decode bc_Tree_tagOf 16 = .ok (.getfield 24, 3) := by decide +kernel
theorem dc_Tree_tagOf_19 : decode bc_Tree_tagOf 19 = .ok (.iload_n 1, 1) := by decide +kernel
theorem dc_Tree_tagOf_20 : decode bc_Tree_tagOf 20 = .ok (.iaload, 1) := by decide +kernel
theorem dc_Tree_tagOf_21 : decode bc_Tree_tagOf 21 = .ok (.iload_n 2, 1) := by decide +kernel
theorem dc_Tree_tagOf_22 : decode bc_Tree_tagOf 22 = .ok (.iadd, 1) := by decide +kernel
theorem dc_Tree_tagOf_23 : decode bc_Tree_tagOf 23 = .ok (.aload_n 0, 1) := by decide +kernel
theorem dc_Tree_tagOf_24 : decode bc_Tree_tagOf 24 = .ok (.getfield 24, 3) := by decide +kernel
theorem dc_Tree_tagOf_27 : decode bc_Tree_tagOf 27 = .ok (.iload_n 1, 1) := by decide +kernel
theorem dc_Tree_tagOf_28 : decode bc_Tree_tagOf 28 = .ok (.iaload, 1) := by decide +kernel
theorem dc_Tree_tagOf_29 : decode bc_Tree_tagOf 29 = .ok (.aload_n 0, 1) := by decide +kernel
theorem dc_Tree_tagOf_30 : decode bc_Tree_tagOf 30 = .ok (.getfield 27, 3) := by decide +kernel
theorem dc_Tree_tagOf_33 : decode bc_Tree_tagOf 33 = .ok (.iload_n 1, 1) := by decide +kernel
theorem dc_Tree_tagOf_34 : decode bc_Tree_tagOf 34 = .ok (.iaload, 1) := by decide +kernel
theorem dc_Tree_tagOf_35 : decode bc_Tree_tagOf 35 = .ok (.iadd, 1) := by decide +kernel
theorem dc_Tree_tagOf_36 : decode bc_Tree_tagOf 36 = .ok (.invokestatic 49, 3) := by decide +kernel
theorem dc_Tree_tagOf_39 : decode bc_Tree_tagOf 39 = .ok (.ireturn, 1) := by decide +kernel
theorem dc_Tree_pairOf_0 : decode bc_Tree_pairOf 0 = .ok (.aload_n 0, 1) := by decide +kernel
theorem dc_Tree_pairOf_1 : decode bc_Tree_pairOf 1 = .ok (.iload_n 1, 1) := by decide +kernel
theorem dc_Tree_pairOf_2 : decode bc_Tree_pairOf 2 = .ok (.iconst 1, 1) := by decide +kernel
theorem dc_Tree_pairOf_3 : decode bc_Tree_pairOf 3 = .ok (.invokevirtual 79, 3) := by decide +kernel
theorem dc_Tree_pairOf_6 : decode bc_Tree_pairOf 6 = .ok (.ifCond .eq 23, 3) := by decide +kernel
theorem dc_Tree_pairOf_9 : decode bc_Tree_pairOf 9 = .ok (.sipush 256, 3) := by decide +kernel
theorem dc_Tree_pairOf_12 : decode bc_Tree_pairOf 12 = .ok (.aload_n 0, 1) := by decide +kernel
theorem dc_Tree_pairOf_13 : decode bc_Tree_pairOf 13 = .ok (.iload_n 1, 1) := by decide +kernel
theorem dc_Tree_pairOf_14 : decode bc_Tree_pairOf 14 = .ok (.iconst 0, 1) := by decide +kernel
theorem dc_Tree_pairOf_15 : decode bc_Tree_pairOf 15 = .ok (.invokevirtual 83, 3) := by decide +kernel
theorem dc_Tree_pairOf_18 : decode bc_Tree_pairOf 18 = .ok (.imul, 1) := by decide +kernel
theorem dc_Tree_pairOf_19 : decode bc_Tree_pairOf 19 = .ok (.aload_n 0, 1) := by decide +kernel
theorem dc_Tree_pairOf_20 : decode bc_Tree_pairOf 20 = .ok (.iload_n 1, 1) := by decide +kernel
theorem dc_Tree_pairOf_21 : decode bc_Tree_pairOf 21 = .ok (.iconst 1, 1) := by decide +kernel
theorem dc_Tree_pairOf_22 : decode bc_Tree_pairOf 22 = .ok (.invokevirtual 83, 3) := by decide +kernel
theorem dc_Tree_pairOf_25 : decode bc_Tree_pairOf 25 = .ok (.iadd, 1) := by decide +kernel
theorem dc_Tree_pairOf_26 : decode bc_Tree_pairOf 26 = .ok (.goto 4, 3) := by decide +kernel
theorem dc_Tree_pairOf_29 : decode bc_Tree_pairOf 29 = .ok (.iconst 0, 1) := by decide +kernel
theorem dc_Tree_pairOf_30 : decode bc_Tree_pairOf 30 = .ok (.ireturn, 1) := by decide +kernel
theorem dc_Tree_innerOf_0 : decode bc_Tree_innerOf 0 = .ok (.aload_n 0, 1) := by decide +kernel
theorem dc_Tree_innerOf_1 : decode bc_Tree_innerOf 1 = .ok (.iload_n 1, 1) := by decide +kernel
theorem dc_Tree_innerOf_2 : decode bc_Tree_innerOf 2 = .ok (.invokevirtual 76, 3) := by decide +kernel
theorem dc_Tree_innerOf_5 : decode bc_Tree_innerOf 5 = .ok (.ifCond .eq 12, 3) := by decide +kernel
theorem dc_Tree_innerOf_8 : decode bc_Tree_innerOf 8 = .ok (.aload_n 0, 1) := by decide +kernel
theorem dc_Tree_innerOf_9 : decode bc_Tree_innerOf 9 = .ok (.getfield 30, 3) := by decide +kernel
theorem dc_Tree_innerOf_12 : decode bc_Tree_innerOf 12 = .ok (.iload_n 1, 1) := by decide +kernel
theorem dc_Tree_innerOf_13 : decode bc_Tree_innerOf 13 = .ok (.iaload, 1) := by decide +kernel
theorem dc_Tree_innerOf_14 : decode bc_Tree_innerOf 14 = .ok (.goto 4, 3) := by decide +kernel
theorem dc_Tree_innerOf_17 : decode bc_Tree_innerOf 17 = .ok (.iconst (-1), 1) := by decide +kernel
theorem dc_Tree_innerOf_18 : decode bc_Tree_innerOf 18 = .ok (.ireturn, 1) := by decide +kernel
theorem dc_Tag_read_0 : decode bc_Tag_read 0 = .ok (.aload_n 0, 1) := by decide +kernel
theorem dc_Tag_read_1 : decode bc_Tag_read 1 = .ok (.iload_n 1, 1) := by decide +kernel
theorem dc_Tag_read_2 : decode bc_Tag_read 2 = .ok (.iload_n 2, 1) := by decide +kernel
theorem dc_Tag_read_3 : decode bc_Tag_read 3 = .ok (.invokevirtual 9, 3) := by decide +kernel
theorem dc_Tag_read_6 : decode bc_Tag_read 6 = .ok (.istore_n 3, 1) := by decide +kernel
theorem dc_Tag_read_7 : decode bc_Tag_read 7 = .ok (.iload_n 3, 1) := by decide +kernel
theorem dc_Tag_read_8 : decode bc_Tag_read 8 = .ok (.iconst (-1), 1) := by decide +kernel
theorem dc_Tag_read_9 : decode bc_Tag_read 9 = .ok (.if_icmp .eq 12, 3) := by decide +kernel
theorem dc_Tag_read_12 : decode bc_Tag_read 12 = .ok (.iload_n 3, 1) := by decide +kernel
theorem dc_Tag_read_13 : decode bc_Tag_read 13 = .ok (.bipush 31, 2) := by decide +kernel
theorem dc_Tag_read_15 : decode bc_Tag_read 15 = .ok (.iand, 1) := by decide +kernel
theorem dc_Tag_read_16 : decode bc_Tag_read 16 = .ok (.bipush 31, 2) := by decide +kernel
theorem dc_Tag_read_18 : decode bc_Tag_read 18 = .ok (.if_icmp .eq 5, 3) := by decide +kernel
theorem dc_Tag_read_21 : decode bc_Tag_read 21 = .ok (.iload_n 3, 1) := by decide +kernel
theorem dc_Tag_read_22 : decode bc_Tag_read 22 = .ok (.ireturn, 1) := by decide +kernel
theorem dc_Tag_read_23 : decode bc_Tag_read 23 = .ok (.aload_n 0, 1) := by decide +kernel
theorem dc_Tag_read_24 : decode bc_Tag_read 24 = .ok (.iload_n 1, 1) := by decide +kernel
theorem dc_Tag_read_25 : decode bc_Tag_read 25 = .ok (.iconst 1, 1) := by decide +kernel
theorem dc_Tag_read_26 : decode bc_Tag_read 26 = .ok (.iadd, 1) := by decide +kernel
theorem dc_Tag_read_27 : decode bc_Tag_read 27 = .ok (.iload_n 2, 1) := by decide +kernel
theorem dc_Tag_read_28 : decode bc_Tag_read 28 = .ok (.invokevirtual 9, 3) := by decide +kernel
theorem dc_Tag_read_31 : decode bc_Tag_read 31 = .ok (.istore 4, 2) := by decide +kernel
theorem dc_Tag_read_33 : decode bc_Tag_read 33 = .ok (.iload 4, 2) := by decide +kernel
theorem dc_Tag_read_35 : decode bc_Tag_read 35 = .ok (.iconst 0, 1) := by decide +kernel
theorem dc_Tag_read_36 : decode bc_Tag_read 36 = .ok (.bipush 127, 2) := by decide +kernel
theorem dc_Tag_read_38 : decode bc_Tag_read 38 = .ok (.invokestatic 17, 3) := by decide +kernel
theorem dc_Tag_read_41 : decode bc_Tag_read 41 = .ok (.ifCond .eq 14, 3) := by decide +kernel
theorem dc_Tag_read_44 : decode bc_Tag_read 44 = .ok (.sipush 256, 3) := by decide +kernel
theorem dc_Tag_read_47 : decode bc_Tag_read 47 = .ok (.iload_n 3, 1) := by decide +kernel
theorem dc_Tag_read_48 : decode bc_Tag_read 48 = .ok (.imul, 1) := by decide +kernel
theorem dc_Tag_read_49 : decode bc_Tag_read 49 = .ok (.iload 4, 2) := by decide +kernel
theorem dc_Tag_read_51 : decode bc_Tag_read 51 = .ok (.iadd, 1) := by decide +kernel
theorem dc_Tag_read_52 : decode bc_Tag_read 52 = .ok (.goto 4, 3) := by decide +kernel
theorem dc_Tag_read_55 : decode bc_Tag_read 55 = .ok (.iconst (-1), 1) := by decide +kernel
theorem dc_Tag_read_56 : decode bc_Tag_read 56 = .ok (.ireturn, 1) := by decide +kernel
theorem dc_Tag_bytesOf_0 : decode bc_Tag_bytesOf 0 = .ok (.iload_n 0, 1) := by decide +kernel
theorem dc_Tag_bytesOf_1 : decode bc_Tag_bytesOf 1 = .ok (.sipush 255, 3) := by decide +kernel
theorem dc_Tag_bytesOf_4 : decode bc_Tag_bytesOf 4 = .ok (.if_icmp .le 7, 3) := by decide +kernel
theorem dc_Tag_bytesOf_7 : decode bc_Tag_bytesOf 7 = .ok (.iconst 2, 1) := by decide +kernel
theorem dc_Tag_bytesOf_8 : decode bc_Tag_bytesOf 8 = .ok (.goto 4, 3) := by decide +kernel
theorem dc_Tag_bytesOf_11 : decode bc_Tag_bytesOf 11 = .ok (.iconst 1, 1) := by decide +kernel
theorem dc_Tag_bytesOf_12 : decode bc_Tag_bytesOf 12 = .ok (.ireturn, 1) := by decide +kernel
theorem dc_Tag_hasInner_0 : decode bc_Tag_hasInner 0 = .ok (.iload_n 0, 1) := by decide +kernel
theorem dc_Tag_hasInner_1 : decode bc_Tag_hasInner 1 = .ok (.sipush 255, 3) := by decide +kernel
theorem dc_Tag_hasInner_4 : decode bc_Tag_hasInner 4 = .ok (.if_icmp .le 11, 3) := by decide +kernel
theorem dc_Tag_hasInner_7 : decode bc_Tag_hasInner 7 = .ok (.iload_n 0, 1) := by decide +kernel
theorem dc_Tag_hasInner_8 : decode bc_Tag_hasInner 8 = .ok (.sipush 256, 3) := by decide +kernel
theorem dc_Tag_hasInner_11 : decode bc_Tag_hasInner 11 = .ok (.idiv, 1) := by decide +kernel
theorem dc_Tag_hasInner_12 : decode bc_Tag_hasInner 12 = .ok (.goto 4, 3) := by decide +kernel
theorem dc_Tag_hasInner_15 : decode bc_Tag_hasInner 15 = .ok (.iload_n 0, 1) := by decide +kernel
theorem dc_Tag_hasInner_16 : decode bc_Tag_hasInner 16 = .ok (.istore_n 1, 1) := by decide +kernel
theorem dc_Tag_hasInner_17 : decode bc_Tag_hasInner 17 = .ok (.iload_n 1, 1) := by decide +kernel
theorem dc_Tag_hasInner_18 : decode bc_Tag_hasInner 18 = .ok (.bipush 32, 2) := by decide +kernel
theorem dc_Tag_hasInner_20 : decode bc_Tag_hasInner 20 = .ok (.iand, 1) := by decide +kernel
theorem dc_Tag_hasInner_21 : decode bc_Tag_hasInner 21 = .ok (.ifCond .eq 7, 3) := by decide +kernel
theorem dc_Tag_hasInner_24 : decode bc_Tag_hasInner 24 = .ok (.iconst 1, 1) := by decide +kernel
theorem dc_Tag_hasInner_25 : decode bc_Tag_hasInner 25 = .ok (.goto 4, 3) := by decide +kernel
theorem dc_Tag_hasInner_28 : decode bc_Tag_hasInner 28 = .ok (.iconst 0, 1) := by decide +kernel
theorem dc_Tag_hasInner_29 : decode bc_Tag_hasInner 29 = .ok (.ireturn, 1) := by decide +kernel
theorem dc_Mac_cryptogram_0 : decode bc_Mac_cryptogram 0 = .ok (.iload_n 0, 1) := by decide +kernel
theorem dc_Mac_cryptogram_1 : decode bc_Mac_cryptogram 1 = .ok (.iload_n 1, 1) := by decide +kernel
theorem dc_Mac_cryptogram_2 : decode bc_Mac_cryptogram 2 = .ok (.invokestatic 12, 3) := by decide +kernel
theorem dc_Mac_cryptogram_5 : decode bc_Mac_cryptogram 5 = .ok (.istore 4, 2) := by decide +kernel
theorem dc_Mac_cryptogram_7 : decode bc_Mac_cryptogram 7 = .ok (.iload 4, 2) := by decide +kernel
theorem dc_Mac_cryptogram_9 : decode bc_Mac_cryptogram 9 = .ok (.iload_n 2, 1) := by decide +kernel
theorem dc_Mac_cryptogram_10 : decode bc_Mac_cryptogram 10 = .ok (.sipush 256, 3) := by decide +kernel
theorem dc_Mac_cryptogram_13 : decode bc_Mac_cryptogram 13 = .ok (.idiv, 1) := by decide +kernel
theorem dc_Mac_cryptogram_14 : decode bc_Mac_cryptogram 14 = .ok (.sipush 256, 3) := by decide +kernel
theorem dc_Mac_cryptogram_17 : decode bc_Mac_cryptogram 17 = .ok (.irem, 1) := by decide +kernel
theorem dc_Mac_cryptogram_18 : decode bc_Mac_cryptogram 18 = .ok (.invokestatic 12, 3) := by decide +kernel
theorem dc_Mac_cryptogram_21 : decode bc_Mac_cryptogram 21 = .ok (.istore 4, 2) := by decide +kernel
theorem dc_Mac_cryptogram_23 : decode bc_Mac_cryptogram 23 = .ok (.iload 4, 2) := by decide +kernel
theorem dc_Mac_cryptogram_25 : decode bc_Mac_cryptogram 25 = .ok (.iload_n 2, 1) := by decide +kernel
theorem dc_Mac_cryptogram_26 : decode bc_Mac_cryptogram 26 = .ok (.sipush 256, 3) := by decide +kernel
theorem dc_Mac_cryptogram_29 : decode bc_Mac_cryptogram 29 = .ok (.irem, 1) := by decide +kernel
theorem dc_Mac_cryptogram_30 : decode bc_Mac_cryptogram 30 = .ok (.invokestatic 12, 3) := by decide +kernel
theorem dc_Mac_cryptogram_33 : decode bc_Mac_cryptogram 33 = .ok (.istore 4, 2) := by decide +kernel
theorem dc_Mac_cryptogram_35 : decode bc_Mac_cryptogram 35 = .ok (.iconst 0, 1) := by decide +kernel
theorem dc_Mac_cryptogram_36 : decode bc_Mac_cryptogram 36 = .ok (.istore 5, 2) := by decide +kernel
theorem dc_Mac_cryptogram_38 : decode bc_Mac_cryptogram 38 = .ok (.iload 5, 2) := by decide +kernel
theorem dc_Mac_cryptogram_40 : decode bc_Mac_cryptogram 40 = .ok (.aload_n 3, 1) := by decide +kernel
theorem dc_Mac_cryptogram_41 : decode bc_Mac_cryptogram 41 = .ok (.invokevirtual 16, 3) := by decide +kernel
theorem dc_Mac_cryptogram_44 : decode bc_Mac_cryptogram 44 = .ok (.if_icmp .ge 22, 3) := by decide +kernel
theorem dc_Mac_cryptogram_47 : decode bc_Mac_cryptogram 47 = .ok (.iload 4, 2) := by decide +kernel
theorem dc_Mac_cryptogram_49 : decode bc_Mac_cryptogram 49 = .ok (.aload_n 3, 1) := by decide +kernel
theorem dc_Mac_cryptogram_50 : decode bc_Mac_cryptogram 50 = .ok (.iload 5, 2) := by decide +kernel
theorem dc_Mac_cryptogram_52 : decode bc_Mac_cryptogram 52 = .ok (.invokevirtual 22, 3) := by decide +kernel
theorem dc_Mac_cryptogram_55 : decode bc_Mac_cryptogram 55 = .ok (.invokestatic 12, 3) := by decide +kernel
theorem dc_Mac_cryptogram_58 : decode bc_Mac_cryptogram 58 = .ok (.istore 4, 2) := by decide +kernel
theorem dc_Mac_cryptogram_60 : decode bc_Mac_cryptogram 60 = .ok (.iinc 5 1, 3) := by decide +kernel
theorem dc_Mac_cryptogram_63 : decode bc_Mac_cryptogram 63 = .ok (.goto (-25), 3) := by decide +kernel
theorem dc_Mac_cryptogram_66 : decode bc_Mac_cryptogram 66 = .ok (.iload 4, 2) := by decide +kernel
theorem dc_Mac_cryptogram_68 : decode bc_Mac_cryptogram 68 = .ok (.ireturn, 1) := by decide +kernel
theorem dc_Mac_grow_0 : decode bc_Mac_grow 0 = .ok (.iload_n 0, 1) := by decide +kernel
theorem dc_Mac_grow_1 : decode bc_Mac_grow 1 = .ok (.iload_n 1, 1) := by decide +kernel
theorem dc_Mac_grow_2 : decode bc_Mac_grow 2 = .ok (.ixor, 1) := by decide +kernel
theorem dc_Mac_grow_3 : decode bc_Mac_grow 3 = .ok (.ldc 11, 2) := by decide +kernel
theorem dc_Mac_grow_5 : decode bc_Mac_grow 5 = .ok (.imul, 1) := by decide +kernel
theorem dc_Mac_grow_6 : decode bc_Mac_grow 6 = .ok (.istore_n 2, 1) := by decide +kernel
theorem dc_Mac_grow_7 : decode bc_Mac_grow 7 = .ok (.iload_n 2, 1) := by decide +kernel
theorem dc_Mac_grow_8 : decode bc_Mac_grow 8 = .ok (.iload_n 2, 1) := by decide +kernel
theorem dc_Mac_grow_9 : decode bc_Mac_grow 9 = .ok (.bipush 13, 2) := by decide +kernel
theorem dc_Mac_grow_11 : decode bc_Mac_grow 11 = .ok (.iushr, 1) := by decide +kernel
theorem dc_Mac_grow_12 : decode bc_Mac_grow 12 = .ok (.ixor, 1) := by decide +kernel
theorem dc_Mac_grow_13 : decode bc_Mac_grow 13 = .ok (.ireturn, 1) := by decide +kernel
theorem dc_Mac_seal_0 : decode bc_Mac_seal 0 = .ok (.iload_n 0, 1) := by decide +kernel
theorem dc_Mac_seal_1 : decode bc_Mac_seal 1 = .ok (.iload_n 1, 1) := by decide +kernel
theorem dc_Mac_seal_2 : decode bc_Mac_seal 2 = .ok (.invokestatic 12, 3) := by decide +kernel
theorem dc_Mac_seal_5 : decode bc_Mac_seal 5 = .ok (.istore_n 3, 1) := by decide +kernel
theorem dc_Mac_seal_6 : decode bc_Mac_seal 6 = .ok (.bipush 24, 2) := by decide +kernel
theorem dc_Mac_seal_8 : decode bc_Mac_seal 8 = .ok (.istore 4, 2) := by decide +kernel
theorem dc_Mac_seal_10 : decode bc_Mac_seal 10 = .ok (.iload 4, 2) := by decide +kernel
theorem dc_Mac_seal_12 : decode bc_Mac_seal 12 = .ok (.ifCond .lt 22, 3) := by decide +kernel
theorem dc_Mac_seal_15 : decode bc_Mac_seal 15 = .ok (.iload_n 3, 1) := by decide +kernel
theorem dc_Mac_seal_16 : decode bc_Mac_seal 16 = .ok (.iload_n 2, 1) := by decide +kernel
theorem dc_Mac_seal_17 : decode bc_Mac_seal 17 = .ok (.iload 4, 2) := by decide +kernel
theorem dc_Mac_seal_19 : decode bc_Mac_seal 19 = .ok (.iushr, 1) := by decide +kernel
theorem dc_Mac_seal_20 : decode bc_Mac_seal 20 = .ok (.sipush 255, 3) := by decide +kernel
theorem dc_Mac_seal_23 : decode bc_Mac_seal 23 = .ok (.iand, 1) := by decide +kernel
theorem dc_Mac_seal_24 : decode bc_Mac_seal 24 = .ok (.invokestatic 12, 3) := by decide +kernel
theorem dc_Mac_seal_27 : decode bc_Mac_seal 27 = .ok (.istore_n 3, 1) := by decide +kernel
theorem dc_Mac_seal_28 : decode bc_Mac_seal 28 = .ok (.iinc 4 (-8), 3) := by decide +kernel
theorem dc_Mac_seal_31 : decode bc_Mac_seal 31 = .ok (.goto (-21), 3) := by decide +kernel
theorem dc_Mac_seal_34 : decode bc_Mac_seal 34 = .ok (.iload_n 3, 1) := by decide +kernel
theorem dc_Mac_seal_35 : decode bc_Mac_seal 35 = .ok (.ireturn, 1) := by decide +kernel
theorem dc_Rev_init_0 : decode bc_Rev_init 0 = .ok (.aload_n 0, 1) := by decide +kernel
theorem dc_Rev_init_1 : decode bc_Rev_init 1 = .ok (.invokespecial 1, 3) := by decide +kernel
theorem dc_Rev_init_4 : decode bc_Rev_init 4 = .ok (.aload_n 0, 1) := by decide +kernel
theorem dc_Rev_init_5 : decode bc_Rev_init 5 = .ok (.aload_n 1, 1) := by decide +kernel
theorem dc_Rev_init_6 : decode bc_Rev_init 6 = .ok (.getfield 7, 3) := by decide +kernel
theorem dc_Rev_init_9 : decode bc_Rev_init 9 = .ok (.putfield 13, 3) := by decide +kernel
theorem dc_Rev_init_12 : decode bc_Rev_init 12 = .ok (.aload_n 0, 1) := by decide +kernel
theorem dc_Rev_init_13 : decode bc_Rev_init 13 = .ok (.iload_n 2, 1) := by decide +kernel
theorem dc_Rev_init_14 : decode bc_Rev_init 14 = .ok (.putfield 16, 3) := by decide +kernel
theorem dc_Rev_init_17 : decode bc_Rev_init 17 = .ok (.aload_n 0, 1) := by decide +kernel
theorem dc_Rev_init_18 : decode bc_Rev_init 18 = .ok (.aload_n 1, 1) := by decide +kernel
theorem dc_Rev_init_19 : decode bc_Rev_init 19 = .ok (.getfield 19, 3) := by decide +kernel
theorem dc_Rev_init_22 : decode bc_Rev_init 22 = .ok (.putfield 22, 3) := by decide +kernel
theorem dc_Rev_init_25 : decode bc_Rev_init 25 = .ok (.aload_n 0, 1) := by decide +kernel
theorem dc_Rev_init_26 : decode bc_Rev_init 26 = .ok (.aload_n 1, 1) := by decide +kernel
theorem dc_Rev_init_27 : decode bc_Rev_init 27 = .ok (.getfield 23, 3) := by decide +kernel
theorem dc_Rev_init_30 : decode bc_Rev_init 30 = .ok (.iconst 1, 1) := by decide +kernel
theorem dc_Rev_init_31 : decode bc_Rev_init 31 = .ok (.if_icmp .ne 7, 3) := by decide +kernel
theorem dc_Rev_init_34 : decode bc_Rev_init 34 = .ok (.iconst 1, 1) := by decide +kernel
theorem dc_Rev_init_35 : decode bc_Rev_init 35 = .ok (.goto 4, 3) := by decide +kernel
theorem dc_Rev_init_38 : decode bc_Rev_init 38 = .ok (.iconst 0, 1) := by decide +kernel
theorem dc_Rev_init_39 : decode bc_Rev_init 39 = .ok (.putfield 28, 3) := by decide +kernel
theorem dc_Rev_init_42 : decode bc_Rev_init 42 = .ok (.return_, 1) := by decide +kernel
theorem dc_Obj_init_0 : decode bc_Obj_init 0 = .ok (.return_, 1) := by decide +kernel
theorem dc_AL_init_0 : decode bc_AL_init 0 = .ok (.aload_n 0, 1) := by decide +kernel
theorem dc_AL_init_1 : decode bc_AL_init 1 = .ok (.invokespecial 1, 3) := by decide +kernel
theorem dc_AL_init_4 : decode bc_AL_init 4 = .ok (.aload_n 0, 1) := by decide +kernel
theorem dc_AL_init_5 : decode bc_AL_init 5 = .ok (.getstatic 39, 3) := by decide +kernel
theorem dc_AL_init_8 : decode bc_AL_init 8 = .ok (.putfield 9, 3) := by decide +kernel
theorem dc_AL_init_11 : decode bc_AL_init 11 = .ok (.return_, 1) := by decide +kernel
theorem dc_AL_size_0 : decode bc_AL_size 0 = .ok (.aload_n 0, 1) := by decide +kernel
theorem dc_AL_size_1 : decode bc_AL_size 1 = .ok (.getfield 48, 3) := by decide +kernel
theorem dc_AL_size_4 : decode bc_AL_size 4 = .ok (.ireturn, 1) := by decide +kernel
theorem dc_AL_add_0 : decode bc_AL_add 0 = .ok (.aload_n 0, 1) := by decide +kernel
theorem dc_AL_add_1 : decode bc_AL_add 1 = .ok (.dup, 1) := by decide +kernel
theorem dc_AL_add_2 : decode bc_AL_add 2 = .ok (.getfield 63, 3) := by decide +kernel
theorem dc_AL_add_5 : decode bc_AL_add 5 = .ok (.iconst 1, 1) := by decide +kernel
theorem dc_AL_add_6 : decode bc_AL_add 6 = .ok (.iadd, 1) := by decide +kernel
theorem dc_AL_add_7 : decode bc_AL_add 7 = .ok (.putfield 63, 3) := by decide +kernel
theorem dc_AL_add_10 : decode bc_AL_add 10 = .ok (.aload_n 0, 1) := by decide +kernel
theorem dc_AL_add_11 : decode bc_AL_add 11 = .ok (.aload_n 1, 1) := by decide +kernel
theorem dc_AL_add_12 : decode bc_AL_add 12 = .ok (.aload_n 0, 1) := by decide +kernel
theorem dc_AL_add_13 : decode bc_AL_add 13 = .ok (.getfield 9, 3) := by decide +kernel
theorem dc_AL_add_16 : decode bc_AL_add 16 = .ok (.aload_n 0, 1) := by decide +kernel
theorem dc_AL_add_17 : decode bc_AL_add 17 = .ok (.getfield 48, 3) := by decide +kernel
theorem dc_AL_add_20 : decode bc_AL_add 20 = .ok (.invokevirtual 131, 3) := by decide +kernel
theorem dc_AL_add_23 : decode bc_AL_add 23 = .ok (.iconst 1, 1) := by decide +kernel
theorem dc_AL_add_24 : decode bc_AL_add 24 = .ok (.ireturn, 1) := by decide +kernel
theorem dc_AL_add2_0 : decode bc_AL_add2 0 = .ok (.iload_n 3, 1) := by decide +kernel
theorem dc_AL_add2_1 : decode bc_AL_add2 1 = .ok (.aload_n 2, 1) := by decide +kernel
theorem dc_AL_add2_2 : decode bc_AL_add2 2 = .ok (.arraylength, 1) := by decide +kernel
theorem dc_AL_add2_3 : decode bc_AL_add2 3 = .ok (.if_icmp .ne 8, 3) := by decide +kernel
theorem dc_AL_add2_6 : decode bc_AL_add2 6 = .ok (.aload_n 0, 1) := by decide +kernel
theorem dc_AL_add2_7 : decode bc_AL_add2 7 = .ok (.invokevirtual 129, 3) := by decide +kernel
theorem dc_AL_add2_10 : decode bc_AL_add2 10 = .ok (.astore_n 2, 1) := by decide +kernel
theorem dc_AL_add2_11 : decode bc_AL_add2 11 = .ok (.aload_n 2, 1) := by decide +kernel
theorem dc_AL_add2_12 : decode bc_AL_add2 12 = .ok (.iload_n 3, 1) := by decide +kernel
theorem dc_AL_add2_13 : decode bc_AL_add2 13 = .ok (.aload_n 1, 1) := by decide +kernel
theorem dc_AL_add2_14 : decode bc_AL_add2 14 = .ok (.aastore, 1) := by decide +kernel
theorem dc_AL_add2_15 : decode bc_AL_add2 15 = .ok (.aload_n 0, 1) := by decide +kernel
theorem dc_AL_add2_16 : decode bc_AL_add2 16 = .ok (.iload_n 3, 1) := by decide +kernel
theorem dc_AL_add2_17 : decode bc_AL_add2 17 = .ok (.iconst 1, 1) := by decide +kernel
theorem dc_AL_add2_18 : decode bc_AL_add2 18 = .ok (.iadd, 1) := by decide +kernel
theorem dc_AL_add2_19 : decode bc_AL_add2 19 = .ok (.putfield 48, 3) := by decide +kernel
theorem dc_AL_add2_22 : decode bc_AL_add2 22 = .ok (.return_, 1) := by decide +kernel
theorem dc_AL_grow_0 : decode bc_AL_grow 0 = .ok (.aload_n 0, 1) := by decide +kernel
theorem dc_AL_grow_1 : decode bc_AL_grow 1 = .ok (.aload_n 0, 1) := by decide +kernel
theorem dc_AL_grow_2 : decode bc_AL_grow 2 = .ok (.getfield 48, 3) := by decide +kernel
theorem dc_AL_grow_5 : decode bc_AL_grow 5 = .ok (.iconst 1, 1) := by decide +kernel
theorem dc_AL_grow_6 : decode bc_AL_grow 6 = .ok (.iadd, 1) := by decide +kernel
theorem dc_AL_grow_7 : decode bc_AL_grow 7 = .ok (.invokevirtual 69, 3) := by decide +kernel
theorem dc_AL_grow_10 : decode bc_AL_grow 10 = .ok (.areturn, 1) := by decide +kernel
theorem dc_AL_grow2_0 : decode bc_AL_grow2 0 = .ok (.aload_n 0, 1) := by decide +kernel
theorem dc_AL_grow2_1 : decode bc_AL_grow2 1 = .ok (.getfield 9, 3) := by decide +kernel
theorem dc_AL_grow2_4 : decode bc_AL_grow2 4 = .ok (.arraylength, 1) := by decide +kernel
theorem dc_AL_grow2_5 : decode bc_AL_grow2 5 = .ok (.istore_n 2, 1) := by decide +kernel
theorem dc_AL_grow2_6 : decode bc_AL_grow2 6 = .ok (.iload_n 2, 1) := by decide +kernel
theorem dc_AL_grow2_7 : decode bc_AL_grow2 7 = .ok (.ifCond .gt 13, 3) := by decide +kernel
theorem dc_AL_grow2_10 : decode bc_AL_grow2 10 = .ok (.aload_n 0, 1) := by decide +kernel
theorem dc_AL_grow2_11 : decode bc_AL_grow2 11 = .ok (.getfield 9, 3) := by decide +kernel
theorem dc_AL_grow2_14 : decode bc_AL_grow2 14 = .ok (.getstatic 39, 3) := by decide +kernel
theorem dc_AL_grow2_17 : decode bc_AL_grow2 17 = .ok (.if_acmp .eq 28, 3) := by decide +kernel
theorem dc_AL_grow2_20 : decode bc_AL_grow2 20 = .ok (.iload_n 2, 1) := by decide +kernel
theorem dc_AL_grow2_21 : decode bc_AL_grow2 21 = .ok (.iload_n 1, 1) := by decide +kernel
theorem dc_AL_grow2_22 : decode bc_AL_grow2 22 = .ok (.iload_n 2, 1) := by decide +kernel
theorem dc_AL_grow2_23 : decode bc_AL_grow2 23 = .ok (.isub, 1) := by decide +kernel
theorem dc_AL_grow2_24 : decode bc_AL_grow2 24 = .ok (.iload_n 2, 1) := by decide +kernel
theorem dc_AL_grow2_25 : decode bc_AL_grow2 25 = .ok (.iconst 1, 1) := by decide +kernel
theorem dc_AL_grow2_26 : decode bc_AL_grow2 26 = .ok (.ishr, 1) := by decide +kernel
theorem dc_AL_grow2_27 : decode bc_AL_grow2 27 = .ok (.invokestatic 73, 3) := by decide +kernel
theorem dc_AL_grow2_30 : decode bc_AL_grow2 30 = .ok (.istore_n 3, 1) := by decide +kernel
theorem dc_AL_grow2_31 : decode bc_AL_grow2 31 = .ok (.aload_n 0, 1) := by decide +kernel
theorem dc_AL_grow2_32 : decode bc_AL_grow2 32 = .ok (.aload_n 0, 1) := by decide +kernel
theorem dc_AL_grow2_33 : decode bc_AL_grow2 33 = .ok (.getfield 9, 3) := by decide +kernel
theorem dc_AL_grow2_36 : decode bc_AL_grow2 36 = .ok (.iload_n 3, 1) := by decide +kernel
theorem dc_AL_grow2_37 : decode bc_AL_grow2 37 = .ok (.invokestatic 66, 3) := by decide +kernel
theorem dc_AL_grow2_40 : decode bc_AL_grow2 40 = .ok (.dup_x1, 1) := by decide +kernel
theorem dc_AL_grow2_41 : decode bc_AL_grow2 41 = .ok (.putfield 9, 3) := by decide +kernel
theorem dc_AL_grow2_44 : decode bc_AL_grow2 44 = .ok (.areturn, 1) := by decide +kernel
theorem dc_AL_grow2_45 : decode bc_AL_grow2 45 = .ok (.aload_n 0, 1) := by decide +kernel
theorem dc_AL_grow2_46 : decode bc_AL_grow2 46 = .ok (.bipush 10, 2) := by decide +kernel
theorem dc_AL_grow2_48 : decode bc_AL_grow2 48 = .ok (.iload_n 1, 1) := by decide +kernel
theorem dc_AL_grow2_49 : decode bc_AL_grow2 49 = .ok (.invokestatic 79, 3) := by decide +kernel
theorem dc_AL_grow2_52 : decode bc_AL_grow2 52 = .ok (.anewarray 7, 3) := by decide +kernel
theorem dc_AL_grow2_55 : decode bc_AL_grow2 55 = .ok (.dup_x1, 1) := by decide +kernel
theorem dc_AL_grow2_56 : decode bc_AL_grow2 56 = .ok (.putfield 9, 3) := by decide +kernel
theorem dc_AL_grow2_59 : decode bc_AL_grow2 59 = .ok (.areturn, 1) := by decide +kernel
theorem dc_AL_isEmpty_0 : decode bc_AL_isEmpty 0 = .ok (.aload_n 0, 1) := by decide +kernel
theorem dc_AL_isEmpty_1 : decode bc_AL_isEmpty 1 = .ok (.getfield 48, 3) := by decide +kernel
theorem dc_AL_isEmpty_4 : decode bc_AL_isEmpty 4 = .ok (.ifCond .ne 7, 3) := by decide +kernel
theorem dc_AL_isEmpty_7 : decode bc_AL_isEmpty 7 = .ok (.iconst 1, 1) := by decide +kernel
theorem dc_AL_isEmpty_8 : decode bc_AL_isEmpty 8 = .ok (.goto 4, 3) := by decide +kernel
theorem dc_AL_isEmpty_11 : decode bc_AL_isEmpty 11 = .ok (.iconst 0, 1) := by decide +kernel
theorem dc_AL_isEmpty_12 : decode bc_AL_isEmpty 12 = .ok (.ireturn, 1) := by decide +kernel
theorem dc_AL_get_0 : decode bc_AL_get 0 = .ok (.iload_n 1, 1) := by decide +kernel
theorem dc_AL_get_1 : decode bc_AL_get 1 = .ok (.aload_n 0, 1) := by decide +kernel
theorem dc_AL_get_2 : decode bc_AL_get 2 = .ok (.getfield 48, 3) := by decide +kernel
theorem dc_AL_get_5 : decode bc_AL_get 5 = .ok (.invokestatic 118, 3) := by decide +kernel
theorem dc_AL_get_8 : decode bc_AL_get 8 = .ok (.pop, 1) := by decide +kernel
theorem dc_AL_get_9 : decode bc_AL_get 9 = .ok (.aload_n 0, 1) := by decide +kernel
theorem dc_AL_get_10 : decode bc_AL_get 10 = .ok (.iload_n 1, 1) := by decide +kernel
theorem dc_AL_get_11 : decode bc_AL_get 11 = .ok (.invokevirtual 123, 3) := by decide +kernel
theorem dc_AL_get_14 : decode bc_AL_get 14 = .ok (.areturn, 1) := by decide +kernel
theorem dc_AL_elementData_0 : decode bc_AL_elementData 0 = .ok (.aload_n 0, 1) := by decide +kernel
theorem dc_AL_elementData_1 : decode bc_AL_elementData 1 = .ok (.getfield 9, 3) := by decide +kernel
theorem dc_AL_elementData_4 : decode bc_AL_elementData 4 = .ok (.iload_n 1, 1) := by decide +kernel
theorem dc_AL_elementData_5 : decode bc_AL_elementData 5 = .ok (.aaload, 1) := by decide +kernel
theorem dc_AL_elementData_6 : decode bc_AL_elementData 6 = .ok (.areturn, 1) := by decide +kernel
theorem dc_AL_remove_0 : decode bc_AL_remove 0 = .ok (.iload_n 1, 1) := by decide +kernel
theorem dc_AL_remove_1 : decode bc_AL_remove 1 = .ok (.aload_n 0, 1) := by decide +kernel
theorem dc_AL_remove_2 : decode bc_AL_remove 2 = .ok (.getfield 48, 3) := by decide +kernel
theorem dc_AL_remove_5 : decode bc_AL_remove 5 = .ok (.invokestatic 118, 3) := by decide +kernel
theorem dc_AL_remove_8 : decode bc_AL_remove 8 = .ok (.pop, 1) := by decide +kernel
theorem dc_AL_remove_9 : decode bc_AL_remove 9 = .ok (.aload_n 0, 1) := by decide +kernel
theorem dc_AL_remove_10 : decode bc_AL_remove 10 = .ok (.getfield 9, 3) := by decide +kernel
theorem dc_AL_remove_13 : decode bc_AL_remove 13 = .ok (.astore_n 2, 1) := by decide +kernel
theorem dc_AL_remove_14 : decode bc_AL_remove 14 = .ok (.aload_n 2, 1) := by decide +kernel
theorem dc_AL_remove_15 : decode bc_AL_remove 15 = .ok (.iload_n 1, 1) := by decide +kernel
theorem dc_AL_remove_16 : decode bc_AL_remove 16 = .ok (.aaload, 1) := by decide +kernel
theorem dc_AL_remove_17 : decode bc_AL_remove 17 = .ok (.astore_n 3, 1) := by decide +kernel
theorem dc_AL_remove_18 : decode bc_AL_remove 18 = .ok (.aload_n 0, 1) := by decide +kernel
theorem dc_AL_remove_19 : decode bc_AL_remove 19 = .ok (.aload_n 2, 1) := by decide +kernel
theorem dc_AL_remove_20 : decode bc_AL_remove 20 = .ok (.iload_n 1, 1) := by decide +kernel
theorem dc_AL_remove_21 : decode bc_AL_remove 21 = .ok (.invokevirtual 144, 3) := by decide +kernel
theorem dc_AL_remove_24 : decode bc_AL_remove 24 = .ok (.aload_n 3, 1) := by decide +kernel
theorem dc_AL_remove_25 : decode bc_AL_remove 25 = .ok (.areturn, 1) := by decide +kernel
theorem dc_AL_fastRemove_0 : decode bc_AL_fastRemove 0 = .ok (.aload_n 0, 1) := by decide +kernel
theorem dc_AL_fastRemove_1 : decode bc_AL_fastRemove 1 = .ok (.dup, 1) := by decide +kernel
theorem dc_AL_fastRemove_2 : decode bc_AL_fastRemove 2 = .ok (.getfield 63, 3) := by decide +kernel
theorem dc_AL_fastRemove_5 : decode bc_AL_fastRemove 5 = .ok (.iconst 1, 1) := by decide +kernel
theorem dc_AL_fastRemove_6 : decode bc_AL_fastRemove 6 = .ok (.iadd, 1) := by decide +kernel
theorem dc_AL_fastRemove_7 : decode bc_AL_fastRemove 7 = .ok (.putfield 63, 3) := by decide +kernel
theorem dc_AL_fastRemove_10 : decode bc_AL_fastRemove 10 = .ok (.aload_n 0, 1) := by decide +kernel
theorem dc_AL_fastRemove_11 : decode bc_AL_fastRemove 11 = .ok (.getfield 48, 3) := by decide +kernel
theorem dc_AL_fastRemove_14 : decode bc_AL_fastRemove 14 = .ok (.iconst 1, 1) := by decide +kernel
theorem dc_AL_fastRemove_15 : decode bc_AL_fastRemove 15 = .ok (.isub, 1) := by decide +kernel
theorem dc_AL_fastRemove_16 : decode bc_AL_fastRemove 16 = .ok (.dup, 1) := by decide +kernel
theorem dc_AL_fastRemove_17 : decode bc_AL_fastRemove 17 = .ok (.istore_n 3, 1) := by decide +kernel
theorem dc_AL_fastRemove_18 : decode bc_AL_fastRemove 18 = .ok (.iload_n 2, 1) := by decide +kernel
theorem dc_AL_fastRemove_19 : decode bc_AL_fastRemove 19 = .ok (.if_icmp .le 15, 3) := by decide +kernel
theorem dc_AL_fastRemove_22 : decode bc_AL_fastRemove 22 = .ok (.aload_n 1, 1) := by decide +kernel
theorem dc_AL_fastRemove_23 : decode bc_AL_fastRemove 23 = .ok (.iload_n 2, 1) := by decide +kernel
theorem dc_AL_fastRemove_24 : decode bc_AL_fastRemove 24 = .ok (.iconst 1, 1) := by decide +kernel
theorem dc_AL_fastRemove_25 : decode bc_AL_fastRemove 25 = .ok (.iadd, 1) := by decide +kernel
theorem dc_AL_fastRemove_26 : decode bc_AL_fastRemove 26 = .ok (.aload_n 1, 1) := by decide +kernel
theorem dc_AL_fastRemove_27 : decode bc_AL_fastRemove 27 = .ok (.iload_n 2, 1) := by decide +kernel
theorem dc_AL_fastRemove_28 : decode bc_AL_fastRemove 28 = .ok (.iload_n 3, 1) := by decide +kernel
theorem dc_AL_fastRemove_29 : decode bc_AL_fastRemove 29 = .ok (.iload_n 2, 1) := by decide +kernel
theorem dc_AL_fastRemove_30 : decode bc_AL_fastRemove 30 = .ok (.isub, 1) := by decide +kernel
theorem dc_AL_fastRemove_31 : decode bc_AL_fastRemove 31 = .ok (.invokestatic 112, 3) := by decide +kernel
theorem dc_AL_fastRemove_34 : decode bc_AL_fastRemove 34 = .ok (.aload_n 1, 1) := by decide +kernel
theorem dc_AL_fastRemove_35 : decode bc_AL_fastRemove 35 = .ok (.aload_n 0, 1) := by decide +kernel
theorem dc_AL_fastRemove_36 : decode bc_AL_fastRemove 36 = .ok (.iload_n 3, 1) := by decide +kernel
theorem dc_AL_fastRemove_37 : decode bc_AL_fastRemove 37 = .ok (.dup_x1, 1) := by decide +kernel
theorem dc_AL_fastRemove_38 : decode bc_AL_fastRemove 38 = .ok (.putfield 48, 3) := by decide +kernel
theorem dc_AL_fastRemove_41 : decode bc_AL_fastRemove 41 = .ok (.aconst_null, 1) := by decide +kernel
theorem dc_AL_fastRemove_42 : decode bc_AL_fastRemove 42 = .ok (.aastore, 1) := by decide +kernel
theorem dc_AL_fastRemove_43 : decode bc_AL_fastRemove 43 = .ok (.return_, 1) := by decide +kernel
theorem dc_AbL_init_0 : decode bc_AbL_init 0 = .ok (.aload_n 0, 1) := by decide +kernel
theorem dc_AbL_init_1 : decode bc_AbL_init 1 = .ok (.invokespecial 1, 3) := by decide +kernel
theorem dc_AbL_init_4 : decode bc_AbL_init 4 = .ok (.aload_n 0, 1) := by decide +kernel
theorem dc_AbL_init_5 : decode bc_AbL_init 5 = .ok (.iconst 0, 1) := by decide +kernel
theorem dc_AbL_init_6 : decode bc_AbL_init 6 = .ok (.putfield 7, 3) := by decide +kernel
theorem dc_AbL_init_9 : decode bc_AbL_init 9 = .ok (.return_, 1) := by decide +kernel
theorem dc_AbC_init_0 : decode bc_AbC_init 0 = .ok (.aload_n 0, 1) := by decide +kernel
theorem dc_AbC_init_1 : decode bc_AbC_init 1 = .ok (.invokespecial 1, 3) := by decide +kernel
theorem dc_AbC_init_4 : decode bc_AbC_init 4 = .ok (.return_, 1) := by decide +kernel
theorem dc_ArrS_newLength_0 : decode bc_ArrS_newLength 0 = .ok (.iload_n 0, 1) := by decide +kernel
theorem dc_ArrS_newLength_1 : decode bc_ArrS_newLength 1 = .ok (.iload_n 1, 1) := by decide +kernel
theorem dc_ArrS_newLength_2 : decode bc_ArrS_newLength 2 = .ok (.iload_n 2, 1) := by decide +kernel
theorem dc_ArrS_newLength_3 : decode bc_ArrS_newLength 3 = .ok (.invokestatic 194, 3) := by decide +kernel
theorem dc_ArrS_newLength_6 : decode bc_ArrS_newLength 6 = .ok (.iadd, 1) := by decide +kernel
theorem dc_ArrS_newLength_7 : decode bc_ArrS_newLength 7 = .ok (.istore_n 3, 1) := by decide +kernel
theorem dc_ArrS_newLength_8 : decode bc_ArrS_newLength 8 = .ok (.iconst 0, 1) := by decide +kernel
theorem dc_ArrS_newLength_9 : decode bc_ArrS_newLength 9 = .ok (.iload_n 3, 1) := by decide +kernel
theorem dc_ArrS_newLength_10 : decode bc_ArrS_newLength 10 = .ok (.if_icmp .ge 11, 3) := by decide +kernel
theorem dc_ArrS_newLength_13 : decode bc_ArrS_newLength 13 = .ok (.iload_n 3, 1) := by decide +kernel
theorem dc_ArrS_newLength_14 : decode bc_ArrS_newLength 14 = .ok (.ldc 200, 2) := by decide +kernel
theorem dc_ArrS_newLength_16 : decode bc_ArrS_newLength 16 = .ok (.if_icmp .gt 5, 3) := by decide +kernel
theorem dc_ArrS_newLength_19 : decode bc_ArrS_newLength 19 = .ok (.iload_n 3, 1) := by decide +kernel
theorem dc_ArrS_newLength_20 : decode bc_ArrS_newLength 20 = .ok (.ireturn, 1) := by decide +kernel
theorem dc_ArrS_newLength_21 : decode bc_ArrS_newLength 21 = .ok (.iload_n 0, 1) := by decide +kernel
theorem dc_ArrS_newLength_22 : decode bc_ArrS_newLength 22 = .ok (.iload_n 1, 1) := by decide +kernel
theorem dc_ArrS_newLength_23 : decode bc_ArrS_newLength 23 = .ok (.invokestatic 201, 3) := by decide +kernel
theorem dc_ArrS_newLength_26 : decode bc_ArrS_newLength 26 = .ok (.ireturn, 1) := by decide +kernel
theorem dc_Math_max_0 : decode bc_Math_max 0 = .ok (.iload_n 0, 1) := by decide +kernel
theorem dc_Math_max_1 : decode bc_Math_max 1 = .ok (.iload_n 1, 1) := by decide +kernel
theorem dc_Math_max_2 : decode bc_Math_max 2 = .ok (.if_icmp .lt 7, 3) := by decide +kernel
theorem dc_Math_max_5 : decode bc_Math_max 5 = .ok (.iload_n 0, 1) := by decide +kernel
theorem dc_Math_max_6 : decode bc_Math_max 6 = .ok (.goto 4, 3) := by decide +kernel
theorem dc_Math_max_9 : decode bc_Math_max 9 = .ok (.iload_n 1, 1) := by decide +kernel
theorem dc_Math_max_10 : decode bc_Math_max 10 = .ok (.ireturn, 1) := by decide +kernel
theorem dc_Math_min_0 : decode bc_Math_min 0 = .ok (.iload_n 0, 1) := by decide +kernel
theorem dc_Math_min_1 : decode bc_Math_min 1 = .ok (.iload_n 1, 1) := by decide +kernel
theorem dc_Math_min_2 : decode bc_Math_min 2 = .ok (.if_icmp .gt 7, 3) := by decide +kernel
theorem dc_Math_min_5 : decode bc_Math_min 5 = .ok (.iload_n 0, 1) := by decide +kernel
theorem dc_Math_min_6 : decode bc_Math_min 6 = .ok (.goto 4, 3) := by decide +kernel
theorem dc_Math_min_9 : decode bc_Math_min 9 = .ok (.iload_n 1, 1) := by decide +kernel
theorem dc_Math_min_10 : decode bc_Math_min 10 = .ok (.ireturn, 1) := by decide +kernel
theorem dc_Arrs_copyOf_0 : decode bc_Arrs_copyOf 0 = .ok (.aload_n 0, 1) := by decide +kernel
theorem dc_Arrs_copyOf_1 : decode bc_Arrs_copyOf 1 = .ok (.iload_n 1, 1) := by decide +kernel
theorem dc_Arrs_copyOf_2 : decode bc_Arrs_copyOf 2 = .ok (.aload_n 0, 1) := by decide +kernel
theorem dc_Arrs_copyOf_3 : decode bc_Arrs_copyOf 3 = .ok (.invokevirtual 86, 3) := by decide +kernel
theorem dc_Arrs_copyOf_6 : decode bc_Arrs_copyOf 6 = .ok (.invokestatic 300, 3) := by decide +kernel
theorem dc_Arrs_copyOf_9 : decode bc_Arrs_copyOf 9 = .ok (.areturn, 1) := by decide +kernel
theorem dc_Arrs_copyOf2_0 : decode bc_Arrs_copyOf2 0 = .ok (.aload_n 2, 1) := by decide +kernel
theorem dc_Arrs_copyOf2_1 : decode bc_Arrs_copyOf2 1 = .ok (.ldc 110, 2) := by decide +kernel
theorem dc_Arrs_copyOf2_3 : decode bc_Arrs_copyOf2 3 = .ok (.if_acmp .ne 10, 3) := by decide +kernel
theorem dc_Arrs_copyOf2_6 : decode bc_Arrs_copyOf2 6 = .ok (.iload_n 1, 1) := by decide +kernel
theorem dc_Arrs_copyOf2_7 : decode bc_Arrs_copyOf2 7 = .ok (.anewarray 2, 3) := by decide +kernel
theorem dc_Arrs_copyOf2_10 : decode bc_Arrs_copyOf2 10 = .ok (.goto 14, 3) := by decide +kernel
theorem dc_Arrs_copyOf2_13 : decode bc_Arrs_copyOf2 13 = .ok (.aload_n 2, 1) := by decide +kernel
theorem dc_Arrs_copyOf2_14 : decode bc_Arrs_copyOf2 14 = .ok (.invokevirtual 90, 3) := by decide +kernel
theorem dc_Arrs_copyOf2_17 : decode bc_Arrs_copyOf2 17 = .ok (.iload_n 1, 1) := by decide +kernel
theorem dc_Arrs_copyOf2_18 : decode bc_Arrs_copyOf2 18 = .ok (.invokestatic 95, 3) := by decide +kernel
theorem dc_Arrs_copyOf2_21 : decode bc_Arrs_copyOf2 21 = .ok (.checkcast 110, 3) := by decide +kernel
theorem dc_Arrs_copyOf2_24 : decode bc_Arrs_copyOf2 24 = .ok (.astore_n 3, 1) := by decide +kernel
theorem dc_Arrs_copyOf2_25 : decode bc_Arrs_copyOf2 25 = .ok (.aload_n 0, 1) := by decide +kernel
theorem dc_Arrs_copyOf2_26 : decode bc_Arrs_copyOf2 26 = .ok (.iconst 0, 1) := by decide +kernel
theorem dc_Arrs_copyOf2_27 : decode bc_Arrs_copyOf2 27 = .ok (.aload_n 3, 1) := by decide +kernel
theorem dc_Arrs_copyOf2_28 : decode bc_Arrs_copyOf2 28 = .ok (.iconst 0, 1) := by decide +kernel
theorem dc_Arrs_copyOf2_29 : decode bc_Arrs_copyOf2 29 = .ok (.aload_n 0, 1) := by decide +kernel
theorem dc_Arrs_copyOf2_30 : decode bc_Arrs_copyOf2 30 = .ok (.arraylength, 1) := by decide +kernel
theorem dc_Arrs_copyOf2_31 : decode bc_Arrs_copyOf2 31 = .ok (.iload_n 1, 1) := by decide +kernel
theorem dc_Arrs_copyOf2_32 : decode bc_Arrs_copyOf2 32 = .ok (.invokestatic 304, 3) := by decide +kernel
theorem dc_Arrs_copyOf2_35 : decode bc_Arrs_copyOf2 35 = .ok (.invokestatic 150, 3) := by decide +kernel
theorem dc_Arrs_copyOf2_38 : decode bc_Arrs_copyOf2 38 = .ok (.aload_n 3, 1) := by decide +kernel
theorem dc_Arrs_copyOf2_39 : decode bc_Arrs_copyOf2 39 = .ok (.areturn, 1) := by decide +kernel
theorem dc_Objs_checkIndex_0 : decode bc_Objs_checkIndex 0 = .ok (.iload_n 0, 1) := by decide +kernel
theorem dc_Objs_checkIndex_1 : decode bc_Objs_checkIndex 1 = .ok (.iload_n 1, 1) := by decide +kernel
theorem dc_Objs_checkIndex_2 : decode bc_Objs_checkIndex 2 = .ok (.aconst_null, 1) := by decide +kernel
theorem dc_Objs_checkIndex_3 : decode bc_Objs_checkIndex 3 = .ok (.invokestatic 105, 3) := by decide +kernel
theorem dc_Objs_checkIndex_6 : decode bc_Objs_checkIndex 6 = .ok (.ireturn, 1) := by decide +kernel
theorem dc_Prec_checkIndex_0 : decode bc_Prec_checkIndex 0 = .ok (.iload_n 0, 1) := by decide +kernel
theorem dc_Prec_checkIndex_1 : decode bc_Prec_checkIndex 1 = .ok (.ifCond .lt 8, 3) := by decide +kernel
theorem dc_Prec_checkIndex_4 : decode bc_Prec_checkIndex 4 = .ok (.iload_n 0, 1) := by decide +kernel
theorem dc_Prec_checkIndex_5 : decode bc_Prec_checkIndex 5 = .ok (.iload_n 1, 1) := by decide +kernel
theorem dc_Prec_checkIndex_6 : decode bc_Prec_checkIndex 6 = .ok (.if_icmp .lt 10, 3) := by decide +kernel
theorem dc_Prec_checkIndex_9 : decode bc_Prec_checkIndex 9 = .ok (.aload_n 2, 1) := by decide +kernel
theorem dc_Prec_checkIndex_10 : decode bc_Prec_checkIndex 10 = .ok (.iload_n 0, 1) := by decide +kernel
theorem dc_Prec_checkIndex_11 : decode bc_Prec_checkIndex 11 = .ok (.iload_n 1, 1) := by decide +kernel
theorem dc_Prec_checkIndex_12 : decode bc_Prec_checkIndex 12 = .ok (.invokestatic 95, 3) := by decide +kernel
theorem dc_Prec_checkIndex_15 : decode bc_Prec_checkIndex 15 = .ok (.athrow, 1) := by decide +kernel
theorem dc_Prec_checkIndex_16 : decode bc_Prec_checkIndex 16 = .ok (.iload_n 0, 1) := by decide +kernel
theorem dc_Prec_checkIndex_17 : decode bc_Prec_checkIndex 17 = .ok (.ireturn, 1) := by decide +kernel
