theorem dc_Mod_init_0 : decode bc_Mod_init 0 = .ok (.aload_n 0, 1) := by decide +kernel
theorem dc_Mod_init_1 : decode bc_Mod_init 1 = .ok (.invokespecial 1, 3) := by decide +kernel
theorem dc_Mod_init_4 : decode bc_Mod_init 4 = .ok (.aload_n 0, 1) := by decide +kernel
theorem dc_Mod_init_5 : decode bc_Mod_init 5 = .ok (.sipush 300, 3) := by decide +kernel
theorem dc_Mod_init_8 : decode bc_Mod_init 8 = .ok (.newarray .int, 2) := by decide +kernel
theorem dc_Mod_init_10 : decode bc_Mod_init 10 = .ok (.putfield 7, 3) := by decide +kernel
theorem dc_Mod_init_13 : decode bc_Mod_init 13 = .ok (.aload_n 0, 1) := by decide +kernel
theorem dc_Mod_init_14 : decode bc_Mod_init 14 = .ok (.iconst 5, 1) := by decide +kernel
theorem dc_Mod_init_15 : decode bc_Mod_init 15 = .ok (.newarray .int, 2) := by decide +kernel
theorem dc_Mod_init_17 : decode bc_Mod_init 17 = .ok (.putfield 13, 3) := by decide +kernel
theorem dc_Mod_init_20 : decode bc_Mod_init 20 = .ok (.aload_n 0, 1) := by decide +kernel
theorem dc_Mod_init_21 : decode bc_Mod_init 21 = .ok (.iconst 4, 1) := by decide +kernel
theorem dc_Mod_init_22 : decode bc_Mod_init 22 = .ok (.newarray .boolean, 2) := by decide +kernel
theorem dc_Mod_init_24 : decode bc_Mod_init 24 = .ok (.putfield 16, 3) := by decide +kernel
theorem dc_Mod_init_27 : decode bc_Mod_init 27 = .ok (.aload_n 0, 1) := by decide +kernel
theorem dc_Mod_init_28 : decode bc_Mod_init 28 = .ok (.iconst 4, 1) := by decide +kernel
theorem dc_Mod_init_29 : decode bc_Mod_init 29 = .ok (.newarray .int, 2) := by decide +kernel
theorem dc_Mod_init_31 : decode bc_Mod_init 31 = .ok (.putfield 20, 3) := by decide +kernel
theorem dc_Mod_init_34 : decode bc_Mod_init 34 = .ok (.aload_n 0, 1) := by decide +kernel
theorem dc_Mod_init_35 : decode bc_Mod_init 35 = .ok (.iconst 4, 1) := by decide +kernel
theorem dc_Mod_init_36 : decode bc_Mod_init 36 = .ok (.newarray .int, 2) := by decide +kernel
theorem dc_Mod_init_38 : decode bc_Mod_init 38 = .ok (.putfield 23, 3) := by decide +kernel
theorem dc_Mod_init_41 : decode bc_Mod_init 41 = .ok (.aload_n 0, 1) := by decide +kernel
theorem dc_Mod_init_42 : decode bc_Mod_init 42 = .ok (.iconst 4, 1) := by decide +kernel
theorem dc_Mod_init_43 : decode bc_Mod_init 43 = .ok (.newarray .int, 2) := by decide +kernel
theorem dc_Mod_init_45 : decode bc_Mod_init 45 = .ok (.putfield 26, 3) := by decide +kernel
theorem dc_Mod_init_48 : decode bc_Mod_init 48 = .ok (.aload_n 0, 1) := by decide +kernel
theorem dc_Mod_init_49 : decode bc_Mod_init 49 = .ok (.iconst 4, 1) := by decide +kernel
theorem dc_Mod_init_50 : decode bc_Mod_init 50 = .ok (.newarray .int, 2) := by decide +kernel
theorem dc_Mod_init_52 : decode bc_Mod_init 52 = .ok (.putfield 29, 3) := by decide +kernel
theorem dc_Mod_init_55 : decode bc_Mod_init 55 = .ok (.aload_n 0, 1) := by decide +kernel
theorem dc_Mod_init_56 : decode bc_Mod_init 56 = .ok (.iconst 4, 1) := by decide +kernel
theorem dc_Mod_init_57 : decode bc_Mod_init 57 = .ok (.newarray .int, 2) := by decide +kernel
theorem dc_Mod_init_59 : decode bc_Mod_init 59 = .ok (.putfield 32, 3) := by decide +kernel
theorem dc_Mod_init_62 : decode bc_Mod_init 62 = .ok (.aload_n 0, 1) := by decide +kernel
theorem dc_Mod_init_63 : decode bc_Mod_init 63 = .ok (.iconst 4, 1) := by decide +kernel
theorem dc_Mod_init_64 : decode bc_Mod_init 64 = .ok (.newarray .boolean, 2) := by decide +kernel
theorem dc_Mod_init_66 : decode bc_Mod_init 66 = .ok (.putfield 35, 3) := by decide +kernel
theorem dc_Mod_init_69 : decode bc_Mod_init 69 = .ok (.aload_n 0, 1) := by decide +kernel
theorem dc_Mod_init_70 : decode bc_Mod_init 70 = .ok (.bipush 8, 2) := by decide +kernel
theorem dc_Mod_init_72 : decode bc_Mod_init 72 = .ok (.newarray .int, 2) := by decide +kernel
theorem dc_Mod_init_74 : decode bc_Mod_init 74 = .ok (.putfield 38, 3) := by decide +kernel
theorem dc_Mod_init_77 : decode bc_Mod_init 77 = .ok (.aload_n 0, 1) := by decide +kernel
theorem dc_Mod_init_78 : decode bc_Mod_init 78 = .ok (.bipush 8, 2) := by decide +kernel
theorem dc_Mod_init_80 : decode bc_Mod_init 80 = .ok (.newarray .int, 2) := by decide +kernel
theorem dc_Mod_init_82 : decode bc_Mod_init 82 = .ok (.putfield 41, 3) := by decide +kernel
theorem dc_Mod_init_85 : decode bc_Mod_init 85 = .ok (.aload_n 0, 1) := by decide +kernel
theorem dc_Mod_init_86 : decode bc_Mod_init 86 = .ok (.bipush 8, 2) := by decide +kernel
theorem dc_Mod_init_88 : decode bc_Mod_init 88 = .ok (.newarray .int, 2) := by decide +kernel
theorem dc_Mod_init_90 : decode bc_Mod_init 90 = .ok (.putfield 44, 3) := by decide +kernel
theorem dc_Mod_init_93 : decode bc_Mod_init 93 = .ok (.aload_n 0, 1) := by decide +kernel
theorem dc_Mod_init_94 : decode bc_Mod_init 94 = .ok (.bipush 7, 2) := by decide +kernel
theorem dc_Mod_init_96 : decode bc_Mod_init 96 = .ok (.newarray .int, 2) := by decide +kernel
theorem dc_Mod_init_98 : decode bc_Mod_init 98 = .ok (.putfield 47, 3) := by decide +kernel
theorem dc_Mod_init_101 : decode bc_Mod_init 101 = .ok (.aload_n 0, 1) := by decide +kernel
theorem dc_Mod_init_102 : decode bc_Mod_init 102 = .ok (.iconst (-1), 1) := by decide +kernel
theorem dc_Mod_init_103 : decode bc_Mod_init 103 = .ok (.putfield 50, 3) := by decide +kernel
theorem dc_Mod_init_106 : decode bc_Mod_init 106 = .ok (.aload_n 0, 1) := by decide +kernel
theorem dc_Mod_init_107 : decode bc_Mod_init 107 = .ok (.sipush 513, 3) := by decide +kernel
theorem dc_Mod_init_110 : decode bc_Mod_init 110 = .ok (.newarray .int, 2) := by decide +kernel
theorem dc_Mod_init_112 : decode bc_Mod_init 112 = .ok (.putfield 54, 3) := by decide +kernel
theorem dc_Mod_init_115 : decode bc_Mod_init 115 = .ok (.aload_n 0, 1) := by decide +kernel
theorem dc_Mod_init_116 : decode bc_Mod_init 116 = .ok (.sipush 513, 3) := by decide +kernel
theorem dc_Mod_init_119 : decode bc_Mod_init 119 = .ok (.newarray .int, 2) := by decide +kernel
theorem dc_Mod_init_121 : decode bc_Mod_init 121 = .ok (.putfield 57, 3) := by decide +kernel
theorem dc_Mod_init_124 : decode bc_Mod_init 124 = .ok (.aload_n 0, 1) := by decide +kernel
theorem dc_Mod_init_125 : decode bc_Mod_init 125 = .ok (.sipush 513, 3) := by decide +kernel
theorem dc_Mod_init_128 : decode bc_Mod_init 128 = .ok (.newarray .int, 2) := by decide +kernel
theorem dc_Mod_init_130 : decode bc_Mod_init 130 = .ok (.putfield 60, 3) := by decide +kernel
theorem dc_Mod_init_133 : decode bc_Mod_init 133 = .ok (.aload_n 0, 1) := by decide +kernel
theorem dc_Mod_init_134 : decode bc_Mod_init 134 = .ok (.sipush 513, 3) := by decide +kernel
theorem dc_Mod_init_137 : decode bc_Mod_init 137 = .ok (.newarray .boolean, 2) := by decide +kernel
theorem dc_Mod_init_139 : decode bc_Mod_init 139 = .ok (.putfield 63, 3) := by decide +kernel
theorem dc_Mod_init_142 : decode bc_Mod_init 142 = .ok (.aload_n 0, 1) := by decide +kernel
theorem dc_Mod_init_143 : decode bc_Mod_init 143 = .ok (.bipush 7, 2) := by decide +kernel
theorem dc_Mod_init_145 : decode bc_Mod_init 145 = .ok (.newarray .int, 2) := by decide +kernel
theorem dc_Mod_init_147 : decode bc_Mod_init 147 = .ok (.putfield 66, 3) := by decide +kernel
theorem dc_Mod_init_150 : decode bc_Mod_init 150 = .ok (.aload_n 0, 1) := by decide +kernel
theorem dc_Mod_init_151 : decode bc_Mod_init 151 = .ok (.bipush 9, 2) := by decide +kernel
theorem dc_Mod_init_153 : decode bc_Mod_init 153 = .ok (.newarray .int, 2) := by decide +kernel
theorem dc_Mod_init_155 : decode bc_Mod_init 155 = .ok (.putfield 69, 3) := by decide +kernel
theorem dc_Mod_init_158 : decode bc_Mod_init 158 = .ok (.aload_n 0, 1) := by decide +kernel
theorem dc_Mod_init_159 : decode bc_Mod_init 159 = .ok (.bipush 40, 2) := by decide +kernel
theorem dc_Mod_init_161 : decode bc_Mod_init 161 = .ok (.newarray .int, 2) := by decide +kernel
theorem dc_Mod_init_163 : decode bc_Mod_init 163 = .ok (.putfield 72, 3) := by decide +kernel
theorem dc_Mod_init_166 : decode bc_Mod_init 166 = .ok (.return_, 1) := by decide +kernel
theorem dc_Mod_feed_0 : decode bc_Mod_feed 0 = .ok (.iload_n 1, 1) := by decide +kernel
theorem dc_Mod_feed_1 : decode bc_Mod_feed 1 = .ok (.iconst 0, 1) := by decide +kernel
theorem dc_Mod_feed_2 : decode bc_Mod_feed 2 = .ok (.sipush 255, 3) := by decide +kernel
theorem dc_Mod_feed_5 : decode bc_Mod_feed 5 = .ok (.invokestatic 101, 3) := by decide +kernel
theorem dc_Mod_feed_8 : decode bc_Mod_feed 8 = .ok (.ifCond .ne 5, 3) := by decide +kernel
theorem dc_Mod_feed_11 : decode bc_Mod_feed 11 = .ok (.iconst (-1), 1) := by decide +kernel
theorem dc_Mod_feed_12 : decode bc_Mod_feed 12 = .ok (.ireturn, 1) := by decide +kernel
theorem dc_Mod_feed_13 : decode bc_Mod_feed 13 = .ok (.aload_n 0, 1) := by decide +kernel
theorem dc_Mod_feed_14 : decode bc_Mod_feed 14 = .ok (.getfield 13, 3) := by decide +kernel
theorem dc_Mod_feed_17 : decode bc_Mod_feed 17 = .ok (.iconst 4, 1) := by decide +kernel
theorem dc_Mod_feed_18 : decode bc_Mod_feed 18 = .ok (.iaload, 1) := by decide +kernel
theorem dc_Mod_feed_19 : decode bc_Mod_feed 19 = .ok (.bipush 60, 2) := by decide +kernel
theorem dc_Mod_feed_21 : decode bc_Mod_feed 21 = .ok (.if_icmp .ne 6, 3) := by decide +kernel
theorem dc_Mod_feed_24 : decode bc_Mod_feed 24 = .ok (.bipush (-2), 2) := by decide +kernel
theorem dc_Mod_feed_26 : decode bc_Mod_feed 26 = .ok (.ireturn, 1) := by decide +kernel
theorem dc_Mod_feed_27 : decode bc_Mod_feed 27 = .ok (.aload_n 0, 1) := by decide +kernel
theorem dc_Mod_feed_28 : decode bc_Mod_feed 28 = .ok (.getfield 7, 3) := by decide +kernel
theorem dc_Mod_feed_31 : decode bc_Mod_feed 31 = .ok (.sipush 240, 3) := by decide +kernel
theorem dc_Mod_feed_34 : decode bc_Mod_feed 34 = .ok (.aload_n 0, 1) := by decide +kernel
theorem dc_Mod_feed_35 : decode bc_Mod_feed 35 = .ok (.getfield 13, 3) := by decide +kernel
theorem dc_Mod_feed_38 : decode bc_Mod_feed 38 = .ok (.iconst 4, 1) := by decide +kernel
theorem dc_Mod_feed_39 : decode bc_Mod_feed 39 = .ok (.iaload, 1) := by decide +kernel
theorem dc_Mod_feed_40 : decode bc_Mod_feed 40 = .ok (.iadd, 1) := by decide +kernel
theorem dc_Mod_feed_41 : decode bc_Mod_feed 41 = .ok (.iload_n 1, 1) := by decide +kernel
theorem dc_Mod_feed_42 : decode bc_Mod_feed 42 = .ok (.iastore, 1) := by decide +kernel
theorem dc_Mod_feed_43 : decode bc_Mod_feed 43 = .ok (.aload_n 0, 1) := by decide +kernel
theorem dc_Mod_feed_44 : decode bc_Mod_feed 44 = .ok (.getfield 13, 3) := by decide +kernel
theorem dc_Mod_feed_47 : decode bc_Mod_feed 47 = .ok (.iconst 4, 1) := by decide +kernel
theorem dc_Mod_feed_48 : decode bc_Mod_feed 48 = .ok (.dup2, 1) := by decide +kernel
theorem dc_Mod_feed_49 : decode bc_Mod_feed 49 = .ok (.iaload, 1) := by decide +kernel
theorem dc_Mod_feed_50 : decode bc_Mod_feed 50 = .ok (.iconst 1, 1) := by decide +kernel
theorem dc_Mod_feed_51 : decode bc_Mod_feed 51 = .ok (.iadd, 1) := by decide +kernel
theorem dc_Mod_feed_52 : decode bc_Mod_feed 52 = .ok (.iastore, 1) := by decide +kernel
theorem dc_Mod_feed_53 : decode bc_Mod_feed 53 = .ok (.aload_n 0, 1) := by decide +kernel
theorem dc_Mod_feed_54 : decode bc_Mod_feed 54 = .ok (.getfield 13, 3) := by decide +kernel
theorem dc_Mod_feed_57 : decode bc_Mod_feed 57 = .ok (.iconst 4, 1) := by decide +kernel
theorem dc_Mod_feed_58 : decode bc_Mod_feed 58 = .ok (.iaload, 1) := by decide +kernel
theorem dc_Mod_feed_59 : decode bc_Mod_feed 59 = .ok (.ireturn, 1) := by decide +kernel
theorem dc_Mod_in_0 : decode bc_Mod_in 0 = .ok (.iload_n 0, 1) := by decide +kernel
theorem dc_Mod_in_1 : decode bc_Mod_in 1 = .ok (.iload_n 1, 1) := by decide +kernel
theorem dc_Mod_in_2 : decode bc_Mod_in 2 = .ok (.if_icmp .lt 12, 3) := by decide +kernel
theorem dc_Mod_in_5 : decode bc_Mod_in 5 = .ok (.iload_n 0, 1) := by decide +kernel
theorem dc_Mod_in_6 : decode bc_Mod_in 6 = .ok (.iload_n 2, 1) := by decide +kernel
theorem dc_Mod_in_7 : decode bc_Mod_in 7 = .ok (.if_icmp .gt 7, 3) := by decide +kernel
theorem dc_Mod_in_10 : decode bc_Mod_in 10 = .ok (.iconst 1, 1) := by decide +kernel
theorem dc_Mod_in_11 : decode bc_Mod_in 11 = .ok (.goto 4, 3) := by decide +kernel
theorem dc_Mod_in_14 : decode bc_Mod_in 14 = .ok (.iconst 0, 1) := by decide +kernel
theorem dc_Mod_in_15 : decode bc_Mod_in 15 = .ok (.ireturn, 1) := by decide +kernel
theorem dc_Mod_wipe_0 : decode bc_Mod_wipe 0 = .ok (.aload_n 0, 1) := by decide +kernel
theorem dc_Mod_wipe_1 : decode bc_Mod_wipe 1 = .ok (.getfield 13, 3) := by decide +kernel
theorem dc_Mod_wipe_4 : decode bc_Mod_wipe 4 = .ok (.iconst 4, 1) := by decide +kernel
theorem dc_Mod_wipe_5 : decode bc_Mod_wipe 5 = .ok (.iaload, 1) := by decide +kernel
theorem dc_Mod_wipe_6 : decode bc_Mod_wipe 6 = .ok (.istore_n 1, 1) := by decide +kernel
theorem dc_Mod_wipe_7 : decode bc_Mod_wipe 7 = .ok (.aload_n 0, 1) := by decide +kernel
theorem dc_Mod_wipe_8 : decode bc_Mod_wipe 8 = .ok (.getfield 13, 3) := by decide +kernel
theorem dc_Mod_wipe_11 : decode bc_Mod_wipe 11 = .ok (.iconst 4, 1) := by decide +kernel
theorem dc_Mod_wipe_12 : decode bc_Mod_wipe 12 = .ok (.iconst 0, 1) := by decide +kernel
theorem dc_Mod_wipe_13 : decode bc_Mod_wipe 13 = .ok (.iastore, 1) := by decide +kernel
theorem dc_Mod_wipe_14 : decode bc_Mod_wipe 14 = .ok (.iload_n 1, 1) := by decide +kernel
theorem dc_Mod_wipe_15 : decode bc_Mod_wipe 15 = .ok (.ireturn, 1) := by decide +kernel
theorem dc_Mod_make_0 : decode bc_Mod_make 0 = .ok (.aload_n 0, 1) := by decide +kernel
theorem dc_Mod_make_1 : decode bc_Mod_make 1 = .ok (.iconst (-1), 1) := by decide +kernel
theorem dc_Mod_make_2 : decode bc_Mod_make 2 = .ok (.putfield 50, 3) := by decide +kernel
theorem dc_Mod_make_5 : decode bc_Mod_make 5 = .ok (.iload_n 1, 1) := by decide +kernel
theorem dc_Mod_make_6 : decode bc_Mod_make 6 = .ok (.iconst 0, 1) := by decide +kernel
theorem dc_Mod_make_7 : decode bc_Mod_make 7 = .ok (.iconst 3, 1) := by decide +kernel
theorem dc_Mod_make_8 : decode bc_Mod_make 8 = .ok (.invokestatic 101, 3) := by decide +kernel
theorem dc_Mod_make_11 : decode bc_Mod_make 11 = .ok (.ifCond .eq 14, 3) := by decide +kernel
theorem dc_Mod_make_14 : decode bc_Mod_make 14 = .ok (.iload_n 3, 1) := by decide +kernel
theorem dc_Mod_make_15 : decode bc_Mod_make 15 = .ok (.iconst 0, 1) := by decide +kernel
theorem dc_Mod_make_16 : decode bc_Mod_make 16 = .ok (.sipush 9999, 3) := by decide +kernel
theorem dc_Mod_make_19 : decode bc_Mod_make 19 = .ok (.invokestatic 101, 3) := by decide +kernel
theorem dc_Mod_make_22 : decode bc_Mod_make 22 = .ok (.ifCond .ne 5, 3) := by decide +kernel
theorem dc_Mod_make_25 : decode bc_Mod_make 25 = .ok (.iconst (-1), 1) := by decide +kernel
theorem dc_Mod_make_26 : decode bc_Mod_make 26 = .ok (.ireturn, 1) := by decide +kernel
theorem dc_Mod_make_27 : decode bc_Mod_make 27 = .ok (.aload_n 0, 1) := by decide +kernel
theorem dc_Mod_make_28 : decode bc_Mod_make 28 = .ok (.iconst 4, 1) := by decide +kernel
theorem dc_Mod_make_29 : decode bc_Mod_make 29 = .ok (.iconst (-1), 1) := by decide +kernel
theorem dc_Mod_make_30 : decode bc_Mod_make 30 = .ok (.invokevirtual 94, 3) := by decide +kernel
theorem dc_Mod_make_33 : decode bc_Mod_make 33 = .ok (.istore 4, 2) := by decide +kernel
theorem dc_Mod_make_35 : decode bc_Mod_make 35 = .ok (.iload 4, 2) := by decide +kernel
theorem dc_Mod_make_37 : decode bc_Mod_make 37 = .ok (.ifCond .ge 14, 3) := by decide +kernel
theorem dc_Mod_make_40 : decode bc_Mod_make 40 = .ok (.aload_n 0, 1) := by decide +kernel
theorem dc_Mod_make_41 : decode bc_Mod_make 41 = .ok (.aload_n 0, 1) := by decide +kernel
theorem dc_Mod_make_42 : decode bc_Mod_make 42 = .ok (.getfield 87, 3) := by decide +kernel
theorem dc_Mod_make_45 : decode bc_Mod_make 45 = .ok (.putfield 50, 3) := by decide +kernel
theorem dc_Mod_make_48 : decode bc_Mod_make 48 = .ok (.bipush (-3), 2) := by decide +kernel
theorem dc_Mod_make_50 : decode bc_Mod_make 50 = .ok (.ireturn, 1) := by decide +kernel
theorem dc_Mod_make_51 : decode bc_Mod_make 51 = .ok (.iload 4, 2) := by decide +kernel
theorem dc_Mod_make_53 : decode bc_Mod_make 53 = .ok (.bipush 16, 2) := by decide +kernel
theorem dc_Mod_make_55 : decode bc_Mod_make 55 = .ok (.if_icmp .le 6, 3) := by decide +kernel
theorem dc_Mod_make_58 : decode bc_Mod_make 58 = .ok (.bipush (-2), 2) := by decide +kernel
theorem dc_Mod_make_60 : decode bc_Mod_make 60 = .ok (.ireturn, 1) := by decide +kernel
theorem dc_Mod_make_61 : decode bc_Mod_make 61 = .ok (.aload_n 0, 1) := by decide +kernel
theorem dc_Mod_make_62 : decode bc_Mod_make 62 = .ok (.invokevirtual 120, 3) := by decide +kernel
theorem dc_Mod_make_65 : decode bc_Mod_make 65 = .ok (.istore 5, 2) := by decide +kernel
theorem dc_Mod_make_67 : decode bc_Mod_make 67 = .ok (.iload 5, 2) := by decide +kernel
theorem dc_Mod_make_69 : decode bc_Mod_make 69 = .ok (.ifCond .le 12, 3) := by decide +kernel
theorem dc_Mod_make_72 : decode bc_Mod_make 72 = .ok (.aload_n 0, 1) := by decide +kernel
theorem dc_Mod_make_73 : decode bc_Mod_make 73 = .ok (.iload 5, 2) := by decide +kernel
theorem dc_Mod_make_75 : decode bc_Mod_make 75 = .ok (.putfield 50, 3) := by decide +kernel
theorem dc_Mod_make_78 : decode bc_Mod_make 78 = .ok (.bipush (-4), 2) := by decide +kernel
theorem dc_Mod_make_80 : decode bc_Mod_make 80 = .ok (.ireturn, 1) := by decide +kernel
theorem dc_Mod_make_81 : decode bc_Mod_make 81 = .ok (.iconst 0, 1) := by decide +kernel
theorem dc_Mod_make_82 : decode bc_Mod_make 82 = .ok (.istore 6, 2) := by decide +kernel
theorem dc_Mod_make_84 : decode bc_Mod_make 84 = .ok (.iload 6, 2) := by decide +kernel
theorem dc_Mod_make_86 : decode bc_Mod_make 86 = .ok (.aload_n 0, 1) := by decide +kernel
theorem dc_Mod_make_87 : decode bc_Mod_make 87 = .ok (.getfield 13, 3) := by decide +kernel
theorem dc_Mod_make_90 : decode bc_Mod_make 90 = .ok (.iconst 4, 1) := by decide +kernel
theorem dc_Mod_make_91 : decode bc_Mod_make 91 = .ok (.iaload, 1) := by decide +kernel
theorem dc_Mod_make_92 : decode bc_Mod_make 92 = .ok (.if_icmp .ge 32, 3) := by decide +kernel
theorem dc_Mod_make_95 : decode bc_Mod_make 95 = .ok (.aload_n 0, 1) := by decide +kernel
theorem dc_Mod_make_96 : decode bc_Mod_make 96 = .ok (.getfield 7, 3) := by decide +kernel
theorem dc_Mod_make_99 : decode bc_Mod_make 99 = .ok (.bipush 60, 2) := by decide +kernel
theorem dc_Mod_make_101 : decode bc_Mod_make 101 = .ok (.iload_n 1, 1) := by decide +kernel
theorem dc_Mod_make_102 : decode bc_Mod_make 102 = .ok (.imul, 1) := by decide +kernel
theorem dc_Mod_make_103 : decode bc_Mod_make 103 = .ok (.iload 6, 2) := by decide +kernel
theorem dc_Mod_make_105 : decode bc_Mod_make 105 = .ok (.iadd, 1) := by decide +kernel
theorem dc_Mod_make_106 : decode bc_Mod_make 106 = .ok (.aload_n 0, 1) := by decide +kernel
theorem dc_Mod_make_107 : decode bc_Mod_make 107 = .ok (.getfield 7, 3) := by decide +kernel
theorem dc_Mod_make_110 : decode bc_Mod_make 110 = .ok (.sipush 240, 3) := by decide +kernel
theorem dc_Mod_make_113 : decode bc_Mod_make 113 = .ok (.iload 6, 2) := by decide +kernel
theorem dc_Mod_make_115 : decode bc_Mod_make 115 = .ok (.iadd, 1) := by decide +kernel
theorem dc_Mod_make_116 : decode bc_Mod_make 116 = .ok (.iaload, 1) := by decide +kernel
theorem dc_Mod_make_117 : decode bc_Mod_make 117 = .ok (.iastore, 1) := by decide +kernel
theorem dc_Mod_make_118 : decode bc_Mod_make 118 = .ok (.iinc 6 1, 3) := by decide +kernel
theorem dc_Mod_make_121 : decode bc_Mod_make 121 = .ok (.goto (-37), 3) := by decide +kernel
theorem dc_Mod_make_124 : decode bc_Mod_make 124 = .ok (.aload_n 0, 1) := by decide +kernel
theorem dc_Mod_make_125 : decode bc_Mod_make 125 = .ok (.getfield 13, 3) := by decide +kernel
theorem dc_Mod_make_128 : decode bc_Mod_make 128 = .ok (.iload_n 1, 1) := by decide +kernel
theorem dc_Mod_make_129 : decode bc_Mod_make 129 = .ok (.aload_n 0, 1) := by decide +kernel
theorem dc_Mod_make_130 : decode bc_Mod_make 130 = .ok (.getfield 13, 3) := by decide +kernel
theorem dc_Mod_make_133 : decode bc_Mod_make 133 = .ok (.iconst 4, 1) := by decide +kernel
theorem dc_Mod_make_134 : decode bc_Mod_make 134 = .ok (.iaload, 1) := by decide +kernel
theorem dc_Mod_make_135 : decode bc_Mod_make 135 = .ok (.iastore, 1) := by decide +kernel
theorem dc_Mod_make_136 : decode bc_Mod_make 136 = .ok (.aload_n 0, 1) := by decide +kernel
theorem dc_Mod_make_137 : decode bc_Mod_make 137 = .ok (.getfield 13, 3) := by decide +kernel
theorem dc_Mod_make_140 : decode bc_Mod_make 140 = .ok (.iconst 4, 1) := by decide +kernel
theorem dc_Mod_make_141 : decode bc_Mod_make 141 = .ok (.iconst 0, 1) := by decide +kernel
theorem dc_Mod_make_142 : decode bc_Mod_make 142 = .ok (.iastore, 1) := by decide +kernel
theorem dc_Mod_make_143 : decode bc_Mod_make 143 = .ok (.aload_n 0, 1) := by decide +kernel
theorem dc_Mod_make_144 : decode bc_Mod_make 144 = .ok (.getfield 16, 3) := by decide +kernel
theorem dc_Mod_make_147 : decode bc_Mod_make 147 = .ok (.iload_n 1, 1) := by decide +kernel
theorem dc_Mod_make_148 : decode bc_Mod_make 148 = .ok (.iconst 1, 1) := by decide +kernel
theorem dc_Mod_make_149 : decode bc_Mod_make 149 = .ok (.bastore, 1) := by decide +kernel
theorem dc_Mod_make_150 : decode bc_Mod_make 150 = .ok (.aload_n 0, 1) := by decide +kernel
theorem dc_Mod_make_151 : decode bc_Mod_make 151 = .ok (.getfield 20, 3) := by decide +kernel
theorem dc_Mod_make_154 : decode bc_Mod_make 154 = .ok (.iload_n 1, 1) := by decide +kernel
theorem dc_Mod_make_155 : decode bc_Mod_make 155 = .ok (.iload_n 2, 1) := by decide +kernel
theorem dc_Mod_make_156 : decode bc_Mod_make 156 = .ok (.iastore, 1) := by decide +kernel
theorem dc_Mod_make_157 : decode bc_Mod_make 157 = .ok (.aload_n 0, 1) := by decide +kernel
theorem dc_Mod_make_158 : decode bc_Mod_make 158 = .ok (.getfield 23, 3) := by decide +kernel
theorem dc_Mod_make_161 : decode bc_Mod_make 161 = .ok (.iload_n 1, 1) := by decide +kernel
theorem dc_Mod_make_162 : decode bc_Mod_make 162 = .ok (.iload_n 3, 1) := by decide +kernel
theorem dc_Mod_make_163 : decode bc_Mod_make 163 = .ok (.iastore, 1) := by decide +kernel
theorem dc_Mod_make_164 : decode bc_Mod_make 164 = .ok (.aload_n 0, 1) := by decide +kernel
theorem dc_Mod_make_165 : decode bc_Mod_make 165 = .ok (.getfield 26, 3) := by decide +kernel
theorem dc_Mod_make_168 : decode bc_Mod_make 168 = .ok (.iload_n 1, 1) := by decide +kernel
theorem dc_Mod_make_169 : decode bc_Mod_make 169 = .ok (.iconst 3, 1) := by decide +kernel
theorem dc_Mod_make_170 : decode bc_Mod_make 170 = .ok (.iastore, 1) := by decide +kernel
theorem dc_Mod_make_171 : decode bc_Mod_make 171 = .ok (.aload_n 0, 1) := by decide +kernel
theorem dc_Mod_make_172 : decode bc_Mod_make 172 = .ok (.getfield 29, 3) := by decide +kernel
theorem dc_Mod_make_175 : decode bc_Mod_make 175 = .ok (.iload_n 1, 1) := by decide +kernel
theorem dc_Mod_make_176 : decode bc_Mod_make 176 = .ok (.iconst 0, 1) := by decide +kernel
theorem dc_Mod_make_177 : decode bc_Mod_make 177 = .ok (.iastore, 1) := by decide +kernel
theorem dc_Mod_make_178 : decode bc_Mod_make 178 = .ok (.aload_n 0, 1) := by decide +kernel
theorem dc_Mod_make_179 : decode bc_Mod_make 179 = .ok (.getfield 32, 3) := by decide +kernel
theorem dc_Mod_make_182 : decode bc_Mod_make 182 = .ok (.iload_n 1, 1) := by decide +kernel
theorem dc_Mod_make_183 : decode bc_Mod_make 183 = .ok (.iconst 0, 1) := by decide +kernel
theorem dc_Mod_make_184 : decode bc_Mod_make 184 = .ok (.iastore, 1) := by decide +kernel
theorem dc_Mod_make_185 : decode bc_Mod_make 185 = .ok (.aload_n 0, 1) := by decide +kernel
theorem dc_Mod_make_186 : decode bc_Mod_make 186 = .ok (.getfield 35, 3) := by decide +kernel
theorem dc_Mod_make_189 : decode bc_Mod_make 189 = .ok (.iload_n 1, 1) := by decide +kernel
theorem dc_Mod_make_190 : decode bc_Mod_make 190 = .ok (.iconst 0, 1) := by decide +kernel
theorem dc_Mod_make_191 : decode bc_Mod_make 191 = .ok (.bastore, 1) := by decide +kernel
theorem dc_Mod_make_192 : decode bc_Mod_make 192 = .ok (.iload 4, 2) := by decide +kernel
theorem dc_Mod_make_194 : decode bc_Mod_make 194 = .ok (.ireturn, 1) := by decide +kernel
theorem dc_Mod_walk_0 : decode bc_Mod_walk 0 = .ok (.iconst 0, 1) := by decide +kernel
theorem dc_Mod_walk_1 : decode bc_Mod_walk 1 = .ok (.istore_n 3, 1) := by decide +kernel
theorem dc_Mod_walk_2 : decode bc_Mod_walk 2 = .ok (.iconst 0, 1) := by decide +kernel
theorem dc_Mod_walk_3 : decode bc_Mod_walk 3 = .ok (.istore 4, 2) := by decide +kernel
theorem dc_Mod_walk_5 : decode bc_Mod_walk 5 = .ok (.iconst 0, 1) := by decide +kernel
theorem dc_Mod_walk_6 : decode bc_Mod_walk 6 = .ok (.istore 5, 2) := by decide +kernel
theorem dc_Mod_walk_8 : decode bc_Mod_walk 8 = .ok (.aload_n 0, 1) := by decide +kernel
theorem dc_Mod_walk_9 : decode bc_Mod_walk 9 = .ok (.getfield 13, 3) := by decide +kernel
theorem dc_Mod_walk_12 : decode bc_Mod_walk 12 = .ok (.iload_n 1, 1) := by decide +kernel
theorem dc_Mod_walk_13 : decode bc_Mod_walk 13 = .ok (.iaload, 1) := by decide +kernel
theorem dc_Mod_walk_14 : decode bc_Mod_walk 14 = .ok (.istore 6, 2) := by decide +kernel
theorem dc_Mod_walk_16 : decode bc_Mod_walk 16 = .ok (.iconst 0, 1) := by decide +kernel
theorem dc_Mod_walk_17 : decode bc_Mod_walk 17 = .ok (.istore 7, 2) := by decide +kernel
theorem dc_Mod_walk_19 : decode bc_Mod_walk 19 = .ok (.iconst 0, 1) := by decide +kernel
theorem dc_Mod_walk_20 : decode bc_Mod_walk 20 = .ok (.istore 8, 2) := by decide +kernel
theorem dc_Mod_walk_22 : decode bc_Mod_walk 22 = .ok (.iconst 0, 1) := by decide +kernel
theorem dc_Mod_walk_23 : decode bc_Mod_walk 23 = .ok (.istore 9, 2) := by decide +kernel
theorem dc_Mod_walk_25 : decode bc_Mod_walk 25 = .ok (.iconst (-1), 1) := by decide +kernel
theorem dc_Mod_walk_26 : decode bc_Mod_walk 26 = .ok (.istore 10, 2) := by decide +kernel
theorem dc_Mod_walk_28 : decode bc_Mod_walk 28 = .ok (.aload_n 0, 1) := by decide +kernel
theorem dc_Mod_walk_29 : decode bc_Mod_walk 29 = .ok (.iconst (-1), 1) := by decide +kernel
theorem dc_Mod_walk_30 : decode bc_Mod_walk 30 = .ok (.putfield 75, 3) := by decide +kernel
theorem dc_Mod_walk_33 : decode bc_Mod_walk 33 = .ok (.aload_n 0, 1) := by decide +kernel
theorem dc_Mod_walk_34 : decode bc_Mod_walk 34 = .ok (.iconst 0, 1) := by decide +kernel
theorem dc_Mod_walk_35 : decode bc_Mod_walk 35 = .ok (.putfield 78, 3) := by decide +kernel
theorem dc_Mod_walk_38 : decode bc_Mod_walk 38 = .ok (.aload_n 0, 1) := by decide +kernel
theorem dc_Mod_walk_39 : decode bc_Mod_walk 39 = .ok (.iconst 0, 1) := by decide +kernel
theorem dc_Mod_walk_40 : decode bc_Mod_walk 40 = .ok (.putfield 81, 3) := by decide +kernel
theorem dc_Mod_walk_43 : decode bc_Mod_walk 43 = .ok (.iconst 0, 1) := by decide +kernel
theorem dc_Mod_walk_44 : decode bc_Mod_walk 44 = .ok (.istore 11, 2) := by decide +kernel
theorem dc_Mod_walk_46 : decode bc_Mod_walk 46 = .ok (.iload 11, 2) := by decide +kernel
theorem dc_Mod_walk_48 : decode bc_Mod_walk 48 = .ok (.sipush 400, 3) := by decide +kernel
theorem dc_Mod_walk_51 : decode bc_Mod_walk 51 = .ok (.if_icmp .ge 389, 3) := by decide +kernel
theorem dc_Mod_walk_54 : decode bc_Mod_walk 54 = .ok (.iload 5, 2) := by decide +kernel
theorem dc_Mod_walk_56 : decode bc_Mod_walk 56 = .ok (.ifCond .ne 8, 3) := by decide +kernel
theorem dc_Mod_walk_59 : decode bc_Mod_walk 59 = .ok (.iload 6, 2) := by decide +kernel
theorem dc_Mod_walk_61 : decode bc_Mod_walk 61 = .ok (.goto 40, 3) := by decide +kernel
theorem dc_Mod_walk_64 : decode bc_Mod_walk 64 = .ok (.iload 5, 2) := by decide +kernel
theorem dc_Mod_walk_66 : decode bc_Mod_walk 66 = .ok (.iconst 1, 1) := by decide +kernel
theorem dc_Mod_walk_67 : decode bc_Mod_walk 67 = .ok (.if_icmp .ne 8, 3) := by decide +kernel
theorem dc_Mod_walk_70 : decode bc_Mod_walk 70 = .ok (.iload 7, 2) := by decide +kernel
theorem dc_Mod_walk_72 : decode bc_Mod_walk 72 = .ok (.goto 29, 3) := by decide +kernel
theorem dc_Mod_walk_75 : decode bc_Mod_walk 75 = .ok (.iload 5, 2) := by decide +kernel
theorem dc_Mod_walk_77 : decode bc_Mod_walk 77 = .ok (.iconst 2, 1) := by decide +kernel
theorem dc_Mod_walk_78 : decode bc_Mod_walk 78 = .ok (.if_icmp .ne 8, 3) := by decide +kernel
theorem dc_Mod_walk_81 : decode bc_Mod_walk 81 = .ok (.iload 8, 2) := by decide +kernel
theorem dc_Mod_walk_83 : decode bc_Mod_walk 83 = .ok (.goto 18, 3) := by decide +kernel
theorem dc_Mod_walk_86 : decode bc_Mod_walk 86 = .ok (.iload 5, 2) := by decide +kernel
theorem dc_Mod_walk_88 : decode bc_Mod_walk 88 = .ok (.iconst 3, 1) := by decide +kernel
theorem dc_Mod_walk_89 : decode bc_Mod_walk 89 = .ok (.if_icmp .ne 8, 3) := by decide +kernel
theorem dc_Mod_walk_92 : decode bc_Mod_walk 92 = .ok (.iload 9, 2) := by decide +kernel
theorem dc_Mod_walk_94 : decode bc_Mod_walk 94 = .ok (.goto 7, 3) := by decide +kernel
theorem dc_Mod_walk_97 : decode bc_Mod_walk 97 = .ok (.aload_n 0, 1) := by decide +kernel
theorem dc_Mod_walk_98 : decode bc_Mod_walk 98 = .ok (.getfield 84, 3) := by decide +kernel
theorem dc_Mod_walk_101 : decode bc_Mod_walk 101 = .ok (.istore 12, 2) := by decide +kernel
theorem dc_Mod_walk_103 : decode bc_Mod_walk 103 = .ok (.iload 4, 2) := by decide +kernel
theorem dc_Mod_walk_105 : decode bc_Mod_walk 105 = .ok (.iload 12, 2) := by decide +kernel
theorem dc_Mod_walk_107 : decode bc_Mod_walk 107 = .ok (.if_icmp .ne 16, 3) := by decide +kernel
theorem dc_Mod_walk_110 : decode bc_Mod_walk 110 = .ok (.iload 5, 2) := by decide +kernel
theorem dc_Mod_walk_112 : decode bc_Mod_walk 112 = .ok (.ifCond .ne 5, 3) := by decide +kernel
theorem dc_Mod_walk_115 : decode bc_Mod_walk 115 = .ok (.iload_n 3, 1) := by decide +kernel
theorem dc_Mod_walk_116 : decode bc_Mod_walk 116 = .ok (.ireturn, 1) := by decide +kernel
theorem dc_Mod_walk_117 : decode bc_Mod_walk 117 = .ok (.iinc 5 (-1), 3) := by decide +kernel
theorem dc_Mod_walk_120 : decode bc_Mod_walk 120 = .ok (.goto 314, 3) := by decide +kernel
theorem dc_Mod_walk_123 : decode bc_Mod_walk 123 = .ok (.aload_n 0, 1) := by decide +kernel
theorem dc_Mod_walk_124 : decode bc_Mod_walk 124 = .ok (.iload 4, 2) := by decide +kernel
theorem dc_Mod_walk_126 : decode bc_Mod_walk 126 = .ok (.putfield 87, 3) := by decide +kernel
theorem dc_Mod_walk_129 : decode bc_Mod_walk 129 = .ok (.iload 5, 2) := by decide +kernel
theorem dc_Mod_walk_131 : decode bc_Mod_walk 131 = .ok (.iconst 3, 1) := by decide +kernel
theorem dc_Mod_walk_132 : decode bc_Mod_walk 132 = .ok (.if_icmp .le 5, 3) := by decide +kernel
theorem dc_Mod_walk_135 : decode bc_Mod_walk 135 = .ok (.iconst (-1), 1) := by decide +kernel
theorem dc_Mod_walk_136 : decode bc_Mod_walk 136 = .ok (.ireturn, 1) := by decide +kernel
theorem dc_Mod_walk_137 : decode bc_Mod_walk 137 = .ok (.aload_n 0, 1) := by decide +kernel
theorem dc_Mod_walk_138 : decode bc_Mod_walk 138 = .ok (.iload_n 1, 1) := by decide +kernel
theorem dc_Mod_walk_139 : decode bc_Mod_walk 139 = .ok (.iload 4, 2) := by decide +kernel
theorem dc_Mod_walk_141 : decode bc_Mod_walk 141 = .ok (.invokevirtual 90, 3) := by decide +kernel
theorem dc_Mod_walk_144 : decode bc_Mod_walk 144 = .ok (.istore 13, 2) := by decide +kernel
theorem dc_Mod_walk_146 : decode bc_Mod_walk 146 = .ok (.iload 13, 2) := by decide +kernel
theorem dc_Mod_walk_148 : decode bc_Mod_walk 148 = .ok (.istore 14, 2) := by decide +kernel
theorem dc_Mod_walk_150 : decode bc_Mod_walk 150 = .ok (.iload 4, 2) := by decide +kernel
theorem dc_Mod_walk_152 : decode bc_Mod_walk 152 = .ok (.iconst 1, 1) := by decide +kernel
theorem dc_Mod_walk_153 : decode bc_Mod_walk 153 = .ok (.iadd, 1) := by decide +kernel
theorem dc_Mod_walk_154 : decode bc_Mod_walk 154 = .ok (.istore 15, 2) := by decide +kernel
theorem dc_Mod_walk_156 : decode bc_Mod_walk 156 = .ok (.iload 13, 2) := by decide +kernel
theorem dc_Mod_walk_158 : decode bc_Mod_walk 158 = .ok (.bipush 31, 2) := by decide +kernel
theorem dc_Mod_walk_160 : decode bc_Mod_walk 160 = .ok (.iand, 1) := by decide +kernel
theorem dc_Mod_walk_161 : decode bc_Mod_walk 161 = .ok (.bipush 31, 2) := by decide +kernel
theorem dc_Mod_walk_163 : decode bc_Mod_walk 163 = .ok (.if_icmp .ne 43, 3) := by decide +kernel
theorem dc_Mod_walk_166 : decode bc_Mod_walk 166 = .ok (.iload 15, 2) := by decide +kernel
theorem dc_Mod_walk_168 : decode bc_Mod_walk 168 = .ok (.iload 12, 2) := by decide +kernel
theorem dc_Mod_walk_170 : decode bc_Mod_walk 170 = .ok (.if_icmp .ge 15, 3) := by decide +kernel
theorem dc_Mod_walk_173 : decode bc_Mod_walk 173 = .ok (.aload_n 0, 1) := by decide +kernel
theorem dc_Mod_walk_174 : decode bc_Mod_walk 174 = .ok (.iload_n 1, 1) := by decide +kernel
theorem dc_Mod_walk_175 : decode bc_Mod_walk 175 = .ok (.iload 15, 2) := by decide +kernel
theorem dc_Mod_walk_177 : decode bc_Mod_walk 177 = .ok (.invokevirtual 90, 3) := by decide +kernel
theorem dc_Mod_walk_180 : decode bc_Mod_walk 180 = .ok (.bipush 127, 2) := by decide +kernel
theorem dc_Mod_walk_182 : decode bc_Mod_walk 182 = .ok (.if_icmp .le 5, 3) := by decide +kernel
theorem dc_Mod_walk_185 : decode bc_Mod_walk 185 = .ok (.iconst (-1), 1) := by decide +kernel
theorem dc_Mod_walk_186 : decode bc_Mod_walk 186 = .ok (.ireturn, 1) := by decide +kernel
theorem dc_Mod_walk_187 : decode bc_Mod_walk 187 = .ok (.sipush 256, 3) := by decide +kernel
theorem dc_Mod_walk_190 : decode bc_Mod_walk 190 = .ok (.iload 13, 2) := by decide +kernel
theorem dc_Mod_walk_192 : decode bc_Mod_walk 192 = .ok (.imul, 1) := by decide +kernel
theorem dc_Mod_walk_193 : decode bc_Mod_walk 193 = .ok (.aload_n 0, 1) := by decide +kernel
theorem dc_Mod_walk_194 : decode bc_Mod_walk 194 = .ok (.iload_n 1, 1) := by decide +kernel
theorem dc_Mod_walk_195 : decode bc_Mod_walk 195 = .ok (.iload 15, 2) := by decide +kernel
theorem dc_Mod_walk_197 : decode bc_Mod_walk 197 = .ok (.invokevirtual 90, 3) := by decide +kernel
theorem dc_Mod_walk_200 : decode bc_Mod_walk 200 = .ok (.iadd, 1) := by decide +kernel
theorem dc_Mod_walk_201 : decode bc_Mod_walk 201 = .ok (.istore 14, 2) := by decide +kernel
theorem dc_Mod_walk_203 : decode bc_Mod_walk 203 = .ok (.iinc 15 1, 3) := by decide +kernel
theorem dc_Mod_walk_206 : decode bc_Mod_walk 206 = .ok (.iload 15, 2) := by decide +kernel
theorem dc_Mod_walk_208 : decode bc_Mod_walk 208 = .ok (.iload 12, 2) := by decide +kernel
theorem dc_Mod_walk_210 : decode bc_Mod_walk 210 = .ok (.if_icmp .lt 5, 3) := by decide +kernel
theorem dc_Mod_walk_213 : decode bc_Mod_walk 213 = .ok (.iconst (-1), 1) := by decide +kernel
theorem dc_Mod_walk_214 : decode bc_Mod_walk 214 = .ok (.ireturn, 1) := by decide +kernel
theorem dc_Mod_walk_215 : decode bc_Mod_walk 215 = .ok (.aload_n 0, 1) := by decide +kernel
theorem dc_Mod_walk_216 : decode bc_Mod_walk 216 = .ok (.iload_n 1, 1) := by decide +kernel
theorem dc_Mod_walk_217 : decode bc_Mod_walk 217 = .ok (.iload 15, 2) := by decide +kernel
theorem dc_Mod_walk_219 : decode bc_Mod_walk 219 = .ok (.invokevirtual 90, 3) := by decide +kernel
theorem dc_Mod_walk_222 : decode bc_Mod_walk 222 = .ok (.istore 16, 2) := by decide +kernel
theorem dc_Mod_walk_224 : decode bc_Mod_walk 224 = .ok (.iinc 15 1, 3) := by decide +kernel
theorem dc_Mod_walk_227 : decode bc_Mod_walk 227 = .ok (.iload 16, 2) := by decide +kernel
theorem dc_Mod_walk_229 : decode bc_Mod_walk 229 = .ok (.bipush 127, 2) := by decide +kernel
theorem dc_Mod_walk_231 : decode bc_Mod_walk 231 = .ok (.if_icmp .le 32, 3) := by decide +kernel
theorem dc_Mod_walk_234 : decode bc_Mod_walk 234 = .ok (.iload 16, 2) := by decide +kernel
theorem dc_Mod_walk_236 : decode bc_Mod_walk 236 = .ok (.sipush 129, 3) := by decide +kernel
theorem dc_Mod_walk_239 : decode bc_Mod_walk 239 = .ok (.if_icmp .ne 10, 3) := by decide +kernel
theorem dc_Mod_walk_242 : decode bc_Mod_walk 242 = .ok (.iload 15, 2) := by decide +kernel
theorem dc_Mod_walk_244 : decode bc_Mod_walk 244 = .ok (.iload 12, 2) := by decide +kernel
theorem dc_Mod_walk_246 : decode bc_Mod_walk 246 = .ok (.if_icmp .lt 5, 3) := by decide +kernel
theorem dc_Mod_walk_249 : decode bc_Mod_walk 249 = .ok (.iconst (-1), 1) := by decide +kernel
theorem dc_Mod_walk_250 : decode bc_Mod_walk 250 = .ok (.ireturn, 1) := by decide +kernel
theorem dc_Mod_walk_251 : decode bc_Mod_walk 251 = .ok (.aload_n 0, 1) := by decide +kernel
theorem dc_Mod_walk_252 : decode bc_Mod_walk 252 = .ok (.iload_n 1, 1) := by decide +kernel
theorem dc_Mod_walk_253 : decode bc_Mod_walk 253 = .ok (.iload 15, 2) := by decide +kernel
theorem dc_Mod_walk_255 : decode bc_Mod_walk 255 = .ok (.invokevirtual 90, 3) := by decide +kernel
theorem dc_Mod_walk_258 : decode bc_Mod_walk 258 = .ok (.istore 16, 2) := by decide +kernel
theorem dc_Mod_walk_260 : decode bc_Mod_walk 260 = .ok (.iinc 15 1, 3) := by decide +kernel
theorem dc_Mod_walk_263 : decode bc_Mod_walk 263 = .ok (.iload 15, 2) := by decide +kernel
theorem dc_Mod_walk_265 : decode bc_Mod_walk 265 = .ok (.iload 16, 2) := by decide +kernel
theorem dc_Mod_walk_267 : decode bc_Mod_walk 267 = .ok (.iadd, 1) := by decide +kernel
theorem dc_Mod_walk_268 : decode bc_Mod_walk 268 = .ok (.iload 12, 2) := by decide +kernel
theorem dc_Mod_walk_270 : decode bc_Mod_walk 270 = .ok (.if_icmp .le 5, 3) := by decide +kernel
theorem dc_Mod_walk_273 : decode bc_Mod_walk 273 = .ok (.iconst (-1), 1) := by decide +kernel
theorem dc_Mod_walk_274 : decode bc_Mod_walk 274 = .ok (.ireturn, 1) := by decide +kernel
theorem dc_Mod_walk_275 : decode bc_Mod_walk 275 = .ok (.iinc 3 1, 3) := by decide +kernel
theorem dc_Mod_walk_278 : decode bc_Mod_walk 278 = .ok (.iload 10, 2) := by decide +kernel
theorem dc_Mod_walk_280 : decode bc_Mod_walk 280 = .ok (.ifCond .lt 40, 3) := by decide +kernel
theorem dc_Mod_walk_283 : decode bc_Mod_walk 283 = .ok (.iload 5, 2) := by decide +kernel
theorem dc_Mod_walk_285 : decode bc_Mod_walk 285 = .ok (.iload 10, 2) := by decide +kernel
theorem dc_Mod_walk_287 : decode bc_Mod_walk 287 = .ok (.iconst 1, 1) := by decide +kernel
theorem dc_Mod_walk_288 : decode bc_Mod_walk 288 = .ok (.iadd, 1) := by decide +kernel
theorem dc_Mod_walk_289 : decode bc_Mod_walk 289 = .ok (.if_icmp .ne 31, 3) := by decide +kernel
theorem dc_Mod_walk_292 : decode bc_Mod_walk 292 = .ok (.iload 4, 2) := by decide +kernel
theorem dc_Mod_walk_294 : decode bc_Mod_walk 294 = .ok (.aload_n 0, 1) := by decide +kernel
theorem dc_Mod_walk_295 : decode bc_Mod_walk 295 = .ok (.getfield 75, 3) := by decide +kernel
theorem dc_Mod_walk_298 : decode bc_Mod_walk 298 = .ok (.if_icmp .lt 22, 3) := by decide +kernel
theorem dc_Mod_walk_301 : decode bc_Mod_walk 301 = .ok (.iload 4, 2) := by decide +kernel
theorem dc_Mod_walk_303 : decode bc_Mod_walk 303 = .ok (.aload_n 0, 1) := by decide +kernel
theorem dc_Mod_walk_304 : decode bc_Mod_walk 304 = .ok (.getfield 78, 3) := by decide +kernel
theorem dc_Mod_walk_307 : decode bc_Mod_walk 307 = .ok (.if_icmp .ge 13, 3) := by decide +kernel
theorem dc_Mod_walk_310 : decode bc_Mod_walk 310 = .ok (.aload_n 0, 1) := by decide +kernel
theorem dc_Mod_walk_311 : decode bc_Mod_walk 311 = .ok (.dup, 1) := by decide +kernel
theorem dc_Mod_walk_312 : decode bc_Mod_walk 312 = .ok (.getfield 81, 3) := by decide +kernel
theorem dc_Mod_walk_315 : decode bc_Mod_walk 315 = .ok (.iconst 1, 1) := by decide +kernel
theorem dc_Mod_walk_316 : decode bc_Mod_walk 316 = .ok (.iadd, 1) := by decide +kernel
theorem dc_Mod_walk_317 : decode bc_Mod_walk 317 = .ok (.putfield 81, 3) := by decide +kernel
theorem dc_Mod_walk_320 : decode bc_Mod_walk 320 = .ok (.iload 14, 2) := by decide +kernel
theorem dc_Mod_walk_322 : decode bc_Mod_walk 322 = .ok (.iload_n 2, 1) := by decide +kernel
theorem dc_Mod_walk_323 : decode bc_Mod_walk 323 = .ok (.if_icmp .ne 29, 3) := by decide +kernel
theorem dc_Mod_walk_326 : decode bc_Mod_walk 326 = .ok (.aload_n 0, 1) := by decide +kernel
theorem dc_Mod_walk_327 : decode bc_Mod_walk 327 = .ok (.getfield 75, 3) := by decide +kernel
theorem dc_Mod_walk_330 : decode bc_Mod_walk 330 = .ok (.ifCond .ge 22, 3) := by decide +kernel
theorem dc_Mod_walk_333 : decode bc_Mod_walk 333 = .ok (.aload_n 0, 1) := by decide +kernel
theorem dc_Mod_walk_334 : decode bc_Mod_walk 334 = .ok (.iload 15, 2) := by decide +kernel
theorem dc_Mod_walk_336 : decode bc_Mod_walk 336 = .ok (.putfield 75, 3) := by decide +kernel
theorem dc_Mod_walk_339 : decode bc_Mod_walk 339 = .ok (.aload_n 0, 1) := by decide +kernel
theorem dc_Mod_walk_340 : decode bc_Mod_walk 340 = .ok (.iload 15, 2) := by decide +kernel
theorem dc_Mod_walk_342 : decode bc_Mod_walk 342 = .ok (.iload 16, 2) := by decide +kernel
theorem dc_Mod_walk_344 : decode bc_Mod_walk 344 = .ok (.iadd, 1) := by decide +kernel
theorem dc_Mod_walk_345 : decode bc_Mod_walk 345 = .ok (.putfield 78, 3) := by decide +kernel
theorem dc_Mod_walk_348 : decode bc_Mod_walk 348 = .ok (.iload 5, 2) := by decide +kernel
theorem dc_Mod_walk_350 : decode bc_Mod_walk 350 = .ok (.istore 10, 2) := by decide +kernel
theorem dc_Mod_walk_352 : decode bc_Mod_walk 352 = .ok (.iload 13, 2) := by decide +kernel
theorem dc_Mod_walk_354 : decode bc_Mod_walk 354 = .ok (.bipush 32, 2) := by decide +kernel
theorem dc_Mod_walk_356 : decode bc_Mod_walk 356 = .ok (.iand, 1) := by decide +kernel
theorem dc_Mod_walk_357 : decode bc_Mod_walk 357 = .ok (.ifCond .ne 13, 3) := by decide +kernel
theorem dc_Mod_walk_360 : decode bc_Mod_walk 360 = .ok (.iload 15, 2) := by decide +kernel
theorem dc_Mod_walk_362 : decode bc_Mod_walk 362 = .ok (.iload 16, 2) := by decide +kernel
theorem dc_Mod_walk_364 : decode bc_Mod_walk 364 = .ok (.iadd, 1) := by decide +kernel
theorem dc_Mod_walk_365 : decode bc_Mod_walk 365 = .ok (.istore 4, 2) := by decide +kernel
theorem dc_Mod_walk_367 : decode bc_Mod_walk 367 = .ok (.goto 67, 3) := by decide +kernel
theorem dc_Mod_walk_370 : decode bc_Mod_walk 370 = .ok (.iload 15, 2) := by decide +kernel
theorem dc_Mod_walk_372 : decode bc_Mod_walk 372 = .ok (.istore 4, 2) := by decide +kernel
theorem dc_Mod_walk_374 : decode bc_Mod_walk 374 = .ok (.iinc 5 1, 3) := by decide +kernel
theorem dc_Mod_walk_377 : decode bc_Mod_walk 377 = .ok (.iload 5, 2) := by decide +kernel
theorem dc_Mod_walk_379 : decode bc_Mod_walk 379 = .ok (.iconst 1, 1) := by decide +kernel
theorem dc_Mod_walk_380 : decode bc_Mod_walk 380 = .ok (.if_icmp .ne 13, 3) := by decide +kernel
theorem dc_Mod_walk_383 : decode bc_Mod_walk 383 = .ok (.iload 15, 2) := by decide +kernel
theorem dc_Mod_walk_385 : decode bc_Mod_walk 385 = .ok (.iload 16, 2) := by decide +kernel
theorem dc_Mod_walk_387 : decode bc_Mod_walk 387 = .ok (.iadd, 1) := by decide +kernel
theorem dc_Mod_walk_388 : decode bc_Mod_walk 388 = .ok (.istore 7, 2) := by decide +kernel
theorem dc_Mod_walk_390 : decode bc_Mod_walk 390 = .ok (.goto 44, 3) := by decide +kernel
theorem dc_Mod_walk_393 : decode bc_Mod_walk 393 = .ok (.iload 5, 2) := by decide +kernel
theorem dc_Mod_walk_395 : decode bc_Mod_walk 395 = .ok (.iconst 2, 1) := by decide +kernel
theorem dc_Mod_walk_396 : decode bc_Mod_walk 396 = .ok (.if_icmp .ne 13, 3) := by decide +kernel
theorem dc_Mod_walk_399 : decode bc_Mod_walk 399 = .ok (.iload 15, 2) := by decide +kernel
theorem dc_Mod_walk_401 : decode bc_Mod_walk 401 = .ok (.iload 16, 2) := by decide +kernel
theorem dc_Mod_walk_403 : decode bc_Mod_walk 403 = .ok (.iadd, 1) := by decide +kernel
theorem dc_Mod_walk_404 : decode bc_Mod_walk 404 = .ok (.istore 8, 2) := by decide +kernel
theorem dc_Mod_walk_406 : decode bc_Mod_walk 406 = .ok (.goto 28, 3) := by decide +kernel
theorem dc_Mod_walk_409 : decode bc_Mod_walk 409 = .ok (.iload 5, 2) := by decide +kernel
theorem dc_Mod_walk_411 : decode bc_Mod_walk 411 = .ok (.iconst 3, 1) := by decide +kernel
theorem dc_Mod_walk_412 : decode bc_Mod_walk 412 = .ok (.if_icmp .ne 13, 3) := by decide +kernel
theorem dc_Mod_walk_415 : decode bc_Mod_walk 415 = .ok (.iload 15, 2) := by decide +kernel
theorem dc_Mod_walk_417 : decode bc_Mod_walk 417 = .ok (.iload 16, 2) := by decide +kernel
theorem dc_Mod_walk_419 : decode bc_Mod_walk 419 = .ok (.iadd, 1) := by decide +kernel
theorem dc_Mod_walk_420 : decode bc_Mod_walk 420 = .ok (.istore 9, 2) := by decide +kernel
theorem dc_Mod_walk_422 : decode bc_Mod_walk 422 = .ok (.goto 12, 3) := by decide +kernel
theorem dc_Mod_walk_425 : decode bc_Mod_walk 425 = .ok (.aload_n 0, 1) := by decide +kernel
theorem dc_Mod_walk_426 : decode bc_Mod_walk 426 = .ok (.iload 15, 2) := by decide +kernel
theorem dc_Mod_walk_428 : decode bc_Mod_walk 428 = .ok (.iload 16, 2) := by decide +kernel
theorem dc_Mod_walk_430 : decode bc_Mod_walk 430 = .ok (.iadd, 1) := by decide +kernel
theorem dc_Mod_walk_431 : decode bc_Mod_walk 431 = .ok (.putfield 84, 3) := by decide +kernel
theorem dc_Mod_walk_434 : decode bc_Mod_walk 434 = .ok (.iinc 11 1, 3) := by decide +kernel
theorem dc_Mod_walk_437 : decode bc_Mod_walk 437 = .ok (.goto (-391), 3) := by decide +kernel
theorem dc_Mod_walk_440 : decode bc_Mod_walk 440 = .ok (.iconst (-1), 1) := by decide +kernel
theorem dc_Mod_walk_441 : decode bc_Mod_walk 441 = .ok (.ireturn, 1) := by decide +kernel
theorem dc_Mod_at_0 : decode bc_Mod_at 0 = .ok (.aload_n 0, 1) := by decide +kernel
theorem dc_Mod_at_1 : decode bc_Mod_at 1 = .ok (.getfield 7, 3) := by decide +kernel
theorem dc_Mod_at_4 : decode bc_Mod_at 4 = .ok (.bipush 60, 2) := by decide +kernel
theorem dc_Mod_at_6 : decode bc_Mod_at 6 = .ok (.iload_n 1, 1) := by decide +kernel
theorem dc_Mod_at_7 : decode bc_Mod_at 7 = .ok (.imul, 1) := by decide +kernel
theorem dc_Mod_at_8 : decode bc_Mod_at 8 = .ok (.iload_n 2, 1) := by decide +kernel
theorem dc_Mod_at_9 : decode bc_Mod_at 9 = .ok (.iadd, 1) := by decide +kernel
theorem dc_Mod_at_10 : decode bc_Mod_at 10 = .ok (.iaload, 1) := by decide +kernel
theorem dc_Mod_at_11 : decode bc_Mod_at 11 = .ok (.ireturn, 1) := by decide +kernel
theorem dc_Mod_unfit_0 : decode bc_Mod_unfit 0 = .ok (.aload_n 0, 1) := by decide +kernel
theorem dc_Mod_unfit_1 : decode bc_Mod_unfit 1 = .ok (.iconst 4, 1) := by decide +kernel
theorem dc_Mod_unfit_2 : decode bc_Mod_unfit 2 = .ok (.bipush 90, 2) := by decide +kernel
theorem dc_Mod_unfit_4 : decode bc_Mod_unfit 4 = .ok (.invokevirtual 97, 3) := by decide +kernel
theorem dc_Mod_unfit_7 : decode bc_Mod_unfit 7 = .ok (.ifCond .eq 25, 3) := by decide +kernel
theorem dc_Mod_unfit_10 : decode bc_Mod_unfit 10 = .ok (.aload_n 0, 1) := by decide +kernel
theorem dc_Mod_unfit_11 : decode bc_Mod_unfit 11 = .ok (.invokevirtual 105, 3) := by decide +kernel
theorem dc_Mod_unfit_14 : decode bc_Mod_unfit 14 = .ok (.iconst 1, 1) := by decide +kernel
theorem dc_Mod_unfit_15 : decode bc_Mod_unfit 15 = .ok (.if_icmp .ne 17, 3) := by decide +kernel
theorem dc_Mod_unfit_18 : decode bc_Mod_unfit 18 = .ok (.aload_n 0, 1) := by decide +kernel
theorem dc_Mod_unfit_19 : decode bc_Mod_unfit 19 = .ok (.iconst 4, 1) := by decide +kernel
theorem dc_Mod_unfit_20 : decode bc_Mod_unfit 20 = .ok (.aload_n 0, 1) := by decide +kernel
theorem dc_Mod_unfit_21 : decode bc_Mod_unfit 21 = .ok (.getfield 75, 3) := by decide +kernel
theorem dc_Mod_unfit_24 : decode bc_Mod_unfit 24 = .ok (.invokevirtual 90, 3) := by decide +kernel
theorem dc_Mod_unfit_27 : decode bc_Mod_unfit 27 = .ok (.bipush 7, 2) := by decide +kernel
theorem dc_Mod_unfit_29 : decode bc_Mod_unfit 29 = .ok (.if_icmp .le 6, 3) := by decide +kernel
theorem dc_Mod_unfit_32 : decode bc_Mod_unfit 32 = .ok (.bipush 90, 2) := by decide +kernel
theorem dc_Mod_unfit_34 : decode bc_Mod_unfit 34 = .ok (.ireturn, 1) := by decide +kernel
theorem dc_Mod_unfit_35 : decode bc_Mod_unfit 35 = .ok (.aload_n 0, 1) := by decide +kernel
theorem dc_Mod_unfit_36 : decode bc_Mod_unfit 36 = .ok (.invokevirtual 109, 3) := by decide +kernel
theorem dc_Mod_unfit_39 : decode bc_Mod_unfit 39 = .ok (.ifCond .ne 7, 3) := by decide +kernel
theorem dc_Mod_unfit_42 : decode bc_Mod_unfit 42 = .ok (.sipush 140, 3) := by decide +kernel
theorem dc_Mod_unfit_45 : decode bc_Mod_unfit 45 = .ok (.ireturn, 1) := by decide +kernel
theorem dc_Mod_unfit_46 : decode bc_Mod_unfit 46 = .ok (.aload_n 0, 1) := by decide +kernel
theorem dc_Mod_unfit_47 : decode bc_Mod_unfit 47 = .ok (.iconst 4, 1) := by decide +kernel
theorem dc_Mod_unfit_48 : decode bc_Mod_unfit 48 = .ok (.sipush 142, 3) := by decide +kernel
theorem dc_Mod_unfit_51 : decode bc_Mod_unfit 51 = .ok (.invokevirtual 97, 3) := by decide +kernel
theorem dc_Mod_unfit_54 : decode bc_Mod_unfit 54 = .ok (.ifCond .eq 33, 3) := by decide +kernel
theorem dc_Mod_unfit_57 : decode bc_Mod_unfit 57 = .ok (.aload_n 0, 1) := by decide +kernel
theorem dc_Mod_unfit_58 : decode bc_Mod_unfit 58 = .ok (.invokevirtual 105, 3) := by decide +kernel
theorem dc_Mod_unfit_61 : decode bc_Mod_unfit 61 = .ok (.iconst 2, 1) := by decide +kernel
theorem dc_Mod_unfit_62 : decode bc_Mod_unfit 62 = .ok (.if_icmp .lt 21, 3) := by decide +kernel
theorem dc_Mod_unfit_65 : decode bc_Mod_unfit 65 = .ok (.aload_n 0, 1) := by decide +kernel
theorem dc_Mod_unfit_66 : decode bc_Mod_unfit 66 = .ok (.invokevirtual 105, 3) := by decide +kernel
theorem dc_Mod_unfit_69 : decode bc_Mod_unfit 69 = .ok (.bipush 12, 2) := by decide +kernel
theorem dc_Mod_unfit_71 : decode bc_Mod_unfit 71 = .ok (.if_icmp .gt 12, 3) := by decide +kernel
theorem dc_Mod_unfit_74 : decode bc_Mod_unfit 74 = .ok (.aload_n 0, 1) := by decide +kernel
theorem dc_Mod_unfit_75 : decode bc_Mod_unfit 75 = .ok (.invokevirtual 105, 3) := by decide +kernel
theorem dc_Mod_unfit_78 : decode bc_Mod_unfit 78 = .ok (.iconst 2, 1) := by decide +kernel
theorem dc_Mod_unfit_79 : decode bc_Mod_unfit 79 = .ok (.irem, 1) := by decide +kernel
theorem dc_Mod_unfit_80 : decode bc_Mod_unfit 80 = .ok (.ifCond .eq 7, 3) := by decide +kernel
theorem dc_Mod_unfit_83 : decode bc_Mod_unfit 83 = .ok (.sipush 142, 3) := by decide +kernel
theorem dc_Mod_unfit_86 : decode bc_Mod_unfit 86 = .ok (.ireturn, 1) := by decide +kernel
theorem dc_Mod_unfit_87 : decode bc_Mod_unfit 87 = .ok (.aload_n 0, 1) := by decide +kernel
theorem dc_Mod_unfit_88 : decode bc_Mod_unfit 88 = .ok (.iconst 4, 1) := by decide +kernel
theorem dc_Mod_unfit_89 : decode bc_Mod_unfit 89 = .ok (.sipush 24356, 3) := by decide +kernel
theorem dc_Mod_unfit_92 : decode bc_Mod_unfit 92 = .ok (.invokevirtual 97, 3) := by decide +kernel
theorem dc_Mod_unfit_95 : decode bc_Mod_unfit 95 = .ok (.ifCond .eq 11, 3) := by decide +kernel
theorem dc_Mod_unfit_98 : decode bc_Mod_unfit 98 = .ok (.aload_n 0, 1) := by decide +kernel
theorem dc_Mod_unfit_99 : decode bc_Mod_unfit 99 = .ok (.invokevirtual 105, 3) := by decide +kernel
theorem dc_Mod_unfit_102 : decode bc_Mod_unfit 102 = .ok (.iconst 2, 1) := by decide +kernel
theorem dc_Mod_unfit_103 : decode bc_Mod_unfit 103 = .ok (.if_icmp .eq 7, 3) := by decide +kernel
theorem dc_Mod_unfit_106 : decode bc_Mod_unfit 106 = .ok (.sipush 24356, 3) := by decide +kernel
theorem dc_Mod_unfit_109 : decode bc_Mod_unfit 109 = .ok (.ireturn, 1) := by decide +kernel
theorem dc_Mod_unfit_110 : decode bc_Mod_unfit 110 = .ok (.ldc 113, 2) := by decide +kernel
theorem dc_Mod_unfit_112 : decode bc_Mod_unfit 112 = .ok (.istore_n 1, 1) := by decide +kernel
theorem dc_Mod_unfit_113 : decode bc_Mod_unfit 113 = .ok (.iload_n 1, 1) := by decide +kernel
theorem dc_Mod_unfit_114 : decode bc_Mod_unfit 114 = .ok (.ldc 114, 2) := by decide +kernel
theorem dc_Mod_unfit_116 : decode bc_Mod_unfit 116 = .ok (.if_icmp .gt 20, 3) := by decide +kernel
theorem dc_Mod_unfit_119 : decode bc_Mod_unfit 119 = .ok (.aload_n 0, 1) := by decide +kernel
theorem dc_Mod_unfit_120 : decode bc_Mod_unfit 120 = .ok (.iload_n 1, 1) := by decide +kernel
theorem dc_Mod_unfit_121 : decode bc_Mod_unfit 121 = .ok (.iconst 2, 1) := by decide +kernel
theorem dc_Mod_unfit_122 : decode bc_Mod_unfit 122 = .ok (.invokevirtual 115, 3) := by decide +kernel
theorem dc_Mod_unfit_125 : decode bc_Mod_unfit 125 = .ok (.ifCond .ne 5, 3) := by decide +kernel
theorem dc_Mod_unfit_128 : decode bc_Mod_unfit 128 = .ok (.iload_n 1, 1) := by decide +kernel
theorem dc_Mod_unfit_129 : decode bc_Mod_unfit 129 = .ok (.ireturn, 1) := by decide +kernel
theorem dc_Mod_unfit_130 : decode bc_Mod_unfit 130 = .ok (.iinc 1 1, 3) := by decide +kernel
theorem dc_Mod_unfit_133 : decode bc_Mod_unfit 133 = .ok (.goto (-20), 3) := by decide +kernel
theorem dc_Mod_unfit_136 : decode bc_Mod_unfit 136 = .ok (.aload_n 0, 1) := by decide +kernel
theorem dc_Mod_unfit_137 : decode bc_Mod_unfit 137 = .ok (.ldc 118, 2) := by decide +kernel
theorem dc_Mod_unfit_139 : decode bc_Mod_unfit 139 = .ok (.iconst 1, 1) := by decide +kernel
theorem dc_Mod_unfit_140 : decode bc_Mod_unfit 140 = .ok (.invokevirtual 115, 3) := by decide +kernel
theorem dc_Mod_unfit_143 : decode bc_Mod_unfit 143 = .ok (.ifCond .ne 6, 3) := by decide +kernel
theorem dc_Mod_unfit_146 : decode bc_Mod_unfit 146 = .ok (.ldc 118, 2) := by decide +kernel
theorem dc_Mod_unfit_148 : decode bc_Mod_unfit 148 = .ok (.ireturn, 1) := by decide +kernel
theorem dc_Mod_unfit_149 : decode bc_Mod_unfit 149 = .ok (.aload_n 0, 1) := by decide +kernel
theorem dc_Mod_unfit_150 : decode bc_Mod_unfit 150 = .ok (.ldc 119, 2) := by decide +kernel
theorem dc_Mod_unfit_152 : decode bc_Mod_unfit 152 = .ok (.iconst 1, 1) := by decide +kernel
theorem dc_Mod_unfit_153 : decode bc_Mod_unfit 153 = .ok (.invokevirtual 115, 3) := by decide +kernel
theorem dc_Mod_unfit_156 : decode bc_Mod_unfit 156 = .ok (.ifCond .eq 7, 3) := by decide +kernel
theorem dc_Mod_unfit_159 : decode bc_Mod_unfit 159 = .ok (.iconst 0, 1) := by decide +kernel
theorem dc_Mod_unfit_160 : decode bc_Mod_unfit 160 = .ok (.goto 5, 3) := by decide +kernel
theorem dc_Mod_unfit_163 : decode bc_Mod_unfit 163 = .ok (.ldc 119, 2) := by decide +kernel
theorem dc_Mod_unfit_165 : decode bc_Mod_unfit 165 = .ok (.ireturn, 1) := by decide +kernel
theorem dc_Mod_has_0 : decode bc_Mod_has 0 = .ok (.aload_n 0, 1) := by decide +kernel
theorem dc_Mod_has_1 : decode bc_Mod_has 1 = .ok (.iload_n 1, 1) := by decide +kernel
theorem dc_Mod_has_2 : decode bc_Mod_has 2 = .ok (.iload_n 2, 1) := by decide +kernel
theorem dc_Mod_has_3 : decode bc_Mod_has 3 = .ok (.invokevirtual 94, 3) := by decide +kernel
theorem dc_Mod_has_6 : decode bc_Mod_has 6 = .ok (.ifCond .lt 14, 3) := by decide +kernel
theorem dc_Mod_has_9 : decode bc_Mod_has 9 = .ok (.aload_n 0, 1) := by decide +kernel
theorem dc_Mod_has_10 : decode bc_Mod_has 10 = .ok (.getfield 75, 3) := by decide +kernel
theorem dc_Mod_has_13 : decode bc_Mod_has 13 = .ok (.ifCond .lt 7, 3) := by decide +kernel
theorem dc_Mod_has_16 : decode bc_Mod_has 16 = .ok (.iconst 1, 1) := by decide +kernel
theorem dc_Mod_has_17 : decode bc_Mod_has 17 = .ok (.goto 4, 3) := by decide +kernel
theorem dc_Mod_has_20 : decode bc_Mod_has 20 = .ok (.iconst 0, 1) := by decide +kernel
theorem dc_Mod_has_21 : decode bc_Mod_has 21 = .ok (.ireturn, 1) := by decide +kernel
theorem dc_Mod_bytes_0 : decode bc_Mod_bytes 0 = .ok (.aload_n 0, 1) := by decide +kernel
theorem dc_Mod_bytes_1 : decode bc_Mod_bytes 1 = .ok (.getfield 78, 3) := by decide +kernel
theorem dc_Mod_bytes_4 : decode bc_Mod_bytes 4 = .ok (.aload_n 0, 1) := by decide +kernel
theorem dc_Mod_bytes_5 : decode bc_Mod_bytes 5 = .ok (.getfield 75, 3) := by decide +kernel
theorem dc_Mod_bytes_8 : decode bc_Mod_bytes 8 = .ok (.isub, 1) := by decide +kernel
theorem dc_Mod_bytes_9 : decode bc_Mod_bytes 9 = .ok (.ireturn, 1) := by decide +kernel
theorem dc_Mod_list_0 : decode bc_Mod_list 0 = .ok (.aload_n 0, 1) := by decide +kernel
theorem dc_Mod_list_1 : decode bc_Mod_list 1 = .ok (.iconst 4, 1) := by decide +kernel
theorem dc_Mod_list_2 : decode bc_Mod_list 2 = .ok (.sipush 140, 3) := by decide +kernel
theorem dc_Mod_list_5 : decode bc_Mod_list 5 = .ok (.invokevirtual 97, 3) := by decide +kernel
theorem dc_Mod_list_8 : decode bc_Mod_list 8 = .ok (.ifCond .ne 5, 3) := by decide +kernel
theorem dc_Mod_list_11 : decode bc_Mod_list 11 = .ok (.iconst 0, 1) := by decide +kernel
theorem dc_Mod_list_12 : decode bc_Mod_list 12 = .ok (.ireturn, 1) := by decide +kernel
theorem dc_Mod_list_13 : decode bc_Mod_list 13 = .ok (.aload_n 0, 1) := by decide +kernel
theorem dc_Mod_list_14 : decode bc_Mod_list 14 = .ok (.getfield 75, 3) := by decide +kernel
theorem dc_Mod_list_17 : decode bc_Mod_list 17 = .ok (.istore_n 1, 1) := by decide +kernel
theorem dc_Mod_list_18 : decode bc_Mod_list 18 = .ok (.iconst 0, 1) := by decide +kernel
theorem dc_Mod_list_19 : decode bc_Mod_list 19 = .ok (.istore_n 2, 1) := by decide +kernel
theorem dc_Mod_list_20 : decode bc_Mod_list 20 = .ok (.iconst 0, 1) := by decide +kernel
theorem dc_Mod_list_21 : decode bc_Mod_list 21 = .ok (.istore_n 3, 1) := by decide +kernel
theorem dc_Mod_list_22 : decode bc_Mod_list 22 = .ok (.iload_n 1, 1) := by decide +kernel
theorem dc_Mod_list_23 : decode bc_Mod_list 23 = .ok (.aload_n 0, 1) := by decide +kernel
theorem dc_Mod_list_24 : decode bc_Mod_list 24 = .ok (.getfield 78, 3) := by decide +kernel
theorem dc_Mod_list_27 : decode bc_Mod_list 27 = .ok (.if_icmp .ge 72, 3) := by decide +kernel
theorem dc_Mod_list_30 : decode bc_Mod_list 30 = .ok (.aload_n 0, 1) := by decide +kernel
theorem dc_Mod_list_31 : decode bc_Mod_list 31 = .ok (.iconst 4, 1) := by decide +kernel
theorem dc_Mod_list_32 : decode bc_Mod_list 32 = .ok (.iload_n 1, 1) := by decide +kernel
theorem dc_Mod_list_33 : decode bc_Mod_list 33 = .ok (.invokevirtual 90, 3) := by decide +kernel
theorem dc_Mod_list_36 : decode bc_Mod_list 36 = .ok (.bipush 31, 2) := by decide +kernel
theorem dc_Mod_list_38 : decode bc_Mod_list 38 = .ok (.iand, 1) := by decide +kernel
theorem dc_Mod_list_39 : decode bc_Mod_list 39 = .ok (.bipush 31, 2) := by decide +kernel
theorem dc_Mod_list_41 : decode bc_Mod_list 41 = .ok (.if_icmp .ne 27, 3) := by decide +kernel
theorem dc_Mod_list_44 : decode bc_Mod_list 44 = .ok (.iinc 1 1, 3) := by decide +kernel
theorem dc_Mod_list_47 : decode bc_Mod_list 47 = .ok (.iload_n 1, 1) := by decide +kernel
theorem dc_Mod_list_48 : decode bc_Mod_list 48 = .ok (.aload_n 0, 1) := by decide +kernel
theorem dc_Mod_list_49 : decode bc_Mod_list 49 = .ok (.getfield 78, 3) := by decide +kernel
theorem dc_Mod_list_52 : decode bc_Mod_list 52 = .ok (.if_icmp .ge 14, 3) := by decide +kernel
theorem dc_Mod_list_55 : decode bc_Mod_list 55 = .ok (.aload_n 0, 1) := by decide +kernel
theorem dc_Mod_list_56 : decode bc_Mod_list 56 = .ok (.iconst 4, 1) := by decide +kernel
theorem dc_Mod_list_57 : decode bc_Mod_list 57 = .ok (.iload_n 1, 1) := by decide +kernel
theorem dc_Mod_list_58 : decode bc_Mod_list 58 = .ok (.invokevirtual 90, 3) := by decide +kernel
theorem dc_Mod_list_61 : decode bc_Mod_list 61 = .ok (.bipush 127, 2) := by decide +kernel
theorem dc_Mod_list_63 : decode bc_Mod_list 63 = .ok (.if_icmp .le 5, 3) := by decide +kernel
theorem dc_Mod_list_66 : decode bc_Mod_list 66 = .ok (.iconst 0, 1) := by decide +kernel
theorem dc_Mod_list_67 : decode bc_Mod_list 67 = .ok (.ireturn, 1) := by decide +kernel
theorem dc_Mod_list_68 : decode bc_Mod_list 68 = .ok (.iinc 1 1, 3) := by decide +kernel
theorem dc_Mod_list_71 : decode bc_Mod_list 71 = .ok (.iload_n 1, 1) := by decide +kernel
theorem dc_Mod_list_72 : decode bc_Mod_list 72 = .ok (.aload_n 0, 1) := by decide +kernel
theorem dc_Mod_list_73 : decode bc_Mod_list 73 = .ok (.getfield 78, 3) := by decide +kernel
theorem dc_Mod_list_76 : decode bc_Mod_list 76 = .ok (.if_icmp .lt 5, 3) := by decide +kernel
theorem dc_Mod_list_79 : decode bc_Mod_list 79 = .ok (.iconst 0, 1) := by decide +kernel
theorem dc_Mod_list_80 : decode bc_Mod_list 80 = .ok (.ireturn, 1) := by decide +kernel
theorem dc_Mod_list_81 : decode bc_Mod_list 81 = .ok (.iload_n 3, 1) := by decide +kernel
theorem dc_Mod_list_82 : decode bc_Mod_list 82 = .ok (.aload_n 0, 1) := by decide +kernel
theorem dc_Mod_list_83 : decode bc_Mod_list 83 = .ok (.iconst 4, 1) := by decide +kernel
theorem dc_Mod_list_84 : decode bc_Mod_list 84 = .ok (.iload_n 1, 1) := by decide +kernel
theorem dc_Mod_list_85 : decode bc_Mod_list 85 = .ok (.invokevirtual 90, 3) := by decide +kernel
theorem dc_Mod_list_88 : decode bc_Mod_list 88 = .ok (.iadd, 1) := by decide +kernel
theorem dc_Mod_list_89 : decode bc_Mod_list 89 = .ok (.istore_n 3, 1) := by decide +kernel
theorem dc_Mod_list_90 : decode bc_Mod_list 90 = .ok (.iinc 2 1, 3) := by decide +kernel
theorem dc_Mod_list_93 : decode bc_Mod_list 93 = .ok (.iinc 1 1, 3) := by decide +kernel
theorem dc_Mod_list_96 : decode bc_Mod_list 96 = .ok (.goto (-74), 3) := by decide +kernel
theorem dc_Mod_list_99 : decode bc_Mod_list 99 = .ok (.iload_n 2, 1) := by decide +kernel
theorem dc_Mod_list_100 : decode bc_Mod_list 100 = .ok (.bipush 8, 2) := by decide +kernel
theorem dc_Mod_list_102 : decode bc_Mod_list 102 = .ok (.if_icmp .gt 13, 3) := by decide +kernel
theorem dc_Mod_list_105 : decode bc_Mod_list 105 = .ok (.iload_n 3, 1) := by decide +kernel
theorem dc_Mod_list_106 : decode bc_Mod_list 106 = .ok (.bipush 40, 2) := by decide +kernel
theorem dc_Mod_list_108 : decode bc_Mod_list 108 = .ok (.if_icmp .gt 7, 3) := by decide +kernel
theorem dc_Mod_list_111 : decode bc_Mod_list 111 = .ok (.iconst 1, 1) := by decide +kernel
theorem dc_Mod_list_112 : decode bc_Mod_list 112 = .ok (.goto 4, 3) := by decide +kernel
theorem dc_Mod_list_115 : decode bc_Mod_list 115 = .ok (.iconst 0, 1) := by decide +kernel
theorem dc_Mod_list_116 : decode bc_Mod_list 116 = .ok (.ireturn, 1) := by decide +kernel
theorem dc_Mod_sized_0 : decode bc_Mod_sized 0 = .ok (.aload_n 0, 1) := by decide +kernel
theorem dc_Mod_sized_1 : decode bc_Mod_sized 1 = .ok (.iconst 4, 1) := by decide +kernel
theorem dc_Mod_sized_2 : decode bc_Mod_sized 2 = .ok (.iload_n 1, 1) := by decide +kernel
theorem dc_Mod_sized_3 : decode bc_Mod_sized 3 = .ok (.invokevirtual 97, 3) := by decide +kernel
theorem dc_Mod_sized_6 : decode bc_Mod_sized 6 = .ok (.ifCond .eq 11, 3) := by decide +kernel
theorem dc_Mod_sized_9 : decode bc_Mod_sized 9 = .ok (.aload_n 0, 1) := by decide +kernel
theorem dc_Mod_sized_10 : decode bc_Mod_sized 10 = .ok (.invokevirtual 105, 3) := by decide +kernel
theorem dc_Mod_sized_13 : decode bc_Mod_sized 13 = .ok (.iload_n 2, 1) := by decide +kernel
theorem dc_Mod_sized_14 : decode bc_Mod_sized 14 = .ok (.if_icmp .ne 7, 3) := by decide +kernel
theorem dc_Mod_sized_17 : decode bc_Mod_sized 17 = .ok (.iconst 1, 1) := by decide +kernel
theorem dc_Mod_sized_18 : decode bc_Mod_sized 18 = .ok (.goto 4, 3) := by decide +kernel
theorem dc_Mod_sized_21 : decode bc_Mod_sized 21 = .ok (.iconst 0, 1) := by decide +kernel
theorem dc_Mod_sized_22 : decode bc_Mod_sized 22 = .ok (.ireturn, 1) := by decide +kernel
theorem dc_Mod_place_0 : decode bc_Mod_place 0 = .ok (.aload_n 0, 1) := by decide +kernel
theorem dc_Mod_place_1 : decode bc_Mod_place 1 = .ok (.getfield 50, 3) := by decide +kernel
theorem dc_Mod_place_4 : decode bc_Mod_place 4 = .ok (.ireturn, 1) := by decide +kernel
theorem dc_Mod_account_0 : decode bc_Mod_account 0 = .ok (.iload_n 1, 1) := by decide +kernel
theorem dc_Mod_account_1 : decode bc_Mod_account 1 = .ok (.iconst 0, 1) := by decide +kernel
theorem dc_Mod_account_2 : decode bc_Mod_account 2 = .ok (.bipush 7, 2) := by decide +kernel
theorem dc_Mod_account_4 : decode bc_Mod_account 4 = .ok (.invokestatic 101, 3) := by decide +kernel
theorem dc_Mod_account_7 : decode bc_Mod_account 7 = .ok (.ifCond .eq 13, 3) := by decide +kernel
theorem dc_Mod_account_10 : decode bc_Mod_account 10 = .ok (.iload_n 2, 1) := by decide +kernel
theorem dc_Mod_account_11 : decode bc_Mod_account 11 = .ok (.iconst 0, 1) := by decide +kernel
theorem dc_Mod_account_12 : decode bc_Mod_account 12 = .ok (.ldc 123, 2) := by decide +kernel
theorem dc_Mod_account_14 : decode bc_Mod_account 14 = .ok (.invokestatic 101, 3) := by decide +kernel
theorem dc_Mod_account_17 : decode bc_Mod_account 17 = .ok (.ifCond .ne 5, 3) := by decide +kernel
theorem dc_Mod_account_20 : decode bc_Mod_account 20 = .ok (.iconst (-1), 1) := by decide +kernel
theorem dc_Mod_account_21 : decode bc_Mod_account 21 = .ok (.ireturn, 1) := by decide +kernel
theorem dc_Mod_account_22 : decode bc_Mod_account 22 = .ok (.aload_n 0, 1) := by decide +kernel
theorem dc_Mod_account_23 : decode bc_Mod_account 23 = .ok (.getfield 38, 3) := by decide +kernel
theorem dc_Mod_account_26 : decode bc_Mod_account 26 = .ok (.iload_n 1, 1) := by decide +kernel
theorem dc_Mod_account_27 : decode bc_Mod_account 27 = .ok (.iload_n 2, 1) := by decide +kernel
theorem dc_Mod_account_28 : decode bc_Mod_account 28 = .ok (.iastore, 1) := by decide +kernel
theorem dc_Mod_account_29 : decode bc_Mod_account 29 = .ok (.aload_n 0, 1) := by decide +kernel
theorem dc_Mod_account_30 : decode bc_Mod_account 30 = .ok (.getfield 41, 3) := by decide +kernel
theorem dc_Mod_account_33 : decode bc_Mod_account 33 = .ok (.iload_n 1, 1) := by decide +kernel
theorem dc_Mod_account_34 : decode bc_Mod_account 34 = .ok (.iload_n 3, 1) := by decide +kernel
theorem dc_Mod_account_35 : decode bc_Mod_account 35 = .ok (.iastore, 1) := by decide +kernel
theorem dc_Mod_account_36 : decode bc_Mod_account 36 = .ok (.aload_n 0, 1) := by decide +kernel
theorem dc_Mod_account_37 : decode bc_Mod_account 37 = .ok (.getfield 44, 3) := by decide +kernel
theorem dc_Mod_account_40 : decode bc_Mod_account 40 = .ok (.iload_n 1, 1) := by decide +kernel
theorem dc_Mod_account_41 : decode bc_Mod_account 41 = .ok (.iconst 0, 1) := by decide +kernel
theorem dc_Mod_account_42 : decode bc_Mod_account 42 = .ok (.iastore, 1) := by decide +kernel
theorem dc_Mod_account_43 : decode bc_Mod_account 43 = .ok (.iconst 0, 1) := by decide +kernel
theorem dc_Mod_account_44 : decode bc_Mod_account 44 = .ok (.ireturn, 1) := by decide +kernel
theorem dc_Mod_setting_0 : decode bc_Mod_setting 0 = .ok (.iload_n 1, 1) := by decide +kernel
theorem dc_Mod_setting_1 : decode bc_Mod_setting 1 = .ok (.iconst 0, 1) := by decide +kernel
theorem dc_Mod_setting_2 : decode bc_Mod_setting 2 = .ok (.bipush 6, 2) := by decide +kernel
theorem dc_Mod_setting_4 : decode bc_Mod_setting 4 = .ok (.invokestatic 101, 3) := by decide +kernel
theorem dc_Mod_setting_7 : decode bc_Mod_setting 7 = .ok (.ifCond .eq 32, 3) := by decide +kernel
theorem dc_Mod_setting_10 : decode bc_Mod_setting 10 = .ok (.iload_n 2, 1) := by decide +kernel
theorem dc_Mod_setting_11 : decode bc_Mod_setting 11 = .ok (.iconst 0, 1) := by decide +kernel
theorem dc_Mod_setting_12 : decode bc_Mod_setting 12 = .ok (.iload_n 1, 1) := by decide +kernel
theorem dc_Mod_setting_13 : decode bc_Mod_setting 13 = .ok (.ifCond .eq 13, 3) := by decide +kernel
theorem dc_Mod_setting_16 : decode bc_Mod_setting 16 = .ok (.iload_n 1, 1) := by decide +kernel
theorem dc_Mod_setting_17 : decode bc_Mod_setting 17 = .ok (.iconst 2, 1) := by decide +kernel
theorem dc_Mod_setting_18 : decode bc_Mod_setting 18 = .ok (.if_icmp .eq 8, 3) := by decide +kernel
theorem dc_Mod_setting_21 : decode bc_Mod_setting 21 = .ok (.iload_n 1, 1) := by decide +kernel
theorem dc_Mod_setting_22 : decode bc_Mod_setting 22 = .ok (.iconst 3, 1) := by decide +kernel
theorem dc_Mod_setting_23 : decode bc_Mod_setting 23 = .ok (.if_icmp .ne 8, 3) := by decide +kernel
theorem dc_Mod_setting_26 : decode bc_Mod_setting 26 = .ok (.ldc 124, 2) := by decide +kernel
theorem dc_Mod_setting_28 : decode bc_Mod_setting 28 = .ok (.goto 5, 3) := by decide +kernel
theorem dc_Mod_setting_31 : decode bc_Mod_setting 31 = .ok (.ldc 125, 2) := by decide +kernel
theorem dc_Mod_setting_33 : decode bc_Mod_setting 33 = .ok (.invokestatic 101, 3) := by decide +kernel
theorem dc_Mod_setting_36 : decode bc_Mod_setting 36 = .ok (.ifCond .ne 5, 3) := by decide +kernel
theorem dc_Mod_setting_39 : decode bc_Mod_setting 39 = .ok (.iconst (-1), 1) := by decide +kernel
theorem dc_Mod_setting_40 : decode bc_Mod_setting 40 = .ok (.ireturn, 1) := by decide +kernel
theorem dc_Mod_setting_41 : decode bc_Mod_setting 41 = .ok (.aload_n 0, 1) := by decide +kernel
theorem dc_Mod_setting_42 : decode bc_Mod_setting 42 = .ok (.getfield 47, 3) := by decide +kernel
theorem dc_Mod_setting_45 : decode bc_Mod_setting 45 = .ok (.iload_n 1, 1) := by decide +kernel
theorem dc_Mod_setting_46 : decode bc_Mod_setting 46 = .ok (.iload_n 2, 1) := by decide +kernel
theorem dc_Mod_setting_47 : decode bc_Mod_setting 47 = .ok (.iastore, 1) := by decide +kernel
theorem dc_Mod_setting_48 : decode bc_Mod_setting 48 = .ok (.iconst 0, 1) := by decide +kernel
theorem dc_Mod_setting_49 : decode bc_Mod_setting 49 = .ok (.ireturn, 1) := by decide +kernel
theorem dc_Mod_pay_0 : decode bc_Mod_pay 0 = .ok (.iload_n 1, 1) := by decide +kernel
theorem dc_Mod_pay_1 : decode bc_Mod_pay 1 = .ok (.iconst 0, 1) := by decide +kernel
theorem dc_Mod_pay_2 : decode bc_Mod_pay 2 = .ok (.iconst 3, 1) := by decide +kernel
theorem dc_Mod_pay_3 : decode bc_Mod_pay 3 = .ok (.invokestatic 101, 3) := by decide +kernel
theorem dc_Mod_pay_6 : decode bc_Mod_pay 6 = .ok (.ifCond .eq 43, 3) := by decide +kernel
theorem dc_Mod_pay_9 : decode bc_Mod_pay 9 = .ok (.aload_n 0, 1) := by decide +kernel
theorem dc_Mod_pay_10 : decode bc_Mod_pay 10 = .ok (.getfield 16, 3) := by decide +kernel
theorem dc_Mod_pay_13 : decode bc_Mod_pay 13 = .ok (.iload_n 1, 1) := by decide +kernel
theorem dc_Mod_pay_14 : decode bc_Mod_pay 14 = .ok (.baload, 1) := by decide +kernel
theorem dc_Mod_pay_15 : decode bc_Mod_pay 15 = .ok (.ifCond .eq 34, 3) := by decide +kernel
theorem dc_Mod_pay_18 : decode bc_Mod_pay 18 = .ok (.iload_n 2, 1) := by decide +kernel
theorem dc_Mod_pay_19 : decode bc_Mod_pay 19 = .ok (.iconst 1, 1) := by decide +kernel
theorem dc_Mod_pay_20 : decode bc_Mod_pay 20 = .ok (.ldc 124, 2) := by decide +kernel
theorem dc_Mod_pay_22 : decode bc_Mod_pay 22 = .ok (.invokestatic 101, 3) := by decide +kernel
theorem dc_Mod_pay_25 : decode bc_Mod_pay 25 = .ok (.ifCond .eq 24, 3) := by decide +kernel
theorem dc_Mod_pay_28 : decode bc_Mod_pay 28 = .ok (.iload_n 3, 1) := by decide +kernel
theorem dc_Mod_pay_29 : decode bc_Mod_pay 29 = .ok (.iconst (-1), 1) := by decide +kernel
theorem dc_Mod_pay_30 : decode bc_Mod_pay 30 = .ok (.sipush 9999, 3) := by decide +kernel
theorem dc_Mod_pay_33 : decode bc_Mod_pay 33 = .ok (.invokestatic 101, 3) := by decide +kernel
theorem dc_Mod_pay_36 : decode bc_Mod_pay 36 = .ok (.ifCond .eq 13, 3) := by decide +kernel
theorem dc_Mod_pay_39 : decode bc_Mod_pay 39 = .ok (.iload 4, 2) := by decide +kernel
theorem dc_Mod_pay_41 : decode bc_Mod_pay 41 = .ok (.iconst 0, 1) := by decide +kernel
theorem dc_Mod_pay_42 : decode bc_Mod_pay 42 = .ok (.iconst 3, 1) := by decide +kernel
theorem dc_Mod_pay_43 : decode bc_Mod_pay 43 = .ok (.invokestatic 101, 3) := by decide +kernel
theorem dc_Mod_pay_46 : decode bc_Mod_pay 46 = .ok (.ifCond .ne 5, 3) := by decide +kernel
theorem dc_Mod_pay_49 : decode bc_Mod_pay 49 = .ok (.iconst (-1), 1) := by decide +kernel
theorem dc_Mod_pay_50 : decode bc_Mod_pay 50 = .ok (.ireturn, 1) := by decide +kernel
theorem dc_Mod_pay_51 : decode bc_Mod_pay 51 = .ok (.aload_n 0, 1) := by decide +kernel
theorem dc_Mod_pay_52 : decode bc_Mod_pay 52 = .ok (.getfield 155, 3) := by decide +kernel
theorem dc_Mod_pay_55 : decode bc_Mod_pay 55 = .ok (.bipush 6, 2) := by decide +kernel
theorem dc_Mod_pay_57 : decode bc_Mod_pay 57 = .ok (.if_icmp .ne 6, 3) := by decide +kernel
theorem dc_Mod_pay_60 : decode bc_Mod_pay 60 = .ok (.bipush (-2), 2) := by decide +kernel
theorem dc_Mod_pay_62 : decode bc_Mod_pay 62 = .ok (.ireturn, 1) := by decide +kernel
theorem dc_Mod_pay_63 : decode bc_Mod_pay 63 = .ok (.aload_n 0, 1) := by decide +kernel
theorem dc_Mod_pay_64 : decode bc_Mod_pay 64 = .ok (.dup, 1) := by decide +kernel
theorem dc_Mod_pay_65 : decode bc_Mod_pay 65 = .ok (.getfield 145, 3) := by decide +kernel
theorem dc_Mod_pay_68 : decode bc_Mod_pay 68 = .ok (.iconst 1, 1) := by decide +kernel
theorem dc_Mod_pay_69 : decode bc_Mod_pay 69 = .ok (.iadd, 1) := by decide +kernel
theorem dc_Mod_pay_70 : decode bc_Mod_pay 70 = .ok (.putfield 145, 3) := by decide +kernel
theorem dc_Mod_pay_73 : decode bc_Mod_pay 73 = .ok (.aload_n 0, 1) := by decide +kernel
theorem dc_Mod_pay_74 : decode bc_Mod_pay 74 = .ok (.getfield 29, 3) := by decide +kernel
theorem dc_Mod_pay_77 : decode bc_Mod_pay 77 = .ok (.iload_n 1, 1) := by decide +kernel
theorem dc_Mod_pay_78 : decode bc_Mod_pay 78 = .ok (.dup2, 1) := by decide +kernel
theorem dc_Mod_pay_79 : decode bc_Mod_pay 79 = .ok (.iaload, 1) := by decide +kernel
theorem dc_Mod_pay_80 : decode bc_Mod_pay 80 = .ok (.iconst 1, 1) := by decide +kernel
theorem dc_Mod_pay_81 : decode bc_Mod_pay 81 = .ok (.iadd, 1) := by decide +kernel
theorem dc_Mod_pay_82 : decode bc_Mod_pay 82 = .ok (.iastore, 1) := by decide +kernel
theorem dc_Mod_pay_83 : decode bc_Mod_pay 83 = .ok (.aload_n 0, 1) := by decide +kernel
theorem dc_Mod_pay_84 : decode bc_Mod_pay 84 = .ok (.aload_n 0, 1) := by decide +kernel
theorem dc_Mod_pay_85 : decode bc_Mod_pay 85 = .ok (.getfield 47, 3) := by decide +kernel
theorem dc_Mod_pay_88 : decode bc_Mod_pay 88 = .ok (.iconst 1, 1) := by decide +kernel
theorem dc_Mod_pay_89 : decode bc_Mod_pay 89 = .ok (.iaload, 1) := by decide +kernel
theorem dc_Mod_pay_90 : decode bc_Mod_pay 90 = .ok (.aload_n 0, 1) := by decide +kernel
theorem dc_Mod_pay_91 : decode bc_Mod_pay 91 = .ok (.iload_n 1, 1) := by decide +kernel
theorem dc_Mod_pay_92 : decode bc_Mod_pay 92 = .ok (.sipush 24356, 3) := by decide +kernel
theorem dc_Mod_pay_95 : decode bc_Mod_pay 95 = .ok (.iconst 0, 1) := by decide +kernel
theorem dc_Mod_pay_96 : decode bc_Mod_pay 96 = .ok (.invokevirtual 139, 3) := by decide +kernel
theorem dc_Mod_pay_99 : decode bc_Mod_pay 99 = .ok (.if_icmp .le 7, 3) := by decide +kernel
theorem dc_Mod_pay_102 : decode bc_Mod_pay 102 = .ok (.iconst 1, 1) := by decide +kernel
theorem dc_Mod_pay_103 : decode bc_Mod_pay 103 = .ok (.goto 4, 3) := by decide +kernel
theorem dc_Mod_pay_106 : decode bc_Mod_pay 106 = .ok (.iconst 0, 1) := by decide +kernel
theorem dc_Mod_pay_107 : decode bc_Mod_pay 107 = .ok (.aload_n 0, 1) := by decide +kernel
theorem dc_Mod_pay_108 : decode bc_Mod_pay 108 = .ok (.getfield 35, 3) := by decide +kernel
theorem dc_Mod_pay_111 : decode bc_Mod_pay 111 = .ok (.iload_n 1, 1) := by decide +kernel
theorem dc_Mod_pay_112 : decode bc_Mod_pay 112 = .ok (.baload, 1) := by decide +kernel
theorem dc_Mod_pay_113 : decode bc_Mod_pay 113 = .ok (.ifCond .eq 7, 3) := by decide +kernel
theorem dc_Mod_pay_116 : decode bc_Mod_pay 116 = .ok (.iconst 0, 1) := by decide +kernel
theorem dc_Mod_pay_117 : decode bc_Mod_pay 117 = .ok (.goto 6, 3) := by decide +kernel
theorem dc_Mod_pay_120 : decode bc_Mod_pay 120 = .ok (.sipush 512, 3) := by decide +kernel
theorem dc_Mod_pay_123 : decode bc_Mod_pay 123 = .ok (.iadd, 1) := by decide +kernel
theorem dc_Mod_pay_124 : decode bc_Mod_pay 124 = .ok (.putfield 133, 3) := by decide +kernel
theorem dc_Mod_pay_127 : decode bc_Mod_pay 127 = .ok (.aload_n 0, 1) := by decide +kernel
theorem dc_Mod_pay_128 : decode bc_Mod_pay 128 = .ok (.iload_n 1, 1) := by decide +kernel
theorem dc_Mod_pay_129 : decode bc_Mod_pay 129 = .ok (.iload_n 2, 1) := by decide +kernel
theorem dc_Mod_pay_130 : decode bc_Mod_pay 130 = .ok (.iload_n 3, 1) := by decide +kernel
theorem dc_Mod_pay_131 : decode bc_Mod_pay 131 = .ok (.invokevirtual 158, 3) := by decide +kernel
theorem dc_Mod_pay_134 : decode bc_Mod_pay 134 = .ok (.iload_n 2, 1) := by decide +kernel
theorem dc_Mod_pay_135 : decode bc_Mod_pay 135 = .ok (.aload_n 0, 1) := by decide +kernel
theorem dc_Mod_pay_136 : decode bc_Mod_pay 136 = .ok (.getfield 47, 3) := by decide +kernel
theorem dc_Mod_pay_139 : decode bc_Mod_pay 139 = .ok (.iconst 0, 1) := by decide +kernel
theorem dc_Mod_pay_140 : decode bc_Mod_pay 140 = .ok (.iaload, 1) := by decide +kernel
theorem dc_Mod_pay_141 : decode bc_Mod_pay 141 = .ok (.if_icmp .lt 14, 3) := by decide +kernel
theorem dc_Mod_pay_144 : decode bc_Mod_pay 144 = .ok (.aload_n 0, 1) := by decide +kernel
theorem dc_Mod_pay_145 : decode bc_Mod_pay 145 = .ok (.dup, 1) := by decide +kernel
theorem dc_Mod_pay_146 : decode bc_Mod_pay 146 = .ok (.getfield 133, 3) := by decide +kernel
theorem dc_Mod_pay_149 : decode bc_Mod_pay 149 = .ok (.bipush 64, 2) := by decide +kernel
theorem dc_Mod_pay_151 : decode bc_Mod_pay 151 = .ok (.ior, 1) := by decide +kernel
theorem dc_Mod_pay_152 : decode bc_Mod_pay 152 = .ok (.putfield 133, 3) := by decide +kernel
theorem dc_Mod_pay_155 : decode bc_Mod_pay 155 = .ok (.aload_n 0, 1) := by decide +kernel
theorem dc_Mod_pay_156 : decode bc_Mod_pay 156 = .ok (.iload_n 1, 1) := by decide +kernel
theorem dc_Mod_pay_157 : decode bc_Mod_pay 157 = .ok (.ldc 118, 2) := by decide +kernel
theorem dc_Mod_pay_159 : decode bc_Mod_pay 159 = .ok (.iconst (-1), 1) := by decide +kernel
theorem dc_Mod_pay_160 : decode bc_Mod_pay 160 = .ok (.invokevirtual 139, 3) := by decide +kernel
theorem dc_Mod_pay_163 : decode bc_Mod_pay 163 = .ok (.istore 5, 2) := by decide +kernel
theorem dc_Mod_pay_165 : decode bc_Mod_pay 165 = .ok (.aload_n 0, 1) := by decide +kernel
theorem dc_Mod_pay_166 : decode bc_Mod_pay 166 = .ok (.iload_n 1, 1) := by decide +kernel
theorem dc_Mod_pay_167 : decode bc_Mod_pay 167 = .ok (.ldc 119, 2) := by decide +kernel
theorem dc_Mod_pay_169 : decode bc_Mod_pay 169 = .ok (.iconst (-1), 1) := by decide +kernel
theorem dc_Mod_pay_170 : decode bc_Mod_pay 170 = .ok (.invokevirtual 139, 3) := by decide +kernel
theorem dc_Mod_pay_173 : decode bc_Mod_pay 173 = .ok (.istore 6, 2) := by decide +kernel
theorem dc_Mod_pay_175 : decode bc_Mod_pay 175 = .ok (.iload 5, 2) := by decide +kernel
theorem dc_Mod_pay_177 : decode bc_Mod_pay 177 = .ok (.ifCond .lt 54, 3) := by decide +kernel
theorem dc_Mod_pay_180 : decode bc_Mod_pay 180 = .ok (.iload 6, 2) := by decide +kernel
theorem dc_Mod_pay_182 : decode bc_Mod_pay 182 = .ok (.ifCond .lt 49, 3) := by decide +kernel
theorem dc_Mod_pay_185 : decode bc_Mod_pay 185 = .ok (.aload_n 0, 1) := by decide +kernel
theorem dc_Mod_pay_186 : decode bc_Mod_pay 186 = .ok (.dup, 1) := by decide +kernel
theorem dc_Mod_pay_187 : decode bc_Mod_pay 187 = .ok (.getfield 133, 3) := by decide +kernel
theorem dc_Mod_pay_190 : decode bc_Mod_pay 190 = .ok (.aload_n 0, 1) := by decide +kernel
theorem dc_Mod_pay_191 : decode bc_Mod_pay 191 = .ok (.getfield 32, 3) := by decide +kernel
theorem dc_Mod_pay_194 : decode bc_Mod_pay 194 = .ok (.iload_n 1, 1) := by decide +kernel
theorem dc_Mod_pay_195 : decode bc_Mod_pay 195 = .ok (.iaload, 1) := by decide +kernel
theorem dc_Mod_pay_196 : decode bc_Mod_pay 196 = .ok (.iload 5, 2) := by decide +kernel
theorem dc_Mod_pay_198 : decode bc_Mod_pay 198 = .ok (.if_icmp .lt 9, 3) := by decide +kernel
theorem dc_Mod_pay_201 : decode bc_Mod_pay 201 = .ok (.sipush 128, 3) := by decide +kernel
theorem dc_Mod_pay_204 : decode bc_Mod_pay 204 = .ok (.goto 4, 3) := by decide +kernel
theorem dc_Mod_pay_207 : decode bc_Mod_pay 207 = .ok (.iconst 0, 1) := by decide +kernel
theorem dc_Mod_pay_208 : decode bc_Mod_pay 208 = .ok (.aload_n 0, 1) := by decide +kernel
theorem dc_Mod_pay_209 : decode bc_Mod_pay 209 = .ok (.getfield 32, 3) := by decide +kernel
theorem dc_Mod_pay_212 : decode bc_Mod_pay 212 = .ok (.iload_n 1, 1) := by decide +kernel
theorem dc_Mod_pay_213 : decode bc_Mod_pay 213 = .ok (.iaload, 1) := by decide +kernel
theorem dc_Mod_pay_214 : decode bc_Mod_pay 214 = .ok (.iload 6, 2) := by decide +kernel
theorem dc_Mod_pay_216 : decode bc_Mod_pay 216 = .ok (.if_icmp .lt 9, 3) := by decide +kernel
theorem dc_Mod_pay_219 : decode bc_Mod_pay 219 = .ok (.sipush 256, 3) := by decide +kernel
theorem dc_Mod_pay_222 : decode bc_Mod_pay 222 = .ok (.goto 4, 3) := by decide +kernel
theorem dc_Mod_pay_225 : decode bc_Mod_pay 225 = .ok (.iconst 0, 1) := by decide +kernel
theorem dc_Mod_pay_226 : decode bc_Mod_pay 226 = .ok (.iadd, 1) := by decide +kernel
theorem dc_Mod_pay_227 : decode bc_Mod_pay 227 = .ok (.ior, 1) := by decide +kernel
theorem dc_Mod_pay_228 : decode bc_Mod_pay 228 = .ok (.putfield 133, 3) := by decide +kernel
theorem dc_Mod_pay_231 : decode bc_Mod_pay 231 = .ok (.aload_n 0, 1) := by decide +kernel
theorem dc_Mod_pay_232 : decode bc_Mod_pay 232 = .ok (.iload_n 1, 1) := by decide +kernel
theorem dc_Mod_pay_233 : decode bc_Mod_pay 233 = .ok (.invokevirtual 162, 3) := by decide +kernel
theorem dc_Mod_pay_236 : decode bc_Mod_pay 236 = .ok (.istore 7, 2) := by decide +kernel
theorem dc_Mod_pay_238 : decode bc_Mod_pay 238 = .ok (.aload_n 0, 1) := by decide +kernel
theorem dc_Mod_pay_239 : decode bc_Mod_pay 239 = .ok (.iload_n 1, 1) := by decide +kernel
theorem dc_Mod_pay_240 : decode bc_Mod_pay 240 = .ok (.iload_n 2, 1) := by decide +kernel
theorem dc_Mod_pay_241 : decode bc_Mod_pay 241 = .ok (.invokevirtual 166, 3) := by decide +kernel
theorem dc_Mod_pay_244 : decode bc_Mod_pay 244 = .ok (.iload 7, 2) := by decide +kernel
theorem dc_Mod_pay_246 : decode bc_Mod_pay 246 = .ok (.ifCond .eq 12, 3) := by decide +kernel
theorem dc_Mod_pay_249 : decode bc_Mod_pay 249 = .ok (.aload_n 0, 1) := by decide +kernel
theorem dc_Mod_pay_250 : decode bc_Mod_pay 250 = .ok (.getfield 26, 3) := by decide +kernel
theorem dc_Mod_pay_253 : decode bc_Mod_pay 253 = .ok (.iload_n 1, 1) := by decide +kernel
theorem dc_Mod_pay_254 : decode bc_Mod_pay 254 = .ok (.iaload, 1) := by decide +kernel
theorem dc_Mod_pay_255 : decode bc_Mod_pay 255 = .ok (.ifCond .ne 7, 3) := by decide +kernel
theorem dc_Mod_pay_258 : decode bc_Mod_pay 258 = .ok (.iconst 0, 1) := by decide +kernel
theorem dc_Mod_pay_259 : decode bc_Mod_pay 259 = .ok (.goto 22, 3) := by decide +kernel
theorem dc_Mod_pay_262 : decode bc_Mod_pay 262 = .ok (.iload 7, 2) := by decide +kernel
theorem dc_Mod_pay_264 : decode bc_Mod_pay 264 = .ok (.iconst 1, 1) := by decide +kernel
theorem dc_Mod_pay_265 : decode bc_Mod_pay 265 = .ok (.if_icmp .eq 11, 3) := by decide +kernel
theorem dc_Mod_pay_268 : decode bc_Mod_pay 268 = .ok (.aload_n 0, 1) := by decide +kernel
theorem dc_Mod_pay_269 : decode bc_Mod_pay 269 = .ok (.iload_n 1, 1) := by decide +kernel
theorem dc_Mod_pay_270 : decode bc_Mod_pay 270 = .ok (.invokevirtual 170, 3) := by decide +kernel
theorem dc_Mod_pay_273 : decode bc_Mod_pay 273 = .ok (.ifCond .eq 7, 3) := by decide +kernel
theorem dc_Mod_pay_276 : decode bc_Mod_pay 276 = .ok (.iconst 1, 1) := by decide +kernel
theorem dc_Mod_pay_277 : decode bc_Mod_pay 277 = .ok (.goto 4, 3) := by decide +kernel
theorem dc_Mod_pay_280 : decode bc_Mod_pay 280 = .ok (.iconst 2, 1) := by decide +kernel
theorem dc_Mod_pay_281 : decode bc_Mod_pay 281 = .ok (.istore 8, 2) := by decide +kernel
theorem dc_Mod_pay_283 : decode bc_Mod_pay 283 = .ok (.aload_n 0, 1) := by decide +kernel
theorem dc_Mod_pay_284 : decode bc_Mod_pay 284 = .ok (.getfield 69, 3) := by decide +kernel
theorem dc_Mod_pay_287 : decode bc_Mod_pay 287 = .ok (.iconst 2, 1) := by decide +kernel
theorem dc_Mod_pay_288 : decode bc_Mod_pay 288 = .ok (.iload 7, 2) := by decide +kernel
theorem dc_Mod_pay_290 : decode bc_Mod_pay 290 = .ok (.iastore, 1) := by decide +kernel
theorem dc_Mod_pay_291 : decode bc_Mod_pay 291 = .ok (.aload_n 0, 1) := by decide +kernel
theorem dc_Mod_pay_292 : decode bc_Mod_pay 292 = .ok (.getfield 69, 3) := by decide +kernel
theorem dc_Mod_pay_295 : decode bc_Mod_pay 295 = .ok (.iconst 3, 1) := by decide +kernel
theorem dc_Mod_pay_296 : decode bc_Mod_pay 296 = .ok (.iload 8, 2) := by decide +kernel
theorem dc_Mod_pay_298 : decode bc_Mod_pay 298 = .ok (.iastore, 1) := by decide +kernel
theorem dc_Mod_pay_299 : decode bc_Mod_pay 299 = .ok (.aload_n 0, 1) := by decide +kernel
theorem dc_Mod_pay_300 : decode bc_Mod_pay 300 = .ok (.getfield 69, 3) := by decide +kernel
theorem dc_Mod_pay_303 : decode bc_Mod_pay 303 = .ok (.iconst 4, 1) := by decide +kernel
theorem dc_Mod_pay_304 : decode bc_Mod_pay 304 = .ok (.aload_n 0, 1) := by decide +kernel
theorem dc_Mod_pay_305 : decode bc_Mod_pay 305 = .ok (.aload_n 0, 1) := by decide +kernel
theorem dc_Mod_pay_306 : decode bc_Mod_pay 306 = .ok (.getfield 20, 3) := by decide +kernel
theorem dc_Mod_pay_309 : decode bc_Mod_pay 309 = .ok (.iload_n 1, 1) := by decide +kernel
theorem dc_Mod_pay_310 : decode bc_Mod_pay 310 = .ok (.iaload, 1) := by decide +kernel
theorem dc_Mod_pay_311 : decode bc_Mod_pay 311 = .ok (.iload 8, 2) := by decide +kernel
theorem dc_Mod_pay_313 : decode bc_Mod_pay 313 = .ok (.aload_n 0, 1) := by decide +kernel
theorem dc_Mod_pay_314 : decode bc_Mod_pay 314 = .ok (.getfield 29, 3) := by decide +kernel
theorem dc_Mod_pay_317 : decode bc_Mod_pay 317 = .ok (.iload_n 1, 1) := by decide +kernel
theorem dc_Mod_pay_318 : decode bc_Mod_pay 318 = .ok (.iaload, 1) := by decide +kernel
theorem dc_Mod_pay_319 : decode bc_Mod_pay 319 = .ok (.invokevirtual 152, 3) := by decide +kernel
theorem dc_Mod_pay_322 : decode bc_Mod_pay 322 = .ok (.iastore, 1) := by decide +kernel
theorem dc_Mod_pay_323 : decode bc_Mod_pay 323 = .ok (.aload_n 0, 1) := by decide +kernel
theorem dc_Mod_pay_324 : decode bc_Mod_pay 324 = .ok (.getfield 69, 3) := by decide +kernel
theorem dc_Mod_pay_327 : decode bc_Mod_pay 327 = .ok (.iconst 5, 1) := by decide +kernel
theorem dc_Mod_pay_328 : decode bc_Mod_pay 328 = .ok (.iconst (-1), 1) := by decide +kernel
theorem dc_Mod_pay_329 : decode bc_Mod_pay 329 = .ok (.iastore, 1) := by decide +kernel
theorem dc_Mod_pay_330 : decode bc_Mod_pay 330 = .ok (.aload_n 0, 1) := by decide +kernel
theorem dc_Mod_pay_331 : decode bc_Mod_pay 331 = .ok (.getfield 69, 3) := by decide +kernel
theorem dc_Mod_pay_334 : decode bc_Mod_pay 334 = .ok (.bipush 6, 2) := by decide +kernel
theorem dc_Mod_pay_336 : decode bc_Mod_pay 336 = .ok (.iconst 0, 1) := by decide +kernel
theorem dc_Mod_pay_337 : decode bc_Mod_pay 337 = .ok (.iastore, 1) := by decide +kernel
theorem dc_Mod_pay_338 : decode bc_Mod_pay 338 = .ok (.aload_n 0, 1) := by decide +kernel
theorem dc_Mod_pay_339 : decode bc_Mod_pay 339 = .ok (.getfield 69, 3) := by decide +kernel
theorem dc_Mod_pay_342 : decode bc_Mod_pay 342 = .ok (.bipush 7, 2) := by decide +kernel
theorem dc_Mod_pay_344 : decode bc_Mod_pay 344 = .ok (.iconst 0, 1) := by decide +kernel
theorem dc_Mod_pay_345 : decode bc_Mod_pay 345 = .ok (.iastore, 1) := by decide +kernel
theorem dc_Mod_pay_346 : decode bc_Mod_pay 346 = .ok (.aload_n 0, 1) := by decide +kernel
theorem dc_Mod_pay_347 : decode bc_Mod_pay 347 = .ok (.getfield 69, 3) := by decide +kernel
theorem dc_Mod_pay_350 : decode bc_Mod_pay 350 = .ok (.bipush 8, 2) := by decide +kernel
theorem dc_Mod_pay_352 : decode bc_Mod_pay 352 = .ok (.aload_n 0, 1) := by decide +kernel
theorem dc_Mod_pay_353 : decode bc_Mod_pay 353 = .ok (.getfield 145, 3) := by decide +kernel
theorem dc_Mod_pay_356 : decode bc_Mod_pay 356 = .ok (.iastore, 1) := by decide +kernel
theorem dc_Mod_pay_357 : decode bc_Mod_pay 357 = .ok (.aload_n 0, 1) := by decide +kernel
theorem dc_Mod_pay_358 : decode bc_Mod_pay 358 = .ok (.getfield 54, 3) := by decide +kernel
theorem dc_Mod_pay_361 : decode bc_Mod_pay 361 = .ok (.aload_n 0, 1) := by decide +kernel
theorem dc_Mod_pay_362 : decode bc_Mod_pay 362 = .ok (.getfield 145, 3) := by decide +kernel
theorem dc_Mod_pay_365 : decode bc_Mod_pay 365 = .ok (.aload_n 0, 1) := by decide +kernel
theorem dc_Mod_pay_366 : decode bc_Mod_pay 366 = .ok (.iload_n 1, 1) := by decide +kernel
theorem dc_Mod_pay_367 : decode bc_Mod_pay 367 = .ok (.bipush 90, 2) := by decide +kernel
theorem dc_Mod_pay_369 : decode bc_Mod_pay 369 = .ok (.iconst 0, 1) := by decide +kernel
theorem dc_Mod_pay_370 : decode bc_Mod_pay 370 = .ok (.invokevirtual 139, 3) := by decide +kernel
theorem dc_Mod_pay_373 : decode bc_Mod_pay 373 = .ok (.iastore, 1) := by decide +kernel
theorem dc_Mod_pay_374 : decode bc_Mod_pay 374 = .ok (.aload_n 0, 1) := by decide +kernel
theorem dc_Mod_pay_375 : decode bc_Mod_pay 375 = .ok (.getfield 57, 3) := by decide +kernel
theorem dc_Mod_pay_378 : decode bc_Mod_pay 378 = .ok (.aload_n 0, 1) := by decide +kernel
theorem dc_Mod_pay_379 : decode bc_Mod_pay 379 = .ok (.getfield 145, 3) := by decide +kernel
theorem dc_Mod_pay_382 : decode bc_Mod_pay 382 = .ok (.iload_n 2, 1) := by decide +kernel
theorem dc_Mod_pay_383 : decode bc_Mod_pay 383 = .ok (.iastore, 1) := by decide +kernel
theorem dc_Mod_pay_384 : decode bc_Mod_pay 384 = .ok (.iload 8, 2) := by decide +kernel
theorem dc_Mod_pay_386 : decode bc_Mod_pay 386 = .ok (.iconst 2, 1) := by decide +kernel
theorem dc_Mod_pay_387 : decode bc_Mod_pay 387 = .ok (.if_icmp .ne 13, 3) := by decide +kernel
theorem dc_Mod_pay_390 : decode bc_Mod_pay 390 = .ok (.aload_n 0, 1) := by decide +kernel
theorem dc_Mod_pay_391 : decode bc_Mod_pay 391 = .ok (.getfield 32, 3) := by decide +kernel
theorem dc_Mod_pay_394 : decode bc_Mod_pay 394 = .ok (.iload_n 1, 1) := by decide +kernel
theorem dc_Mod_pay_395 : decode bc_Mod_pay 395 = .ok (.dup2, 1) := by decide +kernel
theorem dc_Mod_pay_396 : decode bc_Mod_pay 396 = .ok (.iaload, 1) := by decide +kernel
theorem dc_Mod_pay_397 : decode bc_Mod_pay 397 = .ok (.iconst 1, 1) := by decide +kernel
theorem dc_Mod_pay_398 : decode bc_Mod_pay 398 = .ok (.iadd, 1) := by decide +kernel
theorem dc_Mod_pay_399 : decode bc_Mod_pay 399 = .ok (.iastore, 1) := by decide +kernel
theorem dc_Mod_pay_400 : decode bc_Mod_pay 400 = .ok (.iload 8, 2) := by decide +kernel
theorem dc_Mod_pay_402 : decode bc_Mod_pay 402 = .ok (.iconst 2, 1) := by decide +kernel
theorem dc_Mod_pay_403 : decode bc_Mod_pay 403 = .ok (.if_icmp .ne 7, 3) := by decide +kernel
theorem dc_Mod_pay_406 : decode bc_Mod_pay 406 = .ok (.iconst 1, 1) := by decide +kernel
theorem dc_Mod_pay_407 : decode bc_Mod_pay 407 = .ok (.goto 4, 3) := by decide +kernel
theorem dc_Mod_pay_410 : decode bc_Mod_pay 410 = .ok (.iconst 2, 1) := by decide +kernel
theorem dc_Mod_pay_411 : decode bc_Mod_pay 411 = .ok (.istore 9, 2) := by decide +kernel
theorem dc_Mod_pay_413 : decode bc_Mod_pay 413 = .ok (.iload 8, 2) := by decide +kernel
theorem dc_Mod_pay_415 : decode bc_Mod_pay 415 = .ok (.iconst 1, 1) := by decide +kernel
theorem dc_Mod_pay_416 : decode bc_Mod_pay 416 = .ok (.if_icmp .ne 13, 3) := by decide +kernel
theorem dc_Mod_pay_419 : decode bc_Mod_pay 419 = .ok (.aload_n 0, 1) := by decide +kernel
theorem dc_Mod_pay_420 : decode bc_Mod_pay 420 = .ok (.iload_n 1, 1) := by decide +kernel
theorem dc_Mod_pay_421 : decode bc_Mod_pay 421 = .ok (.iload_n 2, 1) := by decide +kernel
theorem dc_Mod_pay_422 : decode bc_Mod_pay 422 = .ok (.iload 4, 2) := by decide +kernel
theorem dc_Mod_pay_424 : decode bc_Mod_pay 424 = .ok (.invokevirtual 174, 3) := by decide +kernel
theorem dc_Mod_pay_427 : decode bc_Mod_pay 427 = .ok (.istore 9, 2) := by decide +kernel
theorem dc_Mod_pay_429 : decode bc_Mod_pay 429 = .ok (.aload_n 0, 1) := by decide +kernel
theorem dc_Mod_pay_430 : decode bc_Mod_pay 430 = .ok (.getfield 69, 3) := by decide +kernel
theorem dc_Mod_pay_433 : decode bc_Mod_pay 433 = .ok (.iconst 0, 1) := by decide +kernel
theorem dc_Mod_pay_434 : decode bc_Mod_pay 434 = .ok (.iload 9, 2) := by decide +kernel
theorem dc_Mod_pay_436 : decode bc_Mod_pay 436 = .ok (.iastore, 1) := by decide +kernel
theorem dc_Mod_pay_437 : decode bc_Mod_pay 437 = .ok (.aload_n 0, 1) := by decide +kernel
theorem dc_Mod_pay_438 : decode bc_Mod_pay 438 = .ok (.getfield 69, 3) := by decide +kernel
theorem dc_Mod_pay_441 : decode bc_Mod_pay 441 = .ok (.iconst 1, 1) := by decide +kernel
theorem dc_Mod_pay_442 : decode bc_Mod_pay 442 = .ok (.aload_n 0, 1) := by decide +kernel
theorem dc_Mod_pay_443 : decode bc_Mod_pay 443 = .ok (.getfield 133, 3) := by decide +kernel
theorem dc_Mod_pay_446 : decode bc_Mod_pay 446 = .ok (.iastore, 1) := by decide +kernel
theorem dc_Mod_pay_447 : decode bc_Mod_pay 447 = .ok (.aload_n 0, 1) := by decide +kernel
theorem dc_Mod_pay_448 : decode bc_Mod_pay 448 = .ok (.getfield 60, 3) := by decide +kernel
theorem dc_Mod_pay_451 : decode bc_Mod_pay 451 = .ok (.aload_n 0, 1) := by decide +kernel
theorem dc_Mod_pay_452 : decode bc_Mod_pay 452 = .ok (.getfield 145, 3) := by decide +kernel
theorem dc_Mod_pay_455 : decode bc_Mod_pay 455 = .ok (.aload_n 0, 1) := by decide +kernel
theorem dc_Mod_pay_456 : decode bc_Mod_pay 456 = .ok (.getfield 69, 3) := by decide +kernel
theorem dc_Mod_pay_459 : decode bc_Mod_pay 459 = .ok (.bipush 7, 2) := by decide +kernel
theorem dc_Mod_pay_461 : decode bc_Mod_pay 461 = .ok (.iaload, 1) := by decide +kernel
theorem dc_Mod_pay_462 : decode bc_Mod_pay 462 = .ok (.iastore, 1) := by decide +kernel
theorem dc_Mod_pay_463 : decode bc_Mod_pay 463 = .ok (.iload 9, 2) := by decide +kernel
theorem dc_Mod_pay_465 : decode bc_Mod_pay 465 = .ok (.iconst 1, 1) := by decide +kernel
theorem dc_Mod_pay_466 : decode bc_Mod_pay 466 = .ok (.if_icmp .ne 13, 3) := by decide +kernel
theorem dc_Mod_pay_469 : decode bc_Mod_pay 469 = .ok (.aload_n 0, 1) := by decide +kernel
theorem dc_Mod_pay_470 : decode bc_Mod_pay 470 = .ok (.dup, 1) := by decide +kernel
theorem dc_Mod_pay_471 : decode bc_Mod_pay 471 = .ok (.getfield 177, 3) := by decide +kernel
theorem dc_Mod_pay_474 : decode bc_Mod_pay 474 = .ok (.iconst 1, 1) := by decide +kernel
theorem dc_Mod_pay_475 : decode bc_Mod_pay 475 = .ok (.iadd, 1) := by decide +kernel
theorem dc_Mod_pay_476 : decode bc_Mod_pay 476 = .ok (.putfield 177, 3) := by decide +kernel
theorem dc_Mod_pay_479 : decode bc_Mod_pay 479 = .ok (.iload 9, 2) := by decide +kernel
theorem dc_Mod_pay_481 : decode bc_Mod_pay 481 = .ok (.ireturn, 1) := by decide +kernel
theorem dc_Mod_number_0 : decode bc_Mod_number 0 = .ok (.aload_n 0, 1) := by decide +kernel
theorem dc_Mod_number_1 : decode bc_Mod_number 1 = .ok (.iload_n 1, 1) := by decide +kernel
theorem dc_Mod_number_2 : decode bc_Mod_number 2 = .ok (.iload_n 2, 1) := by decide +kernel
theorem dc_Mod_number_3 : decode bc_Mod_number 3 = .ok (.invokevirtual 97, 3) := by decide +kernel
theorem dc_Mod_number_6 : decode bc_Mod_number 6 = .ok (.ifCond .ne 5, 3) := by decide +kernel
theorem dc_Mod_number_9 : decode bc_Mod_number 9 = .ok (.iload_n 3, 1) := by decide +kernel
theorem dc_Mod_number_10 : decode bc_Mod_number 10 = .ok (.ireturn, 1) := by decide +kernel
theorem dc_Mod_number_11 : decode bc_Mod_number 11 = .ok (.iconst 0, 1) := by decide +kernel
theorem dc_Mod_number_12 : decode bc_Mod_number 12 = .ok (.istore 4, 2) := by decide +kernel
theorem dc_Mod_number_14 : decode bc_Mod_number 14 = .ok (.aload_n 0, 1) := by decide +kernel
theorem dc_Mod_number_15 : decode bc_Mod_number 15 = .ok (.getfield 75, 3) := by decide +kernel
theorem dc_Mod_number_18 : decode bc_Mod_number 18 = .ok (.istore 5, 2) := by decide +kernel
theorem dc_Mod_number_20 : decode bc_Mod_number 20 = .ok (.iload 5, 2) := by decide +kernel
theorem dc_Mod_number_22 : decode bc_Mod_number 22 = .ok (.aload_n 0, 1) := by decide +kernel
theorem dc_Mod_number_23 : decode bc_Mod_number 23 = .ok (.getfield 78, 3) := by decide +kernel
theorem dc_Mod_number_26 : decode bc_Mod_number 26 = .ok (.if_icmp .ge 25, 3) := by decide +kernel
theorem dc_Mod_number_29 : decode bc_Mod_number 29 = .ok (.sipush 256, 3) := by decide +kernel
theorem dc_Mod_number_32 : decode bc_Mod_number 32 = .ok (.iload 4, 2) := by decide +kernel
theorem dc_Mod_number_34 : decode bc_Mod_number 34 = .ok (.imul, 1) := by decide +kernel
theorem dc_Mod_number_35 : decode bc_Mod_number 35 = .ok (.aload_n 0, 1) := by decide +kernel
theorem dc_Mod_number_36 : decode bc_Mod_number 36 = .ok (.iload_n 1, 1) := by decide +kernel
theorem dc_Mod_number_37 : decode bc_Mod_number 37 = .ok (.iload 5, 2) := by decide +kernel
theorem dc_Mod_number_39 : decode bc_Mod_number 39 = .ok (.invokevirtual 90, 3) := by decide +kernel
theorem dc_Mod_number_42 : decode bc_Mod_number 42 = .ok (.iadd, 1) := by decide +kernel
theorem dc_Mod_number_43 : decode bc_Mod_number 43 = .ok (.istore 4, 2) := by decide +kernel
theorem dc_Mod_number_45 : decode bc_Mod_number 45 = .ok (.iinc 5 1, 3) := by decide +kernel
theorem dc_Mod_number_48 : decode bc_Mod_number 48 = .ok (.goto (-28), 3) := by decide +kernel
theorem dc_Mod_number_51 : decode bc_Mod_number 51 = .ok (.iload 4, 2) := by decide +kernel
theorem dc_Mod_number_53 : decode bc_Mod_number 53 = .ok (.ireturn, 1) := by decide +kernel
theorem dc_Mod_holder_0 : decode bc_Mod_holder 0 = .ok (.aload_n 0, 1) := by decide +kernel
theorem dc_Mod_holder_1 : decode bc_Mod_holder 1 = .ok (.iload_n 1, 1) := by decide +kernel
theorem dc_Mod_holder_2 : decode bc_Mod_holder 2 = .ok (.sipush 142, 3) := by decide +kernel
theorem dc_Mod_holder_5 : decode bc_Mod_holder 5 = .ok (.invokevirtual 97, 3) := by decide +kernel
theorem dc_Mod_holder_8 : decode bc_Mod_holder 8 = .ok (.ifCond .ne 4, 3) := by decide +kernel
theorem dc_Mod_holder_11 : decode bc_Mod_holder 11 = .ok (.return_, 1) := by decide +kernel
theorem dc_Mod_holder_12 : decode bc_Mod_holder 12 = .ok (.aload_n 0, 1) := by decide +kernel
theorem dc_Mod_holder_13 : decode bc_Mod_holder 13 = .ok (.getfield 75, 3) := by decide +kernel
theorem dc_Mod_holder_16 : decode bc_Mod_holder 16 = .ok (.istore 4, 2) := by decide +kernel
theorem dc_Mod_holder_18 : decode bc_Mod_holder 18 = .ok (.aload_n 0, 1) := by decide +kernel
theorem dc_Mod_holder_19 : decode bc_Mod_holder 19 = .ok (.getfield 78, 3) := by decide +kernel
theorem dc_Mod_holder_22 : decode bc_Mod_holder 22 = .ok (.istore 5, 2) := by decide +kernel
theorem dc_Mod_holder_24 : decode bc_Mod_holder 24 = .ok (.sipush 256, 3) := by decide +kernel
theorem dc_Mod_holder_27 : decode bc_Mod_holder 27 = .ok (.aload_n 0, 1) := by decide +kernel
theorem dc_Mod_holder_28 : decode bc_Mod_holder 28 = .ok (.iload_n 1, 1) := by decide +kernel
theorem dc_Mod_holder_29 : decode bc_Mod_holder 29 = .ok (.iload 4, 2) := by decide +kernel
theorem dc_Mod_holder_31 : decode bc_Mod_holder 31 = .ok (.invokevirtual 90, 3) := by decide +kernel
theorem dc_Mod_holder_34 : decode bc_Mod_holder 34 = .ok (.imul, 1) := by decide +kernel
theorem dc_Mod_holder_35 : decode bc_Mod_holder 35 = .ok (.aload_n 0, 1) := by decide +kernel
theorem dc_Mod_holder_36 : decode bc_Mod_holder 36 = .ok (.iload_n 1, 1) := by decide +kernel
theorem dc_Mod_holder_37 : decode bc_Mod_holder 37 = .ok (.iload 4, 2) := by decide +kernel
theorem dc_Mod_holder_39 : decode bc_Mod_holder 39 = .ok (.iconst 1, 1) := by decide +kernel
theorem dc_Mod_holder_40 : decode bc_Mod_holder 40 = .ok (.iadd, 1) := by decide +kernel
theorem dc_Mod_holder_41 : decode bc_Mod_holder 41 = .ok (.invokevirtual 90, 3) := by decide +kernel
theorem dc_Mod_holder_44 : decode bc_Mod_holder 44 = .ok (.iadd, 1) := by decide +kernel
theorem dc_Mod_holder_45 : decode bc_Mod_holder 45 = .ok (.istore 6, 2) := by decide +kernel
theorem dc_Mod_holder_47 : decode bc_Mod_holder 47 = .ok (.iload 4, 2) := by decide +kernel
theorem dc_Mod_holder_49 : decode bc_Mod_holder 49 = .ok (.iconst 2, 1) := by decide +kernel
theorem dc_Mod_holder_50 : decode bc_Mod_holder 50 = .ok (.iadd, 1) := by decide +kernel
theorem dc_Mod_holder_51 : decode bc_Mod_holder 51 = .ok (.istore 7, 2) := by decide +kernel
theorem dc_Mod_holder_53 : decode bc_Mod_holder 53 = .ok (.iload 7, 2) := by decide +kernel
theorem dc_Mod_holder_55 : decode bc_Mod_holder 55 = .ok (.iload 5, 2) := by decide +kernel
theorem dc_Mod_holder_57 : decode bc_Mod_holder 57 = .ok (.if_icmp .ge 137, 3) := by decide +kernel
theorem dc_Mod_holder_60 : decode bc_Mod_holder 60 = .ok (.aload_n 0, 1) := by decide +kernel
theorem dc_Mod_holder_61 : decode bc_Mod_holder 61 = .ok (.iload_n 1, 1) := by decide +kernel
theorem dc_Mod_holder_62 : decode bc_Mod_holder 62 = .ok (.iload 7, 2) := by decide +kernel
theorem dc_Mod_holder_64 : decode bc_Mod_holder 64 = .ok (.invokevirtual 90, 3) := by decide +kernel
theorem dc_Mod_holder_67 : decode bc_Mod_holder 67 = .ok (.sipush 191, 3) := by decide +kernel
theorem dc_Mod_holder_70 : decode bc_Mod_holder 70 = .ok (.iand, 1) := by decide +kernel
theorem dc_Mod_holder_71 : decode bc_Mod_holder 71 = .ok (.istore 8, 2) := by decide +kernel
theorem dc_Mod_holder_73 : decode bc_Mod_holder 73 = .ok (.aload_n 0, 1) := by decide +kernel
theorem dc_Mod_holder_74 : decode bc_Mod_holder 74 = .ok (.iload_n 1, 1) := by decide +kernel
theorem dc_Mod_holder_75 : decode bc_Mod_holder 75 = .ok (.iload 7, 2) := by decide +kernel
theorem dc_Mod_holder_77 : decode bc_Mod_holder 77 = .ok (.iconst 1, 1) := by decide +kernel
theorem dc_Mod_holder_78 : decode bc_Mod_holder 78 = .ok (.iadd, 1) := by decide +kernel
theorem dc_Mod_holder_79 : decode bc_Mod_holder 79 = .ok (.invokevirtual 90, 3) := by decide +kernel
theorem dc_Mod_holder_82 : decode bc_Mod_holder 82 = .ok (.istore 9, 2) := by decide +kernel
theorem dc_Mod_holder_84 : decode bc_Mod_holder 84 = .ok (.iload 9, 2) := by decide +kernel
theorem dc_Mod_holder_86 : decode bc_Mod_holder 86 = .ok (.ifCond .eq 45, 3) := by decide +kernel
theorem dc_Mod_holder_89 : decode bc_Mod_holder 89 = .ok (.iload 9, 2) := by decide +kernel
theorem dc_Mod_holder_91 : decode bc_Mod_holder 91 = .ok (.iconst 1, 1) := by decide +kernel
theorem dc_Mod_holder_92 : decode bc_Mod_holder 92 = .ok (.if_icmp .ne 9, 3) := by decide +kernel
theorem dc_Mod_holder_95 : decode bc_Mod_holder 95 = .ok (.iload_n 2, 1) := by decide +kernel
theorem dc_Mod_holder_96 : decode bc_Mod_holder 96 = .ok (.iload 6, 2) := by decide +kernel
theorem dc_Mod_holder_98 : decode bc_Mod_holder 98 = .ok (.if_icmp .lt 33, 3) := by decide +kernel
theorem dc_Mod_holder_101 : decode bc_Mod_holder 101 = .ok (.iload 9, 2) := by decide +kernel
theorem dc_Mod_holder_103 : decode bc_Mod_holder 103 = .ok (.iconst 2, 1) := by decide +kernel
theorem dc_Mod_holder_104 : decode bc_Mod_holder 104 = .ok (.if_icmp .ne 9, 3) := by decide +kernel
theorem dc_Mod_holder_107 : decode bc_Mod_holder 107 = .ok (.iload_n 2, 1) := by decide +kernel
theorem dc_Mod_holder_108 : decode bc_Mod_holder 108 = .ok (.iload 6, 2) := by decide +kernel
theorem dc_Mod_holder_110 : decode bc_Mod_holder 110 = .ok (.if_icmp .gt 21, 3) := by decide +kernel
theorem dc_Mod_holder_113 : decode bc_Mod_holder 113 = .ok (.iload 9, 2) := by decide +kernel
theorem dc_Mod_holder_115 : decode bc_Mod_holder 115 = .ok (.iconst 3, 1) := by decide +kernel
theorem dc_Mod_holder_116 : decode bc_Mod_holder 116 = .ok (.if_icmp .ne 72, 3) := by decide +kernel
theorem dc_Mod_holder_119 : decode bc_Mod_holder 119 = .ok (.aload_n 0, 1) := by decide +kernel
theorem dc_Mod_holder_120 : decode bc_Mod_holder 120 = .ok (.getfield 47, 3) := by decide +kernel
theorem dc_Mod_holder_123 : decode bc_Mod_holder 123 = .ok (.iconst 3, 1) := by decide +kernel
theorem dc_Mod_holder_124 : decode bc_Mod_holder 124 = .ok (.iaload, 1) := by decide +kernel
theorem dc_Mod_holder_125 : decode bc_Mod_holder 125 = .ok (.ifCond .ne 6, 3) := by decide +kernel
theorem dc_Mod_holder_128 : decode bc_Mod_holder 128 = .ok (.goto 60, 3) := by decide +kernel
theorem dc_Mod_holder_131 : decode bc_Mod_holder 131 = .ok (.iload 8, 2) := by decide +kernel
theorem dc_Mod_holder_133 : decode bc_Mod_holder 133 = .ok (.bipush 31, 2) := by decide +kernel
theorem dc_Mod_holder_135 : decode bc_Mod_holder 135 = .ok (.if_icmp .ne 4, 3) := by decide +kernel
theorem dc_Mod_holder_138 : decode bc_Mod_holder 138 = .ok (.return_, 1) := by decide +kernel
theorem dc_Mod_holder_139 : decode bc_Mod_holder 139 = .ok (.iload 8, 2) := by decide +kernel
theorem dc_Mod_holder_141 : decode bc_Mod_holder 141 = .ok (.iconst 1, 1) := by decide +kernel
theorem dc_Mod_holder_142 : decode bc_Mod_holder 142 = .ok (.if_icmp .ne 13, 3) := by decide +kernel
theorem dc_Mod_holder_145 : decode bc_Mod_holder 145 = .ok (.aload_n 0, 1) := by decide +kernel
theorem dc_Mod_holder_146 : decode bc_Mod_holder 146 = .ok (.iload_n 1, 1) := by decide +kernel
theorem dc_Mod_holder_147 : decode bc_Mod_holder 147 = .ok (.iload_n 3, 1) := by decide +kernel
theorem dc_Mod_holder_148 : decode bc_Mod_holder 148 = .ok (.invokevirtual 136, 3) := by decide +kernel
theorem dc_Mod_holder_151 : decode bc_Mod_holder 151 = .ok (.ifCond .eq 4, 3) := by decide +kernel
theorem dc_Mod_holder_154 : decode bc_Mod_holder 154 = .ok (.return_, 1) := by decide +kernel
theorem dc_Mod_holder_155 : decode bc_Mod_holder 155 = .ok (.iload 8, 2) := by decide +kernel
theorem dc_Mod_holder_157 : decode bc_Mod_holder 157 = .ok (.iconst 1, 1) := by decide +kernel
theorem dc_Mod_holder_158 : decode bc_Mod_holder 158 = .ok (.if_icmp .le 14, 3) := by decide +kernel
theorem dc_Mod_holder_161 : decode bc_Mod_holder 161 = .ok (.aload_n 0, 1) := by decide +kernel
theorem dc_Mod_holder_162 : decode bc_Mod_holder 162 = .ok (.dup, 1) := by decide +kernel
theorem dc_Mod_holder_163 : decode bc_Mod_holder 163 = .ok (.getfield 133, 3) := by decide +kernel
theorem dc_Mod_holder_166 : decode bc_Mod_holder 166 = .ok (.bipush 8, 2) := by decide +kernel
theorem dc_Mod_holder_168 : decode bc_Mod_holder 168 = .ok (.ior, 1) := by decide +kernel
theorem dc_Mod_holder_169 : decode bc_Mod_holder 169 = .ok (.putfield 133, 3) := by decide +kernel
theorem dc_Mod_holder_172 : decode bc_Mod_holder 172 = .ok (.aload_n 0, 1) := by decide +kernel
theorem dc_Mod_holder_173 : decode bc_Mod_holder 173 = .ok (.iload_n 1, 1) := by decide +kernel
theorem dc_Mod_holder_174 : decode bc_Mod_holder 174 = .ok (.iload 7, 2) := by decide +kernel
theorem dc_Mod_holder_176 : decode bc_Mod_holder 176 = .ok (.invokevirtual 90, 3) := by decide +kernel
theorem dc_Mod_holder_179 : decode bc_Mod_holder 179 = .ok (.bipush 64, 2) := by decide +kernel
theorem dc_Mod_holder_181 : decode bc_Mod_holder 181 = .ok (.iand, 1) := by decide +kernel
theorem dc_Mod_holder_182 : decode bc_Mod_holder 182 = .ok (.ifCond .ne 6, 3) := by decide +kernel
theorem dc_Mod_holder_185 : decode bc_Mod_holder 185 = .ok (.goto 9, 3) := by decide +kernel
theorem dc_Mod_holder_188 : decode bc_Mod_holder 188 = .ok (.iinc 7 2, 3) := by decide +kernel
theorem dc_Mod_holder_191 : decode bc_Mod_holder 191 = .ok (.goto (-138), 3) := by decide +kernel
theorem dc_Mod_holder_194 : decode bc_Mod_holder 194 = .ok (.aload_n 0, 1) := by decide +kernel
theorem dc_Mod_holder_195 : decode bc_Mod_holder 195 = .ok (.dup, 1) := by decide +kernel
theorem dc_Mod_holder_196 : decode bc_Mod_holder 196 = .ok (.getfield 133, 3) := by decide +kernel
theorem dc_Mod_holder_199 : decode bc_Mod_holder 199 = .ok (.iconst 4, 1) := by decide +kernel
theorem dc_Mod_holder_200 : decode bc_Mod_holder 200 = .ok (.ior, 1) := by decide +kernel
theorem dc_Mod_holder_201 : decode bc_Mod_holder 201 = .ok (.putfield 133, 3) := by decide +kernel
theorem dc_Mod_holder_204 : decode bc_Mod_holder 204 = .ok (.return_, 1) := by decide +kernel
theorem dc_Mod_pin_0 : decode bc_Mod_pin 0 = .ok (.aload_n 0, 1) := by decide +kernel
theorem dc_Mod_pin_1 : decode bc_Mod_pin 1 = .ok (.getfield 47, 3) := by decide +kernel
theorem dc_Mod_pin_4 : decode bc_Mod_pin 4 = .ok (.iconst 3, 1) := by decide +kernel
theorem dc_Mod_pin_5 : decode bc_Mod_pin 5 = .ok (.iaload, 1) := by decide +kernel
theorem dc_Mod_pin_6 : decode bc_Mod_pin 6 = .ok (.ifCond .eq 7, 3) := by decide +kernel
theorem dc_Mod_pin_9 : decode bc_Mod_pin 9 = .ok (.iload_n 2, 1) := by decide +kernel
theorem dc_Mod_pin_10 : decode bc_Mod_pin 10 = .ok (.ifCond .ge 17, 3) := by decide +kernel
theorem dc_Mod_pin_13 : decode bc_Mod_pin 13 = .ok (.aload_n 0, 1) := by decide +kernel
theorem dc_Mod_pin_14 : decode bc_Mod_pin 14 = .ok (.dup, 1) := by decide +kernel
theorem dc_Mod_pin_15 : decode bc_Mod_pin 15 = .ok (.getfield 133, 3) := by decide +kernel
theorem dc_Mod_pin_18 : decode bc_Mod_pin 18 = .ok (.bipush 16, 2) := by decide +kernel
theorem dc_Mod_pin_20 : decode bc_Mod_pin 20 = .ok (.ior, 1) := by decide +kernel
theorem dc_Mod_pin_21 : decode bc_Mod_pin 21 = .ok (.putfield 133, 3) := by decide +kernel
theorem dc_Mod_pin_24 : decode bc_Mod_pin 24 = .ok (.goto 55, 3) := by decide +kernel
theorem dc_Mod_pin_27 : decode bc_Mod_pin 27 = .ok (.aload_n 0, 1) := by decide +kernel
theorem dc_Mod_pin_28 : decode bc_Mod_pin 28 = .ok (.getfield 26, 3) := by decide +kernel
theorem dc_Mod_pin_31 : decode bc_Mod_pin 31 = .ok (.iload_n 1, 1) := by decide +kernel
theorem dc_Mod_pin_32 : decode bc_Mod_pin 32 = .ok (.iaload, 1) := by decide +kernel
theorem dc_Mod_pin_33 : decode bc_Mod_pin 33 = .ok (.ifCond .ne 17, 3) := by decide +kernel
theorem dc_Mod_pin_36 : decode bc_Mod_pin 36 = .ok (.aload_n 0, 1) := by decide +kernel
theorem dc_Mod_pin_37 : decode bc_Mod_pin 37 = .ok (.dup, 1) := by decide +kernel
theorem dc_Mod_pin_38 : decode bc_Mod_pin 38 = .ok (.getfield 133, 3) := by decide +kernel
theorem dc_Mod_pin_41 : decode bc_Mod_pin 41 = .ok (.bipush 32, 2) := by decide +kernel
theorem dc_Mod_pin_43 : decode bc_Mod_pin 43 = .ok (.ior, 1) := by decide +kernel
theorem dc_Mod_pin_44 : decode bc_Mod_pin 44 = .ok (.putfield 133, 3) := by decide +kernel
theorem dc_Mod_pin_47 : decode bc_Mod_pin 47 = .ok (.goto 32, 3) := by decide +kernel
theorem dc_Mod_pin_50 : decode bc_Mod_pin 50 = .ok (.iload_n 2, 1) := by decide +kernel
theorem dc_Mod_pin_51 : decode bc_Mod_pin 51 = .ok (.aload_n 0, 1) := by decide +kernel
theorem dc_Mod_pin_52 : decode bc_Mod_pin 52 = .ok (.getfield 23, 3) := by decide +kernel
theorem dc_Mod_pin_55 : decode bc_Mod_pin 55 = .ok (.iload_n 1, 1) := by decide +kernel
theorem dc_Mod_pin_56 : decode bc_Mod_pin 56 = .ok (.iaload, 1) := by decide +kernel
theorem dc_Mod_pin_57 : decode bc_Mod_pin 57 = .ok (.if_icmp .ne 12, 3) := by decide +kernel
theorem dc_Mod_pin_60 : decode bc_Mod_pin 60 = .ok (.aload_n 0, 1) := by decide +kernel
theorem dc_Mod_pin_61 : decode bc_Mod_pin 61 = .ok (.getfield 26, 3) := by decide +kernel
theorem dc_Mod_pin_64 : decode bc_Mod_pin 64 = .ok (.iload_n 1, 1) := by decide +kernel
theorem dc_Mod_pin_65 : decode bc_Mod_pin 65 = .ok (.iconst 3, 1) := by decide +kernel
theorem dc_Mod_pin_66 : decode bc_Mod_pin 66 = .ok (.iastore, 1) := by decide +kernel
theorem dc_Mod_pin_67 : decode bc_Mod_pin 67 = .ok (.iconst 1, 1) := by decide +kernel
theorem dc_Mod_pin_68 : decode bc_Mod_pin 68 = .ok (.ireturn, 1) := by decide +kernel
theorem dc_Mod_pin_69 : decode bc_Mod_pin 69 = .ok (.aload_n 0, 1) := by decide +kernel
theorem dc_Mod_pin_70 : decode bc_Mod_pin 70 = .ok (.getfield 26, 3) := by decide +kernel
theorem dc_Mod_pin_73 : decode bc_Mod_pin 73 = .ok (.iload_n 1, 1) := by decide +kernel
theorem dc_Mod_pin_74 : decode bc_Mod_pin 74 = .ok (.dup2, 1) := by decide +kernel
theorem dc_Mod_pin_75 : decode bc_Mod_pin 75 = .ok (.iaload, 1) := by decide +kernel
theorem dc_Mod_pin_76 : decode bc_Mod_pin 76 = .ok (.iconst 1, 1) := by decide +kernel
theorem dc_Mod_pin_77 : decode bc_Mod_pin 77 = .ok (.isub, 1) := by decide +kernel
theorem dc_Mod_pin_78 : decode bc_Mod_pin 78 = .ok (.iastore, 1) := by decide +kernel
theorem dc_Mod_pin_79 : decode bc_Mod_pin 79 = .ok (.iconst 0, 1) := by decide +kernel
theorem dc_Mod_pin_80 : decode bc_Mod_pin 80 = .ok (.ireturn, 1) := by decide +kernel
theorem dc_Mod_wish_0 : decode bc_Mod_wish 0 = .ok (.aload_n 0, 1) := by decide +kernel
theorem dc_Mod_wish_1 : decode bc_Mod_wish 1 = .ok (.getfield 133, 3) := by decide +kernel
theorem dc_Mod_wish_4 : decode bc_Mod_wish 4 = .ok (.aload_n 0, 1) := by decide +kernel
theorem dc_Mod_wish_5 : decode bc_Mod_wish 5 = .ok (.iload_n 1, 1) := by decide +kernel
theorem dc_Mod_wish_6 : decode bc_Mod_wish 6 = .ok (.ldc 148, 2) := by decide +kernel
theorem dc_Mod_wish_8 : decode bc_Mod_wish 8 = .ok (.iconst 5, 1) := by decide +kernel
theorem dc_Mod_wish_9 : decode bc_Mod_wish 9 = .ok (.invokevirtual 149, 3) := by decide +kernel
theorem dc_Mod_wish_12 : decode bc_Mod_wish 12 = .ok (.iand, 1) := by decide +kernel
theorem dc_Mod_wish_13 : decode bc_Mod_wish 13 = .ok (.ifCond .eq 5, 3) := by decide +kernel
theorem dc_Mod_wish_16 : decode bc_Mod_wish 16 = .ok (.iconst 0, 1) := by decide +kernel
theorem dc_Mod_wish_17 : decode bc_Mod_wish 17 = .ok (.ireturn, 1) := by decide +kernel
theorem dc_Mod_wish_18 : decode bc_Mod_wish 18 = .ok (.aload_n 0, 1) := by decide +kernel
theorem dc_Mod_wish_19 : decode bc_Mod_wish 19 = .ok (.getfield 47, 3) := by decide +kernel
theorem dc_Mod_wish_22 : decode bc_Mod_wish 22 = .ok (.iconst 2, 1) := by decide +kernel
theorem dc_Mod_wish_23 : decode bc_Mod_wish 23 = .ok (.iaload, 1) := by decide +kernel
theorem dc_Mod_wish_24 : decode bc_Mod_wish 24 = .ok (.ifCond .eq 26, 3) := by decide +kernel
theorem dc_Mod_wish_27 : decode bc_Mod_wish 27 = .ok (.aload_n 0, 1) := by decide +kernel
theorem dc_Mod_wish_28 : decode bc_Mod_wish 28 = .ok (.getfield 133, 3) := by decide +kernel
theorem dc_Mod_wish_31 : decode bc_Mod_wish 31 = .ok (.aload_n 0, 1) := by decide +kernel
theorem dc_Mod_wish_32 : decode bc_Mod_wish 32 = .ok (.iload_n 1, 1) := by decide +kernel
theorem dc_Mod_wish_33 : decode bc_Mod_wish 33 = .ok (.ldc 114, 2) := by decide +kernel
theorem dc_Mod_wish_35 : decode bc_Mod_wish 35 = .ok (.bipush 6, 2) := by decide +kernel
theorem dc_Mod_wish_37 : decode bc_Mod_wish 37 = .ok (.invokevirtual 149, 3) := by decide +kernel
theorem dc_Mod_wish_40 : decode bc_Mod_wish 40 = .ok (.iand, 1) := by decide +kernel
theorem dc_Mod_wish_41 : decode bc_Mod_wish 41 = .ok (.ifCond .eq 7, 3) := by decide +kernel
theorem dc_Mod_wish_44 : decode bc_Mod_wish 44 = .ok (.iconst 1, 1) := by decide +kernel
theorem dc_Mod_wish_45 : decode bc_Mod_wish 45 = .ok (.goto 4, 3) := by decide +kernel
theorem dc_Mod_wish_48 : decode bc_Mod_wish 48 = .ok (.iconst 2, 1) := by decide +kernel
theorem dc_Mod_wish_49 : decode bc_Mod_wish 49 = .ok (.ireturn, 1) := by decide +kernel
theorem dc_Mod_wish_50 : decode bc_Mod_wish 50 = .ok (.aload_n 0, 1) := by decide +kernel
theorem dc_Mod_wish_51 : decode bc_Mod_wish 51 = .ok (.getfield 133, 3) := by decide +kernel
theorem dc_Mod_wish_54 : decode bc_Mod_wish 54 = .ok (.aload_n 0, 1) := by decide +kernel
theorem dc_Mod_wish_55 : decode bc_Mod_wish 55 = .ok (.iload_n 1, 1) := by decide +kernel
theorem dc_Mod_wish_56 : decode bc_Mod_wish 56 = .ok (.ldc 113, 2) := by decide +kernel
theorem dc_Mod_wish_58 : decode bc_Mod_wish 58 = .ok (.iconst 4, 1) := by decide +kernel
theorem dc_Mod_wish_59 : decode bc_Mod_wish 59 = .ok (.invokevirtual 149, 3) := by decide +kernel
theorem dc_Mod_wish_62 : decode bc_Mod_wish 62 = .ok (.iand, 1) := by decide +kernel
theorem dc_Mod_wish_63 : decode bc_Mod_wish 63 = .ok (.ifCond .eq 7, 3) := by decide +kernel
theorem dc_Mod_wish_66 : decode bc_Mod_wish 66 = .ok (.iconst 0, 1) := by decide +kernel
theorem dc_Mod_wish_67 : decode bc_Mod_wish 67 = .ok (.goto 4, 3) := by decide +kernel
theorem dc_Mod_wish_70 : decode bc_Mod_wish 70 = .ok (.iconst 2, 1) := by decide +kernel
theorem dc_Mod_wish_71 : decode bc_Mod_wish 71 = .ok (.ireturn, 1) := by decide +kernel
theorem dc_Mod_mask_0 : decode bc_Mod_mask 0 = .ok (.aload_n 0, 1) := by decide +kernel
theorem dc_Mod_mask_1 : decode bc_Mod_mask 1 = .ok (.iload_n 1, 1) := by decide +kernel
theorem dc_Mod_mask_2 : decode bc_Mod_mask 2 = .ok (.iload_n 2, 1) := by decide +kernel
theorem dc_Mod_mask_3 : decode bc_Mod_mask 3 = .ok (.iconst 0, 1) := by decide +kernel
theorem dc_Mod_mask_4 : decode bc_Mod_mask 4 = .ok (.invokevirtual 139, 3) := by decide +kernel
theorem dc_Mod_mask_7 : decode bc_Mod_mask 7 = .ok (.aload_n 0, 1) := by decide +kernel
theorem dc_Mod_mask_8 : decode bc_Mod_mask 8 = .ok (.getfield 47, 3) := by decide +kernel
theorem dc_Mod_mask_11 : decode bc_Mod_mask 11 = .ok (.iload_n 3, 1) := by decide +kernel
theorem dc_Mod_mask_12 : decode bc_Mod_mask 12 = .ok (.iaload, 1) := by decide +kernel
theorem dc_Mod_mask_13 : decode bc_Mod_mask 13 = .ok (.ior, 1) := by decide +kernel
theorem dc_Mod_mask_14 : decode bc_Mod_mask 14 = .ok (.ireturn, 1) := by decide +kernel
theorem dc_Mod_gather_0 : decode bc_Mod_gather 0 = .ok (.aload_n 0, 1) := by decide +kernel
theorem dc_Mod_gather_1 : decode bc_Mod_gather 1 = .ok (.iload_n 1, 1) := by decide +kernel
theorem dc_Mod_gather_2 : decode bc_Mod_gather 2 = .ok (.sipush 140, 3) := by decide +kernel
theorem dc_Mod_gather_5 : decode bc_Mod_gather 5 = .ok (.invokevirtual 97, 3) := by decide +kernel
theorem dc_Mod_gather_8 : decode bc_Mod_gather 8 = .ok (.pop, 1) := by decide +kernel
theorem dc_Mod_gather_9 : decode bc_Mod_gather 9 = .ok (.aload_n 0, 1) := by decide +kernel
theorem dc_Mod_gather_10 : decode bc_Mod_gather 10 = .ok (.getfield 78, 3) := by decide +kernel
theorem dc_Mod_gather_13 : decode bc_Mod_gather 13 = .ok (.istore_n 3, 1) := by decide +kernel
theorem dc_Mod_gather_14 : decode bc_Mod_gather 14 = .ok (.aload_n 0, 1) := by decide +kernel
theorem dc_Mod_gather_15 : decode bc_Mod_gather 15 = .ok (.getfield 75, 3) := by decide +kernel
theorem dc_Mod_gather_18 : decode bc_Mod_gather 18 = .ok (.istore 4, 2) := by decide +kernel
theorem dc_Mod_gather_20 : decode bc_Mod_gather 20 = .ok (.aload_n 0, 1) := by decide +kernel
theorem dc_Mod_gather_21 : decode bc_Mod_gather 21 = .ok (.iconst 0, 1) := by decide +kernel
theorem dc_Mod_gather_22 : decode bc_Mod_gather 22 = .ok (.putfield 130, 3) := by decide +kernel
theorem dc_Mod_gather_25 : decode bc_Mod_gather 25 = .ok (.iload 4, 2) := by decide +kernel
theorem dc_Mod_gather_27 : decode bc_Mod_gather 27 = .ok (.iload_n 3, 1) := by decide +kernel
theorem dc_Mod_gather_28 : decode bc_Mod_gather 28 = .ok (.if_icmp .ge 177, 3) := by decide +kernel
theorem dc_Mod_gather_31 : decode bc_Mod_gather 31 = .ok (.aload_n 0, 1) := by decide +kernel
theorem dc_Mod_gather_32 : decode bc_Mod_gather 32 = .ok (.iload_n 1, 1) := by decide +kernel
theorem dc_Mod_gather_33 : decode bc_Mod_gather 33 = .ok (.iload 4, 2) := by decide +kernel
theorem dc_Mod_gather_35 : decode bc_Mod_gather 35 = .ok (.invokevirtual 90, 3) := by decide +kernel
theorem dc_Mod_gather_38 : decode bc_Mod_gather 38 = .ok (.istore 5, 2) := by decide +kernel
theorem dc_Mod_gather_40 : decode bc_Mod_gather 40 = .ok (.iinc 4 1, 3) := by decide +kernel
theorem dc_Mod_gather_43 : decode bc_Mod_gather 43 = .ok (.iload 5, 2) := by decide +kernel
theorem dc_Mod_gather_45 : decode bc_Mod_gather 45 = .ok (.bipush 31, 2) := by decide +kernel
theorem dc_Mod_gather_47 : decode bc_Mod_gather 47 = .ok (.iand, 1) := by decide +kernel
theorem dc_Mod_gather_48 : decode bc_Mod_gather 48 = .ok (.bipush 31, 2) := by decide +kernel
theorem dc_Mod_gather_50 : decode bc_Mod_gather 50 = .ok (.if_icmp .ne 22, 3) := by decide +kernel
theorem dc_Mod_gather_53 : decode bc_Mod_gather 53 = .ok (.sipush 256, 3) := by decide +kernel
theorem dc_Mod_gather_56 : decode bc_Mod_gather 56 = .ok (.iload 5, 2) := by decide +kernel
theorem dc_Mod_gather_58 : decode bc_Mod_gather 58 = .ok (.imul, 1) := by decide +kernel
theorem dc_Mod_gather_59 : decode bc_Mod_gather 59 = .ok (.aload_n 0, 1) := by decide +kernel
theorem dc_Mod_gather_60 : decode bc_Mod_gather 60 = .ok (.iload_n 1, 1) := by decide +kernel
theorem dc_Mod_gather_61 : decode bc_Mod_gather 61 = .ok (.iload 4, 2) := by decide +kernel
theorem dc_Mod_gather_63 : decode bc_Mod_gather 63 = .ok (.invokevirtual 90, 3) := by decide +kernel
theorem dc_Mod_gather_66 : decode bc_Mod_gather 66 = .ok (.iadd, 1) := by decide +kernel
theorem dc_Mod_gather_67 : decode bc_Mod_gather 67 = .ok (.istore 5, 2) := by decide +kernel
theorem dc_Mod_gather_69 : decode bc_Mod_gather 69 = .ok (.iinc 4 1, 3) := by decide +kernel
theorem dc_Mod_gather_72 : decode bc_Mod_gather 72 = .ok (.aload_n 0, 1) := by decide +kernel
theorem dc_Mod_gather_73 : decode bc_Mod_gather 73 = .ok (.iload_n 1, 1) := by decide +kernel
theorem dc_Mod_gather_74 : decode bc_Mod_gather 74 = .ok (.iload 4, 2) := by decide +kernel
theorem dc_Mod_gather_76 : decode bc_Mod_gather 76 = .ok (.invokevirtual 90, 3) := by decide +kernel
theorem dc_Mod_gather_79 : decode bc_Mod_gather 79 = .ok (.istore 6, 2) := by decide +kernel
theorem dc_Mod_gather_81 : decode bc_Mod_gather 81 = .ok (.iinc 4 1, 3) := by decide +kernel
theorem dc_Mod_gather_84 : decode bc_Mod_gather 84 = .ok (.iload 5, 2) := by decide +kernel
theorem dc_Mod_gather_86 : decode bc_Mod_gather 86 = .ok (.ldc 143, 2) := by decide +kernel
theorem dc_Mod_gather_88 : decode bc_Mod_gather 88 = .ok (.if_icmp .ne 7, 3) := by decide +kernel
theorem dc_Mod_gather_91 : decode bc_Mod_gather 91 = .ok (.iload_n 2, 1) := by decide +kernel
theorem dc_Mod_gather_92 : decode bc_Mod_gather 92 = .ok (.goto 50, 3) := by decide +kernel
theorem dc_Mod_gather_95 : decode bc_Mod_gather 95 = .ok (.iload 5, 2) := by decide +kernel
theorem dc_Mod_gather_97 : decode bc_Mod_gather 97 = .ok (.sipush 149, 3) := by decide +kernel
theorem dc_Mod_gather_100 : decode bc_Mod_gather 100 = .ok (.if_icmp .ne 10, 3) := by decide +kernel
theorem dc_Mod_gather_103 : decode bc_Mod_gather 103 = .ok (.aload_n 0, 1) := by decide +kernel
theorem dc_Mod_gather_104 : decode bc_Mod_gather 104 = .ok (.getfield 133, 3) := by decide +kernel
theorem dc_Mod_gather_107 : decode bc_Mod_gather 107 = .ok (.goto 35, 3) := by decide +kernel
theorem dc_Mod_gather_110 : decode bc_Mod_gather 110 = .ok (.iload 5, 2) := by decide +kernel
theorem dc_Mod_gather_112 : decode bc_Mod_gather 112 = .ok (.sipush 154, 3) := by decide +kernel
theorem dc_Mod_gather_115 : decode bc_Mod_gather 115 = .ok (.if_icmp .ne 12, 3) := by decide +kernel
theorem dc_Mod_gather_118 : decode bc_Mod_gather 118 = .ok (.aload_n 0, 1) := by decide +kernel
theorem dc_Mod_gather_119 : decode bc_Mod_gather 119 = .ok (.getfield 47, 3) := by decide +kernel
theorem dc_Mod_gather_122 : decode bc_Mod_gather 122 = .ok (.iconst 1, 1) := by decide +kernel
theorem dc_Mod_gather_123 : decode bc_Mod_gather 123 = .ok (.iaload, 1) := by decide +kernel
theorem dc_Mod_gather_124 : decode bc_Mod_gather 124 = .ok (.goto 18, 3) := by decide +kernel
theorem dc_Mod_gather_127 : decode bc_Mod_gather 127 = .ok (.iload 5, 2) := by decide +kernel
theorem dc_Mod_gather_129 : decode bc_Mod_gather 129 = .ok (.ldc 144, 2) := by decide +kernel
theorem dc_Mod_gather_131 : decode bc_Mod_gather 131 = .ok (.if_icmp .ne 10, 3) := by decide +kernel
theorem dc_Mod_gather_134 : decode bc_Mod_gather 134 = .ok (.aload_n 0, 1) := by decide +kernel
theorem dc_Mod_gather_135 : decode bc_Mod_gather 135 = .ok (.getfield 145, 3) := by decide +kernel
theorem dc_Mod_gather_138 : decode bc_Mod_gather 138 = .ok (.goto 4, 3) := by decide +kernel
theorem dc_Mod_gather_141 : decode bc_Mod_gather 141 = .ok (.iconst 0, 1) := by decide +kernel
theorem dc_Mod_gather_142 : decode bc_Mod_gather 142 = .ok (.istore 7, 2) := by decide +kernel
theorem dc_Mod_gather_144 : decode bc_Mod_gather 144 = .ok (.iload 6, 2) := by decide +kernel
theorem dc_Mod_gather_146 : decode bc_Mod_gather 146 = .ok (.iconst 1, 1) := by decide +kernel
theorem dc_Mod_gather_147 : decode bc_Mod_gather 147 = .ok (.isub, 1) := by decide +kernel
theorem dc_Mod_gather_148 : decode bc_Mod_gather 148 = .ok (.istore 8, 2) := by decide +kernel
theorem dc_Mod_gather_150 : decode bc_Mod_gather 150 = .ok (.iload 8, 2) := by decide +kernel
theorem dc_Mod_gather_152 : decode bc_Mod_gather 152 = .ok (.ifCond .lt 50, 3) := by decide +kernel
theorem dc_Mod_gather_155 : decode bc_Mod_gather 155 = .ok (.aload_n 0, 1) := by decide +kernel
theorem dc_Mod_gather_156 : decode bc_Mod_gather 156 = .ok (.getfield 72, 3) := by decide +kernel
theorem dc_Mod_gather_159 : decode bc_Mod_gather 159 = .ok (.aload_n 0, 1) := by decide +kernel
theorem dc_Mod_gather_160 : decode bc_Mod_gather 160 = .ok (.getfield 130, 3) := by decide +kernel
theorem dc_Mod_gather_163 : decode bc_Mod_gather 163 = .ok (.iload 8, 2) := by decide +kernel
theorem dc_Mod_gather_165 : decode bc_Mod_gather 165 = .ok (.iconst 3, 1) := by decide +kernel
theorem dc_Mod_gather_166 : decode bc_Mod_gather 166 = .ok (.if_icmp .le 7, 3) := by decide +kernel
theorem dc_Mod_gather_169 : decode bc_Mod_gather 169 = .ok (.iconst 0, 1) := by decide +kernel
theorem dc_Mod_gather_170 : decode bc_Mod_gather 170 = .ok (.goto 15, 3) := by decide +kernel
theorem dc_Mod_gather_173 : decode bc_Mod_gather 173 = .ok (.iload 7, 2) := by decide +kernel
theorem dc_Mod_gather_175 : decode bc_Mod_gather 175 = .ok (.bipush 8, 2) := by decide +kernel
theorem dc_Mod_gather_177 : decode bc_Mod_gather 177 = .ok (.iload 8, 2) := by decide +kernel
theorem dc_Mod_gather_179 : decode bc_Mod_gather 179 = .ok (.imul, 1) := by decide +kernel
theorem dc_Mod_gather_180 : decode bc_Mod_gather 180 = .ok (.ishr, 1) := by decide +kernel
theorem dc_Mod_gather_181 : decode bc_Mod_gather 181 = .ok (.sipush 255, 3) := by decide +kernel
theorem dc_Mod_gather_184 : decode bc_Mod_gather 184 = .ok (.iand, 1) := by decide +kernel
theorem dc_Mod_gather_185 : decode bc_Mod_gather 185 = .ok (.iastore, 1) := by decide +kernel
theorem dc_Mod_gather_186 : decode bc_Mod_gather 186 = .ok (.aload_n 0, 1) := by decide +kernel
theorem dc_Mod_gather_187 : decode bc_Mod_gather 187 = .ok (.dup, 1) := by decide +kernel
theorem dc_Mod_gather_188 : decode bc_Mod_gather 188 = .ok (.getfield 130, 3) := by decide +kernel
theorem dc_Mod_gather_191 : decode bc_Mod_gather 191 = .ok (.iconst 1, 1) := by decide +kernel
theorem dc_Mod_gather_192 : decode bc_Mod_gather 192 = .ok (.iadd, 1) := by decide +kernel
theorem dc_Mod_gather_193 : decode bc_Mod_gather 193 = .ok (.putfield 130, 3) := by decide +kernel
theorem dc_Mod_gather_196 : decode bc_Mod_gather 196 = .ok (.iinc 8 (-1), 3) := by decide +kernel
theorem dc_Mod_gather_199 : decode bc_Mod_gather 199 = .ok (.goto (-49), 3) := by decide +kernel
theorem dc_Mod_gather_202 : decode bc_Mod_gather 202 = .ok (.goto (-177), 3) := by decide +kernel
theorem dc_Mod_gather_205 : decode bc_Mod_gather 205 = .ok (.return_, 1) := by decide +kernel
theorem dc_Mod_over_0 : decode bc_Mod_over 0 = .ok (.aload_n 0, 1) := by decide +kernel
theorem dc_Mod_over_1 : decode bc_Mod_over 1 = .ok (.iload_n 1, 1) := by decide +kernel
theorem dc_Mod_over_2 : decode bc_Mod_over 2 = .ok (.ldc 119, 2) := by decide +kernel
theorem dc_Mod_over_4 : decode bc_Mod_over 4 = .ok (.iconst (-1), 1) := by decide +kernel
theorem dc_Mod_over_5 : decode bc_Mod_over 5 = .ok (.invokevirtual 139, 3) := by decide +kernel
theorem dc_Mod_over_8 : decode bc_Mod_over 8 = .ok (.istore_n 2, 1) := by decide +kernel
theorem dc_Mod_over_9 : decode bc_Mod_over 9 = .ok (.iload_n 2, 1) := by decide +kernel
theorem dc_Mod_over_10 : decode bc_Mod_over 10 = .ok (.ifCond .lt 17, 3) := by decide +kernel
theorem dc_Mod_over_13 : decode bc_Mod_over 13 = .ok (.aload_n 0, 1) := by decide +kernel
theorem dc_Mod_over_14 : decode bc_Mod_over 14 = .ok (.getfield 32, 3) := by decide +kernel
theorem dc_Mod_over_17 : decode bc_Mod_over 17 = .ok (.iload_n 1, 1) := by decide +kernel
theorem dc_Mod_over_18 : decode bc_Mod_over 18 = .ok (.iaload, 1) := by decide +kernel
theorem dc_Mod_over_19 : decode bc_Mod_over 19 = .ok (.iload_n 2, 1) := by decide +kernel
theorem dc_Mod_over_20 : decode bc_Mod_over 20 = .ok (.if_icmp .lt 7, 3) := by decide +kernel
theorem dc_Mod_over_23 : decode bc_Mod_over 23 = .ok (.iconst 1, 1) := by decide +kernel
theorem dc_Mod_over_24 : decode bc_Mod_over 24 = .ok (.goto 4, 3) := by decide +kernel
theorem dc_Mod_over_27 : decode bc_Mod_over 27 = .ok (.iconst 0, 1) := by decide +kernel
theorem dc_Mod_over_28 : decode bc_Mod_over 28 = .ok (.ireturn, 1) := by decide +kernel
theorem dc_Mod_cryptogram_0 : decode bc_Mod_cryptogram 0 = .ok (.iload_n 1, 1) := by decide +kernel
theorem dc_Mod_cryptogram_1 : decode bc_Mod_cryptogram 1 = .ok (.iload_n 2, 1) := by decide +kernel
theorem dc_Mod_cryptogram_2 : decode bc_Mod_cryptogram 2 = .ok (.invokestatic 127, 3) := by decide +kernel
theorem dc_Mod_cryptogram_5 : decode bc_Mod_cryptogram 5 = .ok (.iload_n 3, 1) := by decide +kernel
theorem dc_Mod_cryptogram_6 : decode bc_Mod_cryptogram 6 = .ok (.sipush 256, 3) := by decide +kernel
theorem dc_Mod_cryptogram_9 : decode bc_Mod_cryptogram 9 = .ok (.idiv, 1) := by decide +kernel
theorem dc_Mod_cryptogram_10 : decode bc_Mod_cryptogram 10 = .ok (.sipush 256, 3) := by decide +kernel
theorem dc_Mod_cryptogram_13 : decode bc_Mod_cryptogram 13 = .ok (.irem, 1) := by decide +kernel
theorem dc_Mod_cryptogram_14 : decode bc_Mod_cryptogram 14 = .ok (.invokestatic 127, 3) := by decide +kernel
theorem dc_Mod_cryptogram_17 : decode bc_Mod_cryptogram 17 = .ok (.iload_n 3, 1) := by decide +kernel
theorem dc_Mod_cryptogram_18 : decode bc_Mod_cryptogram 18 = .ok (.sipush 256, 3) := by decide +kernel
theorem dc_Mod_cryptogram_21 : decode bc_Mod_cryptogram 21 = .ok (.irem, 1) := by decide +kernel
theorem dc_Mod_cryptogram_22 : decode bc_Mod_cryptogram 22 = .ok (.invokestatic 127, 3) := by decide +kernel
theorem dc_Mod_cryptogram_25 : decode bc_Mod_cryptogram 25 = .ok (.istore 4, 2) := by decide +kernel
theorem dc_Mod_cryptogram_27 : decode bc_Mod_cryptogram 27 = .ok (.iconst 0, 1) := by decide +kernel
theorem dc_Mod_cryptogram_28 : decode bc_Mod_cryptogram 28 = .ok (.istore 5, 2) := by decide +kernel
theorem dc_Mod_cryptogram_30 : decode bc_Mod_cryptogram 30 = .ok (.iload 5, 2) := by decide +kernel
theorem dc_Mod_cryptogram_32 : decode bc_Mod_cryptogram 32 = .ok (.aload_n 0, 1) := by decide +kernel
theorem dc_Mod_cryptogram_33 : decode bc_Mod_cryptogram 33 = .ok (.getfield 130, 3) := by decide +kernel
theorem dc_Mod_cryptogram_36 : decode bc_Mod_cryptogram 36 = .ok (.if_icmp .ge 23, 3) := by decide +kernel
theorem dc_Mod_cryptogram_39 : decode bc_Mod_cryptogram 39 = .ok (.iload 4, 2) := by decide +kernel
theorem dc_Mod_cryptogram_41 : decode bc_Mod_cryptogram 41 = .ok (.aload_n 0, 1) := by decide +kernel
theorem dc_Mod_cryptogram_42 : decode bc_Mod_cryptogram 42 = .ok (.getfield 72, 3) := by decide +kernel
theorem dc_Mod_cryptogram_45 : decode bc_Mod_cryptogram 45 = .ok (.iload 5, 2) := by decide +kernel
theorem dc_Mod_cryptogram_47 : decode bc_Mod_cryptogram 47 = .ok (.iaload, 1) := by decide +kernel
theorem dc_Mod_cryptogram_48 : decode bc_Mod_cryptogram 48 = .ok (.invokestatic 127, 3) := by decide +kernel
theorem dc_Mod_cryptogram_51 : decode bc_Mod_cryptogram 51 = .ok (.istore 4, 2) := by decide +kernel
theorem dc_Mod_cryptogram_53 : decode bc_Mod_cryptogram 53 = .ok (.iinc 5 1, 3) := by decide +kernel
theorem dc_Mod_cryptogram_56 : decode bc_Mod_cryptogram 56 = .ok (.goto (-26), 3) := by decide +kernel
theorem dc_Mod_cryptogram_59 : decode bc_Mod_cryptogram 59 = .ok (.iload 4, 2) := by decide +kernel
theorem dc_Mod_cryptogram_61 : decode bc_Mod_cryptogram 61 = .ok (.ireturn, 1) := by decide +kernel
theorem dc_Mod_stir_0 : decode bc_Mod_stir 0 = .ok (.iload_n 0, 1) := by decide +kernel
theorem dc_Mod_stir_1 : decode bc_Mod_stir 1 = .ok (.iload_n 1, 1) := by decide +kernel
theorem dc_Mod_stir_2 : decode bc_Mod_stir 2 = .ok (.ixor, 1) := by decide +kernel
theorem dc_Mod_stir_3 : decode bc_Mod_stir 3 = .ok (.ldc 126, 2) := by decide +kernel
theorem dc_Mod_stir_5 : decode bc_Mod_stir 5 = .ok (.imul, 1) := by decide +kernel
theorem dc_Mod_stir_6 : decode bc_Mod_stir 6 = .ok (.istore_n 2, 1) := by decide +kernel
theorem dc_Mod_stir_7 : decode bc_Mod_stir 7 = .ok (.iload_n 2, 1) := by decide +kernel
theorem dc_Mod_stir_8 : decode bc_Mod_stir 8 = .ok (.iload_n 2, 1) := by decide +kernel
theorem dc_Mod_stir_9 : decode bc_Mod_stir 9 = .ok (.bipush 13, 2) := by decide +kernel
theorem dc_Mod_stir_11 : decode bc_Mod_stir 11 = .ok (.iushr, 1) := by decide +kernel
theorem dc_Mod_stir_12 : decode bc_Mod_stir 12 = .ok (.ixor, 1) := by decide +kernel
theorem dc_Mod_stir_13 : decode bc_Mod_stir 13 = .ok (.ireturn, 1) := by decide +kernel
theorem dc_Mod_online_0 : decode bc_Mod_online 0 = .ok (.aload_n 0, 1) := by decide +kernel
theorem dc_Mod_online_1 : decode bc_Mod_online 1 = .ok (.getfield 47, 3) := by decide +kernel
theorem dc_Mod_online_4 : decode bc_Mod_online 4 = .ok (.iconst 2, 1) := by decide +kernel
theorem dc_Mod_online_5 : decode bc_Mod_online 5 = .ok (.iaload, 1) := by decide +kernel
theorem dc_Mod_online_6 : decode bc_Mod_online 6 = .ok (.ifCond .eq 7, 3) := by decide +kernel
theorem dc_Mod_online_9 : decode bc_Mod_online 9 = .ok (.iconst 1, 1) := by decide +kernel
theorem dc_Mod_online_10 : decode bc_Mod_online 10 = .ok (.goto 4, 3) := by decide +kernel
theorem dc_Mod_online_13 : decode bc_Mod_online 13 = .ok (.iconst 0, 1) := by decide +kernel
theorem dc_Mod_online_14 : decode bc_Mod_online 14 = .ok (.istore 4, 2) := by decide +kernel
theorem dc_Mod_online_16 : decode bc_Mod_online 16 = .ok (.iload 4, 2) := by decide +kernel
theorem dc_Mod_online_18 : decode bc_Mod_online 18 = .ok (.ifCond .eq 17, 3) := by decide +kernel
theorem dc_Mod_online_21 : decode bc_Mod_online 21 = .ok (.iload_n 3, 1) := by decide +kernel
theorem dc_Mod_online_22 : decode bc_Mod_online 22 = .ok (.iconst 1, 1) := by decide +kernel
theorem dc_Mod_online_23 : decode bc_Mod_online 23 = .ok (.if_icmp .eq 12, 3) := by decide +kernel
theorem dc_Mod_online_26 : decode bc_Mod_online 26 = .ok (.iload_n 3, 1) := by decide +kernel
theorem dc_Mod_online_27 : decode bc_Mod_online 27 = .ok (.iconst 2, 1) := by decide +kernel
theorem dc_Mod_online_28 : decode bc_Mod_online 28 = .ok (.if_icmp .eq 7, 3) := by decide +kernel
theorem dc_Mod_online_31 : decode bc_Mod_online 31 = .ok (.iconst 1, 1) := by decide +kernel
theorem dc_Mod_online_32 : decode bc_Mod_online 32 = .ok (.goto 4, 3) := by decide +kernel
theorem dc_Mod_online_35 : decode bc_Mod_online 35 = .ok (.iconst 0, 1) := by decide +kernel
theorem dc_Mod_online_36 : decode bc_Mod_online 36 = .ok (.istore 5, 2) := by decide +kernel
theorem dc_Mod_online_38 : decode bc_Mod_online 38 = .ok (.iload 4, 2) := by decide +kernel
theorem dc_Mod_online_40 : decode bc_Mod_online 40 = .ok (.ifCond .eq 27, 3) := by decide +kernel
theorem dc_Mod_online_43 : decode bc_Mod_online 43 = .ok (.iload_n 3, 1) := by decide +kernel
theorem dc_Mod_online_44 : decode bc_Mod_online 44 = .ok (.iconst 1, 1) := by decide +kernel
theorem dc_Mod_online_45 : decode bc_Mod_online 45 = .ok (.if_icmp .eq 22, 3) := by decide +kernel
theorem dc_Mod_online_48 : decode bc_Mod_online 48 = .ok (.aload_n 0, 1) := by decide +kernel
theorem dc_Mod_online_49 : decode bc_Mod_online 49 = .ok (.getfield 69, 3) := by decide +kernel
theorem dc_Mod_online_52 : decode bc_Mod_online 52 = .ok (.bipush 7, 2) := by decide +kernel
theorem dc_Mod_online_54 : decode bc_Mod_online 54 = .ok (.aload_n 0, 1) := by decide +kernel
theorem dc_Mod_online_55 : decode bc_Mod_online 55 = .ok (.iload_n 1, 1) := by decide +kernel
theorem dc_Mod_online_56 : decode bc_Mod_online 56 = .ok (.iload_n 2, 1) := by decide +kernel
theorem dc_Mod_online_57 : decode bc_Mod_online 57 = .ok (.aload_n 0, 1) := by decide +kernel
theorem dc_Mod_online_58 : decode bc_Mod_online 58 = .ok (.getfield 69, 3) := by decide +kernel
theorem dc_Mod_online_61 : decode bc_Mod_online 61 = .ok (.iconst 4, 1) := by decide +kernel
theorem dc_Mod_online_62 : decode bc_Mod_online 62 = .ok (.iaload, 1) := by decide +kernel
theorem dc_Mod_online_63 : decode bc_Mod_online 63 = .ok (.invokevirtual 180, 3) := by decide +kernel
theorem dc_Mod_online_66 : decode bc_Mod_online 66 = .ok (.iastore, 1) := by decide +kernel
theorem dc_Mod_online_67 : decode bc_Mod_online 67 = .ok (.iconst 3, 1) := by decide +kernel
theorem dc_Mod_online_68 : decode bc_Mod_online 68 = .ok (.istore 6, 2) := by decide +kernel
theorem dc_Mod_online_70 : decode bc_Mod_online 70 = .ok (.iload_n 3, 1) := by decide +kernel
theorem dc_Mod_online_71 : decode bc_Mod_online 71 = .ok (.iconst 3, 1) := by decide +kernel
theorem dc_Mod_online_72 : decode bc_Mod_online 72 = .ok (.if_icmp .eq 69, 3) := by decide +kernel
theorem dc_Mod_online_75 : decode bc_Mod_online 75 = .ok (.iload 5, 2) := by decide +kernel
theorem dc_Mod_online_77 : decode bc_Mod_online 77 = .ok (.ifCond .eq 11, 3) := by decide +kernel
theorem dc_Mod_online_80 : decode bc_Mod_online 80 = .ok (.aload_n 0, 1) := by decide +kernel
theorem dc_Mod_online_81 : decode bc_Mod_online 81 = .ok (.iload_n 1, 1) := by decide +kernel
theorem dc_Mod_online_82 : decode bc_Mod_online 82 = .ok (.invokevirtual 183, 3) := by decide +kernel
theorem dc_Mod_online_85 : decode bc_Mod_online 85 = .ok (.goto 8, 3) := by decide +kernel
theorem dc_Mod_online_88 : decode bc_Mod_online 88 = .ok (.aload_n 0, 1) := by decide +kernel
theorem dc_Mod_online_89 : decode bc_Mod_online 89 = .ok (.iload_n 1, 1) := by decide +kernel
theorem dc_Mod_online_90 : decode bc_Mod_online 90 = .ok (.invokevirtual 186, 3) := by decide +kernel
theorem dc_Mod_online_93 : decode bc_Mod_online 93 = .ok (.istore 7, 2) := by decide +kernel
theorem dc_Mod_online_95 : decode bc_Mod_online 95 = .ok (.aload_n 0, 1) := by decide +kernel
theorem dc_Mod_online_96 : decode bc_Mod_online 96 = .ok (.getfield 69, 3) := by decide +kernel
theorem dc_Mod_online_99 : decode bc_Mod_online 99 = .ok (.iconst 5, 1) := by decide +kernel
theorem dc_Mod_online_100 : decode bc_Mod_online 100 = .ok (.iload 7, 2) := by decide +kernel
theorem dc_Mod_online_102 : decode bc_Mod_online 102 = .ok (.iastore, 1) := by decide +kernel
theorem dc_Mod_online_103 : decode bc_Mod_online 103 = .ok (.aload_n 0, 1) := by decide +kernel
theorem dc_Mod_online_104 : decode bc_Mod_online 104 = .ok (.getfield 69, 3) := by decide +kernel
theorem dc_Mod_online_107 : decode bc_Mod_online 107 = .ok (.bipush 6, 2) := by decide +kernel
theorem dc_Mod_online_109 : decode bc_Mod_online 109 = .ok (.aload_n 0, 1) := by decide +kernel
theorem dc_Mod_online_110 : decode bc_Mod_online 110 = .ok (.aload_n 0, 1) := by decide +kernel
theorem dc_Mod_online_111 : decode bc_Mod_online 111 = .ok (.getfield 20, 3) := by decide +kernel
theorem dc_Mod_online_114 : decode bc_Mod_online 114 = .ok (.iload_n 1, 1) := by decide +kernel
theorem dc_Mod_online_115 : decode bc_Mod_online 115 = .ok (.iaload, 1) := by decide +kernel
theorem dc_Mod_online_116 : decode bc_Mod_online 116 = .ok (.iload 7, 2) := by decide +kernel
theorem dc_Mod_online_118 : decode bc_Mod_online 118 = .ok (.aload_n 0, 1) := by decide +kernel
theorem dc_Mod_online_119 : decode bc_Mod_online 119 = .ok (.getfield 29, 3) := by decide +kernel
theorem dc_Mod_online_122 : decode bc_Mod_online 122 = .ok (.iload_n 1, 1) := by decide +kernel
theorem dc_Mod_online_123 : decode bc_Mod_online 123 = .ok (.iaload, 1) := by decide +kernel
theorem dc_Mod_online_124 : decode bc_Mod_online 124 = .ok (.invokevirtual 152, 3) := by decide +kernel
theorem dc_Mod_online_127 : decode bc_Mod_online 127 = .ok (.iastore, 1) := by decide +kernel
theorem dc_Mod_online_128 : decode bc_Mod_online 128 = .ok (.iload 7, 2) := by decide +kernel
theorem dc_Mod_online_130 : decode bc_Mod_online 130 = .ok (.iconst 2, 1) := by decide +kernel
theorem dc_Mod_online_131 : decode bc_Mod_online 131 = .ok (.if_icmp .ne 7, 3) := by decide +kernel
theorem dc_Mod_online_134 : decode bc_Mod_online 134 = .ok (.iconst 1, 1) := by decide +kernel
theorem dc_Mod_online_135 : decode bc_Mod_online 135 = .ok (.goto 4, 3) := by decide +kernel
theorem dc_Mod_online_138 : decode bc_Mod_online 138 = .ok (.iconst 2, 1) := by decide +kernel
theorem dc_Mod_online_139 : decode bc_Mod_online 139 = .ok (.istore 6, 2) := by decide +kernel
theorem dc_Mod_online_141 : decode bc_Mod_online 141 = .ok (.iload 4, 2) := by decide +kernel
theorem dc_Mod_online_143 : decode bc_Mod_online 143 = .ok (.ifCond .eq 48, 3) := by decide +kernel
theorem dc_Mod_online_146 : decode bc_Mod_online 146 = .ok (.iload 5, 2) := by decide +kernel
theorem dc_Mod_online_148 : decode bc_Mod_online 148 = .ok (.ifCond .eq 20, 3) := by decide +kernel
theorem dc_Mod_online_151 : decode bc_Mod_online 151 = .ok (.aload_n 0, 1) := by decide +kernel
theorem dc_Mod_online_152 : decode bc_Mod_online 152 = .ok (.getfield 69, 3) := by decide +kernel
theorem dc_Mod_online_155 : decode bc_Mod_online 155 = .ok (.bipush 7, 2) := by decide +kernel
theorem dc_Mod_online_157 : decode bc_Mod_online 157 = .ok (.iaload, 1) := by decide +kernel
theorem dc_Mod_online_158 : decode bc_Mod_online 158 = .ok (.iconst 1, 1) := by decide +kernel
theorem dc_Mod_online_159 : decode bc_Mod_online 159 = .ok (.if_icmp .ne 32, 3) := by decide +kernel
theorem dc_Mod_online_162 : decode bc_Mod_online 162 = .ok (.iload 6, 2) := by decide +kernel
theorem dc_Mod_online_164 : decode bc_Mod_online 164 = .ok (.iconst 1, 1) := by decide +kernel
theorem dc_Mod_online_165 : decode bc_Mod_online 165 = .ok (.if_icmp .eq 26, 3) := by decide +kernel
theorem dc_Mod_online_168 : decode bc_Mod_online 168 = .ok (.aload_n 0, 1) := by decide +kernel
theorem dc_Mod_online_169 : decode bc_Mod_online 169 = .ok (.getfield 66, 3) := by decide +kernel
theorem dc_Mod_online_172 : decode bc_Mod_online 172 = .ok (.aload_n 0, 1) := by decide +kernel
theorem dc_Mod_online_173 : decode bc_Mod_online 173 = .ok (.getfield 155, 3) := by decide +kernel
theorem dc_Mod_online_176 : decode bc_Mod_online 176 = .ok (.aload_n 0, 1) := by decide +kernel
theorem dc_Mod_online_177 : decode bc_Mod_online 177 = .ok (.getfield 145, 3) := by decide +kernel
theorem dc_Mod_online_180 : decode bc_Mod_online 180 = .ok (.iastore, 1) := by decide +kernel
theorem dc_Mod_online_181 : decode bc_Mod_online 181 = .ok (.aload_n 0, 1) := by decide +kernel
theorem dc_Mod_online_182 : decode bc_Mod_online 182 = .ok (.dup, 1) := by decide +kernel
theorem dc_Mod_online_183 : decode bc_Mod_online 183 = .ok (.getfield 155, 3) := by decide +kernel
theorem dc_Mod_online_186 : decode bc_Mod_online 186 = .ok (.iconst 1, 1) := by decide +kernel
theorem dc_Mod_online_187 : decode bc_Mod_online 187 = .ok (.iadd, 1) := by decide +kernel
theorem dc_Mod_online_188 : decode bc_Mod_online 188 = .ok (.putfield 155, 3) := by decide +kernel
theorem dc_Mod_online_191 : decode bc_Mod_online 191 = .ok (.iload 6, 2) := by decide +kernel
theorem dc_Mod_online_193 : decode bc_Mod_online 193 = .ok (.ireturn, 1) := by decide +kernel
theorem dc_Mod_host_0 : decode bc_Mod_host 0 = .ok (.aload_n 0, 1) := by decide +kernel
theorem dc_Mod_host_1 : decode bc_Mod_host 1 = .ok (.iload_n 1, 1) := by decide +kernel
theorem dc_Mod_host_2 : decode bc_Mod_host 2 = .ok (.bipush 90, 2) := by decide +kernel
theorem dc_Mod_host_4 : decode bc_Mod_host 4 = .ok (.iconst 0, 1) := by decide +kernel
theorem dc_Mod_host_5 : decode bc_Mod_host 5 = .ok (.invokevirtual 139, 3) := by decide +kernel
theorem dc_Mod_host_8 : decode bc_Mod_host 8 = .ok (.istore 4, 2) := by decide +kernel
theorem dc_Mod_host_10 : decode bc_Mod_host 10 = .ok (.iload_n 3, 1) := by decide +kernel
theorem dc_Mod_host_11 : decode bc_Mod_host 11 = .ok (.aload_n 0, 1) := by decide +kernel
theorem dc_Mod_host_12 : decode bc_Mod_host 12 = .ok (.aload_n 0, 1) := by decide +kernel
theorem dc_Mod_host_13 : decode bc_Mod_host 13 = .ok (.getfield 41, 3) := by decide +kernel
theorem dc_Mod_host_16 : decode bc_Mod_host 16 = .ok (.iload 4, 2) := by decide +kernel
theorem dc_Mod_host_18 : decode bc_Mod_host 18 = .ok (.iaload, 1) := by decide +kernel
theorem dc_Mod_host_19 : decode bc_Mod_host 19 = .ok (.iconst 1, 1) := by decide +kernel
theorem dc_Mod_host_20 : decode bc_Mod_host 20 = .ok (.aload_n 0, 1) := by decide +kernel
theorem dc_Mod_host_21 : decode bc_Mod_host 21 = .ok (.getfield 29, 3) := by decide +kernel
theorem dc_Mod_host_24 : decode bc_Mod_host 24 = .ok (.iload_n 1, 1) := by decide +kernel
theorem dc_Mod_host_25 : decode bc_Mod_host 25 = .ok (.iaload, 1) := by decide +kernel
theorem dc_Mod_host_26 : decode bc_Mod_host 26 = .ok (.invokevirtual 152, 3) := by decide +kernel
theorem dc_Mod_host_29 : decode bc_Mod_host 29 = .ok (.if_icmp .eq 5, 3) := by decide +kernel
theorem dc_Mod_host_32 : decode bc_Mod_host 32 = .ok (.iconst 2, 1) := by decide +kernel
theorem dc_Mod_host_33 : decode bc_Mod_host 33 = .ok (.ireturn, 1) := by decide +kernel
theorem dc_Mod_host_34 : decode bc_Mod_host 34 = .ok (.aload_n 0, 1) := by decide +kernel
theorem dc_Mod_host_35 : decode bc_Mod_host 35 = .ok (.getfield 29, 3) := by decide +kernel
theorem dc_Mod_host_38 : decode bc_Mod_host 38 = .ok (.iload_n 1, 1) := by decide +kernel
theorem dc_Mod_host_39 : decode bc_Mod_host 39 = .ok (.iaload, 1) := by decide +kernel
theorem dc_Mod_host_40 : decode bc_Mod_host 40 = .ok (.aload_n 0, 1) := by decide +kernel
theorem dc_Mod_host_41 : decode bc_Mod_host 41 = .ok (.getfield 44, 3) := by decide +kernel
theorem dc_Mod_host_44 : decode bc_Mod_host 44 = .ok (.iload 4, 2) := by decide +kernel
theorem dc_Mod_host_46 : decode bc_Mod_host 46 = .ok (.iaload, 1) := by decide +kernel
theorem dc_Mod_host_47 : decode bc_Mod_host 47 = .ok (.if_icmp .gt 5, 3) := by decide +kernel
theorem dc_Mod_host_50 : decode bc_Mod_host 50 = .ok (.iconst 3, 1) := by decide +kernel
theorem dc_Mod_host_51 : decode bc_Mod_host 51 = .ok (.ireturn, 1) := by decide +kernel
theorem dc_Mod_host_52 : decode bc_Mod_host 52 = .ok (.aload_n 0, 1) := by decide +kernel
theorem dc_Mod_host_53 : decode bc_Mod_host 53 = .ok (.getfield 44, 3) := by decide +kernel
theorem dc_Mod_host_56 : decode bc_Mod_host 56 = .ok (.iload 4, 2) := by decide +kernel
theorem dc_Mod_host_58 : decode bc_Mod_host 58 = .ok (.aload_n 0, 1) := by decide +kernel
theorem dc_Mod_host_59 : decode bc_Mod_host 59 = .ok (.getfield 29, 3) := by decide +kernel
theorem dc_Mod_host_62 : decode bc_Mod_host 62 = .ok (.iload_n 1, 1) := by decide +kernel
theorem dc_Mod_host_63 : decode bc_Mod_host 63 = .ok (.iaload, 1) := by decide +kernel
theorem dc_Mod_host_64 : decode bc_Mod_host 64 = .ok (.iastore, 1) := by decide +kernel
theorem dc_Mod_host_65 : decode bc_Mod_host 65 = .ok (.aload_n 0, 1) := by decide +kernel
theorem dc_Mod_host_66 : decode bc_Mod_host 66 = .ok (.getfield 38, 3) := by decide +kernel
theorem dc_Mod_host_69 : decode bc_Mod_host 69 = .ok (.iload 4, 2) := by decide +kernel
theorem dc_Mod_host_71 : decode bc_Mod_host 71 = .ok (.iaload, 1) := by decide +kernel
theorem dc_Mod_host_72 : decode bc_Mod_host 72 = .ok (.iload_n 2, 1) := by decide +kernel
theorem dc_Mod_host_73 : decode bc_Mod_host 73 = .ok (.if_icmp .ge 5, 3) := by decide +kernel
theorem dc_Mod_host_76 : decode bc_Mod_host 76 = .ok (.iconst 4, 1) := by decide +kernel
theorem dc_Mod_host_77 : decode bc_Mod_host 77 = .ok (.ireturn, 1) := by decide +kernel
theorem dc_Mod_host_78 : decode bc_Mod_host 78 = .ok (.aload_n 0, 1) := by decide +kernel
theorem dc_Mod_host_79 : decode bc_Mod_host 79 = .ok (.getfield 38, 3) := by decide +kernel
theorem dc_Mod_host_82 : decode bc_Mod_host 82 = .ok (.iload 4, 2) := by decide +kernel
theorem dc_Mod_host_84 : decode bc_Mod_host 84 = .ok (.dup2, 1) := by decide +kernel
theorem dc_Mod_host_85 : decode bc_Mod_host 85 = .ok (.iaload, 1) := by decide +kernel
theorem dc_Mod_host_86 : decode bc_Mod_host 86 = .ok (.iload_n 2, 1) := by decide +kernel
theorem dc_Mod_host_87 : decode bc_Mod_host 87 = .ok (.isub, 1) := by decide +kernel
theorem dc_Mod_host_88 : decode bc_Mod_host 88 = .ok (.iastore, 1) := by decide +kernel
theorem dc_Mod_host_89 : decode bc_Mod_host 89 = .ok (.iconst 1, 1) := by decide +kernel
theorem dc_Mod_host_90 : decode bc_Mod_host 90 = .ok (.ireturn, 1) := by decide +kernel
theorem dc_Mod_replied_0 : decode bc_Mod_replied 0 = .ok (.aload_n 0, 1) := by decide +kernel
theorem dc_Mod_replied_1 : decode bc_Mod_replied 1 = .ok (.iload_n 1, 1) := by decide +kernel
theorem dc_Mod_replied_2 : decode bc_Mod_replied 2 = .ok (.bipush 90, 2) := by decide +kernel
theorem dc_Mod_replied_4 : decode bc_Mod_replied 4 = .ok (.iconst 0, 1) := by decide +kernel
theorem dc_Mod_replied_5 : decode bc_Mod_replied 5 = .ok (.invokevirtual 139, 3) := by decide +kernel
theorem dc_Mod_replied_8 : decode bc_Mod_replied 8 = .ok (.istore_n 2, 1) := by decide +kernel
theorem dc_Mod_replied_9 : decode bc_Mod_replied 9 = .ok (.aload_n 0, 1) := by decide +kernel
theorem dc_Mod_replied_10 : decode bc_Mod_replied 10 = .ok (.getfield 41, 3) := by decide +kernel
theorem dc_Mod_replied_13 : decode bc_Mod_replied 13 = .ok (.iload_n 2, 1) := by decide +kernel
theorem dc_Mod_replied_14 : decode bc_Mod_replied 14 = .ok (.iaload, 1) := by decide +kernel
theorem dc_Mod_replied_15 : decode bc_Mod_replied 15 = .ok (.aload_n 0, 1) := by decide +kernel
theorem dc_Mod_replied_16 : decode bc_Mod_replied 16 = .ok (.getfield 69, 3) := by decide +kernel
theorem dc_Mod_replied_19 : decode bc_Mod_replied 19 = .ok (.bipush 7, 2) := by decide +kernel
theorem dc_Mod_replied_21 : decode bc_Mod_replied 21 = .ok (.iaload, 1) := by decide +kernel
theorem dc_Mod_replied_22 : decode bc_Mod_replied 22 = .ok (.aload_n 0, 1) := by decide +kernel
theorem dc_Mod_replied_23 : decode bc_Mod_replied 23 = .ok (.getfield 69, 3) := by decide +kernel
theorem dc_Mod_replied_26 : decode bc_Mod_replied 26 = .ok (.iconst 4, 1) := by decide +kernel
theorem dc_Mod_replied_27 : decode bc_Mod_replied 27 = .ok (.iaload, 1) := by decide +kernel
theorem dc_Mod_replied_28 : decode bc_Mod_replied 28 = .ok (.invokestatic 189, 3) := by decide +kernel
theorem dc_Mod_replied_31 : decode bc_Mod_replied 31 = .ok (.aload_n 0, 1) := by decide +kernel
theorem dc_Mod_replied_32 : decode bc_Mod_replied 32 = .ok (.getfield 20, 3) := by decide +kernel
theorem dc_Mod_replied_35 : decode bc_Mod_replied 35 = .ok (.iload_n 1, 1) := by decide +kernel
theorem dc_Mod_replied_36 : decode bc_Mod_replied 36 = .ok (.iaload, 1) := by decide +kernel
theorem dc_Mod_replied_37 : decode bc_Mod_replied 37 = .ok (.aload_n 0, 1) := by decide +kernel
theorem dc_Mod_replied_38 : decode bc_Mod_replied 38 = .ok (.getfield 69, 3) := by decide +kernel
theorem dc_Mod_replied_41 : decode bc_Mod_replied 41 = .ok (.bipush 7, 2) := by decide +kernel
theorem dc_Mod_replied_43 : decode bc_Mod_replied 43 = .ok (.iaload, 1) := by decide +kernel
theorem dc_Mod_replied_44 : decode bc_Mod_replied 44 = .ok (.aload_n 0, 1) := by decide +kernel
theorem dc_Mod_replied_45 : decode bc_Mod_replied 45 = .ok (.getfield 69, 3) := by decide +kernel
theorem dc_Mod_replied_48 : decode bc_Mod_replied 48 = .ok (.iconst 4, 1) := by decide +kernel
theorem dc_Mod_replied_49 : decode bc_Mod_replied 49 = .ok (.iaload, 1) := by decide +kernel
theorem dc_Mod_replied_50 : decode bc_Mod_replied 50 = .ok (.invokestatic 189, 3) := by decide +kernel
theorem dc_Mod_replied_53 : decode bc_Mod_replied 53 = .ok (.if_icmp .eq 17, 3) := by decide +kernel
theorem dc_Mod_replied_56 : decode bc_Mod_replied 56 = .ok (.aload_n 0, 1) := by decide +kernel
theorem dc_Mod_replied_57 : decode bc_Mod_replied 57 = .ok (.dup, 1) := by decide +kernel
theorem dc_Mod_replied_58 : decode bc_Mod_replied 58 = .ok (.getfield 133, 3) := by decide +kernel
theorem dc_Mod_replied_61 : decode bc_Mod_replied 61 = .ok (.sipush 1024, 3) := by decide +kernel
theorem dc_Mod_replied_64 : decode bc_Mod_replied 64 = .ok (.ior, 1) := by decide +kernel
theorem dc_Mod_replied_65 : decode bc_Mod_replied 65 = .ok (.putfield 133, 3) := by decide +kernel
theorem dc_Mod_replied_68 : decode bc_Mod_replied 68 = .ok (.iconst 0, 1) := by decide +kernel
theorem dc_Mod_replied_69 : decode bc_Mod_replied 69 = .ok (.ireturn, 1) := by decide +kernel
theorem dc_Mod_replied_70 : decode bc_Mod_replied 70 = .ok (.aload_n 0, 1) := by decide +kernel
theorem dc_Mod_replied_71 : decode bc_Mod_replied 71 = .ok (.getfield 32, 3) := by decide +kernel
theorem dc_Mod_replied_74 : decode bc_Mod_replied 74 = .ok (.iload_n 1, 1) := by decide +kernel
theorem dc_Mod_replied_75 : decode bc_Mod_replied 75 = .ok (.iconst 0, 1) := by decide +kernel
theorem dc_Mod_replied_76 : decode bc_Mod_replied 76 = .ok (.iastore, 1) := by decide +kernel
theorem dc_Mod_replied_77 : decode bc_Mod_replied 77 = .ok (.aload_n 0, 1) := by decide +kernel
theorem dc_Mod_replied_78 : decode bc_Mod_replied 78 = .ok (.getfield 35, 3) := by decide +kernel
theorem dc_Mod_replied_81 : decode bc_Mod_replied 81 = .ok (.iload_n 1, 1) := by decide +kernel
theorem dc_Mod_replied_82 : decode bc_Mod_replied 82 = .ok (.iconst 1, 1) := by decide +kernel
theorem dc_Mod_replied_83 : decode bc_Mod_replied 83 = .ok (.bastore, 1) := by decide +kernel
theorem dc_Mod_replied_84 : decode bc_Mod_replied 84 = .ok (.aload_n 0, 1) := by decide +kernel
theorem dc_Mod_replied_85 : decode bc_Mod_replied 85 = .ok (.getfield 69, 3) := by decide +kernel
theorem dc_Mod_replied_88 : decode bc_Mod_replied 88 = .ok (.bipush 7, 2) := by decide +kernel
theorem dc_Mod_replied_90 : decode bc_Mod_replied 90 = .ok (.iaload, 1) := by decide +kernel
theorem dc_Mod_replied_91 : decode bc_Mod_replied 91 = .ok (.iconst 1, 1) := by decide +kernel
theorem dc_Mod_replied_92 : decode bc_Mod_replied 92 = .ok (.if_icmp .ne 7, 3) := by decide +kernel
theorem dc_Mod_replied_95 : decode bc_Mod_replied 95 = .ok (.iconst 2, 1) := by decide +kernel
theorem dc_Mod_replied_96 : decode bc_Mod_replied 96 = .ok (.goto 4, 3) := by decide +kernel
theorem dc_Mod_replied_99 : decode bc_Mod_replied 99 = .ok (.iconst 0, 1) := by decide +kernel
theorem dc_Mod_replied_100 : decode bc_Mod_replied 100 = .ok (.ireturn, 1) := by decide +kernel
theorem dc_Mod_seal_0 : decode bc_Mod_seal 0 = .ok (.iload_n 0, 1) := by decide +kernel
theorem dc_Mod_seal_1 : decode bc_Mod_seal 1 = .ok (.iload_n 1, 1) := by decide +kernel
theorem dc_Mod_seal_2 : decode bc_Mod_seal 2 = .ok (.invokestatic 127, 3) := by decide +kernel
theorem dc_Mod_seal_5 : decode bc_Mod_seal 5 = .ok (.istore_n 3, 1) := by decide +kernel
theorem dc_Mod_seal_6 : decode bc_Mod_seal 6 = .ok (.bipush 24, 2) := by decide +kernel
theorem dc_Mod_seal_8 : decode bc_Mod_seal 8 = .ok (.istore 4, 2) := by decide +kernel
theorem dc_Mod_seal_10 : decode bc_Mod_seal 10 = .ok (.iload 4, 2) := by decide +kernel
theorem dc_Mod_seal_12 : decode bc_Mod_seal 12 = .ok (.ifCond .lt 22, 3) := by decide +kernel
theorem dc_Mod_seal_15 : decode bc_Mod_seal 15 = .ok (.iload_n 3, 1) := by decide +kernel
theorem dc_Mod_seal_16 : decode bc_Mod_seal 16 = .ok (.iload_n 2, 1) := by decide +kernel
theorem dc_Mod_seal_17 : decode bc_Mod_seal 17 = .ok (.iload 4, 2) := by decide +kernel
theorem dc_Mod_seal_19 : decode bc_Mod_seal 19 = .ok (.iushr, 1) := by decide +kernel
theorem dc_Mod_seal_20 : decode bc_Mod_seal 20 = .ok (.sipush 255, 3) := by decide +kernel
theorem dc_Mod_seal_23 : decode bc_Mod_seal 23 = .ok (.iand, 1) := by decide +kernel
theorem dc_Mod_seal_24 : decode bc_Mod_seal 24 = .ok (.invokestatic 127, 3) := by decide +kernel
theorem dc_Mod_seal_27 : decode bc_Mod_seal 27 = .ok (.istore_n 3, 1) := by decide +kernel
theorem dc_Mod_seal_28 : decode bc_Mod_seal 28 = .ok (.iinc 4 (-8), 3) := by decide +kernel
theorem dc_Mod_seal_31 : decode bc_Mod_seal 31 = .ok (.goto (-21), 3) := by decide +kernel
theorem dc_Mod_seal_34 : decode bc_Mod_seal 34 = .ok (.iload_n 3, 1) := by decide +kernel
theorem dc_Mod_seal_35 : decode bc_Mod_seal 35 = .ok (.ireturn, 1) := by decide +kernel
theorem dc_Mod_alone_0 : decode bc_Mod_alone 0 = .ok (.aload_n 0, 1) := by decide +kernel
theorem dc_Mod_alone_1 : decode bc_Mod_alone 1 = .ok (.getfield 133, 3) := by decide +kernel
theorem dc_Mod_alone_4 : decode bc_Mod_alone 4 = .ok (.aload_n 0, 1) := by decide +kernel
theorem dc_Mod_alone_5 : decode bc_Mod_alone 5 = .ok (.iload_n 1, 1) := by decide +kernel
theorem dc_Mod_alone_6 : decode bc_Mod_alone 6 = .ok (.ldc 113, 2) := by decide +kernel
theorem dc_Mod_alone_8 : decode bc_Mod_alone 8 = .ok (.iconst 4, 1) := by decide +kernel
theorem dc_Mod_alone_9 : decode bc_Mod_alone 9 = .ok (.invokevirtual 149, 3) := by decide +kernel
theorem dc_Mod_alone_12 : decode bc_Mod_alone 12 = .ok (.iand, 1) := by decide +kernel
theorem dc_Mod_alone_13 : decode bc_Mod_alone 13 = .ok (.ifCond .ne 20, 3) := by decide +kernel
theorem dc_Mod_alone_16 : decode bc_Mod_alone 16 = .ok (.aload_n 0, 1) := by decide +kernel
theorem dc_Mod_alone_17 : decode bc_Mod_alone 17 = .ok (.getfield 26, 3) := by decide +kernel
theorem dc_Mod_alone_20 : decode bc_Mod_alone 20 = .ok (.iload_n 1, 1) := by decide +kernel
theorem dc_Mod_alone_21 : decode bc_Mod_alone 21 = .ok (.iaload, 1) := by decide +kernel
theorem dc_Mod_alone_22 : decode bc_Mod_alone 22 = .ok (.ifCond .eq 11, 3) := by decide +kernel
theorem dc_Mod_alone_25 : decode bc_Mod_alone 25 = .ok (.aload_n 0, 1) := by decide +kernel
theorem dc_Mod_alone_26 : decode bc_Mod_alone 26 = .ok (.iload_n 1, 1) := by decide +kernel
theorem dc_Mod_alone_27 : decode bc_Mod_alone 27 = .ok (.invokevirtual 170, 3) := by decide +kernel
theorem dc_Mod_alone_30 : decode bc_Mod_alone 30 = .ok (.ifCond .eq 5, 3) := by decide +kernel
theorem dc_Mod_alone_33 : decode bc_Mod_alone 33 = .ok (.iconst 0, 1) := by decide +kernel
theorem dc_Mod_alone_34 : decode bc_Mod_alone 34 = .ok (.ireturn, 1) := by decide +kernel
theorem dc_Mod_alone_35 : decode bc_Mod_alone 35 = .ok (.aload_n 0, 1) := by decide +kernel
theorem dc_Mod_alone_36 : decode bc_Mod_alone 36 = .ok (.getfield 32, 3) := by decide +kernel
theorem dc_Mod_alone_39 : decode bc_Mod_alone 39 = .ok (.iload_n 1, 1) := by decide +kernel
theorem dc_Mod_alone_40 : decode bc_Mod_alone 40 = .ok (.dup2, 1) := by decide +kernel
theorem dc_Mod_alone_41 : decode bc_Mod_alone 41 = .ok (.iaload, 1) := by decide +kernel
theorem dc_Mod_alone_42 : decode bc_Mod_alone 42 = .ok (.iconst 1, 1) := by decide +kernel
theorem dc_Mod_alone_43 : decode bc_Mod_alone 43 = .ok (.iadd, 1) := by decide +kernel
theorem dc_Mod_alone_44 : decode bc_Mod_alone 44 = .ok (.iastore, 1) := by decide +kernel
theorem dc_Mod_alone_45 : decode bc_Mod_alone 45 = .ok (.iconst 2, 1) := by decide +kernel
theorem dc_Mod_alone_46 : decode bc_Mod_alone 46 = .ok (.ireturn, 1) := by decide +kernel
theorem dc_Mod_send_0 : decode bc_Mod_send 0 = .ok (.iload_n 1, 1) := by decide +kernel
theorem dc_Mod_send_1 : decode bc_Mod_send 1 = .ok (.iconst 0, 1) := by decide +kernel
theorem dc_Mod_send_2 : decode bc_Mod_send 2 = .ok (.iconst 2, 1) := by decide +kernel
theorem dc_Mod_send_3 : decode bc_Mod_send 3 = .ok (.invokestatic 101, 3) := by decide +kernel
theorem dc_Mod_send_6 : decode bc_Mod_send 6 = .ok (.ifCond .eq 19, 3) := by decide +kernel
theorem dc_Mod_send_9 : decode bc_Mod_send 9 = .ok (.aload_n 0, 1) := by decide +kernel
theorem dc_Mod_send_10 : decode bc_Mod_send 10 = .ok (.getfield 47, 3) := by decide +kernel
theorem dc_Mod_send_13 : decode bc_Mod_send 13 = .ok (.iconst 2, 1) := by decide +kernel
theorem dc_Mod_send_14 : decode bc_Mod_send 14 = .ok (.iaload, 1) := by decide +kernel
theorem dc_Mod_send_15 : decode bc_Mod_send 15 = .ok (.ifCond .eq 10, 3) := by decide +kernel
theorem dc_Mod_send_18 : decode bc_Mod_send 18 = .ok (.aload_n 0, 1) := by decide +kernel
theorem dc_Mod_send_19 : decode bc_Mod_send 19 = .ok (.getfield 155, 3) := by decide +kernel
theorem dc_Mod_send_22 : decode bc_Mod_send 22 = .ok (.ifCond .ne 5, 3) := by decide +kernel
theorem dc_Mod_send_25 : decode bc_Mod_send 25 = .ok (.iconst (-1), 1) := by decide +kernel
theorem dc_Mod_send_26 : decode bc_Mod_send 26 = .ok (.ireturn, 1) := by decide +kernel
theorem dc_Mod_send_27 : decode bc_Mod_send 27 = .ok (.iload_n 1, 1) := by decide +kernel
theorem dc_Mod_send_28 : decode bc_Mod_send 28 = .ok (.iconst 1, 1) := by decide +kernel
theorem dc_Mod_send_29 : decode bc_Mod_send 29 = .ok (.if_icmp .ne 5, 3) := by decide +kernel
theorem dc_Mod_send_32 : decode bc_Mod_send 32 = .ok (.iconst 0, 1) := by decide +kernel
theorem dc_Mod_send_33 : decode bc_Mod_send 33 = .ok (.ireturn, 1) := by decide +kernel
theorem dc_Mod_send_34 : decode bc_Mod_send 34 = .ok (.aload_n 0, 1) := by decide +kernel
theorem dc_Mod_send_35 : decode bc_Mod_send 35 = .ok (.getfield 66, 3) := by decide +kernel
theorem dc_Mod_send_38 : decode bc_Mod_send 38 = .ok (.iconst 0, 1) := by decide +kernel
theorem dc_Mod_send_39 : decode bc_Mod_send 39 = .ok (.iaload, 1) := by decide +kernel
theorem dc_Mod_send_40 : decode bc_Mod_send 40 = .ok (.istore_n 2, 1) := by decide +kernel
theorem dc_Mod_send_41 : decode bc_Mod_send 41 = .ok (.aload_n 0, 1) := by decide +kernel
theorem dc_Mod_send_42 : decode bc_Mod_send 42 = .ok (.getfield 60, 3) := by decide +kernel
theorem dc_Mod_send_45 : decode bc_Mod_send 45 = .ok (.iload_n 2, 1) := by decide +kernel
theorem dc_Mod_send_46 : decode bc_Mod_send 46 = .ok (.iaload, 1) := by decide +kernel
theorem dc_Mod_send_47 : decode bc_Mod_send 47 = .ok (.iconst 1, 1) := by decide +kernel
theorem dc_Mod_send_48 : decode bc_Mod_send 48 = .ok (.if_icmp .ne 39, 3) := by decide +kernel
theorem dc_Mod_send_51 : decode bc_Mod_send 51 = .ok (.aload_n 0, 1) := by decide +kernel
theorem dc_Mod_send_52 : decode bc_Mod_send 52 = .ok (.getfield 63, 3) := by decide +kernel
theorem dc_Mod_send_55 : decode bc_Mod_send 55 = .ok (.iload_n 2, 1) := by decide +kernel
theorem dc_Mod_send_56 : decode bc_Mod_send 56 = .ok (.baload, 1) := by decide +kernel
theorem dc_Mod_send_57 : decode bc_Mod_send 57 = .ok (.ifCond .ne 30, 3) := by decide +kernel
theorem dc_Mod_send_60 : decode bc_Mod_send 60 = .ok (.aload_n 0, 1) := by decide +kernel
theorem dc_Mod_send_61 : decode bc_Mod_send 61 = .ok (.getfield 63, 3) := by decide +kernel
theorem dc_Mod_send_64 : decode bc_Mod_send 64 = .ok (.iload_n 2, 1) := by decide +kernel
theorem dc_Mod_send_65 : decode bc_Mod_send 65 = .ok (.iconst 1, 1) := by decide +kernel
theorem dc_Mod_send_66 : decode bc_Mod_send 66 = .ok (.bastore, 1) := by decide +kernel
theorem dc_Mod_send_67 : decode bc_Mod_send 67 = .ok (.aload_n 0, 1) := by decide +kernel
theorem dc_Mod_send_68 : decode bc_Mod_send 68 = .ok (.getfield 38, 3) := by decide +kernel
theorem dc_Mod_send_71 : decode bc_Mod_send 71 = .ok (.aload_n 0, 1) := by decide +kernel
theorem dc_Mod_send_72 : decode bc_Mod_send 72 = .ok (.getfield 54, 3) := by decide +kernel
theorem dc_Mod_send_75 : decode bc_Mod_send 75 = .ok (.iload_n 2, 1) := by decide +kernel
theorem dc_Mod_send_76 : decode bc_Mod_send 76 = .ok (.iaload, 1) := by decide +kernel
theorem dc_Mod_send_77 : decode bc_Mod_send 77 = .ok (.dup2, 1) := by decide +kernel
theorem dc_Mod_send_78 : decode bc_Mod_send 78 = .ok (.iaload, 1) := by decide +kernel
theorem dc_Mod_send_79 : decode bc_Mod_send 79 = .ok (.aload_n 0, 1) := by decide +kernel
theorem dc_Mod_send_80 : decode bc_Mod_send 80 = .ok (.getfield 57, 3) := by decide +kernel
theorem dc_Mod_send_83 : decode bc_Mod_send 83 = .ok (.iload_n 2, 1) := by decide +kernel
theorem dc_Mod_send_84 : decode bc_Mod_send 84 = .ok (.iaload, 1) := by decide +kernel
theorem dc_Mod_send_85 : decode bc_Mod_send 85 = .ok (.iadd, 1) := by decide +kernel
theorem dc_Mod_send_86 : decode bc_Mod_send 86 = .ok (.iastore, 1) := by decide +kernel
theorem dc_Mod_send_87 : decode bc_Mod_send 87 = .ok (.iload_n 1, 1) := by decide +kernel
theorem dc_Mod_send_88 : decode bc_Mod_send 88 = .ok (.iconst 2, 1) := by decide +kernel
theorem dc_Mod_send_89 : decode bc_Mod_send 89 = .ok (.if_icmp .ne 5, 3) := by decide +kernel
theorem dc_Mod_send_92 : decode bc_Mod_send 92 = .ok (.iconst 0, 1) := by decide +kernel
theorem dc_Mod_send_93 : decode bc_Mod_send 93 = .ok (.ireturn, 1) := by decide +kernel
theorem dc_Mod_send_94 : decode bc_Mod_send 94 = .ok (.iconst 1, 1) := by decide +kernel
theorem dc_Mod_send_95 : decode bc_Mod_send 95 = .ok (.istore_n 3, 1) := by decide +kernel
theorem dc_Mod_send_96 : decode bc_Mod_send 96 = .ok (.iload_n 3, 1) := by decide +kernel
theorem dc_Mod_send_97 : decode bc_Mod_send 97 = .ok (.aload_n 0, 1) := by decide +kernel
theorem dc_Mod_send_98 : decode bc_Mod_send 98 = .ok (.getfield 155, 3) := by decide +kernel
theorem dc_Mod_send_101 : decode bc_Mod_send 101 = .ok (.if_icmp .ge 23, 3) := by decide +kernel
theorem dc_Mod_send_104 : decode bc_Mod_send 104 = .ok (.aload_n 0, 1) := by decide +kernel
theorem dc_Mod_send_105 : decode bc_Mod_send 105 = .ok (.getfield 66, 3) := by decide +kernel
theorem dc_Mod_send_108 : decode bc_Mod_send 108 = .ok (.iload_n 3, 1) := by decide +kernel
theorem dc_Mod_send_109 : decode bc_Mod_send 109 = .ok (.iconst 1, 1) := by decide +kernel
theorem dc_Mod_send_110 : decode bc_Mod_send 110 = .ok (.isub, 1) := by decide +kernel
theorem dc_Mod_send_111 : decode bc_Mod_send 111 = .ok (.aload_n 0, 1) := by decide +kernel
theorem dc_Mod_send_112 : decode bc_Mod_send 112 = .ok (.getfield 66, 3) := by decide +kernel
theorem dc_Mod_send_115 : decode bc_Mod_send 115 = .ok (.iload_n 3, 1) := by decide +kernel
theorem dc_Mod_send_116 : decode bc_Mod_send 116 = .ok (.iaload, 1) := by decide +kernel
theorem dc_Mod_send_117 : decode bc_Mod_send 117 = .ok (.iastore, 1) := by decide +kernel
theorem dc_Mod_send_118 : decode bc_Mod_send 118 = .ok (.iinc 3 1, 3) := by decide +kernel
theorem dc_Mod_send_121 : decode bc_Mod_send 121 = .ok (.goto (-25), 3) := by decide +kernel
theorem dc_Mod_send_124 : decode bc_Mod_send 124 = .ok (.aload_n 0, 1) := by decide +kernel
theorem dc_Mod_send_125 : decode bc_Mod_send 125 = .ok (.dup, 1) := by decide +kernel
theorem dc_Mod_send_126 : decode bc_Mod_send 126 = .ok (.getfield 155, 3) := by decide +kernel
theorem dc_Mod_send_129 : decode bc_Mod_send 129 = .ok (.iconst 1, 1) := by decide +kernel
theorem dc_Mod_send_130 : decode bc_Mod_send 130 = .ok (.isub, 1) := by decide +kernel
theorem dc_Mod_send_131 : decode bc_Mod_send 131 = .ok (.putfield 155, 3) := by decide +kernel
theorem dc_Mod_send_134 : decode bc_Mod_send 134 = .ok (.iconst 1, 1) := by decide +kernel
theorem dc_Mod_send_135 : decode bc_Mod_send 135 = .ok (.ireturn, 1) := by decide +kernel
theorem dc_Mod_last_0 : decode bc_Mod_last 0 = .ok (.iload_n 1, 1) := by decide +kernel
theorem dc_Mod_last_1 : decode bc_Mod_last 1 = .ok (.iconst 0, 1) := by decide +kernel
theorem dc_Mod_last_2 : decode bc_Mod_last 2 = .ok (.bipush 8, 2) := by decide +kernel
theorem dc_Mod_last_4 : decode bc_Mod_last 4 = .ok (.invokestatic 101, 3) := by decide +kernel
theorem dc_Mod_last_7 : decode bc_Mod_last 7 = .ok (.ifCond .eq 12, 3) := by decide +kernel
theorem dc_Mod_last_10 : decode bc_Mod_last 10 = .ok (.aload_n 0, 1) := by decide +kernel
theorem dc_Mod_last_11 : decode bc_Mod_last 11 = .ok (.getfield 69, 3) := by decide +kernel
theorem dc_Mod_last_14 : decode bc_Mod_last 14 = .ok (.iload_n 1, 1) := by decide +kernel
theorem dc_Mod_last_15 : decode bc_Mod_last 15 = .ok (.iaload, 1) := by decide +kernel
theorem dc_Mod_last_16 : decode bc_Mod_last 16 = .ok (.goto 4, 3) := by decide +kernel
theorem dc_Mod_last_19 : decode bc_Mod_last 19 = .ok (.iconst (-1), 1) := by decide +kernel
theorem dc_Mod_last_20 : decode bc_Mod_last 20 = .ok (.ireturn, 1) := by decide +kernel
theorem dc_Mod_data_0 : decode bc_Mod_data 0 = .ok (.iload_n 1, 1) := by decide +kernel
theorem dc_Mod_data_1 : decode bc_Mod_data 1 = .ok (.ifCond .lt 20, 3) := by decide +kernel
theorem dc_Mod_data_4 : decode bc_Mod_data 4 = .ok (.iload_n 1, 1) := by decide +kernel
theorem dc_Mod_data_5 : decode bc_Mod_data 5 = .ok (.aload_n 0, 1) := by decide +kernel
theorem dc_Mod_data_6 : decode bc_Mod_data 6 = .ok (.getfield 130, 3) := by decide +kernel
theorem dc_Mod_data_9 : decode bc_Mod_data 9 = .ok (.if_icmp .ge 12, 3) := by decide +kernel
theorem dc_Mod_data_12 : decode bc_Mod_data 12 = .ok (.aload_n 0, 1) := by decide +kernel
theorem dc_Mod_data_13 : decode bc_Mod_data 13 = .ok (.getfield 72, 3) := by decide +kernel
theorem dc_Mod_data_16 : decode bc_Mod_data 16 = .ok (.iload_n 1, 1) := by decide +kernel
theorem dc_Mod_data_17 : decode bc_Mod_data 17 = .ok (.iaload, 1) := by decide +kernel
theorem dc_Mod_data_18 : decode bc_Mod_data 18 = .ok (.goto 4, 3) := by decide +kernel
theorem dc_Mod_data_21 : decode bc_Mod_data 21 = .ok (.iconst (-1), 1) := by decide +kernel
theorem dc_Mod_data_22 : decode bc_Mod_data 22 = .ok (.ireturn, 1) := by decide +kernel
theorem dc_Mod_card_0 : decode bc_Mod_card 0 = .ok (.iload_n 1, 1) := by decide +kernel
theorem dc_Mod_card_1 : decode bc_Mod_card 1 = .ok (.iconst 0, 1) := by decide +kernel
theorem dc_Mod_card_2 : decode bc_Mod_card 2 = .ok (.iconst 3, 1) := by decide +kernel
theorem dc_Mod_card_3 : decode bc_Mod_card 3 = .ok (.invokestatic 101, 3) := by decide +kernel
theorem dc_Mod_card_6 : decode bc_Mod_card 6 = .ok (.ifCond .eq 12, 3) := by decide +kernel
theorem dc_Mod_card_9 : decode bc_Mod_card 9 = .ok (.aload_n 0, 1) := by decide +kernel
theorem dc_Mod_card_10 : decode bc_Mod_card 10 = .ok (.getfield 16, 3) := by decide +kernel
theorem dc_Mod_card_13 : decode bc_Mod_card 13 = .ok (.iload_n 1, 1) := by decide +kernel
theorem dc_Mod_card_14 : decode bc_Mod_card 14 = .ok (.baload, 1) := by decide +kernel
theorem dc_Mod_card_15 : decode bc_Mod_card 15 = .ok (.ifCond .ne 5, 3) := by decide +kernel
theorem dc_Mod_card_18 : decode bc_Mod_card 18 = .ok (.iconst (-1), 1) := by decide +kernel
theorem dc_Mod_card_19 : decode bc_Mod_card 19 = .ok (.ireturn, 1) := by decide +kernel
theorem dc_Mod_card_20 : decode bc_Mod_card 20 = .ok (.iload_n 2, 1) := by decide +kernel
theorem dc_Mod_card_21 : decode bc_Mod_card 21 = .ok (.tableswitch 91 0 5 #[39, 46, 53, 60, 75, 82], 39) := by decide +kernel
theorem dc_Mod_card_60 : decode bc_Mod_card 60 = .ok (.aload_n 0, 1) := by decide +kernel
theorem dc_Mod_card_61 : decode bc_Mod_card 61 = .ok (.getfield 26, 3) := by decide +kernel
theorem dc_Mod_card_64 : decode bc_Mod_card 64 = .ok (.iload_n 1, 1) := by decide +kernel
theorem dc_Mod_card_65 : decode bc_Mod_card 65 = .ok (.iaload, 1) := by decide +kernel
theorem dc_Mod_card_66 : decode bc_Mod_card 66 = .ok (.ireturn, 1) := by decide +kernel
theorem dc_Mod_card_67 : decode bc_Mod_card 67 = .ok (.aload_n 0, 1) := by decide +kernel
theorem dc_Mod_card_68 : decode bc_Mod_card 68 = .ok (.getfield 29, 3) := by decide +kernel
theorem dc_Mod_card_71 : decode bc_Mod_card 71 = .ok (.iload_n 1, 1) := by decide +kernel
theorem dc_Mod_card_72 : decode bc_Mod_card 72 = .ok (.iaload, 1) := by decide +kernel
theorem dc_Mod_card_73 : decode bc_Mod_card 73 = .ok (.ireturn, 1) := by decide +kernel
theorem dc_Mod_card_74 : decode bc_Mod_card 74 = .ok (.aload_n 0, 1) := by decide +kernel
theorem dc_Mod_card_75 : decode bc_Mod_card 75 = .ok (.getfield 32, 3) := by decide +kernel
theorem dc_Mod_card_78 : decode bc_Mod_card 78 = .ok (.iload_n 1, 1) := by decide +kernel
theorem dc_Mod_card_79 : decode bc_Mod_card 79 = .ok (.iaload, 1) := by decide +kernel
theorem dc_Mod_card_80 : decode bc_Mod_card 80 = .ok (.ireturn, 1) := by decide +kernel
theorem dc_Mod_card_81 : decode bc_Mod_card 81 = .ok (.aload_n 0, 1) := by decide +kernel
theorem dc_Mod_card_82 : decode bc_Mod_card 82 = .ok (.getfield 35, 3) := by decide +kernel
theorem dc_Mod_card_85 : decode bc_Mod_card 85 = .ok (.iload_n 1, 1) := by decide +kernel
theorem dc_Mod_card_86 : decode bc_Mod_card 86 = .ok (.baload, 1) := by decide +kernel
theorem dc_Mod_card_87 : decode bc_Mod_card 87 = .ok (.ifCond .eq 7, 3) := by decide +kernel
theorem dc_Mod_card_90 : decode bc_Mod_card 90 = .ok (.iconst 1, 1) := by decide +kernel
theorem dc_Mod_card_91 : decode bc_Mod_card 91 = .ok (.goto 4, 3) := by decide +kernel
theorem dc_Mod_card_94 : decode bc_Mod_card 94 = .ok (.iconst 0, 1) := by decide +kernel
theorem dc_Mod_card_95 : decode bc_Mod_card 95 = .ok (.ireturn, 1) := by decide +kernel
theorem dc_Mod_card_96 : decode bc_Mod_card 96 = .ok (.aload_n 0, 1) := by decide +kernel
theorem dc_Mod_card_97 : decode bc_Mod_card 97 = .ok (.iload_n 1, 1) := by decide +kernel
theorem dc_Mod_card_98 : decode bc_Mod_card 98 = .ok (.iconst (-1), 1) := by decide +kernel
theorem dc_Mod_card_99 : decode bc_Mod_card 99 = .ok (.invokevirtual 94, 3) := by decide +kernel
theorem dc_Mod_card_102 : decode bc_Mod_card 102 = .ok (.ireturn, 1) := by decide +kernel
theorem dc_Mod_card_103 : decode bc_Mod_card 103 = .ok (.aload_n 0, 1) := by decide +kernel
theorem dc_Mod_card_104 : decode bc_Mod_card 104 = .ok (.iload_n 1, 1) := by decide +kernel
theorem dc_Mod_card_105 : decode bc_Mod_card 105 = .ok (.bipush 90, 2) := by decide +kernel
theorem dc_Mod_card_107 : decode bc_Mod_card 107 = .ok (.iconst 0, 1) := by decide +kernel
theorem dc_Mod_card_108 : decode bc_Mod_card 108 = .ok (.invokevirtual 139, 3) := by decide +kernel
theorem dc_Mod_card_111 : decode bc_Mod_card 111 = .ok (.ireturn, 1) := by decide +kernel
theorem dc_Mod_card_112 : decode bc_Mod_card 112 = .ok (.iconst (-1), 1) := by decide +kernel
theorem dc_Mod_card_113 : decode bc_Mod_card 113 = .ok (.ireturn, 1) := by decide +kernel
theorem dc_Mod_value_0 : decode bc_Mod_value 0 = .ok (.iload_n 1, 1) := by decide +kernel
theorem dc_Mod_value_1 : decode bc_Mod_value 1 = .ok (.iconst 0, 1) := by decide +kernel
theorem dc_Mod_value_2 : decode bc_Mod_value 2 = .ok (.iconst 3, 1) := by decide +kernel
theorem dc_Mod_value_3 : decode bc_Mod_value 3 = .ok (.invokestatic 101, 3) := by decide +kernel
theorem dc_Mod_value_6 : decode bc_Mod_value 6 = .ok (.ifCond .eq 21, 3) := by decide +kernel
theorem dc_Mod_value_9 : decode bc_Mod_value 9 = .ok (.aload_n 0, 1) := by decide +kernel
theorem dc_Mod_value_10 : decode bc_Mod_value 10 = .ok (.getfield 16, 3) := by decide +kernel
theorem dc_Mod_value_13 : decode bc_Mod_value 13 = .ok (.iload_n 1, 1) := by decide +kernel
theorem dc_Mod_value_14 : decode bc_Mod_value 14 = .ok (.baload, 1) := by decide +kernel
theorem dc_Mod_value_15 : decode bc_Mod_value 15 = .ok (.ifCond .eq 12, 3) := by decide +kernel
theorem dc_Mod_value_18 : decode bc_Mod_value 18 = .ok (.aload_n 0, 1) := by decide +kernel
theorem dc_Mod_value_19 : decode bc_Mod_value 19 = .ok (.iload_n 1, 1) := by decide +kernel
theorem dc_Mod_value_20 : decode bc_Mod_value 20 = .ok (.iload_n 2, 1) := by decide +kernel
theorem dc_Mod_value_21 : decode bc_Mod_value 21 = .ok (.invokevirtual 97, 3) := by decide +kernel
theorem dc_Mod_value_24 : decode bc_Mod_value 24 = .ok (.ifCond .ne 5, 3) := by decide +kernel
theorem dc_Mod_value_27 : decode bc_Mod_value 27 = .ok (.iconst (-1), 1) := by decide +kernel
theorem dc_Mod_value_28 : decode bc_Mod_value 28 = .ok (.ireturn, 1) := by decide +kernel
theorem dc_Mod_value_29 : decode bc_Mod_value 29 = .ok (.iload_n 3, 1) := by decide +kernel
theorem dc_Mod_value_30 : decode bc_Mod_value 30 = .ok (.ifCond .lt 25, 3) := by decide +kernel
theorem dc_Mod_value_33 : decode bc_Mod_value 33 = .ok (.iload_n 3, 1) := by decide +kernel
theorem dc_Mod_value_34 : decode bc_Mod_value 34 = .ok (.aload_n 0, 1) := by decide +kernel
theorem dc_Mod_value_35 : decode bc_Mod_value 35 = .ok (.invokevirtual 105, 3) := by decide +kernel
theorem dc_Mod_value_38 : decode bc_Mod_value 38 = .ok (.if_icmp .ge 17, 3) := by decide +kernel
theorem dc_Mod_value_41 : decode bc_Mod_value 41 = .ok (.aload_n 0, 1) := by decide +kernel
theorem dc_Mod_value_42 : decode bc_Mod_value 42 = .ok (.iload_n 1, 1) := by decide +kernel
theorem dc_Mod_value_43 : decode bc_Mod_value 43 = .ok (.aload_n 0, 1) := by decide +kernel
theorem dc_Mod_value_44 : decode bc_Mod_value 44 = .ok (.getfield 75, 3) := by decide +kernel
theorem dc_Mod_value_47 : decode bc_Mod_value 47 = .ok (.iload_n 3, 1) := by decide +kernel
theorem dc_Mod_value_48 : decode bc_Mod_value 48 = .ok (.iadd, 1) := by decide +kernel
theorem dc_Mod_value_49 : decode bc_Mod_value 49 = .ok (.invokevirtual 90, 3) := by decide +kernel
theorem dc_Mod_value_52 : decode bc_Mod_value 52 = .ok (.goto 4, 3) := by decide +kernel
theorem dc_Mod_value_55 : decode bc_Mod_value 55 = .ok (.iconst (-1), 1) := by decide +kernel
theorem dc_Mod_value_56 : decode bc_Mod_value 56 = .ok (.ireturn, 1) := by decide +kernel
theorem dc_Mod_inside_0 : decode bc_Mod_inside 0 = .ok (.iload_n 1, 1) := by decide +kernel
theorem dc_Mod_inside_1 : decode bc_Mod_inside 1 = .ok (.iconst 0, 1) := by decide +kernel
theorem dc_Mod_inside_2 : decode bc_Mod_inside 2 = .ok (.iconst 3, 1) := by decide +kernel
theorem dc_Mod_inside_3 : decode bc_Mod_inside 3 = .ok (.invokestatic 101, 3) := by decide +kernel
theorem dc_Mod_inside_6 : decode bc_Mod_inside 6 = .ok (.ifCond .eq 28, 3) := by decide +kernel
theorem dc_Mod_inside_9 : decode bc_Mod_inside 9 = .ok (.aload_n 0, 1) := by decide +kernel
theorem dc_Mod_inside_10 : decode bc_Mod_inside 10 = .ok (.getfield 16, 3) := by decide +kernel
theorem dc_Mod_inside_13 : decode bc_Mod_inside 13 = .ok (.iload_n 1, 1) := by decide +kernel
theorem dc_Mod_inside_14 : decode bc_Mod_inside 14 = .ok (.baload, 1) := by decide +kernel
theorem dc_Mod_inside_15 : decode bc_Mod_inside 15 = .ok (.ifCond .eq 19, 3) := by decide +kernel
theorem dc_Mod_inside_18 : decode bc_Mod_inside 18 = .ok (.aload_n 0, 1) := by decide +kernel
theorem dc_Mod_inside_19 : decode bc_Mod_inside 19 = .ok (.iload_n 1, 1) := by decide +kernel
theorem dc_Mod_inside_20 : decode bc_Mod_inside 20 = .ok (.iload_n 2, 1) := by decide +kernel
theorem dc_Mod_inside_21 : decode bc_Mod_inside 21 = .ok (.invokevirtual 97, 3) := by decide +kernel
theorem dc_Mod_inside_24 : decode bc_Mod_inside 24 = .ok (.ifCond .eq 10, 3) := by decide +kernel
theorem dc_Mod_inside_27 : decode bc_Mod_inside 27 = .ok (.aload_n 0, 1) := by decide +kernel
theorem dc_Mod_inside_28 : decode bc_Mod_inside 28 = .ok (.getfield 81, 3) := by decide +kernel
theorem dc_Mod_inside_31 : decode bc_Mod_inside 31 = .ok (.goto 4, 3) := by decide +kernel
theorem dc_Mod_inside_34 : decode bc_Mod_inside 34 = .ok (.iconst (-1), 1) := by decide +kernel
theorem dc_Mod_inside_35 : decode bc_Mod_inside 35 = .ok (.ireturn, 1) := by decide +kernel
theorem dc_Mod_balance_0 : decode bc_Mod_balance 0 = .ok (.iload_n 1, 1) := by decide +kernel
theorem dc_Mod_balance_1 : decode bc_Mod_balance 1 = .ok (.iconst 0, 1) := by decide +kernel
theorem dc_Mod_balance_2 : decode bc_Mod_balance 2 = .ok (.bipush 7, 2) := by decide +kernel
theorem dc_Mod_balance_4 : decode bc_Mod_balance 4 = .ok (.invokestatic 101, 3) := by decide +kernel
theorem dc_Mod_balance_7 : decode bc_Mod_balance 7 = .ok (.ifCond .eq 13, 3) := by decide +kernel
theorem dc_Mod_balance_10 : decode bc_Mod_balance 10 = .ok (.aload_n 0, 1) := by decide +kernel
theorem dc_Mod_balance_11 : decode bc_Mod_balance 11 = .ok (.getfield 38, 3) := by decide +kernel
theorem dc_Mod_balance_14 : decode bc_Mod_balance 14 = .ok (.iload_n 1, 1) := by decide +kernel
theorem dc_Mod_balance_15 : decode bc_Mod_balance 15 = .ok (.iaload, 1) := by decide +kernel
theorem dc_Mod_balance_16 : decode bc_Mod_balance 16 = .ok (.i2l, 1) := by decide +kernel
theorem dc_Mod_balance_17 : decode bc_Mod_balance 17 = .ok (.goto 6, 3) := by decide +kernel
theorem dc_Mod_balance_20 : decode bc_Mod_balance 20 = .ok (.ldc2_w 192, 3) := by decide +kernel
theorem dc_Mod_balance_23 : decode bc_Mod_balance 23 = .ok (.lreturn, 1) := by decide +kernel
theorem dc_Mod_queued_0 : decode bc_Mod_queued 0 = .ok (.iload_n 1, 1) := by decide +kernel
theorem dc_Mod_queued_1 : decode bc_Mod_queued 1 = .ok (.ifCond .lt 20, 3) := by decide +kernel
theorem dc_Mod_queued_4 : decode bc_Mod_queued 4 = .ok (.iload_n 1, 1) := by decide +kernel
theorem dc_Mod_queued_5 : decode bc_Mod_queued 5 = .ok (.aload_n 0, 1) := by decide +kernel
theorem dc_Mod_queued_6 : decode bc_Mod_queued 6 = .ok (.getfield 155, 3) := by decide +kernel
theorem dc_Mod_queued_9 : decode bc_Mod_queued 9 = .ok (.if_icmp .ge 12, 3) := by decide +kernel
theorem dc_Mod_queued_12 : decode bc_Mod_queued 12 = .ok (.aload_n 0, 1) := by decide +kernel
theorem dc_Mod_queued_13 : decode bc_Mod_queued 13 = .ok (.getfield 66, 3) := by decide +kernel
theorem dc_Mod_queued_16 : decode bc_Mod_queued 16 = .ok (.iload_n 1, 1) := by decide +kernel
theorem dc_Mod_queued_17 : decode bc_Mod_queued 17 = .ok (.iaload, 1) := by decide +kernel
theorem dc_Mod_queued_18 : decode bc_Mod_queued 18 = .ok (.goto 4, 3) := by decide +kernel
theorem dc_Mod_queued_21 : decode bc_Mod_queued 21 = .ok (.iconst (-1), 1) := by decide +kernel
theorem dc_Mod_queued_22 : decode bc_Mod_queued 22 = .ok (.ireturn, 1) := by decide +kernel
theorem dc_Mod_count_0 : decode bc_Mod_count 0 = .ok (.iconst 0, 1) := by decide +kernel
theorem dc_Mod_count_1 : decode bc_Mod_count 1 = .ok (.istore_n 2, 1) := by decide +kernel
theorem dc_Mod_count_2 : decode bc_Mod_count 2 = .ok (.iconst 1, 1) := by decide +kernel
theorem dc_Mod_count_3 : decode bc_Mod_count 3 = .ok (.istore_n 3, 1) := by decide +kernel
theorem dc_Mod_count_4 : decode bc_Mod_count 4 = .ok (.iload_n 3, 1) := by decide +kernel
theorem dc_Mod_count_5 : decode bc_Mod_count 5 = .ok (.aload_n 0, 1) := by decide +kernel
theorem dc_Mod_count_6 : decode bc_Mod_count 6 = .ok (.getfield 145, 3) := by decide +kernel
theorem dc_Mod_count_9 : decode bc_Mod_count 9 = .ok (.if_icmp .gt 31, 3) := by decide +kernel
theorem dc_Mod_count_12 : decode bc_Mod_count 12 = .ok (.aload_n 0, 1) := by decide +kernel
theorem dc_Mod_count_13 : decode bc_Mod_count 13 = .ok (.getfield 60, 3) := by decide +kernel
theorem dc_Mod_count_16 : decode bc_Mod_count 16 = .ok (.iload_n 3, 1) := by decide +kernel
theorem dc_Mod_count_17 : decode bc_Mod_count 17 = .ok (.iaload, 1) := by decide +kernel
theorem dc_Mod_count_18 : decode bc_Mod_count 18 = .ok (.iconst 1, 1) := by decide +kernel
theorem dc_Mod_count_19 : decode bc_Mod_count 19 = .ok (.if_icmp .ne 15, 3) := by decide +kernel
theorem dc_Mod_count_22 : decode bc_Mod_count 22 = .ok (.aload_n 0, 1) := by decide +kernel
theorem dc_Mod_count_23 : decode bc_Mod_count 23 = .ok (.getfield 63, 3) := by decide +kernel
theorem dc_Mod_count_26 : decode bc_Mod_count 26 = .ok (.iload_n 3, 1) := by decide +kernel
theorem dc_Mod_count_27 : decode bc_Mod_count 27 = .ok (.baload, 1) := by decide +kernel
theorem dc_Mod_count_28 : decode bc_Mod_count 28 = .ok (.ifCond .ne 6, 3) := by decide +kernel
theorem dc_Mod_count_31 : decode bc_Mod_count 31 = .ok (.iinc 2 1, 3) := by decide +kernel
theorem dc_Mod_count_34 : decode bc_Mod_count 34 = .ok (.iinc 3 1, 3) := by decide +kernel
theorem dc_Mod_count_37 : decode bc_Mod_count 37 = .ok (.goto (-33), 3) := by decide +kernel
theorem dc_Mod_count_40 : decode bc_Mod_count 40 = .ok (.iload_n 1, 1) := by decide +kernel
theorem dc_Mod_count_41 : decode bc_Mod_count 41 = .ok (.tableswitch 59 0 4 #[35, 42, 47, 52, 57], 35) := by decide +kernel
theorem dc_Mod_count_76 : decode bc_Mod_count 76 = .ok (.aload_n 0, 1) := by decide +kernel
theorem dc_Mod_count_77 : decode bc_Mod_count 77 = .ok (.getfield 13, 3) := by decide +kernel
theorem dc_Mod_count_80 : decode bc_Mod_count 80 = .ok (.iconst 4, 1) := by decide +kernel
theorem dc_Mod_count_81 : decode bc_Mod_count 81 = .ok (.iaload, 1) := by decide +kernel
theorem dc_Mod_count_82 : decode bc_Mod_count 82 = .ok (.ireturn, 1) := by decide +kernel
theorem dc_Mod_count_83 : decode bc_Mod_count 83 = .ok (.aload_n 0, 1) := by decide +kernel
theorem dc_Mod_count_84 : decode bc_Mod_count 84 = .ok (.getfield 145, 3) := by decide +kernel
theorem dc_Mod_count_87 : decode bc_Mod_count 87 = .ok (.ireturn, 1) := by decide +kernel
theorem dc_Mod_count_88 : decode bc_Mod_count 88 = .ok (.aload_n 0, 1) := by decide +kernel
theorem dc_Mod_count_89 : decode bc_Mod_count 89 = .ok (.getfield 155, 3) := by decide +kernel
theorem dc_Mod_count_92 : decode bc_Mod_count 92 = .ok (.ireturn, 1) := by decide +kernel
theorem dc_Mod_count_93 : decode bc_Mod_count 93 = .ok (.aload_n 0, 1) := by decide +kernel
theorem dc_Mod_count_94 : decode bc_Mod_count 94 = .ok (.getfield 177, 3) := by decide +kernel
theorem dc_Mod_count_97 : decode bc_Mod_count 97 = .ok (.ireturn, 1) := by decide +kernel
theorem dc_Mod_count_98 : decode bc_Mod_count 98 = .ok (.iload_n 2, 1) := by decide +kernel
theorem dc_Mod_count_99 : decode bc_Mod_count 99 = .ok (.ireturn, 1) := by decide +kernel
theorem dc_Mod_count_100 : decode bc_Mod_count 100 = .ok (.iconst (-1), 1) := by decide +kernel
theorem dc_Mod_count_101 : decode bc_Mod_count 101 = .ok (.ireturn, 1) := by decide +kernel
