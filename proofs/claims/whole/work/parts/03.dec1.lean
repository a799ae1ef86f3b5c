theorem dX6_init_49 : decode cX6_init 49 = .ok (.if_icmp .ge 22, 3) := by decide +kernel
theorem dX6_init_52 : decode cX6_init 52 = .ok (.aload_n 0, 1) := by decide +kernel
theorem dX6_init_53 : decode cX6_init 53 = .ok (.getfield 26, 3) := by decide +kernel
theorem dX6_init_56 : decode cX6_init 56 = .ok (.iload_n 1, 1) := by decide +kernel
theorem dX6_init_57 : decode cX6_init 57 = .ok (.new 16, 3) := by decide +kernel
theorem dX6_init_60 : decode cX6_init 60 = .ok (.dup, 1) := by decide +kernel
theorem dX6_init_61 : decode cX6_init 61 = .ok (.invokespecial 18, 3) := by decide +kernel
theorem dX6_init_64 : decode cX6_init 64 = .ok (.aastore, 1) := by decide +kernel
theorem dX6_init_65 : decode cX6_init 65 = .ok (.iinc 1 1, 3) := by decide +kernel
theorem dX6_init_68 : decode cX6_init 68 = .ok (.goto (-21), 3) := by decide +kernel
theorem dX6_init_71 : decode cX6_init 71 = .ok (.aload_n 0, 1) := by decide +kernel
theorem dX6_init_72 : decode cX6_init 72 = .ok (.new 30, 3) := by decide +kernel
theorem dX6_init_75 : decode cX6_init 75 = .ok (.dup, 1) := by decide +kernel
theorem dX6_init_76 : decode cX6_init 76 = .ok (.invokespecial 32, 3) := by decide +kernel
theorem dX6_init_79 : decode cX6_init 79 = .ok (.putfield 33, 3) := by decide +kernel
theorem dX6_init_82 : decode cX6_init 82 = .ok (.aload_n 0, 1) := by decide +kernel
theorem dX6_init_83 : decode cX6_init 83 = .ok (.new 37, 3) := by decide +kernel
theorem dX6_init_86 : decode cX6_init 86 = .ok (.dup, 1) := by decide +kernel
theorem dX6_init_87 : decode cX6_init 87 = .ok (.invokespecial 39, 3) := by decide +kernel
theorem dX6_init_90 : decode cX6_init 90 = .ok (.putfield 40, 3) := by decide +kernel
theorem dX6_init_93 : decode cX6_init 93 = .ok (.aload_n 0, 1) := by decide +kernel
theorem dX6_init_94 : decode cX6_init 94 = .ok (.new 44, 3) := by decide +kernel
theorem dX6_init_97 : decode cX6_init 97 = .ok (.dup, 1) := by decide +kernel
theorem dX6_init_98 : decode cX6_init 98 = .ok (.invokespecial 46, 3) := by decide +kernel
theorem dX6_init_101 : decode cX6_init 101 = .ok (.putfield 47, 3) := by decide +kernel
theorem dX6_init_104 : decode cX6_init 104 = .ok (.aload_n 0, 1) := by decide +kernel
theorem dX6_init_105 : decode cX6_init 105 = .ok (.new 44, 3) := by decide +kernel
theorem dX6_init_108 : decode cX6_init 108 = .ok (.dup, 1) := by decide +kernel
theorem dX6_init_109 : decode cX6_init 109 = .ok (.invokespecial 46, 3) := by decide +kernel
theorem dX6_init_112 : decode cX6_init 112 = .ok (.putfield 51, 3) := by decide +kernel
theorem dX6_init_115 : decode cX6_init 115 = .ok (.aload_n 0, 1) := by decide +kernel
theorem dX6_init_116 : decode cX6_init 116 = .ok (.new 54, 3) := by decide +kernel
theorem dX6_init_119 : decode cX6_init 119 = .ok (.dup, 1) := by decide +kernel
theorem dX6_init_120 : decode cX6_init 120 = .ok (.aload_n 0, 1) := by decide +kernel
theorem dX6_init_121 : decode cX6_init 121 = .ok (.getfield 47, 3) := by decide +kernel
theorem dX6_init_124 : decode cX6_init 124 = .ok (.invokespecial 56, 3) := by decide +kernel
theorem dX6_init_127 : decode cX6_init 127 = .ok (.putfield 59, 3) := by decide +kernel
theorem dX6_init_130 : decode cX6_init 130 = .ok (.return_, 1) := by decide +kernel
theorem dX6_write_0 : decode cX6_write 0 = .ok (.iload_n 1, 1) := by decide +kernel
theorem dX6_write_1 : decode cX6_write 1 = .ok (.iconst 1, 1) := by decide +kernel
theorem dX6_write_2 : decode cX6_write 2 = .ok (.if_icmp .lt 9, 3) := by decide +kernel
theorem dX6_write_5 : decode cX6_write 5 = .ok (.iload_n 1, 1) := by decide +kernel
theorem dX6_write_6 : decode cX6_write 6 = .ok (.bipush 8, 2) := by decide +kernel
theorem dX6_write_8 : decode cX6_write 8 = .ok (.if_icmp .le 6, 3) := by decide +kernel
theorem dX6_write_11 : decode cX6_write 11 = .ok (.bipush (-2), 2) := by decide +kernel
theorem dX6_write_13 : decode cX6_write 13 = .ok (.ireturn, 1) := by decide +kernel
theorem dX6_write_14 : decode cX6_write 14 = .ok (.aload_n 0, 1) := by decide +kernel
theorem dX6_write_15 : decode cX6_write 15 = .ok (.getfield 12, 3) := by decide +kernel
theorem dX6_write_18 : decode cX6_write 18 = .ok (.getfield 63, 3) := by decide +kernel
theorem dX6_write_21 : decode cX6_write 21 = .ok (.iload_n 1, 1) := by decide +kernel
theorem dX6_write_22 : decode cX6_write 22 = .ok (.iadd, 1) := by decide +kernel
theorem dX6_write_23 : decode cX6_write 23 = .ok (.bipush 72, 2) := by decide +kernel
theorem dX6_write_25 : decode cX6_write 25 = .ok (.if_icmp .le 6, 3) := by decide +kernel
theorem dX6_write_28 : decode cX6_write 28 = .ok (.bipush (-4), 2) := by decide +kernel
theorem dX6_write_30 : decode cX6_write 30 = .ok (.ireturn, 1) := by decide +kernel
theorem dX6_write_31 : decode cX6_write 31 = .ok (.iload_n 1, 1) := by decide +kernel
theorem dX6_write_32 : decode cX6_write 32 = .ok (.iconst 1, 1) := by decide +kernel
theorem dX6_write_33 : decode cX6_write 33 = .ok (.isub, 1) := by decide +kernel
theorem dX6_write_34 : decode cX6_write 34 = .ok (.istore 4, 2) := by decide +kernel
theorem dX6_write_36 : decode cX6_write 36 = .ok (.iload 4, 2) := by decide +kernel
theorem dX6_write_38 : decode cX6_write 38 = .ok (.ifCond .lt 28, 3) := by decide +kernel
theorem dX6_write_41 : decode cX6_write 41 = .ok (.aload_n 0, 1) := by decide +kernel
theorem dX6_write_42 : decode cX6_write 42 = .ok (.getfield 12, 3) := by decide +kernel
theorem dX6_write_45 : decode cX6_write 45 = .ok (.lload_n 2, 1) := by decide +kernel
theorem dX6_write_46 : decode cX6_write 46 = .ok (.bipush 8, 2) := by decide +kernel
theorem dX6_write_48 : decode cX6_write 48 = .ok (.iload 4, 2) := by decide +kernel
theorem dX6_write_50 : decode cX6_write 50 = .ok (.imul, 1) := by decide +kernel
theorem dX6_write_51 : decode cX6_write 51 = .ok (.lushr, 1) := by decide +kernel
theorem dX6_write_52 : decode cX6_write 52 = .ok (.l2i, 1) := by decide +kernel
theorem dX6_write_53 : decode cX6_write 53 = .ok (.sipush 255, 3) := by decide +kernel
theorem dX6_write_56 : decode cX6_write 56 = .ok (.iand, 1) := by decide +kernel
theorem dX6_write_57 : decode cX6_write 57 = .ok (.invokevirtual 67, 3) := by decide +kernel
theorem dX6_write_60 : decode cX6_write 60 = .ok (.iinc 4 (-1), 3) := by decide +kernel
theorem dX6_write_63 : decode cX6_write 63 = .ok (.goto (-27), 3) := by decide +kernel
theorem dX6_write_66 : decode cX6_write 66 = .ok (.aload_n 0, 1) := by decide +kernel
theorem dX6_write_67 : decode cX6_write 67 = .ok (.getfield 12, 3) := by decide +kernel
theorem dX6_write_70 : decode cX6_write 70 = .ok (.getfield 63, 3) := by decide +kernel
theorem dX6_write_73 : decode cX6_write 73 = .ok (.ireturn, 1) := by decide +kernel
theorem dX6_wipe_0 : decode cX6_wipe 0 = .ok (.aload_n 0, 1) := by decide +kernel
theorem dX6_wipe_1 : decode cX6_wipe 1 = .ok (.getfield 12, 3) := by decide +kernel
theorem dX6_wipe_4 : decode cX6_wipe 4 = .ok (.getfield 63, 3) := by decide +kernel
theorem dX6_wipe_7 : decode cX6_wipe 7 = .ok (.istore_n 1, 1) := by decide +kernel
theorem dX6_wipe_8 : decode cX6_wipe 8 = .ok (.aload_n 0, 1) := by decide +kernel
theorem dX6_wipe_9 : decode cX6_wipe 9 = .ok (.getfield 12, 3) := by decide +kernel
theorem dX6_wipe_12 : decode cX6_wipe 12 = .ok (.iconst 0, 1) := by decide +kernel
theorem dX6_wipe_13 : decode cX6_wipe 13 = .ok (.putfield 63, 3) := by decide +kernel
theorem dX6_wipe_16 : decode cX6_wipe 16 = .ok (.iload_n 1, 1) := by decide +kernel
theorem dX6_wipe_17 : decode cX6_wipe 17 = .ok (.ireturn, 1) := by decide +kernel
theorem dX6_fault_0 : decode cX6_fault 0 = .ok (.aload_n 0, 1) := by decide +kernel
theorem dX6_fault_1 : decode cX6_fault 1 = .ok (.getfield 12, 3) := by decide +kernel
theorem dX6_fault_4 : decode cX6_fault 4 = .ok (.aload_n 0, 1) := by decide +kernel
theorem dX6_fault_5 : decode cX6_fault 5 = .ok (.getfield 51, 3) := by decide +kernel
theorem dX6_fault_8 : decode cX6_fault 8 = .ok (.invokevirtual 71, 3) := by decide +kernel
theorem dX6_fault_11 : decode cX6_fault 11 = .ok (.ireturn, 1) := by decide +kernel
theorem dX6_day_0 : decode cX6_day 0 = .ok (.aload_n 0, 1) := by decide +kernel
theorem dX6_day_1 : decode cX6_day 1 = .ok (.getfield 12, 3) := by decide +kernel
theorem dX6_day_4 : decode cX6_day 4 = .ok (.aload_n 0, 1) := by decide +kernel
theorem dX6_day_5 : decode cX6_day 5 = .ok (.getfield 51, 3) := by decide +kernel
theorem dX6_day_8 : decode cX6_day 8 = .ok (.invokevirtual 71, 3) := by decide +kernel
theorem dX6_day_11 : decode cX6_day 11 = .ok (.bipush (-9), 2) := by decide +kernel
theorem dX6_day_13 : decode cX6_day 13 = .ok (.if_icmp .eq 6, 3) := by decide +kernel
theorem dX6_day_16 : decode cX6_day 16 = .ok (.bipush (-3), 2) := by decide +kernel
theorem dX6_day_18 : decode cX6_day 18 = .ok (.ireturn, 1) := by decide +kernel
theorem dX6_day_19 : decode cX6_day 19 = .ok (.aload_n 0, 1) := by decide +kernel
theorem dX6_day_20 : decode cX6_day 20 = .ok (.getfield 51, 3) := by decide +kernel
theorem dX6_day_23 : decode cX6_day 23 = .ok (.astore_n 1, 1) := by decide +kernel
theorem dX6_day_24 : decode cX6_day 24 = .ok (.aload_n 0, 1) := by decide +kernel
theorem dX6_day_25 : decode cX6_day 25 = .ok (.aload_n 0, 1) := by decide +kernel
theorem dX6_day_26 : decode cX6_day 26 = .ok (.getfield 47, 3) := by decide +kernel
theorem dX6_day_29 : decode cX6_day 29 = .ok (.putfield 51, 3) := by decide +kernel
theorem dX6_day_32 : decode cX6_day 32 = .ok (.aload_n 0, 1) := by decide +kernel
theorem dX6_day_33 : decode cX6_day 33 = .ok (.aload_n 1, 1) := by decide +kernel
theorem dX6_day_34 : decode cX6_day 34 = .ok (.putfield 47, 3) := by decide +kernel
theorem dX6_day_37 : decode cX6_day 37 = .ok (.aload_n 0, 1) := by decide +kernel
theorem dX6_day_38 : decode cX6_day 38 = .ok (.getfield 19, 3) := by decide +kernel
theorem dX6_day_41 : decode cX6_day 41 = .ok (.aload_n 0, 1) := by decide +kernel
theorem dX6_day_42 : decode cX6_day 42 = .ok (.getfield 47, 3) := by decide +kernel
theorem dX6_day_45 : decode cX6_day 45 = .ok (.invokevirtual 75, 3) := by decide +kernel
theorem dX6_day_48 : decode cX6_day 48 = .ok (.aload_n 0, 1) := by decide +kernel
theorem dX6_day_49 : decode cX6_day 49 = .ok (.getfield 33, 3) := by decide +kernel
theorem dX6_day_52 : decode cX6_day 52 = .ok (.iconst 0, 1) := by decide +kernel
theorem dX6_day_53 : decode cX6_day 53 = .ok (.putfield 78, 3) := by decide +kernel
theorem dX6_day_56 : decode cX6_day 56 = .ok (.iconst 0, 1) := by decide +kernel
theorem dX6_day_57 : decode cX6_day 57 = .ok (.istore_n 2, 1) := by decide +kernel
theorem dX6_day_58 : decode cX6_day 58 = .ok (.iload_n 2, 1) := by decide +kernel
theorem dX6_day_59 : decode cX6_day 59 = .ok (.iconst 2, 1) := by decide +kernel
theorem dX6_day_60 : decode cX6_day 60 = .ok (.if_icmp .ge 19, 3) := by decide +kernel
theorem dX6_day_63 : decode cX6_day 63 = .ok (.aload_n 0, 1) := by decide +kernel
theorem dX6_day_64 : decode cX6_day 64 = .ok (.getfield 26, 3) := by decide +kernel
theorem dX6_day_67 : decode cX6_day 67 = .ok (.iload_n 2, 1) := by decide +kernel
theorem dX6_day_68 : decode cX6_day 68 = .ok (.aaload, 1) := by decide +kernel
theorem dX6_day_69 : decode cX6_day 69 = .ok (.iconst 0, 1) := by decide +kernel
theorem dX6_day_70 : decode cX6_day 70 = .ok (.putfield 81, 3) := by decide +kernel
theorem dX6_day_73 : decode cX6_day 73 = .ok (.iinc 2 1, 3) := by decide +kernel
theorem dX6_day_76 : decode cX6_day 76 = .ok (.goto (-18), 3) := by decide +kernel
theorem dX6_day_79 : decode cX6_day 79 = .ok (.aload_n 0, 1) := by decide +kernel
theorem dX6_day_80 : decode cX6_day 80 = .ok (.getfield 47, 3) := by decide +kernel
theorem dX6_day_83 : decode cX6_day 83 = .ok (.getfield 85, 3) := by decide +kernel
theorem dX6_day_86 : decode cX6_day 86 = .ok (.ireturn, 1) := by decide +kernel
theorem dX6_about_0 : decode cX6_about 0 = .ok (.iload_n 1, 1) := by decide +kernel
theorem dX6_about_1 : decode cX6_about 1 = .ok (.tableswitch 117 0 8 #[51, 59, 67, 75, 83, 91, 96, 101, 109], 51) := by decide +kernel
theorem dX6_about_52 : decode cX6_about 52 = .ok (.aload_n 0, 1) := by decide +kernel
theorem dX6_about_53 : decode cX6_about 53 = .ok (.getfield 47, 3) := by decide +kernel
theorem dX6_about_56 : decode cX6_about 56 = .ok (.getfield 85, 3) := by decide +kernel
theorem dX6_about_59 : decode cX6_about 59 = .ok (.ireturn, 1) := by decide +kernel
theorem dX6_about_60 : decode cX6_about 60 = .ok (.aload_n 0, 1) := by decide +kernel
theorem dX6_about_61 : decode cX6_about 61 = .ok (.getfield 47, 3) := by decide +kernel
theorem dX6_about_64 : decode cX6_about 64 = .ok (.getfield 88, 3) := by decide +kernel
theorem dX6_about_67 : decode cX6_about 67 = .ok (.ireturn, 1) := by decide +kernel
theorem dX6_about_68 : decode cX6_about 68 = .ok (.aload_n 0, 1) := by decide +kernel
theorem dX6_about_69 : decode cX6_about 69 = .ok (.getfield 47, 3) := by decide +kernel
theorem dX6_about_72 : decode cX6_about 72 = .ok (.getfield 91, 3) := by decide +kernel
theorem dX6_about_75 : decode cX6_about 75 = .ok (.ireturn, 1) := by decide +kernel
theorem dX6_about_76 : decode cX6_about 76 = .ok (.aload_n 0, 1) := by decide +kernel
theorem dX6_about_77 : decode cX6_about 77 = .ok (.getfield 19, 3) := by decide +kernel
theorem dX6_about_80 : decode cX6_about 80 = .ok (.getfield 94, 3) := by decide +kernel
theorem dX6_about_83 : decode cX6_about 83 = .ok (.ireturn, 1) := by decide +kernel
theorem dX6_about_84 : decode cX6_about 84 = .ok (.aload_n 0, 1) := by decide +kernel
theorem dX6_about_85 : decode cX6_about 85 = .ok (.getfield 33, 3) := by decide +kernel
theorem dX6_about_88 : decode cX6_about 88 = .ok (.getfield 78, 3) := by decide +kernel
theorem dX6_about_91 : decode cX6_about 91 = .ok (.ireturn, 1) := by decide +kernel
theorem dX6_about_92 : decode cX6_about 92 = .ok (.aload_n 0, 1) := by decide +kernel
theorem dX6_about_93 : decode cX6_about 93 = .ok (.invokevirtual 97, 3) := by decide +kernel
theorem dX6_about_96 : decode cX6_about 96 = .ok (.ireturn, 1) := by decide +kernel
theorem dX6_about_97 : decode cX6_about 97 = .ok (.aload_n 0, 1) := by decide +kernel
theorem dX6_about_98 : decode cX6_about 98 = .ok (.invokevirtual 101, 3) := by decide +kernel
theorem dX6_about_101 : decode cX6_about 101 = .ok (.ireturn, 1) := by decide +kernel
theorem dX6_about_102 : decode cX6_about 102 = .ok (.aload_n 0, 1) := by decide +kernel
theorem dX6_about_103 : decode cX6_about 103 = .ok (.getfield 40, 3) := by decide +kernel
theorem dX6_about_106 : decode cX6_about 106 = .ok (.getfield 104, 3) := by decide +kernel
theorem dX6_about_109 : decode cX6_about 109 = .ok (.ireturn, 1) := by decide +kernel
theorem dX6_about_110 : decode cX6_about 110 = .ok (.aload_n 0, 1) := by decide +kernel
theorem dX6_about_111 : decode cX6_about 111 = .ok (.getfield 12, 3) := by decide +kernel
theorem dX6_about_114 : decode cX6_about 114 = .ok (.getfield 63, 3) := by decide +kernel
theorem dX6_about_117 : decode cX6_about 117 = .ok (.ireturn, 1) := by decide +kernel
theorem dX6_about_118 : decode cX6_about 118 = .ok (.bipush (-2), 2) := by decide +kernel
theorem dX6_about_120 : decode cX6_about 120 = .ok (.ireturn, 1) := by decide +kernel
theorem dX6_where_0 : decode cX6_where 0 = .ok (.aload_n 0, 1) := by decide +kernel
theorem dX6_where_1 : decode cX6_where 1 = .ok (.iload_n 1, 1) := by decide +kernel
theorem dX6_where_2 : decode cX6_where 2 = .ok (.invokevirtual 105, 3) := by decide +kernel
theorem dX6_where_5 : decode cX6_where 5 = .ok (.ifCond .ne 5, 3) := by decide +kernel
theorem dX6_where_8 : decode cX6_where 8 = .ok (.iconst (-1), 1) := by decide +kernel
theorem dX6_where_9 : decode cX6_where 9 = .ok (.ireturn, 1) := by decide +kernel
theorem dX6_where_10 : decode cX6_where 10 = .ok (.iload_n 2, 1) := by decide +kernel
theorem dX6_where_11 : decode cX6_where 11 = .ok (.invokestatic 109, 3) := by decide +kernel
theorem dX6_where_14 : decode cX6_where 14 = .ok (.ifCond .eq 15, 3) := by decide +kernel
theorem dX6_where_17 : decode cX6_where 17 = .ok (.aload_n 0, 1) := by decide +kernel
theorem dX6_where_18 : decode cX6_where 18 = .ok (.getfield 47, 3) := by decide +kernel
theorem dX6_where_21 : decode cX6_where 21 = .ok (.iload_n 1, 1) := by decide +kernel
theorem dX6_where_22 : decode cX6_where 22 = .ok (.iload_n 2, 1) := by decide +kernel
theorem dX6_where_23 : decode cX6_where 23 = .ok (.invokevirtual 112, 3) := by decide +kernel
theorem dX6_where_26 : decode cX6_where 26 = .ok (.goto 5, 3) := by decide +kernel
theorem dX6_where_29 : decode cX6_where 29 = .ok (.bipush (-2), 2) := by decide +kernel
theorem dX6_where_31 : decode cX6_where 31 = .ok (.ireturn, 1) := by decide +kernel
theorem dX6_news_0 : decode cX6_news 0 = .ok (.aload_n 0, 1) := by decide +kernel
theorem dX6_news_1 : decode cX6_news 1 = .ok (.iload_n 1, 1) := by decide +kernel
theorem dX6_news_2 : decode cX6_news 2 = .ok (.invokevirtual 116, 3) := by decide +kernel
theorem dX6_news_5 : decode cX6_news 5 = .ok (.ifCond .ne 5, 3) := by decide +kernel
theorem dX6_news_8 : decode cX6_news 8 = .ok (.iconst (-1), 1) := by decide +kernel
theorem dX6_news_9 : decode cX6_news 9 = .ok (.ireturn, 1) := by decide +kernel
theorem dX6_news_10 : decode cX6_news 10 = .ok (.iload_n 2, 1) := by decide +kernel
theorem dX6_news_11 : decode cX6_news 11 = .ok (.tableswitch 82 0 4 #[33, 43, 53, 62, 72], 33) := by decide +kernel
theorem dX6_news_44 : decode cX6_news 44 = .ok (.aload_n 0, 1) := by decide +kernel
theorem dX6_news_45 : decode cX6_news 45 = .ok (.getfield 47, 3) := by decide +kernel
theorem dX6_news_48 : decode cX6_news 48 = .ok (.getfield 119, 3) := by decide +kernel
theorem dX6_news_51 : decode cX6_news 51 = .ok (.iload_n 1, 1) := by decide +kernel
theorem dX6_news_52 : decode cX6_news 52 = .ok (.iaload, 1) := by decide +kernel
theorem dX6_news_53 : decode cX6_news 53 = .ok (.ireturn, 1) := by decide +kernel
theorem dX6_news_54 : decode cX6_news 54 = .ok (.aload_n 0, 1) := by decide +kernel
theorem dX6_news_55 : decode cX6_news 55 = .ok (.getfield 47, 3) := by decide +kernel
theorem dX6_news_58 : decode cX6_news 58 = .ok (.getfield 123, 3) := by decide +kernel
theorem dX6_news_61 : decode cX6_news 61 = .ok (.iload_n 1, 1) := by decide +kernel
theorem dX6_news_62 : decode cX6_news 62 = .ok (.iaload, 1) := by decide +kernel
theorem dX6_news_63 : decode cX6_news 63 = .ok (.ireturn, 1) := by decide +kernel
theorem dX6_news_64 : decode cX6_news 64 = .ok (.aload_n 0, 1) := by decide +kernel
theorem dX6_news_65 : decode cX6_news 65 = .ok (.getfield 19, 3) := by decide +kernel
theorem dX6_news_68 : decode cX6_news 68 = .ok (.iload_n 1, 1) := by decide +kernel
theorem dX6_news_69 : decode cX6_news 69 = .ok (.invokevirtual 126, 3) := by decide +kernel
theorem dX6_news_72 : decode cX6_news 72 = .ok (.ireturn, 1) := by decide +kernel
theorem dX6_news_73 : decode cX6_news 73 = .ok (.aload_n 0, 1) := by decide +kernel
theorem dX6_news_74 : decode cX6_news 74 = .ok (.getfield 19, 3) := by decide +kernel
theorem dX6_news_77 : decode cX6_news 77 = .ok (.getfield 130, 3) := by decide +kernel
theorem dX6_news_80 : decode cX6_news 80 = .ok (.iload_n 1, 1) := by decide +kernel
theorem dX6_news_81 : decode cX6_news 81 = .ok (.iaload, 1) := by decide +kernel
theorem dX6_news_82 : decode cX6_news 82 = .ok (.ireturn, 1) := by decide +kernel
theorem dX6_news_83 : decode cX6_news 83 = .ok (.aload_n 0, 1) := by decide +kernel
theorem dX6_news_84 : decode cX6_news 84 = .ok (.getfield 47, 3) := by decide +kernel
theorem dX6_news_87 : decode cX6_news 87 = .ok (.getfield 133, 3) := by decide +kernel
theorem dX6_news_90 : decode cX6_news 90 = .ok (.iload_n 1, 1) := by decide +kernel
theorem dX6_news_91 : decode cX6_news 91 = .ok (.iaload, 1) := by decide +kernel
theorem dX6_news_92 : decode cX6_news 92 = .ok (.ireturn, 1) := by decide +kernel
theorem dX6_news_93 : decode cX6_news 93 = .ok (.bipush (-2), 2) := by decide +kernel
theorem dX6_news_95 : decode cX6_news 95 = .ok (.ireturn, 1) := by decide +kernel
theorem dX6_told_0 : decode cX6_told 0 = .ok (.aload_n 0, 1) := by decide +kernel
theorem dX6_told_1 : decode cX6_told 1 = .ok (.iload_n 1, 1) := by decide +kernel
theorem dX6_told_2 : decode cX6_told 2 = .ok (.invokevirtual 105, 3) := by decide +kernel
theorem dX6_told_5 : decode cX6_told 5 = .ok (.ifCond .eq 11, 3) := by decide +kernel
theorem dX6_told_8 : decode cX6_told 8 = .ok (.aload_n 0, 1) := by decide +kernel
theorem dX6_told_9 : decode cX6_told 9 = .ok (.iload_n 2, 1) := by decide +kernel
theorem dX6_told_10 : decode cX6_told 10 = .ok (.invokevirtual 116, 3) := by decide +kernel
theorem dX6_told_13 : decode cX6_told 13 = .ok (.ifCond .ne 5, 3) := by decide +kernel
theorem dX6_told_16 : decode cX6_told 16 = .ok (.iconst (-1), 1) := by decide +kernel
theorem dX6_told_17 : decode cX6_told 17 = .ok (.ireturn, 1) := by decide +kernel
theorem dX6_told_18 : decode cX6_told 18 = .ok (.aload_n 0, 1) := by decide +kernel
theorem dX6_told_19 : decode cX6_told 19 = .ok (.getfield 19, 3) := by decide +kernel
theorem dX6_told_22 : decode cX6_told 22 = .ok (.getfield 136, 3) := by decide +kernel
theorem dX6_told_25 : decode cX6_told 25 = .ok (.iload_n 1, 1) := by decide +kernel
theorem dX6_told_26 : decode cX6_told 26 = .ok (.iconst 3, 1) := by decide +kernel
theorem dX6_told_27 : decode cX6_told 27 = .ok (.imul, 1) := by decide +kernel
theorem dX6_told_28 : decode cX6_told 28 = .ok (.iload_n 2, 1) := by decide +kernel
theorem dX6_told_29 : decode cX6_told 29 = .ok (.iadd, 1) := by decide +kernel
theorem dX6_told_30 : decode cX6_told 30 = .ok (.iaload, 1) := by decide +kernel
theorem dX6_told_31 : decode cX6_told 31 = .ok (.ireturn, 1) := by decide +kernel
theorem dX6_left_0 : decode cX6_left 0 = .ok (.aload_n 0, 1) := by decide +kernel
theorem dX6_left_1 : decode cX6_left 1 = .ok (.iload_n 1, 1) := by decide +kernel
theorem dX6_left_2 : decode cX6_left 2 = .ok (.invokevirtual 105, 3) := by decide +kernel
theorem dX6_left_5 : decode cX6_left 5 = .ok (.ifCond .eq 11, 3) := by decide +kernel
theorem dX6_left_8 : decode cX6_left 8 = .ok (.aload_n 0, 1) := by decide +kernel
theorem dX6_left_9 : decode cX6_left 9 = .ok (.iload_n 2, 1) := by decide +kernel
theorem dX6_left_10 : decode cX6_left 10 = .ok (.invokevirtual 116, 3) := by decide +kernel
theorem dX6_left_13 : decode cX6_left 13 = .ok (.ifCond .ne 5, 3) := by decide +kernel
theorem dX6_left_16 : decode cX6_left 16 = .ok (.iconst (-1), 1) := by decide +kernel
theorem dX6_left_17 : decode cX6_left 17 = .ok (.ireturn, 1) := by decide +kernel
theorem dX6_left_18 : decode cX6_left 18 = .ok (.aload_n 0, 1) := by decide +kernel
theorem dX6_left_19 : decode cX6_left 19 = .ok (.getfield 19, 3) := by decide +kernel
theorem dX6_left_22 : decode cX6_left 22 = .ok (.iload_n 1, 1) := by decide +kernel
theorem dX6_left_23 : decode cX6_left 23 = .ok (.iload_n 2, 1) := by decide +kernel
theorem dX6_left_24 : decode cX6_left 24 = .ok (.invokevirtual 139, 3) := by decide +kernel
theorem dX6_left_27 : decode cX6_left 27 = .ok (.ifCond .ne 6, 3) := by decide +kernel
theorem dX6_left_30 : decode cX6_left 30 = .ok (.bipush (-3), 2) := by decide +kernel
theorem dX6_left_32 : decode cX6_left 32 = .ok (.ireturn, 1) := by decide +kernel
theorem dX6_left_33 : decode cX6_left 33 = .ok (.aload_n 0, 1) := by decide +kernel
theorem dX6_left_34 : decode cX6_left 34 = .ok (.getfield 47, 3) := by decide +kernel
theorem dX6_left_37 : decode cX6_left 37 = .ok (.getfield 119, 3) := by decide +kernel
theorem dX6_left_40 : decode cX6_left 40 = .ok (.iload_n 2, 1) := by decide +kernel
theorem dX6_left_41 : decode cX6_left 41 = .ok (.iaload, 1) := by decide +kernel
theorem dX6_left_42 : decode cX6_left 42 = .ok (.aload_n 0, 1) := by decide +kernel
theorem dX6_left_43 : decode cX6_left 43 = .ok (.getfield 19, 3) := by decide +kernel
theorem dX6_left_46 : decode cX6_left 46 = .ok (.getfield 143, 3) := by decide +kernel
theorem dX6_left_49 : decode cX6_left 49 = .ok (.iload_n 1, 1) := by decide +kernel
theorem dX6_left_50 : decode cX6_left 50 = .ok (.iconst 3, 1) := by decide +kernel
theorem dX6_left_51 : decode cX6_left 51 = .ok (.imul, 1) := by decide +kernel
theorem dX6_left_52 : decode cX6_left 52 = .ok (.iload_n 2, 1) := by decide +kernel
theorem dX6_left_53 : decode cX6_left 53 = .ok (.iadd, 1) := by decide +kernel
theorem dX6_left_54 : decode cX6_left 54 = .ok (.iaload, 1) := by decide +kernel
theorem dX6_left_55 : decode cX6_left 55 = .ok (.isub, 1) := by decide +kernel
theorem dX6_left_56 : decode cX6_left 56 = .ok (.ireturn, 1) := by decide +kernel
theorem dX6_may_0 : decode cX6_may 0 = .ok (.aload_n 0, 1) := by decide +kernel
theorem dX6_may_1 : decode cX6_may 1 = .ok (.iload_n 1, 1) := by decide +kernel
theorem dX6_may_2 : decode cX6_may 2 = .ok (.invokevirtual 105, 3) := by decide +kernel
theorem dX6_may_5 : decode cX6_may 5 = .ok (.ifCond .eq 11, 3) := by decide +kernel
theorem dX6_may_8 : decode cX6_may 8 = .ok (.aload_n 0, 1) := by decide +kernel
theorem dX6_may_9 : decode cX6_may 9 = .ok (.iload_n 2, 1) := by decide +kernel
theorem dX6_may_10 : decode cX6_may 10 = .ok (.invokevirtual 116, 3) := by decide +kernel
theorem dX6_may_13 : decode cX6_may 13 = .ok (.ifCond .ne 5, 3) := by decide +kernel
theorem dX6_may_16 : decode cX6_may 16 = .ok (.iconst (-1), 1) := by decide +kernel
theorem dX6_may_17 : decode cX6_may 17 = .ok (.ireturn, 1) := by decide +kernel
theorem dX6_may_18 : decode cX6_may 18 = .ok (.aload_n 0, 1) := by decide +kernel
theorem dX6_may_19 : decode cX6_may 19 = .ok (.getfield 19, 3) := by decide +kernel
theorem dX6_may_22 : decode cX6_may 22 = .ok (.aload_n 0, 1) := by decide +kernel
theorem dX6_may_23 : decode cX6_may 23 = .ok (.getfield 47, 3) := by decide +kernel
theorem dX6_may_26 : decode cX6_may 26 = .ok (.iload_n 1, 1) := by decide +kernel
theorem dX6_may_27 : decode cX6_may 27 = .ok (.iload_n 2, 1) := by decide +kernel
theorem dX6_may_28 : decode cX6_may 28 = .ok (.invokevirtual 146, 3) := by decide +kernel
theorem dX6_may_31 : decode cX6_may 31 = .ok (.ifCond .eq 7, 3) := by decide +kernel
theorem dX6_may_34 : decode cX6_may 34 = .ok (.iconst 1, 1) := by decide +kernel
theorem dX6_may_35 : decode cX6_may 35 = .ok (.goto 4, 3) := by decide +kernel
theorem dX6_may_38 : decode cX6_may 38 = .ok (.iconst 0, 1) := by decide +kernel
theorem dX6_may_39 : decode cX6_may 39 = .ok (.ireturn, 1) := by decide +kernel
theorem dX6_tell_0 : decode cX6_tell 0 = .ok (.aload_n 0, 1) := by decide +kernel
theorem dX6_tell_1 : decode cX6_tell 1 = .ok (.iload_n 1, 1) := by decide +kernel
theorem dX6_tell_2 : decode cX6_tell 2 = .ok (.invokevirtual 105, 3) := by decide +kernel
theorem dX6_tell_5 : decode cX6_tell 5 = .ok (.ifCond .eq 11, 3) := by decide +kernel
theorem dX6_tell_8 : decode cX6_tell 8 = .ok (.aload_n 0, 1) := by decide +kernel
theorem dX6_tell_9 : decode cX6_tell 9 = .ok (.iload_n 2, 1) := by decide +kernel
theorem dX6_tell_10 : decode cX6_tell 10 = .ok (.invokevirtual 116, 3) := by decide +kernel
theorem dX6_tell_13 : decode cX6_tell 13 = .ok (.ifCond .ne 5, 3) := by decide +kernel
theorem dX6_tell_16 : decode cX6_tell 16 = .ok (.iconst (-1), 1) := by decide +kernel
theorem dX6_tell_17 : decode cX6_tell 17 = .ok (.ireturn, 1) := by decide +kernel
theorem dX6_tell_18 : decode cX6_tell 18 = .ok (.aload_n 0, 1) := by decide +kernel
theorem dX6_tell_19 : decode cX6_tell 19 = .ok (.getfield 19, 3) := by decide +kernel
theorem dX6_tell_22 : decode cX6_tell 22 = .ok (.aload_n 0, 1) := by decide +kernel
theorem dX6_tell_23 : decode cX6_tell 23 = .ok (.getfield 47, 3) := by decide +kernel
theorem dX6_tell_26 : decode cX6_tell 26 = .ok (.iload_n 1, 1) := by decide +kernel
theorem dX6_tell_27 : decode cX6_tell 27 = .ok (.iload_n 2, 1) := by decide +kernel
theorem dX6_tell_28 : decode cX6_tell 28 = .ok (.invokevirtual 146, 3) := by decide +kernel
theorem dX6_tell_31 : decode cX6_tell 31 = .ok (.ifCond .ne 6, 3) := by decide +kernel
theorem dX6_tell_34 : decode cX6_tell 34 = .ok (.bipush (-3), 2) := by decide +kernel
theorem dX6_tell_36 : decode cX6_tell 36 = .ok (.ireturn, 1) := by decide +kernel
theorem dX6_tell_37 : decode cX6_tell 37 = .ok (.aload_n 0, 1) := by decide +kernel
theorem dX6_tell_38 : decode cX6_tell 38 = .ok (.getfield 33, 3) := by decide +kernel
theorem dX6_tell_41 : decode cX6_tell 41 = .ok (.iload_n 1, 1) := by decide +kernel
theorem dX6_tell_42 : decode cX6_tell 42 = .ok (.iload_n 2, 1) := by decide +kernel
theorem dX6_tell_43 : decode cX6_tell 43 = .ok (.aload_n 0, 1) := by decide +kernel
theorem dX6_tell_44 : decode cX6_tell 44 = .ok (.getfield 19, 3) := by decide +kernel
theorem dX6_tell_47 : decode cX6_tell 47 = .ok (.invokevirtual 150, 3) := by decide +kernel
theorem dX6_tell_50 : decode cX6_tell 50 = .ok (.invokestatic 153, 3) := by decide +kernel
theorem dX6_tell_53 : decode cX6_tell 53 = .ok (.invokevirtual 157, 3) := by decide +kernel
theorem dX6_tell_56 : decode cX6_tell 56 = .ok (.aload_n 0, 1) := by decide +kernel
theorem dX6_tell_57 : decode cX6_tell 57 = .ok (.getfield 19, 3) := by decide +kernel
theorem dX6_tell_60 : decode cX6_tell 60 = .ok (.aload_n 0, 1) := by decide +kernel
theorem dX6_tell_61 : decode cX6_tell 61 = .ok (.getfield 47, 3) := by decide +kernel
theorem dX6_tell_64 : decode cX6_tell 64 = .ok (.iload_n 1, 1) := by decide +kernel
theorem dX6_tell_65 : decode cX6_tell 65 = .ok (.iload_n 2, 1) := by decide +kernel
theorem dX6_tell_66 : decode cX6_tell 66 = .ok (.invokevirtual 158, 3) := by decide +kernel
theorem dX6_tell_69 : decode cX6_tell 69 = .ok (.ireturn, 1) := by decide +kernel
theorem dX6_hour_0 : decode cX6_hour 0 = .ok (.aload_n 0, 1) := by decide +kernel
theorem dX6_hour_1 : decode cX6_hour 1 = .ok (.getfield 19, 3) := by decide +kernel
theorem dX6_hour_4 : decode cX6_hour 4 = .ok (.getfield 94, 3) := by decide +kernel
theorem dX6_hour_7 : decode cX6_hour 7 = .ok (.iconst 5, 1) := by decide +kernel
theorem dX6_hour_8 : decode cX6_hour 8 = .ok (.if_icmp .lt 6, 3) := by decide +kernel
theorem dX6_hour_11 : decode cX6_hour 11 = .ok (.bipush (-3), 2) := by decide +kernel
theorem dX6_hour_13 : decode cX6_hour 13 = .ok (.ireturn, 1) := by decide +kernel
theorem dX6_hour_14 : decode cX6_hour 14 = .ok (.aload_n 0, 1) := by decide +kernel
theorem dX6_hour_15 : decode cX6_hour 15 = .ok (.getfield 33, 3) := by decide +kernel
theorem dX6_hour_18 : decode cX6_hour 18 = .ok (.iconst (-1), 1) := by decide +kernel
theorem dX6_hour_19 : decode cX6_hour 19 = .ok (.invokevirtual 157, 3) := by decide +kernel
theorem dX6_hour_22 : decode cX6_hour 22 = .ok (.aload_n 0, 1) := by decide +kernel
theorem dX6_hour_23 : decode cX6_hour 23 = .ok (.getfield 19, 3) := by decide +kernel
theorem dX6_hour_26 : decode cX6_hour 26 = .ok (.dup, 1) := by decide +kernel
theorem dX6_hour_27 : decode cX6_hour 27 = .ok (.getfield 94, 3) := by decide +kernel
theorem dX6_hour_30 : decode cX6_hour 30 = .ok (.iconst 1, 1) := by decide +kernel
theorem dX6_hour_31 : decode cX6_hour 31 = .ok (.iadd, 1) := by decide +kernel
theorem dX6_hour_32 : decode cX6_hour 32 = .ok (.putfield 94, 3) := by decide +kernel
theorem dX6_hour_35 : decode cX6_hour 35 = .ok (.aload_n 0, 1) := by decide +kernel
theorem dX6_hour_36 : decode cX6_hour 36 = .ok (.getfield 19, 3) := by decide +kernel
theorem dX6_hour_39 : decode cX6_hour 39 = .ok (.getfield 94, 3) := by decide +kernel
theorem dX6_hour_42 : decode cX6_hour 42 = .ok (.ireturn, 1) := by decide +kernel
theorem dX6_undo_0 : decode cX6_undo 0 = .ok (.aload_n 0, 1) := by decide +kernel
theorem dX6_undo_1 : decode cX6_undo 1 = .ok (.getfield 33, 3) := by decide +kernel
theorem dX6_undo_4 : decode cX6_undo 4 = .ok (.getfield 78, 3) := by decide +kernel
theorem dX6_undo_7 : decode cX6_undo 7 = .ok (.ifCond .ne 6, 3) := by decide +kernel
theorem dX6_undo_10 : decode cX6_undo 10 = .ok (.bipush (-3), 2) := by decide +kernel
theorem dX6_undo_12 : decode cX6_undo 12 = .ok (.ireturn, 1) := by decide +kernel
theorem dX6_undo_13 : decode cX6_undo 13 = .ok (.aload_n 0, 1) := by decide +kernel
theorem dX6_undo_14 : decode cX6_undo 14 = .ok (.getfield 33, 3) := by decide +kernel
theorem dX6_undo_17 : decode cX6_undo 17 = .ok (.invokevirtual 162, 3) := by decide +kernel
theorem dX6_undo_20 : decode cX6_undo 20 = .ok (.istore_n 1, 1) := by decide +kernel
theorem dX6_undo_21 : decode cX6_undo 21 = .ok (.iload_n 1, 1) := by decide +kernel
theorem dX6_undo_22 : decode cX6_undo 22 = .ok (.iconst (-1), 1) := by decide +kernel
theorem dX6_undo_23 : decode cX6_undo 23 = .ok (.if_icmp .ne 19, 3) := by decide +kernel
theorem dX6_undo_26 : decode cX6_undo 26 = .ok (.aload_n 0, 1) := by decide +kernel
theorem dX6_undo_27 : decode cX6_undo 27 = .ok (.getfield 19, 3) := by decide +kernel
theorem dX6_undo_30 : decode cX6_undo 30 = .ok (.dup, 1) := by decide +kernel
theorem dX6_undo_31 : decode cX6_undo 31 = .ok (.getfield 94, 3) := by decide +kernel
theorem dX6_undo_34 : decode cX6_undo 34 = .ok (.iconst 1, 1) := by decide +kernel
theorem dX6_undo_35 : decode cX6_undo 35 = .ok (.isub, 1) := by decide +kernel
theorem dX6_undo_36 : decode cX6_undo 36 = .ok (.putfield 94, 3) := by decide +kernel
theorem dX6_undo_39 : decode cX6_undo 39 = .ok (.goto 34, 3) := by decide +kernel
theorem dX6_undo_42 : decode cX6_undo 42 = .ok (.aload_n 0, 1) := by decide +kernel
theorem dX6_undo_43 : decode cX6_undo 43 = .ok (.getfield 19, 3) := by decide +kernel
theorem dX6_undo_46 : decode cX6_undo 46 = .ok (.aload_n 0, 1) := by decide +kernel
theorem dX6_undo_47 : decode cX6_undo 47 = .ok (.getfield 47, 3) := by decide +kernel
theorem dX6_undo_50 : decode cX6_undo 50 = .ok (.iload_n 1, 1) := by decide +kernel
theorem dX6_undo_51 : decode cX6_undo 51 = .ok (.invokestatic 165, 3) := by decide +kernel
theorem dX6_undo_54 : decode cX6_undo 54 = .ok (.iload_n 1, 1) := by decide +kernel
theorem dX6_undo_55 : decode cX6_undo 55 = .ok (.invokestatic 168, 3) := by decide +kernel
theorem dX6_undo_58 : decode cX6_undo 58 = .ok (.iconst (-1), 1) := by decide +kernel
theorem dX6_undo_59 : decode cX6_undo 59 = .ok (.invokevirtual 171, 3) := by decide +kernel
theorem dX6_undo_62 : decode cX6_undo 62 = .ok (.aload_n 0, 1) := by decide +kernel
theorem dX6_undo_63 : decode cX6_undo 63 = .ok (.getfield 19, 3) := by decide +kernel
theorem dX6_undo_66 : decode cX6_undo 66 = .ok (.iload_n 1, 1) := by decide +kernel
theorem dX6_undo_67 : decode cX6_undo 67 = .ok (.invokestatic 174, 3) := by decide +kernel
theorem dX6_undo_70 : decode cX6_undo 70 = .ok (.invokevirtual 176, 3) := by decide +kernel
theorem dX6_undo_73 : decode cX6_undo 73 = .ok (.aload_n 0, 1) := by decide +kernel
theorem dX6_undo_74 : decode cX6_undo 74 = .ok (.getfield 33, 3) := by decide +kernel
theorem dX6_undo_77 : decode cX6_undo 77 = .ok (.getfield 78, 3) := by decide +kernel
theorem dX6_undo_80 : decode cX6_undo 80 = .ok (.ireturn, 1) := by decide +kernel
theorem dX6_judge_0 : decode cX6_judge 0 = .ok (.aload_n 0, 1) := by decide +kernel
theorem dX6_judge_1 : decode cX6_judge 1 = .ok (.iload_n 1, 1) := by decide +kernel
theorem dX6_judge_2 : decode cX6_judge 2 = .ok (.invokevirtual 116, 3) := by decide +kernel
theorem dX6_judge_5 : decode cX6_judge 5 = .ok (.ifCond .ne 5, 3) := by decide +kernel
theorem dX6_judge_8 : decode cX6_judge 8 = .ok (.iconst (-1), 1) := by decide +kernel
theorem dX6_judge_9 : decode cX6_judge 9 = .ok (.ireturn, 1) := by decide +kernel
theorem dX6_judge_10 : decode cX6_judge 10 = .ok (.iload_n 2, 1) := by decide +kernel
theorem dX6_judge_11 : decode cX6_judge 11 = .ok (.iconst 1, 1) := by decide +kernel
theorem dX6_judge_12 : decode cX6_judge 12 = .ok (.if_icmp .lt 22, 3) := by decide +kernel
theorem dX6_judge_15 : decode cX6_judge 15 = .ok (.iload_n 2, 1) := by decide +kernel
theorem dX6_judge_16 : decode cX6_judge 16 = .ok (.iconst 4, 1) := by decide +kernel
theorem dX6_judge_17 : decode cX6_judge 17 = .ok (.if_icmp .gt 17, 3) := by decide +kernel
theorem dX6_judge_20 : decode cX6_judge 20 = .ok (.iload_n 3, 1) := by decide +kernel
theorem dX6_judge_21 : decode cX6_judge 21 = .ok (.ifCond .lt 13, 3) := by decide +kernel
theorem dX6_judge_24 : decode cX6_judge 24 = .ok (.iload_n 3, 1) := by decide +kernel
theorem dX6_judge_25 : decode cX6_judge 25 = .ok (.bipush 10, 2) := by decide +kernel
theorem dX6_judge_27 : decode cX6_judge 27 = .ok (.iload_n 2, 1) := by decide +kernel
theorem dX6_judge_28 : decode cX6_judge 28 = .ok (.invokestatic 179, 3) := by decide +kernel
theorem dX6_judge_31 : decode cX6_judge 31 = .ok (.if_icmp .lt 6, 3) := by decide +kernel
theorem dX6_judge_34 : decode cX6_judge 34 = .ok (.bipush (-2), 2) := by decide +kernel
theorem dX6_judge_36 : decode cX6_judge 36 = .ok (.ireturn, 1) := by decide +kernel
theorem dX6_judge_37 : decode cX6_judge 37 = .ok (.aload_n 0, 1) := by decide +kernel
theorem dX6_judge_38 : decode cX6_judge 38 = .ok (.getfield 23, 3) := by decide +kernel
theorem dX6_judge_41 : decode cX6_judge 41 = .ok (.aload_n 0, 1) := by decide +kernel
theorem dX6_judge_42 : decode cX6_judge 42 = .ok (.getfield 19, 3) := by decide +kernel
theorem dX6_judge_45 : decode cX6_judge 45 = .ok (.invokevirtual 182, 3) := by decide +kernel
theorem dX6_judge_48 : decode cX6_judge 48 = .ok (.iconst 0, 1) := by decide +kernel
theorem dX6_judge_49 : decode cX6_judge 49 = .ok (.istore 4, 2) := by decide +kernel
theorem dX6_judge_51 : decode cX6_judge 51 = .ok (.iload 4, 2) := by decide +kernel
theorem dX6_judge_53 : decode cX6_judge 53 = .ok (.iload_n 2, 1) := by decide +kernel
theorem dX6_judge_54 : decode cX6_judge 54 = .ok (.if_icmp .ge 30, 3) := by decide +kernel
theorem dX6_judge_57 : decode cX6_judge 57 = .ok (.aload_n 0, 1) := by decide +kernel
theorem dX6_judge_58 : decode cX6_judge 58 = .ok (.iload_n 1, 1) := by decide +kernel
theorem dX6_judge_59 : decode cX6_judge 59 = .ok (.iload_n 3, 1) := by decide +kernel
theorem dX6_judge_60 : decode cX6_judge 60 = .ok (.iload_n 2, 1) := by decide +kernel
theorem dX6_judge_61 : decode cX6_judge 61 = .ok (.iconst 1, 1) := by decide +kernel
theorem dX6_judge_62 : decode cX6_judge 62 = .ok (.isub, 1) := by decide +kernel
theorem dX6_judge_63 : decode cX6_judge 63 = .ok (.iload 4, 2) := by decide +kernel
theorem dX6_judge_65 : decode cX6_judge 65 = .ok (.isub, 1) := by decide +kernel
theorem dX6_judge_66 : decode cX6_judge 66 = .ok (.invokestatic 186, 3) := by decide +kernel
theorem dX6_judge_69 : decode cX6_judge 69 = .ok (.invokevirtual 189, 3) := by decide +kernel
theorem dX6_judge_72 : decode cX6_judge 72 = .ok (.ifCond .ne 6, 3) := by decide +kernel
theorem dX6_judge_75 : decode cX6_judge 75 = .ok (.iload 4, 2) := by decide +kernel
theorem dX6_judge_77 : decode cX6_judge 77 = .ok (.ireturn, 1) := by decide +kernel
theorem dX6_judge_78 : decode cX6_judge 78 = .ok (.iinc 4 1, 3) := by decide +kernel
theorem dX6_judge_81 : decode cX6_judge 81 = .ok (.goto (-30), 3) := by decide +kernel
theorem dX6_judge_84 : decode cX6_judge 84 = .ok (.bipush (-9), 2) := by decide +kernel
theorem dX6_judge_86 : decode cX6_judge 86 = .ok (.ireturn, 1) := by decide +kernel
theorem dX6_fewest_0 : decode cX6_fewest 0 = .ok (.aload_n 0, 1) := by decide +kernel
theorem dX6_fewest_1 : decode cX6_fewest 1 = .ok (.iload_n 1, 1) := by decide +kernel
theorem dX6_fewest_2 : decode cX6_fewest 2 = .ok (.iload_n 2, 1) := by decide +kernel
theorem dX6_fewest_3 : decode cX6_fewest 3 = .ok (.invokevirtual 192, 3) := by decide +kernel
theorem dX6_fewest_6 : decode cX6_fewest 6 = .ok (.istore_n 3, 1) := by decide +kernel
theorem dX6_fewest_7 : decode cX6_fewest 7 = .ok (.iload_n 3, 1) := by decide +kernel
theorem dX6_fewest_8 : decode cX6_fewest 8 = .ok (.ifCond .eq 7, 3) := by decide +kernel
theorem dX6_fewest_11 : decode cX6_fewest 11 = .ok (.iload_n 3, 1) := by decide +kernel
theorem dX6_fewest_12 : decode cX6_fewest 12 = .ok (.goto 9, 3) := by decide +kernel
theorem dX6_fewest_15 : decode cX6_fewest 15 = .ok (.aload_n 0, 1) := by decide +kernel
theorem dX6_fewest_16 : decode cX6_fewest 16 = .ok (.iload_n 1, 1) := by decide +kernel
theorem dX6_fewest_17 : decode cX6_fewest 17 = .ok (.iload_n 2, 1) := by decide +kernel
theorem dX6_fewest_18 : decode cX6_fewest 18 = .ok (.invokevirtual 195, 3) := by decide +kernel
theorem dX6_fewest_21 : decode cX6_fewest 21 = .ok (.ireturn, 1) := by decide +kernel
theorem dX6_planAt_0 : decode cX6_planAt 0 = .ok (.aload_n 0, 1) := by decide +kernel
theorem dX6_planAt_1 : decode cX6_planAt 1 = .ok (.iload_n 1, 1) := by decide +kernel
theorem dX6_planAt_2 : decode cX6_planAt 2 = .ok (.iload_n 2, 1) := by decide +kernel
theorem dX6_planAt_3 : decode cX6_planAt 3 = .ok (.invokevirtual 192, 3) := by decide +kernel
theorem dX6_planAt_6 : decode cX6_planAt 6 = .ok (.istore 4, 2) := by decide +kernel
theorem dX6_planAt_8 : decode cX6_planAt 8 = .ok (.iload 4, 2) := by decide +kernel
theorem dX6_planAt_10 : decode cX6_planAt 10 = .ok (.ifCond .eq 6, 3) := by decide +kernel
theorem dX6_planAt_13 : decode cX6_planAt 13 = .ok (.iload 4, 2) := by decide +kernel
theorem dX6_planAt_15 : decode cX6_planAt 15 = .ok (.ireturn, 1) := by decide +kernel
theorem dX6_planAt_16 : decode cX6_planAt 16 = .ok (.iload_n 3, 1) := by decide +kernel
theorem dX6_planAt_17 : decode cX6_planAt 17 = .ok (.ifCond .lt 27, 3) := by decide +kernel
theorem dX6_planAt_20 : decode cX6_planAt 20 = .ok (.iload_n 3, 1) := by decide +kernel
theorem dX6_planAt_21 : decode cX6_planAt 21 = .ok (.iconst 5, 1) := by decide +kernel
theorem dX6_planAt_22 : decode cX6_planAt 22 = .ok (.aload_n 0, 1) := by decide +kernel
theorem dX6_planAt_23 : decode cX6_planAt 23 = .ok (.getfield 19, 3) := by decide +kernel
theorem dX6_planAt_26 : decode cX6_planAt 26 = .ok (.getfield 94, 3) := by decide +kernel
theorem dX6_planAt_29 : decode cX6_planAt 29 = .ok (.isub, 1) := by decide +kernel
theorem dX6_planAt_30 : decode cX6_planAt 30 = .ok (.if_icmp .gt 14, 3) := by decide +kernel
theorem dX6_planAt_33 : decode cX6_planAt 33 = .ok (.aload_n 0, 1) := by decide +kernel
theorem dX6_planAt_34 : decode cX6_planAt 34 = .ok (.iload_n 1, 1) := by decide +kernel
theorem dX6_planAt_35 : decode cX6_planAt 35 = .ok (.iload_n 2, 1) := by decide +kernel
theorem dX6_planAt_36 : decode cX6_planAt 36 = .ok (.invokevirtual 195, 3) := by decide +kernel
theorem dX6_planAt_39 : decode cX6_planAt 39 = .ok (.bipush (-9), 2) := by decide +kernel
theorem dX6_planAt_41 : decode cX6_planAt 41 = .ok (.if_icmp .ne 6, 3) := by decide +kernel
theorem dX6_planAt_44 : decode cX6_planAt 44 = .ok (.bipush (-9), 2) := by decide +kernel
theorem dX6_planAt_46 : decode cX6_planAt 46 = .ok (.ireturn, 1) := by decide +kernel
theorem dX6_planAt_47 : decode cX6_planAt 47 = .ok (.aload_n 0, 1) := by decide +kernel
theorem dX6_planAt_48 : decode cX6_planAt 48 = .ok (.getfield 59, 3) := by decide +kernel
theorem dX6_planAt_51 : decode cX6_planAt 51 = .ok (.aload_n 0, 1) := by decide +kernel
theorem dX6_planAt_52 : decode cX6_planAt 52 = .ok (.getfield 19, 3) := by decide +kernel
theorem dX6_planAt_55 : decode cX6_planAt 55 = .ok (.getfield 94, 3) := by decide +kernel
theorem dX6_planAt_58 : decode cX6_planAt 58 = .ok (.aload_n 0, 1) := by decide +kernel
theorem dX6_planAt_59 : decode cX6_planAt 59 = .ok (.getfield 19, 3) := by decide +kernel
theorem dX6_planAt_62 : decode cX6_planAt 62 = .ok (.getfield 130, 3) := by decide +kernel
theorem dX6_planAt_65 : decode cX6_planAt 65 = .ok (.iload_n 1, 1) := by decide +kernel
theorem dX6_planAt_66 : decode cX6_planAt 66 = .ok (.iaload, 1) := by decide +kernel
theorem dX6_planAt_67 : decode cX6_planAt 67 = .ok (.iload_n 3, 1) := by decide +kernel
theorem dX6_planAt_68 : decode cX6_planAt 68 = .ok (.invokevirtual 198, 3) := by decide +kernel
theorem dX6_planAt_71 : decode cX6_planAt 71 = .ok (.ireturn, 1) := by decide +kernel
theorem dX6_most_0 : decode cX6_most 0 = .ok (.aload_n 0, 1) := by decide +kernel
theorem dX6_most_1 : decode cX6_most 1 = .ok (.iload_n 1, 1) := by decide +kernel
theorem dX6_most_2 : decode cX6_most 2 = .ok (.invokevirtual 116, 3) := by decide +kernel
theorem dX6_most_5 : decode cX6_most 5 = .ok (.ifCond .ne 5, 3) := by decide +kernel
theorem dX6_most_8 : decode cX6_most 8 = .ok (.iconst (-1), 1) := by decide +kernel
theorem dX6_most_9 : decode cX6_most 9 = .ok (.ireturn, 1) := by decide +kernel
theorem dX6_most_10 : decode cX6_most 10 = .ok (.aload_n 0, 1) := by decide +kernel
theorem dX6_most_11 : decode cX6_most 11 = .ok (.getfield 47, 3) := by decide +kernel
theorem dX6_most_14 : decode cX6_most 14 = .ok (.getfield 91, 3) := by decide +kernel
theorem dX6_most_17 : decode cX6_most 17 = .ok (.ifCond .eq 6, 3) := by decide +kernel
theorem dX6_most_20 : decode cX6_most 20 = .ok (.bipush (-3), 2) := by decide +kernel
theorem dX6_most_22 : decode cX6_most 22 = .ok (.ireturn, 1) := by decide +kernel
theorem dX6_most_23 : decode cX6_most 23 = .ok (.aload_n 0, 1) := by decide +kernel
theorem dX6_most_24 : decode cX6_most 24 = .ok (.getfield 59, 3) := by decide +kernel
theorem dX6_most_27 : decode cX6_most 27 = .ok (.aload_n 0, 1) := by decide +kernel
theorem dX6_most_28 : decode cX6_most 28 = .ok (.getfield 47, 3) := by decide +kernel
theorem dX6_most_31 : decode cX6_most 31 = .ok (.aload_n 0, 1) := by decide +kernel
theorem dX6_most_32 : decode cX6_most 32 = .ok (.getfield 19, 3) := by decide +kernel
theorem dX6_most_35 : decode cX6_most 35 = .ok (.getfield 130, 3) := by decide +kernel
theorem dX6_most_38 : decode cX6_most 38 = .ok (.iload_n 1, 1) := by decide +kernel
theorem dX6_most_39 : decode cX6_most 39 = .ok (.iaload, 1) := by decide +kernel
theorem dX6_most_40 : decode cX6_most 40 = .ok (.aload_n 0, 1) := by decide +kernel
theorem dX6_most_41 : decode cX6_most 41 = .ok (.iload_n 1, 1) := by decide +kernel
theorem dX6_most_42 : decode cX6_most 42 = .ok (.invokevirtual 201, 3) := by decide +kernel
theorem dX6_most_45 : decode cX6_most 45 = .ok (.invokevirtual 204, 3) := by decide +kernel
theorem dX6_most_48 : decode cX6_most 48 = .ok (.aload_n 0, 1) := by decide +kernel
theorem dX6_most_49 : decode cX6_most 49 = .ok (.getfield 19, 3) := by decide +kernel
theorem dX6_most_52 : decode cX6_most 52 = .ok (.getfield 94, 3) := by decide +kernel
theorem dX6_most_55 : decode cX6_most 55 = .ok (.istore_n 2, 1) := by decide +kernel
theorem dX6_most_56 : decode cX6_most 56 = .ok (.iload_n 2, 1) := by decide +kernel
theorem dX6_most_57 : decode cX6_most 57 = .ok (.bipush 6, 2) := by decide +kernel
theorem dX6_most_59 : decode cX6_most 59 = .ok (.if_icmp .ge 18, 3) := by decide +kernel
theorem dX6_most_62 : decode cX6_most 62 = .ok (.aload_n 0, 1) := by decide +kernel
theorem dX6_most_63 : decode cX6_most 63 = .ok (.getfield 59, 3) := by decide +kernel
theorem dX6_most_66 : decode cX6_most 66 = .ok (.iload_n 2, 1) := by decide +kernel
theorem dX6_most_67 : decode cX6_most 67 = .ok (.iconst 0, 1) := by decide +kernel
theorem dX6_most_68 : decode cX6_most 68 = .ok (.invokevirtual 208, 3) := by decide +kernel
theorem dX6_most_71 : decode cX6_most 71 = .ok (.iinc 2 1, 3) := by decide +kernel
theorem dX6_most_74 : decode cX6_most 74 = .ok (.goto (-18), 3) := by decide +kernel
theorem dX6_most_77 : decode cX6_most 77 = .ok (.aload_n 0, 1) := by decide +kernel
theorem dX6_most_78 : decode cX6_most 78 = .ok (.getfield 59, 3) := by decide +kernel
theorem dX6_most_81 : decode cX6_most 81 = .ok (.invokevirtual 212, 3) := by decide +kernel
theorem dX6_most_84 : decode cX6_most 84 = .ok (.ireturn, 1) := by decide +kernel
theorem dX6_spent_0 : decode cX6_spent 0 = .ok (.aload_n 0, 1) := by decide +kernel
theorem dX6_spent_1 : decode cX6_spent 1 = .ok (.iload_n 2, 1) := by decide +kernel
theorem dX6_spent_2 : decode cX6_spent 2 = .ok (.invokevirtual 105, 3) := by decide +kernel
theorem dX6_spent_5 : decode cX6_spent 5 = .ok (.ifCond .eq 11, 3) := by decide +kernel
theorem dX6_spent_8 : decode cX6_spent 8 = .ok (.aload_n 0, 1) := by decide +kernel
theorem dX6_spent_9 : decode cX6_spent 9 = .ok (.iload_n 1, 1) := by decide +kernel
theorem dX6_spent_10 : decode cX6_spent 10 = .ok (.invokevirtual 116, 3) := by decide +kernel
theorem dX6_spent_13 : decode cX6_spent 13 = .ok (.ifCond .ne 5, 3) := by decide +kernel
theorem dX6_spent_16 : decode cX6_spent 16 = .ok (.iconst (-1), 1) := by decide +kernel
theorem dX6_spent_17 : decode cX6_spent 17 = .ok (.ireturn, 1) := by decide +kernel
theorem dX6_spent_18 : decode cX6_spent 18 = .ok (.aload_n 0, 1) := by decide +kernel
theorem dX6_spent_19 : decode cX6_spent 19 = .ok (.getfield 47, 3) := by decide +kernel
theorem dX6_spent_22 : decode cX6_spent 22 = .ok (.getfield 91, 3) := by decide +kernel
theorem dX6_spent_25 : decode cX6_spent 25 = .ok (.ifCond .eq 6, 3) := by decide +kernel
theorem dX6_spent_28 : decode cX6_spent 28 = .ok (.bipush (-3), 2) := by decide +kernel
theorem dX6_spent_30 : decode cX6_spent 30 = .ok (.ireturn, 1) := by decide +kernel
theorem dX6_spent_31 : decode cX6_spent 31 = .ok (.aload_n 0, 1) := by decide +kernel
theorem dX6_spent_32 : decode cX6_spent 32 = .ok (.getfield 19, 3) := by decide +kernel
theorem dX6_spent_35 : decode cX6_spent 35 = .ok (.iload_n 2, 1) := by decide +kernel
theorem dX6_spent_36 : decode cX6_spent 36 = .ok (.iload_n 1, 1) := by decide +kernel
theorem dX6_spent_37 : decode cX6_spent 37 = .ok (.invokevirtual 139, 3) := by decide +kernel
theorem dX6_spent_40 : decode cX6_spent 40 = .ok (.ifCond .eq 6, 3) := by decide +kernel
theorem dX6_spent_43 : decode cX6_spent 43 = .ok (.bipush (-9), 2) := by decide +kernel
theorem dX6_spent_45 : decode cX6_spent 45 = .ok (.ireturn, 1) := by decide +kernel
theorem dX6_spent_46 : decode cX6_spent 46 = .ok (.aload_n 0, 1) := by decide +kernel
theorem dX6_spent_47 : decode cX6_spent 47 = .ok (.getfield 59, 3) := by decide +kernel
theorem dX6_spent_50 : decode cX6_spent 50 = .ok (.aload_n 0, 1) := by decide +kernel
theorem dX6_spent_51 : decode cX6_spent 51 = .ok (.getfield 47, 3) := by decide +kernel
theorem dX6_spent_54 : decode cX6_spent 54 = .ok (.aload_n 0, 1) := by decide +kernel
theorem dX6_spent_55 : decode cX6_spent 55 = .ok (.getfield 19, 3) := by decide +kernel
theorem dX6_spent_58 : decode cX6_spent 58 = .ok (.getfield 130, 3) := by decide +kernel
theorem dX6_spent_61 : decode cX6_spent 61 = .ok (.iload_n 1, 1) := by decide +kernel
theorem dX6_spent_62 : decode cX6_spent 62 = .ok (.iaload, 1) := by decide +kernel
theorem dX6_spent_63 : decode cX6_spent 63 = .ok (.aload_n 0, 1) := by decide +kernel
theorem dX6_spent_64 : decode cX6_spent 64 = .ok (.iload_n 1, 1) := by decide +kernel
theorem dX6_spent_65 : decode cX6_spent 65 = .ok (.invokevirtual 201, 3) := by decide +kernel
theorem dX6_spent_68 : decode cX6_spent 68 = .ok (.invokevirtual 204, 3) := by decide +kernel
theorem dX6_spent_71 : decode cX6_spent 71 = .ok (.aload_n 0, 1) := by decide +kernel
theorem dX6_spent_72 : decode cX6_spent 72 = .ok (.getfield 59, 3) := by decide +kernel
theorem dX6_spent_75 : decode cX6_spent 75 = .ok (.invokevirtual 215, 3) := by decide +kernel
theorem dX6_spent_78 : decode cX6_spent 78 = .ok (.ifCond .eq 5, 3) := by decide +kernel
theorem dX6_spent_81 : decode cX6_spent 81 = .ok (.iconst 0, 1) := by decide +kernel
theorem dX6_spent_82 : decode cX6_spent 82 = .ok (.ireturn, 1) := by decide +kernel
theorem dX6_spent_83 : decode cX6_spent 83 = .ok (.aload_n 0, 1) := by decide +kernel
theorem dX6_spent_84 : decode cX6_spent 84 = .ok (.getfield 19, 3) := by decide +kernel
theorem dX6_spent_87 : decode cX6_spent 87 = .ok (.getfield 94, 3) := by decide +kernel
theorem dX6_spent_90 : decode cX6_spent 90 = .ok (.istore_n 3, 1) := by decide +kernel
theorem dX6_spent_91 : decode cX6_spent 91 = .ok (.iload_n 3, 1) := by decide +kernel
theorem dX6_spent_92 : decode cX6_spent 92 = .ok (.bipush 6, 2) := by decide +kernel
theorem dX6_spent_94 : decode cX6_spent 94 = .ok (.if_icmp .ge 42, 3) := by decide +kernel
theorem dX6_spent_97 : decode cX6_spent 97 = .ok (.aload_n 0, 1) := by decide +kernel
theorem dX6_spent_98 : decode cX6_spent 98 = .ok (.getfield 59, 3) := by decide +kernel
theorem dX6_spent_101 : decode cX6_spent 101 = .ok (.iload_n 3, 1) := by decide +kernel
theorem dX6_spent_102 : decode cX6_spent 102 = .ok (.iconst 1, 1) := by decide +kernel
theorem dX6_spent_103 : decode cX6_spent 103 = .ok (.iload_n 2, 1) := by decide +kernel
theorem dX6_spent_104 : decode cX6_spent 104 = .ok (.ishl, 1) := by decide +kernel
theorem dX6_spent_105 : decode cX6_spent 105 = .ok (.invokevirtual 208, 3) := by decide +kernel
theorem dX6_spent_108 : decode cX6_spent 108 = .ok (.aload_n 0, 1) := by decide +kernel
theorem dX6_spent_109 : decode cX6_spent 109 = .ok (.getfield 59, 3) := by decide +kernel
theorem dX6_spent_112 : decode cX6_spent 112 = .ok (.invokevirtual 215, 3) := by decide +kernel
theorem dX6_spent_115 : decode cX6_spent 115 = .ok (.ifCond .eq 15, 3) := by decide +kernel
theorem dX6_spent_118 : decode cX6_spent 118 = .ok (.iload_n 3, 1) := by decide +kernel
theorem dX6_spent_119 : decode cX6_spent 119 = .ok (.iconst 1, 1) := by decide +kernel
theorem dX6_spent_120 : decode cX6_spent 120 = .ok (.iadd, 1) := by decide +kernel
theorem dX6_spent_121 : decode cX6_spent 121 = .ok (.aload_n 0, 1) := by decide +kernel
theorem dX6_spent_122 : decode cX6_spent 122 = .ok (.getfield 19, 3) := by decide +kernel
theorem dX6_spent_125 : decode cX6_spent 125 = .ok (.getfield 94, 3) := by decide +kernel
theorem dX6_spent_128 : decode cX6_spent 128 = .ok (.isub, 1) := by decide +kernel
theorem dX6_spent_129 : decode cX6_spent 129 = .ok (.ireturn, 1) := by decide +kernel
theorem dX6_spent_130 : decode cX6_spent 130 = .ok (.iinc 3 1, 3) := by decide +kernel
theorem dX6_spent_133 : decode cX6_spent 133 = .ok (.goto (-42), 3) := by decide +kernel
theorem dX6_spent_136 : decode cX6_spent 136 = .ok (.bipush (-9), 2) := by decide +kernel
theorem dX6_spent_138 : decode cX6_spent 138 = .ok (.ireturn, 1) := by decide +kernel
theorem dX6_duel_0 : decode cX6_duel 0 = .ok (.aload_n 0, 1) := by decide +kernel
theorem dX6_duel_1 : decode cX6_duel 1 = .ok (.iload_n 2, 1) := by decide +kernel
theorem dX6_duel_2 : decode cX6_duel 2 = .ok (.invokevirtual 105, 3) := by decide +kernel
theorem dX6_duel_5 : decode cX6_duel 5 = .ok (.ifCond .eq 11, 3) := by decide +kernel
theorem dX6_duel_8 : decode cX6_duel 8 = .ok (.aload_n 0, 1) := by decide +kernel
theorem dX6_duel_9 : decode cX6_duel 9 = .ok (.iload_n 1, 1) := by decide +kernel
theorem dX6_duel_10 : decode cX6_duel 10 = .ok (.invokevirtual 116, 3) := by decide +kernel
theorem dX6_duel_13 : decode cX6_duel 13 = .ok (.ifCond .ne 5, 3) := by decide +kernel
theorem dX6_duel_16 : decode cX6_duel 16 = .ok (.iconst (-1), 1) := by decide +kernel
theorem dX6_duel_17 : decode cX6_duel 17 = .ok (.ireturn, 1) := by decide +kernel
theorem dX6_duel_18 : decode cX6_duel 18 = .ok (.aload_n 0, 1) := by decide +kernel
theorem dX6_duel_19 : decode cX6_duel 19 = .ok (.getfield 47, 3) := by decide +kernel
theorem dX6_duel_22 : decode cX6_duel 22 = .ok (.getfield 91, 3) := by decide +kernel
theorem dX6_duel_25 : decode cX6_duel 25 = .ok (.ifCond .eq 6, 3) := by decide +kernel
theorem dX6_duel_28 : decode cX6_duel 28 = .ok (.bipush (-3), 2) := by decide +kernel
theorem dX6_duel_30 : decode cX6_duel 30 = .ok (.ireturn, 1) := by decide +kernel
theorem dX6_duel_31 : decode cX6_duel 31 = .ok (.aload_n 0, 1) := by decide +kernel
theorem dX6_duel_32 : decode cX6_duel 32 = .ok (.getfield 59, 3) := by decide +kernel
theorem dX6_duel_35 : decode cX6_duel 35 = .ok (.aload_n 0, 1) := by decide +kernel
theorem dX6_duel_36 : decode cX6_duel 36 = .ok (.getfield 47, 3) := by decide +kernel
theorem dX6_duel_39 : decode cX6_duel 39 = .ok (.iconst 1, 1) := by decide +kernel
theorem dX6_duel_40 : decode cX6_duel 40 = .ok (.iload_n 2, 1) := by decide +kernel
theorem dX6_duel_41 : decode cX6_duel 41 = .ok (.ishl, 1) := by decide +kernel
theorem dX6_duel_42 : decode cX6_duel 42 = .ok (.invokevirtual 219, 3) := by decide +kernel
theorem dX6_duel_45 : decode cX6_duel 45 = .ok (.aload_n 0, 1) := by decide +kernel
theorem dX6_duel_46 : decode cX6_duel 46 = .ok (.getfield 59, 3) := by decide +kernel
theorem dX6_duel_49 : decode cX6_duel 49 = .ok (.aload_n 0, 1) := by decide +kernel
theorem dX6_duel_50 : decode cX6_duel 50 = .ok (.getfield 19, 3) := by decide +kernel
theorem dX6_duel_53 : decode cX6_duel 53 = .ok (.getfield 94, 3) := by decide +kernel
theorem dX6_duel_56 : decode cX6_duel 56 = .ok (.aload_n 0, 1) := by decide +kernel
theorem dX6_duel_57 : decode cX6_duel 57 = .ok (.getfield 19, 3) := by decide +kernel
theorem dX6_duel_60 : decode cX6_duel 60 = .ok (.getfield 130, 3) := by decide +kernel
theorem dX6_duel_63 : decode cX6_duel 63 = .ok (.iload_n 1, 1) := by decide +kernel
theorem dX6_duel_64 : decode cX6_duel 64 = .ok (.iaload, 1) := by decide +kernel
theorem dX6_duel_65 : decode cX6_duel 65 = .ok (.invokevirtual 223, 3) := by decide +kernel
theorem dX6_duel_68 : decode cX6_duel 68 = .ok (.aload_n 0, 1) := by decide +kernel
theorem dX6_duel_69 : decode cX6_duel 69 = .ok (.iload_n 1, 1) := by decide +kernel
theorem dX6_duel_70 : decode cX6_duel 70 = .ok (.invokevirtual 201, 3) := by decide +kernel
theorem dX6_duel_73 : decode cX6_duel 73 = .ok (.ishr, 1) := by decide +kernel
theorem dX6_duel_74 : decode cX6_duel 74 = .ok (.iconst 1, 1) := by decide +kernel
theorem dX6_duel_75 : decode cX6_duel 75 = .ok (.iand, 1) := by decide +kernel
theorem dX6_duel_76 : decode cX6_duel 76 = .ok (.ireturn, 1) := by decide +kernel
theorem dX6_chance_0 : decode cX6_chance 0 = .ok (.aload_n 0, 1) := by decide +kernel
theorem dX6_chance_1 : decode cX6_chance 1 = .ok (.iload_n 1, 1) := by decide +kernel
theorem dX6_chance_2 : decode cX6_chance 2 = .ok (.invokevirtual 116, 3) := by decide +kernel
theorem dX6_chance_5 : decode cX6_chance 5 = .ok (.ifCond .eq 20, 3) := by decide +kernel
theorem dX6_chance_8 : decode cX6_chance 8 = .ok (.aload_n 0, 1) := by decide +kernel
theorem dX6_chance_9 : decode cX6_chance 9 = .ok (.iload_n 2, 1) := by decide +kernel
theorem dX6_chance_10 : decode cX6_chance 10 = .ok (.invokevirtual 105, 3) := by decide +kernel
theorem dX6_chance_13 : decode cX6_chance 13 = .ok (.ifCond .eq 12, 3) := by decide +kernel
theorem dX6_chance_16 : decode cX6_chance 16 = .ok (.iload_n 3, 1) := by decide +kernel
theorem dX6_chance_17 : decode cX6_chance 17 = .ok (.ifCond .lt 8, 3) := by decide +kernel
theorem dX6_chance_20 : decode cX6_chance 20 = .ok (.iload_n 3, 1) := by decide +kernel
theorem dX6_chance_21 : decode cX6_chance 21 = .ok (.iconst 3, 1) := by decide +kernel
theorem dX6_chance_22 : decode cX6_chance 22 = .ok (.if_icmp .lt 7, 3) := by decide +kernel
theorem dX6_chance_25 : decode cX6_chance 25 = .ok (.ldc2_w 226, 3) := by decide +kernel
theorem dX6_chance_28 : decode cX6_chance 28 = .ok (.lreturn, 1) := by decide +kernel
theorem dX6_chance_29 : decode cX6_chance 29 = .ok (.iload 4, 2) := by decide +kernel
theorem dX6_chance_31 : decode cX6_chance 31 = .ok (.ifCond .lt 10, 3) := by decide +kernel
theorem dX6_chance_34 : decode cX6_chance 34 = .ok (.iload 4, 2) := by decide +kernel
theorem dX6_chance_36 : decode cX6_chance 36 = .ok (.bipush 10, 2) := by decide +kernel
theorem dX6_chance_38 : decode cX6_chance 38 = .ok (.if_icmp .le 7, 3) := by decide +kernel
theorem dX6_chance_41 : decode cX6_chance 41 = .ok (.ldc2_w 228, 3) := by decide +kernel
theorem dX6_chance_44 : decode cX6_chance 44 = .ok (.lreturn, 1) := by decide +kernel
theorem dX6_chance_45 : decode cX6_chance 45 = .ok (.aload_n 0, 1) := by decide +kernel
theorem dX6_chance_46 : decode cX6_chance 46 = .ok (.getfield 19, 3) := by decide +kernel
theorem dX6_chance_49 : decode cX6_chance 49 = .ok (.iload_n 2, 1) := by decide +kernel
theorem dX6_chance_50 : decode cX6_chance 50 = .ok (.iload_n 1, 1) := by decide +kernel
theorem dX6_chance_51 : decode cX6_chance 51 = .ok (.invokevirtual 139, 3) := by decide +kernel
theorem dX6_chance_54 : decode cX6_chance 54 = .ok (.ifCond .eq 5, 3) := by decide +kernel
theorem dX6_chance_57 : decode cX6_chance 57 = .ok (.lconst 1, 1) := by decide +kernel
theorem dX6_chance_58 : decode cX6_chance 58 = .ok (.lreturn, 1) := by decide +kernel
theorem dX6_chance_59 : decode cX6_chance 59 = .ok (.bipush 10, 2) := by decide +kernel
theorem dX6_chance_61 : decode cX6_chance 61 = .ok (.iload 4, 2) := by decide +kernel
theorem dX6_chance_63 : decode cX6_chance 63 = .ok (.isub, 1) := by decide +kernel
theorem dX6_chance_64 : decode cX6_chance 64 = .ok (.aload_n 0, 1) := by decide +kernel
theorem dX6_chance_65 : decode cX6_chance 65 = .ok (.iload_n 1, 1) := by decide +kernel
theorem dX6_chance_66 : decode cX6_chance 66 = .ok (.iload_n 2, 1) := by decide +kernel
theorem dX6_chance_67 : decode cX6_chance 67 = .ok (.iload_n 3, 1) := by decide +kernel
theorem dX6_chance_68 : decode cX6_chance 68 = .ok (.invokevirtual 230, 3) := by decide +kernel
theorem dX6_chance_71 : decode cX6_chance 71 = .ok (.iload 5, 2) := by decide +kernel
theorem dX6_chance_73 : decode cX6_chance 73 = .ok (.invokestatic 233, 3) := by decide +kernel
theorem dX6_chance_76 : decode cX6_chance 76 = .ok (.i2l, 1) := by decide +kernel
theorem dX6_chance_77 : decode cX6_chance 77 = .ok (.lreturn, 1) := by decide +kernel
theorem dX6_sight_0 : decode cX6_sight 0 = .ok (.aload_n 0, 1) := by decide +kernel
theorem dX6_sight_1 : decode cX6_sight 1 = .ok (.iload_n 2, 1) := by decide +kernel
theorem dX6_sight_2 : decode cX6_sight 2 = .ok (.invokevirtual 105, 3) := by decide +kernel
theorem dX6_sight_5 : decode cX6_sight 5 = .ok (.ifCond .ne 5, 3) := by decide +kernel
theorem dX6_sight_8 : decode cX6_sight 8 = .ok (.iconst (-1), 1) := by decide +kernel
theorem dX6_sight_9 : decode cX6_sight 9 = .ok (.ireturn, 1) := by decide +kernel
theorem dX6_sight_10 : decode cX6_sight 10 = .ok (.iload_n 1, 1) := by decide +kernel
theorem dX6_sight_11 : decode cX6_sight 11 = .ok (.invokestatic 109, 3) := by decide +kernel
theorem dX6_sight_14 : decode cX6_sight 14 = .ok (.ifCond .ne 6, 3) := by decide +kernel
theorem dX6_sight_17 : decode cX6_sight 17 = .ok (.bipush (-2), 2) := by decide +kernel
theorem dX6_sight_19 : decode cX6_sight 19 = .ok (.ireturn, 1) := by decide +kernel
theorem dX6_sight_20 : decode cX6_sight 20 = .ok (.aload_n 0, 1) := by decide +kernel
theorem dX6_sight_21 : decode cX6_sight 21 = .ok (.getfield 40, 3) := by decide +kernel
theorem dX6_sight_24 : decode cX6_sight 24 = .ok (.getfield 104, 3) := by decide +kernel
theorem dX6_sight_27 : decode cX6_sight 27 = .ok (.bipush 8, 2) := by decide +kernel
theorem dX6_sight_29 : decode cX6_sight 29 = .ok (.if_icmp .lt 6, 3) := by decide +kernel
theorem dX6_sight_32 : decode cX6_sight 32 = .ok (.bipush (-4), 2) := by decide +kernel
theorem dX6_sight_34 : decode cX6_sight 34 = .ok (.ireturn, 1) := by decide +kernel
theorem dX6_sight_35 : decode cX6_sight 35 = .ok (.aload_n 0, 1) := by decide +kernel
theorem dX6_sight_36 : decode cX6_sight 36 = .ok (.getfield 40, 3) := by decide +kernel
theorem dX6_sight_39 : decode cX6_sight 39 = .ok (.iload_n 1, 1) := by decide +kernel
theorem dX6_sight_40 : decode cX6_sight 40 = .ok (.iload_n 2, 1) := by decide +kernel
theorem dX6_sight_41 : decode cX6_sight 41 = .ok (.iload_n 3, 1) := by decide +kernel
theorem dX6_sight_42 : decode cX6_sight 42 = .ok (.invokevirtual 237, 3) := by decide +kernel
theorem dX6_sight_45 : decode cX6_sight 45 = .ok (.aload_n 0, 1) := by decide +kernel
theorem dX6_sight_46 : decode cX6_sight 46 = .ok (.getfield 40, 3) := by decide +kernel
theorem dX6_sight_49 : decode cX6_sight 49 = .ok (.getfield 104, 3) := by decide +kernel
theorem dX6_sight_52 : decode cX6_sight 52 = .ok (.ireturn, 1) := by decide +kernel
theorem dX6_unsee_0 : decode cX6_unsee 0 = .ok (.aload_n 0, 1) := by decide +kernel
theorem dX6_unsee_1 : decode cX6_unsee 1 = .ok (.getfield 40, 3) := by decide +kernel
theorem dX6_unsee_4 : decode cX6_unsee 4 = .ok (.getfield 104, 3) := by decide +kernel
theorem dX6_unsee_7 : decode cX6_unsee 7 = .ok (.istore_n 1, 1) := by decide +kernel
theorem dX6_unsee_8 : decode cX6_unsee 8 = .ok (.aload_n 0, 1) := by decide +kernel
theorem dX6_unsee_9 : decode cX6_unsee 9 = .ok (.getfield 40, 3) := by decide +kernel
theorem dX6_unsee_12 : decode cX6_unsee 12 = .ok (.invokevirtual 241, 3) := by decide +kernel
theorem dX6_unsee_15 : decode cX6_unsee 15 = .ok (.iload_n 1, 1) := by decide +kernel
theorem dX6_unsee_16 : decode cX6_unsee 16 = .ok (.ireturn, 1) := by decide +kernel
theorem dX6_rows_0 : decode cX6_rows 0 = .ok (.aload_n 0, 1) := by decide +kernel
theorem dX6_rows_1 : decode cX6_rows 1 = .ok (.iload_n 1, 1) := by decide +kernel
theorem dX6_rows_2 : decode cX6_rows 2 = .ok (.invokevirtual 116, 3) := by decide +kernel
theorem dX6_rows_5 : decode cX6_rows 5 = .ok (.ifCond .ne 5, 3) := by decide +kernel
theorem dX6_rows_8 : decode cX6_rows 8 = .ok (.iconst (-1), 1) := by decide +kernel
theorem dX6_rows_9 : decode cX6_rows 9 = .ok (.ireturn, 1) := by decide +kernel
theorem dX6_rows_10 : decode cX6_rows 10 = .ok (.aload_n 0, 1) := by decide +kernel
theorem dX6_rows_11 : decode cX6_rows 11 = .ok (.getfield 59, 3) := by decide +kernel
theorem dX6_rows_14 : decode cX6_rows 14 = .ok (.aload_n 0, 1) := by decide +kernel
theorem dX6_rows_15 : decode cX6_rows 15 = .ok (.getfield 47, 3) := by decide +kernel
theorem dX6_rows_18 : decode cX6_rows 18 = .ok (.aload_n 0, 1) := by decide +kernel
theorem dX6_rows_19 : decode cX6_rows 19 = .ok (.getfield 47, 3) := by decide +kernel
theorem dX6_rows_22 : decode cX6_rows 22 = .ok (.getfield 133, 3) := by decide +kernel
theorem dX6_rows_25 : decode cX6_rows 25 = .ok (.iload_n 1, 1) := by decide +kernel
theorem dX6_rows_26 : decode cX6_rows 26 = .ok (.iaload, 1) := by decide +kernel
theorem dX6_rows_27 : decode cX6_rows 27 = .ok (.aload_n 0, 1) := by decide +kernel
theorem dX6_rows_28 : decode cX6_rows 28 = .ok (.getfield 47, 3) := by decide +kernel
theorem dX6_rows_31 : decode cX6_rows 31 = .ok (.getfield 119, 3) := by decide +kernel
theorem dX6_rows_34 : decode cX6_rows 34 = .ok (.iload_n 1, 1) := by decide +kernel
theorem dX6_rows_35 : decode cX6_rows 35 = .ok (.iaload, 1) := by decide +kernel
theorem dX6_rows_36 : decode cX6_rows 36 = .ok (.invokevirtual 244, 3) := by decide +kernel
theorem dX6_rows_39 : decode cX6_rows 39 = .ok (.iconst 0, 1) := by decide +kernel
theorem dX6_rows_40 : decode cX6_rows 40 = .ok (.istore_n 2, 1) := by decide +kernel
theorem dX6_rows_41 : decode cX6_rows 41 = .ok (.iload_n 2, 1) := by decide +kernel
theorem dX6_rows_42 : decode cX6_rows 42 = .ok (.bipush 6, 2) := by decide +kernel
theorem dX6_rows_44 : decode cX6_rows 44 = .ok (.if_icmp .ge 29, 3) := by decide +kernel
theorem dX6_rows_47 : decode cX6_rows 47 = .ok (.aload_n 0, 1) := by decide +kernel
theorem dX6_rows_48 : decode cX6_rows 48 = .ok (.getfield 59, 3) := by decide +kernel
theorem dX6_rows_51 : decode cX6_rows 51 = .ok (.iload_n 2, 1) := by decide +kernel
theorem dX6_rows_52 : decode cX6_rows 52 = .ok (.invokevirtual 247, 3) := by decide +kernel
theorem dX6_rows_55 : decode cX6_rows 55 = .ok (.aload_n 0, 1) := by decide +kernel
theorem dX6_rows_56 : decode cX6_rows 56 = .ok (.getfield 59, 3) := by decide +kernel
theorem dX6_rows_59 : decode cX6_rows 59 = .ok (.iload_n 2, 1) := by decide +kernel
theorem dX6_rows_60 : decode cX6_rows 60 = .ok (.aload_n 0, 1) := by decide +kernel
theorem dX6_rows_61 : decode cX6_rows 61 = .ok (.getfield 40, 3) := by decide +kernel
theorem dX6_rows_64 : decode cX6_rows 64 = .ok (.invokevirtual 250, 3) := by decide +kernel
theorem dX6_rows_67 : decode cX6_rows 67 = .ok (.iinc 2 1, 3) := by decide +kernel
theorem dX6_rows_70 : decode cX6_rows 70 = .ok (.goto (-29), 3) := by decide +kernel
theorem dX6_rows_73 : decode cX6_rows 73 = .ok (.aload_n 0, 1) := by decide +kernel
theorem dX6_rows_74 : decode cX6_rows 74 = .ok (.getfield 59, 3) := by decide +kernel
theorem dX6_rows_77 : decode cX6_rows 77 = .ok (.invokevirtual 254, 3) := by decide +kernel
theorem dX6_rows_80 : decode cX6_rows 80 = .ok (.ireturn, 1) := by decide +kernel
theorem dX6_keep_0 : decode cX6_keep 0 = .ok (.iload_n 1, 1) := by decide +kernel
theorem dX6_keep_1 : decode cX6_keep 1 = .ok (.ifCond .lt 8, 3) := by decide +kernel
theorem dX6_keep_4 : decode cX6_keep 4 = .ok (.iload_n 1, 1) := by decide +kernel
theorem dX6_keep_5 : decode cX6_keep 5 = .ok (.iconst 2, 1) := by decide +kernel
theorem dX6_keep_6 : decode cX6_keep 6 = .ok (.if_icmp .lt 5, 3) := by decide +kernel
theorem dX6_keep_9 : decode cX6_keep 9 = .ok (.iconst (-1), 1) := by decide +kernel
theorem dX6_keep_10 : decode cX6_keep 10 = .ok (.ireturn, 1) := by decide +kernel
theorem dX6_keep_11 : decode cX6_keep 11 = .ok (.aload_n 0, 1) := by decide +kernel
theorem dX6_keep_12 : decode cX6_keep 12 = .ok (.getfield 26, 3) := by decide +kernel
theorem dX6_keep_15 : decode cX6_keep 15 = .ok (.iload_n 1, 1) := by decide +kernel
theorem dX6_keep_16 : decode cX6_keep 16 = .ok (.aaload, 1) := by decide +kernel
theorem dX6_keep_17 : decode cX6_keep 17 = .ok (.aload_n 0, 1) := by decide +kernel
theorem dX6_keep_18 : decode cX6_keep 18 = .ok (.getfield 19, 3) := by decide +kernel
theorem dX6_keep_21 : decode cX6_keep 21 = .ok (.invokevirtual 182, 3) := by decide +kernel
theorem dX6_keep_24 : decode cX6_keep 24 = .ok (.aload_n 0, 1) := by decide +kernel
theorem dX6_keep_25 : decode cX6_keep 25 = .ok (.getfield 26, 3) := by decide +kernel
theorem dX6_keep_28 : decode cX6_keep 28 = .ok (.iload_n 1, 1) := by decide +kernel
theorem dX6_keep_29 : decode cX6_keep 29 = .ok (.aaload, 1) := by decide +kernel
theorem dX6_keep_30 : decode cX6_keep 30 = .ok (.iconst 1, 1) := by decide +kernel
theorem dX6_keep_31 : decode cX6_keep 31 = .ok (.putfield 81, 3) := by decide +kernel
theorem dX6_keep_34 : decode cX6_keep 34 = .ok (.aload_n 0, 1) := by decide +kernel
theorem dX6_keep_35 : decode cX6_keep 35 = .ok (.getfield 19, 3) := by decide +kernel
theorem dX6_keep_38 : decode cX6_keep 38 = .ok (.getfield 94, 3) := by decide +kernel
theorem dX6_keep_41 : decode cX6_keep 41 = .ok (.ireturn, 1) := by decide +kernel
theorem dX6_again_0 : decode cX6_again 0 = .ok (.iload_n 1, 1) := by decide +kernel
theorem dX6_again_1 : decode cX6_again 1 = .ok (.ifCond .lt 8, 3) := by decide +kernel
theorem dX6_again_4 : decode cX6_again 4 = .ok (.iload_n 1, 1) := by decide +kernel
theorem dX6_again_5 : decode cX6_again 5 = .ok (.iconst 2, 1) := by decide +kernel
theorem dX6_again_6 : decode cX6_again 6 = .ok (.if_icmp .lt 5, 3) := by decide +kernel
theorem dX6_again_9 : decode cX6_again 9 = .ok (.iconst (-1), 1) := by decide +kernel
theorem dX6_again_10 : decode cX6_again 10 = .ok (.ireturn, 1) := by decide +kernel
theorem dX6_again_11 : decode cX6_again 11 = .ok (.aload_n 0, 1) := by decide +kernel
theorem dX6_again_12 : decode cX6_again 12 = .ok (.getfield 26, 3) := by decide +kernel
theorem dX6_again_15 : decode cX6_again 15 = .ok (.iload_n 1, 1) := by decide +kernel
theorem dX6_again_16 : decode cX6_again 16 = .ok (.aaload, 1) := by decide +kernel
theorem dX6_again_17 : decode cX6_again 17 = .ok (.getfield 81, 3) := by decide +kernel
theorem dX6_again_20 : decode cX6_again 20 = .ok (.ifCond .ne 6, 3) := by decide +kernel
theorem dX6_again_23 : decode cX6_again 23 = .ok (.bipush (-3), 2) := by decide +kernel
theorem dX6_again_25 : decode cX6_again 25 = .ok (.ireturn, 1) := by decide +kernel
theorem dX6_again_26 : decode cX6_again 26 = .ok (.aload_n 0, 1) := by decide +kernel
theorem dX6_again_27 : decode cX6_again 27 = .ok (.getfield 19, 3) := by decide +kernel
theorem dX6_again_30 : decode cX6_again 30 = .ok (.aload_n 0, 1) := by decide +kernel
theorem dX6_again_31 : decode cX6_again 31 = .ok (.getfield 26, 3) := by decide +kernel
theorem dX6_again_34 : decode cX6_again 34 = .ok (.iload_n 1, 1) := by decide +kernel
theorem dX6_again_35 : decode cX6_again 35 = .ok (.aaload, 1) := by decide +kernel
theorem dX6_again_36 : decode cX6_again 36 = .ok (.invokevirtual 182, 3) := by decide +kernel
theorem dX6_again_39 : decode cX6_again 39 = .ok (.aload_n 0, 1) := by decide +kernel
theorem dX6_again_40 : decode cX6_again 40 = .ok (.getfield 33, 3) := by decide +kernel
theorem dX6_again_43 : decode cX6_again 43 = .ok (.iconst 0, 1) := by decide +kernel
theorem dX6_again_44 : decode cX6_again 44 = .ok (.putfield 78, 3) := by decide +kernel
theorem dX6_again_47 : decode cX6_again 47 = .ok (.aload_n 0, 1) := by decide +kernel
theorem dX6_again_48 : decode cX6_again 48 = .ok (.getfield 19, 3) := by decide +kernel
theorem dX6_again_51 : decode cX6_again 51 = .ok (.getfield 94, 3) := by decide +kernel
theorem dX6_again_54 : decode cX6_again 54 = .ok (.ireturn, 1) := by decide +kernel
theorem dX6_isPerson_0 : decode cX6_isPerson 0 = .ok (.iload_n 1, 1) := by decide +kernel
theorem dX6_isPerson_1 : decode cX6_isPerson 1 = .ok (.ifCond .lt 18, 3) := by decide +kernel
theorem dX6_isPerson_4 : decode cX6_isPerson 4 = .ok (.iload_n 1, 1) := by decide +kernel
theorem dX6_isPerson_5 : decode cX6_isPerson 5 = .ok (.aload_n 0, 1) := by decide +kernel
theorem dX6_isPerson_6 : decode cX6_isPerson 6 = .ok (.getfield 47, 3) := by decide +kernel
theorem dX6_isPerson_9 : decode cX6_isPerson 9 = .ok (.getfield 85, 3) := by decide +kernel
theorem dX6_isPerson_12 : decode cX6_isPerson 12 = .ok (.if_icmp .ge 7, 3) := by decide +kernel
theorem dX6_isPerson_15 : decode cX6_isPerson 15 = .ok (.iconst 1, 1) := by decide +kernel
theorem dX6_isPerson_16 : decode cX6_isPerson 16 = .ok (.goto 4, 3) := by decide +kernel
theorem dX6_isPerson_19 : decode cX6_isPerson 19 = .ok (.iconst 0, 1) := by decide +kernel
theorem dX6_isPerson_20 : decode cX6_isPerson 20 = .ok (.ireturn, 1) := by decide +kernel
theorem dX6_isNews_0 : decode cX6_isNews 0 = .ok (.iload_n 1, 1) := by decide +kernel
theorem dX6_isNews_1 : decode cX6_isNews 1 = .ok (.ifCond .lt 18, 3) := by decide +kernel
theorem dX6_isNews_4 : decode cX6_isNews 4 = .ok (.iload_n 1, 1) := by decide +kernel
theorem dX6_isNews_5 : decode cX6_isNews 5 = .ok (.aload_n 0, 1) := by decide +kernel
theorem dX6_isNews_6 : decode cX6_isNews 6 = .ok (.getfield 47, 3) := by decide +kernel
theorem dX6_isNews_9 : decode cX6_isNews 9 = .ok (.getfield 88, 3) := by decide +kernel
theorem dX6_isNews_12 : decode cX6_isNews 12 = .ok (.if_icmp .ge 7, 3) := by decide +kernel
theorem dX6_isNews_15 : decode cX6_isNews 15 = .ok (.iconst 1, 1) := by decide +kernel
theorem dX6_isNews_16 : decode cX6_isNews 16 = .ok (.goto 4, 3) := by decide +kernel
theorem dX6_isNews_19 : decode cX6_isNews 19 = .ok (.iconst 0, 1) := by decide +kernel
theorem dX6_isNews_20 : decode cX6_isNews 20 = .ok (.ireturn, 1) := by decide +kernel
theorem dX6_isHour_0 : decode cX6_isHour 0 = .ok (.iload_n 0, 1) := by decide +kernel
theorem dX6_isHour_1 : decode cX6_isHour 1 = .ok (.ifCond .lt 13, 3) := by decide +kernel
theorem dX6_isHour_4 : decode cX6_isHour 4 = .ok (.iload_n 0, 1) := by decide +kernel
theorem dX6_isHour_5 : decode cX6_isHour 5 = .ok (.bipush 6, 2) := by decide +kernel
theorem dX6_isHour_7 : decode cX6_isHour 7 = .ok (.if_icmp .ge 7, 3) := by decide +kernel
theorem dX6_isHour_10 : decode cX6_isHour 10 = .ok (.iconst 1, 1) := by decide +kernel
theorem dX6_isHour_11 : decode cX6_isHour 11 = .ok (.goto 4, 3) := by decide +kernel
theorem dX6_isHour_14 : decode cX6_isHour 14 = .ok (.iconst 0, 1) := by decide +kernel
theorem dX6_isHour_15 : decode cX6_isHour 15 = .ok (.ireturn, 1) := by decide +kernel
theorem dX6_leftOf_0 : decode cX6_leftOf 0 = .ok (.aload_n 0, 1) := by decide +kernel
theorem dX6_leftOf_1 : decode cX6_leftOf 1 = .ok (.getfield 47, 3) := by decide +kernel
theorem dX6_leftOf_4 : decode cX6_leftOf 4 = .ok (.getfield 119, 3) := by decide +kernel
theorem dX6_leftOf_7 : decode cX6_leftOf 7 = .ok (.iload_n 1, 1) := by decide +kernel
theorem dX6_leftOf_8 : decode cX6_leftOf 8 = .ok (.iaload, 1) := by decide +kernel
theorem dX6_leftOf_9 : decode cX6_leftOf 9 = .ok (.aload_n 0, 1) := by decide +kernel
theorem dX6_leftOf_10 : decode cX6_leftOf 10 = .ok (.getfield 19, 3) := by decide +kernel
theorem dX6_leftOf_13 : decode cX6_leftOf 13 = .ok (.iload_n 1, 1) := by decide +kernel
theorem dX6_leftOf_14 : decode cX6_leftOf 14 = .ok (.invokevirtual 126, 3) := by decide +kernel
theorem dX6_leftOf_17 : decode cX6_leftOf 17 = .ok (.isub, 1) := by decide +kernel
theorem dX6_leftOf_18 : decode cX6_leftOf 18 = .ok (.ireturn, 1) := by decide +kernel
theorem dX6_tellingsOfAll_0 : decode cX6_tellingsOfAll 0 = .ok (.iconst 0, 1) := by decide +kernel
theorem dX6_tellingsOfAll_1 : decode cX6_tellingsOfAll 1 = .ok (.istore_n 1, 1) := by decide +kernel
theorem dX6_tellingsOfAll_2 : decode cX6_tellingsOfAll 2 = .ok (.iconst 0, 1) := by decide +kernel
theorem dX6_tellingsOfAll_3 : decode cX6_tellingsOfAll 3 = .ok (.istore_n 2, 1) := by decide +kernel
theorem dX6_tellingsOfAll_4 : decode cX6_tellingsOfAll 4 = .ok (.iload_n 2, 1) := by decide +kernel
theorem dX6_tellingsOfAll_5 : decode cX6_tellingsOfAll 5 = .ok (.aload_n 0, 1) := by decide +kernel
theorem dX6_tellingsOfAll_6 : decode cX6_tellingsOfAll 6 = .ok (.getfield 47, 3) := by decide +kernel
theorem dX6_tellingsOfAll_9 : decode cX6_tellingsOfAll 9 = .ok (.getfield 88, 3) := by decide +kernel
theorem dX6_tellingsOfAll_12 : decode cX6_tellingsOfAll 12 = .ok (.if_icmp .ge 20, 3) := by decide +kernel
theorem dX6_tellingsOfAll_15 : decode cX6_tellingsOfAll 15 = .ok (.iload_n 1, 1) := by decide +kernel
theorem dX6_tellingsOfAll_16 : decode cX6_tellingsOfAll 16 = .ok (.aload_n 0, 1) := by decide +kernel
theorem dX6_tellingsOfAll_17 : decode cX6_tellingsOfAll 17 = .ok (.getfield 19, 3) := by decide +kernel
theorem dX6_tellingsOfAll_20 : decode cX6_tellingsOfAll 20 = .ok (.iload_n 2, 1) := by decide +kernel
theorem dX6_tellingsOfAll_21 : decode cX6_tellingsOfAll 21 = .ok (.invokevirtual 126, 3) := by decide +kernel
theorem dX6_tellingsOfAll_24 : decode cX6_tellingsOfAll 24 = .ok (.iadd, 1) := by decide +kernel
theorem dX6_tellingsOfAll_25 : decode cX6_tellingsOfAll 25 = .ok (.istore_n 1, 1) := by decide +kernel
theorem dX6_tellingsOfAll_26 : decode cX6_tellingsOfAll 26 = .ok (.iinc 2 1, 3) := by decide +kernel
theorem dX6_tellingsOfAll_29 : decode cX6_tellingsOfAll 29 = .ok (.goto (-25), 3) := by decide +kernel
theorem dX6_tellingsOfAll_32 : decode cX6_tellingsOfAll 32 = .ok (.iload_n 1, 1) := by decide +kernel
theorem dX6_tellingsOfAll_33 : decode cX6_tellingsOfAll 33 = .ok (.ireturn, 1) := by decide +kernel
theorem dX6_worthOfAll_0 : decode cX6_worthOfAll 0 = .ok (.iconst 0, 1) := by decide +kernel
theorem dX6_worthOfAll_1 : decode cX6_worthOfAll 1 = .ok (.istore_n 1, 1) := by decide +kernel
theorem dX6_worthOfAll_2 : decode cX6_worthOfAll 2 = .ok (.iconst 0, 1) := by decide +kernel
theorem dX6_worthOfAll_3 : decode cX6_worthOfAll 3 = .ok (.istore_n 2, 1) := by decide +kernel
theorem dX6_worthOfAll_4 : decode cX6_worthOfAll 4 = .ok (.iload_n 2, 1) := by decide +kernel
theorem dX6_worthOfAll_5 : decode cX6_worthOfAll 5 = .ok (.aload_n 0, 1) := by decide +kernel
theorem dX6_worthOfAll_6 : decode cX6_worthOfAll 6 = .ok (.getfield 47, 3) := by decide +kernel
theorem dX6_worthOfAll_9 : decode cX6_worthOfAll 9 = .ok (.getfield 88, 3) := by decide +kernel
theorem dX6_worthOfAll_12 : decode cX6_worthOfAll 12 = .ok (.if_icmp .ge 34, 3) := by decide +kernel
theorem dX6_worthOfAll_15 : decode cX6_worthOfAll 15 = .ok (.iload_n 1, 1) := by decide +kernel
theorem dX6_worthOfAll_16 : decode cX6_worthOfAll 16 = .ok (.aload_n 0, 1) := by decide +kernel
theorem dX6_worthOfAll_17 : decode cX6_worthOfAll 17 = .ok (.getfield 47, 3) := by decide +kernel
theorem dX6_worthOfAll_20 : decode cX6_worthOfAll 20 = .ok (.getfield 123, 3) := by decide +kernel
theorem dX6_worthOfAll_23 : decode cX6_worthOfAll 23 = .ok (.iload_n 2, 1) := by decide +kernel
theorem dX6_worthOfAll_24 : decode cX6_worthOfAll 24 = .ok (.iaload, 1) := by decide +kernel
theorem dX6_worthOfAll_25 : decode cX6_worthOfAll 25 = .ok (.aload_n 0, 1) := by decide +kernel
theorem dX6_worthOfAll_26 : decode cX6_worthOfAll 26 = .ok (.getfield 19, 3) := by decide +kernel
theorem dX6_worthOfAll_29 : decode cX6_worthOfAll 29 = .ok (.getfield 130, 3) := by decide +kernel
theorem dX6_worthOfAll_32 : decode cX6_worthOfAll 32 = .ok (.iload_n 2, 1) := by decide +kernel
theorem dX6_worthOfAll_33 : decode cX6_worthOfAll 33 = .ok (.iaload, 1) := by decide +kernel
theorem dX6_worthOfAll_34 : decode cX6_worthOfAll 34 = .ok (.invokestatic 257, 3) := by decide +kernel
theorem dX6_worthOfAll_37 : decode cX6_worthOfAll 37 = .ok (.imul, 1) := by decide +kernel
theorem dX6_worthOfAll_38 : decode cX6_worthOfAll 38 = .ok (.iadd, 1) := by decide +kernel
theorem dX6_worthOfAll_39 : decode cX6_worthOfAll 39 = .ok (.istore_n 1, 1) := by decide +kernel
theorem dX6_worthOfAll_40 : decode cX6_worthOfAll 40 = .ok (.iinc 2 1, 3) := by decide +kernel
theorem dX6_worthOfAll_43 : decode cX6_worthOfAll 43 = .ok (.goto (-39), 3) := by decide +kernel
theorem dX6_worthOfAll_46 : decode cX6_worthOfAll 46 = .ok (.iload_n 1, 1) := by decide +kernel
theorem dX6_worthOfAll_47 : decode cX6_worthOfAll 47 = .ok (.ireturn, 1) := by decide +kernel
theorem dX6_triedFigure_0 : decode cX6_triedFigure 0 = .ok (.iload_n 2, 1) := by decide +kernel
theorem dX6_triedFigure_1 : decode cX6_triedFigure 1 = .ok (.bipush 9, 2) := by decide +kernel
theorem dX6_triedFigure_3 : decode cX6_triedFigure 3 = .ok (.if_icmp .ne 31, 3) := by decide +kernel
theorem dX6_triedFigure_6 : decode cX6_triedFigure 6 = .ok (.aload_n 0, 1) := by decide +kernel
theorem dX6_triedFigure_7 : decode cX6_triedFigure 7 = .ok (.getfield 23, 3) := by decide +kernel
theorem dX6_triedFigure_10 : decode cX6_triedFigure 10 = .ok (.getfield 94, 3) := by decide +kernel
theorem dX6_triedFigure_13 : decode cX6_triedFigure 13 = .ok (.iconst 5, 1) := by decide +kernel
theorem dX6_triedFigure_14 : decode cX6_triedFigure 14 = .ok (.if_icmp .lt 5, 3) := by decide +kernel
theorem dX6_triedFigure_17 : decode cX6_triedFigure 17 = .ok (.iconst 0, 1) := by decide +kernel
theorem dX6_triedFigure_18 : decode cX6_triedFigure 18 = .ok (.ireturn, 1) := by decide +kernel
theorem dX6_triedFigure_19 : decode cX6_triedFigure 19 = .ok (.aload_n 0, 1) := by decide +kernel
theorem dX6_triedFigure_20 : decode cX6_triedFigure 20 = .ok (.getfield 23, 3) := by decide +kernel
theorem dX6_triedFigure_23 : decode cX6_triedFigure 23 = .ok (.dup, 1) := by decide +kernel
theorem dX6_triedFigure_24 : decode cX6_triedFigure 24 = .ok (.getfield 94, 3) := by decide +kernel
theorem dX6_triedFigure_27 : decode cX6_triedFigure 27 = .ok (.iconst 1, 1) := by decide +kernel
theorem dX6_triedFigure_28 : decode cX6_triedFigure 28 = .ok (.iadd, 1) := by decide +kernel
theorem dX6_triedFigure_29 : decode cX6_triedFigure 29 = .ok (.putfield 94, 3) := by decide +kernel
theorem dX6_triedFigure_32 : decode cX6_triedFigure 32 = .ok (.iconst 1, 1) := by decide +kernel
theorem dX6_triedFigure_33 : decode cX6_triedFigure 33 = .ok (.ireturn, 1) := by decide +kernel
theorem dX6_triedFigure_34 : decode cX6_triedFigure 34 = .ok (.aload_n 0, 1) := by decide +kernel
theorem dX6_triedFigure_35 : decode cX6_triedFigure 35 = .ok (.iload_n 2, 1) := by decide +kernel
theorem dX6_triedFigure_36 : decode cX6_triedFigure 36 = .ok (.invokevirtual 105, 3) := by decide +kernel
theorem dX6_triedFigure_39 : decode cX6_triedFigure 39 = .ok (.ifCond .eq 19, 3) := by decide +kernel
theorem dX6_triedFigure_42 : decode cX6_triedFigure 42 = .ok (.aload_n 0, 1) := by decide +kernel
theorem dX6_triedFigure_43 : decode cX6_triedFigure 43 = .ok (.getfield 23, 3) := by decide +kernel
theorem dX6_triedFigure_46 : decode cX6_triedFigure 46 = .ok (.aload_n 0, 1) := by decide +kernel
theorem dX6_triedFigure_47 : decode cX6_triedFigure 47 = .ok (.getfield 47, 3) := by decide +kernel
theorem dX6_triedFigure_50 : decode cX6_triedFigure 50 = .ok (.iload_n 2, 1) := by decide +kernel
theorem dX6_triedFigure_51 : decode cX6_triedFigure 51 = .ok (.iload_n 1, 1) := by decide +kernel
theorem dX6_triedFigure_52 : decode cX6_triedFigure 52 = .ok (.invokevirtual 146, 3) := by decide +kernel
theorem dX6_triedFigure_55 : decode cX6_triedFigure 55 = .ok (.ifCond .ne 5, 3) := by decide +kernel
theorem dX6_triedFigure_58 : decode cX6_triedFigure 58 = .ok (.iconst 0, 1) := by decide +kernel
theorem dX6_triedFigure_59 : decode cX6_triedFigure 59 = .ok (.ireturn, 1) := by decide +kernel
theorem dX6_triedFigure_60 : decode cX6_triedFigure 60 = .ok (.aload_n 0, 1) := by decide +kernel
theorem dX6_triedFigure_61 : decode cX6_triedFigure 61 = .ok (.getfield 23, 3) := by decide +kernel
theorem dX6_triedFigure_64 : decode cX6_triedFigure 64 = .ok (.aload_n 0, 1) := by decide +kernel
theorem dX6_triedFigure_65 : decode cX6_triedFigure 65 = .ok (.getfield 47, 3) := by decide +kernel
theorem dX6_triedFigure_68 : decode cX6_triedFigure 68 = .ok (.iload_n 2, 1) := by decide +kernel
theorem dX6_triedFigure_69 : decode cX6_triedFigure 69 = .ok (.iload_n 1, 1) := by decide +kernel
theorem dX6_triedFigure_70 : decode cX6_triedFigure 70 = .ok (.invokevirtual 158, 3) := by decide +kernel
theorem dX6_triedFigure_73 : decode cX6_triedFigure 73 = .ok (.pop, 1) := by decide +kernel
theorem dX6_triedFigure_74 : decode cX6_triedFigure 74 = .ok (.iconst 1, 1) := by decide +kernel
theorem dX6_triedFigure_75 : decode cX6_triedFigure 75 = .ok (.ireturn, 1) := by decide +kernel
theorem dX6_refusalOfPlan_0 : decode cX6_refusalOfPlan 0 = .ok (.aload_n 0, 1) := by decide +kernel
theorem dX6_refusalOfPlan_1 : decode cX6_refusalOfPlan 1 = .ok (.iload_n 1, 1) := by decide +kernel
theorem dX6_refusalOfPlan_2 : decode cX6_refusalOfPlan 2 = .ok (.invokevirtual 116, 3) := by decide +kernel
theorem dX6_refusalOfPlan_5 : decode cX6_refusalOfPlan 5 = .ok (.ifCond .ne 5, 3) := by decide +kernel
theorem dX6_refusalOfPlan_8 : decode cX6_refusalOfPlan 8 = .ok (.iconst (-1), 1) := by decide +kernel
theorem dX6_refusalOfPlan_9 : decode cX6_refusalOfPlan 9 = .ok (.ireturn, 1) := by decide +kernel
theorem dX6_refusalOfPlan_10 : decode cX6_refusalOfPlan 10 = .ok (.iload_n 2, 1) := by decide +kernel
theorem dX6_refusalOfPlan_11 : decode cX6_refusalOfPlan 11 = .ok (.ifCond .lt 16, 3) := by decide +kernel
theorem dX6_refusalOfPlan_14 : decode cX6_refusalOfPlan 14 = .ok (.iload_n 2, 1) := by decide +kernel
theorem dX6_refusalOfPlan_15 : decode cX6_refusalOfPlan 15 = .ok (.iconst 1, 1) := by decide +kernel
theorem dX6_refusalOfPlan_16 : decode cX6_refusalOfPlan 16 = .ok (.aload_n 0, 1) := by decide +kernel
theorem dX6_refusalOfPlan_17 : decode cX6_refusalOfPlan 17 = .ok (.getfield 47, 3) := by decide +kernel
theorem dX6_refusalOfPlan_20 : decode cX6_refusalOfPlan 20 = .ok (.getfield 85, 3) := by decide +kernel
theorem dX6_refusalOfPlan_23 : decode cX6_refusalOfPlan 23 = .ok (.ishl, 1) := by decide +kernel
theorem dX6_refusalOfPlan_24 : decode cX6_refusalOfPlan 24 = .ok (.if_icmp .lt 6, 3) := by decide +kernel
theorem dX6_refusalOfPlan_27 : decode cX6_refusalOfPlan 27 = .ok (.bipush (-2), 2) := by decide +kernel
theorem dX6_refusalOfPlan_29 : decode cX6_refusalOfPlan 29 = .ok (.ireturn, 1) := by decide +kernel
theorem dX6_refusalOfPlan_30 : decode cX6_refusalOfPlan 30 = .ok (.aload_n 0, 1) := by decide +kernel
theorem dX6_refusalOfPlan_31 : decode cX6_refusalOfPlan 31 = .ok (.getfield 47, 3) := by decide +kernel
theorem dX6_refusalOfPlan_34 : decode cX6_refusalOfPlan 34 = .ok (.getfield 91, 3) := by decide +kernel
theorem dX6_refusalOfPlan_37 : decode cX6_refusalOfPlan 37 = .ok (.ifCond .eq 8, 3) := by decide +kernel
theorem dX6_refusalOfPlan_40 : decode cX6_refusalOfPlan 40 = .ok (.bipush (-3), 2) := by decide +kernel
theorem dX6_refusalOfPlan_42 : decode cX6_refusalOfPlan 42 = .ok (.goto 4, 3) := by decide +kernel
theorem dX6_refusalOfPlan_45 : decode cX6_refusalOfPlan 45 = .ok (.iconst 0, 1) := by decide +kernel
theorem dX6_refusalOfPlan_46 : decode cX6_refusalOfPlan 46 = .ok (.ireturn, 1) := by decide +kernel
theorem dX6_leastTellings_0 : decode cX6_leastTellings 0 = .ok (.aload_n 0, 1) := by decide +kernel
theorem dX6_leastTellings_1 : decode cX6_leastTellings 1 = .ok (.getfield 59, 3) := by decide +kernel
theorem dX6_leastTellings_4 : decode cX6_leastTellings 4 = .ok (.aload_n 0, 1) := by decide +kernel
theorem dX6_leastTellings_5 : decode cX6_leastTellings 5 = .ok (.getfield 47, 3) := by decide +kernel
theorem dX6_leastTellings_8 : decode cX6_leastTellings 8 = .ok (.iload_n 2, 1) := by decide +kernel
theorem dX6_leastTellings_9 : decode cX6_leastTellings 9 = .ok (.invokevirtual 219, 3) := by decide +kernel
theorem dX6_leastTellings_12 : decode cX6_leastTellings 12 = .ok (.aload_n 0, 1) := by decide +kernel
theorem dX6_leastTellings_13 : decode cX6_leastTellings 13 = .ok (.getfield 59, 3) := by decide +kernel
theorem dX6_leastTellings_16 : decode cX6_leastTellings 16 = .ok (.aload_n 0, 1) := by decide +kernel
theorem dX6_leastTellings_17 : decode cX6_leastTellings 17 = .ok (.getfield 19, 3) := by decide +kernel
theorem dX6_leastTellings_20 : decode cX6_leastTellings 20 = .ok (.getfield 94, 3) := by decide +kernel
theorem dX6_leastTellings_23 : decode cX6_leastTellings 23 = .ok (.aload_n 0, 1) := by decide +kernel
theorem dX6_leastTellings_24 : decode cX6_leastTellings 24 = .ok (.getfield 19, 3) := by decide +kernel
theorem dX6_leastTellings_27 : decode cX6_leastTellings 27 = .ok (.getfield 130, 3) := by decide +kernel
theorem dX6_leastTellings_30 : decode cX6_leastTellings 30 = .ok (.iload_n 1, 1) := by decide +kernel
theorem dX6_leastTellings_31 : decode cX6_leastTellings 31 = .ok (.iaload, 1) := by decide +kernel
theorem dX6_leastTellings_32 : decode cX6_leastTellings 32 = .ok (.invokevirtual 262, 3) := by decide +kernel
theorem dX6_leastTellings_35 : decode cX6_leastTellings 35 = .ok (.istore_n 3, 1) := by decide +kernel
theorem dX6_leastTellings_36 : decode cX6_leastTellings 36 = .ok (.iload_n 3, 1) := by decide +kernel
theorem dX6_leastTellings_37 : decode cX6_leastTellings 37 = .ok (.aload_n 0, 1) := by decide +kernel
theorem dX6_leastTellings_38 : decode cX6_leastTellings 38 = .ok (.iload_n 1, 1) := by decide +kernel
theorem dX6_leastTellings_39 : decode cX6_leastTellings 39 = .ok (.invokevirtual 201, 3) := by decide +kernel
theorem dX6_leastTellings_42 : decode cX6_leastTellings 42 = .ok (.if_icmp .gt 7, 3) := by decide +kernel
theorem dX6_leastTellings_45 : decode cX6_leastTellings 45 = .ok (.iload_n 3, 1) := by decide +kernel
theorem dX6_leastTellings_46 : decode cX6_leastTellings 46 = .ok (.goto 5, 3) := by decide +kernel
theorem dX6_leastTellings_49 : decode cX6_leastTellings 49 = .ok (.bipush (-9), 2) := by decide +kernel
theorem dX6_leastTellings_51 : decode cX6_leastTellings 51 = .ok (.ireturn, 1) := by decide +kernel
theorem dX6_hoursOfHearing_0 : decode cX6_hoursOfHearing 0 = .ok (.iconst 0, 1) := by decide +kernel
theorem dX6_hoursOfHearing_1 : decode cX6_hoursOfHearing 1 = .ok (.istore 4, 2) := by decide +kernel
theorem dX6_hoursOfHearing_3 : decode cX6_hoursOfHearing 3 = .ok (.aload_n 0, 1) := by decide +kernel
theorem dX6_hoursOfHearing_4 : decode cX6_hoursOfHearing 4 = .ok (.getfield 19, 3) := by decide +kernel
theorem dX6_hoursOfHearing_7 : decode cX6_hoursOfHearing 7 = .ok (.getfield 94, 3) := by decide +kernel
theorem dX6_hoursOfHearing_10 : decode cX6_hoursOfHearing 10 = .ok (.istore 5, 2) := by decide +kernel
theorem dX6_hoursOfHearing_12 : decode cX6_hoursOfHearing 12 = .ok (.iload 5, 2) := by decide +kernel
theorem dX6_hoursOfHearing_14 : decode cX6_hoursOfHearing 14 = .ok (.bipush 6, 2) := by decide +kernel
theorem dX6_hoursOfHearing_16 : decode cX6_hoursOfHearing 16 = .ok (.if_icmp .ge 59, 3) := by decide +kernel
theorem dX6_hoursOfHearing_19 : decode cX6_hoursOfHearing 19 = .ok (.aload_n 0, 1) := by decide +kernel
theorem dX6_hoursOfHearing_20 : decode cX6_hoursOfHearing 20 = .ok (.getfield 47, 3) := by decide +kernel
theorem dX6_hoursOfHearing_23 : decode cX6_hoursOfHearing 23 = .ok (.iload 5, 2) := by decide +kernel
theorem dX6_hoursOfHearing_25 : decode cX6_hoursOfHearing 25 = .ok (.iload_n 3, 1) := by decide +kernel
theorem dX6_hoursOfHearing_26 : decode cX6_hoursOfHearing 26 = .ok (.invokevirtual 265, 3) := by decide +kernel
theorem dX6_hoursOfHearing_29 : decode cX6_hoursOfHearing 29 = .ok (.aload_n 0, 1) := by decide +kernel
theorem dX6_hoursOfHearing_30 : decode cX6_hoursOfHearing 30 = .ok (.getfield 19, 3) := by decide +kernel
theorem dX6_hoursOfHearing_33 : decode cX6_hoursOfHearing 33 = .ok (.getfield 130, 3) := by decide +kernel
theorem dX6_hoursOfHearing_36 : decode cX6_hoursOfHearing 36 = .ok (.iload_n 1, 1) := by decide +kernel
theorem dX6_hoursOfHearing_37 : decode cX6_hoursOfHearing 37 = .ok (.iaload, 1) := by decide +kernel
theorem dX6_hoursOfHearing_38 : decode cX6_hoursOfHearing 38 = .ok (.iand, 1) := by decide +kernel
theorem dX6_hoursOfHearing_39 : decode cX6_hoursOfHearing 39 = .ok (.iconst 1, 1) := by decide +kernel
theorem dX6_hoursOfHearing_40 : decode cX6_hoursOfHearing 40 = .ok (.iload_n 2, 1) := by decide +kernel
theorem dX6_hoursOfHearing_41 : decode cX6_hoursOfHearing 41 = .ok (.ishl, 1) := by decide +kernel
theorem dX6_hoursOfHearing_42 : decode cX6_hoursOfHearing 42 = .ok (.iconst (-1), 1) := by decide +kernel
theorem dX6_hoursOfHearing_43 : decode cX6_hoursOfHearing 43 = .ok (.ixor, 1) := by decide +kernel
theorem dX6_hoursOfHearing_44 : decode cX6_hoursOfHearing 44 = .ok (.iand, 1) := by decide +kernel
theorem dX6_hoursOfHearing_45 : decode cX6_hoursOfHearing 45 = .ok (.istore 6, 2) := by decide +kernel
theorem dX6_hoursOfHearing_47 : decode cX6_hoursOfHearing 47 = .ok (.aload_n 0, 1) := by decide +kernel
theorem dX6_hoursOfHearing_48 : decode cX6_hoursOfHearing 48 = .ok (.getfield 47, 3) := by decide +kernel
theorem dX6_hoursOfHearing_51 : decode cX6_hoursOfHearing 51 = .ok (.iload_n 2, 1) := by decide +kernel
theorem dX6_hoursOfHearing_52 : decode cX6_hoursOfHearing 52 = .ok (.iload 5, 2) := by decide +kernel
theorem dX6_hoursOfHearing_54 : decode cX6_hoursOfHearing 54 = .ok (.invokevirtual 112, 3) := by decide +kernel
theorem dX6_hoursOfHearing_57 : decode cX6_hoursOfHearing 57 = .ok (.iload_n 3, 1) := by decide +kernel
theorem dX6_hoursOfHearing_58 : decode cX6_hoursOfHearing 58 = .ok (.if_icmp .ne 11, 3) := by decide +kernel
theorem dX6_hoursOfHearing_61 : decode cX6_hoursOfHearing 61 = .ok (.iload 6, 2) := by decide +kernel
theorem dX6_hoursOfHearing_63 : decode cX6_hoursOfHearing 63 = .ok (.ifCond .eq 6, 3) := by decide +kernel
theorem dX6_hoursOfHearing_66 : decode cX6_hoursOfHearing 66 = .ok (.iinc 4 1, 3) := by decide +kernel
theorem dX6_hoursOfHearing_69 : decode cX6_hoursOfHearing 69 = .ok (.iinc 5 1, 3) := by decide +kernel
theorem dX6_hoursOfHearing_72 : decode cX6_hoursOfHearing 72 = .ok (.goto (-60), 3) := by decide +kernel
theorem dX6_hoursOfHearing_75 : decode cX6_hoursOfHearing 75 = .ok (.iload 4, 2) := by decide +kernel
theorem dX6_hoursOfHearing_77 : decode cX6_hoursOfHearing 77 = .ok (.ireturn, 1) := by decide +kernel
theorem dX6_powerOf_0 : decode cX6_powerOf 0 = .ok (.iconst 1, 1) := by decide +kernel
theorem dX6_powerOf_1 : decode cX6_powerOf 1 = .ok (.istore_n 2, 1) := by decide +kernel
theorem dX6_powerOf_2 : decode cX6_powerOf 2 = .ok (.iconst 0, 1) := by decide +kernel
theorem dX6_powerOf_3 : decode cX6_powerOf 3 = .ok (.istore_n 3, 1) := by decide +kernel
theorem dX6_powerOf_4 : decode cX6_powerOf 4 = .ok (.iload_n 3, 1) := by decide +kernel
theorem dX6_powerOf_5 : decode cX6_powerOf 5 = .ok (.iload_n 1, 1) := by decide +kernel
theorem dX6_powerOf_6 : decode cX6_powerOf 6 = .ok (.if_icmp .ge 13, 3) := by decide +kernel
theorem dX6_powerOf_9 : decode cX6_powerOf 9 = .ok (.iload_n 2, 1) := by decide +kernel
theorem dX6_powerOf_10 : decode cX6_powerOf 10 = .ok (.iload_n 0, 1) := by decide +kernel
theorem dX6_powerOf_11 : decode cX6_powerOf 11 = .ok (.imul, 1) := by decide +kernel
theorem dX6_powerOf_12 : decode cX6_powerOf 12 = .ok (.istore_n 2, 1) := by decide +kernel
theorem dX6_powerOf_13 : decode cX6_powerOf 13 = .ok (.iinc 3 1, 3) := by decide +kernel
theorem dX6_powerOf_16 : decode cX6_powerOf 16 = .ok (.goto (-12), 3) := by decide +kernel
theorem dX6_powerOf_19 : decode cX6_powerOf 19 = .ok (.iload_n 2, 1) := by decide +kernel
theorem dX6_powerOf_20 : decode cX6_powerOf 20 = .ok (.ireturn, 1) := by decide +kernel
theorem dX6_figureOf_0 : decode cX6_figureOf 0 = .ok (.iload_n 0, 1) := by decide +kernel
theorem dX6_figureOf_1 : decode cX6_figureOf 1 = .ok (.istore_n 2, 1) := by decide +kernel
theorem dX6_figureOf_2 : decode cX6_figureOf 2 = .ok (.iconst 0, 1) := by decide +kernel
theorem dX6_figureOf_3 : decode cX6_figureOf 3 = .ok (.istore_n 3, 1) := by decide +kernel
theorem dX6_figureOf_4 : decode cX6_figureOf 4 = .ok (.iload_n 3, 1) := by decide +kernel
theorem dX6_figureOf_5 : decode cX6_figureOf 5 = .ok (.iload_n 1, 1) := by decide +kernel
theorem dX6_figureOf_6 : decode cX6_figureOf 6 = .ok (.if_icmp .ge 14, 3) := by decide +kernel
theorem dX6_figureOf_9 : decode cX6_figureOf 9 = .ok (.iload_n 2, 1) := by decide +kernel
theorem dX6_figureOf_10 : decode cX6_figureOf 10 = .ok (.bipush 10, 2) := by decide +kernel
theorem dX6_figureOf_12 : decode cX6_figureOf 12 = .ok (.idiv, 1) := by decide +kernel
theorem dX6_figureOf_13 : decode cX6_figureOf 13 = .ok (.istore_n 2, 1) := by decide +kernel
theorem dX6_figureOf_14 : decode cX6_figureOf 14 = .ok (.iinc 3 1, 3) := by decide +kernel
theorem dX6_figureOf_17 : decode cX6_figureOf 17 = .ok (.goto (-13), 3) := by decide +kernel
theorem dX6_figureOf_20 : decode cX6_figureOf 20 = .ok (.iload_n 2, 1) := by decide +kernel
theorem dX6_figureOf_21 : decode cX6_figureOf 21 = .ok (.bipush 10, 2) := by decide +kernel
theorem dX6_figureOf_23 : decode cX6_figureOf 23 = .ok (.irem, 1) := by decide +kernel
theorem dX6_figureOf_24 : decode cX6_figureOf 24 = .ok (.ireturn, 1) := by decide +kernel
theorem dX6_fraction_0 : decode cX6_fraction 0 = .ok (.bipush 10, 2) := by decide +kernel
theorem dX6_fraction_2 : decode cX6_fraction 2 = .ok (.iload_n 1, 1) := by decide +kernel
theorem dX6_fraction_3 : decode cX6_fraction 3 = .ok (.invokestatic 179, 3) := by decide +kernel
theorem dX6_fraction_6 : decode cX6_fraction 6 = .ok (.istore_n 3, 1) := by decide +kernel
theorem dX6_fraction_7 : decode cX6_fraction 7 = .ok (.iload_n 3, 1) := by decide +kernel
theorem dX6_fraction_8 : decode cX6_fraction 8 = .ok (.iload_n 0, 1) := by decide +kernel
theorem dX6_fraction_9 : decode cX6_fraction 9 = .ok (.iload_n 1, 1) := by decide +kernel
theorem dX6_fraction_10 : decode cX6_fraction 10 = .ok (.invokestatic 179, 3) := by decide +kernel
theorem dX6_fraction_13 : decode cX6_fraction 13 = .ok (.isub, 1) := by decide +kernel
theorem dX6_fraction_14 : decode cX6_fraction 14 = .ok (.istore 4, 2) := by decide +kernel
theorem dX6_fraction_16 : decode cX6_fraction 16 = .ok (.iconst 0, 1) := by decide +kernel
theorem dX6_fraction_17 : decode cX6_fraction 17 = .ok (.istore 5, 2) := by decide +kernel
theorem dX6_fraction_19 : decode cX6_fraction 19 = .ok (.iload 5, 2) := by decide +kernel
theorem dX6_fraction_21 : decode cX6_fraction 21 = .ok (.iload_n 1, 1) := by decide +kernel
theorem dX6_fraction_22 : decode cX6_fraction 22 = .ok (.if_icmp .ge 55, 3) := by decide +kernel
theorem dX6_fraction_25 : decode cX6_fraction 25 = .ok (.iload 4, 2) := by decide +kernel
theorem dX6_fraction_27 : decode cX6_fraction 27 = .ok (.iconst 2, 1) := by decide +kernel
theorem dX6_fraction_28 : decode cX6_fraction 28 = .ok (.irem, 1) := by decide +kernel
theorem dX6_fraction_29 : decode cX6_fraction 29 = .ok (.ifCond .ne 19, 3) := by decide +kernel
theorem dX6_fraction_32 : decode cX6_fraction 32 = .ok (.iload_n 3, 1) := by decide +kernel
theorem dX6_fraction_33 : decode cX6_fraction 33 = .ok (.iconst 2, 1) := by decide +kernel
theorem dX6_fraction_34 : decode cX6_fraction 34 = .ok (.irem, 1) := by decide +kernel
theorem dX6_fraction_35 : decode cX6_fraction 35 = .ok (.ifCond .ne 13, 3) := by decide +kernel
theorem dX6_fraction_38 : decode cX6_fraction 38 = .ok (.iload 4, 2) := by decide +kernel
theorem dX6_fraction_40 : decode cX6_fraction 40 = .ok (.iconst 2, 1) := by decide +kernel
theorem dX6_fraction_41 : decode cX6_fraction 41 = .ok (.idiv, 1) := by decide +kernel
theorem dX6_fraction_42 : decode cX6_fraction 42 = .ok (.istore 4, 2) := by decide +kernel
theorem dX6_fraction_44 : decode cX6_fraction 44 = .ok (.iload_n 3, 1) := by decide +kernel
theorem dX6_fraction_45 : decode cX6_fraction 45 = .ok (.iconst 2, 1) := by decide +kernel
theorem dX6_fraction_46 : decode cX6_fraction 46 = .ok (.idiv, 1) := by decide +kernel
theorem dX6_fraction_47 : decode cX6_fraction 47 = .ok (.istore_n 3, 1) := by decide +kernel
theorem dX6_fraction_48 : decode cX6_fraction 48 = .ok (.iload 4, 2) := by decide +kernel
theorem dX6_fraction_50 : decode cX6_fraction 50 = .ok (.iconst 5, 1) := by decide +kernel
theorem dX6_fraction_51 : decode cX6_fraction 51 = .ok (.irem, 1) := by decide +kernel
theorem dX6_fraction_52 : decode cX6_fraction 52 = .ok (.ifCond .ne 19, 3) := by decide +kernel
theorem dX6_fraction_55 : decode cX6_fraction 55 = .ok (.iload_n 3, 1) := by decide +kernel
theorem dX6_fraction_56 : decode cX6_fraction 56 = .ok (.iconst 5, 1) := by decide +kernel
theorem dX6_fraction_57 : decode cX6_fraction 57 = .ok (.irem, 1) := by decide +kernel
theorem dX6_fraction_58 : decode cX6_fraction 58 = .ok (.ifCond .ne 13, 3) := by decide +kernel
theorem dX6_fraction_61 : decode cX6_fraction 61 = .ok (.iload 4, 2) := by decide +kernel
theorem dX6_fraction_63 : decode cX6_fraction 63 = .ok (.iconst 5, 1) := by decide +kernel
theorem dX6_fraction_64 : decode cX6_fraction 64 = .ok (.idiv, 1) := by decide +kernel
theorem dX6_fraction_65 : decode cX6_fraction 65 = .ok (.istore 4, 2) := by decide +kernel
theorem dX6_fraction_67 : decode cX6_fraction 67 = .ok (.iload_n 3, 1) := by decide +kernel
theorem dX6_fraction_68 : decode cX6_fraction 68 = .ok (.iconst 5, 1) := by decide +kernel
theorem dX6_fraction_69 : decode cX6_fraction 69 = .ok (.idiv, 1) := by decide +kernel
theorem dX6_fraction_70 : decode cX6_fraction 70 = .ok (.istore_n 3, 1) := by decide +kernel
theorem dX6_fraction_71 : decode cX6_fraction 71 = .ok (.iinc 5 1, 3) := by decide +kernel
theorem dX6_fraction_74 : decode cX6_fraction 74 = .ok (.goto (-55), 3) := by decide +kernel
theorem dX6_fraction_77 : decode cX6_fraction 77 = .ok (.iload_n 2, 1) := by decide +kernel
theorem dX6_fraction_78 : decode cX6_fraction 78 = .ok (.ifCond .eq 8, 3) := by decide +kernel
theorem dX6_fraction_81 : decode cX6_fraction 81 = .ok (.iload 4, 2) := by decide +kernel
theorem dX6_fraction_83 : decode cX6_fraction 83 = .ok (.goto 4, 3) := by decide +kernel
theorem dX6_fraction_86 : decode cX6_fraction 86 = .ok (.iload_n 3, 1) := by decide +kernel
theorem dX6_fraction_87 : decode cX6_fraction 87 = .ok (.ireturn, 1) := by decide +kernel
theorem dX6_joinHalves_0 : decode cX6_joinHalves 0 = .ok (.iload_n 1, 1) := by decide +kernel
theorem dX6_joinHalves_1 : decode cX6_joinHalves 1 = .ok (.iconst 3, 1) := by decide +kernel
theorem dX6_joinHalves_2 : decode cX6_joinHalves 2 = .ok (.if_icmp .ne 16, 3) := by decide +kernel
theorem dX6_joinHalves_5 : decode cX6_joinHalves 5 = .ok (.aload_n 0, 1) := by decide +kernel
theorem dX6_joinHalves_6 : decode cX6_joinHalves 6 = .ok (.iconst 2, 1) := by decide +kernel
theorem dX6_joinHalves_7 : decode cX6_joinHalves 7 = .ok (.dup2, 1) := by decide +kernel
theorem dX6_joinHalves_8 : decode cX6_joinHalves 8 = .ok (.iaload, 1) := by decide +kernel
theorem dX6_joinHalves_9 : decode cX6_joinHalves 9 = .ok (.aload_n 0, 1) := by decide +kernel
theorem dX6_joinHalves_10 : decode cX6_joinHalves 10 = .ok (.iconst 0, 1) := by decide +kernel
theorem dX6_joinHalves_11 : decode cX6_joinHalves 11 = .ok (.iaload, 1) := by decide +kernel
theorem dX6_joinHalves_12 : decode cX6_joinHalves 12 = .ok (.aload_n 0, 1) := by decide +kernel
theorem dX6_joinHalves_13 : decode cX6_joinHalves 13 = .ok (.iconst 1, 1) := by decide +kernel
theorem dX6_joinHalves_14 : decode cX6_joinHalves 14 = .ok (.iaload, 1) := by decide +kernel
theorem dX6_joinHalves_15 : decode cX6_joinHalves 15 = .ok (.iand, 1) := by decide +kernel
theorem dX6_joinHalves_16 : decode cX6_joinHalves 16 = .ok (.ior, 1) := by decide +kernel
theorem dX6_joinHalves_17 : decode cX6_joinHalves 17 = .ok (.iastore, 1) := by decide +kernel
theorem dX6_joinHalves_18 : decode cX6_joinHalves 18 = .ok (.return_, 1) := by decide +kernel
theorem dX7_init_0 : decode cX7_init 0 = .ok (.aload_n 0, 1) := by decide +kernel
theorem dX7_init_1 : decode cX7_init 1 = .ok (.invokespecial 1, 3) := by decide +kernel
theorem dX7_init_4 : decode cX7_init 4 = .ok (.aload_n 0, 1) := by decide +kernel
theorem dX7_init_5 : decode cX7_init 5 = .ok (.bipush 72, 2) := by decide +kernel
theorem dX7_init_7 : decode cX7_init 7 = .ok (.newarray .int, 2) := by decide +kernel
theorem dX7_init_9 : decode cX7_init 9 = .ok (.putfield 7, 3) := by decide +kernel
theorem dX7_init_12 : decode cX7_init 12 = .ok (.aload_n 0, 1) := by decide +kernel
theorem dX7_init_13 : decode cX7_init 13 = .ok (.bipush 36, 2) := by decide +kernel
theorem dX7_init_15 : decode cX7_init 15 = .ok (.newarray .int, 2) := by decide +kernel
theorem dX7_init_17 : decode cX7_init 17 = .ok (.putfield 13, 3) := by decide +kernel
theorem dX7_init_20 : decode cX7_init 20 = .ok (.aload_n 0, 1) := by decide +kernel
theorem dX7_init_21 : decode cX7_init 21 = .ok (.iconst 3, 1) := by decide +kernel
theorem dX7_init_22 : decode cX7_init 22 = .ok (.newarray .int, 2) := by decide +kernel
theorem dX7_init_24 : decode cX7_init 24 = .ok (.putfield 16, 3) := by decide +kernel
theorem dX7_init_27 : decode cX7_init 27 = .ok (.aload_n 0, 1) := by decide +kernel
theorem dX7_init_28 : decode cX7_init 28 = .ok (.iconst 3, 1) := by decide +kernel
theorem dX7_init_29 : decode cX7_init 29 = .ok (.newarray .int, 2) := by decide +kernel
theorem dX7_init_31 : decode cX7_init 31 = .ok (.putfield 19, 3) := by decide +kernel
theorem dX7_init_34 : decode cX7_init 34 = .ok (.aload_n 0, 1) := by decide +kernel
theorem dX7_init_35 : decode cX7_init 35 = .ok (.iconst 3, 1) := by decide +kernel
theorem dX7_init_36 : decode cX7_init 36 = .ok (.newarray .int, 2) := by decide +kernel
theorem dX7_init_38 : decode cX7_init 38 = .ok (.putfield 22, 3) := by decide +kernel
theorem dX7_init_41 : decode cX7_init 41 = .ok (.aload_n 0, 1) := by decide +kernel
theorem dX7_init_42 : decode cX7_init 42 = .ok (.bipush 58, 2) := by decide +kernel
theorem dX7_init_44 : decode cX7_init 44 = .ok (.newarray .int, 2) := by decide +kernel
theorem dX7_init_46 : decode cX7_init 46 = .ok (.putfield 25, 3) := by decide +kernel
theorem dX7_init_49 : decode cX7_init 49 = .ok (.aload_n 0, 1) := by decide +kernel
theorem dX7_init_50 : decode cX7_init 50 = .ok (.bipush 36, 2) := by decide +kernel
theorem dX7_init_52 : decode cX7_init 52 = .ok (.newarray .int, 2) := by decide +kernel
theorem dX7_init_54 : decode cX7_init 54 = .ok (.putfield 28, 3) := by decide +kernel
theorem dX7_init_57 : decode cX7_init 57 = .ok (.aload_n 0, 1) := by decide +kernel
theorem dX7_init_58 : decode cX7_init 58 = .ok (.iconst 3, 1) := by decide +kernel
theorem dX7_init_59 : decode cX7_init 59 = .ok (.newarray .int, 2) := by decide +kernel
theorem dX7_init_61 : decode cX7_init 61 = .ok (.putfield 31, 3) := by decide +kernel
theorem dX7_init_64 : decode cX7_init 64 = .ok (.aload_n 0, 1) := by decide +kernel
theorem dX7_init_65 : decode cX7_init 65 = .ok (.iconst 3, 1) := by decide +kernel
theorem dX7_init_66 : decode cX7_init 66 = .ok (.newarray .int, 2) := by decide +kernel
theorem dX7_init_68 : decode cX7_init 68 = .ok (.putfield 34, 3) := by decide +kernel
theorem dX7_init_71 : decode cX7_init 71 = .ok (.aload_n 0, 1) := by decide +kernel
theorem dX7_init_72 : decode cX7_init 72 = .ok (.iconst 3, 1) := by decide +kernel
theorem dX7_init_73 : decode cX7_init 73 = .ok (.newarray .int, 2) := by decide +kernel
theorem dX7_init_75 : decode cX7_init 75 = .ok (.putfield 37, 3) := by decide +kernel
theorem dX7_init_78 : decode cX7_init 78 = .ok (.aload_n 0, 1) := by decide +kernel
theorem dX7_init_79 : decode cX7_init 79 = .ok (.sipush 928, 3) := by decide +kernel
theorem dX7_init_82 : decode cX7_init 82 = .ok (.newarray .int, 2) := by decide +kernel
theorem dX7_init_84 : decode cX7_init 84 = .ok (.putfield 40, 3) := by decide +kernel
theorem dX7_init_87 : decode cX7_init 87 = .ok (.aload_n 0, 1) := by decide +kernel
theorem dX7_init_88 : decode cX7_init 88 = .ok (.bipush 116, 2) := by decide +kernel
theorem dX7_init_90 : decode cX7_init 90 = .ok (.newarray .int, 2) := by decide +kernel
theorem dX7_init_92 : decode cX7_init 92 = .ok (.putfield 43, 3) := by decide +kernel
theorem dX7_init_95 : decode cX7_init 95 = .ok (.aload_n 0, 1) := by decide +kernel
theorem dX7_init_96 : decode cX7_init 96 = .ok (.iconst 2, 1) := by decide +kernel
theorem dX7_init_97 : decode cX7_init 97 = .ok (.newarray .boolean, 2) := by decide +kernel
theorem dX7_init_99 : decode cX7_init 99 = .ok (.putfield 46, 3) := by decide +kernel
theorem dX7_init_102 : decode cX7_init 102 = .ok (.aload_n 0, 1) := by decide +kernel
theorem dX7_init_103 : decode cX7_init 103 = .ok (.bipush 58, 2) := by decide +kernel
theorem dX7_init_105 : decode cX7_init 105 = .ok (.newarray .int, 2) := by decide +kernel
theorem dX7_init_107 : decode cX7_init 107 = .ok (.putfield 50, 3) := by decide +kernel
theorem dX7_init_110 : decode cX7_init 110 = .ok (.aload_n 0, 1) := by decide +kernel
theorem dX7_init_111 : decode cX7_init 111 = .ok (.bipush 8, 2) := by decide +kernel
theorem dX7_init_113 : decode cX7_init 113 = .ok (.newarray .int, 2) := by decide +kernel
theorem dX7_init_115 : decode cX7_init 115 = .ok (.putfield 53, 3) := by decide +kernel
theorem dX7_init_118 : decode cX7_init 118 = .ok (.aload_n 0, 1) := by decide +kernel
theorem dX7_init_119 : decode cX7_init 119 = .ok (.bipush 8, 2) := by decide +kernel
theorem dX7_init_121 : decode cX7_init 121 = .ok (.newarray .int, 2) := by decide +kernel
theorem dX7_init_123 : decode cX7_init 123 = .ok (.putfield 56, 3) := by decide +kernel
theorem dX7_init_126 : decode cX7_init 126 = .ok (.aload_n 0, 1) := by decide +kernel
theorem dX7_init_127 : decode cX7_init 127 = .ok (.bipush 8, 2) := by decide +kernel
theorem dX7_init_129 : decode cX7_init 129 = .ok (.newarray .boolean, 2) := by decide +kernel
theorem dX7_init_131 : decode cX7_init 131 = .ok (.putfield 59, 3) := by decide +kernel
theorem dX7_init_134 : decode cX7_init 134 = .ok (.aload_n 0, 1) := by decide +kernel
theorem dX7_init_135 : decode cX7_init 135 = .ok (.sipush 448, 3) := by decide +kernel
theorem dX7_init_138 : decode cX7_init 138 = .ok (.newarray .int, 2) := by decide +kernel
theorem dX7_init_140 : decode cX7_init 140 = .ok (.putfield 62, 3) := by decide +kernel
theorem dX7_init_143 : decode cX7_init 143 = .ok (.aload_n 0, 1) := by decide +kernel
theorem dX7_init_144 : decode cX7_init 144 = .ok (.sipush 640, 3) := by decide +kernel
theorem dX7_init_147 : decode cX7_init 147 = .ok (.newarray .int, 2) := by decide +kernel
theorem dX7_init_149 : decode cX7_init 149 = .ok (.putfield 65, 3) := by decide +kernel
theorem dX7_init_152 : decode cX7_init 152 = .ok (.aload_n 0, 1) := by decide +kernel
theorem dX7_init_153 : decode cX7_init 153 = .ok (.sipush 640, 3) := by decide +kernel
theorem dX7_init_156 : decode cX7_init 156 = .ok (.newarray .int, 2) := by decide +kernel
theorem dX7_init_158 : decode cX7_init 158 = .ok (.putfield 68, 3) := by decide +kernel
theorem dX7_init_161 : decode cX7_init 161 = .ok (.aload_n 0, 1) := by decide +kernel
theorem dX7_init_162 : decode cX7_init 162 = .ok (.sipush 640, 3) := by decide +kernel
theorem dX7_init_165 : decode cX7_init 165 = .ok (.newarray .boolean, 2) := by decide +kernel
theorem dX7_init_167 : decode cX7_init 167 = .ok (.putfield 71, 3) := by decide +kernel
theorem dX7_init_170 : decode cX7_init 170 = .ok (.aload_n 0, 1) := by decide +kernel
theorem dX7_init_171 : decode cX7_init 171 = .ok (.sipush 640, 3) := by decide +kernel
theorem dX7_init_174 : decode cX7_init 174 = .ok (.newarray .boolean, 2) := by decide +kernel
theorem dX7_init_176 : decode cX7_init 176 = .ok (.putfield 74, 3) := by decide +kernel
theorem dX7_init_179 : decode cX7_init 179 = .ok (.return_, 1) := by decide +kernel
theorem dX7_in_0 : decode cX7_in 0 = .ok (.lload_n 0, 1) := by decide +kernel
theorem dX7_in_1 : decode cX7_in 1 = .ok (.lload_n 2, 1) := by decide +kernel
theorem dX7_in_2 : decode cX7_in 2 = .ok (.lcmp, 1) := by decide +kernel
theorem dX7_in_3 : decode cX7_in 3 = .ok (.ifCond .lt 14, 3) := by decide +kernel
theorem dX7_in_6 : decode cX7_in 6 = .ok (.lload_n 0, 1) := by decide +kernel
theorem dX7_in_7 : decode cX7_in 7 = .ok (.lload 4, 2) := by decide +kernel
theorem dX7_in_9 : decode cX7_in 9 = .ok (.lcmp, 1) := by decide +kernel
theorem dX7_in_10 : decode cX7_in 10 = .ok (.ifCond .gt 7, 3) := by decide +kernel
theorem dX7_in_13 : decode cX7_in 13 = .ok (.iconst 1, 1) := by decide +kernel
theorem dX7_in_14 : decode cX7_in 14 = .ok (.goto 4, 3) := by decide +kernel
theorem dX7_in_17 : decode cX7_in 17 = .ok (.iconst 0, 1) := by decide +kernel
theorem dX7_in_18 : decode cX7_in 18 = .ok (.ireturn, 1) := by decide +kernel
theorem dX7_has_0 : decode cX7_has 0 = .ok (.iload_n 0, 1) := by decide +kernel
theorem dX7_has_1 : decode cX7_has 1 = .ok (.iload_n 1, 1) := by decide +kernel
theorem dX7_has_2 : decode cX7_has 2 = .ok (.ishr, 1) := by decide +kernel
theorem dX7_has_3 : decode cX7_has 3 = .ok (.iconst 1, 1) := by decide +kernel
theorem dX7_has_4 : decode cX7_has 4 = .ok (.iand, 1) := by decide +kernel
theorem dX7_has_5 : decode cX7_has 5 = .ok (.iconst 1, 1) := by decide +kernel
theorem dX7_has_6 : decode cX7_has 6 = .ok (.if_icmp .ne 7, 3) := by decide +kernel
theorem dX7_has_9 : decode cX7_has 9 = .ok (.iconst 1, 1) := by decide +kernel
theorem dX7_has_10 : decode cX7_has 10 = .ok (.goto 4, 3) := by decide +kernel
theorem dX7_has_13 : decode cX7_has 13 = .ok (.iconst 0, 1) := by decide +kernel
theorem dX7_has_14 : decode cX7_has 14 = .ok (.ireturn, 1) := by decide +kernel
theorem dX7_many_0 : decode cX7_many 0 = .ok (.iconst 0, 1) := by decide +kernel
theorem dX7_many_1 : decode cX7_many 1 = .ok (.istore_n 1, 1) := by decide +kernel
theorem dX7_many_2 : decode cX7_many 2 = .ok (.iconst 0, 1) := by decide +kernel
theorem dX7_many_3 : decode cX7_many 3 = .ok (.istore_n 2, 1) := by decide +kernel
theorem dX7_many_4 : decode cX7_many 4 = .ok (.iload_n 2, 1) := by decide +kernel
theorem dX7_many_5 : decode cX7_many 5 = .ok (.bipush 6, 2) := by decide +kernel
theorem dX7_many_7 : decode cX7_many 7 = .ok (.if_icmp .ge 17, 3) := by decide +kernel
theorem dX7_many_10 : decode cX7_many 10 = .ok (.iload_n 1, 1) := by decide +kernel
theorem dX7_many_11 : decode cX7_many 11 = .ok (.iload_n 0, 1) := by decide +kernel
theorem dX7_many_12 : decode cX7_many 12 = .ok (.iload_n 2, 1) := by decide +kernel
theorem dX7_many_13 : decode cX7_many 13 = .ok (.ishr, 1) := by decide +kernel
theorem dX7_many_14 : decode cX7_many 14 = .ok (.iconst 1, 1) := by decide +kernel
theorem dX7_many_15 : decode cX7_many 15 = .ok (.iand, 1) := by decide +kernel
theorem dX7_many_16 : decode cX7_many 16 = .ok (.iadd, 1) := by decide +kernel
theorem dX7_many_17 : decode cX7_many 17 = .ok (.istore_n 1, 1) := by decide +kernel
theorem dX7_many_18 : decode cX7_many 18 = .ok (.iinc 2 1, 3) := by decide +kernel
theorem dX7_many_21 : decode cX7_many 21 = .ok (.goto (-17), 3) := by decide +kernel
theorem dX7_many_24 : decode cX7_many 24 = .ok (.iload_n 1, 1) := by decide +kernel
theorem dX7_many_25 : decode cX7_many 25 = .ok (.ireturn, 1) := by decide +kernel
theorem dX7_noOne_0 : decode cX7_noOne 0 = .ok (.iload_n 1, 1) := by decide +kernel
theorem dX7_noOne_1 : decode cX7_noOne 1 = .ok (.i2l, 1) := by decide +kernel
theorem dX7_noOne_2 : decode cX7_noOne 2 = .ok (.lconst 0, 1) := by decide +kernel
theorem dX7_noOne_3 : decode cX7_noOne 3 = .ok (.aload_n 0, 1) := by decide +kernel
theorem dX7_noOne_4 : decode cX7_noOne 4 = .ok (.getfield 81, 3) := by decide +kernel
theorem dX7_noOne_7 : decode cX7_noOne 7 = .ok (.iconst 1, 1) := by decide +kernel
theorem dX7_noOne_8 : decode cX7_noOne 8 = .ok (.isub, 1) := by decide +kernel
theorem dX7_noOne_9 : decode cX7_noOne 9 = .ok (.i2l, 1) := by decide +kernel
theorem dX7_noOne_10 : decode cX7_noOne 10 = .ok (.invokestatic 84, 3) := by decide +kernel
theorem dX7_noOne_13 : decode cX7_noOne 13 = .ok (.ifCond .ne 7, 3) := by decide +kernel
theorem dX7_noOne_16 : decode cX7_noOne 16 = .ok (.iconst 1, 1) := by decide +kernel
theorem dX7_noOne_17 : decode cX7_noOne 17 = .ok (.goto 4, 3) := by decide +kernel
theorem dX7_noOne_20 : decode cX7_noOne 20 = .ok (.iconst 0, 1) := by decide +kernel
theorem dX7_noOne_21 : decode cX7_noOne 21 = .ok (.ireturn, 1) := by decide +kernel
theorem dX7_noNews_0 : decode cX7_noNews 0 = .ok (.iload_n 1, 1) := by decide +kernel
theorem dX7_noNews_1 : decode cX7_noNews 1 = .ok (.i2l, 1) := by decide +kernel
theorem dX7_noNews_2 : decode cX7_noNews 2 = .ok (.lconst 0, 1) := by decide +kernel
theorem dX7_noNews_3 : decode cX7_noNews 3 = .ok (.aload_n 0, 1) := by decide +kernel
theorem dX7_noNews_4 : decode cX7_noNews 4 = .ok (.getfield 88, 3) := by decide +kernel
theorem dX7_noNews_7 : decode cX7_noNews 7 = .ok (.iconst 1, 1) := by decide +kernel
theorem dX7_noNews_8 : decode cX7_noNews 8 = .ok (.isub, 1) := by decide +kernel
theorem dX7_noNews_9 : decode cX7_noNews 9 = .ok (.i2l, 1) := by decide +kernel
theorem dX7_noNews_10 : decode cX7_noNews 10 = .ok (.invokestatic 84, 3) := by decide +kernel
theorem dX7_noNews_13 : decode cX7_noNews 13 = .ok (.ifCond .ne 7, 3) := by decide +kernel
theorem dX7_noNews_16 : decode cX7_noNews 16 = .ok (.iconst 1, 1) := by decide +kernel
theorem dX7_noNews_17 : decode cX7_noNews 17 = .ok (.goto 4, 3) := by decide +kernel
theorem dX7_noNews_20 : decode cX7_noNews 20 = .ok (.iconst 0, 1) := by decide +kernel
theorem dX7_noNews_21 : decode cX7_noNews 21 = .ok (.ireturn, 1) := by decide +kernel
theorem dX7_write_0 : decode cX7_write 0 = .ok (.aload_n 0, 1) := by decide +kernel
theorem dX7_write_1 : decode cX7_write 1 = .ok (.iconst 0, 1) := by decide +kernel
theorem dX7_write_2 : decode cX7_write 2 = .ok (.putfield 77, 3) := by decide +kernel
theorem dX7_write_5 : decode cX7_write 5 = .ok (.iload_n 1, 1) := by decide +kernel
theorem dX7_write_6 : decode cX7_write 6 = .ok (.i2l, 1) := by decide +kernel
theorem dX7_write_7 : decode cX7_write 7 = .ok (.lconst 1, 1) := by decide +kernel
theorem dX7_write_8 : decode cX7_write 8 = .ok (.ldc2_w 91, 3) := by decide +kernel
theorem dX7_write_11 : decode cX7_write 11 = .ok (.invokestatic 84, 3) := by decide +kernel
theorem dX7_write_14 : decode cX7_write 14 = .ok (.ifCond .ne 6, 3) := by decide +kernel
theorem dX7_write_17 : decode cX7_write 17 = .ok (.bipush (-2), 2) := by decide +kernel
theorem dX7_write_19 : decode cX7_write 19 = .ok (.ireturn, 1) := by decide +kernel
theorem dX7_write_20 : decode cX7_write 20 = .ok (.aload_n 0, 1) := by decide +kernel
theorem dX7_write_21 : decode cX7_write 21 = .ok (.getfield 93, 3) := by decide +kernel
theorem dX7_write_24 : decode cX7_write 24 = .ok (.iload_n 1, 1) := by decide +kernel
theorem dX7_write_25 : decode cX7_write 25 = .ok (.iadd, 1) := by decide +kernel
theorem dX7_write_26 : decode cX7_write 26 = .ok (.bipush 72, 2) := by decide +kernel
theorem dX7_write_28 : decode cX7_write 28 = .ok (.if_icmp .le 6, 3) := by decide +kernel
theorem dX7_write_31 : decode cX7_write 31 = .ok (.bipush (-4), 2) := by decide +kernel
theorem dX7_write_33 : decode cX7_write 33 = .ok (.ireturn, 1) := by decide +kernel
theorem dX7_write_34 : decode cX7_write 34 = .ok (.iload_n 1, 1) := by decide +kernel
theorem dX7_write_35 : decode cX7_write 35 = .ok (.iconst 1, 1) := by decide +kernel
theorem dX7_write_36 : decode cX7_write 36 = .ok (.isub, 1) := by decide +kernel
theorem dX7_write_37 : decode cX7_write 37 = .ok (.istore 4, 2) := by decide +kernel
theorem dX7_write_39 : decode cX7_write 39 = .ok (.iload 4, 2) := by decide +kernel
theorem dX7_write_41 : decode cX7_write 41 = .ok (.ifCond .lt 40, 3) := by decide +kernel
theorem dX7_write_44 : decode cX7_write 44 = .ok (.aload_n 0, 1) := by decide +kernel
theorem dX7_write_45 : decode cX7_write 45 = .ok (.getfield 7, 3) := by decide +kernel
theorem dX7_write_48 : decode cX7_write 48 = .ok (.aload_n 0, 1) := by decide +kernel
theorem dX7_write_49 : decode cX7_write 49 = .ok (.getfield 93, 3) := by decide +kernel
theorem dX7_write_52 : decode cX7_write 52 = .ok (.lload_n 2, 1) := by decide +kernel
theorem dX7_write_53 : decode cX7_write 53 = .ok (.bipush 8, 2) := by decide +kernel
theorem dX7_write_55 : decode cX7_write 55 = .ok (.iload 4, 2) := by decide +kernel
theorem dX7_write_57 : decode cX7_write 57 = .ok (.imul, 1) := by decide +kernel
theorem dX7_write_58 : decode cX7_write 58 = .ok (.lshr, 1) := by decide +kernel
theorem dX7_write_59 : decode cX7_write 59 = .ok (.l2i, 1) := by decide +kernel
theorem dX7_write_60 : decode cX7_write 60 = .ok (.sipush 255, 3) := by decide +kernel
theorem dX7_write_63 : decode cX7_write 63 = .ok (.iand, 1) := by decide +kernel
theorem dX7_write_64 : decode cX7_write 64 = .ok (.iastore, 1) := by decide +kernel
theorem dX7_write_65 : decode cX7_write 65 = .ok (.aload_n 0, 1) := by decide +kernel
theorem dX7_write_66 : decode cX7_write 66 = .ok (.dup, 1) := by decide +kernel
theorem dX7_write_67 : decode cX7_write 67 = .ok (.getfield 93, 3) := by decide +kernel
theorem dX7_write_70 : decode cX7_write 70 = .ok (.iconst 1, 1) := by decide +kernel
theorem dX7_write_71 : decode cX7_write 71 = .ok (.iadd, 1) := by decide +kernel
theorem dX7_write_72 : decode cX7_write 72 = .ok (.putfield 93, 3) := by decide +kernel
theorem dX7_write_75 : decode cX7_write 75 = .ok (.iinc 4 (-1), 3) := by decide +kernel
theorem dX7_write_78 : decode cX7_write 78 = .ok (.goto (-39), 3) := by decide +kernel
theorem dX7_write_81 : decode cX7_write 81 = .ok (.aload_n 0, 1) := by decide +kernel
theorem dX7_write_82 : decode cX7_write 82 = .ok (.getfield 93, 3) := by decide +kernel
theorem dX7_write_85 : decode cX7_write 85 = .ok (.ireturn, 1) := by decide +kernel
theorem dX7_wipe_0 : decode cX7_wipe 0 = .ok (.aload_n 0, 1) := by decide +kernel
theorem dX7_wipe_1 : decode cX7_wipe 1 = .ok (.iconst 0, 1) := by decide +kernel
theorem dX7_wipe_2 : decode cX7_wipe 2 = .ok (.putfield 77, 3) := by decide +kernel
theorem dX7_wipe_5 : decode cX7_wipe 5 = .ok (.aload_n 0, 1) := by decide +kernel
theorem dX7_wipe_6 : decode cX7_wipe 6 = .ok (.getfield 93, 3) := by decide +kernel
theorem dX7_wipe_9 : decode cX7_wipe 9 = .ok (.istore_n 1, 1) := by decide +kernel
theorem dX7_wipe_10 : decode cX7_wipe 10 = .ok (.aload_n 0, 1) := by decide +kernel
theorem dX7_wipe_11 : decode cX7_wipe 11 = .ok (.iconst 0, 1) := by decide +kernel
theorem dX7_wipe_12 : decode cX7_wipe 12 = .ok (.putfield 93, 3) := by decide +kernel
theorem dX7_wipe_15 : decode cX7_wipe 15 = .ok (.iload_n 1, 1) := by decide +kernel
theorem dX7_wipe_16 : decode cX7_wipe 16 = .ok (.ireturn, 1) := by decide +kernel
theorem dX7_figure_0 : decode cX7_figure 0 = .ok (.aload_n 0, 1) := by decide +kernel
theorem dX7_figure_1 : decode cX7_figure 1 = .ok (.getfield 96, 3) := by decide +kernel
theorem dX7_figure_4 : decode cX7_figure 4 = .ok (.aload_n 0, 1) := by decide +kernel
theorem dX7_figure_5 : decode cX7_figure 5 = .ok (.getfield 93, 3) := by decide +kernel
theorem dX7_figure_8 : decode cX7_figure 8 = .ok (.if_icmp .eq 26, 3) := by decide +kernel
theorem dX7_figure_11 : decode cX7_figure 11 = .ok (.aload_n 0, 1) := by decide +kernel
theorem dX7_figure_12 : decode cX7_figure 12 = .ok (.getfield 7, 3) := by decide +kernel
theorem dX7_figure_15 : decode cX7_figure 15 = .ok (.aload_n 0, 1) := by decide +kernel
theorem dX7_figure_16 : decode cX7_figure 16 = .ok (.getfield 96, 3) := by decide +kernel
theorem dX7_figure_19 : decode cX7_figure 19 = .ok (.iaload, 1) := by decide +kernel
theorem dX7_figure_20 : decode cX7_figure 20 = .ok (.bipush 48, 2) := by decide +kernel
theorem dX7_figure_22 : decode cX7_figure 22 = .ok (.isub, 1) := by decide +kernel
theorem dX7_figure_23 : decode cX7_figure 23 = .ok (.i2l, 1) := by decide +kernel
theorem dX7_figure_24 : decode cX7_figure 24 = .ok (.iload_n 1, 1) := by decide +kernel
theorem dX7_figure_25 : decode cX7_figure 25 = .ok (.i2l, 1) := by decide +kernel
theorem dX7_figure_26 : decode cX7_figure 26 = .ok (.iload_n 2, 1) := by decide +kernel
theorem dX7_figure_27 : decode cX7_figure 27 = .ok (.i2l, 1) := by decide +kernel
theorem dX7_figure_28 : decode cX7_figure 28 = .ok (.invokestatic 84, 3) := by decide +kernel
theorem dX7_figure_31 : decode cX7_figure 31 = .ok (.ifCond .ne 6, 3) := by decide +kernel
theorem dX7_figure_34 : decode cX7_figure 34 = .ok (.bipush (-9), 2) := by decide +kernel
theorem dX7_figure_36 : decode cX7_figure 36 = .ok (.ireturn, 1) := by decide +kernel
theorem dX7_figure_37 : decode cX7_figure 37 = .ok (.aload_n 0, 1) := by decide +kernel
theorem dX7_figure_38 : decode cX7_figure 38 = .ok (.dup, 1) := by decide +kernel
theorem dX7_figure_39 : decode cX7_figure 39 = .ok (.getfield 96, 3) := by decide +kernel
theorem dX7_figure_42 : decode cX7_figure 42 = .ok (.iconst 1, 1) := by decide +kernel
theorem dX7_figure_43 : decode cX7_figure 43 = .ok (.iadd, 1) := by decide +kernel
theorem dX7_figure_44 : decode cX7_figure 44 = .ok (.putfield 96, 3) := by decide +kernel
theorem dX7_figure_47 : decode cX7_figure 47 = .ok (.aload_n 0, 1) := by decide +kernel
theorem dX7_figure_48 : decode cX7_figure 48 = .ok (.getfield 7, 3) := by decide +kernel
theorem dX7_figure_51 : decode cX7_figure 51 = .ok (.aload_n 0, 1) := by decide +kernel
theorem dX7_figure_52 : decode cX7_figure 52 = .ok (.getfield 96, 3) := by decide +kernel
theorem dX7_figure_55 : decode cX7_figure 55 = .ok (.iconst 1, 1) := by decide +kernel
theorem dX7_figure_56 : decode cX7_figure 56 = .ok (.isub, 1) := by decide +kernel
theorem dX7_figure_57 : decode cX7_figure 57 = .ok (.iaload, 1) := by decide +kernel
theorem dX7_figure_58 : decode cX7_figure 58 = .ok (.bipush 48, 2) := by decide +kernel
theorem dX7_figure_60 : decode cX7_figure 60 = .ok (.isub, 1) := by decide +kernel
theorem dX7_figure_61 : decode cX7_figure 61 = .ok (.ireturn, 1) := by decide +kernel
theorem dX7_readPerson_0 : decode cX7_readPerson 0 = .ok (.iconst 0, 1) := by decide +kernel
theorem dX7_readPerson_1 : decode cX7_readPerson 1 = .ok (.istore_n 1, 1) := by decide +kernel
theorem dX7_readPerson_2 : decode cX7_readPerson 2 = .ok (.iload_n 1, 1) := by decide +kernel
theorem dX7_readPerson_3 : decode cX7_readPerson 3 = .ok (.bipush 6, 2) := by decide +kernel
theorem dX7_readPerson_5 : decode cX7_readPerson 5 = .ok (.if_icmp .ge 101, 3) := by decide +kernel
theorem dX7_readPerson_8 : decode cX7_readPerson 8 = .ok (.aload_n 0, 1) := by decide +kernel
theorem dX7_readPerson_9 : decode cX7_readPerson 9 = .ok (.getfield 96, 3) := by decide +kernel
theorem dX7_readPerson_12 : decode cX7_readPerson 12 = .ok (.aload_n 0, 1) := by decide +kernel
theorem dX7_readPerson_13 : decode cX7_readPerson 13 = .ok (.getfield 93, 3) := by decide +kernel
theorem dX7_readPerson_16 : decode cX7_readPerson 16 = .ok (.if_icmp .ge 21, 3) := by decide +kernel
theorem dX7_readPerson_19 : decode cX7_readPerson 19 = .ok (.aload_n 0, 1) := by decide +kernel
theorem dX7_readPerson_20 : decode cX7_readPerson 20 = .ok (.getfield 7, 3) := by decide +kernel
theorem dX7_readPerson_23 : decode cX7_readPerson 23 = .ok (.aload_n 0, 1) := by decide +kernel
theorem dX7_readPerson_24 : decode cX7_readPerson 24 = .ok (.getfield 96, 3) := by decide +kernel
theorem dX7_readPerson_27 : decode cX7_readPerson 27 = .ok (.iaload, 1) := by decide +kernel
theorem dX7_readPerson_28 : decode cX7_readPerson 28 = .ok (.bipush 45, 2) := by decide +kernel
theorem dX7_readPerson_30 : decode cX7_readPerson 30 = .ok (.if_icmp .ne 7, 3) := by decide +kernel
theorem dX7_readPerson_33 : decode cX7_readPerson 33 = .ok (.iconst 1, 1) := by decide +kernel
theorem dX7_readPerson_34 : decode cX7_readPerson 34 = .ok (.goto 4, 3) := by decide +kernel
theorem dX7_readPerson_37 : decode cX7_readPerson 37 = .ok (.iconst 0, 1) := by decide +kernel
theorem dX7_readPerson_38 : decode cX7_readPerson 38 = .ok (.istore_n 2, 1) := by decide +kernel
theorem dX7_readPerson_39 : decode cX7_readPerson 39 = .ok (.aload_n 0, 1) := by decide +kernel
theorem dX7_readPerson_40 : decode cX7_readPerson 40 = .ok (.dup, 1) := by decide +kernel
theorem dX7_readPerson_41 : decode cX7_readPerson 41 = .ok (.getfield 96, 3) := by decide +kernel
theorem dX7_readPerson_44 : decode cX7_readPerson 44 = .ok (.iload_n 2, 1) := by decide +kernel
theorem dX7_readPerson_45 : decode cX7_readPerson 45 = .ok (.ifCond .eq 7, 3) := by decide +kernel
theorem dX7_readPerson_48 : decode cX7_readPerson 48 = .ok (.iconst 1, 1) := by decide +kernel
theorem dX7_readPerson_49 : decode cX7_readPerson 49 = .ok (.goto 4, 3) := by decide +kernel
theorem dX7_readPerson_52 : decode cX7_readPerson 52 = .ok (.iconst 0, 1) := by decide +kernel
theorem dX7_readPerson_53 : decode cX7_readPerson 53 = .ok (.iadd, 1) := by decide +kernel
theorem dX7_readPerson_54 : decode cX7_readPerson 54 = .ok (.putfield 96, 3) := by decide +kernel
theorem dX7_readPerson_57 : decode cX7_readPerson 57 = .ok (.iload_n 2, 1) := by decide +kernel
theorem dX7_readPerson_58 : decode cX7_readPerson 58 = .ok (.ifCond .eq 8, 3) := by decide +kernel
theorem dX7_readPerson_61 : decode cX7_readPerson 61 = .ok (.bipush (-9), 2) := by decide +kernel
theorem dX7_readPerson_63 : decode cX7_readPerson 63 = .ok (.goto 9, 3) := by decide +kernel
theorem dX7_readPerson_66 : decode cX7_readPerson 66 = .ok (.aload_n 0, 1) := by decide +kernel
theorem dX7_readPerson_67 : decode cX7_readPerson 67 = .ok (.iconst 0, 1) := by decide +kernel
theorem dX7_readPerson_68 : decode cX7_readPerson 68 = .ok (.iconst 2, 1) := by decide +kernel
theorem dX7_readPerson_69 : decode cX7_readPerson 69 = .ok (.invokevirtual 99, 3) := by decide +kernel
theorem dX7_readPerson_72 : decode cX7_readPerson 72 = .ok (.istore_n 3, 1) := by decide +kernel
theorem dX7_readPerson_73 : decode cX7_readPerson 73 = .ok (.iload_n 2, 1) := by decide +kernel
theorem dX7_readPerson_74 : decode cX7_readPerson 74 = .ok (.ifCond .ne 11, 3) := by decide +kernel
theorem dX7_readPerson_77 : decode cX7_readPerson 77 = .ok (.iload_n 3, 1) := by decide +kernel
theorem dX7_readPerson_78 : decode cX7_readPerson 78 = .ok (.bipush (-9), 2) := by decide +kernel
theorem dX7_readPerson_80 : decode cX7_readPerson 80 = .ok (.if_icmp .ne 5, 3) := by decide +kernel
theorem dX7_readPerson_83 : decode cX7_readPerson 83 = .ok (.iconst 0, 1) := by decide +kernel
theorem dX7_readPerson_84 : decode cX7_readPerson 84 = .ok (.ireturn, 1) := by decide +kernel
theorem dX7_readPerson_85 : decode cX7_readPerson 85 = .ok (.aload_n 0, 1) := by decide +kernel
theorem dX7_readPerson_86 : decode cX7_readPerson 86 = .ok (.getfield 28, 3) := by decide +kernel
theorem dX7_readPerson_89 : decode cX7_readPerson 89 = .ok (.bipush 6, 2) := by decide +kernel
theorem dX7_readPerson_91 : decode cX7_readPerson 91 = .ok (.aload_n 0, 1) := by decide +kernel
theorem dX7_readPerson_92 : decode cX7_readPerson 92 = .ok (.getfield 103, 3) := by decide +kernel
theorem dX7_readPerson_95 : decode cX7_readPerson 95 = .ok (.imul, 1) := by decide +kernel
theorem dX7_readPerson_96 : decode cX7_readPerson 96 = .ok (.iload_n 1, 1) := by decide +kernel
theorem dX7_readPerson_97 : decode cX7_readPerson 97 = .ok (.iadd, 1) := by decide +kernel
theorem dX7_readPerson_98 : decode cX7_readPerson 98 = .ok (.iload_n 3, 1) := by decide +kernel
theorem dX7_readPerson_99 : decode cX7_readPerson 99 = .ok (.iastore, 1) := by decide +kernel
theorem dX7_readPerson_100 : decode cX7_readPerson 100 = .ok (.iinc 1 1, 3) := by decide +kernel
theorem dX7_readPerson_103 : decode cX7_readPerson 103 = .ok (.goto (-101), 3) := by decide +kernel
theorem dX7_readPerson_106 : decode cX7_readPerson 106 = .ok (.aload_n 0, 1) := by decide +kernel
theorem dX7_readPerson_107 : decode cX7_readPerson 107 = .ok (.dup, 1) := by decide +kernel
theorem dX7_readPerson_108 : decode cX7_readPerson 108 = .ok (.getfield 103, 3) := by decide +kernel
theorem dX7_readPerson_111 : decode cX7_readPerson 111 = .ok (.iconst 1, 1) := by decide +kernel
theorem dX7_readPerson_112 : decode cX7_readPerson 112 = .ok (.iadd, 1) := by decide +kernel
theorem dX7_readPerson_113 : decode cX7_readPerson 113 = .ok (.putfield 103, 3) := by decide +kernel
theorem dX7_readPerson_116 : decode cX7_readPerson 116 = .ok (.iconst 1, 1) := by decide +kernel
theorem dX7_readPerson_117 : decode cX7_readPerson 117 = .ok (.ireturn, 1) := by decide +kernel
theorem dX7_readNews_0 : decode cX7_readNews 0 = .ok (.aload_n 0, 1) := by decide +kernel
theorem dX7_readNews_1 : decode cX7_readNews 1 = .ok (.iconst 0, 1) := by decide +kernel
theorem dX7_readNews_2 : decode cX7_readNews 2 = .ok (.bipush 9, 2) := by decide +kernel
