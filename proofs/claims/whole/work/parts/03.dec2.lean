theorem dX7_readNews_4 : decode cX7_readNews 4 = .ok (.invokevirtual 99, 3) := by decide +kernel
theorem dX7_readNews_7 : decode cX7_readNews 7 = .ok (.istore_n 1, 1) := by decide +kernel
theorem dX7_readNews_8 : decode cX7_readNews 8 = .ok (.iload_n 1, 1) := by decide +kernel
theorem dX7_readNews_9 : decode cX7_readNews 9 = .ok (.bipush (-9), 2) := by decide +kernel
theorem dX7_readNews_11 : decode cX7_readNews 11 = .ok (.if_icmp .ne 8, 3) := by decide +kernel
theorem dX7_readNews_14 : decode cX7_readNews 14 = .ok (.bipush (-9), 2) := by decide +kernel
theorem dX7_readNews_16 : decode cX7_readNews 16 = .ok (.goto 10, 3) := by decide +kernel
theorem dX7_readNews_19 : decode cX7_readNews 19 = .ok (.aload_n 0, 1) := by decide +kernel
theorem dX7_readNews_20 : decode cX7_readNews 20 = .ok (.iconst 0, 1) := by decide +kernel
theorem dX7_readNews_21 : decode cX7_readNews 21 = .ok (.bipush 9, 2) := by decide +kernel
theorem dX7_readNews_23 : decode cX7_readNews 23 = .ok (.invokevirtual 99, 3) := by decide +kernel
theorem dX7_readNews_26 : decode cX7_readNews 26 = .ok (.istore_n 2, 1) := by decide +kernel
theorem dX7_readNews_27 : decode cX7_readNews 27 = .ok (.iload_n 2, 1) := by decide +kernel
theorem dX7_readNews_28 : decode cX7_readNews 28 = .ok (.bipush (-9), 2) := by decide +kernel
theorem dX7_readNews_30 : decode cX7_readNews 30 = .ok (.if_icmp .ne 5, 3) := by decide +kernel
theorem dX7_readNews_33 : decode cX7_readNews 33 = .ok (.iconst 0, 1) := by decide +kernel
theorem dX7_readNews_34 : decode cX7_readNews 34 = .ok (.ireturn, 1) := by decide +kernel
theorem dX7_readNews_35 : decode cX7_readNews 35 = .ok (.aload_n 0, 1) := by decide +kernel
theorem dX7_readNews_36 : decode cX7_readNews 36 = .ok (.getfield 31, 3) := by decide +kernel
theorem dX7_readNews_39 : decode cX7_readNews 39 = .ok (.aload_n 0, 1) := by decide +kernel
theorem dX7_readNews_40 : decode cX7_readNews 40 = .ok (.getfield 106, 3) := by decide +kernel
theorem dX7_readNews_43 : decode cX7_readNews 43 = .ok (.iload_n 1, 1) := by decide +kernel
theorem dX7_readNews_44 : decode cX7_readNews 44 = .ok (.iastore, 1) := by decide +kernel
theorem dX7_readNews_45 : decode cX7_readNews 45 = .ok (.aload_n 0, 1) := by decide +kernel
theorem dX7_readNews_46 : decode cX7_readNews 46 = .ok (.getfield 34, 3) := by decide +kernel
theorem dX7_readNews_49 : decode cX7_readNews 49 = .ok (.aload_n 0, 1) := by decide +kernel
theorem dX7_readNews_50 : decode cX7_readNews 50 = .ok (.getfield 106, 3) := by decide +kernel
theorem dX7_readNews_53 : decode cX7_readNews 53 = .ok (.iload_n 2, 1) := by decide +kernel
theorem dX7_readNews_54 : decode cX7_readNews 54 = .ok (.iastore, 1) := by decide +kernel
theorem dX7_readNews_55 : decode cX7_readNews 55 = .ok (.aload_n 0, 1) := by decide +kernel
theorem dX7_readNews_56 : decode cX7_readNews 56 = .ok (.getfield 37, 3) := by decide +kernel
theorem dX7_readNews_59 : decode cX7_readNews 59 = .ok (.aload_n 0, 1) := by decide +kernel
theorem dX7_readNews_60 : decode cX7_readNews 60 = .ok (.getfield 106, 3) := by decide +kernel
theorem dX7_readNews_63 : decode cX7_readNews 63 = .ok (.iconst 0, 1) := by decide +kernel
theorem dX7_readNews_64 : decode cX7_readNews 64 = .ok (.iastore, 1) := by decide +kernel
theorem dX7_readNews_65 : decode cX7_readNews 65 = .ok (.aload_n 0, 1) := by decide +kernel
theorem dX7_readNews_66 : decode cX7_readNews 66 = .ok (.dup, 1) := by decide +kernel
theorem dX7_readNews_67 : decode cX7_readNews 67 = .ok (.getfield 106, 3) := by decide +kernel
theorem dX7_readNews_70 : decode cX7_readNews 70 = .ok (.iconst 1, 1) := by decide +kernel
theorem dX7_readNews_71 : decode cX7_readNews 71 = .ok (.iadd, 1) := by decide +kernel
theorem dX7_readNews_72 : decode cX7_readNews 72 = .ok (.putfield 106, 3) := by decide +kernel
theorem dX7_readNews_75 : decode cX7_readNews 75 = .ok (.iconst 1, 1) := by decide +kernel
theorem dX7_readNews_76 : decode cX7_readNews 76 = .ok (.ireturn, 1) := by decide +kernel
theorem dX7_readKnows_0 : decode cX7_readKnows 0 = .ok (.iload_n 1, 1) := by decide +kernel
theorem dX7_readKnows_1 : decode cX7_readKnows 1 = .ok (.bipush 48, 2) := by decide +kernel
theorem dX7_readKnows_3 : decode cX7_readKnows 3 = .ok (.isub, 1) := by decide +kernel
theorem dX7_readKnows_4 : decode cX7_readKnows 4 = .ok (.istore_n 2, 1) := by decide +kernel
theorem dX7_readKnows_5 : decode cX7_readKnows 5 = .ok (.aload_n 0, 1) := by decide +kernel
theorem dX7_readKnows_6 : decode cX7_readKnows 6 = .ok (.getfield 106, 3) := by decide +kernel
theorem dX7_readKnows_9 : decode cX7_readKnows 9 = .ok (.ifCond .eq 37, 3) := by decide +kernel
theorem dX7_readKnows_12 : decode cX7_readKnows 12 = .ok (.iload_n 2, 1) := by decide +kernel
theorem dX7_readKnows_13 : decode cX7_readKnows 13 = .ok (.i2l, 1) := by decide +kernel
theorem dX7_readKnows_14 : decode cX7_readKnows 14 = .ok (.lconst 0, 1) := by decide +kernel
theorem dX7_readKnows_15 : decode cX7_readKnows 15 = .ok (.aload_n 0, 1) := by decide +kernel
theorem dX7_readKnows_16 : decode cX7_readKnows 16 = .ok (.getfield 103, 3) := by decide +kernel
theorem dX7_readKnows_19 : decode cX7_readKnows 19 = .ok (.iconst 1, 1) := by decide +kernel
theorem dX7_readKnows_20 : decode cX7_readKnows 20 = .ok (.isub, 1) := by decide +kernel
theorem dX7_readKnows_21 : decode cX7_readKnows 21 = .ok (.i2l, 1) := by decide +kernel
theorem dX7_readKnows_22 : decode cX7_readKnows 22 = .ok (.invokestatic 84, 3) := by decide +kernel
theorem dX7_readKnows_25 : decode cX7_readKnows 25 = .ok (.ifCond .eq 21, 3) := by decide +kernel
theorem dX7_readKnows_28 : decode cX7_readKnows 28 = .ok (.aload_n 0, 1) := by decide +kernel
theorem dX7_readKnows_29 : decode cX7_readKnows 29 = .ok (.getfield 37, 3) := by decide +kernel
theorem dX7_readKnows_32 : decode cX7_readKnows 32 = .ok (.aload_n 0, 1) := by decide +kernel
theorem dX7_readKnows_33 : decode cX7_readKnows 33 = .ok (.getfield 106, 3) := by decide +kernel
theorem dX7_readKnows_36 : decode cX7_readKnows 36 = .ok (.iconst 1, 1) := by decide +kernel
theorem dX7_readKnows_37 : decode cX7_readKnows 37 = .ok (.isub, 1) := by decide +kernel
theorem dX7_readKnows_38 : decode cX7_readKnows 38 = .ok (.iaload, 1) := by decide +kernel
theorem dX7_readKnows_39 : decode cX7_readKnows 39 = .ok (.iload_n 2, 1) := by decide +kernel
theorem dX7_readKnows_40 : decode cX7_readKnows 40 = .ok (.invokestatic 109, 3) := by decide +kernel
theorem dX7_readKnows_43 : decode cX7_readKnows 43 = .ok (.ifCond .eq 5, 3) := by decide +kernel
theorem dX7_readKnows_46 : decode cX7_readKnows 46 = .ok (.iconst 0, 1) := by decide +kernel
theorem dX7_readKnows_47 : decode cX7_readKnows 47 = .ok (.ireturn, 1) := by decide +kernel
theorem dX7_readKnows_48 : decode cX7_readKnows 48 = .ok (.aload_n 0, 1) := by decide +kernel
theorem dX7_readKnows_49 : decode cX7_readKnows 49 = .ok (.getfield 37, 3) := by decide +kernel
theorem dX7_readKnows_52 : decode cX7_readKnows 52 = .ok (.aload_n 0, 1) := by decide +kernel
theorem dX7_readKnows_53 : decode cX7_readKnows 53 = .ok (.getfield 106, 3) := by decide +kernel
theorem dX7_readKnows_56 : decode cX7_readKnows 56 = .ok (.iconst 1, 1) := by decide +kernel
theorem dX7_readKnows_57 : decode cX7_readKnows 57 = .ok (.isub, 1) := by decide +kernel
theorem dX7_readKnows_58 : decode cX7_readKnows 58 = .ok (.dup2, 1) := by decide +kernel
theorem dX7_readKnows_59 : decode cX7_readKnows 59 = .ok (.iaload, 1) := by decide +kernel
theorem dX7_readKnows_60 : decode cX7_readKnows 60 = .ok (.iconst 1, 1) := by decide +kernel
theorem dX7_readKnows_61 : decode cX7_readKnows 61 = .ok (.iload_n 2, 1) := by decide +kernel
theorem dX7_readKnows_62 : decode cX7_readKnows 62 = .ok (.ishl, 1) := by decide +kernel
theorem dX7_readKnows_63 : decode cX7_readKnows 63 = .ok (.ior, 1) := by decide +kernel
theorem dX7_readKnows_64 : decode cX7_readKnows 64 = .ok (.iastore, 1) := by decide +kernel
theorem dX7_readKnows_65 : decode cX7_readKnows 65 = .ok (.aload_n 0, 1) := by decide +kernel
theorem dX7_readKnows_66 : decode cX7_readKnows 66 = .ok (.dup, 1) := by decide +kernel
theorem dX7_readKnows_67 : decode cX7_readKnows 67 = .ok (.getfield 96, 3) := by decide +kernel
theorem dX7_readKnows_70 : decode cX7_readKnows 70 = .ok (.iconst 1, 1) := by decide +kernel
theorem dX7_readKnows_71 : decode cX7_readKnows 71 = .ok (.iadd, 1) := by decide +kernel
theorem dX7_readKnows_72 : decode cX7_readKnows 72 = .ok (.putfield 96, 3) := by decide +kernel
theorem dX7_readKnows_75 : decode cX7_readKnows 75 = .ok (.iconst 1, 1) := by decide +kernel
theorem dX7_readKnows_76 : decode cX7_readKnows 76 = .ok (.ireturn, 1) := by decide +kernel
theorem dX7_readDay_0 : decode cX7_readDay 0 = .ok (.aload_n 0, 1) := by decide +kernel
theorem dX7_readDay_1 : decode cX7_readDay 1 = .ok (.iconst 0, 1) := by decide +kernel
theorem dX7_readDay_2 : decode cX7_readDay 2 = .ok (.putfield 96, 3) := by decide +kernel
theorem dX7_readDay_5 : decode cX7_readDay 5 = .ok (.aload_n 0, 1) := by decide +kernel
theorem dX7_readDay_6 : decode cX7_readDay 6 = .ok (.iconst 0, 1) := by decide +kernel
theorem dX7_readDay_7 : decode cX7_readDay 7 = .ok (.putfield 103, 3) := by decide +kernel
theorem dX7_readDay_10 : decode cX7_readDay 10 = .ok (.aload_n 0, 1) := by decide +kernel
theorem dX7_readDay_11 : decode cX7_readDay 11 = .ok (.iconst 0, 1) := by decide +kernel
theorem dX7_readDay_12 : decode cX7_readDay 12 = .ok (.putfield 106, 3) := by decide +kernel
theorem dX7_readDay_15 : decode cX7_readDay 15 = .ok (.aload_n 0, 1) := by decide +kernel
theorem dX7_readDay_16 : decode cX7_readDay 16 = .ok (.getfield 93, 3) := by decide +kernel
theorem dX7_readDay_19 : decode cX7_readDay 19 = .ok (.ifCond .eq 14, 3) := by decide +kernel
theorem dX7_readDay_22 : decode cX7_readDay 22 = .ok (.aload_n 0, 1) := by decide +kernel
theorem dX7_readDay_23 : decode cX7_readDay 23 = .ok (.getfield 7, 3) := by decide +kernel
theorem dX7_readDay_26 : decode cX7_readDay 26 = .ok (.iconst 0, 1) := by decide +kernel
theorem dX7_readDay_27 : decode cX7_readDay 27 = .ok (.iaload, 1) := by decide +kernel
theorem dX7_readDay_28 : decode cX7_readDay 28 = .ok (.bipush 68, 2) := by decide +kernel
theorem dX7_readDay_30 : decode cX7_readDay 30 = .ok (.if_icmp .eq 5, 3) := by decide +kernel
theorem dX7_readDay_33 : decode cX7_readDay 33 = .ok (.iconst 0, 1) := by decide +kernel
theorem dX7_readDay_34 : decode cX7_readDay 34 = .ok (.ireturn, 1) := by decide +kernel
theorem dX7_readDay_35 : decode cX7_readDay 35 = .ok (.aload_n 0, 1) := by decide +kernel
theorem dX7_readDay_36 : decode cX7_readDay 36 = .ok (.iconst 1, 1) := by decide +kernel
theorem dX7_readDay_37 : decode cX7_readDay 37 = .ok (.putfield 96, 3) := by decide +kernel
theorem dX7_readDay_40 : decode cX7_readDay 40 = .ok (.aload_n 0, 1) := by decide +kernel
theorem dX7_readDay_41 : decode cX7_readDay 41 = .ok (.aload_n 0, 1) := by decide +kernel
theorem dX7_readDay_42 : decode cX7_readDay 42 = .ok (.iconst 0, 1) := by decide +kernel
theorem dX7_readDay_43 : decode cX7_readDay 43 = .ok (.iconst 2, 1) := by decide +kernel
theorem dX7_readDay_44 : decode cX7_readDay 44 = .ok (.invokevirtual 99, 3) := by decide +kernel
theorem dX7_readDay_47 : decode cX7_readDay 47 = .ok (.putfield 113, 3) := by decide +kernel
theorem dX7_readDay_50 : decode cX7_readDay 50 = .ok (.aload_n 0, 1) := by decide +kernel
theorem dX7_readDay_51 : decode cX7_readDay 51 = .ok (.getfield 113, 3) := by decide +kernel
theorem dX7_readDay_54 : decode cX7_readDay 54 = .ok (.bipush (-9), 2) := by decide +kernel
theorem dX7_readDay_56 : decode cX7_readDay 56 = .ok (.if_icmp .ne 5, 3) := by decide +kernel
theorem dX7_readDay_59 : decode cX7_readDay 59 = .ok (.iconst 1, 1) := by decide +kernel
theorem dX7_readDay_60 : decode cX7_readDay 60 = .ok (.ireturn, 1) := by decide +kernel
theorem dX7_readDay_61 : decode cX7_readDay 61 = .ok (.iconst 0, 1) := by decide +kernel
theorem dX7_readDay_62 : decode cX7_readDay 62 = .ok (.istore_n 1, 1) := by decide +kernel
theorem dX7_readDay_63 : decode cX7_readDay 63 = .ok (.aload_n 0, 1) := by decide +kernel
theorem dX7_readDay_64 : decode cX7_readDay 64 = .ok (.getfield 96, 3) := by decide +kernel
theorem dX7_readDay_67 : decode cX7_readDay 67 = .ok (.aload_n 0, 1) := by decide +kernel
theorem dX7_readDay_68 : decode cX7_readDay 68 = .ok (.getfield 93, 3) := by decide +kernel
theorem dX7_readDay_71 : decode cX7_readDay 71 = .ok (.if_icmp .ge 114, 3) := by decide +kernel
theorem dX7_readDay_74 : decode cX7_readDay 74 = .ok (.aload_n 0, 1) := by decide +kernel
theorem dX7_readDay_75 : decode cX7_readDay 75 = .ok (.getfield 7, 3) := by decide +kernel
theorem dX7_readDay_78 : decode cX7_readDay 78 = .ok (.aload_n 0, 1) := by decide +kernel
theorem dX7_readDay_79 : decode cX7_readDay 79 = .ok (.getfield 96, 3) := by decide +kernel
theorem dX7_readDay_82 : decode cX7_readDay 82 = .ok (.iaload, 1) := by decide +kernel
theorem dX7_readDay_83 : decode cX7_readDay 83 = .ok (.istore_n 2, 1) := by decide +kernel
theorem dX7_readDay_84 : decode cX7_readDay 84 = .ok (.iconst 0, 1) := by decide +kernel
theorem dX7_readDay_85 : decode cX7_readDay 85 = .ok (.istore_n 3, 1) := by decide +kernel
theorem dX7_readDay_86 : decode cX7_readDay 86 = .ok (.iload_n 2, 1) := by decide +kernel
theorem dX7_readDay_87 : decode cX7_readDay 87 = .ok (.bipush 80, 2) := by decide +kernel
theorem dX7_readDay_89 : decode cX7_readDay 89 = .ok (.if_icmp .ne 32, 3) := by decide +kernel
theorem dX7_readDay_92 : decode cX7_readDay 92 = .ok (.aload_n 0, 1) := by decide +kernel
theorem dX7_readDay_93 : decode cX7_readDay 93 = .ok (.getfield 103, 3) := by decide +kernel
theorem dX7_readDay_96 : decode cX7_readDay 96 = .ok (.bipush 6, 2) := by decide +kernel
theorem dX7_readDay_98 : decode cX7_readDay 98 = .ok (.if_icmp .ge 23, 3) := by decide +kernel
theorem dX7_readDay_101 : decode cX7_readDay 101 = .ok (.aload_n 0, 1) := by decide +kernel
theorem dX7_readDay_102 : decode cX7_readDay 102 = .ok (.dup, 1) := by decide +kernel
theorem dX7_readDay_103 : decode cX7_readDay 103 = .ok (.getfield 96, 3) := by decide +kernel
theorem dX7_readDay_106 : decode cX7_readDay 106 = .ok (.iconst 1, 1) := by decide +kernel
theorem dX7_readDay_107 : decode cX7_readDay 107 = .ok (.iadd, 1) := by decide +kernel
theorem dX7_readDay_108 : decode cX7_readDay 108 = .ok (.putfield 96, 3) := by decide +kernel
theorem dX7_readDay_111 : decode cX7_readDay 111 = .ok (.iconst 0, 1) := by decide +kernel
theorem dX7_readDay_112 : decode cX7_readDay 112 = .ok (.istore_n 1, 1) := by decide +kernel
theorem dX7_readDay_113 : decode cX7_readDay 113 = .ok (.aload_n 0, 1) := by decide +kernel
theorem dX7_readDay_114 : decode cX7_readDay 114 = .ok (.invokevirtual 116, 3) := by decide +kernel
theorem dX7_readDay_117 : decode cX7_readDay 117 = .ok (.istore_n 3, 1) := by decide +kernel
theorem dX7_readDay_118 : decode cX7_readDay 118 = .ok (.goto 55, 3) := by decide +kernel
theorem dX7_readDay_121 : decode cX7_readDay 121 = .ok (.iload_n 2, 1) := by decide +kernel
theorem dX7_readDay_122 : decode cX7_readDay 122 = .ok (.bipush 78, 2) := by decide +kernel
theorem dX7_readDay_124 : decode cX7_readDay 124 = .ok (.if_icmp .ne 31, 3) := by decide +kernel
theorem dX7_readDay_127 : decode cX7_readDay 127 = .ok (.aload_n 0, 1) := by decide +kernel
theorem dX7_readDay_128 : decode cX7_readDay 128 = .ok (.getfield 106, 3) := by decide +kernel
theorem dX7_readDay_131 : decode cX7_readDay 131 = .ok (.iconst 3, 1) := by decide +kernel
theorem dX7_readDay_132 : decode cX7_readDay 132 = .ok (.if_icmp .ge 23, 3) := by decide +kernel
theorem dX7_readDay_135 : decode cX7_readDay 135 = .ok (.aload_n 0, 1) := by decide +kernel
theorem dX7_readDay_136 : decode cX7_readDay 136 = .ok (.dup, 1) := by decide +kernel
theorem dX7_readDay_137 : decode cX7_readDay 137 = .ok (.getfield 96, 3) := by decide +kernel
theorem dX7_readDay_140 : decode cX7_readDay 140 = .ok (.iconst 1, 1) := by decide +kernel
theorem dX7_readDay_141 : decode cX7_readDay 141 = .ok (.iadd, 1) := by decide +kernel
theorem dX7_readDay_142 : decode cX7_readDay 142 = .ok (.putfield 96, 3) := by decide +kernel
theorem dX7_readDay_145 : decode cX7_readDay 145 = .ok (.iconst 1, 1) := by decide +kernel
theorem dX7_readDay_146 : decode cX7_readDay 146 = .ok (.istore_n 1, 1) := by decide +kernel
theorem dX7_readDay_147 : decode cX7_readDay 147 = .ok (.aload_n 0, 1) := by decide +kernel
theorem dX7_readDay_148 : decode cX7_readDay 148 = .ok (.invokevirtual 120, 3) := by decide +kernel
theorem dX7_readDay_151 : decode cX7_readDay 151 = .ok (.istore_n 3, 1) := by decide +kernel
theorem dX7_readDay_152 : decode cX7_readDay 152 = .ok (.goto 21, 3) := by decide +kernel
theorem dX7_readDay_155 : decode cX7_readDay 155 = .ok (.iload_n 1, 1) := by decide +kernel
theorem dX7_readDay_156 : decode cX7_readDay 156 = .ok (.ifCond .eq 15, 3) := by decide +kernel
theorem dX7_readDay_159 : decode cX7_readDay 159 = .ok (.aload_n 0, 1) := by decide +kernel
theorem dX7_readDay_160 : decode cX7_readDay 160 = .ok (.iload_n 2, 1) := by decide +kernel
theorem dX7_readDay_161 : decode cX7_readDay 161 = .ok (.invokevirtual 122, 3) := by decide +kernel
theorem dX7_readDay_164 : decode cX7_readDay 164 = .ok (.ifCond .eq 7, 3) := by decide +kernel
theorem dX7_readDay_167 : decode cX7_readDay 167 = .ok (.iconst 1, 1) := by decide +kernel
theorem dX7_readDay_168 : decode cX7_readDay 168 = .ok (.goto 4, 3) := by decide +kernel
theorem dX7_readDay_171 : decode cX7_readDay 171 = .ok (.iconst 0, 1) := by decide +kernel
theorem dX7_readDay_172 : decode cX7_readDay 172 = .ok (.istore_n 3, 1) := by decide +kernel
theorem dX7_readDay_173 : decode cX7_readDay 173 = .ok (.iload_n 3, 1) := by decide +kernel
theorem dX7_readDay_174 : decode cX7_readDay 174 = .ok (.ifCond .ne 8, 3) := by decide +kernel
theorem dX7_readDay_177 : decode cX7_readDay 177 = .ok (.aload_n 0, 1) := by decide +kernel
theorem dX7_readDay_178 : decode cX7_readDay 178 = .ok (.getfield 96, 3) := by decide +kernel
theorem dX7_readDay_181 : decode cX7_readDay 181 = .ok (.ireturn, 1) := by decide +kernel
theorem dX7_readDay_182 : decode cX7_readDay 182 = .ok (.goto (-119), 3) := by decide +kernel
theorem dX7_readDay_185 : decode cX7_readDay 185 = .ok (.bipush (-9), 2) := by decide +kernel
theorem dX7_readDay_187 : decode cX7_readDay 187 = .ok (.ireturn, 1) := by decide +kernel
theorem dX7_fault_0 : decode cX7_fault 0 = .ok (.aload_n 0, 1) := by decide +kernel
theorem dX7_fault_1 : decode cX7_fault 1 = .ok (.iconst 0, 1) := by decide +kernel
theorem dX7_fault_2 : decode cX7_fault 2 = .ok (.putfield 77, 3) := by decide +kernel
theorem dX7_fault_5 : decode cX7_fault 5 = .ok (.aload_n 0, 1) := by decide +kernel
theorem dX7_fault_6 : decode cX7_fault 6 = .ok (.invokevirtual 126, 3) := by decide +kernel
theorem dX7_fault_9 : decode cX7_fault 9 = .ok (.ireturn, 1) := by decide +kernel
theorem dX7_day_0 : decode cX7_day 0 = .ok (.aload_n 0, 1) := by decide +kernel
theorem dX7_day_1 : decode cX7_day 1 = .ok (.iconst 0, 1) := by decide +kernel
theorem dX7_day_2 : decode cX7_day 2 = .ok (.putfield 77, 3) := by decide +kernel
theorem dX7_day_5 : decode cX7_day 5 = .ok (.aload_n 0, 1) := by decide +kernel
theorem dX7_day_6 : decode cX7_day 6 = .ok (.invokevirtual 126, 3) := by decide +kernel
theorem dX7_day_9 : decode cX7_day 9 = .ok (.bipush (-9), 2) := by decide +kernel
theorem dX7_day_11 : decode cX7_day 11 = .ok (.if_icmp .eq 6, 3) := by decide +kernel
theorem dX7_day_14 : decode cX7_day 14 = .ok (.bipush (-3), 2) := by decide +kernel
theorem dX7_day_16 : decode cX7_day 16 = .ok (.ireturn, 1) := by decide +kernel
theorem dX7_day_17 : decode cX7_day 17 = .ok (.aload_n 0, 1) := by decide +kernel
theorem dX7_day_18 : decode cX7_day 18 = .ok (.aload_n 0, 1) := by decide +kernel
theorem dX7_day_19 : decode cX7_day 19 = .ok (.getfield 103, 3) := by decide +kernel
theorem dX7_day_22 : decode cX7_day 22 = .ok (.putfield 81, 3) := by decide +kernel
theorem dX7_day_25 : decode cX7_day 25 = .ok (.aload_n 0, 1) := by decide +kernel
theorem dX7_day_26 : decode cX7_day 26 = .ok (.aload_n 0, 1) := by decide +kernel
theorem dX7_day_27 : decode cX7_day 27 = .ok (.getfield 106, 3) := by decide +kernel
theorem dX7_day_30 : decode cX7_day 30 = .ok (.putfield 88, 3) := by decide +kernel
theorem dX7_day_33 : decode cX7_day 33 = .ok (.aload_n 0, 1) := by decide +kernel
theorem dX7_day_34 : decode cX7_day 34 = .ok (.aload_n 0, 1) := by decide +kernel
theorem dX7_day_35 : decode cX7_day 35 = .ok (.getfield 113, 3) := by decide +kernel
theorem dX7_day_38 : decode cX7_day 38 = .ok (.putfield 130, 3) := by decide +kernel
theorem dX7_day_41 : decode cX7_day 41 = .ok (.iconst 0, 1) := by decide +kernel
theorem dX7_day_42 : decode cX7_day 42 = .ok (.istore_n 1, 1) := by decide +kernel
theorem dX7_day_43 : decode cX7_day 43 = .ok (.iload_n 1, 1) := by decide +kernel
theorem dX7_day_44 : decode cX7_day 44 = .ok (.bipush 6, 2) := by decide +kernel
theorem dX7_day_46 : decode cX7_day 46 = .ok (.aload_n 0, 1) := by decide +kernel
theorem dX7_day_47 : decode cX7_day 47 = .ok (.getfield 81, 3) := by decide +kernel
theorem dX7_day_50 : decode cX7_day 50 = .ok (.imul, 1) := by decide +kernel
theorem dX7_day_51 : decode cX7_day 51 = .ok (.if_icmp .ge 21, 3) := by decide +kernel
theorem dX7_day_54 : decode cX7_day 54 = .ok (.aload_n 0, 1) := by decide +kernel
theorem dX7_day_55 : decode cX7_day 55 = .ok (.getfield 13, 3) := by decide +kernel
theorem dX7_day_58 : decode cX7_day 58 = .ok (.iload_n 1, 1) := by decide +kernel
theorem dX7_day_59 : decode cX7_day 59 = .ok (.aload_n 0, 1) := by decide +kernel
theorem dX7_day_60 : decode cX7_day 60 = .ok (.getfield 28, 3) := by decide +kernel
theorem dX7_day_63 : decode cX7_day 63 = .ok (.iload_n 1, 1) := by decide +kernel
theorem dX7_day_64 : decode cX7_day 64 = .ok (.iaload, 1) := by decide +kernel
theorem dX7_day_65 : decode cX7_day 65 = .ok (.iastore, 1) := by decide +kernel
theorem dX7_day_66 : decode cX7_day 66 = .ok (.iinc 1 1, 3) := by decide +kernel
theorem dX7_day_69 : decode cX7_day 69 = .ok (.goto (-26), 3) := by decide +kernel
theorem dX7_day_72 : decode cX7_day 72 = .ok (.iconst 0, 1) := by decide +kernel
theorem dX7_day_73 : decode cX7_day 73 = .ok (.istore_n 1, 1) := by decide +kernel
theorem dX7_day_74 : decode cX7_day 74 = .ok (.iload_n 1, 1) := by decide +kernel
theorem dX7_day_75 : decode cX7_day 75 = .ok (.bipush 58, 2) := by decide +kernel
theorem dX7_day_77 : decode cX7_day 77 = .ok (.if_icmp .ge 16, 3) := by decide +kernel
theorem dX7_day_80 : decode cX7_day 80 = .ok (.aload_n 0, 1) := by decide +kernel
theorem dX7_day_81 : decode cX7_day 81 = .ok (.getfield 25, 3) := by decide +kernel
theorem dX7_day_84 : decode cX7_day 84 = .ok (.iload_n 1, 1) := by decide +kernel
theorem dX7_day_85 : decode cX7_day 85 = .ok (.iconst 0, 1) := by decide +kernel
theorem dX7_day_86 : decode cX7_day 86 = .ok (.iastore, 1) := by decide +kernel
theorem dX7_day_87 : decode cX7_day 87 = .ok (.iinc 1 1, 3) := by decide +kernel
theorem dX7_day_90 : decode cX7_day 90 = .ok (.goto (-16), 3) := by decide +kernel
theorem dX7_day_93 : decode cX7_day 93 = .ok (.iconst 0, 1) := by decide +kernel
theorem dX7_day_94 : decode cX7_day 94 = .ok (.istore_n 1, 1) := by decide +kernel
theorem dX7_day_95 : decode cX7_day 95 = .ok (.iload_n 1, 1) := by decide +kernel
theorem dX7_day_96 : decode cX7_day 96 = .ok (.aload_n 0, 1) := by decide +kernel
theorem dX7_day_97 : decode cX7_day 97 = .ok (.getfield 88, 3) := by decide +kernel
theorem dX7_day_100 : decode cX7_day 100 = .ok (.if_icmp .ge 59, 3) := by decide +kernel
theorem dX7_day_103 : decode cX7_day 103 = .ok (.aload_n 0, 1) := by decide +kernel
theorem dX7_day_104 : decode cX7_day 104 = .ok (.getfield 16, 3) := by decide +kernel
theorem dX7_day_107 : decode cX7_day 107 = .ok (.iload_n 1, 1) := by decide +kernel
theorem dX7_day_108 : decode cX7_day 108 = .ok (.aload_n 0, 1) := by decide +kernel
theorem dX7_day_109 : decode cX7_day 109 = .ok (.getfield 31, 3) := by decide +kernel
theorem dX7_day_112 : decode cX7_day 112 = .ok (.iload_n 1, 1) := by decide +kernel
theorem dX7_day_113 : decode cX7_day 113 = .ok (.iaload, 1) := by decide +kernel
theorem dX7_day_114 : decode cX7_day 114 = .ok (.iastore, 1) := by decide +kernel
theorem dX7_day_115 : decode cX7_day 115 = .ok (.aload_n 0, 1) := by decide +kernel
theorem dX7_day_116 : decode cX7_day 116 = .ok (.getfield 19, 3) := by decide +kernel
theorem dX7_day_119 : decode cX7_day 119 = .ok (.iload_n 1, 1) := by decide +kernel
theorem dX7_day_120 : decode cX7_day 120 = .ok (.aload_n 0, 1) := by decide +kernel
theorem dX7_day_121 : decode cX7_day 121 = .ok (.getfield 34, 3) := by decide +kernel
theorem dX7_day_124 : decode cX7_day 124 = .ok (.iload_n 1, 1) := by decide +kernel
theorem dX7_day_125 : decode cX7_day 125 = .ok (.iaload, 1) := by decide +kernel
theorem dX7_day_126 : decode cX7_day 126 = .ok (.iastore, 1) := by decide +kernel
theorem dX7_day_127 : decode cX7_day 127 = .ok (.aload_n 0, 1) := by decide +kernel
theorem dX7_day_128 : decode cX7_day 128 = .ok (.getfield 22, 3) := by decide +kernel
theorem dX7_day_131 : decode cX7_day 131 = .ok (.iload_n 1, 1) := by decide +kernel
theorem dX7_day_132 : decode cX7_day 132 = .ok (.aload_n 0, 1) := by decide +kernel
theorem dX7_day_133 : decode cX7_day 133 = .ok (.getfield 37, 3) := by decide +kernel
theorem dX7_day_136 : decode cX7_day 136 = .ok (.iload_n 1, 1) := by decide +kernel
theorem dX7_day_137 : decode cX7_day 137 = .ok (.iaload, 1) := by decide +kernel
theorem dX7_day_138 : decode cX7_day 138 = .ok (.iastore, 1) := by decide +kernel
theorem dX7_day_139 : decode cX7_day 139 = .ok (.aload_n 0, 1) := by decide +kernel
theorem dX7_day_140 : decode cX7_day 140 = .ok (.getfield 25, 3) := by decide +kernel
theorem dX7_day_143 : decode cX7_day 143 = .ok (.iconst 3, 1) := by decide +kernel
theorem dX7_day_144 : decode cX7_day 144 = .ok (.iload_n 1, 1) := by decide +kernel
theorem dX7_day_145 : decode cX7_day 145 = .ok (.iadd, 1) := by decide +kernel
theorem dX7_day_146 : decode cX7_day 146 = .ok (.aload_n 0, 1) := by decide +kernel
theorem dX7_day_147 : decode cX7_day 147 = .ok (.getfield 22, 3) := by decide +kernel
theorem dX7_day_150 : decode cX7_day 150 = .ok (.iload_n 1, 1) := by decide +kernel
theorem dX7_day_151 : decode cX7_day 151 = .ok (.iaload, 1) := by decide +kernel
theorem dX7_day_152 : decode cX7_day 152 = .ok (.iastore, 1) := by decide +kernel
theorem dX7_day_153 : decode cX7_day 153 = .ok (.iinc 1 1, 3) := by decide +kernel
theorem dX7_day_156 : decode cX7_day 156 = .ok (.goto (-61), 3) := by decide +kernel
theorem dX7_day_159 : decode cX7_day 159 = .ok (.aload_n 0, 1) := by decide +kernel
theorem dX7_day_160 : decode cX7_day 160 = .ok (.aload_n 0, 1) := by decide +kernel
theorem dX7_day_161 : decode cX7_day 161 = .ok (.getfield 25, 3) := by decide +kernel
theorem dX7_day_164 : decode cX7_day 164 = .ok (.invokevirtual 133, 3) := by decide +kernel
theorem dX7_day_167 : decode cX7_day 167 = .ok (.aload_n 0, 1) := by decide +kernel
theorem dX7_day_168 : decode cX7_day 168 = .ok (.getfield 22, 3) := by decide +kernel
theorem dX7_day_171 : decode cX7_day 171 = .ok (.iconst 2, 1) := by decide +kernel
theorem dX7_day_172 : decode cX7_day 172 = .ok (.aload_n 0, 1) := by decide +kernel
theorem dX7_day_173 : decode cX7_day 173 = .ok (.getfield 25, 3) := by decide +kernel
theorem dX7_day_176 : decode cX7_day 176 = .ok (.iconst 5, 1) := by decide +kernel
theorem dX7_day_177 : decode cX7_day 177 = .ok (.iaload, 1) := by decide +kernel
theorem dX7_day_178 : decode cX7_day 178 = .ok (.iastore, 1) := by decide +kernel
theorem dX7_day_179 : decode cX7_day 179 = .ok (.aload_n 0, 1) := by decide +kernel
theorem dX7_day_180 : decode cX7_day 180 = .ok (.iconst 0, 1) := by decide +kernel
theorem dX7_day_181 : decode cX7_day 181 = .ok (.putfield 137, 3) := by decide +kernel
theorem dX7_day_184 : decode cX7_day 184 = .ok (.aload_n 0, 1) := by decide +kernel
theorem dX7_day_185 : decode cX7_day 185 = .ok (.iconst 0, 1) := by decide +kernel
theorem dX7_day_186 : decode cX7_day 186 = .ok (.putfield 140, 3) := by decide +kernel
theorem dX7_day_189 : decode cX7_day 189 = .ok (.aload_n 0, 1) := by decide +kernel
theorem dX7_day_190 : decode cX7_day 190 = .ok (.getfield 46, 3) := by decide +kernel
theorem dX7_day_193 : decode cX7_day 193 = .ok (.iconst 0, 1) := by decide +kernel
theorem dX7_day_194 : decode cX7_day 194 = .ok (.iconst 0, 1) := by decide +kernel
theorem dX7_day_195 : decode cX7_day 195 = .ok (.bastore, 1) := by decide +kernel
theorem dX7_day_196 : decode cX7_day 196 = .ok (.aload_n 0, 1) := by decide +kernel
theorem dX7_day_197 : decode cX7_day 197 = .ok (.getfield 46, 3) := by decide +kernel
theorem dX7_day_200 : decode cX7_day 200 = .ok (.iconst 1, 1) := by decide +kernel
theorem dX7_day_201 : decode cX7_day 201 = .ok (.iconst 0, 1) := by decide +kernel
theorem dX7_day_202 : decode cX7_day 202 = .ok (.bastore, 1) := by decide +kernel
theorem dX7_day_203 : decode cX7_day 203 = .ok (.aload_n 0, 1) := by decide +kernel
theorem dX7_day_204 : decode cX7_day 204 = .ok (.getfield 81, 3) := by decide +kernel
theorem dX7_day_207 : decode cX7_day 207 = .ok (.ireturn, 1) := by decide +kernel
theorem dX7_halve_0 : decode cX7_halve 0 = .ok (.aload_n 1, 1) := by decide +kernel
theorem dX7_halve_1 : decode cX7_halve 1 = .ok (.iconst 5, 1) := by decide +kernel
theorem dX7_halve_2 : decode cX7_halve 2 = .ok (.dup2, 1) := by decide +kernel
theorem dX7_halve_3 : decode cX7_halve 3 = .ok (.iaload, 1) := by decide +kernel
theorem dX7_halve_4 : decode cX7_halve 4 = .ok (.aload_n 0, 1) := by decide +kernel
theorem dX7_halve_5 : decode cX7_halve 5 = .ok (.getfield 88, 3) := by decide +kernel
theorem dX7_halve_8 : decode cX7_halve 8 = .ok (.iconst 3, 1) := by decide +kernel
theorem dX7_halve_9 : decode cX7_halve 9 = .ok (.if_icmp .ne 13, 3) := by decide +kernel
theorem dX7_halve_12 : decode cX7_halve 12 = .ok (.aload_n 1, 1) := by decide +kernel
theorem dX7_halve_13 : decode cX7_halve 13 = .ok (.iconst 3, 1) := by decide +kernel
theorem dX7_halve_14 : decode cX7_halve 14 = .ok (.iaload, 1) := by decide +kernel
theorem dX7_halve_15 : decode cX7_halve 15 = .ok (.aload_n 1, 1) := by decide +kernel
theorem dX7_halve_16 : decode cX7_halve 16 = .ok (.iconst 4, 1) := by decide +kernel
theorem dX7_halve_17 : decode cX7_halve 17 = .ok (.iaload, 1) := by decide +kernel
theorem dX7_halve_18 : decode cX7_halve 18 = .ok (.iand, 1) := by decide +kernel
theorem dX7_halve_19 : decode cX7_halve 19 = .ok (.goto 4, 3) := by decide +kernel
theorem dX7_halve_22 : decode cX7_halve 22 = .ok (.iconst 0, 1) := by decide +kernel
theorem dX7_halve_23 : decode cX7_halve 23 = .ok (.ior, 1) := by decide +kernel
theorem dX7_halve_24 : decode cX7_halve 24 = .ok (.iastore, 1) := by decide +kernel
theorem dX7_halve_25 : decode cX7_halve 25 = .ok (.return_, 1) := by decide +kernel
theorem dX7_about_0 : decode cX7_about 0 = .ok (.aload_n 0, 1) := by decide +kernel
theorem dX7_about_1 : decode cX7_about 1 = .ok (.iconst 0, 1) := by decide +kernel
theorem dX7_about_2 : decode cX7_about 2 = .ok (.putfield 77, 3) := by decide +kernel
theorem dX7_about_5 : decode cX7_about 5 = .ok (.iconst 0, 1) := by decide +kernel
theorem dX7_about_6 : decode cX7_about 6 = .ok (.istore_n 2, 1) := by decide +kernel
theorem dX7_about_7 : decode cX7_about 7 = .ok (.iconst 0, 1) := by decide +kernel
theorem dX7_about_8 : decode cX7_about 8 = .ok (.istore_n 3, 1) := by decide +kernel
theorem dX7_about_9 : decode cX7_about 9 = .ok (.iconst 0, 1) := by decide +kernel
theorem dX7_about_10 : decode cX7_about 10 = .ok (.istore 4, 2) := by decide +kernel
theorem dX7_about_12 : decode cX7_about 12 = .ok (.iload 4, 2) := by decide +kernel
theorem dX7_about_14 : decode cX7_about 14 = .ok (.aload_n 0, 1) := by decide +kernel
theorem dX7_about_15 : decode cX7_about 15 = .ok (.getfield 88, 3) := by decide +kernel
theorem dX7_about_18 : decode cX7_about 18 = .ok (.if_icmp .ge 42, 3) := by decide +kernel
theorem dX7_about_21 : decode cX7_about 21 = .ok (.iload_n 2, 1) := by decide +kernel
theorem dX7_about_22 : decode cX7_about 22 = .ok (.aload_n 0, 1) := by decide +kernel
theorem dX7_about_23 : decode cX7_about 23 = .ok (.getfield 25, 3) := by decide +kernel
theorem dX7_about_26 : decode cX7_about 26 = .ok (.iload 4, 2) := by decide +kernel
theorem dX7_about_28 : decode cX7_about 28 = .ok (.iaload, 1) := by decide +kernel
theorem dX7_about_29 : decode cX7_about 29 = .ok (.iadd, 1) := by decide +kernel
theorem dX7_about_30 : decode cX7_about 30 = .ok (.istore_n 2, 1) := by decide +kernel
theorem dX7_about_31 : decode cX7_about 31 = .ok (.iload_n 3, 1) := by decide +kernel
theorem dX7_about_32 : decode cX7_about 32 = .ok (.aload_n 0, 1) := by decide +kernel
theorem dX7_about_33 : decode cX7_about 33 = .ok (.getfield 19, 3) := by decide +kernel
theorem dX7_about_36 : decode cX7_about 36 = .ok (.iload 4, 2) := by decide +kernel
theorem dX7_about_38 : decode cX7_about 38 = .ok (.iaload, 1) := by decide +kernel
theorem dX7_about_39 : decode cX7_about 39 = .ok (.aload_n 0, 1) := by decide +kernel
theorem dX7_about_40 : decode cX7_about 40 = .ok (.getfield 25, 3) := by decide +kernel
theorem dX7_about_43 : decode cX7_about 43 = .ok (.iconst 3, 1) := by decide +kernel
theorem dX7_about_44 : decode cX7_about 44 = .ok (.iload 4, 2) := by decide +kernel
theorem dX7_about_46 : decode cX7_about 46 = .ok (.iadd, 1) := by decide +kernel
theorem dX7_about_47 : decode cX7_about 47 = .ok (.iaload, 1) := by decide +kernel
theorem dX7_about_48 : decode cX7_about 48 = .ok (.invokestatic 143, 3) := by decide +kernel
theorem dX7_about_51 : decode cX7_about 51 = .ok (.imul, 1) := by decide +kernel
theorem dX7_about_52 : decode cX7_about 52 = .ok (.iadd, 1) := by decide +kernel
theorem dX7_about_53 : decode cX7_about 53 = .ok (.istore_n 3, 1) := by decide +kernel
theorem dX7_about_54 : decode cX7_about 54 = .ok (.iinc 4 1, 3) := by decide +kernel
theorem dX7_about_57 : decode cX7_about 57 = .ok (.goto (-45), 3) := by decide +kernel
theorem dX7_about_60 : decode cX7_about 60 = .ok (.iload_n 1, 1) := by decide +kernel
theorem dX7_about_61 : decode cX7_about 61 = .ok (.tableswitch 90 0 8 #[51, 56, 61, 66, 71, 76, 78, 80, 85], 51) := by decide +kernel
theorem dX7_about_112 : decode cX7_about 112 = .ok (.aload_n 0, 1) := by decide +kernel
theorem dX7_about_113 : decode cX7_about 113 = .ok (.getfield 81, 3) := by decide +kernel
theorem dX7_about_116 : decode cX7_about 116 = .ok (.ireturn, 1) := by decide +kernel
theorem dX7_about_117 : decode cX7_about 117 = .ok (.aload_n 0, 1) := by decide +kernel
theorem dX7_about_118 : decode cX7_about 118 = .ok (.getfield 88, 3) := by decide +kernel
theorem dX7_about_121 : decode cX7_about 121 = .ok (.ireturn, 1) := by decide +kernel
theorem dX7_about_122 : decode cX7_about 122 = .ok (.aload_n 0, 1) := by decide +kernel
theorem dX7_about_123 : decode cX7_about 123 = .ok (.getfield 130, 3) := by decide +kernel
theorem dX7_about_126 : decode cX7_about 126 = .ok (.ireturn, 1) := by decide +kernel
theorem dX7_about_127 : decode cX7_about 127 = .ok (.aload_n 0, 1) := by decide +kernel
theorem dX7_about_128 : decode cX7_about 128 = .ok (.getfield 137, 3) := by decide +kernel
theorem dX7_about_131 : decode cX7_about 131 = .ok (.ireturn, 1) := by decide +kernel
theorem dX7_about_132 : decode cX7_about 132 = .ok (.aload_n 0, 1) := by decide +kernel
theorem dX7_about_133 : decode cX7_about 133 = .ok (.getfield 140, 3) := by decide +kernel
theorem dX7_about_136 : decode cX7_about 136 = .ok (.ireturn, 1) := by decide +kernel
theorem dX7_about_137 : decode cX7_about 137 = .ok (.iload_n 2, 1) := by decide +kernel
theorem dX7_about_138 : decode cX7_about 138 = .ok (.ireturn, 1) := by decide +kernel
theorem dX7_about_139 : decode cX7_about 139 = .ok (.iload_n 3, 1) := by decide +kernel
theorem dX7_about_140 : decode cX7_about 140 = .ok (.ireturn, 1) := by decide +kernel
theorem dX7_about_141 : decode cX7_about 141 = .ok (.aload_n 0, 1) := by decide +kernel
theorem dX7_about_142 : decode cX7_about 142 = .ok (.getfield 147, 3) := by decide +kernel
theorem dX7_about_145 : decode cX7_about 145 = .ok (.ireturn, 1) := by decide +kernel
theorem dX7_about_146 : decode cX7_about 146 = .ok (.aload_n 0, 1) := by decide +kernel
theorem dX7_about_147 : decode cX7_about 147 = .ok (.getfield 93, 3) := by decide +kernel
theorem dX7_about_150 : decode cX7_about 150 = .ok (.ireturn, 1) := by decide +kernel
theorem dX7_about_151 : decode cX7_about 151 = .ok (.bipush (-2), 2) := by decide +kernel
theorem dX7_about_153 : decode cX7_about 153 = .ok (.ireturn, 1) := by decide +kernel
theorem dX7_where_0 : decode cX7_where 0 = .ok (.aload_n 0, 1) := by decide +kernel
theorem dX7_where_1 : decode cX7_where 1 = .ok (.iconst 0, 1) := by decide +kernel
theorem dX7_where_2 : decode cX7_where 2 = .ok (.putfield 77, 3) := by decide +kernel
theorem dX7_where_5 : decode cX7_where 5 = .ok (.aload_n 0, 1) := by decide +kernel
theorem dX7_where_6 : decode cX7_where 6 = .ok (.iload_n 1, 1) := by decide +kernel
theorem dX7_where_7 : decode cX7_where 7 = .ok (.invokevirtual 150, 3) := by decide +kernel
theorem dX7_where_10 : decode cX7_where 10 = .ok (.ifCond .eq 5, 3) := by decide +kernel
theorem dX7_where_13 : decode cX7_where 13 = .ok (.iconst (-1), 1) := by decide +kernel
theorem dX7_where_14 : decode cX7_where 14 = .ok (.ireturn, 1) := by decide +kernel
theorem dX7_where_15 : decode cX7_where 15 = .ok (.iload_n 2, 1) := by decide +kernel
theorem dX7_where_16 : decode cX7_where 16 = .ok (.i2l, 1) := by decide +kernel
theorem dX7_where_17 : decode cX7_where 17 = .ok (.lconst 0, 1) := by decide +kernel
theorem dX7_where_18 : decode cX7_where 18 = .ok (.ldc2_w 153, 3) := by decide +kernel
theorem dX7_where_21 : decode cX7_where 21 = .ok (.invokestatic 84, 3) := by decide +kernel
theorem dX7_where_24 : decode cX7_where 24 = .ok (.ifCond .eq 17, 3) := by decide +kernel
theorem dX7_where_27 : decode cX7_where 27 = .ok (.aload_n 0, 1) := by decide +kernel
theorem dX7_where_28 : decode cX7_where 28 = .ok (.getfield 13, 3) := by decide +kernel
theorem dX7_where_31 : decode cX7_where 31 = .ok (.bipush 6, 2) := by decide +kernel
theorem dX7_where_33 : decode cX7_where 33 = .ok (.iload_n 1, 1) := by decide +kernel
theorem dX7_where_34 : decode cX7_where 34 = .ok (.imul, 1) := by decide +kernel
theorem dX7_where_35 : decode cX7_where 35 = .ok (.iload_n 2, 1) := by decide +kernel
theorem dX7_where_36 : decode cX7_where 36 = .ok (.iadd, 1) := by decide +kernel
theorem dX7_where_37 : decode cX7_where 37 = .ok (.iaload, 1) := by decide +kernel
theorem dX7_where_38 : decode cX7_where 38 = .ok (.goto 5, 3) := by decide +kernel
theorem dX7_where_41 : decode cX7_where 41 = .ok (.bipush (-2), 2) := by decide +kernel
theorem dX7_where_43 : decode cX7_where 43 = .ok (.ireturn, 1) := by decide +kernel
theorem dX7_news_0 : decode cX7_news 0 = .ok (.aload_n 0, 1) := by decide +kernel
theorem dX7_news_1 : decode cX7_news 1 = .ok (.iconst 0, 1) := by decide +kernel
theorem dX7_news_2 : decode cX7_news 2 = .ok (.putfield 77, 3) := by decide +kernel
theorem dX7_news_5 : decode cX7_news 5 = .ok (.aload_n 0, 1) := by decide +kernel
theorem dX7_news_6 : decode cX7_news 6 = .ok (.iload_n 1, 1) := by decide +kernel
theorem dX7_news_7 : decode cX7_news 7 = .ok (.invokevirtual 155, 3) := by decide +kernel
theorem dX7_news_10 : decode cX7_news 10 = .ok (.ifCond .eq 5, 3) := by decide +kernel
theorem dX7_news_13 : decode cX7_news 13 = .ok (.iconst (-1), 1) := by decide +kernel
theorem dX7_news_14 : decode cX7_news 14 = .ok (.ireturn, 1) := by decide +kernel
theorem dX7_news_15 : decode cX7_news 15 = .ok (.iload_n 2, 1) := by decide +kernel
theorem dX7_news_16 : decode cX7_news 16 = .ok (.tableswitch 73 0 4 #[36, 43, 50, 57, 66], 36) := by decide +kernel
theorem dX7_news_52 : decode cX7_news 52 = .ok (.aload_n 0, 1) := by decide +kernel
theorem dX7_news_53 : decode cX7_news 53 = .ok (.getfield 16, 3) := by decide +kernel
theorem dX7_news_56 : decode cX7_news 56 = .ok (.iload_n 1, 1) := by decide +kernel
theorem dX7_news_57 : decode cX7_news 57 = .ok (.iaload, 1) := by decide +kernel
theorem dX7_news_58 : decode cX7_news 58 = .ok (.ireturn, 1) := by decide +kernel
theorem dX7_news_59 : decode cX7_news 59 = .ok (.aload_n 0, 1) := by decide +kernel
theorem dX7_news_60 : decode cX7_news 60 = .ok (.getfield 19, 3) := by decide +kernel
theorem dX7_news_63 : decode cX7_news 63 = .ok (.iload_n 1, 1) := by decide +kernel
theorem dX7_news_64 : decode cX7_news 64 = .ok (.iaload, 1) := by decide +kernel
theorem dX7_news_65 : decode cX7_news 65 = .ok (.ireturn, 1) := by decide +kernel
theorem dX7_news_66 : decode cX7_news 66 = .ok (.aload_n 0, 1) := by decide +kernel
theorem dX7_news_67 : decode cX7_news 67 = .ok (.getfield 25, 3) := by decide +kernel
theorem dX7_news_70 : decode cX7_news 70 = .ok (.iload_n 1, 1) := by decide +kernel
theorem dX7_news_71 : decode cX7_news 71 = .ok (.iaload, 1) := by decide +kernel
theorem dX7_news_72 : decode cX7_news 72 = .ok (.ireturn, 1) := by decide +kernel
theorem dX7_news_73 : decode cX7_news 73 = .ok (.aload_n 0, 1) := by decide +kernel
theorem dX7_news_74 : decode cX7_news 74 = .ok (.getfield 25, 3) := by decide +kernel
theorem dX7_news_77 : decode cX7_news 77 = .ok (.iconst 3, 1) := by decide +kernel
theorem dX7_news_78 : decode cX7_news 78 = .ok (.iload_n 1, 1) := by decide +kernel
theorem dX7_news_79 : decode cX7_news 79 = .ok (.iadd, 1) := by decide +kernel
theorem dX7_news_80 : decode cX7_news 80 = .ok (.iaload, 1) := by decide +kernel
theorem dX7_news_81 : decode cX7_news 81 = .ok (.ireturn, 1) := by decide +kernel
theorem dX7_news_82 : decode cX7_news 82 = .ok (.aload_n 0, 1) := by decide +kernel
theorem dX7_news_83 : decode cX7_news 83 = .ok (.getfield 22, 3) := by decide +kernel
theorem dX7_news_86 : decode cX7_news 86 = .ok (.iload_n 1, 1) := by decide +kernel
theorem dX7_news_87 : decode cX7_news 87 = .ok (.iaload, 1) := by decide +kernel
theorem dX7_news_88 : decode cX7_news 88 = .ok (.ireturn, 1) := by decide +kernel
theorem dX7_news_89 : decode cX7_news 89 = .ok (.bipush (-2), 2) := by decide +kernel
theorem dX7_news_91 : decode cX7_news 91 = .ok (.ireturn, 1) := by decide +kernel
theorem dX7_told_0 : decode cX7_told 0 = .ok (.aload_n 0, 1) := by decide +kernel
theorem dX7_told_1 : decode cX7_told 1 = .ok (.iconst 0, 1) := by decide +kernel
theorem dX7_told_2 : decode cX7_told 2 = .ok (.putfield 77, 3) := by decide +kernel
theorem dX7_told_5 : decode cX7_told 5 = .ok (.aload_n 0, 1) := by decide +kernel
theorem dX7_told_6 : decode cX7_told 6 = .ok (.iload_n 1, 1) := by decide +kernel
theorem dX7_told_7 : decode cX7_told 7 = .ok (.invokevirtual 150, 3) := by decide +kernel
theorem dX7_told_10 : decode cX7_told 10 = .ok (.ifCond .ne 11, 3) := by decide +kernel
theorem dX7_told_13 : decode cX7_told 13 = .ok (.aload_n 0, 1) := by decide +kernel
theorem dX7_told_14 : decode cX7_told 14 = .ok (.iload_n 2, 1) := by decide +kernel
theorem dX7_told_15 : decode cX7_told 15 = .ok (.invokevirtual 155, 3) := by decide +kernel
theorem dX7_told_18 : decode cX7_told 18 = .ok (.ifCond .eq 7, 3) := by decide +kernel
theorem dX7_told_21 : decode cX7_told 21 = .ok (.iconst (-1), 1) := by decide +kernel
theorem dX7_told_22 : decode cX7_told 22 = .ok (.goto 17, 3) := by decide +kernel
theorem dX7_told_25 : decode cX7_told 25 = .ok (.aload_n 0, 1) := by decide +kernel
theorem dX7_told_26 : decode cX7_told 26 = .ok (.getfield 25, 3) := by decide +kernel
theorem dX7_told_29 : decode cX7_told 29 = .ok (.bipush 6, 2) := by decide +kernel
theorem dX7_told_31 : decode cX7_told 31 = .ok (.bipush 6, 2) := by decide +kernel
theorem dX7_told_33 : decode cX7_told 33 = .ok (.iload_n 2, 1) := by decide +kernel
theorem dX7_told_34 : decode cX7_told 34 = .ok (.imul, 1) := by decide +kernel
theorem dX7_told_35 : decode cX7_told 35 = .ok (.iadd, 1) := by decide +kernel
theorem dX7_told_36 : decode cX7_told 36 = .ok (.iload_n 1, 1) := by decide +kernel
theorem dX7_told_37 : decode cX7_told 37 = .ok (.iadd, 1) := by decide +kernel
theorem dX7_told_38 : decode cX7_told 38 = .ok (.iaload, 1) := by decide +kernel
theorem dX7_told_39 : decode cX7_told 39 = .ok (.ireturn, 1) := by decide +kernel
theorem dX7_left_0 : decode cX7_left 0 = .ok (.aload_n 0, 1) := by decide +kernel
theorem dX7_left_1 : decode cX7_left 1 = .ok (.iconst 0, 1) := by decide +kernel
theorem dX7_left_2 : decode cX7_left 2 = .ok (.putfield 77, 3) := by decide +kernel
theorem dX7_left_5 : decode cX7_left 5 = .ok (.aload_n 0, 1) := by decide +kernel
theorem dX7_left_6 : decode cX7_left 6 = .ok (.iload_n 1, 1) := by decide +kernel
theorem dX7_left_7 : decode cX7_left 7 = .ok (.invokevirtual 150, 3) := by decide +kernel
theorem dX7_left_10 : decode cX7_left 10 = .ok (.ifCond .ne 11, 3) := by decide +kernel
theorem dX7_left_13 : decode cX7_left 13 = .ok (.aload_n 0, 1) := by decide +kernel
theorem dX7_left_14 : decode cX7_left 14 = .ok (.iload_n 2, 1) := by decide +kernel
theorem dX7_left_15 : decode cX7_left 15 = .ok (.invokevirtual 155, 3) := by decide +kernel
theorem dX7_left_18 : decode cX7_left 18 = .ok (.ifCond .eq 5, 3) := by decide +kernel
theorem dX7_left_21 : decode cX7_left 21 = .ok (.iconst (-1), 1) := by decide +kernel
theorem dX7_left_22 : decode cX7_left 22 = .ok (.ireturn, 1) := by decide +kernel
theorem dX7_left_23 : decode cX7_left 23 = .ok (.aload_n 0, 1) := by decide +kernel
theorem dX7_left_24 : decode cX7_left 24 = .ok (.getfield 25, 3) := by decide +kernel
theorem dX7_left_27 : decode cX7_left 27 = .ok (.iconst 3, 1) := by decide +kernel
theorem dX7_left_28 : decode cX7_left 28 = .ok (.iload_n 2, 1) := by decide +kernel
theorem dX7_left_29 : decode cX7_left 29 = .ok (.iadd, 1) := by decide +kernel
theorem dX7_left_30 : decode cX7_left 30 = .ok (.iaload, 1) := by decide +kernel
theorem dX7_left_31 : decode cX7_left 31 = .ok (.iload_n 1, 1) := by decide +kernel
theorem dX7_left_32 : decode cX7_left 32 = .ok (.invokestatic 109, 3) := by decide +kernel
theorem dX7_left_35 : decode cX7_left 35 = .ok (.ifCond .eq 27, 3) := by decide +kernel
theorem dX7_left_38 : decode cX7_left 38 = .ok (.aload_n 0, 1) := by decide +kernel
theorem dX7_left_39 : decode cX7_left 39 = .ok (.getfield 16, 3) := by decide +kernel
theorem dX7_left_42 : decode cX7_left 42 = .ok (.iload_n 2, 1) := by decide +kernel
theorem dX7_left_43 : decode cX7_left 43 = .ok (.iaload, 1) := by decide +kernel
theorem dX7_left_44 : decode cX7_left 44 = .ok (.aload_n 0, 1) := by decide +kernel
theorem dX7_left_45 : decode cX7_left 45 = .ok (.getfield 25, 3) := by decide +kernel
theorem dX7_left_48 : decode cX7_left 48 = .ok (.bipush 24, 2) := by decide +kernel
theorem dX7_left_50 : decode cX7_left 50 = .ok (.bipush 6, 2) := by decide +kernel
theorem dX7_left_52 : decode cX7_left 52 = .ok (.iload_n 2, 1) := by decide +kernel
theorem dX7_left_53 : decode cX7_left 53 = .ok (.imul, 1) := by decide +kernel
theorem dX7_left_54 : decode cX7_left 54 = .ok (.iadd, 1) := by decide +kernel
theorem dX7_left_55 : decode cX7_left 55 = .ok (.iload_n 1, 1) := by decide +kernel
theorem dX7_left_56 : decode cX7_left 56 = .ok (.iadd, 1) := by decide +kernel
theorem dX7_left_57 : decode cX7_left 57 = .ok (.iaload, 1) := by decide +kernel
theorem dX7_left_58 : decode cX7_left 58 = .ok (.isub, 1) := by decide +kernel
theorem dX7_left_59 : decode cX7_left 59 = .ok (.goto 5, 3) := by decide +kernel
theorem dX7_left_62 : decode cX7_left 62 = .ok (.bipush (-3), 2) := by decide +kernel
theorem dX7_left_64 : decode cX7_left 64 = .ok (.ireturn, 1) := by decide +kernel
theorem dX7_those_0 : decode cX7_those 0 = .ok (.iconst 0, 1) := by decide +kernel
theorem dX7_those_1 : decode cX7_those 1 = .ok (.istore_n 3, 1) := by decide +kernel
theorem dX7_those_2 : decode cX7_those 2 = .ok (.iconst 0, 1) := by decide +kernel
theorem dX7_those_3 : decode cX7_those 3 = .ok (.istore 4, 2) := by decide +kernel
theorem dX7_those_5 : decode cX7_those 5 = .ok (.iload 4, 2) := by decide +kernel
theorem dX7_those_7 : decode cX7_those 7 = .ok (.aload_n 0, 1) := by decide +kernel
theorem dX7_those_8 : decode cX7_those 8 = .ok (.getfield 81, 3) := by decide +kernel
theorem dX7_those_11 : decode cX7_those 11 = .ok (.if_icmp .ge 36, 3) := by decide +kernel
theorem dX7_those_14 : decode cX7_those 14 = .ok (.iload_n 3, 1) := by decide +kernel
theorem dX7_those_15 : decode cX7_those 15 = .ok (.aload_n 0, 1) := by decide +kernel
theorem dX7_those_16 : decode cX7_those 16 = .ok (.getfield 13, 3) := by decide +kernel
theorem dX7_those_19 : decode cX7_those 19 = .ok (.bipush 6, 2) := by decide +kernel
theorem dX7_those_21 : decode cX7_those 21 = .ok (.iload 4, 2) := by decide +kernel
theorem dX7_those_23 : decode cX7_those 23 = .ok (.imul, 1) := by decide +kernel
theorem dX7_those_24 : decode cX7_those 24 = .ok (.iload_n 2, 1) := by decide +kernel
theorem dX7_those_25 : decode cX7_those 25 = .ok (.iadd, 1) := by decide +kernel
theorem dX7_those_26 : decode cX7_those 26 = .ok (.iaload, 1) := by decide +kernel
theorem dX7_those_27 : decode cX7_those 27 = .ok (.iload_n 1, 1) := by decide +kernel
theorem dX7_those_28 : decode cX7_those 28 = .ok (.if_icmp .ne 10, 3) := by decide +kernel
theorem dX7_those_31 : decode cX7_those 31 = .ok (.iconst 1, 1) := by decide +kernel
theorem dX7_those_32 : decode cX7_those 32 = .ok (.iload 4, 2) := by decide +kernel
theorem dX7_those_34 : decode cX7_those 34 = .ok (.ishl, 1) := by decide +kernel
theorem dX7_those_35 : decode cX7_those 35 = .ok (.goto 4, 3) := by decide +kernel
theorem dX7_those_38 : decode cX7_those 38 = .ok (.iconst 0, 1) := by decide +kernel
theorem dX7_those_39 : decode cX7_those 39 = .ok (.ior, 1) := by decide +kernel
theorem dX7_those_40 : decode cX7_those 40 = .ok (.istore_n 3, 1) := by decide +kernel
theorem dX7_those_41 : decode cX7_those 41 = .ok (.iinc 4 1, 3) := by decide +kernel
theorem dX7_those_44 : decode cX7_those 44 = .ok (.goto (-39), 3) := by decide +kernel
theorem dX7_those_47 : decode cX7_those 47 = .ok (.iload_n 3, 1) := by decide +kernel
theorem dX7_those_48 : decode cX7_those 48 = .ok (.ireturn, 1) := by decide +kernel
theorem dX7_mayTell_0 : decode cX7_mayTell 0 = .ok (.aload_n 0, 1) := by decide +kernel
theorem dX7_mayTell_1 : decode cX7_mayTell 1 = .ok (.getfield 13, 3) := by decide +kernel
theorem dX7_mayTell_4 : decode cX7_mayTell 4 = .ok (.bipush 6, 2) := by decide +kernel
theorem dX7_mayTell_6 : decode cX7_mayTell 6 = .ok (.iload_n 3, 1) := by decide +kernel
theorem dX7_mayTell_7 : decode cX7_mayTell 7 = .ok (.imul, 1) := by decide +kernel
theorem dX7_mayTell_8 : decode cX7_mayTell 8 = .ok (.iload_n 2, 1) := by decide +kernel
theorem dX7_mayTell_9 : decode cX7_mayTell 9 = .ok (.iadd, 1) := by decide +kernel
theorem dX7_mayTell_10 : decode cX7_mayTell 10 = .ok (.iaload, 1) := by decide +kernel
theorem dX7_mayTell_11 : decode cX7_mayTell 11 = .ok (.istore 5, 2) := by decide +kernel
theorem dX7_mayTell_13 : decode cX7_mayTell 13 = .ok (.aload_n 1, 1) := by decide +kernel
theorem dX7_mayTell_14 : decode cX7_mayTell 14 = .ok (.iconst 3, 1) := by decide +kernel
theorem dX7_mayTell_15 : decode cX7_mayTell 15 = .ok (.iload 4, 2) := by decide +kernel
theorem dX7_mayTell_17 : decode cX7_mayTell 17 = .ok (.iadd, 1) := by decide +kernel
theorem dX7_mayTell_18 : decode cX7_mayTell 18 = .ok (.iaload, 1) := by decide +kernel
theorem dX7_mayTell_19 : decode cX7_mayTell 19 = .ok (.iload_n 3, 1) := by decide +kernel
theorem dX7_mayTell_20 : decode cX7_mayTell 20 = .ok (.invokestatic 109, 3) := by decide +kernel
theorem dX7_mayTell_23 : decode cX7_mayTell 23 = .ok (.ifCond .eq 38, 3) := by decide +kernel
theorem dX7_mayTell_26 : decode cX7_mayTell 26 = .ok (.iload 5, 2) := by decide +kernel
theorem dX7_mayTell_28 : decode cX7_mayTell 28 = .ok (.bipush (-9), 2) := by decide +kernel
theorem dX7_mayTell_30 : decode cX7_mayTell 30 = .ok (.if_icmp .eq 31, 3) := by decide +kernel
theorem dX7_mayTell_33 : decode cX7_mayTell 33 = .ok (.aload_n 0, 1) := by decide +kernel
theorem dX7_mayTell_34 : decode cX7_mayTell 34 = .ok (.iload 5, 2) := by decide +kernel
theorem dX7_mayTell_36 : decode cX7_mayTell 36 = .ok (.iload_n 2, 1) := by decide +kernel
theorem dX7_mayTell_37 : decode cX7_mayTell 37 = .ok (.invokevirtual 158, 3) := by decide +kernel
theorem dX7_mayTell_40 : decode cX7_mayTell 40 = .ok (.invokestatic 143, 3) := by decide +kernel
theorem dX7_mayTell_43 : decode cX7_mayTell 43 = .ok (.iconst 2, 1) := by decide +kernel
theorem dX7_mayTell_44 : decode cX7_mayTell 44 = .ok (.if_icmp .lt 17, 3) := by decide +kernel
theorem dX7_mayTell_47 : decode cX7_mayTell 47 = .ok (.aload_n 1, 1) := by decide +kernel
theorem dX7_mayTell_48 : decode cX7_mayTell 48 = .ok (.iload 4, 2) := by decide +kernel
theorem dX7_mayTell_50 : decode cX7_mayTell 50 = .ok (.iaload, 1) := by decide +kernel
theorem dX7_mayTell_51 : decode cX7_mayTell 51 = .ok (.aload_n 0, 1) := by decide +kernel
theorem dX7_mayTell_52 : decode cX7_mayTell 52 = .ok (.getfield 16, 3) := by decide +kernel
theorem dX7_mayTell_55 : decode cX7_mayTell 55 = .ok (.iload 4, 2) := by decide +kernel
theorem dX7_mayTell_57 : decode cX7_mayTell 57 = .ok (.iaload, 1) := by decide +kernel
theorem dX7_mayTell_58 : decode cX7_mayTell 58 = .ok (.if_icmp .lt 5, 3) := by decide +kernel
theorem dX7_mayTell_61 : decode cX7_mayTell 61 = .ok (.iconst 0, 1) := by decide +kernel
theorem dX7_mayTell_62 : decode cX7_mayTell 62 = .ok (.ireturn, 1) := by decide +kernel
theorem dX7_mayTell_63 : decode cX7_mayTell 63 = .ok (.aload_n 0, 1) := by decide +kernel
theorem dX7_mayTell_64 : decode cX7_mayTell 64 = .ok (.getfield 130, 3) := by decide +kernel
theorem dX7_mayTell_67 : decode cX7_mayTell 67 = .ok (.iconst 1, 1) := by decide +kernel
theorem dX7_mayTell_68 : decode cX7_mayTell 68 = .ok (.if_icmp .ne 24, 3) := by decide +kernel
theorem dX7_mayTell_71 : decode cX7_mayTell 71 = .ok (.aload_n 1, 1) := by decide +kernel
theorem dX7_mayTell_72 : decode cX7_mayTell 72 = .ok (.bipush 6, 2) := by decide +kernel
theorem dX7_mayTell_74 : decode cX7_mayTell 74 = .ok (.bipush 6, 2) := by decide +kernel
theorem dX7_mayTell_76 : decode cX7_mayTell 76 = .ok (.iload 4, 2) := by decide +kernel
theorem dX7_mayTell_78 : decode cX7_mayTell 78 = .ok (.imul, 1) := by decide +kernel
theorem dX7_mayTell_79 : decode cX7_mayTell 79 = .ok (.iadd, 1) := by decide +kernel
theorem dX7_mayTell_80 : decode cX7_mayTell 80 = .ok (.iload_n 3, 1) := by decide +kernel
theorem dX7_mayTell_81 : decode cX7_mayTell 81 = .ok (.iadd, 1) := by decide +kernel
theorem dX7_mayTell_82 : decode cX7_mayTell 82 = .ok (.iaload, 1) := by decide +kernel
theorem dX7_mayTell_83 : decode cX7_mayTell 83 = .ok (.ifCond .ne 7, 3) := by decide +kernel
theorem dX7_mayTell_86 : decode cX7_mayTell 86 = .ok (.iconst 1, 1) := by decide +kernel
theorem dX7_mayTell_87 : decode cX7_mayTell 87 = .ok (.goto 4, 3) := by decide +kernel
theorem dX7_mayTell_90 : decode cX7_mayTell 90 = .ok (.iconst 0, 1) := by decide +kernel
theorem dX7_mayTell_91 : decode cX7_mayTell 91 = .ok (.ireturn, 1) := by decide +kernel
theorem dX7_mayTell_92 : decode cX7_mayTell 92 = .ok (.aload_n 0, 1) := by decide +kernel
theorem dX7_mayTell_93 : decode cX7_mayTell 93 = .ok (.getfield 130, 3) := by decide +kernel
theorem dX7_mayTell_96 : decode cX7_mayTell 96 = .ok (.iconst 2, 1) := by decide +kernel
theorem dX7_mayTell_97 : decode cX7_mayTell 97 = .ok (.if_icmp .ne 19, 3) := by decide +kernel
theorem dX7_mayTell_100 : decode cX7_mayTell 100 = .ok (.aload_n 1, 1) := by decide +kernel
theorem dX7_mayTell_101 : decode cX7_mayTell 101 = .ok (.bipush 42, 2) := by decide +kernel
theorem dX7_mayTell_103 : decode cX7_mayTell 103 = .ok (.iconst 3, 1) := by decide +kernel
theorem dX7_mayTell_104 : decode cX7_mayTell 104 = .ok (.iload 4, 2) := by decide +kernel
theorem dX7_mayTell_106 : decode cX7_mayTell 106 = .ok (.imul, 1) := by decide +kernel
theorem dX7_mayTell_107 : decode cX7_mayTell 107 = .ok (.iadd, 1) := by decide +kernel
theorem dX7_mayTell_108 : decode cX7_mayTell 108 = .ok (.iload 5, 2) := by decide +kernel
theorem dX7_mayTell_110 : decode cX7_mayTell 110 = .ok (.iadd, 1) := by decide +kernel
theorem dX7_mayTell_111 : decode cX7_mayTell 111 = .ok (.iaload, 1) := by decide +kernel
theorem dX7_mayTell_112 : decode cX7_mayTell 112 = .ok (.iconst 3, 1) := by decide +kernel
theorem dX7_mayTell_113 : decode cX7_mayTell 113 = .ok (.if_icmp .ge 7, 3) := by decide +kernel
theorem dX7_mayTell_116 : decode cX7_mayTell 116 = .ok (.iconst 1, 1) := by decide +kernel
theorem dX7_mayTell_117 : decode cX7_mayTell 117 = .ok (.goto 4, 3) := by decide +kernel
theorem dX7_mayTell_120 : decode cX7_mayTell 120 = .ok (.iconst 0, 1) := by decide +kernel
theorem dX7_mayTell_121 : decode cX7_mayTell 121 = .ok (.ireturn, 1) := by decide +kernel
theorem dX7_tellIt_0 : decode cX7_tellIt 0 = .ok (.aload_n 0, 1) := by decide +kernel
theorem dX7_tellIt_1 : decode cX7_tellIt 1 = .ok (.getfield 13, 3) := by decide +kernel
theorem dX7_tellIt_4 : decode cX7_tellIt 4 = .ok (.bipush 6, 2) := by decide +kernel
theorem dX7_tellIt_6 : decode cX7_tellIt 6 = .ok (.iload_n 3, 1) := by decide +kernel
theorem dX7_tellIt_7 : decode cX7_tellIt 7 = .ok (.imul, 1) := by decide +kernel
theorem dX7_tellIt_8 : decode cX7_tellIt 8 = .ok (.iload_n 2, 1) := by decide +kernel
theorem dX7_tellIt_9 : decode cX7_tellIt 9 = .ok (.iadd, 1) := by decide +kernel
theorem dX7_tellIt_10 : decode cX7_tellIt 10 = .ok (.iaload, 1) := by decide +kernel
theorem dX7_tellIt_11 : decode cX7_tellIt 11 = .ok (.istore 5, 2) := by decide +kernel
theorem dX7_tellIt_13 : decode cX7_tellIt 13 = .ok (.aload_n 0, 1) := by decide +kernel
theorem dX7_tellIt_14 : decode cX7_tellIt 14 = .ok (.iload 5, 2) := by decide +kernel
theorem dX7_tellIt_16 : decode cX7_tellIt 16 = .ok (.iload_n 2, 1) := by decide +kernel
theorem dX7_tellIt_17 : decode cX7_tellIt 17 = .ok (.invokevirtual 158, 3) := by decide +kernel
theorem dX7_tellIt_20 : decode cX7_tellIt 20 = .ok (.istore 6, 2) := by decide +kernel
theorem dX7_tellIt_22 : decode cX7_tellIt 22 = .ok (.aload_n 1, 1) := by decide +kernel
theorem dX7_tellIt_23 : decode cX7_tellIt 23 = .ok (.iload 4, 2) := by decide +kernel
theorem dX7_tellIt_25 : decode cX7_tellIt 25 = .ok (.dup2, 1) := by decide +kernel
theorem dX7_tellIt_26 : decode cX7_tellIt 26 = .ok (.iaload, 1) := by decide +kernel
theorem dX7_tellIt_27 : decode cX7_tellIt 27 = .ok (.iconst 1, 1) := by decide +kernel
theorem dX7_tellIt_28 : decode cX7_tellIt 28 = .ok (.iadd, 1) := by decide +kernel
theorem dX7_tellIt_29 : decode cX7_tellIt 29 = .ok (.iastore, 1) := by decide +kernel
theorem dX7_tellIt_30 : decode cX7_tellIt 30 = .ok (.aload_n 1, 1) := by decide +kernel
theorem dX7_tellIt_31 : decode cX7_tellIt 31 = .ok (.iconst 3, 1) := by decide +kernel
theorem dX7_tellIt_32 : decode cX7_tellIt 32 = .ok (.iload 4, 2) := by decide +kernel
theorem dX7_tellIt_34 : decode cX7_tellIt 34 = .ok (.iadd, 1) := by decide +kernel
theorem dX7_tellIt_35 : decode cX7_tellIt 35 = .ok (.dup2, 1) := by decide +kernel
theorem dX7_tellIt_36 : decode cX7_tellIt 36 = .ok (.iaload, 1) := by decide +kernel
theorem dX7_tellIt_37 : decode cX7_tellIt 37 = .ok (.iload 6, 2) := by decide +kernel
theorem dX7_tellIt_39 : decode cX7_tellIt 39 = .ok (.ior, 1) := by decide +kernel
theorem dX7_tellIt_40 : decode cX7_tellIt 40 = .ok (.iastore, 1) := by decide +kernel
theorem dX7_tellIt_41 : decode cX7_tellIt 41 = .ok (.aload_n 1, 1) := by decide +kernel
theorem dX7_tellIt_42 : decode cX7_tellIt 42 = .ok (.bipush 6, 2) := by decide +kernel
theorem dX7_tellIt_44 : decode cX7_tellIt 44 = .ok (.bipush 6, 2) := by decide +kernel
theorem dX7_tellIt_46 : decode cX7_tellIt 46 = .ok (.iload 4, 2) := by decide +kernel
theorem dX7_tellIt_48 : decode cX7_tellIt 48 = .ok (.imul, 1) := by decide +kernel
theorem dX7_tellIt_49 : decode cX7_tellIt 49 = .ok (.iadd, 1) := by decide +kernel
theorem dX7_tellIt_50 : decode cX7_tellIt 50 = .ok (.iload_n 3, 1) := by decide +kernel
theorem dX7_tellIt_51 : decode cX7_tellIt 51 = .ok (.iadd, 1) := by decide +kernel
theorem dX7_tellIt_52 : decode cX7_tellIt 52 = .ok (.dup2, 1) := by decide +kernel
theorem dX7_tellIt_53 : decode cX7_tellIt 53 = .ok (.iaload, 1) := by decide +kernel
theorem dX7_tellIt_54 : decode cX7_tellIt 54 = .ok (.iconst 1, 1) := by decide +kernel
theorem dX7_tellIt_55 : decode cX7_tellIt 55 = .ok (.iadd, 1) := by decide +kernel
theorem dX7_tellIt_56 : decode cX7_tellIt 56 = .ok (.iastore, 1) := by decide +kernel
theorem dX7_tellIt_57 : decode cX7_tellIt 57 = .ok (.iconst 0, 1) := by decide +kernel
theorem dX7_tellIt_58 : decode cX7_tellIt 58 = .ok (.istore 7, 2) := by decide +kernel
theorem dX7_tellIt_60 : decode cX7_tellIt 60 = .ok (.iload 7, 2) := by decide +kernel
theorem dX7_tellIt_62 : decode cX7_tellIt 62 = .ok (.aload_n 0, 1) := by decide +kernel
theorem dX7_tellIt_63 : decode cX7_tellIt 63 = .ok (.getfield 81, 3) := by decide +kernel
theorem dX7_tellIt_66 : decode cX7_tellIt 66 = .ok (.if_icmp .ge 40, 3) := by decide +kernel
theorem dX7_tellIt_69 : decode cX7_tellIt 69 = .ok (.aload_n 1, 1) := by decide +kernel
theorem dX7_tellIt_70 : decode cX7_tellIt 70 = .ok (.bipush 24, 2) := by decide +kernel
theorem dX7_tellIt_72 : decode cX7_tellIt 72 = .ok (.bipush 6, 2) := by decide +kernel
theorem dX7_tellIt_74 : decode cX7_tellIt 74 = .ok (.iload 4, 2) := by decide +kernel
theorem dX7_tellIt_76 : decode cX7_tellIt 76 = .ok (.imul, 1) := by decide +kernel
theorem dX7_tellIt_77 : decode cX7_tellIt 77 = .ok (.iadd, 1) := by decide +kernel
theorem dX7_tellIt_78 : decode cX7_tellIt 78 = .ok (.iload 7, 2) := by decide +kernel
theorem dX7_tellIt_80 : decode cX7_tellIt 80 = .ok (.iadd, 1) := by decide +kernel
theorem dX7_tellIt_81 : decode cX7_tellIt 81 = .ok (.dup2, 1) := by decide +kernel
theorem dX7_tellIt_82 : decode cX7_tellIt 82 = .ok (.iaload, 1) := by decide +kernel
theorem dX7_tellIt_83 : decode cX7_tellIt 83 = .ok (.iload 6, 2) := by decide +kernel
theorem dX7_tellIt_85 : decode cX7_tellIt 85 = .ok (.iload 7, 2) := by decide +kernel
theorem dX7_tellIt_87 : decode cX7_tellIt 87 = .ok (.invokestatic 109, 3) := by decide +kernel
theorem dX7_tellIt_90 : decode cX7_tellIt 90 = .ok (.ifCond .eq 7, 3) := by decide +kernel
theorem dX7_tellIt_93 : decode cX7_tellIt 93 = .ok (.iconst 1, 1) := by decide +kernel
theorem dX7_tellIt_94 : decode cX7_tellIt 94 = .ok (.goto 4, 3) := by decide +kernel
theorem dX7_tellIt_97 : decode cX7_tellIt 97 = .ok (.iconst 0, 1) := by decide +kernel
theorem dX7_tellIt_98 : decode cX7_tellIt 98 = .ok (.iadd, 1) := by decide +kernel
theorem dX7_tellIt_99 : decode cX7_tellIt 99 = .ok (.iastore, 1) := by decide +kernel
theorem dX7_tellIt_100 : decode cX7_tellIt 100 = .ok (.iinc 7 1, 3) := by decide +kernel
theorem dX7_tellIt_103 : decode cX7_tellIt 103 = .ok (.goto (-43), 3) := by decide +kernel
theorem dX7_tellIt_106 : decode cX7_tellIt 106 = .ok (.aload_n 1, 1) := by decide +kernel
theorem dX7_tellIt_107 : decode cX7_tellIt 107 = .ok (.bipush 42, 2) := by decide +kernel
theorem dX7_tellIt_109 : decode cX7_tellIt 109 = .ok (.iconst 3, 1) := by decide +kernel
theorem dX7_tellIt_110 : decode cX7_tellIt 110 = .ok (.iload 4, 2) := by decide +kernel
theorem dX7_tellIt_112 : decode cX7_tellIt 112 = .ok (.imul, 1) := by decide +kernel
theorem dX7_tellIt_113 : decode cX7_tellIt 113 = .ok (.iadd, 1) := by decide +kernel
theorem dX7_tellIt_114 : decode cX7_tellIt 114 = .ok (.iload 5, 2) := by decide +kernel
theorem dX7_tellIt_116 : decode cX7_tellIt 116 = .ok (.iadd, 1) := by decide +kernel
theorem dX7_tellIt_117 : decode cX7_tellIt 117 = .ok (.dup2, 1) := by decide +kernel
theorem dX7_tellIt_118 : decode cX7_tellIt 118 = .ok (.iaload, 1) := by decide +kernel
theorem dX7_tellIt_119 : decode cX7_tellIt 119 = .ok (.iconst 1, 1) := by decide +kernel
theorem dX7_tellIt_120 : decode cX7_tellIt 120 = .ok (.iadd, 1) := by decide +kernel
theorem dX7_tellIt_121 : decode cX7_tellIt 121 = .ok (.iastore, 1) := by decide +kernel
theorem dX7_tellIt_122 : decode cX7_tellIt 122 = .ok (.aload_n 0, 1) := by decide +kernel
theorem dX7_tellIt_123 : decode cX7_tellIt 123 = .ok (.aload_n 1, 1) := by decide +kernel
theorem dX7_tellIt_124 : decode cX7_tellIt 124 = .ok (.invokevirtual 133, 3) := by decide +kernel
theorem dX7_tellIt_127 : decode cX7_tellIt 127 = .ok (.return_, 1) := by decide +kernel
theorem dX7_may_0 : decode cX7_may 0 = .ok (.aload_n 0, 1) := by decide +kernel
theorem dX7_may_1 : decode cX7_may 1 = .ok (.iconst 0, 1) := by decide +kernel
theorem dX7_may_2 : decode cX7_may 2 = .ok (.putfield 77, 3) := by decide +kernel
theorem dX7_may_5 : decode cX7_may 5 = .ok (.aload_n 0, 1) := by decide +kernel
theorem dX7_may_6 : decode cX7_may 6 = .ok (.iload_n 1, 1) := by decide +kernel
theorem dX7_may_7 : decode cX7_may 7 = .ok (.invokevirtual 150, 3) := by decide +kernel
theorem dX7_may_10 : decode cX7_may 10 = .ok (.ifCond .ne 11, 3) := by decide +kernel
theorem dX7_may_13 : decode cX7_may 13 = .ok (.aload_n 0, 1) := by decide +kernel
theorem dX7_may_14 : decode cX7_may 14 = .ok (.iload_n 2, 1) := by decide +kernel
theorem dX7_may_15 : decode cX7_may 15 = .ok (.invokevirtual 155, 3) := by decide +kernel
theorem dX7_may_18 : decode cX7_may 18 = .ok (.ifCond .eq 7, 3) := by decide +kernel
theorem dX7_may_21 : decode cX7_may 21 = .ok (.iconst (-1), 1) := by decide +kernel
theorem dX7_may_22 : decode cX7_may 22 = .ok (.goto 25, 3) := by decide +kernel
theorem dX7_may_25 : decode cX7_may 25 = .ok (.aload_n 0, 1) := by decide +kernel
theorem dX7_may_26 : decode cX7_may 26 = .ok (.aload_n 0, 1) := by decide +kernel
theorem dX7_may_27 : decode cX7_may 27 = .ok (.getfield 25, 3) := by decide +kernel
theorem dX7_may_30 : decode cX7_may 30 = .ok (.aload_n 0, 1) := by decide +kernel
theorem dX7_may_31 : decode cX7_may 31 = .ok (.getfield 137, 3) := by decide +kernel
theorem dX7_may_34 : decode cX7_may 34 = .ok (.iload_n 1, 1) := by decide +kernel
theorem dX7_may_35 : decode cX7_may 35 = .ok (.iload_n 2, 1) := by decide +kernel
theorem dX7_may_36 : decode cX7_may 36 = .ok (.invokevirtual 161, 3) := by decide +kernel
theorem dX7_may_39 : decode cX7_may 39 = .ok (.ifCond .eq 7, 3) := by decide +kernel
theorem dX7_may_42 : decode cX7_may 42 = .ok (.iconst 1, 1) := by decide +kernel
theorem dX7_may_43 : decode cX7_may 43 = .ok (.goto 4, 3) := by decide +kernel
theorem dX7_may_46 : decode cX7_may 46 = .ok (.iconst 0, 1) := by decide +kernel
theorem dX7_may_47 : decode cX7_may 47 = .ok (.ireturn, 1) := by decide +kernel
theorem dX7_layPage_0 : decode cX7_layPage 0 = .ok (.iconst 0, 1) := by decide +kernel
theorem dX7_layPage_1 : decode cX7_layPage 1 = .ok (.istore_n 3, 1) := by decide +kernel
theorem dX7_layPage_2 : decode cX7_layPage 2 = .ok (.iload_n 3, 1) := by decide +kernel
theorem dX7_layPage_3 : decode cX7_layPage 3 = .ok (.bipush 58, 2) := by decide +kernel
theorem dX7_layPage_5 : decode cX7_layPage 5 = .ok (.if_icmp .ge 20, 3) := by decide +kernel
theorem dX7_layPage_8 : decode cX7_layPage 8 = .ok (.aload_n 1, 1) := by decide +kernel
theorem dX7_layPage_9 : decode cX7_layPage 9 = .ok (.iload_n 2, 1) := by decide +kernel
theorem dX7_layPage_10 : decode cX7_layPage 10 = .ok (.iload_n 3, 1) := by decide +kernel
theorem dX7_layPage_11 : decode cX7_layPage 11 = .ok (.iadd, 1) := by decide +kernel
theorem dX7_layPage_12 : decode cX7_layPage 12 = .ok (.aload_n 0, 1) := by decide +kernel
theorem dX7_layPage_13 : decode cX7_layPage 13 = .ok (.getfield 25, 3) := by decide +kernel
theorem dX7_layPage_16 : decode cX7_layPage 16 = .ok (.iload_n 3, 1) := by decide +kernel
theorem dX7_layPage_17 : decode cX7_layPage 17 = .ok (.iaload, 1) := by decide +kernel
theorem dX7_layPage_18 : decode cX7_layPage 18 = .ok (.iastore, 1) := by decide +kernel
theorem dX7_layPage_19 : decode cX7_layPage 19 = .ok (.iinc 3 1, 3) := by decide +kernel
theorem dX7_layPage_22 : decode cX7_layPage 22 = .ok (.goto (-20), 3) := by decide +kernel
theorem dX7_layPage_25 : decode cX7_layPage 25 = .ok (.aload_n 1, 1) := by decide +kernel
theorem dX7_layPage_26 : decode cX7_layPage 26 = .ok (.iload_n 2, 1) := by decide +kernel
theorem dX7_layPage_27 : decode cX7_layPage 27 = .ok (.bipush 57, 2) := by decide +kernel
theorem dX7_layPage_29 : decode cX7_layPage 29 = .ok (.iadd, 1) := by decide +kernel
theorem dX7_layPage_30 : decode cX7_layPage 30 = .ok (.aload_n 0, 1) := by decide +kernel
theorem dX7_layPage_31 : decode cX7_layPage 31 = .ok (.getfield 137, 3) := by decide +kernel
theorem dX7_layPage_34 : decode cX7_layPage 34 = .ok (.iastore, 1) := by decide +kernel
theorem dX7_layPage_35 : decode cX7_layPage 35 = .ok (.return_, 1) := by decide +kernel
theorem dX7_takePage_0 : decode cX7_takePage 0 = .ok (.iconst 0, 1) := by decide +kernel
theorem dX7_takePage_1 : decode cX7_takePage 1 = .ok (.istore_n 3, 1) := by decide +kernel
theorem dX7_takePage_2 : decode cX7_takePage 2 = .ok (.iload_n 3, 1) := by decide +kernel
theorem dX7_takePage_3 : decode cX7_takePage 3 = .ok (.bipush 58, 2) := by decide +kernel
theorem dX7_takePage_5 : decode cX7_takePage 5 = .ok (.if_icmp .ge 20, 3) := by decide +kernel
theorem dX7_takePage_8 : decode cX7_takePage 8 = .ok (.aload_n 0, 1) := by decide +kernel
theorem dX7_takePage_9 : decode cX7_takePage 9 = .ok (.getfield 25, 3) := by decide +kernel
theorem dX7_takePage_12 : decode cX7_takePage 12 = .ok (.iload_n 3, 1) := by decide +kernel
theorem dX7_takePage_13 : decode cX7_takePage 13 = .ok (.aload_n 1, 1) := by decide +kernel
theorem dX7_takePage_14 : decode cX7_takePage 14 = .ok (.iload_n 2, 1) := by decide +kernel
theorem dX7_takePage_15 : decode cX7_takePage 15 = .ok (.iload_n 3, 1) := by decide +kernel
theorem dX7_takePage_16 : decode cX7_takePage 16 = .ok (.iadd, 1) := by decide +kernel
theorem dX7_takePage_17 : decode cX7_takePage 17 = .ok (.iaload, 1) := by decide +kernel
theorem dX7_takePage_18 : decode cX7_takePage 18 = .ok (.iastore, 1) := by decide +kernel
theorem dX7_takePage_19 : decode cX7_takePage 19 = .ok (.iinc 3 1, 3) := by decide +kernel
theorem dX7_takePage_22 : decode cX7_takePage 22 = .ok (.goto (-20), 3) := by decide +kernel
theorem dX7_takePage_25 : decode cX7_takePage 25 = .ok (.aload_n 0, 1) := by decide +kernel
theorem dX7_takePage_26 : decode cX7_takePage 26 = .ok (.aload_n 1, 1) := by decide +kernel
theorem dX7_takePage_27 : decode cX7_takePage 27 = .ok (.iload_n 2, 1) := by decide +kernel
theorem dX7_takePage_28 : decode cX7_takePage 28 = .ok (.bipush 57, 2) := by decide +kernel
theorem dX7_takePage_30 : decode cX7_takePage 30 = .ok (.iadd, 1) := by decide +kernel
theorem dX7_takePage_31 : decode cX7_takePage 31 = .ok (.iaload, 1) := by decide +kernel
theorem dX7_takePage_32 : decode cX7_takePage 32 = .ok (.putfield 137, 3) := by decide +kernel
theorem dX7_takePage_35 : decode cX7_takePage 35 = .ok (.return_, 1) := by decide +kernel
theorem dX7_note_0 : decode cX7_note 0 = .ok (.aload_n 0, 1) := by decide +kernel
theorem dX7_note_1 : decode cX7_note 1 = .ok (.getfield 140, 3) := by decide +kernel
theorem dX7_note_4 : decode cX7_note 4 = .ok (.bipush 16, 2) := by decide +kernel
theorem dX7_note_6 : decode cX7_note 6 = .ok (.if_icmp .ne 43, 3) := by decide +kernel
theorem dX7_note_9 : decode cX7_note 9 = .ok (.iconst 0, 1) := by decide +kernel
theorem dX7_note_10 : decode cX7_note 10 = .ok (.istore_n 1, 1) := by decide +kernel
theorem dX7_note_11 : decode cX7_note 11 = .ok (.iload_n 1, 1) := by decide +kernel
theorem dX7_note_12 : decode cX7_note 12 = .ok (.sipush 870, 3) := by decide +kernel
theorem dX7_note_15 : decode cX7_note 15 = .ok (.if_icmp .ge 24, 3) := by decide +kernel
theorem dX7_note_18 : decode cX7_note 18 = .ok (.aload_n 0, 1) := by decide +kernel
theorem dX7_note_19 : decode cX7_note 19 = .ok (.getfield 40, 3) := by decide +kernel
theorem dX7_note_22 : decode cX7_note 22 = .ok (.iload_n 1, 1) := by decide +kernel
theorem dX7_note_23 : decode cX7_note 23 = .ok (.aload_n 0, 1) := by decide +kernel
theorem dX7_note_24 : decode cX7_note 24 = .ok (.getfield 40, 3) := by decide +kernel
theorem dX7_note_27 : decode cX7_note 27 = .ok (.iload_n 1, 1) := by decide +kernel
theorem dX7_note_28 : decode cX7_note 28 = .ok (.bipush 58, 2) := by decide +kernel
theorem dX7_note_30 : decode cX7_note 30 = .ok (.iadd, 1) := by decide +kernel
theorem dX7_note_31 : decode cX7_note 31 = .ok (.iaload, 1) := by decide +kernel
theorem dX7_note_32 : decode cX7_note 32 = .ok (.iastore, 1) := by decide +kernel
theorem dX7_note_33 : decode cX7_note 33 = .ok (.iinc 1 1, 3) := by decide +kernel
theorem dX7_note_36 : decode cX7_note 36 = .ok (.goto (-25), 3) := by decide +kernel
theorem dX7_note_39 : decode cX7_note 39 = .ok (.aload_n 0, 1) := by decide +kernel
theorem dX7_note_40 : decode cX7_note 40 = .ok (.dup, 1) := by decide +kernel
theorem dX7_note_41 : decode cX7_note 41 = .ok (.getfield 140, 3) := by decide +kernel
theorem dX7_note_44 : decode cX7_note 44 = .ok (.iconst 1, 1) := by decide +kernel
theorem dX7_note_45 : decode cX7_note 45 = .ok (.isub, 1) := by decide +kernel
theorem dX7_note_46 : decode cX7_note 46 = .ok (.putfield 140, 3) := by decide +kernel
theorem dX7_note_49 : decode cX7_note 49 = .ok (.aload_n 0, 1) := by decide +kernel
theorem dX7_note_50 : decode cX7_note 50 = .ok (.aload_n 0, 1) := by decide +kernel
theorem dX7_note_51 : decode cX7_note 51 = .ok (.getfield 40, 3) := by decide +kernel
theorem dX7_note_54 : decode cX7_note 54 = .ok (.bipush 58, 2) := by decide +kernel
theorem dX7_note_56 : decode cX7_note 56 = .ok (.aload_n 0, 1) := by decide +kernel
theorem dX7_note_57 : decode cX7_note 57 = .ok (.getfield 140, 3) := by decide +kernel
theorem dX7_note_60 : decode cX7_note 60 = .ok (.imul, 1) := by decide +kernel
theorem dX7_note_61 : decode cX7_note 61 = .ok (.invokevirtual 165, 3) := by decide +kernel
theorem dX7_note_64 : decode cX7_note 64 = .ok (.aload_n 0, 1) := by decide +kernel
theorem dX7_note_65 : decode cX7_note 65 = .ok (.dup, 1) := by decide +kernel
theorem dX7_note_66 : decode cX7_note 66 = .ok (.getfield 140, 3) := by decide +kernel
theorem dX7_note_69 : decode cX7_note 69 = .ok (.iconst 1, 1) := by decide +kernel
theorem dX7_note_70 : decode cX7_note 70 = .ok (.iadd, 1) := by decide +kernel
theorem dX7_note_71 : decode cX7_note 71 = .ok (.putfield 140, 3) := by decide +kernel
theorem dX7_note_74 : decode cX7_note 74 = .ok (.return_, 1) := by decide +kernel
theorem dX7_tell_0 : decode cX7_tell 0 = .ok (.aload_n 0, 1) := by decide +kernel
theorem dX7_tell_1 : decode cX7_tell 1 = .ok (.iconst 0, 1) := by decide +kernel
theorem dX7_tell_2 : decode cX7_tell 2 = .ok (.putfield 77, 3) := by decide +kernel
theorem dX7_tell_5 : decode cX7_tell 5 = .ok (.aload_n 0, 1) := by decide +kernel
theorem dX7_tell_6 : decode cX7_tell 6 = .ok (.iload_n 1, 1) := by decide +kernel
theorem dX7_tell_7 : decode cX7_tell 7 = .ok (.invokevirtual 150, 3) := by decide +kernel
theorem dX7_tell_10 : decode cX7_tell 10 = .ok (.ifCond .ne 11, 3) := by decide +kernel
theorem dX7_tell_13 : decode cX7_tell 13 = .ok (.aload_n 0, 1) := by decide +kernel
theorem dX7_tell_14 : decode cX7_tell 14 = .ok (.iload_n 2, 1) := by decide +kernel
theorem dX7_tell_15 : decode cX7_tell 15 = .ok (.invokevirtual 155, 3) := by decide +kernel
theorem dX7_tell_18 : decode cX7_tell 18 = .ok (.ifCond .eq 5, 3) := by decide +kernel
theorem dX7_tell_21 : decode cX7_tell 21 = .ok (.iconst (-1), 1) := by decide +kernel
theorem dX7_tell_22 : decode cX7_tell 22 = .ok (.ireturn, 1) := by decide +kernel
theorem dX7_tell_23 : decode cX7_tell 23 = .ok (.aload_n 0, 1) := by decide +kernel
theorem dX7_tell_24 : decode cX7_tell 24 = .ok (.aload_n 0, 1) := by decide +kernel
theorem dX7_tell_25 : decode cX7_tell 25 = .ok (.getfield 25, 3) := by decide +kernel
theorem dX7_tell_28 : decode cX7_tell 28 = .ok (.aload_n 0, 1) := by decide +kernel
theorem dX7_tell_29 : decode cX7_tell 29 = .ok (.getfield 137, 3) := by decide +kernel
theorem dX7_tell_32 : decode cX7_tell 32 = .ok (.iload_n 1, 1) := by decide +kernel
theorem dX7_tell_33 : decode cX7_tell 33 = .ok (.iload_n 2, 1) := by decide +kernel
theorem dX7_tell_34 : decode cX7_tell 34 = .ok (.invokevirtual 161, 3) := by decide +kernel
theorem dX7_tell_37 : decode cX7_tell 37 = .ok (.ifCond .ne 6, 3) := by decide +kernel
theorem dX7_tell_40 : decode cX7_tell 40 = .ok (.bipush (-3), 2) := by decide +kernel
theorem dX7_tell_42 : decode cX7_tell 42 = .ok (.ireturn, 1) := by decide +kernel
theorem dX7_tell_43 : decode cX7_tell 43 = .ok (.aload_n 0, 1) := by decide +kernel
theorem dX7_tell_44 : decode cX7_tell 44 = .ok (.invokevirtual 169, 3) := by decide +kernel
theorem dX7_tell_47 : decode cX7_tell 47 = .ok (.aload_n 0, 1) := by decide +kernel
theorem dX7_tell_48 : decode cX7_tell 48 = .ok (.getfield 25, 3) := by decide +kernel
theorem dX7_tell_51 : decode cX7_tell 51 = .ok (.iconst 3, 1) := by decide +kernel
theorem dX7_tell_52 : decode cX7_tell 52 = .ok (.iload_n 2, 1) := by decide +kernel
theorem dX7_tell_53 : decode cX7_tell 53 = .ok (.iadd, 1) := by decide +kernel
theorem dX7_tell_54 : decode cX7_tell 54 = .ok (.iaload, 1) := by decide +kernel
theorem dX7_tell_55 : decode cX7_tell 55 = .ok (.invokestatic 143, 3) := by decide +kernel
theorem dX7_tell_58 : decode cX7_tell 58 = .ok (.istore_n 3, 1) := by decide +kernel
theorem dX7_tell_59 : decode cX7_tell 59 = .ok (.aload_n 0, 1) := by decide +kernel
theorem dX7_tell_60 : decode cX7_tell 60 = .ok (.aload_n 0, 1) := by decide +kernel
theorem dX7_tell_61 : decode cX7_tell 61 = .ok (.getfield 25, 3) := by decide +kernel
theorem dX7_tell_64 : decode cX7_tell 64 = .ok (.aload_n 0, 1) := by decide +kernel
theorem dX7_tell_65 : decode cX7_tell 65 = .ok (.getfield 137, 3) := by decide +kernel
theorem dX7_tell_68 : decode cX7_tell 68 = .ok (.iload_n 1, 1) := by decide +kernel
theorem dX7_tell_69 : decode cX7_tell 69 = .ok (.iload_n 2, 1) := by decide +kernel
theorem dX7_tell_70 : decode cX7_tell 70 = .ok (.invokevirtual 172, 3) := by decide +kernel
theorem dX7_tell_73 : decode cX7_tell 73 = .ok (.aload_n 0, 1) := by decide +kernel
theorem dX7_tell_74 : decode cX7_tell 74 = .ok (.getfield 25, 3) := by decide +kernel
theorem dX7_tell_77 : decode cX7_tell 77 = .ok (.iconst 3, 1) := by decide +kernel
theorem dX7_tell_78 : decode cX7_tell 78 = .ok (.iload_n 2, 1) := by decide +kernel
theorem dX7_tell_79 : decode cX7_tell 79 = .ok (.iadd, 1) := by decide +kernel
theorem dX7_tell_80 : decode cX7_tell 80 = .ok (.iaload, 1) := by decide +kernel
theorem dX7_tell_81 : decode cX7_tell 81 = .ok (.invokestatic 143, 3) := by decide +kernel
theorem dX7_tell_84 : decode cX7_tell 84 = .ok (.iload_n 3, 1) := by decide +kernel
theorem dX7_tell_85 : decode cX7_tell 85 = .ok (.isub, 1) := by decide +kernel
theorem dX7_tell_86 : decode cX7_tell 86 = .ok (.ireturn, 1) := by decide +kernel
theorem dX7_hour_0 : decode cX7_hour 0 = .ok (.aload_n 0, 1) := by decide +kernel
theorem dX7_hour_1 : decode cX7_hour 1 = .ok (.iconst 0, 1) := by decide +kernel
theorem dX7_hour_2 : decode cX7_hour 2 = .ok (.putfield 77, 3) := by decide +kernel
theorem dX7_hour_5 : decode cX7_hour 5 = .ok (.aload_n 0, 1) := by decide +kernel
theorem dX7_hour_6 : decode cX7_hour 6 = .ok (.getfield 137, 3) := by decide +kernel
theorem dX7_hour_9 : decode cX7_hour 9 = .ok (.iconst 5, 1) := by decide +kernel
theorem dX7_hour_10 : decode cX7_hour 10 = .ok (.if_icmp .ne 6, 3) := by decide +kernel
theorem dX7_hour_13 : decode cX7_hour 13 = .ok (.bipush (-3), 2) := by decide +kernel
theorem dX7_hour_15 : decode cX7_hour 15 = .ok (.ireturn, 1) := by decide +kernel
theorem dX7_hour_16 : decode cX7_hour 16 = .ok (.aload_n 0, 1) := by decide +kernel
theorem dX7_hour_17 : decode cX7_hour 17 = .ok (.invokevirtual 169, 3) := by decide +kernel
theorem dX7_hour_20 : decode cX7_hour 20 = .ok (.aload_n 0, 1) := by decide +kernel
theorem dX7_hour_21 : decode cX7_hour 21 = .ok (.dup, 1) := by decide +kernel
theorem dX7_hour_22 : decode cX7_hour 22 = .ok (.getfield 137, 3) := by decide +kernel
theorem dX7_hour_25 : decode cX7_hour 25 = .ok (.iconst 1, 1) := by decide +kernel
theorem dX7_hour_26 : decode cX7_hour 26 = .ok (.iadd, 1) := by decide +kernel
theorem dX7_hour_27 : decode cX7_hour 27 = .ok (.putfield 137, 3) := by decide +kernel
theorem dX7_hour_30 : decode cX7_hour 30 = .ok (.aload_n 0, 1) := by decide +kernel
theorem dX7_hour_31 : decode cX7_hour 31 = .ok (.getfield 137, 3) := by decide +kernel
theorem dX7_hour_34 : decode cX7_hour 34 = .ok (.ireturn, 1) := by decide +kernel
theorem dX7_undo_0 : decode cX7_undo 0 = .ok (.aload_n 0, 1) := by decide +kernel
theorem dX7_undo_1 : decode cX7_undo 1 = .ok (.iconst 0, 1) := by decide +kernel
theorem dX7_undo_2 : decode cX7_undo 2 = .ok (.putfield 77, 3) := by decide +kernel
theorem dX7_undo_5 : decode cX7_undo 5 = .ok (.aload_n 0, 1) := by decide +kernel
theorem dX7_undo_6 : decode cX7_undo 6 = .ok (.getfield 140, 3) := by decide +kernel
theorem dX7_undo_9 : decode cX7_undo 9 = .ok (.ifCond .ne 6, 3) := by decide +kernel
theorem dX7_undo_12 : decode cX7_undo 12 = .ok (.bipush (-3), 2) := by decide +kernel
theorem dX7_undo_14 : decode cX7_undo 14 = .ok (.ireturn, 1) := by decide +kernel
theorem dX7_undo_15 : decode cX7_undo 15 = .ok (.aload_n 0, 1) := by decide +kernel
theorem dX7_undo_16 : decode cX7_undo 16 = .ok (.dup, 1) := by decide +kernel
theorem dX7_undo_17 : decode cX7_undo 17 = .ok (.getfield 140, 3) := by decide +kernel
theorem dX7_undo_20 : decode cX7_undo 20 = .ok (.iconst 1, 1) := by decide +kernel
theorem dX7_undo_21 : decode cX7_undo 21 = .ok (.isub, 1) := by decide +kernel
theorem dX7_undo_22 : decode cX7_undo 22 = .ok (.putfield 140, 3) := by decide +kernel
theorem dX7_undo_25 : decode cX7_undo 25 = .ok (.aload_n 0, 1) := by decide +kernel
theorem dX7_undo_26 : decode cX7_undo 26 = .ok (.aload_n 0, 1) := by decide +kernel
theorem dX7_undo_27 : decode cX7_undo 27 = .ok (.getfield 40, 3) := by decide +kernel
theorem dX7_undo_30 : decode cX7_undo 30 = .ok (.bipush 58, 2) := by decide +kernel
theorem dX7_undo_32 : decode cX7_undo 32 = .ok (.aload_n 0, 1) := by decide +kernel
theorem dX7_undo_33 : decode cX7_undo 33 = .ok (.getfield 140, 3) := by decide +kernel
theorem dX7_undo_36 : decode cX7_undo 36 = .ok (.imul, 1) := by decide +kernel
theorem dX7_undo_37 : decode cX7_undo 37 = .ok (.invokevirtual 176, 3) := by decide +kernel
theorem dX7_undo_40 : decode cX7_undo 40 = .ok (.aload_n 0, 1) := by decide +kernel
theorem dX7_undo_41 : decode cX7_undo 41 = .ok (.getfield 140, 3) := by decide +kernel
theorem dX7_undo_44 : decode cX7_undo 44 = .ok (.ireturn, 1) := by decide +kernel
theorem dX7_judge_0 : decode cX7_judge 0 = .ok (.aload_n 0, 1) := by decide +kernel
theorem dX7_judge_1 : decode cX7_judge 1 = .ok (.iconst 0, 1) := by decide +kernel
theorem dX7_judge_2 : decode cX7_judge 2 = .ok (.putfield 77, 3) := by decide +kernel
theorem dX7_judge_5 : decode cX7_judge 5 = .ok (.aload_n 0, 1) := by decide +kernel
theorem dX7_judge_6 : decode cX7_judge 6 = .ok (.iload_n 1, 1) := by decide +kernel
theorem dX7_judge_7 : decode cX7_judge 7 = .ok (.invokevirtual 155, 3) := by decide +kernel
theorem dX7_judge_10 : decode cX7_judge 10 = .ok (.ifCond .eq 5, 3) := by decide +kernel
theorem dX7_judge_13 : decode cX7_judge 13 = .ok (.iconst (-1), 1) := by decide +kernel
theorem dX7_judge_14 : decode cX7_judge 14 = .ok (.ireturn, 1) := by decide +kernel
theorem dX7_judge_15 : decode cX7_judge 15 = .ok (.iload_n 2, 1) := by decide +kernel
theorem dX7_judge_16 : decode cX7_judge 16 = .ok (.iconst 1, 1) := by decide +kernel
theorem dX7_judge_17 : decode cX7_judge 17 = .ok (.if_icmp .ne 8, 3) := by decide +kernel
theorem dX7_judge_20 : decode cX7_judge 20 = .ok (.bipush 10, 2) := by decide +kernel
theorem dX7_judge_22 : decode cX7_judge 22 = .ok (.goto 36, 3) := by decide +kernel
theorem dX7_judge_25 : decode cX7_judge 25 = .ok (.iload_n 2, 1) := by decide +kernel
theorem dX7_judge_26 : decode cX7_judge 26 = .ok (.iconst 2, 1) := by decide +kernel
theorem dX7_judge_27 : decode cX7_judge 27 = .ok (.if_icmp .ne 8, 3) := by decide +kernel
theorem dX7_judge_30 : decode cX7_judge 30 = .ok (.bipush 100, 2) := by decide +kernel
theorem dX7_judge_32 : decode cX7_judge 32 = .ok (.goto 26, 3) := by decide +kernel
theorem dX7_judge_35 : decode cX7_judge 35 = .ok (.iload_n 2, 1) := by decide +kernel
theorem dX7_judge_36 : decode cX7_judge 36 = .ok (.iconst 3, 1) := by decide +kernel
theorem dX7_judge_37 : decode cX7_judge 37 = .ok (.if_icmp .ne 9, 3) := by decide +kernel
theorem dX7_judge_40 : decode cX7_judge 40 = .ok (.sipush 1000, 3) := by decide +kernel
theorem dX7_judge_43 : decode cX7_judge 43 = .ok (.goto 15, 3) := by decide +kernel
theorem dX7_judge_46 : decode cX7_judge 46 = .ok (.iload_n 2, 1) := by decide +kernel
theorem dX7_judge_47 : decode cX7_judge 47 = .ok (.iconst 4, 1) := by decide +kernel
theorem dX7_judge_48 : decode cX7_judge 48 = .ok (.if_icmp .ne 9, 3) := by decide +kernel
theorem dX7_judge_51 : decode cX7_judge 51 = .ok (.sipush 10000, 3) := by decide +kernel
theorem dX7_judge_54 : decode cX7_judge 54 = .ok (.goto 4, 3) := by decide +kernel
theorem dX7_judge_57 : decode cX7_judge 57 = .ok (.iconst 0, 1) := by decide +kernel
theorem dX7_judge_58 : decode cX7_judge 58 = .ok (.istore 4, 2) := by decide +kernel
theorem dX7_judge_60 : decode cX7_judge 60 = .ok (.iload_n 3, 1) := by decide +kernel
theorem dX7_judge_61 : decode cX7_judge 61 = .ok (.i2l, 1) := by decide +kernel
theorem dX7_judge_62 : decode cX7_judge 62 = .ok (.lconst 0, 1) := by decide +kernel
theorem dX7_judge_63 : decode cX7_judge 63 = .ok (.iload 4, 2) := by decide +kernel
theorem dX7_judge_65 : decode cX7_judge 65 = .ok (.iconst 1, 1) := by decide +kernel
theorem dX7_judge_66 : decode cX7_judge 66 = .ok (.isub, 1) := by decide +kernel
theorem dX7_judge_67 : decode cX7_judge 67 = .ok (.i2l, 1) := by decide +kernel
theorem dX7_judge_68 : decode cX7_judge 68 = .ok (.invokestatic 84, 3) := by decide +kernel
theorem dX7_judge_71 : decode cX7_judge 71 = .ok (.ifCond .ne 6, 3) := by decide +kernel
theorem dX7_judge_74 : decode cX7_judge 74 = .ok (.bipush (-2), 2) := by decide +kernel
theorem dX7_judge_76 : decode cX7_judge 76 = .ok (.ireturn, 1) := by decide +kernel
theorem dX7_judge_77 : decode cX7_judge 77 = .ok (.iconst 0, 1) := by decide +kernel
theorem dX7_judge_78 : decode cX7_judge 78 = .ok (.istore 5, 2) := by decide +kernel
theorem dX7_judge_80 : decode cX7_judge 80 = .ok (.iload 5, 2) := by decide +kernel
theorem dX7_judge_82 : decode cX7_judge 82 = .ok (.bipush 58, 2) := by decide +kernel
theorem dX7_judge_84 : decode cX7_judge 84 = .ok (.if_icmp .ge 23, 3) := by decide +kernel
theorem dX7_judge_87 : decode cX7_judge 87 = .ok (.aload_n 0, 1) := by decide +kernel
theorem dX7_judge_88 : decode cX7_judge 88 = .ok (.getfield 50, 3) := by decide +kernel
theorem dX7_judge_91 : decode cX7_judge 91 = .ok (.iload 5, 2) := by decide +kernel
theorem dX7_judge_93 : decode cX7_judge 93 = .ok (.aload_n 0, 1) := by decide +kernel
theorem dX7_judge_94 : decode cX7_judge 94 = .ok (.getfield 25, 3) := by decide +kernel
theorem dX7_judge_97 : decode cX7_judge 97 = .ok (.iload 5, 2) := by decide +kernel
theorem dX7_judge_99 : decode cX7_judge 99 = .ok (.iaload, 1) := by decide +kernel
theorem dX7_judge_100 : decode cX7_judge 100 = .ok (.iastore, 1) := by decide +kernel
theorem dX7_judge_101 : decode cX7_judge 101 = .ok (.iinc 5 1, 3) := by decide +kernel
theorem dX7_judge_104 : decode cX7_judge 104 = .ok (.goto (-24), 3) := by decide +kernel
theorem dX7_judge_107 : decode cX7_judge 107 = .ok (.aload_n 0, 1) := by decide +kernel
theorem dX7_judge_108 : decode cX7_judge 108 = .ok (.getfield 137, 3) := by decide +kernel
theorem dX7_judge_111 : decode cX7_judge 111 = .ok (.istore 5, 2) := by decide +kernel
theorem dX7_judge_113 : decode cX7_judge 113 = .ok (.iconst 0, 1) := by decide +kernel
theorem dX7_judge_114 : decode cX7_judge 114 = .ok (.istore 6, 2) := by decide +kernel
theorem dX7_judge_116 : decode cX7_judge 116 = .ok (.iload 6, 2) := by decide +kernel
theorem dX7_judge_118 : decode cX7_judge 118 = .ok (.iload_n 2, 1) := by decide +kernel
theorem dX7_judge_119 : decode cX7_judge 119 = .ok (.if_icmp .ge 112, 3) := by decide +kernel
theorem dX7_judge_122 : decode cX7_judge 122 = .ok (.iload 4, 2) := by decide +kernel
theorem dX7_judge_124 : decode cX7_judge 124 = .ok (.bipush 10, 2) := by decide +kernel
theorem dX7_judge_126 : decode cX7_judge 126 = .ok (.idiv, 1) := by decide +kernel
theorem dX7_judge_127 : decode cX7_judge 127 = .ok (.istore 4, 2) := by decide +kernel
theorem dX7_judge_129 : decode cX7_judge 129 = .ok (.iload_n 3, 1) := by decide +kernel
theorem dX7_judge_130 : decode cX7_judge 130 = .ok (.iload 4, 2) := by decide +kernel
theorem dX7_judge_132 : decode cX7_judge 132 = .ok (.idiv, 1) := by decide +kernel
theorem dX7_judge_133 : decode cX7_judge 133 = .ok (.bipush 10, 2) := by decide +kernel
theorem dX7_judge_135 : decode cX7_judge 135 = .ok (.irem, 1) := by decide +kernel
theorem dX7_judge_136 : decode cX7_judge 136 = .ok (.istore 7, 2) := by decide +kernel
theorem dX7_judge_138 : decode cX7_judge 138 = .ok (.iload 7, 2) := by decide +kernel
theorem dX7_judge_140 : decode cX7_judge 140 = .ok (.bipush 9, 2) := by decide +kernel
theorem dX7_judge_142 : decode cX7_judge 142 = .ok (.if_icmp .ne 17, 3) := by decide +kernel
theorem dX7_judge_145 : decode cX7_judge 145 = .ok (.iload 5, 2) := by decide +kernel
theorem dX7_judge_147 : decode cX7_judge 147 = .ok (.iconst 5, 1) := by decide +kernel
theorem dX7_judge_148 : decode cX7_judge 148 = .ok (.if_icmp .ge 7, 3) := by decide +kernel
theorem dX7_judge_151 : decode cX7_judge 151 = .ok (.iconst 1, 1) := by decide +kernel
theorem dX7_judge_152 : decode cX7_judge 152 = .ok (.goto 37, 3) := by decide +kernel
theorem dX7_judge_155 : decode cX7_judge 155 = .ok (.iconst 0, 1) := by decide +kernel
theorem dX7_judge_156 : decode cX7_judge 156 = .ok (.goto 33, 3) := by decide +kernel
theorem dX7_judge_159 : decode cX7_judge 159 = .ok (.aload_n 0, 1) := by decide +kernel
theorem dX7_judge_160 : decode cX7_judge 160 = .ok (.iload 7, 2) := by decide +kernel
theorem dX7_judge_162 : decode cX7_judge 162 = .ok (.invokevirtual 150, 3) := by decide +kernel
theorem dX7_judge_165 : decode cX7_judge 165 = .ok (.ifCond .ne 23, 3) := by decide +kernel
theorem dX7_judge_168 : decode cX7_judge 168 = .ok (.aload_n 0, 1) := by decide +kernel
theorem dX7_judge_169 : decode cX7_judge 169 = .ok (.aload_n 0, 1) := by decide +kernel
theorem dX7_judge_170 : decode cX7_judge 170 = .ok (.getfield 50, 3) := by decide +kernel
theorem dX7_judge_173 : decode cX7_judge 173 = .ok (.iload 5, 2) := by decide +kernel
theorem dX7_judge_175 : decode cX7_judge 175 = .ok (.iload 7, 2) := by decide +kernel
theorem dX7_judge_177 : decode cX7_judge 177 = .ok (.iload_n 1, 1) := by decide +kernel
theorem dX7_judge_178 : decode cX7_judge 178 = .ok (.invokevirtual 161, 3) := by decide +kernel
theorem dX7_judge_181 : decode cX7_judge 181 = .ok (.ifCond .eq 7, 3) := by decide +kernel
theorem dX7_judge_184 : decode cX7_judge 184 = .ok (.iconst 1, 1) := by decide +kernel
theorem dX7_judge_185 : decode cX7_judge 185 = .ok (.goto 4, 3) := by decide +kernel
theorem dX7_judge_188 : decode cX7_judge 188 = .ok (.iconst 0, 1) := by decide +kernel
theorem dX7_judge_189 : decode cX7_judge 189 = .ok (.istore 8, 2) := by decide +kernel
theorem dX7_judge_191 : decode cX7_judge 191 = .ok (.iload 8, 2) := by decide +kernel
theorem dX7_judge_193 : decode cX7_judge 193 = .ok (.ifCond .ne 6, 3) := by decide +kernel
theorem dX7_judge_196 : decode cX7_judge 196 = .ok (.iload 6, 2) := by decide +kernel
theorem dX7_judge_198 : decode cX7_judge 198 = .ok (.ireturn, 1) := by decide +kernel
theorem dX7_judge_199 : decode cX7_judge 199 = .ok (.iload 7, 2) := by decide +kernel
theorem dX7_judge_201 : decode cX7_judge 201 = .ok (.bipush 9, 2) := by decide +kernel
theorem dX7_judge_203 : decode cX7_judge 203 = .ok (.if_icmp .ne 9, 3) := by decide +kernel
theorem dX7_judge_206 : decode cX7_judge 206 = .ok (.iinc 5 1, 3) := by decide +kernel
theorem dX7_judge_209 : decode cX7_judge 209 = .ok (.goto 16, 3) := by decide +kernel
theorem dX7_judge_212 : decode cX7_judge 212 = .ok (.aload_n 0, 1) := by decide +kernel
theorem dX7_judge_213 : decode cX7_judge 213 = .ok (.aload_n 0, 1) := by decide +kernel
theorem dX7_judge_214 : decode cX7_judge 214 = .ok (.getfield 50, 3) := by decide +kernel
theorem dX7_judge_217 : decode cX7_judge 217 = .ok (.iload 5, 2) := by decide +kernel
theorem dX7_judge_219 : decode cX7_judge 219 = .ok (.iload 7, 2) := by decide +kernel
theorem dX7_judge_221 : decode cX7_judge 221 = .ok (.iload_n 1, 1) := by decide +kernel
theorem dX7_judge_222 : decode cX7_judge 222 = .ok (.invokevirtual 172, 3) := by decide +kernel
theorem dX7_judge_225 : decode cX7_judge 225 = .ok (.iinc 6 1, 3) := by decide +kernel
theorem dX7_judge_228 : decode cX7_judge 228 = .ok (.goto (-112), 3) := by decide +kernel
theorem dX7_judge_231 : decode cX7_judge 231 = .ok (.bipush (-9), 2) := by decide +kernel
theorem dX7_judge_233 : decode cX7_judge 233 = .ok (.ireturn, 1) := by decide +kernel
theorem dX7_canAt_0 : decode cX7_canAt 0 = .ok (.aload_n 0, 1) := by decide +kernel
theorem dX7_canAt_1 : decode cX7_canAt 1 = .ok (.iload_n 1, 1) := by decide +kernel
theorem dX7_canAt_2 : decode cX7_canAt 2 = .ok (.iload_n 2, 1) := by decide +kernel
theorem dX7_canAt_3 : decode cX7_canAt 3 = .ok (.invokevirtual 158, 3) := by decide +kernel
theorem dX7_canAt_6 : decode cX7_canAt 6 = .ok (.istore 4, 2) := by decide +kernel
theorem dX7_canAt_8 : decode cX7_canAt 8 = .ok (.iload 4, 2) := by decide +kernel
theorem dX7_canAt_10 : decode cX7_canAt 10 = .ok (.invokestatic 143, 3) := by decide +kernel
theorem dX7_canAt_13 : decode cX7_canAt 13 = .ok (.iconst 1, 1) := by decide +kernel
theorem dX7_canAt_14 : decode cX7_canAt 14 = .ok (.if_icmp .le 14, 3) := by decide +kernel
theorem dX7_canAt_17 : decode cX7_canAt 17 = .ok (.iload 4, 2) := by decide +kernel
theorem dX7_canAt_19 : decode cX7_canAt 19 = .ok (.iload_n 3, 1) := by decide +kernel
theorem dX7_canAt_20 : decode cX7_canAt 20 = .ok (.iand, 1) := by decide +kernel
theorem dX7_canAt_21 : decode cX7_canAt 21 = .ok (.ifCond .eq 7, 3) := by decide +kernel
theorem dX7_canAt_24 : decode cX7_canAt 24 = .ok (.iconst 1, 1) := by decide +kernel
theorem dX7_canAt_25 : decode cX7_canAt 25 = .ok (.goto 4, 3) := by decide +kernel
theorem dX7_canAt_28 : decode cX7_canAt 28 = .ok (.iconst 0, 1) := by decide +kernel
theorem dX7_canAt_29 : decode cX7_canAt 29 = .ok (.ireturn, 1) := by decide +kernel
theorem dX7_behind_0 : decode cX7_behind 0 = .ok (.iload_n 3, 1) := by decide +kernel
theorem dX7_behind_1 : decode cX7_behind 1 = .ok (.istore 4, 2) := by decide +kernel
theorem dX7_behind_3 : decode cX7_behind 3 = .ok (.iconst 0, 1) := by decide +kernel
theorem dX7_behind_4 : decode cX7_behind 4 = .ok (.istore 5, 2) := by decide +kernel
theorem dX7_behind_6 : decode cX7_behind 6 = .ok (.iload 5, 2) := by decide +kernel
theorem dX7_behind_8 : decode cX7_behind 8 = .ok (.iconst 3, 1) := by decide +kernel
theorem dX7_behind_9 : decode cX7_behind 9 = .ok (.if_icmp .ge 44, 3) := by decide +kernel
theorem dX7_behind_12 : decode cX7_behind 12 = .ok (.iload_n 1, 1) := by decide +kernel
theorem dX7_behind_13 : decode cX7_behind 13 = .ok (.iload 5, 2) := by decide +kernel
theorem dX7_behind_15 : decode cX7_behind 15 = .ok (.invokestatic 109, 3) := by decide +kernel
theorem dX7_behind_18 : decode cX7_behind 18 = .ok (.ifCond .eq 29, 3) := by decide +kernel
theorem dX7_behind_21 : decode cX7_behind 21 = .ok (.aload_n 0, 1) := by decide +kernel
theorem dX7_behind_22 : decode cX7_behind 22 = .ok (.iload 5, 2) := by decide +kernel
theorem dX7_behind_24 : decode cX7_behind 24 = .ok (.iload_n 2, 1) := by decide +kernel
theorem dX7_behind_25 : decode cX7_behind 25 = .ok (.iload_n 3, 1) := by decide +kernel
theorem dX7_behind_26 : decode cX7_behind 26 = .ok (.invokevirtual 179, 3) := by decide +kernel
theorem dX7_behind_29 : decode cX7_behind 29 = .ok (.ifCond .ne 6, 3) := by decide +kernel
theorem dX7_behind_32 : decode cX7_behind 32 = .ok (.bipush (-9), 2) := by decide +kernel
theorem dX7_behind_34 : decode cX7_behind 34 = .ok (.ireturn, 1) := by decide +kernel
theorem dX7_behind_35 : decode cX7_behind 35 = .ok (.iload 4, 2) := by decide +kernel
theorem dX7_behind_37 : decode cX7_behind 37 = .ok (.aload_n 0, 1) := by decide +kernel
theorem dX7_behind_38 : decode cX7_behind 38 = .ok (.iload 5, 2) := by decide +kernel
theorem dX7_behind_40 : decode cX7_behind 40 = .ok (.iload_n 2, 1) := by decide +kernel
theorem dX7_behind_41 : decode cX7_behind 41 = .ok (.invokevirtual 158, 3) := by decide +kernel
theorem dX7_behind_44 : decode cX7_behind 44 = .ok (.ior, 1) := by decide +kernel
theorem dX7_behind_45 : decode cX7_behind 45 = .ok (.istore 4, 2) := by decide +kernel
theorem dX7_behind_47 : decode cX7_behind 47 = .ok (.iinc 5 1, 3) := by decide +kernel
theorem dX7_behind_50 : decode cX7_behind 50 = .ok (.goto (-44), 3) := by decide +kernel
theorem dX7_behind_53 : decode cX7_behind 53 = .ok (.iload 4, 2) := by decide +kernel
theorem dX7_behind_55 : decode cX7_behind 55 = .ok (.ireturn, 1) := by decide +kernel
theorem dX7_leftOf_0 : decode cX7_leftOf 0 = .ok (.aload_n 0, 1) := by decide +kernel
theorem dX7_leftOf_1 : decode cX7_leftOf 1 = .ok (.getfield 16, 3) := by decide +kernel
theorem dX7_leftOf_4 : decode cX7_leftOf 4 = .ok (.iload_n 1, 1) := by decide +kernel
theorem dX7_leftOf_5 : decode cX7_leftOf 5 = .ok (.iaload, 1) := by decide +kernel
theorem dX7_leftOf_6 : decode cX7_leftOf 6 = .ok (.aload_n 0, 1) := by decide +kernel
theorem dX7_leftOf_7 : decode cX7_leftOf 7 = .ok (.getfield 25, 3) := by decide +kernel
theorem dX7_leftOf_10 : decode cX7_leftOf 10 = .ok (.iload_n 1, 1) := by decide +kernel
theorem dX7_leftOf_11 : decode cX7_leftOf 11 = .ok (.iaload, 1) := by decide +kernel
theorem dX7_leftOf_12 : decode cX7_leftOf 12 = .ok (.isub, 1) := by decide +kernel
theorem dX7_leftOf_13 : decode cX7_leftOf 13 = .ok (.ireturn, 1) := by decide +kernel
theorem dX7_layNeed_0 : decode cX7_layNeed 0 = .ok (.iconst 0, 1) := by decide +kernel
theorem dX7_layNeed_1 : decode cX7_layNeed 1 = .ok (.istore_n 2, 1) := by decide +kernel
theorem dX7_layNeed_2 : decode cX7_layNeed 2 = .ok (.iload_n 2, 1) := by decide +kernel
theorem dX7_layNeed_3 : decode cX7_layNeed 3 = .ok (.bipush 64, 2) := by decide +kernel
theorem dX7_layNeed_5 : decode cX7_layNeed 5 = .ok (.if_icmp .ge 33, 3) := by decide +kernel
theorem dX7_layNeed_8 : decode cX7_layNeed 8 = .ok (.aload_n 0, 1) := by decide +kernel
theorem dX7_layNeed_9 : decode cX7_layNeed 9 = .ok (.getfield 62, 3) := by decide +kernel
theorem dX7_layNeed_12 : decode cX7_layNeed 12 = .ok (.sipush 384, 3) := by decide +kernel
theorem dX7_layNeed_15 : decode cX7_layNeed 15 = .ok (.iload_n 2, 1) := by decide +kernel
theorem dX7_layNeed_16 : decode cX7_layNeed 16 = .ok (.iadd, 1) := by decide +kernel
theorem dX7_layNeed_17 : decode cX7_layNeed 17 = .ok (.iload_n 2, 1) := by decide +kernel
theorem dX7_layNeed_18 : decode cX7_layNeed 18 = .ok (.iload_n 1, 1) := by decide +kernel
theorem dX7_layNeed_19 : decode cX7_layNeed 19 = .ok (.iand, 1) := by decide +kernel
theorem dX7_layNeed_20 : decode cX7_layNeed 20 = .ok (.iload_n 1, 1) := by decide +kernel
theorem dX7_layNeed_21 : decode cX7_layNeed 21 = .ok (.if_icmp .ne 7, 3) := by decide +kernel
theorem dX7_layNeed_24 : decode cX7_layNeed 24 = .ok (.iconst 0, 1) := by decide +kernel
theorem dX7_layNeed_25 : decode cX7_layNeed 25 = .ok (.goto 6, 3) := by decide +kernel
theorem dX7_layNeed_28 : decode cX7_layNeed 28 = .ok (.sipush 999, 3) := by decide +kernel
theorem dX7_layNeed_31 : decode cX7_layNeed 31 = .ok (.iastore, 1) := by decide +kernel
theorem dX7_layNeed_32 : decode cX7_layNeed 32 = .ok (.iinc 2 1, 3) := by decide +kernel
theorem dX7_layNeed_35 : decode cX7_layNeed 35 = .ok (.goto (-33), 3) := by decide +kernel
theorem dX7_layNeed_38 : decode cX7_layNeed 38 = .ok (.iconst 5, 1) := by decide +kernel
theorem dX7_layNeed_39 : decode cX7_layNeed 39 = .ok (.istore_n 2, 1) := by decide +kernel
theorem dX7_layNeed_40 : decode cX7_layNeed 40 = .ok (.iload_n 2, 1) := by decide +kernel
theorem dX7_layNeed_41 : decode cX7_layNeed 41 = .ok (.aload_n 0, 1) := by decide +kernel
theorem dX7_layNeed_42 : decode cX7_layNeed 42 = .ok (.getfield 137, 3) := by decide +kernel
theorem dX7_layNeed_45 : decode cX7_layNeed 45 = .ok (.if_icmp .lt 141, 3) := by decide +kernel
theorem dX7_layNeed_48 : decode cX7_layNeed 48 = .ok (.iconst 0, 1) := by decide +kernel
theorem dX7_layNeed_49 : decode cX7_layNeed 49 = .ok (.istore_n 3, 1) := by decide +kernel
theorem dX7_layNeed_50 : decode cX7_layNeed 50 = .ok (.iload_n 3, 1) := by decide +kernel
theorem dX7_layNeed_51 : decode cX7_layNeed 51 = .ok (.bipush 64, 2) := by decide +kernel
theorem dX7_layNeed_53 : decode cX7_layNeed 53 = .ok (.if_icmp .ge 127, 3) := by decide +kernel
theorem dX7_layNeed_56 : decode cX7_layNeed 56 = .ok (.aload_n 0, 1) := by decide +kernel
theorem dX7_layNeed_57 : decode cX7_layNeed 57 = .ok (.getfield 62, 3) := by decide +kernel
theorem dX7_layNeed_60 : decode cX7_layNeed 60 = .ok (.bipush 64, 2) := by decide +kernel
theorem dX7_layNeed_62 : decode cX7_layNeed 62 = .ok (.iload_n 2, 1) := by decide +kernel
theorem dX7_layNeed_63 : decode cX7_layNeed 63 = .ok (.imul, 1) := by decide +kernel
theorem dX7_layNeed_64 : decode cX7_layNeed 64 = .ok (.iload_n 3, 1) := by decide +kernel
theorem dX7_layNeed_65 : decode cX7_layNeed 65 = .ok (.iadd, 1) := by decide +kernel
theorem dX7_layNeed_66 : decode cX7_layNeed 66 = .ok (.sipush 999, 3) := by decide +kernel
theorem dX7_layNeed_69 : decode cX7_layNeed 69 = .ok (.iastore, 1) := by decide +kernel
theorem dX7_layNeed_70 : decode cX7_layNeed 70 = .ok (.iconst 0, 1) := by decide +kernel
theorem dX7_layNeed_71 : decode cX7_layNeed 71 = .ok (.istore 4, 2) := by decide +kernel
theorem dX7_layNeed_73 : decode cX7_layNeed 73 = .ok (.iload 4, 2) := by decide +kernel
theorem dX7_layNeed_75 : decode cX7_layNeed 75 = .ok (.bipush 8, 2) := by decide +kernel
theorem dX7_layNeed_77 : decode cX7_layNeed 77 = .ok (.if_icmp .ge 97, 3) := by decide +kernel
theorem dX7_layNeed_80 : decode cX7_layNeed 80 = .ok (.aload_n 0, 1) := by decide +kernel
theorem dX7_layNeed_81 : decode cX7_layNeed 81 = .ok (.iload 4, 2) := by decide +kernel
theorem dX7_layNeed_83 : decode cX7_layNeed 83 = .ok (.iload_n 2, 1) := by decide +kernel
theorem dX7_layNeed_84 : decode cX7_layNeed 84 = .ok (.iload_n 3, 1) := by decide +kernel
theorem dX7_layNeed_85 : decode cX7_layNeed 85 = .ok (.invokevirtual 183, 3) := by decide +kernel
theorem dX7_layNeed_88 : decode cX7_layNeed 88 = .ok (.istore 5, 2) := by decide +kernel
theorem dX7_layNeed_90 : decode cX7_layNeed 90 = .ok (.iload 5, 2) := by decide +kernel
theorem dX7_layNeed_92 : decode cX7_layNeed 92 = .ok (.bipush (-9), 2) := by decide +kernel
theorem dX7_layNeed_94 : decode cX7_layNeed 94 = .ok (.if_icmp .ne 9, 3) := by decide +kernel
theorem dX7_layNeed_97 : decode cX7_layNeed 97 = .ok (.sipush 999, 3) := by decide +kernel
theorem dX7_layNeed_100 : decode cX7_layNeed 100 = .ok (.goto 23, 3) := by decide +kernel
theorem dX7_layNeed_103 : decode cX7_layNeed 103 = .ok (.iload 4, 2) := by decide +kernel
theorem dX7_layNeed_105 : decode cX7_layNeed 105 = .ok (.invokestatic 143, 3) := by decide +kernel
theorem dX7_layNeed_108 : decode cX7_layNeed 108 = .ok (.aload_n 0, 1) := by decide +kernel
theorem dX7_layNeed_109 : decode cX7_layNeed 109 = .ok (.getfield 62, 3) := by decide +kernel
theorem dX7_layNeed_112 : decode cX7_layNeed 112 = .ok (.bipush 64, 2) := by decide +kernel
theorem dX7_layNeed_114 : decode cX7_layNeed 114 = .ok (.iload_n 2, 1) := by decide +kernel
theorem dX7_layNeed_115 : decode cX7_layNeed 115 = .ok (.iconst 1, 1) := by decide +kernel
theorem dX7_layNeed_116 : decode cX7_layNeed 116 = .ok (.iadd, 1) := by decide +kernel
theorem dX7_layNeed_117 : decode cX7_layNeed 117 = .ok (.imul, 1) := by decide +kernel
theorem dX7_layNeed_118 : decode cX7_layNeed 118 = .ok (.iload 5, 2) := by decide +kernel
theorem dX7_layNeed_120 : decode cX7_layNeed 120 = .ok (.iadd, 1) := by decide +kernel
theorem dX7_layNeed_121 : decode cX7_layNeed 121 = .ok (.iaload, 1) := by decide +kernel
theorem dX7_layNeed_122 : decode cX7_layNeed 122 = .ok (.iadd, 1) := by decide +kernel
theorem dX7_layNeed_123 : decode cX7_layNeed 123 = .ok (.istore 6, 2) := by decide +kernel
theorem dX7_layNeed_125 : decode cX7_layNeed 125 = .ok (.aload_n 0, 1) := by decide +kernel
theorem dX7_layNeed_126 : decode cX7_layNeed 126 = .ok (.getfield 62, 3) := by decide +kernel
theorem dX7_layNeed_129 : decode cX7_layNeed 129 = .ok (.bipush 64, 2) := by decide +kernel
theorem dX7_layNeed_131 : decode cX7_layNeed 131 = .ok (.iload_n 2, 1) := by decide +kernel
theorem dX7_layNeed_132 : decode cX7_layNeed 132 = .ok (.imul, 1) := by decide +kernel
theorem dX7_layNeed_133 : decode cX7_layNeed 133 = .ok (.iload_n 3, 1) := by decide +kernel
theorem dX7_layNeed_134 : decode cX7_layNeed 134 = .ok (.iadd, 1) := by decide +kernel
theorem dX7_layNeed_135 : decode cX7_layNeed 135 = .ok (.iload 6, 2) := by decide +kernel
theorem dX7_layNeed_137 : decode cX7_layNeed 137 = .ok (.aload_n 0, 1) := by decide +kernel
theorem dX7_layNeed_138 : decode cX7_layNeed 138 = .ok (.getfield 62, 3) := by decide +kernel
theorem dX7_layNeed_141 : decode cX7_layNeed 141 = .ok (.bipush 64, 2) := by decide +kernel
theorem dX7_layNeed_143 : decode cX7_layNeed 143 = .ok (.iload_n 2, 1) := by decide +kernel
theorem dX7_layNeed_144 : decode cX7_layNeed 144 = .ok (.imul, 1) := by decide +kernel
theorem dX7_layNeed_145 : decode cX7_layNeed 145 = .ok (.iload_n 3, 1) := by decide +kernel
theorem dX7_layNeed_146 : decode cX7_layNeed 146 = .ok (.iadd, 1) := by decide +kernel
theorem dX7_layNeed_147 : decode cX7_layNeed 147 = .ok (.iaload, 1) := by decide +kernel
theorem dX7_layNeed_148 : decode cX7_layNeed 148 = .ok (.if_icmp .ge 8, 3) := by decide +kernel
theorem dX7_layNeed_151 : decode cX7_layNeed 151 = .ok (.iload 6, 2) := by decide +kernel
theorem dX7_layNeed_153 : decode cX7_layNeed 153 = .ok (.goto 14, 3) := by decide +kernel
theorem dX7_layNeed_156 : decode cX7_layNeed 156 = .ok (.aload_n 0, 1) := by decide +kernel
theorem dX7_layNeed_157 : decode cX7_layNeed 157 = .ok (.getfield 62, 3) := by decide +kernel
theorem dX7_layNeed_160 : decode cX7_layNeed 160 = .ok (.bipush 64, 2) := by decide +kernel
theorem dX7_layNeed_162 : decode cX7_layNeed 162 = .ok (.iload_n 2, 1) := by decide +kernel
theorem dX7_layNeed_163 : decode cX7_layNeed 163 = .ok (.imul, 1) := by decide +kernel
theorem dX7_layNeed_164 : decode cX7_layNeed 164 = .ok (.iload_n 3, 1) := by decide +kernel
theorem dX7_layNeed_165 : decode cX7_layNeed 165 = .ok (.iadd, 1) := by decide +kernel
theorem dX7_layNeed_166 : decode cX7_layNeed 166 = .ok (.iaload, 1) := by decide +kernel
theorem dX7_layNeed_167 : decode cX7_layNeed 167 = .ok (.iastore, 1) := by decide +kernel
theorem dX7_layNeed_168 : decode cX7_layNeed 168 = .ok (.iinc 4 1, 3) := by decide +kernel
theorem dX7_layNeed_171 : decode cX7_layNeed 171 = .ok (.goto (-98), 3) := by decide +kernel
theorem dX7_layNeed_174 : decode cX7_layNeed 174 = .ok (.iinc 3 1, 3) := by decide +kernel
theorem dX7_layNeed_177 : decode cX7_layNeed 177 = .ok (.goto (-127), 3) := by decide +kernel
theorem dX7_layNeed_180 : decode cX7_layNeed 180 = .ok (.iinc 2 (-1), 3) := by decide +kernel
theorem dX7_layNeed_183 : decode cX7_layNeed 183 = .ok (.goto (-143), 3) := by decide +kernel
theorem dX7_layNeed_186 : decode cX7_layNeed 186 = .ok (.return_, 1) := by decide +kernel
theorem dX7_noPlan_0 : decode cX7_noPlan 0 = .ok (.aload_n 0, 1) := by decide +kernel
theorem dX7_noPlan_1 : decode cX7_noPlan 1 = .ok (.iload_n 1, 1) := by decide +kernel
theorem dX7_noPlan_2 : decode cX7_noPlan 2 = .ok (.invokevirtual 155, 3) := by decide +kernel
theorem dX7_noPlan_5 : decode cX7_noPlan 5 = .ok (.ifCond .eq 5, 3) := by decide +kernel
theorem dX7_noPlan_8 : decode cX7_noPlan 8 = .ok (.iconst (-1), 1) := by decide +kernel
theorem dX7_noPlan_9 : decode cX7_noPlan 9 = .ok (.ireturn, 1) := by decide +kernel
theorem dX7_noPlan_10 : decode cX7_noPlan 10 = .ok (.iload_n 2, 1) := by decide +kernel
theorem dX7_noPlan_11 : decode cX7_noPlan 11 = .ok (.i2l, 1) := by decide +kernel
theorem dX7_noPlan_12 : decode cX7_noPlan 12 = .ok (.lconst 0, 1) := by decide +kernel
theorem dX7_noPlan_13 : decode cX7_noPlan 13 = .ok (.iconst 1, 1) := by decide +kernel
theorem dX7_noPlan_14 : decode cX7_noPlan 14 = .ok (.aload_n 0, 1) := by decide +kernel
theorem dX7_noPlan_15 : decode cX7_noPlan 15 = .ok (.getfield 81, 3) := by decide +kernel
theorem dX7_noPlan_18 : decode cX7_noPlan 18 = .ok (.ishl, 1) := by decide +kernel
theorem dX7_noPlan_19 : decode cX7_noPlan 19 = .ok (.iconst 1, 1) := by decide +kernel
theorem dX7_noPlan_20 : decode cX7_noPlan 20 = .ok (.isub, 1) := by decide +kernel
theorem dX7_noPlan_21 : decode cX7_noPlan 21 = .ok (.i2l, 1) := by decide +kernel
theorem dX7_noPlan_22 : decode cX7_noPlan 22 = .ok (.invokestatic 84, 3) := by decide +kernel
theorem dX7_noPlan_25 : decode cX7_noPlan 25 = .ok (.ifCond .ne 8, 3) := by decide +kernel
theorem dX7_noPlan_28 : decode cX7_noPlan 28 = .ok (.bipush (-2), 2) := by decide +kernel
theorem dX7_noPlan_30 : decode cX7_noPlan 30 = .ok (.goto 16, 3) := by decide +kernel
theorem dX7_noPlan_33 : decode cX7_noPlan 33 = .ok (.aload_n 0, 1) := by decide +kernel
theorem dX7_noPlan_34 : decode cX7_noPlan 34 = .ok (.getfield 130, 3) := by decide +kernel
theorem dX7_noPlan_37 : decode cX7_noPlan 37 = .ok (.ifCond .eq 8, 3) := by decide +kernel
theorem dX7_noPlan_40 : decode cX7_noPlan 40 = .ok (.bipush (-3), 2) := by decide +kernel
theorem dX7_noPlan_42 : decode cX7_noPlan 42 = .ok (.goto 4, 3) := by decide +kernel
theorem dX7_noPlan_45 : decode cX7_noPlan 45 = .ok (.iconst 0, 1) := by decide +kernel
theorem dX7_noPlan_46 : decode cX7_noPlan 46 = .ok (.ireturn, 1) := by decide +kernel
theorem dX7_findFewest_0 : decode cX7_findFewest 0 = .ok (.aload_n 0, 1) := by decide +kernel
theorem dX7_findFewest_1 : decode cX7_findFewest 1 = .ok (.iload_n 2, 1) := by decide +kernel
theorem dX7_findFewest_2 : decode cX7_findFewest 2 = .ok (.invokevirtual 187, 3) := by decide +kernel
theorem dX7_findFewest_5 : decode cX7_findFewest 5 = .ok (.aload_n 0, 1) := by decide +kernel
theorem dX7_findFewest_6 : decode cX7_findFewest 6 = .ok (.getfield 62, 3) := by decide +kernel
theorem dX7_findFewest_9 : decode cX7_findFewest 9 = .ok (.bipush 64, 2) := by decide +kernel
theorem dX7_findFewest_11 : decode cX7_findFewest 11 = .ok (.aload_n 0, 1) := by decide +kernel
theorem dX7_findFewest_12 : decode cX7_findFewest 12 = .ok (.getfield 137, 3) := by decide +kernel
theorem dX7_findFewest_15 : decode cX7_findFewest 15 = .ok (.imul, 1) := by decide +kernel
theorem dX7_findFewest_16 : decode cX7_findFewest 16 = .ok (.aload_n 0, 1) := by decide +kernel
theorem dX7_findFewest_17 : decode cX7_findFewest 17 = .ok (.getfield 25, 3) := by decide +kernel
theorem dX7_findFewest_20 : decode cX7_findFewest 20 = .ok (.iconst 3, 1) := by decide +kernel
theorem dX7_findFewest_21 : decode cX7_findFewest 21 = .ok (.iload_n 1, 1) := by decide +kernel
theorem dX7_findFewest_22 : decode cX7_findFewest 22 = .ok (.iadd, 1) := by decide +kernel
theorem dX7_findFewest_23 : decode cX7_findFewest 23 = .ok (.iaload, 1) := by decide +kernel
theorem dX7_findFewest_24 : decode cX7_findFewest 24 = .ok (.iadd, 1) := by decide +kernel
theorem dX7_findFewest_25 : decode cX7_findFewest 25 = .ok (.iaload, 1) := by decide +kernel
theorem dX7_findFewest_26 : decode cX7_findFewest 26 = .ok (.istore_n 3, 1) := by decide +kernel
theorem dX7_findFewest_27 : decode cX7_findFewest 27 = .ok (.iload_n 3, 1) := by decide +kernel
theorem dX7_findFewest_28 : decode cX7_findFewest 28 = .ok (.aload_n 0, 1) := by decide +kernel
theorem dX7_findFewest_29 : decode cX7_findFewest 29 = .ok (.iload_n 1, 1) := by decide +kernel
theorem dX7_findFewest_30 : decode cX7_findFewest 30 = .ok (.invokevirtual 191, 3) := by decide +kernel
theorem dX7_findFewest_33 : decode cX7_findFewest 33 = .ok (.if_icmp .le 8, 3) := by decide +kernel
theorem dX7_findFewest_36 : decode cX7_findFewest 36 = .ok (.bipush (-9), 2) := by decide +kernel
theorem dX7_findFewest_38 : decode cX7_findFewest 38 = .ok (.goto 4, 3) := by decide +kernel
theorem dX7_findFewest_41 : decode cX7_findFewest 41 = .ok (.iload_n 3, 1) := by decide +kernel
theorem dX7_findFewest_42 : decode cX7_findFewest 42 = .ok (.ireturn, 1) := by decide +kernel
theorem dX7_fewest_0 : decode cX7_fewest 0 = .ok (.aload_n 0, 1) := by decide +kernel
theorem dX7_fewest_1 : decode cX7_fewest 1 = .ok (.iconst 0, 1) := by decide +kernel
theorem dX7_fewest_2 : decode cX7_fewest 2 = .ok (.putfield 77, 3) := by decide +kernel
theorem dX7_fewest_5 : decode cX7_fewest 5 = .ok (.aload_n 0, 1) := by decide +kernel
theorem dX7_fewest_6 : decode cX7_fewest 6 = .ok (.iload_n 1, 1) := by decide +kernel
theorem dX7_fewest_7 : decode cX7_fewest 7 = .ok (.iload_n 2, 1) := by decide +kernel
theorem dX7_fewest_8 : decode cX7_fewest 8 = .ok (.invokevirtual 194, 3) := by decide +kernel
theorem dX7_fewest_11 : decode cX7_fewest 11 = .ok (.istore_n 3, 1) := by decide +kernel
theorem dX7_fewest_12 : decode cX7_fewest 12 = .ok (.iload_n 3, 1) := by decide +kernel
theorem dX7_fewest_13 : decode cX7_fewest 13 = .ok (.ifCond .eq 7, 3) := by decide +kernel
theorem dX7_fewest_16 : decode cX7_fewest 16 = .ok (.iload_n 3, 1) := by decide +kernel
theorem dX7_fewest_17 : decode cX7_fewest 17 = .ok (.goto 9, 3) := by decide +kernel
theorem dX7_fewest_20 : decode cX7_fewest 20 = .ok (.aload_n 0, 1) := by decide +kernel
theorem dX7_fewest_21 : decode cX7_fewest 21 = .ok (.iload_n 1, 1) := by decide +kernel
theorem dX7_fewest_22 : decode cX7_fewest 22 = .ok (.iload_n 2, 1) := by decide +kernel
theorem dX7_fewest_23 : decode cX7_fewest 23 = .ok (.invokevirtual 197, 3) := by decide +kernel
theorem dX7_fewest_26 : decode cX7_fewest 26 = .ok (.ireturn, 1) := by decide +kernel
theorem dX7_planAt_0 : decode cX7_planAt 0 = .ok (.aload_n 0, 1) := by decide +kernel
theorem dX7_planAt_1 : decode cX7_planAt 1 = .ok (.iconst 0, 1) := by decide +kernel
theorem dX7_planAt_2 : decode cX7_planAt 2 = .ok (.putfield 77, 3) := by decide +kernel
theorem dX7_planAt_5 : decode cX7_planAt 5 = .ok (.aload_n 0, 1) := by decide +kernel
theorem dX7_planAt_6 : decode cX7_planAt 6 = .ok (.iload_n 1, 1) := by decide +kernel
theorem dX7_planAt_7 : decode cX7_planAt 7 = .ok (.iload_n 2, 1) := by decide +kernel
theorem dX7_planAt_8 : decode cX7_planAt 8 = .ok (.invokevirtual 194, 3) := by decide +kernel
theorem dX7_planAt_11 : decode cX7_planAt 11 = .ok (.istore 4, 2) := by decide +kernel
theorem dX7_planAt_13 : decode cX7_planAt 13 = .ok (.iload 4, 2) := by decide +kernel
theorem dX7_planAt_15 : decode cX7_planAt 15 = .ok (.ifCond .eq 6, 3) := by decide +kernel
theorem dX7_planAt_18 : decode cX7_planAt 18 = .ok (.iload 4, 2) := by decide +kernel
theorem dX7_planAt_20 : decode cX7_planAt 20 = .ok (.ireturn, 1) := by decide +kernel
theorem dX7_planAt_21 : decode cX7_planAt 21 = .ok (.aload_n 0, 1) := by decide +kernel
theorem dX7_planAt_22 : decode cX7_planAt 22 = .ok (.iload_n 1, 1) := by decide +kernel
theorem dX7_planAt_23 : decode cX7_planAt 23 = .ok (.iload_n 2, 1) := by decide +kernel
theorem dX7_planAt_24 : decode cX7_planAt 24 = .ok (.invokevirtual 197, 3) := by decide +kernel
theorem dX7_planAt_27 : decode cX7_planAt 27 = .ok (.bipush (-9), 2) := by decide +kernel
theorem dX7_planAt_29 : decode cX7_planAt 29 = .ok (.if_icmp .eq 19, 3) := by decide +kernel
theorem dX7_planAt_32 : decode cX7_planAt 32 = .ok (.iload_n 3, 1) := by decide +kernel
theorem dX7_planAt_33 : decode cX7_planAt 33 = .ok (.i2l, 1) := by decide +kernel
theorem dX7_planAt_34 : decode cX7_planAt 34 = .ok (.lconst 0, 1) := by decide +kernel
theorem dX7_planAt_35 : decode cX7_planAt 35 = .ok (.iconst 5, 1) := by decide +kernel
theorem dX7_planAt_36 : decode cX7_planAt 36 = .ok (.aload_n 0, 1) := by decide +kernel
theorem dX7_planAt_37 : decode cX7_planAt 37 = .ok (.getfield 137, 3) := by decide +kernel
theorem dX7_planAt_40 : decode cX7_planAt 40 = .ok (.isub, 1) := by decide +kernel
theorem dX7_planAt_41 : decode cX7_planAt 41 = .ok (.i2l, 1) := by decide +kernel
theorem dX7_planAt_42 : decode cX7_planAt 42 = .ok (.invokestatic 84, 3) := by decide +kernel
theorem dX7_planAt_45 : decode cX7_planAt 45 = .ok (.ifCond .ne 6, 3) := by decide +kernel
theorem dX7_planAt_48 : decode cX7_planAt 48 = .ok (.bipush (-9), 2) := by decide +kernel
theorem dX7_planAt_50 : decode cX7_planAt 50 = .ok (.ireturn, 1) := by decide +kernel
theorem dX7_planAt_51 : decode cX7_planAt 51 = .ok (.aload_n 0, 1) := by decide +kernel
theorem dX7_planAt_52 : decode cX7_planAt 52 = .ok (.getfield 25, 3) := by decide +kernel
theorem dX7_planAt_55 : decode cX7_planAt 55 = .ok (.iconst 3, 1) := by decide +kernel
theorem dX7_planAt_56 : decode cX7_planAt 56 = .ok (.iload_n 1, 1) := by decide +kernel
theorem dX7_planAt_57 : decode cX7_planAt 57 = .ok (.iadd, 1) := by decide +kernel
theorem dX7_planAt_58 : decode cX7_planAt 58 = .ok (.iaload, 1) := by decide +kernel
theorem dX7_planAt_59 : decode cX7_planAt 59 = .ok (.istore 5, 2) := by decide +kernel
theorem dX7_planAt_61 : decode cX7_planAt 61 = .ok (.iconst 0, 1) := by decide +kernel
theorem dX7_planAt_62 : decode cX7_planAt 62 = .ok (.istore 6, 2) := by decide +kernel
theorem dX7_planAt_64 : decode cX7_planAt 64 = .ok (.iconst 0, 1) := by decide +kernel
theorem dX7_planAt_65 : decode cX7_planAt 65 = .ok (.istore 7, 2) := by decide +kernel
theorem dX7_planAt_67 : decode cX7_planAt 67 = .ok (.iload 7, 2) := by decide +kernel
theorem dX7_planAt_69 : decode cX7_planAt 69 = .ok (.iload_n 3, 1) := by decide +kernel
theorem dX7_planAt_70 : decode cX7_planAt 70 = .ok (.if_icmp .gt 91, 3) := by decide +kernel
theorem dX7_planAt_73 : decode cX7_planAt 73 = .ok (.aload_n 0, 1) := by decide +kernel
theorem dX7_planAt_74 : decode cX7_planAt 74 = .ok (.getfield 137, 3) := by decide +kernel
theorem dX7_planAt_77 : decode cX7_planAt 77 = .ok (.iload 7, 2) := by decide +kernel
theorem dX7_planAt_79 : decode cX7_planAt 79 = .ok (.iadd, 1) := by decide +kernel
theorem dX7_planAt_80 : decode cX7_planAt 80 = .ok (.istore 8, 2) := by decide +kernel
theorem dX7_planAt_82 : decode cX7_planAt 82 = .ok (.iconst 0, 1) := by decide +kernel
theorem dX7_planAt_83 : decode cX7_planAt 83 = .ok (.istore 6, 2) := by decide +kernel
theorem dX7_planAt_85 : decode cX7_planAt 85 = .ok (.iload 5, 2) := by decide +kernel
theorem dX7_planAt_87 : decode cX7_planAt 87 = .ok (.istore 9, 2) := by decide +kernel
theorem dX7_planAt_89 : decode cX7_planAt 89 = .ok (.iload 9, 2) := by decide +kernel
theorem dX7_planAt_91 : decode cX7_planAt 91 = .ok (.bipush (-9), 2) := by decide +kernel
theorem dX7_planAt_93 : decode cX7_planAt 93 = .ok (.if_icmp .eq 40, 3) := by decide +kernel
theorem dX7_planAt_96 : decode cX7_planAt 96 = .ok (.iload 6, 2) := by decide +kernel
theorem dX7_planAt_98 : decode cX7_planAt 98 = .ok (.invokestatic 143, 3) := by decide +kernel
theorem dX7_planAt_101 : decode cX7_planAt 101 = .ok (.aload_n 0, 1) := by decide +kernel
theorem dX7_planAt_102 : decode cX7_planAt 102 = .ok (.getfield 62, 3) := by decide +kernel
theorem dX7_planAt_105 : decode cX7_planAt 105 = .ok (.bipush 64, 2) := by decide +kernel
theorem dX7_planAt_107 : decode cX7_planAt 107 = .ok (.iload 8, 2) := by decide +kernel
theorem dX7_planAt_109 : decode cX7_planAt 109 = .ok (.iconst 1, 1) := by decide +kernel
theorem dX7_planAt_110 : decode cX7_planAt 110 = .ok (.iadd, 1) := by decide +kernel
theorem dX7_planAt_111 : decode cX7_planAt 111 = .ok (.imul, 1) := by decide +kernel
theorem dX7_planAt_112 : decode cX7_planAt 112 = .ok (.iload 9, 2) := by decide +kernel
theorem dX7_planAt_114 : decode cX7_planAt 114 = .ok (.iadd, 1) := by decide +kernel
theorem dX7_planAt_115 : decode cX7_planAt 115 = .ok (.iaload, 1) := by decide +kernel
theorem dX7_planAt_116 : decode cX7_planAt 116 = .ok (.iadd, 1) := by decide +kernel
theorem dX7_planAt_117 : decode cX7_planAt 117 = .ok (.aload_n 0, 1) := by decide +kernel
theorem dX7_planAt_118 : decode cX7_planAt 118 = .ok (.getfield 62, 3) := by decide +kernel
theorem dX7_planAt_121 : decode cX7_planAt 121 = .ok (.bipush 64, 2) := by decide +kernel
theorem dX7_planAt_123 : decode cX7_planAt 123 = .ok (.iload 8, 2) := by decide +kernel
theorem dX7_planAt_125 : decode cX7_planAt 125 = .ok (.imul, 1) := by decide +kernel
theorem dX7_planAt_126 : decode cX7_planAt 126 = .ok (.iload 5, 2) := by decide +kernel
theorem dX7_planAt_128 : decode cX7_planAt 128 = .ok (.iadd, 1) := by decide +kernel
theorem dX7_planAt_129 : decode cX7_planAt 129 = .ok (.iaload, 1) := by decide +kernel
theorem dX7_planAt_130 : decode cX7_planAt 130 = .ok (.if_icmp .eq 21, 3) := by decide +kernel
theorem dX7_planAt_133 : decode cX7_planAt 133 = .ok (.iinc 6 1, 3) := by decide +kernel
theorem dX7_planAt_136 : decode cX7_planAt 136 = .ok (.aload_n 0, 1) := by decide +kernel
theorem dX7_planAt_137 : decode cX7_planAt 137 = .ok (.iload 6, 2) := by decide +kernel
theorem dX7_planAt_139 : decode cX7_planAt 139 = .ok (.iload 8, 2) := by decide +kernel
theorem dX7_planAt_141 : decode cX7_planAt 141 = .ok (.iload 5, 2) := by decide +kernel
theorem dX7_planAt_143 : decode cX7_planAt 143 = .ok (.invokevirtual 183, 3) := by decide +kernel
theorem dX7_planAt_146 : decode cX7_planAt 146 = .ok (.istore 9, 2) := by decide +kernel
theorem dX7_planAt_148 : decode cX7_planAt 148 = .ok (.goto (-59), 3) := by decide +kernel
theorem dX7_planAt_151 : decode cX7_planAt 151 = .ok (.iload 9, 2) := by decide +kernel
theorem dX7_planAt_153 : decode cX7_planAt 153 = .ok (.istore 5, 2) := by decide +kernel
theorem dX7_planAt_155 : decode cX7_planAt 155 = .ok (.iinc 7 1, 3) := by decide +kernel
theorem dX7_planAt_158 : decode cX7_planAt 158 = .ok (.goto (-91), 3) := by decide +kernel
theorem dX7_planAt_161 : decode cX7_planAt 161 = .ok (.iload 6, 2) := by decide +kernel
theorem dX7_planAt_163 : decode cX7_planAt 163 = .ok (.ireturn, 1) := by decide +kernel
theorem dX7_most_0 : decode cX7_most 0 = .ok (.aload_n 0, 1) := by decide +kernel
theorem dX7_most_1 : decode cX7_most 1 = .ok (.iconst 0, 1) := by decide +kernel
theorem dX7_most_2 : decode cX7_most 2 = .ok (.putfield 77, 3) := by decide +kernel
theorem dX7_most_5 : decode cX7_most 5 = .ok (.aload_n 0, 1) := by decide +kernel
theorem dX7_most_6 : decode cX7_most 6 = .ok (.iload_n 1, 1) := by decide +kernel
theorem dX7_most_7 : decode cX7_most 7 = .ok (.invokevirtual 155, 3) := by decide +kernel
theorem dX7_most_10 : decode cX7_most 10 = .ok (.ifCond .eq 5, 3) := by decide +kernel
theorem dX7_most_13 : decode cX7_most 13 = .ok (.iconst (-1), 1) := by decide +kernel
theorem dX7_most_14 : decode cX7_most 14 = .ok (.ireturn, 1) := by decide +kernel
theorem dX7_most_15 : decode cX7_most 15 = .ok (.aload_n 0, 1) := by decide +kernel
theorem dX7_most_16 : decode cX7_most 16 = .ok (.getfield 130, 3) := by decide +kernel
theorem dX7_most_19 : decode cX7_most 19 = .ok (.ifCond .eq 6, 3) := by decide +kernel
theorem dX7_most_22 : decode cX7_most 22 = .ok (.bipush (-3), 2) := by decide +kernel
theorem dX7_most_24 : decode cX7_most 24 = .ok (.ireturn, 1) := by decide +kernel
theorem dX7_most_25 : decode cX7_most 25 = .ok (.iconst 0, 1) := by decide +kernel
theorem dX7_most_26 : decode cX7_most 26 = .ok (.istore_n 2, 1) := by decide +kernel
theorem dX7_most_27 : decode cX7_most 27 = .ok (.iload_n 2, 1) := by decide +kernel
theorem dX7_most_28 : decode cX7_most 28 = .ok (.bipush 64, 2) := by decide +kernel
theorem dX7_most_30 : decode cX7_most 30 = .ok (.if_icmp .ge 34, 3) := by decide +kernel
theorem dX7_most_33 : decode cX7_most 33 = .ok (.aload_n 0, 1) := by decide +kernel
theorem dX7_most_34 : decode cX7_most 34 = .ok (.getfield 65, 3) := by decide +kernel
theorem dX7_most_37 : decode cX7_most 37 = .ok (.iload_n 2, 1) := by decide +kernel
theorem dX7_most_38 : decode cX7_most 38 = .ok (.iload_n 2, 1) := by decide +kernel
theorem dX7_most_39 : decode cX7_most 39 = .ok (.aload_n 0, 1) := by decide +kernel
theorem dX7_most_40 : decode cX7_most 40 = .ok (.getfield 25, 3) := by decide +kernel
theorem dX7_most_43 : decode cX7_most 43 = .ok (.iconst 3, 1) := by decide +kernel
theorem dX7_most_44 : decode cX7_most 44 = .ok (.iload_n 1, 1) := by decide +kernel
theorem dX7_most_45 : decode cX7_most 45 = .ok (.iadd, 1) := by decide +kernel
theorem dX7_most_46 : decode cX7_most 46 = .ok (.iaload, 1) := by decide +kernel
theorem dX7_most_47 : decode cX7_most 47 = .ok (.if_icmp .ne 7, 3) := by decide +kernel
theorem dX7_most_50 : decode cX7_most 50 = .ok (.iconst 0, 1) := by decide +kernel
theorem dX7_most_51 : decode cX7_most 51 = .ok (.goto 6, 3) := by decide +kernel
theorem dX7_most_54 : decode cX7_most 54 = .ok (.sipush 999, 3) := by decide +kernel
theorem dX7_most_57 : decode cX7_most 57 = .ok (.iastore, 1) := by decide +kernel
theorem dX7_most_58 : decode cX7_most 58 = .ok (.iinc 2 1, 3) := by decide +kernel
theorem dX7_most_61 : decode cX7_most 61 = .ok (.goto (-34), 3) := by decide +kernel
theorem dX7_most_64 : decode cX7_most 64 = .ok (.aload_n 0, 1) := by decide +kernel
theorem dX7_most_65 : decode cX7_most 65 = .ok (.getfield 137, 3) := by decide +kernel
theorem dX7_most_68 : decode cX7_most 68 = .ok (.istore_n 2, 1) := by decide +kernel
theorem dX7_most_69 : decode cX7_most 69 = .ok (.iload_n 2, 1) := by decide +kernel
theorem dX7_most_70 : decode cX7_most 70 = .ok (.bipush 6, 2) := by decide +kernel
theorem dX7_most_72 : decode cX7_most 72 = .ok (.if_icmp .ge 165, 3) := by decide +kernel
theorem dX7_most_75 : decode cX7_most 75 = .ok (.iconst 0, 1) := by decide +kernel
theorem dX7_most_76 : decode cX7_most 76 = .ok (.istore_n 3, 1) := by decide +kernel
theorem dX7_most_77 : decode cX7_most 77 = .ok (.iload_n 3, 1) := by decide +kernel
theorem dX7_most_78 : decode cX7_most 78 = .ok (.bipush 64, 2) := by decide +kernel
theorem dX7_most_80 : decode cX7_most 80 = .ok (.if_icmp .ge 18, 3) := by decide +kernel
theorem dX7_most_83 : decode cX7_most 83 = .ok (.aload_n 0, 1) := by decide +kernel
theorem dX7_most_84 : decode cX7_most 84 = .ok (.getfield 68, 3) := by decide +kernel
theorem dX7_most_87 : decode cX7_most 87 = .ok (.iload_n 3, 1) := by decide +kernel
theorem dX7_most_88 : decode cX7_most 88 = .ok (.sipush 999, 3) := by decide +kernel
theorem dX7_most_91 : decode cX7_most 91 = .ok (.iastore, 1) := by decide +kernel
theorem dX7_most_92 : decode cX7_most 92 = .ok (.iinc 3 1, 3) := by decide +kernel
theorem dX7_most_95 : decode cX7_most 95 = .ok (.goto (-18), 3) := by decide +kernel
theorem dX7_most_98 : decode cX7_most 98 = .ok (.iconst 0, 1) := by decide +kernel
theorem dX7_most_99 : decode cX7_most 99 = .ok (.istore_n 3, 1) := by decide +kernel
theorem dX7_most_100 : decode cX7_most 100 = .ok (.iload_n 3, 1) := by decide +kernel
theorem dX7_most_101 : decode cX7_most 101 = .ok (.bipush 64, 2) := by decide +kernel
theorem dX7_most_103 : decode cX7_most 103 = .ok (.if_icmp .ge 102, 3) := by decide +kernel
theorem dX7_most_106 : decode cX7_most 106 = .ok (.iconst 0, 1) := by decide +kernel
theorem dX7_most_107 : decode cX7_most 107 = .ok (.istore 4, 2) := by decide +kernel
theorem dX7_most_109 : decode cX7_most 109 = .ok (.iload 4, 2) := by decide +kernel
theorem dX7_most_111 : decode cX7_most 111 = .ok (.bipush 8, 2) := by decide +kernel
theorem dX7_most_113 : decode cX7_most 113 = .ok (.if_icmp .ge 86, 3) := by decide +kernel
theorem dX7_most_116 : decode cX7_most 116 = .ok (.aload_n 0, 1) := by decide +kernel
theorem dX7_most_117 : decode cX7_most 117 = .ok (.getfield 65, 3) := by decide +kernel
theorem dX7_most_120 : decode cX7_most 120 = .ok (.iload_n 3, 1) := by decide +kernel
theorem dX7_most_121 : decode cX7_most 121 = .ok (.iaload, 1) := by decide +kernel
theorem dX7_most_122 : decode cX7_most 122 = .ok (.sipush 999, 3) := by decide +kernel
theorem dX7_most_125 : decode cX7_most 125 = .ok (.if_icmp .ge 74, 3) := by decide +kernel
theorem dX7_most_128 : decode cX7_most 128 = .ok (.aload_n 0, 1) := by decide +kernel
theorem dX7_most_129 : decode cX7_most 129 = .ok (.iload 4, 2) := by decide +kernel
theorem dX7_most_131 : decode cX7_most 131 = .ok (.iload_n 2, 1) := by decide +kernel
theorem dX7_most_132 : decode cX7_most 132 = .ok (.iload_n 3, 1) := by decide +kernel
theorem dX7_most_133 : decode cX7_most 133 = .ok (.invokevirtual 183, 3) := by decide +kernel
theorem dX7_most_136 : decode cX7_most 136 = .ok (.istore 5, 2) := by decide +kernel
theorem dX7_most_138 : decode cX7_most 138 = .ok (.iload 5, 2) := by decide +kernel
theorem dX7_most_140 : decode cX7_most 140 = .ok (.bipush (-9), 2) := by decide +kernel
theorem dX7_most_142 : decode cX7_most 142 = .ok (.if_icmp .ne 9, 3) := by decide +kernel
theorem dX7_most_145 : decode cX7_most 145 = .ok (.sipush 999, 3) := by decide +kernel
theorem dX7_most_148 : decode cX7_most 148 = .ok (.goto 15, 3) := by decide +kernel
theorem dX7_most_151 : decode cX7_most 151 = .ok (.aload_n 0, 1) := by decide +kernel
theorem dX7_most_152 : decode cX7_most 152 = .ok (.getfield 65, 3) := by decide +kernel
theorem dX7_most_155 : decode cX7_most 155 = .ok (.iload_n 3, 1) := by decide +kernel
theorem dX7_most_156 : decode cX7_most 156 = .ok (.iaload, 1) := by decide +kernel
theorem dX7_most_157 : decode cX7_most 157 = .ok (.iload 4, 2) := by decide +kernel
theorem dX7_most_159 : decode cX7_most 159 = .ok (.invokestatic 143, 3) := by decide +kernel
theorem dX7_most_162 : decode cX7_most 162 = .ok (.iadd, 1) := by decide +kernel
theorem dX7_most_163 : decode cX7_most 163 = .ok (.istore 6, 2) := by decide +kernel
theorem dX7_most_165 : decode cX7_most 165 = .ok (.iload 5, 2) := by decide +kernel
theorem dX7_most_167 : decode cX7_most 167 = .ok (.bipush (-9), 2) := by decide +kernel
theorem dX7_most_169 : decode cX7_most 169 = .ok (.if_icmp .eq 24, 3) := by decide +kernel
theorem dX7_most_172 : decode cX7_most 172 = .ok (.iload 6, 2) := by decide +kernel
theorem dX7_most_174 : decode cX7_most 174 = .ok (.aload_n 0, 1) := by decide +kernel
theorem dX7_most_175 : decode cX7_most 175 = .ok (.getfield 68, 3) := by decide +kernel
theorem dX7_most_178 : decode cX7_most 178 = .ok (.iload 5, 2) := by decide +kernel
theorem dX7_most_180 : decode cX7_most 180 = .ok (.iaload, 1) := by decide +kernel
theorem dX7_most_181 : decode cX7_most 181 = .ok (.if_icmp .ge 12, 3) := by decide +kernel
theorem dX7_most_184 : decode cX7_most 184 = .ok (.aload_n 0, 1) := by decide +kernel
theorem dX7_most_185 : decode cX7_most 185 = .ok (.getfield 68, 3) := by decide +kernel
theorem dX7_most_188 : decode cX7_most 188 = .ok (.iload 5, 2) := by decide +kernel
theorem dX7_most_190 : decode cX7_most 190 = .ok (.iload 6, 2) := by decide +kernel
theorem dX7_most_192 : decode cX7_most 192 = .ok (.iastore, 1) := by decide +kernel
theorem dX7_most_193 : decode cX7_most 193 = .ok (.iinc 4 1, 3) := by decide +kernel
