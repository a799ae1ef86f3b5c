theorem dX0_init_0 : decode cX0_init 0 = .ok (.aload_n 0, 1) := by decide +kernel
theorem dX0_init_1 : decode cX0_init 1 = .ok (.invokespecial 3, 3) := by decide +kernel
theorem dX0_init_4 : decode cX0_init 4 = .ok (.aload_n 0, 1) := by decide +kernel
theorem dX0_init_5 : decode cX0_init 5 = .ok (.bipush 16, 2) := by decide +kernel
theorem dX0_init_7 : decode cX0_init 7 = .ok (.newarray .int, 2) := by decide +kernel
theorem dX0_init_9 : decode cX0_init 9 = .ok (.putfield 9, 3) := by decide +kernel
theorem dX0_init_12 : decode cX0_init 12 = .ok (.return_, 1) := by decide +kernel
theorem dX0_telling_0 : decode cX0_telling 0 = .ok (.iload_n 1, 1) := by decide +kernel
theorem dX0_telling_1 : decode cX0_telling 1 = .ok (.iconst 3, 1) := by decide +kernel
theorem dX0_telling_2 : decode cX0_telling 2 = .ok (.ishl, 1) := by decide +kernel
theorem dX0_telling_3 : decode cX0_telling 3 = .ok (.iload_n 0, 1) := by decide +kernel
theorem dX0_telling_4 : decode cX0_telling 4 = .ok (.ior, 1) := by decide +kernel
theorem dX0_telling_5 : decode cX0_telling 5 = .ok (.bipush 18, 2) := by decide +kernel
theorem dX0_telling_7 : decode cX0_telling 7 = .ok (.ishl, 1) := by decide +kernel
theorem dX0_telling_8 : decode cX0_telling 8 = .ok (.iload_n 2, 1) := by decide +kernel
theorem dX0_telling_9 : decode cX0_telling 9 = .ok (.ior, 1) := by decide +kernel
theorem dX0_telling_10 : decode cX0_telling 10 = .ok (.ireturn, 1) := by decide +kernel
theorem dX0_teller_0 : decode cX0_teller 0 = .ok (.iload_n 0, 1) := by decide +kernel
theorem dX0_teller_1 : decode cX0_teller 1 = .ok (.bipush 18, 2) := by decide +kernel
theorem dX0_teller_3 : decode cX0_teller 3 = .ok (.ishr, 1) := by decide +kernel
theorem dX0_teller_4 : decode cX0_teller 4 = .ok (.bipush 7, 2) := by decide +kernel
theorem dX0_teller_6 : decode cX0_teller 6 = .ok (.iand, 1) := by decide +kernel
theorem dX0_teller_7 : decode cX0_teller 7 = .ok (.ireturn, 1) := by decide +kernel
theorem dX0_newsOf_0 : decode cX0_newsOf 0 = .ok (.iload_n 0, 1) := by decide +kernel
theorem dX0_newsOf_1 : decode cX0_newsOf 1 = .ok (.bipush 21, 2) := by decide +kernel
theorem dX0_newsOf_3 : decode cX0_newsOf 3 = .ok (.ishr, 1) := by decide +kernel
theorem dX0_newsOf_4 : decode cX0_newsOf 4 = .ok (.ireturn, 1) := by decide +kernel
theorem dX0_packedKnown_0 : decode cX0_packedKnown 0 = .ok (.iload_n 0, 1) := by decide +kernel
theorem dX0_packedKnown_1 : decode cX0_packedKnown 1 = .ok (.ldc 15, 2) := by decide +kernel
theorem dX0_packedKnown_3 : decode cX0_packedKnown 3 = .ok (.iand, 1) := by decide +kernel
theorem dX0_packedKnown_4 : decode cX0_packedKnown 4 = .ok (.ireturn, 1) := by decide +kernel
theorem dX0_append_0 : decode cX0_append 0 = .ok (.aload_n 0, 1) := by decide +kernel
theorem dX0_append_1 : decode cX0_append 1 = .ok (.getfield 16, 3) := by decide +kernel
theorem dX0_append_4 : decode cX0_append 4 = .ok (.bipush 16, 2) := by decide +kernel
theorem dX0_append_6 : decode cX0_append 6 = .ok (.if_icmp .lt 24, 3) := by decide +kernel
theorem dX0_append_9 : decode cX0_append 9 = .ok (.aload_n 0, 1) := by decide +kernel
theorem dX0_append_10 : decode cX0_append 10 = .ok (.getfield 9, 3) := by decide +kernel
theorem dX0_append_13 : decode cX0_append 13 = .ok (.iconst 1, 1) := by decide +kernel
theorem dX0_append_14 : decode cX0_append 14 = .ok (.aload_n 0, 1) := by decide +kernel
theorem dX0_append_15 : decode cX0_append 15 = .ok (.getfield 9, 3) := by decide +kernel
theorem dX0_append_18 : decode cX0_append 18 = .ok (.iconst 0, 1) := by decide +kernel
theorem dX0_append_19 : decode cX0_append 19 = .ok (.bipush 15, 2) := by decide +kernel
theorem dX0_append_21 : decode cX0_append 21 = .ok (.invokestatic 20, 3) := by decide +kernel
theorem dX0_append_24 : decode cX0_append 24 = .ok (.aload_n 0, 1) := by decide +kernel
theorem dX0_append_25 : decode cX0_append 25 = .ok (.bipush 15, 2) := by decide +kernel
theorem dX0_append_27 : decode cX0_append 27 = .ok (.putfield 16, 3) := by decide +kernel
theorem dX0_append_30 : decode cX0_append 30 = .ok (.aload_n 0, 1) := by decide +kernel
theorem dX0_append_31 : decode cX0_append 31 = .ok (.getfield 9, 3) := by decide +kernel
theorem dX0_append_34 : decode cX0_append 34 = .ok (.aload_n 0, 1) := by decide +kernel
theorem dX0_append_35 : decode cX0_append 35 = .ok (.getfield 16, 3) := by decide +kernel
theorem dX0_append_38 : decode cX0_append 38 = .ok (.iload_n 1, 1) := by decide +kernel
theorem dX0_append_39 : decode cX0_append 39 = .ok (.iastore, 1) := by decide +kernel
theorem dX0_append_40 : decode cX0_append 40 = .ok (.aload_n 0, 1) := by decide +kernel
theorem dX0_append_41 : decode cX0_append 41 = .ok (.dup, 1) := by decide +kernel
theorem dX0_append_42 : decode cX0_append 42 = .ok (.getfield 16, 3) := by decide +kernel
theorem dX0_append_45 : decode cX0_append 45 = .ok (.iconst 1, 1) := by decide +kernel
theorem dX0_append_46 : decode cX0_append 46 = .ok (.iadd, 1) := by decide +kernel
theorem dX0_append_47 : decode cX0_append 47 = .ok (.putfield 16, 3) := by decide +kernel
theorem dX0_append_50 : decode cX0_append 50 = .ok (.return_, 1) := by decide +kernel
theorem dX0_takeLast_0 : decode cX0_takeLast 0 = .ok (.aload_n 0, 1) := by decide +kernel
theorem dX0_takeLast_1 : decode cX0_takeLast 1 = .ok (.aload_n 0, 1) := by decide +kernel
theorem dX0_takeLast_2 : decode cX0_takeLast 2 = .ok (.getfield 16, 3) := by decide +kernel
theorem dX0_takeLast_5 : decode cX0_takeLast 5 = .ok (.iconst 1, 1) := by decide +kernel
theorem dX0_takeLast_6 : decode cX0_takeLast 6 = .ok (.isub, 1) := by decide +kernel
theorem dX0_takeLast_7 : decode cX0_takeLast 7 = .ok (.iconst 0, 1) := by decide +kernel
theorem dX0_takeLast_8 : decode cX0_takeLast 8 = .ok (.invokestatic 26, 3) := by decide +kernel
theorem dX0_takeLast_11 : decode cX0_takeLast 11 = .ok (.putfield 16, 3) := by decide +kernel
theorem dX0_takeLast_14 : decode cX0_takeLast 14 = .ok (.aload_n 0, 1) := by decide +kernel
theorem dX0_takeLast_15 : decode cX0_takeLast 15 = .ok (.getfield 9, 3) := by decide +kernel
theorem dX0_takeLast_18 : decode cX0_takeLast 18 = .ok (.aload_n 0, 1) := by decide +kernel
theorem dX0_takeLast_19 : decode cX0_takeLast 19 = .ok (.getfield 16, 3) := by decide +kernel
theorem dX0_takeLast_22 : decode cX0_takeLast 22 = .ok (.iaload, 1) := by decide +kernel
theorem dX0_takeLast_23 : decode cX0_takeLast 23 = .ok (.ireturn, 1) := by decide +kernel
theorem dX1_init_0 : decode cX1_init 0 = .ok (.aload_n 0, 1) := by decide +kernel
theorem dX1_init_1 : decode cX1_init 1 = .ok (.invokespecial 3, 3) := by decide +kernel
theorem dX1_init_4 : decode cX1_init 4 = .ok (.aload_n 0, 1) := by decide +kernel
theorem dX1_init_5 : decode cX1_init 5 = .ok (.bipush 36, 2) := by decide +kernel
theorem dX1_init_7 : decode cX1_init 7 = .ok (.newarray .int, 2) := by decide +kernel
theorem dX1_init_9 : decode cX1_init 9 = .ok (.putfield 9, 3) := by decide +kernel
theorem dX1_init_12 : decode cX1_init 12 = .ok (.aload_n 0, 1) := by decide +kernel
theorem dX1_init_13 : decode cX1_init 13 = .ok (.bipush 18, 2) := by decide +kernel
theorem dX1_init_15 : decode cX1_init 15 = .ok (.newarray .int, 2) := by decide +kernel
theorem dX1_init_17 : decode cX1_init 17 = .ok (.putfield 15, 3) := by decide +kernel
theorem dX1_init_20 : decode cX1_init 20 = .ok (.aload_n 0, 1) := by decide +kernel
theorem dX1_init_21 : decode cX1_init 21 = .ok (.iconst 3, 1) := by decide +kernel
theorem dX1_init_22 : decode cX1_init 22 = .ok (.newarray .int, 2) := by decide +kernel
theorem dX1_init_24 : decode cX1_init 24 = .ok (.putfield 18, 3) := by decide +kernel
theorem dX1_init_27 : decode cX1_init 27 = .ok (.aload_n 0, 1) := by decide +kernel
theorem dX1_init_28 : decode cX1_init 28 = .ok (.iconst 3, 1) := by decide +kernel
theorem dX1_init_29 : decode cX1_init 29 = .ok (.newarray .int, 2) := by decide +kernel
theorem dX1_init_31 : decode cX1_init 31 = .ok (.putfield 21, 3) := by decide +kernel
theorem dX1_init_34 : decode cX1_init 34 = .ok (.aload_n 0, 1) := by decide +kernel
theorem dX1_init_35 : decode cX1_init 35 = .ok (.iconst 3, 1) := by decide +kernel
theorem dX1_init_36 : decode cX1_init 36 = .ok (.newarray .int, 2) := by decide +kernel
theorem dX1_init_38 : decode cX1_init 38 = .ok (.putfield 24, 3) := by decide +kernel
theorem dX1_init_41 : decode cX1_init 41 = .ok (.return_, 1) := by decide +kernel
theorem dX1_clear_0 : decode cX1_clear 0 = .ok (.aload_n 0, 1) := by decide +kernel
theorem dX1_clear_1 : decode cX1_clear 1 = .ok (.getfield 9, 3) := by decide +kernel
theorem dX1_clear_4 : decode cX1_clear 4 = .ok (.bipush (-9), 2) := by decide +kernel
theorem dX1_clear_6 : decode cX1_clear 6 = .ok (.invokestatic 27, 3) := by decide +kernel
theorem dX1_clear_9 : decode cX1_clear 9 = .ok (.aload_n 0, 1) := by decide +kernel
theorem dX1_clear_10 : decode cX1_clear 10 = .ok (.getfield 15, 3) := by decide +kernel
theorem dX1_clear_13 : decode cX1_clear 13 = .ok (.iconst 0, 1) := by decide +kernel
theorem dX1_clear_14 : decode cX1_clear 14 = .ok (.invokestatic 27, 3) := by decide +kernel
theorem dX1_clear_17 : decode cX1_clear 17 = .ok (.aload_n 0, 1) := by decide +kernel
theorem dX1_clear_18 : decode cX1_clear 18 = .ok (.getfield 18, 3) := by decide +kernel
theorem dX1_clear_21 : decode cX1_clear 21 = .ok (.iconst 0, 1) := by decide +kernel
theorem dX1_clear_22 : decode cX1_clear 22 = .ok (.invokestatic 27, 3) := by decide +kernel
theorem dX1_clear_25 : decode cX1_clear 25 = .ok (.aload_n 0, 1) := by decide +kernel
theorem dX1_clear_26 : decode cX1_clear 26 = .ok (.getfield 21, 3) := by decide +kernel
theorem dX1_clear_29 : decode cX1_clear 29 = .ok (.iconst 0, 1) := by decide +kernel
theorem dX1_clear_30 : decode cX1_clear 30 = .ok (.invokestatic 27, 3) := by decide +kernel
theorem dX1_clear_33 : decode cX1_clear 33 = .ok (.aload_n 0, 1) := by decide +kernel
theorem dX1_clear_34 : decode cX1_clear 34 = .ok (.getfield 24, 3) := by decide +kernel
theorem dX1_clear_37 : decode cX1_clear 37 = .ok (.iconst 0, 1) := by decide +kernel
theorem dX1_clear_38 : decode cX1_clear 38 = .ok (.invokestatic 27, 3) := by decide +kernel
theorem dX1_clear_41 : decode cX1_clear 41 = .ok (.aload_n 0, 1) := by decide +kernel
theorem dX1_clear_42 : decode cX1_clear 42 = .ok (.iconst 0, 1) := by decide +kernel
theorem dX1_clear_43 : decode cX1_clear 43 = .ok (.putfield 33, 3) := by decide +kernel
theorem dX1_clear_46 : decode cX1_clear 46 = .ok (.aload_n 0, 1) := by decide +kernel
theorem dX1_clear_47 : decode cX1_clear 47 = .ok (.iconst 0, 1) := by decide +kernel
theorem dX1_clear_48 : decode cX1_clear 48 = .ok (.putfield 37, 3) := by decide +kernel
theorem dX1_clear_51 : decode cX1_clear 51 = .ok (.aload_n 0, 1) := by decide +kernel
theorem dX1_clear_52 : decode cX1_clear 52 = .ok (.iconst 0, 1) := by decide +kernel
theorem dX1_clear_53 : decode cX1_clear 53 = .ok (.putfield 40, 3) := by decide +kernel
theorem dX1_clear_56 : decode cX1_clear 56 = .ok (.return_, 1) := by decide +kernel
theorem dX1_put_0 : decode cX1_put 0 = .ok (.aload_n 0, 1) := by decide +kernel
theorem dX1_put_1 : decode cX1_put 1 = .ok (.getfield 9, 3) := by decide +kernel
theorem dX1_put_4 : decode cX1_put 4 = .ok (.iload_n 1, 1) := by decide +kernel
theorem dX1_put_5 : decode cX1_put 5 = .ok (.bipush 6, 2) := by decide +kernel
theorem dX1_put_7 : decode cX1_put 7 = .ok (.imul, 1) := by decide +kernel
theorem dX1_put_8 : decode cX1_put 8 = .ok (.iload_n 2, 1) := by decide +kernel
theorem dX1_put_9 : decode cX1_put 9 = .ok (.iadd, 1) := by decide +kernel
theorem dX1_put_10 : decode cX1_put 10 = .ok (.iload_n 3, 1) := by decide +kernel
theorem dX1_put_11 : decode cX1_put 11 = .ok (.iastore, 1) := by decide +kernel
theorem dX1_put_12 : decode cX1_put 12 = .ok (.aload_n 0, 1) := by decide +kernel
theorem dX1_put_13 : decode cX1_put 13 = .ok (.getfield 15, 3) := by decide +kernel
theorem dX1_put_16 : decode cX1_put 16 = .ok (.iload_n 2, 1) := by decide +kernel
theorem dX1_put_17 : decode cX1_put 17 = .ok (.iconst 3, 1) := by decide +kernel
theorem dX1_put_18 : decode cX1_put 18 = .ok (.imul, 1) := by decide +kernel
theorem dX1_put_19 : decode cX1_put 19 = .ok (.iload_n 3, 1) := by decide +kernel
theorem dX1_put_20 : decode cX1_put 20 = .ok (.iadd, 1) := by decide +kernel
theorem dX1_put_21 : decode cX1_put 21 = .ok (.dup2, 1) := by decide +kernel
theorem dX1_put_22 : decode cX1_put 22 = .ok (.iaload, 1) := by decide +kernel
theorem dX1_put_23 : decode cX1_put 23 = .ok (.iconst 1, 1) := by decide +kernel
theorem dX1_put_24 : decode cX1_put 24 = .ok (.iload_n 1, 1) := by decide +kernel
theorem dX1_put_25 : decode cX1_put 25 = .ok (.ishl, 1) := by decide +kernel
theorem dX1_put_26 : decode cX1_put 26 = .ok (.ior, 1) := by decide +kernel
theorem dX1_put_27 : decode cX1_put 27 = .ok (.iastore, 1) := by decide +kernel
theorem dX1_put_28 : decode cX1_put 28 = .ok (.return_, 1) := by decide +kernel
theorem dX1_placeOf_0 : decode cX1_placeOf 0 = .ok (.aload_n 0, 1) := by decide +kernel
theorem dX1_placeOf_1 : decode cX1_placeOf 1 = .ok (.getfield 9, 3) := by decide +kernel
theorem dX1_placeOf_4 : decode cX1_placeOf 4 = .ok (.iload_n 1, 1) := by decide +kernel
theorem dX1_placeOf_5 : decode cX1_placeOf 5 = .ok (.bipush 6, 2) := by decide +kernel
theorem dX1_placeOf_7 : decode cX1_placeOf 7 = .ok (.imul, 1) := by decide +kernel
theorem dX1_placeOf_8 : decode cX1_placeOf 8 = .ok (.iload_n 2, 1) := by decide +kernel
theorem dX1_placeOf_9 : decode cX1_placeOf 9 = .ok (.iadd, 1) := by decide +kernel
theorem dX1_placeOf_10 : decode cX1_placeOf 10 = .ok (.iaload, 1) := by decide +kernel
theorem dX1_placeOf_11 : decode cX1_placeOf 11 = .ok (.ireturn, 1) := by decide +kernel
theorem dX1_group_0 : decode cX1_group 0 = .ok (.iload_n 2, 1) := by decide +kernel
theorem dX1_group_1 : decode cX1_group 1 = .ok (.ifCond .lt 21, 3) := by decide +kernel
theorem dX1_group_4 : decode cX1_group 4 = .ok (.iload_n 2, 1) := by decide +kernel
theorem dX1_group_5 : decode cX1_group 5 = .ok (.iconst 3, 1) := by decide +kernel
theorem dX1_group_6 : decode cX1_group 6 = .ok (.if_icmp .ge 16, 3) := by decide +kernel
theorem dX1_group_9 : decode cX1_group 9 = .ok (.aload_n 0, 1) := by decide +kernel
theorem dX1_group_10 : decode cX1_group 10 = .ok (.getfield 15, 3) := by decide +kernel
theorem dX1_group_13 : decode cX1_group 13 = .ok (.iload_n 1, 1) := by decide +kernel
theorem dX1_group_14 : decode cX1_group 14 = .ok (.iconst 3, 1) := by decide +kernel
theorem dX1_group_15 : decode cX1_group 15 = .ok (.imul, 1) := by decide +kernel
theorem dX1_group_16 : decode cX1_group 16 = .ok (.iload_n 2, 1) := by decide +kernel
theorem dX1_group_17 : decode cX1_group 17 = .ok (.iadd, 1) := by decide +kernel
theorem dX1_group_18 : decode cX1_group 18 = .ok (.iaload, 1) := by decide +kernel
theorem dX1_group_19 : decode cX1_group 19 = .ok (.goto 4, 3) := by decide +kernel
theorem dX1_group_22 : decode cX1_group 22 = .ok (.iconst 0, 1) := by decide +kernel
theorem dX1_group_23 : decode cX1_group 23 = .ok (.ireturn, 1) := by decide +kernel
theorem dX1_isCompany_0 : decode cX1_isCompany 0 = .ok (.iload_n 0, 1) := by decide +kernel
theorem dX1_isCompany_1 : decode cX1_isCompany 1 = .ok (.invokestatic 43, 3) := by decide +kernel
theorem dX1_isCompany_4 : decode cX1_isCompany 4 = .ok (.iconst 1, 1) := by decide +kernel
theorem dX1_isCompany_5 : decode cX1_isCompany 5 = .ok (.if_icmp .le 7, 3) := by decide +kernel
theorem dX1_isCompany_8 : decode cX1_isCompany 8 = .ok (.iconst 1, 1) := by decide +kernel
theorem dX1_isCompany_9 : decode cX1_isCompany 9 = .ok (.goto 4, 3) := by decide +kernel
theorem dX1_isCompany_12 : decode cX1_isCompany 12 = .ok (.iconst 0, 1) := by decide +kernel
theorem dX1_isCompany_13 : decode cX1_isCompany 13 = .ok (.ireturn, 1) := by decide +kernel
theorem dX2_init_0 : decode cX2_init 0 = .ok (.aload_n 0, 1) := by decide +kernel
theorem dX2_init_1 : decode cX2_init 1 = .ok (.invokespecial 3, 3) := by decide +kernel
theorem dX2_init_4 : decode cX2_init 4 = .ok (.aload_n 0, 1) := by decide +kernel
theorem dX2_init_5 : decode cX2_init 5 = .ok (.sipush 384, 3) := by decide +kernel
theorem dX2_init_8 : decode cX2_init 8 = .ok (.newarray .int, 2) := by decide +kernel
theorem dX2_init_10 : decode cX2_init 10 = .ok (.putfield 9, 3) := by decide +kernel
theorem dX2_init_13 : decode cX2_init 13 = .ok (.aload_n 0, 1) := by decide +kernel
theorem dX2_init_14 : decode cX2_init 14 = .ok (.bipush 64, 2) := by decide +kernel
theorem dX2_init_16 : decode cX2_init 16 = .ok (.newarray .int, 2) := by decide +kernel
theorem dX2_init_18 : decode cX2_init 18 = .ok (.putfield 15, 3) := by decide +kernel
theorem dX2_init_21 : decode cX2_init 21 = .ok (.aload_n 0, 1) := by decide +kernel
theorem dX2_init_22 : decode cX2_init 22 = .ok (.sipush 640, 3) := by decide +kernel
theorem dX2_init_25 : decode cX2_init 25 = .ok (.newarray .int, 2) := by decide +kernel
theorem dX2_init_27 : decode cX2_init 27 = .ok (.putfield 18, 3) := by decide +kernel
theorem dX2_init_30 : decode cX2_init 30 = .ok (.aload_n 0, 1) := by decide +kernel
theorem dX2_init_31 : decode cX2_init 31 = .ok (.bipush 8, 2) := by decide +kernel
theorem dX2_init_33 : decode cX2_init 33 = .ok (.newarray .int, 2) := by decide +kernel
theorem dX2_init_35 : decode cX2_init 35 = .ok (.putfield 21, 3) := by decide +kernel
theorem dX2_init_38 : decode cX2_init 38 = .ok (.aload_n 0, 1) := by decide +kernel
theorem dX2_init_39 : decode cX2_init 39 = .ok (.aload_n 1, 1) := by decide +kernel
theorem dX2_init_40 : decode cX2_init 40 = .ok (.putfield 24, 3) := by decide +kernel
theorem dX2_init_43 : decode cX2_init 43 = .ok (.return_, 1) := by decide +kernel
theorem dX2_behind_0 : decode cX2_behind 0 = .ok (.iload_n 3, 1) := by decide +kernel
theorem dX2_behind_1 : decode cX2_behind 1 = .ok (.istore 4, 2) := by decide +kernel
theorem dX2_behind_3 : decode cX2_behind 3 = .ok (.iconst 0, 1) := by decide +kernel
theorem dX2_behind_4 : decode cX2_behind 4 = .ok (.istore 5, 2) := by decide +kernel
theorem dX2_behind_6 : decode cX2_behind 6 = .ok (.iload 5, 2) := by decide +kernel
theorem dX2_behind_8 : decode cX2_behind 8 = .ok (.iconst 3, 1) := by decide +kernel
theorem dX2_behind_9 : decode cX2_behind 9 = .ok (.if_icmp .ge 54, 3) := by decide +kernel
theorem dX2_behind_12 : decode cX2_behind 12 = .ok (.iload_n 2, 1) := by decide +kernel
theorem dX2_behind_13 : decode cX2_behind 13 = .ok (.iload 5, 2) := by decide +kernel
theorem dX2_behind_15 : decode cX2_behind 15 = .ok (.ishr, 1) := by decide +kernel
theorem dX2_behind_16 : decode cX2_behind 16 = .ok (.iconst 1, 1) := by decide +kernel
theorem dX2_behind_17 : decode cX2_behind 17 = .ok (.iand, 1) := by decide +kernel
theorem dX2_behind_18 : decode cX2_behind 18 = .ok (.ifCond .eq 39, 3) := by decide +kernel
theorem dX2_behind_21 : decode cX2_behind 21 = .ok (.aload_n 0, 1) := by decide +kernel
theorem dX2_behind_22 : decode cX2_behind 22 = .ok (.getfield 24, 3) := by decide +kernel
theorem dX2_behind_25 : decode cX2_behind 25 = .ok (.iload_n 1, 1) := by decide +kernel
theorem dX2_behind_26 : decode cX2_behind 26 = .ok (.iload 5, 2) := by decide +kernel
theorem dX2_behind_28 : decode cX2_behind 28 = .ok (.invokevirtual 28, 3) := by decide +kernel
theorem dX2_behind_31 : decode cX2_behind 31 = .ok (.istore 6, 2) := by decide +kernel
theorem dX2_behind_33 : decode cX2_behind 33 = .ok (.iload 6, 2) := by decide +kernel
theorem dX2_behind_35 : decode cX2_behind 35 = .ok (.iload_n 3, 1) := by decide +kernel
theorem dX2_behind_36 : decode cX2_behind 36 = .ok (.iand, 1) := by decide +kernel
theorem dX2_behind_37 : decode cX2_behind 37 = .ok (.ifCond .eq 11, 3) := by decide +kernel
theorem dX2_behind_40 : decode cX2_behind 40 = .ok (.iload 6, 2) := by decide +kernel
theorem dX2_behind_42 : decode cX2_behind 42 = .ok (.invokestatic 34, 3) := by decide +kernel
theorem dX2_behind_45 : decode cX2_behind 45 = .ok (.ifCond .ne 5, 3) := by decide +kernel
theorem dX2_behind_48 : decode cX2_behind 48 = .ok (.iconst (-1), 1) := by decide +kernel
theorem dX2_behind_49 : decode cX2_behind 49 = .ok (.ireturn, 1) := by decide +kernel
theorem dX2_behind_50 : decode cX2_behind 50 = .ok (.iload 4, 2) := by decide +kernel
theorem dX2_behind_52 : decode cX2_behind 52 = .ok (.iload 6, 2) := by decide +kernel
theorem dX2_behind_54 : decode cX2_behind 54 = .ok (.ior, 1) := by decide +kernel
theorem dX2_behind_55 : decode cX2_behind 55 = .ok (.istore 4, 2) := by decide +kernel
theorem dX2_behind_57 : decode cX2_behind 57 = .ok (.iinc 5 1, 3) := by decide +kernel
theorem dX2_behind_60 : decode cX2_behind 60 = .ok (.goto (-54), 3) := by decide +kernel
theorem dX2_behind_63 : decode cX2_behind 63 = .ok (.iload 4, 2) := by decide +kernel
theorem dX2_behind_65 : decode cX2_behind 65 = .ok (.ireturn, 1) := by decide +kernel
theorem dX2_findNexts_0 : decode cX2_findNexts 0 = .ok (.iconst 0, 1) := by decide +kernel
theorem dX2_findNexts_1 : decode cX2_findNexts 1 = .ok (.istore_n 3, 1) := by decide +kernel
theorem dX2_findNexts_2 : decode cX2_findNexts 2 = .ok (.iload_n 3, 1) := by decide +kernel
theorem dX2_findNexts_3 : decode cX2_findNexts 3 = .ok (.bipush 8, 2) := by decide +kernel
theorem dX2_findNexts_5 : decode cX2_findNexts 5 = .ok (.if_icmp .ge 22, 3) := by decide +kernel
theorem dX2_findNexts_8 : decode cX2_findNexts 8 = .ok (.aload_n 0, 1) := by decide +kernel
theorem dX2_findNexts_9 : decode cX2_findNexts 9 = .ok (.getfield 21, 3) := by decide +kernel
theorem dX2_findNexts_12 : decode cX2_findNexts 12 = .ok (.iload_n 3, 1) := by decide +kernel
theorem dX2_findNexts_13 : decode cX2_findNexts 13 = .ok (.aload_n 0, 1) := by decide +kernel
theorem dX2_findNexts_14 : decode cX2_findNexts 14 = .ok (.iload_n 1, 1) := by decide +kernel
theorem dX2_findNexts_15 : decode cX2_findNexts 15 = .ok (.iload_n 3, 1) := by decide +kernel
theorem dX2_findNexts_16 : decode cX2_findNexts 16 = .ok (.iload_n 2, 1) := by decide +kernel
theorem dX2_findNexts_17 : decode cX2_findNexts 17 = .ok (.invokevirtual 38, 3) := by decide +kernel
theorem dX2_findNexts_20 : decode cX2_findNexts 20 = .ok (.iastore, 1) := by decide +kernel
theorem dX2_findNexts_21 : decode cX2_findNexts 21 = .ok (.iinc 3 1, 3) := by decide +kernel
theorem dX2_findNexts_24 : decode cX2_findNexts 24 = .ok (.goto (-22), 3) := by decide +kernel
theorem dX2_findNexts_27 : decode cX2_findNexts 27 = .ok (.return_, 1) := by decide +kernel
theorem dX2_want_0 : decode cX2_want 0 = .ok (.aload_n 0, 1) := by decide +kernel
theorem dX2_want_1 : decode cX2_want 1 = .ok (.aload_n 1, 1) := by decide +kernel
theorem dX2_want_2 : decode cX2_want 2 = .ok (.putfield 24, 3) := by decide +kernel
theorem dX2_want_5 : decode cX2_want 5 = .ok (.aload_n 0, 1) := by decide +kernel
theorem dX2_want_6 : decode cX2_want 6 = .ok (.iload_n 2, 1) := by decide +kernel
theorem dX2_want_7 : decode cX2_want 7 = .ok (.putfield 42, 3) := by decide +kernel
theorem dX2_want_10 : decode cX2_want 10 = .ok (.aload_n 0, 1) := by decide +kernel
theorem dX2_want_11 : decode cX2_want 11 = .ok (.getfield 9, 3) := by decide +kernel
theorem dX2_want_14 : decode cX2_want 14 = .ok (.iconst (-1), 1) := by decide +kernel
theorem dX2_want_15 : decode cX2_want 15 = .ok (.invokestatic 46, 3) := by decide +kernel
theorem dX2_want_18 : decode cX2_want 18 = .ok (.return_, 1) := by decide +kernel
theorem dX2_need_0 : decode cX2_need 0 = .ok (.aload_n 0, 1) := by decide +kernel
theorem dX2_need_1 : decode cX2_need 1 = .ok (.getfield 42, 3) := by decide +kernel
theorem dX2_need_4 : decode cX2_need 4 = .ok (.iload_n 2, 1) := by decide +kernel
theorem dX2_need_5 : decode cX2_need 5 = .ok (.iconst (-1), 1) := by decide +kernel
theorem dX2_need_6 : decode cX2_need 6 = .ok (.ixor, 1) := by decide +kernel
theorem dX2_need_7 : decode cX2_need 7 = .ok (.iand, 1) := by decide +kernel
theorem dX2_need_8 : decode cX2_need 8 = .ok (.ifCond .ne 5, 3) := by decide +kernel
theorem dX2_need_11 : decode cX2_need 11 = .ok (.iconst 0, 1) := by decide +kernel
theorem dX2_need_12 : decode cX2_need 12 = .ok (.ireturn, 1) := by decide +kernel
theorem dX2_need_13 : decode cX2_need 13 = .ok (.iload_n 1, 1) := by decide +kernel
theorem dX2_need_14 : decode cX2_need 14 = .ok (.bipush 6, 2) := by decide +kernel
theorem dX2_need_16 : decode cX2_need 16 = .ok (.if_icmp .lt 6, 3) := by decide +kernel
theorem dX2_need_19 : decode cX2_need 19 = .ok (.bipush 99, 2) := by decide +kernel
theorem dX2_need_21 : decode cX2_need 21 = .ok (.ireturn, 1) := by decide +kernel
theorem dX2_need_22 : decode cX2_need 22 = .ok (.iload_n 1, 1) := by decide +kernel
theorem dX2_need_23 : decode cX2_need 23 = .ok (.bipush 64, 2) := by decide +kernel
theorem dX2_need_25 : decode cX2_need 25 = .ok (.imul, 1) := by decide +kernel
theorem dX2_need_26 : decode cX2_need 26 = .ok (.iload_n 2, 1) := by decide +kernel
theorem dX2_need_27 : decode cX2_need 27 = .ok (.iadd, 1) := by decide +kernel
theorem dX2_need_28 : decode cX2_need 28 = .ok (.istore_n 3, 1) := by decide +kernel
theorem dX2_need_29 : decode cX2_need 29 = .ok (.aload_n 0, 1) := by decide +kernel
theorem dX2_need_30 : decode cX2_need 30 = .ok (.getfield 9, 3) := by decide +kernel
theorem dX2_need_33 : decode cX2_need 33 = .ok (.iload_n 3, 1) := by decide +kernel
theorem dX2_need_34 : decode cX2_need 34 = .ok (.iaload, 1) := by decide +kernel
theorem dX2_need_35 : decode cX2_need 35 = .ok (.iconst (-1), 1) := by decide +kernel
theorem dX2_need_36 : decode cX2_need 36 = .ok (.if_icmp .ne 46, 3) := by decide +kernel
theorem dX2_need_39 : decode cX2_need 39 = .ok (.bipush 99, 2) := by decide +kernel
theorem dX2_need_41 : decode cX2_need 41 = .ok (.istore 4, 2) := by decide +kernel
theorem dX2_need_43 : decode cX2_need 43 = .ok (.iconst 0, 1) := by decide +kernel
theorem dX2_need_44 : decode cX2_need 44 = .ok (.istore 5, 2) := by decide +kernel
theorem dX2_need_46 : decode cX2_need 46 = .ok (.iload 5, 2) := by decide +kernel
theorem dX2_need_48 : decode cX2_need 48 = .ok (.bipush 8, 2) := by decide +kernel
theorem dX2_need_50 : decode cX2_need 50 = .ok (.if_icmp .ge 24, 3) := by decide +kernel
theorem dX2_need_53 : decode cX2_need 53 = .ok (.iload 4, 2) := by decide +kernel
theorem dX2_need_55 : decode cX2_need 55 = .ok (.aload_n 0, 1) := by decide +kernel
theorem dX2_need_56 : decode cX2_need 56 = .ok (.iload_n 1, 1) := by decide +kernel
theorem dX2_need_57 : decode cX2_need 57 = .ok (.iload_n 2, 1) := by decide +kernel
theorem dX2_need_58 : decode cX2_need 58 = .ok (.iload 5, 2) := by decide +kernel
theorem dX2_need_60 : decode cX2_need 60 = .ok (.invokevirtual 52, 3) := by decide +kernel
theorem dX2_need_63 : decode cX2_need 63 = .ok (.invokestatic 55, 3) := by decide +kernel
theorem dX2_need_66 : decode cX2_need 66 = .ok (.istore 4, 2) := by decide +kernel
theorem dX2_need_68 : decode cX2_need 68 = .ok (.iinc 5 1, 3) := by decide +kernel
theorem dX2_need_71 : decode cX2_need 71 = .ok (.goto (-25), 3) := by decide +kernel
theorem dX2_need_74 : decode cX2_need 74 = .ok (.aload_n 0, 1) := by decide +kernel
theorem dX2_need_75 : decode cX2_need 75 = .ok (.getfield 9, 3) := by decide +kernel
theorem dX2_need_78 : decode cX2_need 78 = .ok (.iload_n 3, 1) := by decide +kernel
theorem dX2_need_79 : decode cX2_need 79 = .ok (.iload 4, 2) := by decide +kernel
theorem dX2_need_81 : decode cX2_need 81 = .ok (.iastore, 1) := by decide +kernel
theorem dX2_need_82 : decode cX2_need 82 = .ok (.aload_n 0, 1) := by decide +kernel
theorem dX2_need_83 : decode cX2_need 83 = .ok (.getfield 9, 3) := by decide +kernel
theorem dX2_need_86 : decode cX2_need 86 = .ok (.iload_n 3, 1) := by decide +kernel
theorem dX2_need_87 : decode cX2_need 87 = .ok (.iaload, 1) := by decide +kernel
theorem dX2_need_88 : decode cX2_need 88 = .ok (.ireturn, 1) := by decide +kernel
theorem dX2_needBy_0 : decode cX2_needBy 0 = .ok (.aload_n 0, 1) := by decide +kernel
theorem dX2_needBy_1 : decode cX2_needBy 1 = .ok (.iload_n 1, 1) := by decide +kernel
theorem dX2_needBy_2 : decode cX2_needBy 2 = .ok (.iload_n 3, 1) := by decide +kernel
theorem dX2_needBy_3 : decode cX2_needBy 3 = .ok (.iload_n 2, 1) := by decide +kernel
theorem dX2_needBy_4 : decode cX2_needBy 4 = .ok (.invokevirtual 38, 3) := by decide +kernel
theorem dX2_needBy_7 : decode cX2_needBy 7 = .ok (.istore 4, 2) := by decide +kernel
theorem dX2_needBy_9 : decode cX2_needBy 9 = .ok (.iload 4, 2) := by decide +kernel
theorem dX2_needBy_11 : decode cX2_needBy 11 = .ok (.ifCond .ge 6, 3) := by decide +kernel
theorem dX2_needBy_14 : decode cX2_needBy 14 = .ok (.bipush 99, 2) := by decide +kernel
theorem dX2_needBy_16 : decode cX2_needBy 16 = .ok (.ireturn, 1) := by decide +kernel
theorem dX2_needBy_17 : decode cX2_needBy 17 = .ok (.bipush 99, 2) := by decide +kernel
theorem dX2_needBy_19 : decode cX2_needBy 19 = .ok (.iload_n 3, 1) := by decide +kernel
theorem dX2_needBy_20 : decode cX2_needBy 20 = .ok (.invokestatic 60, 3) := by decide +kernel
theorem dX2_needBy_23 : decode cX2_needBy 23 = .ok (.aload_n 0, 1) := by decide +kernel
theorem dX2_needBy_24 : decode cX2_needBy 24 = .ok (.iload_n 1, 1) := by decide +kernel
theorem dX2_needBy_25 : decode cX2_needBy 25 = .ok (.iconst 1, 1) := by decide +kernel
theorem dX2_needBy_26 : decode cX2_needBy 26 = .ok (.iadd, 1) := by decide +kernel
theorem dX2_needBy_27 : decode cX2_needBy 27 = .ok (.iload 4, 2) := by decide +kernel
theorem dX2_needBy_29 : decode cX2_needBy 29 = .ok (.invokevirtual 66, 3) := by decide +kernel
theorem dX2_needBy_32 : decode cX2_needBy 32 = .ok (.iadd, 1) := by decide +kernel
theorem dX2_needBy_33 : decode cX2_needBy 33 = .ok (.invokestatic 55, 3) := by decide +kernel
theorem dX2_needBy_36 : decode cX2_needBy 36 = .ok (.ireturn, 1) := by decide +kernel
theorem dX2_planned_0 : decode cX2_planned 0 = .ok (.iload_n 2, 1) := by decide +kernel
theorem dX2_planned_1 : decode cX2_planned 1 = .ok (.istore 4, 2) := by decide +kernel
theorem dX2_planned_3 : decode cX2_planned 3 = .ok (.iconst 0, 1) := by decide +kernel
theorem dX2_planned_4 : decode cX2_planned 4 = .ok (.istore 5, 2) := by decide +kernel
theorem dX2_planned_6 : decode cX2_planned 6 = .ok (.iload_n 1, 1) := by decide +kernel
theorem dX2_planned_7 : decode cX2_planned 7 = .ok (.istore 6, 2) := by decide +kernel
theorem dX2_planned_9 : decode cX2_planned 9 = .ok (.iload 6, 2) := by decide +kernel
theorem dX2_planned_11 : decode cX2_planned 11 = .ok (.iload_n 1, 1) := by decide +kernel
theorem dX2_planned_12 : decode cX2_planned 12 = .ok (.iload_n 3, 1) := by decide +kernel
theorem dX2_planned_13 : decode cX2_planned 13 = .ok (.iadd, 1) := by decide +kernel
theorem dX2_planned_14 : decode cX2_planned 14 = .ok (.if_icmp .gt 38, 3) := by decide +kernel
theorem dX2_planned_17 : decode cX2_planned 17 = .ok (.iload 6, 2) := by decide +kernel
theorem dX2_planned_19 : decode cX2_planned 19 = .ok (.bipush 6, 2) := by decide +kernel
theorem dX2_planned_21 : decode cX2_planned 21 = .ok (.if_icmp .ge 31, 3) := by decide +kernel
theorem dX2_planned_24 : decode cX2_planned 24 = .ok (.aload_n 0, 1) := by decide +kernel
theorem dX2_planned_25 : decode cX2_planned 25 = .ok (.iload 6, 2) := by decide +kernel
theorem dX2_planned_27 : decode cX2_planned 27 = .ok (.iload 4, 2) := by decide +kernel
theorem dX2_planned_29 : decode cX2_planned 29 = .ok (.invokevirtual 69, 3) := by decide +kernel
theorem dX2_planned_32 : decode cX2_planned 32 = .ok (.istore 5, 2) := by decide +kernel
theorem dX2_planned_34 : decode cX2_planned 34 = .ok (.aload_n 0, 1) := by decide +kernel
theorem dX2_planned_35 : decode cX2_planned 35 = .ok (.iload 6, 2) := by decide +kernel
theorem dX2_planned_37 : decode cX2_planned 37 = .ok (.iload 5, 2) := by decide +kernel
theorem dX2_planned_39 : decode cX2_planned 39 = .ok (.iload 4, 2) := by decide +kernel
theorem dX2_planned_41 : decode cX2_planned 41 = .ok (.invokevirtual 38, 3) := by decide +kernel
theorem dX2_planned_44 : decode cX2_planned 44 = .ok (.istore 4, 2) := by decide +kernel
theorem dX2_planned_46 : decode cX2_planned 46 = .ok (.iinc 6 1, 3) := by decide +kernel
theorem dX2_planned_49 : decode cX2_planned 49 = .ok (.goto (-40), 3) := by decide +kernel
theorem dX2_planned_52 : decode cX2_planned 52 = .ok (.iload 5, 2) := by decide +kernel
theorem dX2_planned_54 : decode cX2_planned 54 = .ok (.ireturn, 1) := by decide +kernel
theorem dX2_firstOfLeast_0 : decode cX2_firstOfLeast 0 = .ok (.aload_n 0, 1) := by decide +kernel
theorem dX2_firstOfLeast_1 : decode cX2_firstOfLeast 1 = .ok (.iload_n 1, 1) := by decide +kernel
theorem dX2_firstOfLeast_2 : decode cX2_firstOfLeast 2 = .ok (.iload_n 2, 1) := by decide +kernel
theorem dX2_firstOfLeast_3 : decode cX2_firstOfLeast 3 = .ok (.invokevirtual 66, 3) := by decide +kernel
theorem dX2_firstOfLeast_6 : decode cX2_firstOfLeast 6 = .ok (.istore_n 3, 1) := by decide +kernel
theorem dX2_firstOfLeast_7 : decode cX2_firstOfLeast 7 = .ok (.iconst 0, 1) := by decide +kernel
theorem dX2_firstOfLeast_8 : decode cX2_firstOfLeast 8 = .ok (.istore 4, 2) := by decide +kernel
theorem dX2_firstOfLeast_10 : decode cX2_firstOfLeast 10 = .ok (.iload 4, 2) := by decide +kernel
theorem dX2_firstOfLeast_12 : decode cX2_firstOfLeast 12 = .ok (.bipush 8, 2) := by decide +kernel
theorem dX2_firstOfLeast_14 : decode cX2_firstOfLeast 14 = .ok (.if_icmp .ge 35, 3) := by decide +kernel
theorem dX2_firstOfLeast_17 : decode cX2_firstOfLeast 17 = .ok (.aload_n 0, 1) := by decide +kernel
theorem dX2_firstOfLeast_18 : decode cX2_firstOfLeast 18 = .ok (.iload_n 1, 1) := by decide +kernel
theorem dX2_firstOfLeast_19 : decode cX2_firstOfLeast 19 = .ok (.iload_n 2, 1) := by decide +kernel
theorem dX2_firstOfLeast_20 : decode cX2_firstOfLeast 20 = .ok (.iload 4, 2) := by decide +kernel
theorem dX2_firstOfLeast_22 : decode cX2_firstOfLeast 22 = .ok (.invokevirtual 52, 3) := by decide +kernel
theorem dX2_firstOfLeast_25 : decode cX2_firstOfLeast 25 = .ok (.iload_n 3, 1) := by decide +kernel
theorem dX2_firstOfLeast_26 : decode cX2_firstOfLeast 26 = .ok (.if_icmp .ne 17, 3) := by decide +kernel
theorem dX2_firstOfLeast_29 : decode cX2_firstOfLeast 29 = .ok (.aload_n 0, 1) := by decide +kernel
theorem dX2_firstOfLeast_30 : decode cX2_firstOfLeast 30 = .ok (.iload_n 1, 1) := by decide +kernel
theorem dX2_firstOfLeast_31 : decode cX2_firstOfLeast 31 = .ok (.iload 4, 2) := by decide +kernel
theorem dX2_firstOfLeast_33 : decode cX2_firstOfLeast 33 = .ok (.iload_n 2, 1) := by decide +kernel
theorem dX2_firstOfLeast_34 : decode cX2_firstOfLeast 34 = .ok (.invokevirtual 38, 3) := by decide +kernel
theorem dX2_firstOfLeast_37 : decode cX2_firstOfLeast 37 = .ok (.ifCond .lt 6, 3) := by decide +kernel
theorem dX2_firstOfLeast_40 : decode cX2_firstOfLeast 40 = .ok (.iload 4, 2) := by decide +kernel
theorem dX2_firstOfLeast_42 : decode cX2_firstOfLeast 42 = .ok (.ireturn, 1) := by decide +kernel
theorem dX2_firstOfLeast_43 : decode cX2_firstOfLeast 43 = .ok (.iinc 4 1, 3) := by decide +kernel
theorem dX2_firstOfLeast_46 : decode cX2_firstOfLeast 46 = .ok (.goto (-36), 3) := by decide +kernel
theorem dX2_firstOfLeast_49 : decode cX2_firstOfLeast 49 = .ok (.iconst 0, 1) := by decide +kernel
theorem dX2_firstOfLeast_50 : decode cX2_firstOfLeast 50 = .ok (.ireturn, 1) := by decide +kernel
theorem dX2_wonBy_0 : decode cX2_wonBy 0 = .ok (.aload_n 0, 1) := by decide +kernel
theorem dX2_wonBy_1 : decode cX2_wonBy 1 = .ok (.getfield 42, 3) := by decide +kernel
theorem dX2_wonBy_4 : decode cX2_wonBy 4 = .ok (.iload_n 2, 1) := by decide +kernel
theorem dX2_wonBy_5 : decode cX2_wonBy 5 = .ok (.iand, 1) := by decide +kernel
theorem dX2_wonBy_6 : decode cX2_wonBy 6 = .ok (.ifCond .eq 7, 3) := by decide +kernel
theorem dX2_wonBy_9 : decode cX2_wonBy 9 = .ok (.sipush 1023, 3) := by decide +kernel
theorem dX2_wonBy_12 : decode cX2_wonBy 12 = .ok (.ireturn, 1) := by decide +kernel
theorem dX2_wonBy_13 : decode cX2_wonBy 13 = .ok (.iload_n 1, 1) := by decide +kernel
theorem dX2_wonBy_14 : decode cX2_wonBy 14 = .ok (.bipush 6, 2) := by decide +kernel
theorem dX2_wonBy_16 : decode cX2_wonBy 16 = .ok (.if_icmp .lt 5, 3) := by decide +kernel
theorem dX2_wonBy_19 : decode cX2_wonBy 19 = .ok (.iconst 0, 1) := by decide +kernel
theorem dX2_wonBy_20 : decode cX2_wonBy 20 = .ok (.ireturn, 1) := by decide +kernel
theorem dX2_wonBy_21 : decode cX2_wonBy 21 = .ok (.iload_n 1, 1) := by decide +kernel
theorem dX2_wonBy_22 : decode cX2_wonBy 22 = .ok (.bipush 64, 2) := by decide +kernel
theorem dX2_wonBy_24 : decode cX2_wonBy 24 = .ok (.imul, 1) := by decide +kernel
theorem dX2_wonBy_25 : decode cX2_wonBy 25 = .ok (.iload_n 2, 1) := by decide +kernel
theorem dX2_wonBy_26 : decode cX2_wonBy 26 = .ok (.iadd, 1) := by decide +kernel
theorem dX2_wonBy_27 : decode cX2_wonBy 27 = .ok (.istore_n 3, 1) := by decide +kernel
theorem dX2_wonBy_28 : decode cX2_wonBy 28 = .ok (.aload_n 0, 1) := by decide +kernel
theorem dX2_wonBy_29 : decode cX2_wonBy 29 = .ok (.getfield 9, 3) := by decide +kernel
theorem dX2_wonBy_32 : decode cX2_wonBy 32 = .ok (.iload_n 3, 1) := by decide +kernel
theorem dX2_wonBy_33 : decode cX2_wonBy 33 = .ok (.iaload, 1) := by decide +kernel
theorem dX2_wonBy_34 : decode cX2_wonBy 34 = .ok (.iconst (-1), 1) := by decide +kernel
theorem dX2_wonBy_35 : decode cX2_wonBy 35 = .ok (.if_icmp .ne 60, 3) := by decide +kernel
theorem dX2_wonBy_38 : decode cX2_wonBy 38 = .ok (.iconst 0, 1) := by decide +kernel
theorem dX2_wonBy_39 : decode cX2_wonBy 39 = .ok (.istore 4, 2) := by decide +kernel
theorem dX2_wonBy_41 : decode cX2_wonBy 41 = .ok (.getstatic 72, 3) := by decide +kernel
theorem dX2_wonBy_44 : decode cX2_wonBy 44 = .ok (.astore 5, 2) := by decide +kernel
theorem dX2_wonBy_46 : decode cX2_wonBy 46 = .ok (.aload 5, 2) := by decide +kernel
theorem dX2_wonBy_48 : decode cX2_wonBy 48 = .ok (.arraylength, 1) := by decide +kernel
theorem dX2_wonBy_49 : decode cX2_wonBy 49 = .ok (.istore 6, 2) := by decide +kernel
theorem dX2_wonBy_51 : decode cX2_wonBy 51 = .ok (.iconst 0, 1) := by decide +kernel
theorem dX2_wonBy_52 : decode cX2_wonBy 52 = .ok (.istore 7, 2) := by decide +kernel
theorem dX2_wonBy_54 : decode cX2_wonBy 54 = .ok (.iload 7, 2) := by decide +kernel
theorem dX2_wonBy_56 : decode cX2_wonBy 56 = .ok (.iload 6, 2) := by decide +kernel
theorem dX2_wonBy_58 : decode cX2_wonBy 58 = .ok (.if_icmp .ge 29, 3) := by decide +kernel
theorem dX2_wonBy_61 : decode cX2_wonBy 61 = .ok (.aload 5, 2) := by decide +kernel
theorem dX2_wonBy_63 : decode cX2_wonBy 63 = .ok (.iload 7, 2) := by decide +kernel
theorem dX2_wonBy_65 : decode cX2_wonBy 65 = .ok (.iaload, 1) := by decide +kernel
theorem dX2_wonBy_66 : decode cX2_wonBy 66 = .ok (.istore 8, 2) := by decide +kernel
theorem dX2_wonBy_68 : decode cX2_wonBy 68 = .ok (.iload 4, 2) := by decide +kernel
theorem dX2_wonBy_70 : decode cX2_wonBy 70 = .ok (.aload_n 0, 1) := by decide +kernel
theorem dX2_wonBy_71 : decode cX2_wonBy 71 = .ok (.iload_n 1, 1) := by decide +kernel
theorem dX2_wonBy_72 : decode cX2_wonBy 72 = .ok (.iload_n 2, 1) := by decide +kernel
theorem dX2_wonBy_73 : decode cX2_wonBy 73 = .ok (.iload 8, 2) := by decide +kernel
theorem dX2_wonBy_75 : decode cX2_wonBy 75 = .ok (.invokevirtual 75, 3) := by decide +kernel
theorem dX2_wonBy_78 : decode cX2_wonBy 78 = .ok (.ior, 1) := by decide +kernel
theorem dX2_wonBy_79 : decode cX2_wonBy 79 = .ok (.istore 4, 2) := by decide +kernel
theorem dX2_wonBy_81 : decode cX2_wonBy 81 = .ok (.iinc 7 1, 3) := by decide +kernel
theorem dX2_wonBy_84 : decode cX2_wonBy 84 = .ok (.goto (-30), 3) := by decide +kernel
theorem dX2_wonBy_87 : decode cX2_wonBy 87 = .ok (.aload_n 0, 1) := by decide +kernel
theorem dX2_wonBy_88 : decode cX2_wonBy 88 = .ok (.getfield 9, 3) := by decide +kernel
theorem dX2_wonBy_91 : decode cX2_wonBy 91 = .ok (.iload_n 3, 1) := by decide +kernel
theorem dX2_wonBy_92 : decode cX2_wonBy 92 = .ok (.iload 4, 2) := by decide +kernel
theorem dX2_wonBy_94 : decode cX2_wonBy 94 = .ok (.iastore, 1) := by decide +kernel
theorem dX2_wonBy_95 : decode cX2_wonBy 95 = .ok (.aload_n 0, 1) := by decide +kernel
theorem dX2_wonBy_96 : decode cX2_wonBy 96 = .ok (.getfield 9, 3) := by decide +kernel
theorem dX2_wonBy_99 : decode cX2_wonBy 99 = .ok (.iload_n 3, 1) := by decide +kernel
theorem dX2_wonBy_100 : decode cX2_wonBy 100 = .ok (.iaload, 1) := by decide +kernel
theorem dX2_wonBy_101 : decode cX2_wonBy 101 = .ok (.ireturn, 1) := by decide +kernel
theorem dX2_wonByChoice_0 : decode cX2_wonByChoice 0 = .ok (.aload_n 0, 1) := by decide +kernel
theorem dX2_wonByChoice_1 : decode cX2_wonByChoice 1 = .ok (.iload_n 1, 1) := by decide +kernel
theorem dX2_wonByChoice_2 : decode cX2_wonByChoice 2 = .ok (.iload_n 3, 1) := by decide +kernel
theorem dX2_wonByChoice_3 : decode cX2_wonByChoice 3 = .ok (.iload_n 2, 1) := by decide +kernel
theorem dX2_wonByChoice_4 : decode cX2_wonByChoice 4 = .ok (.invokevirtual 38, 3) := by decide +kernel
theorem dX2_wonByChoice_7 : decode cX2_wonByChoice 7 = .ok (.ifCond .ge 5, 3) := by decide +kernel
theorem dX2_wonByChoice_10 : decode cX2_wonByChoice 10 = .ok (.iconst 0, 1) := by decide +kernel
theorem dX2_wonByChoice_11 : decode cX2_wonByChoice 11 = .ok (.ireturn, 1) := by decide +kernel
theorem dX2_wonByChoice_12 : decode cX2_wonByChoice 12 = .ok (.iload_n 3, 1) := by decide +kernel
theorem dX2_wonByChoice_13 : decode cX2_wonByChoice 13 = .ok (.ifCond .ne 9, 3) := by decide +kernel
theorem dX2_wonByChoice_16 : decode cX2_wonByChoice 16 = .ok (.sipush 1023, 3) := by decide +kernel
theorem dX2_wonByChoice_19 : decode cX2_wonByChoice 19 = .ok (.goto 6, 3) := by decide +kernel
theorem dX2_wonByChoice_22 : decode cX2_wonByChoice 22 = .ok (.sipush 1022, 3) := by decide +kernel
theorem dX2_wonByChoice_25 : decode cX2_wonByChoice 25 = .ok (.istore 4, 2) := by decide +kernel
theorem dX2_wonByChoice_27 : decode cX2_wonByChoice 27 = .ok (.getstatic 72, 3) := by decide +kernel
theorem dX2_wonByChoice_30 : decode cX2_wonByChoice 30 = .ok (.astore 5, 2) := by decide +kernel
theorem dX2_wonByChoice_32 : decode cX2_wonByChoice 32 = .ok (.aload 5, 2) := by decide +kernel
theorem dX2_wonByChoice_34 : decode cX2_wonByChoice 34 = .ok (.arraylength, 1) := by decide +kernel
theorem dX2_wonByChoice_35 : decode cX2_wonByChoice 35 = .ok (.istore 6, 2) := by decide +kernel
theorem dX2_wonByChoice_37 : decode cX2_wonByChoice 37 = .ok (.iconst 0, 1) := by decide +kernel
theorem dX2_wonByChoice_38 : decode cX2_wonByChoice 38 = .ok (.istore 7, 2) := by decide +kernel
theorem dX2_wonByChoice_40 : decode cX2_wonByChoice 40 = .ok (.iload 7, 2) := by decide +kernel
theorem dX2_wonByChoice_42 : decode cX2_wonByChoice 42 = .ok (.iload 6, 2) := by decide +kernel
theorem dX2_wonByChoice_44 : decode cX2_wonByChoice 44 = .ok (.if_icmp .ge 73, 3) := by decide +kernel
theorem dX2_wonByChoice_47 : decode cX2_wonByChoice 47 = .ok (.aload 5, 2) := by decide +kernel
theorem dX2_wonByChoice_49 : decode cX2_wonByChoice 49 = .ok (.iload 7, 2) := by decide +kernel
theorem dX2_wonByChoice_51 : decode cX2_wonByChoice 51 = .ok (.iaload, 1) := by decide +kernel
theorem dX2_wonByChoice_52 : decode cX2_wonByChoice 52 = .ok (.istore 8, 2) := by decide +kernel
theorem dX2_wonByChoice_54 : decode cX2_wonByChoice 54 = .ok (.aload_n 0, 1) := by decide +kernel
theorem dX2_wonByChoice_55 : decode cX2_wonByChoice 55 = .ok (.iload_n 1, 1) := by decide +kernel
theorem dX2_wonByChoice_56 : decode cX2_wonByChoice 56 = .ok (.iload_n 3, 1) := by decide +kernel
theorem dX2_wonByChoice_57 : decode cX2_wonByChoice 57 = .ok (.iload 8, 2) := by decide +kernel
theorem dX2_wonByChoice_59 : decode cX2_wonByChoice 59 = .ok (.ior, 1) := by decide +kernel
theorem dX2_wonByChoice_60 : decode cX2_wonByChoice 60 = .ok (.iload_n 2, 1) := by decide +kernel
theorem dX2_wonByChoice_61 : decode cX2_wonByChoice 61 = .ok (.invokevirtual 38, 3) := by decide +kernel
theorem dX2_wonByChoice_64 : decode cX2_wonByChoice 64 = .ok (.istore 9, 2) := by decide +kernel
theorem dX2_wonByChoice_66 : decode cX2_wonByChoice 66 = .ok (.iload 9, 2) := by decide +kernel
theorem dX2_wonByChoice_68 : decode cX2_wonByChoice 68 = .ok (.ifCond .lt 43, 3) := by decide +kernel
theorem dX2_wonByChoice_71 : decode cX2_wonByChoice 71 = .ok (.iload_n 3, 1) := by decide +kernel
theorem dX2_wonByChoice_72 : decode cX2_wonByChoice 72 = .ok (.iload 8, 2) := by decide +kernel
theorem dX2_wonByChoice_74 : decode cX2_wonByChoice 74 = .ok (.iand, 1) := by decide +kernel
theorem dX2_wonByChoice_75 : decode cX2_wonByChoice 75 = .ok (.ifCond .ne 36, 3) := by decide +kernel
theorem dX2_wonByChoice_78 : decode cX2_wonByChoice 78 = .ok (.iload_n 3, 1) := by decide +kernel
theorem dX2_wonByChoice_79 : decode cX2_wonByChoice 79 = .ok (.iload 8, 2) := by decide +kernel
theorem dX2_wonByChoice_81 : decode cX2_wonByChoice 81 = .ok (.ior, 1) := by decide +kernel
theorem dX2_wonByChoice_82 : decode cX2_wonByChoice 82 = .ok (.invokestatic 60, 3) := by decide +kernel
theorem dX2_wonByChoice_85 : decode cX2_wonByChoice 85 = .ok (.istore 10, 2) := by decide +kernel
theorem dX2_wonByChoice_87 : decode cX2_wonByChoice 87 = .ok (.iload 4, 2) := by decide +kernel
theorem dX2_wonByChoice_89 : decode cX2_wonByChoice 89 = .ok (.aload_n 0, 1) := by decide +kernel
theorem dX2_wonByChoice_90 : decode cX2_wonByChoice 90 = .ok (.iload_n 1, 1) := by decide +kernel
theorem dX2_wonByChoice_91 : decode cX2_wonByChoice 91 = .ok (.iconst 1, 1) := by decide +kernel
theorem dX2_wonByChoice_92 : decode cX2_wonByChoice 92 = .ok (.iadd, 1) := by decide +kernel
theorem dX2_wonByChoice_93 : decode cX2_wonByChoice 93 = .ok (.iload 9, 2) := by decide +kernel
theorem dX2_wonByChoice_95 : decode cX2_wonByChoice 95 = .ok (.invokevirtual 78, 3) := by decide +kernel
theorem dX2_wonByChoice_98 : decode cX2_wonByChoice 98 = .ok (.iload 10, 2) := by decide +kernel
theorem dX2_wonByChoice_100 : decode cX2_wonByChoice 100 = .ok (.ishl, 1) := by decide +kernel
theorem dX2_wonByChoice_101 : decode cX2_wonByChoice 101 = .ok (.iconst 1, 1) := by decide +kernel
theorem dX2_wonByChoice_102 : decode cX2_wonByChoice 102 = .ok (.iload 10, 2) := by decide +kernel
theorem dX2_wonByChoice_104 : decode cX2_wonByChoice 104 = .ok (.ishl, 1) := by decide +kernel
theorem dX2_wonByChoice_105 : decode cX2_wonByChoice 105 = .ok (.iconst 1, 1) := by decide +kernel
theorem dX2_wonByChoice_106 : decode cX2_wonByChoice 106 = .ok (.isub, 1) := by decide +kernel
theorem dX2_wonByChoice_107 : decode cX2_wonByChoice 107 = .ok (.ior, 1) := by decide +kernel
theorem dX2_wonByChoice_108 : decode cX2_wonByChoice 108 = .ok (.iand, 1) := by decide +kernel
theorem dX2_wonByChoice_109 : decode cX2_wonByChoice 109 = .ok (.istore 4, 2) := by decide +kernel
theorem dX2_wonByChoice_111 : decode cX2_wonByChoice 111 = .ok (.iinc 7 1, 3) := by decide +kernel
theorem dX2_wonByChoice_114 : decode cX2_wonByChoice 114 = .ok (.goto (-74), 3) := by decide +kernel
theorem dX2_wonByChoice_117 : decode cX2_wonByChoice 117 = .ok (.iload 4, 2) := by decide +kernel
theorem dX2_wonByChoice_119 : decode cX2_wonByChoice 119 = .ok (.ireturn, 1) := by decide +kernel
theorem dX2_lookFrom_0 : decode cX2_lookFrom 0 = .ok (.aload_n 0, 1) := by decide +kernel
theorem dX2_lookFrom_1 : decode cX2_lookFrom 1 = .ok (.aload_n 1, 1) := by decide +kernel
theorem dX2_lookFrom_2 : decode cX2_lookFrom 2 = .ok (.putfield 24, 3) := by decide +kernel
theorem dX2_lookFrom_5 : decode cX2_lookFrom 5 = .ok (.aload_n 0, 1) := by decide +kernel
theorem dX2_lookFrom_6 : decode cX2_lookFrom 6 = .ok (.getfield 15, 3) := by decide +kernel
theorem dX2_lookFrom_9 : decode cX2_lookFrom 9 = .ok (.iconst 0, 1) := by decide +kernel
theorem dX2_lookFrom_10 : decode cX2_lookFrom 10 = .ok (.invokestatic 46, 3) := by decide +kernel
theorem dX2_lookFrom_13 : decode cX2_lookFrom 13 = .ok (.aload_n 0, 1) := by decide +kernel
theorem dX2_lookFrom_14 : decode cX2_lookFrom 14 = .ok (.getfield 15, 3) := by decide +kernel
theorem dX2_lookFrom_17 : decode cX2_lookFrom 17 = .ok (.iload_n 2, 1) := by decide +kernel
theorem dX2_lookFrom_18 : decode cX2_lookFrom 18 = .ok (.iconst 1, 1) := by decide +kernel
theorem dX2_lookFrom_19 : decode cX2_lookFrom 19 = .ok (.iload_n 3, 1) := by decide +kernel
theorem dX2_lookFrom_20 : decode cX2_lookFrom 20 = .ok (.ishl, 1) := by decide +kernel
theorem dX2_lookFrom_21 : decode cX2_lookFrom 21 = .ok (.iastore, 1) := by decide +kernel
theorem dX2_lookFrom_22 : decode cX2_lookFrom 22 = .ok (.return_, 1) := by decide +kernel
theorem dX2_goThrough_0 : decode cX2_goThrough 0 = .ok (.bipush 63, 2) := by decide +kernel
theorem dX2_goThrough_2 : decode cX2_goThrough 2 = .ok (.istore_n 3, 1) := by decide +kernel
theorem dX2_goThrough_3 : decode cX2_goThrough 3 = .ok (.iload_n 3, 1) := by decide +kernel
theorem dX2_goThrough_4 : decode cX2_goThrough 4 = .ok (.ifCond .lt 78, 3) := by decide +kernel
theorem dX2_goThrough_7 : decode cX2_goThrough 7 = .ok (.aload_n 0, 1) := by decide +kernel
theorem dX2_goThrough_8 : decode cX2_goThrough 8 = .ok (.getfield 15, 3) := by decide +kernel
theorem dX2_goThrough_11 : decode cX2_goThrough 11 = .ok (.iload_n 3, 1) := by decide +kernel
theorem dX2_goThrough_12 : decode cX2_goThrough 12 = .ok (.iaload, 1) := by decide +kernel
theorem dX2_goThrough_13 : decode cX2_goThrough 13 = .ok (.istore 4, 2) := by decide +kernel
theorem dX2_goThrough_15 : decode cX2_goThrough 15 = .ok (.iconst 1, 1) := by decide +kernel
theorem dX2_goThrough_16 : decode cX2_goThrough 16 = .ok (.istore 5, 2) := by decide +kernel
theorem dX2_goThrough_18 : decode cX2_goThrough 18 = .ok (.iload 4, 2) := by decide +kernel
theorem dX2_goThrough_20 : decode cX2_goThrough 20 = .ok (.ifCond .eq 56, 3) := by decide +kernel
theorem dX2_goThrough_23 : decode cX2_goThrough 23 = .ok (.iload 5, 2) := by decide +kernel
theorem dX2_goThrough_25 : decode cX2_goThrough 25 = .ok (.bipush 8, 2) := by decide +kernel
theorem dX2_goThrough_27 : decode cX2_goThrough 27 = .ok (.if_icmp .ge 49, 3) := by decide +kernel
theorem dX2_goThrough_30 : decode cX2_goThrough 30 = .ok (.aload_n 0, 1) := by decide +kernel
theorem dX2_goThrough_31 : decode cX2_goThrough 31 = .ok (.iload_n 1, 1) := by decide +kernel
theorem dX2_goThrough_32 : decode cX2_goThrough 32 = .ok (.iload 5, 2) := by decide +kernel
theorem dX2_goThrough_34 : decode cX2_goThrough 34 = .ok (.iload_n 3, 1) := by decide +kernel
theorem dX2_goThrough_35 : decode cX2_goThrough 35 = .ok (.invokevirtual 38, 3) := by decide +kernel
theorem dX2_goThrough_38 : decode cX2_goThrough 38 = .ok (.istore 6, 2) := by decide +kernel
theorem dX2_goThrough_40 : decode cX2_goThrough 40 = .ok (.iload 6, 2) := by decide +kernel
theorem dX2_goThrough_42 : decode cX2_goThrough 42 = .ok (.ifCond .lt 28, 3) := by decide +kernel
theorem dX2_goThrough_45 : decode cX2_goThrough 45 = .ok (.iload 6, 2) := by decide +kernel
theorem dX2_goThrough_47 : decode cX2_goThrough 47 = .ok (.iload_n 2, 1) := by decide +kernel
theorem dX2_goThrough_48 : decode cX2_goThrough 48 = .ok (.iand, 1) := by decide +kernel
theorem dX2_goThrough_49 : decode cX2_goThrough 49 = .ok (.ifCond .ne 21, 3) := by decide +kernel
theorem dX2_goThrough_52 : decode cX2_goThrough 52 = .ok (.aload_n 0, 1) := by decide +kernel
theorem dX2_goThrough_53 : decode cX2_goThrough 53 = .ok (.getfield 15, 3) := by decide +kernel
theorem dX2_goThrough_56 : decode cX2_goThrough 56 = .ok (.iload 6, 2) := by decide +kernel
theorem dX2_goThrough_58 : decode cX2_goThrough 58 = .ok (.dup2, 1) := by decide +kernel
theorem dX2_goThrough_59 : decode cX2_goThrough 59 = .ok (.iaload, 1) := by decide +kernel
theorem dX2_goThrough_60 : decode cX2_goThrough 60 = .ok (.iload 4, 2) := by decide +kernel
theorem dX2_goThrough_62 : decode cX2_goThrough 62 = .ok (.iload 5, 2) := by decide +kernel
theorem dX2_goThrough_64 : decode cX2_goThrough 64 = .ok (.invokestatic 60, 3) := by decide +kernel
theorem dX2_goThrough_67 : decode cX2_goThrough 67 = .ok (.ishr, 1) := by decide +kernel
theorem dX2_goThrough_68 : decode cX2_goThrough 68 = .ok (.ior, 1) := by decide +kernel
theorem dX2_goThrough_69 : decode cX2_goThrough 69 = .ok (.iastore, 1) := by decide +kernel
theorem dX2_goThrough_70 : decode cX2_goThrough 70 = .ok (.iinc 5 1, 3) := by decide +kernel
theorem dX2_goThrough_73 : decode cX2_goThrough 73 = .ok (.goto (-55), 3) := by decide +kernel
theorem dX2_goThrough_76 : decode cX2_goThrough 76 = .ok (.iinc 3 (-1), 3) := by decide +kernel
theorem dX2_goThrough_79 : decode cX2_goThrough 79 = .ok (.goto (-76), 3) := by decide +kernel
theorem dX2_goThrough_82 : decode cX2_goThrough 82 = .ok (.return_, 1) := by decide +kernel
theorem dX2_canBeSpent_0 : decode cX2_canBeSpent 0 = .ok (.iconst 0, 1) := by decide +kernel
theorem dX2_canBeSpent_1 : decode cX2_canBeSpent 1 = .ok (.istore_n 1, 1) := by decide +kernel
theorem dX2_canBeSpent_2 : decode cX2_canBeSpent 2 = .ok (.iload_n 1, 1) := by decide +kernel
theorem dX2_canBeSpent_3 : decode cX2_canBeSpent 3 = .ok (.bipush 64, 2) := by decide +kernel
theorem dX2_canBeSpent_5 : decode cX2_canBeSpent 5 = .ok (.if_icmp .ge 22, 3) := by decide +kernel
theorem dX2_canBeSpent_8 : decode cX2_canBeSpent 8 = .ok (.aload_n 0, 1) := by decide +kernel
theorem dX2_canBeSpent_9 : decode cX2_canBeSpent 9 = .ok (.getfield 15, 3) := by decide +kernel
theorem dX2_canBeSpent_12 : decode cX2_canBeSpent 12 = .ok (.iload_n 1, 1) := by decide +kernel
theorem dX2_canBeSpent_13 : decode cX2_canBeSpent 13 = .ok (.iaload, 1) := by decide +kernel
theorem dX2_canBeSpent_14 : decode cX2_canBeSpent 14 = .ok (.iconst 1, 1) := by decide +kernel
theorem dX2_canBeSpent_15 : decode cX2_canBeSpent 15 = .ok (.iand, 1) := by decide +kernel
theorem dX2_canBeSpent_16 : decode cX2_canBeSpent 16 = .ok (.ifCond .eq 5, 3) := by decide +kernel
theorem dX2_canBeSpent_19 : decode cX2_canBeSpent 19 = .ok (.iconst 1, 1) := by decide +kernel
theorem dX2_canBeSpent_20 : decode cX2_canBeSpent 20 = .ok (.ireturn, 1) := by decide +kernel
theorem dX2_canBeSpent_21 : decode cX2_canBeSpent 21 = .ok (.iinc 1 1, 3) := by decide +kernel
theorem dX2_canBeSpent_24 : decode cX2_canBeSpent 24 = .ok (.goto (-22), 3) := by decide +kernel
theorem dX2_canBeSpent_27 : decode cX2_canBeSpent 27 = .ok (.iconst 0, 1) := by decide +kernel
theorem dX2_canBeSpent_28 : decode cX2_canBeSpent 28 = .ok (.ireturn, 1) := by decide +kernel
theorem dX2_mostKnowing_0 : decode cX2_mostKnowing 0 = .ok (.iconst 0, 1) := by decide +kernel
theorem dX2_mostKnowing_1 : decode cX2_mostKnowing 1 = .ok (.istore_n 1, 1) := by decide +kernel
theorem dX2_mostKnowing_2 : decode cX2_mostKnowing 2 = .ok (.iconst 0, 1) := by decide +kernel
theorem dX2_mostKnowing_3 : decode cX2_mostKnowing 3 = .ok (.istore_n 2, 1) := by decide +kernel
theorem dX2_mostKnowing_4 : decode cX2_mostKnowing 4 = .ok (.iload_n 2, 1) := by decide +kernel
theorem dX2_mostKnowing_5 : decode cX2_mostKnowing 5 = .ok (.bipush 64, 2) := by decide +kernel
theorem dX2_mostKnowing_7 : decode cX2_mostKnowing 7 = .ok (.if_icmp .ge 27, 3) := by decide +kernel
theorem dX2_mostKnowing_10 : decode cX2_mostKnowing 10 = .ok (.aload_n 0, 1) := by decide +kernel
theorem dX2_mostKnowing_11 : decode cX2_mostKnowing 11 = .ok (.getfield 15, 3) := by decide +kernel
theorem dX2_mostKnowing_14 : decode cX2_mostKnowing 14 = .ok (.iload_n 2, 1) := by decide +kernel
theorem dX2_mostKnowing_15 : decode cX2_mostKnowing 15 = .ok (.iaload, 1) := by decide +kernel
theorem dX2_mostKnowing_16 : decode cX2_mostKnowing 16 = .ok (.ifCond .eq 12, 3) := by decide +kernel
theorem dX2_mostKnowing_19 : decode cX2_mostKnowing 19 = .ok (.iload_n 1, 1) := by decide +kernel
theorem dX2_mostKnowing_20 : decode cX2_mostKnowing 20 = .ok (.iload_n 2, 1) := by decide +kernel
theorem dX2_mostKnowing_21 : decode cX2_mostKnowing 21 = .ok (.invokestatic 60, 3) := by decide +kernel
theorem dX2_mostKnowing_24 : decode cX2_mostKnowing 24 = .ok (.invokestatic 81, 3) := by decide +kernel
theorem dX2_mostKnowing_27 : decode cX2_mostKnowing 27 = .ok (.istore_n 1, 1) := by decide +kernel
theorem dX2_mostKnowing_28 : decode cX2_mostKnowing 28 = .ok (.iinc 2 1, 3) := by decide +kernel
theorem dX2_mostKnowing_31 : decode cX2_mostKnowing 31 = .ok (.goto (-27), 3) := by decide +kernel
theorem dX2_mostKnowing_34 : decode cX2_mostKnowing 34 = .ok (.iload_n 1, 1) := by decide +kernel
theorem dX2_mostKnowing_35 : decode cX2_mostKnowing 35 = .ok (.ireturn, 1) := by decide +kernel
theorem dX2_countFrom_0 : decode cX2_countFrom 0 = .ok (.aload_n 0, 1) := by decide +kernel
theorem dX2_countFrom_1 : decode cX2_countFrom 1 = .ok (.aload_n 1, 1) := by decide +kernel
theorem dX2_countFrom_2 : decode cX2_countFrom 2 = .ok (.putfield 24, 3) := by decide +kernel
theorem dX2_countFrom_5 : decode cX2_countFrom 5 = .ok (.aload_n 0, 1) := by decide +kernel
theorem dX2_countFrom_6 : decode cX2_countFrom 6 = .ok (.iload_n 3, 1) := by decide +kernel
theorem dX2_countFrom_7 : decode cX2_countFrom 7 = .ok (.putfield 84, 3) := by decide +kernel
theorem dX2_countFrom_10 : decode cX2_countFrom 10 = .ok (.aload_n 0, 1) := by decide +kernel
theorem dX2_countFrom_11 : decode cX2_countFrom 11 = .ok (.getfield 18, 3) := by decide +kernel
theorem dX2_countFrom_14 : decode cX2_countFrom 14 = .ok (.iconst 0, 1) := by decide +kernel
theorem dX2_countFrom_15 : decode cX2_countFrom 15 = .ok (.invokestatic 46, 3) := by decide +kernel
theorem dX2_countFrom_18 : decode cX2_countFrom 18 = .ok (.aload_n 0, 1) := by decide +kernel
theorem dX2_countFrom_19 : decode cX2_countFrom 19 = .ok (.getfield 18, 3) := by decide +kernel
theorem dX2_countFrom_22 : decode cX2_countFrom 22 = .ok (.iload_n 2, 1) := by decide +kernel
theorem dX2_countFrom_23 : decode cX2_countFrom 23 = .ok (.bipush 10, 2) := by decide +kernel
theorem dX2_countFrom_25 : decode cX2_countFrom 25 = .ok (.imul, 1) := by decide +kernel
theorem dX2_countFrom_26 : decode cX2_countFrom 26 = .ok (.iconst 1, 1) := by decide +kernel
theorem dX2_countFrom_27 : decode cX2_countFrom 27 = .ok (.iastore, 1) := by decide +kernel
theorem dX2_countFrom_28 : decode cX2_countFrom 28 = .ok (.return_, 1) := by decide +kernel
theorem dX2_countThrough_0 : decode cX2_countThrough 0 = .ok (.bipush 63, 2) := by decide +kernel
theorem dX2_countThrough_2 : decode cX2_countThrough 2 = .ok (.istore_n 2, 1) := by decide +kernel
theorem dX2_countThrough_3 : decode cX2_countThrough 3 = .ok (.iload_n 2, 1) := by decide +kernel
theorem dX2_countThrough_4 : decode cX2_countThrough 4 = .ok (.ifCond .lt 54, 3) := by decide +kernel
theorem dX2_countThrough_7 : decode cX2_countThrough 7 = .ok (.aload_n 0, 1) := by decide +kernel
theorem dX2_countThrough_8 : decode cX2_countThrough 8 = .ok (.iload_n 2, 1) := by decide +kernel
theorem dX2_countThrough_9 : decode cX2_countThrough 9 = .ok (.invokevirtual 87, 3) := by decide +kernel
theorem dX2_countThrough_12 : decode cX2_countThrough 12 = .ok (.ifCond .eq 40, 3) := by decide +kernel
theorem dX2_countThrough_15 : decode cX2_countThrough 15 = .ok (.aload_n 0, 1) := by decide +kernel
theorem dX2_countThrough_16 : decode cX2_countThrough 16 = .ok (.iload_n 1, 1) := by decide +kernel
theorem dX2_countThrough_17 : decode cX2_countThrough 17 = .ok (.iload_n 2, 1) := by decide +kernel
theorem dX2_countThrough_18 : decode cX2_countThrough 18 = .ok (.invokevirtual 90, 3) := by decide +kernel
theorem dX2_countThrough_21 : decode cX2_countThrough 21 = .ok (.aload_n 0, 1) := by decide +kernel
theorem dX2_countThrough_22 : decode cX2_countThrough 22 = .ok (.getfield 84, 3) := by decide +kernel
theorem dX2_countThrough_25 : decode cX2_countThrough 25 = .ok (.istore_n 3, 1) := by decide +kernel
theorem dX2_countThrough_26 : decode cX2_countThrough 26 = .ok (.iload_n 3, 1) := by decide +kernel
theorem dX2_countThrough_27 : decode cX2_countThrough 27 = .ok (.ifCond .lt 25, 3) := by decide +kernel
theorem dX2_countThrough_30 : decode cX2_countThrough 30 = .ok (.aload_n 0, 1) := by decide +kernel
theorem dX2_countThrough_31 : decode cX2_countThrough 31 = .ok (.aload_n 0, 1) := by decide +kernel
theorem dX2_countThrough_32 : decode cX2_countThrough 32 = .ok (.getfield 18, 3) := by decide +kernel
theorem dX2_countThrough_35 : decode cX2_countThrough 35 = .ok (.iload_n 2, 1) := by decide +kernel
theorem dX2_countThrough_36 : decode cX2_countThrough 36 = .ok (.bipush 10, 2) := by decide +kernel
theorem dX2_countThrough_38 : decode cX2_countThrough 38 = .ok (.imul, 1) := by decide +kernel
theorem dX2_countThrough_39 : decode cX2_countThrough 39 = .ok (.iload_n 3, 1) := by decide +kernel
theorem dX2_countThrough_40 : decode cX2_countThrough 40 = .ok (.iadd, 1) := by decide +kernel
theorem dX2_countThrough_41 : decode cX2_countThrough 41 = .ok (.iaload, 1) := by decide +kernel
theorem dX2_countThrough_42 : decode cX2_countThrough 42 = .ok (.iload_n 3, 1) := by decide +kernel
theorem dX2_countThrough_43 : decode cX2_countThrough 43 = .ok (.invokevirtual 94, 3) := by decide +kernel
theorem dX2_countThrough_46 : decode cX2_countThrough 46 = .ok (.iinc 3 (-1), 3) := by decide +kernel
theorem dX2_countThrough_49 : decode cX2_countThrough 49 = .ok (.goto (-23), 3) := by decide +kernel
theorem dX2_countThrough_52 : decode cX2_countThrough 52 = .ok (.iinc 2 (-1), 3) := by decide +kernel
theorem dX2_countThrough_55 : decode cX2_countThrough 55 = .ok (.goto (-52), 3) := by decide +kernel
theorem dX2_countThrough_58 : decode cX2_countThrough 58 = .ok (.return_, 1) := by decide +kernel
theorem dX2_countOn_0 : decode cX2_countOn 0 = .ok (.iconst 1, 1) := by decide +kernel
theorem dX2_countOn_1 : decode cX2_countOn 1 = .ok (.istore_n 3, 1) := by decide +kernel
theorem dX2_countOn_2 : decode cX2_countOn 2 = .ok (.iload_n 1, 1) := by decide +kernel
theorem dX2_countOn_3 : decode cX2_countOn 3 = .ok (.ifCond .eq 62, 3) := by decide +kernel
theorem dX2_countOn_6 : decode cX2_countOn 6 = .ok (.iload_n 3, 1) := by decide +kernel
theorem dX2_countOn_7 : decode cX2_countOn 7 = .ok (.bipush 8, 2) := by decide +kernel
theorem dX2_countOn_9 : decode cX2_countOn 9 = .ok (.if_icmp .ge 56, 3) := by decide +kernel
theorem dX2_countOn_12 : decode cX2_countOn 12 = .ok (.iload_n 2, 1) := by decide +kernel
theorem dX2_countOn_13 : decode cX2_countOn 13 = .ok (.iload_n 3, 1) := by decide +kernel
theorem dX2_countOn_14 : decode cX2_countOn 14 = .ok (.invokestatic 60, 3) := by decide +kernel
theorem dX2_countOn_17 : decode cX2_countOn 17 = .ok (.iadd, 1) := by decide +kernel
theorem dX2_countOn_18 : decode cX2_countOn 18 = .ok (.istore 4, 2) := by decide +kernel
theorem dX2_countOn_20 : decode cX2_countOn 20 = .ok (.aload_n 0, 1) := by decide +kernel
theorem dX2_countOn_21 : decode cX2_countOn 21 = .ok (.getfield 21, 3) := by decide +kernel
theorem dX2_countOn_24 : decode cX2_countOn 24 = .ok (.iload_n 3, 1) := by decide +kernel
theorem dX2_countOn_25 : decode cX2_countOn 25 = .ok (.iaload, 1) := by decide +kernel
theorem dX2_countOn_26 : decode cX2_countOn 26 = .ok (.ifCond .lt 33, 3) := by decide +kernel
theorem dX2_countOn_29 : decode cX2_countOn 29 = .ok (.iload 4, 2) := by decide +kernel
theorem dX2_countOn_31 : decode cX2_countOn 31 = .ok (.aload_n 0, 1) := by decide +kernel
theorem dX2_countOn_32 : decode cX2_countOn 32 = .ok (.getfield 84, 3) := by decide +kernel
theorem dX2_countOn_35 : decode cX2_countOn 35 = .ok (.if_icmp .gt 24, 3) := by decide +kernel
theorem dX2_countOn_38 : decode cX2_countOn 38 = .ok (.aload_n 0, 1) := by decide +kernel
theorem dX2_countOn_39 : decode cX2_countOn 39 = .ok (.getfield 18, 3) := by decide +kernel
theorem dX2_countOn_42 : decode cX2_countOn 42 = .ok (.aload_n 0, 1) := by decide +kernel
theorem dX2_countOn_43 : decode cX2_countOn 43 = .ok (.getfield 21, 3) := by decide +kernel
theorem dX2_countOn_46 : decode cX2_countOn 46 = .ok (.iload_n 3, 1) := by decide +kernel
theorem dX2_countOn_47 : decode cX2_countOn 47 = .ok (.iaload, 1) := by decide +kernel
theorem dX2_countOn_48 : decode cX2_countOn 48 = .ok (.bipush 10, 2) := by decide +kernel
theorem dX2_countOn_50 : decode cX2_countOn 50 = .ok (.imul, 1) := by decide +kernel
theorem dX2_countOn_51 : decode cX2_countOn 51 = .ok (.iload 4, 2) := by decide +kernel
theorem dX2_countOn_53 : decode cX2_countOn 53 = .ok (.iadd, 1) := by decide +kernel
theorem dX2_countOn_54 : decode cX2_countOn 54 = .ok (.dup2, 1) := by decide +kernel
theorem dX2_countOn_55 : decode cX2_countOn 55 = .ok (.iaload, 1) := by decide +kernel
theorem dX2_countOn_56 : decode cX2_countOn 56 = .ok (.iload_n 1, 1) := by decide +kernel
theorem dX2_countOn_57 : decode cX2_countOn 57 = .ok (.iadd, 1) := by decide +kernel
theorem dX2_countOn_58 : decode cX2_countOn 58 = .ok (.iastore, 1) := by decide +kernel
theorem dX2_countOn_59 : decode cX2_countOn 59 = .ok (.iinc 3 1, 3) := by decide +kernel
theorem dX2_countOn_62 : decode cX2_countOn 62 = .ok (.goto (-60), 3) := by decide +kernel
theorem dX2_countOn_65 : decode cX2_countOn 65 = .ok (.return_, 1) := by decide +kernel
theorem dX2_isReached_0 : decode cX2_isReached 0 = .ok (.iconst 0, 1) := by decide +kernel
theorem dX2_isReached_1 : decode cX2_isReached 1 = .ok (.istore_n 2, 1) := by decide +kernel
theorem dX2_isReached_2 : decode cX2_isReached 2 = .ok (.iload_n 2, 1) := by decide +kernel
theorem dX2_isReached_3 : decode cX2_isReached 3 = .ok (.aload_n 0, 1) := by decide +kernel
theorem dX2_isReached_4 : decode cX2_isReached 4 = .ok (.getfield 84, 3) := by decide +kernel
theorem dX2_isReached_7 : decode cX2_isReached 7 = .ok (.if_icmp .gt 25, 3) := by decide +kernel
theorem dX2_isReached_10 : decode cX2_isReached 10 = .ok (.aload_n 0, 1) := by decide +kernel
theorem dX2_isReached_11 : decode cX2_isReached 11 = .ok (.getfield 18, 3) := by decide +kernel
theorem dX2_isReached_14 : decode cX2_isReached 14 = .ok (.iload_n 1, 1) := by decide +kernel
theorem dX2_isReached_15 : decode cX2_isReached 15 = .ok (.bipush 10, 2) := by decide +kernel
theorem dX2_isReached_17 : decode cX2_isReached 17 = .ok (.imul, 1) := by decide +kernel
theorem dX2_isReached_18 : decode cX2_isReached 18 = .ok (.iload_n 2, 1) := by decide +kernel
theorem dX2_isReached_19 : decode cX2_isReached 19 = .ok (.iadd, 1) := by decide +kernel
theorem dX2_isReached_20 : decode cX2_isReached 20 = .ok (.iaload, 1) := by decide +kernel
theorem dX2_isReached_21 : decode cX2_isReached 21 = .ok (.ifCond .eq 5, 3) := by decide +kernel
theorem dX2_isReached_24 : decode cX2_isReached 24 = .ok (.iconst 1, 1) := by decide +kernel
theorem dX2_isReached_25 : decode cX2_isReached 25 = .ok (.ireturn, 1) := by decide +kernel
theorem dX2_isReached_26 : decode cX2_isReached 26 = .ok (.iinc 2 1, 3) := by decide +kernel
theorem dX2_isReached_29 : decode cX2_isReached 29 = .ok (.goto (-27), 3) := by decide +kernel
theorem dX2_isReached_32 : decode cX2_isReached 32 = .ok (.iconst 0, 1) := by decide +kernel
theorem dX2_isReached_33 : decode cX2_isReached 33 = .ok (.ireturn, 1) := by decide +kernel
theorem dX2_strikeUnseen_0 : decode cX2_strikeUnseen 0 = .ok (.iconst 0, 1) := by decide +kernel
theorem dX2_strikeUnseen_1 : decode cX2_strikeUnseen 1 = .ok (.istore_n 3, 1) := by decide +kernel
theorem dX2_strikeUnseen_2 : decode cX2_strikeUnseen 2 = .ok (.iload_n 3, 1) := by decide +kernel
theorem dX2_strikeUnseen_3 : decode cX2_strikeUnseen 3 = .ok (.bipush 64, 2) := by decide +kernel
theorem dX2_strikeUnseen_5 : decode cX2_strikeUnseen 5 = .ok (.if_icmp .ge 53, 3) := by decide +kernel
theorem dX2_strikeUnseen_8 : decode cX2_strikeUnseen 8 = .ok (.aload_n 2, 1) := by decide +kernel
theorem dX2_strikeUnseen_9 : decode cX2_strikeUnseen 9 = .ok (.iload_n 1, 1) := by decide +kernel
theorem dX2_strikeUnseen_10 : decode cX2_strikeUnseen 10 = .ok (.iload_n 3, 1) := by decide +kernel
theorem dX2_strikeUnseen_11 : decode cX2_strikeUnseen 11 = .ok (.invokevirtual 97, 3) := by decide +kernel
theorem dX2_strikeUnseen_14 : decode cX2_strikeUnseen 14 = .ok (.istore 4, 2) := by decide +kernel
theorem dX2_strikeUnseen_16 : decode cX2_strikeUnseen 16 = .ok (.iconst 0, 1) := by decide +kernel
theorem dX2_strikeUnseen_17 : decode cX2_strikeUnseen 17 = .ok (.istore 5, 2) := by decide +kernel
theorem dX2_strikeUnseen_19 : decode cX2_strikeUnseen 19 = .ok (.iload 4, 2) := by decide +kernel
theorem dX2_strikeUnseen_21 : decode cX2_strikeUnseen 21 = .ok (.ifCond .ne 31, 3) := by decide +kernel
theorem dX2_strikeUnseen_24 : decode cX2_strikeUnseen 24 = .ok (.iload 5, 2) := by decide +kernel
theorem dX2_strikeUnseen_26 : decode cX2_strikeUnseen 26 = .ok (.aload_n 0, 1) := by decide +kernel
theorem dX2_strikeUnseen_27 : decode cX2_strikeUnseen 27 = .ok (.getfield 84, 3) := by decide +kernel
theorem dX2_strikeUnseen_30 : decode cX2_strikeUnseen 30 = .ok (.if_icmp .gt 22, 3) := by decide +kernel
theorem dX2_strikeUnseen_33 : decode cX2_strikeUnseen 33 = .ok (.aload_n 0, 1) := by decide +kernel
theorem dX2_strikeUnseen_34 : decode cX2_strikeUnseen 34 = .ok (.getfield 18, 3) := by decide +kernel
theorem dX2_strikeUnseen_37 : decode cX2_strikeUnseen 37 = .ok (.iload_n 3, 1) := by decide +kernel
theorem dX2_strikeUnseen_38 : decode cX2_strikeUnseen 38 = .ok (.bipush 10, 2) := by decide +kernel
theorem dX2_strikeUnseen_40 : decode cX2_strikeUnseen 40 = .ok (.imul, 1) := by decide +kernel
theorem dX2_strikeUnseen_41 : decode cX2_strikeUnseen 41 = .ok (.iload 5, 2) := by decide +kernel
theorem dX2_strikeUnseen_43 : decode cX2_strikeUnseen 43 = .ok (.iadd, 1) := by decide +kernel
theorem dX2_strikeUnseen_44 : decode cX2_strikeUnseen 44 = .ok (.iconst 0, 1) := by decide +kernel
theorem dX2_strikeUnseen_45 : decode cX2_strikeUnseen 45 = .ok (.iastore, 1) := by decide +kernel
theorem dX2_strikeUnseen_46 : decode cX2_strikeUnseen 46 = .ok (.iinc 5 1, 3) := by decide +kernel
theorem dX2_strikeUnseen_49 : decode cX2_strikeUnseen 49 = .ok (.goto (-30), 3) := by decide +kernel
theorem dX2_strikeUnseen_52 : decode cX2_strikeUnseen 52 = .ok (.iinc 3 1, 3) := by decide +kernel
theorem dX2_strikeUnseen_55 : decode cX2_strikeUnseen 55 = .ok (.goto (-53), 3) := by decide +kernel
theorem dX2_strikeUnseen_58 : decode cX2_strikeUnseen 58 = .ok (.return_, 1) := by decide +kernel
theorem dX2_counted_0 : decode cX2_counted 0 = .ok (.iconst 0, 1) := by decide +kernel
theorem dX2_counted_1 : decode cX2_counted 1 = .ok (.istore_n 1, 1) := by decide +kernel
theorem dX2_counted_2 : decode cX2_counted 2 = .ok (.iconst 0, 1) := by decide +kernel
theorem dX2_counted_3 : decode cX2_counted 3 = .ok (.istore_n 2, 1) := by decide +kernel
theorem dX2_counted_4 : decode cX2_counted 4 = .ok (.iload_n 2, 1) := by decide +kernel
theorem dX2_counted_5 : decode cX2_counted 5 = .ok (.aload_n 0, 1) := by decide +kernel
theorem dX2_counted_6 : decode cX2_counted 6 = .ok (.getfield 18, 3) := by decide +kernel
theorem dX2_counted_9 : decode cX2_counted 9 = .ok (.arraylength, 1) := by decide +kernel
theorem dX2_counted_10 : decode cX2_counted 10 = .ok (.if_icmp .ge 18, 3) := by decide +kernel
theorem dX2_counted_13 : decode cX2_counted 13 = .ok (.iload_n 1, 1) := by decide +kernel
theorem dX2_counted_14 : decode cX2_counted 14 = .ok (.aload_n 0, 1) := by decide +kernel
theorem dX2_counted_15 : decode cX2_counted 15 = .ok (.getfield 18, 3) := by decide +kernel
theorem dX2_counted_18 : decode cX2_counted 18 = .ok (.iload_n 2, 1) := by decide +kernel
theorem dX2_counted_19 : decode cX2_counted 19 = .ok (.iaload, 1) := by decide +kernel
theorem dX2_counted_20 : decode cX2_counted 20 = .ok (.iadd, 1) := by decide +kernel
theorem dX2_counted_21 : decode cX2_counted 21 = .ok (.istore_n 1, 1) := by decide +kernel
theorem dX2_counted_22 : decode cX2_counted 22 = .ok (.iinc 2 1, 3) := by decide +kernel
theorem dX2_counted_25 : decode cX2_counted 25 = .ok (.goto (-21), 3) := by decide +kernel
theorem dX2_counted_28 : decode cX2_counted 28 = .ok (.iload_n 1, 1) := by decide +kernel
theorem dX2_counted_29 : decode cX2_counted 29 = .ok (.ireturn, 1) := by decide +kernel
theorem dX3_init_0 : decode cX3_init 0 = .ok (.aload_n 0, 1) := by decide +kernel
theorem dX3_init_1 : decode cX3_init 1 = .ok (.invokespecial 3, 3) := by decide +kernel
theorem dX3_init_4 : decode cX3_init 4 = .ok (.aload_n 0, 1) := by decide +kernel
theorem dX3_init_5 : decode cX3_init 5 = .ok (.bipush 72, 2) := by decide +kernel
theorem dX3_init_7 : decode cX3_init 7 = .ok (.newarray .int, 2) := by decide +kernel
theorem dX3_init_9 : decode cX3_init 9 = .ok (.putfield 9, 3) := by decide +kernel
theorem dX3_init_12 : decode cX3_init 12 = .ok (.return_, 1) := by decide +kernel
theorem dX3_append_0 : decode cX3_append 0 = .ok (.aload_n 0, 1) := by decide +kernel
theorem dX3_append_1 : decode cX3_append 1 = .ok (.getfield 15, 3) := by decide +kernel
theorem dX3_append_4 : decode cX3_append 4 = .ok (.bipush 72, 2) := by decide +kernel
theorem dX3_append_6 : decode cX3_append 6 = .ok (.if_icmp .ge 23, 3) := by decide +kernel
theorem dX3_append_9 : decode cX3_append 9 = .ok (.aload_n 0, 1) := by decide +kernel
theorem dX3_append_10 : decode cX3_append 10 = .ok (.getfield 9, 3) := by decide +kernel
theorem dX3_append_13 : decode cX3_append 13 = .ok (.aload_n 0, 1) := by decide +kernel
theorem dX3_append_14 : decode cX3_append 14 = .ok (.getfield 15, 3) := by decide +kernel
theorem dX3_append_17 : decode cX3_append 17 = .ok (.iload_n 1, 1) := by decide +kernel
theorem dX3_append_18 : decode cX3_append 18 = .ok (.iastore, 1) := by decide +kernel
theorem dX3_append_19 : decode cX3_append 19 = .ok (.aload_n 0, 1) := by decide +kernel
theorem dX3_append_20 : decode cX3_append 20 = .ok (.dup, 1) := by decide +kernel
theorem dX3_append_21 : decode cX3_append 21 = .ok (.getfield 15, 3) := by decide +kernel
theorem dX3_append_24 : decode cX3_append 24 = .ok (.iconst 1, 1) := by decide +kernel
theorem dX3_append_25 : decode cX3_append 25 = .ok (.iadd, 1) := by decide +kernel
theorem dX3_append_26 : decode cX3_append 26 = .ok (.putfield 15, 3) := by decide +kernel
theorem dX3_append_29 : decode cX3_append 29 = .ok (.return_, 1) := by decide +kernel
theorem dX3_signAt_0 : decode cX3_signAt 0 = .ok (.iload_n 1, 1) := by decide +kernel
theorem dX3_signAt_1 : decode cX3_signAt 1 = .ok (.ifCond .lt 26, 3) := by decide +kernel
theorem dX3_signAt_4 : decode cX3_signAt 4 = .ok (.iload_n 1, 1) := by decide +kernel
theorem dX3_signAt_5 : decode cX3_signAt 5 = .ok (.aload_n 0, 1) := by decide +kernel
theorem dX3_signAt_6 : decode cX3_signAt 6 = .ok (.getfield 15, 3) := by decide +kernel
theorem dX3_signAt_9 : decode cX3_signAt 9 = .ok (.if_icmp .ge 18, 3) := by decide +kernel
theorem dX3_signAt_12 : decode cX3_signAt 12 = .ok (.iload_n 1, 1) := by decide +kernel
theorem dX3_signAt_13 : decode cX3_signAt 13 = .ok (.bipush 72, 2) := by decide +kernel
theorem dX3_signAt_15 : decode cX3_signAt 15 = .ok (.if_icmp .ge 12, 3) := by decide +kernel
theorem dX3_signAt_18 : decode cX3_signAt 18 = .ok (.aload_n 0, 1) := by decide +kernel
theorem dX3_signAt_19 : decode cX3_signAt 19 = .ok (.getfield 9, 3) := by decide +kernel
theorem dX3_signAt_22 : decode cX3_signAt 22 = .ok (.iload_n 1, 1) := by decide +kernel
theorem dX3_signAt_23 : decode cX3_signAt 23 = .ok (.iaload, 1) := by decide +kernel
theorem dX3_signAt_24 : decode cX3_signAt 24 = .ok (.goto 4, 3) := by decide +kernel
theorem dX3_signAt_27 : decode cX3_signAt 27 = .ok (.iconst (-1), 1) := by decide +kernel
theorem dX3_signAt_28 : decode cX3_signAt 28 = .ok (.ireturn, 1) := by decide +kernel
theorem dX3_figureAt_0 : decode cX3_figureAt 0 = .ok (.aload_n 0, 1) := by decide +kernel
theorem dX3_figureAt_1 : decode cX3_figureAt 1 = .ok (.iload_n 1, 1) := by decide +kernel
theorem dX3_figureAt_2 : decode cX3_figureAt 2 = .ok (.invokevirtual 19, 3) := by decide +kernel
theorem dX3_figureAt_5 : decode cX3_figureAt 5 = .ok (.bipush 48, 2) := by decide +kernel
theorem dX3_figureAt_7 : decode cX3_figureAt 7 = .ok (.isub, 1) := by decide +kernel
theorem dX3_figureAt_8 : decode cX3_figureAt 8 = .ok (.istore_n 3, 1) := by decide +kernel
theorem dX3_figureAt_9 : decode cX3_figureAt 9 = .ok (.iload_n 3, 1) := by decide +kernel
theorem dX3_figureAt_10 : decode cX3_figureAt 10 = .ok (.ifCond .lt 12, 3) := by decide +kernel
theorem dX3_figureAt_13 : decode cX3_figureAt 13 = .ok (.iload_n 3, 1) := by decide +kernel
theorem dX3_figureAt_14 : decode cX3_figureAt 14 = .ok (.iload_n 2, 1) := by decide +kernel
theorem dX3_figureAt_15 : decode cX3_figureAt 15 = .ok (.if_icmp .ge 7, 3) := by decide +kernel
theorem dX3_figureAt_18 : decode cX3_figureAt 18 = .ok (.iload_n 3, 1) := by decide +kernel
theorem dX3_figureAt_19 : decode cX3_figureAt 19 = .ok (.goto 4, 3) := by decide +kernel
theorem dX3_figureAt_22 : decode cX3_figureAt 22 = .ok (.iconst (-1), 1) := by decide +kernel
theorem dX3_figureAt_23 : decode cX3_figureAt 23 = .ok (.ireturn, 1) := by decide +kernel
theorem dX3_readInto_0 : decode cX3_readInto 0 = .ok (.aload_n 1, 1) := by decide +kernel
theorem dX3_readInto_1 : decode cX3_readInto 1 = .ok (.invokevirtual 23, 3) := by decide +kernel
theorem dX3_readInto_4 : decode cX3_readInto 4 = .ok (.aload_n 0, 1) := by decide +kernel
theorem dX3_readInto_5 : decode cX3_readInto 5 = .ok (.iconst 0, 1) := by decide +kernel
theorem dX3_readInto_6 : decode cX3_readInto 6 = .ok (.invokevirtual 19, 3) := by decide +kernel
theorem dX3_readInto_9 : decode cX3_readInto 9 = .ok (.bipush 68, 2) := by decide +kernel
theorem dX3_readInto_11 : decode cX3_readInto 11 = .ok (.if_icmp .eq 5, 3) := by decide +kernel
theorem dX3_readInto_14 : decode cX3_readInto 14 = .ok (.iconst 0, 1) := by decide +kernel
theorem dX3_readInto_15 : decode cX3_readInto 15 = .ok (.ireturn, 1) := by decide +kernel
theorem dX3_readInto_16 : decode cX3_readInto 16 = .ok (.aload_n 1, 1) := by decide +kernel
theorem dX3_readInto_17 : decode cX3_readInto 17 = .ok (.aload_n 0, 1) := by decide +kernel
theorem dX3_readInto_18 : decode cX3_readInto 18 = .ok (.iconst 1, 1) := by decide +kernel
theorem dX3_readInto_19 : decode cX3_readInto 19 = .ok (.iconst 3, 1) := by decide +kernel
theorem dX3_readInto_20 : decode cX3_readInto 20 = .ok (.invokevirtual 28, 3) := by decide +kernel
theorem dX3_readInto_23 : decode cX3_readInto 23 = .ok (.putfield 32, 3) := by decide +kernel
theorem dX3_readInto_26 : decode cX3_readInto 26 = .ok (.aload_n 1, 1) := by decide +kernel
theorem dX3_readInto_27 : decode cX3_readInto 27 = .ok (.getfield 32, 3) := by decide +kernel
theorem dX3_readInto_30 : decode cX3_readInto 30 = .ok (.ifCond .ge 5, 3) := by decide +kernel
theorem dX3_readInto_33 : decode cX3_readInto 33 = .ok (.iconst 1, 1) := by decide +kernel
theorem dX3_readInto_34 : decode cX3_readInto 34 = .ok (.ireturn, 1) := by decide +kernel
theorem dX3_readInto_35 : decode cX3_readInto 35 = .ok (.iconst 2, 1) := by decide +kernel
theorem dX3_readInto_36 : decode cX3_readInto 36 = .ok (.istore_n 2, 1) := by decide +kernel
theorem dX3_readInto_37 : decode cX3_readInto 37 = .ok (.iconst 0, 1) := by decide +kernel
theorem dX3_readInto_38 : decode cX3_readInto 38 = .ok (.istore_n 3, 1) := by decide +kernel
theorem dX3_readInto_39 : decode cX3_readInto 39 = .ok (.iload_n 3, 1) := by decide +kernel
theorem dX3_readInto_40 : decode cX3_readInto 40 = .ok (.bipush 72, 2) := by decide +kernel
theorem dX3_readInto_42 : decode cX3_readInto 42 = .ok (.if_icmp .ge 39, 3) := by decide +kernel
theorem dX3_readInto_45 : decode cX3_readInto 45 = .ok (.iload_n 2, 1) := by decide +kernel
theorem dX3_readInto_46 : decode cX3_readInto 46 = .ok (.aload_n 0, 1) := by decide +kernel
theorem dX3_readInto_47 : decode cX3_readInto 47 = .ok (.getfield 15, 3) := by decide +kernel
theorem dX3_readInto_50 : decode cX3_readInto 50 = .ok (.if_icmp .ge 31, 3) := by decide +kernel
theorem dX3_readInto_53 : decode cX3_readInto 53 = .ok (.aload_n 0, 1) := by decide +kernel
theorem dX3_readInto_54 : decode cX3_readInto 54 = .ok (.aload_n 1, 1) := by decide +kernel
theorem dX3_readInto_55 : decode cX3_readInto 55 = .ok (.iload_n 2, 1) := by decide +kernel
theorem dX3_readInto_56 : decode cX3_readInto 56 = .ok (.invokevirtual 35, 3) := by decide +kernel
theorem dX3_readInto_59 : decode cX3_readInto 59 = .ok (.istore 4, 2) := by decide +kernel
theorem dX3_readInto_61 : decode cX3_readInto 61 = .ok (.iload 4, 2) := by decide +kernel
theorem dX3_readInto_63 : decode cX3_readInto 63 = .ok (.ifCond .ge 9, 3) := by decide +kernel
theorem dX3_readInto_66 : decode cX3_readInto 66 = .ok (.iload 4, 2) := by decide +kernel
theorem dX3_readInto_68 : decode cX3_readInto 68 = .ok (.invokestatic 39, 3) := by decide +kernel
theorem dX3_readInto_71 : decode cX3_readInto 71 = .ok (.ireturn, 1) := by decide +kernel
theorem dX3_readInto_72 : decode cX3_readInto 72 = .ok (.iload 4, 2) := by decide +kernel
theorem dX3_readInto_74 : decode cX3_readInto 74 = .ok (.istore_n 2, 1) := by decide +kernel
theorem dX3_readInto_75 : decode cX3_readInto 75 = .ok (.iinc 3 1, 3) := by decide +kernel
theorem dX3_readInto_78 : decode cX3_readInto 78 = .ok (.goto (-39), 3) := by decide +kernel
theorem dX3_readInto_81 : decode cX3_readInto 81 = .ok (.aload_n 1, 1) := by decide +kernel
theorem dX3_readInto_82 : decode cX3_readInto 82 = .ok (.getfield 42, 3) := by decide +kernel
theorem dX3_readInto_85 : decode cX3_readInto 85 = .ok (.aload_n 1, 1) := by decide +kernel
theorem dX3_readInto_86 : decode cX3_readInto 86 = .ok (.getfield 45, 3) := by decide +kernel
theorem dX3_readInto_89 : decode cX3_readInto 89 = .ok (.invokestatic 48, 3) := by decide +kernel
theorem dX3_readInto_92 : decode cX3_readInto 92 = .ok (.bipush (-9), 2) := by decide +kernel
theorem dX3_readInto_94 : decode cX3_readInto 94 = .ok (.ireturn, 1) := by decide +kernel
theorem dX3_faultAt_0 : decode cX3_faultAt 0 = .ok (.iconst (-1), 1) := by decide +kernel
theorem dX3_faultAt_1 : decode cX3_faultAt 1 = .ok (.iload_n 0, 1) := by decide +kernel
theorem dX3_faultAt_2 : decode cX3_faultAt 2 = .ok (.isub, 1) := by decide +kernel
theorem dX3_faultAt_3 : decode cX3_faultAt 3 = .ok (.ireturn, 1) := by decide +kernel
theorem dX3_faultOf_0 : decode cX3_faultOf 0 = .ok (.iconst (-1), 1) := by decide +kernel
theorem dX3_faultOf_1 : decode cX3_faultOf 1 = .ok (.iload_n 0, 1) := by decide +kernel
theorem dX3_faultOf_2 : decode cX3_faultOf 2 = .ok (.isub, 1) := by decide +kernel
theorem dX3_faultOf_3 : decode cX3_faultOf 3 = .ok (.ireturn, 1) := by decide +kernel
theorem dX3_readPart_0 : decode cX3_readPart 0 = .ok (.aload_n 0, 1) := by decide +kernel
theorem dX3_readPart_1 : decode cX3_readPart 1 = .ok (.iload_n 2, 1) := by decide +kernel
theorem dX3_readPart_2 : decode cX3_readPart 2 = .ok (.invokevirtual 19, 3) := by decide +kernel
theorem dX3_readPart_5 : decode cX3_readPart 5 = .ok (.istore_n 3, 1) := by decide +kernel
theorem dX3_readPart_6 : decode cX3_readPart 6 = .ok (.iload_n 3, 1) := by decide +kernel
theorem dX3_readPart_7 : decode cX3_readPart 7 = .ok (.bipush 80, 2) := by decide +kernel
theorem dX3_readPart_9 : decode cX3_readPart 9 = .ok (.if_icmp .ne 21, 3) := by decide +kernel
theorem dX3_readPart_12 : decode cX3_readPart 12 = .ok (.aload_n 1, 1) := by decide +kernel
theorem dX3_readPart_13 : decode cX3_readPart 13 = .ok (.getfield 52, 3) := by decide +kernel
theorem dX3_readPart_16 : decode cX3_readPart 16 = .ok (.bipush 6, 2) := by decide +kernel
theorem dX3_readPart_18 : decode cX3_readPart 18 = .ok (.if_icmp .ge 12, 3) := by decide +kernel
theorem dX3_readPart_21 : decode cX3_readPart 21 = .ok (.aload_n 0, 1) := by decide +kernel
theorem dX3_readPart_22 : decode cX3_readPart 22 = .ok (.aload_n 1, 1) := by decide +kernel
theorem dX3_readPart_23 : decode cX3_readPart 23 = .ok (.iload_n 2, 1) := by decide +kernel
theorem dX3_readPart_24 : decode cX3_readPart 24 = .ok (.iconst 1, 1) := by decide +kernel
theorem dX3_readPart_25 : decode cX3_readPart 25 = .ok (.iadd, 1) := by decide +kernel
theorem dX3_readPart_26 : decode cX3_readPart 26 = .ok (.invokevirtual 55, 3) := by decide +kernel
theorem dX3_readPart_29 : decode cX3_readPart 29 = .ok (.ireturn, 1) := by decide +kernel
theorem dX3_readPart_30 : decode cX3_readPart 30 = .ok (.iload_n 3, 1) := by decide +kernel
theorem dX3_readPart_31 : decode cX3_readPart 31 = .ok (.bipush 78, 2) := by decide +kernel
theorem dX3_readPart_33 : decode cX3_readPart 33 = .ok (.if_icmp .ne 20, 3) := by decide +kernel
theorem dX3_readPart_36 : decode cX3_readPart 36 = .ok (.aload_n 1, 1) := by decide +kernel
theorem dX3_readPart_37 : decode cX3_readPart 37 = .ok (.getfield 45, 3) := by decide +kernel
theorem dX3_readPart_40 : decode cX3_readPart 40 = .ok (.iconst 3, 1) := by decide +kernel
theorem dX3_readPart_41 : decode cX3_readPart 41 = .ok (.if_icmp .ge 12, 3) := by decide +kernel
theorem dX3_readPart_44 : decode cX3_readPart 44 = .ok (.aload_n 0, 1) := by decide +kernel
theorem dX3_readPart_45 : decode cX3_readPart 45 = .ok (.aload_n 1, 1) := by decide +kernel
theorem dX3_readPart_46 : decode cX3_readPart 46 = .ok (.iload_n 2, 1) := by decide +kernel
theorem dX3_readPart_47 : decode cX3_readPart 47 = .ok (.iconst 1, 1) := by decide +kernel
theorem dX3_readPart_48 : decode cX3_readPart 48 = .ok (.iadd, 1) := by decide +kernel
theorem dX3_readPart_49 : decode cX3_readPart 49 = .ok (.invokevirtual 58, 3) := by decide +kernel
theorem dX3_readPart_52 : decode cX3_readPart 52 = .ok (.ireturn, 1) := by decide +kernel
theorem dX3_readPart_53 : decode cX3_readPart 53 = .ok (.iload_n 2, 1) := by decide +kernel
theorem dX3_readPart_54 : decode cX3_readPart 54 = .ok (.invokestatic 61, 3) := by decide +kernel
theorem dX3_readPart_57 : decode cX3_readPart 57 = .ok (.ireturn, 1) := by decide +kernel
theorem dX3_readPerson_0 : decode cX3_readPerson 0 = .ok (.iconst 0, 1) := by decide +kernel
theorem dX3_readPerson_1 : decode cX3_readPerson 1 = .ok (.istore_n 3, 1) := by decide +kernel
theorem dX3_readPerson_2 : decode cX3_readPerson 2 = .ok (.iload_n 3, 1) := by decide +kernel
theorem dX3_readPerson_3 : decode cX3_readPerson 3 = .ok (.bipush 6, 2) := by decide +kernel
theorem dX3_readPerson_5 : decode cX3_readPerson 5 = .ok (.if_icmp .ge 59, 3) := by decide +kernel
theorem dX3_readPerson_8 : decode cX3_readPerson 8 = .ok (.iload_n 2, 1) := by decide +kernel
theorem dX3_readPerson_9 : decode cX3_readPerson 9 = .ok (.iload_n 3, 1) := by decide +kernel
theorem dX3_readPerson_10 : decode cX3_readPerson 10 = .ok (.iadd, 1) := by decide +kernel
theorem dX3_readPerson_11 : decode cX3_readPerson 11 = .ok (.istore 4, 2) := by decide +kernel
theorem dX3_readPerson_13 : decode cX3_readPerson 13 = .ok (.aload_n 0, 1) := by decide +kernel
theorem dX3_readPerson_14 : decode cX3_readPerson 14 = .ok (.iload 4, 2) := by decide +kernel
theorem dX3_readPerson_16 : decode cX3_readPerson 16 = .ok (.iconst 3, 1) := by decide +kernel
theorem dX3_readPerson_17 : decode cX3_readPerson 17 = .ok (.invokevirtual 28, 3) := by decide +kernel
theorem dX3_readPerson_20 : decode cX3_readPerson 20 = .ok (.istore 5, 2) := by decide +kernel
theorem dX3_readPerson_22 : decode cX3_readPerson 22 = .ok (.iload 5, 2) := by decide +kernel
theorem dX3_readPerson_24 : decode cX3_readPerson 24 = .ok (.ifCond .lt 17, 3) := by decide +kernel
theorem dX3_readPerson_27 : decode cX3_readPerson 27 = .ok (.aload_n 1, 1) := by decide +kernel
theorem dX3_readPerson_28 : decode cX3_readPerson 28 = .ok (.aload_n 1, 1) := by decide +kernel
theorem dX3_readPerson_29 : decode cX3_readPerson 29 = .ok (.getfield 52, 3) := by decide +kernel
theorem dX3_readPerson_32 : decode cX3_readPerson 32 = .ok (.iload_n 3, 1) := by decide +kernel
theorem dX3_readPerson_33 : decode cX3_readPerson 33 = .ok (.iload 5, 2) := by decide +kernel
theorem dX3_readPerson_35 : decode cX3_readPerson 35 = .ok (.invokevirtual 64, 3) := by decide +kernel
theorem dX3_readPerson_38 : decode cX3_readPerson 38 = .ok (.goto 20, 3) := by decide +kernel
theorem dX3_readPerson_41 : decode cX3_readPerson 41 = .ok (.aload_n 0, 1) := by decide +kernel
theorem dX3_readPerson_42 : decode cX3_readPerson 42 = .ok (.iload 4, 2) := by decide +kernel
theorem dX3_readPerson_44 : decode cX3_readPerson 44 = .ok (.invokevirtual 19, 3) := by decide +kernel
theorem dX3_readPerson_47 : decode cX3_readPerson 47 = .ok (.bipush 45, 2) := by decide +kernel
theorem dX3_readPerson_49 : decode cX3_readPerson 49 = .ok (.if_icmp .eq 9, 3) := by decide +kernel
theorem dX3_readPerson_52 : decode cX3_readPerson 52 = .ok (.iload 4, 2) := by decide +kernel
theorem dX3_readPerson_54 : decode cX3_readPerson 54 = .ok (.invokestatic 61, 3) := by decide +kernel
theorem dX3_readPerson_57 : decode cX3_readPerson 57 = .ok (.ireturn, 1) := by decide +kernel
theorem dX3_readPerson_58 : decode cX3_readPerson 58 = .ok (.iinc 3 1, 3) := by decide +kernel
theorem dX3_readPerson_61 : decode cX3_readPerson 61 = .ok (.goto (-59), 3) := by decide +kernel
theorem dX3_readPerson_64 : decode cX3_readPerson 64 = .ok (.aload_n 1, 1) := by decide +kernel
theorem dX3_readPerson_65 : decode cX3_readPerson 65 = .ok (.dup, 1) := by decide +kernel
theorem dX3_readPerson_66 : decode cX3_readPerson 66 = .ok (.getfield 52, 3) := by decide +kernel
theorem dX3_readPerson_69 : decode cX3_readPerson 69 = .ok (.iconst 1, 1) := by decide +kernel
theorem dX3_readPerson_70 : decode cX3_readPerson 70 = .ok (.iadd, 1) := by decide +kernel
theorem dX3_readPerson_71 : decode cX3_readPerson 71 = .ok (.putfield 52, 3) := by decide +kernel
theorem dX3_readPerson_74 : decode cX3_readPerson 74 = .ok (.iload_n 2, 1) := by decide +kernel
theorem dX3_readPerson_75 : decode cX3_readPerson 75 = .ok (.bipush 6, 2) := by decide +kernel
theorem dX3_readPerson_77 : decode cX3_readPerson 77 = .ok (.iadd, 1) := by decide +kernel
theorem dX3_readPerson_78 : decode cX3_readPerson 78 = .ok (.ireturn, 1) := by decide +kernel
theorem dX3_readNews_0 : decode cX3_readNews 0 = .ok (.aload_n 0, 1) := by decide +kernel
theorem dX3_readNews_1 : decode cX3_readNews 1 = .ok (.iload_n 2, 1) := by decide +kernel
theorem dX3_readNews_2 : decode cX3_readNews 2 = .ok (.bipush 10, 2) := by decide +kernel
theorem dX3_readNews_4 : decode cX3_readNews 4 = .ok (.invokevirtual 28, 3) := by decide +kernel
theorem dX3_readNews_7 : decode cX3_readNews 7 = .ok (.istore_n 3, 1) := by decide +kernel
theorem dX3_readNews_8 : decode cX3_readNews 8 = .ok (.iload_n 3, 1) := by decide +kernel
theorem dX3_readNews_9 : decode cX3_readNews 9 = .ok (.ifCond .ge 8, 3) := by decide +kernel
theorem dX3_readNews_12 : decode cX3_readNews 12 = .ok (.iload_n 2, 1) := by decide +kernel
theorem dX3_readNews_13 : decode cX3_readNews 13 = .ok (.invokestatic 61, 3) := by decide +kernel
theorem dX3_readNews_16 : decode cX3_readNews 16 = .ok (.ireturn, 1) := by decide +kernel
theorem dX3_readNews_17 : decode cX3_readNews 17 = .ok (.aload_n 0, 1) := by decide +kernel
theorem dX3_readNews_18 : decode cX3_readNews 18 = .ok (.iload_n 2, 1) := by decide +kernel
theorem dX3_readNews_19 : decode cX3_readNews 19 = .ok (.iconst 1, 1) := by decide +kernel
theorem dX3_readNews_20 : decode cX3_readNews 20 = .ok (.iadd, 1) := by decide +kernel
theorem dX3_readNews_21 : decode cX3_readNews 21 = .ok (.bipush 10, 2) := by decide +kernel
theorem dX3_readNews_23 : decode cX3_readNews 23 = .ok (.invokevirtual 28, 3) := by decide +kernel
theorem dX3_readNews_26 : decode cX3_readNews 26 = .ok (.istore 4, 2) := by decide +kernel
theorem dX3_readNews_28 : decode cX3_readNews 28 = .ok (.iload 4, 2) := by decide +kernel
theorem dX3_readNews_30 : decode cX3_readNews 30 = .ok (.ifCond .ge 10, 3) := by decide +kernel
theorem dX3_readNews_33 : decode cX3_readNews 33 = .ok (.iload_n 2, 1) := by decide +kernel
theorem dX3_readNews_34 : decode cX3_readNews 34 = .ok (.iconst 1, 1) := by decide +kernel
theorem dX3_readNews_35 : decode cX3_readNews 35 = .ok (.iadd, 1) := by decide +kernel
theorem dX3_readNews_36 : decode cX3_readNews 36 = .ok (.invokestatic 61, 3) := by decide +kernel
theorem dX3_readNews_39 : decode cX3_readNews 39 = .ok (.ireturn, 1) := by decide +kernel
theorem dX3_readNews_40 : decode cX3_readNews 40 = .ok (.iload_n 2, 1) := by decide +kernel
theorem dX3_readNews_41 : decode cX3_readNews 41 = .ok (.iconst 2, 1) := by decide +kernel
theorem dX3_readNews_42 : decode cX3_readNews 42 = .ok (.iadd, 1) := by decide +kernel
theorem dX3_readNews_43 : decode cX3_readNews 43 = .ok (.istore 5, 2) := by decide +kernel
theorem dX3_readNews_45 : decode cX3_readNews 45 = .ok (.iconst 0, 1) := by decide +kernel
theorem dX3_readNews_46 : decode cX3_readNews 46 = .ok (.istore 6, 2) := by decide +kernel
theorem dX3_readNews_48 : decode cX3_readNews 48 = .ok (.iconst 0, 1) := by decide +kernel
theorem dX3_readNews_49 : decode cX3_readNews 49 = .ok (.istore 7, 2) := by decide +kernel
theorem dX3_readNews_51 : decode cX3_readNews 51 = .ok (.iload 7, 2) := by decide +kernel
theorem dX3_readNews_53 : decode cX3_readNews 53 = .ok (.bipush 6, 2) := by decide +kernel
theorem dX3_readNews_55 : decode cX3_readNews 55 = .ok (.if_icmp .ge 51, 3) := by decide +kernel
theorem dX3_readNews_58 : decode cX3_readNews 58 = .ok (.aload_n 0, 1) := by decide +kernel
theorem dX3_readNews_59 : decode cX3_readNews 59 = .ok (.iload 5, 2) := by decide +kernel
theorem dX3_readNews_61 : decode cX3_readNews 61 = .ok (.aload_n 1, 1) := by decide +kernel
theorem dX3_readNews_62 : decode cX3_readNews 62 = .ok (.getfield 52, 3) := by decide +kernel
theorem dX3_readNews_65 : decode cX3_readNews 65 = .ok (.invokevirtual 28, 3) := by decide +kernel
theorem dX3_readNews_68 : decode cX3_readNews 68 = .ok (.istore 8, 2) := by decide +kernel
theorem dX3_readNews_70 : decode cX3_readNews 70 = .ok (.iload 8, 2) := by decide +kernel
theorem dX3_readNews_72 : decode cX3_readNews 72 = .ok (.ifCond .lt 34, 3) := by decide +kernel
theorem dX3_readNews_75 : decode cX3_readNews 75 = .ok (.iload 6, 2) := by decide +kernel
theorem dX3_readNews_77 : decode cX3_readNews 77 = .ok (.iload 8, 2) := by decide +kernel
theorem dX3_readNews_79 : decode cX3_readNews 79 = .ok (.ishr, 1) := by decide +kernel
theorem dX3_readNews_80 : decode cX3_readNews 80 = .ok (.iconst 1, 1) := by decide +kernel
theorem dX3_readNews_81 : decode cX3_readNews 81 = .ok (.iand, 1) := by decide +kernel
theorem dX3_readNews_82 : decode cX3_readNews 82 = .ok (.ifCond .eq 6, 3) := by decide +kernel
theorem dX3_readNews_85 : decode cX3_readNews 85 = .ok (.goto 21, 3) := by decide +kernel
theorem dX3_readNews_88 : decode cX3_readNews 88 = .ok (.iload 6, 2) := by decide +kernel
theorem dX3_readNews_90 : decode cX3_readNews 90 = .ok (.iconst 1, 1) := by decide +kernel
theorem dX3_readNews_91 : decode cX3_readNews 91 = .ok (.iload 8, 2) := by decide +kernel
theorem dX3_readNews_93 : decode cX3_readNews 93 = .ok (.ishl, 1) := by decide +kernel
theorem dX3_readNews_94 : decode cX3_readNews 94 = .ok (.ior, 1) := by decide +kernel
theorem dX3_readNews_95 : decode cX3_readNews 95 = .ok (.istore 6, 2) := by decide +kernel
theorem dX3_readNews_97 : decode cX3_readNews 97 = .ok (.iinc 5 1, 3) := by decide +kernel
theorem dX3_readNews_100 : decode cX3_readNews 100 = .ok (.iinc 7 1, 3) := by decide +kernel
theorem dX3_readNews_103 : decode cX3_readNews 103 = .ok (.goto (-52), 3) := by decide +kernel
theorem dX3_readNews_106 : decode cX3_readNews 106 = .ok (.aload_n 1, 1) := by decide +kernel
theorem dX3_readNews_107 : decode cX3_readNews 107 = .ok (.getfield 68, 3) := by decide +kernel
theorem dX3_readNews_110 : decode cX3_readNews 110 = .ok (.aload_n 1, 1) := by decide +kernel
theorem dX3_readNews_111 : decode cX3_readNews 111 = .ok (.getfield 45, 3) := by decide +kernel
theorem dX3_readNews_114 : decode cX3_readNews 114 = .ok (.iload_n 3, 1) := by decide +kernel
theorem dX3_readNews_115 : decode cX3_readNews 115 = .ok (.iastore, 1) := by decide +kernel
theorem dX3_readNews_116 : decode cX3_readNews 116 = .ok (.aload_n 1, 1) := by decide +kernel
theorem dX3_readNews_117 : decode cX3_readNews 117 = .ok (.getfield 71, 3) := by decide +kernel
theorem dX3_readNews_120 : decode cX3_readNews 120 = .ok (.aload_n 1, 1) := by decide +kernel
theorem dX3_readNews_121 : decode cX3_readNews 121 = .ok (.getfield 45, 3) := by decide +kernel
theorem dX3_readNews_124 : decode cX3_readNews 124 = .ok (.iload 4, 2) := by decide +kernel
theorem dX3_readNews_126 : decode cX3_readNews 126 = .ok (.iastore, 1) := by decide +kernel
theorem dX3_readNews_127 : decode cX3_readNews 127 = .ok (.aload_n 1, 1) := by decide +kernel
theorem dX3_readNews_128 : decode cX3_readNews 128 = .ok (.getfield 42, 3) := by decide +kernel
theorem dX3_readNews_131 : decode cX3_readNews 131 = .ok (.aload_n 1, 1) := by decide +kernel
theorem dX3_readNews_132 : decode cX3_readNews 132 = .ok (.getfield 45, 3) := by decide +kernel
theorem dX3_readNews_135 : decode cX3_readNews 135 = .ok (.iload 6, 2) := by decide +kernel
theorem dX3_readNews_137 : decode cX3_readNews 137 = .ok (.iastore, 1) := by decide +kernel
theorem dX3_readNews_138 : decode cX3_readNews 138 = .ok (.aload_n 1, 1) := by decide +kernel
theorem dX3_readNews_139 : decode cX3_readNews 139 = .ok (.dup, 1) := by decide +kernel
theorem dX3_readNews_140 : decode cX3_readNews 140 = .ok (.getfield 45, 3) := by decide +kernel
theorem dX3_readNews_143 : decode cX3_readNews 143 = .ok (.iconst 1, 1) := by decide +kernel
theorem dX3_readNews_144 : decode cX3_readNews 144 = .ok (.iadd, 1) := by decide +kernel
theorem dX3_readNews_145 : decode cX3_readNews 145 = .ok (.putfield 45, 3) := by decide +kernel
theorem dX3_readNews_148 : decode cX3_readNews 148 = .ok (.iload 5, 2) := by decide +kernel
theorem dX3_readNews_150 : decode cX3_readNews 150 = .ok (.ireturn, 1) := by decide +kernel
theorem dX4_init_0 : decode cX4_init 0 = .ok (.aload_n 0, 1) := by decide +kernel
theorem dX4_init_1 : decode cX4_init 1 = .ok (.invokespecial 3, 3) := by decide +kernel
theorem dX4_init_4 : decode cX4_init 4 = .ok (.aload_n 0, 1) := by decide +kernel
theorem dX4_init_5 : decode cX4_init 5 = .ok (.bipush 6, 2) := by decide +kernel
theorem dX4_init_7 : decode cX4_init 7 = .ok (.newarray .int, 2) := by decide +kernel
theorem dX4_init_9 : decode cX4_init 9 = .ok (.putfield 9, 3) := by decide +kernel
theorem dX4_init_12 : decode cX4_init 12 = .ok (.aload_n 0, 1) := by decide +kernel
theorem dX4_init_13 : decode cX4_init 13 = .ok (.bipush 6, 2) := by decide +kernel
theorem dX4_init_15 : decode cX4_init 15 = .ok (.newarray .int, 2) := by decide +kernel
theorem dX4_init_17 : decode cX4_init 17 = .ok (.putfield 15, 3) := by decide +kernel
theorem dX4_init_20 : decode cX4_init 20 = .ok (.return_, 1) := by decide +kernel
theorem dX4_see_0 : decode cX4_see 0 = .ok (.iload_n 3, 1) := by decide +kernel
theorem dX4_see_1 : decode cX4_see 1 = .ok (.ifCond .eq 18, 3) := by decide +kernel
theorem dX4_see_4 : decode cX4_see 4 = .ok (.aload_n 0, 1) := by decide +kernel
theorem dX4_see_5 : decode cX4_see 5 = .ok (.getfield 9, 3) := by decide +kernel
theorem dX4_see_8 : decode cX4_see 8 = .ok (.iload_n 1, 1) := by decide +kernel
theorem dX4_see_9 : decode cX4_see 9 = .ok (.dup2, 1) := by decide +kernel
theorem dX4_see_10 : decode cX4_see 10 = .ok (.iaload, 1) := by decide +kernel
theorem dX4_see_11 : decode cX4_see 11 = .ok (.iconst 1, 1) := by decide +kernel
theorem dX4_see_12 : decode cX4_see 12 = .ok (.iload_n 2, 1) := by decide +kernel
theorem dX4_see_13 : decode cX4_see 13 = .ok (.ishl, 1) := by decide +kernel
theorem dX4_see_14 : decode cX4_see 14 = .ok (.ior, 1) := by decide +kernel
theorem dX4_see_15 : decode cX4_see 15 = .ok (.iastore, 1) := by decide +kernel
theorem dX4_see_16 : decode cX4_see 16 = .ok (.goto 15, 3) := by decide +kernel
theorem dX4_see_19 : decode cX4_see 19 = .ok (.aload_n 0, 1) := by decide +kernel
theorem dX4_see_20 : decode cX4_see 20 = .ok (.getfield 15, 3) := by decide +kernel
theorem dX4_see_23 : decode cX4_see 23 = .ok (.iload_n 1, 1) := by decide +kernel
theorem dX4_see_24 : decode cX4_see 24 = .ok (.dup2, 1) := by decide +kernel
theorem dX4_see_25 : decode cX4_see 25 = .ok (.iaload, 1) := by decide +kernel
theorem dX4_see_26 : decode cX4_see 26 = .ok (.iconst 1, 1) := by decide +kernel
theorem dX4_see_27 : decode cX4_see 27 = .ok (.iload_n 2, 1) := by decide +kernel
theorem dX4_see_28 : decode cX4_see 28 = .ok (.ishl, 1) := by decide +kernel
theorem dX4_see_29 : decode cX4_see 29 = .ok (.ior, 1) := by decide +kernel
theorem dX4_see_30 : decode cX4_see 30 = .ok (.iastore, 1) := by decide +kernel
theorem dX4_see_31 : decode cX4_see 31 = .ok (.aload_n 0, 1) := by decide +kernel
theorem dX4_see_32 : decode cX4_see 32 = .ok (.dup, 1) := by decide +kernel
theorem dX4_see_33 : decode cX4_see 33 = .ok (.getfield 18, 3) := by decide +kernel
theorem dX4_see_36 : decode cX4_see 36 = .ok (.iconst 1, 1) := by decide +kernel
theorem dX4_see_37 : decode cX4_see 37 = .ok (.iadd, 1) := by decide +kernel
theorem dX4_see_38 : decode cX4_see 38 = .ok (.putfield 18, 3) := by decide +kernel
theorem dX4_see_41 : decode cX4_see 41 = .ok (.return_, 1) := by decide +kernel
theorem dX4_forget_0 : decode cX4_forget 0 = .ok (.aload_n 0, 1) := by decide +kernel
theorem dX4_forget_1 : decode cX4_forget 1 = .ok (.getfield 9, 3) := by decide +kernel
theorem dX4_forget_4 : decode cX4_forget 4 = .ok (.iconst 0, 1) := by decide +kernel
theorem dX4_forget_5 : decode cX4_forget 5 = .ok (.invokestatic 22, 3) := by decide +kernel
theorem dX4_forget_8 : decode cX4_forget 8 = .ok (.aload_n 0, 1) := by decide +kernel
theorem dX4_forget_9 : decode cX4_forget 9 = .ok (.getfield 15, 3) := by decide +kernel
theorem dX4_forget_12 : decode cX4_forget 12 = .ok (.iconst 0, 1) := by decide +kernel
theorem dX4_forget_13 : decode cX4_forget 13 = .ok (.invokestatic 22, 3) := by decide +kernel
theorem dX4_forget_16 : decode cX4_forget 16 = .ok (.aload_n 0, 1) := by decide +kernel
theorem dX4_forget_17 : decode cX4_forget 17 = .ok (.iconst 0, 1) := by decide +kernel
theorem dX4_forget_18 : decode cX4_forget 18 = .ok (.putfield 18, 3) := by decide +kernel
theorem dX4_forget_21 : decode cX4_forget 21 = .ok (.return_, 1) := by decide +kernel
theorem dX4_fit_0 : decode cX4_fit 0 = .ok (.aload_n 0, 1) := by decide +kernel
theorem dX4_fit_1 : decode cX4_fit 1 = .ok (.getfield 9, 3) := by decide +kernel
theorem dX4_fit_4 : decode cX4_fit 4 = .ok (.iload_n 1, 1) := by decide +kernel
theorem dX4_fit_5 : decode cX4_fit 5 = .ok (.iaload, 1) := by decide +kernel
theorem dX4_fit_6 : decode cX4_fit 6 = .ok (.iload_n 2, 1) := by decide +kernel
theorem dX4_fit_7 : decode cX4_fit 7 = .ok (.iconst (-1), 1) := by decide +kernel
theorem dX4_fit_8 : decode cX4_fit 8 = .ok (.ixor, 1) := by decide +kernel
theorem dX4_fit_9 : decode cX4_fit 9 = .ok (.iand, 1) := by decide +kernel
theorem dX4_fit_10 : decode cX4_fit 10 = .ok (.ifCond .ne 18, 3) := by decide +kernel
theorem dX4_fit_13 : decode cX4_fit 13 = .ok (.aload_n 0, 1) := by decide +kernel
theorem dX4_fit_14 : decode cX4_fit 14 = .ok (.getfield 15, 3) := by decide +kernel
theorem dX4_fit_17 : decode cX4_fit 17 = .ok (.iload_n 1, 1) := by decide +kernel
theorem dX4_fit_18 : decode cX4_fit 18 = .ok (.iaload, 1) := by decide +kernel
theorem dX4_fit_19 : decode cX4_fit 19 = .ok (.iload_n 2, 1) := by decide +kernel
theorem dX4_fit_20 : decode cX4_fit 20 = .ok (.iand, 1) := by decide +kernel
theorem dX4_fit_21 : decode cX4_fit 21 = .ok (.ifCond .ne 7, 3) := by decide +kernel
theorem dX4_fit_24 : decode cX4_fit 24 = .ok (.iconst 1, 1) := by decide +kernel
theorem dX4_fit_25 : decode cX4_fit 25 = .ok (.goto 4, 3) := by decide +kernel
theorem dX4_fit_28 : decode cX4_fit 28 = .ok (.iconst 0, 1) := by decide +kernel
theorem dX4_fit_29 : decode cX4_fit 29 = .ok (.ireturn, 1) := by decide +kernel
theorem dX5_init_0 : decode cX5_init 0 = .ok (.aload_n 0, 1) := by decide +kernel
theorem dX5_init_1 : decode cX5_init 1 = .ok (.invokespecial 3, 3) := by decide +kernel
theorem dX5_init_4 : decode cX5_init 4 = .ok (.aload_n 0, 1) := by decide +kernel
theorem dX5_init_5 : decode cX5_init 5 = .ok (.iconst 3, 1) := by decide +kernel
theorem dX5_init_6 : decode cX5_init 6 = .ok (.newarray .int, 2) := by decide +kernel
theorem dX5_init_8 : decode cX5_init 8 = .ok (.putfield 9, 3) := by decide +kernel
theorem dX5_init_11 : decode cX5_init 11 = .ok (.aload_n 0, 1) := by decide +kernel
theorem dX5_init_12 : decode cX5_init 12 = .ok (.bipush 18, 2) := by decide +kernel
theorem dX5_init_14 : decode cX5_init 14 = .ok (.newarray .int, 2) := by decide +kernel
theorem dX5_init_16 : decode cX5_init 16 = .ok (.putfield 15, 3) := by decide +kernel
theorem dX5_init_19 : decode cX5_init 19 = .ok (.aload_n 0, 1) := by decide +kernel
theorem dX5_init_20 : decode cX5_init 20 = .ok (.bipush 18, 2) := by decide +kernel
theorem dX5_init_22 : decode cX5_init 22 = .ok (.newarray .int, 2) := by decide +kernel
theorem dX5_init_24 : decode cX5_init 24 = .ok (.putfield 18, 3) := by decide +kernel
theorem dX5_init_27 : decode cX5_init 27 = .ok (.aload_n 0, 1) := by decide +kernel
theorem dX5_init_28 : decode cX5_init 28 = .ok (.bipush 9, 2) := by decide +kernel
theorem dX5_init_30 : decode cX5_init 30 = .ok (.newarray .int, 2) := by decide +kernel
theorem dX5_init_32 : decode cX5_init 32 = .ok (.putfield 21, 3) := by decide +kernel
theorem dX5_init_35 : decode cX5_init 35 = .ok (.return_, 1) := by decide +kernel
theorem dX5_beginWith_0 : decode cX5_beginWith 0 = .ok (.aload_n 1, 1) := by decide +kernel
theorem dX5_beginWith_1 : decode cX5_beginWith 1 = .ok (.getfield 24, 3) := by decide +kernel
theorem dX5_beginWith_4 : decode cX5_beginWith 4 = .ok (.iconst 0, 1) := by decide +kernel
theorem dX5_beginWith_5 : decode cX5_beginWith 5 = .ok (.aload_n 0, 1) := by decide +kernel
theorem dX5_beginWith_6 : decode cX5_beginWith 6 = .ok (.getfield 9, 3) := by decide +kernel
theorem dX5_beginWith_9 : decode cX5_beginWith 9 = .ok (.iconst 0, 1) := by decide +kernel
theorem dX5_beginWith_10 : decode cX5_beginWith 10 = .ok (.iconst 3, 1) := by decide +kernel
theorem dX5_beginWith_11 : decode cX5_beginWith 11 = .ok (.invokestatic 29, 3) := by decide +kernel
theorem dX5_beginWith_14 : decode cX5_beginWith 14 = .ok (.aload_n 0, 1) := by decide +kernel
theorem dX5_beginWith_15 : decode cX5_beginWith 15 = .ok (.getfield 15, 3) := by decide +kernel
theorem dX5_beginWith_18 : decode cX5_beginWith 18 = .ok (.iconst 0, 1) := by decide +kernel
theorem dX5_beginWith_19 : decode cX5_beginWith 19 = .ok (.invokestatic 35, 3) := by decide +kernel
theorem dX5_beginWith_22 : decode cX5_beginWith 22 = .ok (.aload_n 0, 1) := by decide +kernel
theorem dX5_beginWith_23 : decode cX5_beginWith 23 = .ok (.getfield 18, 3) := by decide +kernel
theorem dX5_beginWith_26 : decode cX5_beginWith 26 = .ok (.iconst 0, 1) := by decide +kernel
theorem dX5_beginWith_27 : decode cX5_beginWith 27 = .ok (.invokestatic 35, 3) := by decide +kernel
theorem dX5_beginWith_30 : decode cX5_beginWith 30 = .ok (.aload_n 0, 1) := by decide +kernel
theorem dX5_beginWith_31 : decode cX5_beginWith 31 = .ok (.getfield 21, 3) := by decide +kernel
theorem dX5_beginWith_34 : decode cX5_beginWith 34 = .ok (.iconst 0, 1) := by decide +kernel
theorem dX5_beginWith_35 : decode cX5_beginWith 35 = .ok (.invokestatic 35, 3) := by decide +kernel
theorem dX5_beginWith_38 : decode cX5_beginWith 38 = .ok (.aload_n 0, 1) := by decide +kernel
theorem dX5_beginWith_39 : decode cX5_beginWith 39 = .ok (.iconst 0, 1) := by decide +kernel
theorem dX5_beginWith_40 : decode cX5_beginWith 40 = .ok (.putfield 41, 3) := by decide +kernel
theorem dX5_beginWith_43 : decode cX5_beginWith 43 = .ok (.return_, 1) := by decide +kernel
theorem dX5_copyFrom_0 : decode cX5_copyFrom 0 = .ok (.aload_n 1, 1) := by decide +kernel
theorem dX5_copyFrom_1 : decode cX5_copyFrom 1 = .ok (.getfield 9, 3) := by decide +kernel
theorem dX5_copyFrom_4 : decode cX5_copyFrom 4 = .ok (.iconst 0, 1) := by decide +kernel
theorem dX5_copyFrom_5 : decode cX5_copyFrom 5 = .ok (.aload_n 0, 1) := by decide +kernel
theorem dX5_copyFrom_6 : decode cX5_copyFrom 6 = .ok (.getfield 9, 3) := by decide +kernel
theorem dX5_copyFrom_9 : decode cX5_copyFrom 9 = .ok (.iconst 0, 1) := by decide +kernel
theorem dX5_copyFrom_10 : decode cX5_copyFrom 10 = .ok (.iconst 3, 1) := by decide +kernel
theorem dX5_copyFrom_11 : decode cX5_copyFrom 11 = .ok (.invokestatic 29, 3) := by decide +kernel
theorem dX5_copyFrom_14 : decode cX5_copyFrom 14 = .ok (.aload_n 1, 1) := by decide +kernel
theorem dX5_copyFrom_15 : decode cX5_copyFrom 15 = .ok (.getfield 15, 3) := by decide +kernel
theorem dX5_copyFrom_18 : decode cX5_copyFrom 18 = .ok (.iconst 0, 1) := by decide +kernel
theorem dX5_copyFrom_19 : decode cX5_copyFrom 19 = .ok (.aload_n 0, 1) := by decide +kernel
theorem dX5_copyFrom_20 : decode cX5_copyFrom 20 = .ok (.getfield 15, 3) := by decide +kernel
theorem dX5_copyFrom_23 : decode cX5_copyFrom 23 = .ok (.iconst 0, 1) := by decide +kernel
theorem dX5_copyFrom_24 : decode cX5_copyFrom 24 = .ok (.aload_n 0, 1) := by decide +kernel
theorem dX5_copyFrom_25 : decode cX5_copyFrom 25 = .ok (.getfield 15, 3) := by decide +kernel
theorem dX5_copyFrom_28 : decode cX5_copyFrom 28 = .ok (.arraylength, 1) := by decide +kernel
theorem dX5_copyFrom_29 : decode cX5_copyFrom 29 = .ok (.invokestatic 29, 3) := by decide +kernel
theorem dX5_copyFrom_32 : decode cX5_copyFrom 32 = .ok (.aload_n 1, 1) := by decide +kernel
theorem dX5_copyFrom_33 : decode cX5_copyFrom 33 = .ok (.getfield 18, 3) := by decide +kernel
theorem dX5_copyFrom_36 : decode cX5_copyFrom 36 = .ok (.iconst 0, 1) := by decide +kernel
theorem dX5_copyFrom_37 : decode cX5_copyFrom 37 = .ok (.aload_n 0, 1) := by decide +kernel
theorem dX5_copyFrom_38 : decode cX5_copyFrom 38 = .ok (.getfield 18, 3) := by decide +kernel
theorem dX5_copyFrom_41 : decode cX5_copyFrom 41 = .ok (.iconst 0, 1) := by decide +kernel
theorem dX5_copyFrom_42 : decode cX5_copyFrom 42 = .ok (.aload_n 0, 1) := by decide +kernel
theorem dX5_copyFrom_43 : decode cX5_copyFrom 43 = .ok (.getfield 18, 3) := by decide +kernel
theorem dX5_copyFrom_46 : decode cX5_copyFrom 46 = .ok (.arraylength, 1) := by decide +kernel
theorem dX5_copyFrom_47 : decode cX5_copyFrom 47 = .ok (.invokestatic 29, 3) := by decide +kernel
theorem dX5_copyFrom_50 : decode cX5_copyFrom 50 = .ok (.aload_n 1, 1) := by decide +kernel
theorem dX5_copyFrom_51 : decode cX5_copyFrom 51 = .ok (.getfield 21, 3) := by decide +kernel
theorem dX5_copyFrom_54 : decode cX5_copyFrom 54 = .ok (.iconst 0, 1) := by decide +kernel
theorem dX5_copyFrom_55 : decode cX5_copyFrom 55 = .ok (.aload_n 0, 1) := by decide +kernel
theorem dX5_copyFrom_56 : decode cX5_copyFrom 56 = .ok (.getfield 21, 3) := by decide +kernel
theorem dX5_copyFrom_59 : decode cX5_copyFrom 59 = .ok (.iconst 0, 1) := by decide +kernel
theorem dX5_copyFrom_60 : decode cX5_copyFrom 60 = .ok (.aload_n 0, 1) := by decide +kernel
theorem dX5_copyFrom_61 : decode cX5_copyFrom 61 = .ok (.getfield 21, 3) := by decide +kernel
theorem dX5_copyFrom_64 : decode cX5_copyFrom 64 = .ok (.arraylength, 1) := by decide +kernel
theorem dX5_copyFrom_65 : decode cX5_copyFrom 65 = .ok (.invokestatic 29, 3) := by decide +kernel
theorem dX5_copyFrom_68 : decode cX5_copyFrom 68 = .ok (.aload_n 0, 1) := by decide +kernel
theorem dX5_copyFrom_69 : decode cX5_copyFrom 69 = .ok (.aload_n 1, 1) := by decide +kernel
theorem dX5_copyFrom_70 : decode cX5_copyFrom 70 = .ok (.getfield 41, 3) := by decide +kernel
theorem dX5_copyFrom_73 : decode cX5_copyFrom 73 = .ok (.putfield 41, 3) := by decide +kernel
theorem dX5_copyFrom_76 : decode cX5_copyFrom 76 = .ok (.return_, 1) := by decide +kernel
theorem dX5_knows_0 : decode cX5_knows 0 = .ok (.aload_n 0, 1) := by decide +kernel
theorem dX5_knows_1 : decode cX5_knows 1 = .ok (.getfield 9, 3) := by decide +kernel
theorem dX5_knows_4 : decode cX5_knows 4 = .ok (.iload_n 2, 1) := by decide +kernel
theorem dX5_knows_5 : decode cX5_knows 5 = .ok (.iaload, 1) := by decide +kernel
theorem dX5_knows_6 : decode cX5_knows 6 = .ok (.iload_n 1, 1) := by decide +kernel
theorem dX5_knows_7 : decode cX5_knows 7 = .ok (.ishr, 1) := by decide +kernel
theorem dX5_knows_8 : decode cX5_knows 8 = .ok (.iconst 1, 1) := by decide +kernel
theorem dX5_knows_9 : decode cX5_knows 9 = .ok (.iand, 1) := by decide +kernel
theorem dX5_knows_10 : decode cX5_knows 10 = .ok (.ifCond .eq 7, 3) := by decide +kernel
theorem dX5_knows_13 : decode cX5_knows 13 = .ok (.iconst 1, 1) := by decide +kernel
theorem dX5_knows_14 : decode cX5_knows 14 = .ok (.goto 4, 3) := by decide +kernel
theorem dX5_knows_17 : decode cX5_knows 17 = .ok (.iconst 0, 1) := by decide +kernel
theorem dX5_knows_18 : decode cX5_knows 18 = .ok (.ireturn, 1) := by decide +kernel
theorem dX5_tellingsOf_0 : decode cX5_tellingsOf 0 = .ok (.iconst 0, 1) := by decide +kernel
theorem dX5_tellingsOf_1 : decode cX5_tellingsOf 1 = .ok (.istore_n 2, 1) := by decide +kernel
theorem dX5_tellingsOf_2 : decode cX5_tellingsOf 2 = .ok (.iconst 0, 1) := by decide +kernel
theorem dX5_tellingsOf_3 : decode cX5_tellingsOf 3 = .ok (.istore_n 3, 1) := by decide +kernel
theorem dX5_tellingsOf_4 : decode cX5_tellingsOf 4 = .ok (.iload_n 3, 1) := by decide +kernel
theorem dX5_tellingsOf_5 : decode cX5_tellingsOf 5 = .ok (.iconst 3, 1) := by decide +kernel
theorem dX5_tellingsOf_6 : decode cX5_tellingsOf 6 = .ok (.if_icmp .ge 22, 3) := by decide +kernel
theorem dX5_tellingsOf_9 : decode cX5_tellingsOf 9 = .ok (.iload_n 2, 1) := by decide +kernel
theorem dX5_tellingsOf_10 : decode cX5_tellingsOf 10 = .ok (.aload_n 0, 1) := by decide +kernel
theorem dX5_tellingsOf_11 : decode cX5_tellingsOf 11 = .ok (.getfield 21, 3) := by decide +kernel
theorem dX5_tellingsOf_14 : decode cX5_tellingsOf 14 = .ok (.iload_n 1, 1) := by decide +kernel
theorem dX5_tellingsOf_15 : decode cX5_tellingsOf 15 = .ok (.iconst 3, 1) := by decide +kernel
theorem dX5_tellingsOf_16 : decode cX5_tellingsOf 16 = .ok (.imul, 1) := by decide +kernel
theorem dX5_tellingsOf_17 : decode cX5_tellingsOf 17 = .ok (.iload_n 3, 1) := by decide +kernel
theorem dX5_tellingsOf_18 : decode cX5_tellingsOf 18 = .ok (.iadd, 1) := by decide +kernel
theorem dX5_tellingsOf_19 : decode cX5_tellingsOf 19 = .ok (.iaload, 1) := by decide +kernel
theorem dX5_tellingsOf_20 : decode cX5_tellingsOf 20 = .ok (.iadd, 1) := by decide +kernel
theorem dX5_tellingsOf_21 : decode cX5_tellingsOf 21 = .ok (.istore_n 2, 1) := by decide +kernel
theorem dX5_tellingsOf_22 : decode cX5_tellingsOf 22 = .ok (.iinc 3 1, 3) := by decide +kernel
theorem dX5_tellingsOf_25 : decode cX5_tellingsOf 25 = .ok (.goto (-21), 3) := by decide +kernel
theorem dX5_tellingsOf_28 : decode cX5_tellingsOf 28 = .ok (.iload_n 2, 1) := by decide +kernel
theorem dX5_tellingsOf_29 : decode cX5_tellingsOf 29 = .ok (.ireturn, 1) := by decide +kernel
theorem dX5_allows_0 : decode cX5_allows 0 = .ok (.aload_n 1, 1) := by decide +kernel
theorem dX5_allows_1 : decode cX5_allows 1 = .ok (.iload_n 2, 1) := by decide +kernel
theorem dX5_allows_2 : decode cX5_allows 2 = .ok (.aload_n 0, 1) := by decide +kernel
theorem dX5_allows_3 : decode cX5_allows 3 = .ok (.getfield 41, 3) := by decide +kernel
theorem dX5_allows_6 : decode cX5_allows 6 = .ok (.invokevirtual 45, 3) := by decide +kernel
theorem dX5_allows_9 : decode cX5_allows 9 = .ok (.istore 4, 2) := by decide +kernel
theorem dX5_allows_11 : decode cX5_allows 11 = .ok (.aload_n 0, 1) := by decide +kernel
theorem dX5_allows_12 : decode cX5_allows 12 = .ok (.iload_n 2, 1) := by decide +kernel
theorem dX5_allows_13 : decode cX5_allows 13 = .ok (.iload_n 3, 1) := by decide +kernel
theorem dX5_allows_14 : decode cX5_allows 14 = .ok (.invokevirtual 49, 3) := by decide +kernel
theorem dX5_allows_17 : decode cX5_allows 17 = .ok (.ifCond .eq 19, 3) := by decide +kernel
theorem dX5_allows_20 : decode cX5_allows 20 = .ok (.aload_n 1, 1) := by decide +kernel
theorem dX5_allows_21 : decode cX5_allows 21 = .ok (.aload_n 0, 1) := by decide +kernel
theorem dX5_allows_22 : decode cX5_allows 22 = .ok (.getfield 41, 3) := by decide +kernel
theorem dX5_allows_25 : decode cX5_allows 25 = .ok (.iload 4, 2) := by decide +kernel
theorem dX5_allows_27 : decode cX5_allows 27 = .ok (.invokevirtual 53, 3) := by decide +kernel
theorem dX5_allows_30 : decode cX5_allows 30 = .ok (.invokestatic 56, 3) := by decide +kernel
theorem dX5_allows_33 : decode cX5_allows 33 = .ok (.ifCond .ne 5, 3) := by decide +kernel
theorem dX5_allows_36 : decode cX5_allows 36 = .ok (.iconst 0, 1) := by decide +kernel
theorem dX5_allows_37 : decode cX5_allows 37 = .ok (.ireturn, 1) := by decide +kernel
theorem dX5_allows_38 : decode cX5_allows 38 = .ok (.aload_n 0, 1) := by decide +kernel
theorem dX5_allows_39 : decode cX5_allows 39 = .ok (.iload_n 3, 1) := by decide +kernel
theorem dX5_allows_40 : decode cX5_allows 40 = .ok (.invokevirtual 60, 3) := by decide +kernel
theorem dX5_allows_43 : decode cX5_allows 43 = .ok (.aload_n 1, 1) := by decide +kernel
theorem dX5_allows_44 : decode cX5_allows 44 = .ok (.getfield 64, 3) := by decide +kernel
theorem dX5_allows_47 : decode cX5_allows 47 = .ok (.iload_n 3, 1) := by decide +kernel
theorem dX5_allows_48 : decode cX5_allows 48 = .ok (.iaload, 1) := by decide +kernel
theorem dX5_allows_49 : decode cX5_allows 49 = .ok (.if_icmp .lt 5, 3) := by decide +kernel
theorem dX5_allows_52 : decode cX5_allows 52 = .ok (.iconst 0, 1) := by decide +kernel
theorem dX5_allows_53 : decode cX5_allows 53 = .ok (.ireturn, 1) := by decide +kernel
theorem dX5_allows_54 : decode cX5_allows 54 = .ok (.aload_n 1, 1) := by decide +kernel
theorem dX5_allows_55 : decode cX5_allows 55 = .ok (.getfield 67, 3) := by decide +kernel
theorem dX5_allows_58 : decode cX5_allows 58 = .ok (.lookupswitch 71 #[(1, 26), (2, 45)], 26) := by decide +kernel
theorem dX5_allows_84 : decode cX5_allows 84 = .ok (.aload_n 0, 1) := by decide +kernel
theorem dX5_allows_85 : decode cX5_allows 85 = .ok (.getfield 15, 3) := by decide +kernel
theorem dX5_allows_88 : decode cX5_allows 88 = .ok (.iload_n 2, 1) := by decide +kernel
theorem dX5_allows_89 : decode cX5_allows 89 = .ok (.iconst 3, 1) := by decide +kernel
theorem dX5_allows_90 : decode cX5_allows 90 = .ok (.imul, 1) := by decide +kernel
theorem dX5_allows_91 : decode cX5_allows 91 = .ok (.iload_n 3, 1) := by decide +kernel
theorem dX5_allows_92 : decode cX5_allows 92 = .ok (.iadd, 1) := by decide +kernel
theorem dX5_allows_93 : decode cX5_allows 93 = .ok (.iaload, 1) := by decide +kernel
theorem dX5_allows_94 : decode cX5_allows 94 = .ok (.ifCond .ne 7, 3) := by decide +kernel
theorem dX5_allows_97 : decode cX5_allows 97 = .ok (.iconst 1, 1) := by decide +kernel
theorem dX5_allows_98 : decode cX5_allows 98 = .ok (.goto 4, 3) := by decide +kernel
theorem dX5_allows_101 : decode cX5_allows 101 = .ok (.iconst 0, 1) := by decide +kernel
theorem dX5_allows_102 : decode cX5_allows 102 = .ok (.ireturn, 1) := by decide +kernel
theorem dX5_allows_103 : decode cX5_allows 103 = .ok (.iload 4, 2) := by decide +kernel
theorem dX5_allows_105 : decode cX5_allows 105 = .ok (.ifCond .lt 22, 3) := by decide +kernel
theorem dX5_allows_108 : decode cX5_allows 108 = .ok (.aload_n 0, 1) := by decide +kernel
theorem dX5_allows_109 : decode cX5_allows 109 = .ok (.getfield 21, 3) := by decide +kernel
theorem dX5_allows_112 : decode cX5_allows 112 = .ok (.iload_n 3, 1) := by decide +kernel
theorem dX5_allows_113 : decode cX5_allows 113 = .ok (.iconst 3, 1) := by decide +kernel
theorem dX5_allows_114 : decode cX5_allows 114 = .ok (.imul, 1) := by decide +kernel
theorem dX5_allows_115 : decode cX5_allows 115 = .ok (.iload 4, 2) := by decide +kernel
theorem dX5_allows_117 : decode cX5_allows 117 = .ok (.iadd, 1) := by decide +kernel
theorem dX5_allows_118 : decode cX5_allows 118 = .ok (.iaload, 1) := by decide +kernel
theorem dX5_allows_119 : decode cX5_allows 119 = .ok (.iconst 3, 1) := by decide +kernel
theorem dX5_allows_120 : decode cX5_allows 120 = .ok (.if_icmp .ge 7, 3) := by decide +kernel
theorem dX5_allows_123 : decode cX5_allows 123 = .ok (.iconst 1, 1) := by decide +kernel
theorem dX5_allows_124 : decode cX5_allows 124 = .ok (.goto 4, 3) := by decide +kernel
theorem dX5_allows_127 : decode cX5_allows 127 = .ok (.iconst 0, 1) := by decide +kernel
theorem dX5_allows_128 : decode cX5_allows 128 = .ok (.ireturn, 1) := by decide +kernel
theorem dX5_allows_129 : decode cX5_allows 129 = .ok (.iconst 1, 1) := by decide +kernel
theorem dX5_allows_130 : decode cX5_allows 130 = .ok (.ireturn, 1) := by decide +kernel
theorem dX5_spread_0 : decode cX5_spread 0 = .ok (.aload_n 1, 1) := by decide +kernel
theorem dX5_spread_1 : decode cX5_spread 1 = .ok (.aload_n 0, 1) := by decide +kernel
theorem dX5_spread_2 : decode cX5_spread 2 = .ok (.getfield 41, 3) := by decide +kernel
theorem dX5_spread_5 : decode cX5_spread 5 = .ok (.aload_n 1, 1) := by decide +kernel
theorem dX5_spread_6 : decode cX5_spread 6 = .ok (.iload_n 2, 1) := by decide +kernel
theorem dX5_spread_7 : decode cX5_spread 7 = .ok (.aload_n 0, 1) := by decide +kernel
theorem dX5_spread_8 : decode cX5_spread 8 = .ok (.getfield 41, 3) := by decide +kernel
theorem dX5_spread_11 : decode cX5_spread 11 = .ok (.invokevirtual 45, 3) := by decide +kernel
theorem dX5_spread_14 : decode cX5_spread 14 = .ok (.invokevirtual 53, 3) := by decide +kernel
theorem dX5_spread_17 : decode cX5_spread 17 = .ok (.istore 4, 2) := by decide +kernel
theorem dX5_spread_19 : decode cX5_spread 19 = .ok (.iload 4, 2) := by decide +kernel
theorem dX5_spread_21 : decode cX5_spread 21 = .ok (.aload_n 0, 1) := by decide +kernel
theorem dX5_spread_22 : decode cX5_spread 22 = .ok (.getfield 9, 3) := by decide +kernel
theorem dX5_spread_25 : decode cX5_spread 25 = .ok (.iload_n 3, 1) := by decide +kernel
theorem dX5_spread_26 : decode cX5_spread 26 = .ok (.iaload, 1) := by decide +kernel
theorem dX5_spread_27 : decode cX5_spread 27 = .ok (.iconst (-1), 1) := by decide +kernel
theorem dX5_spread_28 : decode cX5_spread 28 = .ok (.ixor, 1) := by decide +kernel
theorem dX5_spread_29 : decode cX5_spread 29 = .ok (.iand, 1) := by decide +kernel
theorem dX5_spread_30 : decode cX5_spread 30 = .ok (.invokestatic 70, 3) := by decide +kernel
theorem dX5_spread_33 : decode cX5_spread 33 = .ok (.istore 5, 2) := by decide +kernel
theorem dX5_spread_35 : decode cX5_spread 35 = .ok (.aload_n 0, 1) := by decide +kernel
theorem dX5_spread_36 : decode cX5_spread 36 = .ok (.aload_n 1, 1) := by decide +kernel
theorem dX5_spread_37 : decode cX5_spread 37 = .ok (.iload_n 2, 1) := by decide +kernel
theorem dX5_spread_38 : decode cX5_spread 38 = .ok (.iload_n 3, 1) := by decide +kernel
theorem dX5_spread_39 : decode cX5_spread 39 = .ok (.iconst 1, 1) := by decide +kernel
theorem dX5_spread_40 : decode cX5_spread 40 = .ok (.invokevirtual 75, 3) := by decide +kernel
theorem dX5_spread_43 : decode cX5_spread 43 = .ok (.aload_n 0, 1) := by decide +kernel
theorem dX5_spread_44 : decode cX5_spread 44 = .ok (.getfield 9, 3) := by decide +kernel
theorem dX5_spread_47 : decode cX5_spread 47 = .ok (.iload_n 3, 1) := by decide +kernel
theorem dX5_spread_48 : decode cX5_spread 48 = .ok (.dup2, 1) := by decide +kernel
theorem dX5_spread_49 : decode cX5_spread 49 = .ok (.iaload, 1) := by decide +kernel
theorem dX5_spread_50 : decode cX5_spread 50 = .ok (.iload 4, 2) := by decide +kernel
theorem dX5_spread_52 : decode cX5_spread 52 = .ok (.ior, 1) := by decide +kernel
theorem dX5_spread_53 : decode cX5_spread 53 = .ok (.iastore, 1) := by decide +kernel
theorem dX5_spread_54 : decode cX5_spread 54 = .ok (.aload_n 0, 1) := by decide +kernel
theorem dX5_spread_55 : decode cX5_spread 55 = .ok (.getfield 9, 3) := by decide +kernel
theorem dX5_spread_58 : decode cX5_spread 58 = .ok (.aload_n 1, 1) := by decide +kernel
theorem dX5_spread_59 : decode cX5_spread 59 = .ok (.getfield 79, 3) := by decide +kernel
theorem dX5_spread_62 : decode cX5_spread 62 = .ok (.invokestatic 82, 3) := by decide +kernel
theorem dX5_spread_65 : decode cX5_spread 65 = .ok (.iload 5, 2) := by decide +kernel
theorem dX5_spread_67 : decode cX5_spread 67 = .ok (.ireturn, 1) := by decide +kernel
theorem dX5_count_0 : decode cX5_count 0 = .ok (.aload_n 1, 1) := by decide +kernel
theorem dX5_count_1 : decode cX5_count 1 = .ok (.iload_n 2, 1) := by decide +kernel
theorem dX5_count_2 : decode cX5_count 2 = .ok (.aload_n 0, 1) := by decide +kernel
theorem dX5_count_3 : decode cX5_count 3 = .ok (.getfield 41, 3) := by decide +kernel
theorem dX5_count_6 : decode cX5_count 6 = .ok (.invokevirtual 45, 3) := by decide +kernel
theorem dX5_count_9 : decode cX5_count 9 = .ok (.istore 5, 2) := by decide +kernel
theorem dX5_count_11 : decode cX5_count 11 = .ok (.iload 5, 2) := by decide +kernel
theorem dX5_count_13 : decode cX5_count 13 = .ok (.ifCond .ge 4, 3) := by decide +kernel
theorem dX5_count_16 : decode cX5_count 16 = .ok (.return_, 1) := by decide +kernel
theorem dX5_count_17 : decode cX5_count 17 = .ok (.aload_n 0, 1) := by decide +kernel
theorem dX5_count_18 : decode cX5_count 18 = .ok (.getfield 15, 3) := by decide +kernel
theorem dX5_count_21 : decode cX5_count 21 = .ok (.iload_n 2, 1) := by decide +kernel
theorem dX5_count_22 : decode cX5_count 22 = .ok (.iconst 3, 1) := by decide +kernel
theorem dX5_count_23 : decode cX5_count 23 = .ok (.imul, 1) := by decide +kernel
theorem dX5_count_24 : decode cX5_count 24 = .ok (.iload_n 3, 1) := by decide +kernel
theorem dX5_count_25 : decode cX5_count 25 = .ok (.iadd, 1) := by decide +kernel
theorem dX5_count_26 : decode cX5_count 26 = .ok (.dup2, 1) := by decide +kernel
theorem dX5_count_27 : decode cX5_count 27 = .ok (.iaload, 1) := by decide +kernel
theorem dX5_count_28 : decode cX5_count 28 = .ok (.iload 4, 2) := by decide +kernel
theorem dX5_count_30 : decode cX5_count 30 = .ok (.iadd, 1) := by decide +kernel
theorem dX5_count_31 : decode cX5_count 31 = .ok (.iastore, 1) := by decide +kernel
theorem dX5_count_32 : decode cX5_count 32 = .ok (.aload_n 0, 1) := by decide +kernel
theorem dX5_count_33 : decode cX5_count 33 = .ok (.getfield 21, 3) := by decide +kernel
theorem dX5_count_36 : decode cX5_count 36 = .ok (.iload_n 3, 1) := by decide +kernel
theorem dX5_count_37 : decode cX5_count 37 = .ok (.iconst 3, 1) := by decide +kernel
theorem dX5_count_38 : decode cX5_count 38 = .ok (.imul, 1) := by decide +kernel
theorem dX5_count_39 : decode cX5_count 39 = .ok (.iload 5, 2) := by decide +kernel
theorem dX5_count_41 : decode cX5_count 41 = .ok (.iadd, 1) := by decide +kernel
theorem dX5_count_42 : decode cX5_count 42 = .ok (.dup2, 1) := by decide +kernel
theorem dX5_count_43 : decode cX5_count 43 = .ok (.iaload, 1) := by decide +kernel
theorem dX5_count_44 : decode cX5_count 44 = .ok (.iload 4, 2) := by decide +kernel
theorem dX5_count_46 : decode cX5_count 46 = .ok (.iadd, 1) := by decide +kernel
theorem dX5_count_47 : decode cX5_count 47 = .ok (.iastore, 1) := by decide +kernel
theorem dX5_count_48 : decode cX5_count 48 = .ok (.aload_n 1, 1) := by decide +kernel
theorem dX5_count_49 : decode cX5_count 49 = .ok (.aload_n 0, 1) := by decide +kernel
theorem dX5_count_50 : decode cX5_count 50 = .ok (.getfield 41, 3) := by decide +kernel
theorem dX5_count_53 : decode cX5_count 53 = .ok (.iload 5, 2) := by decide +kernel
theorem dX5_count_55 : decode cX5_count 55 = .ok (.invokevirtual 53, 3) := by decide +kernel
theorem dX5_count_58 : decode cX5_count 58 = .ok (.istore 6, 2) := by decide +kernel
theorem dX5_count_60 : decode cX5_count 60 = .ok (.iconst 0, 1) := by decide +kernel
theorem dX5_count_61 : decode cX5_count 61 = .ok (.istore 7, 2) := by decide +kernel
theorem dX5_count_63 : decode cX5_count 63 = .ok (.iload 7, 2) := by decide +kernel
theorem dX5_count_65 : decode cX5_count 65 = .ok (.aload_n 1, 1) := by decide +kernel
theorem dX5_count_66 : decode cX5_count 66 = .ok (.getfield 85, 3) := by decide +kernel
theorem dX5_count_69 : decode cX5_count 69 = .ok (.if_icmp .ge 33, 3) := by decide +kernel
theorem dX5_count_72 : decode cX5_count 72 = .ok (.aload_n 0, 1) := by decide +kernel
theorem dX5_count_73 : decode cX5_count 73 = .ok (.getfield 18, 3) := by decide +kernel
theorem dX5_count_76 : decode cX5_count 76 = .ok (.iload 7, 2) := by decide +kernel
theorem dX5_count_78 : decode cX5_count 78 = .ok (.iconst 3, 1) := by decide +kernel
theorem dX5_count_79 : decode cX5_count 79 = .ok (.imul, 1) := by decide +kernel
theorem dX5_count_80 : decode cX5_count 80 = .ok (.iload_n 3, 1) := by decide +kernel
theorem dX5_count_81 : decode cX5_count 81 = .ok (.iadd, 1) := by decide +kernel
theorem dX5_count_82 : decode cX5_count 82 = .ok (.dup2, 1) := by decide +kernel
theorem dX5_count_83 : decode cX5_count 83 = .ok (.iaload, 1) := by decide +kernel
theorem dX5_count_84 : decode cX5_count 84 = .ok (.iload 6, 2) := by decide +kernel
theorem dX5_count_86 : decode cX5_count 86 = .ok (.iload 7, 2) := by decide +kernel
theorem dX5_count_88 : decode cX5_count 88 = .ok (.ishr, 1) := by decide +kernel
theorem dX5_count_89 : decode cX5_count 89 = .ok (.iconst 1, 1) := by decide +kernel
theorem dX5_count_90 : decode cX5_count 90 = .ok (.iand, 1) := by decide +kernel
theorem dX5_count_91 : decode cX5_count 91 = .ok (.iload 4, 2) := by decide +kernel
theorem dX5_count_93 : decode cX5_count 93 = .ok (.imul, 1) := by decide +kernel
theorem dX5_count_94 : decode cX5_count 94 = .ok (.iadd, 1) := by decide +kernel
theorem dX5_count_95 : decode cX5_count 95 = .ok (.iastore, 1) := by decide +kernel
theorem dX5_count_96 : decode cX5_count 96 = .ok (.iinc 7 1, 3) := by decide +kernel
theorem dX5_count_99 : decode cX5_count 99 = .ok (.goto (-36), 3) := by decide +kernel
theorem dX5_count_102 : decode cX5_count 102 = .ok (.return_, 1) := by decide +kernel
theorem dX5_packedKnown_0 : decode cX5_packedKnown 0 = .ok (.iconst 0, 1) := by decide +kernel
theorem dX5_packedKnown_1 : decode cX5_packedKnown 1 = .ok (.istore_n 1, 1) := by decide +kernel
theorem dX5_packedKnown_2 : decode cX5_packedKnown 2 = .ok (.iconst 0, 1) := by decide +kernel
theorem dX5_packedKnown_3 : decode cX5_packedKnown 3 = .ok (.istore_n 2, 1) := by decide +kernel
theorem dX5_packedKnown_4 : decode cX5_packedKnown 4 = .ok (.iload_n 2, 1) := by decide +kernel
theorem dX5_packedKnown_5 : decode cX5_packedKnown 5 = .ok (.iconst 3, 1) := by decide +kernel
theorem dX5_packedKnown_6 : decode cX5_packedKnown 6 = .ok (.if_icmp .ge 23, 3) := by decide +kernel
theorem dX5_packedKnown_9 : decode cX5_packedKnown 9 = .ok (.iload_n 1, 1) := by decide +kernel
theorem dX5_packedKnown_10 : decode cX5_packedKnown 10 = .ok (.aload_n 0, 1) := by decide +kernel
theorem dX5_packedKnown_11 : decode cX5_packedKnown 11 = .ok (.getfield 9, 3) := by decide +kernel
theorem dX5_packedKnown_14 : decode cX5_packedKnown 14 = .ok (.iload_n 2, 1) := by decide +kernel
theorem dX5_packedKnown_15 : decode cX5_packedKnown 15 = .ok (.iaload, 1) := by decide +kernel
theorem dX5_packedKnown_16 : decode cX5_packedKnown 16 = .ok (.iload_n 2, 1) := by decide +kernel
theorem dX5_packedKnown_17 : decode cX5_packedKnown 17 = .ok (.bipush 6, 2) := by decide +kernel
theorem dX5_packedKnown_19 : decode cX5_packedKnown 19 = .ok (.imul, 1) := by decide +kernel
theorem dX5_packedKnown_20 : decode cX5_packedKnown 20 = .ok (.ishl, 1) := by decide +kernel
theorem dX5_packedKnown_21 : decode cX5_packedKnown 21 = .ok (.ior, 1) := by decide +kernel
theorem dX5_packedKnown_22 : decode cX5_packedKnown 22 = .ok (.istore_n 1, 1) := by decide +kernel
theorem dX5_packedKnown_23 : decode cX5_packedKnown 23 = .ok (.iinc 2 1, 3) := by decide +kernel
theorem dX5_packedKnown_26 : decode cX5_packedKnown 26 = .ok (.goto (-22), 3) := by decide +kernel
theorem dX5_packedKnown_29 : decode cX5_packedKnown 29 = .ok (.iload_n 1, 1) := by decide +kernel
theorem dX5_packedKnown_30 : decode cX5_packedKnown 30 = .ok (.ireturn, 1) := by decide +kernel
theorem dX5_unpackKnown_0 : decode cX5_unpackKnown 0 = .ok (.iconst 0, 1) := by decide +kernel
theorem dX5_unpackKnown_1 : decode cX5_unpackKnown 1 = .ok (.istore_n 2, 1) := by decide +kernel
theorem dX5_unpackKnown_2 : decode cX5_unpackKnown 2 = .ok (.iload_n 2, 1) := by decide +kernel
theorem dX5_unpackKnown_3 : decode cX5_unpackKnown 3 = .ok (.iconst 3, 1) := by decide +kernel
theorem dX5_unpackKnown_4 : decode cX5_unpackKnown 4 = .ok (.if_icmp .ge 24, 3) := by decide +kernel
theorem dX5_unpackKnown_7 : decode cX5_unpackKnown 7 = .ok (.aload_n 0, 1) := by decide +kernel
theorem dX5_unpackKnown_8 : decode cX5_unpackKnown 8 = .ok (.getfield 9, 3) := by decide +kernel
theorem dX5_unpackKnown_11 : decode cX5_unpackKnown 11 = .ok (.iload_n 2, 1) := by decide +kernel
theorem dX5_unpackKnown_12 : decode cX5_unpackKnown 12 = .ok (.iload_n 1, 1) := by decide +kernel
theorem dX5_unpackKnown_13 : decode cX5_unpackKnown 13 = .ok (.iload_n 2, 1) := by decide +kernel
theorem dX5_unpackKnown_14 : decode cX5_unpackKnown 14 = .ok (.bipush 6, 2) := by decide +kernel
theorem dX5_unpackKnown_16 : decode cX5_unpackKnown 16 = .ok (.imul, 1) := by decide +kernel
theorem dX5_unpackKnown_17 : decode cX5_unpackKnown 17 = .ok (.ishr, 1) := by decide +kernel
theorem dX5_unpackKnown_18 : decode cX5_unpackKnown 18 = .ok (.bipush 63, 2) := by decide +kernel
theorem dX5_unpackKnown_20 : decode cX5_unpackKnown 20 = .ok (.iand, 1) := by decide +kernel
theorem dX5_unpackKnown_21 : decode cX5_unpackKnown 21 = .ok (.iastore, 1) := by decide +kernel
theorem dX5_unpackKnown_22 : decode cX5_unpackKnown 22 = .ok (.iinc 2 1, 3) := by decide +kernel
theorem dX5_unpackKnown_25 : decode cX5_unpackKnown 25 = .ok (.goto (-23), 3) := by decide +kernel
theorem dX5_unpackKnown_28 : decode cX5_unpackKnown 28 = .ok (.return_, 1) := by decide +kernel
theorem dX6_init_0 : decode cX6_init 0 = .ok (.aload_n 0, 1) := by decide +kernel
theorem dX6_init_1 : decode cX6_init 1 = .ok (.invokespecial 3, 3) := by decide +kernel
theorem dX6_init_4 : decode cX6_init 4 = .ok (.aload_n 0, 1) := by decide +kernel
theorem dX6_init_5 : decode cX6_init 5 = .ok (.new 9, 3) := by decide +kernel
theorem dX6_init_8 : decode cX6_init 8 = .ok (.dup, 1) := by decide +kernel
theorem dX6_init_9 : decode cX6_init 9 = .ok (.invokespecial 11, 3) := by decide +kernel
theorem dX6_init_12 : decode cX6_init 12 = .ok (.putfield 12, 3) := by decide +kernel
theorem dX6_init_15 : decode cX6_init 15 = .ok (.aload_n 0, 1) := by decide +kernel
theorem dX6_init_16 : decode cX6_init 16 = .ok (.new 16, 3) := by decide +kernel
theorem dX6_init_19 : decode cX6_init 19 = .ok (.dup, 1) := by decide +kernel
theorem dX6_init_20 : decode cX6_init 20 = .ok (.invokespecial 18, 3) := by decide +kernel
theorem dX6_init_23 : decode cX6_init 23 = .ok (.putfield 19, 3) := by decide +kernel
theorem dX6_init_26 : decode cX6_init 26 = .ok (.aload_n 0, 1) := by decide +kernel
theorem dX6_init_27 : decode cX6_init 27 = .ok (.new 16, 3) := by decide +kernel
theorem dX6_init_30 : decode cX6_init 30 = .ok (.dup, 1) := by decide +kernel
theorem dX6_init_31 : decode cX6_init 31 = .ok (.invokespecial 18, 3) := by decide +kernel
theorem dX6_init_34 : decode cX6_init 34 = .ok (.putfield 23, 3) := by decide +kernel
theorem dX6_init_37 : decode cX6_init 37 = .ok (.aload_n 0, 1) := by decide +kernel
theorem dX6_init_38 : decode cX6_init 38 = .ok (.iconst 2, 1) := by decide +kernel
theorem dX6_init_39 : decode cX6_init 39 = .ok (.anewarray 16, 3) := by decide +kernel
theorem dX6_init_42 : decode cX6_init 42 = .ok (.putfield 26, 3) := by decide +kernel
theorem dX6_init_45 : decode cX6_init 45 = .ok (.iconst 0, 1) := by decide +kernel
theorem dX6_init_46 : decode cX6_init 46 = .ok (.istore_n 1, 1) := by decide +kernel
theorem dX6_init_47 : decode cX6_init 47 = .ok (.iload_n 1, 1) := by decide +kernel
theorem dX6_init_48 : decode cX6_init 48 = .ok (.iconst 2, 1) := by decide +kernel
