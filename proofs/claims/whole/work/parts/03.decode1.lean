theorem dX0_init_0 : decode cX0_init 0 = .ok (.aload_n 0, 1) := by decide +kernel
theorem dX0_init_1 : decode cX0_init 1 = .ok (.invokespecial 3, 3) := by decide +kernel
theorem dX0_init_4 : decode cX0_init 4 = .ok (.aload_n 0, 1) := by decide +kernel
theorem dX0_init_5 : decode cX0_init 5 = .ok (.bipush 16, 2) := by decide +kernel
theorem dX0_init_7 : decode cX0_init 7 = .ok (.newarray .int, 2) := by decide +kernel
theorem dX0_init_9 : decode cX0_init 9 = .ok (.putfield 9, 3) := by decide +kernel
theorem dX0_init_12 : decode cX0_init 12 = .ok (.aload_n 0, 1) := by decide +kernel
theorem dX0_init_13 : decode cX0_init 13 = .ok (.aload_n 1, 1) := by decide +kernel
theorem dX0_init_14 : decode cX0_init 14 = .ok (.putfield 15, 3) := by decide +kernel
theorem dX0_init_17 : decode cX0_init 17 = .ok (.return_, 1) := by decide +kernel
theorem dX0_clear_0 : decode cX0_clear 0 = .ok (.aload_n 0, 1) := by decide +kernel
theorem dX0_clear_1 : decode cX0_clear 1 = .ok (.iconst 0, 1) := by decide +kernel
theorem dX0_clear_2 : decode cX0_clear 2 = .ok (.putfield 19, 3) := by decide +kernel
theorem dX0_clear_5 : decode cX0_clear 5 = .ok (.return_, 1) := by decide +kernel
theorem dX0_sizeOfReference_0 : decode cX0_sizeOfReference 0 = .ok (.aload_n 0, 1) := by decide +kernel
theorem dX0_sizeOfReference_1 : decode cX0_sizeOfReference 1 = .ok (.getfield 15, 3) := by decide +kernel
theorem dX0_sizeOfReference_4 : decode cX0_sizeOfReference 4 = .ok (.getfield 23, 3) := by decide +kernel
theorem dX0_sizeOfReference_7 : decode cX0_sizeOfReference 7 = .ok (.iload_n 1, 1) := by decide +kernel
theorem dX0_sizeOfReference_8 : decode cX0_sizeOfReference 8 = .ok (.iaload, 1) := by decide +kernel
theorem dX0_sizeOfReference_9 : decode cX0_sizeOfReference 9 = .ok (.iconst 2, 1) := by decide +kernel
theorem dX0_sizeOfReference_10 : decode cX0_sizeOfReference 10 = .ok (.if_icmp .ne 7, 3) := by decide +kernel
theorem dX0_sizeOfReference_13 : decode cX0_sizeOfReference 13 = .ok (.iconst 1, 1) := by decide +kernel
theorem dX0_sizeOfReference_14 : decode cX0_sizeOfReference 14 = .ok (.goto 4, 3) := by decide +kernel
theorem dX0_sizeOfReference_17 : decode cX0_sizeOfReference 17 = .ok (.iconst 0, 1) := by decide +kernel
theorem dX0_sizeOfReference_18 : decode cX0_sizeOfReference 18 = .ok (.istore_n 2, 1) := by decide +kernel
theorem dX0_sizeOfReference_19 : decode cX0_sizeOfReference 19 = .ok (.iload_n 2, 1) := by decide +kernel
theorem dX0_sizeOfReference_20 : decode cX0_sizeOfReference 20 = .ok (.ifCond .eq 9, 3) := by decide +kernel
theorem dX0_sizeOfReference_23 : decode cX0_sizeOfReference 23 = .ok (.aload_n 0, 1) := by decide +kernel
theorem dX0_sizeOfReference_24 : decode cX0_sizeOfReference 24 = .ok (.bipush 12, 2) := by decide +kernel
theorem dX0_sizeOfReference_26 : decode cX0_sizeOfReference 26 = .ok (.invokevirtual 28, 3) := by decide +kernel
theorem dX0_sizeOfReference_29 : decode cX0_sizeOfReference 29 = .ok (.aload_n 0, 1) := by decide +kernel
theorem dX0_sizeOfReference_30 : decode cX0_sizeOfReference 30 = .ok (.bipush 11, 2) := by decide +kernel
theorem dX0_sizeOfReference_32 : decode cX0_sizeOfReference 32 = .ok (.invokevirtual 28, 3) := by decide +kernel
theorem dX0_sizeOfReference_35 : decode cX0_sizeOfReference 35 = .ok (.aload_n 0, 1) := by decide +kernel
theorem dX0_sizeOfReference_36 : decode cX0_sizeOfReference 36 = .ok (.iload_n 1, 1) := by decide +kernel
theorem dX0_sizeOfReference_37 : decode cX0_sizeOfReference 37 = .ok (.invokevirtual 32, 3) := by decide +kernel
theorem dX0_sizeOfReference_40 : decode cX0_sizeOfReference 40 = .ok (.istore_n 3, 1) := by decide +kernel
theorem dX0_sizeOfReference_41 : decode cX0_sizeOfReference 41 = .ok (.iload_n 3, 1) := by decide +kernel
theorem dX0_sizeOfReference_42 : decode cX0_sizeOfReference 42 = .ok (.aload_n 0, 1) := by decide +kernel
theorem dX0_sizeOfReference_43 : decode cX0_sizeOfReference 43 = .ok (.iload_n 1, 1) := by decide +kernel
theorem dX0_sizeOfReference_44 : decode cX0_sizeOfReference 44 = .ok (.invokevirtual 36, 3) := by decide +kernel
theorem dX0_sizeOfReference_47 : decode cX0_sizeOfReference 47 = .ok (.iadd, 1) := by decide +kernel
theorem dX0_sizeOfReference_48 : decode cX0_sizeOfReference 48 = .ok (.istore_n 3, 1) := by decide +kernel
theorem dX0_sizeOfReference_49 : decode cX0_sizeOfReference 49 = .ok (.iload_n 2, 1) := by decide +kernel
theorem dX0_sizeOfReference_50 : decode cX0_sizeOfReference 50 = .ok (.ifCond .eq 9, 3) := by decide +kernel
theorem dX0_sizeOfReference_53 : decode cX0_sizeOfReference 53 = .ok (.iconst 0, 1) := by decide +kernel
theorem dX0_sizeOfReference_54 : decode cX0_sizeOfReference 54 = .ok (.iload_n 3, 1) := by decide +kernel
theorem dX0_sizeOfReference_55 : decode cX0_sizeOfReference 55 = .ok (.isub, 1) := by decide +kernel
theorem dX0_sizeOfReference_56 : decode cX0_sizeOfReference 56 = .ok (.goto 4, 3) := by decide +kernel
theorem dX0_sizeOfReference_59 : decode cX0_sizeOfReference 59 = .ok (.iload_n 3, 1) := by decide +kernel
theorem dX0_sizeOfReference_60 : decode cX0_sizeOfReference 60 = .ok (.ireturn, 1) := by decide +kernel
theorem dX0_sizeOfWord_0 : decode cX0_sizeOfWord 0 = .ok (.aload_n 0, 1) := by decide +kernel
theorem dX0_sizeOfWord_1 : decode cX0_sizeOfWord 1 = .ok (.getfield 15, 3) := by decide +kernel
theorem dX0_sizeOfWord_4 : decode cX0_sizeOfWord 4 = .ok (.getfield 23, 3) := by decide +kernel
theorem dX0_sizeOfWord_7 : decode cX0_sizeOfWord 7 = .ok (.iload_n 1, 1) := by decide +kernel
theorem dX0_sizeOfWord_8 : decode cX0_sizeOfWord 8 = .ok (.iaload, 1) := by decide +kernel
theorem dX0_sizeOfWord_9 : decode cX0_sizeOfWord 9 = .ok (.iconst 5, 1) := by decide +kernel
theorem dX0_sizeOfWord_10 : decode cX0_sizeOfWord 10 = .ok (.if_icmp .ne 7, 3) := by decide +kernel
theorem dX0_sizeOfWord_13 : decode cX0_sizeOfWord 13 = .ok (.iconst 1, 1) := by decide +kernel
theorem dX0_sizeOfWord_14 : decode cX0_sizeOfWord 14 = .ok (.goto 4, 3) := by decide +kernel
theorem dX0_sizeOfWord_17 : decode cX0_sizeOfWord 17 = .ok (.iconst 0, 1) := by decide +kernel
theorem dX0_sizeOfWord_18 : decode cX0_sizeOfWord 18 = .ok (.istore_n 2, 1) := by decide +kernel
theorem dX0_sizeOfWord_19 : decode cX0_sizeOfWord 19 = .ok (.iload_n 2, 1) := by decide +kernel
theorem dX0_sizeOfWord_20 : decode cX0_sizeOfWord 20 = .ok (.ifCond .eq 9, 3) := by decide +kernel
theorem dX0_sizeOfWord_23 : decode cX0_sizeOfWord 23 = .ok (.aload_n 0, 1) := by decide +kernel
theorem dX0_sizeOfWord_24 : decode cX0_sizeOfWord 24 = .ok (.bipush 14, 2) := by decide +kernel
theorem dX0_sizeOfWord_26 : decode cX0_sizeOfWord 26 = .ok (.invokevirtual 28, 3) := by decide +kernel
theorem dX0_sizeOfWord_29 : decode cX0_sizeOfWord 29 = .ok (.aload_n 0, 1) := by decide +kernel
theorem dX0_sizeOfWord_30 : decode cX0_sizeOfWord 30 = .ok (.bipush 13, 2) := by decide +kernel
theorem dX0_sizeOfWord_32 : decode cX0_sizeOfWord 32 = .ok (.invokevirtual 28, 3) := by decide +kernel
theorem dX0_sizeOfWord_35 : decode cX0_sizeOfWord 35 = .ok (.aload_n 0, 1) := by decide +kernel
theorem dX0_sizeOfWord_36 : decode cX0_sizeOfWord 36 = .ok (.iload_n 1, 1) := by decide +kernel
theorem dX0_sizeOfWord_37 : decode cX0_sizeOfWord 37 = .ok (.invokevirtual 32, 3) := by decide +kernel
theorem dX0_sizeOfWord_40 : decode cX0_sizeOfWord 40 = .ok (.bipush 100, 2) := by decide +kernel
theorem dX0_sizeOfWord_42 : decode cX0_sizeOfWord 42 = .ok (.isub, 1) := by decide +kernel
theorem dX0_sizeOfWord_43 : decode cX0_sizeOfWord 43 = .ok (.istore_n 3, 1) := by decide +kernel
theorem dX0_sizeOfWord_44 : decode cX0_sizeOfWord 44 = .ok (.iload_n 2, 1) := by decide +kernel
theorem dX0_sizeOfWord_45 : decode cX0_sizeOfWord 45 = .ok (.ifCond .eq 9, 3) := by decide +kernel
theorem dX0_sizeOfWord_48 : decode cX0_sizeOfWord 48 = .ok (.iload_n 3, 1) := by decide +kernel
theorem dX0_sizeOfWord_49 : decode cX0_sizeOfWord 49 = .ok (.iconst 2, 1) := by decide +kernel
theorem dX0_sizeOfWord_50 : decode cX0_sizeOfWord 50 = .ok (.imul, 1) := by decide +kernel
theorem dX0_sizeOfWord_51 : decode cX0_sizeOfWord 51 = .ok (.goto 4, 3) := by decide +kernel
theorem dX0_sizeOfWord_54 : decode cX0_sizeOfWord 54 = .ok (.iload_n 3, 1) := by decide +kernel
theorem dX0_sizeOfWord_55 : decode cX0_sizeOfWord 55 = .ok (.ireturn, 1) := by decide +kernel
theorem dX0_markOfReference_0 : decode cX0_markOfReference 0 = .ok (.aload_n 0, 1) := by decide +kernel
theorem dX0_markOfReference_1 : decode cX0_markOfReference 1 = .ok (.getfield 15, 3) := by decide +kernel
theorem dX0_markOfReference_4 : decode cX0_markOfReference 4 = .ok (.getfield 23, 3) := by decide +kernel
theorem dX0_markOfReference_7 : decode cX0_markOfReference 7 = .ok (.iload_n 1, 1) := by decide +kernel
theorem dX0_markOfReference_8 : decode cX0_markOfReference 8 = .ok (.iaload, 1) := by decide +kernel
theorem dX0_markOfReference_9 : decode cX0_markOfReference 9 = .ok (.istore_n 2, 1) := by decide +kernel
theorem dX0_markOfReference_10 : decode cX0_markOfReference 10 = .ok (.iload_n 2, 1) := by decide +kernel
theorem dX0_markOfReference_11 : decode cX0_markOfReference 11 = .ok (.iconst 3, 1) := by decide +kernel
theorem dX0_markOfReference_12 : decode cX0_markOfReference 12 = .ok (.if_icmp .ne 12, 3) := by decide +kernel
theorem dX0_markOfReference_15 : decode cX0_markOfReference 15 = .ok (.aload_n 0, 1) := by decide +kernel
theorem dX0_markOfReference_16 : decode cX0_markOfReference 16 = .ok (.bipush 22, 2) := by decide +kernel
theorem dX0_markOfReference_18 : decode cX0_markOfReference 18 = .ok (.invokevirtual 28, 3) := by decide +kernel
theorem dX0_markOfReference_21 : decode cX0_markOfReference 21 = .ok (.goto 14, 3) := by decide +kernel
theorem dX0_markOfReference_24 : decode cX0_markOfReference 24 = .ok (.iload_n 2, 1) := by decide +kernel
theorem dX0_markOfReference_25 : decode cX0_markOfReference 25 = .ok (.iconst 2, 1) := by decide +kernel
theorem dX0_markOfReference_26 : decode cX0_markOfReference 26 = .ok (.if_icmp .ne 9, 3) := by decide +kernel
theorem dX0_markOfReference_29 : decode cX0_markOfReference 29 = .ok (.aload_n 0, 1) := by decide +kernel
theorem dX0_markOfReference_30 : decode cX0_markOfReference 30 = .ok (.bipush 24, 2) := by decide +kernel
theorem dX0_markOfReference_32 : decode cX0_markOfReference 32 = .ok (.invokevirtual 28, 3) := by decide +kernel
theorem dX0_markOfReference_35 : decode cX0_markOfReference 35 = .ok (.aload_n 0, 1) := by decide +kernel
theorem dX0_markOfReference_36 : decode cX0_markOfReference 36 = .ok (.bipush 21, 2) := by decide +kernel
theorem dX0_markOfReference_38 : decode cX0_markOfReference 38 = .ok (.invokevirtual 28, 3) := by decide +kernel
theorem dX0_markOfReference_41 : decode cX0_markOfReference 41 = .ok (.aload_n 0, 1) := by decide +kernel
theorem dX0_markOfReference_42 : decode cX0_markOfReference 42 = .ok (.iload_n 1, 1) := by decide +kernel
theorem dX0_markOfReference_43 : decode cX0_markOfReference 43 = .ok (.invokevirtual 39, 3) := by decide +kernel
theorem dX0_markOfReference_46 : decode cX0_markOfReference 46 = .ok (.aload_n 0, 1) := by decide +kernel
theorem dX0_markOfReference_47 : decode cX0_markOfReference 47 = .ok (.getfield 15, 3) := by decide +kernel
theorem dX0_markOfReference_50 : decode cX0_markOfReference 50 = .ok (.getfield 42, 3) := by decide +kernel
theorem dX0_markOfReference_53 : decode cX0_markOfReference 53 = .ok (.iload_n 1, 1) := by decide +kernel
theorem dX0_markOfReference_54 : decode cX0_markOfReference 54 = .ok (.iaload, 1) := by decide +kernel
theorem dX0_markOfReference_55 : decode cX0_markOfReference 55 = .ok (.iadd, 1) := by decide +kernel
theorem dX0_markOfReference_56 : decode cX0_markOfReference 56 = .ok (.istore_n 3, 1) := by decide +kernel
theorem dX0_markOfReference_57 : decode cX0_markOfReference 57 = .ok (.iload_n 2, 1) := by decide +kernel
theorem dX0_markOfReference_58 : decode cX0_markOfReference 58 = .ok (.iconst 3, 1) := by decide +kernel
theorem dX0_markOfReference_59 : decode cX0_markOfReference 59 = .ok (.if_icmp .ne 9, 3) := by decide +kernel
theorem dX0_markOfReference_62 : decode cX0_markOfReference 62 = .ok (.iload_n 3, 1) := by decide +kernel
theorem dX0_markOfReference_63 : decode cX0_markOfReference 63 = .ok (.sipush 1000, 3) := by decide +kernel
theorem dX0_markOfReference_66 : decode cX0_markOfReference 66 = .ok (.isub, 1) := by decide +kernel
theorem dX0_markOfReference_67 : decode cX0_markOfReference 67 = .ok (.ireturn, 1) := by decide +kernel
theorem dX0_markOfReference_68 : decode cX0_markOfReference 68 = .ok (.iload_n 2, 1) := by decide +kernel
theorem dX0_markOfReference_69 : decode cX0_markOfReference 69 = .ok (.iconst 2, 1) := by decide +kernel
theorem dX0_markOfReference_70 : decode cX0_markOfReference 70 = .ok (.if_icmp .ne 9, 3) := by decide +kernel
theorem dX0_markOfReference_73 : decode cX0_markOfReference 73 = .ok (.iload_n 3, 1) := by decide +kernel
theorem dX0_markOfReference_74 : decode cX0_markOfReference 74 = .ok (.iconst 2, 1) := by decide +kernel
theorem dX0_markOfReference_75 : decode cX0_markOfReference 75 = .ok (.imul, 1) := by decide +kernel
theorem dX0_markOfReference_76 : decode cX0_markOfReference 76 = .ok (.goto 4, 3) := by decide +kernel
theorem dX0_markOfReference_79 : decode cX0_markOfReference 79 = .ok (.iload_n 3, 1) := by decide +kernel
theorem dX0_markOfReference_80 : decode cX0_markOfReference 80 = .ok (.ireturn, 1) := by decide +kernel
theorem dX0_markOfWord_0 : decode cX0_markOfWord 0 = .ok (.aload_n 0, 1) := by decide +kernel
theorem dX0_markOfWord_1 : decode cX0_markOfWord 1 = .ok (.bipush 23, 2) := by decide +kernel
theorem dX0_markOfWord_3 : decode cX0_markOfWord 3 = .ok (.invokevirtual 28, 3) := by decide +kernel
theorem dX0_markOfWord_6 : decode cX0_markOfWord 6 = .ok (.aload_n 0, 1) := by decide +kernel
theorem dX0_markOfWord_7 : decode cX0_markOfWord 7 = .ok (.iload_n 1, 1) := by decide +kernel
theorem dX0_markOfWord_8 : decode cX0_markOfWord 8 = .ok (.invokevirtual 39, 3) := by decide +kernel
theorem dX0_markOfWord_11 : decode cX0_markOfWord 11 = .ok (.istore_n 2, 1) := by decide +kernel
theorem dX0_markOfWord_12 : decode cX0_markOfWord 12 = .ok (.iload_n 2, 1) := by decide +kernel
theorem dX0_markOfWord_13 : decode cX0_markOfWord 13 = .ok (.aload_n 0, 1) := by decide +kernel
theorem dX0_markOfWord_14 : decode cX0_markOfWord 14 = .ok (.iload_n 1, 1) := by decide +kernel
theorem dX0_markOfWord_15 : decode cX0_markOfWord 15 = .ok (.invokevirtual 45, 3) := by decide +kernel
theorem dX0_markOfWord_18 : decode cX0_markOfWord 18 = .ok (.isub, 1) := by decide +kernel
theorem dX0_markOfWord_19 : decode cX0_markOfWord 19 = .ok (.ireturn, 1) := by decide +kernel
theorem dX0_lentSize_0 : decode cX0_lentSize 0 = .ok (.aload_n 0, 1) := by decide +kernel
theorem dX0_lentSize_1 : decode cX0_lentSize 1 = .ok (.bipush 10, 2) := by decide +kernel
theorem dX0_lentSize_3 : decode cX0_lentSize 3 = .ok (.invokevirtual 28, 3) := by decide +kernel
theorem dX0_lentSize_6 : decode cX0_lentSize 6 = .ok (.aload_n 0, 1) := by decide +kernel
theorem dX0_lentSize_7 : decode cX0_lentSize 7 = .ok (.getfield 15, 3) := by decide +kernel
theorem dX0_lentSize_10 : decode cX0_lentSize 10 = .ok (.aload_n 0, 1) := by decide +kernel
theorem dX0_lentSize_11 : decode cX0_lentSize 11 = .ok (.getfield 15, 3) := by decide +kernel
theorem dX0_lentSize_14 : decode cX0_lentSize 14 = .ok (.getfield 42, 3) := by decide +kernel
theorem dX0_lentSize_17 : decode cX0_lentSize 17 = .ok (.iload_n 1, 1) := by decide +kernel
theorem dX0_lentSize_18 : decode cX0_lentSize 18 = .ok (.invokevirtual 48, 3) := by decide +kernel
theorem dX0_lentSize_21 : decode cX0_lentSize 21 = .ok (.ireturn, 1) := by decide +kernel
theorem dX0_lentMark_0 : decode cX0_lentMark 0 = .ok (.aload_n 0, 1) := by decide +kernel
theorem dX0_lentMark_1 : decode cX0_lentMark 1 = .ok (.bipush 20, 2) := by decide +kernel
theorem dX0_lentMark_3 : decode cX0_lentMark 3 = .ok (.invokevirtual 28, 3) := by decide +kernel
theorem dX0_lentMark_6 : decode cX0_lentMark 6 = .ok (.iload_n 1, 1) := by decide +kernel
theorem dX0_lentMark_7 : decode cX0_lentMark 7 = .ok (.ireturn, 1) := by decide +kernel
theorem dX0_begin_0 : decode cX0_begin 0 = .ok (.aload_n 0, 1) := by decide +kernel
theorem dX0_begin_1 : decode cX0_begin 1 = .ok (.getfield 19, 3) := by decide +kernel
theorem dX0_begin_4 : decode cX0_begin 4 = .ok (.aload_n 0, 1) := by decide +kernel
theorem dX0_begin_5 : decode cX0_begin 5 = .ok (.getfield 9, 3) := by decide +kernel
theorem dX0_begin_8 : decode cX0_begin 8 = .ok (.arraylength, 1) := by decide +kernel
theorem dX0_begin_9 : decode cX0_begin 9 = .ok (.if_icmp .ge 23, 3) := by decide +kernel
theorem dX0_begin_12 : decode cX0_begin 12 = .ok (.aload_n 0, 1) := by decide +kernel
theorem dX0_begin_13 : decode cX0_begin 13 = .ok (.getfield 9, 3) := by decide +kernel
theorem dX0_begin_16 : decode cX0_begin 16 = .ok (.aload_n 0, 1) := by decide +kernel
theorem dX0_begin_17 : decode cX0_begin 17 = .ok (.getfield 19, 3) := by decide +kernel
theorem dX0_begin_20 : decode cX0_begin 20 = .ok (.iload_n 1, 1) := by decide +kernel
theorem dX0_begin_21 : decode cX0_begin 21 = .ok (.iastore, 1) := by decide +kernel
theorem dX0_begin_22 : decode cX0_begin 22 = .ok (.aload_n 0, 1) := by decide +kernel
theorem dX0_begin_23 : decode cX0_begin 23 = .ok (.dup, 1) := by decide +kernel
theorem dX0_begin_24 : decode cX0_begin 24 = .ok (.getfield 19, 3) := by decide +kernel
theorem dX0_begin_27 : decode cX0_begin 27 = .ok (.iconst 1, 1) := by decide +kernel
theorem dX0_begin_28 : decode cX0_begin 28 = .ok (.iadd, 1) := by decide +kernel
theorem dX0_begin_29 : decode cX0_begin 29 = .ok (.putfield 19, 3) := by decide +kernel
theorem dX0_begin_32 : decode cX0_begin 32 = .ok (.return_, 1) := by decide +kernel
theorem dX1_init_0 : decode cX1_init 0 = .ok (.aload_n 0, 1) := by decide +kernel
theorem dX1_init_1 : decode cX1_init 1 = .ok (.invokespecial 3, 3) := by decide +kernel
theorem dX1_init_4 : decode cX1_init 4 = .ok (.aload_n 0, 1) := by decide +kernel
theorem dX1_init_5 : decode cX1_init 5 = .ok (.new 9, 3) := by decide +kernel
theorem dX1_init_8 : decode cX1_init 8 = .ok (.dup, 1) := by decide +kernel
theorem dX1_init_9 : decode cX1_init 9 = .ok (.invokespecial 11, 3) := by decide +kernel
theorem dX1_init_12 : decode cX1_init 12 = .ok (.putfield 12, 3) := by decide +kernel
theorem dX1_init_15 : decode cX1_init 15 = .ok (.aload_n 0, 1) := by decide +kernel
theorem dX1_init_16 : decode cX1_init 16 = .ok (.bipush 12, 2) := by decide +kernel
theorem dX1_init_18 : decode cX1_init 18 = .ok (.newarray .int, 2) := by decide +kernel
theorem dX1_init_20 : decode cX1_init 20 = .ok (.putfield 18, 3) := by decide +kernel
theorem dX1_init_23 : decode cX1_init 23 = .ok (.aload_n 0, 1) := by decide +kernel
theorem dX1_init_24 : decode cX1_init 24 = .ok (.aload_n 1, 1) := by decide +kernel
theorem dX1_init_25 : decode cX1_init 25 = .ok (.putfield 22, 3) := by decide +kernel
theorem dX1_init_28 : decode cX1_init 28 = .ok (.aload_n 0, 1) := by decide +kernel
theorem dX1_init_29 : decode cX1_init 29 = .ok (.aload_n 2, 1) := by decide +kernel
theorem dX1_init_30 : decode cX1_init 30 = .ok (.putfield 26, 3) := by decide +kernel
theorem dX1_init_33 : decode cX1_init 33 = .ok (.aload_n 0, 1) := by decide +kernel
theorem dX1_init_34 : decode cX1_init 34 = .ok (.aload_n 3, 1) := by decide +kernel
theorem dX1_init_35 : decode cX1_init 35 = .ok (.putfield 29, 3) := by decide +kernel
theorem dX1_init_38 : decode cX1_init 38 = .ok (.aload_n 0, 1) := by decide +kernel
theorem dX1_init_39 : decode cX1_init 39 = .ok (.aload_n 0, 1) := by decide +kernel
theorem dX1_init_40 : decode cX1_init 40 = .ok (.getfield 18, 3) := by decide +kernel
theorem dX1_init_43 : decode cX1_init 43 = .ok (.putfield 33, 3) := by decide +kernel
theorem dX1_init_46 : decode cX1_init 46 = .ok (.return_, 1) := by decide +kernel
theorem dX1_guessBehind_0 : decode cX1_guessBehind 0 = .ok (.aload_n 0, 1) := by decide +kernel
theorem dX1_guessBehind_1 : decode cX1_guessBehind 1 = .ok (.getfield 26, 3) := by decide +kernel
theorem dX1_guessBehind_4 : decode cX1_guessBehind 4 = .ok (.aload_n 0, 1) := by decide +kernel
theorem dX1_guessBehind_5 : decode cX1_guessBehind 5 = .ok (.getfield 22, 3) := by decide +kernel
theorem dX1_guessBehind_8 : decode cX1_guessBehind 8 = .ok (.invokevirtual 36, 3) := by decide +kernel
theorem dX1_guessBehind_11 : decode cX1_guessBehind 11 = .ok (.iconst 0, 1) := by decide +kernel
theorem dX1_guessBehind_12 : decode cX1_guessBehind 12 = .ok (.istore_n 3, 1) := by decide +kernel
theorem dX1_guessBehind_13 : decode cX1_guessBehind 13 = .ok (.iload_n 3, 1) := by decide +kernel
theorem dX1_guessBehind_14 : decode cX1_guessBehind 14 = .ok (.iload_n 2, 1) := by decide +kernel
theorem dX1_guessBehind_15 : decode cX1_guessBehind 15 = .ok (.if_icmp .ge 21, 3) := by decide +kernel
theorem dX1_guessBehind_18 : decode cX1_guessBehind 18 = .ok (.aload_n 0, 1) := by decide +kernel
theorem dX1_guessBehind_19 : decode cX1_guessBehind 19 = .ok (.getfield 29, 3) := by decide +kernel
theorem dX1_guessBehind_22 : decode cX1_guessBehind 22 = .ok (.aload_n 0, 1) := by decide +kernel
theorem dX1_guessBehind_23 : decode cX1_guessBehind 23 = .ok (.getfield 26, 3) := by decide +kernel
theorem dX1_guessBehind_26 : decode cX1_guessBehind 26 = .ok (.invokevirtual 42, 3) := by decide +kernel
theorem dX1_guessBehind_29 : decode cX1_guessBehind 29 = .ok (.pop, 1) := by decide +kernel
theorem dX1_guessBehind_30 : decode cX1_guessBehind 30 = .ok (.iinc 3 1, 3) := by decide +kernel
theorem dX1_guessBehind_33 : decode cX1_guessBehind 33 = .ok (.goto (-20), 3) := by decide +kernel
theorem dX1_guessBehind_36 : decode cX1_guessBehind 36 = .ok (.aload_n 0, 1) := by decide +kernel
theorem dX1_guessBehind_37 : decode cX1_guessBehind 37 = .ok (.getfield 26, 3) := by decide +kernel
theorem dX1_guessBehind_40 : decode cX1_guessBehind 40 = .ok (.getfield 48, 3) := by decide +kernel
theorem dX1_guessBehind_43 : decode cX1_guessBehind 43 = .ok (.iload_n 1, 1) := by decide +kernel
theorem dX1_guessBehind_44 : decode cX1_guessBehind 44 = .ok (.iaload, 1) := by decide +kernel
theorem dX1_guessBehind_45 : decode cX1_guessBehind 45 = .ok (.ireturn, 1) := by decide +kernel
theorem dX1_lying_0 : decode cX1_lying 0 = .ok (.aload_n 0, 1) := by decide +kernel
theorem dX1_lying_1 : decode cX1_lying 1 = .ok (.getfield 29, 3) := by decide +kernel
theorem dX1_lying_4 : decode cX1_lying 4 = .ok (.aload_n 0, 1) := by decide +kernel
theorem dX1_lying_5 : decode cX1_lying 5 = .ok (.getfield 22, 3) := by decide +kernel
theorem dX1_lying_8 : decode cX1_lying 8 = .ok (.invokevirtual 51, 3) := by decide +kernel
theorem dX1_lying_11 : decode cX1_lying 11 = .ok (.astore_n 1, 1) := by decide +kernel
theorem dX1_lying_12 : decode cX1_lying 12 = .ok (.iconst 0, 1) := by decide +kernel
theorem dX1_lying_13 : decode cX1_lying 13 = .ok (.istore_n 2, 1) := by decide +kernel
theorem dX1_lying_14 : decode cX1_lying 14 = .ok (.iconst 0, 1) := by decide +kernel
theorem dX1_lying_15 : decode cX1_lying 15 = .ok (.istore_n 3, 1) := by decide +kernel
theorem dX1_lying_16 : decode cX1_lying 16 = .ok (.iload_n 3, 1) := by decide +kernel
theorem dX1_lying_17 : decode cX1_lying 17 = .ok (.aload_n 0, 1) := by decide +kernel
theorem dX1_lying_18 : decode cX1_lying 18 = .ok (.getfield 22, 3) := by decide +kernel
theorem dX1_lying_21 : decode cX1_lying 21 = .ok (.getfield 55, 3) := by decide +kernel
theorem dX1_lying_24 : decode cX1_lying 24 = .ok (.if_icmp .ge 69, 3) := by decide +kernel
theorem dX1_lying_27 : decode cX1_lying 27 = .ok (.aload_n 0, 1) := by decide +kernel
theorem dX1_lying_28 : decode cX1_lying 28 = .ok (.getfield 22, 3) := by decide +kernel
theorem dX1_lying_31 : decode cX1_lying 31 = .ok (.getfield 59, 3) := by decide +kernel
theorem dX1_lying_34 : decode cX1_lying 34 = .ok (.iload_n 3, 1) := by decide +kernel
theorem dX1_lying_35 : decode cX1_lying 35 = .ok (.iaload, 1) := by decide +kernel
theorem dX1_lying_36 : decode cX1_lying 36 = .ok (.istore 4, 2) := by decide +kernel
theorem dX1_lying_38 : decode cX1_lying 38 = .ok (.aload_n 0, 1) := by decide +kernel
theorem dX1_lying_39 : decode cX1_lying 39 = .ok (.getfield 22, 3) := by decide +kernel
theorem dX1_lying_42 : decode cX1_lying 42 = .ok (.iload_n 3, 1) := by decide +kernel
theorem dX1_lying_43 : decode cX1_lying 43 = .ok (.invokevirtual 62, 3) := by decide +kernel
theorem dX1_lying_46 : decode cX1_lying 46 = .ok (.ifCond .eq 41, 3) := by decide +kernel
theorem dX1_lying_49 : decode cX1_lying 49 = .ok (.aload_n 0, 1) := by decide +kernel
theorem dX1_lying_50 : decode cX1_lying 50 = .ok (.getfield 22, 3) := by decide +kernel
theorem dX1_lying_53 : decode cX1_lying 53 = .ok (.iload 4, 2) := by decide +kernel
theorem dX1_lying_55 : decode cX1_lying 55 = .ok (.invokevirtual 66, 3) := by decide +kernel
theorem dX1_lying_58 : decode cX1_lying 58 = .ok (.ifCond .eq 29, 3) := by decide +kernel
theorem dX1_lying_61 : decode cX1_lying 61 = .ok (.aload_n 0, 1) := by decide +kernel
theorem dX1_lying_62 : decode cX1_lying 62 = .ok (.getfield 22, 3) := by decide +kernel
theorem dX1_lying_65 : decode cX1_lying 65 = .ok (.getfield 48, 3) := by decide +kernel
theorem dX1_lying_68 : decode cX1_lying 68 = .ok (.iload 4, 2) := by decide +kernel
theorem dX1_lying_70 : decode cX1_lying 70 = .ok (.iaload, 1) := by decide +kernel
theorem dX1_lying_71 : decode cX1_lying 71 = .ok (.aload_n 1, 1) := by decide +kernel
theorem dX1_lying_72 : decode cX1_lying 72 = .ok (.getfield 69, 3) := by decide +kernel
theorem dX1_lying_75 : decode cX1_lying 75 = .ok (.iload 4, 2) := by decide +kernel
theorem dX1_lying_77 : decode cX1_lying 77 = .ok (.iaload, 1) := by decide +kernel
theorem dX1_lying_78 : decode cX1_lying 78 = .ok (.if_icmp .eq 9, 3) := by decide +kernel
theorem dX1_lying_81 : decode cX1_lying 81 = .ok (.iload_n 2, 1) := by decide +kernel
theorem dX1_lying_82 : decode cX1_lying 82 = .ok (.iconst 1, 1) := by decide +kernel
theorem dX1_lying_83 : decode cX1_lying 83 = .ok (.iload_n 3, 1) := by decide +kernel
theorem dX1_lying_84 : decode cX1_lying 84 = .ok (.ishl, 1) := by decide +kernel
theorem dX1_lying_85 : decode cX1_lying 85 = .ok (.ior, 1) := by decide +kernel
theorem dX1_lying_86 : decode cX1_lying 86 = .ok (.istore_n 2, 1) := by decide +kernel
theorem dX1_lying_87 : decode cX1_lying 87 = .ok (.iinc 3 1, 3) := by decide +kernel
theorem dX1_lying_90 : decode cX1_lying 90 = .ok (.goto (-74), 3) := by decide +kernel
theorem dX1_lying_93 : decode cX1_lying 93 = .ok (.iload_n 2, 1) := by decide +kernel
theorem dX1_lying_94 : decode cX1_lying 94 = .ok (.ireturn, 1) := by decide +kernel
theorem dX1_movedBy_0 : decode cX1_movedBy 0 = .ok (.aload_n 0, 1) := by decide +kernel
theorem dX1_movedBy_1 : decode cX1_movedBy 1 = .ok (.getfield 29, 3) := by decide +kernel
theorem dX1_movedBy_4 : decode cX1_movedBy 4 = .ok (.aload_n 0, 1) := by decide +kernel
theorem dX1_movedBy_5 : decode cX1_movedBy 5 = .ok (.getfield 22, 3) := by decide +kernel
theorem dX1_movedBy_8 : decode cX1_movedBy 8 = .ok (.invokevirtual 51, 3) := by decide +kernel
theorem dX1_movedBy_11 : decode cX1_movedBy 11 = .ok (.astore_n 2, 1) := by decide +kernel
theorem dX1_movedBy_12 : decode cX1_movedBy 12 = .ok (.aload_n 0, 1) := by decide +kernel
theorem dX1_movedBy_13 : decode cX1_movedBy 13 = .ok (.getfield 12, 3) := by decide +kernel
theorem dX1_movedBy_16 : decode cX1_movedBy 16 = .ok (.aload_n 0, 1) := by decide +kernel
theorem dX1_movedBy_17 : decode cX1_movedBy 17 = .ok (.getfield 22, 3) := by decide +kernel
theorem dX1_movedBy_20 : decode cX1_movedBy 20 = .ok (.iload_n 1, 1) := by decide +kernel
theorem dX1_movedBy_21 : decode cX1_movedBy 21 = .ok (.invokevirtual 72, 3) := by decide +kernel
theorem dX1_movedBy_24 : decode cX1_movedBy 24 = .ok (.iconst 0, 1) := by decide +kernel
theorem dX1_movedBy_25 : decode cX1_movedBy 25 = .ok (.istore_n 3, 1) := by decide +kernel
theorem dX1_movedBy_26 : decode cX1_movedBy 26 = .ok (.iconst 0, 1) := by decide +kernel
theorem dX1_movedBy_27 : decode cX1_movedBy 27 = .ok (.istore 4, 2) := by decide +kernel
theorem dX1_movedBy_29 : decode cX1_movedBy 29 = .ok (.iload 4, 2) := by decide +kernel
theorem dX1_movedBy_31 : decode cX1_movedBy 31 = .ok (.aload_n 0, 1) := by decide +kernel
theorem dX1_movedBy_32 : decode cX1_movedBy 32 = .ok (.getfield 22, 3) := by decide +kernel
theorem dX1_movedBy_35 : decode cX1_movedBy 35 = .ok (.getfield 55, 3) := by decide +kernel
theorem dX1_movedBy_38 : decode cX1_movedBy 38 = .ok (.if_icmp .ge 29, 3) := by decide +kernel
theorem dX1_movedBy_41 : decode cX1_movedBy 41 = .ok (.aload_n 0, 1) := by decide +kernel
theorem dX1_movedBy_42 : decode cX1_movedBy 42 = .ok (.getfield 12, 3) := by decide +kernel
theorem dX1_movedBy_45 : decode cX1_movedBy 45 = .ok (.iload 4, 2) := by decide +kernel
theorem dX1_movedBy_47 : decode cX1_movedBy 47 = .ok (.aload_n 2, 1) := by decide +kernel
theorem dX1_movedBy_48 : decode cX1_movedBy 48 = .ok (.invokevirtual 76, 3) := by decide +kernel
theorem dX1_movedBy_51 : decode cX1_movedBy 51 = .ok (.ifCond .eq 10, 3) := by decide +kernel
theorem dX1_movedBy_54 : decode cX1_movedBy 54 = .ok (.iload_n 3, 1) := by decide +kernel
theorem dX1_movedBy_55 : decode cX1_movedBy 55 = .ok (.iconst 1, 1) := by decide +kernel
theorem dX1_movedBy_56 : decode cX1_movedBy 56 = .ok (.iload 4, 2) := by decide +kernel
theorem dX1_movedBy_58 : decode cX1_movedBy 58 = .ok (.ishl, 1) := by decide +kernel
theorem dX1_movedBy_59 : decode cX1_movedBy 59 = .ok (.ior, 1) := by decide +kernel
theorem dX1_movedBy_60 : decode cX1_movedBy 60 = .ok (.istore_n 3, 1) := by decide +kernel
theorem dX1_movedBy_61 : decode cX1_movedBy 61 = .ok (.iinc 4 1, 3) := by decide +kernel
theorem dX1_movedBy_64 : decode cX1_movedBy 64 = .ok (.goto (-35), 3) := by decide +kernel
theorem dX1_movedBy_67 : decode cX1_movedBy 67 = .ok (.iload_n 3, 1) := by decide +kernel
theorem dX1_movedBy_68 : decode cX1_movedBy 68 = .ok (.ireturn, 1) := by decide +kernel
theorem dX1_widestOf_0 : decode cX1_widestOf 0 = .ok (.aload_n 0, 1) := by decide +kernel
theorem dX1_widestOf_1 : decode cX1_widestOf 1 = .ok (.getfield 22, 3) := by decide +kernel
theorem dX1_widestOf_4 : decode cX1_widestOf 4 = .ok (.getfield 59, 3) := by decide +kernel
theorem dX1_widestOf_7 : decode cX1_widestOf 7 = .ok (.iload_n 1, 1) := by decide +kernel
theorem dX1_widestOf_8 : decode cX1_widestOf 8 = .ok (.iaload, 1) := by decide +kernel
theorem dX1_widestOf_9 : decode cX1_widestOf 9 = .ok (.istore_n 2, 1) := by decide +kernel
theorem dX1_widestOf_10 : decode cX1_widestOf 10 = .ok (.aload_n 0, 1) := by decide +kernel
theorem dX1_widestOf_11 : decode cX1_widestOf 11 = .ok (.iload_n 1, 1) := by decide +kernel
theorem dX1_widestOf_12 : decode cX1_widestOf 12 = .ok (.iload_n 2, 1) := by decide +kernel
theorem dX1_widestOf_13 : decode cX1_widestOf 13 = .ok (.invokevirtual 80, 3) := by decide +kernel
theorem dX1_widestOf_16 : decode cX1_widestOf 16 = .ok (.istore_n 3, 1) := by decide +kernel
theorem dX1_widestOf_17 : decode cX1_widestOf 17 = .ok (.bipush 20, 2) := by decide +kernel
theorem dX1_widestOf_19 : decode cX1_widestOf 19 = .ok (.istore 4, 2) := by decide +kernel
theorem dX1_widestOf_21 : decode cX1_widestOf 21 = .ok (.iload 4, 2) := by decide +kernel
theorem dX1_widestOf_23 : decode cX1_widestOf 23 = .ok (.iload_n 2, 1) := by decide +kernel
theorem dX1_widestOf_24 : decode cX1_widestOf 24 = .ok (.if_icmp .le 23, 3) := by decide +kernel
theorem dX1_widestOf_27 : decode cX1_widestOf 27 = .ok (.aload_n 0, 1) := by decide +kernel
theorem dX1_widestOf_28 : decode cX1_widestOf 28 = .ok (.iload_n 1, 1) := by decide +kernel
theorem dX1_widestOf_29 : decode cX1_widestOf 29 = .ok (.iload 4, 2) := by decide +kernel
theorem dX1_widestOf_31 : decode cX1_widestOf 31 = .ok (.invokevirtual 80, 3) := by decide +kernel
theorem dX1_widestOf_34 : decode cX1_widestOf 34 = .ok (.iload_n 3, 1) := by decide +kernel
theorem dX1_widestOf_35 : decode cX1_widestOf 35 = .ok (.if_icmp .ne 6, 3) := by decide +kernel
theorem dX1_widestOf_38 : decode cX1_widestOf 38 = .ok (.iload 4, 2) := by decide +kernel
theorem dX1_widestOf_40 : decode cX1_widestOf 40 = .ok (.ireturn, 1) := by decide +kernel
theorem dX1_widestOf_41 : decode cX1_widestOf 41 = .ok (.iinc 4 (-1), 3) := by decide +kernel
theorem dX1_widestOf_44 : decode cX1_widestOf 44 = .ok (.goto (-23), 3) := by decide +kernel
theorem dX1_widestOf_47 : decode cX1_widestOf 47 = .ok (.iload_n 2, 1) := by decide +kernel
theorem dX1_widestOf_48 : decode cX1_widestOf 48 = .ok (.ireturn, 1) := by decide +kernel
theorem dX1_lastPageWith_0 : decode cX1_lastPageWith 0 = .ok (.aload_n 0, 1) := by decide +kernel
theorem dX1_lastPageWith_1 : decode cX1_lastPageWith 1 = .ok (.getfield 26, 3) := by decide +kernel
theorem dX1_lastPageWith_4 : decode cX1_lastPageWith 4 = .ok (.aload_n 0, 1) := by decide +kernel
theorem dX1_lastPageWith_5 : decode cX1_lastPageWith 5 = .ok (.getfield 22, 3) := by decide +kernel
theorem dX1_lastPageWith_8 : decode cX1_lastPageWith 8 = .ok (.invokevirtual 36, 3) := by decide +kernel
theorem dX1_lastPageWith_11 : decode cX1_lastPageWith 11 = .ok (.aload_n 0, 1) := by decide +kernel
theorem dX1_lastPageWith_12 : decode cX1_lastPageWith 12 = .ok (.getfield 26, 3) := by decide +kernel
theorem dX1_lastPageWith_15 : decode cX1_lastPageWith 15 = .ok (.getfield 59, 3) := by decide +kernel
theorem dX1_lastPageWith_18 : decode cX1_lastPageWith 18 = .ok (.iload_n 1, 1) := by decide +kernel
theorem dX1_lastPageWith_19 : decode cX1_lastPageWith 19 = .ok (.iload_n 2, 1) := by decide +kernel
theorem dX1_lastPageWith_20 : decode cX1_lastPageWith 20 = .ok (.iastore, 1) := by decide +kernel
theorem dX1_lastPageWith_21 : decode cX1_lastPageWith 21 = .ok (.aload_n 0, 1) := by decide +kernel
theorem dX1_lastPageWith_22 : decode cX1_lastPageWith 22 = .ok (.getfield 26, 3) := by decide +kernel
theorem dX1_lastPageWith_25 : decode cX1_lastPageWith 25 = .ok (.invokevirtual 84, 3) := by decide +kernel
theorem dX1_lastPageWith_28 : decode cX1_lastPageWith 28 = .ok (.aload_n 0, 1) := by decide +kernel
theorem dX1_lastPageWith_29 : decode cX1_lastPageWith 29 = .ok (.getfield 29, 3) := by decide +kernel
theorem dX1_lastPageWith_32 : decode cX1_lastPageWith 32 = .ok (.aload_n 0, 1) := by decide +kernel
theorem dX1_lastPageWith_33 : decode cX1_lastPageWith 33 = .ok (.getfield 26, 3) := by decide +kernel
theorem dX1_lastPageWith_36 : decode cX1_lastPageWith 36 = .ok (.iconst 0, 1) := by decide +kernel
theorem dX1_lastPageWith_37 : decode cX1_lastPageWith 37 = .ok (.invokevirtual 87, 3) := by decide +kernel
theorem dX1_lastPageWith_40 : decode cX1_lastPageWith 40 = .ok (.aload_n 0, 1) := by decide +kernel
theorem dX1_lastPageWith_41 : decode cX1_lastPageWith 41 = .ok (.getfield 26, 3) := by decide +kernel
theorem dX1_lastPageWith_44 : decode cX1_lastPageWith 44 = .ok (.invokevirtual 91, 3) := by decide +kernel
theorem dX1_lastPageWith_47 : decode cX1_lastPageWith 47 = .ok (.ireturn, 1) := by decide +kernel
theorem dX1_restlessFirst_0 : decode cX1_restlessFirst 0 = .ok (.iconst 1, 1) := by decide +kernel
theorem dX1_restlessFirst_1 : decode cX1_restlessFirst 1 = .ok (.istore_n 1, 1) := by decide +kernel
theorem dX1_restlessFirst_2 : decode cX1_restlessFirst 2 = .ok (.iload_n 1, 1) := by decide +kernel
theorem dX1_restlessFirst_3 : decode cX1_restlessFirst 3 = .ok (.bipush 87, 2) := by decide +kernel
theorem dX1_restlessFirst_5 : decode cX1_restlessFirst 5 = .ok (.if_icmp .gt 59, 3) := by decide +kernel
theorem dX1_restlessFirst_8 : decode cX1_restlessFirst 8 = .ok (.aload_n 0, 1) := by decide +kernel
theorem dX1_restlessFirst_9 : decode cX1_restlessFirst 9 = .ok (.getfield 26, 3) := by decide +kernel
theorem dX1_restlessFirst_12 : decode cX1_restlessFirst 12 = .ok (.aload_n 0, 1) := by decide +kernel
theorem dX1_restlessFirst_13 : decode cX1_restlessFirst 13 = .ok (.getfield 22, 3) := by decide +kernel
theorem dX1_restlessFirst_16 : decode cX1_restlessFirst 16 = .ok (.invokevirtual 36, 3) := by decide +kernel
theorem dX1_restlessFirst_19 : decode cX1_restlessFirst 19 = .ok (.aload_n 0, 1) := by decide +kernel
theorem dX1_restlessFirst_20 : decode cX1_restlessFirst 20 = .ok (.getfield 26, 3) := by decide +kernel
theorem dX1_restlessFirst_23 : decode cX1_restlessFirst 23 = .ok (.iload_n 1, 1) := by decide +kernel
theorem dX1_restlessFirst_24 : decode cX1_restlessFirst 24 = .ok (.putfield 95, 3) := by decide +kernel
theorem dX1_restlessFirst_27 : decode cX1_restlessFirst 27 = .ok (.aload_n 0, 1) := by decide +kernel
theorem dX1_restlessFirst_28 : decode cX1_restlessFirst 28 = .ok (.getfield 26, 3) := by decide +kernel
theorem dX1_restlessFirst_31 : decode cX1_restlessFirst 31 = .ok (.invokevirtual 84, 3) := by decide +kernel
theorem dX1_restlessFirst_34 : decode cX1_restlessFirst 34 = .ok (.aload_n 0, 1) := by decide +kernel
theorem dX1_restlessFirst_35 : decode cX1_restlessFirst 35 = .ok (.getfield 29, 3) := by decide +kernel
theorem dX1_restlessFirst_38 : decode cX1_restlessFirst 38 = .ok (.aload_n 0, 1) := by decide +kernel
theorem dX1_restlessFirst_39 : decode cX1_restlessFirst 39 = .ok (.getfield 26, 3) := by decide +kernel
theorem dX1_restlessFirst_42 : decode cX1_restlessFirst 42 = .ok (.iconst 1, 1) := by decide +kernel
theorem dX1_restlessFirst_43 : decode cX1_restlessFirst 43 = .ok (.invokevirtual 87, 3) := by decide +kernel
theorem dX1_restlessFirst_46 : decode cX1_restlessFirst 46 = .ok (.aload_n 0, 1) := by decide +kernel
theorem dX1_restlessFirst_47 : decode cX1_restlessFirst 47 = .ok (.getfield 29, 3) := by decide +kernel
theorem dX1_restlessFirst_50 : decode cX1_restlessFirst 50 = .ok (.getfield 98, 3) := by decide +kernel
theorem dX1_restlessFirst_53 : decode cX1_restlessFirst 53 = .ok (.ifCond .le 5, 3) := by decide +kernel
theorem dX1_restlessFirst_56 : decode cX1_restlessFirst 56 = .ok (.iload_n 1, 1) := by decide +kernel
theorem dX1_restlessFirst_57 : decode cX1_restlessFirst 57 = .ok (.ireturn, 1) := by decide +kernel
theorem dX1_restlessFirst_58 : decode cX1_restlessFirst 58 = .ok (.iinc 1 1, 3) := by decide +kernel
theorem dX1_restlessFirst_61 : decode cX1_restlessFirst 61 = .ok (.goto (-59), 3) := by decide +kernel
theorem dX1_restlessFirst_64 : decode cX1_restlessFirst 64 = .ok (.ldc 101, 2) := by decide +kernel
theorem dX1_restlessFirst_66 : decode cX1_restlessFirst 66 = .ok (.ireturn, 1) := by decide +kernel
theorem dX1_expect_0 : decode cX1_expect 0 = .ok (.aload_n 0, 1) := by decide +kernel
theorem dX1_expect_1 : decode cX1_expect 1 = .ok (.iload_n 1, 1) := by decide +kernel
theorem dX1_expect_2 : decode cX1_expect 2 = .ok (.putfield 102, 3) := by decide +kernel
theorem dX1_expect_5 : decode cX1_expect 5 = .ok (.aload_n 0, 1) := by decide +kernel
theorem dX1_expect_6 : decode cX1_expect 6 = .ok (.aload_n 2, 1) := by decide +kernel
theorem dX1_expect_7 : decode cX1_expect 7 = .ok (.putfield 33, 3) := by decide +kernel
theorem dX1_expect_10 : decode cX1_expect 10 = .ok (.aload_n 0, 1) := by decide +kernel
theorem dX1_expect_11 : decode cX1_expect 11 = .ok (.iload_n 3, 1) := by decide +kernel
theorem dX1_expect_12 : decode cX1_expect 12 = .ok (.putfield 105, 3) := by decide +kernel
theorem dX1_expect_15 : decode cX1_expect 15 = .ok (.aload_n 0, 1) := by decide +kernel
theorem dX1_expect_16 : decode cX1_expect 16 = .ok (.iload 4, 2) := by decide +kernel
theorem dX1_expect_18 : decode cX1_expect 18 = .ok (.putfield 108, 3) := by decide +kernel
theorem dX1_expect_21 : decode cX1_expect 21 = .ok (.return_, 1) := by decide +kernel
theorem dX1_kindsAsExpected_0 : decode cX1_kindsAsExpected 0 = .ok (.iconst 0, 1) := by decide +kernel
theorem dX1_kindsAsExpected_1 : decode cX1_kindsAsExpected 1 = .ok (.istore_n 1, 1) := by decide +kernel
theorem dX1_kindsAsExpected_2 : decode cX1_kindsAsExpected 2 = .ok (.iconst 1, 1) := by decide +kernel
theorem dX1_kindsAsExpected_3 : decode cX1_kindsAsExpected 3 = .ok (.istore_n 2, 1) := by decide +kernel
theorem dX1_kindsAsExpected_4 : decode cX1_kindsAsExpected 4 = .ok (.iload_n 2, 1) := by decide +kernel
theorem dX1_kindsAsExpected_5 : decode cX1_kindsAsExpected 5 = .ok (.iconst 5, 1) := by decide +kernel
theorem dX1_kindsAsExpected_6 : decode cX1_kindsAsExpected 6 = .ok (.if_icmp .gt 69, 3) := by decide +kernel
theorem dX1_kindsAsExpected_9 : decode cX1_kindsAsExpected 9 = .ok (.aload_n 0, 1) := by decide +kernel
theorem dX1_kindsAsExpected_10 : decode cX1_kindsAsExpected 10 = .ok (.getfield 26, 3) := by decide +kernel
theorem dX1_kindsAsExpected_13 : decode cX1_kindsAsExpected 13 = .ok (.aload_n 0, 1) := by decide +kernel
theorem dX1_kindsAsExpected_14 : decode cX1_kindsAsExpected 14 = .ok (.getfield 22, 3) := by decide +kernel
theorem dX1_kindsAsExpected_17 : decode cX1_kindsAsExpected 17 = .ok (.invokevirtual 36, 3) := by decide +kernel
theorem dX1_kindsAsExpected_20 : decode cX1_kindsAsExpected 20 = .ok (.aload_n 0, 1) := by decide +kernel
theorem dX1_kindsAsExpected_21 : decode cX1_kindsAsExpected 21 = .ok (.getfield 26, 3) := by decide +kernel
theorem dX1_kindsAsExpected_24 : decode cX1_kindsAsExpected 24 = .ok (.getfield 111, 3) := by decide +kernel
theorem dX1_kindsAsExpected_27 : decode cX1_kindsAsExpected 27 = .ok (.aload_n 0, 1) := by decide +kernel
theorem dX1_kindsAsExpected_28 : decode cX1_kindsAsExpected 28 = .ok (.getfield 102, 3) := by decide +kernel
theorem dX1_kindsAsExpected_31 : decode cX1_kindsAsExpected 31 = .ok (.iload_n 2, 1) := by decide +kernel
theorem dX1_kindsAsExpected_32 : decode cX1_kindsAsExpected 32 = .ok (.iastore, 1) := by decide +kernel
theorem dX1_kindsAsExpected_33 : decode cX1_kindsAsExpected 33 = .ok (.aload_n 0, 1) := by decide +kernel
theorem dX1_kindsAsExpected_34 : decode cX1_kindsAsExpected 34 = .ok (.getfield 26, 3) := by decide +kernel
theorem dX1_kindsAsExpected_37 : decode cX1_kindsAsExpected 37 = .ok (.iload_n 2, 1) := by decide +kernel
theorem dX1_kindsAsExpected_38 : decode cX1_kindsAsExpected 38 = .ok (.aload_n 0, 1) := by decide +kernel
theorem dX1_kindsAsExpected_39 : decode cX1_kindsAsExpected 39 = .ok (.getfield 26, 3) := by decide +kernel
theorem dX1_kindsAsExpected_42 : decode cX1_kindsAsExpected 42 = .ok (.getfield 59, 3) := by decide +kernel
theorem dX1_kindsAsExpected_45 : decode cX1_kindsAsExpected 45 = .ok (.aload_n 0, 1) := by decide +kernel
theorem dX1_kindsAsExpected_46 : decode cX1_kindsAsExpected 46 = .ok (.getfield 102, 3) := by decide +kernel
theorem dX1_kindsAsExpected_49 : decode cX1_kindsAsExpected 49 = .ok (.iaload, 1) := by decide +kernel
theorem dX1_kindsAsExpected_50 : decode cX1_kindsAsExpected 50 = .ok (.invokevirtual 114, 3) := by decide +kernel
theorem dX1_kindsAsExpected_53 : decode cX1_kindsAsExpected 53 = .ok (.ifCond .eq 16, 3) := by decide +kernel
theorem dX1_kindsAsExpected_56 : decode cX1_kindsAsExpected 56 = .ok (.aload_n 0, 1) := by decide +kernel
theorem dX1_kindsAsExpected_57 : decode cX1_kindsAsExpected 57 = .ok (.invokevirtual 118, 3) := by decide +kernel
theorem dX1_kindsAsExpected_60 : decode cX1_kindsAsExpected 60 = .ok (.ifCond .eq 9, 3) := by decide +kernel
theorem dX1_kindsAsExpected_63 : decode cX1_kindsAsExpected 63 = .ok (.iload_n 1, 1) := by decide +kernel
theorem dX1_kindsAsExpected_64 : decode cX1_kindsAsExpected 64 = .ok (.iconst 1, 1) := by decide +kernel
theorem dX1_kindsAsExpected_65 : decode cX1_kindsAsExpected 65 = .ok (.iload_n 2, 1) := by decide +kernel
theorem dX1_kindsAsExpected_66 : decode cX1_kindsAsExpected 66 = .ok (.ishl, 1) := by decide +kernel
theorem dX1_kindsAsExpected_67 : decode cX1_kindsAsExpected 67 = .ok (.ior, 1) := by decide +kernel
theorem dX1_kindsAsExpected_68 : decode cX1_kindsAsExpected 68 = .ok (.istore_n 1, 1) := by decide +kernel
theorem dX1_kindsAsExpected_69 : decode cX1_kindsAsExpected 69 = .ok (.iinc 2 1, 3) := by decide +kernel
theorem dX1_kindsAsExpected_72 : decode cX1_kindsAsExpected 72 = .ok (.goto (-68), 3) := by decide +kernel
theorem dX1_kindsAsExpected_75 : decode cX1_kindsAsExpected 75 = .ok (.iload_n 1, 1) := by decide +kernel
theorem dX1_kindsAsExpected_76 : decode cX1_kindsAsExpected 76 = .ok (.ireturn, 1) := by decide +kernel
theorem dX1_numbersAsExpected_0 : decode cX1_numbersAsExpected 0 = .ok (.iconst 0, 1) := by decide +kernel
theorem dX1_numbersAsExpected_1 : decode cX1_numbersAsExpected 1 = .ok (.istore_n 1, 1) := by decide +kernel
theorem dX1_numbersAsExpected_2 : decode cX1_numbersAsExpected 2 = .ok (.iconst 0, 1) := by decide +kernel
theorem dX1_numbersAsExpected_3 : decode cX1_numbersAsExpected 3 = .ok (.istore_n 2, 1) := by decide +kernel
theorem dX1_numbersAsExpected_4 : decode cX1_numbersAsExpected 4 = .ok (.iload_n 2, 1) := by decide +kernel
theorem dX1_numbersAsExpected_5 : decode cX1_numbersAsExpected 5 = .ok (.bipush 20, 2) := by decide +kernel
theorem dX1_numbersAsExpected_7 : decode cX1_numbersAsExpected 7 = .ok (.if_icmp .gt 69, 3) := by decide +kernel
theorem dX1_numbersAsExpected_10 : decode cX1_numbersAsExpected 10 = .ok (.aload_n 0, 1) := by decide +kernel
theorem dX1_numbersAsExpected_11 : decode cX1_numbersAsExpected 11 = .ok (.getfield 26, 3) := by decide +kernel
theorem dX1_numbersAsExpected_14 : decode cX1_numbersAsExpected 14 = .ok (.aload_n 0, 1) := by decide +kernel
theorem dX1_numbersAsExpected_15 : decode cX1_numbersAsExpected 15 = .ok (.getfield 22, 3) := by decide +kernel
theorem dX1_numbersAsExpected_18 : decode cX1_numbersAsExpected 18 = .ok (.invokevirtual 36, 3) := by decide +kernel
theorem dX1_numbersAsExpected_21 : decode cX1_numbersAsExpected 21 = .ok (.aload_n 0, 1) := by decide +kernel
theorem dX1_numbersAsExpected_22 : decode cX1_numbersAsExpected 22 = .ok (.getfield 26, 3) := by decide +kernel
theorem dX1_numbersAsExpected_25 : decode cX1_numbersAsExpected 25 = .ok (.getfield 59, 3) := by decide +kernel
theorem dX1_numbersAsExpected_28 : decode cX1_numbersAsExpected 28 = .ok (.aload_n 0, 1) := by decide +kernel
theorem dX1_numbersAsExpected_29 : decode cX1_numbersAsExpected 29 = .ok (.getfield 102, 3) := by decide +kernel
theorem dX1_numbersAsExpected_32 : decode cX1_numbersAsExpected 32 = .ok (.iload_n 2, 1) := by decide +kernel
theorem dX1_numbersAsExpected_33 : decode cX1_numbersAsExpected 33 = .ok (.iastore, 1) := by decide +kernel
theorem dX1_numbersAsExpected_34 : decode cX1_numbersAsExpected 34 = .ok (.aload_n 0, 1) := by decide +kernel
theorem dX1_numbersAsExpected_35 : decode cX1_numbersAsExpected 35 = .ok (.getfield 26, 3) := by decide +kernel
theorem dX1_numbersAsExpected_38 : decode cX1_numbersAsExpected 38 = .ok (.aload_n 0, 1) := by decide +kernel
theorem dX1_numbersAsExpected_39 : decode cX1_numbersAsExpected 39 = .ok (.getfield 26, 3) := by decide +kernel
theorem dX1_numbersAsExpected_42 : decode cX1_numbersAsExpected 42 = .ok (.getfield 111, 3) := by decide +kernel
theorem dX1_numbersAsExpected_45 : decode cX1_numbersAsExpected 45 = .ok (.aload_n 0, 1) := by decide +kernel
theorem dX1_numbersAsExpected_46 : decode cX1_numbersAsExpected 46 = .ok (.getfield 102, 3) := by decide +kernel
theorem dX1_numbersAsExpected_49 : decode cX1_numbersAsExpected 49 = .ok (.iaload, 1) := by decide +kernel
theorem dX1_numbersAsExpected_50 : decode cX1_numbersAsExpected 50 = .ok (.iload_n 2, 1) := by decide +kernel
theorem dX1_numbersAsExpected_51 : decode cX1_numbersAsExpected 51 = .ok (.invokevirtual 114, 3) := by decide +kernel
theorem dX1_numbersAsExpected_54 : decode cX1_numbersAsExpected 54 = .ok (.ifCond .eq 16, 3) := by decide +kernel
theorem dX1_numbersAsExpected_57 : decode cX1_numbersAsExpected 57 = .ok (.aload_n 0, 1) := by decide +kernel
theorem dX1_numbersAsExpected_58 : decode cX1_numbersAsExpected 58 = .ok (.invokevirtual 118, 3) := by decide +kernel
theorem dX1_numbersAsExpected_61 : decode cX1_numbersAsExpected 61 = .ok (.ifCond .eq 9, 3) := by decide +kernel
theorem dX1_numbersAsExpected_64 : decode cX1_numbersAsExpected 64 = .ok (.iload_n 1, 1) := by decide +kernel
theorem dX1_numbersAsExpected_65 : decode cX1_numbersAsExpected 65 = .ok (.iconst 1, 1) := by decide +kernel
theorem dX1_numbersAsExpected_66 : decode cX1_numbersAsExpected 66 = .ok (.iload_n 2, 1) := by decide +kernel
theorem dX1_numbersAsExpected_67 : decode cX1_numbersAsExpected 67 = .ok (.ishl, 1) := by decide +kernel
theorem dX1_numbersAsExpected_68 : decode cX1_numbersAsExpected 68 = .ok (.ior, 1) := by decide +kernel
theorem dX1_numbersAsExpected_69 : decode cX1_numbersAsExpected 69 = .ok (.istore_n 1, 1) := by decide +kernel
theorem dX1_numbersAsExpected_70 : decode cX1_numbersAsExpected 70 = .ok (.iinc 2 1, 3) := by decide +kernel
theorem dX1_numbersAsExpected_73 : decode cX1_numbersAsExpected 73 = .ok (.goto (-69), 3) := by decide +kernel
theorem dX1_numbersAsExpected_76 : decode cX1_numbersAsExpected 76 = .ok (.iload_n 1, 1) := by decide +kernel
theorem dX1_numbersAsExpected_77 : decode cX1_numbersAsExpected 77 = .ok (.ireturn, 1) := by decide +kernel
theorem dX1_firstsAsExpected_0 : decode cX1_firstsAsExpected 0 = .ok (.iconst 0, 1) := by decide +kernel
theorem dX1_firstsAsExpected_1 : decode cX1_firstsAsExpected 1 = .ok (.istore_n 2, 1) := by decide +kernel
theorem dX1_firstsAsExpected_2 : decode cX1_firstsAsExpected 2 = .ok (.iconst 1, 1) := by decide +kernel
theorem dX1_firstsAsExpected_3 : decode cX1_firstsAsExpected 3 = .ok (.istore_n 3, 1) := by decide +kernel
theorem dX1_firstsAsExpected_4 : decode cX1_firstsAsExpected 4 = .ok (.iload_n 3, 1) := by decide +kernel
theorem dX1_firstsAsExpected_5 : decode cX1_firstsAsExpected 5 = .ok (.bipush 87, 2) := by decide +kernel
theorem dX1_firstsAsExpected_7 : decode cX1_firstsAsExpected 7 = .ok (.if_icmp .gt 44, 3) := by decide +kernel
theorem dX1_firstsAsExpected_10 : decode cX1_firstsAsExpected 10 = .ok (.aload_n 0, 1) := by decide +kernel
theorem dX1_firstsAsExpected_11 : decode cX1_firstsAsExpected 11 = .ok (.getfield 26, 3) := by decide +kernel
theorem dX1_firstsAsExpected_14 : decode cX1_firstsAsExpected 14 = .ok (.aload_n 0, 1) := by decide +kernel
theorem dX1_firstsAsExpected_15 : decode cX1_firstsAsExpected 15 = .ok (.getfield 22, 3) := by decide +kernel
theorem dX1_firstsAsExpected_18 : decode cX1_firstsAsExpected 18 = .ok (.invokevirtual 36, 3) := by decide +kernel
theorem dX1_firstsAsExpected_21 : decode cX1_firstsAsExpected 21 = .ok (.aload_n 0, 1) := by decide +kernel
theorem dX1_firstsAsExpected_22 : decode cX1_firstsAsExpected 22 = .ok (.getfield 26, 3) := by decide +kernel
theorem dX1_firstsAsExpected_25 : decode cX1_firstsAsExpected 25 = .ok (.iload_n 3, 1) := by decide +kernel
theorem dX1_firstsAsExpected_26 : decode cX1_firstsAsExpected 26 = .ok (.putfield 95, 3) := by decide +kernel
theorem dX1_firstsAsExpected_29 : decode cX1_firstsAsExpected 29 = .ok (.aload_n 0, 1) := by decide +kernel
theorem dX1_firstsAsExpected_30 : decode cX1_firstsAsExpected 30 = .ok (.invokevirtual 118, 3) := by decide +kernel
theorem dX1_firstsAsExpected_33 : decode cX1_firstsAsExpected 33 = .ok (.ifCond .eq 12, 3) := by decide +kernel
theorem dX1_firstsAsExpected_36 : decode cX1_firstsAsExpected 36 = .ok (.iload_n 1, 1) := by decide +kernel
theorem dX1_firstsAsExpected_37 : decode cX1_firstsAsExpected 37 = .ok (.ifCond .ne 5, 3) := by decide +kernel
theorem dX1_firstsAsExpected_40 : decode cX1_firstsAsExpected 40 = .ok (.iload_n 3, 1) := by decide +kernel
theorem dX1_firstsAsExpected_41 : decode cX1_firstsAsExpected 41 = .ok (.ireturn, 1) := by decide +kernel
theorem dX1_firstsAsExpected_42 : decode cX1_firstsAsExpected 42 = .ok (.iinc 2 1, 3) := by decide +kernel
theorem dX1_firstsAsExpected_45 : decode cX1_firstsAsExpected 45 = .ok (.iinc 3 1, 3) := by decide +kernel
theorem dX1_firstsAsExpected_48 : decode cX1_firstsAsExpected 48 = .ok (.goto (-44), 3) := by decide +kernel
theorem dX1_firstsAsExpected_51 : decode cX1_firstsAsExpected 51 = .ok (.iload_n 1, 1) := by decide +kernel
theorem dX1_firstsAsExpected_52 : decode cX1_firstsAsExpected 52 = .ok (.ifCond .eq 7, 3) := by decide +kernel
theorem dX1_firstsAsExpected_55 : decode cX1_firstsAsExpected 55 = .ok (.iload_n 2, 1) := by decide +kernel
theorem dX1_firstsAsExpected_56 : decode cX1_firstsAsExpected 56 = .ok (.goto 5, 3) := by decide +kernel
theorem dX1_firstsAsExpected_59 : decode cX1_firstsAsExpected 59 = .ok (.ldc 101, 2) := by decide +kernel
theorem dX1_firstsAsExpected_61 : decode cX1_firstsAsExpected 61 = .ok (.ireturn, 1) := by decide +kernel
theorem dX1_comesAsExpected_0 : decode cX1_comesAsExpected 0 = .ok (.iconst 0, 1) := by decide +kernel
theorem dX1_comesAsExpected_1 : decode cX1_comesAsExpected 1 = .ok (.istore_n 1, 1) := by decide +kernel
theorem dX1_comesAsExpected_2 : decode cX1_comesAsExpected 2 = .ok (.iload_n 1, 1) := by decide +kernel
theorem dX1_comesAsExpected_3 : decode cX1_comesAsExpected 3 = .ok (.aload_n 0, 1) := by decide +kernel
theorem dX1_comesAsExpected_4 : decode cX1_comesAsExpected 4 = .ok (.getfield 108, 3) := by decide +kernel
theorem dX1_comesAsExpected_7 : decode cX1_comesAsExpected 7 = .ok (.if_icmp .ge 64, 3) := by decide +kernel
theorem dX1_comesAsExpected_10 : decode cX1_comesAsExpected 10 = .ok (.aload_n 0, 1) := by decide +kernel
theorem dX1_comesAsExpected_11 : decode cX1_comesAsExpected 11 = .ok (.getfield 105, 3) := by decide +kernel
theorem dX1_comesAsExpected_14 : decode cX1_comesAsExpected 14 = .ok (.iload_n 1, 1) := by decide +kernel
theorem dX1_comesAsExpected_15 : decode cX1_comesAsExpected 15 = .ok (.iadd, 1) := by decide +kernel
theorem dX1_comesAsExpected_16 : decode cX1_comesAsExpected 16 = .ok (.istore_n 2, 1) := by decide +kernel
theorem dX1_comesAsExpected_17 : decode cX1_comesAsExpected 17 = .ok (.aload_n 0, 1) := by decide +kernel
theorem dX1_comesAsExpected_18 : decode cX1_comesAsExpected 18 = .ok (.getfield 29, 3) := by decide +kernel
theorem dX1_comesAsExpected_21 : decode cX1_comesAsExpected 21 = .ok (.aload_n 0, 1) := by decide +kernel
theorem dX1_comesAsExpected_22 : decode cX1_comesAsExpected 22 = .ok (.getfield 26, 3) := by decide +kernel
theorem dX1_comesAsExpected_25 : decode cX1_comesAsExpected 25 = .ok (.invokevirtual 42, 3) := by decide +kernel
theorem dX1_comesAsExpected_28 : decode cX1_comesAsExpected 28 = .ok (.pop, 1) := by decide +kernel
theorem dX1_comesAsExpected_29 : decode cX1_comesAsExpected 29 = .ok (.iload_n 2, 1) := by decide +kernel
theorem dX1_comesAsExpected_30 : decode cX1_comesAsExpected 30 = .ok (.ifCond .lt 33, 3) := by decide +kernel
theorem dX1_comesAsExpected_33 : decode cX1_comesAsExpected 33 = .ok (.iload_n 2, 1) := by decide +kernel
theorem dX1_comesAsExpected_34 : decode cX1_comesAsExpected 34 = .ok (.aload_n 0, 1) := by decide +kernel
theorem dX1_comesAsExpected_35 : decode cX1_comesAsExpected 35 = .ok (.getfield 33, 3) := by decide +kernel
theorem dX1_comesAsExpected_38 : decode cX1_comesAsExpected 38 = .ok (.arraylength, 1) := by decide +kernel
theorem dX1_comesAsExpected_39 : decode cX1_comesAsExpected 39 = .ok (.if_icmp .ge 24, 3) := by decide +kernel
theorem dX1_comesAsExpected_42 : decode cX1_comesAsExpected 42 = .ok (.aload_n 0, 1) := by decide +kernel
theorem dX1_comesAsExpected_43 : decode cX1_comesAsExpected 43 = .ok (.getfield 26, 3) := by decide +kernel
theorem dX1_comesAsExpected_46 : decode cX1_comesAsExpected 46 = .ok (.getfield 48, 3) := by decide +kernel
theorem dX1_comesAsExpected_49 : decode cX1_comesAsExpected 49 = .ok (.aload_n 0, 1) := by decide +kernel
theorem dX1_comesAsExpected_50 : decode cX1_comesAsExpected 50 = .ok (.getfield 102, 3) := by decide +kernel
theorem dX1_comesAsExpected_53 : decode cX1_comesAsExpected 53 = .ok (.iaload, 1) := by decide +kernel
theorem dX1_comesAsExpected_54 : decode cX1_comesAsExpected 54 = .ok (.aload_n 0, 1) := by decide +kernel
theorem dX1_comesAsExpected_55 : decode cX1_comesAsExpected 55 = .ok (.getfield 33, 3) := by decide +kernel
theorem dX1_comesAsExpected_58 : decode cX1_comesAsExpected 58 = .ok (.iload_n 2, 1) := by decide +kernel
theorem dX1_comesAsExpected_59 : decode cX1_comesAsExpected 59 = .ok (.iaload, 1) := by decide +kernel
theorem dX1_comesAsExpected_60 : decode cX1_comesAsExpected 60 = .ok (.if_icmp .eq 5, 3) := by decide +kernel
theorem dX1_comesAsExpected_63 : decode cX1_comesAsExpected 63 = .ok (.iconst 0, 1) := by decide +kernel
theorem dX1_comesAsExpected_64 : decode cX1_comesAsExpected 64 = .ok (.ireturn, 1) := by decide +kernel
theorem dX1_comesAsExpected_65 : decode cX1_comesAsExpected 65 = .ok (.iinc 1 1, 3) := by decide +kernel
theorem dX1_comesAsExpected_68 : decode cX1_comesAsExpected 68 = .ok (.goto (-66), 3) := by decide +kernel
theorem dX1_comesAsExpected_71 : decode cX1_comesAsExpected 71 = .ok (.iconst 1, 1) := by decide +kernel
theorem dX1_comesAsExpected_72 : decode cX1_comesAsExpected 72 = .ok (.ireturn, 1) := by decide +kernel
theorem dX1_weightOfRest_0 : decode cX1_weightOfRest 0 = .ok (.aload_n 0, 1) := by decide +kernel
theorem dX1_weightOfRest_1 : decode cX1_weightOfRest 1 = .ok (.invokevirtual 122, 3) := by decide +kernel
theorem dX1_weightOfRest_4 : decode cX1_weightOfRest 4 = .ok (.istore_n 2, 1) := by decide +kernel
theorem dX1_weightOfRest_5 : decode cX1_weightOfRest 5 = .ok (.lconst 0, 1) := by decide +kernel
theorem dX1_weightOfRest_6 : decode cX1_weightOfRest 6 = .ok (.lstore_n 3, 1) := by decide +kernel
theorem dX1_weightOfRest_7 : decode cX1_weightOfRest 7 = .ok (.iconst 0, 1) := by decide +kernel
theorem dX1_weightOfRest_8 : decode cX1_weightOfRest 8 = .ok (.istore 5, 2) := by decide +kernel
theorem dX1_weightOfRest_10 : decode cX1_weightOfRest 10 = .ok (.iload 5, 2) := by decide +kernel
theorem dX1_weightOfRest_12 : decode cX1_weightOfRest 12 = .ok (.iconst 1, 1) := by decide +kernel
theorem dX1_weightOfRest_13 : decode cX1_weightOfRest 13 = .ok (.iload_n 2, 1) := by decide +kernel
theorem dX1_weightOfRest_14 : decode cX1_weightOfRest 14 = .ok (.ishl, 1) := by decide +kernel
theorem dX1_weightOfRest_15 : decode cX1_weightOfRest 15 = .ok (.if_icmp .ge 40, 3) := by decide +kernel
theorem dX1_weightOfRest_18 : decode cX1_weightOfRest 18 = .ok (.iload 5, 2) := by decide +kernel
theorem dX1_weightOfRest_20 : decode cX1_weightOfRest 20 = .ok (.iload_n 2, 1) := by decide +kernel
theorem dX1_weightOfRest_21 : decode cX1_weightOfRest 21 = .ok (.iload_n 1, 1) := by decide +kernel
theorem dX1_weightOfRest_22 : decode cX1_weightOfRest 22 = .ok (.invokestatic 125, 3) := by decide +kernel
theorem dX1_weightOfRest_25 : decode cX1_weightOfRest 25 = .ok (.lstore 6, 2) := by decide +kernel
theorem dX1_weightOfRest_27 : decode cX1_weightOfRest 27 = .ok (.lload 6, 2) := by decide +kernel
theorem dX1_weightOfRest_29 : decode cX1_weightOfRest 29 = .ok (.lconst 0, 1) := by decide +kernel
theorem dX1_weightOfRest_30 : decode cX1_weightOfRest 30 = .ok (.lcmp, 1) := by decide +kernel
theorem dX1_weightOfRest_31 : decode cX1_weightOfRest 31 = .ok (.ifCond .le 18, 3) := by decide +kernel
theorem dX1_weightOfRest_34 : decode cX1_weightOfRest 34 = .ok (.aload_n 0, 1) := by decide +kernel
theorem dX1_weightOfRest_35 : decode cX1_weightOfRest 35 = .ok (.iload 5, 2) := by decide +kernel
theorem dX1_weightOfRest_37 : decode cX1_weightOfRest 37 = .ok (.iload_n 2, 1) := by decide +kernel
theorem dX1_weightOfRest_38 : decode cX1_weightOfRest 38 = .ok (.invokevirtual 129, 3) := by decide +kernel
theorem dX1_weightOfRest_41 : decode cX1_weightOfRest 41 = .ok (.ifCond .eq 8, 3) := by decide +kernel
theorem dX1_weightOfRest_44 : decode cX1_weightOfRest 44 = .ok (.lload_n 3, 1) := by decide +kernel
theorem dX1_weightOfRest_45 : decode cX1_weightOfRest 45 = .ok (.lload 6, 2) := by decide +kernel
theorem dX1_weightOfRest_47 : decode cX1_weightOfRest 47 = .ok (.ladd, 1) := by decide +kernel
theorem dX1_weightOfRest_48 : decode cX1_weightOfRest 48 = .ok (.lstore_n 3, 1) := by decide +kernel
theorem dX1_weightOfRest_49 : decode cX1_weightOfRest 49 = .ok (.iinc 5 1, 3) := by decide +kernel
theorem dX1_weightOfRest_52 : decode cX1_weightOfRest 52 = .ok (.goto (-42), 3) := by decide +kernel
theorem dX1_weightOfRest_55 : decode cX1_weightOfRest 55 = .ok (.lload_n 3, 1) := by decide +kernel
theorem dX1_weightOfRest_56 : decode cX1_weightOfRest 56 = .ok (.lreturn, 1) := by decide +kernel
theorem dX1_weightOfAll_0 : decode cX1_weightOfAll 0 = .ok (.aload_n 0, 1) := by decide +kernel
theorem dX1_weightOfAll_1 : decode cX1_weightOfAll 1 = .ok (.invokevirtual 122, 3) := by decide +kernel
theorem dX1_weightOfAll_4 : decode cX1_weightOfAll 4 = .ok (.istore_n 1, 1) := by decide +kernel
theorem dX1_weightOfAll_5 : decode cX1_weightOfAll 5 = .ok (.lconst 1, 1) := by decide +kernel
theorem dX1_weightOfAll_6 : decode cX1_weightOfAll 6 = .ok (.lstore_n 2, 1) := by decide +kernel
theorem dX1_weightOfAll_7 : decode cX1_weightOfAll 7 = .ok (.iconst 0, 1) := by decide +kernel
theorem dX1_weightOfAll_8 : decode cX1_weightOfAll 8 = .ok (.istore 4, 2) := by decide +kernel
theorem dX1_weightOfAll_10 : decode cX1_weightOfAll 10 = .ok (.iload 4, 2) := by decide +kernel
theorem dX1_weightOfAll_12 : decode cX1_weightOfAll 12 = .ok (.iload_n 1, 1) := by decide +kernel
theorem dX1_weightOfAll_13 : decode cX1_weightOfAll 13 = .ok (.if_icmp .ge 15, 3) := by decide +kernel
theorem dX1_weightOfAll_16 : decode cX1_weightOfAll 16 = .ok (.lload_n 2, 1) := by decide +kernel
theorem dX1_weightOfAll_17 : decode cX1_weightOfAll 17 = .ok (.ldc2_w 132, 3) := by decide +kernel
theorem dX1_weightOfAll_20 : decode cX1_weightOfAll 20 = .ok (.lmul, 1) := by decide +kernel
theorem dX1_weightOfAll_21 : decode cX1_weightOfAll 21 = .ok (.lstore_n 2, 1) := by decide +kernel
theorem dX1_weightOfAll_22 : decode cX1_weightOfAll 22 = .ok (.iinc 4 1, 3) := by decide +kernel
theorem dX1_weightOfAll_25 : decode cX1_weightOfAll 25 = .ok (.goto (-15), 3) := by decide +kernel
theorem dX1_weightOfAll_28 : decode cX1_weightOfAll 28 = .ok (.lload_n 2, 1) := by decide +kernel
theorem dX1_weightOfAll_29 : decode cX1_weightOfAll 29 = .ok (.lreturn, 1) := by decide +kernel
theorem dX1_gatherGrowing_0 : decode cX1_gatherGrowing 0 = .ok (.iconst 0, 1) := by decide +kernel
theorem dX1_gatherGrowing_1 : decode cX1_gatherGrowing 1 = .ok (.istore_n 1, 1) := by decide +kernel
theorem dX1_gatherGrowing_2 : decode cX1_gatherGrowing 2 = .ok (.iconst 0, 1) := by decide +kernel
theorem dX1_gatherGrowing_3 : decode cX1_gatherGrowing 3 = .ok (.istore_n 2, 1) := by decide +kernel
theorem dX1_gatherGrowing_4 : decode cX1_gatherGrowing 4 = .ok (.iload_n 2, 1) := by decide +kernel
theorem dX1_gatherGrowing_5 : decode cX1_gatherGrowing 5 = .ok (.aload_n 0, 1) := by decide +kernel
theorem dX1_gatherGrowing_6 : decode cX1_gatherGrowing 6 = .ok (.getfield 22, 3) := by decide +kernel
theorem dX1_gatherGrowing_9 : decode cX1_gatherGrowing 9 = .ok (.getfield 55, 3) := by decide +kernel
theorem dX1_gatherGrowing_12 : decode cX1_gatherGrowing 12 = .ok (.if_icmp .ge 46, 3) := by decide +kernel
theorem dX1_gatherGrowing_15 : decode cX1_gatherGrowing 15 = .ok (.aload_n 0, 1) := by decide +kernel
theorem dX1_gatherGrowing_16 : decode cX1_gatherGrowing 16 = .ok (.getfield 22, 3) := by decide +kernel
theorem dX1_gatherGrowing_19 : decode cX1_gatherGrowing 19 = .ok (.getfield 111, 3) := by decide +kernel
theorem dX1_gatherGrowing_22 : decode cX1_gatherGrowing 22 = .ok (.iload_n 2, 1) := by decide +kernel
theorem dX1_gatherGrowing_23 : decode cX1_gatherGrowing 23 = .ok (.iaload, 1) := by decide +kernel
theorem dX1_gatherGrowing_24 : decode cX1_gatherGrowing 24 = .ok (.iconst 4, 1) := by decide +kernel
theorem dX1_gatherGrowing_25 : decode cX1_gatherGrowing 25 = .ok (.if_icmp .ne 27, 3) := by decide +kernel
theorem dX1_gatherGrowing_28 : decode cX1_gatherGrowing 28 = .ok (.aload_n 0, 1) := by decide +kernel
theorem dX1_gatherGrowing_29 : decode cX1_gatherGrowing 29 = .ok (.getfield 22, 3) := by decide +kernel
theorem dX1_gatherGrowing_32 : decode cX1_gatherGrowing 32 = .ok (.getfield 59, 3) := by decide +kernel
theorem dX1_gatherGrowing_35 : decode cX1_gatherGrowing 35 = .ok (.iload_n 2, 1) := by decide +kernel
theorem dX1_gatherGrowing_36 : decode cX1_gatherGrowing 36 = .ok (.iaload, 1) := by decide +kernel
theorem dX1_gatherGrowing_37 : decode cX1_gatherGrowing 37 = .ok (.bipush 20, 2) := by decide +kernel
theorem dX1_gatherGrowing_39 : decode cX1_gatherGrowing 39 = .ok (.if_icmp .ge 13, 3) := by decide +kernel
theorem dX1_gatherGrowing_42 : decode cX1_gatherGrowing 42 = .ok (.aload_n 0, 1) := by decide +kernel
theorem dX1_gatherGrowing_43 : decode cX1_gatherGrowing 43 = .ok (.getfield 18, 3) := by decide +kernel
theorem dX1_gatherGrowing_46 : decode cX1_gatherGrowing 46 = .ok (.iload_n 1, 1) := by decide +kernel
theorem dX1_gatherGrowing_47 : decode cX1_gatherGrowing 47 = .ok (.iload_n 2, 1) := by decide +kernel
theorem dX1_gatherGrowing_48 : decode cX1_gatherGrowing 48 = .ok (.iastore, 1) := by decide +kernel
theorem dX1_gatherGrowing_49 : decode cX1_gatherGrowing 49 = .ok (.iinc 1 1, 3) := by decide +kernel
theorem dX1_gatherGrowing_52 : decode cX1_gatherGrowing 52 = .ok (.iinc 2 1, 3) := by decide +kernel
theorem dX1_gatherGrowing_55 : decode cX1_gatherGrowing 55 = .ok (.goto (-51), 3) := by decide +kernel
theorem dX1_gatherGrowing_58 : decode cX1_gatherGrowing 58 = .ok (.iload_n 1, 1) := by decide +kernel
theorem dX1_gatherGrowing_59 : decode cX1_gatherGrowing 59 = .ok (.ireturn, 1) := by decide +kernel
theorem dX1_weightOf_0 : decode cX1_weightOf 0 = .ok (.lconst 1, 1) := by decide +kernel
theorem dX1_weightOf_1 : decode cX1_weightOf 1 = .ok (.lstore_n 3, 1) := by decide +kernel
theorem dX1_weightOf_2 : decode cX1_weightOf 2 = .ok (.iconst 0, 1) := by decide +kernel
theorem dX1_weightOf_3 : decode cX1_weightOf 3 = .ok (.istore 5, 2) := by decide +kernel
theorem dX1_weightOf_5 : decode cX1_weightOf 5 = .ok (.iload 5, 2) := by decide +kernel
theorem dX1_weightOf_7 : decode cX1_weightOf 7 = .ok (.iload_n 1, 1) := by decide +kernel
theorem dX1_weightOf_8 : decode cX1_weightOf 8 = .ok (.if_icmp .ge 32, 3) := by decide +kernel
theorem dX1_weightOf_11 : decode cX1_weightOf 11 = .ok (.lload_n 3, 1) := by decide +kernel
theorem dX1_weightOf_12 : decode cX1_weightOf 12 = .ok (.iload_n 0, 1) := by decide +kernel
theorem dX1_weightOf_13 : decode cX1_weightOf 13 = .ok (.iload 5, 2) := by decide +kernel
theorem dX1_weightOf_15 : decode cX1_weightOf 15 = .ok (.ishr, 1) := by decide +kernel
theorem dX1_weightOf_16 : decode cX1_weightOf 16 = .ok (.iconst 1, 1) := by decide +kernel
theorem dX1_weightOf_17 : decode cX1_weightOf 17 = .ok (.iand, 1) := by decide +kernel
theorem dX1_weightOf_18 : decode cX1_weightOf 18 = .ok (.iconst 1, 1) := by decide +kernel
theorem dX1_weightOf_19 : decode cX1_weightOf 19 = .ok (.if_icmp .ne 8, 3) := by decide +kernel
theorem dX1_weightOf_22 : decode cX1_weightOf 22 = .ok (.iload_n 2, 1) := by decide +kernel
theorem dX1_weightOf_23 : decode cX1_weightOf 23 = .ok (.i2l, 1) := by decide +kernel
theorem dX1_weightOf_24 : decode cX1_weightOf 24 = .ok (.goto 8, 3) := by decide +kernel
theorem dX1_weightOf_27 : decode cX1_weightOf 27 = .ok (.bipush 10, 2) := by decide +kernel
theorem dX1_weightOf_29 : decode cX1_weightOf 29 = .ok (.iload_n 2, 1) := by decide +kernel
theorem dX1_weightOf_30 : decode cX1_weightOf 30 = .ok (.isub, 1) := by decide +kernel
theorem dX1_weightOf_31 : decode cX1_weightOf 31 = .ok (.i2l, 1) := by decide +kernel
theorem dX1_weightOf_32 : decode cX1_weightOf 32 = .ok (.lmul, 1) := by decide +kernel
theorem dX1_weightOf_33 : decode cX1_weightOf 33 = .ok (.lstore_n 3, 1) := by decide +kernel
theorem dX1_weightOf_34 : decode cX1_weightOf 34 = .ok (.iinc 5 1, 3) := by decide +kernel
theorem dX1_weightOf_37 : decode cX1_weightOf 37 = .ok (.goto (-32), 3) := by decide +kernel
theorem dX1_weightOf_40 : decode cX1_weightOf 40 = .ok (.lload_n 3, 1) := by decide +kernel
theorem dX1_weightOf_41 : decode cX1_weightOf 41 = .ok (.lreturn, 1) := by decide +kernel
theorem dX1_settlesGrown_0 : decode cX1_settlesGrown 0 = .ok (.aload_n 0, 1) := by decide +kernel
theorem dX1_settlesGrown_1 : decode cX1_settlesGrown 1 = .ok (.getfield 26, 3) := by decide +kernel
theorem dX1_settlesGrown_4 : decode cX1_settlesGrown 4 = .ok (.aload_n 0, 1) := by decide +kernel
theorem dX1_settlesGrown_5 : decode cX1_settlesGrown 5 = .ok (.getfield 22, 3) := by decide +kernel
theorem dX1_settlesGrown_8 : decode cX1_settlesGrown 8 = .ok (.invokevirtual 36, 3) := by decide +kernel
theorem dX1_settlesGrown_11 : decode cX1_settlesGrown 11 = .ok (.iconst 0, 1) := by decide +kernel
theorem dX1_settlesGrown_12 : decode cX1_settlesGrown 12 = .ok (.istore_n 3, 1) := by decide +kernel
theorem dX1_settlesGrown_13 : decode cX1_settlesGrown 13 = .ok (.iload_n 3, 1) := by decide +kernel
theorem dX1_settlesGrown_14 : decode cX1_settlesGrown 14 = .ok (.iload_n 2, 1) := by decide +kernel
theorem dX1_settlesGrown_15 : decode cX1_settlesGrown 15 = .ok (.if_icmp .ge 31, 3) := by decide +kernel
theorem dX1_settlesGrown_18 : decode cX1_settlesGrown 18 = .ok (.aload_n 0, 1) := by decide +kernel
theorem dX1_settlesGrown_19 : decode cX1_settlesGrown 19 = .ok (.getfield 26, 3) := by decide +kernel
theorem dX1_settlesGrown_22 : decode cX1_settlesGrown 22 = .ok (.getfield 59, 3) := by decide +kernel
theorem dX1_settlesGrown_25 : decode cX1_settlesGrown 25 = .ok (.aload_n 0, 1) := by decide +kernel
theorem dX1_settlesGrown_26 : decode cX1_settlesGrown 26 = .ok (.getfield 18, 3) := by decide +kernel
theorem dX1_settlesGrown_29 : decode cX1_settlesGrown 29 = .ok (.iload_n 3, 1) := by decide +kernel
theorem dX1_settlesGrown_30 : decode cX1_settlesGrown 30 = .ok (.iaload, 1) := by decide +kernel
theorem dX1_settlesGrown_31 : decode cX1_settlesGrown 31 = .ok (.dup2, 1) := by decide +kernel
theorem dX1_settlesGrown_32 : decode cX1_settlesGrown 32 = .ok (.iaload, 1) := by decide +kernel
theorem dX1_settlesGrown_33 : decode cX1_settlesGrown 33 = .ok (.iload_n 1, 1) := by decide +kernel
theorem dX1_settlesGrown_34 : decode cX1_settlesGrown 34 = .ok (.iload_n 3, 1) := by decide +kernel
theorem dX1_settlesGrown_35 : decode cX1_settlesGrown 35 = .ok (.ishr, 1) := by decide +kernel
theorem dX1_settlesGrown_36 : decode cX1_settlesGrown 36 = .ok (.iconst 1, 1) := by decide +kernel
theorem dX1_settlesGrown_37 : decode cX1_settlesGrown 37 = .ok (.iand, 1) := by decide +kernel
theorem dX1_settlesGrown_38 : decode cX1_settlesGrown 38 = .ok (.iadd, 1) := by decide +kernel
theorem dX1_settlesGrown_39 : decode cX1_settlesGrown 39 = .ok (.iastore, 1) := by decide +kernel
theorem dX1_settlesGrown_40 : decode cX1_settlesGrown 40 = .ok (.iinc 3 1, 3) := by decide +kernel
theorem dX1_settlesGrown_43 : decode cX1_settlesGrown 43 = .ok (.goto (-30), 3) := by decide +kernel
theorem dX1_settlesGrown_46 : decode cX1_settlesGrown 46 = .ok (.aload_n 0, 1) := by decide +kernel
theorem dX1_settlesGrown_47 : decode cX1_settlesGrown 47 = .ok (.getfield 26, 3) := by decide +kernel
theorem dX1_settlesGrown_50 : decode cX1_settlesGrown 50 = .ok (.invokevirtual 84, 3) := by decide +kernel
theorem dX1_settlesGrown_53 : decode cX1_settlesGrown 53 = .ok (.aload_n 0, 1) := by decide +kernel
theorem dX1_settlesGrown_54 : decode cX1_settlesGrown 54 = .ok (.getfield 29, 3) := by decide +kernel
theorem dX1_settlesGrown_57 : decode cX1_settlesGrown 57 = .ok (.aload_n 0, 1) := by decide +kernel
theorem dX1_settlesGrown_58 : decode cX1_settlesGrown 58 = .ok (.getfield 26, 3) := by decide +kernel
theorem dX1_settlesGrown_61 : decode cX1_settlesGrown 61 = .ok (.iconst 1, 1) := by decide +kernel
theorem dX1_settlesGrown_62 : decode cX1_settlesGrown 62 = .ok (.invokevirtual 87, 3) := by decide +kernel
theorem dX1_settlesGrown_65 : decode cX1_settlesGrown 65 = .ok (.aload_n 0, 1) := by decide +kernel
theorem dX1_settlesGrown_66 : decode cX1_settlesGrown 66 = .ok (.getfield 29, 3) := by decide +kernel
theorem dX1_settlesGrown_69 : decode cX1_settlesGrown 69 = .ok (.getfield 98, 3) := by decide +kernel
theorem dX1_settlesGrown_72 : decode cX1_settlesGrown 72 = .ok (.ifCond .ne 17, 3) := by decide +kernel
theorem dX1_settlesGrown_75 : decode cX1_settlesGrown 75 = .ok (.aload_n 0, 1) := by decide +kernel
theorem dX1_settlesGrown_76 : decode cX1_settlesGrown 76 = .ok (.getfield 29, 3) := by decide +kernel
theorem dX1_settlesGrown_79 : decode cX1_settlesGrown 79 = .ok (.getfield 134, 3) := by decide +kernel
theorem dX1_settlesGrown_82 : decode cX1_settlesGrown 82 = .ok (.ifCond .eq 7, 3) := by decide +kernel
theorem dX1_settlesGrown_85 : decode cX1_settlesGrown 85 = .ok (.iconst 1, 1) := by decide +kernel
theorem dX1_settlesGrown_86 : decode cX1_settlesGrown 86 = .ok (.goto 4, 3) := by decide +kernel
theorem dX1_settlesGrown_89 : decode cX1_settlesGrown 89 = .ok (.iconst 0, 1) := by decide +kernel
theorem dX1_settlesGrown_90 : decode cX1_settlesGrown 90 = .ok (.ireturn, 1) := by decide +kernel
theorem dX1_editsThatChange_0 : decode cX1_editsThatChange 0 = .ok (.aload_n 0, 1) := by decide +kernel
theorem dX1_editsThatChange_1 : decode cX1_editsThatChange 1 = .ok (.getfield 26, 3) := by decide +kernel
theorem dX1_editsThatChange_4 : decode cX1_editsThatChange 4 = .ok (.aload_n 0, 1) := by decide +kernel
theorem dX1_editsThatChange_5 : decode cX1_editsThatChange 5 = .ok (.getfield 22, 3) := by decide +kernel
theorem dX1_editsThatChange_8 : decode cX1_editsThatChange 8 = .ok (.invokevirtual 36, 3) := by decide +kernel
theorem dX1_editsThatChange_11 : decode cX1_editsThatChange 11 = .ok (.iload_n 2, 1) := by decide +kernel
theorem dX1_editsThatChange_12 : decode cX1_editsThatChange 12 = .ok (.i2l, 1) := by decide +kernel
theorem dX1_editsThatChange_13 : decode cX1_editsThatChange 13 = .ok (.lstore_n 3, 1) := by decide +kernel
theorem dX1_editsThatChange_14 : decode cX1_editsThatChange 14 = .ok (.iconst 0, 1) := by decide +kernel
theorem dX1_editsThatChange_15 : decode cX1_editsThatChange 15 = .ok (.istore 5, 2) := by decide +kernel
theorem dX1_editsThatChange_17 : decode cX1_editsThatChange 17 = .ok (.iconst 0, 1) := by decide +kernel
theorem dX1_editsThatChange_18 : decode cX1_editsThatChange 18 = .ok (.istore 6, 2) := by decide +kernel
theorem dX1_editsThatChange_20 : decode cX1_editsThatChange 20 = .ok (.iload 6, 2) := by decide +kernel
theorem dX1_editsThatChange_22 : decode cX1_editsThatChange 22 = .ok (.iload_n 1, 1) := by decide +kernel
theorem dX1_editsThatChange_23 : decode cX1_editsThatChange 23 = .ok (.if_icmp .ge 118, 3) := by decide +kernel
theorem dX1_editsThatChange_26 : decode cX1_editsThatChange 26 = .ok (.aload_n 0, 1) := by decide +kernel
theorem dX1_editsThatChange_27 : decode cX1_editsThatChange 27 = .ok (.getfield 26, 3) := by decide +kernel
theorem dX1_editsThatChange_30 : decode cX1_editsThatChange 30 = .ok (.getfield 55, 3) := by decide +kernel
theorem dX1_editsThatChange_33 : decode cX1_editsThatChange 33 = .ok (.ifCond .le 108, 3) := by decide +kernel
theorem dX1_editsThatChange_36 : decode cX1_editsThatChange 36 = .ok (.lload_n 3, 1) := by decide +kernel
theorem dX1_editsThatChange_37 : decode cX1_editsThatChange 37 = .ok (.ldc2_w 138, 3) := by decide +kernel
theorem dX1_editsThatChange_40 : decode cX1_editsThatChange 40 = .ok (.lmul, 1) := by decide +kernel
theorem dX1_editsThatChange_41 : decode cX1_editsThatChange 41 = .ok (.ldc2_w 140, 3) := by decide +kernel
theorem dX1_editsThatChange_44 : decode cX1_editsThatChange 44 = .ok (.lrem, 1) := by decide +kernel
theorem dX1_editsThatChange_45 : decode cX1_editsThatChange 45 = .ok (.lstore_n 3, 1) := by decide +kernel
theorem dX1_editsThatChange_46 : decode cX1_editsThatChange 46 = .ok (.lload_n 3, 1) := by decide +kernel
theorem dX1_editsThatChange_47 : decode cX1_editsThatChange 47 = .ok (.aload_n 0, 1) := by decide +kernel
theorem dX1_editsThatChange_48 : decode cX1_editsThatChange 48 = .ok (.getfield 26, 3) := by decide +kernel
theorem dX1_editsThatChange_51 : decode cX1_editsThatChange 51 = .ok (.getfield 55, 3) := by decide +kernel
theorem dX1_editsThatChange_54 : decode cX1_editsThatChange 54 = .ok (.i2l, 1) := by decide +kernel
theorem dX1_editsThatChange_55 : decode cX1_editsThatChange 55 = .ok (.lrem, 1) := by decide +kernel
theorem dX1_editsThatChange_56 : decode cX1_editsThatChange 56 = .ok (.l2i, 1) := by decide +kernel
theorem dX1_editsThatChange_57 : decode cX1_editsThatChange 57 = .ok (.istore 7, 2) := by decide +kernel
theorem dX1_editsThatChange_59 : decode cX1_editsThatChange 59 = .ok (.aload_n 0, 1) := by decide +kernel
theorem dX1_editsThatChange_60 : decode cX1_editsThatChange 60 = .ok (.getfield 26, 3) := by decide +kernel
theorem dX1_editsThatChange_63 : decode cX1_editsThatChange 63 = .ok (.getfield 111, 3) := by decide +kernel
theorem dX1_editsThatChange_66 : decode cX1_editsThatChange 66 = .ok (.iload 7, 2) := by decide +kernel
theorem dX1_editsThatChange_68 : decode cX1_editsThatChange 68 = .ok (.iaload, 1) := by decide +kernel
theorem dX1_editsThatChange_69 : decode cX1_editsThatChange 69 = .ok (.iconst 4, 1) := by decide +kernel
theorem dX1_editsThatChange_70 : decode cX1_editsThatChange 70 = .ok (.if_icmp .ne 24, 3) := by decide +kernel
theorem dX1_editsThatChange_73 : decode cX1_editsThatChange 73 = .ok (.aload_n 0, 1) := by decide +kernel
theorem dX1_editsThatChange_74 : decode cX1_editsThatChange 74 = .ok (.getfield 26, 3) := by decide +kernel
theorem dX1_editsThatChange_77 : decode cX1_editsThatChange 77 = .ok (.getfield 59, 3) := by decide +kernel
theorem dX1_editsThatChange_80 : decode cX1_editsThatChange 80 = .ok (.iload 7, 2) := by decide +kernel
theorem dX1_editsThatChange_82 : decode cX1_editsThatChange 82 = .ok (.lload_n 3, 1) := by decide +kernel
theorem dX1_editsThatChange_83 : decode cX1_editsThatChange 83 = .ok (.ldc2_w 142, 3) := by decide +kernel
theorem dX1_editsThatChange_86 : decode cX1_editsThatChange 86 = .ok (.lrem, 1) := by decide +kernel
theorem dX1_editsThatChange_87 : decode cX1_editsThatChange 87 = .ok (.l2i, 1) := by decide +kernel
theorem dX1_editsThatChange_88 : decode cX1_editsThatChange 88 = .ok (.iconst 1, 1) := by decide +kernel
theorem dX1_editsThatChange_89 : decode cX1_editsThatChange 89 = .ok (.iadd, 1) := by decide +kernel
theorem dX1_editsThatChange_90 : decode cX1_editsThatChange 90 = .ok (.iastore, 1) := by decide +kernel
theorem dX1_editsThatChange_91 : decode cX1_editsThatChange 91 = .ok (.goto 27, 3) := by decide +kernel
theorem dX1_editsThatChange_94 : decode cX1_editsThatChange 94 = .ok (.aload_n 0, 1) := by decide +kernel
theorem dX1_editsThatChange_95 : decode cX1_editsThatChange 95 = .ok (.getfield 26, 3) := by decide +kernel
theorem dX1_editsThatChange_98 : decode cX1_editsThatChange 98 = .ok (.iload 7, 2) := by decide +kernel
theorem dX1_editsThatChange_100 : decode cX1_editsThatChange 100 = .ok (.invokevirtual 62, 3) := by decide +kernel
theorem dX1_editsThatChange_103 : decode cX1_editsThatChange 103 = .ok (.ifCond .eq 15, 3) := by decide +kernel
theorem dX1_editsThatChange_106 : decode cX1_editsThatChange 106 = .ok (.aload_n 0, 1) := by decide +kernel
theorem dX1_editsThatChange_107 : decode cX1_editsThatChange 107 = .ok (.getfield 26, 3) := by decide +kernel
theorem dX1_editsThatChange_110 : decode cX1_editsThatChange 110 = .ok (.getfield 59, 3) := by decide +kernel
theorem dX1_editsThatChange_113 : decode cX1_editsThatChange 113 = .ok (.iload 7, 2) := by decide +kernel
theorem dX1_editsThatChange_115 : decode cX1_editsThatChange 115 = .ok (.iload 7, 2) := by decide +kernel
theorem dX1_editsThatChange_117 : decode cX1_editsThatChange 117 = .ok (.iastore, 1) := by decide +kernel
theorem dX1_editsThatChange_118 : decode cX1_editsThatChange 118 = .ok (.aload_n 0, 1) := by decide +kernel
theorem dX1_editsThatChange_119 : decode cX1_editsThatChange 119 = .ok (.getfield 29, 3) := by decide +kernel
theorem dX1_editsThatChange_122 : decode cX1_editsThatChange 122 = .ok (.aload_n 0, 1) := by decide +kernel
theorem dX1_editsThatChange_123 : decode cX1_editsThatChange 123 = .ok (.getfield 26, 3) := by decide +kernel
theorem dX1_editsThatChange_126 : decode cX1_editsThatChange 126 = .ok (.invokevirtual 42, 3) := by decide +kernel
theorem dX1_editsThatChange_129 : decode cX1_editsThatChange 129 = .ok (.ifCond .le 6, 3) := by decide +kernel
theorem dX1_editsThatChange_132 : decode cX1_editsThatChange 132 = .ok (.iinc 5 1, 3) := by decide +kernel
theorem dX1_editsThatChange_135 : decode cX1_editsThatChange 135 = .ok (.iinc 6 1, 3) := by decide +kernel
theorem dX1_editsThatChange_138 : decode cX1_editsThatChange 138 = .ok (.goto (-118), 3) := by decide +kernel
theorem dX1_editsThatChange_141 : decode cX1_editsThatChange 141 = .ok (.iload 5, 2) := by decide +kernel
theorem dX1_editsThatChange_143 : decode cX1_editsThatChange 143 = .ok (.ireturn, 1) := by decide +kernel
theorem dX2_init_0 : decode cX2_init 0 = .ok (.aload_n 0, 1) := by decide +kernel
theorem dX2_init_1 : decode cX2_init 1 = .ok (.invokespecial 3, 3) := by decide +kernel
theorem dX2_init_4 : decode cX2_init 4 = .ok (.aload_n 0, 1) := by decide +kernel
theorem dX2_init_5 : decode cX2_init 5 = .ok (.bipush 12, 2) := by decide +kernel
theorem dX2_init_7 : decode cX2_init 7 = .ok (.newarray .int, 2) := by decide +kernel
theorem dX2_init_9 : decode cX2_init 9 = .ok (.putfield 9, 3) := by decide +kernel
theorem dX2_init_12 : decode cX2_init 12 = .ok (.aload_n 0, 1) := by decide +kernel
theorem dX2_init_13 : decode cX2_init 13 = .ok (.bipush 12, 2) := by decide +kernel
theorem dX2_init_15 : decode cX2_init 15 = .ok (.newarray .int, 2) := by decide +kernel
theorem dX2_init_17 : decode cX2_init 17 = .ok (.putfield 15, 3) := by decide +kernel
theorem dX2_init_20 : decode cX2_init 20 = .ok (.aload_n 0, 1) := by decide +kernel
theorem dX2_init_21 : decode cX2_init 21 = .ok (.bipush 12, 2) := by decide +kernel
theorem dX2_init_23 : decode cX2_init 23 = .ok (.newarray .int, 2) := by decide +kernel
theorem dX2_init_25 : decode cX2_init 25 = .ok (.putfield 18, 3) := by decide +kernel
theorem dX2_init_28 : decode cX2_init 28 = .ok (.return_, 1) := by decide +kernel
theorem dX2_setOut_0 : decode cX2_setOut 0 = .ok (.aload_n 1, 1) := by decide +kernel
theorem dX2_setOut_1 : decode cX2_setOut 1 = .ok (.getfield 21, 3) := by decide +kernel
theorem dX2_setOut_4 : decode cX2_setOut 4 = .ok (.istore_n 3, 1) := by decide +kernel
theorem dX2_setOut_5 : decode cX2_setOut 5 = .ok (.iconst 0, 1) := by decide +kernel
theorem dX2_setOut_6 : decode cX2_setOut 6 = .ok (.istore 4, 2) := by decide +kernel
theorem dX2_setOut_8 : decode cX2_setOut 8 = .ok (.iconst 0, 1) := by decide +kernel
theorem dX2_setOut_9 : decode cX2_setOut 9 = .ok (.istore 5, 2) := by decide +kernel
theorem dX2_setOut_11 : decode cX2_setOut 11 = .ok (.iconst 0, 1) := by decide +kernel
theorem dX2_setOut_12 : decode cX2_setOut 12 = .ok (.istore 6, 2) := by decide +kernel
theorem dX2_setOut_14 : decode cX2_setOut 14 = .ok (.iload 6, 2) := by decide +kernel
theorem dX2_setOut_16 : decode cX2_setOut 16 = .ok (.aload_n 1, 1) := by decide +kernel
theorem dX2_setOut_17 : decode cX2_setOut 17 = .ok (.getfield 27, 3) := by decide +kernel
theorem dX2_setOut_20 : decode cX2_setOut 20 = .ok (.if_icmp .ge 141, 3) := by decide +kernel
theorem dX2_setOut_23 : decode cX2_setOut 23 = .ok (.aload_n 1, 1) := by decide +kernel
theorem dX2_setOut_24 : decode cX2_setOut 24 = .ok (.getfield 30, 3) := by decide +kernel
theorem dX2_setOut_27 : decode cX2_setOut 27 = .ok (.iload 6, 2) := by decide +kernel
theorem dX2_setOut_29 : decode cX2_setOut 29 = .ok (.iaload, 1) := by decide +kernel
theorem dX2_setOut_30 : decode cX2_setOut 30 = .ok (.iconst 5, 1) := by decide +kernel
theorem dX2_setOut_31 : decode cX2_setOut 31 = .ok (.if_icmp .ne 7, 3) := by decide +kernel
theorem dX2_setOut_34 : decode cX2_setOut 34 = .ok (.iconst 1, 1) := by decide +kernel
theorem dX2_setOut_35 : decode cX2_setOut 35 = .ok (.goto 4, 3) := by decide +kernel
theorem dX2_setOut_38 : decode cX2_setOut 38 = .ok (.iconst 0, 1) := by decide +kernel
theorem dX2_setOut_39 : decode cX2_setOut 39 = .ok (.istore 7, 2) := by decide +kernel
theorem dX2_setOut_41 : decode cX2_setOut 41 = .ok (.aload_n 1, 1) := by decide +kernel
theorem dX2_setOut_42 : decode cX2_setOut 42 = .ok (.aload_n 1, 1) := by decide +kernel
theorem dX2_setOut_43 : decode cX2_setOut 43 = .ok (.getfield 33, 3) := by decide +kernel
theorem dX2_setOut_46 : decode cX2_setOut 46 = .ok (.iload 6, 2) := by decide +kernel
theorem dX2_setOut_48 : decode cX2_setOut 48 = .ok (.invokevirtual 36, 3) := by decide +kernel
theorem dX2_setOut_51 : decode cX2_setOut 51 = .ok (.iload 6, 2) := by decide +kernel
theorem dX2_setOut_53 : decode cX2_setOut 53 = .ok (.iload_n 2, 1) := by decide +kernel
theorem dX2_setOut_54 : decode cX2_setOut 54 = .ok (.if_icmp .ne 7, 3) := by decide +kernel
theorem dX2_setOut_57 : decode cX2_setOut 57 = .ok (.iconst 1, 1) := by decide +kernel
theorem dX2_setOut_58 : decode cX2_setOut 58 = .ok (.goto 4, 3) := by decide +kernel
theorem dX2_setOut_61 : decode cX2_setOut 61 = .ok (.iconst 0, 1) := by decide +kernel
theorem dX2_setOut_62 : decode cX2_setOut 62 = .ok (.iadd, 1) := by decide +kernel
theorem dX2_setOut_63 : decode cX2_setOut 63 = .ok (.istore 8, 2) := by decide +kernel
theorem dX2_setOut_65 : decode cX2_setOut 65 = .ok (.iload 7, 2) := by decide +kernel
theorem dX2_setOut_67 : decode cX2_setOut 67 = .ok (.ifCond .ne 41, 3) := by decide +kernel
theorem dX2_setOut_70 : decode cX2_setOut 70 = .ok (.iload 5, 2) := by decide +kernel
theorem dX2_setOut_72 : decode cX2_setOut 72 = .ok (.ifCond .le 36, 3) := by decide +kernel
theorem dX2_setOut_75 : decode cX2_setOut 75 = .ok (.iload 5, 2) := by decide +kernel
theorem dX2_setOut_77 : decode cX2_setOut 77 = .ok (.iload 8, 2) := by decide +kernel
theorem dX2_setOut_79 : decode cX2_setOut 79 = .ok (.iadd, 1) := by decide +kernel
theorem dX2_setOut_80 : decode cX2_setOut 80 = .ok (.aload_n 1, 1) := by decide +kernel
theorem dX2_setOut_81 : decode cX2_setOut 81 = .ok (.getfield 40, 3) := by decide +kernel
theorem dX2_setOut_84 : decode cX2_setOut 84 = .ok (.if_icmp .le 24, 3) := by decide +kernel
theorem dX2_setOut_87 : decode cX2_setOut 87 = .ok (.iconst 0, 1) := by decide +kernel
theorem dX2_setOut_88 : decode cX2_setOut 88 = .ok (.istore 5, 2) := by decide +kernel
theorem dX2_setOut_90 : decode cX2_setOut 90 = .ok (.iinc 4 1, 3) := by decide +kernel
theorem dX2_setOut_93 : decode cX2_setOut 93 = .ok (.iload 4, 2) := by decide +kernel
theorem dX2_setOut_95 : decode cX2_setOut 95 = .ok (.aload_n 1, 1) := by decide +kernel
theorem dX2_setOut_96 : decode cX2_setOut 96 = .ok (.getfield 43, 3) := by decide +kernel
theorem dX2_setOut_99 : decode cX2_setOut 99 = .ok (.if_icmp .lt 9, 3) := by decide +kernel
theorem dX2_setOut_102 : decode cX2_setOut 102 = .ok (.iconst 0, 1) := by decide +kernel
theorem dX2_setOut_103 : decode cX2_setOut 103 = .ok (.istore 4, 2) := by decide +kernel
theorem dX2_setOut_105 : decode cX2_setOut 105 = .ok (.iinc 3 1, 3) := by decide +kernel
theorem dX2_setOut_108 : decode cX2_setOut 108 = .ok (.aload_n 0, 1) := by decide +kernel
theorem dX2_setOut_109 : decode cX2_setOut 109 = .ok (.getfield 9, 3) := by decide +kernel
theorem dX2_setOut_112 : decode cX2_setOut 112 = .ok (.iload 6, 2) := by decide +kernel
theorem dX2_setOut_114 : decode cX2_setOut 114 = .ok (.iload_n 3, 1) := by decide +kernel
theorem dX2_setOut_115 : decode cX2_setOut 115 = .ok (.iastore, 1) := by decide +kernel
theorem dX2_setOut_116 : decode cX2_setOut 116 = .ok (.aload_n 0, 1) := by decide +kernel
theorem dX2_setOut_117 : decode cX2_setOut 117 = .ok (.getfield 15, 3) := by decide +kernel
theorem dX2_setOut_120 : decode cX2_setOut 120 = .ok (.iload 6, 2) := by decide +kernel
theorem dX2_setOut_122 : decode cX2_setOut 122 = .ok (.iload 4, 2) := by decide +kernel
theorem dX2_setOut_124 : decode cX2_setOut 124 = .ok (.iastore, 1) := by decide +kernel
theorem dX2_setOut_125 : decode cX2_setOut 125 = .ok (.aload_n 0, 1) := by decide +kernel
theorem dX2_setOut_126 : decode cX2_setOut 126 = .ok (.getfield 18, 3) := by decide +kernel
theorem dX2_setOut_129 : decode cX2_setOut 129 = .ok (.iload 6, 2) := by decide +kernel
theorem dX2_setOut_131 : decode cX2_setOut 131 = .ok (.iload 5, 2) := by decide +kernel
theorem dX2_setOut_133 : decode cX2_setOut 133 = .ok (.iastore, 1) := by decide +kernel
theorem dX2_setOut_134 : decode cX2_setOut 134 = .ok (.iload 5, 2) := by decide +kernel
theorem dX2_setOut_136 : decode cX2_setOut 136 = .ok (.iload 8, 2) := by decide +kernel
theorem dX2_setOut_138 : decode cX2_setOut 138 = .ok (.iadd, 1) := by decide +kernel
theorem dX2_setOut_139 : decode cX2_setOut 139 = .ok (.istore 5, 2) := by decide +kernel
theorem dX2_setOut_141 : decode cX2_setOut 141 = .ok (.iload 7, 2) := by decide +kernel
theorem dX2_setOut_143 : decode cX2_setOut 143 = .ok (.ifCond .eq 12, 3) := by decide +kernel
theorem dX2_setOut_146 : decode cX2_setOut 146 = .ok (.iinc 3 1, 3) := by decide +kernel
theorem dX2_setOut_149 : decode cX2_setOut 149 = .ok (.iconst 0, 1) := by decide +kernel
theorem dX2_setOut_150 : decode cX2_setOut 150 = .ok (.istore 4, 2) := by decide +kernel
theorem dX2_setOut_152 : decode cX2_setOut 152 = .ok (.iconst 0, 1) := by decide +kernel
theorem dX2_setOut_153 : decode cX2_setOut 153 = .ok (.istore 5, 2) := by decide +kernel
theorem dX2_setOut_155 : decode cX2_setOut 155 = .ok (.iinc 6 1, 3) := by decide +kernel
theorem dX2_setOut_158 : decode cX2_setOut 158 = .ok (.goto (-144), 3) := by decide +kernel
theorem dX2_setOut_161 : decode cX2_setOut 161 = .ok (.return_, 1) := by decide +kernel
theorem dX2_hasElsewhere_0 : decode cX2_hasElsewhere 0 = .ok (.aload_n 0, 1) := by decide +kernel
theorem dX2_hasElsewhere_1 : decode cX2_hasElsewhere 1 = .ok (.getfield 9, 3) := by decide +kernel
theorem dX2_hasElsewhere_4 : decode cX2_hasElsewhere 4 = .ok (.iload_n 1, 1) := by decide +kernel
theorem dX2_hasElsewhere_5 : decode cX2_hasElsewhere 5 = .ok (.iaload, 1) := by decide +kernel
theorem dX2_hasElsewhere_6 : decode cX2_hasElsewhere 6 = .ok (.aload_n 2, 1) := by decide +kernel
theorem dX2_hasElsewhere_7 : decode cX2_hasElsewhere 7 = .ok (.getfield 9, 3) := by decide +kernel
theorem dX2_hasElsewhere_10 : decode cX2_hasElsewhere 10 = .ok (.iload_n 1, 1) := by decide +kernel
theorem dX2_hasElsewhere_11 : decode cX2_hasElsewhere 11 = .ok (.iaload, 1) := by decide +kernel
theorem dX2_hasElsewhere_12 : decode cX2_hasElsewhere 12 = .ok (.if_icmp .ne 33, 3) := by decide +kernel
theorem dX2_hasElsewhere_15 : decode cX2_hasElsewhere 15 = .ok (.aload_n 0, 1) := by decide +kernel
theorem dX2_hasElsewhere_16 : decode cX2_hasElsewhere 16 = .ok (.getfield 15, 3) := by decide +kernel
theorem dX2_hasElsewhere_19 : decode cX2_hasElsewhere 19 = .ok (.iload_n 1, 1) := by decide +kernel
theorem dX2_hasElsewhere_20 : decode cX2_hasElsewhere 20 = .ok (.iaload, 1) := by decide +kernel
theorem dX2_hasElsewhere_21 : decode cX2_hasElsewhere 21 = .ok (.aload_n 2, 1) := by decide +kernel
theorem dX2_hasElsewhere_22 : decode cX2_hasElsewhere 22 = .ok (.getfield 15, 3) := by decide +kernel
theorem dX2_hasElsewhere_25 : decode cX2_hasElsewhere 25 = .ok (.iload_n 1, 1) := by decide +kernel
theorem dX2_hasElsewhere_26 : decode cX2_hasElsewhere 26 = .ok (.iaload, 1) := by decide +kernel
theorem dX2_hasElsewhere_27 : decode cX2_hasElsewhere 27 = .ok (.if_icmp .ne 18, 3) := by decide +kernel
theorem dX2_hasElsewhere_30 : decode cX2_hasElsewhere 30 = .ok (.aload_n 0, 1) := by decide +kernel
theorem dX2_hasElsewhere_31 : decode cX2_hasElsewhere 31 = .ok (.getfield 18, 3) := by decide +kernel
theorem dX2_hasElsewhere_34 : decode cX2_hasElsewhere 34 = .ok (.iload_n 1, 1) := by decide +kernel
theorem dX2_hasElsewhere_35 : decode cX2_hasElsewhere 35 = .ok (.iaload, 1) := by decide +kernel
theorem dX2_hasElsewhere_36 : decode cX2_hasElsewhere 36 = .ok (.aload_n 2, 1) := by decide +kernel
theorem dX2_hasElsewhere_37 : decode cX2_hasElsewhere 37 = .ok (.getfield 18, 3) := by decide +kernel
theorem dX2_hasElsewhere_40 : decode cX2_hasElsewhere 40 = .ok (.iload_n 1, 1) := by decide +kernel
theorem dX2_hasElsewhere_41 : decode cX2_hasElsewhere 41 = .ok (.iaload, 1) := by decide +kernel
theorem dX2_hasElsewhere_42 : decode cX2_hasElsewhere 42 = .ok (.if_icmp .eq 7, 3) := by decide +kernel
theorem dX2_hasElsewhere_45 : decode cX2_hasElsewhere 45 = .ok (.iconst 1, 1) := by decide +kernel
theorem dX2_hasElsewhere_46 : decode cX2_hasElsewhere 46 = .ok (.goto 4, 3) := by decide +kernel
theorem dX2_hasElsewhere_49 : decode cX2_hasElsewhere 49 = .ok (.iconst 0, 1) := by decide +kernel
theorem dX2_hasElsewhere_50 : decode cX2_hasElsewhere 50 = .ok (.ireturn, 1) := by decide +kernel
theorem dX3_init_0 : decode cX3_init 0 = .ok (.aload_n 0, 1) := by decide +kernel
theorem dX3_init_1 : decode cX3_init 1 = .ok (.invokespecial 1, 3) := by decide +kernel
theorem dX3_init_4 : decode cX3_init 4 = .ok (.aload_n 0, 1) := by decide +kernel
theorem dX3_init_5 : decode cX3_init 5 = .ok (.bipush 24, 2) := by decide +kernel
theorem dX3_init_7 : decode cX3_init 7 = .ok (.anewarray 9, 3) := by decide +kernel
theorem dX3_init_10 : decode cX3_init 10 = .ok (.putfield 11, 3) := by decide +kernel
theorem dX3_init_13 : decode cX3_init 13 = .ok (.iconst 0, 1) := by decide +kernel
theorem dX3_init_14 : decode cX3_init 14 = .ok (.istore_n 1, 1) := by decide +kernel
theorem dX3_init_15 : decode cX3_init 15 = .ok (.iload_n 1, 1) := by decide +kernel
theorem dX3_init_16 : decode cX3_init 16 = .ok (.bipush 24, 2) := by decide +kernel
theorem dX3_init_18 : decode cX3_init 18 = .ok (.if_icmp .ge 22, 3) := by decide +kernel
theorem dX3_init_21 : decode cX3_init 21 = .ok (.aload_n 0, 1) := by decide +kernel
theorem dX3_init_22 : decode cX3_init 22 = .ok (.getfield 11, 3) := by decide +kernel
theorem dX3_init_25 : decode cX3_init 25 = .ok (.iload_n 1, 1) := by decide +kernel
theorem dX3_init_26 : decode cX3_init 26 = .ok (.new 9, 3) := by decide +kernel
theorem dX3_init_29 : decode cX3_init 29 = .ok (.dup, 1) := by decide +kernel
theorem dX3_init_30 : decode cX3_init 30 = .ok (.invokespecial 15, 3) := by decide +kernel
theorem dX3_init_33 : decode cX3_init 33 = .ok (.aastore, 1) := by decide +kernel
theorem dX3_init_34 : decode cX3_init 34 = .ok (.iinc 1 1, 3) := by decide +kernel
theorem dX3_init_37 : decode cX3_init 37 = .ok (.goto (-22), 3) := by decide +kernel
theorem dX3_init_40 : decode cX3_init 40 = .ok (.return_, 1) := by decide +kernel
theorem dX3_remember_0 : decode cX3_remember 0 = .ok (.aload_n 0, 1) := by decide +kernel
theorem dX3_remember_1 : decode cX3_remember 1 = .ok (.getfield 11, 3) := by decide +kernel
theorem dX3_remember_4 : decode cX3_remember 4 = .ok (.aload_n 0, 1) := by decide +kernel
theorem dX3_remember_5 : decode cX3_remember 5 = .ok (.getfield 16, 3) := by decide +kernel
theorem dX3_remember_8 : decode cX3_remember 8 = .ok (.aload_n 0, 1) := by decide +kernel
theorem dX3_remember_9 : decode cX3_remember 9 = .ok (.getfield 20, 3) := by decide +kernel
theorem dX3_remember_12 : decode cX3_remember 12 = .ok (.iadd, 1) := by decide +kernel
theorem dX3_remember_13 : decode cX3_remember 13 = .ok (.bipush 24, 2) := by decide +kernel
theorem dX3_remember_15 : decode cX3_remember 15 = .ok (.irem, 1) := by decide +kernel
theorem dX3_remember_16 : decode cX3_remember 16 = .ok (.aaload, 1) := by decide +kernel
theorem dX3_remember_17 : decode cX3_remember 17 = .ok (.aload_n 1, 1) := by decide +kernel
theorem dX3_remember_18 : decode cX3_remember 18 = .ok (.invokevirtual 23, 3) := by decide +kernel
theorem dX3_remember_21 : decode cX3_remember 21 = .ok (.aload_n 0, 1) := by decide +kernel
theorem dX3_remember_22 : decode cX3_remember 22 = .ok (.getfield 20, 3) := by decide +kernel
theorem dX3_remember_25 : decode cX3_remember 25 = .ok (.bipush 24, 2) := by decide +kernel
theorem dX3_remember_27 : decode cX3_remember 27 = .ok (.if_icmp .ge 16, 3) := by decide +kernel
theorem dX3_remember_30 : decode cX3_remember 30 = .ok (.aload_n 0, 1) := by decide +kernel
theorem dX3_remember_31 : decode cX3_remember 31 = .ok (.dup, 1) := by decide +kernel
theorem dX3_remember_32 : decode cX3_remember 32 = .ok (.getfield 20, 3) := by decide +kernel
theorem dX3_remember_35 : decode cX3_remember 35 = .ok (.iconst 1, 1) := by decide +kernel
theorem dX3_remember_36 : decode cX3_remember 36 = .ok (.iadd, 1) := by decide +kernel
theorem dX3_remember_37 : decode cX3_remember 37 = .ok (.putfield 20, 3) := by decide +kernel
theorem dX3_remember_40 : decode cX3_remember 40 = .ok (.goto 16, 3) := by decide +kernel
theorem dX3_remember_43 : decode cX3_remember 43 = .ok (.aload_n 0, 1) := by decide +kernel
theorem dX3_remember_44 : decode cX3_remember 44 = .ok (.aload_n 0, 1) := by decide +kernel
theorem dX3_remember_45 : decode cX3_remember 45 = .ok (.getfield 16, 3) := by decide +kernel
theorem dX3_remember_48 : decode cX3_remember 48 = .ok (.iconst 1, 1) := by decide +kernel
theorem dX3_remember_49 : decode cX3_remember 49 = .ok (.iadd, 1) := by decide +kernel
theorem dX3_remember_50 : decode cX3_remember 50 = .ok (.bipush 24, 2) := by decide +kernel
theorem dX3_remember_52 : decode cX3_remember 52 = .ok (.irem, 1) := by decide +kernel
theorem dX3_remember_53 : decode cX3_remember 53 = .ok (.putfield 16, 3) := by decide +kernel
theorem dX3_remember_56 : decode cX3_remember 56 = .ok (.return_, 1) := by decide +kernel
theorem dX3_bringBack_0 : decode cX3_bringBack 0 = .ok (.aload_n 0, 1) := by decide +kernel
theorem dX3_bringBack_1 : decode cX3_bringBack 1 = .ok (.getfield 20, 3) := by decide +kernel
theorem dX3_bringBack_4 : decode cX3_bringBack 4 = .ok (.ifCond .le 34, 3) := by decide +kernel
theorem dX3_bringBack_7 : decode cX3_bringBack 7 = .ok (.aload_n 0, 1) := by decide +kernel
theorem dX3_bringBack_8 : decode cX3_bringBack 8 = .ok (.dup, 1) := by decide +kernel
theorem dX3_bringBack_9 : decode cX3_bringBack 9 = .ok (.getfield 20, 3) := by decide +kernel
theorem dX3_bringBack_12 : decode cX3_bringBack 12 = .ok (.iconst 1, 1) := by decide +kernel
theorem dX3_bringBack_13 : decode cX3_bringBack 13 = .ok (.isub, 1) := by decide +kernel
theorem dX3_bringBack_14 : decode cX3_bringBack 14 = .ok (.putfield 20, 3) := by decide +kernel
theorem dX3_bringBack_17 : decode cX3_bringBack 17 = .ok (.aload_n 1, 1) := by decide +kernel
theorem dX3_bringBack_18 : decode cX3_bringBack 18 = .ok (.aload_n 0, 1) := by decide +kernel
theorem dX3_bringBack_19 : decode cX3_bringBack 19 = .ok (.getfield 11, 3) := by decide +kernel
theorem dX3_bringBack_22 : decode cX3_bringBack 22 = .ok (.aload_n 0, 1) := by decide +kernel
theorem dX3_bringBack_23 : decode cX3_bringBack 23 = .ok (.getfield 16, 3) := by decide +kernel
theorem dX3_bringBack_26 : decode cX3_bringBack 26 = .ok (.aload_n 0, 1) := by decide +kernel
theorem dX3_bringBack_27 : decode cX3_bringBack 27 = .ok (.getfield 20, 3) := by decide +kernel
theorem dX3_bringBack_30 : decode cX3_bringBack 30 = .ok (.iadd, 1) := by decide +kernel
theorem dX3_bringBack_31 : decode cX3_bringBack 31 = .ok (.bipush 24, 2) := by decide +kernel
theorem dX3_bringBack_33 : decode cX3_bringBack 33 = .ok (.irem, 1) := by decide +kernel
theorem dX3_bringBack_34 : decode cX3_bringBack 34 = .ok (.aaload, 1) := by decide +kernel
theorem dX3_bringBack_35 : decode cX3_bringBack 35 = .ok (.invokevirtual 23, 3) := by decide +kernel
theorem dX3_bringBack_38 : decode cX3_bringBack 38 = .ok (.return_, 1) := by decide +kernel
theorem dX3_forget_0 : decode cX3_forget 0 = .ok (.aload_n 0, 1) := by decide +kernel
theorem dX3_forget_1 : decode cX3_forget 1 = .ok (.iconst 0, 1) := by decide +kernel
theorem dX3_forget_2 : decode cX3_forget 2 = .ok (.putfield 20, 3) := by decide +kernel
theorem dX3_forget_5 : decode cX3_forget 5 = .ok (.return_, 1) := by decide +kernel
theorem dX4_init_0 : decode cX4_init 0 = .ok (.aload_n 0, 1) := by decide +kernel
theorem dX4_init_1 : decode cX4_init 1 = .ok (.invokespecial 3, 3) := by decide +kernel
theorem dX4_init_4 : decode cX4_init 4 = .ok (.aload_n 0, 1) := by decide +kernel
theorem dX4_init_5 : decode cX4_init 5 = .ok (.iconst 0, 1) := by decide +kernel
theorem dX4_init_6 : decode cX4_init 6 = .ok (.newarray .int, 2) := by decide +kernel
theorem dX4_init_8 : decode cX4_init 8 = .ok (.putfield 9, 3) := by decide +kernel
theorem dX4_init_11 : decode cX4_init 11 = .ok (.return_, 1) := by decide +kernel
theorem dX4_reads_0 : decode cX4_reads 0 = .ok (.aload_n 0, 1) := by decide +kernel
theorem dX4_reads_1 : decode cX4_reads 1 = .ok (.aload_n 1, 1) := by decide +kernel
theorem dX4_reads_2 : decode cX4_reads 2 = .ok (.putfield 9, 3) := by decide +kernel
theorem dX4_reads_5 : decode cX4_reads 5 = .ok (.aload_n 0, 1) := by decide +kernel
theorem dX4_reads_6 : decode cX4_reads 6 = .ok (.iload_n 2, 1) := by decide +kernel
theorem dX4_reads_7 : decode cX4_reads 7 = .ok (.aload_n 1, 1) := by decide +kernel
theorem dX4_reads_8 : decode cX4_reads 8 = .ok (.arraylength, 1) := by decide +kernel
theorem dX4_reads_9 : decode cX4_reads 9 = .ok (.invokestatic 15, 3) := by decide +kernel
theorem dX4_reads_12 : decode cX4_reads 12 = .ok (.putfield 21, 3) := by decide +kernel
theorem dX4_reads_15 : decode cX4_reads 15 = .ok (.aload_n 0, 1) := by decide +kernel
theorem dX4_reads_16 : decode cX4_reads 16 = .ok (.iconst 0, 1) := by decide +kernel
theorem dX4_reads_17 : decode cX4_reads 17 = .ok (.putfield 25, 3) := by decide +kernel
theorem dX4_reads_20 : decode cX4_reads 20 = .ok (.aload_n 0, 1) := by decide +kernel
theorem dX4_reads_21 : decode cX4_reads 21 = .ok (.iconst 0, 1) := by decide +kernel
theorem dX4_reads_22 : decode cX4_reads 22 = .ok (.putfield 28, 3) := by decide +kernel
theorem dX4_reads_25 : decode cX4_reads 25 = .ok (.aload_n 3, 1) := by decide +kernel
theorem dX4_reads_26 : decode cX4_reads 26 = .ok (.iconst 0, 1) := by decide +kernel
theorem dX4_reads_27 : decode cX4_reads 27 = .ok (.putfield 31, 3) := by decide +kernel
theorem dX4_reads_30 : decode cX4_reads 30 = .ok (.aload_n 3, 1) := by decide +kernel
theorem dX4_reads_31 : decode cX4_reads 31 = .ok (.iconst 0, 1) := by decide +kernel
theorem dX4_reads_32 : decode cX4_reads 32 = .ok (.putfield 36, 3) := by decide +kernel
theorem dX4_reads_35 : decode cX4_reads 35 = .ok (.aload_n 0, 1) := by decide +kernel
theorem dX4_reads_36 : decode cX4_reads 36 = .ok (.aload_n 3, 1) := by decide +kernel
theorem dX4_reads_37 : decode cX4_reads 37 = .ok (.invokevirtual 39, 3) := by decide +kernel
theorem dX4_reads_40 : decode cX4_reads 40 = .ok (.iconst 0, 1) := by decide +kernel
theorem dX4_reads_41 : decode cX4_reads 41 = .ok (.istore 4, 2) := by decide +kernel
theorem dX4_reads_43 : decode cX4_reads 43 = .ok (.iload 4, 2) := by decide +kernel
theorem dX4_reads_45 : decode cX4_reads 45 = .ok (.aload_n 0, 1) := by decide +kernel
theorem dX4_reads_46 : decode cX4_reads 46 = .ok (.getfield 21, 3) := by decide +kernel
theorem dX4_reads_49 : decode cX4_reads 49 = .ok (.if_icmp .ge 39, 3) := by decide +kernel
theorem dX4_reads_52 : decode cX4_reads 52 = .ok (.aload_n 0, 1) := by decide +kernel
theorem dX4_reads_53 : decode cX4_reads 53 = .ok (.getfield 28, 3) := by decide +kernel
theorem dX4_reads_56 : decode cX4_reads 56 = .ok (.ifCond .ne 32, 3) := by decide +kernel
theorem dX4_reads_59 : decode cX4_reads 59 = .ok (.aload_n 0, 1) := by decide +kernel
theorem dX4_reads_60 : decode cX4_reads 60 = .ok (.getfield 25, 3) := by decide +kernel
theorem dX4_reads_63 : decode cX4_reads 63 = .ok (.aload_n 0, 1) := by decide +kernel
theorem dX4_reads_64 : decode cX4_reads 64 = .ok (.getfield 21, 3) := by decide +kernel
theorem dX4_reads_67 : decode cX4_reads 67 = .ok (.if_icmp .lt 10, 3) := by decide +kernel
theorem dX4_reads_70 : decode cX4_reads 70 = .ok (.aload_n 3, 1) := by decide +kernel
theorem dX4_reads_71 : decode cX4_reads 71 = .ok (.getfield 31, 3) := by decide +kernel
theorem dX4_reads_74 : decode cX4_reads 74 = .ok (.ifCond .ne 14, 3) := by decide +kernel
theorem dX4_reads_77 : decode cX4_reads 77 = .ok (.aload_n 0, 1) := by decide +kernel
theorem dX4_reads_78 : decode cX4_reads 78 = .ok (.aload_n 3, 1) := by decide +kernel
theorem dX4_reads_79 : decode cX4_reads 79 = .ok (.invokevirtual 43, 3) := by decide +kernel
theorem dX4_reads_82 : decode cX4_reads 82 = .ok (.iinc 4 1, 3) := by decide +kernel
theorem dX4_reads_85 : decode cX4_reads 85 = .ok (.goto (-42), 3) := by decide +kernel
theorem dX4_reads_88 : decode cX4_reads 88 = .ok (.aload_n 0, 1) := by decide +kernel
theorem dX4_reads_89 : decode cX4_reads 89 = .ok (.aload_n 3, 1) := by decide +kernel
theorem dX4_reads_90 : decode cX4_reads 90 = .ok (.invokevirtual 46, 3) := by decide +kernel
theorem dX4_reads_93 : decode cX4_reads 93 = .ok (.aload_n 3, 1) := by decide +kernel
theorem dX4_reads_94 : decode cX4_reads 94 = .ok (.invokevirtual 49, 3) := by decide +kernel
theorem dX4_reads_97 : decode cX4_reads 97 = .ok (.aload_n 0, 1) := by decide +kernel
theorem dX4_reads_98 : decode cX4_reads 98 = .ok (.getfield 28, 3) := by decide +kernel
theorem dX4_reads_101 : decode cX4_reads 101 = .ok (.ifCond .ne 7, 3) := by decide +kernel
theorem dX4_reads_104 : decode cX4_reads 104 = .ok (.iconst 1, 1) := by decide +kernel
theorem dX4_reads_105 : decode cX4_reads 105 = .ok (.goto 4, 3) := by decide +kernel
theorem dX4_reads_108 : decode cX4_reads 108 = .ok (.iconst 0, 1) := by decide +kernel
theorem dX4_reads_109 : decode cX4_reads 109 = .ok (.ireturn, 1) := by decide +kernel
theorem dX4_readLaw_0 : decode cX4_readLaw 0 = .ok (.aload_n 0, 1) := by decide +kernel
theorem dX4_readLaw_1 : decode cX4_readLaw 1 = .ok (.bipush 119, 2) := by decide +kernel
theorem dX4_readLaw_3 : decode cX4_readLaw 3 = .ok (.invokevirtual 52, 3) := by decide +kernel
theorem dX4_readLaw_6 : decode cX4_readLaw 6 = .ok (.aload_n 1, 1) := by decide +kernel
theorem dX4_readLaw_7 : decode cX4_readLaw 7 = .ok (.aload_n 0, 1) := by decide +kernel
theorem dX4_readLaw_8 : decode cX4_readLaw 8 = .ok (.iconst 4, 1) := by decide +kernel
theorem dX4_readLaw_9 : decode cX4_readLaw 9 = .ok (.bipush 20, 2) := by decide +kernel
theorem dX4_readLaw_11 : decode cX4_readLaw 11 = .ok (.invokevirtual 56, 3) := by decide +kernel
theorem dX4_readLaw_14 : decode cX4_readLaw 14 = .ok (.putfield 59, 3) := by decide +kernel
theorem dX4_readLaw_17 : decode cX4_readLaw 17 = .ok (.aload_n 0, 1) := by decide +kernel
theorem dX4_readLaw_18 : decode cX4_readLaw 18 = .ok (.bipush 44, 2) := by decide +kernel
theorem dX4_readLaw_20 : decode cX4_readLaw 20 = .ok (.invokevirtual 52, 3) := by decide +kernel
theorem dX4_readLaw_23 : decode cX4_readLaw 23 = .ok (.aload_n 1, 1) := by decide +kernel
theorem dX4_readLaw_24 : decode cX4_readLaw 24 = .ok (.aload_n 0, 1) := by decide +kernel
theorem dX4_readLaw_25 : decode cX4_readLaw 25 = .ok (.iconst 1, 1) := by decide +kernel
theorem dX4_readLaw_26 : decode cX4_readLaw 26 = .ok (.iconst 5, 1) := by decide +kernel
theorem dX4_readLaw_27 : decode cX4_readLaw 27 = .ok (.invokevirtual 56, 3) := by decide +kernel
theorem dX4_readLaw_30 : decode cX4_readLaw 30 = .ok (.putfield 62, 3) := by decide +kernel
theorem dX4_readLaw_33 : decode cX4_readLaw 33 = .ok (.aload_n 0, 1) := by decide +kernel
theorem dX4_readLaw_34 : decode cX4_readLaw 34 = .ok (.bipush 44, 2) := by decide +kernel
theorem dX4_readLaw_36 : decode cX4_readLaw 36 = .ok (.invokevirtual 52, 3) := by decide +kernel
theorem dX4_readLaw_39 : decode cX4_readLaw 39 = .ok (.aload_n 1, 1) := by decide +kernel
theorem dX4_readLaw_40 : decode cX4_readLaw 40 = .ok (.aload_n 0, 1) := by decide +kernel
theorem dX4_readLaw_41 : decode cX4_readLaw 41 = .ok (.iconst 1, 1) := by decide +kernel
theorem dX4_readLaw_42 : decode cX4_readLaw 42 = .ok (.bipush 87, 2) := by decide +kernel
theorem dX4_readLaw_44 : decode cX4_readLaw 44 = .ok (.invokevirtual 56, 3) := by decide +kernel
theorem dX4_readLaw_47 : decode cX4_readLaw 47 = .ok (.putfield 65, 3) := by decide +kernel
theorem dX4_readLaw_50 : decode cX4_readLaw 50 = .ok (.aload_n 0, 1) := by decide +kernel
theorem dX4_readLaw_51 : decode cX4_readLaw 51 = .ok (.bipush 59, 2) := by decide +kernel
theorem dX4_readLaw_53 : decode cX4_readLaw 53 = .ok (.invokevirtual 52, 3) := by decide +kernel
theorem dX4_readLaw_56 : decode cX4_readLaw 56 = .ok (.return_, 1) := by decide +kernel
theorem dX4_readItem_0 : decode cX4_readItem 0 = .ok (.aload_n 0, 1) := by decide +kernel
theorem dX4_readItem_1 : decode cX4_readItem 1 = .ok (.getfield 25, 3) := by decide +kernel
theorem dX4_readItem_4 : decode cX4_readItem 4 = .ok (.aload_n 0, 1) := by decide +kernel
theorem dX4_readItem_5 : decode cX4_readItem 5 = .ok (.getfield 21, 3) := by decide +kernel
theorem dX4_readItem_8 : decode cX4_readItem 8 = .ok (.if_icmp .ge 15, 3) := by decide +kernel
theorem dX4_readItem_11 : decode cX4_readItem 11 = .ok (.aload_n 0, 1) := by decide +kernel
theorem dX4_readItem_12 : decode cX4_readItem 12 = .ok (.getfield 9, 3) := by decide +kernel
theorem dX4_readItem_15 : decode cX4_readItem 15 = .ok (.aload_n 0, 1) := by decide +kernel
theorem dX4_readItem_16 : decode cX4_readItem 16 = .ok (.getfield 25, 3) := by decide +kernel
theorem dX4_readItem_19 : decode cX4_readItem 19 = .ok (.iaload, 1) := by decide +kernel
theorem dX4_readItem_20 : decode cX4_readItem 20 = .ok (.goto 5, 3) := by decide +kernel
theorem dX4_readItem_23 : decode cX4_readItem 23 = .ok (.bipush 32, 2) := by decide +kernel
theorem dX4_readItem_25 : decode cX4_readItem 25 = .ok (.invokestatic 68, 3) := by decide +kernel
theorem dX4_readItem_28 : decode cX4_readItem 28 = .ok (.istore_n 2, 1) := by decide +kernel
theorem dX4_readItem_29 : decode cX4_readItem 29 = .ok (.iload_n 2, 1) := by decide +kernel
theorem dX4_readItem_30 : decode cX4_readItem 30 = .ok (.ldc 72, 2) := by decide +kernel
theorem dX4_readItem_32 : decode cX4_readItem 32 = .ok (.if_icmp .ne 9, 3) := by decide +kernel
theorem dX4_readItem_35 : decode cX4_readItem 35 = .ok (.aload_n 0, 1) := by decide +kernel
theorem dX4_readItem_36 : decode cX4_readItem 36 = .ok (.iconst 1, 1) := by decide +kernel
theorem dX4_readItem_37 : decode cX4_readItem 37 = .ok (.putfield 28, 3) := by decide +kernel
theorem dX4_readItem_40 : decode cX4_readItem 40 = .ok (.return_, 1) := by decide +kernel
theorem dX4_readItem_41 : decode cX4_readItem 41 = .ok (.aload_n 1, 1) := by decide +kernel
theorem dX4_readItem_42 : decode cX4_readItem 42 = .ok (.getfield 31, 3) := by decide +kernel
theorem dX4_readItem_45 : decode cX4_readItem 45 = .ok (.bipush 12, 2) := by decide +kernel
theorem dX4_readItem_47 : decode cX4_readItem 47 = .ok (.if_icmp .lt 9, 3) := by decide +kernel
theorem dX4_readItem_50 : decode cX4_readItem 50 = .ok (.aload_n 0, 1) := by decide +kernel
theorem dX4_readItem_51 : decode cX4_readItem 51 = .ok (.iconst 3, 1) := by decide +kernel
theorem dX4_readItem_52 : decode cX4_readItem 52 = .ok (.putfield 28, 3) := by decide +kernel
theorem dX4_readItem_55 : decode cX4_readItem 55 = .ok (.return_, 1) := by decide +kernel
theorem dX4_readItem_56 : decode cX4_readItem 56 = .ok (.aload_n 0, 1) := by decide +kernel
theorem dX4_readItem_57 : decode cX4_readItem 57 = .ok (.dup, 1) := by decide +kernel
theorem dX4_readItem_58 : decode cX4_readItem 58 = .ok (.getfield 25, 3) := by decide +kernel
theorem dX4_readItem_61 : decode cX4_readItem 61 = .ok (.iconst 1, 1) := by decide +kernel
theorem dX4_readItem_62 : decode cX4_readItem 62 = .ok (.iadd, 1) := by decide +kernel
theorem dX4_readItem_63 : decode cX4_readItem 63 = .ok (.putfield 25, 3) := by decide +kernel
theorem dX4_readItem_66 : decode cX4_readItem 66 = .ok (.aload_n 1, 1) := by decide +kernel
theorem dX4_readItem_67 : decode cX4_readItem 67 = .ok (.getfield 73, 3) := by decide +kernel
theorem dX4_readItem_70 : decode cX4_readItem 70 = .ok (.aload_n 1, 1) := by decide +kernel
theorem dX4_readItem_71 : decode cX4_readItem 71 = .ok (.getfield 31, 3) := by decide +kernel
theorem dX4_readItem_74 : decode cX4_readItem 74 = .ok (.iload_n 2, 1) := by decide +kernel
theorem dX4_readItem_75 : decode cX4_readItem 75 = .ok (.iastore, 1) := by decide +kernel
theorem dX4_readItem_76 : decode cX4_readItem 76 = .ok (.aload_n 1, 1) := by decide +kernel
theorem dX4_readItem_77 : decode cX4_readItem 77 = .ok (.getfield 76, 3) := by decide +kernel
theorem dX4_readItem_80 : decode cX4_readItem 80 = .ok (.aload_n 1, 1) := by decide +kernel
theorem dX4_readItem_81 : decode cX4_readItem 81 = .ok (.getfield 31, 3) := by decide +kernel
theorem dX4_readItem_84 : decode cX4_readItem 84 = .ok (.aload_n 0, 1) := by decide +kernel
theorem dX4_readItem_85 : decode cX4_readItem 85 = .ok (.iload_n 2, 1) := by decide +kernel
theorem dX4_readItem_86 : decode cX4_readItem 86 = .ok (.invokevirtual 79, 3) := by decide +kernel
theorem dX4_readItem_89 : decode cX4_readItem 89 = .ok (.iastore, 1) := by decide +kernel
theorem dX4_readItem_90 : decode cX4_readItem 90 = .ok (.aload_n 1, 1) := by decide +kernel
theorem dX4_readItem_91 : decode cX4_readItem 91 = .ok (.dup, 1) := by decide +kernel
theorem dX4_readItem_92 : decode cX4_readItem 92 = .ok (.getfield 31, 3) := by decide +kernel
theorem dX4_readItem_95 : decode cX4_readItem 95 = .ok (.iconst 1, 1) := by decide +kernel
theorem dX4_readItem_96 : decode cX4_readItem 96 = .ok (.iadd, 1) := by decide +kernel
theorem dX4_readItem_97 : decode cX4_readItem 97 = .ok (.putfield 31, 3) := by decide +kernel
theorem dX4_readItem_100 : decode cX4_readItem 100 = .ok (.aload_n 0, 1) := by decide +kernel
theorem dX4_readItem_101 : decode cX4_readItem 101 = .ok (.bipush 59, 2) := by decide +kernel
theorem dX4_readItem_103 : decode cX4_readItem 103 = .ok (.invokevirtual 52, 3) := by decide +kernel
theorem dX4_readItem_106 : decode cX4_readItem 106 = .ok (.return_, 1) := by decide +kernel
theorem dX4_readNumberOf_0 : decode cX4_readNumberOf 0 = .ok (.iload_n 1, 1) := by decide +kernel
theorem dX4_readNumberOf_1 : decode cX4_readNumberOf 1 = .ok (.iconst 5, 1) := by decide +kernel
theorem dX4_readNumberOf_2 : decode cX4_readNumberOf 2 = .ok (.if_icmp .ne 5, 3) := by decide +kernel
theorem dX4_readNumberOf_5 : decode cX4_readNumberOf 5 = .ok (.iconst 0, 1) := by decide +kernel
theorem dX4_readNumberOf_6 : decode cX4_readNumberOf 6 = .ok (.ireturn, 1) := by decide +kernel
theorem dX4_readNumberOf_7 : decode cX4_readNumberOf 7 = .ok (.iload_n 1, 1) := by decide +kernel
theorem dX4_readNumberOf_8 : decode cX4_readNumberOf 8 = .ok (.iconst 4, 1) := by decide +kernel
theorem dX4_readNumberOf_9 : decode cX4_readNumberOf 9 = .ok (.if_icmp .ne 13, 3) := by decide +kernel
theorem dX4_readNumberOf_12 : decode cX4_readNumberOf 12 = .ok (.aload_n 0, 1) := by decide +kernel
theorem dX4_readNumberOf_13 : decode cX4_readNumberOf 13 = .ok (.iconst 1, 1) := by decide +kernel
theorem dX4_readNumberOf_14 : decode cX4_readNumberOf 14 = .ok (.bipush 20, 2) := by decide +kernel
theorem dX4_readNumberOf_16 : decode cX4_readNumberOf 16 = .ok (.invokevirtual 56, 3) := by decide +kernel
theorem dX4_readNumberOf_19 : decode cX4_readNumberOf 19 = .ok (.goto 10, 3) := by decide +kernel
theorem dX4_readNumberOf_22 : decode cX4_readNumberOf 22 = .ok (.aload_n 0, 1) := by decide +kernel
theorem dX4_readNumberOf_23 : decode cX4_readNumberOf 23 = .ok (.iconst 0, 1) := by decide +kernel
theorem dX4_readNumberOf_24 : decode cX4_readNumberOf 24 = .ok (.bipush 11, 2) := by decide +kernel
theorem dX4_readNumberOf_26 : decode cX4_readNumberOf 26 = .ok (.invokevirtual 56, 3) := by decide +kernel
theorem dX4_readNumberOf_29 : decode cX4_readNumberOf 29 = .ok (.ireturn, 1) := by decide +kernel
theorem dX4_readSign_0 : decode cX4_readSign 0 = .ok (.aload_n 0, 1) := by decide +kernel
theorem dX4_readSign_1 : decode cX4_readSign 1 = .ok (.getfield 28, 3) := by decide +kernel
theorem dX4_readSign_4 : decode cX4_readSign 4 = .ok (.ifCond .eq 4, 3) := by decide +kernel
theorem dX4_readSign_7 : decode cX4_readSign 7 = .ok (.return_, 1) := by decide +kernel
theorem dX4_readSign_8 : decode cX4_readSign 8 = .ok (.aload_n 0, 1) := by decide +kernel
theorem dX4_readSign_9 : decode cX4_readSign 9 = .ok (.getfield 25, 3) := by decide +kernel
theorem dX4_readSign_12 : decode cX4_readSign 12 = .ok (.aload_n 0, 1) := by decide +kernel
theorem dX4_readSign_13 : decode cX4_readSign 13 = .ok (.getfield 21, 3) := by decide +kernel
theorem dX4_readSign_16 : decode cX4_readSign 16 = .ok (.if_icmp .ge 29, 3) := by decide +kernel
theorem dX4_readSign_19 : decode cX4_readSign 19 = .ok (.aload_n 0, 1) := by decide +kernel
theorem dX4_readSign_20 : decode cX4_readSign 20 = .ok (.getfield 9, 3) := by decide +kernel
theorem dX4_readSign_23 : decode cX4_readSign 23 = .ok (.aload_n 0, 1) := by decide +kernel
theorem dX4_readSign_24 : decode cX4_readSign 24 = .ok (.getfield 25, 3) := by decide +kernel
theorem dX4_readSign_27 : decode cX4_readSign 27 = .ok (.iaload, 1) := by decide +kernel
theorem dX4_readSign_28 : decode cX4_readSign 28 = .ok (.iload_n 1, 1) := by decide +kernel
theorem dX4_readSign_29 : decode cX4_readSign 29 = .ok (.if_icmp .ne 16, 3) := by decide +kernel
theorem dX4_readSign_32 : decode cX4_readSign 32 = .ok (.aload_n 0, 1) := by decide +kernel
theorem dX4_readSign_33 : decode cX4_readSign 33 = .ok (.dup, 1) := by decide +kernel
theorem dX4_readSign_34 : decode cX4_readSign 34 = .ok (.getfield 25, 3) := by decide +kernel
theorem dX4_readSign_37 : decode cX4_readSign 37 = .ok (.iconst 1, 1) := by decide +kernel
theorem dX4_readSign_38 : decode cX4_readSign 38 = .ok (.iadd, 1) := by decide +kernel
theorem dX4_readSign_39 : decode cX4_readSign 39 = .ok (.putfield 25, 3) := by decide +kernel
theorem dX4_readSign_42 : decode cX4_readSign 42 = .ok (.goto 8, 3) := by decide +kernel
theorem dX4_readSign_45 : decode cX4_readSign 45 = .ok (.aload_n 0, 1) := by decide +kernel
theorem dX4_readSign_46 : decode cX4_readSign 46 = .ok (.iconst 1, 1) := by decide +kernel
theorem dX4_readSign_47 : decode cX4_readSign 47 = .ok (.putfield 28, 3) := by decide +kernel
theorem dX4_readSign_50 : decode cX4_readSign 50 = .ok (.return_, 1) := by decide +kernel
theorem dX4_readNumber_0 : decode cX4_readNumber 0 = .ok (.aload_n 0, 1) := by decide +kernel
theorem dX4_readNumber_1 : decode cX4_readNumber 1 = .ok (.getfield 28, 3) := by decide +kernel
theorem dX4_readNumber_4 : decode cX4_readNumber 4 = .ok (.ifCond .eq 5, 3) := by decide +kernel
theorem dX4_readNumber_7 : decode cX4_readNumber 7 = .ok (.iconst 0, 1) := by decide +kernel
theorem dX4_readNumber_8 : decode cX4_readNumber 8 = .ok (.ireturn, 1) := by decide +kernel
theorem dX4_readNumber_9 : decode cX4_readNumber 9 = .ok (.aload_n 0, 1) := by decide +kernel
theorem dX4_readNumber_10 : decode cX4_readNumber 10 = .ok (.getfield 25, 3) := by decide +kernel
theorem dX4_readNumber_13 : decode cX4_readNumber 13 = .ok (.istore_n 3, 1) := by decide +kernel
theorem dX4_readNumber_14 : decode cX4_readNumber 14 = .ok (.iconst 0, 1) := by decide +kernel
theorem dX4_readNumber_15 : decode cX4_readNumber 15 = .ok (.istore 4, 2) := by decide +kernel
theorem dX4_readNumber_17 : decode cX4_readNumber 17 = .ok (.iload_n 3, 1) := by decide +kernel
theorem dX4_readNumber_18 : decode cX4_readNumber 18 = .ok (.aload_n 0, 1) := by decide +kernel
theorem dX4_readNumber_19 : decode cX4_readNumber 19 = .ok (.getfield 21, 3) := by decide +kernel
theorem dX4_readNumber_22 : decode cX4_readNumber 22 = .ok (.if_icmp .ge 58, 3) := by decide +kernel
theorem dX4_readNumber_25 : decode cX4_readNumber 25 = .ok (.iload_n 3, 1) := by decide +kernel
theorem dX4_readNumber_26 : decode cX4_readNumber 26 = .ok (.aload_n 0, 1) := by decide +kernel
theorem dX4_readNumber_27 : decode cX4_readNumber 27 = .ok (.getfield 25, 3) := by decide +kernel
theorem dX4_readNumber_30 : decode cX4_readNumber 30 = .ok (.iconst 3, 1) := by decide +kernel
theorem dX4_readNumber_31 : decode cX4_readNumber 31 = .ok (.iadd, 1) := by decide +kernel
theorem dX4_readNumber_32 : decode cX4_readNumber 32 = .ok (.if_icmp .ge 48, 3) := by decide +kernel
theorem dX4_readNumber_35 : decode cX4_readNumber 35 = .ok (.aload_n 0, 1) := by decide +kernel
theorem dX4_readNumber_36 : decode cX4_readNumber 36 = .ok (.getfield 9, 3) := by decide +kernel
theorem dX4_readNumber_39 : decode cX4_readNumber 39 = .ok (.iload_n 3, 1) := by decide +kernel
theorem dX4_readNumber_40 : decode cX4_readNumber 40 = .ok (.iaload, 1) := by decide +kernel
theorem dX4_readNumber_41 : decode cX4_readNumber 41 = .ok (.bipush 48, 2) := by decide +kernel
theorem dX4_readNumber_43 : decode cX4_readNumber 43 = .ok (.if_icmp .lt 37, 3) := by decide +kernel
theorem dX4_readNumber_46 : decode cX4_readNumber 46 = .ok (.aload_n 0, 1) := by decide +kernel
theorem dX4_readNumber_47 : decode cX4_readNumber 47 = .ok (.getfield 9, 3) := by decide +kernel
theorem dX4_readNumber_50 : decode cX4_readNumber 50 = .ok (.iload_n 3, 1) := by decide +kernel
theorem dX4_readNumber_51 : decode cX4_readNumber 51 = .ok (.iaload, 1) := by decide +kernel
theorem dX4_readNumber_52 : decode cX4_readNumber 52 = .ok (.bipush 57, 2) := by decide +kernel
theorem dX4_readNumber_54 : decode cX4_readNumber 54 = .ok (.if_icmp .gt 26, 3) := by decide +kernel
theorem dX4_readNumber_57 : decode cX4_readNumber 57 = .ok (.iload 4, 2) := by decide +kernel
theorem dX4_readNumber_59 : decode cX4_readNumber 59 = .ok (.bipush 10, 2) := by decide +kernel
theorem dX4_readNumber_61 : decode cX4_readNumber 61 = .ok (.imul, 1) := by decide +kernel
theorem dX4_readNumber_62 : decode cX4_readNumber 62 = .ok (.aload_n 0, 1) := by decide +kernel
theorem dX4_readNumber_63 : decode cX4_readNumber 63 = .ok (.getfield 9, 3) := by decide +kernel
theorem dX4_readNumber_66 : decode cX4_readNumber 66 = .ok (.iload_n 3, 1) := by decide +kernel
theorem dX4_readNumber_67 : decode cX4_readNumber 67 = .ok (.iaload, 1) := by decide +kernel
theorem dX4_readNumber_68 : decode cX4_readNumber 68 = .ok (.iadd, 1) := by decide +kernel
theorem dX4_readNumber_69 : decode cX4_readNumber 69 = .ok (.bipush 48, 2) := by decide +kernel
theorem dX4_readNumber_71 : decode cX4_readNumber 71 = .ok (.isub, 1) := by decide +kernel
theorem dX4_readNumber_72 : decode cX4_readNumber 72 = .ok (.istore 4, 2) := by decide +kernel
theorem dX4_readNumber_74 : decode cX4_readNumber 74 = .ok (.iinc 3 1, 3) := by decide +kernel
theorem dX4_readNumber_77 : decode cX4_readNumber 77 = .ok (.goto (-60), 3) := by decide +kernel
theorem dX4_readNumber_80 : decode cX4_readNumber 80 = .ok (.iload_n 3, 1) := by decide +kernel
theorem dX4_readNumber_81 : decode cX4_readNumber 81 = .ok (.aload_n 0, 1) := by decide +kernel
theorem dX4_readNumber_82 : decode cX4_readNumber 82 = .ok (.getfield 25, 3) := by decide +kernel
theorem dX4_readNumber_85 : decode cX4_readNumber 85 = .ok (.if_icmp .eq 13, 3) := by decide +kernel
theorem dX4_readNumber_88 : decode cX4_readNumber 88 = .ok (.iload_n 3, 1) := by decide +kernel
theorem dX4_readNumber_89 : decode cX4_readNumber 89 = .ok (.aload_n 0, 1) := by decide +kernel
theorem dX4_readNumber_90 : decode cX4_readNumber 90 = .ok (.getfield 25, 3) := by decide +kernel
theorem dX4_readNumber_93 : decode cX4_readNumber 93 = .ok (.iconst 3, 1) := by decide +kernel
theorem dX4_readNumber_94 : decode cX4_readNumber 94 = .ok (.iadd, 1) := by decide +kernel
theorem dX4_readNumber_95 : decode cX4_readNumber 95 = .ok (.if_icmp .ne 11, 3) := by decide +kernel
theorem dX4_readNumber_98 : decode cX4_readNumber 98 = .ok (.aload_n 0, 1) := by decide +kernel
theorem dX4_readNumber_99 : decode cX4_readNumber 99 = .ok (.iconst 1, 1) := by decide +kernel
theorem dX4_readNumber_100 : decode cX4_readNumber 100 = .ok (.putfield 28, 3) := by decide +kernel
theorem dX4_readNumber_103 : decode cX4_readNumber 103 = .ok (.goto 28, 3) := by decide +kernel
theorem dX4_readNumber_106 : decode cX4_readNumber 106 = .ok (.iload 4, 2) := by decide +kernel
theorem dX4_readNumber_108 : decode cX4_readNumber 108 = .ok (.iload_n 1, 1) := by decide +kernel
theorem dX4_readNumber_109 : decode cX4_readNumber 109 = .ok (.if_icmp .lt 9, 3) := by decide +kernel
theorem dX4_readNumber_112 : decode cX4_readNumber 112 = .ok (.iload 4, 2) := by decide +kernel
theorem dX4_readNumber_114 : decode cX4_readNumber 114 = .ok (.iload_n 2, 1) := by decide +kernel
theorem dX4_readNumber_115 : decode cX4_readNumber 115 = .ok (.if_icmp .le 11, 3) := by decide +kernel
theorem dX4_readNumber_118 : decode cX4_readNumber 118 = .ok (.aload_n 0, 1) := by decide +kernel
theorem dX4_readNumber_119 : decode cX4_readNumber 119 = .ok (.iconst 2, 1) := by decide +kernel
theorem dX4_readNumber_120 : decode cX4_readNumber 120 = .ok (.putfield 28, 3) := by decide +kernel
theorem dX4_readNumber_123 : decode cX4_readNumber 123 = .ok (.goto 8, 3) := by decide +kernel
theorem dX4_readNumber_126 : decode cX4_readNumber 126 = .ok (.aload_n 0, 1) := by decide +kernel
theorem dX4_readNumber_127 : decode cX4_readNumber 127 = .ok (.iload_n 3, 1) := by decide +kernel
theorem dX4_readNumber_128 : decode cX4_readNumber 128 = .ok (.putfield 25, 3) := by decide +kernel
theorem dX4_readNumber_131 : decode cX4_readNumber 131 = .ok (.iload 4, 2) := by decide +kernel
theorem dX4_readNumber_133 : decode cX4_readNumber 133 = .ok (.ireturn, 1) := by decide +kernel
theorem dX4_lookAtReferences_0 : decode cX4_lookAtReferences 0 = .ok (.iconst 0, 1) := by decide +kernel
theorem dX4_lookAtReferences_1 : decode cX4_lookAtReferences 1 = .ok (.istore_n 2, 1) := by decide +kernel
theorem dX4_lookAtReferences_2 : decode cX4_lookAtReferences 2 = .ok (.iload_n 2, 1) := by decide +kernel
theorem dX4_lookAtReferences_3 : decode cX4_lookAtReferences 3 = .ok (.aload_n 1, 1) := by decide +kernel
theorem dX4_lookAtReferences_4 : decode cX4_lookAtReferences 4 = .ok (.getfield 31, 3) := by decide +kernel
theorem dX4_lookAtReferences_7 : decode cX4_lookAtReferences 7 = .ok (.if_icmp .ge 40, 3) := by decide +kernel
theorem dX4_lookAtReferences_10 : decode cX4_lookAtReferences 10 = .ok (.aload_n 0, 1) := by decide +kernel
theorem dX4_lookAtReferences_11 : decode cX4_lookAtReferences 11 = .ok (.getfield 28, 3) := by decide +kernel
theorem dX4_lookAtReferences_14 : decode cX4_lookAtReferences 14 = .ok (.ifCond .ne 33, 3) := by decide +kernel
theorem dX4_lookAtReferences_17 : decode cX4_lookAtReferences 17 = .ok (.aload_n 1, 1) := by decide +kernel
theorem dX4_lookAtReferences_18 : decode cX4_lookAtReferences 18 = .ok (.aload_n 1, 1) := by decide +kernel
theorem dX4_lookAtReferences_19 : decode cX4_lookAtReferences 19 = .ok (.getfield 73, 3) := by decide +kernel
theorem dX4_lookAtReferences_22 : decode cX4_lookAtReferences 22 = .ok (.iload_n 2, 1) := by decide +kernel
theorem dX4_lookAtReferences_23 : decode cX4_lookAtReferences 23 = .ok (.iaload, 1) := by decide +kernel
theorem dX4_lookAtReferences_24 : decode cX4_lookAtReferences 24 = .ok (.aload_n 1, 1) := by decide +kernel
theorem dX4_lookAtReferences_25 : decode cX4_lookAtReferences 25 = .ok (.getfield 76, 3) := by decide +kernel
theorem dX4_lookAtReferences_28 : decode cX4_lookAtReferences 28 = .ok (.iload_n 2, 1) := by decide +kernel
theorem dX4_lookAtReferences_29 : decode cX4_lookAtReferences 29 = .ok (.iaload, 1) := by decide +kernel
theorem dX4_lookAtReferences_30 : decode cX4_lookAtReferences 30 = .ok (.invokevirtual 82, 3) := by decide +kernel
theorem dX4_lookAtReferences_33 : decode cX4_lookAtReferences 33 = .ok (.ifCond .ne 8, 3) := by decide +kernel
theorem dX4_lookAtReferences_36 : decode cX4_lookAtReferences 36 = .ok (.aload_n 0, 1) := by decide +kernel
theorem dX4_lookAtReferences_37 : decode cX4_lookAtReferences 37 = .ok (.iconst 4, 1) := by decide +kernel
theorem dX4_lookAtReferences_38 : decode cX4_lookAtReferences 38 = .ok (.putfield 28, 3) := by decide +kernel
theorem dX4_lookAtReferences_41 : decode cX4_lookAtReferences 41 = .ok (.iinc 2 1, 3) := by decide +kernel
theorem dX4_lookAtReferences_44 : decode cX4_lookAtReferences 44 = .ok (.goto (-42), 3) := by decide +kernel
theorem dX4_lookAtReferences_47 : decode cX4_lookAtReferences 47 = .ok (.return_, 1) := by decide +kernel
theorem dX4_kindOf_0 : decode cX4_kindOf 0 = .ok (.iload_n 0, 1) := by decide +kernel
theorem dX4_kindOf_1 : decode cX4_kindOf 1 = .ok (.tableswitch 85 102 116 #[83, 85, 85, 85, 85, 77, 85, 81, 85, 85, 85, 85, 79, 85, 75], 75) := by decide +kernel
theorem dX4_kindOf_76 : decode cX4_kindOf 76 = .ok (.iconst 4, 1) := by decide +kernel
theorem dX4_kindOf_77 : decode cX4_kindOf 77 = .ok (.ireturn, 1) := by decide +kernel
theorem dX4_kindOf_78 : decode cX4_kindOf 78 = .ok (.iconst 5, 1) := by decide +kernel
theorem dX4_kindOf_79 : decode cX4_kindOf 79 = .ok (.ireturn, 1) := by decide +kernel
theorem dX4_kindOf_80 : decode cX4_kindOf 80 = .ok (.iconst 1, 1) := by decide +kernel
theorem dX4_kindOf_81 : decode cX4_kindOf 81 = .ok (.ireturn, 1) := by decide +kernel
theorem dX4_kindOf_82 : decode cX4_kindOf 82 = .ok (.iconst 2, 1) := by decide +kernel
theorem dX4_kindOf_83 : decode cX4_kindOf 83 = .ok (.ireturn, 1) := by decide +kernel
theorem dX4_kindOf_84 : decode cX4_kindOf 84 = .ok (.iconst 3, 1) := by decide +kernel
theorem dX4_kindOf_85 : decode cX4_kindOf 85 = .ok (.ireturn, 1) := by decide +kernel
theorem dX4_kindOf_86 : decode cX4_kindOf 86 = .ok (.ldc 72, 2) := by decide +kernel
theorem dX4_kindOf_88 : decode cX4_kindOf 88 = .ok (.ireturn, 1) := by decide +kernel
theorem dX5_init_0 : decode cX5_init 0 = .ok (.aload_n 0, 1) := by decide +kernel
theorem dX5_init_1 : decode cX5_init 1 = .ok (.invokespecial 1, 3) := by decide +kernel
theorem dX5_init_4 : decode cX5_init 4 = .ok (.aload_n 0, 1) := by decide +kernel
theorem dX5_init_5 : decode cX5_init 5 = .ok (.bipush 8, 2) := by decide +kernel
theorem dX5_init_7 : decode cX5_init 7 = .ok (.newarray .int, 2) := by decide +kernel
theorem dX5_init_9 : decode cX5_init 9 = .ok (.putfield 9, 3) := by decide +kernel
theorem dX5_init_12 : decode cX5_init 12 = .ok (.aload_n 0, 1) := by decide +kernel
theorem dX5_init_13 : decode cX5_init 13 = .ok (.bipush 8, 2) := by decide +kernel
theorem dX5_init_15 : decode cX5_init 15 = .ok (.newarray .int, 2) := by decide +kernel
theorem dX5_init_17 : decode cX5_init 17 = .ok (.putfield 13, 3) := by decide +kernel
theorem dX5_init_20 : decode cX5_init 20 = .ok (.aload_n 0, 1) := by decide +kernel
theorem dX5_init_21 : decode cX5_init 21 = .ok (.bipush 8, 2) := by decide +kernel
theorem dX5_init_23 : decode cX5_init 23 = .ok (.bipush 40, 2) := by decide +kernel
theorem dX5_init_25 : decode cX5_init 25 = .ok (.multianewarray 16 2, 4) := by decide +kernel
theorem dX5_init_29 : decode cX5_init 29 = .ok (.putfield 18, 3) := by decide +kernel
theorem dX5_init_32 : decode cX5_init 32 = .ok (.aload_n 0, 1) := by decide +kernel
theorem dX5_init_33 : decode cX5_init 33 = .ok (.getfield 9, 3) := by decide +kernel
theorem dX5_init_36 : decode cX5_init 36 = .ok (.iconst (-1), 1) := by decide +kernel
theorem dX5_init_37 : decode cX5_init 37 = .ok (.invokestatic 21, 3) := by decide +kernel
theorem dX5_init_40 : decode cX5_init 40 = .ok (.return_, 1) := by decide +kernel
theorem dX5_isNumber_0 : decode cX5_isNumber 0 = .ok (.iload_n 0, 1) := by decide +kernel
theorem dX5_isNumber_1 : decode cX5_isNumber 1 = .ok (.ifCond .lt 13, 3) := by decide +kernel
theorem dX5_isNumber_4 : decode cX5_isNumber 4 = .ok (.iload_n 0, 1) := by decide +kernel
theorem dX5_isNumber_5 : decode cX5_isNumber 5 = .ok (.bipush 8, 2) := by decide +kernel
theorem dX5_isNumber_7 : decode cX5_isNumber 7 = .ok (.if_icmp .ge 7, 3) := by decide +kernel
theorem dX5_isNumber_10 : decode cX5_isNumber 10 = .ok (.iconst 1, 1) := by decide +kernel
theorem dX5_isNumber_11 : decode cX5_isNumber 11 = .ok (.goto 4, 3) := by decide +kernel
theorem dX5_isNumber_14 : decode cX5_isNumber 14 = .ok (.iconst 0, 1) := by decide +kernel
theorem dX5_isNumber_15 : decode cX5_isNumber 15 = .ok (.ireturn, 1) := by decide +kernel
theorem dX5_isLane_0 : decode cX5_isLane 0 = .ok (.iload_n 0, 1) := by decide +kernel
theorem dX5_isLane_1 : decode cX5_isLane 1 = .ok (.ifCond .lt 12, 3) := by decide +kernel
theorem dX5_isLane_4 : decode cX5_isLane 4 = .ok (.iload_n 0, 1) := by decide +kernel
theorem dX5_isLane_5 : decode cX5_isLane 5 = .ok (.iconst 2, 1) := by decide +kernel
theorem dX5_isLane_6 : decode cX5_isLane 6 = .ok (.if_icmp .gt 7, 3) := by decide +kernel
theorem dX5_isLane_9 : decode cX5_isLane 9 = .ok (.iconst 1, 1) := by decide +kernel
theorem dX5_isLane_10 : decode cX5_isLane 10 = .ok (.goto 4, 3) := by decide +kernel
theorem dX5_isLane_13 : decode cX5_isLane 13 = .ok (.iconst 0, 1) := by decide +kernel
theorem dX5_isLane_14 : decode cX5_isLane 14 = .ok (.ireturn, 1) := by decide +kernel
theorem dX5_isMissing_0 : decode cX5_isMissing 0 = .ok (.aload_n 0, 1) := by decide +kernel
theorem dX5_isMissing_1 : decode cX5_isMissing 1 = .ok (.getfield 9, 3) := by decide +kernel
theorem dX5_isMissing_4 : decode cX5_isMissing 4 = .ok (.iload_n 1, 1) := by decide +kernel
theorem dX5_isMissing_5 : decode cX5_isMissing 5 = .ok (.iaload, 1) := by decide +kernel
theorem dX5_isMissing_6 : decode cX5_isMissing 6 = .ok (.iconst (-1), 1) := by decide +kernel
theorem dX5_isMissing_7 : decode cX5_isMissing 7 = .ok (.if_icmp .ne 7, 3) := by decide +kernel
theorem dX5_isMissing_10 : decode cX5_isMissing 10 = .ok (.iconst 1, 1) := by decide +kernel
theorem dX5_isMissing_11 : decode cX5_isMissing 11 = .ok (.goto 4, 3) := by decide +kernel
theorem dX5_isMissing_14 : decode cX5_isMissing 14 = .ok (.iconst 0, 1) := by decide +kernel
theorem dX5_isMissing_15 : decode cX5_isMissing 15 = .ok (.ireturn, 1) := by decide +kernel
theorem dX5_areOfOneLane_0 : decode cX5_areOfOneLane 0 = .ok (.aload_n 0, 1) := by decide +kernel
theorem dX5_areOfOneLane_1 : decode cX5_areOfOneLane 1 = .ok (.getfield 9, 3) := by decide +kernel
theorem dX5_areOfOneLane_4 : decode cX5_areOfOneLane 4 = .ok (.iload_n 1, 1) := by decide +kernel
theorem dX5_areOfOneLane_5 : decode cX5_areOfOneLane 5 = .ok (.iaload, 1) := by decide +kernel
theorem dX5_areOfOneLane_6 : decode cX5_areOfOneLane 6 = .ok (.aload_n 0, 1) := by decide +kernel
theorem dX5_areOfOneLane_7 : decode cX5_areOfOneLane 7 = .ok (.getfield 9, 3) := by decide +kernel
theorem dX5_areOfOneLane_10 : decode cX5_areOfOneLane 10 = .ok (.iload_n 2, 1) := by decide +kernel
theorem dX5_areOfOneLane_11 : decode cX5_areOfOneLane 11 = .ok (.iaload, 1) := by decide +kernel
theorem dX5_areOfOneLane_12 : decode cX5_areOfOneLane 12 = .ok (.if_icmp .ne 7, 3) := by decide +kernel
theorem dX5_areOfOneLane_15 : decode cX5_areOfOneLane 15 = .ok (.iconst 1, 1) := by decide +kernel
theorem dX5_areOfOneLane_16 : decode cX5_areOfOneLane 16 = .ok (.goto 4, 3) := by decide +kernel
theorem dX5_areOfOneLane_19 : decode cX5_areOfOneLane 19 = .ok (.iconst 0, 1) := by decide +kernel
theorem dX5_areOfOneLane_20 : decode cX5_areOfOneLane 20 = .ok (.ireturn, 1) := by decide +kernel
theorem dX5_hasPlaces_0 : decode cX5_hasPlaces 0 = .ok (.iload_n 2, 1) := by decide +kernel
theorem dX5_hasPlaces_1 : decode cX5_hasPlaces 1 = .ok (.ifCond .lt 33, 3) := by decide +kernel
theorem dX5_hasPlaces_4 : decode cX5_hasPlaces 4 = .ok (.iload_n 3, 1) := by decide +kernel
theorem dX5_hasPlaces_5 : decode cX5_hasPlaces 5 = .ok (.ifCond .lt 29, 3) := by decide +kernel
theorem dX5_hasPlaces_8 : decode cX5_hasPlaces 8 = .ok (.iload_n 2, 1) := by decide +kernel
theorem dX5_hasPlaces_9 : decode cX5_hasPlaces 9 = .ok (.aload_n 0, 1) := by decide +kernel
theorem dX5_hasPlaces_10 : decode cX5_hasPlaces 10 = .ok (.getfield 13, 3) := by decide +kernel
theorem dX5_hasPlaces_13 : decode cX5_hasPlaces 13 = .ok (.iload_n 1, 1) := by decide +kernel
theorem dX5_hasPlaces_14 : decode cX5_hasPlaces 14 = .ok (.iaload, 1) := by decide +kernel
theorem dX5_hasPlaces_15 : decode cX5_hasPlaces 15 = .ok (.if_icmp .gt 19, 3) := by decide +kernel
theorem dX5_hasPlaces_18 : decode cX5_hasPlaces 18 = .ok (.iload_n 3, 1) := by decide +kernel
theorem dX5_hasPlaces_19 : decode cX5_hasPlaces 19 = .ok (.aload_n 0, 1) := by decide +kernel
theorem dX5_hasPlaces_20 : decode cX5_hasPlaces 20 = .ok (.getfield 13, 3) := by decide +kernel
theorem dX5_hasPlaces_23 : decode cX5_hasPlaces 23 = .ok (.iload_n 1, 1) := by decide +kernel
theorem dX5_hasPlaces_24 : decode cX5_hasPlaces 24 = .ok (.iaload, 1) := by decide +kernel
theorem dX5_hasPlaces_25 : decode cX5_hasPlaces 25 = .ok (.iload_n 2, 1) := by decide +kernel
theorem dX5_hasPlaces_26 : decode cX5_hasPlaces 26 = .ok (.isub, 1) := by decide +kernel
theorem dX5_hasPlaces_27 : decode cX5_hasPlaces 27 = .ok (.if_icmp .gt 7, 3) := by decide +kernel
theorem dX5_hasPlaces_30 : decode cX5_hasPlaces 30 = .ok (.iconst 1, 1) := by decide +kernel
theorem dX5_hasPlaces_31 : decode cX5_hasPlaces 31 = .ok (.goto 4, 3) := by decide +kernel
theorem dX5_hasPlaces_34 : decode cX5_hasPlaces 34 = .ok (.iconst 0, 1) := by decide +kernel
theorem dX5_hasPlaces_35 : decode cX5_hasPlaces 35 = .ok (.ireturn, 1) := by decide +kernel
theorem dX5_make_0 : decode cX5_make 0 = .ok (.aload_n 0, 1) := by decide +kernel
theorem dX5_make_1 : decode cX5_make 1 = .ok (.getfield 9, 3) := by decide +kernel
theorem dX5_make_4 : decode cX5_make 4 = .ok (.iload_n 1, 1) := by decide +kernel
theorem dX5_make_5 : decode cX5_make 5 = .ok (.iload_n 2, 1) := by decide +kernel
theorem dX5_make_6 : decode cX5_make 6 = .ok (.iastore, 1) := by decide +kernel
theorem dX5_make_7 : decode cX5_make 7 = .ok (.aload_n 0, 1) := by decide +kernel
theorem dX5_make_8 : decode cX5_make 8 = .ok (.getfield 13, 3) := by decide +kernel
theorem dX5_make_11 : decode cX5_make 11 = .ok (.iload_n 1, 1) := by decide +kernel
theorem dX5_make_12 : decode cX5_make 12 = .ok (.iload_n 3, 1) := by decide +kernel
theorem dX5_make_13 : decode cX5_make 13 = .ok (.iastore, 1) := by decide +kernel
theorem dX5_make_14 : decode cX5_make 14 = .ok (.aload_n 0, 1) := by decide +kernel
theorem dX5_make_15 : decode cX5_make 15 = .ok (.getfield 18, 3) := by decide +kernel
theorem dX5_make_18 : decode cX5_make 18 = .ok (.iload_n 1, 1) := by decide +kernel
theorem dX5_make_19 : decode cX5_make 19 = .ok (.aaload, 1) := by decide +kernel
theorem dX5_make_20 : decode cX5_make 20 = .ok (.iconst 0, 1) := by decide +kernel
theorem dX5_make_21 : decode cX5_make 21 = .ok (.invokestatic 21, 3) := by decide +kernel
theorem dX5_make_24 : decode cX5_make 24 = .ok (.return_, 1) := by decide +kernel
theorem dX5_put_0 : decode cX5_put 0 = .ok (.aload_n 0, 1) := by decide +kernel
theorem dX5_put_1 : decode cX5_put 1 = .ok (.getfield 18, 3) := by decide +kernel
theorem dX5_put_4 : decode cX5_put 4 = .ok (.iload_n 1, 1) := by decide +kernel
theorem dX5_put_5 : decode cX5_put 5 = .ok (.aaload, 1) := by decide +kernel
theorem dX5_put_6 : decode cX5_put 6 = .ok (.iload_n 2, 1) := by decide +kernel
theorem dX5_put_7 : decode cX5_put 7 = .ok (.aload_n 0, 1) := by decide +kernel
theorem dX5_put_8 : decode cX5_put 8 = .ok (.getfield 9, 3) := by decide +kernel
theorem dX5_put_11 : decode cX5_put 11 = .ok (.iload_n 1, 1) := by decide +kernel
theorem dX5_put_12 : decode cX5_put 12 = .ok (.iaload, 1) := by decide +kernel
theorem dX5_put_13 : decode cX5_put 13 = .ok (.ifCond .ne 8, 3) := by decide +kernel
theorem dX5_put_16 : decode cX5_put 16 = .ok (.iload_n 3, 1) := by decide +kernel
theorem dX5_put_17 : decode cX5_put 17 = .ok (.i2b, 1) := by decide +kernel
theorem dX5_put_18 : decode cX5_put 18 = .ok (.goto 19, 3) := by decide +kernel
theorem dX5_put_21 : decode cX5_put 21 = .ok (.aload_n 0, 1) := by decide +kernel
theorem dX5_put_22 : decode cX5_put 22 = .ok (.getfield 9, 3) := by decide +kernel
theorem dX5_put_25 : decode cX5_put 25 = .ok (.iload_n 1, 1) := by decide +kernel
theorem dX5_put_26 : decode cX5_put 26 = .ok (.iaload, 1) := by decide +kernel
theorem dX5_put_27 : decode cX5_put 27 = .ok (.iconst 1, 1) := by decide +kernel
theorem dX5_put_28 : decode cX5_put 28 = .ok (.if_icmp .ne 8, 3) := by decide +kernel
theorem dX5_put_31 : decode cX5_put 31 = .ok (.iload_n 3, 1) := by decide +kernel
theorem dX5_put_32 : decode cX5_put 32 = .ok (.i2s, 1) := by decide +kernel
theorem dX5_put_33 : decode cX5_put 33 = .ok (.goto 4, 3) := by decide +kernel
theorem dX5_put_36 : decode cX5_put 36 = .ok (.iload_n 3, 1) := by decide +kernel
theorem dX5_put_37 : decode cX5_put 37 = .ok (.iastore, 1) := by decide +kernel
theorem dX5_put_38 : decode cX5_put 38 = .ok (.aload_n 0, 1) := by decide +kernel
theorem dX5_put_39 : decode cX5_put 39 = .ok (.getfield 18, 3) := by decide +kernel
theorem dX5_put_42 : decode cX5_put 42 = .ok (.iload_n 1, 1) := by decide +kernel
theorem dX5_put_43 : decode cX5_put 43 = .ok (.aaload, 1) := by decide +kernel
theorem dX5_put_44 : decode cX5_put 44 = .ok (.iload_n 2, 1) := by decide +kernel
theorem dX5_put_45 : decode cX5_put 45 = .ok (.iaload, 1) := by decide +kernel
theorem dX5_put_46 : decode cX5_put 46 = .ok (.ireturn, 1) := by decide +kernel
theorem dX5_carry_0 : decode cX5_carry 0 = .ok (.aload_n 0, 1) := by decide +kernel
theorem dX5_carry_1 : decode cX5_carry 1 = .ok (.getfield 18, 3) := by decide +kernel
theorem dX5_carry_4 : decode cX5_carry 4 = .ok (.iload_n 1, 1) := by decide +kernel
theorem dX5_carry_5 : decode cX5_carry 5 = .ok (.aaload, 1) := by decide +kernel
theorem dX5_carry_6 : decode cX5_carry 6 = .ok (.iload_n 2, 1) := by decide +kernel
theorem dX5_carry_7 : decode cX5_carry 7 = .ok (.aload_n 0, 1) := by decide +kernel
theorem dX5_carry_8 : decode cX5_carry 8 = .ok (.getfield 18, 3) := by decide +kernel
theorem dX5_carry_11 : decode cX5_carry 11 = .ok (.iload_n 3, 1) := by decide +kernel
theorem dX5_carry_12 : decode cX5_carry 12 = .ok (.aaload, 1) := by decide +kernel
theorem dX5_carry_13 : decode cX5_carry 13 = .ok (.iload 4, 2) := by decide +kernel
theorem dX5_carry_15 : decode cX5_carry 15 = .ok (.iload 5, 2) := by decide +kernel
theorem dX5_carry_17 : decode cX5_carry 17 = .ok (.invokestatic 27, 3) := by decide +kernel
theorem dX5_carry_20 : decode cX5_carry 20 = .ok (.return_, 1) := by decide +kernel
theorem dX5_lose_0 : decode cX5_lose 0 = .ok (.aload_n 0, 1) := by decide +kernel
theorem dX5_lose_1 : decode cX5_lose 1 = .ok (.getfield 9, 3) := by decide +kernel
theorem dX5_lose_4 : decode cX5_lose 4 = .ok (.iload_n 1, 1) := by decide +kernel
theorem dX5_lose_5 : decode cX5_lose 5 = .ok (.iconst (-1), 1) := by decide +kernel
theorem dX5_lose_6 : decode cX5_lose 6 = .ok (.iastore, 1) := by decide +kernel
theorem dX5_lose_7 : decode cX5_lose 7 = .ok (.aload_n 0, 1) := by decide +kernel
theorem dX5_lose_8 : decode cX5_lose 8 = .ok (.getfield 13, 3) := by decide +kernel
theorem dX5_lose_11 : decode cX5_lose 11 = .ok (.iload_n 1, 1) := by decide +kernel
theorem dX5_lose_12 : decode cX5_lose 12 = .ok (.iaload, 1) := by decide +kernel
theorem dX5_lose_13 : decode cX5_lose 13 = .ok (.ireturn, 1) := by decide +kernel
theorem dX5_present_0 : decode cX5_present 0 = .ok (.iconst 0, 1) := by decide +kernel
theorem dX5_present_1 : decode cX5_present 1 = .ok (.istore_n 1, 1) := by decide +kernel
theorem dX5_present_2 : decode cX5_present 2 = .ok (.iconst 0, 1) := by decide +kernel
theorem dX5_present_3 : decode cX5_present 3 = .ok (.istore_n 2, 1) := by decide +kernel
theorem dX5_present_4 : decode cX5_present 4 = .ok (.iload_n 2, 1) := by decide +kernel
theorem dX5_present_5 : decode cX5_present 5 = .ok (.bipush 8, 2) := by decide +kernel
theorem dX5_present_7 : decode cX5_present 7 = .ok (.if_icmp .ge 20, 3) := by decide +kernel
theorem dX5_present_10 : decode cX5_present 10 = .ok (.aload_n 0, 1) := by decide +kernel
theorem dX5_present_11 : decode cX5_present 11 = .ok (.iload_n 2, 1) := by decide +kernel
theorem dX5_present_12 : decode cX5_present 12 = .ok (.invokevirtual 33, 3) := by decide +kernel
theorem dX5_present_15 : decode cX5_present 15 = .ok (.ifCond .ne 6, 3) := by decide +kernel
theorem dX5_present_18 : decode cX5_present 18 = .ok (.iinc 1 1, 3) := by decide +kernel
theorem dX5_present_21 : decode cX5_present 21 = .ok (.iinc 2 1, 3) := by decide +kernel
theorem dX5_present_24 : decode cX5_present 24 = .ok (.goto (-20), 3) := by decide +kernel
theorem dX5_present_27 : decode cX5_present 27 = .ok (.iload_n 1, 1) := by decide +kernel
theorem dX5_present_28 : decode cX5_present 28 = .ok (.ireturn, 1) := by decide +kernel
theorem dX6_init_0 : decode cX6_init 0 = .ok (.aload_n 0, 1) := by decide +kernel
theorem dX6_init_1 : decode cX6_init 1 = .ok (.invokespecial 3, 3) := by decide +kernel
theorem dX6_init_4 : decode cX6_init 4 = .ok (.aload_n 0, 1) := by decide +kernel
theorem dX6_init_5 : decode cX6_init 5 = .ok (.new 9, 3) := by decide +kernel
theorem dX6_init_8 : decode cX6_init 8 = .ok (.dup, 1) := by decide +kernel
theorem dX6_init_9 : decode cX6_init 9 = .ok (.invokespecial 11, 3) := by decide +kernel
theorem dX6_init_12 : decode cX6_init 12 = .ok (.putfield 12, 3) := by decide +kernel
theorem dX6_init_15 : decode cX6_init 15 = .ok (.aload_n 0, 1) := by decide +kernel
theorem dX6_init_16 : decode cX6_init 16 = .ok (.sipush 200, 3) := by decide +kernel
theorem dX6_init_19 : decode cX6_init 19 = .ok (.bipush 12, 2) := by decide +kernel
theorem dX6_init_21 : decode cX6_init 21 = .ok (.multianewarray 18 2, 4) := by decide +kernel
theorem dX6_init_25 : decode cX6_init 25 = .ok (.putfield 20, 3) := by decide +kernel
theorem dX6_init_28 : decode cX6_init 28 = .ok (.return_, 1) := by decide +kernel
theorem dX6_outlined_0 : decode cX6_outlined 0 = .ok (.aload_n 0, 1) := by decide +kernel
theorem dX6_outlined_1 : decode cX6_outlined 1 = .ok (.getfield 12, 3) := by decide +kernel
theorem dX6_outlined_4 : decode cX6_outlined 4 = .ok (.aload_n 1, 1) := by decide +kernel
theorem dX6_outlined_5 : decode cX6_outlined 5 = .ok (.iconst (-1), 1) := by decide +kernel
theorem dX6_outlined_6 : decode cX6_outlined 6 = .ok (.invokevirtual 23, 3) := by decide +kernel
theorem dX6_outlined_9 : decode cX6_outlined 9 = .ok (.aload_n 0, 1) := by decide +kernel
theorem dX6_outlined_10 : decode cX6_outlined 10 = .ok (.getfield 12, 3) := by decide +kernel
theorem dX6_outlined_13 : decode cX6_outlined 13 = .ok (.areturn, 1) := by decide +kernel
theorem dX6_goRound_0 : decode cX6_goRound 0 = .ok (.aload_n 0, 1) := by decide +kernel
theorem dX6_goRound_1 : decode cX6_goRound 1 = .ok (.getfield 12, 3) := by decide +kernel
theorem dX6_goRound_4 : decode cX6_goRound 4 = .ok (.aload_n 1, 1) := by decide +kernel
theorem dX6_goRound_5 : decode cX6_goRound 5 = .ok (.iconst (-1), 1) := by decide +kernel
theorem dX6_goRound_6 : decode cX6_goRound 6 = .ok (.invokevirtual 23, 3) := by decide +kernel
theorem dX6_goRound_9 : decode cX6_goRound 9 = .ok (.iconst 0, 1) := by decide +kernel
theorem dX6_goRound_10 : decode cX6_goRound 10 = .ok (.istore_n 2, 1) := by decide +kernel
theorem dX6_goRound_11 : decode cX6_goRound 11 = .ok (.iconst 0, 1) := by decide +kernel
theorem dX6_goRound_12 : decode cX6_goRound 12 = .ok (.istore_n 3, 1) := by decide +kernel
theorem dX6_goRound_13 : decode cX6_goRound 13 = .ok (.iload_n 3, 1) := by decide +kernel
theorem dX6_goRound_14 : decode cX6_goRound 14 = .ok (.aload_n 1, 1) := by decide +kernel
theorem dX6_goRound_15 : decode cX6_goRound 15 = .ok (.getfield 27, 3) := by decide +kernel
theorem dX6_goRound_18 : decode cX6_goRound 18 = .ok (.if_icmp .ge 45, 3) := by decide +kernel
theorem dX6_goRound_21 : decode cX6_goRound 21 = .ok (.aload_n 1, 1) := by decide +kernel
theorem dX6_goRound_22 : decode cX6_goRound 22 = .ok (.getfield 33, 3) := by decide +kernel
theorem dX6_goRound_25 : decode cX6_goRound 25 = .ok (.iload_n 3, 1) := by decide +kernel
theorem dX6_goRound_26 : decode cX6_goRound 26 = .ok (.iaload, 1) := by decide +kernel
theorem dX6_goRound_27 : decode cX6_goRound 27 = .ok (.aload_n 0, 1) := by decide +kernel
theorem dX6_goRound_28 : decode cX6_goRound 28 = .ok (.getfield 12, 3) := by decide +kernel
theorem dX6_goRound_31 : decode cX6_goRound 31 = .ok (.getfield 37, 3) := by decide +kernel
theorem dX6_goRound_34 : decode cX6_goRound 34 = .ok (.iload_n 3, 1) := by decide +kernel
theorem dX6_goRound_35 : decode cX6_goRound 35 = .ok (.iaload, 1) := by decide +kernel
theorem dX6_goRound_36 : decode cX6_goRound 36 = .ok (.if_icmp .eq 21, 3) := by decide +kernel
theorem dX6_goRound_39 : decode cX6_goRound 39 = .ok (.iinc 2 1, 3) := by decide +kernel
theorem dX6_goRound_42 : decode cX6_goRound 42 = .ok (.aload_n 1, 1) := by decide +kernel
theorem dX6_goRound_43 : decode cX6_goRound 43 = .ok (.getfield 33, 3) := by decide +kernel
theorem dX6_goRound_46 : decode cX6_goRound 46 = .ok (.iload_n 3, 1) := by decide +kernel
theorem dX6_goRound_47 : decode cX6_goRound 47 = .ok (.aload_n 0, 1) := by decide +kernel
theorem dX6_goRound_48 : decode cX6_goRound 48 = .ok (.getfield 12, 3) := by decide +kernel
theorem dX6_goRound_51 : decode cX6_goRound 51 = .ok (.getfield 37, 3) := by decide +kernel
theorem dX6_goRound_54 : decode cX6_goRound 54 = .ok (.iload_n 3, 1) := by decide +kernel
theorem dX6_goRound_55 : decode cX6_goRound 55 = .ok (.iaload, 1) := by decide +kernel
theorem dX6_goRound_56 : decode cX6_goRound 56 = .ok (.iastore, 1) := by decide +kernel
theorem dX6_goRound_57 : decode cX6_goRound 57 = .ok (.iinc 3 1, 3) := by decide +kernel
theorem dX6_goRound_60 : decode cX6_goRound 60 = .ok (.goto (-47), 3) := by decide +kernel
theorem dX6_goRound_63 : decode cX6_goRound 63 = .ok (.iload_n 2, 1) := by decide +kernel
theorem dX6_goRound_64 : decode cX6_goRound 64 = .ok (.ireturn, 1) := by decide +kernel
theorem dX6_bringToRest_0 : decode cX6_bringToRest 0 = .ok (.aload_n 0, 1) := by decide +kernel
theorem dX6_bringToRest_1 : decode cX6_bringToRest 1 = .ok (.iconst 0, 1) := by decide +kernel
theorem dX6_bringToRest_2 : decode cX6_bringToRest 2 = .ok (.putfield 40, 3) := by decide +kernel
theorem dX6_bringToRest_5 : decode cX6_bringToRest 5 = .ok (.aload_n 0, 1) := by decide +kernel
theorem dX6_bringToRest_6 : decode cX6_bringToRest 6 = .ok (.iconst 0, 1) := by decide +kernel
theorem dX6_bringToRest_7 : decode cX6_bringToRest 7 = .ok (.putfield 43, 3) := by decide +kernel
theorem dX6_bringToRest_10 : decode cX6_bringToRest 10 = .ok (.aload_n 0, 1) := by decide +kernel
theorem dX6_bringToRest_11 : decode cX6_bringToRest 11 = .ok (.iconst 0, 1) := by decide +kernel
theorem dX6_bringToRest_12 : decode cX6_bringToRest 12 = .ok (.putfield 46, 3) := by decide +kernel
theorem dX6_bringToRest_15 : decode cX6_bringToRest 15 = .ok (.aload_n 0, 1) := by decide +kernel
theorem dX6_bringToRest_16 : decode cX6_bringToRest 16 = .ok (.iconst 0, 1) := by decide +kernel
theorem dX6_bringToRest_17 : decode cX6_bringToRest 17 = .ok (.putfield 49, 3) := by decide +kernel
theorem dX6_bringToRest_20 : decode cX6_bringToRest 20 = .ok (.aload_n 0, 1) := by decide +kernel
theorem dX6_bringToRest_21 : decode cX6_bringToRest 21 = .ok (.aload_n 0, 1) := by decide +kernel
theorem dX6_bringToRest_22 : decode cX6_bringToRest 22 = .ok (.aload_n 1, 1) := by decide +kernel
theorem dX6_bringToRest_23 : decode cX6_bringToRest 23 = .ok (.invokevirtual 52, 3) := by decide +kernel
theorem dX6_bringToRest_26 : decode cX6_bringToRest 26 = .ok (.putfield 56, 3) := by decide +kernel
theorem dX6_bringToRest_29 : decode cX6_bringToRest 29 = .ok (.aload_n 0, 1) := by decide +kernel
theorem dX6_bringToRest_30 : decode cX6_bringToRest 30 = .ok (.getfield 56, 3) := by decide +kernel
theorem dX6_bringToRest_33 : decode cX6_bringToRest 33 = .ok (.ifCond .ne 80, 3) := by decide +kernel
theorem dX6_bringToRest_36 : decode cX6_bringToRest 36 = .ok (.aload_n 0, 1) := by decide +kernel
theorem dX6_bringToRest_37 : decode cX6_bringToRest 37 = .ok (.getfield 40, 3) := by decide +kernel
theorem dX6_bringToRest_40 : decode cX6_bringToRest 40 = .ok (.sipush 200, 3) := by decide +kernel
theorem dX6_bringToRest_43 : decode cX6_bringToRest 43 = .ok (.if_icmp .ge 70, 3) := by decide +kernel
theorem dX6_bringToRest_46 : decode cX6_bringToRest 46 = .ok (.aload_n 0, 1) := by decide +kernel
theorem dX6_bringToRest_47 : decode cX6_bringToRest 47 = .ok (.aload_n 1, 1) := by decide +kernel
theorem dX6_bringToRest_48 : decode cX6_bringToRest 48 = .ok (.invokevirtual 60, 3) := by decide +kernel
theorem dX6_bringToRest_51 : decode cX6_bringToRest 51 = .ok (.aload_n 0, 1) := by decide +kernel
theorem dX6_bringToRest_52 : decode cX6_bringToRest 52 = .ok (.getfield 12, 3) := by decide +kernel
theorem dX6_bringToRest_55 : decode cX6_bringToRest 55 = .ok (.getfield 37, 3) := by decide +kernel
theorem dX6_bringToRest_58 : decode cX6_bringToRest 58 = .ok (.iconst 0, 1) := by decide +kernel
theorem dX6_bringToRest_59 : decode cX6_bringToRest 59 = .ok (.aload_n 1, 1) := by decide +kernel
theorem dX6_bringToRest_60 : decode cX6_bringToRest 60 = .ok (.getfield 33, 3) := by decide +kernel
theorem dX6_bringToRest_63 : decode cX6_bringToRest 63 = .ok (.iconst 0, 1) := by decide +kernel
theorem dX6_bringToRest_64 : decode cX6_bringToRest 64 = .ok (.bipush 12, 2) := by decide +kernel
theorem dX6_bringToRest_66 : decode cX6_bringToRest 66 = .ok (.invokestatic 64, 3) := by decide +kernel
theorem dX6_bringToRest_69 : decode cX6_bringToRest 69 = .ok (.aload_n 0, 1) := by decide +kernel
theorem dX6_bringToRest_70 : decode cX6_bringToRest 70 = .ok (.dup, 1) := by decide +kernel
theorem dX6_bringToRest_71 : decode cX6_bringToRest 71 = .ok (.getfield 40, 3) := by decide +kernel
theorem dX6_bringToRest_74 : decode cX6_bringToRest 74 = .ok (.iconst 1, 1) := by decide +kernel
theorem dX6_bringToRest_75 : decode cX6_bringToRest 75 = .ok (.iadd, 1) := by decide +kernel
theorem dX6_bringToRest_76 : decode cX6_bringToRest 76 = .ok (.putfield 40, 3) := by decide +kernel
theorem dX6_bringToRest_79 : decode cX6_bringToRest 79 = .ok (.aload_n 0, 1) := by decide +kernel
theorem dX6_bringToRest_80 : decode cX6_bringToRest 80 = .ok (.aload_n 1, 1) := by decide +kernel
theorem dX6_bringToRest_81 : decode cX6_bringToRest 81 = .ok (.invokevirtual 70, 3) := by decide +kernel
theorem dX6_bringToRest_84 : decode cX6_bringToRest 84 = .ok (.istore_n 3, 1) := by decide +kernel
theorem dX6_bringToRest_85 : decode cX6_bringToRest 85 = .ok (.iload_n 3, 1) := by decide +kernel
theorem dX6_bringToRest_86 : decode cX6_bringToRest 86 = .ok (.iconst (-1), 1) := by decide +kernel
theorem dX6_bringToRest_87 : decode cX6_bringToRest 87 = .ok (.if_icmp .eq 14, 3) := by decide +kernel
theorem dX6_bringToRest_90 : decode cX6_bringToRest 90 = .ok (.aload_n 0, 1) := by decide +kernel
theorem dX6_bringToRest_91 : decode cX6_bringToRest 91 = .ok (.aload_n 1, 1) := by decide +kernel
theorem dX6_bringToRest_92 : decode cX6_bringToRest 92 = .ok (.iload_n 3, 1) := by decide +kernel
theorem dX6_bringToRest_93 : decode cX6_bringToRest 93 = .ok (.invokevirtual 74, 3) := by decide +kernel
theorem dX6_bringToRest_96 : decode cX6_bringToRest 96 = .ok (.iload_n 2, 1) := by decide +kernel
theorem dX6_bringToRest_97 : decode cX6_bringToRest 97 = .ok (.ifCond .eq 4, 3) := by decide +kernel
theorem dX6_bringToRest_100 : decode cX6_bringToRest 100 = .ok (.return_, 1) := by decide +kernel
theorem dX6_bringToRest_101 : decode cX6_bringToRest 101 = .ok (.aload_n 0, 1) := by decide +kernel
theorem dX6_bringToRest_102 : decode cX6_bringToRest 102 = .ok (.aload_n 0, 1) := by decide +kernel
theorem dX6_bringToRest_103 : decode cX6_bringToRest 103 = .ok (.aload_n 1, 1) := by decide +kernel
theorem dX6_bringToRest_104 : decode cX6_bringToRest 104 = .ok (.invokevirtual 52, 3) := by decide +kernel
theorem dX6_bringToRest_107 : decode cX6_bringToRest 107 = .ok (.putfield 56, 3) := by decide +kernel
theorem dX6_bringToRest_110 : decode cX6_bringToRest 110 = .ok (.goto (-81), 3) := by decide +kernel
theorem dX6_bringToRest_113 : decode cX6_bringToRest 113 = .ok (.return_, 1) := by decide +kernel
theorem dX6_keep_0 : decode cX6_keep 0 = .ok (.aload_n 0, 1) := by decide +kernel
theorem dX6_keep_1 : decode cX6_keep 1 = .ok (.getfield 49, 3) := by decide +kernel
theorem dX6_keep_4 : decode cX6_keep 4 = .ok (.aload_n 0, 1) := by decide +kernel
theorem dX6_keep_5 : decode cX6_keep 5 = .ok (.getfield 20, 3) := by decide +kernel
theorem dX6_keep_8 : decode cX6_keep 8 = .ok (.arraylength, 1) := by decide +kernel
theorem dX6_keep_9 : decode cX6_keep 9 = .ok (.if_icmp .ge 33, 3) := by decide +kernel
theorem dX6_keep_12 : decode cX6_keep 12 = .ok (.aload_n 1, 1) := by decide +kernel
theorem dX6_keep_13 : decode cX6_keep 13 = .ok (.getfield 33, 3) := by decide +kernel
theorem dX6_keep_16 : decode cX6_keep 16 = .ok (.iconst 0, 1) := by decide +kernel
theorem dX6_keep_17 : decode cX6_keep 17 = .ok (.aload_n 0, 1) := by decide +kernel
theorem dX6_keep_18 : decode cX6_keep 18 = .ok (.getfield 20, 3) := by decide +kernel
theorem dX6_keep_21 : decode cX6_keep 21 = .ok (.aload_n 0, 1) := by decide +kernel
theorem dX6_keep_22 : decode cX6_keep 22 = .ok (.getfield 49, 3) := by decide +kernel
theorem dX6_keep_25 : decode cX6_keep 25 = .ok (.aaload, 1) := by decide +kernel
theorem dX6_keep_26 : decode cX6_keep 26 = .ok (.iconst 0, 1) := by decide +kernel
theorem dX6_keep_27 : decode cX6_keep 27 = .ok (.bipush 12, 2) := by decide +kernel
theorem dX6_keep_29 : decode cX6_keep 29 = .ok (.invokestatic 64, 3) := by decide +kernel
theorem dX6_keep_32 : decode cX6_keep 32 = .ok (.aload_n 0, 1) := by decide +kernel
theorem dX6_keep_33 : decode cX6_keep 33 = .ok (.dup, 1) := by decide +kernel
theorem dX6_keep_34 : decode cX6_keep 34 = .ok (.getfield 49, 3) := by decide +kernel
theorem dX6_keep_37 : decode cX6_keep 37 = .ok (.iconst 1, 1) := by decide +kernel
theorem dX6_keep_38 : decode cX6_keep 38 = .ok (.iadd, 1) := by decide +kernel
theorem dX6_keep_39 : decode cX6_keep 39 = .ok (.putfield 49, 3) := by decide +kernel
theorem dX6_keep_42 : decode cX6_keep 42 = .ok (.return_, 1) := by decide +kernel
theorem dX6_ringSince_0 : decode cX6_ringSince 0 = .ok (.aload_n 0, 1) := by decide +kernel
theorem dX6_ringSince_1 : decode cX6_ringSince 1 = .ok (.getfield 49, 3) := by decide +kernel
theorem dX6_ringSince_4 : decode cX6_ringSince 4 = .ok (.iconst 2, 1) := by decide +kernel
theorem dX6_ringSince_5 : decode cX6_ringSince 5 = .ok (.isub, 1) := by decide +kernel
theorem dX6_ringSince_6 : decode cX6_ringSince 6 = .ok (.istore_n 2, 1) := by decide +kernel
theorem dX6_ringSince_7 : decode cX6_ringSince 7 = .ok (.iload_n 2, 1) := by decide +kernel
theorem dX6_ringSince_8 : decode cX6_ringSince 8 = .ok (.ifCond .lt 24, 3) := by decide +kernel
theorem dX6_ringSince_11 : decode cX6_ringSince 11 = .ok (.aload_n 1, 1) := by decide +kernel
theorem dX6_ringSince_12 : decode cX6_ringSince 12 = .ok (.aload_n 0, 1) := by decide +kernel
theorem dX6_ringSince_13 : decode cX6_ringSince 13 = .ok (.getfield 20, 3) := by decide +kernel
theorem dX6_ringSince_16 : decode cX6_ringSince 16 = .ok (.iload_n 2, 1) := by decide +kernel
theorem dX6_ringSince_17 : decode cX6_ringSince 17 = .ok (.aaload, 1) := by decide +kernel
theorem dX6_ringSince_18 : decode cX6_ringSince 18 = .ok (.invokestatic 77, 3) := by decide +kernel
theorem dX6_ringSince_21 : decode cX6_ringSince 21 = .ok (.ifCond .eq 5, 3) := by decide +kernel
theorem dX6_ringSince_24 : decode cX6_ringSince 24 = .ok (.iload_n 2, 1) := by decide +kernel
theorem dX6_ringSince_25 : decode cX6_ringSince 25 = .ok (.ireturn, 1) := by decide +kernel
theorem dX6_ringSince_26 : decode cX6_ringSince 26 = .ok (.iinc 2 (-1), 3) := by decide +kernel
theorem dX6_ringSince_29 : decode cX6_ringSince 29 = .ok (.goto (-22), 3) := by decide +kernel
theorem dX6_ringSince_32 : decode cX6_ringSince 32 = .ok (.iconst (-1), 1) := by decide +kernel
theorem dX6_ringSince_33 : decode cX6_ringSince 33 = .ok (.ireturn, 1) := by decide +kernel
theorem dX6_freezeSince_0 : decode cX6_freezeSince 0 = .ok (.iconst 0, 1) := by decide +kernel
theorem dX6_freezeSince_1 : decode cX6_freezeSince 1 = .ok (.istore_n 3, 1) := by decide +kernel
theorem dX6_freezeSince_2 : decode cX6_freezeSince 2 = .ok (.iload_n 3, 1) := by decide +kernel
theorem dX6_freezeSince_3 : decode cX6_freezeSince 3 = .ok (.aload_n 1, 1) := by decide +kernel
theorem dX6_freezeSince_4 : decode cX6_freezeSince 4 = .ok (.getfield 27, 3) := by decide +kernel
theorem dX6_freezeSince_7 : decode cX6_freezeSince 7 = .ok (.if_icmp .ge 16, 3) := by decide +kernel
theorem dX6_freezeSince_10 : decode cX6_freezeSince 10 = .ok (.aload_n 0, 1) := by decide +kernel
theorem dX6_freezeSince_11 : decode cX6_freezeSince 11 = .ok (.aload_n 1, 1) := by decide +kernel
theorem dX6_freezeSince_12 : decode cX6_freezeSince 12 = .ok (.iload_n 3, 1) := by decide +kernel
theorem dX6_freezeSince_13 : decode cX6_freezeSince 13 = .ok (.iload_n 2, 1) := by decide +kernel
theorem dX6_freezeSince_14 : decode cX6_freezeSince 14 = .ok (.invokevirtual 81, 3) := by decide +kernel
theorem dX6_freezeSince_17 : decode cX6_freezeSince 17 = .ok (.iinc 3 1, 3) := by decide +kernel
theorem dX6_freezeSince_20 : decode cX6_freezeSince 20 = .ok (.goto (-18), 3) := by decide +kernel
theorem dX6_freezeSince_23 : decode cX6_freezeSince 23 = .ok (.aload_n 0, 1) := by decide +kernel
theorem dX6_freezeSince_24 : decode cX6_freezeSince 24 = .ok (.dup, 1) := by decide +kernel
theorem dX6_freezeSince_25 : decode cX6_freezeSince 25 = .ok (.getfield 43, 3) := by decide +kernel
theorem dX6_freezeSince_28 : decode cX6_freezeSince 28 = .ok (.iconst 1, 1) := by decide +kernel
theorem dX6_freezeSince_29 : decode cX6_freezeSince 29 = .ok (.iadd, 1) := by decide +kernel
theorem dX6_freezeSince_30 : decode cX6_freezeSince 30 = .ok (.putfield 43, 3) := by decide +kernel
theorem dX6_freezeSince_33 : decode cX6_freezeSince 33 = .ok (.aload_n 0, 1) := by decide +kernel
theorem dX6_freezeSince_34 : decode cX6_freezeSince 34 = .ok (.getfield 43, 3) := by decide +kernel
theorem dX6_freezeSince_37 : decode cX6_freezeSince 37 = .ok (.iconst 1, 1) := by decide +kernel
theorem dX6_freezeSince_38 : decode cX6_freezeSince 38 = .ok (.if_icmp .ne 13, 3) := by decide +kernel
theorem dX6_freezeSince_41 : decode cX6_freezeSince 41 = .ok (.aload_n 0, 1) := by decide +kernel
theorem dX6_freezeSince_42 : decode cX6_freezeSince 42 = .ok (.aload_n 0, 1) := by decide +kernel
theorem dX6_freezeSince_43 : decode cX6_freezeSince 43 = .ok (.getfield 49, 3) := by decide +kernel
theorem dX6_freezeSince_46 : decode cX6_freezeSince 46 = .ok (.iload_n 2, 1) := by decide +kernel
theorem dX6_freezeSince_47 : decode cX6_freezeSince 47 = .ok (.isub, 1) := by decide +kernel
theorem dX6_freezeSince_48 : decode cX6_freezeSince 48 = .ok (.putfield 46, 3) := by decide +kernel
theorem dX6_freezeSince_51 : decode cX6_freezeSince 51 = .ok (.aload_n 0, 1) := by decide +kernel
theorem dX6_freezeSince_52 : decode cX6_freezeSince 52 = .ok (.iconst 0, 1) := by decide +kernel
theorem dX6_freezeSince_53 : decode cX6_freezeSince 53 = .ok (.putfield 49, 3) := by decide +kernel
theorem dX6_freezeSince_56 : decode cX6_freezeSince 56 = .ok (.return_, 1) := by decide +kernel
theorem dX6_freezeIfRestless_0 : decode cX6_freezeIfRestless 0 = .ok (.aload_n 1, 1) := by decide +kernel
theorem dX6_freezeIfRestless_1 : decode cX6_freezeIfRestless 1 = .ok (.aload_n 1, 1) := by decide +kernel
theorem dX6_freezeIfRestless_2 : decode cX6_freezeIfRestless 2 = .ok (.getfield 33, 3) := by decide +kernel
theorem dX6_freezeIfRestless_5 : decode cX6_freezeIfRestless 5 = .ok (.iload_n 2, 1) := by decide +kernel
theorem dX6_freezeIfRestless_6 : decode cX6_freezeIfRestless 6 = .ok (.invokevirtual 85, 3) := by decide +kernel
theorem dX6_freezeIfRestless_9 : decode cX6_freezeIfRestless 9 = .ok (.istore 4, 2) := by decide +kernel
theorem dX6_freezeIfRestless_11 : decode cX6_freezeIfRestless 11 = .ok (.iload 4, 2) := by decide +kernel
theorem dX6_freezeIfRestless_13 : decode cX6_freezeIfRestless 13 = .ok (.istore 5, 2) := by decide +kernel
theorem dX6_freezeIfRestless_15 : decode cX6_freezeIfRestless 15 = .ok (.iload_n 3, 1) := by decide +kernel
theorem dX6_freezeIfRestless_16 : decode cX6_freezeIfRestless 16 = .ok (.istore 6, 2) := by decide +kernel
theorem dX6_freezeIfRestless_18 : decode cX6_freezeIfRestless 18 = .ok (.iload 6, 2) := by decide +kernel
theorem dX6_freezeIfRestless_20 : decode cX6_freezeIfRestless 20 = .ok (.aload_n 0, 1) := by decide +kernel
theorem dX6_freezeIfRestless_21 : decode cX6_freezeIfRestless 21 = .ok (.getfield 49, 3) := by decide +kernel
theorem dX6_freezeIfRestless_24 : decode cX6_freezeIfRestless 24 = .ok (.if_icmp .ge 41, 3) := by decide +kernel
theorem dX6_freezeIfRestless_27 : decode cX6_freezeIfRestless 27 = .ok (.aload_n 1, 1) := by decide +kernel
theorem dX6_freezeIfRestless_28 : decode cX6_freezeIfRestless 28 = .ok (.aload_n 0, 1) := by decide +kernel
theorem dX6_freezeIfRestless_29 : decode cX6_freezeIfRestless 29 = .ok (.getfield 20, 3) := by decide +kernel
theorem dX6_freezeIfRestless_32 : decode cX6_freezeIfRestless 32 = .ok (.iload 6, 2) := by decide +kernel
theorem dX6_freezeIfRestless_34 : decode cX6_freezeIfRestless 34 = .ok (.aaload, 1) := by decide +kernel
theorem dX6_freezeIfRestless_35 : decode cX6_freezeIfRestless 35 = .ok (.iload_n 2, 1) := by decide +kernel
theorem dX6_freezeIfRestless_36 : decode cX6_freezeIfRestless 36 = .ok (.invokevirtual 85, 3) := by decide +kernel
theorem dX6_freezeIfRestless_39 : decode cX6_freezeIfRestless 39 = .ok (.istore 7, 2) := by decide +kernel
theorem dX6_freezeIfRestless_41 : decode cX6_freezeIfRestless 41 = .ok (.iload 4, 2) := by decide +kernel
theorem dX6_freezeIfRestless_43 : decode cX6_freezeIfRestless 43 = .ok (.iload 7, 2) := by decide +kernel
theorem dX6_freezeIfRestless_45 : decode cX6_freezeIfRestless 45 = .ok (.invokestatic 89, 3) := by decide +kernel
theorem dX6_freezeIfRestless_48 : decode cX6_freezeIfRestless 48 = .ok (.istore 4, 2) := by decide +kernel
theorem dX6_freezeIfRestless_50 : decode cX6_freezeIfRestless 50 = .ok (.iload 5, 2) := by decide +kernel
theorem dX6_freezeIfRestless_52 : decode cX6_freezeIfRestless 52 = .ok (.iload 7, 2) := by decide +kernel
theorem dX6_freezeIfRestless_54 : decode cX6_freezeIfRestless 54 = .ok (.invokestatic 95, 3) := by decide +kernel
theorem dX6_freezeIfRestless_57 : decode cX6_freezeIfRestless 57 = .ok (.istore 5, 2) := by decide +kernel
theorem dX6_freezeIfRestless_59 : decode cX6_freezeIfRestless 59 = .ok (.iinc 6 1, 3) := by decide +kernel
theorem dX6_freezeIfRestless_62 : decode cX6_freezeIfRestless 62 = .ok (.goto (-44), 3) := by decide +kernel
theorem dX6_freezeIfRestless_65 : decode cX6_freezeIfRestless 65 = .ok (.iload 4, 2) := by decide +kernel
theorem dX6_freezeIfRestless_67 : decode cX6_freezeIfRestless 67 = .ok (.iload 5, 2) := by decide +kernel
theorem dX6_freezeIfRestless_69 : decode cX6_freezeIfRestless 69 = .ok (.if_icmp .eq 11, 3) := by decide +kernel
theorem dX6_freezeIfRestless_72 : decode cX6_freezeIfRestless 72 = .ok (.aload_n 1, 1) := by decide +kernel
theorem dX6_freezeIfRestless_73 : decode cX6_freezeIfRestless 73 = .ok (.getfield 98, 3) := by decide +kernel
theorem dX6_freezeIfRestless_76 : decode cX6_freezeIfRestless 76 = .ok (.iload_n 2, 1) := by decide +kernel
theorem dX6_freezeIfRestless_77 : decode cX6_freezeIfRestless 77 = .ok (.iload 5, 2) := by decide +kernel
theorem dX6_freezeIfRestless_79 : decode cX6_freezeIfRestless 79 = .ok (.iastore, 1) := by decide +kernel
theorem dX6_freezeIfRestless_80 : decode cX6_freezeIfRestless 80 = .ok (.return_, 1) := by decide +kernel
theorem dX6_isAtRest_0 : decode cX6_isAtRest 0 = .ok (.aload_n 0, 1) := by decide +kernel
theorem dX6_isAtRest_1 : decode cX6_isAtRest 1 = .ok (.getfield 12, 3) := by decide +kernel
theorem dX6_isAtRest_4 : decode cX6_isAtRest 4 = .ok (.aload_n 1, 1) := by decide +kernel
theorem dX6_isAtRest_5 : decode cX6_isAtRest 5 = .ok (.iconst (-1), 1) := by decide +kernel
theorem dX6_isAtRest_6 : decode cX6_isAtRest 6 = .ok (.invokevirtual 23, 3) := by decide +kernel
theorem dX6_isAtRest_9 : decode cX6_isAtRest 9 = .ok (.aload_n 1, 1) := by decide +kernel
theorem dX6_isAtRest_10 : decode cX6_isAtRest 10 = .ok (.aload_n 0, 1) := by decide +kernel
theorem dX6_isAtRest_11 : decode cX6_isAtRest 11 = .ok (.getfield 12, 3) := by decide +kernel
theorem dX6_isAtRest_14 : decode cX6_isAtRest 14 = .ok (.getfield 37, 3) := by decide +kernel
theorem dX6_isAtRest_17 : decode cX6_isAtRest 17 = .ok (.invokestatic 77, 3) := by decide +kernel
theorem dX6_isAtRest_20 : decode cX6_isAtRest 20 = .ok (.ireturn, 1) := by decide +kernel
theorem dX6_areSame_0 : decode cX6_areSame 0 = .ok (.iconst 0, 1) := by decide +kernel
theorem dX6_areSame_1 : decode cX6_areSame 1 = .ok (.istore_n 2, 1) := by decide +kernel
theorem dX6_areSame_2 : decode cX6_areSame 2 = .ok (.iload_n 2, 1) := by decide +kernel
theorem dX6_areSame_3 : decode cX6_areSame 3 = .ok (.aload_n 0, 1) := by decide +kernel
theorem dX6_areSame_4 : decode cX6_areSame 4 = .ok (.getfield 27, 3) := by decide +kernel
theorem dX6_areSame_7 : decode cX6_areSame 7 = .ok (.if_icmp .ge 23, 3) := by decide +kernel
theorem dX6_areSame_10 : decode cX6_areSame 10 = .ok (.aload_n 0, 1) := by decide +kernel
theorem dX6_areSame_11 : decode cX6_areSame 11 = .ok (.getfield 33, 3) := by decide +kernel
theorem dX6_areSame_14 : decode cX6_areSame 14 = .ok (.iload_n 2, 1) := by decide +kernel
theorem dX6_areSame_15 : decode cX6_areSame 15 = .ok (.iaload, 1) := by decide +kernel
theorem dX6_areSame_16 : decode cX6_areSame 16 = .ok (.aload_n 1, 1) := by decide +kernel
theorem dX6_areSame_17 : decode cX6_areSame 17 = .ok (.iload_n 2, 1) := by decide +kernel
theorem dX6_areSame_18 : decode cX6_areSame 18 = .ok (.iaload, 1) := by decide +kernel
theorem dX6_areSame_19 : decode cX6_areSame 19 = .ok (.if_icmp .eq 5, 3) := by decide +kernel
theorem dX6_areSame_22 : decode cX6_areSame 22 = .ok (.iconst 0, 1) := by decide +kernel
theorem dX6_areSame_23 : decode cX6_areSame 23 = .ok (.ireturn, 1) := by decide +kernel
theorem dX6_areSame_24 : decode cX6_areSame 24 = .ok (.iinc 2 1, 3) := by decide +kernel
theorem dX6_areSame_27 : decode cX6_areSame 27 = .ok (.goto (-25), 3) := by decide +kernel
theorem dX6_areSame_30 : decode cX6_areSame 30 = .ok (.iconst 1, 1) := by decide +kernel
theorem dX6_areSame_31 : decode cX6_areSame 31 = .ok (.ireturn, 1) := by decide +kernel
theorem dX7_init_0 : decode cX7_init 0 = .ok (.aload_n 0, 1) := by decide +kernel
theorem dX7_init_1 : decode cX7_init 1 = .ok (.invokespecial 3, 3) := by decide +kernel
theorem dX7_init_4 : decode cX7_init 4 = .ok (.aload_n 0, 1) := by decide +kernel
theorem dX7_init_5 : decode cX7_init 5 = .ok (.bipush 12, 2) := by decide +kernel
theorem dX7_init_7 : decode cX7_init 7 = .ok (.newarray .int, 2) := by decide +kernel
theorem dX7_init_9 : decode cX7_init 9 = .ok (.putfield 9, 3) := by decide +kernel
theorem dX7_init_12 : decode cX7_init 12 = .ok (.aload_n 0, 1) := by decide +kernel
theorem dX7_init_13 : decode cX7_init 13 = .ok (.bipush 12, 2) := by decide +kernel
theorem dX7_init_15 : decode cX7_init 15 = .ok (.newarray .int, 2) := by decide +kernel
theorem dX7_init_17 : decode cX7_init 17 = .ok (.putfield 15, 3) := by decide +kernel
theorem dX7_init_20 : decode cX7_init 20 = .ok (.aload_n 0, 1) := by decide +kernel
theorem dX7_init_21 : decode cX7_init 21 = .ok (.bipush 12, 2) := by decide +kernel
theorem dX7_init_23 : decode cX7_init 23 = .ok (.newarray .int, 2) := by decide +kernel
theorem dX7_init_25 : decode cX7_init 25 = .ok (.putfield 18, 3) := by decide +kernel
theorem dX7_init_28 : decode cX7_init 28 = .ok (.aload_n 0, 1) := by decide +kernel
theorem dX7_init_29 : decode cX7_init 29 = .ok (.bipush 12, 2) := by decide +kernel
theorem dX7_init_31 : decode cX7_init 31 = .ok (.newarray .int, 2) := by decide +kernel
theorem dX7_init_33 : decode cX7_init 33 = .ok (.putfield 21, 3) := by decide +kernel
theorem dX7_init_36 : decode cX7_init 36 = .ok (.return_, 1) := by decide +kernel
theorem dX7_takeFrom_0 : decode cX7_takeFrom 0 = .ok (.aload_n 0, 1) := by decide +kernel
theorem dX7_takeFrom_1 : decode cX7_takeFrom 1 = .ok (.aload_n 1, 1) := by decide +kernel
theorem dX7_takeFrom_2 : decode cX7_takeFrom 2 = .ok (.getfield 24, 3) := by decide +kernel
theorem dX7_takeFrom_5 : decode cX7_takeFrom 5 = .ok (.putfield 24, 3) := by decide +kernel
theorem dX7_takeFrom_8 : decode cX7_takeFrom 8 = .ok (.aload_n 0, 1) := by decide +kernel
theorem dX7_takeFrom_9 : decode cX7_takeFrom 9 = .ok (.aload_n 1, 1) := by decide +kernel
theorem dX7_takeFrom_10 : decode cX7_takeFrom 10 = .ok (.getfield 28, 3) := by decide +kernel
theorem dX7_takeFrom_13 : decode cX7_takeFrom 13 = .ok (.putfield 28, 3) := by decide +kernel
theorem dX7_takeFrom_16 : decode cX7_takeFrom 16 = .ok (.aload_n 0, 1) := by decide +kernel
theorem dX7_takeFrom_17 : decode cX7_takeFrom 17 = .ok (.aload_n 1, 1) := by decide +kernel
theorem dX7_takeFrom_18 : decode cX7_takeFrom 18 = .ok (.getfield 31, 3) := by decide +kernel
theorem dX7_takeFrom_21 : decode cX7_takeFrom 21 = .ok (.putfield 31, 3) := by decide +kernel
theorem dX7_takeFrom_24 : decode cX7_takeFrom 24 = .ok (.aload_n 0, 1) := by decide +kernel
theorem dX7_takeFrom_25 : decode cX7_takeFrom 25 = .ok (.aload_n 1, 1) := by decide +kernel
theorem dX7_takeFrom_26 : decode cX7_takeFrom 26 = .ok (.getfield 34, 3) := by decide +kernel
theorem dX7_takeFrom_29 : decode cX7_takeFrom 29 = .ok (.putfield 34, 3) := by decide +kernel
theorem dX7_takeFrom_32 : decode cX7_takeFrom 32 = .ok (.aload_n 0, 1) := by decide +kernel
theorem dX7_takeFrom_33 : decode cX7_takeFrom 33 = .ok (.aload_n 1, 1) := by decide +kernel
theorem dX7_takeFrom_34 : decode cX7_takeFrom 34 = .ok (.getfield 37, 3) := by decide +kernel
theorem dX7_takeFrom_37 : decode cX7_takeFrom 37 = .ok (.putfield 37, 3) := by decide +kernel
theorem dX7_takeFrom_40 : decode cX7_takeFrom 40 = .ok (.aload_n 1, 1) := by decide +kernel
theorem dX7_takeFrom_41 : decode cX7_takeFrom 41 = .ok (.getfield 9, 3) := by decide +kernel
theorem dX7_takeFrom_44 : decode cX7_takeFrom 44 = .ok (.iconst 0, 1) := by decide +kernel
theorem dX7_takeFrom_45 : decode cX7_takeFrom 45 = .ok (.aload_n 0, 1) := by decide +kernel
theorem dX7_takeFrom_46 : decode cX7_takeFrom 46 = .ok (.getfield 9, 3) := by decide +kernel
theorem dX7_takeFrom_49 : decode cX7_takeFrom 49 = .ok (.iconst 0, 1) := by decide +kernel
theorem dX7_takeFrom_50 : decode cX7_takeFrom 50 = .ok (.bipush 12, 2) := by decide +kernel
theorem dX7_takeFrom_52 : decode cX7_takeFrom 52 = .ok (.invokestatic 40, 3) := by decide +kernel
theorem dX7_takeFrom_55 : decode cX7_takeFrom 55 = .ok (.aload_n 1, 1) := by decide +kernel
theorem dX7_takeFrom_56 : decode cX7_takeFrom 56 = .ok (.getfield 15, 3) := by decide +kernel
theorem dX7_takeFrom_59 : decode cX7_takeFrom 59 = .ok (.iconst 0, 1) := by decide +kernel
theorem dX7_takeFrom_60 : decode cX7_takeFrom 60 = .ok (.aload_n 0, 1) := by decide +kernel
theorem dX7_takeFrom_61 : decode cX7_takeFrom 61 = .ok (.getfield 15, 3) := by decide +kernel
theorem dX7_takeFrom_64 : decode cX7_takeFrom 64 = .ok (.iconst 0, 1) := by decide +kernel
theorem dX7_takeFrom_65 : decode cX7_takeFrom 65 = .ok (.bipush 12, 2) := by decide +kernel
theorem dX7_takeFrom_67 : decode cX7_takeFrom 67 = .ok (.invokestatic 40, 3) := by decide +kernel
theorem dX7_takeFrom_70 : decode cX7_takeFrom 70 = .ok (.aload_n 1, 1) := by decide +kernel
theorem dX7_takeFrom_71 : decode cX7_takeFrom 71 = .ok (.getfield 18, 3) := by decide +kernel
theorem dX7_takeFrom_74 : decode cX7_takeFrom 74 = .ok (.iconst 0, 1) := by decide +kernel
theorem dX7_takeFrom_75 : decode cX7_takeFrom 75 = .ok (.aload_n 0, 1) := by decide +kernel
theorem dX7_takeFrom_76 : decode cX7_takeFrom 76 = .ok (.getfield 18, 3) := by decide +kernel
theorem dX7_takeFrom_79 : decode cX7_takeFrom 79 = .ok (.iconst 0, 1) := by decide +kernel
theorem dX7_takeFrom_80 : decode cX7_takeFrom 80 = .ok (.bipush 12, 2) := by decide +kernel
theorem dX7_takeFrom_82 : decode cX7_takeFrom 82 = .ok (.invokestatic 40, 3) := by decide +kernel
theorem dX7_takeFrom_85 : decode cX7_takeFrom 85 = .ok (.aload_n 1, 1) := by decide +kernel
theorem dX7_takeFrom_86 : decode cX7_takeFrom 86 = .ok (.getfield 21, 3) := by decide +kernel
theorem dX7_takeFrom_89 : decode cX7_takeFrom 89 = .ok (.iconst 0, 1) := by decide +kernel
theorem dX7_takeFrom_90 : decode cX7_takeFrom 90 = .ok (.aload_n 0, 1) := by decide +kernel
theorem dX7_takeFrom_91 : decode cX7_takeFrom 91 = .ok (.getfield 21, 3) := by decide +kernel
theorem dX7_takeFrom_94 : decode cX7_takeFrom 94 = .ok (.iconst 0, 1) := by decide +kernel
theorem dX7_takeFrom_95 : decode cX7_takeFrom 95 = .ok (.bipush 12, 2) := by decide +kernel
theorem dX7_takeFrom_97 : decode cX7_takeFrom 97 = .ok (.invokestatic 40, 3) := by decide +kernel
theorem dX7_takeFrom_100 : decode cX7_takeFrom 100 = .ok (.return_, 1) := by decide +kernel
theorem dX7_beginAnew_0 : decode cX7_beginAnew 0 = .ok (.aload_n 0, 1) := by decide +kernel
theorem dX7_beginAnew_1 : decode cX7_beginAnew 1 = .ok (.getfield 18, 3) := by decide +kernel
theorem dX7_beginAnew_4 : decode cX7_beginAnew 4 = .ok (.aload_n 0, 1) := by decide +kernel
theorem dX7_beginAnew_5 : decode cX7_beginAnew 5 = .ok (.getfield 34, 3) := by decide +kernel
theorem dX7_beginAnew_8 : decode cX7_beginAnew 8 = .ok (.invokestatic 46, 3) := by decide +kernel
theorem dX7_beginAnew_11 : decode cX7_beginAnew 11 = .ok (.aload_n 0, 1) := by decide +kernel
theorem dX7_beginAnew_12 : decode cX7_beginAnew 12 = .ok (.getfield 21, 3) := by decide +kernel
theorem dX7_beginAnew_15 : decode cX7_beginAnew 15 = .ok (.iconst 0, 1) := by decide +kernel
theorem dX7_beginAnew_16 : decode cX7_beginAnew 16 = .ok (.invokestatic 46, 3) := by decide +kernel
theorem dX7_beginAnew_19 : decode cX7_beginAnew 19 = .ok (.return_, 1) := by decide +kernel
theorem dX7_holds_0 : decode cX7_holds 0 = .ok (.iload_n 1, 1) := by decide +kernel
theorem dX7_holds_1 : decode cX7_holds 1 = .ok (.ifCond .lt 15, 3) := by decide +kernel
theorem dX7_holds_4 : decode cX7_holds 4 = .ok (.iload_n 1, 1) := by decide +kernel
theorem dX7_holds_5 : decode cX7_holds 5 = .ok (.aload_n 0, 1) := by decide +kernel
theorem dX7_holds_6 : decode cX7_holds 6 = .ok (.getfield 24, 3) := by decide +kernel
theorem dX7_holds_9 : decode cX7_holds 9 = .ok (.if_icmp .ge 7, 3) := by decide +kernel
theorem dX7_holds_12 : decode cX7_holds 12 = .ok (.iconst 1, 1) := by decide +kernel
theorem dX7_holds_13 : decode cX7_holds 13 = .ok (.goto 4, 3) := by decide +kernel
theorem dX7_holds_16 : decode cX7_holds 16 = .ok (.iconst 0, 1) := by decide +kernel
theorem dX7_holds_17 : decode cX7_holds 17 = .ok (.ireturn, 1) := by decide +kernel
theorem dX7_isReference_0 : decode cX7_isReference 0 = .ok (.aload_n 0, 1) := by decide +kernel
theorem dX7_isReference_1 : decode cX7_isReference 1 = .ok (.getfield 9, 3) := by decide +kernel
theorem dX7_isReference_4 : decode cX7_isReference 4 = .ok (.iload_n 1, 1) := by decide +kernel
theorem dX7_isReference_5 : decode cX7_isReference 5 = .ok (.iaload, 1) := by decide +kernel
theorem dX7_isReference_6 : decode cX7_isReference 6 = .ok (.iconst 1, 1) := by decide +kernel
theorem dX7_isReference_7 : decode cX7_isReference 7 = .ok (.if_icmp .lt 17, 3) := by decide +kernel
theorem dX7_isReference_10 : decode cX7_isReference 10 = .ok (.aload_n 0, 1) := by decide +kernel
theorem dX7_isReference_11 : decode cX7_isReference 11 = .ok (.getfield 9, 3) := by decide +kernel
theorem dX7_isReference_14 : decode cX7_isReference 14 = .ok (.iload_n 1, 1) := by decide +kernel
theorem dX7_isReference_15 : decode cX7_isReference 15 = .ok (.iaload, 1) := by decide +kernel
theorem dX7_isReference_16 : decode cX7_isReference 16 = .ok (.iconst 3, 1) := by decide +kernel
theorem dX7_isReference_17 : decode cX7_isReference 17 = .ok (.if_icmp .gt 7, 3) := by decide +kernel
theorem dX7_isReference_20 : decode cX7_isReference 20 = .ok (.iconst 1, 1) := by decide +kernel
theorem dX7_isReference_21 : decode cX7_isReference 21 = .ok (.goto 4, 3) := by decide +kernel
theorem dX7_isReference_24 : decode cX7_isReference 24 = .ok (.iconst 0, 1) := by decide +kernel
theorem dX7_isReference_25 : decode cX7_isReference 25 = .ok (.ireturn, 1) := by decide +kernel
theorem dX7_isOfKind_0 : decode cX7_isOfKind 0 = .ok (.iload_n 2, 1) := by decide +kernel
theorem dX7_isOfKind_1 : decode cX7_isOfKind 1 = .ok (.ifCond .eq 41, 3) := by decide +kernel
theorem dX7_isOfKind_4 : decode cX7_isOfKind 4 = .ok (.iload_n 2, 1) := by decide +kernel
theorem dX7_isOfKind_5 : decode cX7_isOfKind 5 = .ok (.aload_n 0, 1) := by decide +kernel
theorem dX7_isOfKind_6 : decode cX7_isOfKind 6 = .ok (.getfield 9, 3) := by decide +kernel
theorem dX7_isOfKind_9 : decode cX7_isOfKind 9 = .ok (.iload_n 1, 1) := by decide +kernel
theorem dX7_isOfKind_10 : decode cX7_isOfKind 10 = .ok (.iaload, 1) := by decide +kernel
theorem dX7_isOfKind_11 : decode cX7_isOfKind 11 = .ok (.if_icmp .eq 31, 3) := by decide +kernel
theorem dX7_isOfKind_14 : decode cX7_isOfKind 14 = .ok (.iload_n 2, 1) := by decide +kernel
theorem dX7_isOfKind_15 : decode cX7_isOfKind 15 = .ok (.iconst 1, 1) := by decide +kernel
theorem dX7_isOfKind_16 : decode cX7_isOfKind 16 = .ok (.if_icmp .ne 11, 3) := by decide +kernel
theorem dX7_isOfKind_19 : decode cX7_isOfKind 19 = .ok (.aload_n 0, 1) := by decide +kernel
theorem dX7_isOfKind_20 : decode cX7_isOfKind 20 = .ok (.iload_n 1, 1) := by decide +kernel
theorem dX7_isOfKind_21 : decode cX7_isOfKind 21 = .ok (.invokevirtual 52, 3) := by decide +kernel
theorem dX7_isOfKind_24 : decode cX7_isOfKind 24 = .ok (.ifCond .ne 18, 3) := by decide +kernel
theorem dX7_isOfKind_27 : decode cX7_isOfKind 27 = .ok (.iload_n 2, 1) := by decide +kernel
theorem dX7_isOfKind_28 : decode cX7_isOfKind 28 = .ok (.iconst 4, 1) := by decide +kernel
theorem dX7_isOfKind_29 : decode cX7_isOfKind 29 = .ok (.if_icmp .ne 17, 3) := by decide +kernel
theorem dX7_isOfKind_32 : decode cX7_isOfKind 32 = .ok (.aload_n 0, 1) := by decide +kernel
theorem dX7_isOfKind_33 : decode cX7_isOfKind 33 = .ok (.getfield 9, 3) := by decide +kernel
theorem dX7_isOfKind_36 : decode cX7_isOfKind 36 = .ok (.iload_n 1, 1) := by decide +kernel
theorem dX7_isOfKind_37 : decode cX7_isOfKind 37 = .ok (.iaload, 1) := by decide +kernel
theorem dX7_isOfKind_38 : decode cX7_isOfKind 38 = .ok (.iconst 5, 1) := by decide +kernel
theorem dX7_isOfKind_39 : decode cX7_isOfKind 39 = .ok (.if_icmp .ne 7, 3) := by decide +kernel
theorem dX7_isOfKind_42 : decode cX7_isOfKind 42 = .ok (.iconst 1, 1) := by decide +kernel
theorem dX7_isOfKind_43 : decode cX7_isOfKind 43 = .ok (.goto 4, 3) := by decide +kernel
theorem dX7_isOfKind_46 : decode cX7_isOfKind 46 = .ok (.iconst 0, 1) := by decide +kernel
theorem dX7_isOfKind_47 : decode cX7_isOfKind 47 = .ok (.ireturn, 1) := by decide +kernel
theorem dX7_mayBeNumber_0 : decode cX7_mayBeNumber 0 = .ok (.iload_n 1, 1) := by decide +kernel
theorem dX7_mayBeNumber_1 : decode cX7_mayBeNumber 1 = .ok (.iconst 5, 1) := by decide +kernel
theorem dX7_mayBeNumber_2 : decode cX7_mayBeNumber 2 = .ok (.if_icmp .ne 5, 3) := by decide +kernel
theorem dX7_mayBeNumber_5 : decode cX7_mayBeNumber 5 = .ok (.iconst 1, 1) := by decide +kernel
theorem dX7_mayBeNumber_6 : decode cX7_mayBeNumber 6 = .ok (.ireturn, 1) := by decide +kernel
theorem dX7_mayBeNumber_7 : decode cX7_mayBeNumber 7 = .ok (.iload_n 1, 1) := by decide +kernel
theorem dX7_mayBeNumber_8 : decode cX7_mayBeNumber 8 = .ok (.iconst 4, 1) := by decide +kernel
theorem dX7_mayBeNumber_9 : decode cX7_mayBeNumber 9 = .ok (.if_icmp .ne 22, 3) := by decide +kernel
theorem dX7_mayBeNumber_12 : decode cX7_mayBeNumber 12 = .ok (.iload_n 2, 1) := by decide +kernel
theorem dX7_mayBeNumber_13 : decode cX7_mayBeNumber 13 = .ok (.iconst 1, 1) := by decide +kernel
theorem dX7_mayBeNumber_14 : decode cX7_mayBeNumber 14 = .ok (.if_icmp .lt 13, 3) := by decide +kernel
theorem dX7_mayBeNumber_17 : decode cX7_mayBeNumber 17 = .ok (.iload_n 2, 1) := by decide +kernel
theorem dX7_mayBeNumber_18 : decode cX7_mayBeNumber 18 = .ok (.bipush 20, 2) := by decide +kernel
theorem dX7_mayBeNumber_20 : decode cX7_mayBeNumber 20 = .ok (.if_icmp .gt 7, 3) := by decide +kernel
theorem dX7_mayBeNumber_23 : decode cX7_mayBeNumber 23 = .ok (.iconst 1, 1) := by decide +kernel
theorem dX7_mayBeNumber_24 : decode cX7_mayBeNumber 24 = .ok (.goto 12, 3) := by decide +kernel
theorem dX7_mayBeNumber_27 : decode cX7_mayBeNumber 27 = .ok (.iconst 0, 1) := by decide +kernel
theorem dX7_mayBeNumber_28 : decode cX7_mayBeNumber 28 = .ok (.goto 8, 3) := by decide +kernel
theorem dX7_mayBeNumber_31 : decode cX7_mayBeNumber 31 = .ok (.aload_n 0, 1) := by decide +kernel
theorem dX7_mayBeNumber_32 : decode cX7_mayBeNumber 32 = .ok (.iload_n 2, 1) := by decide +kernel
theorem dX7_mayBeNumber_33 : decode cX7_mayBeNumber 33 = .ok (.invokevirtual 56, 3) := by decide +kernel
theorem dX7_mayBeNumber_36 : decode cX7_mayBeNumber 36 = .ok (.ireturn, 1) := by decide +kernel
theorem dX7_wideBy_0 : decode cX7_wideBy 0 = .ok (.aload_n 0, 1) := by decide +kernel
theorem dX7_wideBy_1 : decode cX7_wideBy 1 = .ok (.getfield 9, 3) := by decide +kernel
theorem dX7_wideBy_4 : decode cX7_wideBy 4 = .ok (.iload_n 2, 1) := by decide +kernel
theorem dX7_wideBy_5 : decode cX7_wideBy 5 = .ok (.iaload, 1) := by decide +kernel
theorem dX7_wideBy_6 : decode cX7_wideBy 6 = .ok (.iconst 4, 1) := by decide +kernel
theorem dX7_wideBy_7 : decode cX7_wideBy 7 = .ok (.if_icmp .ne 10, 3) := by decide +kernel
theorem dX7_wideBy_10 : decode cX7_wideBy 10 = .ok (.aload_n 0, 1) := by decide +kernel
theorem dX7_wideBy_11 : decode cX7_wideBy 11 = .ok (.getfield 15, 3) := by decide +kernel
theorem dX7_wideBy_14 : decode cX7_wideBy 14 = .ok (.iload_n 2, 1) := by decide +kernel
theorem dX7_wideBy_15 : decode cX7_wideBy 15 = .ok (.iaload, 1) := by decide +kernel
theorem dX7_wideBy_16 : decode cX7_wideBy 16 = .ok (.ireturn, 1) := by decide +kernel
theorem dX7_wideBy_17 : decode cX7_wideBy 17 = .ok (.aload_n 0, 1) := by decide +kernel
theorem dX7_wideBy_18 : decode cX7_wideBy 18 = .ok (.getfield 9, 3) := by decide +kernel
theorem dX7_wideBy_21 : decode cX7_wideBy 21 = .ok (.iload_n 2, 1) := by decide +kernel
theorem dX7_wideBy_22 : decode cX7_wideBy 22 = .ok (.iaload, 1) := by decide +kernel
theorem dX7_wideBy_23 : decode cX7_wideBy 23 = .ok (.iconst 5, 1) := by decide +kernel
theorem dX7_wideBy_24 : decode cX7_wideBy 24 = .ok (.if_icmp .ne 5, 3) := by decide +kernel
theorem dX7_wideBy_27 : decode cX7_wideBy 27 = .ok (.iconst 0, 1) := by decide +kernel
theorem dX7_wideBy_28 : decode cX7_wideBy 28 = .ok (.ireturn, 1) := by decide +kernel
theorem dX7_wideBy_29 : decode cX7_wideBy 29 = .ok (.aload_n 0, 1) := by decide +kernel
theorem dX7_wideBy_30 : decode cX7_wideBy 30 = .ok (.getfield 15, 3) := by decide +kernel
theorem dX7_wideBy_33 : decode cX7_wideBy 33 = .ok (.iload_n 2, 1) := by decide +kernel
theorem dX7_wideBy_34 : decode cX7_wideBy 34 = .ok (.iaload, 1) := by decide +kernel
theorem dX7_wideBy_35 : decode cX7_wideBy 35 = .ok (.istore_n 3, 1) := by decide +kernel
theorem dX7_wideBy_36 : decode cX7_wideBy 36 = .ok (.iload_n 3, 1) := by decide +kernel
theorem dX7_wideBy_37 : decode cX7_wideBy 37 = .ok (.ifCond .lt 17, 3) := by decide +kernel
theorem dX7_wideBy_40 : decode cX7_wideBy 40 = .ok (.iload_n 3, 1) := by decide +kernel
theorem dX7_wideBy_41 : decode cX7_wideBy 41 = .ok (.aload_n 0, 1) := by decide +kernel
theorem dX7_wideBy_42 : decode cX7_wideBy 42 = .ok (.getfield 24, 3) := by decide +kernel
theorem dX7_wideBy_45 : decode cX7_wideBy 45 = .ok (.if_icmp .ge 9, 3) := by decide +kernel
theorem dX7_wideBy_48 : decode cX7_wideBy 48 = .ok (.aload_n 1, 1) := by decide +kernel
theorem dX7_wideBy_49 : decode cX7_wideBy 49 = .ok (.iload_n 3, 1) := by decide +kernel
theorem dX7_wideBy_50 : decode cX7_wideBy 50 = .ok (.iaload, 1) := by decide +kernel
theorem dX7_wideBy_51 : decode cX7_wideBy 51 = .ok (.goto 7, 3) := by decide +kernel
theorem dX7_wideBy_54 : decode cX7_wideBy 54 = .ok (.aload_n 0, 1) := by decide +kernel
theorem dX7_wideBy_55 : decode cX7_wideBy 55 = .ok (.getfield 34, 3) := by decide +kernel
theorem dX7_wideBy_58 : decode cX7_wideBy 58 = .ok (.istore 4, 2) := by decide +kernel
theorem dX7_wideBy_60 : decode cX7_wideBy 60 = .ok (.aload_n 0, 1) := by decide +kernel
theorem dX7_wideBy_61 : decode cX7_wideBy 61 = .ok (.getfield 21, 3) := by decide +kernel
theorem dX7_wideBy_64 : decode cX7_wideBy 64 = .ok (.iload_n 2, 1) := by decide +kernel
theorem dX7_wideBy_65 : decode cX7_wideBy 65 = .ok (.iaload, 1) := by decide +kernel
theorem dX7_wideBy_66 : decode cX7_wideBy 66 = .ok (.aload_n 0, 1) := by decide +kernel
theorem dX7_wideBy_67 : decode cX7_wideBy 67 = .ok (.getfield 9, 3) := by decide +kernel
theorem dX7_wideBy_70 : decode cX7_wideBy 70 = .ok (.iload_n 2, 1) := by decide +kernel
theorem dX7_wideBy_71 : decode cX7_wideBy 71 = .ok (.iaload, 1) := by decide +kernel
theorem dX7_wideBy_72 : decode cX7_wideBy 72 = .ok (.iload 4, 2) := by decide +kernel
theorem dX7_wideBy_74 : decode cX7_wideBy 74 = .ok (.invokestatic 59, 3) := by decide +kernel
theorem dX7_wideBy_77 : decode cX7_wideBy 77 = .ok (.invokestatic 63, 3) := by decide +kernel
theorem dX7_wideBy_80 : decode cX7_wideBy 80 = .ok (.ireturn, 1) := by decide +kernel
theorem dX7_signOf_0 : decode cX7_signOf 0 = .ok (.new 68, 3) := by decide +kernel
theorem dX7_signOf_3 : decode cX7_signOf 3 = .ok (.dup, 1) := by decide +kernel
theorem dX7_signOf_4 : decode cX7_signOf 4 = .ok (.invokespecial 70, 3) := by decide +kernel
theorem dX7_signOf_7 : decode cX7_signOf 7 = .ok (.astore_n 3, 1) := by decide +kernel
theorem dX7_signOf_8 : decode cX7_signOf 8 = .ok (.aload_n 0, 1) := by decide +kernel
theorem dX7_signOf_9 : decode cX7_signOf 9 = .ok (.aload_n 0, 1) := by decide +kernel
theorem dX7_signOf_10 : decode cX7_signOf 10 = .ok (.getfield 15, 3) := by decide +kernel
theorem dX7_signOf_13 : decode cX7_signOf 13 = .ok (.iload_n 1, 1) := by decide +kernel
theorem dX7_signOf_14 : decode cX7_signOf 14 = .ok (.iaload, 1) := by decide +kernel
theorem dX7_signOf_15 : decode cX7_signOf 15 = .ok (.invokevirtual 56, 3) := by decide +kernel
theorem dX7_signOf_18 : decode cX7_signOf 18 = .ok (.ifCond .eq 17, 3) := by decide +kernel
theorem dX7_signOf_21 : decode cX7_signOf 21 = .ok (.aload_n 0, 1) := by decide +kernel
theorem dX7_signOf_22 : decode cX7_signOf 22 = .ok (.getfield 18, 3) := by decide +kernel
theorem dX7_signOf_25 : decode cX7_signOf 25 = .ok (.aload_n 0, 1) := by decide +kernel
theorem dX7_signOf_26 : decode cX7_signOf 26 = .ok (.getfield 15, 3) := by decide +kernel
theorem dX7_signOf_29 : decode cX7_signOf 29 = .ok (.iload_n 1, 1) := by decide +kernel
theorem dX7_signOf_30 : decode cX7_signOf 30 = .ok (.iaload, 1) := by decide +kernel
theorem dX7_signOf_31 : decode cX7_signOf 31 = .ok (.iaload, 1) := by decide +kernel
theorem dX7_signOf_32 : decode cX7_signOf 32 = .ok (.goto 7, 3) := by decide +kernel
theorem dX7_signOf_35 : decode cX7_signOf 35 = .ok (.aload_n 0, 1) := by decide +kernel
theorem dX7_signOf_36 : decode cX7_signOf 36 = .ok (.getfield 34, 3) := by decide +kernel
theorem dX7_signOf_39 : decode cX7_signOf 39 = .ok (.istore 4, 2) := by decide +kernel
theorem dX7_signOf_41 : decode cX7_signOf 41 = .ok (.aload_n 0, 1) := by decide +kernel
theorem dX7_signOf_42 : decode cX7_signOf 42 = .ok (.getfield 9, 3) := by decide +kernel
theorem dX7_signOf_45 : decode cX7_signOf 45 = .ok (.iload_n 1, 1) := by decide +kernel
theorem dX7_signOf_46 : decode cX7_signOf 46 = .ok (.iaload, 1) := by decide +kernel
theorem dX7_signOf_47 : decode cX7_signOf 47 = .ok (.iconst 2, 1) := by decide +kernel
theorem dX7_signOf_48 : decode cX7_signOf 48 = .ok (.if_icmp .ne 36, 3) := by decide +kernel
theorem dX7_signOf_51 : decode cX7_signOf 51 = .ok (.aload_n 3, 1) := by decide +kernel
theorem dX7_signOf_52 : decode cX7_signOf 52 = .ok (.iload 4, 2) := by decide +kernel
theorem dX7_signOf_54 : decode cX7_signOf 54 = .ok (.bipush 10, 2) := by decide +kernel
theorem dX7_signOf_56 : decode cX7_signOf 56 = .ok (.idiv, 1) := by decide +kernel
theorem dX7_signOf_57 : decode cX7_signOf 57 = .ok (.bipush 120, 2) := by decide +kernel
theorem dX7_signOf_59 : decode cX7_signOf 59 = .ok (.bipush 108, 2) := by decide +kernel
theorem dX7_signOf_61 : decode cX7_signOf 61 = .ok (.bipush 99, 2) := by decide +kernel
theorem dX7_signOf_63 : decode cX7_signOf 63 = .ok (.invokestatic 71, 3) := by decide +kernel
theorem dX7_signOf_66 : decode cX7_signOf 66 = .ok (.aload_n 3, 1) := by decide +kernel
theorem dX7_signOf_67 : decode cX7_signOf 67 = .ok (.iload 4, 2) := by decide +kernel
theorem dX7_signOf_69 : decode cX7_signOf 69 = .ok (.bipush 10, 2) := by decide +kernel
theorem dX7_signOf_71 : decode cX7_signOf 71 = .ok (.irem, 1) := by decide +kernel
theorem dX7_signOf_72 : decode cX7_signOf 72 = .ok (.bipush 105, 2) := by decide +kernel
theorem dX7_signOf_74 : decode cX7_signOf 74 = .ok (.bipush 118, 2) := by decide +kernel
theorem dX7_signOf_76 : decode cX7_signOf 76 = .ok (.bipush 120, 2) := by decide +kernel
theorem dX7_signOf_78 : decode cX7_signOf 78 = .ok (.invokestatic 71, 3) := by decide +kernel
theorem dX7_signOf_81 : decode cX7_signOf 81 = .ok (.goto 10, 3) := by decide +kernel
theorem dX7_signOf_84 : decode cX7_signOf 84 = .ok (.aload_n 3, 1) := by decide +kernel
theorem dX7_signOf_85 : decode cX7_signOf 85 = .ok (.iload 4, 2) := by decide +kernel
theorem dX7_signOf_87 : decode cX7_signOf 87 = .ok (.invokevirtual 75, 3) := by decide +kernel
theorem dX7_signOf_90 : decode cX7_signOf 90 = .ok (.pop, 1) := by decide +kernel
theorem dX7_signOf_91 : decode cX7_signOf 91 = .ok (.aload_n 0, 1) := by decide +kernel
theorem dX7_signOf_92 : decode cX7_signOf 92 = .ok (.getfield 9, 3) := by decide +kernel
theorem dX7_signOf_95 : decode cX7_signOf 95 = .ok (.iload_n 1, 1) := by decide +kernel
theorem dX7_signOf_96 : decode cX7_signOf 96 = .ok (.iaload, 1) := by decide +kernel
theorem dX7_signOf_97 : decode cX7_signOf 97 = .ok (.iconst 3, 1) := by decide +kernel
theorem dX7_signOf_98 : decode cX7_signOf 98 = .ok (.if_icmp .ne 10, 3) := by decide +kernel
theorem dX7_signOf_101 : decode cX7_signOf 101 = .ok (.aload_n 3, 1) := by decide +kernel
theorem dX7_signOf_102 : decode cX7_signOf 102 = .ok (.bipush 102, 2) := by decide +kernel
theorem dX7_signOf_104 : decode cX7_signOf 104 = .ok (.invokevirtual 79, 3) := by decide +kernel
theorem dX7_signOf_107 : decode cX7_signOf 107 = .ok (.pop, 1) := by decide +kernel
theorem dX7_signOf_108 : decode cX7_signOf 108 = .ok (.iload_n 2, 1) := by decide +kernel
theorem dX7_signOf_109 : decode cX7_signOf 109 = .ok (.ifCond .lt 17, 3) := by decide +kernel
theorem dX7_signOf_112 : decode cX7_signOf 112 = .ok (.iload_n 2, 1) := by decide +kernel
theorem dX7_signOf_113 : decode cX7_signOf 113 = .ok (.aload_n 3, 1) := by decide +kernel
theorem dX7_signOf_114 : decode cX7_signOf 114 = .ok (.invokevirtual 82, 3) := by decide +kernel
theorem dX7_signOf_117 : decode cX7_signOf 117 = .ok (.if_icmp .ge 9, 3) := by decide +kernel
theorem dX7_signOf_120 : decode cX7_signOf 120 = .ok (.aload_n 3, 1) := by decide +kernel
theorem dX7_signOf_121 : decode cX7_signOf 121 = .ok (.iload_n 2, 1) := by decide +kernel
theorem dX7_signOf_122 : decode cX7_signOf 122 = .ok (.invokevirtual 86, 3) := by decide +kernel
theorem dX7_signOf_125 : decode cX7_signOf 125 = .ok (.ireturn, 1) := by decide +kernel
theorem dX7_signOf_126 : decode cX7_signOf 126 = .ok (.iload_n 2, 1) := by decide +kernel
theorem dX7_signOf_127 : decode cX7_signOf 127 = .ok (.aload_n 0, 1) := by decide +kernel
theorem dX7_signOf_128 : decode cX7_signOf 128 = .ok (.getfield 21, 3) := by decide +kernel
theorem dX7_signOf_131 : decode cX7_signOf 131 = .ok (.iload_n 1, 1) := by decide +kernel
theorem dX7_signOf_132 : decode cX7_signOf 132 = .ok (.iaload, 1) := by decide +kernel
theorem dX7_signOf_133 : decode cX7_signOf 133 = .ok (.if_icmp .ge 8, 3) := by decide +kernel
theorem dX7_signOf_136 : decode cX7_signOf 136 = .ok (.bipush 32, 2) := by decide +kernel
theorem dX7_signOf_138 : decode cX7_signOf 138 = .ok (.goto 5, 3) := by decide +kernel
theorem dX7_signOf_141 : decode cX7_signOf 141 = .ok (.ldc 90, 2) := by decide +kernel
theorem dX7_signOf_143 : decode cX7_signOf 143 = .ok (.ireturn, 1) := by decide +kernel
theorem dX7_frozenBits_0 : decode cX7_frozenBits 0 = .ok (.iconst 0, 1) := by decide +kernel
theorem dX7_frozenBits_1 : decode cX7_frozenBits 1 = .ok (.istore_n 1, 1) := by decide +kernel
theorem dX7_frozenBits_2 : decode cX7_frozenBits 2 = .ok (.iconst 0, 1) := by decide +kernel
theorem dX7_frozenBits_3 : decode cX7_frozenBits 3 = .ok (.istore_n 2, 1) := by decide +kernel
theorem dX7_frozenBits_4 : decode cX7_frozenBits 4 = .ok (.iload_n 2, 1) := by decide +kernel
theorem dX7_frozenBits_5 : decode cX7_frozenBits 5 = .ok (.aload_n 0, 1) := by decide +kernel
theorem dX7_frozenBits_6 : decode cX7_frozenBits 6 = .ok (.getfield 24, 3) := by decide +kernel
theorem dX7_frozenBits_9 : decode cX7_frozenBits 9 = .ok (.if_icmp .ge 24, 3) := by decide +kernel
theorem dX7_frozenBits_12 : decode cX7_frozenBits 12 = .ok (.aload_n 0, 1) := by decide +kernel
theorem dX7_frozenBits_13 : decode cX7_frozenBits 13 = .ok (.getfield 21, 3) := by decide +kernel
