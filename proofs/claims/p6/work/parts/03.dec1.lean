theorem dX4_readOne_35 : decode cX4_readOne 35 = .ok (.aload_n 0, 1) := by decide +kernel
theorem dX4_readOne_36 : decode cX4_readOne 36 = .ok (.getfield 19, 3) := by decide +kernel
theorem dX4_readOne_39 : decode cX4_readOne 39 = .ok (.bipush (-11), 2) := by decide +kernel
theorem dX4_readOne_41 : decode cX4_readOne 41 = .ok (.invokevirtual 147, 3) := by decide +kernel
theorem dX4_readOne_44 : decode cX4_readOne 44 = .ok (.iload_n 2, 1) := by decide +kernel
theorem dX4_readOne_45 : decode cX4_readOne 45 = .ok (.ireturn, 1) := by decide +kernel
theorem dX4_readOne_46 : decode cX4_readOne 46 = .ok (.aload_n 0, 1) := by decide +kernel
theorem dX4_readOne_47 : decode cX4_readOne 47 = .ok (.getfield 29, 3) := by decide +kernel
theorem dX4_readOne_50 : decode cX4_readOne 50 = .ok (.ldc2_w 158, 3) := by decide +kernel
theorem dX4_readOne_53 : decode cX4_readOne 53 = .ok (.lcmp, 1) := by decide +kernel
theorem dX4_readOne_54 : decode cX4_readOne 54 = .ok (.ifCond .ne 33, 3) := by decide +kernel
theorem dX4_readOne_57 : decode cX4_readOne 57 = .ok (.aload_n 0, 1) := by decide +kernel
theorem dX4_readOne_58 : decode cX4_readOne 58 = .ok (.invokevirtual 68, 3) := by decide +kernel
theorem dX4_readOne_61 : decode cX4_readOne 61 = .ok (.aload_n 0, 1) := by decide +kernel
theorem dX4_readOne_62 : decode cX4_readOne 62 = .ok (.iload_n 1, 1) := by decide +kernel
theorem dX4_readOne_63 : decode cX4_readOne 63 = .ok (.iconst 1, 1) := by decide +kernel
theorem dX4_readOne_64 : decode cX4_readOne 64 = .ok (.iadd, 1) := by decide +kernel
theorem dX4_readOne_65 : decode cX4_readOne 65 = .ok (.invokevirtual 99, 3) := by decide +kernel
theorem dX4_readOne_68 : decode cX4_readOne 68 = .ok (.ifCond .eq 17, 3) := by decide +kernel
theorem dX4_readOne_71 : decode cX4_readOne 71 = .ok (.aload_n 0, 1) := by decide +kernel
theorem dX4_readOne_72 : decode cX4_readOne 72 = .ok (.ldc2_w 160, 3) := by decide +kernel
theorem dX4_readOne_75 : decode cX4_readOne 75 = .ok (.invokevirtual 89, 3) := by decide +kernel
theorem dX4_readOne_78 : decode cX4_readOne 78 = .ok (.ifCond .eq 7, 3) := by decide +kernel
theorem dX4_readOne_81 : decode cX4_readOne 81 = .ok (.iconst 1, 1) := by decide +kernel
theorem dX4_readOne_82 : decode cX4_readOne 82 = .ok (.goto 4, 3) := by decide +kernel
theorem dX4_readOne_85 : decode cX4_readOne 85 = .ok (.iconst 0, 1) := by decide +kernel
theorem dX4_readOne_86 : decode cX4_readOne 86 = .ok (.ireturn, 1) := by decide +kernel
theorem dX4_readOne_87 : decode cX4_readOne 87 = .ok (.aload_n 0, 1) := by decide +kernel
theorem dX4_readOne_88 : decode cX4_readOne 88 = .ok (.invokevirtual 162, 3) := by decide +kernel
theorem dX4_readOne_91 : decode cX4_readOne 91 = .ok (.ifCond .ne 5, 3) := by decide +kernel
theorem dX4_readOne_94 : decode cX4_readOne 94 = .ok (.iconst 0, 1) := by decide +kernel
theorem dX4_readOne_95 : decode cX4_readOne 95 = .ok (.ireturn, 1) := by decide +kernel
theorem dX4_readOne_96 : decode cX4_readOne 96 = .ok (.aload_n 0, 1) := by decide +kernel
theorem dX4_readOne_97 : decode cX4_readOne 97 = .ok (.getfield 29, 3) := by decide +kernel
theorem dX4_readOne_100 : decode cX4_readOne 100 = .ok (.invokestatic 165, 3) := by decide +kernel
theorem dX4_readOne_103 : decode cX4_readOne 103 = .ok (.istore_n 2, 1) := by decide +kernel
theorem dX4_readOne_104 : decode cX4_readOne 104 = .ok (.iload_n 2, 1) := by decide +kernel
theorem dX4_readOne_105 : decode cX4_readOne 105 = .ok (.iconst (-1), 1) := by decide +kernel
theorem dX4_readOne_106 : decode cX4_readOne 106 = .ok (.if_icmp .ne 5, 3) := by decide +kernel
theorem dX4_readOne_109 : decode cX4_readOne 109 = .ok (.iconst 1, 1) := by decide +kernel
theorem dX4_readOne_110 : decode cX4_readOne 110 = .ok (.ireturn, 1) := by decide +kernel
theorem dX4_readOne_111 : decode cX4_readOne 111 = .ok (.aload_n 0, 1) := by decide +kernel
theorem dX4_readOne_112 : decode cX4_readOne 112 = .ok (.invokevirtual 68, 3) := by decide +kernel
theorem dX4_readOne_115 : decode cX4_readOne 115 = .ok (.aload_n 0, 1) := by decide +kernel
theorem dX4_readOne_116 : decode cX4_readOne 116 = .ok (.invokevirtual 162, 3) := by decide +kernel
theorem dX4_readOne_119 : decode cX4_readOne 119 = .ok (.istore_n 3, 1) := by decide +kernel
theorem dX4_readOne_120 : decode cX4_readOne 120 = .ok (.aload_n 0, 1) := by decide +kernel
theorem dX4_readOne_121 : decode cX4_readOne 121 = .ok (.getfield 19, 3) := by decide +kernel
theorem dX4_readOne_124 : decode cX4_readOne 124 = .ok (.iload_n 2, 1) := by decide +kernel
theorem dX4_readOne_125 : decode cX4_readOne 125 = .ok (.invokevirtual 147, 3) := by decide +kernel
theorem dX4_readOne_128 : decode cX4_readOne 128 = .ok (.iload_n 3, 1) := by decide +kernel
theorem dX4_readOne_129 : decode cX4_readOne 129 = .ok (.ireturn, 1) := by decide +kernel
theorem dX4_readOperand_0 : decode cX4_readOperand 0 = .ok (.getstatic 168, 3) := by decide +kernel
theorem dX4_readOperand_3 : decode cX4_readOperand 3 = .ok (.aload_n 0, 1) := by decide +kernel
theorem dX4_readOperand_4 : decode cX4_readOperand 4 = .ok (.getfield 29, 3) := by decide +kernel
theorem dX4_readOperand_7 : decode cX4_readOperand 7 = .ok (.invokestatic 78, 3) := by decide +kernel
theorem dX4_readOperand_10 : decode cX4_readOperand 10 = .ok (.istore_n 1, 1) := by decide +kernel
theorem dX4_readOperand_11 : decode cX4_readOperand 11 = .ok (.aload_n 0, 1) := by decide +kernel
theorem dX4_readOperand_12 : decode cX4_readOperand 12 = .ok (.getfield 29, 3) := by decide +kernel
theorem dX4_readOperand_15 : decode cX4_readOperand 15 = .ok (.lconst 0, 1) := by decide +kernel
theorem dX4_readOperand_16 : decode cX4_readOperand 16 = .ok (.lcmp, 1) := by decide +kernel
theorem dX4_readOperand_17 : decode cX4_readOperand 17 = .ok (.ifCond .lt 8, 3) := by decide +kernel
theorem dX4_readOperand_20 : decode cX4_readOperand 20 = .ok (.iload_n 1, 1) := by decide +kernel
theorem dX4_readOperand_21 : decode cX4_readOperand 21 = .ok (.iconst (-1), 1) := by decide +kernel
theorem dX4_readOperand_22 : decode cX4_readOperand 22 = .ok (.if_icmp .eq 12, 3) := by decide +kernel
theorem dX4_readOperand_25 : decode cX4_readOperand 25 = .ok (.aload_n 0, 1) := by decide +kernel
theorem dX4_readOperand_26 : decode cX4_readOperand 26 = .ok (.getfield 171, 3) := by decide +kernel
theorem dX4_readOperand_29 : decode cX4_readOperand 29 = .ok (.bipush 60, 2) := by decide +kernel
theorem dX4_readOperand_31 : decode cX4_readOperand 31 = .ok (.if_icmp .lt 9, 3) := by decide +kernel
theorem dX4_readOperand_34 : decode cX4_readOperand 34 = .ok (.aload_n 0, 1) := by decide +kernel
theorem dX4_readOperand_35 : decode cX4_readOperand 35 = .ok (.iconst 2, 1) := by decide +kernel
theorem dX4_readOperand_36 : decode cX4_readOperand 36 = .ok (.invokevirtual 59, 3) := by decide +kernel
theorem dX4_readOperand_39 : decode cX4_readOperand 39 = .ok (.ireturn, 1) := by decide +kernel
theorem dX4_readOperand_40 : decode cX4_readOperand 40 = .ok (.aload_n 0, 1) := by decide +kernel
theorem dX4_readOperand_41 : decode cX4_readOperand 41 = .ok (.getfield 19, 3) := by decide +kernel
theorem dX4_readOperand_44 : decode cX4_readOperand 44 = .ok (.aload_n 0, 1) := by decide +kernel
theorem dX4_readOperand_45 : decode cX4_readOperand 45 = .ok (.getfield 29, 3) := by decide +kernel
theorem dX4_readOperand_48 : decode cX4_readOperand 48 = .ok (.lconst 0, 1) := by decide +kernel
theorem dX4_readOperand_49 : decode cX4_readOperand 49 = .ok (.lcmp, 1) := by decide +kernel
theorem dX4_readOperand_50 : decode cX4_readOperand 50 = .ok (.ifCond .ge 15, 3) := by decide +kernel
theorem dX4_readOperand_53 : decode cX4_readOperand 53 = .ok (.aload_n 0, 1) := by decide +kernel
theorem dX4_readOperand_54 : decode cX4_readOperand 54 = .ok (.getfield 29, 3) := by decide +kernel
theorem dX4_readOperand_57 : decode cX4_readOperand 57 = .ok (.ldc2_w 174, 3) := by decide +kernel
theorem dX4_readOperand_60 : decode cX4_readOperand 60 = .ok (.lxor, 1) := by decide +kernel
theorem dX4_readOperand_61 : decode cX4_readOperand 61 = .ok (.l2i, 1) := by decide +kernel
theorem dX4_readOperand_62 : decode cX4_readOperand 62 = .ok (.goto 6, 3) := by decide +kernel
theorem dX4_readOperand_65 : decode cX4_readOperand 65 = .ok (.iconst (-1), 1) := by decide +kernel
theorem dX4_readOperand_66 : decode cX4_readOperand 66 = .ok (.iload_n 1, 1) := by decide +kernel
theorem dX4_readOperand_67 : decode cX4_readOperand 67 = .ok (.isub, 1) := by decide +kernel
theorem dX4_readOperand_68 : decode cX4_readOperand 68 = .ok (.invokevirtual 147, 3) := by decide +kernel
theorem dX4_readOperand_71 : decode cX4_readOperand 71 = .ok (.aload_n 0, 1) := by decide +kernel
theorem dX4_readOperand_72 : decode cX4_readOperand 72 = .ok (.dup, 1) := by decide +kernel
theorem dX4_readOperand_73 : decode cX4_readOperand 73 = .ok (.getfield 171, 3) := by decide +kernel
theorem dX4_readOperand_76 : decode cX4_readOperand 76 = .ok (.iconst 1, 1) := by decide +kernel
theorem dX4_readOperand_77 : decode cX4_readOperand 77 = .ok (.iadd, 1) := by decide +kernel
theorem dX4_readOperand_78 : decode cX4_readOperand 78 = .ok (.putfield 171, 3) := by decide +kernel
theorem dX4_readOperand_81 : decode cX4_readOperand 81 = .ok (.aload_n 0, 1) := by decide +kernel
theorem dX4_readOperand_82 : decode cX4_readOperand 82 = .ok (.invokevirtual 68, 3) := by decide +kernel
theorem dX4_readOperand_85 : decode cX4_readOperand 85 = .ok (.iconst 1, 1) := by decide +kernel
theorem dX4_readOperand_86 : decode cX4_readOperand 86 = .ok (.ireturn, 1) := by decide +kernel
theorem dX4_readNumber_0 : decode cX4_readNumber 0 = .ok (.aload_n 0, 1) := by decide +kernel
theorem dX4_readNumber_1 : decode cX4_readNumber 1 = .ok (.getfield 29, 3) := by decide +kernel
theorem dX4_readNumber_4 : decode cX4_readNumber 4 = .ok (.lconst 0, 1) := by decide +kernel
theorem dX4_readNumber_5 : decode cX4_readNumber 5 = .ok (.lcmp, 1) := by decide +kernel
theorem dX4_readNumber_6 : decode cX4_readNumber 6 = .ok (.ifCond .lt 11, 3) := by decide +kernel
theorem dX4_readNumber_9 : decode cX4_readNumber 9 = .ok (.aload_n 0, 1) := by decide +kernel
theorem dX4_readNumber_10 : decode cX4_readNumber 10 = .ok (.iconst 2, 1) := by decide +kernel
theorem dX4_readNumber_11 : decode cX4_readNumber 11 = .ok (.invokevirtual 59, 3) := by decide +kernel
theorem dX4_readNumber_14 : decode cX4_readNumber 14 = .ok (.pop, 1) := by decide +kernel
theorem dX4_readNumber_15 : decode cX4_readNumber 15 = .ok (.iconst (-1), 1) := by decide +kernel
theorem dX4_readNumber_16 : decode cX4_readNumber 16 = .ok (.ireturn, 1) := by decide +kernel
theorem dX4_readNumber_17 : decode cX4_readNumber 17 = .ok (.aload_n 0, 1) := by decide +kernel
theorem dX4_readNumber_18 : decode cX4_readNumber 18 = .ok (.getfield 29, 3) := by decide +kernel
theorem dX4_readNumber_21 : decode cX4_readNumber 21 = .ok (.ldc2_w 174, 3) := by decide +kernel
theorem dX4_readNumber_24 : decode cX4_readNumber 24 = .ok (.lxor, 1) := by decide +kernel
theorem dX4_readNumber_25 : decode cX4_readNumber 25 = .ok (.l2i, 1) := by decide +kernel
theorem dX4_readNumber_26 : decode cX4_readNumber 26 = .ok (.istore_n 3, 1) := by decide +kernel
theorem dX4_readNumber_27 : decode cX4_readNumber 27 = .ok (.iload_n 3, 1) := by decide +kernel
theorem dX4_readNumber_28 : decode cX4_readNumber 28 = .ok (.iload_n 1, 1) := by decide +kernel
theorem dX4_readNumber_29 : decode cX4_readNumber 29 = .ok (.if_icmp .lt 8, 3) := by decide +kernel
theorem dX4_readNumber_32 : decode cX4_readNumber 32 = .ok (.iload_n 3, 1) := by decide +kernel
theorem dX4_readNumber_33 : decode cX4_readNumber 33 = .ok (.iload_n 2, 1) := by decide +kernel
theorem dX4_readNumber_34 : decode cX4_readNumber 34 = .ok (.if_icmp .le 11, 3) := by decide +kernel
theorem dX4_readNumber_37 : decode cX4_readNumber 37 = .ok (.aload_n 0, 1) := by decide +kernel
theorem dX4_readNumber_38 : decode cX4_readNumber 38 = .ok (.iconst 4, 1) := by decide +kernel
theorem dX4_readNumber_39 : decode cX4_readNumber 39 = .ok (.invokevirtual 59, 3) := by decide +kernel
theorem dX4_readNumber_42 : decode cX4_readNumber 42 = .ok (.pop, 1) := by decide +kernel
theorem dX4_readNumber_43 : decode cX4_readNumber 43 = .ok (.iconst (-1), 1) := by decide +kernel
theorem dX4_readNumber_44 : decode cX4_readNumber 44 = .ok (.ireturn, 1) := by decide +kernel
theorem dX4_readNumber_45 : decode cX4_readNumber 45 = .ok (.aload_n 0, 1) := by decide +kernel
theorem dX4_readNumber_46 : decode cX4_readNumber 46 = .ok (.invokevirtual 68, 3) := by decide +kernel
theorem dX4_readNumber_49 : decode cX4_readNumber 49 = .ok (.iload_n 3, 1) := by decide +kernel
theorem dX4_readNumber_50 : decode cX4_readNumber 50 = .ok (.ireturn, 1) := by decide +kernel
theorem dX4_expect_0 : decode cX4_expect 0 = .ok (.aload_n 0, 1) := by decide +kernel
theorem dX4_expect_1 : decode cX4_expect 1 = .ok (.getfield 29, 3) := by decide +kernel
theorem dX4_expect_4 : decode cX4_expect 4 = .ok (.lload_n 1, 1) := by decide +kernel
theorem dX4_expect_5 : decode cX4_expect 5 = .ok (.lcmp, 1) := by decide +kernel
theorem dX4_expect_6 : decode cX4_expect 6 = .ok (.ifCond .eq 9, 3) := by decide +kernel
theorem dX4_expect_9 : decode cX4_expect 9 = .ok (.aload_n 0, 1) := by decide +kernel
theorem dX4_expect_10 : decode cX4_expect 10 = .ok (.iconst 2, 1) := by decide +kernel
theorem dX4_expect_11 : decode cX4_expect 11 = .ok (.invokevirtual 59, 3) := by decide +kernel
theorem dX4_expect_14 : decode cX4_expect 14 = .ok (.ireturn, 1) := by decide +kernel
theorem dX4_expect_15 : decode cX4_expect 15 = .ok (.aload_n 0, 1) := by decide +kernel
theorem dX4_expect_16 : decode cX4_expect 16 = .ok (.invokevirtual 68, 3) := by decide +kernel
theorem dX4_expect_19 : decode cX4_expect 19 = .ok (.iconst 1, 1) := by decide +kernel
theorem dX4_expect_20 : decode cX4_expect 20 = .ok (.ireturn, 1) := by decide +kernel
theorem dX4_refuse_0 : decode cX4_refuse 0 = .ok (.aload_n 0, 1) := by decide +kernel
theorem dX4_refuse_1 : decode cX4_refuse 1 = .ok (.aload_n 0, 1) := by decide +kernel
theorem dX4_refuse_2 : decode cX4_refuse 2 = .ok (.getfield 29, 3) := by decide +kernel
theorem dX4_refuse_5 : decode cX4_refuse 5 = .ok (.lconst 0, 1) := by decide +kernel
theorem dX4_refuse_6 : decode cX4_refuse 6 = .ok (.lcmp, 1) := by decide +kernel
theorem dX4_refuse_7 : decode cX4_refuse 7 = .ok (.ifCond .ne 7, 3) := by decide +kernel
theorem dX4_refuse_10 : decode cX4_refuse 10 = .ok (.iconst 1, 1) := by decide +kernel
theorem dX4_refuse_11 : decode cX4_refuse 11 = .ok (.goto 4, 3) := by decide +kernel
theorem dX4_refuse_14 : decode cX4_refuse 14 = .ok (.iload_n 1, 1) := by decide +kernel
theorem dX4_refuse_15 : decode cX4_refuse 15 = .ok (.putfield 176, 3) := by decide +kernel
theorem dX4_refuse_18 : decode cX4_refuse 18 = .ok (.aload_n 0, 1) := by decide +kernel
theorem dX4_refuse_19 : decode cX4_refuse 19 = .ok (.aload_n 0, 1) := by decide +kernel
theorem dX4_refuse_20 : decode cX4_refuse 20 = .ok (.getfield 15, 3) := by decide +kernel
theorem dX4_refuse_23 : decode cX4_refuse 23 = .ok (.getfield 179, 3) := by decide +kernel
theorem dX4_refuse_26 : decode cX4_refuse 26 = .ok (.aload_n 0, 1) := by decide +kernel
theorem dX4_refuse_27 : decode cX4_refuse 27 = .ok (.getfield 182, 3) := by decide +kernel
theorem dX4_refuse_30 : decode cX4_refuse 30 = .ok (.iaload, 1) := by decide +kernel
theorem dX4_refuse_31 : decode cX4_refuse 31 = .ok (.putfield 9, 3) := by decide +kernel
theorem dX4_refuse_34 : decode cX4_refuse 34 = .ok (.iconst 0, 1) := by decide +kernel
theorem dX4_refuse_35 : decode cX4_refuse 35 = .ok (.ireturn, 1) := by decide +kernel
theorem dX4_advance_0 : decode cX4_advance 0 = .ok (.aload_n 0, 1) := by decide +kernel
theorem dX4_advance_1 : decode cX4_advance 1 = .ok (.getfield 182, 3) := by decide +kernel
theorem dX4_advance_4 : decode cX4_advance 4 = .ok (.iconst 1, 1) := by decide +kernel
theorem dX4_advance_5 : decode cX4_advance 5 = .ok (.iadd, 1) := by decide +kernel
theorem dX4_advance_6 : decode cX4_advance 6 = .ok (.aload_n 0, 1) := by decide +kernel
theorem dX4_advance_7 : decode cX4_advance 7 = .ok (.getfield 15, 3) := by decide +kernel
theorem dX4_advance_10 : decode cX4_advance 10 = .ok (.getfield 185, 3) := by decide +kernel
theorem dX4_advance_13 : decode cX4_advance 13 = .ok (.if_icmp .ge 29, 3) := by decide +kernel
theorem dX4_advance_16 : decode cX4_advance 16 = .ok (.aload_n 0, 1) := by decide +kernel
theorem dX4_advance_17 : decode cX4_advance 17 = .ok (.dup, 1) := by decide +kernel
theorem dX4_advance_18 : decode cX4_advance 18 = .ok (.getfield 182, 3) := by decide +kernel
theorem dX4_advance_21 : decode cX4_advance 21 = .ok (.iconst 1, 1) := by decide +kernel
theorem dX4_advance_22 : decode cX4_advance 22 = .ok (.iadd, 1) := by decide +kernel
theorem dX4_advance_23 : decode cX4_advance 23 = .ok (.putfield 182, 3) := by decide +kernel
theorem dX4_advance_26 : decode cX4_advance 26 = .ok (.aload_n 0, 1) := by decide +kernel
theorem dX4_advance_27 : decode cX4_advance 27 = .ok (.aload_n 0, 1) := by decide +kernel
theorem dX4_advance_28 : decode cX4_advance 28 = .ok (.getfield 15, 3) := by decide +kernel
theorem dX4_advance_31 : decode cX4_advance 31 = .ok (.getfield 23, 3) := by decide +kernel
theorem dX4_advance_34 : decode cX4_advance 34 = .ok (.aload_n 0, 1) := by decide +kernel
theorem dX4_advance_35 : decode cX4_advance 35 = .ok (.getfield 182, 3) := by decide +kernel
theorem dX4_advance_38 : decode cX4_advance 38 = .ok (.laload, 1) := by decide +kernel
theorem dX4_advance_39 : decode cX4_advance 39 = .ok (.putfield 29, 3) := by decide +kernel
theorem dX4_advance_42 : decode cX4_advance 42 = .ok (.return_, 1) := by decide +kernel
theorem dX4_deedOf_0 : decode cX4_deedOf 0 = .ok (.lload_n 0, 1) := by decide +kernel
theorem dX4_deedOf_1 : decode cX4_deedOf 1 = .ok (.ldc2_w 188, 3) := by decide +kernel
theorem dX4_deedOf_4 : decode cX4_deedOf 4 = .ok (.lcmp, 1) := by decide +kernel
theorem dX4_deedOf_5 : decode cX4_deedOf 5 = .ok (.ifCond .ne 5, 3) := by decide +kernel
theorem dX4_deedOf_8 : decode cX4_deedOf 8 = .ok (.iconst 0, 1) := by decide +kernel
theorem dX4_deedOf_9 : decode cX4_deedOf 9 = .ok (.ireturn, 1) := by decide +kernel
theorem dX4_deedOf_10 : decode cX4_deedOf 10 = .ok (.lload_n 0, 1) := by decide +kernel
theorem dX4_deedOf_11 : decode cX4_deedOf 11 = .ok (.ldc2_w 190, 3) := by decide +kernel
theorem dX4_deedOf_14 : decode cX4_deedOf 14 = .ok (.lcmp, 1) := by decide +kernel
theorem dX4_deedOf_15 : decode cX4_deedOf 15 = .ok (.ifCond .ne 5, 3) := by decide +kernel
theorem dX4_deedOf_18 : decode cX4_deedOf 18 = .ok (.iconst 1, 1) := by decide +kernel
theorem dX4_deedOf_19 : decode cX4_deedOf 19 = .ok (.ireturn, 1) := by decide +kernel
theorem dX4_deedOf_20 : decode cX4_deedOf 20 = .ok (.lload_n 0, 1) := by decide +kernel
theorem dX4_deedOf_21 : decode cX4_deedOf 21 = .ok (.ldc2_w 192, 3) := by decide +kernel
theorem dX4_deedOf_24 : decode cX4_deedOf 24 = .ok (.lcmp, 1) := by decide +kernel
theorem dX4_deedOf_25 : decode cX4_deedOf 25 = .ok (.ifCond .ne 5, 3) := by decide +kernel
theorem dX4_deedOf_28 : decode cX4_deedOf 28 = .ok (.iconst 2, 1) := by decide +kernel
theorem dX4_deedOf_29 : decode cX4_deedOf 29 = .ok (.ireturn, 1) := by decide +kernel
theorem dX4_deedOf_30 : decode cX4_deedOf 30 = .ok (.lload_n 0, 1) := by decide +kernel
theorem dX4_deedOf_31 : decode cX4_deedOf 31 = .ok (.ldc2_w 194, 3) := by decide +kernel
theorem dX4_deedOf_34 : decode cX4_deedOf 34 = .ok (.lcmp, 1) := by decide +kernel
theorem dX4_deedOf_35 : decode cX4_deedOf 35 = .ok (.ifCond .ne 7, 3) := by decide +kernel
theorem dX4_deedOf_38 : decode cX4_deedOf 38 = .ok (.iconst 3, 1) := by decide +kernel
theorem dX4_deedOf_39 : decode cX4_deedOf 39 = .ok (.goto 4, 3) := by decide +kernel
theorem dX4_deedOf_42 : decode cX4_deedOf 42 = .ok (.iconst (-1), 1) := by decide +kernel
theorem dX4_deedOf_43 : decode cX4_deedOf 43 = .ok (.ireturn, 1) := by decide +kernel
theorem dX4_comparisonOf_0 : decode cX4_comparisonOf 0 = .ok (.lload_n 0, 1) := by decide +kernel
theorem dX4_comparisonOf_1 : decode cX4_comparisonOf 1 = .ok (.ldc2_w 196, 3) := by decide +kernel
theorem dX4_comparisonOf_4 : decode cX4_comparisonOf 4 = .ok (.lcmp, 1) := by decide +kernel
theorem dX4_comparisonOf_5 : decode cX4_comparisonOf 5 = .ok (.ifCond .ne 6, 3) := by decide +kernel
theorem dX4_comparisonOf_8 : decode cX4_comparisonOf 8 = .ok (.bipush (-14), 2) := by decide +kernel
theorem dX4_comparisonOf_10 : decode cX4_comparisonOf 10 = .ok (.ireturn, 1) := by decide +kernel
theorem dX4_comparisonOf_11 : decode cX4_comparisonOf 11 = .ok (.lload_n 0, 1) := by decide +kernel
theorem dX4_comparisonOf_12 : decode cX4_comparisonOf 12 = .ok (.ldc2_w 198, 3) := by decide +kernel
theorem dX4_comparisonOf_15 : decode cX4_comparisonOf 15 = .ok (.lcmp, 1) := by decide +kernel
theorem dX4_comparisonOf_16 : decode cX4_comparisonOf 16 = .ok (.ifCond .ne 6, 3) := by decide +kernel
theorem dX4_comparisonOf_19 : decode cX4_comparisonOf 19 = .ok (.bipush (-15), 2) := by decide +kernel
theorem dX4_comparisonOf_21 : decode cX4_comparisonOf 21 = .ok (.ireturn, 1) := by decide +kernel
theorem dX4_comparisonOf_22 : decode cX4_comparisonOf 22 = .ok (.lload_n 0, 1) := by decide +kernel
theorem dX4_comparisonOf_23 : decode cX4_comparisonOf 23 = .ok (.ldc2_w 200, 3) := by decide +kernel
theorem dX4_comparisonOf_26 : decode cX4_comparisonOf 26 = .ok (.lcmp, 1) := by decide +kernel
theorem dX4_comparisonOf_27 : decode cX4_comparisonOf 27 = .ok (.ifCond .ne 8, 3) := by decide +kernel
theorem dX4_comparisonOf_30 : decode cX4_comparisonOf 30 = .ok (.bipush (-16), 2) := by decide +kernel
theorem dX4_comparisonOf_32 : decode cX4_comparisonOf 32 = .ok (.goto 4, 3) := by decide +kernel
theorem dX4_comparisonOf_35 : decode cX4_comparisonOf 35 = .ok (.iconst (-1), 1) := by decide +kernel
theorem dX4_comparisonOf_36 : decode cX4_comparisonOf 36 = .ok (.ireturn, 1) := by decide +kernel
theorem dX5_init_0 : decode cX5_init 0 = .ok (.aload_n 0, 1) := by decide +kernel
theorem dX5_init_1 : decode cX5_init 1 = .ok (.invokespecial 3, 3) := by decide +kernel
theorem dX5_init_4 : decode cX5_init 4 = .ok (.aload_n 0, 1) := by decide +kernel
theorem dX5_init_5 : decode cX5_init 5 = .ok (.sipush 701, 3) := by decide +kernel
theorem dX5_init_8 : decode cX5_init 8 = .ok (.newarray .long, 2) := by decide +kernel
theorem dX5_init_10 : decode cX5_init 10 = .ok (.putfield 9, 3) := by decide +kernel
theorem dX5_init_13 : decode cX5_init 13 = .ok (.aload_n 0, 1) := by decide +kernel
theorem dX5_init_14 : decode cX5_init 14 = .ok (.sipush 701, 3) := by decide +kernel
theorem dX5_init_17 : decode cX5_init 17 = .ok (.newarray .int, 2) := by decide +kernel
theorem dX5_init_19 : decode cX5_init 19 = .ok (.putfield 15, 3) := by decide +kernel
theorem dX5_init_22 : decode cX5_init 22 = .ok (.return_, 1) := by decide +kernel
theorem dX5_split_0 : decode cX5_split 0 = .ok (.aload_n 0, 1) := by decide +kernel
theorem dX5_split_1 : decode cX5_split 1 = .ok (.iconst 0, 1) := by decide +kernel
theorem dX5_split_2 : decode cX5_split 2 = .ok (.putfield 19, 3) := by decide +kernel
theorem dX5_split_5 : decode cX5_split 5 = .ok (.iconst 4, 1) := by decide +kernel
theorem dX5_split_6 : decode cX5_split 6 = .ok (.istore_n 3, 1) := by decide +kernel
theorem dX5_split_7 : decode cX5_split 7 = .ok (.iconst 0, 1) := by decide +kernel
theorem dX5_split_8 : decode cX5_split 8 = .ok (.istore 4, 2) := by decide +kernel
theorem dX5_split_10 : decode cX5_split 10 = .ok (.iload 4, 2) := by decide +kernel
theorem dX5_split_12 : decode cX5_split 12 = .ok (.iload_n 2, 1) := by decide +kernel
theorem dX5_split_13 : decode cX5_split 13 = .ok (.if_icmp .ge 99, 3) := by decide +kernel
theorem dX5_split_16 : decode cX5_split 16 = .ok (.iload 4, 2) := by decide +kernel
theorem dX5_split_18 : decode cX5_split 18 = .ok (.aload_n 1, 1) := by decide +kernel
theorem dX5_split_19 : decode cX5_split 19 = .ok (.arraylength, 1) := by decide +kernel
theorem dX5_split_20 : decode cX5_split 20 = .ok (.if_icmp .ge 92, 3) := by decide +kernel
theorem dX5_split_23 : decode cX5_split 23 = .ok (.aload_n 1, 1) := by decide +kernel
theorem dX5_split_24 : decode cX5_split 24 = .ok (.iload 4, 2) := by decide +kernel
theorem dX5_split_26 : decode cX5_split 26 = .ok (.baload, 1) := by decide +kernel
theorem dX5_split_27 : decode cX5_split 27 = .ok (.sipush 255, 3) := by decide +kernel
theorem dX5_split_30 : decode cX5_split 30 = .ok (.iand, 1) := by decide +kernel
theorem dX5_split_31 : decode cX5_split 31 = .ok (.istore 5, 2) := by decide +kernel
theorem dX5_split_33 : decode cX5_split 33 = .ok (.iload 5, 2) := by decide +kernel
theorem dX5_split_35 : decode cX5_split 35 = .ok (.invokestatic 23, 3) := by decide +kernel
theorem dX5_split_38 : decode cX5_split 38 = .ok (.istore 6, 2) := by decide +kernel
theorem dX5_split_40 : decode cX5_split 40 = .ok (.iload_n 3, 1) := by decide +kernel
theorem dX5_split_41 : decode cX5_split 41 = .ok (.iconst 2, 1) := by decide +kernel
theorem dX5_split_42 : decode cX5_split 42 = .ok (.if_icmp .ne 13, 3) := by decide +kernel
theorem dX5_split_45 : decode cX5_split 45 = .ok (.iload 6, 2) := by decide +kernel
theorem dX5_split_47 : decode cX5_split 47 = .ok (.iconst 1, 1) := by decide +kernel
theorem dX5_split_48 : decode cX5_split 48 = .ok (.if_icmp .ne 7, 3) := by decide +kernel
theorem dX5_split_51 : decode cX5_split 51 = .ok (.aload_n 0, 1) := by decide +kernel
theorem dX5_split_52 : decode cX5_split 52 = .ok (.invokevirtual 27, 3) := by decide +kernel
theorem dX5_split_55 : decode cX5_split 55 = .ok (.iload 6, 2) := by decide +kernel
theorem dX5_split_57 : decode cX5_split 57 = .ok (.iload_n 3, 1) := by decide +kernel
theorem dX5_split_58 : decode cX5_split 58 = .ok (.if_icmp .ne 26, 3) := by decide +kernel
theorem dX5_split_61 : decode cX5_split 61 = .ok (.iload 6, 2) := by decide +kernel
theorem dX5_split_63 : decode cX5_split 63 = .ok (.iconst 1, 1) := by decide +kernel
theorem dX5_split_64 : decode cX5_split 64 = .ok (.if_icmp .eq 9, 3) := by decide +kernel
theorem dX5_split_67 : decode cX5_split 67 = .ok (.iload 6, 2) := by decide +kernel
theorem dX5_split_69 : decode cX5_split 69 = .ok (.iconst 2, 1) := by decide +kernel
theorem dX5_split_70 : decode cX5_split 70 = .ok (.if_icmp .ne 14, 3) := by decide +kernel
theorem dX5_split_73 : decode cX5_split 73 = .ok (.aload_n 0, 1) := by decide +kernel
theorem dX5_split_74 : decode cX5_split 74 = .ok (.iload 6, 2) := by decide +kernel
theorem dX5_split_76 : decode cX5_split 76 = .ok (.iload 5, 2) := by decide +kernel
theorem dX5_split_78 : decode cX5_split 78 = .ok (.invokevirtual 30, 3) := by decide +kernel
theorem dX5_split_81 : decode cX5_split 81 = .ok (.goto 22, 3) := by decide +kernel
theorem dX5_split_84 : decode cX5_split 84 = .ok (.iload 6, 2) := by decide +kernel
theorem dX5_split_86 : decode cX5_split 86 = .ok (.iconst 4, 1) := by decide +kernel
theorem dX5_split_87 : decode cX5_split 87 = .ok (.if_icmp .eq 16, 3) := by decide +kernel
theorem dX5_split_90 : decode cX5_split 90 = .ok (.aload_n 0, 1) := by decide +kernel
theorem dX5_split_91 : decode cX5_split 91 = .ok (.iload 6, 2) := by decide +kernel
theorem dX5_split_93 : decode cX5_split 93 = .ok (.iload 5, 2) := by decide +kernel
theorem dX5_split_95 : decode cX5_split 95 = .ok (.invokestatic 34, 3) := by decide +kernel
theorem dX5_split_98 : decode cX5_split 98 = .ok (.iload 4, 2) := by decide +kernel
theorem dX5_split_100 : decode cX5_split 100 = .ok (.invokevirtual 38, 3) := by decide +kernel
theorem dX5_split_103 : decode cX5_split 103 = .ok (.iload 6, 2) := by decide +kernel
theorem dX5_split_105 : decode cX5_split 105 = .ok (.istore_n 3, 1) := by decide +kernel
theorem dX5_split_106 : decode cX5_split 106 = .ok (.iinc 4 1, 3) := by decide +kernel
theorem dX5_split_109 : decode cX5_split 109 = .ok (.goto (-99), 3) := by decide +kernel
theorem dX5_split_112 : decode cX5_split 112 = .ok (.aload_n 0, 1) := by decide +kernel
theorem dX5_split_113 : decode cX5_split 113 = .ok (.lconst 1, 1) := by decide +kernel
theorem dX5_split_114 : decode cX5_split 114 = .ok (.iload_n 2, 1) := by decide +kernel
theorem dX5_split_115 : decode cX5_split 115 = .ok (.invokevirtual 38, 3) := by decide +kernel
theorem dX5_split_118 : decode cX5_split 118 = .ok (.return_, 1) := by decide +kernel
theorem dX5_sortOf_0 : decode cX5_sortOf 0 = .ok (.iload_n 0, 1) := by decide +kernel
theorem dX5_sortOf_1 : decode cX5_sortOf 1 = .ok (.invokestatic 42, 3) := by decide +kernel
theorem dX5_sortOf_4 : decode cX5_sortOf 4 = .ok (.ifCond .eq 5, 3) := by decide +kernel
theorem dX5_sortOf_7 : decode cX5_sortOf 7 = .ok (.iconst 1, 1) := by decide +kernel
theorem dX5_sortOf_8 : decode cX5_sortOf 8 = .ok (.ireturn, 1) := by decide +kernel
theorem dX5_sortOf_9 : decode cX5_sortOf 9 = .ok (.iload_n 0, 1) := by decide +kernel
theorem dX5_sortOf_10 : decode cX5_sortOf 10 = .ok (.bipush 48, 2) := by decide +kernel
theorem dX5_sortOf_12 : decode cX5_sortOf 12 = .ok (.if_icmp .lt 11, 3) := by decide +kernel
theorem dX5_sortOf_15 : decode cX5_sortOf 15 = .ok (.iload_n 0, 1) := by decide +kernel
theorem dX5_sortOf_16 : decode cX5_sortOf 16 = .ok (.bipush 57, 2) := by decide +kernel
theorem dX5_sortOf_18 : decode cX5_sortOf 18 = .ok (.if_icmp .gt 5, 3) := by decide +kernel
theorem dX5_sortOf_21 : decode cX5_sortOf 21 = .ok (.iconst 2, 1) := by decide +kernel
theorem dX5_sortOf_22 : decode cX5_sortOf 22 = .ok (.ireturn, 1) := by decide +kernel
theorem dX5_sortOf_23 : decode cX5_sortOf 23 = .ok (.iload_n 0, 1) := by decide +kernel
theorem dX5_sortOf_24 : decode cX5_sortOf 24 = .ok (.i2l, 1) := by decide +kernel
theorem dX5_sortOf_25 : decode cX5_sortOf 25 = .ok (.ldc2_w 46, 3) := by decide +kernel
theorem dX5_sortOf_28 : decode cX5_sortOf 28 = .ok (.lcmp, 1) := by decide +kernel
theorem dX5_sortOf_29 : decode cX5_sortOf 29 = .ok (.ifCond .eq 48, 3) := by decide +kernel
theorem dX5_sortOf_32 : decode cX5_sortOf 32 = .ok (.iload_n 0, 1) := by decide +kernel
theorem dX5_sortOf_33 : decode cX5_sortOf 33 = .ok (.i2l, 1) := by decide +kernel
theorem dX5_sortOf_34 : decode cX5_sortOf 34 = .ok (.ldc2_w 48, 3) := by decide +kernel
theorem dX5_sortOf_37 : decode cX5_sortOf 37 = .ok (.lcmp, 1) := by decide +kernel
theorem dX5_sortOf_38 : decode cX5_sortOf 38 = .ok (.ifCond .eq 39, 3) := by decide +kernel
theorem dX5_sortOf_41 : decode cX5_sortOf 41 = .ok (.iload_n 0, 1) := by decide +kernel
theorem dX5_sortOf_42 : decode cX5_sortOf 42 = .ok (.i2l, 1) := by decide +kernel
theorem dX5_sortOf_43 : decode cX5_sortOf 43 = .ok (.ldc2_w 50, 3) := by decide +kernel
theorem dX5_sortOf_46 : decode cX5_sortOf 46 = .ok (.lcmp, 1) := by decide +kernel
theorem dX5_sortOf_47 : decode cX5_sortOf 47 = .ok (.ifCond .eq 30, 3) := by decide +kernel
theorem dX5_sortOf_50 : decode cX5_sortOf 50 = .ok (.iload_n 0, 1) := by decide +kernel
theorem dX5_sortOf_51 : decode cX5_sortOf 51 = .ok (.i2l, 1) := by decide +kernel
theorem dX5_sortOf_52 : decode cX5_sortOf 52 = .ok (.ldc2_w 52, 3) := by decide +kernel
theorem dX5_sortOf_55 : decode cX5_sortOf 55 = .ok (.lcmp, 1) := by decide +kernel
theorem dX5_sortOf_56 : decode cX5_sortOf 56 = .ok (.ifCond .eq 21, 3) := by decide +kernel
theorem dX5_sortOf_59 : decode cX5_sortOf 59 = .ok (.iload_n 0, 1) := by decide +kernel
theorem dX5_sortOf_60 : decode cX5_sortOf 60 = .ok (.i2l, 1) := by decide +kernel
theorem dX5_sortOf_61 : decode cX5_sortOf 61 = .ok (.ldc2_w 54, 3) := by decide +kernel
theorem dX5_sortOf_64 : decode cX5_sortOf 64 = .ok (.lcmp, 1) := by decide +kernel
theorem dX5_sortOf_65 : decode cX5_sortOf 65 = .ok (.ifCond .eq 12, 3) := by decide +kernel
theorem dX5_sortOf_68 : decode cX5_sortOf 68 = .ok (.iload_n 0, 1) := by decide +kernel
theorem dX5_sortOf_69 : decode cX5_sortOf 69 = .ok (.i2l, 1) := by decide +kernel
theorem dX5_sortOf_70 : decode cX5_sortOf 70 = .ok (.ldc2_w 56, 3) := by decide +kernel
theorem dX5_sortOf_73 : decode cX5_sortOf 73 = .ok (.lcmp, 1) := by decide +kernel
theorem dX5_sortOf_74 : decode cX5_sortOf 74 = .ok (.ifCond .ne 5, 3) := by decide +kernel
theorem dX5_sortOf_77 : decode cX5_sortOf 77 = .ok (.iconst 3, 1) := by decide +kernel
theorem dX5_sortOf_78 : decode cX5_sortOf 78 = .ok (.ireturn, 1) := by decide +kernel
theorem dX5_sortOf_79 : decode cX5_sortOf 79 = .ok (.iload_n 0, 1) := by decide +kernel
theorem dX5_sortOf_80 : decode cX5_sortOf 80 = .ok (.bipush 32, 2) := by decide +kernel
theorem dX5_sortOf_82 : decode cX5_sortOf 82 = .ok (.if_icmp .eq 9, 3) := by decide +kernel
theorem dX5_sortOf_85 : decode cX5_sortOf 85 = .ok (.iload_n 0, 1) := by decide +kernel
theorem dX5_sortOf_86 : decode cX5_sortOf 86 = .ok (.bipush 10, 2) := by decide +kernel
theorem dX5_sortOf_88 : decode cX5_sortOf 88 = .ok (.if_icmp .ne 7, 3) := by decide +kernel
theorem dX5_sortOf_91 : decode cX5_sortOf 91 = .ok (.iconst 4, 1) := by decide +kernel
theorem dX5_sortOf_92 : decode cX5_sortOf 92 = .ok (.goto 4, 3) := by decide +kernel
theorem dX5_sortOf_95 : decode cX5_sortOf 95 = .ok (.iconst 5, 1) := by decide +kernel
theorem dX5_sortOf_96 : decode cX5_sortOf 96 = .ok (.ireturn, 1) := by decide +kernel
theorem dX5_firstOf_0 : decode cX5_firstOf 0 = .ok (.iload_n 0, 1) := by decide +kernel
theorem dX5_firstOf_1 : decode cX5_firstOf 1 = .ok (.iconst 5, 1) := by decide +kernel
theorem dX5_firstOf_2 : decode cX5_firstOf 2 = .ok (.if_icmp .ne 5, 3) := by decide +kernel
theorem dX5_firstOf_5 : decode cX5_firstOf 5 = .ok (.lconst 0, 1) := by decide +kernel
theorem dX5_firstOf_6 : decode cX5_firstOf 6 = .ok (.lreturn, 1) := by decide +kernel
theorem dX5_firstOf_7 : decode cX5_firstOf 7 = .ok (.iload_n 0, 1) := by decide +kernel
theorem dX5_firstOf_8 : decode cX5_firstOf 8 = .ok (.iconst 2, 1) := by decide +kernel
theorem dX5_firstOf_9 : decode cX5_firstOf 9 = .ok (.if_icmp .ne 15, 3) := by decide +kernel
theorem dX5_firstOf_12 : decode cX5_firstOf 12 = .ok (.iload_n 1, 1) := by decide +kernel
theorem dX5_firstOf_13 : decode cX5_firstOf 13 = .ok (.bipush 48, 2) := by decide +kernel
theorem dX5_firstOf_15 : decode cX5_firstOf 15 = .ok (.isub, 1) := by decide +kernel
theorem dX5_firstOf_16 : decode cX5_firstOf 16 = .ok (.i2l, 1) := by decide +kernel
theorem dX5_firstOf_17 : decode cX5_firstOf 17 = .ok (.ldc2_w 58, 3) := by decide +kernel
theorem dX5_firstOf_20 : decode cX5_firstOf 20 = .ok (.lxor, 1) := by decide +kernel
theorem dX5_firstOf_21 : decode cX5_firstOf 21 = .ok (.goto 5, 3) := by decide +kernel
theorem dX5_firstOf_24 : decode cX5_firstOf 24 = .ok (.iload_n 1, 1) := by decide +kernel
theorem dX5_firstOf_25 : decode cX5_firstOf 25 = .ok (.i2l, 1) := by decide +kernel
theorem dX5_firstOf_26 : decode cX5_firstOf 26 = .ok (.lreturn, 1) := by decide +kernel
theorem dX5_begin_0 : decode cX5_begin 0 = .ok (.aload_n 0, 1) := by decide +kernel
theorem dX5_begin_1 : decode cX5_begin 1 = .ok (.getfield 19, 3) := by decide +kernel
theorem dX5_begin_4 : decode cX5_begin 4 = .ok (.aload_n 0, 1) := by decide +kernel
theorem dX5_begin_5 : decode cX5_begin 5 = .ok (.getfield 9, 3) := by decide +kernel
theorem dX5_begin_8 : decode cX5_begin 8 = .ok (.arraylength, 1) := by decide +kernel
theorem dX5_begin_9 : decode cX5_begin 9 = .ok (.if_icmp .ge 38, 3) := by decide +kernel
theorem dX5_begin_12 : decode cX5_begin 12 = .ok (.aload_n 0, 1) := by decide +kernel
theorem dX5_begin_13 : decode cX5_begin 13 = .ok (.getfield 9, 3) := by decide +kernel
theorem dX5_begin_16 : decode cX5_begin 16 = .ok (.aload_n 0, 1) := by decide +kernel
theorem dX5_begin_17 : decode cX5_begin 17 = .ok (.getfield 19, 3) := by decide +kernel
theorem dX5_begin_20 : decode cX5_begin 20 = .ok (.lload_n 1, 1) := by decide +kernel
theorem dX5_begin_21 : decode cX5_begin 21 = .ok (.lastore, 1) := by decide +kernel
theorem dX5_begin_22 : decode cX5_begin 22 = .ok (.aload_n 0, 1) := by decide +kernel
theorem dX5_begin_23 : decode cX5_begin 23 = .ok (.getfield 15, 3) := by decide +kernel
theorem dX5_begin_26 : decode cX5_begin 26 = .ok (.aload_n 0, 1) := by decide +kernel
theorem dX5_begin_27 : decode cX5_begin 27 = .ok (.getfield 19, 3) := by decide +kernel
theorem dX5_begin_30 : decode cX5_begin 30 = .ok (.iload_n 3, 1) := by decide +kernel
theorem dX5_begin_31 : decode cX5_begin 31 = .ok (.iastore, 1) := by decide +kernel
theorem dX5_begin_32 : decode cX5_begin 32 = .ok (.aload_n 0, 1) := by decide +kernel
theorem dX5_begin_33 : decode cX5_begin 33 = .ok (.dup, 1) := by decide +kernel
theorem dX5_begin_34 : decode cX5_begin 34 = .ok (.getfield 19, 3) := by decide +kernel
theorem dX5_begin_37 : decode cX5_begin 37 = .ok (.iconst 1, 1) := by decide +kernel
theorem dX5_begin_38 : decode cX5_begin 38 = .ok (.iadd, 1) := by decide +kernel
theorem dX5_begin_39 : decode cX5_begin 39 = .ok (.putfield 19, 3) := by decide +kernel
theorem dX5_begin_42 : decode cX5_begin 42 = .ok (.aload_n 0, 1) := by decide +kernel
theorem dX5_begin_43 : decode cX5_begin 43 = .ok (.iconst 1, 1) := by decide +kernel
theorem dX5_begin_44 : decode cX5_begin 44 = .ok (.putfield 60, 3) := by decide +kernel
theorem dX5_begin_47 : decode cX5_begin 47 = .ok (.return_, 1) := by decide +kernel
theorem dX5_spoilLast_0 : decode cX5_spoilLast 0 = .ok (.aload_n 0, 1) := by decide +kernel
theorem dX5_spoilLast_1 : decode cX5_spoilLast 1 = .ok (.getfield 19, 3) := by decide +kernel
theorem dX5_spoilLast_4 : decode cX5_spoilLast 4 = .ok (.ifCond .le 15, 3) := by decide +kernel
theorem dX5_spoilLast_7 : decode cX5_spoilLast 7 = .ok (.aload_n 0, 1) := by decide +kernel
theorem dX5_spoilLast_8 : decode cX5_spoilLast 8 = .ok (.getfield 9, 3) := by decide +kernel
theorem dX5_spoilLast_11 : decode cX5_spoilLast 11 = .ok (.aload_n 0, 1) := by decide +kernel
theorem dX5_spoilLast_12 : decode cX5_spoilLast 12 = .ok (.getfield 19, 3) := by decide +kernel
theorem dX5_spoilLast_15 : decode cX5_spoilLast 15 = .ok (.iconst 1, 1) := by decide +kernel
theorem dX5_spoilLast_16 : decode cX5_spoilLast 16 = .ok (.isub, 1) := by decide +kernel
theorem dX5_spoilLast_17 : decode cX5_spoilLast 17 = .ok (.lconst 0, 1) := by decide +kernel
theorem dX5_spoilLast_18 : decode cX5_spoilLast 18 = .ok (.lastore, 1) := by decide +kernel
theorem dX5_spoilLast_19 : decode cX5_spoilLast 19 = .ok (.return_, 1) := by decide +kernel
theorem dX5_lengthenLast_0 : decode cX5_lengthenLast 0 = .ok (.aload_n 0, 1) := by decide +kernel
theorem dX5_lengthenLast_1 : decode cX5_lengthenLast 1 = .ok (.dup, 1) := by decide +kernel
theorem dX5_lengthenLast_2 : decode cX5_lengthenLast 2 = .ok (.getfield 60, 3) := by decide +kernel
theorem dX5_lengthenLast_5 : decode cX5_lengthenLast 5 = .ok (.iconst 1, 1) := by decide +kernel
theorem dX5_lengthenLast_6 : decode cX5_lengthenLast 6 = .ok (.iadd, 1) := by decide +kernel
theorem dX5_lengthenLast_7 : decode cX5_lengthenLast 7 = .ok (.putfield 60, 3) := by decide +kernel
theorem dX5_lengthenLast_10 : decode cX5_lengthenLast 10 = .ok (.aload_n 0, 1) := by decide +kernel
theorem dX5_lengthenLast_11 : decode cX5_lengthenLast 11 = .ok (.getfield 60, 3) := by decide +kernel
theorem dX5_lengthenLast_14 : decode cX5_lengthenLast 14 = .ok (.iload_n 1, 1) := by decide +kernel
theorem dX5_lengthenLast_15 : decode cX5_lengthenLast 15 = .ok (.iconst 1, 1) := by decide +kernel
theorem dX5_lengthenLast_16 : decode cX5_lengthenLast 16 = .ok (.if_icmp .ne 8, 3) := by decide +kernel
theorem dX5_lengthenLast_19 : decode cX5_lengthenLast 19 = .ok (.bipush 8, 2) := by decide +kernel
theorem dX5_lengthenLast_21 : decode cX5_lengthenLast 21 = .ok (.goto 5, 3) := by decide +kernel
theorem dX5_lengthenLast_24 : decode cX5_lengthenLast 24 = .ok (.bipush 6, 2) := by decide +kernel
theorem dX5_lengthenLast_26 : decode cX5_lengthenLast 26 = .ok (.if_icmp .le 10, 3) := by decide +kernel
theorem dX5_lengthenLast_29 : decode cX5_lengthenLast 29 = .ok (.aload_n 0, 1) := by decide +kernel
theorem dX5_lengthenLast_30 : decode cX5_lengthenLast 30 = .ok (.invokevirtual 27, 3) := by decide +kernel
theorem dX5_lengthenLast_33 : decode cX5_lengthenLast 33 = .ok (.goto 67, 3) := by decide +kernel
theorem dX5_lengthenLast_36 : decode cX5_lengthenLast 36 = .ok (.aload_n 0, 1) := by decide +kernel
theorem dX5_lengthenLast_37 : decode cX5_lengthenLast 37 = .ok (.getfield 19, 3) := by decide +kernel
theorem dX5_lengthenLast_40 : decode cX5_lengthenLast 40 = .ok (.ifCond .le 60, 3) := by decide +kernel
theorem dX5_lengthenLast_43 : decode cX5_lengthenLast 43 = .ok (.aload_n 0, 1) := by decide +kernel
theorem dX5_lengthenLast_44 : decode cX5_lengthenLast 44 = .ok (.getfield 9, 3) := by decide +kernel
theorem dX5_lengthenLast_47 : decode cX5_lengthenLast 47 = .ok (.aload_n 0, 1) := by decide +kernel
theorem dX5_lengthenLast_48 : decode cX5_lengthenLast 48 = .ok (.getfield 19, 3) := by decide +kernel
theorem dX5_lengthenLast_51 : decode cX5_lengthenLast 51 = .ok (.iconst 1, 1) := by decide +kernel
theorem dX5_lengthenLast_52 : decode cX5_lengthenLast 52 = .ok (.isub, 1) := by decide +kernel
theorem dX5_lengthenLast_53 : decode cX5_lengthenLast 53 = .ok (.laload, 1) := by decide +kernel
theorem dX5_lengthenLast_54 : decode cX5_lengthenLast 54 = .ok (.lstore_n 3, 1) := by decide +kernel
theorem dX5_lengthenLast_55 : decode cX5_lengthenLast 55 = .ok (.aload_n 0, 1) := by decide +kernel
theorem dX5_lengthenLast_56 : decode cX5_lengthenLast 56 = .ok (.getfield 9, 3) := by decide +kernel
theorem dX5_lengthenLast_59 : decode cX5_lengthenLast 59 = .ok (.aload_n 0, 1) := by decide +kernel
theorem dX5_lengthenLast_60 : decode cX5_lengthenLast 60 = .ok (.getfield 19, 3) := by decide +kernel
theorem dX5_lengthenLast_63 : decode cX5_lengthenLast 63 = .ok (.iconst 1, 1) := by decide +kernel
theorem dX5_lengthenLast_64 : decode cX5_lengthenLast 64 = .ok (.isub, 1) := by decide +kernel
theorem dX5_lengthenLast_65 : decode cX5_lengthenLast 65 = .ok (.iload_n 1, 1) := by decide +kernel
theorem dX5_lengthenLast_66 : decode cX5_lengthenLast 66 = .ok (.iconst 1, 1) := by decide +kernel
theorem dX5_lengthenLast_67 : decode cX5_lengthenLast 67 = .ok (.if_icmp .ne 13, 3) := by decide +kernel
theorem dX5_lengthenLast_70 : decode cX5_lengthenLast 70 = .ok (.lload_n 3, 1) := by decide +kernel
theorem dX5_lengthenLast_71 : decode cX5_lengthenLast 71 = .ok (.bipush 8, 2) := by decide +kernel
theorem dX5_lengthenLast_73 : decode cX5_lengthenLast 73 = .ok (.lshl, 1) := by decide +kernel
theorem dX5_lengthenLast_74 : decode cX5_lengthenLast 74 = .ok (.iload_n 2, 1) := by decide +kernel
theorem dX5_lengthenLast_75 : decode cX5_lengthenLast 75 = .ok (.i2l, 1) := by decide +kernel
theorem dX5_lengthenLast_76 : decode cX5_lengthenLast 76 = .ok (.lor, 1) := by decide +kernel
theorem dX5_lengthenLast_77 : decode cX5_lengthenLast 77 = .ok (.goto 22, 3) := by decide +kernel
theorem dX5_lengthenLast_80 : decode cX5_lengthenLast 80 = .ok (.lload_n 3, 1) := by decide +kernel
theorem dX5_lengthenLast_81 : decode cX5_lengthenLast 81 = .ok (.ldc2_w 58, 3) := by decide +kernel
theorem dX5_lengthenLast_84 : decode cX5_lengthenLast 84 = .ok (.lxor, 1) := by decide +kernel
theorem dX5_lengthenLast_85 : decode cX5_lengthenLast 85 = .ok (.ldc2_w 63, 3) := by decide +kernel
theorem dX5_lengthenLast_88 : decode cX5_lengthenLast 88 = .ok (.lmul, 1) := by decide +kernel
theorem dX5_lengthenLast_89 : decode cX5_lengthenLast 89 = .ok (.iload_n 2, 1) := by decide +kernel
theorem dX5_lengthenLast_90 : decode cX5_lengthenLast 90 = .ok (.bipush 48, 2) := by decide +kernel
theorem dX5_lengthenLast_92 : decode cX5_lengthenLast 92 = .ok (.isub, 1) := by decide +kernel
theorem dX5_lengthenLast_93 : decode cX5_lengthenLast 93 = .ok (.i2l, 1) := by decide +kernel
theorem dX5_lengthenLast_94 : decode cX5_lengthenLast 94 = .ok (.ladd, 1) := by decide +kernel
theorem dX5_lengthenLast_95 : decode cX5_lengthenLast 95 = .ok (.ldc2_w 58, 3) := by decide +kernel
theorem dX5_lengthenLast_98 : decode cX5_lengthenLast 98 = .ok (.lxor, 1) := by decide +kernel
theorem dX5_lengthenLast_99 : decode cX5_lengthenLast 99 = .ok (.lastore, 1) := by decide +kernel
theorem dX5_lengthenLast_100 : decode cX5_lengthenLast 100 = .ok (.return_, 1) := by decide +kernel
theorem dX6_init_0 : decode cX6_init 0 = .ok (.aload_n 0, 1) := by decide +kernel
theorem dX6_init_1 : decode cX6_init 1 = .ok (.invokespecial 3, 3) := by decide +kernel
theorem dX6_init_4 : decode cX6_init 4 = .ok (.aload_n 0, 1) := by decide +kernel
theorem dX6_init_5 : decode cX6_init 5 = .ok (.bipush 60, 2) := by decide +kernel
theorem dX6_init_7 : decode cX6_init 7 = .ok (.newarray .int, 2) := by decide +kernel
theorem dX6_init_9 : decode cX6_init 9 = .ok (.putfield 9, 3) := by decide +kernel
theorem dX6_init_12 : decode cX6_init 12 = .ok (.aload_n 0, 1) := by decide +kernel
theorem dX6_init_13 : decode cX6_init 13 = .ok (.bipush 60, 2) := by decide +kernel
theorem dX6_init_15 : decode cX6_init 15 = .ok (.newarray .int, 2) := by decide +kernel
theorem dX6_init_17 : decode cX6_init 17 = .ok (.putfield 15, 3) := by decide +kernel
theorem dX6_init_20 : decode cX6_init 20 = .ok (.aload_n 0, 1) := by decide +kernel
theorem dX6_init_21 : decode cX6_init 21 = .ok (.bipush 60, 2) := by decide +kernel
theorem dX6_init_23 : decode cX6_init 23 = .ok (.newarray .int, 2) := by decide +kernel
theorem dX6_init_25 : decode cX6_init 25 = .ok (.putfield 18, 3) := by decide +kernel
theorem dX6_init_28 : decode cX6_init 28 = .ok (.aload_n 0, 1) := by decide +kernel
theorem dX6_init_29 : decode cX6_init 29 = .ok (.bipush 60, 2) := by decide +kernel
theorem dX6_init_31 : decode cX6_init 31 = .ok (.newarray .int, 2) := by decide +kernel
theorem dX6_init_33 : decode cX6_init 33 = .ok (.putfield 21, 3) := by decide +kernel
theorem dX6_init_36 : decode cX6_init 36 = .ok (.return_, 1) := by decide +kernel
theorem dX6_add_0 : decode cX6_add 0 = .ok (.aload_n 0, 1) := by decide +kernel
theorem dX6_add_1 : decode cX6_add 1 = .ok (.getfield 24, 3) := by decide +kernel
theorem dX6_add_4 : decode cX6_add 4 = .ok (.bipush 60, 2) := by decide +kernel
theorem dX6_add_6 : decode cX6_add 6 = .ok (.if_icmp .lt 5, 3) := by decide +kernel
theorem dX6_add_9 : decode cX6_add 9 = .ok (.iconst (-1), 1) := by decide +kernel
theorem dX6_add_10 : decode cX6_add 10 = .ok (.ireturn, 1) := by decide +kernel
theorem dX6_add_11 : decode cX6_add 11 = .ok (.aload_n 0, 1) := by decide +kernel
theorem dX6_add_12 : decode cX6_add 12 = .ok (.getfield 9, 3) := by decide +kernel
theorem dX6_add_15 : decode cX6_add 15 = .ok (.aload_n 0, 1) := by decide +kernel
theorem dX6_add_16 : decode cX6_add 16 = .ok (.getfield 24, 3) := by decide +kernel
theorem dX6_add_19 : decode cX6_add 19 = .ok (.iload_n 1, 1) := by decide +kernel
theorem dX6_add_20 : decode cX6_add 20 = .ok (.iastore, 1) := by decide +kernel
theorem dX6_add_21 : decode cX6_add 21 = .ok (.aload_n 0, 1) := by decide +kernel
theorem dX6_add_22 : decode cX6_add 22 = .ok (.getfield 15, 3) := by decide +kernel
theorem dX6_add_25 : decode cX6_add 25 = .ok (.aload_n 0, 1) := by decide +kernel
theorem dX6_add_26 : decode cX6_add 26 = .ok (.getfield 24, 3) := by decide +kernel
theorem dX6_add_29 : decode cX6_add 29 = .ok (.iload_n 2, 1) := by decide +kernel
theorem dX6_add_30 : decode cX6_add 30 = .ok (.iastore, 1) := by decide +kernel
theorem dX6_add_31 : decode cX6_add 31 = .ok (.aload_n 0, 1) := by decide +kernel
theorem dX6_add_32 : decode cX6_add 32 = .ok (.getfield 18, 3) := by decide +kernel
theorem dX6_add_35 : decode cX6_add 35 = .ok (.aload_n 0, 1) := by decide +kernel
theorem dX6_add_36 : decode cX6_add 36 = .ok (.getfield 24, 3) := by decide +kernel
theorem dX6_add_39 : decode cX6_add 39 = .ok (.iload_n 3, 1) := by decide +kernel
theorem dX6_add_40 : decode cX6_add 40 = .ok (.iastore, 1) := by decide +kernel
theorem dX6_add_41 : decode cX6_add 41 = .ok (.aload_n 0, 1) := by decide +kernel
theorem dX6_add_42 : decode cX6_add 42 = .ok (.getfield 21, 3) := by decide +kernel
theorem dX6_add_45 : decode cX6_add 45 = .ok (.aload_n 0, 1) := by decide +kernel
theorem dX6_add_46 : decode cX6_add 46 = .ok (.getfield 24, 3) := by decide +kernel
theorem dX6_add_49 : decode cX6_add 49 = .ok (.iload 4, 2) := by decide +kernel
theorem dX6_add_51 : decode cX6_add 51 = .ok (.iastore, 1) := by decide +kernel
theorem dX6_add_52 : decode cX6_add 52 = .ok (.aload_n 0, 1) := by decide +kernel
theorem dX6_add_53 : decode cX6_add 53 = .ok (.dup, 1) := by decide +kernel
theorem dX6_add_54 : decode cX6_add 54 = .ok (.getfield 24, 3) := by decide +kernel
theorem dX6_add_57 : decode cX6_add 57 = .ok (.iconst 1, 1) := by decide +kernel
theorem dX6_add_58 : decode cX6_add 58 = .ok (.iadd, 1) := by decide +kernel
theorem dX6_add_59 : decode cX6_add 59 = .ok (.putfield 24, 3) := by decide +kernel
theorem dX6_add_62 : decode cX6_add 62 = .ok (.aload_n 0, 1) := by decide +kernel
theorem dX6_add_63 : decode cX6_add 63 = .ok (.getfield 24, 3) := by decide +kernel
theorem dX6_add_66 : decode cX6_add 66 = .ok (.ireturn, 1) := by decide +kernel
theorem dX6_rankAsKnown_0 : decode cX6_rankAsKnown 0 = .ok (.iconst 0, 1) := by decide +kernel
theorem dX6_rankAsKnown_1 : decode cX6_rankAsKnown 1 = .ok (.istore 4, 2) := by decide +kernel
theorem dX6_rankAsKnown_3 : decode cX6_rankAsKnown 3 = .ok (.iconst (-1), 1) := by decide +kernel
theorem dX6_rankAsKnown_4 : decode cX6_rankAsKnown 4 = .ok (.istore 5, 2) := by decide +kernel
theorem dX6_rankAsKnown_6 : decode cX6_rankAsKnown 6 = .ok (.iconst 0, 1) := by decide +kernel
theorem dX6_rankAsKnown_7 : decode cX6_rankAsKnown 7 = .ok (.istore 6, 2) := by decide +kernel
theorem dX6_rankAsKnown_9 : decode cX6_rankAsKnown 9 = .ok (.iload 6, 2) := by decide +kernel
theorem dX6_rankAsKnown_11 : decode cX6_rankAsKnown 11 = .ok (.aload_n 0, 1) := by decide +kernel
theorem dX6_rankAsKnown_12 : decode cX6_rankAsKnown 12 = .ok (.getfield 24, 3) := by decide +kernel
theorem dX6_rankAsKnown_15 : decode cX6_rankAsKnown 15 = .ok (.if_icmp .ge 84, 3) := by decide +kernel
theorem dX6_rankAsKnown_18 : decode cX6_rankAsKnown 18 = .ok (.aload_n 0, 1) := by decide +kernel
theorem dX6_rankAsKnown_19 : decode cX6_rankAsKnown 19 = .ok (.getfield 9, 3) := by decide +kernel
theorem dX6_rankAsKnown_22 : decode cX6_rankAsKnown 22 = .ok (.iload 6, 2) := by decide +kernel
theorem dX6_rankAsKnown_24 : decode cX6_rankAsKnown 24 = .ok (.iaload, 1) := by decide +kernel
theorem dX6_rankAsKnown_25 : decode cX6_rankAsKnown 25 = .ok (.iload_n 1, 1) := by decide +kernel
theorem dX6_rankAsKnown_26 : decode cX6_rankAsKnown 26 = .ok (.if_icmp .ne 29, 3) := by decide +kernel
theorem dX6_rankAsKnown_29 : decode cX6_rankAsKnown 29 = .ok (.aload_n 0, 1) := by decide +kernel
theorem dX6_rankAsKnown_30 : decode cX6_rankAsKnown 30 = .ok (.getfield 21, 3) := by decide +kernel
theorem dX6_rankAsKnown_33 : decode cX6_rankAsKnown 33 = .ok (.iload 6, 2) := by decide +kernel
theorem dX6_rankAsKnown_35 : decode cX6_rankAsKnown 35 = .ok (.iaload, 1) := by decide +kernel
theorem dX6_rankAsKnown_36 : decode cX6_rankAsKnown 36 = .ok (.iload_n 3, 1) := by decide +kernel
theorem dX6_rankAsKnown_37 : decode cX6_rankAsKnown 37 = .ok (.if_icmp .gt 18, 3) := by decide +kernel
theorem dX6_rankAsKnown_40 : decode cX6_rankAsKnown 40 = .ok (.aload_n 0, 1) := by decide +kernel
theorem dX6_rankAsKnown_41 : decode cX6_rankAsKnown 41 = .ok (.getfield 18, 3) := by decide +kernel
theorem dX6_rankAsKnown_44 : decode cX6_rankAsKnown 44 = .ok (.iload 6, 2) := by decide +kernel
theorem dX6_rankAsKnown_46 : decode cX6_rankAsKnown 46 = .ok (.iaload, 1) := by decide +kernel
theorem dX6_rankAsKnown_47 : decode cX6_rankAsKnown 47 = .ok (.iload_n 2, 1) := by decide +kernel
theorem dX6_rankAsKnown_48 : decode cX6_rankAsKnown 48 = .ok (.if_icmp .gt 7, 3) := by decide +kernel
theorem dX6_rankAsKnown_51 : decode cX6_rankAsKnown 51 = .ok (.iconst 1, 1) := by decide +kernel
theorem dX6_rankAsKnown_52 : decode cX6_rankAsKnown 52 = .ok (.goto 4, 3) := by decide +kernel
theorem dX6_rankAsKnown_55 : decode cX6_rankAsKnown 55 = .ok (.iconst 0, 1) := by decide +kernel
theorem dX6_rankAsKnown_56 : decode cX6_rankAsKnown 56 = .ok (.istore 7, 2) := by decide +kernel
theorem dX6_rankAsKnown_58 : decode cX6_rankAsKnown 58 = .ok (.iload 7, 2) := by decide +kernel
theorem dX6_rankAsKnown_60 : decode cX6_rankAsKnown 60 = .ok (.ifCond .eq 33, 3) := by decide +kernel
theorem dX6_rankAsKnown_63 : decode cX6_rankAsKnown 63 = .ok (.aload_n 0, 1) := by decide +kernel
theorem dX6_rankAsKnown_64 : decode cX6_rankAsKnown 64 = .ok (.getfield 18, 3) := by decide +kernel
theorem dX6_rankAsKnown_67 : decode cX6_rankAsKnown 67 = .ok (.iload 6, 2) := by decide +kernel
theorem dX6_rankAsKnown_69 : decode cX6_rankAsKnown 69 = .ok (.iaload, 1) := by decide +kernel
theorem dX6_rankAsKnown_70 : decode cX6_rankAsKnown 70 = .ok (.iload 5, 2) := by decide +kernel
theorem dX6_rankAsKnown_72 : decode cX6_rankAsKnown 72 = .ok (.if_icmp .lt 21, 3) := by decide +kernel
theorem dX6_rankAsKnown_75 : decode cX6_rankAsKnown 75 = .ok (.aload_n 0, 1) := by decide +kernel
theorem dX6_rankAsKnown_76 : decode cX6_rankAsKnown 76 = .ok (.getfield 15, 3) := by decide +kernel
theorem dX6_rankAsKnown_79 : decode cX6_rankAsKnown 79 = .ok (.iload 6, 2) := by decide +kernel
theorem dX6_rankAsKnown_81 : decode cX6_rankAsKnown 81 = .ok (.iaload, 1) := by decide +kernel
theorem dX6_rankAsKnown_82 : decode cX6_rankAsKnown 82 = .ok (.istore 4, 2) := by decide +kernel
theorem dX6_rankAsKnown_84 : decode cX6_rankAsKnown 84 = .ok (.aload_n 0, 1) := by decide +kernel
theorem dX6_rankAsKnown_85 : decode cX6_rankAsKnown 85 = .ok (.getfield 18, 3) := by decide +kernel
theorem dX6_rankAsKnown_88 : decode cX6_rankAsKnown 88 = .ok (.iload 6, 2) := by decide +kernel
theorem dX6_rankAsKnown_90 : decode cX6_rankAsKnown 90 = .ok (.iaload, 1) := by decide +kernel
theorem dX6_rankAsKnown_91 : decode cX6_rankAsKnown 91 = .ok (.istore 5, 2) := by decide +kernel
theorem dX6_rankAsKnown_93 : decode cX6_rankAsKnown 93 = .ok (.iinc 6 1, 3) := by decide +kernel
theorem dX6_rankAsKnown_96 : decode cX6_rankAsKnown 96 = .ok (.goto (-87), 3) := by decide +kernel
theorem dX6_rankAsKnown_99 : decode cX6_rankAsKnown 99 = .ok (.iload 4, 2) := by decide +kernel
theorem dX6_rankAsKnown_101 : decode cX6_rankAsKnown 101 = .ok (.ireturn, 1) := by decide +kernel
theorem dX7_init_0 : decode cX7_init 0 = .ok (.aload_n 0, 1) := by decide +kernel
theorem dX7_init_1 : decode cX7_init 1 = .ok (.invokespecial 3, 3) := by decide +kernel
theorem dX7_init_4 : decode cX7_init 4 = .ok (.aload_n 0, 1) := by decide +kernel
theorem dX7_init_5 : decode cX7_init 5 = .ok (.bipush 10, 2) := by decide +kernel
theorem dX7_init_7 : decode cX7_init 7 = .ok (.newarray .int, 2) := by decide +kernel
theorem dX7_init_9 : decode cX7_init 9 = .ok (.putfield 9, 3) := by decide +kernel
theorem dX7_init_12 : decode cX7_init 12 = .ok (.aload_n 0, 1) := by decide +kernel
theorem dX7_init_13 : decode cX7_init 13 = .ok (.bipush 10, 2) := by decide +kernel
theorem dX7_init_15 : decode cX7_init 15 = .ok (.newarray .int, 2) := by decide +kernel
theorem dX7_init_17 : decode cX7_init 17 = .ok (.putfield 15, 3) := by decide +kernel
theorem dX7_init_20 : decode cX7_init 20 = .ok (.aload_n 0, 1) := by decide +kernel
theorem dX7_init_21 : decode cX7_init 21 = .ok (.bipush 10, 2) := by decide +kernel
theorem dX7_init_23 : decode cX7_init 23 = .ok (.newarray .int, 2) := by decide +kernel
theorem dX7_init_25 : decode cX7_init 25 = .ok (.putfield 18, 3) := by decide +kernel
theorem dX7_init_28 : decode cX7_init 28 = .ok (.aload_n 0, 1) := by decide +kernel
theorem dX7_init_29 : decode cX7_init 29 = .ok (.bipush 10, 2) := by decide +kernel
theorem dX7_init_31 : decode cX7_init 31 = .ok (.newarray .int, 2) := by decide +kernel
theorem dX7_init_33 : decode cX7_init 33 = .ok (.putfield 21, 3) := by decide +kernel
theorem dX7_init_36 : decode cX7_init 36 = .ok (.return_, 1) := by decide +kernel
theorem dX7_add_0 : decode cX7_add 0 = .ok (.aload_n 0, 1) := by decide +kernel
theorem dX7_add_1 : decode cX7_add 1 = .ok (.getfield 24, 3) := by decide +kernel
theorem dX7_add_4 : decode cX7_add 4 = .ok (.bipush 10, 2) := by decide +kernel
theorem dX7_add_6 : decode cX7_add 6 = .ok (.if_icmp .lt 5, 3) := by decide +kernel
theorem dX7_add_9 : decode cX7_add 9 = .ok (.iconst (-1), 1) := by decide +kernel
theorem dX7_add_10 : decode cX7_add 10 = .ok (.ireturn, 1) := by decide +kernel
theorem dX7_add_11 : decode cX7_add 11 = .ok (.aload_n 0, 1) := by decide +kernel
theorem dX7_add_12 : decode cX7_add 12 = .ok (.getfield 9, 3) := by decide +kernel
theorem dX7_add_15 : decode cX7_add 15 = .ok (.aload_n 0, 1) := by decide +kernel
theorem dX7_add_16 : decode cX7_add 16 = .ok (.getfield 24, 3) := by decide +kernel
theorem dX7_add_19 : decode cX7_add 19 = .ok (.iload_n 1, 1) := by decide +kernel
theorem dX7_add_20 : decode cX7_add 20 = .ok (.iastore, 1) := by decide +kernel
theorem dX7_add_21 : decode cX7_add 21 = .ok (.aload_n 0, 1) := by decide +kernel
theorem dX7_add_22 : decode cX7_add 22 = .ok (.getfield 15, 3) := by decide +kernel
theorem dX7_add_25 : decode cX7_add 25 = .ok (.aload_n 0, 1) := by decide +kernel
theorem dX7_add_26 : decode cX7_add 26 = .ok (.getfield 24, 3) := by decide +kernel
theorem dX7_add_29 : decode cX7_add 29 = .ok (.iload_n 2, 1) := by decide +kernel
theorem dX7_add_30 : decode cX7_add 30 = .ok (.iastore, 1) := by decide +kernel
theorem dX7_add_31 : decode cX7_add 31 = .ok (.aload_n 0, 1) := by decide +kernel
theorem dX7_add_32 : decode cX7_add 32 = .ok (.getfield 18, 3) := by decide +kernel
theorem dX7_add_35 : decode cX7_add 35 = .ok (.aload_n 0, 1) := by decide +kernel
theorem dX7_add_36 : decode cX7_add 36 = .ok (.getfield 24, 3) := by decide +kernel
theorem dX7_add_39 : decode cX7_add 39 = .ok (.iload_n 3, 1) := by decide +kernel
theorem dX7_add_40 : decode cX7_add 40 = .ok (.iastore, 1) := by decide +kernel
theorem dX7_add_41 : decode cX7_add 41 = .ok (.aload_n 0, 1) := by decide +kernel
theorem dX7_add_42 : decode cX7_add 42 = .ok (.getfield 21, 3) := by decide +kernel
theorem dX7_add_45 : decode cX7_add 45 = .ok (.aload_n 0, 1) := by decide +kernel
theorem dX7_add_46 : decode cX7_add 46 = .ok (.getfield 24, 3) := by decide +kernel
theorem dX7_add_49 : decode cX7_add 49 = .ok (.iload 4, 2) := by decide +kernel
theorem dX7_add_51 : decode cX7_add 51 = .ok (.iastore, 1) := by decide +kernel
theorem dX7_add_52 : decode cX7_add 52 = .ok (.aload_n 0, 1) := by decide +kernel
theorem dX7_add_53 : decode cX7_add 53 = .ok (.dup, 1) := by decide +kernel
theorem dX7_add_54 : decode cX7_add 54 = .ok (.getfield 24, 3) := by decide +kernel
theorem dX7_add_57 : decode cX7_add 57 = .ok (.iconst 1, 1) := by decide +kernel
theorem dX7_add_58 : decode cX7_add 58 = .ok (.iadd, 1) := by decide +kernel
theorem dX7_add_59 : decode cX7_add 59 = .ok (.putfield 24, 3) := by decide +kernel
theorem dX7_add_62 : decode cX7_add 62 = .ok (.aload_n 0, 1) := by decide +kernel
theorem dX7_add_63 : decode cX7_add 63 = .ok (.getfield 24, 3) := by decide +kernel
theorem dX7_add_66 : decode cX7_add 66 = .ok (.ireturn, 1) := by decide +kernel
theorem dX7_held_0 : decode cX7_held 0 = .ok (.iconst 0, 1) := by decide +kernel
theorem dX7_held_1 : decode cX7_held 1 = .ok (.istore 4, 2) := by decide +kernel
theorem dX7_held_3 : decode cX7_held 3 = .ok (.iload 4, 2) := by decide +kernel
theorem dX7_held_5 : decode cX7_held 5 = .ok (.aload_n 0, 1) := by decide +kernel
theorem dX7_held_6 : decode cX7_held 6 = .ok (.getfield 24, 3) := by decide +kernel
theorem dX7_held_9 : decode cX7_held 9 = .ok (.if_icmp .ge 89, 3) := by decide +kernel
theorem dX7_held_12 : decode cX7_held 12 = .ok (.aload_n 0, 1) := by decide +kernel
theorem dX7_held_13 : decode cX7_held 13 = .ok (.getfield 9, 3) := by decide +kernel
theorem dX7_held_16 : decode cX7_held 16 = .ok (.iload 4, 2) := by decide +kernel
theorem dX7_held_18 : decode cX7_held 18 = .ok (.iaload, 1) := by decide +kernel
theorem dX7_held_19 : decode cX7_held 19 = .ok (.iload_n 1, 1) := by decide +kernel
theorem dX7_held_20 : decode cX7_held 20 = .ok (.if_icmp .ne 14, 3) := by decide +kernel
theorem dX7_held_23 : decode cX7_held 23 = .ok (.aload_n 0, 1) := by decide +kernel
theorem dX7_held_24 : decode cX7_held 24 = .ok (.getfield 15, 3) := by decide +kernel
theorem dX7_held_27 : decode cX7_held 27 = .ok (.iload 4, 2) := by decide +kernel
theorem dX7_held_29 : decode cX7_held 29 = .ok (.iaload, 1) := by decide +kernel
theorem dX7_held_30 : decode cX7_held 30 = .ok (.iload_n 2, 1) := by decide +kernel
theorem dX7_held_31 : decode cX7_held 31 = .ok (.if_icmp .eq 25, 3) := by decide +kernel
theorem dX7_held_34 : decode cX7_held 34 = .ok (.aload_n 0, 1) := by decide +kernel
theorem dX7_held_35 : decode cX7_held 35 = .ok (.getfield 9, 3) := by decide +kernel
theorem dX7_held_38 : decode cX7_held 38 = .ok (.iload 4, 2) := by decide +kernel
theorem dX7_held_40 : decode cX7_held 40 = .ok (.iaload, 1) := by decide +kernel
theorem dX7_held_41 : decode cX7_held 41 = .ok (.iload_n 2, 1) := by decide +kernel
theorem dX7_held_42 : decode cX7_held 42 = .ok (.if_icmp .ne 18, 3) := by decide +kernel
theorem dX7_held_45 : decode cX7_held 45 = .ok (.aload_n 0, 1) := by decide +kernel
theorem dX7_held_46 : decode cX7_held 46 = .ok (.getfield 15, 3) := by decide +kernel
theorem dX7_held_49 : decode cX7_held 49 = .ok (.iload 4, 2) := by decide +kernel
theorem dX7_held_51 : decode cX7_held 51 = .ok (.iaload, 1) := by decide +kernel
theorem dX7_held_52 : decode cX7_held 52 = .ok (.iload_n 1, 1) := by decide +kernel
theorem dX7_held_53 : decode cX7_held 53 = .ok (.if_icmp .ne 7, 3) := by decide +kernel
theorem dX7_held_56 : decode cX7_held 56 = .ok (.iconst 1, 1) := by decide +kernel
theorem dX7_held_57 : decode cX7_held 57 = .ok (.goto 4, 3) := by decide +kernel
theorem dX7_held_60 : decode cX7_held 60 = .ok (.iconst 0, 1) := by decide +kernel
theorem dX7_held_61 : decode cX7_held 61 = .ok (.istore 5, 2) := by decide +kernel
theorem dX7_held_63 : decode cX7_held 63 = .ok (.iload 5, 2) := by decide +kernel
theorem dX7_held_65 : decode cX7_held 65 = .ok (.ifCond .eq 27, 3) := by decide +kernel
theorem dX7_held_68 : decode cX7_held 68 = .ok (.aload_n 0, 1) := by decide +kernel
theorem dX7_held_69 : decode cX7_held 69 = .ok (.getfield 18, 3) := by decide +kernel
theorem dX7_held_72 : decode cX7_held 72 = .ok (.iload 4, 2) := by decide +kernel
theorem dX7_held_74 : decode cX7_held 74 = .ok (.iaload, 1) := by decide +kernel
theorem dX7_held_75 : decode cX7_held 75 = .ok (.iload_n 3, 1) := by decide +kernel
theorem dX7_held_76 : decode cX7_held 76 = .ok (.if_icmp .gt 16, 3) := by decide +kernel
theorem dX7_held_79 : decode cX7_held 79 = .ok (.iload_n 3, 1) := by decide +kernel
theorem dX7_held_80 : decode cX7_held 80 = .ok (.aload_n 0, 1) := by decide +kernel
theorem dX7_held_81 : decode cX7_held 81 = .ok (.getfield 21, 3) := by decide +kernel
theorem dX7_held_84 : decode cX7_held 84 = .ok (.iload 4, 2) := by decide +kernel
theorem dX7_held_86 : decode cX7_held 86 = .ok (.iaload, 1) := by decide +kernel
theorem dX7_held_87 : decode cX7_held 87 = .ok (.if_icmp .gt 5, 3) := by decide +kernel
theorem dX7_held_90 : decode cX7_held 90 = .ok (.iconst 1, 1) := by decide +kernel
theorem dX7_held_91 : decode cX7_held 91 = .ok (.ireturn, 1) := by decide +kernel
theorem dX7_held_92 : decode cX7_held 92 = .ok (.iinc 4 1, 3) := by decide +kernel
theorem dX7_held_95 : decode cX7_held 95 = .ok (.goto (-92), 3) := by decide +kernel
theorem dX7_held_98 : decode cX7_held 98 = .ok (.iconst 0, 1) := by decide +kernel
theorem dX7_held_99 : decode cX7_held 99 = .ok (.ireturn, 1) := by decide +kernel
theorem dX8_init_0 : decode cX8_init 0 = .ok (.aload_n 0, 1) := by decide +kernel
theorem dX8_init_1 : decode cX8_init 1 = .ok (.invokespecial 1, 3) := by decide +kernel
theorem dX8_init_4 : decode cX8_init 4 = .ok (.aload_n 0, 1) := by decide +kernel
theorem dX8_init_5 : decode cX8_init 5 = .ok (.sipush 700, 3) := by decide +kernel
theorem dX8_init_8 : decode cX8_init 8 = .ok (.newarray .byte, 2) := by decide +kernel
theorem dX8_init_10 : decode cX8_init 10 = .ok (.putfield 9, 3) := by decide +kernel
theorem dX8_init_13 : decode cX8_init 13 = .ok (.aload_n 0, 1) := by decide +kernel
theorem dX8_init_14 : decode cX8_init 14 = .ok (.new 13, 3) := by decide +kernel
theorem dX8_init_17 : decode cX8_init 17 = .ok (.dup, 1) := by decide +kernel
theorem dX8_init_18 : decode cX8_init 18 = .ok (.invokespecial 15, 3) := by decide +kernel
theorem dX8_init_21 : decode cX8_init 21 = .ok (.putfield 16, 3) := by decide +kernel
theorem dX8_init_24 : decode cX8_init 24 = .ok (.aload_n 0, 1) := by decide +kernel
theorem dX8_init_25 : decode cX8_init 25 = .ok (.bipush 16, 2) := by decide +kernel
theorem dX8_init_27 : decode cX8_init 27 = .ok (.anewarray 20, 3) := by decide +kernel
theorem dX8_init_30 : decode cX8_init 30 = .ok (.putfield 22, 3) := by decide +kernel
theorem dX8_init_33 : decode cX8_init 33 = .ok (.aload_n 0, 1) := by decide +kernel
theorem dX8_init_34 : decode cX8_init 34 = .ok (.iconst 4, 1) := by decide +kernel
theorem dX8_init_35 : decode cX8_init 35 = .ok (.newarray .int, 2) := by decide +kernel
theorem dX8_init_37 : decode cX8_init 37 = .ok (.putfield 26, 3) := by decide +kernel
theorem dX8_init_40 : decode cX8_init 40 = .ok (.aload_n 0, 1) := by decide +kernel
theorem dX8_init_41 : decode cX8_init 41 = .ok (.iconst (-1), 1) := by decide +kernel
theorem dX8_init_42 : decode cX8_init 42 = .ok (.putfield 30, 3) := by decide +kernel
theorem dX8_init_45 : decode cX8_init 45 = .ok (.aload_n 0, 1) := by decide +kernel
theorem dX8_init_46 : decode cX8_init 46 = .ok (.new 34, 3) := by decide +kernel
theorem dX8_init_49 : decode cX8_init 49 = .ok (.dup, 1) := by decide +kernel
theorem dX8_init_50 : decode cX8_init 50 = .ok (.invokespecial 36, 3) := by decide +kernel
theorem dX8_init_53 : decode cX8_init 53 = .ok (.putfield 37, 3) := by decide +kernel
theorem dX8_init_56 : decode cX8_init 56 = .ok (.aload_n 0, 1) := by decide +kernel
theorem dX8_init_57 : decode cX8_init 57 = .ok (.new 41, 3) := by decide +kernel
theorem dX8_init_60 : decode cX8_init 60 = .ok (.dup, 1) := by decide +kernel
theorem dX8_init_61 : decode cX8_init 61 = .ok (.invokespecial 43, 3) := by decide +kernel
theorem dX8_init_64 : decode cX8_init 64 = .ok (.putfield 44, 3) := by decide +kernel
theorem dX8_init_67 : decode cX8_init 67 = .ok (.aload_n 0, 1) := by decide +kernel
theorem dX8_init_68 : decode cX8_init 68 = .ok (.new 48, 3) := by decide +kernel
theorem dX8_init_71 : decode cX8_init 71 = .ok (.dup, 1) := by decide +kernel
theorem dX8_init_72 : decode cX8_init 72 = .ok (.invokespecial 50, 3) := by decide +kernel
theorem dX8_init_75 : decode cX8_init 75 = .ok (.putfield 51, 3) := by decide +kernel
theorem dX8_init_78 : decode cX8_init 78 = .ok (.aload_n 0, 1) := by decide +kernel
theorem dX8_init_79 : decode cX8_init 79 = .ok (.bipush 20, 2) := by decide +kernel
theorem dX8_init_81 : decode cX8_init 81 = .ok (.anewarray 55, 3) := by decide +kernel
theorem dX8_init_84 : decode cX8_init 84 = .ok (.putfield 57, 3) := by decide +kernel
theorem dX8_init_87 : decode cX8_init 87 = .ok (.aload_n 0, 1) := by decide +kernel
theorem dX8_init_88 : decode cX8_init 88 = .ok (.new 61, 3) := by decide +kernel
theorem dX8_init_91 : decode cX8_init 91 = .ok (.dup, 1) := by decide +kernel
theorem dX8_init_92 : decode cX8_init 92 = .ok (.invokespecial 63, 3) := by decide +kernel
theorem dX8_init_95 : decode cX8_init 95 = .ok (.putfield 64, 3) := by decide +kernel
theorem dX8_init_98 : decode cX8_init 98 = .ok (.aload_n 0, 1) := by decide +kernel
theorem dX8_init_99 : decode cX8_init 99 = .ok (.iconst 4, 1) := by decide +kernel
theorem dX8_init_100 : decode cX8_init 100 = .ok (.newarray .int, 2) := by decide +kernel
theorem dX8_init_102 : decode cX8_init 102 = .ok (.putfield 68, 3) := by decide +kernel
theorem dX8_init_105 : decode cX8_init 105 = .ok (.aload_n 0, 1) := by decide +kernel
theorem dX8_init_106 : decode cX8_init 106 = .ok (.bipush 7, 2) := by decide +kernel
theorem dX8_init_108 : decode cX8_init 108 = .ok (.newarray .int, 2) := by decide +kernel
theorem dX8_init_110 : decode cX8_init 110 = .ok (.putfield 71, 3) := by decide +kernel
theorem dX8_init_113 : decode cX8_init 113 = .ok (.return_, 1) := by decide +kernel
theorem dX8_feed_0 : decode cX8_feed 0 = .ok (.aload_n 0, 1) := by decide +kernel
theorem dX8_feed_1 : decode cX8_feed 1 = .ok (.getfield 74, 3) := by decide +kernel
theorem dX8_feed_4 : decode cX8_feed 4 = .ok (.bipush 20, 2) := by decide +kernel
theorem dX8_feed_6 : decode cX8_feed 6 = .ok (.iadd, 1) := by decide +kernel
theorem dX8_feed_7 : decode cX8_feed 7 = .ok (.sipush 700, 3) := by decide +kernel
theorem dX8_feed_10 : decode cX8_feed 10 = .ok (.if_icmp .le 5, 3) := by decide +kernel
theorem dX8_feed_13 : decode cX8_feed 13 = .ok (.iconst (-1), 1) := by decide +kernel
theorem dX8_feed_14 : decode cX8_feed 14 = .ok (.ireturn, 1) := by decide +kernel
theorem dX8_feed_15 : decode cX8_feed 15 = .ok (.aload_n 0, 1) := by decide +kernel
theorem dX8_feed_16 : decode cX8_feed 16 = .ok (.iload_n 1, 1) := by decide +kernel
theorem dX8_feed_17 : decode cX8_feed 17 = .ok (.invokevirtual 77, 3) := by decide +kernel
theorem dX8_feed_20 : decode cX8_feed 20 = .ok (.aload_n 0, 1) := by decide +kernel
theorem dX8_feed_21 : decode cX8_feed 21 = .ok (.iload_n 2, 1) := by decide +kernel
theorem dX8_feed_22 : decode cX8_feed 22 = .ok (.invokevirtual 77, 3) := by decide +kernel
theorem dX8_feed_25 : decode cX8_feed 25 = .ok (.aload_n 0, 1) := by decide +kernel
theorem dX8_feed_26 : decode cX8_feed 26 = .ok (.iload_n 3, 1) := by decide +kernel
theorem dX8_feed_27 : decode cX8_feed 27 = .ok (.invokevirtual 77, 3) := by decide +kernel
theorem dX8_feed_30 : decode cX8_feed 30 = .ok (.aload_n 0, 1) := by decide +kernel
theorem dX8_feed_31 : decode cX8_feed 31 = .ok (.iload 4, 2) := by decide +kernel
theorem dX8_feed_33 : decode cX8_feed 33 = .ok (.invokevirtual 77, 3) := by decide +kernel
theorem dX8_feed_36 : decode cX8_feed 36 = .ok (.aload_n 0, 1) := by decide +kernel
theorem dX8_feed_37 : decode cX8_feed 37 = .ok (.iload 5, 2) := by decide +kernel
theorem dX8_feed_39 : decode cX8_feed 39 = .ok (.invokevirtual 77, 3) := by decide +kernel
theorem dX8_feed_42 : decode cX8_feed 42 = .ok (.aload_n 0, 1) := by decide +kernel
theorem dX8_feed_43 : decode cX8_feed 43 = .ok (.getfield 74, 3) := by decide +kernel
theorem dX8_feed_46 : decode cX8_feed 46 = .ok (.ireturn, 1) := by decide +kernel
theorem dX8_writeNumber_0 : decode cX8_writeNumber 0 = .ok (.bipush 24, 2) := by decide +kernel
theorem dX8_writeNumber_2 : decode cX8_writeNumber 2 = .ok (.istore_n 2, 1) := by decide +kernel
theorem dX8_writeNumber_3 : decode cX8_writeNumber 3 = .ok (.iload_n 2, 1) := by decide +kernel
theorem dX8_writeNumber_4 : decode cX8_writeNumber 4 = .ok (.ifCond .lt 44, 3) := by decide +kernel
theorem dX8_writeNumber_7 : decode cX8_writeNumber 7 = .ok (.aload_n 0, 1) := by decide +kernel
theorem dX8_writeNumber_8 : decode cX8_writeNumber 8 = .ok (.getfield 74, 3) := by decide +kernel
theorem dX8_writeNumber_11 : decode cX8_writeNumber 11 = .ok (.aload_n 0, 1) := by decide +kernel
theorem dX8_writeNumber_12 : decode cX8_writeNumber 12 = .ok (.getfield 9, 3) := by decide +kernel
theorem dX8_writeNumber_15 : decode cX8_writeNumber 15 = .ok (.arraylength, 1) := by decide +kernel
theorem dX8_writeNumber_16 : decode cX8_writeNumber 16 = .ok (.if_icmp .ge 26, 3) := by decide +kernel
theorem dX8_writeNumber_19 : decode cX8_writeNumber 19 = .ok (.aload_n 0, 1) := by decide +kernel
theorem dX8_writeNumber_20 : decode cX8_writeNumber 20 = .ok (.getfield 9, 3) := by decide +kernel
theorem dX8_writeNumber_23 : decode cX8_writeNumber 23 = .ok (.aload_n 0, 1) := by decide +kernel
theorem dX8_writeNumber_24 : decode cX8_writeNumber 24 = .ok (.getfield 74, 3) := by decide +kernel
theorem dX8_writeNumber_27 : decode cX8_writeNumber 27 = .ok (.iload_n 1, 1) := by decide +kernel
theorem dX8_writeNumber_28 : decode cX8_writeNumber 28 = .ok (.iload_n 2, 1) := by decide +kernel
theorem dX8_writeNumber_29 : decode cX8_writeNumber 29 = .ok (.iushr, 1) := by decide +kernel
theorem dX8_writeNumber_30 : decode cX8_writeNumber 30 = .ok (.i2b, 1) := by decide +kernel
theorem dX8_writeNumber_31 : decode cX8_writeNumber 31 = .ok (.bastore, 1) := by decide +kernel
theorem dX8_writeNumber_32 : decode cX8_writeNumber 32 = .ok (.aload_n 0, 1) := by decide +kernel
theorem dX8_writeNumber_33 : decode cX8_writeNumber 33 = .ok (.dup, 1) := by decide +kernel
theorem dX8_writeNumber_34 : decode cX8_writeNumber 34 = .ok (.getfield 74, 3) := by decide +kernel
theorem dX8_writeNumber_37 : decode cX8_writeNumber 37 = .ok (.iconst 1, 1) := by decide +kernel
theorem dX8_writeNumber_38 : decode cX8_writeNumber 38 = .ok (.iadd, 1) := by decide +kernel
theorem dX8_writeNumber_39 : decode cX8_writeNumber 39 = .ok (.putfield 74, 3) := by decide +kernel
theorem dX8_writeNumber_42 : decode cX8_writeNumber 42 = .ok (.iinc 2 (-8), 3) := by decide +kernel
theorem dX8_writeNumber_45 : decode cX8_writeNumber 45 = .ok (.goto (-42), 3) := by decide +kernel
theorem dX8_writeNumber_48 : decode cX8_writeNumber 48 = .ok (.return_, 1) := by decide +kernel
theorem dX8_end_0 : decode cX8_end 0 = .ok (.iload_n 1, 1) := by decide +kernel
theorem dX8_end_1 : decode cX8_end 1 = .ok (.ifCond .lt 11, 3) := by decide +kernel
theorem dX8_end_4 : decode cX8_end 4 = .ok (.iload_n 1, 1) := by decide +kernel
theorem dX8_end_5 : decode cX8_end 5 = .ok (.aload_n 0, 1) := by decide +kernel
theorem dX8_end_6 : decode cX8_end 6 = .ok (.getfield 74, 3) := by decide +kernel
theorem dX8_end_9 : decode cX8_end 9 = .ok (.if_icmp .le 5, 3) := by decide +kernel
theorem dX8_end_12 : decode cX8_end 12 = .ok (.iconst (-1), 1) := by decide +kernel
theorem dX8_end_13 : decode cX8_end 13 = .ok (.ireturn, 1) := by decide +kernel
theorem dX8_end_14 : decode cX8_end 14 = .ok (.aload_n 0, 1) := by decide +kernel
theorem dX8_end_15 : decode cX8_end 15 = .ok (.iload_n 1, 1) := by decide +kernel
theorem dX8_end_16 : decode cX8_end 16 = .ok (.putfield 74, 3) := by decide +kernel
theorem dX8_end_19 : decode cX8_end 19 = .ok (.iload_n 1, 1) := by decide +kernel
theorem dX8_end_20 : decode cX8_end 20 = .ok (.ireturn, 1) := by decide +kernel
theorem dX8_law_0 : decode cX8_law 0 = .ok (.iload_n 1, 1) := by decide +kernel
theorem dX8_law_1 : decode cX8_law 1 = .ok (.invokestatic 81, 3) := by decide +kernel
theorem dX8_law_4 : decode cX8_law 4 = .ok (.ifCond .eq 20, 3) := by decide +kernel
theorem dX8_law_7 : decode cX8_law 7 = .ok (.iload_n 2, 1) := by decide +kernel
theorem dX8_law_8 : decode cX8_law 8 = .ok (.invokestatic 85, 3) := by decide +kernel
theorem dX8_law_11 : decode cX8_law 11 = .ok (.ifCond .eq 13, 3) := by decide +kernel
theorem dX8_law_14 : decode cX8_law 14 = .ok (.aload_n 0, 1) := by decide +kernel
theorem dX8_law_15 : decode cX8_law 15 = .ok (.getfield 26, 3) := by decide +kernel
theorem dX8_law_18 : decode cX8_law 18 = .ok (.iload_n 1, 1) := by decide +kernel
theorem dX8_law_19 : decode cX8_law 19 = .ok (.iaload, 1) := by decide +kernel
theorem dX8_law_20 : decode cX8_law 20 = .ok (.iconst 4, 1) := by decide +kernel
theorem dX8_law_21 : decode cX8_law 21 = .ok (.if_icmp .lt 6, 3) := by decide +kernel
theorem dX8_law_24 : decode cX8_law 24 = .ok (.bipush (-2), 2) := by decide +kernel
theorem dX8_law_26 : decode cX8_law 26 = .ok (.ireturn, 1) := by decide +kernel
theorem dX8_law_27 : decode cX8_law 27 = .ok (.aload_n 0, 1) := by decide +kernel
theorem dX8_law_28 : decode cX8_law 28 = .ok (.getfield 16, 3) := by decide +kernel
theorem dX8_law_31 : decode cX8_law 31 = .ok (.aload_n 0, 1) := by decide +kernel
theorem dX8_law_32 : decode cX8_law 32 = .ok (.getfield 9, 3) := by decide +kernel
theorem dX8_law_35 : decode cX8_law 35 = .ok (.aload_n 0, 1) := by decide +kernel
theorem dX8_law_36 : decode cX8_law 36 = .ok (.getfield 74, 3) := by decide +kernel
theorem dX8_law_39 : decode cX8_law 39 = .ok (.invokevirtual 88, 3) := by decide +kernel
theorem dX8_law_42 : decode cX8_law 42 = .ok (.aload_n 0, 1) := by decide +kernel
theorem dX8_law_43 : decode cX8_law 43 = .ok (.iconst 0, 1) := by decide +kernel
theorem dX8_law_44 : decode cX8_law 44 = .ok (.putfield 74, 3) := by decide +kernel
theorem dX8_law_47 : decode cX8_law 47 = .ok (.new 20, 3) := by decide +kernel
theorem dX8_law_50 : decode cX8_law 50 = .ok (.dup, 1) := by decide +kernel
theorem dX8_law_51 : decode cX8_law 51 = .ok (.iload_n 2, 1) := by decide +kernel
theorem dX8_law_52 : decode cX8_law 52 = .ok (.aload_n 0, 1) := by decide +kernel
theorem dX8_law_53 : decode cX8_law 53 = .ok (.getfield 16, 3) := by decide +kernel
theorem dX8_law_56 : decode cX8_law 56 = .ok (.getfield 92, 3) := by decide +kernel
theorem dX8_law_59 : decode cX8_law 59 = .ok (.invokespecial 95, 3) := by decide +kernel
theorem dX8_law_62 : decode cX8_law 62 = .ok (.astore_n 3, 1) := by decide +kernel
theorem dX8_law_63 : decode cX8_law 63 = .ok (.new 98, 3) := by decide +kernel
theorem dX8_law_66 : decode cX8_law 66 = .ok (.dup, 1) := by decide +kernel
theorem dX8_law_67 : decode cX8_law 67 = .ok (.aload_n 0, 1) := by decide +kernel
theorem dX8_law_68 : decode cX8_law 68 = .ok (.getfield 16, 3) := by decide +kernel
theorem dX8_law_71 : decode cX8_law 71 = .ok (.aload_n 3, 1) := by decide +kernel
theorem dX8_law_72 : decode cX8_law 72 = .ok (.invokespecial 100, 3) := by decide +kernel
theorem dX8_law_75 : decode cX8_law 75 = .ok (.astore 4, 2) := by decide +kernel
theorem dX8_law_77 : decode cX8_law 77 = .ok (.aload 4, 2) := by decide +kernel
theorem dX8_law_79 : decode cX8_law 79 = .ok (.invokevirtual 103, 3) := by decide +kernel
theorem dX8_law_82 : decode cX8_law 82 = .ok (.istore 5, 2) := by decide +kernel
theorem dX8_law_84 : decode cX8_law 84 = .ok (.aload_n 0, 1) := by decide +kernel
theorem dX8_law_85 : decode cX8_law 85 = .ok (.aload 4, 2) := by decide +kernel
theorem dX8_law_87 : decode cX8_law 87 = .ok (.getfield 107, 3) := by decide +kernel
theorem dX8_law_90 : decode cX8_law 90 = .ok (.putfield 110, 3) := by decide +kernel
theorem dX8_law_93 : decode cX8_law 93 = .ok (.aload_n 0, 1) := by decide +kernel
theorem dX8_law_94 : decode cX8_law 94 = .ok (.aload 4, 2) := by decide +kernel
theorem dX8_law_96 : decode cX8_law 96 = .ok (.getfield 113, 3) := by decide +kernel
theorem dX8_law_99 : decode cX8_law 99 = .ok (.putfield 30, 3) := by decide +kernel
theorem dX8_law_102 : decode cX8_law 102 = .ok (.iload 5, 2) := by decide +kernel
theorem dX8_law_104 : decode cX8_law 104 = .ok (.ifCond .ne 5, 3) := by decide +kernel
theorem dX8_law_107 : decode cX8_law 107 = .ok (.iconst (-1), 1) := by decide +kernel
theorem dX8_law_108 : decode cX8_law 108 = .ok (.ireturn, 1) := by decide +kernel
theorem dX8_law_109 : decode cX8_law 109 = .ok (.aload_n 0, 1) := by decide +kernel
theorem dX8_law_110 : decode cX8_law 110 = .ok (.getfield 22, 3) := by decide +kernel
theorem dX8_law_113 : decode cX8_law 113 = .ok (.iload_n 1, 1) := by decide +kernel
theorem dX8_law_114 : decode cX8_law 114 = .ok (.iconst 4, 1) := by decide +kernel
theorem dX8_law_115 : decode cX8_law 115 = .ok (.imul, 1) := by decide +kernel
theorem dX8_law_116 : decode cX8_law 116 = .ok (.aload_n 0, 1) := by decide +kernel
theorem dX8_law_117 : decode cX8_law 117 = .ok (.getfield 26, 3) := by decide +kernel
theorem dX8_law_120 : decode cX8_law 120 = .ok (.iload_n 1, 1) := by decide +kernel
theorem dX8_law_121 : decode cX8_law 121 = .ok (.iaload, 1) := by decide +kernel
theorem dX8_law_122 : decode cX8_law 122 = .ok (.iadd, 1) := by decide +kernel
theorem dX8_law_123 : decode cX8_law 123 = .ok (.aload_n 3, 1) := by decide +kernel
theorem dX8_law_124 : decode cX8_law 124 = .ok (.aastore, 1) := by decide +kernel
theorem dX8_law_125 : decode cX8_law 125 = .ok (.aload_n 0, 1) := by decide +kernel
theorem dX8_law_126 : decode cX8_law 126 = .ok (.getfield 26, 3) := by decide +kernel
theorem dX8_law_129 : decode cX8_law 129 = .ok (.iload_n 1, 1) := by decide +kernel
theorem dX8_law_130 : decode cX8_law 130 = .ok (.dup2, 1) := by decide +kernel
theorem dX8_law_131 : decode cX8_law 131 = .ok (.iaload, 1) := by decide +kernel
theorem dX8_law_132 : decode cX8_law 132 = .ok (.iconst 1, 1) := by decide +kernel
theorem dX8_law_133 : decode cX8_law 133 = .ok (.iadd, 1) := by decide +kernel
theorem dX8_law_134 : decode cX8_law 134 = .ok (.iastore, 1) := by decide +kernel
theorem dX8_law_135 : decode cX8_law 135 = .ok (.aload_n 0, 1) := by decide +kernel
theorem dX8_law_136 : decode cX8_law 136 = .ok (.getfield 26, 3) := by decide +kernel
theorem dX8_law_139 : decode cX8_law 139 = .ok (.iload_n 1, 1) := by decide +kernel
theorem dX8_law_140 : decode cX8_law 140 = .ok (.iaload, 1) := by decide +kernel
theorem dX8_law_141 : decode cX8_law 141 = .ok (.ireturn, 1) := by decide +kernel
theorem dX8_fault_0 : decode cX8_fault 0 = .ok (.iload_n 1, 1) := by decide +kernel
theorem dX8_fault_1 : decode cX8_fault 1 = .ok (.ifCond .ne 8, 3) := by decide +kernel
theorem dX8_fault_4 : decode cX8_fault 4 = .ok (.aload_n 0, 1) := by decide +kernel
theorem dX8_fault_5 : decode cX8_fault 5 = .ok (.getfield 110, 3) := by decide +kernel
theorem dX8_fault_8 : decode cX8_fault 8 = .ok (.ireturn, 1) := by decide +kernel
theorem dX8_fault_9 : decode cX8_fault 9 = .ok (.iload_n 1, 1) := by decide +kernel
theorem dX8_fault_10 : decode cX8_fault 10 = .ok (.iconst 1, 1) := by decide +kernel
theorem dX8_fault_11 : decode cX8_fault 11 = .ok (.if_icmp .ne 10, 3) := by decide +kernel
theorem dX8_fault_14 : decode cX8_fault 14 = .ok (.aload_n 0, 1) := by decide +kernel
theorem dX8_fault_15 : decode cX8_fault 15 = .ok (.getfield 30, 3) := by decide +kernel
theorem dX8_fault_18 : decode cX8_fault 18 = .ok (.goto 4, 3) := by decide +kernel
theorem dX8_fault_21 : decode cX8_fault 21 = .ok (.iconst (-1), 1) := by decide +kernel
theorem dX8_fault_22 : decode cX8_fault 22 = .ok (.ireturn, 1) := by decide +kernel
theorem dX8_lawOn_0 : decode cX8_lawOn 0 = .ok (.iload_n 1, 1) := by decide +kernel
theorem dX8_lawOn_1 : decode cX8_lawOn 1 = .ok (.invokestatic 81, 3) := by decide +kernel
theorem dX8_lawOn_4 : decode cX8_lawOn 4 = .ok (.ifCond .ne 5, 3) := by decide +kernel
theorem dX8_lawOn_7 : decode cX8_lawOn 7 = .ok (.iconst (-1), 1) := by decide +kernel
theorem dX8_lawOn_8 : decode cX8_lawOn 8 = .ok (.ireturn, 1) := by decide +kernel
theorem dX8_lawOn_9 : decode cX8_lawOn 9 = .ok (.iconst (-1), 1) := by decide +kernel
theorem dX8_lawOn_10 : decode cX8_lawOn 10 = .ok (.istore_n 3, 1) := by decide +kernel
theorem dX8_lawOn_11 : decode cX8_lawOn 11 = .ok (.iconst (-1), 1) := by decide +kernel
theorem dX8_lawOn_12 : decode cX8_lawOn 12 = .ok (.istore 4, 2) := by decide +kernel
theorem dX8_lawOn_14 : decode cX8_lawOn 14 = .ok (.iconst 0, 1) := by decide +kernel
theorem dX8_lawOn_15 : decode cX8_lawOn 15 = .ok (.istore 5, 2) := by decide +kernel
theorem dX8_lawOn_17 : decode cX8_lawOn 17 = .ok (.iload 5, 2) := by decide +kernel
theorem dX8_lawOn_19 : decode cX8_lawOn 19 = .ok (.aload_n 0, 1) := by decide +kernel
theorem dX8_lawOn_20 : decode cX8_lawOn 20 = .ok (.getfield 26, 3) := by decide +kernel
theorem dX8_lawOn_23 : decode cX8_lawOn 23 = .ok (.iload_n 1, 1) := by decide +kernel
theorem dX8_lawOn_24 : decode cX8_lawOn 24 = .ok (.iaload, 1) := by decide +kernel
theorem dX8_lawOn_25 : decode cX8_lawOn 25 = .ok (.if_icmp .ge 56, 3) := by decide +kernel
theorem dX8_lawOn_28 : decode cX8_lawOn 28 = .ok (.aload_n 0, 1) := by decide +kernel
theorem dX8_lawOn_29 : decode cX8_lawOn 29 = .ok (.getfield 22, 3) := by decide +kernel
theorem dX8_lawOn_32 : decode cX8_lawOn 32 = .ok (.iload_n 1, 1) := by decide +kernel
theorem dX8_lawOn_33 : decode cX8_lawOn 33 = .ok (.iconst 4, 1) := by decide +kernel
theorem dX8_lawOn_34 : decode cX8_lawOn 34 = .ok (.imul, 1) := by decide +kernel
theorem dX8_lawOn_35 : decode cX8_lawOn 35 = .ok (.iload 5, 2) := by decide +kernel
theorem dX8_lawOn_37 : decode cX8_lawOn 37 = .ok (.iadd, 1) := by decide +kernel
theorem dX8_lawOn_38 : decode cX8_lawOn 38 = .ok (.aaload, 1) := by decide +kernel
theorem dX8_lawOn_39 : decode cX8_lawOn 39 = .ok (.astore 6, 2) := by decide +kernel
theorem dX8_lawOn_41 : decode cX8_lawOn 41 = .ok (.aload 6, 2) := by decide +kernel
theorem dX8_lawOn_43 : decode cX8_lawOn 43 = .ok (.ifnull 32, 3) := by decide +kernel
theorem dX8_lawOn_46 : decode cX8_lawOn 46 = .ok (.aload 6, 2) := by decide +kernel
theorem dX8_lawOn_48 : decode cX8_lawOn 48 = .ok (.getfield 116, 3) := by decide +kernel
theorem dX8_lawOn_51 : decode cX8_lawOn 51 = .ok (.iload_n 2, 1) := by decide +kernel
theorem dX8_lawOn_52 : decode cX8_lawOn 52 = .ok (.if_icmp .gt 23, 3) := by decide +kernel
theorem dX8_lawOn_55 : decode cX8_lawOn 55 = .ok (.aload 6, 2) := by decide +kernel
theorem dX8_lawOn_57 : decode cX8_lawOn 57 = .ok (.getfield 116, 3) := by decide +kernel
theorem dX8_lawOn_60 : decode cX8_lawOn 60 = .ok (.iload 4, 2) := by decide +kernel
theorem dX8_lawOn_62 : decode cX8_lawOn 62 = .ok (.if_icmp .lt 13, 3) := by decide +kernel
theorem dX8_lawOn_65 : decode cX8_lawOn 65 = .ok (.iload 5, 2) := by decide +kernel
theorem dX8_lawOn_67 : decode cX8_lawOn 67 = .ok (.istore_n 3, 1) := by decide +kernel
theorem dX8_lawOn_68 : decode cX8_lawOn 68 = .ok (.aload 6, 2) := by decide +kernel
theorem dX8_lawOn_70 : decode cX8_lawOn 70 = .ok (.getfield 116, 3) := by decide +kernel
theorem dX8_lawOn_73 : decode cX8_lawOn 73 = .ok (.istore 4, 2) := by decide +kernel
theorem dX8_lawOn_75 : decode cX8_lawOn 75 = .ok (.iinc 5 1, 3) := by decide +kernel
theorem dX8_lawOn_78 : decode cX8_lawOn 78 = .ok (.goto (-61), 3) := by decide +kernel
theorem dX8_lawOn_81 : decode cX8_lawOn 81 = .ok (.iload_n 3, 1) := by decide +kernel
theorem dX8_lawOn_82 : decode cX8_lawOn 82 = .ok (.ireturn, 1) := by decide +kernel
theorem dX8_person_0 : decode cX8_person 0 = .ok (.iload_n 1, 1) := by decide +kernel
theorem dX8_person_1 : decode cX8_person 1 = .ok (.invokestatic 81, 3) := by decide +kernel
theorem dX8_person_4 : decode cX8_person 4 = .ok (.ifCond .eq 25, 3) := by decide +kernel
theorem dX8_person_7 : decode cX8_person 7 = .ok (.aload_n 0, 1) := by decide +kernel
theorem dX8_person_8 : decode cX8_person 8 = .ok (.getfield 37, 3) := by decide +kernel
theorem dX8_person_11 : decode cX8_person 11 = .ok (.iload_n 2, 1) := by decide +kernel
theorem dX8_person_12 : decode cX8_person 12 = .ok (.invokevirtual 119, 3) := by decide +kernel
theorem dX8_person_15 : decode cX8_person 15 = .ok (.ifCond .eq 14, 3) := by decide +kernel
theorem dX8_person_18 : decode cX8_person 18 = .ok (.aload_n 0, 1) := by decide +kernel
theorem dX8_person_19 : decode cX8_person 19 = .ok (.getfield 37, 3) := by decide +kernel
theorem dX8_person_22 : decode cX8_person 22 = .ok (.iload_n 3, 1) := by decide +kernel
theorem dX8_person_23 : decode cX8_person 23 = .ok (.invokevirtual 119, 3) := by decide +kernel
theorem dX8_person_26 : decode cX8_person 26 = .ok (.ifCond .ne 5, 3) := by decide +kernel
theorem dX8_person_29 : decode cX8_person 29 = .ok (.iconst (-1), 1) := by decide +kernel
theorem dX8_person_30 : decode cX8_person 30 = .ok (.ireturn, 1) := by decide +kernel
theorem dX8_person_31 : decode cX8_person 31 = .ok (.aload_n 0, 1) := by decide +kernel
theorem dX8_person_32 : decode cX8_person 32 = .ok (.getfield 37, 3) := by decide +kernel
theorem dX8_person_35 : decode cX8_person 35 = .ok (.iload_n 1, 1) := by decide +kernel
theorem dX8_person_36 : decode cX8_person 36 = .ok (.iload_n 2, 1) := by decide +kernel
theorem dX8_person_37 : decode cX8_person 37 = .ok (.iload_n 3, 1) := by decide +kernel
theorem dX8_person_38 : decode cX8_person 38 = .ok (.invokevirtual 122, 3) := by decide +kernel
theorem dX8_person_41 : decode cX8_person 41 = .ok (.ireturn, 1) := by decide +kernel
theorem dX8_degree_0 : decode cX8_degree 0 = .ok (.aload_n 0, 1) := by decide +kernel
theorem dX8_degree_1 : decode cX8_degree 1 = .ok (.getfield 37, 3) := by decide +kernel
theorem dX8_degree_4 : decode cX8_degree 4 = .ok (.iload_n 1, 1) := by decide +kernel
theorem dX8_degree_5 : decode cX8_degree 5 = .ok (.iload_n 2, 1) := by decide +kernel
theorem dX8_degree_6 : decode cX8_degree 6 = .ok (.invokevirtual 126, 3) := by decide +kernel
theorem dX8_degree_9 : decode cX8_degree 9 = .ok (.ireturn, 1) := by decide +kernel
theorem dX8_rank_0 : decode cX8_rank 0 = .ok (.aload_n 0, 1) := by decide +kernel
theorem dX8_rank_1 : decode cX8_rank 1 = .ok (.getfield 37, 3) := by decide +kernel
theorem dX8_rank_4 : decode cX8_rank 4 = .ok (.iload_n 1, 1) := by decide +kernel
theorem dX8_rank_5 : decode cX8_rank 5 = .ok (.invokevirtual 130, 3) := by decide +kernel
theorem dX8_rank_8 : decode cX8_rank 8 = .ok (.ifCond .eq 19, 3) := by decide +kernel
theorem dX8_rank_11 : decode cX8_rank 11 = .ok (.iload_n 2, 1) := by decide +kernel
theorem dX8_rank_12 : decode cX8_rank 12 = .ok (.ifCond .lt 15, 3) := by decide +kernel
theorem dX8_rank_15 : decode cX8_rank 15 = .ok (.iload_n 2, 1) := by decide +kernel
theorem dX8_rank_16 : decode cX8_rank 16 = .ok (.iconst 3, 1) := by decide +kernel
theorem dX8_rank_17 : decode cX8_rank 17 = .ok (.if_icmp .gt 10, 3) := by decide +kernel
theorem dX8_rank_20 : decode cX8_rank 20 = .ok (.iload_n 3, 1) := by decide +kernel
theorem dX8_rank_21 : decode cX8_rank 21 = .ok (.invokestatic 85, 3) := by decide +kernel
theorem dX8_rank_24 : decode cX8_rank 24 = .ok (.ifCond .ne 5, 3) := by decide +kernel
theorem dX8_rank_27 : decode cX8_rank 27 = .ok (.iconst (-1), 1) := by decide +kernel
theorem dX8_rank_28 : decode cX8_rank 28 = .ok (.ireturn, 1) := by decide +kernel
theorem dX8_rank_29 : decode cX8_rank 29 = .ok (.aload_n 0, 1) := by decide +kernel
theorem dX8_rank_30 : decode cX8_rank 30 = .ok (.getfield 44, 3) := by decide +kernel
theorem dX8_rank_33 : decode cX8_rank 33 = .ok (.iload_n 1, 1) := by decide +kernel
theorem dX8_rank_34 : decode cX8_rank 34 = .ok (.iload_n 2, 1) := by decide +kernel
theorem dX8_rank_35 : decode cX8_rank 35 = .ok (.iload_n 3, 1) := by decide +kernel
theorem dX8_rank_36 : decode cX8_rank 36 = .ok (.aload_n 0, 1) := by decide +kernel
theorem dX8_rank_37 : decode cX8_rank 37 = .ok (.getfield 133, 3) := by decide +kernel
theorem dX8_rank_40 : decode cX8_rank 40 = .ok (.invokevirtual 136, 3) := by decide +kernel
theorem dX8_rank_43 : decode cX8_rank 43 = .ok (.ireturn, 1) := by decide +kernel
theorem dX8_ranked_0 : decode cX8_ranked 0 = .ok (.aload_n 0, 1) := by decide +kernel
theorem dX8_ranked_1 : decode cX8_ranked 1 = .ok (.getfield 37, 3) := by decide +kernel
theorem dX8_ranked_4 : decode cX8_ranked 4 = .ok (.iload_n 1, 1) := by decide +kernel
theorem dX8_ranked_5 : decode cX8_ranked 5 = .ok (.invokevirtual 130, 3) := by decide +kernel
theorem dX8_ranked_8 : decode cX8_ranked 8 = .ok (.ifCond .eq 16, 3) := by decide +kernel
theorem dX8_ranked_11 : decode cX8_ranked 11 = .ok (.aload_n 0, 1) := by decide +kernel
theorem dX8_ranked_12 : decode cX8_ranked 12 = .ok (.getfield 44, 3) := by decide +kernel
theorem dX8_ranked_15 : decode cX8_ranked 15 = .ok (.iload_n 1, 1) := by decide +kernel
theorem dX8_ranked_16 : decode cX8_ranked 16 = .ok (.iload_n 2, 1) := by decide +kernel
theorem dX8_ranked_17 : decode cX8_ranked 17 = .ok (.iload_n 3, 1) := by decide +kernel
theorem dX8_ranked_18 : decode cX8_ranked 18 = .ok (.invokevirtual 139, 3) := by decide +kernel
theorem dX8_ranked_21 : decode cX8_ranked 21 = .ok (.goto 4, 3) := by decide +kernel
theorem dX8_ranked_24 : decode cX8_ranked 24 = .ok (.iconst (-1), 1) := by decide +kernel
theorem dX8_ranked_25 : decode cX8_ranked 25 = .ok (.ireturn, 1) := by decide +kernel
theorem dX8_dead_0 : decode cX8_dead 0 = .ok (.iload_n 2, 1) := by decide +kernel
theorem dX8_dead_1 : decode cX8_dead 1 = .ok (.invokestatic 85, 3) := by decide +kernel
theorem dX8_dead_4 : decode cX8_dead 4 = .ok (.ifCond .eq 19, 3) := by decide +kernel
theorem dX8_dead_7 : decode cX8_dead 7 = .ok (.aload_n 0, 1) := by decide +kernel
theorem dX8_dead_8 : decode cX8_dead 8 = .ok (.getfield 37, 3) := by decide +kernel
theorem dX8_dead_11 : decode cX8_dead 11 = .ok (.iload_n 1, 1) := by decide +kernel
theorem dX8_dead_12 : decode cX8_dead 12 = .ok (.iload_n 2, 1) := by decide +kernel
theorem dX8_dead_13 : decode cX8_dead 13 = .ok (.invokevirtual 142, 3) := by decide +kernel
theorem dX8_dead_16 : decode cX8_dead 16 = .ok (.ifCond .eq 7, 3) := by decide +kernel
theorem dX8_dead_19 : decode cX8_dead 19 = .ok (.iconst 1, 1) := by decide +kernel
theorem dX8_dead_20 : decode cX8_dead 20 = .ok (.goto 4, 3) := by decide +kernel
theorem dX8_dead_23 : decode cX8_dead 23 = .ok (.iconst 0, 1) := by decide +kernel
theorem dX8_dead_24 : decode cX8_dead 24 = .ok (.ireturn, 1) := by decide +kernel
theorem dX8_truce_0 : decode cX8_truce 0 = .ok (.iload_n 1, 1) := by decide +kernel
theorem dX8_truce_1 : decode cX8_truce 1 = .ok (.invokestatic 81, 3) := by decide +kernel
theorem dX8_truce_4 : decode cX8_truce 4 = .ok (.ifCond .eq 31, 3) := by decide +kernel
theorem dX8_truce_7 : decode cX8_truce 7 = .ok (.iload_n 2, 1) := by decide +kernel
theorem dX8_truce_8 : decode cX8_truce 8 = .ok (.invokestatic 81, 3) := by decide +kernel
theorem dX8_truce_11 : decode cX8_truce 11 = .ok (.ifCond .eq 24, 3) := by decide +kernel
theorem dX8_truce_14 : decode cX8_truce 14 = .ok (.iload_n 3, 1) := by decide +kernel
theorem dX8_truce_15 : decode cX8_truce 15 = .ok (.invokestatic 85, 3) := by decide +kernel
theorem dX8_truce_18 : decode cX8_truce 18 = .ok (.ifCond .eq 17, 3) := by decide +kernel
theorem dX8_truce_21 : decode cX8_truce 21 = .ok (.iload 4, 2) := by decide +kernel
theorem dX8_truce_23 : decode cX8_truce 23 = .ok (.invokestatic 85, 3) := by decide +kernel
theorem dX8_truce_26 : decode cX8_truce 26 = .ok (.ifCond .eq 9, 3) := by decide +kernel
theorem dX8_truce_29 : decode cX8_truce 29 = .ok (.iload_n 3, 1) := by decide +kernel
theorem dX8_truce_30 : decode cX8_truce 30 = .ok (.iload 4, 2) := by decide +kernel
theorem dX8_truce_32 : decode cX8_truce 32 = .ok (.if_icmp .le 5, 3) := by decide +kernel
theorem dX8_truce_35 : decode cX8_truce 35 = .ok (.iconst (-1), 1) := by decide +kernel
theorem dX8_truce_36 : decode cX8_truce 36 = .ok (.ireturn, 1) := by decide +kernel
theorem dX8_truce_37 : decode cX8_truce 37 = .ok (.aload_n 0, 1) := by decide +kernel
theorem dX8_truce_38 : decode cX8_truce 38 = .ok (.getfield 51, 3) := by decide +kernel
theorem dX8_truce_41 : decode cX8_truce 41 = .ok (.iload_n 1, 1) := by decide +kernel
theorem dX8_truce_42 : decode cX8_truce 42 = .ok (.iload_n 2, 1) := by decide +kernel
theorem dX8_truce_43 : decode cX8_truce 43 = .ok (.iload_n 3, 1) := by decide +kernel
theorem dX8_truce_44 : decode cX8_truce 44 = .ok (.iload 4, 2) := by decide +kernel
theorem dX8_truce_46 : decode cX8_truce 46 = .ok (.invokevirtual 146, 3) := by decide +kernel
theorem dX8_truce_49 : decode cX8_truce 49 = .ok (.ireturn, 1) := by decide +kernel
theorem dX8_later_0 : decode cX8_later 0 = .ok (.iload_n 1, 1) := by decide +kernel
theorem dX8_later_1 : decode cX8_later 1 = .ok (.ifCond .lt 21, 3) := by decide +kernel
theorem dX8_later_4 : decode cX8_later 4 = .ok (.iload_n 1, 1) := by decide +kernel
theorem dX8_later_5 : decode cX8_later 5 = .ok (.sipush 1000, 3) := by decide +kernel
theorem dX8_later_8 : decode cX8_later 8 = .ok (.if_icmp .gt 14, 3) := by decide +kernel
theorem dX8_later_11 : decode cX8_later 11 = .ok (.aload_n 0, 1) := by decide +kernel
theorem dX8_later_12 : decode cX8_later 12 = .ok (.getfield 133, 3) := by decide +kernel
theorem dX8_later_15 : decode cX8_later 15 = .ok (.iload_n 1, 1) := by decide +kernel
theorem dX8_later_16 : decode cX8_later 16 = .ok (.iadd, 1) := by decide +kernel
theorem dX8_later_17 : decode cX8_later 17 = .ok (.ldc 147, 2) := by decide +kernel
theorem dX8_later_19 : decode cX8_later 19 = .ok (.if_icmp .le 5, 3) := by decide +kernel
theorem dX8_later_22 : decode cX8_later 22 = .ok (.iconst (-1), 1) := by decide +kernel
theorem dX8_later_23 : decode cX8_later 23 = .ok (.ireturn, 1) := by decide +kernel
theorem dX8_later_24 : decode cX8_later 24 = .ok (.aload_n 0, 1) := by decide +kernel
theorem dX8_later_25 : decode cX8_later 25 = .ok (.dup, 1) := by decide +kernel
theorem dX8_later_26 : decode cX8_later 26 = .ok (.getfield 133, 3) := by decide +kernel
theorem dX8_later_29 : decode cX8_later 29 = .ok (.iload_n 1, 1) := by decide +kernel
theorem dX8_later_30 : decode cX8_later 30 = .ok (.iadd, 1) := by decide +kernel
theorem dX8_later_31 : decode cX8_later 31 = .ok (.putfield 133, 3) := by decide +kernel
theorem dX8_later_34 : decode cX8_later 34 = .ok (.aload_n 0, 1) := by decide +kernel
theorem dX8_later_35 : decode cX8_later 35 = .ok (.getfield 133, 3) := by decide +kernel
theorem dX8_later_38 : decode cX8_later 38 = .ok (.ireturn, 1) := by decide +kernel
theorem dX8_hurt_0 : decode cX8_hurt 0 = .ok (.aload_n 0, 1) := by decide +kernel
theorem dX8_hurt_1 : decode cX8_hurt 1 = .ok (.getfield 37, 3) := by decide +kernel
theorem dX8_hurt_4 : decode cX8_hurt 4 = .ok (.iload_n 1, 1) := by decide +kernel
theorem dX8_hurt_5 : decode cX8_hurt 5 = .ok (.invokevirtual 130, 3) := by decide +kernel
theorem dX8_hurt_8 : decode cX8_hurt 8 = .ok (.ifCond .eq 26, 3) := by decide +kernel
theorem dX8_hurt_11 : decode cX8_hurt 11 = .ok (.aload_n 0, 1) := by decide +kernel
theorem dX8_hurt_12 : decode cX8_hurt 12 = .ok (.getfield 37, 3) := by decide +kernel
theorem dX8_hurt_15 : decode cX8_hurt 15 = .ok (.iload_n 2, 1) := by decide +kernel
theorem dX8_hurt_16 : decode cX8_hurt 16 = .ok (.invokevirtual 130, 3) := by decide +kernel
theorem dX8_hurt_19 : decode cX8_hurt 19 = .ok (.ifCond .eq 15, 3) := by decide +kernel
theorem dX8_hurt_22 : decode cX8_hurt 22 = .ok (.iload_n 1, 1) := by decide +kernel
theorem dX8_hurt_23 : decode cX8_hurt 23 = .ok (.iload_n 2, 1) := by decide +kernel
theorem dX8_hurt_24 : decode cX8_hurt 24 = .ok (.if_icmp .eq 10, 3) := by decide +kernel
theorem dX8_hurt_27 : decode cX8_hurt 27 = .ok (.lload_n 3, 1) := by decide +kernel
theorem dX8_hurt_28 : decode cX8_hurt 28 = .ok (.invokestatic 148, 3) := by decide +kernel
theorem dX8_hurt_31 : decode cX8_hurt 31 = .ok (.ifCond .ne 5, 3) := by decide +kernel
theorem dX8_hurt_34 : decode cX8_hurt 34 = .ok (.iconst (-1), 1) := by decide +kernel
theorem dX8_hurt_35 : decode cX8_hurt 35 = .ok (.ireturn, 1) := by decide +kernel
theorem dX8_hurt_36 : decode cX8_hurt 36 = .ok (.iload 5, 2) := by decide +kernel
theorem dX8_hurt_38 : decode cX8_hurt 38 = .ok (.ifCond .lt 32, 3) := by decide +kernel
theorem dX8_hurt_41 : decode cX8_hurt 41 = .ok (.iload 5, 2) := by decide +kernel
theorem dX8_hurt_43 : decode cX8_hurt 43 = .ok (.aload_n 0, 1) := by decide +kernel
theorem dX8_hurt_44 : decode cX8_hurt 44 = .ok (.getfield 133, 3) := by decide +kernel
theorem dX8_hurt_47 : decode cX8_hurt 47 = .ok (.if_icmp .gt 23, 3) := by decide +kernel
theorem dX8_hurt_50 : decode cX8_hurt 50 = .ok (.iload 6, 2) := by decide +kernel
theorem dX8_hurt_52 : decode cX8_hurt 52 = .ok (.ifCond .lt 18, 3) := by decide +kernel
theorem dX8_hurt_55 : decode cX8_hurt 55 = .ok (.iload 6, 2) := by decide +kernel
theorem dX8_hurt_57 : decode cX8_hurt 57 = .ok (.iconst 3, 1) := by decide +kernel
theorem dX8_hurt_58 : decode cX8_hurt 58 = .ok (.if_icmp .gt 12, 3) := by decide +kernel
theorem dX8_hurt_61 : decode cX8_hurt 61 = .ok (.aload_n 0, 1) := by decide +kernel
theorem dX8_hurt_62 : decode cX8_hurt 62 = .ok (.getfield 152, 3) := by decide +kernel
theorem dX8_hurt_65 : decode cX8_hurt 65 = .ok (.bipush 20, 2) := by decide +kernel
theorem dX8_hurt_67 : decode cX8_hurt 67 = .ok (.if_icmp .lt 5, 3) := by decide +kernel
theorem dX8_hurt_70 : decode cX8_hurt 70 = .ok (.iconst (-1), 1) := by decide +kernel
theorem dX8_hurt_71 : decode cX8_hurt 71 = .ok (.ireturn, 1) := by decide +kernel
theorem dX8_hurt_72 : decode cX8_hurt 72 = .ok (.aload_n 0, 1) := by decide +kernel
theorem dX8_hurt_73 : decode cX8_hurt 73 = .ok (.getfield 57, 3) := by decide +kernel
theorem dX8_hurt_76 : decode cX8_hurt 76 = .ok (.aload_n 0, 1) := by decide +kernel
theorem dX8_hurt_77 : decode cX8_hurt 77 = .ok (.getfield 152, 3) := by decide +kernel
theorem dX8_hurt_80 : decode cX8_hurt 80 = .ok (.new 55, 3) := by decide +kernel
theorem dX8_hurt_83 : decode cX8_hurt 83 = .ok (.dup, 1) := by decide +kernel
theorem dX8_hurt_84 : decode cX8_hurt 84 = .ok (.iload_n 1, 1) := by decide +kernel
theorem dX8_hurt_85 : decode cX8_hurt 85 = .ok (.iload_n 2, 1) := by decide +kernel
theorem dX8_hurt_86 : decode cX8_hurt 86 = .ok (.lload_n 3, 1) := by decide +kernel
theorem dX8_hurt_87 : decode cX8_hurt 87 = .ok (.iload 5, 2) := by decide +kernel
theorem dX8_hurt_89 : decode cX8_hurt 89 = .ok (.iload 6, 2) := by decide +kernel
theorem dX8_hurt_91 : decode cX8_hurt 91 = .ok (.iload 7, 2) := by decide +kernel
theorem dX8_hurt_93 : decode cX8_hurt 93 = .ok (.invokespecial 155, 3) := by decide +kernel
theorem dX8_hurt_96 : decode cX8_hurt 96 = .ok (.aastore, 1) := by decide +kernel
theorem dX8_hurt_97 : decode cX8_hurt 97 = .ok (.aload_n 0, 1) := by decide +kernel
theorem dX8_hurt_98 : decode cX8_hurt 98 = .ok (.dup, 1) := by decide +kernel
theorem dX8_hurt_99 : decode cX8_hurt 99 = .ok (.getfield 152, 3) := by decide +kernel
theorem dX8_hurt_102 : decode cX8_hurt 102 = .ok (.iconst 1, 1) := by decide +kernel
theorem dX8_hurt_103 : decode cX8_hurt 103 = .ok (.iadd, 1) := by decide +kernel
theorem dX8_hurt_104 : decode cX8_hurt 104 = .ok (.putfield 152, 3) := by decide +kernel
theorem dX8_hurt_107 : decode cX8_hurt 107 = .ok (.aload_n 0, 1) := by decide +kernel
theorem dX8_hurt_108 : decode cX8_hurt 108 = .ok (.getfield 152, 3) := by decide +kernel
theorem dX8_hurt_111 : decode cX8_hurt 111 = .ok (.iconst 1, 1) := by decide +kernel
theorem dX8_hurt_112 : decode cX8_hurt 112 = .ok (.isub, 1) := by decide +kernel
theorem dX8_hurt_113 : decode cX8_hurt 113 = .ok (.ireturn, 1) := by decide +kernel
theorem dX8_sum_0 : decode cX8_sum 0 = .ok (.aload_n 0, 1) := by decide +kernel
theorem dX8_sum_1 : decode cX8_sum 1 = .ok (.iload_n 1, 1) := by decide +kernel
theorem dX8_sum_2 : decode cX8_sum 2 = .ok (.invokevirtual 158, 3) := by decide +kernel
theorem dX8_sum_5 : decode cX8_sum 5 = .ok (.astore_n 3, 1) := by decide +kernel
theorem dX8_sum_6 : decode cX8_sum 6 = .ok (.aload_n 3, 1) := by decide +kernel
theorem dX8_sum_7 : decode cX8_sum 7 = .ok (.ifnonnull 7, 3) := by decide +kernel
theorem dX8_sum_10 : decode cX8_sum 10 = .ok (.iconst (-1), 1) := by decide +kernel
theorem dX8_sum_11 : decode cX8_sum 11 = .ok (.goto 9, 3) := by decide +kernel
theorem dX8_sum_14 : decode cX8_sum 14 = .ok (.aload_n 0, 1) := by decide +kernel
theorem dX8_sum_15 : decode cX8_sum 15 = .ok (.aload_n 3, 1) := by decide +kernel
theorem dX8_sum_16 : decode cX8_sum 16 = .ok (.iload_n 2, 1) := by decide +kernel
theorem dX8_sum_17 : decode cX8_sum 17 = .ok (.invokevirtual 162, 3) := by decide +kernel
theorem dX8_sum_20 : decode cX8_sum 20 = .ok (.ireturn, 1) := by decide +kernel
theorem dX8_oath_0 : decode cX8_oath 0 = .ok (.aload_n 0, 1) := by decide +kernel
theorem dX8_oath_1 : decode cX8_oath 1 = .ok (.iload_n 1, 1) := by decide +kernel
theorem dX8_oath_2 : decode cX8_oath 2 = .ok (.invokevirtual 158, 3) := by decide +kernel
theorem dX8_oath_5 : decode cX8_oath 5 = .ok (.astore_n 3, 1) := by decide +kernel
theorem dX8_oath_6 : decode cX8_oath 6 = .ok (.aload_n 3, 1) := by decide +kernel
theorem dX8_oath_7 : decode cX8_oath 7 = .ok (.ifnull 19, 3) := by decide +kernel
theorem dX8_oath_10 : decode cX8_oath 10 = .ok (.aload_n 3, 1) := by decide +kernel
theorem dX8_oath_11 : decode cX8_oath 11 = .ok (.getfield 166, 3) := by decide +kernel
theorem dX8_oath_14 : decode cX8_oath 14 = .ok (.iconst (-1), 1) := by decide +kernel
theorem dX8_oath_15 : decode cX8_oath 15 = .ok (.if_icmp .ne 11, 3) := by decide +kernel
theorem dX8_oath_18 : decode cX8_oath 18 = .ok (.aload_n 3, 1) := by decide +kernel
theorem dX8_oath_19 : decode cX8_oath 19 = .ok (.getfield 169, 3) := by decide +kernel
theorem dX8_oath_22 : decode cX8_oath 22 = .ok (.iconst (-1), 1) := by decide +kernel
theorem dX8_oath_23 : decode cX8_oath 23 = .ok (.if_icmp .eq 5, 3) := by decide +kernel
theorem dX8_oath_26 : decode cX8_oath 26 = .ok (.iconst (-1), 1) := by decide +kernel
theorem dX8_oath_27 : decode cX8_oath 27 = .ok (.ireturn, 1) := by decide +kernel
theorem dX8_oath_28 : decode cX8_oath 28 = .ok (.aload_n 0, 1) := by decide +kernel
theorem dX8_oath_29 : decode cX8_oath 29 = .ok (.aload_n 3, 1) := by decide +kernel
theorem dX8_oath_30 : decode cX8_oath 30 = .ok (.invokevirtual 172, 3) := by decide +kernel
theorem dX8_oath_33 : decode cX8_oath 33 = .ok (.astore 4, 2) := by decide +kernel
theorem dX8_oath_35 : decode cX8_oath 35 = .ok (.aload 4, 2) := by decide +kernel
theorem dX8_oath_37 : decode cX8_oath 37 = .ok (.ifnonnull 5, 3) := by decide +kernel
theorem dX8_oath_40 : decode cX8_oath 40 = .ok (.iconst (-1), 1) := by decide +kernel
theorem dX8_oath_41 : decode cX8_oath 41 = .ok (.ireturn, 1) := by decide +kernel
theorem dX8_oath_42 : decode cX8_oath 42 = .ok (.aload_n 0, 1) := by decide +kernel
theorem dX8_oath_43 : decode cX8_oath 43 = .ok (.aload_n 3, 1) := by decide +kernel
theorem dX8_oath_44 : decode cX8_oath 44 = .ok (.aload 4, 2) := by decide +kernel
theorem dX8_oath_46 : decode cX8_oath 46 = .ok (.iload_n 2, 1) := by decide +kernel
theorem dX8_oath_47 : decode cX8_oath 47 = .ok (.invokevirtual 176, 3) := by decide +kernel
theorem dX8_oath_50 : decode cX8_oath 50 = .ok (.ifCond .ne 5, 3) := by decide +kernel
theorem dX8_oath_53 : decode cX8_oath 53 = .ok (.iconst 0, 1) := by decide +kernel
theorem dX8_oath_54 : decode cX8_oath 54 = .ok (.ireturn, 1) := by decide +kernel
theorem dX8_oath_55 : decode cX8_oath 55 = .ok (.aload_n 3, 1) := by decide +kernel
theorem dX8_oath_56 : decode cX8_oath 56 = .ok (.aload_n 0, 1) := by decide +kernel
theorem dX8_oath_57 : decode cX8_oath 57 = .ok (.getfield 133, 3) := by decide +kernel
theorem dX8_oath_60 : decode cX8_oath 60 = .ok (.putfield 166, 3) := by decide +kernel
theorem dX8_oath_63 : decode cX8_oath 63 = .ok (.iconst 1, 1) := by decide +kernel
theorem dX8_oath_64 : decode cX8_oath 64 = .ok (.ireturn, 1) := by decide +kernel
theorem dX8_of_0 : decode cX8_of 0 = .ok (.aload_n 0, 1) := by decide +kernel
theorem dX8_of_1 : decode cX8_of 1 = .ok (.iload_n 1, 1) := by decide +kernel
theorem dX8_of_2 : decode cX8_of 2 = .ok (.invokevirtual 158, 3) := by decide +kernel
theorem dX8_of_5 : decode cX8_of 5 = .ok (.astore_n 3, 1) := by decide +kernel
theorem dX8_of_6 : decode cX8_of 6 = .ok (.aload_n 3, 1) := by decide +kernel
theorem dX8_of_7 : decode cX8_of 7 = .ok (.ifnonnull 5, 3) := by decide +kernel
theorem dX8_of_10 : decode cX8_of 10 = .ok (.iconst (-1), 1) := by decide +kernel
theorem dX8_of_11 : decode cX8_of 11 = .ok (.ireturn, 1) := by decide +kernel
theorem dX8_of_12 : decode cX8_of 12 = .ok (.iload_n 2, 1) := by decide +kernel
theorem dX8_of_13 : decode cX8_of 13 = .ok (.tableswitch 78 0 5 #[39, 44, 49, 54, 68, 73], 39) := by decide +kernel
theorem dX8_of_52 : decode cX8_of 52 = .ok (.aload_n 3, 1) := by decide +kernel
theorem dX8_of_53 : decode cX8_of 53 = .ok (.getfield 180, 3) := by decide +kernel
theorem dX8_of_56 : decode cX8_of 56 = .ok (.ireturn, 1) := by decide +kernel
theorem dX8_of_57 : decode cX8_of 57 = .ok (.aload_n 3, 1) := by decide +kernel
theorem dX8_of_58 : decode cX8_of 58 = .ok (.getfield 183, 3) := by decide +kernel
theorem dX8_of_61 : decode cX8_of 61 = .ok (.ireturn, 1) := by decide +kernel
theorem dX8_of_62 : decode cX8_of 62 = .ok (.aload_n 3, 1) := by decide +kernel
theorem dX8_of_63 : decode cX8_of 63 = .ok (.getfield 186, 3) := by decide +kernel
theorem dX8_of_66 : decode cX8_of 66 = .ok (.ireturn, 1) := by decide +kernel
theorem dX8_of_67 : decode cX8_of 67 = .ok (.aload_n 0, 1) := by decide +kernel
theorem dX8_of_68 : decode cX8_of 68 = .ok (.aload_n 3, 1) := by decide +kernel
theorem dX8_of_69 : decode cX8_of 69 = .ok (.invokevirtual 189, 3) := by decide +kernel
theorem dX8_of_72 : decode cX8_of 72 = .ok (.ifCond .eq 7, 3) := by decide +kernel
theorem dX8_of_75 : decode cX8_of 75 = .ok (.iconst 1, 1) := by decide +kernel
theorem dX8_of_76 : decode cX8_of 76 = .ok (.goto 4, 3) := by decide +kernel
theorem dX8_of_79 : decode cX8_of 79 = .ok (.iconst 0, 1) := by decide +kernel
theorem dX8_of_80 : decode cX8_of 80 = .ok (.ireturn, 1) := by decide +kernel
theorem dX8_of_81 : decode cX8_of 81 = .ok (.aload_n 3, 1) := by decide +kernel
theorem dX8_of_82 : decode cX8_of 82 = .ok (.getfield 166, 3) := by decide +kernel
theorem dX8_of_85 : decode cX8_of 85 = .ok (.ireturn, 1) := by decide +kernel
theorem dX8_of_86 : decode cX8_of 86 = .ok (.aload_n 3, 1) := by decide +kernel
theorem dX8_of_87 : decode cX8_of 87 = .ok (.getfield 169, 3) := by decide +kernel
theorem dX8_of_90 : decode cX8_of 90 = .ok (.ireturn, 1) := by decide +kernel
theorem dX8_of_91 : decode cX8_of 91 = .ok (.iconst (-1), 1) := by decide +kernel
theorem dX8_of_92 : decode cX8_of 92 = .ok (.ireturn, 1) := by decide +kernel
theorem dX8_pays_0 : decode cX8_pays 0 = .ok (.aload_n 0, 1) := by decide +kernel
theorem dX8_pays_1 : decode cX8_pays 1 = .ok (.iload_n 1, 1) := by decide +kernel
theorem dX8_pays_2 : decode cX8_pays 2 = .ok (.invokevirtual 158, 3) := by decide +kernel
theorem dX8_pays_5 : decode cX8_pays 5 = .ok (.astore 4, 2) := by decide +kernel
theorem dX8_pays_7 : decode cX8_pays 7 = .ok (.aload 4, 2) := by decide +kernel
theorem dX8_pays_9 : decode cX8_pays 9 = .ok (.ifnonnull 7, 3) := by decide +kernel
theorem dX8_pays_12 : decode cX8_pays 12 = .ok (.iconst (-1), 1) := by decide +kernel
theorem dX8_pays_13 : decode cX8_pays 13 = .ok (.goto 21, 3) := by decide +kernel
theorem dX8_pays_16 : decode cX8_pays 16 = .ok (.aload_n 0, 1) := by decide +kernel
theorem dX8_pays_17 : decode cX8_pays 17 = .ok (.aload 4, 2) := by decide +kernel
theorem dX8_pays_19 : decode cX8_pays 19 = .ok (.iload_n 2, 1) := by decide +kernel
theorem dX8_pays_20 : decode cX8_pays 20 = .ok (.iload_n 3, 1) := by decide +kernel
theorem dX8_pays_21 : decode cX8_pays 21 = .ok (.aload 4, 2) := by decide +kernel
theorem dX8_pays_23 : decode cX8_pays 23 = .ok (.getfield 180, 3) := by decide +kernel
theorem dX8_pays_26 : decode cX8_pays 26 = .ok (.aload 4, 2) := by decide +kernel
theorem dX8_pays_28 : decode cX8_pays 28 = .ok (.getfield 183, 3) := by decide +kernel
theorem dX8_pays_31 : decode cX8_pays 31 = .ok (.invokevirtual 193, 3) := by decide +kernel
theorem dX8_pays_34 : decode cX8_pays 34 = .ok (.ireturn, 1) := by decide +kernel
theorem dX8_has_0 : decode cX8_has 0 = .ok (.aload_n 0, 1) := by decide +kernel
theorem dX8_has_1 : decode cX8_has 1 = .ok (.iload_n 1, 1) := by decide +kernel
theorem dX8_has_2 : decode cX8_has 2 = .ok (.invokevirtual 158, 3) := by decide +kernel
theorem dX8_has_5 : decode cX8_has 5 = .ok (.astore 4, 2) := by decide +kernel
theorem dX8_has_7 : decode cX8_has 7 = .ok (.aload 4, 2) := by decide +kernel
theorem dX8_has_9 : decode cX8_has 9 = .ok (.ifnonnull 7, 3) := by decide +kernel
theorem dX8_has_12 : decode cX8_has 12 = .ok (.iconst (-1), 1) := by decide +kernel
theorem dX8_has_13 : decode cX8_has 13 = .ok (.goto 21, 3) := by decide +kernel
theorem dX8_has_16 : decode cX8_has 16 = .ok (.aload_n 0, 1) := by decide +kernel
theorem dX8_has_17 : decode cX8_has 17 = .ok (.aload 4, 2) := by decide +kernel
theorem dX8_has_19 : decode cX8_has 19 = .ok (.iload_n 2, 1) := by decide +kernel
theorem dX8_has_20 : decode cX8_has 20 = .ok (.iload_n 3, 1) := by decide +kernel
theorem dX8_has_21 : decode cX8_has 21 = .ok (.aload 4, 2) := by decide +kernel
theorem dX8_has_23 : decode cX8_has 23 = .ok (.getfield 183, 3) := by decide +kernel
theorem dX8_has_26 : decode cX8_has 26 = .ok (.aload 4, 2) := by decide +kernel
theorem dX8_has_28 : decode cX8_has 28 = .ok (.getfield 180, 3) := by decide +kernel
theorem dX8_has_31 : decode cX8_has 31 = .ok (.invokevirtual 193, 3) := by decide +kernel
theorem dX8_has_34 : decode cX8_has 34 = .ok (.ireturn, 1) := by decide +kernel
theorem dX8_judge_0 : decode cX8_judge 0 = .ok (.aload_n 0, 1) := by decide +kernel
theorem dX8_judge_1 : decode cX8_judge 1 = .ok (.iload_n 1, 1) := by decide +kernel
theorem dX8_judge_2 : decode cX8_judge 2 = .ok (.invokevirtual 158, 3) := by decide +kernel
theorem dX8_judge_5 : decode cX8_judge 5 = .ok (.astore_n 2, 1) := by decide +kernel
theorem dX8_judge_6 : decode cX8_judge 6 = .ok (.aload_n 2, 1) := by decide +kernel
theorem dX8_judge_7 : decode cX8_judge 7 = .ok (.ifnull 11, 3) := by decide +kernel
theorem dX8_judge_10 : decode cX8_judge 10 = .ok (.aload_n 2, 1) := by decide +kernel
theorem dX8_judge_11 : decode cX8_judge 11 = .ok (.getfield 169, 3) := by decide +kernel
theorem dX8_judge_14 : decode cX8_judge 14 = .ok (.iconst (-1), 1) := by decide +kernel
theorem dX8_judge_15 : decode cX8_judge 15 = .ok (.if_icmp .eq 5, 3) := by decide +kernel
theorem dX8_judge_18 : decode cX8_judge 18 = .ok (.iconst (-1), 1) := by decide +kernel
theorem dX8_judge_19 : decode cX8_judge 19 = .ok (.ireturn, 1) := by decide +kernel
theorem dX8_judge_20 : decode cX8_judge 20 = .ok (.aload_n 0, 1) := by decide +kernel
theorem dX8_judge_21 : decode cX8_judge 21 = .ok (.aload_n 2, 1) := by decide +kernel
theorem dX8_judge_22 : decode cX8_judge 22 = .ok (.invokevirtual 172, 3) := by decide +kernel
theorem dX8_judge_25 : decode cX8_judge 25 = .ok (.astore_n 3, 1) := by decide +kernel
theorem dX8_judge_26 : decode cX8_judge 26 = .ok (.aload_n 0, 1) := by decide +kernel
theorem dX8_judge_27 : decode cX8_judge 27 = .ok (.aload_n 2, 1) := by decide +kernel
theorem dX8_judge_28 : decode cX8_judge 28 = .ok (.aload_n 0, 1) := by decide +kernel
theorem dX8_judge_29 : decode cX8_judge 29 = .ok (.getfield 133, 3) := by decide +kernel
theorem dX8_judge_32 : decode cX8_judge 32 = .ok (.invokevirtual 162, 3) := by decide +kernel
theorem dX8_judge_35 : decode cX8_judge 35 = .ok (.istore 4, 2) := by decide +kernel
theorem dX8_judge_37 : decode cX8_judge 37 = .ok (.aload_n 3, 1) := by decide +kernel
theorem dX8_judge_38 : decode cX8_judge 38 = .ok (.ifnull 9, 3) := by decide +kernel
theorem dX8_judge_41 : decode cX8_judge 41 = .ok (.iload 4, 2) := by decide +kernel
theorem dX8_judge_43 : decode cX8_judge 43 = .ok (.iconst (-1), 1) := by decide +kernel
theorem dX8_judge_44 : decode cX8_judge 44 = .ok (.if_icmp .ne 5, 3) := by decide +kernel
theorem dX8_judge_47 : decode cX8_judge 47 = .ok (.iconst (-1), 1) := by decide +kernel
