theorem dX8_judge_48 : decode cX8_judge 48 = .ok (.ireturn, 1) := by decide +kernel
theorem dX8_judge_49 : decode cX8_judge 49 = .ok (.aload_n 2, 1) := by decide +kernel
theorem dX8_judge_50 : decode cX8_judge 50 = .ok (.aload_n 0, 1) := by decide +kernel
theorem dX8_judge_51 : decode cX8_judge 51 = .ok (.getfield 133, 3) := by decide +kernel
theorem dX8_judge_54 : decode cX8_judge 54 = .ok (.putfield 169, 3) := by decide +kernel
theorem dX8_judge_57 : decode cX8_judge 57 = .ok (.aload_n 2, 1) := by decide +kernel
theorem dX8_judge_58 : decode cX8_judge 58 = .ok (.iload 4, 2) := by decide +kernel
theorem dX8_judge_60 : decode cX8_judge 60 = .ok (.putfield 197, 3) := by decide +kernel
theorem dX8_judge_63 : decode cX8_judge 63 = .ok (.aload_n 2, 1) := by decide +kernel
theorem dX8_judge_64 : decode cX8_judge 64 = .ok (.aload_n 3, 1) := by decide +kernel
theorem dX8_judge_65 : decode cX8_judge 65 = .ok (.getfield 200, 3) := by decide +kernel
theorem dX8_judge_68 : decode cX8_judge 68 = .ok (.putfield 203, 3) := by decide +kernel
theorem dX8_judge_71 : decode cX8_judge 71 = .ok (.aload_n 2, 1) := by decide +kernel
theorem dX8_judge_72 : decode cX8_judge 72 = .ok (.aload_n 3, 1) := by decide +kernel
theorem dX8_judge_73 : decode cX8_judge 73 = .ok (.getfield 204, 3) := by decide +kernel
theorem dX8_judge_76 : decode cX8_judge 76 = .ok (.putfield 207, 3) := by decide +kernel
theorem dX8_judge_79 : decode cX8_judge 79 = .ok (.iload 4, 2) := by decide +kernel
theorem dX8_judge_81 : decode cX8_judge 81 = .ok (.ireturn, 1) := by decide +kernel
theorem dX8_rate_0 : decode cX8_rate 0 = .ok (.iload_n 1, 1) := by decide +kernel
theorem dX8_rate_1 : decode cX8_rate 1 = .ok (.invokestatic 208, 3) := by decide +kernel
theorem dX8_rate_4 : decode cX8_rate 4 = .ok (.ifCond .eq 23, 3) := by decide +kernel
theorem dX8_rate_7 : decode cX8_rate 7 = .ok (.iload_n 2, 1) := by decide +kernel
theorem dX8_rate_8 : decode cX8_rate 8 = .ok (.ifCond .lt 19, 3) := by decide +kernel
theorem dX8_rate_11 : decode cX8_rate 11 = .ok (.iload_n 2, 1) := by decide +kernel
theorem dX8_rate_12 : decode cX8_rate 12 = .ok (.sipush 1000, 3) := by decide +kernel
theorem dX8_rate_15 : decode cX8_rate 15 = .ok (.if_icmp .gt 12, 3) := by decide +kernel
theorem dX8_rate_18 : decode cX8_rate 18 = .ok (.aload_n 0, 1) := by decide +kernel
theorem dX8_rate_19 : decode cX8_rate 19 = .ok (.getfield 211, 3) := by decide +kernel
theorem dX8_rate_22 : decode cX8_rate 22 = .ok (.bipush 100, 2) := by decide +kernel
theorem dX8_rate_24 : decode cX8_rate 24 = .ok (.if_icmp .lt 5, 3) := by decide +kernel
theorem dX8_rate_27 : decode cX8_rate 27 = .ok (.iconst 0, 1) := by decide +kernel
theorem dX8_rate_28 : decode cX8_rate 28 = .ok (.ireturn, 1) := by decide +kernel
theorem dX8_rate_29 : decode cX8_rate 29 = .ok (.aload_n 0, 1) := by decide +kernel
theorem dX8_rate_30 : decode cX8_rate 30 = .ok (.getfield 68, 3) := by decide +kernel
theorem dX8_rate_33 : decode cX8_rate 33 = .ok (.iload_n 1, 1) := by decide +kernel
theorem dX8_rate_34 : decode cX8_rate 34 = .ok (.iload_n 2, 1) := by decide +kernel
theorem dX8_rate_35 : decode cX8_rate 35 = .ok (.iastore, 1) := by decide +kernel
theorem dX8_rate_36 : decode cX8_rate 36 = .ok (.aload_n 0, 1) := by decide +kernel
theorem dX8_rate_37 : decode cX8_rate 37 = .ok (.dup, 1) := by decide +kernel
theorem dX8_rate_38 : decode cX8_rate 38 = .ok (.getfield 211, 3) := by decide +kernel
theorem dX8_rate_41 : decode cX8_rate 41 = .ok (.iconst 1, 1) := by decide +kernel
theorem dX8_rate_42 : decode cX8_rate 42 = .ok (.iadd, 1) := by decide +kernel
theorem dX8_rate_43 : decode cX8_rate 43 = .ok (.putfield 211, 3) := by decide +kernel
theorem dX8_rate_46 : decode cX8_rate 46 = .ok (.iconst 1, 1) := by decide +kernel
theorem dX8_rate_47 : decode cX8_rate 47 = .ok (.ireturn, 1) := by decide +kernel
theorem dX8_pay_0 : decode cX8_pay 0 = .ok (.aload_n 0, 1) := by decide +kernel
theorem dX8_pay_1 : decode cX8_pay 1 = .ok (.iload_n 1, 1) := by decide +kernel
theorem dX8_pay_2 : decode cX8_pay 2 = .ok (.invokevirtual 158, 3) := by decide +kernel
theorem dX8_pay_5 : decode cX8_pay 5 = .ok (.astore 4, 2) := by decide +kernel
theorem dX8_pay_7 : decode cX8_pay 7 = .ok (.aload 4, 2) := by decide +kernel
theorem dX8_pay_9 : decode cX8_pay 9 = .ok (.ifnull 12, 3) := by decide +kernel
theorem dX8_pay_12 : decode cX8_pay 12 = .ok (.aload 4, 2) := by decide +kernel
theorem dX8_pay_14 : decode cX8_pay 14 = .ok (.getfield 169, 3) := by decide +kernel
theorem dX8_pay_17 : decode cX8_pay 17 = .ok (.iconst (-1), 1) := by decide +kernel
theorem dX8_pay_18 : decode cX8_pay 18 = .ok (.if_icmp .ne 5, 3) := by decide +kernel
theorem dX8_pay_21 : decode cX8_pay 21 = .ok (.iconst (-1), 1) := by decide +kernel
theorem dX8_pay_22 : decode cX8_pay 22 = .ok (.ireturn, 1) := by decide +kernel
theorem dX8_pay_23 : decode cX8_pay 23 = .ok (.iload_n 2, 1) := by decide +kernel
theorem dX8_pay_24 : decode cX8_pay 24 = .ok (.invokestatic 208, 3) := by decide +kernel
theorem dX8_pay_27 : decode cX8_pay 27 = .ok (.ifCond .eq 15, 3) := by decide +kernel
theorem dX8_pay_30 : decode cX8_pay 30 = .ok (.iload_n 3, 1) := by decide +kernel
theorem dX8_pay_31 : decode cX8_pay 31 = .ok (.iconst 1, 1) := by decide +kernel
theorem dX8_pay_32 : decode cX8_pay 32 = .ok (.if_icmp .lt 10, 3) := by decide +kernel
theorem dX8_pay_35 : decode cX8_pay 35 = .ok (.iload_n 3, 1) := by decide +kernel
theorem dX8_pay_36 : decode cX8_pay 36 = .ok (.sipush 1000, 3) := by decide +kernel
theorem dX8_pay_39 : decode cX8_pay 39 = .ok (.if_icmp .le 5, 3) := by decide +kernel
theorem dX8_pay_42 : decode cX8_pay 42 = .ok (.iconst (-1), 1) := by decide +kernel
theorem dX8_pay_43 : decode cX8_pay 43 = .ok (.ireturn, 1) := by decide +kernel
theorem dX8_pay_44 : decode cX8_pay 44 = .ok (.aload_n 0, 1) := by decide +kernel
theorem dX8_pay_45 : decode cX8_pay 45 = .ok (.getfield 64, 3) := by decide +kernel
theorem dX8_pay_48 : decode cX8_pay 48 = .ok (.iload_n 1, 1) := by decide +kernel
theorem dX8_pay_49 : decode cX8_pay 49 = .ok (.aload_n 0, 1) := by decide +kernel
theorem dX8_pay_50 : decode cX8_pay 50 = .ok (.getfield 133, 3) := by decide +kernel
theorem dX8_pay_53 : decode cX8_pay 53 = .ok (.aload_n 0, 1) := by decide +kernel
theorem dX8_pay_54 : decode cX8_pay 54 = .ok (.getfield 68, 3) := by decide +kernel
theorem dX8_pay_57 : decode cX8_pay 57 = .ok (.iload_n 2, 1) := by decide +kernel
theorem dX8_pay_58 : decode cX8_pay 58 = .ok (.iaload, 1) := by decide +kernel
theorem dX8_pay_59 : decode cX8_pay 59 = .ok (.iload_n 3, 1) := by decide +kernel
theorem dX8_pay_60 : decode cX8_pay 60 = .ok (.imul, 1) := by decide +kernel
theorem dX8_pay_61 : decode cX8_pay 61 = .ok (.invokevirtual 214, 3) := by decide +kernel
theorem dX8_pay_64 : decode cX8_pay 64 = .ok (.ireturn, 1) := by decide +kernel
theorem dX8_owed_0 : decode cX8_owed 0 = .ok (.aload_n 0, 1) := by decide +kernel
theorem dX8_owed_1 : decode cX8_owed 1 = .ok (.iload_n 1, 1) := by decide +kernel
theorem dX8_owed_2 : decode cX8_owed 2 = .ok (.invokevirtual 158, 3) := by decide +kernel
theorem dX8_owed_5 : decode cX8_owed 5 = .ok (.astore_n 3, 1) := by decide +kernel
theorem dX8_owed_6 : decode cX8_owed 6 = .ok (.aload_n 3, 1) := by decide +kernel
theorem dX8_owed_7 : decode cX8_owed 7 = .ok (.ifnull 27, 3) := by decide +kernel
theorem dX8_owed_10 : decode cX8_owed 10 = .ok (.aload_n 3, 1) := by decide +kernel
theorem dX8_owed_11 : decode cX8_owed 11 = .ok (.getfield 169, 3) := by decide +kernel
theorem dX8_owed_14 : decode cX8_owed 14 = .ok (.iconst (-1), 1) := by decide +kernel
theorem dX8_owed_15 : decode cX8_owed 15 = .ok (.if_icmp .eq 19, 3) := by decide +kernel
theorem dX8_owed_18 : decode cX8_owed 18 = .ok (.iload_n 2, 1) := by decide +kernel
theorem dX8_owed_19 : decode cX8_owed 19 = .ok (.aload_n 3, 1) := by decide +kernel
theorem dX8_owed_20 : decode cX8_owed 20 = .ok (.getfield 169, 3) := by decide +kernel
theorem dX8_owed_23 : decode cX8_owed 23 = .ok (.if_icmp .lt 11, 3) := by decide +kernel
theorem dX8_owed_26 : decode cX8_owed 26 = .ok (.iload_n 2, 1) := by decide +kernel
theorem dX8_owed_27 : decode cX8_owed 27 = .ok (.aload_n 0, 1) := by decide +kernel
theorem dX8_owed_28 : decode cX8_owed 28 = .ok (.getfield 133, 3) := by decide +kernel
theorem dX8_owed_31 : decode cX8_owed 31 = .ok (.if_icmp .le 6, 3) := by decide +kernel
theorem dX8_owed_34 : decode cX8_owed 34 = .ok (.ldc 215, 2) := by decide +kernel
theorem dX8_owed_36 : decode cX8_owed 36 = .ok (.ireturn, 1) := by decide +kernel
theorem dX8_owed_37 : decode cX8_owed 37 = .ok (.aload_n 0, 1) := by decide +kernel
theorem dX8_owed_38 : decode cX8_owed 38 = .ok (.aload_n 3, 1) := by decide +kernel
theorem dX8_owed_39 : decode cX8_owed 39 = .ok (.iload_n 1, 1) := by decide +kernel
theorem dX8_owed_40 : decode cX8_owed 40 = .ok (.iload_n 2, 1) := by decide +kernel
theorem dX8_owed_41 : decode cX8_owed 41 = .ok (.invokevirtual 216, 3) := by decide +kernel
theorem dX8_owed_44 : decode cX8_owed 44 = .ok (.ireturn, 1) := by decide +kernel
theorem dX8_about_0 : decode cX8_about 0 = .ok (.iload_n 1, 1) := by decide +kernel
theorem dX8_about_1 : decode cX8_about 1 = .ok (.tableswitch 99 0 7 #[47, 52, 60, 68, 76, 81, 89, 94], 47) := by decide +kernel
theorem dX8_about_48 : decode cX8_about 48 = .ok (.aload_n 0, 1) := by decide +kernel
theorem dX8_about_49 : decode cX8_about 49 = .ok (.getfield 133, 3) := by decide +kernel
theorem dX8_about_52 : decode cX8_about 52 = .ok (.ireturn, 1) := by decide +kernel
theorem dX8_about_53 : decode cX8_about 53 = .ok (.aload_n 0, 1) := by decide +kernel
theorem dX8_about_54 : decode cX8_about 54 = .ok (.getfield 37, 3) := by decide +kernel
theorem dX8_about_57 : decode cX8_about 57 = .ok (.getfield 220, 3) := by decide +kernel
theorem dX8_about_60 : decode cX8_about 60 = .ok (.ireturn, 1) := by decide +kernel
theorem dX8_about_61 : decode cX8_about 61 = .ok (.aload_n 0, 1) := by decide +kernel
theorem dX8_about_62 : decode cX8_about 62 = .ok (.getfield 44, 3) := by decide +kernel
theorem dX8_about_65 : decode cX8_about 65 = .ok (.getfield 221, 3) := by decide +kernel
theorem dX8_about_68 : decode cX8_about 68 = .ok (.ireturn, 1) := by decide +kernel
theorem dX8_about_69 : decode cX8_about 69 = .ok (.aload_n 0, 1) := by decide +kernel
theorem dX8_about_70 : decode cX8_about 70 = .ok (.getfield 51, 3) := by decide +kernel
theorem dX8_about_73 : decode cX8_about 73 = .ok (.getfield 222, 3) := by decide +kernel
theorem dX8_about_76 : decode cX8_about 76 = .ok (.ireturn, 1) := by decide +kernel
theorem dX8_about_77 : decode cX8_about 77 = .ok (.aload_n 0, 1) := by decide +kernel
theorem dX8_about_78 : decode cX8_about 78 = .ok (.getfield 152, 3) := by decide +kernel
theorem dX8_about_81 : decode cX8_about 81 = .ok (.ireturn, 1) := by decide +kernel
theorem dX8_about_82 : decode cX8_about 82 = .ok (.aload_n 0, 1) := by decide +kernel
theorem dX8_about_83 : decode cX8_about 83 = .ok (.getfield 64, 3) := by decide +kernel
theorem dX8_about_86 : decode cX8_about 86 = .ok (.getfield 223, 3) := by decide +kernel
theorem dX8_about_89 : decode cX8_about 89 = .ok (.ireturn, 1) := by decide +kernel
theorem dX8_about_90 : decode cX8_about 90 = .ok (.aload_n 0, 1) := by decide +kernel
theorem dX8_about_91 : decode cX8_about 91 = .ok (.getfield 211, 3) := by decide +kernel
theorem dX8_about_94 : decode cX8_about 94 = .ok (.ireturn, 1) := by decide +kernel
theorem dX8_about_95 : decode cX8_about 95 = .ok (.aload_n 0, 1) := by decide +kernel
theorem dX8_about_96 : decode cX8_about 96 = .ok (.getfield 74, 3) := by decide +kernel
theorem dX8_about_99 : decode cX8_about 99 = .ok (.ireturn, 1) := by decide +kernel
theorem dX8_about_100 : decode cX8_about 100 = .ok (.iload_n 1, 1) := by decide +kernel
theorem dX8_about_101 : decode cX8_about 101 = .ok (.bipush 10, 2) := by decide +kernel
theorem dX8_about_103 : decode cX8_about 103 = .ok (.if_icmp .lt 25, 3) := by decide +kernel
theorem dX8_about_106 : decode cX8_about 106 = .ok (.iload_n 1, 1) := by decide +kernel
theorem dX8_about_107 : decode cX8_about 107 = .ok (.bipush 10, 2) := by decide +kernel
theorem dX8_about_109 : decode cX8_about 109 = .ok (.isub, 1) := by decide +kernel
theorem dX8_about_110 : decode cX8_about 110 = .ok (.invokestatic 81, 3) := by decide +kernel
theorem dX8_about_113 : decode cX8_about 113 = .ok (.ifCond .eq 15, 3) := by decide +kernel
theorem dX8_about_116 : decode cX8_about 116 = .ok (.aload_n 0, 1) := by decide +kernel
theorem dX8_about_117 : decode cX8_about 117 = .ok (.getfield 26, 3) := by decide +kernel
theorem dX8_about_120 : decode cX8_about 120 = .ok (.iload_n 1, 1) := by decide +kernel
theorem dX8_about_121 : decode cX8_about 121 = .ok (.bipush 10, 2) := by decide +kernel
theorem dX8_about_123 : decode cX8_about 123 = .ok (.isub, 1) := by decide +kernel
theorem dX8_about_124 : decode cX8_about 124 = .ok (.iaload, 1) := by decide +kernel
theorem dX8_about_125 : decode cX8_about 125 = .ok (.goto 4, 3) := by decide +kernel
theorem dX8_about_128 : decode cX8_about 128 = .ok (.iconst (-1), 1) := by decide +kernel
theorem dX8_about_129 : decode cX8_about 129 = .ok (.ireturn, 1) := by decide +kernel
theorem dX8_isFolk_0 : decode cX8_isFolk 0 = .ok (.iload_n 0, 1) := by decide +kernel
theorem dX8_isFolk_1 : decode cX8_isFolk 1 = .ok (.ifCond .lt 12, 3) := by decide +kernel
theorem dX8_isFolk_4 : decode cX8_isFolk 4 = .ok (.iload_n 0, 1) := by decide +kernel
theorem dX8_isFolk_5 : decode cX8_isFolk 5 = .ok (.iconst 4, 1) := by decide +kernel
theorem dX8_isFolk_6 : decode cX8_isFolk 6 = .ok (.if_icmp .ge 7, 3) := by decide +kernel
theorem dX8_isFolk_9 : decode cX8_isFolk 9 = .ok (.iconst 1, 1) := by decide +kernel
theorem dX8_isFolk_10 : decode cX8_isFolk 10 = .ok (.goto 4, 3) := by decide +kernel
theorem dX8_isFolk_13 : decode cX8_isFolk 13 = .ok (.iconst 0, 1) := by decide +kernel
theorem dX8_isFolk_14 : decode cX8_isFolk 14 = .ok (.ireturn, 1) := by decide +kernel
theorem dX8_isDay_0 : decode cX8_isDay 0 = .ok (.iload_n 0, 1) := by decide +kernel
theorem dX8_isDay_1 : decode cX8_isDay 1 = .ok (.ifCond .lt 13, 3) := by decide +kernel
theorem dX8_isDay_4 : decode cX8_isDay 4 = .ok (.iload_n 0, 1) := by decide +kernel
theorem dX8_isDay_5 : decode cX8_isDay 5 = .ok (.ldc 147, 2) := by decide +kernel
theorem dX8_isDay_7 : decode cX8_isDay 7 = .ok (.if_icmp .gt 7, 3) := by decide +kernel
theorem dX8_isDay_10 : decode cX8_isDay 10 = .ok (.iconst 1, 1) := by decide +kernel
theorem dX8_isDay_11 : decode cX8_isDay 11 = .ok (.goto 4, 3) := by decide +kernel
theorem dX8_isDay_14 : decode cX8_isDay 14 = .ok (.iconst 0, 1) := by decide +kernel
theorem dX8_isDay_15 : decode cX8_isDay 15 = .ok (.ireturn, 1) := by decide +kernel
theorem dX8_isKind_0 : decode cX8_isKind 0 = .ok (.iload_n 0, 1) := by decide +kernel
theorem dX8_isKind_1 : decode cX8_isKind 1 = .ok (.ifCond .lt 12, 3) := by decide +kernel
theorem dX8_isKind_4 : decode cX8_isKind 4 = .ok (.iload_n 0, 1) := by decide +kernel
theorem dX8_isKind_5 : decode cX8_isKind 5 = .ok (.iconst 4, 1) := by decide +kernel
theorem dX8_isKind_6 : decode cX8_isKind 6 = .ok (.if_icmp .ge 7, 3) := by decide +kernel
theorem dX8_isKind_9 : decode cX8_isKind 9 = .ok (.iconst 1, 1) := by decide +kernel
theorem dX8_isKind_10 : decode cX8_isKind 10 = .ok (.goto 4, 3) := by decide +kernel
theorem dX8_isKind_13 : decode cX8_isKind 13 = .ok (.iconst 0, 1) := by decide +kernel
theorem dX8_isKind_14 : decode cX8_isKind 14 = .ok (.ireturn, 1) := by decide +kernel
theorem dX8_isLetter_0 : decode cX8_isLetter 0 = .ok (.iload_n 0, 1) := by decide +kernel
theorem dX8_isLetter_1 : decode cX8_isLetter 1 = .ok (.bipush 97, 2) := by decide +kernel
theorem dX8_isLetter_3 : decode cX8_isLetter 3 = .ok (.if_icmp .lt 13, 3) := by decide +kernel
theorem dX8_isLetter_6 : decode cX8_isLetter 6 = .ok (.iload_n 0, 1) := by decide +kernel
theorem dX8_isLetter_7 : decode cX8_isLetter 7 = .ok (.bipush 122, 2) := by decide +kernel
theorem dX8_isLetter_9 : decode cX8_isLetter 9 = .ok (.if_icmp .gt 7, 3) := by decide +kernel
theorem dX8_isLetter_12 : decode cX8_isLetter 12 = .ok (.iconst 1, 1) := by decide +kernel
theorem dX8_isLetter_13 : decode cX8_isLetter 13 = .ok (.goto 4, 3) := by decide +kernel
theorem dX8_isLetter_16 : decode cX8_isLetter 16 = .ok (.iconst 0, 1) := by decide +kernel
theorem dX8_isLetter_17 : decode cX8_isLetter 17 = .ok (.ireturn, 1) := by decide +kernel
theorem dX8_isName_0 : decode cX8_isName 0 = .ok (.iconst 0, 1) := by decide +kernel
theorem dX8_isName_1 : decode cX8_isName 1 = .ok (.istore_n 2, 1) := by decide +kernel
theorem dX8_isName_2 : decode cX8_isName 2 = .ok (.bipush 56, 2) := by decide +kernel
theorem dX8_isName_4 : decode cX8_isName 4 = .ok (.istore_n 3, 1) := by decide +kernel
theorem dX8_isName_5 : decode cX8_isName 5 = .ok (.iload_n 3, 1) := by decide +kernel
theorem dX8_isName_6 : decode cX8_isName 6 = .ok (.ifCond .lt 44, 3) := by decide +kernel
theorem dX8_isName_9 : decode cX8_isName 9 = .ok (.lload_n 0, 1) := by decide +kernel
theorem dX8_isName_10 : decode cX8_isName 10 = .ok (.iload_n 3, 1) := by decide +kernel
theorem dX8_isName_11 : decode cX8_isName 11 = .ok (.lushr, 1) := by decide +kernel
theorem dX8_isName_12 : decode cX8_isName 12 = .ok (.ldc2_w 224, 3) := by decide +kernel
theorem dX8_isName_15 : decode cX8_isName 15 = .ok (.land, 1) := by decide +kernel
theorem dX8_isName_16 : decode cX8_isName 16 = .ok (.l2i, 1) := by decide +kernel
theorem dX8_isName_17 : decode cX8_isName 17 = .ok (.istore 4, 2) := by decide +kernel
theorem dX8_isName_19 : decode cX8_isName 19 = .ok (.iload 4, 2) := by decide +kernel
theorem dX8_isName_21 : decode cX8_isName 21 = .ok (.invokestatic 226, 3) := by decide +kernel
theorem dX8_isName_24 : decode cX8_isName 24 = .ok (.ifCond .eq 9, 3) := by decide +kernel
theorem dX8_isName_27 : decode cX8_isName 27 = .ok (.iinc 2 1, 3) := by decide +kernel
theorem dX8_isName_30 : decode cX8_isName 30 = .ok (.goto 14, 3) := by decide +kernel
theorem dX8_isName_33 : decode cX8_isName 33 = .ok (.iload 4, 2) := by decide +kernel
theorem dX8_isName_35 : decode cX8_isName 35 = .ok (.ifCond .ne 7, 3) := by decide +kernel
theorem dX8_isName_38 : decode cX8_isName 38 = .ok (.iload_n 2, 1) := by decide +kernel
theorem dX8_isName_39 : decode cX8_isName 39 = .ok (.ifCond .le 5, 3) := by decide +kernel
theorem dX8_isName_42 : decode cX8_isName 42 = .ok (.iconst 0, 1) := by decide +kernel
theorem dX8_isName_43 : decode cX8_isName 43 = .ok (.ireturn, 1) := by decide +kernel
theorem dX8_isName_44 : decode cX8_isName 44 = .ok (.iinc 3 (-8), 3) := by decide +kernel
theorem dX8_isName_47 : decode cX8_isName 47 = .ok (.goto (-42), 3) := by decide +kernel
theorem dX8_isName_50 : decode cX8_isName 50 = .ok (.iload_n 2, 1) := by decide +kernel
theorem dX8_isName_51 : decode cX8_isName 51 = .ok (.ifCond .le 18, 3) := by decide +kernel
theorem dX8_isName_54 : decode cX8_isName 54 = .ok (.getstatic 229, 3) := by decide +kernel
theorem dX8_isName_57 : decode cX8_isName 57 = .ok (.lload_n 0, 1) := by decide +kernel
theorem dX8_isName_58 : decode cX8_isName 58 = .ok (.invokestatic 233, 3) := by decide +kernel
theorem dX8_isName_61 : decode cX8_isName 61 = .ok (.iconst (-1), 1) := by decide +kernel
theorem dX8_isName_62 : decode cX8_isName 62 = .ok (.if_icmp .ne 7, 3) := by decide +kernel
theorem dX8_isName_65 : decode cX8_isName 65 = .ok (.iconst 1, 1) := by decide +kernel
theorem dX8_isName_66 : decode cX8_isName 66 = .ok (.goto 4, 3) := by decide +kernel
theorem dX8_isName_69 : decode cX8_isName 69 = .ok (.iconst 0, 1) := by decide +kernel
theorem dX8_isName_70 : decode cX8_isName 70 = .ok (.ireturn, 1) := by decide +kernel
theorem dX8_placeIn_0 : decode cX8_placeIn 0 = .ok (.iconst 0, 1) := by decide +kernel
theorem dX8_placeIn_1 : decode cX8_placeIn 1 = .ok (.istore_n 3, 1) := by decide +kernel
theorem dX8_placeIn_2 : decode cX8_placeIn 2 = .ok (.iload_n 3, 1) := by decide +kernel
theorem dX8_placeIn_3 : decode cX8_placeIn 3 = .ok (.aload_n 0, 1) := by decide +kernel
theorem dX8_placeIn_4 : decode cX8_placeIn 4 = .ok (.arraylength, 1) := by decide +kernel
theorem dX8_placeIn_5 : decode cX8_placeIn 5 = .ok (.if_icmp .ge 19, 3) := by decide +kernel
theorem dX8_placeIn_8 : decode cX8_placeIn 8 = .ok (.aload_n 0, 1) := by decide +kernel
theorem dX8_placeIn_9 : decode cX8_placeIn 9 = .ok (.iload_n 3, 1) := by decide +kernel
theorem dX8_placeIn_10 : decode cX8_placeIn 10 = .ok (.laload, 1) := by decide +kernel
theorem dX8_placeIn_11 : decode cX8_placeIn 11 = .ok (.lload_n 1, 1) := by decide +kernel
theorem dX8_placeIn_12 : decode cX8_placeIn 12 = .ok (.lcmp, 1) := by decide +kernel
theorem dX8_placeIn_13 : decode cX8_placeIn 13 = .ok (.ifCond .ne 5, 3) := by decide +kernel
theorem dX8_placeIn_16 : decode cX8_placeIn 16 = .ok (.iload_n 3, 1) := by decide +kernel
theorem dX8_placeIn_17 : decode cX8_placeIn 17 = .ok (.ireturn, 1) := by decide +kernel
theorem dX8_placeIn_18 : decode cX8_placeIn 18 = .ok (.iinc 3 1, 3) := by decide +kernel
theorem dX8_placeIn_21 : decode cX8_placeIn 21 = .ok (.goto (-19), 3) := by decide +kernel
theorem dX8_placeIn_24 : decode cX8_placeIn 24 = .ok (.iconst (-1), 1) := by decide +kernel
theorem dX8_placeIn_25 : decode cX8_placeIn 25 = .ok (.ireturn, 1) := by decide +kernel
theorem dX8_caseAt_0 : decode cX8_caseAt 0 = .ok (.iload_n 1, 1) := by decide +kernel
theorem dX8_caseAt_1 : decode cX8_caseAt 1 = .ok (.ifCond .lt 20, 3) := by decide +kernel
theorem dX8_caseAt_4 : decode cX8_caseAt 4 = .ok (.iload_n 1, 1) := by decide +kernel
theorem dX8_caseAt_5 : decode cX8_caseAt 5 = .ok (.aload_n 0, 1) := by decide +kernel
theorem dX8_caseAt_6 : decode cX8_caseAt 6 = .ok (.getfield 152, 3) := by decide +kernel
theorem dX8_caseAt_9 : decode cX8_caseAt 9 = .ok (.if_icmp .ge 12, 3) := by decide +kernel
theorem dX8_caseAt_12 : decode cX8_caseAt 12 = .ok (.aload_n 0, 1) := by decide +kernel
theorem dX8_caseAt_13 : decode cX8_caseAt 13 = .ok (.getfield 57, 3) := by decide +kernel
theorem dX8_caseAt_16 : decode cX8_caseAt 16 = .ok (.iload_n 1, 1) := by decide +kernel
theorem dX8_caseAt_17 : decode cX8_caseAt 17 = .ok (.aaload, 1) := by decide +kernel
theorem dX8_caseAt_18 : decode cX8_caseAt 18 = .ok (.goto 4, 3) := by decide +kernel
theorem dX8_caseAt_21 : decode cX8_caseAt 21 = .ok (.aconst_null, 1) := by decide +kernel
theorem dX8_caseAt_22 : decode cX8_caseAt 22 = .ok (.areturn, 1) := by decide +kernel
theorem dX8_lawOfCase_0 : decode cX8_lawOfCase 0 = .ok (.aload_n 0, 1) := by decide +kernel
theorem dX8_lawOfCase_1 : decode cX8_lawOfCase 1 = .ok (.getfield 37, 3) := by decide +kernel
theorem dX8_lawOfCase_4 : decode cX8_lawOfCase 4 = .ok (.aload_n 1, 1) := by decide +kernel
theorem dX8_lawOfCase_5 : decode cX8_lawOfCase 5 = .ok (.getfield 183, 3) := by decide +kernel
theorem dX8_lawOfCase_8 : decode cX8_lawOfCase 8 = .ok (.invokevirtual 237, 3) := by decide +kernel
theorem dX8_lawOfCase_11 : decode cX8_lawOfCase 11 = .ok (.istore_n 2, 1) := by decide +kernel
theorem dX8_lawOfCase_12 : decode cX8_lawOfCase 12 = .ok (.aload_n 0, 1) := by decide +kernel
theorem dX8_lawOfCase_13 : decode cX8_lawOfCase 13 = .ok (.iload_n 2, 1) := by decide +kernel
theorem dX8_lawOfCase_14 : decode cX8_lawOfCase 14 = .ok (.aload_n 1, 1) := by decide +kernel
theorem dX8_lawOfCase_15 : decode cX8_lawOfCase 15 = .ok (.getfield 186, 3) := by decide +kernel
theorem dX8_lawOfCase_18 : decode cX8_lawOfCase 18 = .ok (.invokevirtual 241, 3) := by decide +kernel
theorem dX8_lawOfCase_21 : decode cX8_lawOfCase 21 = .ok (.istore_n 3, 1) := by decide +kernel
theorem dX8_lawOfCase_22 : decode cX8_lawOfCase 22 = .ok (.iload_n 3, 1) := by decide +kernel
theorem dX8_lawOfCase_23 : decode cX8_lawOfCase 23 = .ok (.iconst (-1), 1) := by decide +kernel
theorem dX8_lawOfCase_24 : decode cX8_lawOfCase 24 = .ok (.if_icmp .ne 7, 3) := by decide +kernel
theorem dX8_lawOfCase_27 : decode cX8_lawOfCase 27 = .ok (.aconst_null, 1) := by decide +kernel
theorem dX8_lawOfCase_28 : decode cX8_lawOfCase 28 = .ok (.goto 13, 3) := by decide +kernel
theorem dX8_lawOfCase_31 : decode cX8_lawOfCase 31 = .ok (.aload_n 0, 1) := by decide +kernel
theorem dX8_lawOfCase_32 : decode cX8_lawOfCase 32 = .ok (.getfield 22, 3) := by decide +kernel
theorem dX8_lawOfCase_35 : decode cX8_lawOfCase 35 = .ok (.iload_n 2, 1) := by decide +kernel
theorem dX8_lawOfCase_36 : decode cX8_lawOfCase 36 = .ok (.iconst 4, 1) := by decide +kernel
theorem dX8_lawOfCase_37 : decode cX8_lawOfCase 37 = .ok (.imul, 1) := by decide +kernel
theorem dX8_lawOfCase_38 : decode cX8_lawOfCase 38 = .ok (.iload_n 3, 1) := by decide +kernel
theorem dX8_lawOfCase_39 : decode cX8_lawOfCase 39 = .ok (.iadd, 1) := by decide +kernel
theorem dX8_lawOfCase_40 : decode cX8_lawOfCase 40 = .ok (.aaload, 1) := by decide +kernel
theorem dX8_lawOfCase_41 : decode cX8_lawOfCase 41 = .ok (.areturn, 1) := by decide +kernel
theorem dX8_truceBroken_0 : decode cX8_truceBroken 0 = .ok (.aload_n 0, 1) := by decide +kernel
theorem dX8_truceBroken_1 : decode cX8_truceBroken 1 = .ok (.getfield 51, 3) := by decide +kernel
theorem dX8_truceBroken_4 : decode cX8_truceBroken 4 = .ok (.aload_n 0, 1) := by decide +kernel
theorem dX8_truceBroken_5 : decode cX8_truceBroken 5 = .ok (.getfield 37, 3) := by decide +kernel
theorem dX8_truceBroken_8 : decode cX8_truceBroken 8 = .ok (.aload_n 1, 1) := by decide +kernel
theorem dX8_truceBroken_9 : decode cX8_truceBroken 9 = .ok (.getfield 180, 3) := by decide +kernel
theorem dX8_truceBroken_12 : decode cX8_truceBroken 12 = .ok (.invokevirtual 237, 3) := by decide +kernel
theorem dX8_truceBroken_15 : decode cX8_truceBroken 15 = .ok (.aload_n 0, 1) := by decide +kernel
theorem dX8_truceBroken_16 : decode cX8_truceBroken 16 = .ok (.getfield 37, 3) := by decide +kernel
theorem dX8_truceBroken_19 : decode cX8_truceBroken 19 = .ok (.aload_n 1, 1) := by decide +kernel
theorem dX8_truceBroken_20 : decode cX8_truceBroken 20 = .ok (.getfield 183, 3) := by decide +kernel
theorem dX8_truceBroken_23 : decode cX8_truceBroken 23 = .ok (.invokevirtual 237, 3) := by decide +kernel
theorem dX8_truceBroken_26 : decode cX8_truceBroken 26 = .ok (.aload_n 1, 1) := by decide +kernel
theorem dX8_truceBroken_27 : decode cX8_truceBroken 27 = .ok (.getfield 186, 3) := by decide +kernel
theorem dX8_truceBroken_30 : decode cX8_truceBroken 30 = .ok (.invokevirtual 244, 3) := by decide +kernel
theorem dX8_truceBroken_33 : decode cX8_truceBroken 33 = .ok (.ireturn, 1) := by decide +kernel
theorem dX8_sumAsKnown_0 : decode cX8_sumAsKnown 0 = .ok (.aload_n 0, 1) := by decide +kernel
theorem dX8_sumAsKnown_1 : decode cX8_sumAsKnown 1 = .ok (.aload_n 1, 1) := by decide +kernel
theorem dX8_sumAsKnown_2 : decode cX8_sumAsKnown 2 = .ok (.invokevirtual 172, 3) := by decide +kernel
theorem dX8_sumAsKnown_5 : decode cX8_sumAsKnown 5 = .ok (.astore_n 3, 1) := by decide +kernel
theorem dX8_sumAsKnown_6 : decode cX8_sumAsKnown 6 = .ok (.aload_n 3, 1) := by decide +kernel
theorem dX8_sumAsKnown_7 : decode cX8_sumAsKnown 7 = .ok (.ifnonnull 5, 3) := by decide +kernel
theorem dX8_sumAsKnown_10 : decode cX8_sumAsKnown 10 = .ok (.iconst (-1), 1) := by decide +kernel
theorem dX8_sumAsKnown_11 : decode cX8_sumAsKnown 11 = .ok (.ireturn, 1) := by decide +kernel
theorem dX8_sumAsKnown_12 : decode cX8_sumAsKnown 12 = .ok (.aload_n 3, 1) := by decide +kernel
theorem dX8_sumAsKnown_13 : decode cX8_sumAsKnown 13 = .ok (.getfield 248, 3) := by decide +kernel
theorem dX8_sumAsKnown_16 : decode cX8_sumAsKnown 16 = .ok (.aload_n 1, 1) := by decide +kernel
theorem dX8_sumAsKnown_17 : decode cX8_sumAsKnown 17 = .ok (.getfield 251, 3) := by decide +kernel
theorem dX8_sumAsKnown_20 : decode cX8_sumAsKnown 20 = .ok (.invokestatic 233, 3) := by decide +kernel
theorem dX8_sumAsKnown_23 : decode cX8_sumAsKnown 23 = .ok (.istore 4, 2) := by decide +kernel
theorem dX8_sumAsKnown_25 : decode cX8_sumAsKnown 25 = .ok (.iload 4, 2) := by decide +kernel
theorem dX8_sumAsKnown_27 : decode cX8_sumAsKnown 27 = .ok (.iconst (-1), 1) := by decide +kernel
theorem dX8_sumAsKnown_28 : decode cX8_sumAsKnown 28 = .ok (.if_icmp .ne 5, 3) := by decide +kernel
theorem dX8_sumAsKnown_31 : decode cX8_sumAsKnown 31 = .ok (.iconst (-1), 1) := by decide +kernel
theorem dX8_sumAsKnown_32 : decode cX8_sumAsKnown 32 = .ok (.ireturn, 1) := by decide +kernel
theorem dX8_sumAsKnown_33 : decode cX8_sumAsKnown 33 = .ok (.aload_n 1, 1) := by decide +kernel
theorem dX8_sumAsKnown_34 : decode cX8_sumAsKnown 34 = .ok (.getfield 166, 3) := by decide +kernel
theorem dX8_sumAsKnown_37 : decode cX8_sumAsKnown 37 = .ok (.iconst (-1), 1) := by decide +kernel
theorem dX8_sumAsKnown_38 : decode cX8_sumAsKnown 38 = .ok (.if_icmp .eq 13, 3) := by decide +kernel
theorem dX8_sumAsKnown_41 : decode cX8_sumAsKnown 41 = .ok (.iload_n 2, 1) := by decide +kernel
theorem dX8_sumAsKnown_42 : decode cX8_sumAsKnown 42 = .ok (.aload_n 1, 1) := by decide +kernel
theorem dX8_sumAsKnown_43 : decode cX8_sumAsKnown 43 = .ok (.getfield 166, 3) := by decide +kernel
theorem dX8_sumAsKnown_46 : decode cX8_sumAsKnown 46 = .ok (.if_icmp .lt 5, 3) := by decide +kernel
theorem dX8_sumAsKnown_49 : decode cX8_sumAsKnown 49 = .ok (.iconst 0, 1) := by decide +kernel
theorem dX8_sumAsKnown_50 : decode cX8_sumAsKnown 50 = .ok (.ireturn, 1) := by decide +kernel
theorem dX8_sumAsKnown_51 : decode cX8_sumAsKnown 51 = .ok (.aload_n 0, 1) := by decide +kernel
theorem dX8_sumAsKnown_52 : decode cX8_sumAsKnown 52 = .ok (.aload_n 1, 1) := by decide +kernel
theorem dX8_sumAsKnown_53 : decode cX8_sumAsKnown 53 = .ok (.iload_n 2, 1) := by decide +kernel
theorem dX8_sumAsKnown_54 : decode cX8_sumAsKnown 54 = .ok (.invokevirtual 255, 3) := by decide +kernel
theorem dX8_sumAsKnown_57 : decode cX8_sumAsKnown 57 = .ok (.aload_n 3, 1) := by decide +kernel
theorem dX8_sumAsKnown_58 : decode cX8_sumAsKnown 58 = .ok (.iload 4, 2) := by decide +kernel
theorem dX8_sumAsKnown_60 : decode cX8_sumAsKnown 60 = .ok (.aload_n 0, 1) := by decide +kernel
theorem dX8_sumAsKnown_61 : decode cX8_sumAsKnown 61 = .ok (.getfield 71, 3) := by decide +kernel
theorem dX8_sumAsKnown_64 : decode cX8_sumAsKnown 64 = .ok (.invokevirtual 259, 3) := by decide +kernel
theorem dX8_sumAsKnown_67 : decode cX8_sumAsKnown 67 = .ok (.ireturn, 1) := by decide +kernel
theorem dX8_gatherFacts_0 : decode cX8_gatherFacts 0 = .ok (.aload_n 0, 1) := by decide +kernel
theorem dX8_gatherFacts_1 : decode cX8_gatherFacts 1 = .ok (.getfield 37, 3) := by decide +kernel
theorem dX8_gatherFacts_4 : decode cX8_gatherFacts 4 = .ok (.aload_n 1, 1) := by decide +kernel
theorem dX8_gatherFacts_5 : decode cX8_gatherFacts 5 = .ok (.getfield 180, 3) := by decide +kernel
theorem dX8_gatherFacts_8 : decode cX8_gatherFacts 8 = .ok (.aload_n 1, 1) := by decide +kernel
theorem dX8_gatherFacts_9 : decode cX8_gatherFacts 9 = .ok (.getfield 183, 3) := by decide +kernel
theorem dX8_gatherFacts_12 : decode cX8_gatherFacts 12 = .ok (.invokevirtual 126, 3) := by decide +kernel
theorem dX8_gatherFacts_15 : decode cX8_gatherFacts 15 = .ok (.istore_n 3, 1) := by decide +kernel
theorem dX8_gatherFacts_16 : decode cX8_gatherFacts 16 = .ok (.aload_n 0, 1) := by decide +kernel
theorem dX8_gatherFacts_17 : decode cX8_gatherFacts 17 = .ok (.getfield 71, 3) := by decide +kernel
theorem dX8_gatherFacts_20 : decode cX8_gatherFacts 20 = .ok (.iconst 0, 1) := by decide +kernel
theorem dX8_gatherFacts_21 : decode cX8_gatherFacts 21 = .ok (.aload_n 0, 1) := by decide +kernel
theorem dX8_gatherFacts_22 : decode cX8_gatherFacts 22 = .ok (.getfield 44, 3) := by decide +kernel
theorem dX8_gatherFacts_25 : decode cX8_gatherFacts 25 = .ok (.aload_n 1, 1) := by decide +kernel
theorem dX8_gatherFacts_26 : decode cX8_gatherFacts 26 = .ok (.getfield 183, 3) := by decide +kernel
theorem dX8_gatherFacts_29 : decode cX8_gatherFacts 29 = .ok (.aload_n 1, 1) := by decide +kernel
theorem dX8_gatherFacts_30 : decode cX8_gatherFacts 30 = .ok (.getfield 186, 3) := by decide +kernel
theorem dX8_gatherFacts_33 : decode cX8_gatherFacts 33 = .ok (.iload_n 2, 1) := by decide +kernel
theorem dX8_gatherFacts_34 : decode cX8_gatherFacts 34 = .ok (.invokevirtual 139, 3) := by decide +kernel
theorem dX8_gatherFacts_37 : decode cX8_gatherFacts 37 = .ok (.iastore, 1) := by decide +kernel
theorem dX8_gatherFacts_38 : decode cX8_gatherFacts 38 = .ok (.aload_n 0, 1) := by decide +kernel
theorem dX8_gatherFacts_39 : decode cX8_gatherFacts 39 = .ok (.getfield 71, 3) := by decide +kernel
theorem dX8_gatherFacts_42 : decode cX8_gatherFacts 42 = .ok (.iconst 1, 1) := by decide +kernel
theorem dX8_gatherFacts_43 : decode cX8_gatherFacts 43 = .ok (.aload_n 0, 1) := by decide +kernel
theorem dX8_gatherFacts_44 : decode cX8_gatherFacts 44 = .ok (.getfield 44, 3) := by decide +kernel
theorem dX8_gatherFacts_47 : decode cX8_gatherFacts 47 = .ok (.aload_n 1, 1) := by decide +kernel
theorem dX8_gatherFacts_48 : decode cX8_gatherFacts 48 = .ok (.getfield 180, 3) := by decide +kernel
theorem dX8_gatherFacts_51 : decode cX8_gatherFacts 51 = .ok (.aload_n 1, 1) := by decide +kernel
theorem dX8_gatherFacts_52 : decode cX8_gatherFacts 52 = .ok (.getfield 186, 3) := by decide +kernel
theorem dX8_gatherFacts_55 : decode cX8_gatherFacts 55 = .ok (.iload_n 2, 1) := by decide +kernel
theorem dX8_gatherFacts_56 : decode cX8_gatherFacts 56 = .ok (.invokevirtual 139, 3) := by decide +kernel
theorem dX8_gatherFacts_59 : decode cX8_gatherFacts 59 = .ok (.iastore, 1) := by decide +kernel
theorem dX8_gatherFacts_60 : decode cX8_gatherFacts 60 = .ok (.aload_n 0, 1) := by decide +kernel
theorem dX8_gatherFacts_61 : decode cX8_gatherFacts 61 = .ok (.getfield 71, 3) := by decide +kernel
theorem dX8_gatherFacts_64 : decode cX8_gatherFacts 64 = .ok (.iconst 2, 1) := by decide +kernel
theorem dX8_gatherFacts_65 : decode cX8_gatherFacts 65 = .ok (.aload_n 1, 1) := by decide +kernel
theorem dX8_gatherFacts_66 : decode cX8_gatherFacts 66 = .ok (.getfield 263, 3) := by decide +kernel
theorem dX8_gatherFacts_69 : decode cX8_gatherFacts 69 = .ok (.iastore, 1) := by decide +kernel
theorem dX8_gatherFacts_70 : decode cX8_gatherFacts 70 = .ok (.aload_n 0, 1) := by decide +kernel
theorem dX8_gatherFacts_71 : decode cX8_gatherFacts 71 = .ok (.getfield 71, 3) := by decide +kernel
theorem dX8_gatherFacts_74 : decode cX8_gatherFacts 74 = .ok (.iconst 3, 1) := by decide +kernel
theorem dX8_gatherFacts_75 : decode cX8_gatherFacts 75 = .ok (.aload_n 1, 1) := by decide +kernel
theorem dX8_gatherFacts_76 : decode cX8_gatherFacts 76 = .ok (.getfield 266, 3) := by decide +kernel
theorem dX8_gatherFacts_79 : decode cX8_gatherFacts 79 = .ok (.ifCond .eq 7, 3) := by decide +kernel
theorem dX8_gatherFacts_82 : decode cX8_gatherFacts 82 = .ok (.iconst 1, 1) := by decide +kernel
theorem dX8_gatherFacts_83 : decode cX8_gatherFacts 83 = .ok (.goto 4, 3) := by decide +kernel
theorem dX8_gatherFacts_86 : decode cX8_gatherFacts 86 = .ok (.iconst 0, 1) := by decide +kernel
theorem dX8_gatherFacts_87 : decode cX8_gatherFacts 87 = .ok (.iastore, 1) := by decide +kernel
theorem dX8_gatherFacts_88 : decode cX8_gatherFacts 88 = .ok (.aload_n 0, 1) := by decide +kernel
theorem dX8_gatherFacts_89 : decode cX8_gatherFacts 89 = .ok (.getfield 71, 3) := by decide +kernel
theorem dX8_gatherFacts_92 : decode cX8_gatherFacts 92 = .ok (.iconst 4, 1) := by decide +kernel
theorem dX8_gatherFacts_93 : decode cX8_gatherFacts 93 = .ok (.iload_n 3, 1) := by decide +kernel
theorem dX8_gatherFacts_94 : decode cX8_gatherFacts 94 = .ok (.iconst (-1), 1) := by decide +kernel
theorem dX8_gatherFacts_95 : decode cX8_gatherFacts 95 = .ok (.if_icmp .eq 12, 3) := by decide +kernel
theorem dX8_gatherFacts_98 : decode cX8_gatherFacts 98 = .ok (.iload_n 3, 1) := by decide +kernel
theorem dX8_gatherFacts_99 : decode cX8_gatherFacts 99 = .ok (.iconst 3, 1) := by decide +kernel
theorem dX8_gatherFacts_100 : decode cX8_gatherFacts 100 = .ok (.if_icmp .gt 7, 3) := by decide +kernel
theorem dX8_gatherFacts_103 : decode cX8_gatherFacts 103 = .ok (.iconst 1, 1) := by decide +kernel
theorem dX8_gatherFacts_104 : decode cX8_gatherFacts 104 = .ok (.goto 4, 3) := by decide +kernel
theorem dX8_gatherFacts_107 : decode cX8_gatherFacts 107 = .ok (.iconst 0, 1) := by decide +kernel
theorem dX8_gatherFacts_108 : decode cX8_gatherFacts 108 = .ok (.iastore, 1) := by decide +kernel
theorem dX8_gatherFacts_109 : decode cX8_gatherFacts 109 = .ok (.aload_n 0, 1) := by decide +kernel
theorem dX8_gatherFacts_110 : decode cX8_gatherFacts 110 = .ok (.getfield 71, 3) := by decide +kernel
theorem dX8_gatherFacts_113 : decode cX8_gatherFacts 113 = .ok (.iconst 5, 1) := by decide +kernel
theorem dX8_gatherFacts_114 : decode cX8_gatherFacts 114 = .ok (.aload_n 0, 1) := by decide +kernel
theorem dX8_gatherFacts_115 : decode cX8_gatherFacts 115 = .ok (.aload_n 1, 1) := by decide +kernel
theorem dX8_gatherFacts_116 : decode cX8_gatherFacts 116 = .ok (.invokevirtual 189, 3) := by decide +kernel
theorem dX8_gatherFacts_119 : decode cX8_gatherFacts 119 = .ok (.ifCond .eq 7, 3) := by decide +kernel
theorem dX8_gatherFacts_122 : decode cX8_gatherFacts 122 = .ok (.iconst 1, 1) := by decide +kernel
theorem dX8_gatherFacts_123 : decode cX8_gatherFacts 123 = .ok (.goto 4, 3) := by decide +kernel
theorem dX8_gatherFacts_126 : decode cX8_gatherFacts 126 = .ok (.iconst 0, 1) := by decide +kernel
theorem dX8_gatherFacts_127 : decode cX8_gatherFacts 127 = .ok (.iastore, 1) := by decide +kernel
theorem dX8_gatherFacts_128 : decode cX8_gatherFacts 128 = .ok (.return_, 1) := by decide +kernel
theorem dX8_oathStands_0 : decode cX8_oathStands 0 = .ok (.iload_n 3, 1) := by decide +kernel
theorem dX8_oathStands_1 : decode cX8_oathStands 1 = .ok (.invokestatic 270, 3) := by decide +kernel
theorem dX8_oathStands_4 : decode cX8_oathStands 4 = .ok (.aload_n 2, 1) := by decide +kernel
theorem dX8_oathStands_5 : decode cX8_oathStands 5 = .ok (.getfield 275, 3) := by decide +kernel
theorem dX8_oathStands_8 : decode cX8_oathStands 8 = .ok (.if_icmp .ge 5, 3) := by decide +kernel
theorem dX8_oathStands_11 : decode cX8_oathStands 11 = .ok (.iconst 0, 1) := by decide +kernel
theorem dX8_oathStands_12 : decode cX8_oathStands 12 = .ok (.ireturn, 1) := by decide +kernel
theorem dX8_oathStands_13 : decode cX8_oathStands 13 = .ok (.aload_n 0, 1) := by decide +kernel
theorem dX8_oathStands_14 : decode cX8_oathStands 14 = .ok (.getfield 37, 3) := by decide +kernel
theorem dX8_oathStands_17 : decode cX8_oathStands 17 = .ok (.aload_n 1, 1) := by decide +kernel
theorem dX8_oathStands_18 : decode cX8_oathStands 18 = .ok (.getfield 180, 3) := by decide +kernel
theorem dX8_oathStands_21 : decode cX8_oathStands 21 = .ok (.invokevirtual 278, 3) := by decide +kernel
theorem dX8_oathStands_24 : decode cX8_oathStands 24 = .ok (.iconst 0, 1) := by decide +kernel
theorem dX8_oathStands_25 : decode cX8_oathStands 25 = .ok (.istore 4, 2) := by decide +kernel
theorem dX8_oathStands_27 : decode cX8_oathStands 27 = .ok (.iload 4, 2) := by decide +kernel
theorem dX8_oathStands_29 : decode cX8_oathStands 29 = .ok (.bipush 32, 2) := by decide +kernel
theorem dX8_oathStands_31 : decode cX8_oathStands 31 = .ok (.if_icmp .ge 31, 3) := by decide +kernel
theorem dX8_oathStands_34 : decode cX8_oathStands 34 = .ok (.iload_n 3, 1) := by decide +kernel
theorem dX8_oathStands_35 : decode cX8_oathStands 35 = .ok (.iload 4, 2) := by decide +kernel
theorem dX8_oathStands_37 : decode cX8_oathStands 37 = .ok (.iushr, 1) := by decide +kernel
theorem dX8_oathStands_38 : decode cX8_oathStands 38 = .ok (.iconst 1, 1) := by decide +kernel
theorem dX8_oathStands_39 : decode cX8_oathStands 39 = .ok (.iand, 1) := by decide +kernel
theorem dX8_oathStands_40 : decode cX8_oathStands 40 = .ok (.ifCond .eq 16, 3) := by decide +kernel
theorem dX8_oathStands_43 : decode cX8_oathStands 43 = .ok (.aload_n 0, 1) := by decide +kernel
theorem dX8_oathStands_44 : decode cX8_oathStands 44 = .ok (.aload_n 1, 1) := by decide +kernel
theorem dX8_oathStands_45 : decode cX8_oathStands 45 = .ok (.aload_n 2, 1) := by decide +kernel
theorem dX8_oathStands_46 : decode cX8_oathStands 46 = .ok (.iload 4, 2) := by decide +kernel
theorem dX8_oathStands_48 : decode cX8_oathStands 48 = .ok (.invokevirtual 281, 3) := by decide +kernel
theorem dX8_oathStands_51 : decode cX8_oathStands 51 = .ok (.ifCond .ne 5, 3) := by decide +kernel
theorem dX8_oathStands_54 : decode cX8_oathStands 54 = .ok (.iconst 0, 1) := by decide +kernel
theorem dX8_oathStands_55 : decode cX8_oathStands 55 = .ok (.ireturn, 1) := by decide +kernel
theorem dX8_oathStands_56 : decode cX8_oathStands 56 = .ok (.iinc 4 1, 3) := by decide +kernel
theorem dX8_oathStands_59 : decode cX8_oathStands 59 = .ok (.goto (-32), 3) := by decide +kernel
theorem dX8_oathStands_62 : decode cX8_oathStands 62 = .ok (.iconst 1, 1) := by decide +kernel
theorem dX8_oathStands_63 : decode cX8_oathStands 63 = .ok (.ireturn, 1) := by decide +kernel
theorem dX8_maySwear_0 : decode cX8_maySwear 0 = .ok (.aload_n 0, 1) := by decide +kernel
theorem dX8_maySwear_1 : decode cX8_maySwear 1 = .ok (.getfield 37, 3) := by decide +kernel
theorem dX8_maySwear_4 : decode cX8_maySwear 4 = .ok (.iload_n 3, 1) := by decide +kernel
theorem dX8_maySwear_5 : decode cX8_maySwear 5 = .ok (.invokevirtual 130, 3) := by decide +kernel
theorem dX8_maySwear_8 : decode cX8_maySwear 8 = .ok (.ifCond .eq 74, 3) := by decide +kernel
theorem dX8_maySwear_11 : decode cX8_maySwear 11 = .ok (.iload_n 3, 1) := by decide +kernel
theorem dX8_maySwear_12 : decode cX8_maySwear 12 = .ok (.aload_n 1, 1) := by decide +kernel
theorem dX8_maySwear_13 : decode cX8_maySwear 13 = .ok (.getfield 180, 3) := by decide +kernel
theorem dX8_maySwear_16 : decode cX8_maySwear 16 = .ok (.if_icmp .eq 66, 3) := by decide +kernel
theorem dX8_maySwear_19 : decode cX8_maySwear 19 = .ok (.iload_n 3, 1) := by decide +kernel
theorem dX8_maySwear_20 : decode cX8_maySwear 20 = .ok (.aload_n 1, 1) := by decide +kernel
theorem dX8_maySwear_21 : decode cX8_maySwear 21 = .ok (.getfield 183, 3) := by decide +kernel
theorem dX8_maySwear_24 : decode cX8_maySwear 24 = .ok (.if_icmp .eq 58, 3) := by decide +kernel
theorem dX8_maySwear_27 : decode cX8_maySwear 27 = .ok (.aload_n 0, 1) := by decide +kernel
theorem dX8_maySwear_28 : decode cX8_maySwear 28 = .ok (.getfield 37, 3) := by decide +kernel
theorem dX8_maySwear_31 : decode cX8_maySwear 31 = .ok (.iload_n 3, 1) := by decide +kernel
theorem dX8_maySwear_32 : decode cX8_maySwear 32 = .ok (.aload_n 0, 1) := by decide +kernel
theorem dX8_maySwear_33 : decode cX8_maySwear 33 = .ok (.getfield 133, 3) := by decide +kernel
theorem dX8_maySwear_36 : decode cX8_maySwear 36 = .ok (.invokevirtual 284, 3) := by decide +kernel
theorem dX8_maySwear_39 : decode cX8_maySwear 39 = .ok (.ifCond .ne 43, 3) := by decide +kernel
theorem dX8_maySwear_42 : decode cX8_maySwear 42 = .ok (.aload_n 0, 1) := by decide +kernel
theorem dX8_maySwear_43 : decode cX8_maySwear 43 = .ok (.getfield 37, 3) := by decide +kernel
theorem dX8_maySwear_46 : decode cX8_maySwear 46 = .ok (.getfield 287, 3) := by decide +kernel
theorem dX8_maySwear_49 : decode cX8_maySwear 49 = .ok (.iload_n 3, 1) := by decide +kernel
theorem dX8_maySwear_50 : decode cX8_maySwear 50 = .ok (.iaload, 1) := by decide +kernel
theorem dX8_maySwear_51 : decode cX8_maySwear 51 = .ok (.iconst 1, 1) := by decide +kernel
theorem dX8_maySwear_52 : decode cX8_maySwear 52 = .ok (.if_icmp .eq 30, 3) := by decide +kernel
theorem dX8_maySwear_55 : decode cX8_maySwear 55 = .ok (.aload_n 0, 1) := by decide +kernel
theorem dX8_maySwear_56 : decode cX8_maySwear 56 = .ok (.getfield 44, 3) := by decide +kernel
theorem dX8_maySwear_59 : decode cX8_maySwear 59 = .ok (.iload_n 3, 1) := by decide +kernel
theorem dX8_maySwear_60 : decode cX8_maySwear 60 = .ok (.aload_n 0, 1) := by decide +kernel
theorem dX8_maySwear_61 : decode cX8_maySwear 61 = .ok (.getfield 133, 3) := by decide +kernel
theorem dX8_maySwear_64 : decode cX8_maySwear 64 = .ok (.aload_n 0, 1) := by decide +kernel
theorem dX8_maySwear_65 : decode cX8_maySwear 65 = .ok (.getfield 133, 3) := by decide +kernel
theorem dX8_maySwear_68 : decode cX8_maySwear 68 = .ok (.invokevirtual 139, 3) := by decide +kernel
theorem dX8_maySwear_71 : decode cX8_maySwear 71 = .ok (.aload_n 2, 1) := by decide +kernel
theorem dX8_maySwear_72 : decode cX8_maySwear 72 = .ok (.getfield 290, 3) := by decide +kernel
theorem dX8_maySwear_75 : decode cX8_maySwear 75 = .ok (.if_icmp .lt 7, 3) := by decide +kernel
theorem dX8_maySwear_78 : decode cX8_maySwear 78 = .ok (.iconst 1, 1) := by decide +kernel
theorem dX8_maySwear_79 : decode cX8_maySwear 79 = .ok (.goto 4, 3) := by decide +kernel
theorem dX8_maySwear_82 : decode cX8_maySwear 82 = .ok (.iconst 0, 1) := by decide +kernel
theorem dX8_maySwear_83 : decode cX8_maySwear 83 = .ok (.ireturn, 1) := by decide +kernel
theorem dX8_partOf_0 : decode cX8_partOf 0 = .ok (.aload_n 0, 1) := by decide +kernel
theorem dX8_partOf_1 : decode cX8_partOf 1 = .ok (.aload_n 1, 1) := by decide +kernel
theorem dX8_partOf_2 : decode cX8_partOf 2 = .ok (.invokevirtual 172, 3) := by decide +kernel
theorem dX8_partOf_5 : decode cX8_partOf 5 = .ok (.astore 6, 2) := by decide +kernel
theorem dX8_partOf_7 : decode cX8_partOf 7 = .ok (.aload_n 0, 1) := by decide +kernel
theorem dX8_partOf_8 : decode cX8_partOf 8 = .ok (.aload_n 1, 1) := by decide +kernel
theorem dX8_partOf_9 : decode cX8_partOf 9 = .ok (.iload_n 3, 1) := by decide +kernel
theorem dX8_partOf_10 : decode cX8_partOf 10 = .ok (.invokevirtual 162, 3) := by decide +kernel
theorem dX8_partOf_13 : decode cX8_partOf 13 = .ok (.istore 7, 2) := by decide +kernel
theorem dX8_partOf_15 : decode cX8_partOf 15 = .ok (.aload 6, 2) := by decide +kernel
theorem dX8_partOf_17 : decode cX8_partOf 17 = .ok (.ifnull 20, 3) := by decide +kernel
theorem dX8_partOf_20 : decode cX8_partOf 20 = .ok (.iload 7, 2) := by decide +kernel
theorem dX8_partOf_22 : decode cX8_partOf 22 = .ok (.iconst (-1), 1) := by decide +kernel
theorem dX8_partOf_23 : decode cX8_partOf 23 = .ok (.if_icmp .eq 14, 3) := by decide +kernel
theorem dX8_partOf_26 : decode cX8_partOf 26 = .ok (.aload_n 0, 1) := by decide +kernel
theorem dX8_partOf_27 : decode cX8_partOf 27 = .ok (.getfield 37, 3) := by decide +kernel
theorem dX8_partOf_30 : decode cX8_partOf 30 = .ok (.iload_n 2, 1) := by decide +kernel
theorem dX8_partOf_31 : decode cX8_partOf 31 = .ok (.invokevirtual 130, 3) := by decide +kernel
theorem dX8_partOf_34 : decode cX8_partOf 34 = .ok (.ifCond .ne 5, 3) := by decide +kernel
theorem dX8_partOf_37 : decode cX8_partOf 37 = .ok (.iconst (-1), 1) := by decide +kernel
theorem dX8_partOf_38 : decode cX8_partOf 38 = .ok (.ireturn, 1) := by decide +kernel
theorem dX8_partOf_39 : decode cX8_partOf 39 = .ok (.aload_n 0, 1) := by decide +kernel
theorem dX8_partOf_40 : decode cX8_partOf 40 = .ok (.getfield 37, 3) := by decide +kernel
theorem dX8_partOf_43 : decode cX8_partOf 43 = .ok (.iload 4, 2) := by decide +kernel
theorem dX8_partOf_45 : decode cX8_partOf 45 = .ok (.invokevirtual 278, 3) := by decide +kernel
theorem dX8_partOf_48 : decode cX8_partOf 48 = .ok (.iload 7, 2) := by decide +kernel
theorem dX8_partOf_50 : decode cX8_partOf 50 = .ok (.istore 8, 2) := by decide +kernel
theorem dX8_partOf_52 : decode cX8_partOf 52 = .ok (.iconst 0, 1) := by decide +kernel
theorem dX8_partOf_53 : decode cX8_partOf 53 = .ok (.istore 9, 2) := by decide +kernel
theorem dX8_partOf_55 : decode cX8_partOf 55 = .ok (.iconst 1, 1) := by decide +kernel
theorem dX8_partOf_56 : decode cX8_partOf 56 = .ok (.istore 10, 2) := by decide +kernel
theorem dX8_partOf_58 : decode cX8_partOf 58 = .ok (.iload 10, 2) := by decide +kernel
theorem dX8_partOf_60 : decode cX8_partOf 60 = .ok (.iconst 3, 1) := by decide +kernel
theorem dX8_partOf_61 : decode cX8_partOf 61 = .ok (.if_icmp .gt 93, 3) := by decide +kernel
theorem dX8_partOf_64 : decode cX8_partOf 64 = .ok (.aload_n 0, 1) := by decide +kernel
theorem dX8_partOf_65 : decode cX8_partOf 65 = .ok (.getfield 37, 3) := by decide +kernel
theorem dX8_partOf_68 : decode cX8_partOf 68 = .ok (.iload 4, 2) := by decide +kernel
theorem dX8_partOf_70 : decode cX8_partOf 70 = .ok (.iload 5, 2) := by decide +kernel
theorem dX8_partOf_72 : decode cX8_partOf 72 = .ok (.iload 10, 2) := by decide +kernel
theorem dX8_partOf_74 : decode cX8_partOf 74 = .ok (.aload_n 1, 1) := by decide +kernel
theorem dX8_partOf_75 : decode cX8_partOf 75 = .ok (.getfield 186, 3) := by decide +kernel
theorem dX8_partOf_78 : decode cX8_partOf 78 = .ok (.invokevirtual 293, 3) := by decide +kernel
theorem dX8_partOf_81 : decode cX8_partOf 81 = .ok (.aload_n 0, 1) := by decide +kernel
theorem dX8_partOf_82 : decode cX8_partOf 82 = .ok (.getfield 37, 3) := by decide +kernel
theorem dX8_partOf_85 : decode cX8_partOf 85 = .ok (.getfield 297, 3) := by decide +kernel
theorem dX8_partOf_88 : decode cX8_partOf 88 = .ok (.ifCond .le 60, 3) := by decide +kernel
theorem dX8_partOf_91 : decode cX8_partOf 91 = .ok (.aload 6, 2) := by decide +kernel
theorem dX8_partOf_93 : decode cX8_partOf 93 = .ok (.iload 7, 2) := by decide +kernel
theorem dX8_partOf_95 : decode cX8_partOf 95 = .ok (.iload 10, 2) := by decide +kernel
theorem dX8_partOf_97 : decode cX8_partOf 97 = .ok (.invokevirtual 300, 3) := by decide +kernel
theorem dX8_partOf_100 : decode cX8_partOf 100 = .ok (.aload_n 0, 1) := by decide +kernel
theorem dX8_partOf_101 : decode cX8_partOf 101 = .ok (.getfield 37, 3) := by decide +kernel
theorem dX8_partOf_104 : decode cX8_partOf 104 = .ok (.getfield 297, 3) := by decide +kernel
theorem dX8_partOf_107 : decode cX8_partOf 107 = .ok (.idiv, 1) := by decide +kernel
theorem dX8_partOf_108 : decode cX8_partOf 108 = .ok (.istore 11, 2) := by decide +kernel
theorem dX8_partOf_110 : decode cX8_partOf 110 = .ok (.iload 8, 2) := by decide +kernel
theorem dX8_partOf_112 : decode cX8_partOf 112 = .ok (.iload 11, 2) := by decide +kernel
theorem dX8_partOf_114 : decode cX8_partOf 114 = .ok (.aload_n 0, 1) := by decide +kernel
theorem dX8_partOf_115 : decode cX8_partOf 115 = .ok (.getfield 37, 3) := by decide +kernel
theorem dX8_partOf_118 : decode cX8_partOf 118 = .ok (.getfield 297, 3) := by decide +kernel
theorem dX8_partOf_121 : decode cX8_partOf 121 = .ok (.imul, 1) := by decide +kernel
theorem dX8_partOf_122 : decode cX8_partOf 122 = .ok (.isub, 1) := by decide +kernel
theorem dX8_partOf_123 : decode cX8_partOf 123 = .ok (.istore 8, 2) := by decide +kernel
theorem dX8_partOf_125 : decode cX8_partOf 125 = .ok (.iload 9, 2) := by decide +kernel
theorem dX8_partOf_127 : decode cX8_partOf 127 = .ok (.aload_n 0, 1) := by decide +kernel
theorem dX8_partOf_128 : decode cX8_partOf 128 = .ok (.getfield 37, 3) := by decide +kernel
theorem dX8_partOf_131 : decode cX8_partOf 131 = .ok (.getfield 303, 3) := by decide +kernel
theorem dX8_partOf_134 : decode cX8_partOf 134 = .ok (.iload_n 2, 1) := by decide +kernel
theorem dX8_partOf_135 : decode cX8_partOf 135 = .ok (.baload, 1) := by decide +kernel
theorem dX8_partOf_136 : decode cX8_partOf 136 = .ok (.ifCond .eq 8, 3) := by decide +kernel
theorem dX8_partOf_139 : decode cX8_partOf 139 = .ok (.iload 11, 2) := by decide +kernel
theorem dX8_partOf_141 : decode cX8_partOf 141 = .ok (.goto 4, 3) := by decide +kernel
theorem dX8_partOf_144 : decode cX8_partOf 144 = .ok (.iconst 0, 1) := by decide +kernel
theorem dX8_partOf_145 : decode cX8_partOf 145 = .ok (.iadd, 1) := by decide +kernel
theorem dX8_partOf_146 : decode cX8_partOf 146 = .ok (.istore 9, 2) := by decide +kernel
theorem dX8_partOf_148 : decode cX8_partOf 148 = .ok (.iinc 10 1, 3) := by decide +kernel
theorem dX8_partOf_151 : decode cX8_partOf 151 = .ok (.goto (-93), 3) := by decide +kernel
theorem dX8_partOf_154 : decode cX8_partOf 154 = .ok (.iload_n 2, 1) := by decide +kernel
theorem dX8_partOf_155 : decode cX8_partOf 155 = .ok (.iload 4, 2) := by decide +kernel
theorem dX8_partOf_157 : decode cX8_partOf 157 = .ok (.if_icmp .ne 8, 3) := by decide +kernel
theorem dX8_partOf_160 : decode cX8_partOf 160 = .ok (.iload 8, 2) := by decide +kernel
theorem dX8_partOf_162 : decode cX8_partOf 162 = .ok (.goto 5, 3) := by decide +kernel
theorem dX8_partOf_165 : decode cX8_partOf 165 = .ok (.iload 9, 2) := by decide +kernel
theorem dX8_partOf_167 : decode cX8_partOf 167 = .ok (.ireturn, 1) := by decide +kernel
theorem dX8_owedOn_0 : decode cX8_owedOn 0 = .ok (.iconst 0, 1) := by decide +kernel
theorem dX8_owedOn_1 : decode cX8_owedOn 1 = .ok (.istore 4, 2) := by decide +kernel
theorem dX8_owedOn_3 : decode cX8_owedOn 3 = .ok (.aload_n 1, 1) := by decide +kernel
theorem dX8_owedOn_4 : decode cX8_owedOn 4 = .ok (.getfield 169, 3) := by decide +kernel
theorem dX8_owedOn_7 : decode cX8_owedOn 7 = .ok (.iconst 1, 1) := by decide +kernel
theorem dX8_owedOn_8 : decode cX8_owedOn 8 = .ok (.isub, 1) := by decide +kernel
theorem dX8_owedOn_9 : decode cX8_owedOn 9 = .ok (.istore 5, 2) := by decide +kernel
theorem dX8_owedOn_11 : decode cX8_owedOn 11 = .ok (.iconst 0, 1) := by decide +kernel
theorem dX8_owedOn_12 : decode cX8_owedOn 12 = .ok (.istore 6, 2) := by decide +kernel
theorem dX8_owedOn_14 : decode cX8_owedOn 14 = .ok (.iload 6, 2) := by decide +kernel
theorem dX8_owedOn_16 : decode cX8_owedOn 16 = .ok (.aload_n 1, 1) := by decide +kernel
theorem dX8_owedOn_17 : decode cX8_owedOn 17 = .ok (.getfield 203, 3) := by decide +kernel
theorem dX8_owedOn_20 : decode cX8_owedOn 20 = .ok (.if_icmp .ge 79, 3) := by decide +kernel
theorem dX8_owedOn_23 : decode cX8_owedOn 23 = .ok (.aload_n 1, 1) := by decide +kernel
theorem dX8_owedOn_24 : decode cX8_owedOn 24 = .ok (.getfield 169, 3) := by decide +kernel
theorem dX8_owedOn_27 : decode cX8_owedOn 27 = .ok (.iload 6, 2) := by decide +kernel
theorem dX8_owedOn_29 : decode cX8_owedOn 29 = .ok (.iconst 1, 1) := by decide +kernel
theorem dX8_owedOn_30 : decode cX8_owedOn 30 = .ok (.iadd, 1) := by decide +kernel
theorem dX8_owedOn_31 : decode cX8_owedOn 31 = .ok (.aload_n 1, 1) := by decide +kernel
theorem dX8_owedOn_32 : decode cX8_owedOn 32 = .ok (.getfield 207, 3) := by decide +kernel
theorem dX8_owedOn_35 : decode cX8_owedOn 35 = .ok (.imul, 1) := by decide +kernel
theorem dX8_owedOn_36 : decode cX8_owedOn 36 = .ok (.iadd, 1) := by decide +kernel
theorem dX8_owedOn_37 : decode cX8_owedOn 37 = .ok (.istore 7, 2) := by decide +kernel
theorem dX8_owedOn_39 : decode cX8_owedOn 39 = .ok (.iload 4, 2) := by decide +kernel
theorem dX8_owedOn_41 : decode cX8_owedOn 41 = .ok (.aload_n 1, 1) := by decide +kernel
theorem dX8_owedOn_42 : decode cX8_owedOn 42 = .ok (.iload 6, 2) := by decide +kernel
theorem dX8_owedOn_44 : decode cX8_owedOn 44 = .ok (.invokevirtual 307, 3) := by decide +kernel
theorem dX8_owedOn_47 : decode cX8_owedOn 47 = .ok (.iadd, 1) := by decide +kernel
theorem dX8_owedOn_48 : decode cX8_owedOn 48 = .ok (.istore 4, 2) := by decide +kernel
theorem dX8_owedOn_50 : decode cX8_owedOn 50 = .ok (.iload 7, 2) := by decide +kernel
theorem dX8_owedOn_52 : decode cX8_owedOn 52 = .ok (.iload_n 3, 1) := by decide +kernel
theorem dX8_owedOn_53 : decode cX8_owedOn 53 = .ok (.if_icmp .ge 40, 3) := by decide +kernel
theorem dX8_owedOn_56 : decode cX8_owedOn 56 = .ok (.iload 4, 2) := by decide +kernel
theorem dX8_owedOn_58 : decode cX8_owedOn 58 = .ok (.aload_n 0, 1) := by decide +kernel
theorem dX8_owedOn_59 : decode cX8_owedOn 59 = .ok (.getfield 64, 3) := by decide +kernel
theorem dX8_owedOn_62 : decode cX8_owedOn 62 = .ok (.iload_n 2, 1) := by decide +kernel
theorem dX8_owedOn_63 : decode cX8_owedOn 63 = .ok (.iload 5, 2) := by decide +kernel
theorem dX8_owedOn_65 : decode cX8_owedOn 65 = .ok (.iload 7, 2) := by decide +kernel
theorem dX8_owedOn_67 : decode cX8_owedOn 67 = .ok (.invokevirtual 310, 3) := by decide +kernel
theorem dX8_owedOn_70 : decode cX8_owedOn 70 = .ok (.isub, 1) := by decide +kernel
theorem dX8_owedOn_71 : decode cX8_owedOn 71 = .ok (.istore 4, 2) := by decide +kernel
theorem dX8_owedOn_73 : decode cX8_owedOn 73 = .ok (.iload 4, 2) := by decide +kernel
theorem dX8_owedOn_75 : decode cX8_owedOn 75 = .ok (.ifCond .le 10, 3) := by decide +kernel
theorem dX8_owedOn_78 : decode cX8_owedOn 78 = .ok (.iload 4, 2) := by decide +kernel
theorem dX8_owedOn_80 : decode cX8_owedOn 80 = .ok (.iconst 2, 1) := by decide +kernel
theorem dX8_owedOn_81 : decode cX8_owedOn 81 = .ok (.imul, 1) := by decide +kernel
theorem dX8_owedOn_82 : decode cX8_owedOn 82 = .ok (.goto 5, 3) := by decide +kernel
theorem dX8_owedOn_85 : decode cX8_owedOn 85 = .ok (.iload 4, 2) := by decide +kernel
theorem dX8_owedOn_87 : decode cX8_owedOn 87 = .ok (.istore 4, 2) := by decide +kernel
theorem dX8_owedOn_89 : decode cX8_owedOn 89 = .ok (.iload 7, 2) := by decide +kernel
theorem dX8_owedOn_91 : decode cX8_owedOn 91 = .ok (.istore 5, 2) := by decide +kernel
theorem dX8_owedOn_93 : decode cX8_owedOn 93 = .ok (.iinc 6 1, 3) := by decide +kernel
theorem dX8_owedOn_96 : decode cX8_owedOn 96 = .ok (.goto (-82), 3) := by decide +kernel
theorem dX8_owedOn_99 : decode cX8_owedOn 99 = .ok (.iload 4, 2) := by decide +kernel
theorem dX8_owedOn_101 : decode cX8_owedOn 101 = .ok (.aload_n 0, 1) := by decide +kernel
theorem dX8_owedOn_102 : decode cX8_owedOn 102 = .ok (.getfield 64, 3) := by decide +kernel
theorem dX8_owedOn_105 : decode cX8_owedOn 105 = .ok (.iload_n 2, 1) := by decide +kernel
theorem dX8_owedOn_106 : decode cX8_owedOn 106 = .ok (.iload 5, 2) := by decide +kernel
theorem dX8_owedOn_108 : decode cX8_owedOn 108 = .ok (.iload_n 3, 1) := by decide +kernel
theorem dX8_owedOn_109 : decode cX8_owedOn 109 = .ok (.invokevirtual 310, 3) := by decide +kernel
theorem dX8_owedOn_112 : decode cX8_owedOn 112 = .ok (.isub, 1) := by decide +kernel
theorem dX8_owedOn_113 : decode cX8_owedOn 113 = .ok (.ireturn, 1) := by decide +kernel
theorem dX9_init_0 : decode cX9_init 0 = .ok (.aload_n 0, 1) := by decide +kernel
theorem dX9_init_1 : decode cX9_init 1 = .ok (.invokespecial 1, 3) := by decide +kernel
theorem dX9_init_4 : decode cX9_init 4 = .ok (.aload_n 0, 1) := by decide +kernel
theorem dX9_init_5 : decode cX9_init 5 = .ok (.sipush 720, 3) := by decide +kernel
theorem dX9_init_8 : decode cX9_init 8 = .ok (.newarray .byte, 2) := by decide +kernel
theorem dX9_init_10 : decode cX9_init 10 = .ok (.putfield 7, 3) := by decide +kernel
theorem dX9_init_13 : decode cX9_init 13 = .ok (.aload_n 0, 1) := by decide +kernel
theorem dX9_init_14 : decode cX9_init 14 = .ok (.sipush 700, 3) := by decide +kernel
theorem dX9_init_17 : decode cX9_init 17 = .ok (.newarray .byte, 2) := by decide +kernel
theorem dX9_init_19 : decode cX9_init 19 = .ok (.putfield 13, 3) := by decide +kernel
theorem dX9_init_22 : decode cX9_init 22 = .ok (.aload_n 0, 1) := by decide +kernel
theorem dX9_init_23 : decode cX9_init 23 = .ok (.iconst (-1), 1) := by decide +kernel
theorem dX9_init_24 : decode cX9_init 24 = .ok (.putfield 16, 3) := by decide +kernel
theorem dX9_init_27 : decode cX9_init 27 = .ok (.aload_n 0, 1) := by decide +kernel
theorem dX9_init_28 : decode cX9_init 28 = .ok (.bipush 16, 2) := by decide +kernel
theorem dX9_init_30 : decode cX9_init 30 = .ok (.newarray .int, 2) := by decide +kernel
theorem dX9_init_32 : decode cX9_init 32 = .ok (.putfield 20, 3) := by decide +kernel
theorem dX9_init_35 : decode cX9_init 35 = .ok (.aload_n 0, 1) := by decide +kernel
theorem dX9_init_36 : decode cX9_init 36 = .ok (.bipush 16, 2) := by decide +kernel
theorem dX9_init_38 : decode cX9_init 38 = .ok (.newarray .int, 2) := by decide +kernel
theorem dX9_init_40 : decode cX9_init 40 = .ok (.putfield 24, 3) := by decide +kernel
theorem dX9_init_43 : decode cX9_init 43 = .ok (.aload_n 0, 1) := by decide +kernel
theorem dX9_init_44 : decode cX9_init 44 = .ok (.iconst 4, 1) := by decide +kernel
theorem dX9_init_45 : decode cX9_init 45 = .ok (.newarray .int, 2) := by decide +kernel
theorem dX9_init_47 : decode cX9_init 47 = .ok (.putfield 27, 3) := by decide +kernel
theorem dX9_init_50 : decode cX9_init 50 = .ok (.aload_n 0, 1) := by decide +kernel
theorem dX9_init_51 : decode cX9_init 51 = .ok (.bipush 17, 2) := by decide +kernel
theorem dX9_init_53 : decode cX9_init 53 = .ok (.newarray .int, 2) := by decide +kernel
theorem dX9_init_55 : decode cX9_init 55 = .ok (.putfield 30, 3) := by decide +kernel
theorem dX9_init_58 : decode cX9_init 58 = .ok (.aload_n 0, 1) := by decide +kernel
theorem dX9_init_59 : decode cX9_init 59 = .ok (.sipush 204, 3) := by decide +kernel
theorem dX9_init_62 : decode cX9_init 62 = .ok (.newarray .int, 2) := by decide +kernel
theorem dX9_init_64 : decode cX9_init 64 = .ok (.putfield 33, 3) := by decide +kernel
theorem dX9_init_67 : decode cX9_init 67 = .ok (.aload_n 0, 1) := by decide +kernel
theorem dX9_init_68 : decode cX9_init 68 = .ok (.bipush 17, 2) := by decide +kernel
theorem dX9_init_70 : decode cX9_init 70 = .ok (.newarray .int, 2) := by decide +kernel
theorem dX9_init_72 : decode cX9_init 72 = .ok (.putfield 36, 3) := by decide +kernel
theorem dX9_init_75 : decode cX9_init 75 = .ok (.aload_n 0, 1) := by decide +kernel
theorem dX9_init_76 : decode cX9_init 76 = .ok (.sipush 272, 3) := by decide +kernel
theorem dX9_init_79 : decode cX9_init 79 = .ok (.newarray .int, 2) := by decide +kernel
theorem dX9_init_81 : decode cX9_init 81 = .ok (.putfield 39, 3) := by decide +kernel
theorem dX9_init_84 : decode cX9_init 84 = .ok (.aload_n 0, 1) := by decide +kernel
theorem dX9_init_85 : decode cX9_init 85 = .ok (.sipush 272, 3) := by decide +kernel
theorem dX9_init_88 : decode cX9_init 88 = .ok (.newarray .int, 2) := by decide +kernel
theorem dX9_init_90 : decode cX9_init 90 = .ok (.putfield 42, 3) := by decide +kernel
theorem dX9_init_93 : decode cX9_init 93 = .ok (.aload_n 0, 1) := by decide +kernel
theorem dX9_init_94 : decode cX9_init 94 = .ok (.sipush 272, 3) := by decide +kernel
theorem dX9_init_97 : decode cX9_init 97 = .ok (.newarray .int, 2) := by decide +kernel
theorem dX9_init_99 : decode cX9_init 99 = .ok (.putfield 45, 3) := by decide +kernel
theorem dX9_init_102 : decode cX9_init 102 = .ok (.aload_n 0, 1) := by decide +kernel
theorem dX9_init_103 : decode cX9_init 103 = .ok (.sipush 272, 3) := by decide +kernel
theorem dX9_init_106 : decode cX9_init 106 = .ok (.newarray .int, 2) := by decide +kernel
theorem dX9_init_108 : decode cX9_init 108 = .ok (.putfield 48, 3) := by decide +kernel
theorem dX9_init_111 : decode cX9_init 111 = .ok (.aload_n 0, 1) := by decide +kernel
theorem dX9_init_112 : decode cX9_init 112 = .ok (.bipush 68, 2) := by decide +kernel
theorem dX9_init_114 : decode cX9_init 114 = .ok (.newarray .int, 2) := by decide +kernel
theorem dX9_init_116 : decode cX9_init 116 = .ok (.putfield 51, 3) := by decide +kernel
theorem dX9_init_119 : decode cX9_init 119 = .ok (.aload_n 0, 1) := by decide +kernel
theorem dX9_init_120 : decode cX9_init 120 = .ok (.bipush 17, 2) := by decide +kernel
theorem dX9_init_122 : decode cX9_init 122 = .ok (.newarray .int, 2) := by decide +kernel
theorem dX9_init_124 : decode cX9_init 124 = .ok (.putfield 54, 3) := by decide +kernel
theorem dX9_init_127 : decode cX9_init 127 = .ok (.aload_n 0, 1) := by decide +kernel
theorem dX9_init_128 : decode cX9_init 128 = .ok (.bipush 17, 2) := by decide +kernel
theorem dX9_init_130 : decode cX9_init 130 = .ok (.newarray .int, 2) := by decide +kernel
theorem dX9_init_132 : decode cX9_init 132 = .ok (.putfield 57, 3) := by decide +kernel
theorem dX9_init_135 : decode cX9_init 135 = .ok (.aload_n 0, 1) := by decide +kernel
theorem dX9_init_136 : decode cX9_init 136 = .ok (.bipush 17, 2) := by decide +kernel
theorem dX9_init_138 : decode cX9_init 138 = .ok (.newarray .int, 2) := by decide +kernel
theorem dX9_init_140 : decode cX9_init 140 = .ok (.putfield 60, 3) := by decide +kernel
theorem dX9_init_143 : decode cX9_init 143 = .ok (.aload_n 0, 1) := by decide +kernel
theorem dX9_init_144 : decode cX9_init 144 = .ok (.bipush 17, 2) := by decide +kernel
theorem dX9_init_146 : decode cX9_init 146 = .ok (.newarray .int, 2) := by decide +kernel
theorem dX9_init_148 : decode cX9_init 148 = .ok (.putfield 63, 3) := by decide +kernel
theorem dX9_init_151 : decode cX9_init 151 = .ok (.aload_n 0, 1) := by decide +kernel
theorem dX9_init_152 : decode cX9_init 152 = .ok (.sipush 11900, 3) := by decide +kernel
theorem dX9_init_155 : decode cX9_init 155 = .ok (.newarray .int, 2) := by decide +kernel
theorem dX9_init_157 : decode cX9_init 157 = .ok (.putfield 66, 3) := by decide +kernel
theorem dX9_init_160 : decode cX9_init 160 = .ok (.aload_n 0, 1) := by decide +kernel
theorem dX9_init_161 : decode cX9_init 161 = .ok (.sipush 11900, 3) := by decide +kernel
theorem dX9_init_164 : decode cX9_init 164 = .ok (.newarray .int, 2) := by decide +kernel
theorem dX9_init_166 : decode cX9_init 166 = .ok (.putfield 69, 3) := by decide +kernel
theorem dX9_init_169 : decode cX9_init 169 = .ok (.aload_n 0, 1) := by decide +kernel
theorem dX9_init_170 : decode cX9_init 170 = .ok (.sipush 204, 3) := by decide +kernel
theorem dX9_init_173 : decode cX9_init 173 = .ok (.newarray .long, 2) := by decide +kernel
theorem dX9_init_175 : decode cX9_init 175 = .ok (.putfield 72, 3) := by decide +kernel
theorem dX9_init_178 : decode cX9_init 178 = .ok (.aload_n 0, 1) := by decide +kernel
theorem dX9_init_179 : decode cX9_init 179 = .ok (.bipush 17, 2) := by decide +kernel
theorem dX9_init_181 : decode cX9_init 181 = .ok (.newarray .boolean, 2) := by decide +kernel
theorem dX9_init_183 : decode cX9_init 183 = .ok (.putfield 76, 3) := by decide +kernel
theorem dX9_init_186 : decode cX9_init 186 = .ok (.aload_n 0, 1) := by decide +kernel
theorem dX9_init_187 : decode cX9_init 187 = .ok (.bipush 17, 2) := by decide +kernel
theorem dX9_init_189 : decode cX9_init 189 = .ok (.newarray .boolean, 2) := by decide +kernel
theorem dX9_init_191 : decode cX9_init 191 = .ok (.putfield 80, 3) := by decide +kernel
theorem dX9_init_194 : decode cX9_init 194 = .ok (.aload_n 0, 1) := by decide +kernel
theorem dX9_init_195 : decode cX9_init 195 = .ok (.bipush 17, 2) := by decide +kernel
theorem dX9_init_197 : decode cX9_init 197 = .ok (.newarray .boolean, 2) := by decide +kernel
theorem dX9_init_199 : decode cX9_init 199 = .ok (.putfield 83, 3) := by decide +kernel
theorem dX9_init_202 : decode cX9_init 202 = .ok (.aload_n 0, 1) := by decide +kernel
theorem dX9_init_203 : decode cX9_init 203 = .ok (.bipush 60, 2) := by decide +kernel
theorem dX9_init_205 : decode cX9_init 205 = .ok (.newarray .int, 2) := by decide +kernel
theorem dX9_init_207 : decode cX9_init 207 = .ok (.putfield 86, 3) := by decide +kernel
theorem dX9_init_210 : decode cX9_init 210 = .ok (.aload_n 0, 1) := by decide +kernel
theorem dX9_init_211 : decode cX9_init 211 = .ok (.bipush 20, 2) := by decide +kernel
theorem dX9_init_213 : decode cX9_init 213 = .ok (.newarray .int, 2) := by decide +kernel
theorem dX9_init_215 : decode cX9_init 215 = .ok (.putfield 89, 3) := by decide +kernel
theorem dX9_init_218 : decode cX9_init 218 = .ok (.aload_n 0, 1) := by decide +kernel
theorem dX9_init_219 : decode cX9_init 219 = .ok (.bipush 20, 2) := by decide +kernel
theorem dX9_init_221 : decode cX9_init 221 = .ok (.newarray .int, 2) := by decide +kernel
theorem dX9_init_223 : decode cX9_init 223 = .ok (.putfield 92, 3) := by decide +kernel
theorem dX9_init_226 : decode cX9_init 226 = .ok (.aload_n 0, 1) := by decide +kernel
theorem dX9_init_227 : decode cX9_init 227 = .ok (.bipush 20, 2) := by decide +kernel
theorem dX9_init_229 : decode cX9_init 229 = .ok (.newarray .int, 2) := by decide +kernel
theorem dX9_init_231 : decode cX9_init 231 = .ok (.putfield 95, 3) := by decide +kernel
theorem dX9_init_234 : decode cX9_init 234 = .ok (.aload_n 0, 1) := by decide +kernel
theorem dX9_init_235 : decode cX9_init 235 = .ok (.bipush 20, 2) := by decide +kernel
theorem dX9_init_237 : decode cX9_init 237 = .ok (.newarray .int, 2) := by decide +kernel
theorem dX9_init_239 : decode cX9_init 239 = .ok (.putfield 98, 3) := by decide +kernel
theorem dX9_init_242 : decode cX9_init 242 = .ok (.aload_n 0, 1) := by decide +kernel
theorem dX9_init_243 : decode cX9_init 243 = .ok (.bipush 60, 2) := by decide +kernel
theorem dX9_init_245 : decode cX9_init 245 = .ok (.newarray .int, 2) := by decide +kernel
theorem dX9_init_247 : decode cX9_init 247 = .ok (.putfield 101, 3) := by decide +kernel
theorem dX9_init_250 : decode cX9_init 250 = .ok (.aload_n 0, 1) := by decide +kernel
theorem dX9_init_251 : decode cX9_init 251 = .ok (.bipush 60, 2) := by decide +kernel
theorem dX9_init_253 : decode cX9_init 253 = .ok (.newarray .int, 2) := by decide +kernel
theorem dX9_init_255 : decode cX9_init 255 = .ok (.putfield 104, 3) := by decide +kernel
theorem dX9_init_258 : decode cX9_init 258 = .ok (.aload_n 0, 1) := by decide +kernel
theorem dX9_init_259 : decode cX9_init 259 = .ok (.bipush 60, 2) := by decide +kernel
theorem dX9_init_261 : decode cX9_init 261 = .ok (.newarray .int, 2) := by decide +kernel
theorem dX9_init_263 : decode cX9_init 263 = .ok (.putfield 107, 3) := by decide +kernel
theorem dX9_init_266 : decode cX9_init 266 = .ok (.aload_n 0, 1) := by decide +kernel
theorem dX9_init_267 : decode cX9_init 267 = .ok (.bipush 60, 2) := by decide +kernel
theorem dX9_init_269 : decode cX9_init 269 = .ok (.newarray .int, 2) := by decide +kernel
theorem dX9_init_271 : decode cX9_init 271 = .ok (.putfield 110, 3) := by decide +kernel
theorem dX9_init_274 : decode cX9_init 274 = .ok (.aload_n 0, 1) := by decide +kernel
theorem dX9_init_275 : decode cX9_init 275 = .ok (.bipush 10, 2) := by decide +kernel
theorem dX9_init_277 : decode cX9_init 277 = .ok (.newarray .int, 2) := by decide +kernel
theorem dX9_init_279 : decode cX9_init 279 = .ok (.putfield 113, 3) := by decide +kernel
theorem dX9_init_282 : decode cX9_init 282 = .ok (.aload_n 0, 1) := by decide +kernel
theorem dX9_init_283 : decode cX9_init 283 = .ok (.bipush 10, 2) := by decide +kernel
theorem dX9_init_285 : decode cX9_init 285 = .ok (.newarray .int, 2) := by decide +kernel
theorem dX9_init_287 : decode cX9_init 287 = .ok (.putfield 116, 3) := by decide +kernel
theorem dX9_init_290 : decode cX9_init 290 = .ok (.aload_n 0, 1) := by decide +kernel
theorem dX9_init_291 : decode cX9_init 291 = .ok (.bipush 10, 2) := by decide +kernel
theorem dX9_init_293 : decode cX9_init 293 = .ok (.newarray .int, 2) := by decide +kernel
theorem dX9_init_295 : decode cX9_init 295 = .ok (.putfield 119, 3) := by decide +kernel
theorem dX9_init_298 : decode cX9_init 298 = .ok (.aload_n 0, 1) := by decide +kernel
theorem dX9_init_299 : decode cX9_init 299 = .ok (.bipush 10, 2) := by decide +kernel
theorem dX9_init_301 : decode cX9_init 301 = .ok (.newarray .int, 2) := by decide +kernel
theorem dX9_init_303 : decode cX9_init 303 = .ok (.putfield 122, 3) := by decide +kernel
theorem dX9_init_306 : decode cX9_init 306 = .ok (.aload_n 0, 1) := by decide +kernel
theorem dX9_init_307 : decode cX9_init 307 = .ok (.bipush 20, 2) := by decide +kernel
theorem dX9_init_309 : decode cX9_init 309 = .ok (.newarray .int, 2) := by decide +kernel
theorem dX9_init_311 : decode cX9_init 311 = .ok (.putfield 125, 3) := by decide +kernel
theorem dX9_init_314 : decode cX9_init 314 = .ok (.aload_n 0, 1) := by decide +kernel
theorem dX9_init_315 : decode cX9_init 315 = .ok (.bipush 20, 2) := by decide +kernel
theorem dX9_init_317 : decode cX9_init 317 = .ok (.newarray .int, 2) := by decide +kernel
theorem dX9_init_319 : decode cX9_init 319 = .ok (.putfield 128, 3) := by decide +kernel
theorem dX9_init_322 : decode cX9_init 322 = .ok (.aload_n 0, 1) := by decide +kernel
theorem dX9_init_323 : decode cX9_init 323 = .ok (.bipush 20, 2) := by decide +kernel
theorem dX9_init_325 : decode cX9_init 325 = .ok (.newarray .int, 2) := by decide +kernel
theorem dX9_init_327 : decode cX9_init 327 = .ok (.putfield 131, 3) := by decide +kernel
theorem dX9_init_330 : decode cX9_init 330 = .ok (.aload_n 0, 1) := by decide +kernel
theorem dX9_init_331 : decode cX9_init 331 = .ok (.bipush 20, 2) := by decide +kernel
theorem dX9_init_333 : decode cX9_init 333 = .ok (.newarray .int, 2) := by decide +kernel
theorem dX9_init_335 : decode cX9_init 335 = .ok (.putfield 134, 3) := by decide +kernel
theorem dX9_init_338 : decode cX9_init 338 = .ok (.aload_n 0, 1) := by decide +kernel
theorem dX9_init_339 : decode cX9_init 339 = .ok (.bipush 20, 2) := by decide +kernel
theorem dX9_init_341 : decode cX9_init 341 = .ok (.newarray .int, 2) := by decide +kernel
theorem dX9_init_343 : decode cX9_init 343 = .ok (.putfield 137, 3) := by decide +kernel
theorem dX9_init_346 : decode cX9_init 346 = .ok (.aload_n 0, 1) := by decide +kernel
theorem dX9_init_347 : decode cX9_init 347 = .ok (.bipush 20, 2) := by decide +kernel
theorem dX9_init_349 : decode cX9_init 349 = .ok (.newarray .int, 2) := by decide +kernel
theorem dX9_init_351 : decode cX9_init 351 = .ok (.putfield 140, 3) := by decide +kernel
theorem dX9_init_354 : decode cX9_init 354 = .ok (.aload_n 0, 1) := by decide +kernel
theorem dX9_init_355 : decode cX9_init 355 = .ok (.bipush 20, 2) := by decide +kernel
theorem dX9_init_357 : decode cX9_init 357 = .ok (.newarray .int, 2) := by decide +kernel
theorem dX9_init_359 : decode cX9_init 359 = .ok (.putfield 143, 3) := by decide +kernel
theorem dX9_init_362 : decode cX9_init 362 = .ok (.aload_n 0, 1) := by decide +kernel
theorem dX9_init_363 : decode cX9_init 363 = .ok (.bipush 20, 2) := by decide +kernel
theorem dX9_init_365 : decode cX9_init 365 = .ok (.newarray .int, 2) := by decide +kernel
theorem dX9_init_367 : decode cX9_init 367 = .ok (.putfield 146, 3) := by decide +kernel
theorem dX9_init_370 : decode cX9_init 370 = .ok (.aload_n 0, 1) := by decide +kernel
theorem dX9_init_371 : decode cX9_init 371 = .ok (.bipush 20, 2) := by decide +kernel
theorem dX9_init_373 : decode cX9_init 373 = .ok (.newarray .int, 2) := by decide +kernel
theorem dX9_init_375 : decode cX9_init 375 = .ok (.putfield 149, 3) := by decide +kernel
theorem dX9_init_378 : decode cX9_init 378 = .ok (.aload_n 0, 1) := by decide +kernel
theorem dX9_init_379 : decode cX9_init 379 = .ok (.bipush 20, 2) := by decide +kernel
theorem dX9_init_381 : decode cX9_init 381 = .ok (.newarray .long, 2) := by decide +kernel
theorem dX9_init_383 : decode cX9_init 383 = .ok (.putfield 152, 3) := by decide +kernel
theorem dX9_init_386 : decode cX9_init 386 = .ok (.aload_n 0, 1) := by decide +kernel
theorem dX9_init_387 : decode cX9_init 387 = .ok (.bipush 20, 2) := by decide +kernel
theorem dX9_init_389 : decode cX9_init 389 = .ok (.newarray .boolean, 2) := by decide +kernel
theorem dX9_init_391 : decode cX9_init 391 = .ok (.putfield 155, 3) := by decide +kernel
theorem dX9_init_394 : decode cX9_init 394 = .ok (.aload_n 0, 1) := by decide +kernel
theorem dX9_init_395 : decode cX9_init 395 = .ok (.bipush 7, 2) := by decide +kernel
theorem dX9_init_397 : decode cX9_init 397 = .ok (.newarray .int, 2) := by decide +kernel
theorem dX9_init_399 : decode cX9_init 399 = .ok (.putfield 158, 3) := by decide +kernel
theorem dX9_init_402 : decode cX9_init 402 = .ok (.aload_n 0, 1) := by decide +kernel
theorem dX9_init_403 : decode cX9_init 403 = .ok (.bipush 70, 2) := by decide +kernel
theorem dX9_init_405 : decode cX9_init 405 = .ok (.newarray .int, 2) := by decide +kernel
theorem dX9_init_407 : decode cX9_init 407 = .ok (.putfield 161, 3) := by decide +kernel
theorem dX9_init_410 : decode cX9_init 410 = .ok (.aload_n 0, 1) := by decide +kernel
theorem dX9_init_411 : decode cX9_init 411 = .ok (.iconst 4, 1) := by decide +kernel
theorem dX9_init_412 : decode cX9_init 412 = .ok (.newarray .int, 2) := by decide +kernel
theorem dX9_init_414 : decode cX9_init 414 = .ok (.putfield 164, 3) := by decide +kernel
theorem dX9_init_417 : decode cX9_init 417 = .ok (.aload_n 0, 1) := by decide +kernel
theorem dX9_init_418 : decode cX9_init 418 = .ok (.bipush 60, 2) := by decide +kernel
theorem dX9_init_420 : decode cX9_init 420 = .ok (.newarray .int, 2) := by decide +kernel
theorem dX9_init_422 : decode cX9_init 422 = .ok (.putfield 167, 3) := by decide +kernel
theorem dX9_init_425 : decode cX9_init 425 = .ok (.aload_n 0, 1) := by decide +kernel
theorem dX9_init_426 : decode cX9_init 426 = .ok (.bipush 60, 2) := by decide +kernel
theorem dX9_init_428 : decode cX9_init 428 = .ok (.newarray .int, 2) := by decide +kernel
theorem dX9_init_430 : decode cX9_init 430 = .ok (.putfield 170, 3) := by decide +kernel
theorem dX9_init_433 : decode cX9_init 433 = .ok (.aload_n 0, 1) := by decide +kernel
theorem dX9_init_434 : decode cX9_init 434 = .ok (.bipush 60, 2) := by decide +kernel
theorem dX9_init_436 : decode cX9_init 436 = .ok (.newarray .int, 2) := by decide +kernel
theorem dX9_init_438 : decode cX9_init 438 = .ok (.putfield 173, 3) := by decide +kernel
theorem dX9_init_441 : decode cX9_init 441 = .ok (.return_, 1) := by decide +kernel
theorem dX9_sign_0 : decode cX9_sign 0 = .ok (.iload_n 1, 1) := by decide +kernel
theorem dX9_sign_1 : decode cX9_sign 1 = .ok (.aload_n 0, 1) := by decide +kernel
theorem dX9_sign_2 : decode cX9_sign 2 = .ok (.getfield 176, 3) := by decide +kernel
theorem dX9_sign_5 : decode cX9_sign 5 = .ok (.if_icmp .ge 16, 3) := by decide +kernel
theorem dX9_sign_8 : decode cX9_sign 8 = .ok (.aload_n 0, 1) := by decide +kernel
theorem dX9_sign_9 : decode cX9_sign 9 = .ok (.getfield 13, 3) := by decide +kernel
theorem dX9_sign_12 : decode cX9_sign 12 = .ok (.iload_n 1, 1) := by decide +kernel
theorem dX9_sign_13 : decode cX9_sign 13 = .ok (.baload, 1) := by decide +kernel
theorem dX9_sign_14 : decode cX9_sign 14 = .ok (.sipush 255, 3) := by decide +kernel
theorem dX9_sign_17 : decode cX9_sign 17 = .ok (.iand, 1) := by decide +kernel
theorem dX9_sign_18 : decode cX9_sign 18 = .ok (.goto 4, 3) := by decide +kernel
theorem dX9_sign_21 : decode cX9_sign 21 = .ok (.iconst 0, 1) := by decide +kernel
theorem dX9_sign_22 : decode cX9_sign 22 = .ok (.ireturn, 1) := by decide +kernel
theorem dX9_isLetter_0 : decode cX9_isLetter 0 = .ok (.iload_n 0, 1) := by decide +kernel
theorem dX9_isLetter_1 : decode cX9_isLetter 1 = .ok (.bipush 97, 2) := by decide +kernel
theorem dX9_isLetter_3 : decode cX9_isLetter 3 = .ok (.if_icmp .lt 13, 3) := by decide +kernel
theorem dX9_isLetter_6 : decode cX9_isLetter 6 = .ok (.iload_n 0, 1) := by decide +kernel
theorem dX9_isLetter_7 : decode cX9_isLetter 7 = .ok (.bipush 122, 2) := by decide +kernel
theorem dX9_isLetter_9 : decode cX9_isLetter 9 = .ok (.if_icmp .gt 7, 3) := by decide +kernel
theorem dX9_isLetter_12 : decode cX9_isLetter 12 = .ok (.iconst 1, 1) := by decide +kernel
theorem dX9_isLetter_13 : decode cX9_isLetter 13 = .ok (.goto 4, 3) := by decide +kernel
theorem dX9_isLetter_16 : decode cX9_isLetter 16 = .ok (.iconst 0, 1) := by decide +kernel
theorem dX9_isLetter_17 : decode cX9_isLetter 17 = .ok (.ireturn, 1) := by decide +kernel
theorem dX9_isDigit_0 : decode cX9_isDigit 0 = .ok (.iload_n 0, 1) := by decide +kernel
theorem dX9_isDigit_1 : decode cX9_isDigit 1 = .ok (.bipush 48, 2) := by decide +kernel
theorem dX9_isDigit_3 : decode cX9_isDigit 3 = .ok (.if_icmp .lt 13, 3) := by decide +kernel
theorem dX9_isDigit_6 : decode cX9_isDigit 6 = .ok (.iload_n 0, 1) := by decide +kernel
theorem dX9_isDigit_7 : decode cX9_isDigit 7 = .ok (.bipush 57, 2) := by decide +kernel
theorem dX9_isDigit_9 : decode cX9_isDigit 9 = .ok (.if_icmp .gt 7, 3) := by decide +kernel
theorem dX9_isDigit_12 : decode cX9_isDigit 12 = .ok (.iconst 1, 1) := by decide +kernel
theorem dX9_isDigit_13 : decode cX9_isDigit 13 = .ok (.goto 4, 3) := by decide +kernel
theorem dX9_isDigit_16 : decode cX9_isDigit 16 = .ok (.iconst 0, 1) := by decide +kernel
theorem dX9_isDigit_17 : decode cX9_isDigit 17 = .ok (.ireturn, 1) := by decide +kernel
theorem dX9_fails_0 : decode cX9_fails 0 = .ok (.aload_n 0, 1) := by decide +kernel
theorem dX9_fails_1 : decode cX9_fails 1 = .ok (.getfield 179, 3) := by decide +kernel
theorem dX9_fails_4 : decode cX9_fails 4 = .ok (.ifCond .le 4, 3) := by decide +kernel
theorem dX9_fails_7 : decode cX9_fails 7 = .ok (.return_, 1) := by decide +kernel
theorem dX9_fails_8 : decode cX9_fails 8 = .ok (.aload_n 0, 1) := by decide +kernel
theorem dX9_fails_9 : decode cX9_fails 9 = .ok (.iload_n 1, 1) := by decide +kernel
theorem dX9_fails_10 : decode cX9_fails 10 = .ok (.putfield 179, 3) := by decide +kernel
theorem dX9_fails_13 : decode cX9_fails 13 = .ok (.aload_n 0, 1) := by decide +kernel
theorem dX9_fails_14 : decode cX9_fails 14 = .ok (.iload_n 2, 1) := by decide +kernel
theorem dX9_fails_15 : decode cX9_fails 15 = .ok (.putfield 16, 3) := by decide +kernel
theorem dX9_fails_18 : decode cX9_fails 18 = .ok (.return_, 1) := by decide +kernel
theorem dX9_isGood_0 : decode cX9_isGood 0 = .ok (.aload_n 0, 1) := by decide +kernel
theorem dX9_isGood_1 : decode cX9_isGood 1 = .ok (.getfield 179, 3) := by decide +kernel
theorem dX9_isGood_4 : decode cX9_isGood 4 = .ok (.ifCond .ne 7, 3) := by decide +kernel
theorem dX9_isGood_7 : decode cX9_isGood 7 = .ok (.iconst 1, 1) := by decide +kernel
theorem dX9_isGood_8 : decode cX9_isGood 8 = .ok (.goto 4, 3) := by decide +kernel
theorem dX9_isGood_11 : decode cX9_isGood 11 = .ok (.iconst 0, 1) := by decide +kernel
theorem dX9_isGood_12 : decode cX9_isGood 12 = .ok (.ireturn, 1) := by decide +kernel
theorem dX9_meaning_0 : decode cX9_meaning 0 = .ok (.lload_n 0, 1) := by decide +kernel
theorem dX9_meaning_1 : decode cX9_meaning 1 = .ok (.ldc2_w 182, 3) := by decide +kernel
theorem dX9_meaning_4 : decode cX9_meaning 4 = .ok (.lcmp, 1) := by decide +kernel
theorem dX9_meaning_5 : decode cX9_meaning 5 = .ok (.ifCond .ne 7, 3) := by decide +kernel
theorem dX9_meaning_8 : decode cX9_meaning 8 = .ok (.iconst 0, 1) := by decide +kernel
theorem dX9_meaning_9 : decode cX9_meaning 9 = .ok (.goto 77, 3) := by decide +kernel
theorem dX9_meaning_12 : decode cX9_meaning 12 = .ok (.lload_n 0, 1) := by decide +kernel
theorem dX9_meaning_13 : decode cX9_meaning 13 = .ok (.ldc2_w 184, 3) := by decide +kernel
theorem dX9_meaning_16 : decode cX9_meaning 16 = .ok (.lcmp, 1) := by decide +kernel
theorem dX9_meaning_17 : decode cX9_meaning 17 = .ok (.ifCond .ne 7, 3) := by decide +kernel
theorem dX9_meaning_20 : decode cX9_meaning 20 = .ok (.iconst 1, 1) := by decide +kernel
theorem dX9_meaning_21 : decode cX9_meaning 21 = .ok (.goto 65, 3) := by decide +kernel
theorem dX9_meaning_24 : decode cX9_meaning 24 = .ok (.lload_n 0, 1) := by decide +kernel
theorem dX9_meaning_25 : decode cX9_meaning 25 = .ok (.ldc2_w 186, 3) := by decide +kernel
theorem dX9_meaning_28 : decode cX9_meaning 28 = .ok (.lcmp, 1) := by decide +kernel
theorem dX9_meaning_29 : decode cX9_meaning 29 = .ok (.ifCond .ne 7, 3) := by decide +kernel
theorem dX9_meaning_32 : decode cX9_meaning 32 = .ok (.iconst 2, 1) := by decide +kernel
theorem dX9_meaning_33 : decode cX9_meaning 33 = .ok (.goto 53, 3) := by decide +kernel
theorem dX9_meaning_36 : decode cX9_meaning 36 = .ok (.lload_n 0, 1) := by decide +kernel
theorem dX9_meaning_37 : decode cX9_meaning 37 = .ok (.ldc2_w 188, 3) := by decide +kernel
theorem dX9_meaning_40 : decode cX9_meaning 40 = .ok (.lcmp, 1) := by decide +kernel
theorem dX9_meaning_41 : decode cX9_meaning 41 = .ok (.ifCond .ne 7, 3) := by decide +kernel
theorem dX9_meaning_44 : decode cX9_meaning 44 = .ok (.iconst 3, 1) := by decide +kernel
theorem dX9_meaning_45 : decode cX9_meaning 45 = .ok (.goto 41, 3) := by decide +kernel
theorem dX9_meaning_48 : decode cX9_meaning 48 = .ok (.lload_n 0, 1) := by decide +kernel
theorem dX9_meaning_49 : decode cX9_meaning 49 = .ok (.ldc2_w 190, 3) := by decide +kernel
theorem dX9_meaning_52 : decode cX9_meaning 52 = .ok (.lcmp, 1) := by decide +kernel
theorem dX9_meaning_53 : decode cX9_meaning 53 = .ok (.ifCond .ne 7, 3) := by decide +kernel
theorem dX9_meaning_56 : decode cX9_meaning 56 = .ok (.iconst 4, 1) := by decide +kernel
theorem dX9_meaning_57 : decode cX9_meaning 57 = .ok (.goto 29, 3) := by decide +kernel
theorem dX9_meaning_60 : decode cX9_meaning 60 = .ok (.lload_n 0, 1) := by decide +kernel
theorem dX9_meaning_61 : decode cX9_meaning 61 = .ok (.ldc2_w 192, 3) := by decide +kernel
theorem dX9_meaning_64 : decode cX9_meaning 64 = .ok (.lcmp, 1) := by decide +kernel
theorem dX9_meaning_65 : decode cX9_meaning 65 = .ok (.ifCond .ne 7, 3) := by decide +kernel
theorem dX9_meaning_68 : decode cX9_meaning 68 = .ok (.iconst 5, 1) := by decide +kernel
theorem dX9_meaning_69 : decode cX9_meaning 69 = .ok (.goto 17, 3) := by decide +kernel
theorem dX9_meaning_72 : decode cX9_meaning 72 = .ok (.lload_n 0, 1) := by decide +kernel
theorem dX9_meaning_73 : decode cX9_meaning 73 = .ok (.ldc2_w 194, 3) := by decide +kernel
theorem dX9_meaning_76 : decode cX9_meaning 76 = .ok (.lcmp, 1) := by decide +kernel
theorem dX9_meaning_77 : decode cX9_meaning 77 = .ok (.ifCond .ne 8, 3) := by decide +kernel
theorem dX9_meaning_80 : decode cX9_meaning 80 = .ok (.bipush 6, 2) := by decide +kernel
theorem dX9_meaning_82 : decode cX9_meaning 82 = .ok (.goto 4, 3) := by decide +kernel
theorem dX9_meaning_85 : decode cX9_meaning 85 = .ok (.iconst (-1), 1) := by decide +kernel
theorem dX9_meaning_86 : decode cX9_meaning 86 = .ok (.ireturn, 1) := by decide +kernel
theorem dX9_isKept_0 : decode cX9_isKept 0 = .ok (.lload_n 0, 1) := by decide +kernel
theorem dX9_isKept_1 : decode cX9_isKept 1 = .ok (.invokestatic 196, 3) := by decide +kernel
theorem dX9_isKept_4 : decode cX9_isKept 4 = .ok (.ifCond .ge 115, 3) := by decide +kernel
theorem dX9_isKept_7 : decode cX9_isKept 7 = .ok (.lload_n 0, 1) := by decide +kernel
theorem dX9_isKept_8 : decode cX9_isKept 8 = .ok (.ldc2_w 200, 3) := by decide +kernel
theorem dX9_isKept_11 : decode cX9_isKept 11 = .ok (.lcmp, 1) := by decide +kernel
theorem dX9_isKept_12 : decode cX9_isKept 12 = .ok (.ifCond .eq 107, 3) := by decide +kernel
theorem dX9_isKept_15 : decode cX9_isKept 15 = .ok (.lload_n 0, 1) := by decide +kernel
theorem dX9_isKept_16 : decode cX9_isKept 16 = .ok (.ldc2_w 202, 3) := by decide +kernel
theorem dX9_isKept_19 : decode cX9_isKept 19 = .ok (.lcmp, 1) := by decide +kernel
theorem dX9_isKept_20 : decode cX9_isKept 20 = .ok (.ifCond .eq 99, 3) := by decide +kernel
theorem dX9_isKept_23 : decode cX9_isKept 23 = .ok (.lload_n 0, 1) := by decide +kernel
theorem dX9_isKept_24 : decode cX9_isKept 24 = .ok (.ldc2_w 204, 3) := by decide +kernel
theorem dX9_isKept_27 : decode cX9_isKept 27 = .ok (.lcmp, 1) := by decide +kernel
theorem dX9_isKept_28 : decode cX9_isKept 28 = .ok (.ifCond .eq 91, 3) := by decide +kernel
theorem dX9_isKept_31 : decode cX9_isKept 31 = .ok (.lload_n 0, 1) := by decide +kernel
theorem dX9_isKept_32 : decode cX9_isKept 32 = .ok (.ldc2_w 206, 3) := by decide +kernel
theorem dX9_isKept_35 : decode cX9_isKept 35 = .ok (.lcmp, 1) := by decide +kernel
theorem dX9_isKept_36 : decode cX9_isKept 36 = .ok (.ifCond .eq 83, 3) := by decide +kernel
theorem dX9_isKept_39 : decode cX9_isKept 39 = .ok (.lload_n 0, 1) := by decide +kernel
theorem dX9_isKept_40 : decode cX9_isKept 40 = .ok (.ldc2_w 208, 3) := by decide +kernel
theorem dX9_isKept_43 : decode cX9_isKept 43 = .ok (.lcmp, 1) := by decide +kernel
theorem dX9_isKept_44 : decode cX9_isKept 44 = .ok (.ifCond .eq 75, 3) := by decide +kernel
theorem dX9_isKept_47 : decode cX9_isKept 47 = .ok (.lload_n 0, 1) := by decide +kernel
theorem dX9_isKept_48 : decode cX9_isKept 48 = .ok (.ldc2_w 210, 3) := by decide +kernel
theorem dX9_isKept_51 : decode cX9_isKept 51 = .ok (.lcmp, 1) := by decide +kernel
theorem dX9_isKept_52 : decode cX9_isKept 52 = .ok (.ifCond .eq 67, 3) := by decide +kernel
theorem dX9_isKept_55 : decode cX9_isKept 55 = .ok (.lload_n 0, 1) := by decide +kernel
theorem dX9_isKept_56 : decode cX9_isKept 56 = .ok (.ldc2_w 212, 3) := by decide +kernel
theorem dX9_isKept_59 : decode cX9_isKept 59 = .ok (.lcmp, 1) := by decide +kernel
theorem dX9_isKept_60 : decode cX9_isKept 60 = .ok (.ifCond .eq 59, 3) := by decide +kernel
theorem dX9_isKept_63 : decode cX9_isKept 63 = .ok (.lload_n 0, 1) := by decide +kernel
theorem dX9_isKept_64 : decode cX9_isKept 64 = .ok (.ldc2_w 214, 3) := by decide +kernel
theorem dX9_isKept_67 : decode cX9_isKept 67 = .ok (.lcmp, 1) := by decide +kernel
theorem dX9_isKept_68 : decode cX9_isKept 68 = .ok (.ifCond .eq 51, 3) := by decide +kernel
theorem dX9_isKept_71 : decode cX9_isKept 71 = .ok (.lload_n 0, 1) := by decide +kernel
theorem dX9_isKept_72 : decode cX9_isKept 72 = .ok (.ldc2_w 216, 3) := by decide +kernel
theorem dX9_isKept_75 : decode cX9_isKept 75 = .ok (.lcmp, 1) := by decide +kernel
theorem dX9_isKept_76 : decode cX9_isKept 76 = .ok (.ifCond .eq 43, 3) := by decide +kernel
theorem dX9_isKept_79 : decode cX9_isKept 79 = .ok (.lload_n 0, 1) := by decide +kernel
theorem dX9_isKept_80 : decode cX9_isKept 80 = .ok (.ldc2_w 218, 3) := by decide +kernel
theorem dX9_isKept_83 : decode cX9_isKept 83 = .ok (.lcmp, 1) := by decide +kernel
theorem dX9_isKept_84 : decode cX9_isKept 84 = .ok (.ifCond .eq 35, 3) := by decide +kernel
theorem dX9_isKept_87 : decode cX9_isKept 87 = .ok (.lload_n 0, 1) := by decide +kernel
theorem dX9_isKept_88 : decode cX9_isKept 88 = .ok (.ldc2_w 220, 3) := by decide +kernel
theorem dX9_isKept_91 : decode cX9_isKept 91 = .ok (.lcmp, 1) := by decide +kernel
theorem dX9_isKept_92 : decode cX9_isKept 92 = .ok (.ifCond .eq 27, 3) := by decide +kernel
theorem dX9_isKept_95 : decode cX9_isKept 95 = .ok (.lload_n 0, 1) := by decide +kernel
theorem dX9_isKept_96 : decode cX9_isKept 96 = .ok (.ldc2_w 222, 3) := by decide +kernel
theorem dX9_isKept_99 : decode cX9_isKept 99 = .ok (.lcmp, 1) := by decide +kernel
theorem dX9_isKept_100 : decode cX9_isKept 100 = .ok (.ifCond .eq 19, 3) := by decide +kernel
theorem dX9_isKept_103 : decode cX9_isKept 103 = .ok (.lload_n 0, 1) := by decide +kernel
theorem dX9_isKept_104 : decode cX9_isKept 104 = .ok (.ldc2_w 224, 3) := by decide +kernel
theorem dX9_isKept_107 : decode cX9_isKept 107 = .ok (.lcmp, 1) := by decide +kernel
theorem dX9_isKept_108 : decode cX9_isKept 108 = .ok (.ifCond .eq 11, 3) := by decide +kernel
theorem dX9_isKept_111 : decode cX9_isKept 111 = .ok (.lload_n 0, 1) := by decide +kernel
theorem dX9_isKept_112 : decode cX9_isKept 112 = .ok (.ldc2_w 226, 3) := by decide +kernel
theorem dX9_isKept_115 : decode cX9_isKept 115 = .ok (.lcmp, 1) := by decide +kernel
theorem dX9_isKept_116 : decode cX9_isKept 116 = .ok (.ifCond .ne 7, 3) := by decide +kernel
theorem dX9_isKept_119 : decode cX9_isKept 119 = .ok (.iconst 1, 1) := by decide +kernel
theorem dX9_isKept_120 : decode cX9_isKept 120 = .ok (.goto 4, 3) := by decide +kernel
theorem dX9_isKept_123 : decode cX9_isKept 123 = .ok (.iconst 0, 1) := by decide +kernel
theorem dX9_isKept_124 : decode cX9_isKept 124 = .ok (.ireturn, 1) := by decide +kernel
theorem dX9_next_0 : decode cX9_next 0 = .ok (.aload_n 0, 1) := by decide +kernel
theorem dX9_next_1 : decode cX9_next 1 = .ok (.aload_n 0, 1) := by decide +kernel
theorem dX9_next_2 : decode cX9_next 2 = .ok (.getfield 228, 3) := by decide +kernel
theorem dX9_next_5 : decode cX9_next 5 = .ok (.putfield 231, 3) := by decide +kernel
theorem dX9_next_8 : decode cX9_next 8 = .ok (.aload_n 0, 1) := by decide +kernel
theorem dX9_next_9 : decode cX9_next 9 = .ok (.getfield 231, 3) := by decide +kernel
theorem dX9_next_12 : decode cX9_next 12 = .ok (.aload_n 0, 1) := by decide +kernel
theorem dX9_next_13 : decode cX9_next 13 = .ok (.getfield 176, 3) := by decide +kernel
theorem dX9_next_16 : decode cX9_next 16 = .ok (.if_icmp .ge 42, 3) := by decide +kernel
theorem dX9_next_19 : decode cX9_next 19 = .ok (.aload_n 0, 1) := by decide +kernel
theorem dX9_next_20 : decode cX9_next 20 = .ok (.aload_n 0, 1) := by decide +kernel
theorem dX9_next_21 : decode cX9_next 21 = .ok (.getfield 231, 3) := by decide +kernel
theorem dX9_next_24 : decode cX9_next 24 = .ok (.invokevirtual 234, 3) := by decide +kernel
theorem dX9_next_27 : decode cX9_next 27 = .ok (.bipush 32, 2) := by decide +kernel
theorem dX9_next_29 : decode cX9_next 29 = .ok (.if_icmp .eq 16, 3) := by decide +kernel
theorem dX9_next_32 : decode cX9_next 32 = .ok (.aload_n 0, 1) := by decide +kernel
theorem dX9_next_33 : decode cX9_next 33 = .ok (.aload_n 0, 1) := by decide +kernel
theorem dX9_next_34 : decode cX9_next 34 = .ok (.getfield 231, 3) := by decide +kernel
theorem dX9_next_37 : decode cX9_next 37 = .ok (.invokevirtual 234, 3) := by decide +kernel
theorem dX9_next_40 : decode cX9_next 40 = .ok (.bipush 10, 2) := by decide +kernel
theorem dX9_next_42 : decode cX9_next 42 = .ok (.if_icmp .ne 16, 3) := by decide +kernel
theorem dX9_next_45 : decode cX9_next 45 = .ok (.aload_n 0, 1) := by decide +kernel
theorem dX9_next_46 : decode cX9_next 46 = .ok (.dup, 1) := by decide +kernel
theorem dX9_next_47 : decode cX9_next 47 = .ok (.getfield 231, 3) := by decide +kernel
theorem dX9_next_50 : decode cX9_next 50 = .ok (.iconst 1, 1) := by decide +kernel
theorem dX9_next_51 : decode cX9_next 51 = .ok (.iadd, 1) := by decide +kernel
theorem dX9_next_52 : decode cX9_next 52 = .ok (.putfield 231, 3) := by decide +kernel
theorem dX9_next_55 : decode cX9_next 55 = .ok (.goto (-47), 3) := by decide +kernel
theorem dX9_next_58 : decode cX9_next 58 = .ok (.aload_n 0, 1) := by decide +kernel
theorem dX9_next_59 : decode cX9_next 59 = .ok (.aload_n 0, 1) := by decide +kernel
theorem dX9_next_60 : decode cX9_next 60 = .ok (.getfield 231, 3) := by decide +kernel
theorem dX9_next_63 : decode cX9_next 63 = .ok (.invokevirtual 234, 3) := by decide +kernel
theorem dX9_next_66 : decode cX9_next 66 = .ok (.istore_n 1, 1) := by decide +kernel
theorem dX9_next_67 : decode cX9_next 67 = .ok (.aload_n 0, 1) := by decide +kernel
theorem dX9_next_68 : decode cX9_next 68 = .ok (.aload_n 0, 1) := by decide +kernel
theorem dX9_next_69 : decode cX9_next 69 = .ok (.getfield 231, 3) := by decide +kernel
theorem dX9_next_72 : decode cX9_next 72 = .ok (.iconst 1, 1) := by decide +kernel
theorem dX9_next_73 : decode cX9_next 73 = .ok (.iadd, 1) := by decide +kernel
theorem dX9_next_74 : decode cX9_next 74 = .ok (.putfield 228, 3) := by decide +kernel
theorem dX9_next_77 : decode cX9_next 77 = .ok (.aload_n 0, 1) := by decide +kernel
theorem dX9_next_78 : decode cX9_next 78 = .ok (.getfield 231, 3) := by decide +kernel
theorem dX9_next_81 : decode cX9_next 81 = .ok (.aload_n 0, 1) := by decide +kernel
theorem dX9_next_82 : decode cX9_next 82 = .ok (.getfield 176, 3) := by decide +kernel
theorem dX9_next_85 : decode cX9_next 85 = .ok (.if_icmp .lt 27, 3) := by decide +kernel
theorem dX9_next_88 : decode cX9_next 88 = .ok (.aload_n 0, 1) := by decide +kernel
theorem dX9_next_89 : decode cX9_next 89 = .ok (.iconst 0, 1) := by decide +kernel
theorem dX9_next_90 : decode cX9_next 90 = .ok (.putfield 238, 3) := by decide +kernel
theorem dX9_next_93 : decode cX9_next 93 = .ok (.aload_n 0, 1) := by decide +kernel
theorem dX9_next_94 : decode cX9_next 94 = .ok (.aload_n 0, 1) := by decide +kernel
theorem dX9_next_95 : decode cX9_next 95 = .ok (.getfield 176, 3) := by decide +kernel
theorem dX9_next_98 : decode cX9_next 98 = .ok (.putfield 231, 3) := by decide +kernel
theorem dX9_next_101 : decode cX9_next 101 = .ok (.aload_n 0, 1) := by decide +kernel
theorem dX9_next_102 : decode cX9_next 102 = .ok (.aload_n 0, 1) := by decide +kernel
theorem dX9_next_103 : decode cX9_next 103 = .ok (.getfield 176, 3) := by decide +kernel
theorem dX9_next_106 : decode cX9_next 106 = .ok (.putfield 228, 3) := by decide +kernel
theorem dX9_next_109 : decode cX9_next 109 = .ok (.goto 299, 3) := by decide +kernel
theorem dX9_next_112 : decode cX9_next 112 = .ok (.iload_n 1, 1) := by decide +kernel
theorem dX9_next_113 : decode cX9_next 113 = .ok (.invokestatic 241, 3) := by decide +kernel
theorem dX9_next_116 : decode cX9_next 116 = .ok (.ifCond .eq 123, 3) := by decide +kernel
theorem dX9_next_119 : decode cX9_next 119 = .ok (.aload_n 0, 1) := by decide +kernel
theorem dX9_next_120 : decode cX9_next 120 = .ok (.aload_n 0, 1) := by decide +kernel
theorem dX9_next_121 : decode cX9_next 121 = .ok (.getfield 228, 3) := by decide +kernel
theorem dX9_next_124 : decode cX9_next 124 = .ok (.invokevirtual 234, 3) := by decide +kernel
theorem dX9_next_127 : decode cX9_next 127 = .ok (.invokestatic 241, 3) := by decide +kernel
theorem dX9_next_130 : decode cX9_next 130 = .ok (.ifCond .eq 16, 3) := by decide +kernel
theorem dX9_next_133 : decode cX9_next 133 = .ok (.aload_n 0, 1) := by decide +kernel
theorem dX9_next_134 : decode cX9_next 134 = .ok (.dup, 1) := by decide +kernel
theorem dX9_next_135 : decode cX9_next 135 = .ok (.getfield 228, 3) := by decide +kernel
theorem dX9_next_138 : decode cX9_next 138 = .ok (.iconst 1, 1) := by decide +kernel
theorem dX9_next_139 : decode cX9_next 139 = .ok (.iadd, 1) := by decide +kernel
theorem dX9_next_140 : decode cX9_next 140 = .ok (.putfield 228, 3) := by decide +kernel
theorem dX9_next_143 : decode cX9_next 143 = .ok (.goto (-24), 3) := by decide +kernel
theorem dX9_next_146 : decode cX9_next 146 = .ok (.aload_n 0, 1) := by decide +kernel
theorem dX9_next_147 : decode cX9_next 147 = .ok (.lconst 0, 1) := by decide +kernel
theorem dX9_next_148 : decode cX9_next 148 = .ok (.putfield 245, 3) := by decide +kernel
theorem dX9_next_151 : decode cX9_next 151 = .ok (.aload_n 0, 1) := by decide +kernel
theorem dX9_next_152 : decode cX9_next 152 = .ok (.getfield 231, 3) := by decide +kernel
theorem dX9_next_155 : decode cX9_next 155 = .ok (.istore_n 2, 1) := by decide +kernel
theorem dX9_next_156 : decode cX9_next 156 = .ok (.iload_n 2, 1) := by decide +kernel
theorem dX9_next_157 : decode cX9_next 157 = .ok (.aload_n 0, 1) := by decide +kernel
theorem dX9_next_158 : decode cX9_next 158 = .ok (.getfield 228, 3) := by decide +kernel
theorem dX9_next_161 : decode cX9_next 161 = .ok (.if_icmp .ge 38, 3) := by decide +kernel
theorem dX9_next_164 : decode cX9_next 164 = .ok (.iload_n 2, 1) := by decide +kernel
theorem dX9_next_165 : decode cX9_next 165 = .ok (.aload_n 0, 1) := by decide +kernel
theorem dX9_next_166 : decode cX9_next 166 = .ok (.getfield 231, 3) := by decide +kernel
theorem dX9_next_169 : decode cX9_next 169 = .ok (.bipush 8, 2) := by decide +kernel
theorem dX9_next_171 : decode cX9_next 171 = .ok (.iadd, 1) := by decide +kernel
theorem dX9_next_172 : decode cX9_next 172 = .ok (.if_icmp .ge 27, 3) := by decide +kernel
theorem dX9_next_175 : decode cX9_next 175 = .ok (.aload_n 0, 1) := by decide +kernel
theorem dX9_next_176 : decode cX9_next 176 = .ok (.aload_n 0, 1) := by decide +kernel
theorem dX9_next_177 : decode cX9_next 177 = .ok (.getfield 245, 3) := by decide +kernel
theorem dX9_next_180 : decode cX9_next 180 = .ok (.bipush 8, 2) := by decide +kernel
theorem dX9_next_182 : decode cX9_next 182 = .ok (.lshl, 1) := by decide +kernel
theorem dX9_next_183 : decode cX9_next 183 = .ok (.aload_n 0, 1) := by decide +kernel
theorem dX9_next_184 : decode cX9_next 184 = .ok (.iload_n 2, 1) := by decide +kernel
theorem dX9_next_185 : decode cX9_next 185 = .ok (.invokevirtual 234, 3) := by decide +kernel
theorem dX9_next_188 : decode cX9_next 188 = .ok (.i2l, 1) := by decide +kernel
theorem dX9_next_189 : decode cX9_next 189 = .ok (.lor, 1) := by decide +kernel
theorem dX9_next_190 : decode cX9_next 190 = .ok (.putfield 245, 3) := by decide +kernel
theorem dX9_next_193 : decode cX9_next 193 = .ok (.iinc 2 1, 3) := by decide +kernel
theorem dX9_next_196 : decode cX9_next 196 = .ok (.goto (-40), 3) := by decide +kernel
theorem dX9_next_199 : decode cX9_next 199 = .ok (.aload_n 0, 1) := by decide +kernel
theorem dX9_next_200 : decode cX9_next 200 = .ok (.aload_n 0, 1) := by decide +kernel
theorem dX9_next_201 : decode cX9_next 201 = .ok (.getfield 228, 3) := by decide +kernel
theorem dX9_next_204 : decode cX9_next 204 = .ok (.aload_n 0, 1) := by decide +kernel
theorem dX9_next_205 : decode cX9_next 205 = .ok (.getfield 231, 3) := by decide +kernel
theorem dX9_next_208 : decode cX9_next 208 = .ok (.isub, 1) := by decide +kernel
theorem dX9_next_209 : decode cX9_next 209 = .ok (.bipush 8, 2) := by decide +kernel
theorem dX9_next_211 : decode cX9_next 211 = .ok (.if_icmp .le 7, 3) := by decide +kernel
theorem dX9_next_214 : decode cX9_next 214 = .ok (.iconst 1, 1) := by decide +kernel
theorem dX9_next_215 : decode cX9_next 215 = .ok (.goto 18, 3) := by decide +kernel
theorem dX9_next_218 : decode cX9_next 218 = .ok (.aload_n 0, 1) := by decide +kernel
theorem dX9_next_219 : decode cX9_next 219 = .ok (.getfield 245, 3) := by decide +kernel
theorem dX9_next_222 : decode cX9_next 222 = .ok (.invokestatic 249, 3) := by decide +kernel
theorem dX9_next_225 : decode cX9_next 225 = .ok (.ifCond .eq 7, 3) := by decide +kernel
theorem dX9_next_228 : decode cX9_next 228 = .ok (.iconst 3, 1) := by decide +kernel
theorem dX9_next_229 : decode cX9_next 229 = .ok (.goto 4, 3) := by decide +kernel
theorem dX9_next_232 : decode cX9_next 232 = .ok (.iconst 2, 1) := by decide +kernel
theorem dX9_next_233 : decode cX9_next 233 = .ok (.putfield 238, 3) := by decide +kernel
theorem dX9_next_236 : decode cX9_next 236 = .ok (.goto 172, 3) := by decide +kernel
theorem dX9_next_239 : decode cX9_next 239 = .ok (.iload_n 1, 1) := by decide +kernel
theorem dX9_next_240 : decode cX9_next 240 = .ok (.invokestatic 253, 3) := by decide +kernel
theorem dX9_next_243 : decode cX9_next 243 = .ok (.ifCond .eq 120, 3) := by decide +kernel
theorem dX9_next_246 : decode cX9_next 246 = .ok (.aload_n 0, 1) := by decide +kernel
theorem dX9_next_247 : decode cX9_next 247 = .ok (.iconst 0, 1) := by decide +kernel
theorem dX9_next_248 : decode cX9_next 248 = .ok (.putfield 256, 3) := by decide +kernel
theorem dX9_next_251 : decode cX9_next 251 = .ok (.aload_n 0, 1) := by decide +kernel
theorem dX9_next_252 : decode cX9_next 252 = .ok (.aload_n 0, 1) := by decide +kernel
theorem dX9_next_253 : decode cX9_next 253 = .ok (.getfield 231, 3) := by decide +kernel
theorem dX9_next_256 : decode cX9_next 256 = .ok (.putfield 228, 3) := by decide +kernel
theorem dX9_next_259 : decode cX9_next 259 = .ok (.aload_n 0, 1) := by decide +kernel
theorem dX9_next_260 : decode cX9_next 260 = .ok (.aload_n 0, 1) := by decide +kernel
theorem dX9_next_261 : decode cX9_next 261 = .ok (.getfield 228, 3) := by decide +kernel
theorem dX9_next_264 : decode cX9_next 264 = .ok (.invokevirtual 234, 3) := by decide +kernel
theorem dX9_next_267 : decode cX9_next 267 = .ok (.invokestatic 253, 3) := by decide +kernel
theorem dX9_next_270 : decode cX9_next 270 = .ok (.ifCond .eq 53, 3) := by decide +kernel
theorem dX9_next_273 : decode cX9_next 273 = .ok (.aload_n 0, 1) := by decide +kernel
theorem dX9_next_274 : decode cX9_next 274 = .ok (.getfield 228, 3) := by decide +kernel
theorem dX9_next_277 : decode cX9_next 277 = .ok (.aload_n 0, 1) := by decide +kernel
theorem dX9_next_278 : decode cX9_next 278 = .ok (.getfield 231, 3) := by decide +kernel
theorem dX9_next_281 : decode cX9_next 281 = .ok (.isub, 1) := by decide +kernel
theorem dX9_next_282 : decode cX9_next 282 = .ok (.bipush 6, 2) := by decide +kernel
theorem dX9_next_284 : decode cX9_next 284 = .ok (.if_icmp .ge 26, 3) := by decide +kernel
theorem dX9_next_287 : decode cX9_next 287 = .ok (.aload_n 0, 1) := by decide +kernel
theorem dX9_next_288 : decode cX9_next 288 = .ok (.bipush 10, 2) := by decide +kernel
theorem dX9_next_290 : decode cX9_next 290 = .ok (.aload_n 0, 1) := by decide +kernel
theorem dX9_next_291 : decode cX9_next 291 = .ok (.getfield 256, 3) := by decide +kernel
theorem dX9_next_294 : decode cX9_next 294 = .ok (.imul, 1) := by decide +kernel
theorem dX9_next_295 : decode cX9_next 295 = .ok (.aload_n 0, 1) := by decide +kernel
theorem dX9_next_296 : decode cX9_next 296 = .ok (.aload_n 0, 1) := by decide +kernel
theorem dX9_next_297 : decode cX9_next 297 = .ok (.getfield 228, 3) := by decide +kernel
theorem dX9_next_300 : decode cX9_next 300 = .ok (.invokevirtual 234, 3) := by decide +kernel
theorem dX9_next_303 : decode cX9_next 303 = .ok (.iadd, 1) := by decide +kernel
theorem dX9_next_304 : decode cX9_next 304 = .ok (.bipush 48, 2) := by decide +kernel
theorem dX9_next_306 : decode cX9_next 306 = .ok (.isub, 1) := by decide +kernel
theorem dX9_next_307 : decode cX9_next 307 = .ok (.putfield 256, 3) := by decide +kernel
theorem dX9_next_310 : decode cX9_next 310 = .ok (.aload_n 0, 1) := by decide +kernel
theorem dX9_next_311 : decode cX9_next 311 = .ok (.dup, 1) := by decide +kernel
theorem dX9_next_312 : decode cX9_next 312 = .ok (.getfield 228, 3) := by decide +kernel
theorem dX9_next_315 : decode cX9_next 315 = .ok (.iconst 1, 1) := by decide +kernel
theorem dX9_next_316 : decode cX9_next 316 = .ok (.iadd, 1) := by decide +kernel
theorem dX9_next_317 : decode cX9_next 317 = .ok (.putfield 228, 3) := by decide +kernel
theorem dX9_next_320 : decode cX9_next 320 = .ok (.goto (-61), 3) := by decide +kernel
theorem dX9_next_323 : decode cX9_next 323 = .ok (.aload_n 0, 1) := by decide +kernel
theorem dX9_next_324 : decode cX9_next 324 = .ok (.aload_n 0, 1) := by decide +kernel
theorem dX9_next_325 : decode cX9_next 325 = .ok (.getfield 228, 3) := by decide +kernel
theorem dX9_next_328 : decode cX9_next 328 = .ok (.aload_n 0, 1) := by decide +kernel
theorem dX9_next_329 : decode cX9_next 329 = .ok (.getfield 231, 3) := by decide +kernel
theorem dX9_next_332 : decode cX9_next 332 = .ok (.isub, 1) := by decide +kernel
theorem dX9_next_333 : decode cX9_next 333 = .ok (.bipush 6, 2) := by decide +kernel
theorem dX9_next_335 : decode cX9_next 335 = .ok (.if_icmp .gt 17, 3) := by decide +kernel
theorem dX9_next_338 : decode cX9_next 338 = .ok (.aload_n 0, 1) := by decide +kernel
theorem dX9_next_339 : decode cX9_next 339 = .ok (.aload_n 0, 1) := by decide +kernel
theorem dX9_next_340 : decode cX9_next 340 = .ok (.getfield 228, 3) := by decide +kernel
theorem dX9_next_343 : decode cX9_next 343 = .ok (.invokevirtual 234, 3) := by decide +kernel
theorem dX9_next_346 : decode cX9_next 346 = .ok (.invokestatic 241, 3) := by decide +kernel
theorem dX9_next_349 : decode cX9_next 349 = .ok (.ifCond .eq 7, 3) := by decide +kernel
theorem dX9_next_352 : decode cX9_next 352 = .ok (.iconst 1, 1) := by decide +kernel
theorem dX9_next_353 : decode cX9_next 353 = .ok (.goto 4, 3) := by decide +kernel
theorem dX9_next_356 : decode cX9_next 356 = .ok (.iconst 4, 1) := by decide +kernel
theorem dX9_next_357 : decode cX9_next 357 = .ok (.putfield 238, 3) := by decide +kernel
theorem dX9_next_360 : decode cX9_next 360 = .ok (.goto 48, 3) := by decide +kernel
theorem dX9_next_363 : decode cX9_next 363 = .ok (.aload_n 0, 1) := by decide +kernel
theorem dX9_next_364 : decode cX9_next 364 = .ok (.iload_n 1, 1) := by decide +kernel
theorem dX9_next_365 : decode cX9_next 365 = .ok (.bipush 59, 2) := by decide +kernel
theorem dX9_next_367 : decode cX9_next 367 = .ok (.if_icmp .eq 33, 3) := by decide +kernel
theorem dX9_next_370 : decode cX9_next 370 = .ok (.iload_n 1, 1) := by decide +kernel
theorem dX9_next_371 : decode cX9_next 371 = .ok (.bipush 40, 2) := by decide +kernel
theorem dX9_next_373 : decode cX9_next 373 = .ok (.if_icmp .eq 27, 3) := by decide +kernel
theorem dX9_next_376 : decode cX9_next 376 = .ok (.iload_n 1, 1) := by decide +kernel
theorem dX9_next_377 : decode cX9_next 377 = .ok (.bipush 41, 2) := by decide +kernel
theorem dX9_next_379 : decode cX9_next 379 = .ok (.if_icmp .eq 21, 3) := by decide +kernel
theorem dX9_next_382 : decode cX9_next 382 = .ok (.iload_n 1, 1) := by decide +kernel
theorem dX9_next_383 : decode cX9_next 383 = .ok (.bipush 60, 2) := by decide +kernel
theorem dX9_next_385 : decode cX9_next 385 = .ok (.if_icmp .eq 15, 3) := by decide +kernel
theorem dX9_next_388 : decode cX9_next 388 = .ok (.iload_n 1, 1) := by decide +kernel
theorem dX9_next_389 : decode cX9_next 389 = .ok (.bipush 62, 2) := by decide +kernel
theorem dX9_next_391 : decode cX9_next 391 = .ok (.if_icmp .eq 9, 3) := by decide +kernel
theorem dX9_next_394 : decode cX9_next 394 = .ok (.iload_n 1, 1) := by decide +kernel
theorem dX9_next_395 : decode cX9_next 395 = .ok (.bipush 61, 2) := by decide +kernel
theorem dX9_next_397 : decode cX9_next 397 = .ok (.if_icmp .ne 7, 3) := by decide +kernel
theorem dX9_next_400 : decode cX9_next 400 = .ok (.iconst 5, 1) := by decide +kernel
theorem dX9_next_401 : decode cX9_next 401 = .ok (.goto 4, 3) := by decide +kernel
theorem dX9_next_404 : decode cX9_next 404 = .ok (.iconst 1, 1) := by decide +kernel
theorem dX9_next_405 : decode cX9_next 405 = .ok (.putfield 238, 3) := by decide +kernel
theorem dX9_next_408 : decode cX9_next 408 = .ok (.return_, 1) := by decide +kernel
theorem dX9_is_0 : decode cX9_is 0 = .ok (.aload_n 0, 1) := by decide +kernel
theorem dX9_is_1 : decode cX9_is 1 = .ok (.getfield 238, 3) := by decide +kernel
theorem dX9_is_4 : decode cX9_is 4 = .ok (.iconst 5, 1) := by decide +kernel
theorem dX9_is_5 : decode cX9_is 5 = .ok (.if_icmp .ne 19, 3) := by decide +kernel
theorem dX9_is_8 : decode cX9_is 8 = .ok (.aload_n 0, 1) := by decide +kernel
theorem dX9_is_9 : decode cX9_is 9 = .ok (.aload_n 0, 1) := by decide +kernel
theorem dX9_is_10 : decode cX9_is 10 = .ok (.getfield 231, 3) := by decide +kernel
theorem dX9_is_13 : decode cX9_is 13 = .ok (.invokevirtual 234, 3) := by decide +kernel
theorem dX9_is_16 : decode cX9_is 16 = .ok (.iload_n 1, 1) := by decide +kernel
theorem dX9_is_17 : decode cX9_is 17 = .ok (.if_icmp .ne 7, 3) := by decide +kernel
theorem dX9_is_20 : decode cX9_is 20 = .ok (.iconst 1, 1) := by decide +kernel
theorem dX9_is_21 : decode cX9_is 21 = .ok (.goto 4, 3) := by decide +kernel
theorem dX9_is_24 : decode cX9_is 24 = .ok (.iconst 0, 1) := by decide +kernel
theorem dX9_is_25 : decode cX9_is 25 = .ok (.ireturn, 1) := by decide +kernel
theorem dX9_isWord_0 : decode cX9_isWord 0 = .ok (.aload_n 0, 1) := by decide +kernel
theorem dX9_isWord_1 : decode cX9_isWord 1 = .ok (.getfield 238, 3) := by decide +kernel
theorem dX9_isWord_4 : decode cX9_isWord 4 = .ok (.iconst 3, 1) := by decide +kernel
theorem dX9_isWord_5 : decode cX9_isWord 5 = .ok (.if_icmp .ne 16, 3) := by decide +kernel
theorem dX9_isWord_8 : decode cX9_isWord 8 = .ok (.aload_n 0, 1) := by decide +kernel
theorem dX9_isWord_9 : decode cX9_isWord 9 = .ok (.getfield 245, 3) := by decide +kernel
theorem dX9_isWord_12 : decode cX9_isWord 12 = .ok (.lload_n 1, 1) := by decide +kernel
theorem dX9_isWord_13 : decode cX9_isWord 13 = .ok (.lcmp, 1) := by decide +kernel
theorem dX9_isWord_14 : decode cX9_isWord 14 = .ok (.ifCond .ne 7, 3) := by decide +kernel
theorem dX9_isWord_17 : decode cX9_isWord 17 = .ok (.iconst 1, 1) := by decide +kernel
theorem dX9_isWord_18 : decode cX9_isWord 18 = .ok (.goto 4, 3) := by decide +kernel
theorem dX9_isWord_21 : decode cX9_isWord 21 = .ok (.iconst 0, 1) := by decide +kernel
theorem dX9_isWord_22 : decode cX9_isWord 22 = .ok (.ireturn, 1) := by decide +kernel
theorem dX9_wrong_0 : decode cX9_wrong 0 = .ok (.aload_n 0, 1) := by decide +kernel
theorem dX9_wrong_1 : decode cX9_wrong 1 = .ok (.aload_n 0, 1) := by decide +kernel
theorem dX9_wrong_2 : decode cX9_wrong 2 = .ok (.getfield 238, 3) := by decide +kernel
theorem dX9_wrong_5 : decode cX9_wrong 5 = .ok (.iconst 1, 1) := by decide +kernel
theorem dX9_wrong_6 : decode cX9_wrong 6 = .ok (.if_icmp .ne 7, 3) := by decide +kernel
theorem dX9_wrong_9 : decode cX9_wrong 9 = .ok (.iconst 1, 1) := by decide +kernel
theorem dX9_wrong_10 : decode cX9_wrong 10 = .ok (.goto 4, 3) := by decide +kernel
theorem dX9_wrong_13 : decode cX9_wrong 13 = .ok (.iconst 2, 1) := by decide +kernel
theorem dX9_wrong_14 : decode cX9_wrong 14 = .ok (.aload_n 0, 1) := by decide +kernel
theorem dX9_wrong_15 : decode cX9_wrong 15 = .ok (.getfield 231, 3) := by decide +kernel
theorem dX9_wrong_18 : decode cX9_wrong 18 = .ok (.invokevirtual 259, 3) := by decide +kernel
theorem dX9_wrong_21 : decode cX9_wrong 21 = .ok (.return_, 1) := by decide +kernel
theorem dX9_mustWord_0 : decode cX9_mustWord 0 = .ok (.aload_n 0, 1) := by decide +kernel
theorem dX9_mustWord_1 : decode cX9_mustWord 1 = .ok (.lload_n 1, 1) := by decide +kernel
theorem dX9_mustWord_2 : decode cX9_mustWord 2 = .ok (.invokevirtual 263, 3) := by decide +kernel
theorem dX9_mustWord_5 : decode cX9_mustWord 5 = .ok (.ifCond .eq 10, 3) := by decide +kernel
theorem dX9_mustWord_8 : decode cX9_mustWord 8 = .ok (.aload_n 0, 1) := by decide +kernel
theorem dX9_mustWord_9 : decode cX9_mustWord 9 = .ok (.invokevirtual 266, 3) := by decide +kernel
theorem dX9_mustWord_12 : decode cX9_mustWord 12 = .ok (.goto 7, 3) := by decide +kernel
theorem dX9_mustWord_15 : decode cX9_mustWord 15 = .ok (.aload_n 0, 1) := by decide +kernel
theorem dX9_mustWord_16 : decode cX9_mustWord 16 = .ok (.invokevirtual 269, 3) := by decide +kernel
theorem dX9_mustWord_19 : decode cX9_mustWord 19 = .ok (.return_, 1) := by decide +kernel
theorem dX9_numeral_0 : decode cX9_numeral 0 = .ok (.aload_n 0, 1) := by decide +kernel
theorem dX9_numeral_1 : decode cX9_numeral 1 = .ok (.invokevirtual 272, 3) := by decide +kernel
theorem dX9_numeral_4 : decode cX9_numeral 4 = .ok (.ifCond .ne 5, 3) := by decide +kernel
theorem dX9_numeral_7 : decode cX9_numeral 7 = .ok (.iconst 0, 1) := by decide +kernel
theorem dX9_numeral_8 : decode cX9_numeral 8 = .ok (.ireturn, 1) := by decide +kernel
theorem dX9_numeral_9 : decode cX9_numeral 9 = .ok (.aload_n 0, 1) := by decide +kernel
theorem dX9_numeral_10 : decode cX9_numeral 10 = .ok (.getfield 238, 3) := by decide +kernel
theorem dX9_numeral_13 : decode cX9_numeral 13 = .ok (.iconst 4, 1) := by decide +kernel
theorem dX9_numeral_14 : decode cX9_numeral 14 = .ok (.if_icmp .eq 7, 3) := by decide +kernel
theorem dX9_numeral_17 : decode cX9_numeral 17 = .ok (.aload_n 0, 1) := by decide +kernel
theorem dX9_numeral_18 : decode cX9_numeral 18 = .ok (.invokevirtual 269, 3) := by decide +kernel
theorem dX9_numeral_21 : decode cX9_numeral 21 = .ok (.aload_n 0, 1) := by decide +kernel
theorem dX9_numeral_22 : decode cX9_numeral 22 = .ok (.invokevirtual 272, 3) := by decide +kernel
theorem dX9_numeral_25 : decode cX9_numeral 25 = .ok (.ifCond .eq 28, 3) := by decide +kernel
theorem dX9_numeral_28 : decode cX9_numeral 28 = .ok (.aload_n 0, 1) := by decide +kernel
theorem dX9_numeral_29 : decode cX9_numeral 29 = .ok (.getfield 256, 3) := by decide +kernel
theorem dX9_numeral_32 : decode cX9_numeral 32 = .ok (.iload_n 1, 1) := by decide +kernel
theorem dX9_numeral_33 : decode cX9_numeral 33 = .ok (.if_icmp .lt 11, 3) := by decide +kernel
theorem dX9_numeral_36 : decode cX9_numeral 36 = .ok (.aload_n 0, 1) := by decide +kernel
theorem dX9_numeral_37 : decode cX9_numeral 37 = .ok (.getfield 256, 3) := by decide +kernel
theorem dX9_numeral_40 : decode cX9_numeral 40 = .ok (.iload_n 2, 1) := by decide +kernel
theorem dX9_numeral_41 : decode cX9_numeral 41 = .ok (.if_icmp .le 12, 3) := by decide +kernel
theorem dX9_numeral_44 : decode cX9_numeral 44 = .ok (.aload_n 0, 1) := by decide +kernel
theorem dX9_numeral_45 : decode cX9_numeral 45 = .ok (.iconst 4, 1) := by decide +kernel
theorem dX9_numeral_46 : decode cX9_numeral 46 = .ok (.aload_n 0, 1) := by decide +kernel
theorem dX9_numeral_47 : decode cX9_numeral 47 = .ok (.getfield 231, 3) := by decide +kernel
theorem dX9_numeral_50 : decode cX9_numeral 50 = .ok (.invokevirtual 259, 3) := by decide +kernel
theorem dX9_numeral_53 : decode cX9_numeral 53 = .ok (.aload_n 0, 1) := by decide +kernel
theorem dX9_numeral_54 : decode cX9_numeral 54 = .ok (.getfield 256, 3) := by decide +kernel
theorem dX9_numeral_57 : decode cX9_numeral 57 = .ok (.istore_n 3, 1) := by decide +kernel
theorem dX9_numeral_58 : decode cX9_numeral 58 = .ok (.aload_n 0, 1) := by decide +kernel
theorem dX9_numeral_59 : decode cX9_numeral 59 = .ok (.invokevirtual 272, 3) := by decide +kernel
theorem dX9_numeral_62 : decode cX9_numeral 62 = .ok (.ifCond .eq 7, 3) := by decide +kernel
