theorem dX9_dead_14 : decode cX9_dead 14 = .ok (.ifCond .ge 14, 3) := by decide +kernel
theorem dX9_dead_17 : decode cX9_dead 17 = .ok (.iload_n 2, 1) := by decide +kernel
theorem dX9_dead_18 : decode cX9_dead 18 = .ok (.ifCond .lt 10, 3) := by decide +kernel
theorem dX9_dead_21 : decode cX9_dead 21 = .ok (.iload_n 2, 1) := by decide +kernel
theorem dX9_dead_22 : decode cX9_dead 22 = .ok (.ldc_w 276, 3) := by decide +kernel
theorem dX9_dead_25 : decode cX9_dead 25 = .ok (.if_icmp .le 5, 3) := by decide +kernel
theorem dX9_dead_28 : decode cX9_dead 28 = .ok (.iconst 0, 1) := by decide +kernel
theorem dX9_dead_29 : decode cX9_dead 29 = .ok (.ireturn, 1) := by decide +kernel
theorem dX9_dead_30 : decode cX9_dead 30 = .ok (.aload_n 0, 1) := by decide +kernel
theorem dX9_dead_31 : decode cX9_dead 31 = .ok (.getfield 98, 3) := by decide +kernel
theorem dX9_dead_34 : decode cX9_dead 34 = .ok (.iload_n 1, 1) := by decide +kernel
theorem dX9_dead_35 : decode cX9_dead 35 = .ok (.iload_n 2, 1) := by decide +kernel
theorem dX9_dead_36 : decode cX9_dead 36 = .ok (.iastore, 1) := by decide +kernel
theorem dX9_dead_37 : decode cX9_dead 37 = .ok (.iconst 1, 1) := by decide +kernel
theorem dX9_dead_38 : decode cX9_dead 38 = .ok (.ireturn, 1) := by decide +kernel
theorem dX9_isDead_0 : decode cX9_isDead 0 = .ok (.aload_n 0, 1) := by decide +kernel
theorem dX9_isDead_1 : decode cX9_isDead 1 = .ok (.getfield 98, 3) := by decide +kernel
theorem dX9_isDead_4 : decode cX9_isDead 4 = .ok (.iload_n 1, 1) := by decide +kernel
theorem dX9_isDead_5 : decode cX9_isDead 5 = .ok (.iaload, 1) := by decide +kernel
theorem dX9_isDead_6 : decode cX9_isDead 6 = .ok (.ifCond .lt 17, 3) := by decide +kernel
theorem dX9_isDead_9 : decode cX9_isDead 9 = .ok (.aload_n 0, 1) := by decide +kernel
theorem dX9_isDead_10 : decode cX9_isDead 10 = .ok (.getfield 98, 3) := by decide +kernel
theorem dX9_isDead_13 : decode cX9_isDead 13 = .ok (.iload_n 1, 1) := by decide +kernel
theorem dX9_isDead_14 : decode cX9_isDead 14 = .ok (.iaload, 1) := by decide +kernel
theorem dX9_isDead_15 : decode cX9_isDead 15 = .ok (.iload_n 2, 1) := by decide +kernel
theorem dX9_isDead_16 : decode cX9_isDead 16 = .ok (.if_icmp .gt 7, 3) := by decide +kernel
theorem dX9_isDead_19 : decode cX9_isDead 19 = .ok (.iconst 1, 1) := by decide +kernel
theorem dX9_isDead_20 : decode cX9_isDead 20 = .ok (.goto 4, 3) := by decide +kernel
theorem dX9_isDead_23 : decode cX9_isDead 23 = .ok (.iconst 0, 1) := by decide +kernel
theorem dX9_isDead_24 : decode cX9_isDead 24 = .ok (.ireturn, 1) := by decide +kernel
theorem dX9_truce_0 : decode cX9_truce 0 = .ok (.iload_n 1, 1) := by decide +kernel
theorem dX9_truce_1 : decode cX9_truce 1 = .ok (.ifCond .lt 44, 3) := by decide +kernel
theorem dX9_truce_4 : decode cX9_truce 4 = .ok (.iload_n 1, 1) := by decide +kernel
theorem dX9_truce_5 : decode cX9_truce 5 = .ok (.iconst 4, 1) := by decide +kernel
theorem dX9_truce_6 : decode cX9_truce 6 = .ok (.if_icmp .ge 39, 3) := by decide +kernel
theorem dX9_truce_9 : decode cX9_truce 9 = .ok (.iload_n 2, 1) := by decide +kernel
theorem dX9_truce_10 : decode cX9_truce 10 = .ok (.ifCond .lt 35, 3) := by decide +kernel
theorem dX9_truce_13 : decode cX9_truce 13 = .ok (.iload_n 2, 1) := by decide +kernel
theorem dX9_truce_14 : decode cX9_truce 14 = .ok (.iconst 4, 1) := by decide +kernel
theorem dX9_truce_15 : decode cX9_truce 15 = .ok (.if_icmp .ge 30, 3) := by decide +kernel
theorem dX9_truce_18 : decode cX9_truce 18 = .ok (.iload_n 3, 1) := by decide +kernel
theorem dX9_truce_19 : decode cX9_truce 19 = .ok (.ifCond .lt 26, 3) := by decide +kernel
theorem dX9_truce_22 : decode cX9_truce 22 = .ok (.iload_n 3, 1) := by decide +kernel
theorem dX9_truce_23 : decode cX9_truce 23 = .ok (.iload 4, 2) := by decide +kernel
theorem dX9_truce_25 : decode cX9_truce 25 = .ok (.if_icmp .gt 20, 3) := by decide +kernel
theorem dX9_truce_28 : decode cX9_truce 28 = .ok (.iload 4, 2) := by decide +kernel
theorem dX9_truce_30 : decode cX9_truce 30 = .ok (.ldc_w 276, 3) := by decide +kernel
theorem dX9_truce_33 : decode cX9_truce 33 = .ok (.if_icmp .gt 12, 3) := by decide +kernel
theorem dX9_truce_36 : decode cX9_truce 36 = .ok (.aload_n 0, 1) := by decide +kernel
theorem dX9_truce_37 : decode cX9_truce 37 = .ok (.getfield 368, 3) := by decide +kernel
theorem dX9_truce_40 : decode cX9_truce 40 = .ok (.bipush 10, 2) := by decide +kernel
theorem dX9_truce_42 : decode cX9_truce 42 = .ok (.if_icmp .ne 5, 3) := by decide +kernel
theorem dX9_truce_45 : decode cX9_truce 45 = .ok (.iconst (-1), 1) := by decide +kernel
theorem dX9_truce_46 : decode cX9_truce 46 = .ok (.ireturn, 1) := by decide +kernel
theorem dX9_truce_47 : decode cX9_truce 47 = .ok (.aload_n 0, 1) := by decide +kernel
theorem dX9_truce_48 : decode cX9_truce 48 = .ok (.getfield 113, 3) := by decide +kernel
theorem dX9_truce_51 : decode cX9_truce 51 = .ok (.aload_n 0, 1) := by decide +kernel
theorem dX9_truce_52 : decode cX9_truce 52 = .ok (.getfield 368, 3) := by decide +kernel
theorem dX9_truce_55 : decode cX9_truce 55 = .ok (.iload_n 1, 1) := by decide +kernel
theorem dX9_truce_56 : decode cX9_truce 56 = .ok (.iastore, 1) := by decide +kernel
theorem dX9_truce_57 : decode cX9_truce 57 = .ok (.aload_n 0, 1) := by decide +kernel
theorem dX9_truce_58 : decode cX9_truce 58 = .ok (.getfield 116, 3) := by decide +kernel
theorem dX9_truce_61 : decode cX9_truce 61 = .ok (.aload_n 0, 1) := by decide +kernel
theorem dX9_truce_62 : decode cX9_truce 62 = .ok (.getfield 368, 3) := by decide +kernel
theorem dX9_truce_65 : decode cX9_truce 65 = .ok (.iload_n 2, 1) := by decide +kernel
theorem dX9_truce_66 : decode cX9_truce 66 = .ok (.iastore, 1) := by decide +kernel
theorem dX9_truce_67 : decode cX9_truce 67 = .ok (.aload_n 0, 1) := by decide +kernel
theorem dX9_truce_68 : decode cX9_truce 68 = .ok (.getfield 119, 3) := by decide +kernel
theorem dX9_truce_71 : decode cX9_truce 71 = .ok (.aload_n 0, 1) := by decide +kernel
theorem dX9_truce_72 : decode cX9_truce 72 = .ok (.getfield 368, 3) := by decide +kernel
theorem dX9_truce_75 : decode cX9_truce 75 = .ok (.iload_n 3, 1) := by decide +kernel
theorem dX9_truce_76 : decode cX9_truce 76 = .ok (.iastore, 1) := by decide +kernel
theorem dX9_truce_77 : decode cX9_truce 77 = .ok (.aload_n 0, 1) := by decide +kernel
theorem dX9_truce_78 : decode cX9_truce 78 = .ok (.getfield 122, 3) := by decide +kernel
theorem dX9_truce_81 : decode cX9_truce 81 = .ok (.aload_n 0, 1) := by decide +kernel
theorem dX9_truce_82 : decode cX9_truce 82 = .ok (.getfield 368, 3) := by decide +kernel
theorem dX9_truce_85 : decode cX9_truce 85 = .ok (.iload 4, 2) := by decide +kernel
theorem dX9_truce_87 : decode cX9_truce 87 = .ok (.iastore, 1) := by decide +kernel
theorem dX9_truce_88 : decode cX9_truce 88 = .ok (.aload_n 0, 1) := by decide +kernel
theorem dX9_truce_89 : decode cX9_truce 89 = .ok (.dup, 1) := by decide +kernel
theorem dX9_truce_90 : decode cX9_truce 90 = .ok (.getfield 368, 3) := by decide +kernel
theorem dX9_truce_93 : decode cX9_truce 93 = .ok (.iconst 1, 1) := by decide +kernel
theorem dX9_truce_94 : decode cX9_truce 94 = .ok (.iadd, 1) := by decide +kernel
theorem dX9_truce_95 : decode cX9_truce 95 = .ok (.putfield 368, 3) := by decide +kernel
theorem dX9_truce_98 : decode cX9_truce 98 = .ok (.aload_n 0, 1) := by decide +kernel
theorem dX9_truce_99 : decode cX9_truce 99 = .ok (.getfield 368, 3) := by decide +kernel
theorem dX9_truce_102 : decode cX9_truce 102 = .ok (.ireturn, 1) := by decide +kernel
theorem dX9_isTruce_0 : decode cX9_isTruce 0 = .ok (.iconst 0, 1) := by decide +kernel
theorem dX9_isTruce_1 : decode cX9_isTruce 1 = .ok (.istore 4, 2) := by decide +kernel
theorem dX9_isTruce_3 : decode cX9_isTruce 3 = .ok (.iload 4, 2) := by decide +kernel
theorem dX9_isTruce_5 : decode cX9_isTruce 5 = .ok (.aload_n 0, 1) := by decide +kernel
theorem dX9_isTruce_6 : decode cX9_isTruce 6 = .ok (.getfield 368, 3) := by decide +kernel
theorem dX9_isTruce_9 : decode cX9_isTruce 9 = .ok (.if_icmp .ge 77, 3) := by decide +kernel
theorem dX9_isTruce_12 : decode cX9_isTruce 12 = .ok (.iload_n 3, 1) := by decide +kernel
theorem dX9_isTruce_13 : decode cX9_isTruce 13 = .ok (.aload_n 0, 1) := by decide +kernel
theorem dX9_isTruce_14 : decode cX9_isTruce 14 = .ok (.getfield 119, 3) := by decide +kernel
theorem dX9_isTruce_17 : decode cX9_isTruce 17 = .ok (.iload 4, 2) := by decide +kernel
theorem dX9_isTruce_19 : decode cX9_isTruce 19 = .ok (.iaload, 1) := by decide +kernel
theorem dX9_isTruce_20 : decode cX9_isTruce 20 = .ok (.if_icmp .lt 60, 3) := by decide +kernel
theorem dX9_isTruce_23 : decode cX9_isTruce 23 = .ok (.iload_n 3, 1) := by decide +kernel
theorem dX9_isTruce_24 : decode cX9_isTruce 24 = .ok (.aload_n 0, 1) := by decide +kernel
theorem dX9_isTruce_25 : decode cX9_isTruce 25 = .ok (.getfield 122, 3) := by decide +kernel
theorem dX9_isTruce_28 : decode cX9_isTruce 28 = .ok (.iload 4, 2) := by decide +kernel
theorem dX9_isTruce_30 : decode cX9_isTruce 30 = .ok (.iaload, 1) := by decide +kernel
theorem dX9_isTruce_31 : decode cX9_isTruce 31 = .ok (.if_icmp .gt 49, 3) := by decide +kernel
theorem dX9_isTruce_34 : decode cX9_isTruce 34 = .ok (.aload_n 0, 1) := by decide +kernel
theorem dX9_isTruce_35 : decode cX9_isTruce 35 = .ok (.getfield 113, 3) := by decide +kernel
theorem dX9_isTruce_38 : decode cX9_isTruce 38 = .ok (.iload 4, 2) := by decide +kernel
theorem dX9_isTruce_40 : decode cX9_isTruce 40 = .ok (.iaload, 1) := by decide +kernel
theorem dX9_isTruce_41 : decode cX9_isTruce 41 = .ok (.iload_n 1, 1) := by decide +kernel
theorem dX9_isTruce_42 : decode cX9_isTruce 42 = .ok (.if_icmp .ne 14, 3) := by decide +kernel
theorem dX9_isTruce_45 : decode cX9_isTruce 45 = .ok (.aload_n 0, 1) := by decide +kernel
theorem dX9_isTruce_46 : decode cX9_isTruce 46 = .ok (.getfield 116, 3) := by decide +kernel
theorem dX9_isTruce_49 : decode cX9_isTruce 49 = .ok (.iload 4, 2) := by decide +kernel
theorem dX9_isTruce_51 : decode cX9_isTruce 51 = .ok (.iaload, 1) := by decide +kernel
theorem dX9_isTruce_52 : decode cX9_isTruce 52 = .ok (.iload_n 2, 1) := by decide +kernel
theorem dX9_isTruce_53 : decode cX9_isTruce 53 = .ok (.if_icmp .eq 25, 3) := by decide +kernel
theorem dX9_isTruce_56 : decode cX9_isTruce 56 = .ok (.aload_n 0, 1) := by decide +kernel
theorem dX9_isTruce_57 : decode cX9_isTruce 57 = .ok (.getfield 113, 3) := by decide +kernel
theorem dX9_isTruce_60 : decode cX9_isTruce 60 = .ok (.iload 4, 2) := by decide +kernel
theorem dX9_isTruce_62 : decode cX9_isTruce 62 = .ok (.iaload, 1) := by decide +kernel
theorem dX9_isTruce_63 : decode cX9_isTruce 63 = .ok (.iload_n 2, 1) := by decide +kernel
theorem dX9_isTruce_64 : decode cX9_isTruce 64 = .ok (.if_icmp .ne 16, 3) := by decide +kernel
theorem dX9_isTruce_67 : decode cX9_isTruce 67 = .ok (.aload_n 0, 1) := by decide +kernel
theorem dX9_isTruce_68 : decode cX9_isTruce 68 = .ok (.getfield 116, 3) := by decide +kernel
theorem dX9_isTruce_71 : decode cX9_isTruce 71 = .ok (.iload 4, 2) := by decide +kernel
theorem dX9_isTruce_73 : decode cX9_isTruce 73 = .ok (.iaload, 1) := by decide +kernel
theorem dX9_isTruce_74 : decode cX9_isTruce 74 = .ok (.iload_n 1, 1) := by decide +kernel
theorem dX9_isTruce_75 : decode cX9_isTruce 75 = .ok (.if_icmp .ne 5, 3) := by decide +kernel
theorem dX9_isTruce_78 : decode cX9_isTruce 78 = .ok (.iconst 1, 1) := by decide +kernel
theorem dX9_isTruce_79 : decode cX9_isTruce 79 = .ok (.ireturn, 1) := by decide +kernel
theorem dX9_isTruce_80 : decode cX9_isTruce 80 = .ok (.iinc 4 1, 3) := by decide +kernel
theorem dX9_isTruce_83 : decode cX9_isTruce 83 = .ok (.goto (-80), 3) := by decide +kernel
theorem dX9_isTruce_86 : decode cX9_isTruce 86 = .ok (.iconst 0, 1) := by decide +kernel
theorem dX9_isTruce_87 : decode cX9_isTruce 87 = .ok (.ireturn, 1) := by decide +kernel
theorem dX9_later_0 : decode cX9_later 0 = .ok (.iload_n 1, 1) := by decide +kernel
theorem dX9_later_1 : decode cX9_later 1 = .ok (.ifCond .lt 22, 3) := by decide +kernel
theorem dX9_later_4 : decode cX9_later 4 = .ok (.iload_n 1, 1) := by decide +kernel
theorem dX9_later_5 : decode cX9_later 5 = .ok (.sipush 1000, 3) := by decide +kernel
theorem dX9_later_8 : decode cX9_later 8 = .ok (.if_icmp .gt 15, 3) := by decide +kernel
theorem dX9_later_11 : decode cX9_later 11 = .ok (.aload_n 0, 1) := by decide +kernel
theorem dX9_later_12 : decode cX9_later 12 = .ok (.getfield 365, 3) := by decide +kernel
theorem dX9_later_15 : decode cX9_later 15 = .ok (.iload_n 1, 1) := by decide +kernel
theorem dX9_later_16 : decode cX9_later 16 = .ok (.iadd, 1) := by decide +kernel
theorem dX9_later_17 : decode cX9_later 17 = .ok (.ldc_w 276, 3) := by decide +kernel
theorem dX9_later_20 : decode cX9_later 20 = .ok (.if_icmp .le 5, 3) := by decide +kernel
theorem dX9_later_23 : decode cX9_later 23 = .ok (.iconst (-1), 1) := by decide +kernel
theorem dX9_later_24 : decode cX9_later 24 = .ok (.ireturn, 1) := by decide +kernel
theorem dX9_later_25 : decode cX9_later 25 = .ok (.aload_n 0, 1) := by decide +kernel
theorem dX9_later_26 : decode cX9_later 26 = .ok (.dup, 1) := by decide +kernel
theorem dX9_later_27 : decode cX9_later 27 = .ok (.getfield 365, 3) := by decide +kernel
theorem dX9_later_30 : decode cX9_later 30 = .ok (.iload_n 1, 1) := by decide +kernel
theorem dX9_later_31 : decode cX9_later 31 = .ok (.iadd, 1) := by decide +kernel
theorem dX9_later_32 : decode cX9_later 32 = .ok (.putfield 365, 3) := by decide +kernel
theorem dX9_later_35 : decode cX9_later 35 = .ok (.aload_n 0, 1) := by decide +kernel
theorem dX9_later_36 : decode cX9_later 36 = .ok (.getfield 365, 3) := by decide +kernel
theorem dX9_later_39 : decode cX9_later 39 = .ok (.ireturn, 1) := by decide +kernel
theorem dX9_isCase_0 : decode cX9_isCase 0 = .ok (.iload_n 1, 1) := by decide +kernel
theorem dX9_isCase_1 : decode cX9_isCase 1 = .ok (.ifCond .lt 15, 3) := by decide +kernel
theorem dX9_isCase_4 : decode cX9_isCase 4 = .ok (.iload_n 1, 1) := by decide +kernel
theorem dX9_isCase_5 : decode cX9_isCase 5 = .ok (.aload_n 0, 1) := by decide +kernel
theorem dX9_isCase_6 : decode cX9_isCase 6 = .ok (.getfield 371, 3) := by decide +kernel
theorem dX9_isCase_9 : decode cX9_isCase 9 = .ok (.if_icmp .ge 7, 3) := by decide +kernel
theorem dX9_isCase_12 : decode cX9_isCase 12 = .ok (.iconst 1, 1) := by decide +kernel
theorem dX9_isCase_13 : decode cX9_isCase 13 = .ok (.goto 4, 3) := by decide +kernel
theorem dX9_isCase_16 : decode cX9_isCase 16 = .ok (.iconst 0, 1) := by decide +kernel
theorem dX9_isCase_17 : decode cX9_isCase 17 = .ok (.ireturn, 1) := by decide +kernel
theorem dX9_isName_0 : decode cX9_isName 0 = .ok (.iconst 0, 1) := by decide +kernel
theorem dX9_isName_1 : decode cX9_isName 1 = .ok (.istore_n 2, 1) := by decide +kernel
theorem dX9_isName_2 : decode cX9_isName 2 = .ok (.bipush 56, 2) := by decide +kernel
theorem dX9_isName_4 : decode cX9_isName 4 = .ok (.istore_n 3, 1) := by decide +kernel
theorem dX9_isName_5 : decode cX9_isName 5 = .ok (.iload_n 3, 1) := by decide +kernel
theorem dX9_isName_6 : decode cX9_isName 6 = .ok (.ifCond .lt 43, 3) := by decide +kernel
theorem dX9_isName_9 : decode cX9_isName 9 = .ok (.lload_n 0, 1) := by decide +kernel
theorem dX9_isName_10 : decode cX9_isName 10 = .ok (.iload_n 3, 1) := by decide +kernel
theorem dX9_isName_11 : decode cX9_isName 11 = .ok (.lshr, 1) := by decide +kernel
theorem dX9_isName_12 : decode cX9_isName 12 = .ok (.ldc2_w 374, 3) := by decide +kernel
theorem dX9_isName_15 : decode cX9_isName 15 = .ok (.land, 1) := by decide +kernel
theorem dX9_isName_16 : decode cX9_isName 16 = .ok (.l2i, 1) := by decide +kernel
theorem dX9_isName_17 : decode cX9_isName 17 = .ok (.istore 4, 2) := by decide +kernel
theorem dX9_isName_19 : decode cX9_isName 19 = .ok (.iload 4, 2) := by decide +kernel
theorem dX9_isName_21 : decode cX9_isName 21 = .ok (.ifCond .ne 10, 3) := by decide +kernel
theorem dX9_isName_24 : decode cX9_isName 24 = .ok (.iload_n 2, 1) := by decide +kernel
theorem dX9_isName_25 : decode cX9_isName 25 = .ok (.ifCond .ne 6, 3) := by decide +kernel
theorem dX9_isName_28 : decode cX9_isName 28 = .ok (.goto 15, 3) := by decide +kernel
theorem dX9_isName_31 : decode cX9_isName 31 = .ok (.iload 4, 2) := by decide +kernel
theorem dX9_isName_33 : decode cX9_isName 33 = .ok (.invokestatic 241, 3) := by decide +kernel
theorem dX9_isName_36 : decode cX9_isName 36 = .ok (.ifCond .ne 5, 3) := by decide +kernel
theorem dX9_isName_39 : decode cX9_isName 39 = .ok (.iconst 0, 1) := by decide +kernel
theorem dX9_isName_40 : decode cX9_isName 40 = .ok (.ireturn, 1) := by decide +kernel
theorem dX9_isName_41 : decode cX9_isName 41 = .ok (.iconst 1, 1) := by decide +kernel
theorem dX9_isName_42 : decode cX9_isName 42 = .ok (.istore_n 2, 1) := by decide +kernel
theorem dX9_isName_43 : decode cX9_isName 43 = .ok (.iinc 3 (-8), 3) := by decide +kernel
theorem dX9_isName_46 : decode cX9_isName 46 = .ok (.goto (-41), 3) := by decide +kernel
theorem dX9_isName_49 : decode cX9_isName 49 = .ok (.iload_n 2, 1) := by decide +kernel
theorem dX9_isName_50 : decode cX9_isName 50 = .ok (.ireturn, 1) := by decide +kernel
theorem dX9_hurt_0 : decode cX9_hurt 0 = .ok (.aload_n 0, 1) := by decide +kernel
theorem dX9_hurt_1 : decode cX9_hurt 1 = .ok (.iload_n 1, 1) := by decide +kernel
theorem dX9_hurt_2 : decode cX9_hurt 2 = .ok (.invokevirtual 356, 3) := by decide +kernel
theorem dX9_hurt_5 : decode cX9_hurt 5 = .ok (.ifCond .eq 57, 3) := by decide +kernel
theorem dX9_hurt_8 : decode cX9_hurt 8 = .ok (.aload_n 0, 1) := by decide +kernel
theorem dX9_hurt_9 : decode cX9_hurt 9 = .ok (.iload_n 2, 1) := by decide +kernel
theorem dX9_hurt_10 : decode cX9_hurt 10 = .ok (.invokevirtual 356, 3) := by decide +kernel
theorem dX9_hurt_13 : decode cX9_hurt 13 = .ok (.ifCond .eq 49, 3) := by decide +kernel
theorem dX9_hurt_16 : decode cX9_hurt 16 = .ok (.iload_n 1, 1) := by decide +kernel
theorem dX9_hurt_17 : decode cX9_hurt 17 = .ok (.iload_n 2, 1) := by decide +kernel
theorem dX9_hurt_18 : decode cX9_hurt 18 = .ok (.if_icmp .eq 44, 3) := by decide +kernel
theorem dX9_hurt_21 : decode cX9_hurt 21 = .ok (.lload_n 3, 1) := by decide +kernel
theorem dX9_hurt_22 : decode cX9_hurt 22 = .ok (.invokestatic 376, 3) := by decide +kernel
theorem dX9_hurt_25 : decode cX9_hurt 25 = .ok (.ifCond .eq 37, 3) := by decide +kernel
theorem dX9_hurt_28 : decode cX9_hurt 28 = .ok (.iload 5, 2) := by decide +kernel
theorem dX9_hurt_30 : decode cX9_hurt 30 = .ok (.ifCond .lt 32, 3) := by decide +kernel
theorem dX9_hurt_33 : decode cX9_hurt 33 = .ok (.iload 5, 2) := by decide +kernel
theorem dX9_hurt_35 : decode cX9_hurt 35 = .ok (.aload_n 0, 1) := by decide +kernel
theorem dX9_hurt_36 : decode cX9_hurt 36 = .ok (.getfield 365, 3) := by decide +kernel
theorem dX9_hurt_39 : decode cX9_hurt 39 = .ok (.if_icmp .gt 23, 3) := by decide +kernel
theorem dX9_hurt_42 : decode cX9_hurt 42 = .ok (.iload 6, 2) := by decide +kernel
theorem dX9_hurt_44 : decode cX9_hurt 44 = .ok (.ifCond .lt 18, 3) := by decide +kernel
theorem dX9_hurt_47 : decode cX9_hurt 47 = .ok (.iload 6, 2) := by decide +kernel
theorem dX9_hurt_49 : decode cX9_hurt 49 = .ok (.iconst 3, 1) := by decide +kernel
theorem dX9_hurt_50 : decode cX9_hurt 50 = .ok (.if_icmp .gt 12, 3) := by decide +kernel
theorem dX9_hurt_53 : decode cX9_hurt 53 = .ok (.aload_n 0, 1) := by decide +kernel
theorem dX9_hurt_54 : decode cX9_hurt 54 = .ok (.getfield 371, 3) := by decide +kernel
theorem dX9_hurt_57 : decode cX9_hurt 57 = .ok (.bipush 20, 2) := by decide +kernel
theorem dX9_hurt_59 : decode cX9_hurt 59 = .ok (.if_icmp .ne 5, 3) := by decide +kernel
theorem dX9_hurt_62 : decode cX9_hurt 62 = .ok (.iconst (-1), 1) := by decide +kernel
theorem dX9_hurt_63 : decode cX9_hurt 63 = .ok (.ireturn, 1) := by decide +kernel
theorem dX9_hurt_64 : decode cX9_hurt 64 = .ok (.aload_n 0, 1) := by decide +kernel
theorem dX9_hurt_65 : decode cX9_hurt 65 = .ok (.getfield 125, 3) := by decide +kernel
theorem dX9_hurt_68 : decode cX9_hurt 68 = .ok (.aload_n 0, 1) := by decide +kernel
theorem dX9_hurt_69 : decode cX9_hurt 69 = .ok (.getfield 371, 3) := by decide +kernel
theorem dX9_hurt_72 : decode cX9_hurt 72 = .ok (.iload_n 1, 1) := by decide +kernel
theorem dX9_hurt_73 : decode cX9_hurt 73 = .ok (.iastore, 1) := by decide +kernel
theorem dX9_hurt_74 : decode cX9_hurt 74 = .ok (.aload_n 0, 1) := by decide +kernel
theorem dX9_hurt_75 : decode cX9_hurt 75 = .ok (.getfield 128, 3) := by decide +kernel
theorem dX9_hurt_78 : decode cX9_hurt 78 = .ok (.aload_n 0, 1) := by decide +kernel
theorem dX9_hurt_79 : decode cX9_hurt 79 = .ok (.getfield 371, 3) := by decide +kernel
theorem dX9_hurt_82 : decode cX9_hurt 82 = .ok (.iload_n 2, 1) := by decide +kernel
theorem dX9_hurt_83 : decode cX9_hurt 83 = .ok (.iastore, 1) := by decide +kernel
theorem dX9_hurt_84 : decode cX9_hurt 84 = .ok (.aload_n 0, 1) := by decide +kernel
theorem dX9_hurt_85 : decode cX9_hurt 85 = .ok (.getfield 152, 3) := by decide +kernel
theorem dX9_hurt_88 : decode cX9_hurt 88 = .ok (.aload_n 0, 1) := by decide +kernel
theorem dX9_hurt_89 : decode cX9_hurt 89 = .ok (.getfield 371, 3) := by decide +kernel
theorem dX9_hurt_92 : decode cX9_hurt 92 = .ok (.lload_n 3, 1) := by decide +kernel
theorem dX9_hurt_93 : decode cX9_hurt 93 = .ok (.lastore, 1) := by decide +kernel
theorem dX9_hurt_94 : decode cX9_hurt 94 = .ok (.aload_n 0, 1) := by decide +kernel
theorem dX9_hurt_95 : decode cX9_hurt 95 = .ok (.getfield 131, 3) := by decide +kernel
theorem dX9_hurt_98 : decode cX9_hurt 98 = .ok (.aload_n 0, 1) := by decide +kernel
theorem dX9_hurt_99 : decode cX9_hurt 99 = .ok (.getfield 371, 3) := by decide +kernel
theorem dX9_hurt_102 : decode cX9_hurt 102 = .ok (.iload 5, 2) := by decide +kernel
theorem dX9_hurt_104 : decode cX9_hurt 104 = .ok (.iastore, 1) := by decide +kernel
theorem dX9_hurt_105 : decode cX9_hurt 105 = .ok (.aload_n 0, 1) := by decide +kernel
theorem dX9_hurt_106 : decode cX9_hurt 106 = .ok (.getfield 134, 3) := by decide +kernel
theorem dX9_hurt_109 : decode cX9_hurt 109 = .ok (.aload_n 0, 1) := by decide +kernel
theorem dX9_hurt_110 : decode cX9_hurt 110 = .ok (.getfield 371, 3) := by decide +kernel
theorem dX9_hurt_113 : decode cX9_hurt 113 = .ok (.iload 6, 2) := by decide +kernel
theorem dX9_hurt_115 : decode cX9_hurt 115 = .ok (.iastore, 1) := by decide +kernel
theorem dX9_hurt_116 : decode cX9_hurt 116 = .ok (.aload_n 0, 1) := by decide +kernel
theorem dX9_hurt_117 : decode cX9_hurt 117 = .ok (.getfield 155, 3) := by decide +kernel
theorem dX9_hurt_120 : decode cX9_hurt 120 = .ok (.aload_n 0, 1) := by decide +kernel
theorem dX9_hurt_121 : decode cX9_hurt 121 = .ok (.getfield 371, 3) := by decide +kernel
theorem dX9_hurt_124 : decode cX9_hurt 124 = .ok (.iload 7, 2) := by decide +kernel
theorem dX9_hurt_126 : decode cX9_hurt 126 = .ok (.bastore, 1) := by decide +kernel
theorem dX9_hurt_127 : decode cX9_hurt 127 = .ok (.aload_n 0, 1) := by decide +kernel
theorem dX9_hurt_128 : decode cX9_hurt 128 = .ok (.getfield 137, 3) := by decide +kernel
theorem dX9_hurt_131 : decode cX9_hurt 131 = .ok (.aload_n 0, 1) := by decide +kernel
theorem dX9_hurt_132 : decode cX9_hurt 132 = .ok (.getfield 371, 3) := by decide +kernel
theorem dX9_hurt_135 : decode cX9_hurt 135 = .ok (.iconst (-1), 1) := by decide +kernel
theorem dX9_hurt_136 : decode cX9_hurt 136 = .ok (.iastore, 1) := by decide +kernel
theorem dX9_hurt_137 : decode cX9_hurt 137 = .ok (.aload_n 0, 1) := by decide +kernel
theorem dX9_hurt_138 : decode cX9_hurt 138 = .ok (.getfield 140, 3) := by decide +kernel
theorem dX9_hurt_141 : decode cX9_hurt 141 = .ok (.aload_n 0, 1) := by decide +kernel
theorem dX9_hurt_142 : decode cX9_hurt 142 = .ok (.getfield 371, 3) := by decide +kernel
theorem dX9_hurt_145 : decode cX9_hurt 145 = .ok (.iconst (-1), 1) := by decide +kernel
theorem dX9_hurt_146 : decode cX9_hurt 146 = .ok (.iastore, 1) := by decide +kernel
theorem dX9_hurt_147 : decode cX9_hurt 147 = .ok (.aload_n 0, 1) := by decide +kernel
theorem dX9_hurt_148 : decode cX9_hurt 148 = .ok (.dup, 1) := by decide +kernel
theorem dX9_hurt_149 : decode cX9_hurt 149 = .ok (.getfield 371, 3) := by decide +kernel
theorem dX9_hurt_152 : decode cX9_hurt 152 = .ok (.iconst 1, 1) := by decide +kernel
theorem dX9_hurt_153 : decode cX9_hurt 153 = .ok (.iadd, 1) := by decide +kernel
theorem dX9_hurt_154 : decode cX9_hurt 154 = .ok (.putfield 371, 3) := by decide +kernel
theorem dX9_hurt_157 : decode cX9_hurt 157 = .ok (.aload_n 0, 1) := by decide +kernel
theorem dX9_hurt_158 : decode cX9_hurt 158 = .ok (.getfield 371, 3) := by decide +kernel
theorem dX9_hurt_161 : decode cX9_hurt 161 = .ok (.iconst 1, 1) := by decide +kernel
theorem dX9_hurt_162 : decode cX9_hurt 162 = .ok (.isub, 1) := by decide +kernel
theorem dX9_hurt_163 : decode cX9_hurt 163 = .ok (.ireturn, 1) := by decide +kernel
theorem dX9_lawOf_0 : decode cX9_lawOf 0 = .ok (.aload_n 0, 1) := by decide +kernel
theorem dX9_lawOf_1 : decode cX9_lawOf 1 = .ok (.aload_n 0, 1) := by decide +kernel
theorem dX9_lawOf_2 : decode cX9_lawOf 2 = .ok (.getfield 89, 3) := by decide +kernel
theorem dX9_lawOf_5 : decode cX9_lawOf 5 = .ok (.aload_n 0, 1) := by decide +kernel
theorem dX9_lawOf_6 : decode cX9_lawOf 6 = .ok (.getfield 128, 3) := by decide +kernel
theorem dX9_lawOf_9 : decode cX9_lawOf 9 = .ok (.iload_n 1, 1) := by decide +kernel
theorem dX9_lawOf_10 : decode cX9_lawOf 10 = .ok (.iaload, 1) := by decide +kernel
theorem dX9_lawOf_11 : decode cX9_lawOf 11 = .ok (.iaload, 1) := by decide +kernel
theorem dX9_lawOf_12 : decode cX9_lawOf 12 = .ok (.aload_n 0, 1) := by decide +kernel
theorem dX9_lawOf_13 : decode cX9_lawOf 13 = .ok (.getfield 131, 3) := by decide +kernel
theorem dX9_lawOf_16 : decode cX9_lawOf 16 = .ok (.iload_n 1, 1) := by decide +kernel
theorem dX9_lawOf_17 : decode cX9_lawOf 17 = .ok (.iaload, 1) := by decide +kernel
theorem dX9_lawOf_18 : decode cX9_lawOf 18 = .ok (.invokevirtual 350, 3) := by decide +kernel
theorem dX9_lawOf_21 : decode cX9_lawOf 21 = .ok (.ireturn, 1) := by decide +kernel
theorem dX9_work_0 : decode cX9_work 0 = .ok (.iconst 0, 1) := by decide +kernel
theorem dX9_work_1 : decode cX9_work 1 = .ok (.istore_n 3, 1) := by decide +kernel
theorem dX9_work_2 : decode cX9_work 2 = .ok (.sipush 700, 3) := by decide +kernel
theorem dX9_work_5 : decode cX9_work 5 = .ok (.iload_n 1, 1) := by decide +kernel
theorem dX9_work_6 : decode cX9_work 6 = .ok (.imul, 1) := by decide +kernel
theorem dX9_work_7 : decode cX9_work 7 = .ok (.aload_n 0, 1) := by decide +kernel
theorem dX9_work_8 : decode cX9_work 8 = .ok (.getfield 39, 3) := by decide +kernel
theorem dX9_work_11 : decode cX9_work 11 = .ok (.iload_n 2, 1) := by decide +kernel
theorem dX9_work_12 : decode cX9_work 12 = .ok (.iaload, 1) := by decide +kernel
theorem dX9_work_13 : decode cX9_work 13 = .ok (.iadd, 1) := by decide +kernel
theorem dX9_work_14 : decode cX9_work 14 = .ok (.istore 4, 2) := by decide +kernel
theorem dX9_work_16 : decode cX9_work 16 = .ok (.iload 4, 2) := by decide +kernel
theorem dX9_work_18 : decode cX9_work 18 = .ok (.sipush 700, 3) := by decide +kernel
theorem dX9_work_21 : decode cX9_work 21 = .ok (.iload_n 1, 1) := by decide +kernel
theorem dX9_work_22 : decode cX9_work 22 = .ok (.imul, 1) := by decide +kernel
theorem dX9_work_23 : decode cX9_work 23 = .ok (.aload_n 0, 1) := by decide +kernel
theorem dX9_work_24 : decode cX9_work 24 = .ok (.getfield 42, 3) := by decide +kernel
theorem dX9_work_27 : decode cX9_work 27 = .ok (.iload_n 2, 1) := by decide +kernel
theorem dX9_work_28 : decode cX9_work 28 = .ok (.iaload, 1) := by decide +kernel
theorem dX9_work_29 : decode cX9_work 29 = .ok (.iadd, 1) := by decide +kernel
theorem dX9_work_30 : decode cX9_work 30 = .ok (.if_icmp .ge 145, 3) := by decide +kernel
theorem dX9_work_33 : decode cX9_work 33 = .ok (.aload_n 0, 1) := by decide +kernel
theorem dX9_work_34 : decode cX9_work 34 = .ok (.getfield 66, 3) := by decide +kernel
theorem dX9_work_37 : decode cX9_work 37 = .ok (.iload 4, 2) := by decide +kernel
theorem dX9_work_39 : decode cX9_work 39 = .ok (.iaload, 1) := by decide +kernel
theorem dX9_work_40 : decode cX9_work 40 = .ok (.istore 5, 2) := by decide +kernel
theorem dX9_work_42 : decode cX9_work 42 = .ok (.iload 5, 2) := by decide +kernel
theorem dX9_work_44 : decode cX9_work 44 = .ok (.bipush 110, 2) := by decide +kernel
theorem dX9_work_46 : decode cX9_work 46 = .ok (.if_icmp .eq 10, 3) := by decide +kernel
theorem dX9_work_49 : decode cX9_work 49 = .ok (.iload 5, 2) := by decide +kernel
theorem dX9_work_51 : decode cX9_work 51 = .ok (.bipush 119, 2) := by decide +kernel
theorem dX9_work_53 : decode cX9_work 53 = .ok (.if_icmp .ne 44, 3) := by decide +kernel
theorem dX9_work_56 : decode cX9_work 56 = .ok (.aload_n 0, 1) := by decide +kernel
theorem dX9_work_57 : decode cX9_work 57 = .ok (.getfield 161, 3) := by decide +kernel
theorem dX9_work_60 : decode cX9_work 60 = .ok (.iload_n 3, 1) := by decide +kernel
theorem dX9_work_61 : decode cX9_work 61 = .ok (.iload 5, 2) := by decide +kernel
theorem dX9_work_63 : decode cX9_work 63 = .ok (.bipush 110, 2) := by decide +kernel
theorem dX9_work_65 : decode cX9_work 65 = .ok (.if_icmp .ne 13, 3) := by decide +kernel
theorem dX9_work_68 : decode cX9_work 68 = .ok (.aload_n 0, 1) := by decide +kernel
theorem dX9_work_69 : decode cX9_work 69 = .ok (.getfield 69, 3) := by decide +kernel
theorem dX9_work_72 : decode cX9_work 72 = .ok (.iload 4, 2) := by decide +kernel
theorem dX9_work_74 : decode cX9_work 74 = .ok (.iaload, 1) := by decide +kernel
theorem dX9_work_75 : decode cX9_work 75 = .ok (.goto 15, 3) := by decide +kernel
theorem dX9_work_78 : decode cX9_work 78 = .ok (.aload_n 0, 1) := by decide +kernel
theorem dX9_work_79 : decode cX9_work 79 = .ok (.getfield 158, 3) := by decide +kernel
theorem dX9_work_82 : decode cX9_work 82 = .ok (.aload_n 0, 1) := by decide +kernel
theorem dX9_work_83 : decode cX9_work 83 = .ok (.getfield 69, 3) := by decide +kernel
theorem dX9_work_86 : decode cX9_work 86 = .ok (.iload 4, 2) := by decide +kernel
theorem dX9_work_88 : decode cX9_work 88 = .ok (.iaload, 1) := by decide +kernel
theorem dX9_work_89 : decode cX9_work 89 = .ok (.iaload, 1) := by decide +kernel
theorem dX9_work_90 : decode cX9_work 90 = .ok (.iastore, 1) := by decide +kernel
theorem dX9_work_91 : decode cX9_work 91 = .ok (.iinc 3 1, 3) := by decide +kernel
theorem dX9_work_94 : decode cX9_work 94 = .ok (.goto 75, 3) := by decide +kernel
theorem dX9_work_97 : decode cX9_work 97 = .ok (.iload 5, 2) := by decide +kernel
theorem dX9_work_99 : decode cX9_work 99 = .ok (.bipush 126, 2) := by decide +kernel
theorem dX9_work_101 : decode cX9_work 101 = .ok (.if_icmp .ne 30, 3) := by decide +kernel
theorem dX9_work_104 : decode cX9_work 104 = .ok (.aload_n 0, 1) := by decide +kernel
theorem dX9_work_105 : decode cX9_work 105 = .ok (.getfield 161, 3) := by decide +kernel
theorem dX9_work_108 : decode cX9_work 108 = .ok (.iload_n 3, 1) := by decide +kernel
theorem dX9_work_109 : decode cX9_work 109 = .ok (.iconst 1, 1) := by decide +kernel
theorem dX9_work_110 : decode cX9_work 110 = .ok (.isub, 1) := by decide +kernel
theorem dX9_work_111 : decode cX9_work 111 = .ok (.aload_n 0, 1) := by decide +kernel
theorem dX9_work_112 : decode cX9_work 112 = .ok (.getfield 161, 3) := by decide +kernel
theorem dX9_work_115 : decode cX9_work 115 = .ok (.iload_n 3, 1) := by decide +kernel
theorem dX9_work_116 : decode cX9_work 116 = .ok (.iconst 1, 1) := by decide +kernel
theorem dX9_work_117 : decode cX9_work 117 = .ok (.isub, 1) := by decide +kernel
theorem dX9_work_118 : decode cX9_work 118 = .ok (.iaload, 1) := by decide +kernel
theorem dX9_work_119 : decode cX9_work 119 = .ok (.ifCond .ne 7, 3) := by decide +kernel
theorem dX9_work_122 : decode cX9_work 122 = .ok (.iconst 1, 1) := by decide +kernel
theorem dX9_work_123 : decode cX9_work 123 = .ok (.goto 4, 3) := by decide +kernel
theorem dX9_work_126 : decode cX9_work 126 = .ok (.iconst 0, 1) := by decide +kernel
theorem dX9_work_127 : decode cX9_work 127 = .ok (.iastore, 1) := by decide +kernel
theorem dX9_work_128 : decode cX9_work 128 = .ok (.goto 41, 3) := by decide +kernel
theorem dX9_work_131 : decode cX9_work 131 = .ok (.iinc 3 (-1), 3) := by decide +kernel
theorem dX9_work_134 : decode cX9_work 134 = .ok (.aload_n 0, 1) := by decide +kernel
theorem dX9_work_135 : decode cX9_work 135 = .ok (.getfield 161, 3) := by decide +kernel
theorem dX9_work_138 : decode cX9_work 138 = .ok (.iload_n 3, 1) := by decide +kernel
theorem dX9_work_139 : decode cX9_work 139 = .ok (.iconst 1, 1) := by decide +kernel
theorem dX9_work_140 : decode cX9_work 140 = .ok (.isub, 1) := by decide +kernel
theorem dX9_work_141 : decode cX9_work 141 = .ok (.iload 5, 2) := by decide +kernel
theorem dX9_work_143 : decode cX9_work 143 = .ok (.aload_n 0, 1) := by decide +kernel
theorem dX9_work_144 : decode cX9_work 144 = .ok (.getfield 161, 3) := by decide +kernel
theorem dX9_work_147 : decode cX9_work 147 = .ok (.iload_n 3, 1) := by decide +kernel
theorem dX9_work_148 : decode cX9_work 148 = .ok (.iconst 1, 1) := by decide +kernel
theorem dX9_work_149 : decode cX9_work 149 = .ok (.isub, 1) := by decide +kernel
theorem dX9_work_150 : decode cX9_work 150 = .ok (.iaload, 1) := by decide +kernel
theorem dX9_work_151 : decode cX9_work 151 = .ok (.aload_n 0, 1) := by decide +kernel
theorem dX9_work_152 : decode cX9_work 152 = .ok (.getfield 161, 3) := by decide +kernel
theorem dX9_work_155 : decode cX9_work 155 = .ok (.iload_n 3, 1) := by decide +kernel
theorem dX9_work_156 : decode cX9_work 156 = .ok (.iaload, 1) := by decide +kernel
theorem dX9_work_157 : decode cX9_work 157 = .ok (.invokestatic 379, 3) := by decide +kernel
theorem dX9_work_160 : decode cX9_work 160 = .ok (.ifCond .eq 7, 3) := by decide +kernel
theorem dX9_work_163 : decode cX9_work 163 = .ok (.iconst 1, 1) := by decide +kernel
theorem dX9_work_164 : decode cX9_work 164 = .ok (.goto 4, 3) := by decide +kernel
theorem dX9_work_167 : decode cX9_work 167 = .ok (.iconst 0, 1) := by decide +kernel
theorem dX9_work_168 : decode cX9_work 168 = .ok (.iastore, 1) := by decide +kernel
theorem dX9_work_169 : decode cX9_work 169 = .ok (.iinc 4 1, 3) := by decide +kernel
theorem dX9_work_172 : decode cX9_work 172 = .ok (.goto (-156), 3) := by decide +kernel
theorem dX9_work_175 : decode cX9_work 175 = .ok (.aload_n 0, 1) := by decide +kernel
theorem dX9_work_176 : decode cX9_work 176 = .ok (.getfield 161, 3) := by decide +kernel
theorem dX9_work_179 : decode cX9_work 179 = .ok (.iconst 0, 1) := by decide +kernel
theorem dX9_work_180 : decode cX9_work 180 = .ok (.iaload, 1) := by decide +kernel
theorem dX9_work_181 : decode cX9_work 181 = .ok (.ireturn, 1) := by decide +kernel
theorem dX9_two_0 : decode cX9_two 0 = .ok (.iload_n 0, 1) := by decide +kernel
theorem dX9_two_1 : decode cX9_two 1 = .ok (.bipush 60, 2) := by decide +kernel
theorem dX9_two_3 : decode cX9_two 3 = .ok (.if_icmp .ne 16, 3) := by decide +kernel
theorem dX9_two_6 : decode cX9_two 6 = .ok (.iload_n 1, 1) := by decide +kernel
theorem dX9_two_7 : decode cX9_two 7 = .ok (.iload_n 2, 1) := by decide +kernel
theorem dX9_two_8 : decode cX9_two 8 = .ok (.if_icmp .ge 7, 3) := by decide +kernel
theorem dX9_two_11 : decode cX9_two 11 = .ok (.iconst 1, 1) := by decide +kernel
theorem dX9_two_12 : decode cX9_two 12 = .ok (.goto 80, 3) := by decide +kernel
theorem dX9_two_15 : decode cX9_two 15 = .ok (.iconst 0, 1) := by decide +kernel
theorem dX9_two_16 : decode cX9_two 16 = .ok (.goto 76, 3) := by decide +kernel
theorem dX9_two_19 : decode cX9_two 19 = .ok (.iload_n 0, 1) := by decide +kernel
theorem dX9_two_20 : decode cX9_two 20 = .ok (.bipush 62, 2) := by decide +kernel
theorem dX9_two_22 : decode cX9_two 22 = .ok (.if_icmp .ne 16, 3) := by decide +kernel
theorem dX9_two_25 : decode cX9_two 25 = .ok (.iload_n 1, 1) := by decide +kernel
theorem dX9_two_26 : decode cX9_two 26 = .ok (.iload_n 2, 1) := by decide +kernel
theorem dX9_two_27 : decode cX9_two 27 = .ok (.if_icmp .le 7, 3) := by decide +kernel
theorem dX9_two_30 : decode cX9_two 30 = .ok (.iconst 1, 1) := by decide +kernel
theorem dX9_two_31 : decode cX9_two 31 = .ok (.goto 61, 3) := by decide +kernel
theorem dX9_two_34 : decode cX9_two 34 = .ok (.iconst 0, 1) := by decide +kernel
theorem dX9_two_35 : decode cX9_two 35 = .ok (.goto 57, 3) := by decide +kernel
theorem dX9_two_38 : decode cX9_two 38 = .ok (.iload_n 0, 1) := by decide +kernel
theorem dX9_two_39 : decode cX9_two 39 = .ok (.bipush 61, 2) := by decide +kernel
theorem dX9_two_41 : decode cX9_two 41 = .ok (.if_icmp .ne 16, 3) := by decide +kernel
theorem dX9_two_44 : decode cX9_two 44 = .ok (.iload_n 1, 1) := by decide +kernel
theorem dX9_two_45 : decode cX9_two 45 = .ok (.iload_n 2, 1) := by decide +kernel
theorem dX9_two_46 : decode cX9_two 46 = .ok (.if_icmp .ne 7, 3) := by decide +kernel
theorem dX9_two_49 : decode cX9_two 49 = .ok (.iconst 1, 1) := by decide +kernel
theorem dX9_two_50 : decode cX9_two 50 = .ok (.goto 42, 3) := by decide +kernel
theorem dX9_two_53 : decode cX9_two 53 = .ok (.iconst 0, 1) := by decide +kernel
theorem dX9_two_54 : decode cX9_two 54 = .ok (.goto 38, 3) := by decide +kernel
theorem dX9_two_57 : decode cX9_two 57 = .ok (.iload_n 0, 1) := by decide +kernel
theorem dX9_two_58 : decode cX9_two 58 = .ok (.bipush 38, 2) := by decide +kernel
theorem dX9_two_60 : decode cX9_two 60 = .ok (.if_icmp .ne 19, 3) := by decide +kernel
theorem dX9_two_63 : decode cX9_two 63 = .ok (.iload_n 1, 1) := by decide +kernel
theorem dX9_two_64 : decode cX9_two 64 = .ok (.ifCond .eq 11, 3) := by decide +kernel
theorem dX9_two_67 : decode cX9_two 67 = .ok (.iload_n 2, 1) := by decide +kernel
theorem dX9_two_68 : decode cX9_two 68 = .ok (.ifCond .eq 7, 3) := by decide +kernel
theorem dX9_two_71 : decode cX9_two 71 = .ok (.iconst 1, 1) := by decide +kernel
theorem dX9_two_72 : decode cX9_two 72 = .ok (.goto 20, 3) := by decide +kernel
theorem dX9_two_75 : decode cX9_two 75 = .ok (.iconst 0, 1) := by decide +kernel
theorem dX9_two_76 : decode cX9_two 76 = .ok (.goto 16, 3) := by decide +kernel
theorem dX9_two_79 : decode cX9_two 79 = .ok (.iload_n 1, 1) := by decide +kernel
theorem dX9_two_80 : decode cX9_two 80 = .ok (.ifCond .ne 7, 3) := by decide +kernel
theorem dX9_two_83 : decode cX9_two 83 = .ok (.iload_n 2, 1) := by decide +kernel
theorem dX9_two_84 : decode cX9_two 84 = .ok (.ifCond .eq 7, 3) := by decide +kernel
theorem dX9_two_87 : decode cX9_two 87 = .ok (.iconst 1, 1) := by decide +kernel
theorem dX9_two_88 : decode cX9_two 88 = .ok (.goto 4, 3) := by decide +kernel
theorem dX9_two_91 : decode cX9_two 91 = .ok (.iconst 0, 1) := by decide +kernel
theorem dX9_two_92 : decode cX9_two 92 = .ok (.ireturn, 1) := by decide +kernel
theorem dX9_bounded_0 : decode cX9_bounded 0 = .ok (.lload_n 0, 1) := by decide +kernel
theorem dX9_bounded_1 : decode cX9_bounded 1 = .ok (.lconst 0, 1) := by decide +kernel
theorem dX9_bounded_2 : decode cX9_bounded 2 = .ok (.lcmp, 1) := by decide +kernel
theorem dX9_bounded_3 : decode cX9_bounded 3 = .ok (.ifCond .ge 7, 3) := by decide +kernel
theorem dX9_bounded_6 : decode cX9_bounded 6 = .ok (.iconst 0, 1) := by decide +kernel
theorem dX9_bounded_7 : decode cX9_bounded 7 = .ok (.goto 19, 3) := by decide +kernel
theorem dX9_bounded_10 : decode cX9_bounded 10 = .ok (.lload_n 0, 1) := by decide +kernel
theorem dX9_bounded_11 : decode cX9_bounded 11 = .ok (.ldc2_w 383, 3) := by decide +kernel
theorem dX9_bounded_14 : decode cX9_bounded 14 = .ok (.lcmp, 1) := by decide +kernel
theorem dX9_bounded_15 : decode cX9_bounded 15 = .ok (.ifCond .le 9, 3) := by decide +kernel
theorem dX9_bounded_18 : decode cX9_bounded 18 = .ok (.ldc_w 385, 3) := by decide +kernel
theorem dX9_bounded_21 : decode cX9_bounded 21 = .ok (.goto 5, 3) := by decide +kernel
theorem dX9_bounded_24 : decode cX9_bounded 24 = .ok (.lload_n 0, 1) := by decide +kernel
theorem dX9_bounded_25 : decode cX9_bounded 25 = .ok (.l2i, 1) := by decide +kernel
theorem dX9_bounded_26 : decode cX9_bounded 26 = .ok (.ireturn, 1) := by decide +kernel
theorem dX9_price_0 : decode cX9_price 0 = .ok (.aload_n 0, 1) := by decide +kernel
theorem dX9_price_1 : decode cX9_price 1 = .ok (.iload_n 1, 1) := by decide +kernel
theorem dX9_price_2 : decode cX9_price 2 = .ok (.invokevirtual 386, 3) := by decide +kernel
theorem dX9_price_5 : decode cX9_price 5 = .ok (.istore_n 3, 1) := by decide +kernel
theorem dX9_price_6 : decode cX9_price 6 = .ok (.iload_n 3, 1) := by decide +kernel
theorem dX9_price_7 : decode cX9_price 7 = .ok (.ifCond .ge 7, 3) := by decide +kernel
theorem dX9_price_10 : decode cX9_price 10 = .ok (.iconst (-1), 1) := by decide +kernel
theorem dX9_price_11 : decode cX9_price 11 = .ok (.goto 14, 3) := by decide +kernel
theorem dX9_price_14 : decode cX9_price 14 = .ok (.aload_n 0, 1) := by decide +kernel
theorem dX9_price_15 : decode cX9_price 15 = .ok (.iload_n 3, 1) := by decide +kernel
theorem dX9_price_16 : decode cX9_price 16 = .ok (.aload_n 0, 1) := by decide +kernel
theorem dX9_price_17 : decode cX9_price 17 = .ok (.getfield 152, 3) := by decide +kernel
theorem dX9_price_20 : decode cX9_price 20 = .ok (.iload_n 1, 1) := by decide +kernel
theorem dX9_price_21 : decode cX9_price 21 = .ok (.laload, 1) := by decide +kernel
theorem dX9_price_22 : decode cX9_price 22 = .ok (.invokevirtual 313, 3) := by decide +kernel
theorem dX9_price_25 : decode cX9_price 25 = .ok (.istore 4, 2) := by decide +kernel
theorem dX9_price_27 : decode cX9_price 27 = .ok (.iload 4, 2) := by decide +kernel
theorem dX9_price_29 : decode cX9_price 29 = .ok (.ifCond .ge 5, 3) := by decide +kernel
theorem dX9_price_32 : decode cX9_price 32 = .ok (.iconst (-1), 1) := by decide +kernel
theorem dX9_price_33 : decode cX9_price 33 = .ok (.ireturn, 1) := by decide +kernel
theorem dX9_price_34 : decode cX9_price 34 = .ok (.aload_n 0, 1) := by decide +kernel
theorem dX9_price_35 : decode cX9_price 35 = .ok (.aload_n 0, 1) := by decide +kernel
theorem dX9_price_36 : decode cX9_price 36 = .ok (.getfield 125, 3) := by decide +kernel
theorem dX9_price_39 : decode cX9_price 39 = .ok (.iload_n 1, 1) := by decide +kernel
theorem dX9_price_40 : decode cX9_price 40 = .ok (.iaload, 1) := by decide +kernel
theorem dX9_price_41 : decode cX9_price 41 = .ok (.aload_n 0, 1) := by decide +kernel
theorem dX9_price_42 : decode cX9_price 42 = .ok (.getfield 128, 3) := by decide +kernel
theorem dX9_price_45 : decode cX9_price 45 = .ok (.iload_n 1, 1) := by decide +kernel
theorem dX9_price_46 : decode cX9_price 46 = .ok (.iaload, 1) := by decide +kernel
theorem dX9_price_47 : decode cX9_price 47 = .ok (.invokevirtual 389, 3) := by decide +kernel
theorem dX9_price_50 : decode cX9_price 50 = .ok (.istore 5, 2) := by decide +kernel
theorem dX9_price_52 : decode cX9_price 52 = .ok (.aload_n 0, 1) := by decide +kernel
theorem dX9_price_53 : decode cX9_price 53 = .ok (.getfield 158, 3) := by decide +kernel
theorem dX9_price_56 : decode cX9_price 56 = .ok (.iconst 0, 1) := by decide +kernel
theorem dX9_price_57 : decode cX9_price 57 = .ok (.aload_n 0, 1) := by decide +kernel
theorem dX9_price_58 : decode cX9_price 58 = .ok (.aload_n 0, 1) := by decide +kernel
theorem dX9_price_59 : decode cX9_price 59 = .ok (.getfield 128, 3) := by decide +kernel
theorem dX9_price_62 : decode cX9_price 62 = .ok (.iload_n 1, 1) := by decide +kernel
theorem dX9_price_63 : decode cX9_price 63 = .ok (.iaload, 1) := by decide +kernel
theorem dX9_price_64 : decode cX9_price 64 = .ok (.aload_n 0, 1) := by decide +kernel
theorem dX9_price_65 : decode cX9_price 65 = .ok (.getfield 131, 3) := by decide +kernel
theorem dX9_price_68 : decode cX9_price 68 = .ok (.iload_n 1, 1) := by decide +kernel
theorem dX9_price_69 : decode cX9_price 69 = .ok (.iaload, 1) := by decide +kernel
theorem dX9_price_70 : decode cX9_price 70 = .ok (.iload_n 2, 1) := by decide +kernel
theorem dX9_price_71 : decode cX9_price 71 = .ok (.invokevirtual 392, 3) := by decide +kernel
theorem dX9_price_74 : decode cX9_price 74 = .ok (.iastore, 1) := by decide +kernel
theorem dX9_price_75 : decode cX9_price 75 = .ok (.aload_n 0, 1) := by decide +kernel
theorem dX9_price_76 : decode cX9_price 76 = .ok (.getfield 158, 3) := by decide +kernel
theorem dX9_price_79 : decode cX9_price 79 = .ok (.iconst 1, 1) := by decide +kernel
theorem dX9_price_80 : decode cX9_price 80 = .ok (.aload_n 0, 1) := by decide +kernel
theorem dX9_price_81 : decode cX9_price 81 = .ok (.aload_n 0, 1) := by decide +kernel
theorem dX9_price_82 : decode cX9_price 82 = .ok (.getfield 125, 3) := by decide +kernel
theorem dX9_price_85 : decode cX9_price 85 = .ok (.iload_n 1, 1) := by decide +kernel
theorem dX9_price_86 : decode cX9_price 86 = .ok (.iaload, 1) := by decide +kernel
theorem dX9_price_87 : decode cX9_price 87 = .ok (.aload_n 0, 1) := by decide +kernel
theorem dX9_price_88 : decode cX9_price 88 = .ok (.getfield 131, 3) := by decide +kernel
theorem dX9_price_91 : decode cX9_price 91 = .ok (.iload_n 1, 1) := by decide +kernel
theorem dX9_price_92 : decode cX9_price 92 = .ok (.iaload, 1) := by decide +kernel
theorem dX9_price_93 : decode cX9_price 93 = .ok (.iload_n 2, 1) := by decide +kernel
theorem dX9_price_94 : decode cX9_price 94 = .ok (.invokevirtual 392, 3) := by decide +kernel
theorem dX9_price_97 : decode cX9_price 97 = .ok (.iastore, 1) := by decide +kernel
theorem dX9_price_98 : decode cX9_price 98 = .ok (.aload_n 0, 1) := by decide +kernel
theorem dX9_price_99 : decode cX9_price 99 = .ok (.getfield 158, 3) := by decide +kernel
theorem dX9_price_102 : decode cX9_price 102 = .ok (.iconst 2, 1) := by decide +kernel
theorem dX9_price_103 : decode cX9_price 103 = .ok (.aload_n 0, 1) := by decide +kernel
theorem dX9_price_104 : decode cX9_price 104 = .ok (.getfield 134, 3) := by decide +kernel
theorem dX9_price_107 : decode cX9_price 107 = .ok (.iload_n 1, 1) := by decide +kernel
theorem dX9_price_108 : decode cX9_price 108 = .ok (.iaload, 1) := by decide +kernel
theorem dX9_price_109 : decode cX9_price 109 = .ok (.iastore, 1) := by decide +kernel
theorem dX9_price_110 : decode cX9_price 110 = .ok (.aload_n 0, 1) := by decide +kernel
theorem dX9_price_111 : decode cX9_price 111 = .ok (.getfield 158, 3) := by decide +kernel
theorem dX9_price_114 : decode cX9_price 114 = .ok (.iconst 3, 1) := by decide +kernel
theorem dX9_price_115 : decode cX9_price 115 = .ok (.aload_n 0, 1) := by decide +kernel
theorem dX9_price_116 : decode cX9_price 116 = .ok (.getfield 155, 3) := by decide +kernel
theorem dX9_price_119 : decode cX9_price 119 = .ok (.iload_n 1, 1) := by decide +kernel
theorem dX9_price_120 : decode cX9_price 120 = .ok (.baload, 1) := by decide +kernel
theorem dX9_price_121 : decode cX9_price 121 = .ok (.ifCond .eq 7, 3) := by decide +kernel
theorem dX9_price_124 : decode cX9_price 124 = .ok (.iconst 1, 1) := by decide +kernel
theorem dX9_price_125 : decode cX9_price 125 = .ok (.goto 4, 3) := by decide +kernel
theorem dX9_price_128 : decode cX9_price 128 = .ok (.iconst 0, 1) := by decide +kernel
theorem dX9_price_129 : decode cX9_price 129 = .ok (.iastore, 1) := by decide +kernel
theorem dX9_price_130 : decode cX9_price 130 = .ok (.aload_n 0, 1) := by decide +kernel
theorem dX9_price_131 : decode cX9_price 131 = .ok (.getfield 158, 3) := by decide +kernel
theorem dX9_price_134 : decode cX9_price 134 = .ok (.iconst 4, 1) := by decide +kernel
theorem dX9_price_135 : decode cX9_price 135 = .ok (.iload 5, 2) := by decide +kernel
theorem dX9_price_137 : decode cX9_price 137 = .ok (.ifCond .lt 13, 3) := by decide +kernel
theorem dX9_price_140 : decode cX9_price 140 = .ok (.iload 5, 2) := by decide +kernel
theorem dX9_price_142 : decode cX9_price 142 = .ok (.iconst 3, 1) := by decide +kernel
theorem dX9_price_143 : decode cX9_price 143 = .ok (.if_icmp .gt 7, 3) := by decide +kernel
theorem dX9_price_146 : decode cX9_price 146 = .ok (.iconst 1, 1) := by decide +kernel
theorem dX9_price_147 : decode cX9_price 147 = .ok (.goto 4, 3) := by decide +kernel
theorem dX9_price_150 : decode cX9_price 150 = .ok (.iconst 0, 1) := by decide +kernel
theorem dX9_price_151 : decode cX9_price 151 = .ok (.iastore, 1) := by decide +kernel
theorem dX9_price_152 : decode cX9_price 152 = .ok (.aload_n 0, 1) := by decide +kernel
theorem dX9_price_153 : decode cX9_price 153 = .ok (.getfield 158, 3) := by decide +kernel
theorem dX9_price_156 : decode cX9_price 156 = .ok (.iconst 5, 1) := by decide +kernel
theorem dX9_price_157 : decode cX9_price 157 = .ok (.aload_n 0, 1) := by decide +kernel
theorem dX9_price_158 : decode cX9_price 158 = .ok (.aload_n 0, 1) := by decide +kernel
theorem dX9_price_159 : decode cX9_price 159 = .ok (.getfield 89, 3) := by decide +kernel
theorem dX9_price_162 : decode cX9_price 162 = .ok (.aload_n 0, 1) := by decide +kernel
theorem dX9_price_163 : decode cX9_price 163 = .ok (.getfield 125, 3) := by decide +kernel
theorem dX9_price_166 : decode cX9_price 166 = .ok (.iload_n 1, 1) := by decide +kernel
theorem dX9_price_167 : decode cX9_price 167 = .ok (.iaload, 1) := by decide +kernel
theorem dX9_price_168 : decode cX9_price 168 = .ok (.iaload, 1) := by decide +kernel
theorem dX9_price_169 : decode cX9_price 169 = .ok (.aload_n 0, 1) := by decide +kernel
theorem dX9_price_170 : decode cX9_price 170 = .ok (.getfield 89, 3) := by decide +kernel
theorem dX9_price_173 : decode cX9_price 173 = .ok (.aload_n 0, 1) := by decide +kernel
theorem dX9_price_174 : decode cX9_price 174 = .ok (.getfield 128, 3) := by decide +kernel
theorem dX9_price_177 : decode cX9_price 177 = .ok (.iload_n 1, 1) := by decide +kernel
theorem dX9_price_178 : decode cX9_price 178 = .ok (.iaload, 1) := by decide +kernel
theorem dX9_price_179 : decode cX9_price 179 = .ok (.iaload, 1) := by decide +kernel
theorem dX9_price_180 : decode cX9_price 180 = .ok (.aload_n 0, 1) := by decide +kernel
theorem dX9_price_181 : decode cX9_price 181 = .ok (.getfield 131, 3) := by decide +kernel
theorem dX9_price_184 : decode cX9_price 184 = .ok (.iload_n 1, 1) := by decide +kernel
theorem dX9_price_185 : decode cX9_price 185 = .ok (.iaload, 1) := by decide +kernel
theorem dX9_price_186 : decode cX9_price 186 = .ok (.invokevirtual 396, 3) := by decide +kernel
theorem dX9_price_189 : decode cX9_price 189 = .ok (.ifCond .eq 7, 3) := by decide +kernel
theorem dX9_price_192 : decode cX9_price 192 = .ok (.iconst 1, 1) := by decide +kernel
theorem dX9_price_193 : decode cX9_price 193 = .ok (.goto 4, 3) := by decide +kernel
theorem dX9_price_196 : decode cX9_price 196 = .ok (.iconst 0, 1) := by decide +kernel
theorem dX9_price_197 : decode cX9_price 197 = .ok (.iastore, 1) := by decide +kernel
theorem dX9_price_198 : decode cX9_price 198 = .ok (.aload_n 0, 1) := by decide +kernel
theorem dX9_price_199 : decode cX9_price 199 = .ok (.getfield 33, 3) := by decide +kernel
theorem dX9_price_202 : decode cX9_price 202 = .ok (.iload 4, 2) := by decide +kernel
theorem dX9_price_204 : decode cX9_price 204 = .ok (.iaload, 1) := by decide +kernel
theorem dX9_price_205 : decode cX9_price 205 = .ok (.istore 6, 2) := by decide +kernel
theorem dX9_price_207 : decode cX9_price 207 = .ok (.bipush 16, 2) := by decide +kernel
theorem dX9_price_209 : decode cX9_price 209 = .ok (.iload_n 3, 1) := by decide +kernel
theorem dX9_price_210 : decode cX9_price 210 = .ok (.imul, 1) := by decide +kernel
theorem dX9_price_211 : decode cX9_price 211 = .ok (.istore 7, 2) := by decide +kernel
theorem dX9_price_213 : decode cX9_price 213 = .ok (.iload 7, 2) := by decide +kernel
theorem dX9_price_215 : decode cX9_price 215 = .ok (.bipush 16, 2) := by decide +kernel
theorem dX9_price_217 : decode cX9_price 217 = .ok (.iload_n 3, 1) := by decide +kernel
theorem dX9_price_218 : decode cX9_price 218 = .ok (.imul, 1) := by decide +kernel
theorem dX9_price_219 : decode cX9_price 219 = .ok (.aload_n 0, 1) := by decide +kernel
theorem dX9_price_220 : decode cX9_price 220 = .ok (.getfield 36, 3) := by decide +kernel
theorem dX9_price_223 : decode cX9_price 223 = .ok (.iload_n 3, 1) := by decide +kernel
theorem dX9_price_224 : decode cX9_price 224 = .ok (.iaload, 1) := by decide +kernel
theorem dX9_price_225 : decode cX9_price 225 = .ok (.iadd, 1) := by decide +kernel
theorem dX9_price_226 : decode cX9_price 226 = .ok (.if_icmp .ge 111, 3) := by decide +kernel
theorem dX9_price_229 : decode cX9_price 229 = .ok (.aload_n 0, 1) := by decide +kernel
theorem dX9_price_230 : decode cX9_price 230 = .ok (.getfield 158, 3) := by decide +kernel
theorem dX9_price_233 : decode cX9_price 233 = .ok (.bipush 6, 2) := by decide +kernel
theorem dX9_price_235 : decode cX9_price 235 = .ok (.iload 6, 2) := by decide +kernel
theorem dX9_price_237 : decode cX9_price 237 = .ok (.iastore, 1) := by decide +kernel
theorem dX9_price_238 : decode cX9_price 238 = .ok (.aload_n 0, 1) := by decide +kernel
theorem dX9_price_239 : decode cX9_price 239 = .ok (.iload_n 3, 1) := by decide +kernel
theorem dX9_price_240 : decode cX9_price 240 = .ok (.iload 7, 2) := by decide +kernel
theorem dX9_price_242 : decode cX9_price 242 = .ok (.invokevirtual 399, 3) := by decide +kernel
theorem dX9_price_245 : decode cX9_price 245 = .ok (.ifCond .ne 6, 3) := by decide +kernel
theorem dX9_price_248 : decode cX9_price 248 = .ok (.goto 83, 3) := by decide +kernel
theorem dX9_price_251 : decode cX9_price 251 = .ok (.aload_n 0, 1) := by decide +kernel
theorem dX9_price_252 : decode cX9_price 252 = .ok (.getfield 45, 3) := by decide +kernel
theorem dX9_price_255 : decode cX9_price 255 = .ok (.iload 7, 2) := by decide +kernel
theorem dX9_price_257 : decode cX9_price 257 = .ok (.iaload, 1) := by decide +kernel
theorem dX9_price_258 : decode cX9_price 258 = .ok (.ifCond .ne 16, 3) := by decide +kernel
theorem dX9_price_261 : decode cX9_price 261 = .ok (.ldc2_w 402, 3) := by decide +kernel
theorem dX9_price_264 : decode cX9_price 264 = .ok (.iload 6, 2) := by decide +kernel
theorem dX9_price_266 : decode cX9_price 266 = .ok (.i2l, 1) := by decide +kernel
theorem dX9_price_267 : decode cX9_price 267 = .ok (.lmul, 1) := by decide +kernel
theorem dX9_price_268 : decode cX9_price 268 = .ok (.invokestatic 404, 3) := by decide +kernel
theorem dX9_price_271 : decode cX9_price 271 = .ok (.goto 58, 3) := by decide +kernel
theorem dX9_price_274 : decode cX9_price 274 = .ok (.aload_n 0, 1) := by decide +kernel
theorem dX9_price_275 : decode cX9_price 275 = .ok (.getfield 45, 3) := by decide +kernel
theorem dX9_price_278 : decode cX9_price 278 = .ok (.iload 7, 2) := by decide +kernel
theorem dX9_price_280 : decode cX9_price 280 = .ok (.iaload, 1) := by decide +kernel
theorem dX9_price_281 : decode cX9_price 281 = .ok (.iconst 1, 1) := by decide +kernel
theorem dX9_price_282 : decode cX9_price 282 = .ok (.if_icmp .ne 10, 3) := by decide +kernel
theorem dX9_price_285 : decode cX9_price 285 = .ok (.iload 6, 2) := by decide +kernel
theorem dX9_price_287 : decode cX9_price 287 = .ok (.iconst 2, 1) := by decide +kernel
theorem dX9_price_288 : decode cX9_price 288 = .ok (.idiv, 1) := by decide +kernel
theorem dX9_price_289 : decode cX9_price 289 = .ok (.goto 40, 3) := by decide +kernel
theorem dX9_price_292 : decode cX9_price 292 = .ok (.iload 6, 2) := by decide +kernel
theorem dX9_price_294 : decode cX9_price 294 = .ok (.i2l, 1) := by decide +kernel
theorem dX9_price_295 : decode cX9_price 295 = .ok (.aload_n 0, 1) := by decide +kernel
theorem dX9_price_296 : decode cX9_price 296 = .ok (.getfield 45, 3) := by decide +kernel
theorem dX9_price_299 : decode cX9_price 299 = .ok (.iload 7, 2) := by decide +kernel
theorem dX9_price_301 : decode cX9_price 301 = .ok (.iaload, 1) := by decide +kernel
theorem dX9_price_302 : decode cX9_price 302 = .ok (.iconst 2, 1) := by decide +kernel
theorem dX9_price_303 : decode cX9_price 303 = .ok (.if_icmp .ne 13, 3) := by decide +kernel
theorem dX9_price_306 : decode cX9_price 306 = .ok (.aload_n 0, 1) := by decide +kernel
theorem dX9_price_307 : decode cX9_price 307 = .ok (.getfield 48, 3) := by decide +kernel
theorem dX9_price_310 : decode cX9_price 310 = .ok (.iload 7, 2) := by decide +kernel
theorem dX9_price_312 : decode cX9_price 312 = .ok (.iaload, 1) := by decide +kernel
theorem dX9_price_313 : decode cX9_price 313 = .ok (.goto 11, 3) := by decide +kernel
theorem dX9_price_316 : decode cX9_price 316 = .ok (.aload_n 0, 1) := by decide +kernel
theorem dX9_price_317 : decode cX9_price 317 = .ok (.getfield 48, 3) := by decide +kernel
theorem dX9_price_320 : decode cX9_price 320 = .ok (.iload 7, 2) := by decide +kernel
theorem dX9_price_322 : decode cX9_price 322 = .ok (.iaload, 1) := by decide +kernel
theorem dX9_price_323 : decode cX9_price 323 = .ok (.ineg, 1) := by decide +kernel
theorem dX9_price_324 : decode cX9_price 324 = .ok (.i2l, 1) := by decide +kernel
theorem dX9_price_325 : decode cX9_price 325 = .ok (.ladd, 1) := by decide +kernel
theorem dX9_price_326 : decode cX9_price 326 = .ok (.invokestatic 404, 3) := by decide +kernel
theorem dX9_price_329 : decode cX9_price 329 = .ok (.istore 6, 2) := by decide +kernel
theorem dX9_price_331 : decode cX9_price 331 = .ok (.iinc 7 1, 3) := by decide +kernel
theorem dX9_price_334 : decode cX9_price 334 = .ok (.goto (-121), 3) := by decide +kernel
theorem dX9_price_337 : decode cX9_price 337 = .ok (.iload 6, 2) := by decide +kernel
theorem dX9_price_339 : decode cX9_price 339 = .ok (.ireturn, 1) := by decide +kernel
theorem dX9_sumOf_0 : decode cX9_sumOf 0 = .ok (.aload_n 0, 1) := by decide +kernel
theorem dX9_sumOf_1 : decode cX9_sumOf 1 = .ok (.iload_n 1, 1) := by decide +kernel
theorem dX9_sumOf_2 : decode cX9_sumOf 2 = .ok (.iload_n 2, 1) := by decide +kernel
theorem dX9_sumOf_3 : decode cX9_sumOf 3 = .ok (.invokevirtual 407, 3) := by decide +kernel
theorem dX9_sumOf_6 : decode cX9_sumOf 6 = .ok (.istore_n 3, 1) := by decide +kernel
theorem dX9_sumOf_7 : decode cX9_sumOf 7 = .ok (.iload_n 3, 1) := by decide +kernel
theorem dX9_sumOf_8 : decode cX9_sumOf 8 = .ok (.ifCond .lt 26, 3) := by decide +kernel
theorem dX9_sumOf_11 : decode cX9_sumOf 11 = .ok (.aload_n 0, 1) := by decide +kernel
theorem dX9_sumOf_12 : decode cX9_sumOf 12 = .ok (.getfield 137, 3) := by decide +kernel
theorem dX9_sumOf_15 : decode cX9_sumOf 15 = .ok (.iload_n 1, 1) := by decide +kernel
theorem dX9_sumOf_16 : decode cX9_sumOf 16 = .ok (.iaload, 1) := by decide +kernel
theorem dX9_sumOf_17 : decode cX9_sumOf 17 = .ok (.ifCond .lt 17, 3) := by decide +kernel
theorem dX9_sumOf_20 : decode cX9_sumOf 20 = .ok (.iload_n 2, 1) := by decide +kernel
theorem dX9_sumOf_21 : decode cX9_sumOf 21 = .ok (.aload_n 0, 1) := by decide +kernel
theorem dX9_sumOf_22 : decode cX9_sumOf 22 = .ok (.getfield 137, 3) := by decide +kernel
theorem dX9_sumOf_25 : decode cX9_sumOf 25 = .ok (.iload_n 1, 1) := by decide +kernel
theorem dX9_sumOf_26 : decode cX9_sumOf 26 = .ok (.iaload, 1) := by decide +kernel
theorem dX9_sumOf_27 : decode cX9_sumOf 27 = .ok (.if_icmp .lt 7, 3) := by decide +kernel
theorem dX9_sumOf_30 : decode cX9_sumOf 30 = .ok (.iconst 0, 1) := by decide +kernel
theorem dX9_sumOf_31 : decode cX9_sumOf 31 = .ok (.goto 4, 3) := by decide +kernel
theorem dX9_sumOf_34 : decode cX9_sumOf 34 = .ok (.iload_n 3, 1) := by decide +kernel
theorem dX9_sumOf_35 : decode cX9_sumOf 35 = .ok (.ireturn, 1) := by decide +kernel
theorem dX9_sum_0 : decode cX9_sum 0 = .ok (.aload_n 0, 1) := by decide +kernel
theorem dX9_sum_1 : decode cX9_sum 1 = .ok (.iload_n 1, 1) := by decide +kernel
theorem dX9_sum_2 : decode cX9_sum 2 = .ok (.invokevirtual 410, 3) := by decide +kernel
theorem dX9_sum_5 : decode cX9_sum 5 = .ok (.ifCond .eq 12, 3) := by decide +kernel
theorem dX9_sum_8 : decode cX9_sum 8 = .ok (.aload_n 0, 1) := by decide +kernel
theorem dX9_sum_9 : decode cX9_sum 9 = .ok (.iload_n 1, 1) := by decide +kernel
theorem dX9_sum_10 : decode cX9_sum 10 = .ok (.iload_n 2, 1) := by decide +kernel
theorem dX9_sum_11 : decode cX9_sum 11 = .ok (.invokevirtual 413, 3) := by decide +kernel
theorem dX9_sum_14 : decode cX9_sum 14 = .ok (.goto 4, 3) := by decide +kernel
theorem dX9_sum_17 : decode cX9_sum 17 = .ok (.iconst (-1), 1) := by decide +kernel
theorem dX9_sum_18 : decode cX9_sum 18 = .ok (.ireturn, 1) := by decide +kernel
theorem dX9_oath_0 : decode cX9_oath 0 = .ok (.aload_n 0, 1) := by decide +kernel
theorem dX9_oath_1 : decode cX9_oath 1 = .ok (.iload_n 1, 1) := by decide +kernel
theorem dX9_oath_2 : decode cX9_oath 2 = .ok (.invokevirtual 410, 3) := by decide +kernel
theorem dX9_oath_5 : decode cX9_oath 5 = .ok (.ifCond .eq 29, 3) := by decide +kernel
theorem dX9_oath_8 : decode cX9_oath 8 = .ok (.aload_n 0, 1) := by decide +kernel
theorem dX9_oath_9 : decode cX9_oath 9 = .ok (.getfield 137, 3) := by decide +kernel
theorem dX9_oath_12 : decode cX9_oath 12 = .ok (.iload_n 1, 1) := by decide +kernel
theorem dX9_oath_13 : decode cX9_oath 13 = .ok (.iaload, 1) := by decide +kernel
theorem dX9_oath_14 : decode cX9_oath 14 = .ok (.ifCond .ge 20, 3) := by decide +kernel
theorem dX9_oath_17 : decode cX9_oath 17 = .ok (.aload_n 0, 1) := by decide +kernel
theorem dX9_oath_18 : decode cX9_oath 18 = .ok (.getfield 140, 3) := by decide +kernel
theorem dX9_oath_21 : decode cX9_oath 21 = .ok (.iload_n 1, 1) := by decide +kernel
theorem dX9_oath_22 : decode cX9_oath 22 = .ok (.iaload, 1) := by decide +kernel
theorem dX9_oath_23 : decode cX9_oath 23 = .ok (.ifCond .ge 11, 3) := by decide +kernel
theorem dX9_oath_26 : decode cX9_oath 26 = .ok (.aload_n 0, 1) := by decide +kernel
theorem dX9_oath_27 : decode cX9_oath 27 = .ok (.iload_n 1, 1) := by decide +kernel
theorem dX9_oath_28 : decode cX9_oath 28 = .ok (.invokevirtual 386, 3) := by decide +kernel
theorem dX9_oath_31 : decode cX9_oath 31 = .ok (.ifCond .ge 5, 3) := by decide +kernel
theorem dX9_oath_34 : decode cX9_oath 34 = .ok (.iconst (-1), 1) := by decide +kernel
theorem dX9_oath_35 : decode cX9_oath 35 = .ok (.ireturn, 1) := by decide +kernel
theorem dX9_oath_36 : decode cX9_oath 36 = .ok (.iload_n 2, 1) := by decide +kernel
theorem dX9_oath_37 : decode cX9_oath 37 = .ok (.ifCond .lt 13, 3) := by decide +kernel
theorem dX9_oath_40 : decode cX9_oath 40 = .ok (.iload_n 2, 1) := by decide +kernel
theorem dX9_oath_41 : decode cX9_oath 41 = .ok (.iconst 1, 1) := by decide +kernel
theorem dX9_oath_42 : decode cX9_oath 42 = .ok (.aload_n 0, 1) := by decide +kernel
theorem dX9_oath_43 : decode cX9_oath 43 = .ok (.getfield 353, 3) := by decide +kernel
theorem dX9_oath_46 : decode cX9_oath 46 = .ok (.ishl, 1) := by decide +kernel
theorem dX9_oath_47 : decode cX9_oath 47 = .ok (.if_icmp .lt 5, 3) := by decide +kernel
theorem dX9_oath_50 : decode cX9_oath 50 = .ok (.iconst 0, 1) := by decide +kernel
theorem dX9_oath_51 : decode cX9_oath 51 = .ok (.ireturn, 1) := by decide +kernel
theorem dX9_oath_52 : decode cX9_oath 52 = .ok (.aload_n 0, 1) := by decide +kernel
theorem dX9_oath_53 : decode cX9_oath 53 = .ok (.iload_n 1, 1) := by decide +kernel
theorem dX9_oath_54 : decode cX9_oath 54 = .ok (.invokevirtual 386, 3) := by decide +kernel
theorem dX9_oath_57 : decode cX9_oath 57 = .ok (.istore_n 3, 1) := by decide +kernel
theorem dX9_oath_58 : decode cX9_oath 58 = .ok (.iconst 0, 1) := by decide +kernel
theorem dX9_oath_59 : decode cX9_oath 59 = .ok (.istore 4, 2) := by decide +kernel
theorem dX9_oath_61 : decode cX9_oath 61 = .ok (.iconst 1, 1) := by decide +kernel
theorem dX9_oath_62 : decode cX9_oath 62 = .ok (.istore 5, 2) := by decide +kernel
theorem dX9_oath_64 : decode cX9_oath 64 = .ok (.iconst 0, 1) := by decide +kernel
theorem dX9_oath_65 : decode cX9_oath 65 = .ok (.istore 6, 2) := by decide +kernel
theorem dX9_oath_67 : decode cX9_oath 67 = .ok (.iload 6, 2) := by decide +kernel
theorem dX9_oath_69 : decode cX9_oath 69 = .ok (.aload_n 0, 1) := by decide +kernel
theorem dX9_oath_70 : decode cX9_oath 70 = .ok (.getfield 353, 3) := by decide +kernel
theorem dX9_oath_73 : decode cX9_oath 73 = .ok (.if_icmp .ge 110, 3) := by decide +kernel
theorem dX9_oath_76 : decode cX9_oath 76 = .ok (.iload_n 2, 1) := by decide +kernel
theorem dX9_oath_77 : decode cX9_oath 77 = .ok (.iload 6, 2) := by decide +kernel
theorem dX9_oath_79 : decode cX9_oath 79 = .ok (.ishr, 1) := by decide +kernel
theorem dX9_oath_80 : decode cX9_oath 80 = .ok (.iconst 1, 1) := by decide +kernel
theorem dX9_oath_81 : decode cX9_oath 81 = .ok (.iand, 1) := by decide +kernel
theorem dX9_oath_82 : decode cX9_oath 82 = .ok (.ifCond .ne 6, 3) := by decide +kernel
theorem dX9_oath_85 : decode cX9_oath 85 = .ok (.goto 92, 3) := by decide +kernel
theorem dX9_oath_88 : decode cX9_oath 88 = .ok (.iinc 4 1, 3) := by decide +kernel
theorem dX9_oath_91 : decode cX9_oath 91 = .ok (.iload 5, 2) := by decide +kernel
theorem dX9_oath_93 : decode cX9_oath 93 = .ok (.ifCond .eq 81, 3) := by decide +kernel
theorem dX9_oath_96 : decode cX9_oath 96 = .ok (.iload 6, 2) := by decide +kernel
theorem dX9_oath_98 : decode cX9_oath 98 = .ok (.aload_n 0, 1) := by decide +kernel
theorem dX9_oath_99 : decode cX9_oath 99 = .ok (.getfield 125, 3) := by decide +kernel
theorem dX9_oath_102 : decode cX9_oath 102 = .ok (.iload_n 1, 1) := by decide +kernel
theorem dX9_oath_103 : decode cX9_oath 103 = .ok (.iaload, 1) := by decide +kernel
theorem dX9_oath_104 : decode cX9_oath 104 = .ok (.if_icmp .eq 70, 3) := by decide +kernel
theorem dX9_oath_107 : decode cX9_oath 107 = .ok (.iload 6, 2) := by decide +kernel
theorem dX9_oath_109 : decode cX9_oath 109 = .ok (.aload_n 0, 1) := by decide +kernel
theorem dX9_oath_110 : decode cX9_oath 110 = .ok (.getfield 128, 3) := by decide +kernel
theorem dX9_oath_113 : decode cX9_oath 113 = .ok (.iload_n 1, 1) := by decide +kernel
theorem dX9_oath_114 : decode cX9_oath 114 = .ok (.iaload, 1) := by decide +kernel
theorem dX9_oath_115 : decode cX9_oath 115 = .ok (.if_icmp .eq 59, 3) := by decide +kernel
theorem dX9_oath_118 : decode cX9_oath 118 = .ok (.aload_n 0, 1) := by decide +kernel
theorem dX9_oath_119 : decode cX9_oath 119 = .ok (.iload 6, 2) := by decide +kernel
theorem dX9_oath_121 : decode cX9_oath 121 = .ok (.aload_n 0, 1) := by decide +kernel
theorem dX9_oath_122 : decode cX9_oath 122 = .ok (.getfield 365, 3) := by decide +kernel
theorem dX9_oath_125 : decode cX9_oath 125 = .ok (.invokevirtual 416, 3) := by decide +kernel
theorem dX9_oath_128 : decode cX9_oath 128 = .ok (.ifCond .ne 46, 3) := by decide +kernel
theorem dX9_oath_131 : decode cX9_oath 131 = .ok (.aload_n 0, 1) := by decide +kernel
theorem dX9_oath_132 : decode cX9_oath 132 = .ok (.iload 6, 2) := by decide +kernel
theorem dX9_oath_134 : decode cX9_oath 134 = .ok (.aload_n 0, 1) := by decide +kernel
theorem dX9_oath_135 : decode cX9_oath 135 = .ok (.getfield 125, 3) := by decide +kernel
theorem dX9_oath_138 : decode cX9_oath 138 = .ok (.iload_n 1, 1) := by decide +kernel
theorem dX9_oath_139 : decode cX9_oath 139 = .ok (.iaload, 1) := by decide +kernel
theorem dX9_oath_140 : decode cX9_oath 140 = .ok (.invokevirtual 389, 3) := by decide +kernel
theorem dX9_oath_143 : decode cX9_oath 143 = .ok (.iconst 1, 1) := by decide +kernel
theorem dX9_oath_144 : decode cX9_oath 144 = .ok (.if_icmp .eq 30, 3) := by decide +kernel
theorem dX9_oath_147 : decode cX9_oath 147 = .ok (.aload_n 0, 1) := by decide +kernel
theorem dX9_oath_148 : decode cX9_oath 148 = .ok (.iload 6, 2) := by decide +kernel
theorem dX9_oath_150 : decode cX9_oath 150 = .ok (.aload_n 0, 1) := by decide +kernel
theorem dX9_oath_151 : decode cX9_oath 151 = .ok (.getfield 365, 3) := by decide +kernel
theorem dX9_oath_154 : decode cX9_oath 154 = .ok (.aload_n 0, 1) := by decide +kernel
theorem dX9_oath_155 : decode cX9_oath 155 = .ok (.getfield 365, 3) := by decide +kernel
theorem dX9_oath_158 : decode cX9_oath 158 = .ok (.invokevirtual 392, 3) := by decide +kernel
theorem dX9_oath_161 : decode cX9_oath 161 = .ok (.aload_n 0, 1) := by decide +kernel
theorem dX9_oath_162 : decode cX9_oath 162 = .ok (.getfield 57, 3) := by decide +kernel
theorem dX9_oath_165 : decode cX9_oath 165 = .ok (.iload_n 3, 1) := by decide +kernel
theorem dX9_oath_166 : decode cX9_oath 166 = .ok (.iaload, 1) := by decide +kernel
theorem dX9_oath_167 : decode cX9_oath 167 = .ok (.if_icmp .lt 7, 3) := by decide +kernel
theorem dX9_oath_170 : decode cX9_oath 170 = .ok (.iconst 1, 1) := by decide +kernel
theorem dX9_oath_171 : decode cX9_oath 171 = .ok (.goto 4, 3) := by decide +kernel
theorem dX9_oath_174 : decode cX9_oath 174 = .ok (.iconst 0, 1) := by decide +kernel
theorem dX9_oath_175 : decode cX9_oath 175 = .ok (.istore 5, 2) := by decide +kernel
theorem dX9_oath_177 : decode cX9_oath 177 = .ok (.iinc 6 1, 3) := by decide +kernel
theorem dX9_oath_180 : decode cX9_oath 180 = .ok (.goto (-113), 3) := by decide +kernel
theorem dX9_oath_183 : decode cX9_oath 183 = .ok (.iload 5, 2) := by decide +kernel
theorem dX9_oath_185 : decode cX9_oath 185 = .ok (.ifCond .eq 14, 3) := by decide +kernel
theorem dX9_oath_188 : decode cX9_oath 188 = .ok (.iload 4, 2) := by decide +kernel
theorem dX9_oath_190 : decode cX9_oath 190 = .ok (.aload_n 0, 1) := by decide +kernel
theorem dX9_oath_191 : decode cX9_oath 191 = .ok (.getfield 54, 3) := by decide +kernel
theorem dX9_oath_194 : decode cX9_oath 194 = .ok (.iload_n 3, 1) := by decide +kernel
theorem dX9_oath_195 : decode cX9_oath 195 = .ok (.iaload, 1) := by decide +kernel
theorem dX9_oath_196 : decode cX9_oath 196 = .ok (.if_icmp .ge 5, 3) := by decide +kernel
theorem dX9_oath_199 : decode cX9_oath 199 = .ok (.iconst 0, 1) := by decide +kernel
theorem dX9_oath_200 : decode cX9_oath 200 = .ok (.ireturn, 1) := by decide +kernel
theorem dX9_oath_201 : decode cX9_oath 201 = .ok (.aload_n 0, 1) := by decide +kernel
theorem dX9_oath_202 : decode cX9_oath 202 = .ok (.getfield 137, 3) := by decide +kernel
theorem dX9_oath_205 : decode cX9_oath 205 = .ok (.iload_n 1, 1) := by decide +kernel
theorem dX9_oath_206 : decode cX9_oath 206 = .ok (.aload_n 0, 1) := by decide +kernel
theorem dX9_oath_207 : decode cX9_oath 207 = .ok (.getfield 365, 3) := by decide +kernel
theorem dX9_oath_210 : decode cX9_oath 210 = .ok (.iastore, 1) := by decide +kernel
theorem dX9_oath_211 : decode cX9_oath 211 = .ok (.iconst 1, 1) := by decide +kernel
theorem dX9_oath_212 : decode cX9_oath 212 = .ok (.ireturn, 1) := by decide +kernel
theorem dX9_of_0 : decode cX9_of 0 = .ok (.aload_n 0, 1) := by decide +kernel
theorem dX9_of_1 : decode cX9_of 1 = .ok (.iload_n 1, 1) := by decide +kernel
theorem dX9_of_2 : decode cX9_of 2 = .ok (.invokevirtual 410, 3) := by decide +kernel
theorem dX9_of_5 : decode cX9_of 5 = .ok (.ifCond .ne 5, 3) := by decide +kernel
theorem dX9_of_8 : decode cX9_of 8 = .ok (.iconst (-1), 1) := by decide +kernel
theorem dX9_of_9 : decode cX9_of 9 = .ok (.ireturn, 1) := by decide +kernel
theorem dX9_of_10 : decode cX9_of 10 = .ok (.iload_n 2, 1) := by decide +kernel
theorem dX9_of_11 : decode cX9_of 11 = .ok (.tableswitch 113 0 5 #[37, 44, 51, 58, 99, 106], 37) := by decide +kernel
theorem dX9_of_48 : decode cX9_of 48 = .ok (.aload_n 0, 1) := by decide +kernel
theorem dX9_of_49 : decode cX9_of 49 = .ok (.getfield 125, 3) := by decide +kernel
theorem dX9_of_52 : decode cX9_of 52 = .ok (.iload_n 1, 1) := by decide +kernel
theorem dX9_of_53 : decode cX9_of 53 = .ok (.iaload, 1) := by decide +kernel
theorem dX9_of_54 : decode cX9_of 54 = .ok (.ireturn, 1) := by decide +kernel
theorem dX9_of_55 : decode cX9_of 55 = .ok (.aload_n 0, 1) := by decide +kernel
theorem dX9_of_56 : decode cX9_of 56 = .ok (.getfield 128, 3) := by decide +kernel
theorem dX9_of_59 : decode cX9_of 59 = .ok (.iload_n 1, 1) := by decide +kernel
theorem dX9_of_60 : decode cX9_of 60 = .ok (.iaload, 1) := by decide +kernel
theorem dX9_of_61 : decode cX9_of 61 = .ok (.ireturn, 1) := by decide +kernel
theorem dX9_of_62 : decode cX9_of 62 = .ok (.aload_n 0, 1) := by decide +kernel
theorem dX9_of_63 : decode cX9_of 63 = .ok (.getfield 131, 3) := by decide +kernel
theorem dX9_of_66 : decode cX9_of 66 = .ok (.iload_n 1, 1) := by decide +kernel
theorem dX9_of_67 : decode cX9_of 67 = .ok (.iaload, 1) := by decide +kernel
theorem dX9_of_68 : decode cX9_of 68 = .ok (.ireturn, 1) := by decide +kernel
theorem dX9_of_69 : decode cX9_of 69 = .ok (.aload_n 0, 1) := by decide +kernel
theorem dX9_of_70 : decode cX9_of 70 = .ok (.aload_n 0, 1) := by decide +kernel
theorem dX9_of_71 : decode cX9_of 71 = .ok (.getfield 89, 3) := by decide +kernel
theorem dX9_of_74 : decode cX9_of 74 = .ok (.aload_n 0, 1) := by decide +kernel
theorem dX9_of_75 : decode cX9_of 75 = .ok (.getfield 125, 3) := by decide +kernel
theorem dX9_of_78 : decode cX9_of 78 = .ok (.iload_n 1, 1) := by decide +kernel
theorem dX9_of_79 : decode cX9_of 79 = .ok (.iaload, 1) := by decide +kernel
theorem dX9_of_80 : decode cX9_of 80 = .ok (.iaload, 1) := by decide +kernel
theorem dX9_of_81 : decode cX9_of 81 = .ok (.aload_n 0, 1) := by decide +kernel
theorem dX9_of_82 : decode cX9_of 82 = .ok (.getfield 89, 3) := by decide +kernel
theorem dX9_of_85 : decode cX9_of 85 = .ok (.aload_n 0, 1) := by decide +kernel
theorem dX9_of_86 : decode cX9_of 86 = .ok (.getfield 128, 3) := by decide +kernel
theorem dX9_of_89 : decode cX9_of 89 = .ok (.iload_n 1, 1) := by decide +kernel
theorem dX9_of_90 : decode cX9_of 90 = .ok (.iaload, 1) := by decide +kernel
theorem dX9_of_91 : decode cX9_of 91 = .ok (.iaload, 1) := by decide +kernel
theorem dX9_of_92 : decode cX9_of 92 = .ok (.aload_n 0, 1) := by decide +kernel
theorem dX9_of_93 : decode cX9_of 93 = .ok (.getfield 131, 3) := by decide +kernel
theorem dX9_of_96 : decode cX9_of 96 = .ok (.iload_n 1, 1) := by decide +kernel
theorem dX9_of_97 : decode cX9_of 97 = .ok (.iaload, 1) := by decide +kernel
theorem dX9_of_98 : decode cX9_of 98 = .ok (.invokevirtual 396, 3) := by decide +kernel
theorem dX9_of_101 : decode cX9_of 101 = .ok (.ifCond .eq 7, 3) := by decide +kernel
theorem dX9_of_104 : decode cX9_of 104 = .ok (.iconst 1, 1) := by decide +kernel
theorem dX9_of_105 : decode cX9_of 105 = .ok (.goto 4, 3) := by decide +kernel
theorem dX9_of_108 : decode cX9_of 108 = .ok (.iconst 0, 1) := by decide +kernel
theorem dX9_of_109 : decode cX9_of 109 = .ok (.ireturn, 1) := by decide +kernel
theorem dX9_of_110 : decode cX9_of 110 = .ok (.aload_n 0, 1) := by decide +kernel
theorem dX9_of_111 : decode cX9_of 111 = .ok (.getfield 137, 3) := by decide +kernel
theorem dX9_of_114 : decode cX9_of 114 = .ok (.iload_n 1, 1) := by decide +kernel
theorem dX9_of_115 : decode cX9_of 115 = .ok (.iaload, 1) := by decide +kernel
theorem dX9_of_116 : decode cX9_of 116 = .ok (.ireturn, 1) := by decide +kernel
theorem dX9_of_117 : decode cX9_of 117 = .ok (.aload_n 0, 1) := by decide +kernel
theorem dX9_of_118 : decode cX9_of 118 = .ok (.getfield 140, 3) := by decide +kernel
theorem dX9_of_121 : decode cX9_of 121 = .ok (.iload_n 1, 1) := by decide +kernel
theorem dX9_of_122 : decode cX9_of 122 = .ok (.iaload, 1) := by decide +kernel
theorem dX9_of_123 : decode cX9_of 123 = .ok (.ireturn, 1) := by decide +kernel
theorem dX9_of_124 : decode cX9_of 124 = .ok (.iconst (-1), 1) := by decide +kernel
theorem dX9_of_125 : decode cX9_of 125 = .ok (.ireturn, 1) := by decide +kernel
theorem dX9_isOf_0 : decode cX9_isOf 0 = .ok (.iload_n 2, 1) := by decide +kernel
theorem dX9_isOf_1 : decode cX9_isOf 1 = .ok (.iload 4, 2) := by decide +kernel
theorem dX9_isOf_3 : decode cX9_isOf 3 = .ok (.if_icmp .eq 47, 3) := by decide +kernel
theorem dX9_isOf_6 : decode cX9_isOf 6 = .ok (.aload_n 0, 1) := by decide +kernel
theorem dX9_isOf_7 : decode cX9_isOf 7 = .ok (.getfield 89, 3) := by decide +kernel
theorem dX9_isOf_10 : decode cX9_isOf 10 = .ok (.iload_n 2, 1) := by decide +kernel
theorem dX9_isOf_11 : decode cX9_isOf 11 = .ok (.iaload, 1) := by decide +kernel
theorem dX9_isOf_12 : decode cX9_isOf 12 = .ok (.aload_n 0, 1) := by decide +kernel
theorem dX9_isOf_13 : decode cX9_isOf 13 = .ok (.getfield 89, 3) := by decide +kernel
theorem dX9_isOf_16 : decode cX9_isOf 16 = .ok (.iload_n 3, 1) := by decide +kernel
theorem dX9_isOf_17 : decode cX9_isOf 17 = .ok (.iaload, 1) := by decide +kernel
theorem dX9_isOf_18 : decode cX9_isOf 18 = .ok (.if_icmp .ne 32, 3) := by decide +kernel
theorem dX9_isOf_21 : decode cX9_isOf 21 = .ok (.aload_n 0, 1) := by decide +kernel
theorem dX9_isOf_22 : decode cX9_isOf 22 = .ok (.iload_n 2, 1) := by decide +kernel
theorem dX9_isOf_23 : decode cX9_isOf 23 = .ok (.aload_n 0, 1) := by decide +kernel
theorem dX9_isOf_24 : decode cX9_isOf 24 = .ok (.getfield 131, 3) := by decide +kernel
theorem dX9_isOf_27 : decode cX9_isOf 27 = .ok (.iload_n 1, 1) := by decide +kernel
theorem dX9_isOf_28 : decode cX9_isOf 28 = .ok (.iaload, 1) := by decide +kernel
theorem dX9_isOf_29 : decode cX9_isOf 29 = .ok (.invokevirtual 416, 3) := by decide +kernel
theorem dX9_isOf_32 : decode cX9_isOf 32 = .ok (.ifCond .ne 18, 3) := by decide +kernel
theorem dX9_isOf_35 : decode cX9_isOf 35 = .ok (.aload_n 0, 1) := by decide +kernel
theorem dX9_isOf_36 : decode cX9_isOf 36 = .ok (.iload_n 2, 1) := by decide +kernel
theorem dX9_isOf_37 : decode cX9_isOf 37 = .ok (.iload_n 3, 1) := by decide +kernel
theorem dX9_isOf_38 : decode cX9_isOf 38 = .ok (.invokevirtual 389, 3) := by decide +kernel
theorem dX9_isOf_41 : decode cX9_isOf 41 = .ok (.iload 5, 2) := by decide +kernel
theorem dX9_isOf_43 : decode cX9_isOf 43 = .ok (.if_icmp .ne 7, 3) := by decide +kernel
theorem dX9_isOf_46 : decode cX9_isOf 46 = .ok (.iconst 1, 1) := by decide +kernel
theorem dX9_isOf_47 : decode cX9_isOf 47 = .ok (.goto 4, 3) := by decide +kernel
theorem dX9_isOf_50 : decode cX9_isOf 50 = .ok (.iconst 0, 1) := by decide +kernel
theorem dX9_isOf_51 : decode cX9_isOf 51 = .ok (.ireturn, 1) := by decide +kernel
theorem dX9_part_0 : decode cX9_part 0 = .ok (.aload_n 0, 1) := by decide +kernel
theorem dX9_part_1 : decode cX9_part 1 = .ok (.iload_n 1, 1) := by decide +kernel
theorem dX9_part_2 : decode cX9_part 2 = .ok (.invokevirtual 386, 3) := by decide +kernel
theorem dX9_part_5 : decode cX9_part 5 = .ok (.istore 6, 2) := by decide +kernel
theorem dX9_part_7 : decode cX9_part 7 = .ok (.iconst 0, 1) := by decide +kernel
theorem dX9_part_8 : decode cX9_part 8 = .ok (.istore 7, 2) := by decide +kernel
theorem dX9_part_10 : decode cX9_part 10 = .ok (.iconst 0, 1) := by decide +kernel
theorem dX9_part_11 : decode cX9_part 11 = .ok (.istore 8, 2) := by decide +kernel
theorem dX9_part_13 : decode cX9_part 13 = .ok (.iload 8, 2) := by decide +kernel
theorem dX9_part_15 : decode cX9_part 15 = .ok (.iconst 4, 1) := by decide +kernel
theorem dX9_part_16 : decode cX9_part 16 = .ok (.if_icmp .ge 26, 3) := by decide +kernel
theorem dX9_part_19 : decode cX9_part 19 = .ok (.iload 7, 2) := by decide +kernel
theorem dX9_part_21 : decode cX9_part 21 = .ok (.aload_n 0, 1) := by decide +kernel
theorem dX9_part_22 : decode cX9_part 22 = .ok (.getfield 51, 3) := by decide +kernel
theorem dX9_part_25 : decode cX9_part 25 = .ok (.iconst 4, 1) := by decide +kernel
theorem dX9_part_26 : decode cX9_part 26 = .ok (.iload 6, 2) := by decide +kernel
theorem dX9_part_28 : decode cX9_part 28 = .ok (.imul, 1) := by decide +kernel
theorem dX9_part_29 : decode cX9_part 29 = .ok (.iload 8, 2) := by decide +kernel
theorem dX9_part_31 : decode cX9_part 31 = .ok (.iadd, 1) := by decide +kernel
theorem dX9_part_32 : decode cX9_part 32 = .ok (.iaload, 1) := by decide +kernel
theorem dX9_part_33 : decode cX9_part 33 = .ok (.iadd, 1) := by decide +kernel
theorem dX9_part_34 : decode cX9_part 34 = .ok (.istore 7, 2) := by decide +kernel
theorem dX9_part_36 : decode cX9_part 36 = .ok (.iinc 8 1, 3) := by decide +kernel
theorem dX9_part_39 : decode cX9_part 39 = .ok (.goto (-26), 3) := by decide +kernel
theorem dX9_part_42 : decode cX9_part 42 = .ok (.iload 5, 2) := by decide +kernel
theorem dX9_part_44 : decode cX9_part 44 = .ok (.istore 8, 2) := by decide +kernel
theorem dX9_part_46 : decode cX9_part 46 = .ok (.iconst 0, 1) := by decide +kernel
theorem dX9_part_47 : decode cX9_part 47 = .ok (.istore 9, 2) := by decide +kernel
theorem dX9_part_49 : decode cX9_part 49 = .ok (.iconst 1, 1) := by decide +kernel
theorem dX9_part_50 : decode cX9_part 50 = .ok (.istore 10, 2) := by decide +kernel
theorem dX9_part_52 : decode cX9_part 52 = .ok (.iload 10, 2) := by decide +kernel
theorem dX9_part_54 : decode cX9_part 54 = .ok (.iconst 4, 1) := by decide +kernel
theorem dX9_part_55 : decode cX9_part 55 = .ok (.if_icmp .ge 118, 3) := by decide +kernel
theorem dX9_part_58 : decode cX9_part 58 = .ok (.iconst 0, 1) := by decide +kernel
theorem dX9_part_59 : decode cX9_part 59 = .ok (.istore 11, 2) := by decide +kernel
theorem dX9_part_61 : decode cX9_part 61 = .ok (.iconst 0, 1) := by decide +kernel
theorem dX9_part_62 : decode cX9_part 62 = .ok (.istore 12, 2) := by decide +kernel
theorem dX9_part_64 : decode cX9_part 64 = .ok (.iload 12, 2) := by decide +kernel
theorem dX9_part_66 : decode cX9_part 66 = .ok (.aload_n 0, 1) := by decide +kernel
theorem dX9_part_67 : decode cX9_part 67 = .ok (.getfield 353, 3) := by decide +kernel
theorem dX9_part_70 : decode cX9_part 70 = .ok (.if_icmp .ge 34, 3) := by decide +kernel
theorem dX9_part_73 : decode cX9_part 73 = .ok (.iload 11, 2) := by decide +kernel
theorem dX9_part_75 : decode cX9_part 75 = .ok (.aload_n 0, 1) := by decide +kernel
theorem dX9_part_76 : decode cX9_part 76 = .ok (.iload_n 1, 1) := by decide +kernel
theorem dX9_part_77 : decode cX9_part 77 = .ok (.iload 12, 2) := by decide +kernel
theorem dX9_part_79 : decode cX9_part 79 = .ok (.iload_n 3, 1) := by decide +kernel
theorem dX9_part_80 : decode cX9_part 80 = .ok (.iload 4, 2) := by decide +kernel
theorem dX9_part_82 : decode cX9_part 82 = .ok (.iload 10, 2) := by decide +kernel
theorem dX9_part_84 : decode cX9_part 84 = .ok (.invokevirtual 420, 3) := by decide +kernel
theorem dX9_part_87 : decode cX9_part 87 = .ok (.ifCond .eq 7, 3) := by decide +kernel
theorem dX9_part_90 : decode cX9_part 90 = .ok (.iconst 1, 1) := by decide +kernel
theorem dX9_part_91 : decode cX9_part 91 = .ok (.goto 4, 3) := by decide +kernel
theorem dX9_part_94 : decode cX9_part 94 = .ok (.iconst 0, 1) := by decide +kernel
theorem dX9_part_95 : decode cX9_part 95 = .ok (.iadd, 1) := by decide +kernel
theorem dX9_part_96 : decode cX9_part 96 = .ok (.istore 11, 2) := by decide +kernel
theorem dX9_part_98 : decode cX9_part 98 = .ok (.iinc 12 1, 3) := by decide +kernel
theorem dX9_part_101 : decode cX9_part 101 = .ok (.goto (-37), 3) := by decide +kernel
theorem dX9_part_104 : decode cX9_part 104 = .ok (.iload 11, 2) := by decide +kernel
theorem dX9_part_106 : decode cX9_part 106 = .ok (.ifCond .ne 6, 3) := by decide +kernel
theorem dX9_part_109 : decode cX9_part 109 = .ok (.goto 58, 3) := by decide +kernel
theorem dX9_part_112 : decode cX9_part 112 = .ok (.iload 5, 2) := by decide +kernel
theorem dX9_part_114 : decode cX9_part 114 = .ok (.i2l, 1) := by decide +kernel
theorem dX9_part_115 : decode cX9_part 115 = .ok (.aload_n 0, 1) := by decide +kernel
theorem dX9_part_116 : decode cX9_part 116 = .ok (.getfield 51, 3) := by decide +kernel
theorem dX9_part_119 : decode cX9_part 119 = .ok (.iconst 4, 1) := by decide +kernel
theorem dX9_part_120 : decode cX9_part 120 = .ok (.iload 6, 2) := by decide +kernel
theorem dX9_part_122 : decode cX9_part 122 = .ok (.imul, 1) := by decide +kernel
theorem dX9_part_123 : decode cX9_part 123 = .ok (.iload 10, 2) := by decide +kernel
theorem dX9_part_125 : decode cX9_part 125 = .ok (.iadd, 1) := by decide +kernel
theorem dX9_part_126 : decode cX9_part 126 = .ok (.iaload, 1) := by decide +kernel
theorem dX9_part_127 : decode cX9_part 127 = .ok (.i2l, 1) := by decide +kernel
theorem dX9_part_128 : decode cX9_part 128 = .ok (.lmul, 1) := by decide +kernel
theorem dX9_part_129 : decode cX9_part 129 = .ok (.iload 7, 2) := by decide +kernel
theorem dX9_part_131 : decode cX9_part 131 = .ok (.i2l, 1) := by decide +kernel
theorem dX9_part_132 : decode cX9_part 132 = .ok (.ldiv, 1) := by decide +kernel
theorem dX9_part_133 : decode cX9_part 133 = .ok (.l2i, 1) := by decide +kernel
theorem dX9_part_134 : decode cX9_part 134 = .ok (.iload 11, 2) := by decide +kernel
theorem dX9_part_136 : decode cX9_part 136 = .ok (.idiv, 1) := by decide +kernel
theorem dX9_part_137 : decode cX9_part 137 = .ok (.istore 12, 2) := by decide +kernel
theorem dX9_part_139 : decode cX9_part 139 = .ok (.iload 8, 2) := by decide +kernel
theorem dX9_part_141 : decode cX9_part 141 = .ok (.iload 12, 2) := by decide +kernel
theorem dX9_part_143 : decode cX9_part 143 = .ok (.iload 11, 2) := by decide +kernel
theorem dX9_part_145 : decode cX9_part 145 = .ok (.imul, 1) := by decide +kernel
theorem dX9_part_146 : decode cX9_part 146 = .ok (.isub, 1) := by decide +kernel
theorem dX9_part_147 : decode cX9_part 147 = .ok (.istore 8, 2) := by decide +kernel
theorem dX9_part_149 : decode cX9_part 149 = .ok (.aload_n 0, 1) := by decide +kernel
theorem dX9_part_150 : decode cX9_part 150 = .ok (.iload_n 1, 1) := by decide +kernel
theorem dX9_part_151 : decode cX9_part 151 = .ok (.iload_n 2, 1) := by decide +kernel
theorem dX9_part_152 : decode cX9_part 152 = .ok (.iload_n 3, 1) := by decide +kernel
theorem dX9_part_153 : decode cX9_part 153 = .ok (.iload 4, 2) := by decide +kernel
theorem dX9_part_155 : decode cX9_part 155 = .ok (.iload 10, 2) := by decide +kernel
theorem dX9_part_157 : decode cX9_part 157 = .ok (.invokevirtual 420, 3) := by decide +kernel
theorem dX9_part_160 : decode cX9_part 160 = .ok (.ifCond .eq 7, 3) := by decide +kernel
theorem dX9_part_163 : decode cX9_part 163 = .ok (.iload 12, 2) := by decide +kernel
theorem dX9_part_165 : decode cX9_part 165 = .ok (.istore 9, 2) := by decide +kernel
theorem dX9_part_167 : decode cX9_part 167 = .ok (.iinc 10 1, 3) := by decide +kernel
theorem dX9_part_170 : decode cX9_part 170 = .ok (.goto (-118), 3) := by decide +kernel
theorem dX9_part_173 : decode cX9_part 173 = .ok (.iload_n 2, 1) := by decide +kernel
theorem dX9_part_174 : decode cX9_part 174 = .ok (.iload_n 3, 1) := by decide +kernel
theorem dX9_part_175 : decode cX9_part 175 = .ok (.if_icmp .ne 8, 3) := by decide +kernel
theorem dX9_part_178 : decode cX9_part 178 = .ok (.iload 8, 2) := by decide +kernel
theorem dX9_part_180 : decode cX9_part 180 = .ok (.goto 5, 3) := by decide +kernel
theorem dX9_part_183 : decode cX9_part 183 = .ok (.iload 9, 2) := by decide +kernel
theorem dX9_part_185 : decode cX9_part 185 = .ok (.ireturn, 1) := by decide +kernel
theorem dX9_pays_0 : decode cX9_pays 0 = .ok (.aload_n 0, 1) := by decide +kernel
theorem dX9_pays_1 : decode cX9_pays 1 = .ok (.iload_n 1, 1) := by decide +kernel
theorem dX9_pays_2 : decode cX9_pays 2 = .ok (.invokevirtual 410, 3) := by decide +kernel
theorem dX9_pays_5 : decode cX9_pays 5 = .ok (.ifCond .eq 11, 3) := by decide +kernel
theorem dX9_pays_8 : decode cX9_pays 8 = .ok (.aload_n 0, 1) := by decide +kernel
theorem dX9_pays_9 : decode cX9_pays 9 = .ok (.iload_n 2, 1) := by decide +kernel
theorem dX9_pays_10 : decode cX9_pays 10 = .ok (.invokevirtual 356, 3) := by decide +kernel
theorem dX9_pays_13 : decode cX9_pays 13 = .ok (.ifCond .ne 5, 3) := by decide +kernel
theorem dX9_pays_16 : decode cX9_pays 16 = .ok (.iconst (-1), 1) := by decide +kernel
theorem dX9_pays_17 : decode cX9_pays 17 = .ok (.ireturn, 1) := by decide +kernel
theorem dX9_pays_18 : decode cX9_pays 18 = .ok (.aload_n 0, 1) := by decide +kernel
theorem dX9_pays_19 : decode cX9_pays 19 = .ok (.iload_n 1, 1) := by decide +kernel
theorem dX9_pays_20 : decode cX9_pays 20 = .ok (.iload_n 3, 1) := by decide +kernel
theorem dX9_pays_21 : decode cX9_pays 21 = .ok (.invokevirtual 413, 3) := by decide +kernel
theorem dX9_pays_24 : decode cX9_pays 24 = .ok (.istore 4, 2) := by decide +kernel
theorem dX9_pays_26 : decode cX9_pays 26 = .ok (.iload 4, 2) := by decide +kernel
theorem dX9_pays_28 : decode cX9_pays 28 = .ok (.ifCond .ge 7, 3) := by decide +kernel
theorem dX9_pays_31 : decode cX9_pays 31 = .ok (.iconst (-1), 1) := by decide +kernel
theorem dX9_pays_32 : decode cX9_pays 32 = .ok (.goto 23, 3) := by decide +kernel
theorem dX9_pays_35 : decode cX9_pays 35 = .ok (.aload_n 0, 1) := by decide +kernel
theorem dX9_pays_36 : decode cX9_pays 36 = .ok (.iload_n 1, 1) := by decide +kernel
theorem dX9_pays_37 : decode cX9_pays 37 = .ok (.iload_n 2, 1) := by decide +kernel
theorem dX9_pays_38 : decode cX9_pays 38 = .ok (.aload_n 0, 1) := by decide +kernel
theorem dX9_pays_39 : decode cX9_pays 39 = .ok (.getfield 125, 3) := by decide +kernel
theorem dX9_pays_42 : decode cX9_pays 42 = .ok (.iload_n 1, 1) := by decide +kernel
theorem dX9_pays_43 : decode cX9_pays 43 = .ok (.iaload, 1) := by decide +kernel
theorem dX9_pays_44 : decode cX9_pays 44 = .ok (.aload_n 0, 1) := by decide +kernel
theorem dX9_pays_45 : decode cX9_pays 45 = .ok (.getfield 128, 3) := by decide +kernel
theorem dX9_pays_48 : decode cX9_pays 48 = .ok (.iload_n 1, 1) := by decide +kernel
theorem dX9_pays_49 : decode cX9_pays 49 = .ok (.iaload, 1) := by decide +kernel
theorem dX9_pays_50 : decode cX9_pays 50 = .ok (.iload 4, 2) := by decide +kernel
theorem dX9_pays_52 : decode cX9_pays 52 = .ok (.invokevirtual 424, 3) := by decide +kernel
theorem dX9_pays_55 : decode cX9_pays 55 = .ok (.ireturn, 1) := by decide +kernel
theorem dX9_has_0 : decode cX9_has 0 = .ok (.aload_n 0, 1) := by decide +kernel
theorem dX9_has_1 : decode cX9_has 1 = .ok (.iload_n 1, 1) := by decide +kernel
theorem dX9_has_2 : decode cX9_has 2 = .ok (.invokevirtual 410, 3) := by decide +kernel
theorem dX9_has_5 : decode cX9_has 5 = .ok (.ifCond .eq 11, 3) := by decide +kernel
theorem dX9_has_8 : decode cX9_has 8 = .ok (.aload_n 0, 1) := by decide +kernel
theorem dX9_has_9 : decode cX9_has 9 = .ok (.iload_n 2, 1) := by decide +kernel
theorem dX9_has_10 : decode cX9_has 10 = .ok (.invokevirtual 356, 3) := by decide +kernel
theorem dX9_has_13 : decode cX9_has 13 = .ok (.ifCond .ne 5, 3) := by decide +kernel
theorem dX9_has_16 : decode cX9_has 16 = .ok (.iconst (-1), 1) := by decide +kernel
theorem dX9_has_17 : decode cX9_has 17 = .ok (.ireturn, 1) := by decide +kernel
theorem dX9_has_18 : decode cX9_has 18 = .ok (.aload_n 0, 1) := by decide +kernel
theorem dX9_has_19 : decode cX9_has 19 = .ok (.iload_n 1, 1) := by decide +kernel
theorem dX9_has_20 : decode cX9_has 20 = .ok (.iload_n 3, 1) := by decide +kernel
theorem dX9_has_21 : decode cX9_has 21 = .ok (.invokevirtual 413, 3) := by decide +kernel
theorem dX9_has_24 : decode cX9_has 24 = .ok (.istore 4, 2) := by decide +kernel
theorem dX9_has_26 : decode cX9_has 26 = .ok (.iload 4, 2) := by decide +kernel
theorem dX9_has_28 : decode cX9_has 28 = .ok (.ifCond .ge 7, 3) := by decide +kernel
theorem dX9_has_31 : decode cX9_has 31 = .ok (.iconst (-1), 1) := by decide +kernel
theorem dX9_has_32 : decode cX9_has 32 = .ok (.goto 23, 3) := by decide +kernel
theorem dX9_has_35 : decode cX9_has 35 = .ok (.aload_n 0, 1) := by decide +kernel
theorem dX9_has_36 : decode cX9_has 36 = .ok (.iload_n 1, 1) := by decide +kernel
theorem dX9_has_37 : decode cX9_has 37 = .ok (.iload_n 2, 1) := by decide +kernel
theorem dX9_has_38 : decode cX9_has 38 = .ok (.aload_n 0, 1) := by decide +kernel
theorem dX9_has_39 : decode cX9_has 39 = .ok (.getfield 128, 3) := by decide +kernel
theorem dX9_has_42 : decode cX9_has 42 = .ok (.iload_n 1, 1) := by decide +kernel
theorem dX9_has_43 : decode cX9_has 43 = .ok (.iaload, 1) := by decide +kernel
theorem dX9_has_44 : decode cX9_has 44 = .ok (.aload_n 0, 1) := by decide +kernel
theorem dX9_has_45 : decode cX9_has 45 = .ok (.getfield 125, 3) := by decide +kernel
theorem dX9_has_48 : decode cX9_has 48 = .ok (.iload_n 1, 1) := by decide +kernel
theorem dX9_has_49 : decode cX9_has 49 = .ok (.iaload, 1) := by decide +kernel
theorem dX9_has_50 : decode cX9_has 50 = .ok (.iload 4, 2) := by decide +kernel
theorem dX9_has_52 : decode cX9_has 52 = .ok (.invokevirtual 424, 3) := by decide +kernel
theorem dX9_has_55 : decode cX9_has 55 = .ok (.ireturn, 1) := by decide +kernel
theorem dX9_judge_0 : decode cX9_judge 0 = .ok (.aload_n 0, 1) := by decide +kernel
theorem dX9_judge_1 : decode cX9_judge 1 = .ok (.iload_n 1, 1) := by decide +kernel
theorem dX9_judge_2 : decode cX9_judge 2 = .ok (.invokevirtual 410, 3) := by decide +kernel
theorem dX9_judge_5 : decode cX9_judge 5 = .ok (.ifCond .eq 12, 3) := by decide +kernel
theorem dX9_judge_8 : decode cX9_judge 8 = .ok (.aload_n 0, 1) := by decide +kernel
theorem dX9_judge_9 : decode cX9_judge 9 = .ok (.getfield 140, 3) := by decide +kernel
theorem dX9_judge_12 : decode cX9_judge 12 = .ok (.iload_n 1, 1) := by decide +kernel
theorem dX9_judge_13 : decode cX9_judge 13 = .ok (.iaload, 1) := by decide +kernel
theorem dX9_judge_14 : decode cX9_judge 14 = .ok (.ifCond .lt 5, 3) := by decide +kernel
theorem dX9_judge_17 : decode cX9_judge 17 = .ok (.iconst (-1), 1) := by decide +kernel
theorem dX9_judge_18 : decode cX9_judge 18 = .ok (.ireturn, 1) := by decide +kernel
theorem dX9_judge_19 : decode cX9_judge 19 = .ok (.aload_n 0, 1) := by decide +kernel
theorem dX9_judge_20 : decode cX9_judge 20 = .ok (.iload_n 1, 1) := by decide +kernel
theorem dX9_judge_21 : decode cX9_judge 21 = .ok (.aload_n 0, 1) := by decide +kernel
theorem dX9_judge_22 : decode cX9_judge 22 = .ok (.getfield 365, 3) := by decide +kernel
theorem dX9_judge_25 : decode cX9_judge 25 = .ok (.invokevirtual 413, 3) := by decide +kernel
theorem dX9_judge_28 : decode cX9_judge 28 = .ok (.istore_n 2, 1) := by decide +kernel
theorem dX9_judge_29 : decode cX9_judge 29 = .ok (.iload_n 2, 1) := by decide +kernel
theorem dX9_judge_30 : decode cX9_judge 30 = .ok (.ifCond .ge 5, 3) := by decide +kernel
theorem dX9_judge_33 : decode cX9_judge 33 = .ok (.iconst (-1), 1) := by decide +kernel
theorem dX9_judge_34 : decode cX9_judge 34 = .ok (.ireturn, 1) := by decide +kernel
theorem dX9_judge_35 : decode cX9_judge 35 = .ok (.aload_n 0, 1) := by decide +kernel
theorem dX9_judge_36 : decode cX9_judge 36 = .ok (.getfield 140, 3) := by decide +kernel
theorem dX9_judge_39 : decode cX9_judge 39 = .ok (.iload_n 1, 1) := by decide +kernel
theorem dX9_judge_40 : decode cX9_judge 40 = .ok (.aload_n 0, 1) := by decide +kernel
theorem dX9_judge_41 : decode cX9_judge 41 = .ok (.getfield 365, 3) := by decide +kernel
theorem dX9_judge_44 : decode cX9_judge 44 = .ok (.iastore, 1) := by decide +kernel
theorem dX9_judge_45 : decode cX9_judge 45 = .ok (.aload_n 0, 1) := by decide +kernel
theorem dX9_judge_46 : decode cX9_judge 46 = .ok (.getfield 143, 3) := by decide +kernel
theorem dX9_judge_49 : decode cX9_judge 49 = .ok (.iload_n 1, 1) := by decide +kernel
theorem dX9_judge_50 : decode cX9_judge 50 = .ok (.iload_n 2, 1) := by decide +kernel
theorem dX9_judge_51 : decode cX9_judge 51 = .ok (.iastore, 1) := by decide +kernel
theorem dX9_judge_52 : decode cX9_judge 52 = .ok (.aload_n 0, 1) := by decide +kernel
theorem dX9_judge_53 : decode cX9_judge 53 = .ok (.getfield 146, 3) := by decide +kernel
theorem dX9_judge_56 : decode cX9_judge 56 = .ok (.iload_n 1, 1) := by decide +kernel
theorem dX9_judge_57 : decode cX9_judge 57 = .ok (.aload_n 0, 1) := by decide +kernel
theorem dX9_judge_58 : decode cX9_judge 58 = .ok (.getfield 60, 3) := by decide +kernel
theorem dX9_judge_61 : decode cX9_judge 61 = .ok (.aload_n 0, 1) := by decide +kernel
theorem dX9_judge_62 : decode cX9_judge 62 = .ok (.iload_n 1, 1) := by decide +kernel
theorem dX9_judge_63 : decode cX9_judge 63 = .ok (.invokevirtual 386, 3) := by decide +kernel
theorem dX9_judge_66 : decode cX9_judge 66 = .ok (.iaload, 1) := by decide +kernel
theorem dX9_judge_67 : decode cX9_judge 67 = .ok (.iastore, 1) := by decide +kernel
theorem dX9_judge_68 : decode cX9_judge 68 = .ok (.aload_n 0, 1) := by decide +kernel
theorem dX9_judge_69 : decode cX9_judge 69 = .ok (.getfield 149, 3) := by decide +kernel
theorem dX9_judge_72 : decode cX9_judge 72 = .ok (.iload_n 1, 1) := by decide +kernel
theorem dX9_judge_73 : decode cX9_judge 73 = .ok (.aload_n 0, 1) := by decide +kernel
theorem dX9_judge_74 : decode cX9_judge 74 = .ok (.getfield 63, 3) := by decide +kernel
theorem dX9_judge_77 : decode cX9_judge 77 = .ok (.aload_n 0, 1) := by decide +kernel
theorem dX9_judge_78 : decode cX9_judge 78 = .ok (.iload_n 1, 1) := by decide +kernel
theorem dX9_judge_79 : decode cX9_judge 79 = .ok (.invokevirtual 386, 3) := by decide +kernel
theorem dX9_judge_82 : decode cX9_judge 82 = .ok (.iaload, 1) := by decide +kernel
theorem dX9_judge_83 : decode cX9_judge 83 = .ok (.iastore, 1) := by decide +kernel
theorem dX9_judge_84 : decode cX9_judge 84 = .ok (.iload_n 2, 1) := by decide +kernel
theorem dX9_judge_85 : decode cX9_judge 85 = .ok (.ireturn, 1) := by decide +kernel
theorem dX9_rate_0 : decode cX9_rate 0 = .ok (.iload_n 1, 1) := by decide +kernel
theorem dX9_rate_1 : decode cX9_rate 1 = .ok (.ifCond .lt 28, 3) := by decide +kernel
theorem dX9_rate_4 : decode cX9_rate 4 = .ok (.iload_n 1, 1) := by decide +kernel
theorem dX9_rate_5 : decode cX9_rate 5 = .ok (.iconst 3, 1) := by decide +kernel
theorem dX9_rate_6 : decode cX9_rate 6 = .ok (.if_icmp .gt 23, 3) := by decide +kernel
theorem dX9_rate_9 : decode cX9_rate 9 = .ok (.iload_n 2, 1) := by decide +kernel
theorem dX9_rate_10 : decode cX9_rate 10 = .ok (.ifCond .lt 19, 3) := by decide +kernel
theorem dX9_rate_13 : decode cX9_rate 13 = .ok (.iload_n 2, 1) := by decide +kernel
theorem dX9_rate_14 : decode cX9_rate 14 = .ok (.sipush 1000, 3) := by decide +kernel
theorem dX9_rate_17 : decode cX9_rate 17 = .ok (.if_icmp .gt 12, 3) := by decide +kernel
theorem dX9_rate_20 : decode cX9_rate 20 = .ok (.aload_n 0, 1) := by decide +kernel
theorem dX9_rate_21 : decode cX9_rate 21 = .ok (.getfield 428, 3) := by decide +kernel
theorem dX9_rate_24 : decode cX9_rate 24 = .ok (.bipush 100, 2) := by decide +kernel
theorem dX9_rate_26 : decode cX9_rate 26 = .ok (.if_icmp .ne 5, 3) := by decide +kernel
theorem dX9_rate_29 : decode cX9_rate 29 = .ok (.iconst 0, 1) := by decide +kernel
theorem dX9_rate_30 : decode cX9_rate 30 = .ok (.ireturn, 1) := by decide +kernel
theorem dX9_rate_31 : decode cX9_rate 31 = .ok (.aload_n 0, 1) := by decide +kernel
theorem dX9_rate_32 : decode cX9_rate 32 = .ok (.getfield 164, 3) := by decide +kernel
theorem dX9_rate_35 : decode cX9_rate 35 = .ok (.iload_n 1, 1) := by decide +kernel
theorem dX9_rate_36 : decode cX9_rate 36 = .ok (.iload_n 2, 1) := by decide +kernel
theorem dX9_rate_37 : decode cX9_rate 37 = .ok (.iastore, 1) := by decide +kernel
theorem dX9_rate_38 : decode cX9_rate 38 = .ok (.aload_n 0, 1) := by decide +kernel
theorem dX9_rate_39 : decode cX9_rate 39 = .ok (.dup, 1) := by decide +kernel
theorem dX9_rate_40 : decode cX9_rate 40 = .ok (.getfield 428, 3) := by decide +kernel
theorem dX9_rate_43 : decode cX9_rate 43 = .ok (.iconst 1, 1) := by decide +kernel
theorem dX9_rate_44 : decode cX9_rate 44 = .ok (.iadd, 1) := by decide +kernel
theorem dX9_rate_45 : decode cX9_rate 45 = .ok (.putfield 428, 3) := by decide +kernel
theorem dX9_rate_48 : decode cX9_rate 48 = .ok (.iconst 1, 1) := by decide +kernel
theorem dX9_rate_49 : decode cX9_rate 49 = .ok (.ireturn, 1) := by decide +kernel
theorem dX9_pay_0 : decode cX9_pay 0 = .ok (.aload_n 0, 1) := by decide +kernel
theorem dX9_pay_1 : decode cX9_pay 1 = .ok (.iload_n 1, 1) := by decide +kernel
theorem dX9_pay_2 : decode cX9_pay 2 = .ok (.invokevirtual 410, 3) := by decide +kernel
theorem dX9_pay_5 : decode cX9_pay 5 = .ok (.ifCond .eq 42, 3) := by decide +kernel
theorem dX9_pay_8 : decode cX9_pay 8 = .ok (.aload_n 0, 1) := by decide +kernel
theorem dX9_pay_9 : decode cX9_pay 9 = .ok (.getfield 140, 3) := by decide +kernel
theorem dX9_pay_12 : decode cX9_pay 12 = .ok (.iload_n 1, 1) := by decide +kernel
theorem dX9_pay_13 : decode cX9_pay 13 = .ok (.iaload, 1) := by decide +kernel
theorem dX9_pay_14 : decode cX9_pay 14 = .ok (.ifCond .lt 33, 3) := by decide +kernel
theorem dX9_pay_17 : decode cX9_pay 17 = .ok (.iload_n 2, 1) := by decide +kernel
theorem dX9_pay_18 : decode cX9_pay 18 = .ok (.ifCond .lt 29, 3) := by decide +kernel
theorem dX9_pay_21 : decode cX9_pay 21 = .ok (.iload_n 2, 1) := by decide +kernel
theorem dX9_pay_22 : decode cX9_pay 22 = .ok (.iconst 3, 1) := by decide +kernel
theorem dX9_pay_23 : decode cX9_pay 23 = .ok (.if_icmp .gt 24, 3) := by decide +kernel
theorem dX9_pay_26 : decode cX9_pay 26 = .ok (.iload_n 3, 1) := by decide +kernel
theorem dX9_pay_27 : decode cX9_pay 27 = .ok (.iconst 1, 1) := by decide +kernel
theorem dX9_pay_28 : decode cX9_pay 28 = .ok (.if_icmp .lt 19, 3) := by decide +kernel
theorem dX9_pay_31 : decode cX9_pay 31 = .ok (.iload_n 3, 1) := by decide +kernel
theorem dX9_pay_32 : decode cX9_pay 32 = .ok (.sipush 1000, 3) := by decide +kernel
theorem dX9_pay_35 : decode cX9_pay 35 = .ok (.if_icmp .gt 12, 3) := by decide +kernel
theorem dX9_pay_38 : decode cX9_pay 38 = .ok (.aload_n 0, 1) := by decide +kernel
theorem dX9_pay_39 : decode cX9_pay 39 = .ok (.getfield 431, 3) := by decide +kernel
theorem dX9_pay_42 : decode cX9_pay 42 = .ok (.bipush 60, 2) := by decide +kernel
theorem dX9_pay_44 : decode cX9_pay 44 = .ok (.if_icmp .ne 5, 3) := by decide +kernel
theorem dX9_pay_47 : decode cX9_pay 47 = .ok (.iconst (-1), 1) := by decide +kernel
theorem dX9_pay_48 : decode cX9_pay 48 = .ok (.ireturn, 1) := by decide +kernel
theorem dX9_pay_49 : decode cX9_pay 49 = .ok (.aload_n 0, 1) := by decide +kernel
theorem dX9_pay_50 : decode cX9_pay 50 = .ok (.getfield 167, 3) := by decide +kernel
theorem dX9_pay_53 : decode cX9_pay 53 = .ok (.aload_n 0, 1) := by decide +kernel
theorem dX9_pay_54 : decode cX9_pay 54 = .ok (.getfield 431, 3) := by decide +kernel
theorem dX9_pay_57 : decode cX9_pay 57 = .ok (.iload_n 1, 1) := by decide +kernel
theorem dX9_pay_58 : decode cX9_pay 58 = .ok (.iastore, 1) := by decide +kernel
theorem dX9_pay_59 : decode cX9_pay 59 = .ok (.aload_n 0, 1) := by decide +kernel
theorem dX9_pay_60 : decode cX9_pay 60 = .ok (.getfield 170, 3) := by decide +kernel
theorem dX9_pay_63 : decode cX9_pay 63 = .ok (.aload_n 0, 1) := by decide +kernel
theorem dX9_pay_64 : decode cX9_pay 64 = .ok (.getfield 431, 3) := by decide +kernel
theorem dX9_pay_67 : decode cX9_pay 67 = .ok (.aload_n 0, 1) := by decide +kernel
theorem dX9_pay_68 : decode cX9_pay 68 = .ok (.getfield 365, 3) := by decide +kernel
theorem dX9_pay_71 : decode cX9_pay 71 = .ok (.iastore, 1) := by decide +kernel
theorem dX9_pay_72 : decode cX9_pay 72 = .ok (.aload_n 0, 1) := by decide +kernel
theorem dX9_pay_73 : decode cX9_pay 73 = .ok (.getfield 173, 3) := by decide +kernel
theorem dX9_pay_76 : decode cX9_pay 76 = .ok (.aload_n 0, 1) := by decide +kernel
theorem dX9_pay_77 : decode cX9_pay 77 = .ok (.getfield 431, 3) := by decide +kernel
theorem dX9_pay_80 : decode cX9_pay 80 = .ok (.iload_n 3, 1) := by decide +kernel
theorem dX9_pay_81 : decode cX9_pay 81 = .ok (.aload_n 0, 1) := by decide +kernel
theorem dX9_pay_82 : decode cX9_pay 82 = .ok (.getfield 164, 3) := by decide +kernel
theorem dX9_pay_85 : decode cX9_pay 85 = .ok (.iload_n 2, 1) := by decide +kernel
theorem dX9_pay_86 : decode cX9_pay 86 = .ok (.iaload, 1) := by decide +kernel
theorem dX9_pay_87 : decode cX9_pay 87 = .ok (.imul, 1) := by decide +kernel
theorem dX9_pay_88 : decode cX9_pay 88 = .ok (.iastore, 1) := by decide +kernel
theorem dX9_pay_89 : decode cX9_pay 89 = .ok (.aload_n 0, 1) := by decide +kernel
theorem dX9_pay_90 : decode cX9_pay 90 = .ok (.dup, 1) := by decide +kernel
theorem dX9_pay_91 : decode cX9_pay 91 = .ok (.getfield 431, 3) := by decide +kernel
theorem dX9_pay_94 : decode cX9_pay 94 = .ok (.iconst 1, 1) := by decide +kernel
theorem dX9_pay_95 : decode cX9_pay 95 = .ok (.iadd, 1) := by decide +kernel
theorem dX9_pay_96 : decode cX9_pay 96 = .ok (.putfield 431, 3) := by decide +kernel
theorem dX9_pay_99 : decode cX9_pay 99 = .ok (.aload_n 0, 1) := by decide +kernel
theorem dX9_pay_100 : decode cX9_pay 100 = .ok (.getfield 173, 3) := by decide +kernel
theorem dX9_pay_103 : decode cX9_pay 103 = .ok (.aload_n 0, 1) := by decide +kernel
theorem dX9_pay_104 : decode cX9_pay 104 = .ok (.getfield 431, 3) := by decide +kernel
theorem dX9_pay_107 : decode cX9_pay 107 = .ok (.iconst 1, 1) := by decide +kernel
theorem dX9_pay_108 : decode cX9_pay 108 = .ok (.isub, 1) := by decide +kernel
theorem dX9_pay_109 : decode cX9_pay 109 = .ok (.iaload, 1) := by decide +kernel
theorem dX9_pay_110 : decode cX9_pay 110 = .ok (.ireturn, 1) := by decide +kernel
theorem dX9_paidBy_0 : decode cX9_paidBy 0 = .ok (.iconst 0, 1) := by decide +kernel
theorem dX9_paidBy_1 : decode cX9_paidBy 1 = .ok (.istore_n 3, 1) := by decide +kernel
theorem dX9_paidBy_2 : decode cX9_paidBy 2 = .ok (.iconst 0, 1) := by decide +kernel
theorem dX9_paidBy_3 : decode cX9_paidBy 3 = .ok (.istore 4, 2) := by decide +kernel
theorem dX9_paidBy_5 : decode cX9_paidBy 5 = .ok (.iload 4, 2) := by decide +kernel
theorem dX9_paidBy_7 : decode cX9_paidBy 7 = .ok (.aload_n 0, 1) := by decide +kernel
theorem dX9_paidBy_8 : decode cX9_paidBy 8 = .ok (.getfield 431, 3) := by decide +kernel
theorem dX9_paidBy_11 : decode cX9_paidBy 11 = .ok (.if_icmp .ge 41, 3) := by decide +kernel
theorem dX9_paidBy_14 : decode cX9_paidBy 14 = .ok (.aload_n 0, 1) := by decide +kernel
theorem dX9_paidBy_15 : decode cX9_paidBy 15 = .ok (.getfield 167, 3) := by decide +kernel
theorem dX9_paidBy_18 : decode cX9_paidBy 18 = .ok (.iload 4, 2) := by decide +kernel
theorem dX9_paidBy_20 : decode cX9_paidBy 20 = .ok (.iaload, 1) := by decide +kernel
theorem dX9_paidBy_21 : decode cX9_paidBy 21 = .ok (.iload_n 1, 1) := by decide +kernel
theorem dX9_paidBy_22 : decode cX9_paidBy 22 = .ok (.if_icmp .ne 24, 3) := by decide +kernel
theorem dX9_paidBy_25 : decode cX9_paidBy 25 = .ok (.aload_n 0, 1) := by decide +kernel
theorem dX9_paidBy_26 : decode cX9_paidBy 26 = .ok (.getfield 170, 3) := by decide +kernel
theorem dX9_paidBy_29 : decode cX9_paidBy 29 = .ok (.iload 4, 2) := by decide +kernel
theorem dX9_paidBy_31 : decode cX9_paidBy 31 = .ok (.iaload, 1) := by decide +kernel
theorem dX9_paidBy_32 : decode cX9_paidBy 32 = .ok (.iload_n 2, 1) := by decide +kernel
theorem dX9_paidBy_33 : decode cX9_paidBy 33 = .ok (.if_icmp .gt 13, 3) := by decide +kernel
theorem dX9_paidBy_36 : decode cX9_paidBy 36 = .ok (.iload_n 3, 1) := by decide +kernel
theorem dX9_paidBy_37 : decode cX9_paidBy 37 = .ok (.aload_n 0, 1) := by decide +kernel
theorem dX9_paidBy_38 : decode cX9_paidBy 38 = .ok (.getfield 173, 3) := by decide +kernel
theorem dX9_paidBy_41 : decode cX9_paidBy 41 = .ok (.iload 4, 2) := by decide +kernel
theorem dX9_paidBy_43 : decode cX9_paidBy 43 = .ok (.iaload, 1) := by decide +kernel
theorem dX9_paidBy_44 : decode cX9_paidBy 44 = .ok (.iadd, 1) := by decide +kernel
theorem dX9_paidBy_45 : decode cX9_paidBy 45 = .ok (.istore_n 3, 1) := by decide +kernel
theorem dX9_paidBy_46 : decode cX9_paidBy 46 = .ok (.iinc 4 1, 3) := by decide +kernel
theorem dX9_paidBy_49 : decode cX9_paidBy 49 = .ok (.goto (-44), 3) := by decide +kernel
theorem dX9_paidBy_52 : decode cX9_paidBy 52 = .ok (.iload_n 3, 1) := by decide +kernel
theorem dX9_paidBy_53 : decode cX9_paidBy 53 = .ok (.ireturn, 1) := by decide +kernel
theorem dX9_termOf_0 : decode cX9_termOf 0 = .ok (.aload_n 0, 1) := by decide +kernel
theorem dX9_termOf_1 : decode cX9_termOf 1 = .ok (.getfield 143, 3) := by decide +kernel
theorem dX9_termOf_4 : decode cX9_termOf 4 = .ok (.iload_n 1, 1) := by decide +kernel
theorem dX9_termOf_5 : decode cX9_termOf 5 = .ok (.iaload, 1) := by decide +kernel
theorem dX9_termOf_6 : decode cX9_termOf 6 = .ok (.aload_n 0, 1) := by decide +kernel
theorem dX9_termOf_7 : decode cX9_termOf 7 = .ok (.getfield 146, 3) := by decide +kernel
theorem dX9_termOf_10 : decode cX9_termOf 10 = .ok (.iload_n 1, 1) := by decide +kernel
theorem dX9_termOf_11 : decode cX9_termOf 11 = .ok (.iaload, 1) := by decide +kernel
theorem dX9_termOf_12 : decode cX9_termOf 12 = .ok (.idiv, 1) := by decide +kernel
theorem dX9_termOf_13 : decode cX9_termOf 13 = .ok (.iload_n 2, 1) := by decide +kernel
theorem dX9_termOf_14 : decode cX9_termOf 14 = .ok (.ifCond .ne 19, 3) := by decide +kernel
theorem dX9_termOf_17 : decode cX9_termOf 17 = .ok (.aload_n 0, 1) := by decide +kernel
theorem dX9_termOf_18 : decode cX9_termOf 18 = .ok (.getfield 143, 3) := by decide +kernel
theorem dX9_termOf_21 : decode cX9_termOf 21 = .ok (.iload_n 1, 1) := by decide +kernel
theorem dX9_termOf_22 : decode cX9_termOf 22 = .ok (.iaload, 1) := by decide +kernel
theorem dX9_termOf_23 : decode cX9_termOf 23 = .ok (.aload_n 0, 1) := by decide +kernel
theorem dX9_termOf_24 : decode cX9_termOf 24 = .ok (.getfield 146, 3) := by decide +kernel
theorem dX9_termOf_27 : decode cX9_termOf 27 = .ok (.iload_n 1, 1) := by decide +kernel
theorem dX9_termOf_28 : decode cX9_termOf 28 = .ok (.iaload, 1) := by decide +kernel
theorem dX9_termOf_29 : decode cX9_termOf 29 = .ok (.irem, 1) := by decide +kernel
theorem dX9_termOf_30 : decode cX9_termOf 30 = .ok (.goto 4, 3) := by decide +kernel
theorem dX9_termOf_33 : decode cX9_termOf 33 = .ok (.iconst 0, 1) := by decide +kernel
theorem dX9_termOf_34 : decode cX9_termOf 34 = .ok (.iadd, 1) := by decide +kernel
theorem dX9_termOf_35 : decode cX9_termOf 35 = .ok (.ireturn, 1) := by decide +kernel
theorem dX9_owed_0 : decode cX9_owed 0 = .ok (.aload_n 0, 1) := by decide +kernel
theorem dX9_owed_1 : decode cX9_owed 1 = .ok (.iload_n 1, 1) := by decide +kernel
theorem dX9_owed_2 : decode cX9_owed 2 = .ok (.invokevirtual 410, 3) := by decide +kernel
theorem dX9_owed_5 : decode cX9_owed 5 = .ok (.ifCond .eq 30, 3) := by decide +kernel
theorem dX9_owed_8 : decode cX9_owed 8 = .ok (.aload_n 0, 1) := by decide +kernel
theorem dX9_owed_9 : decode cX9_owed 9 = .ok (.getfield 140, 3) := by decide +kernel
theorem dX9_owed_12 : decode cX9_owed 12 = .ok (.iload_n 1, 1) := by decide +kernel
theorem dX9_owed_13 : decode cX9_owed 13 = .ok (.iaload, 1) := by decide +kernel
theorem dX9_owed_14 : decode cX9_owed 14 = .ok (.ifCond .lt 21, 3) := by decide +kernel
theorem dX9_owed_17 : decode cX9_owed 17 = .ok (.iload_n 2, 1) := by decide +kernel
theorem dX9_owed_18 : decode cX9_owed 18 = .ok (.aload_n 0, 1) := by decide +kernel
theorem dX9_owed_19 : decode cX9_owed 19 = .ok (.getfield 140, 3) := by decide +kernel
theorem dX9_owed_22 : decode cX9_owed 22 = .ok (.iload_n 1, 1) := by decide +kernel
theorem dX9_owed_23 : decode cX9_owed 23 = .ok (.iaload, 1) := by decide +kernel
theorem dX9_owed_24 : decode cX9_owed 24 = .ok (.if_icmp .lt 11, 3) := by decide +kernel
theorem dX9_owed_27 : decode cX9_owed 27 = .ok (.iload_n 2, 1) := by decide +kernel
theorem dX9_owed_28 : decode cX9_owed 28 = .ok (.aload_n 0, 1) := by decide +kernel
theorem dX9_owed_29 : decode cX9_owed 29 = .ok (.getfield 365, 3) := by decide +kernel
theorem dX9_owed_32 : decode cX9_owed 32 = .ok (.if_icmp .le 7, 3) := by decide +kernel
theorem dX9_owed_35 : decode cX9_owed 35 = .ok (.ldc_w 434, 3) := by decide +kernel
theorem dX9_owed_38 : decode cX9_owed 38 = .ok (.ireturn, 1) := by decide +kernel
theorem dX9_owed_39 : decode cX9_owed 39 = .ok (.iconst 0, 1) := by decide +kernel
theorem dX9_owed_40 : decode cX9_owed 40 = .ok (.istore_n 3, 1) := by decide +kernel
