theorem dX0_init_0 : decode cX0_init 0 = .ok (.aload_n 0, 1) := by decide +kernel
theorem dX0_init_1 : decode cX0_init 1 = .ok (.invokespecial 3, 3) := by decide +kernel
theorem dX0_init_4 : decode cX0_init 4 = .ok (.aload_n 0, 1) := by decide +kernel
theorem dX0_init_5 : decode cX0_init 5 = .ok (.iconst (-1), 1) := by decide +kernel
theorem dX0_init_6 : decode cX0_init 6 = .ok (.putfield 9, 3) := by decide +kernel
theorem dX0_init_9 : decode cX0_init 9 = .ok (.aload_n 0, 1) := by decide +kernel
theorem dX0_init_10 : decode cX0_init 10 = .ok (.iconst (-1), 1) := by decide +kernel
theorem dX0_init_11 : decode cX0_init 11 = .ok (.putfield 15, 3) := by decide +kernel
theorem dX0_init_14 : decode cX0_init 14 = .ok (.aload_n 0, 1) := by decide +kernel
theorem dX0_init_15 : decode cX0_init 15 = .ok (.iload_n 1, 1) := by decide +kernel
theorem dX0_init_16 : decode cX0_init 16 = .ok (.putfield 18, 3) := by decide +kernel
theorem dX0_init_19 : decode cX0_init 19 = .ok (.aload_n 0, 1) := by decide +kernel
theorem dX0_init_20 : decode cX0_init 20 = .ok (.iload_n 2, 1) := by decide +kernel
theorem dX0_init_21 : decode cX0_init 21 = .ok (.putfield 21, 3) := by decide +kernel
theorem dX0_init_24 : decode cX0_init 24 = .ok (.aload_n 0, 1) := by decide +kernel
theorem dX0_init_25 : decode cX0_init 25 = .ok (.lload_n 3, 1) := by decide +kernel
theorem dX0_init_26 : decode cX0_init 26 = .ok (.putfield 24, 3) := by decide +kernel
theorem dX0_init_29 : decode cX0_init 29 = .ok (.aload_n 0, 1) := by decide +kernel
theorem dX0_init_30 : decode cX0_init 30 = .ok (.iload 5, 2) := by decide +kernel
theorem dX0_init_32 : decode cX0_init 32 = .ok (.putfield 28, 3) := by decide +kernel
theorem dX0_init_35 : decode cX0_init 35 = .ok (.aload_n 0, 1) := by decide +kernel
theorem dX0_init_36 : decode cX0_init 36 = .ok (.iload 6, 2) := by decide +kernel
theorem dX0_init_38 : decode cX0_init 38 = .ok (.putfield 31, 3) := by decide +kernel
theorem dX0_init_41 : decode cX0_init 41 = .ok (.aload_n 0, 1) := by decide +kernel
theorem dX0_init_42 : decode cX0_init 42 = .ok (.iload 7, 2) := by decide +kernel
theorem dX0_init_44 : decode cX0_init 44 = .ok (.putfield 34, 3) := by decide +kernel
theorem dX0_init_47 : decode cX0_init 47 = .ok (.return_, 1) := by decide +kernel
theorem dX0_dueIn_0 : decode cX0_dueIn 0 = .ok (.aload_n 0, 1) := by decide +kernel
theorem dX0_dueIn_1 : decode cX0_dueIn 1 = .ok (.getfield 38, 3) := by decide +kernel
theorem dX0_dueIn_4 : decode cX0_dueIn 4 = .ok (.ifCond .gt 5, 3) := by decide +kernel
theorem dX0_dueIn_7 : decode cX0_dueIn 7 = .ok (.iconst 0, 1) := by decide +kernel
theorem dX0_dueIn_8 : decode cX0_dueIn 8 = .ok (.ireturn, 1) := by decide +kernel
theorem dX0_dueIn_9 : decode cX0_dueIn 9 = .ok (.iload_n 1, 1) := by decide +kernel
theorem dX0_dueIn_10 : decode cX0_dueIn 10 = .ok (.ifCond .ne 25, 3) := by decide +kernel
theorem dX0_dueIn_13 : decode cX0_dueIn 13 = .ok (.aload_n 0, 1) := by decide +kernel
theorem dX0_dueIn_14 : decode cX0_dueIn 14 = .ok (.getfield 41, 3) := by decide +kernel
theorem dX0_dueIn_17 : decode cX0_dueIn 17 = .ok (.aload_n 0, 1) := by decide +kernel
theorem dX0_dueIn_18 : decode cX0_dueIn 18 = .ok (.getfield 38, 3) := by decide +kernel
theorem dX0_dueIn_21 : decode cX0_dueIn 21 = .ok (.idiv, 1) := by decide +kernel
theorem dX0_dueIn_22 : decode cX0_dueIn 22 = .ok (.aload_n 0, 1) := by decide +kernel
theorem dX0_dueIn_23 : decode cX0_dueIn 23 = .ok (.getfield 41, 3) := by decide +kernel
theorem dX0_dueIn_26 : decode cX0_dueIn 26 = .ok (.aload_n 0, 1) := by decide +kernel
theorem dX0_dueIn_27 : decode cX0_dueIn 27 = .ok (.getfield 38, 3) := by decide +kernel
theorem dX0_dueIn_30 : decode cX0_dueIn 30 = .ok (.irem, 1) := by decide +kernel
theorem dX0_dueIn_31 : decode cX0_dueIn 31 = .ok (.iadd, 1) := by decide +kernel
theorem dX0_dueIn_32 : decode cX0_dueIn 32 = .ok (.goto 12, 3) := by decide +kernel
theorem dX0_dueIn_35 : decode cX0_dueIn 35 = .ok (.aload_n 0, 1) := by decide +kernel
theorem dX0_dueIn_36 : decode cX0_dueIn 36 = .ok (.getfield 41, 3) := by decide +kernel
theorem dX0_dueIn_39 : decode cX0_dueIn 39 = .ok (.aload_n 0, 1) := by decide +kernel
theorem dX0_dueIn_40 : decode cX0_dueIn 40 = .ok (.getfield 38, 3) := by decide +kernel
theorem dX0_dueIn_43 : decode cX0_dueIn 43 = .ok (.idiv, 1) := by decide +kernel
theorem dX0_dueIn_44 : decode cX0_dueIn 44 = .ok (.ireturn, 1) := by decide +kernel
theorem dX1_init_0 : decode cX1_init 0 = .ok (.aload_n 0, 1) := by decide +kernel
theorem dX1_init_1 : decode cX1_init 1 = .ok (.invokespecial 3, 3) := by decide +kernel
theorem dX1_init_4 : decode cX1_init 4 = .ok (.aload_n 0, 1) := by decide +kernel
theorem dX1_init_5 : decode cX1_init 5 = .ok (.bipush 12, 2) := by decide +kernel
theorem dX1_init_7 : decode cX1_init 7 = .ok (.newarray .long, 2) := by decide +kernel
theorem dX1_init_9 : decode cX1_init 9 = .ok (.putfield 9, 3) := by decide +kernel
theorem dX1_init_12 : decode cX1_init 12 = .ok (.aload_n 0, 1) := by decide +kernel
theorem dX1_init_13 : decode cX1_init 13 = .ok (.iconst 4, 1) := by decide +kernel
theorem dX1_init_14 : decode cX1_init 14 = .ok (.newarray .int, 2) := by decide +kernel
theorem dX1_init_16 : decode cX1_init 16 = .ok (.dup, 1) := by decide +kernel
theorem dX1_init_17 : decode cX1_init 17 = .ok (.iconst 0, 1) := by decide +kernel
theorem dX1_init_18 : decode cX1_init 18 = .ok (.iconst 1, 1) := by decide +kernel
theorem dX1_init_19 : decode cX1_init 19 = .ok (.iastore, 1) := by decide +kernel
theorem dX1_init_20 : decode cX1_init 20 = .ok (.dup, 1) := by decide +kernel
theorem dX1_init_21 : decode cX1_init 21 = .ok (.iconst 1, 1) := by decide +kernel
theorem dX1_init_22 : decode cX1_init 22 = .ok (.iconst 0, 1) := by decide +kernel
theorem dX1_init_23 : decode cX1_init 23 = .ok (.iastore, 1) := by decide +kernel
theorem dX1_init_24 : decode cX1_init 24 = .ok (.dup, 1) := by decide +kernel
theorem dX1_init_25 : decode cX1_init 25 = .ok (.iconst 2, 1) := by decide +kernel
theorem dX1_init_26 : decode cX1_init 26 = .ok (.iconst 0, 1) := by decide +kernel
theorem dX1_init_27 : decode cX1_init 27 = .ok (.iastore, 1) := by decide +kernel
theorem dX1_init_28 : decode cX1_init 28 = .ok (.dup, 1) := by decide +kernel
theorem dX1_init_29 : decode cX1_init 29 = .ok (.iconst 3, 1) := by decide +kernel
theorem dX1_init_30 : decode cX1_init 30 = .ok (.iconst 0, 1) := by decide +kernel
theorem dX1_init_31 : decode cX1_init 31 = .ok (.iastore, 1) := by decide +kernel
theorem dX1_init_32 : decode cX1_init 32 = .ok (.putfield 15, 3) := by decide +kernel
theorem dX1_init_35 : decode cX1_init 35 = .ok (.aload_n 0, 1) := by decide +kernel
theorem dX1_init_36 : decode cX1_init 36 = .ok (.iconst 1, 1) := by decide +kernel
theorem dX1_init_37 : decode cX1_init 37 = .ok (.putfield 19, 3) := by decide +kernel
theorem dX1_init_40 : decode cX1_init 40 = .ok (.aload_n 0, 1) := by decide +kernel
theorem dX1_init_41 : decode cX1_init 41 = .ok (.iconst 1, 1) := by decide +kernel
theorem dX1_init_42 : decode cX1_init 42 = .ok (.putfield 23, 3) := by decide +kernel
theorem dX1_init_45 : decode cX1_init 45 = .ok (.aload_n 0, 1) := by decide +kernel
theorem dX1_init_46 : decode cX1_init 46 = .ok (.bipush 12, 2) := by decide +kernel
theorem dX1_init_48 : decode cX1_init 48 = .ok (.newarray .int, 2) := by decide +kernel
theorem dX1_init_50 : decode cX1_init 50 = .ok (.putfield 26, 3) := by decide +kernel
theorem dX1_init_53 : decode cX1_init 53 = .ok (.aload_n 0, 1) := by decide +kernel
theorem dX1_init_54 : decode cX1_init 54 = .ok (.bipush 16, 2) := by decide +kernel
theorem dX1_init_56 : decode cX1_init 56 = .ok (.newarray .int, 2) := by decide +kernel
theorem dX1_init_58 : decode cX1_init 58 = .ok (.putfield 29, 3) := by decide +kernel
theorem dX1_init_61 : decode cX1_init 61 = .ok (.aload_n 0, 1) := by decide +kernel
theorem dX1_init_62 : decode cX1_init 62 = .ok (.bipush 16, 2) := by decide +kernel
theorem dX1_init_64 : decode cX1_init 64 = .ok (.newarray .int, 2) := by decide +kernel
theorem dX1_init_66 : decode cX1_init 66 = .ok (.putfield 32, 3) := by decide +kernel
theorem dX1_init_69 : decode cX1_init 69 = .ok (.aload_n 0, 1) := by decide +kernel
theorem dX1_init_70 : decode cX1_init 70 = .ok (.bipush 16, 2) := by decide +kernel
theorem dX1_init_72 : decode cX1_init 72 = .ok (.newarray .int, 2) := by decide +kernel
theorem dX1_init_74 : decode cX1_init 74 = .ok (.putfield 35, 3) := by decide +kernel
theorem dX1_init_77 : decode cX1_init 77 = .ok (.aload_n 0, 1) := by decide +kernel
theorem dX1_init_78 : decode cX1_init 78 = .ok (.bipush 60, 2) := by decide +kernel
theorem dX1_init_80 : decode cX1_init 80 = .ok (.newarray .int, 2) := by decide +kernel
theorem dX1_init_82 : decode cX1_init 82 = .ok (.putfield 38, 3) := by decide +kernel
theorem dX1_init_85 : decode cX1_init 85 = .ok (.aload_n 0, 1) := by decide +kernel
theorem dX1_init_86 : decode cX1_init 86 = .ok (.iload_n 1, 1) := by decide +kernel
theorem dX1_init_87 : decode cX1_init 87 = .ok (.putfield 41, 3) := by decide +kernel
theorem dX1_init_90 : decode cX1_init 90 = .ok (.aload_n 0, 1) := by decide +kernel
theorem dX1_init_91 : decode cX1_init 91 = .ok (.iload_n 2, 1) := by decide +kernel
theorem dX1_init_92 : decode cX1_init 92 = .ok (.ifCond .le 7, 3) := by decide +kernel
theorem dX1_init_95 : decode cX1_init 95 = .ok (.iload_n 2, 1) := by decide +kernel
theorem dX1_init_96 : decode cX1_init 96 = .ok (.goto 4, 3) := by decide +kernel
theorem dX1_init_99 : decode cX1_init 99 = .ok (.iconst 0, 1) := by decide +kernel
theorem dX1_init_100 : decode cX1_init 100 = .ok (.newarray .int, 2) := by decide +kernel
theorem dX1_init_102 : decode cX1_init 102 = .ok (.putfield 44, 3) := by decide +kernel
theorem dX1_init_105 : decode cX1_init 105 = .ok (.return_, 1) := by decide +kernel
theorem dX1_addHurt_0 : decode cX1_addHurt 0 = .ok (.aload_n 0, 1) := by decide +kernel
theorem dX1_addHurt_1 : decode cX1_addHurt 1 = .ok (.getfield 47, 3) := by decide +kernel
theorem dX1_addHurt_4 : decode cX1_addHurt 4 = .ok (.bipush 12, 2) := by decide +kernel
theorem dX1_addHurt_6 : decode cX1_addHurt 6 = .ok (.if_icmp .ge 33, 3) := by decide +kernel
theorem dX1_addHurt_9 : decode cX1_addHurt 9 = .ok (.aload_n 0, 1) := by decide +kernel
theorem dX1_addHurt_10 : decode cX1_addHurt 10 = .ok (.getfield 9, 3) := by decide +kernel
theorem dX1_addHurt_13 : decode cX1_addHurt 13 = .ok (.aload_n 0, 1) := by decide +kernel
theorem dX1_addHurt_14 : decode cX1_addHurt 14 = .ok (.getfield 47, 3) := by decide +kernel
theorem dX1_addHurt_17 : decode cX1_addHurt 17 = .ok (.lload_n 1, 1) := by decide +kernel
theorem dX1_addHurt_18 : decode cX1_addHurt 18 = .ok (.lastore, 1) := by decide +kernel
theorem dX1_addHurt_19 : decode cX1_addHurt 19 = .ok (.aload_n 0, 1) := by decide +kernel
theorem dX1_addHurt_20 : decode cX1_addHurt 20 = .ok (.getfield 26, 3) := by decide +kernel
theorem dX1_addHurt_23 : decode cX1_addHurt 23 = .ok (.aload_n 0, 1) := by decide +kernel
theorem dX1_addHurt_24 : decode cX1_addHurt 24 = .ok (.getfield 47, 3) := by decide +kernel
theorem dX1_addHurt_27 : decode cX1_addHurt 27 = .ok (.iload_n 3, 1) := by decide +kernel
theorem dX1_addHurt_28 : decode cX1_addHurt 28 = .ok (.iastore, 1) := by decide +kernel
theorem dX1_addHurt_29 : decode cX1_addHurt 29 = .ok (.aload_n 0, 1) := by decide +kernel
theorem dX1_addHurt_30 : decode cX1_addHurt 30 = .ok (.dup, 1) := by decide +kernel
theorem dX1_addHurt_31 : decode cX1_addHurt 31 = .ok (.getfield 47, 3) := by decide +kernel
theorem dX1_addHurt_34 : decode cX1_addHurt 34 = .ok (.iconst 1, 1) := by decide +kernel
theorem dX1_addHurt_35 : decode cX1_addHurt 35 = .ok (.iadd, 1) := by decide +kernel
theorem dX1_addHurt_36 : decode cX1_addHurt 36 = .ok (.putfield 47, 3) := by decide +kernel
theorem dX1_addHurt_39 : decode cX1_addHurt 39 = .ok (.return_, 1) := by decide +kernel
theorem dX1_addStep_0 : decode cX1_addStep 0 = .ok (.aload_n 0, 1) := by decide +kernel
theorem dX1_addStep_1 : decode cX1_addStep 1 = .ok (.getfield 50, 3) := by decide +kernel
theorem dX1_addStep_4 : decode cX1_addStep 4 = .ok (.aload_n 0, 1) := by decide +kernel
theorem dX1_addStep_5 : decode cX1_addStep 5 = .ok (.getfield 44, 3) := by decide +kernel
theorem dX1_addStep_8 : decode cX1_addStep 8 = .ok (.arraylength, 1) := by decide +kernel
theorem dX1_addStep_9 : decode cX1_addStep 9 = .ok (.if_icmp .ge 23, 3) := by decide +kernel
theorem dX1_addStep_12 : decode cX1_addStep 12 = .ok (.aload_n 0, 1) := by decide +kernel
theorem dX1_addStep_13 : decode cX1_addStep 13 = .ok (.getfield 44, 3) := by decide +kernel
theorem dX1_addStep_16 : decode cX1_addStep 16 = .ok (.aload_n 0, 1) := by decide +kernel
theorem dX1_addStep_17 : decode cX1_addStep 17 = .ok (.getfield 50, 3) := by decide +kernel
theorem dX1_addStep_20 : decode cX1_addStep 20 = .ok (.iload_n 1, 1) := by decide +kernel
theorem dX1_addStep_21 : decode cX1_addStep 21 = .ok (.iastore, 1) := by decide +kernel
theorem dX1_addStep_22 : decode cX1_addStep 22 = .ok (.aload_n 0, 1) := by decide +kernel
theorem dX1_addStep_23 : decode cX1_addStep 23 = .ok (.dup, 1) := by decide +kernel
theorem dX1_addStep_24 : decode cX1_addStep 24 = .ok (.getfield 50, 3) := by decide +kernel
theorem dX1_addStep_27 : decode cX1_addStep 27 = .ok (.iconst 1, 1) := by decide +kernel
theorem dX1_addStep_28 : decode cX1_addStep 28 = .ok (.iadd, 1) := by decide +kernel
theorem dX1_addStep_29 : decode cX1_addStep 29 = .ok (.putfield 50, 3) := by decide +kernel
theorem dX1_addStep_32 : decode cX1_addStep 32 = .ok (.return_, 1) := by decide +kernel
theorem dX1_addWhen_0 : decode cX1_addWhen 0 = .ok (.aload_n 0, 1) := by decide +kernel
theorem dX1_addWhen_1 : decode cX1_addWhen 1 = .ok (.getfield 53, 3) := by decide +kernel
theorem dX1_addWhen_4 : decode cX1_addWhen 4 = .ok (.bipush 16, 2) := by decide +kernel
theorem dX1_addWhen_6 : decode cX1_addWhen 6 = .ok (.if_icmp .ge 46, 3) := by decide +kernel
theorem dX1_addWhen_9 : decode cX1_addWhen 9 = .ok (.aload_n 0, 1) := by decide +kernel
theorem dX1_addWhen_10 : decode cX1_addWhen 10 = .ok (.getfield 29, 3) := by decide +kernel
theorem dX1_addWhen_13 : decode cX1_addWhen 13 = .ok (.aload_n 0, 1) := by decide +kernel
theorem dX1_addWhen_14 : decode cX1_addWhen 14 = .ok (.getfield 53, 3) := by decide +kernel
theorem dX1_addWhen_17 : decode cX1_addWhen 17 = .ok (.iload_n 1, 1) := by decide +kernel
theorem dX1_addWhen_18 : decode cX1_addWhen 18 = .ok (.iastore, 1) := by decide +kernel
theorem dX1_addWhen_19 : decode cX1_addWhen 19 = .ok (.aload_n 0, 1) := by decide +kernel
theorem dX1_addWhen_20 : decode cX1_addWhen 20 = .ok (.getfield 32, 3) := by decide +kernel
theorem dX1_addWhen_23 : decode cX1_addWhen 23 = .ok (.aload_n 0, 1) := by decide +kernel
theorem dX1_addWhen_24 : decode cX1_addWhen 24 = .ok (.getfield 53, 3) := by decide +kernel
theorem dX1_addWhen_27 : decode cX1_addWhen 27 = .ok (.iload_n 2, 1) := by decide +kernel
theorem dX1_addWhen_28 : decode cX1_addWhen 28 = .ok (.iastore, 1) := by decide +kernel
theorem dX1_addWhen_29 : decode cX1_addWhen 29 = .ok (.aload_n 0, 1) := by decide +kernel
theorem dX1_addWhen_30 : decode cX1_addWhen 30 = .ok (.getfield 35, 3) := by decide +kernel
theorem dX1_addWhen_33 : decode cX1_addWhen 33 = .ok (.aload_n 0, 1) := by decide +kernel
theorem dX1_addWhen_34 : decode cX1_addWhen 34 = .ok (.getfield 53, 3) := by decide +kernel
theorem dX1_addWhen_37 : decode cX1_addWhen 37 = .ok (.aload_n 0, 1) := by decide +kernel
theorem dX1_addWhen_38 : decode cX1_addWhen 38 = .ok (.getfield 50, 3) := by decide +kernel
theorem dX1_addWhen_41 : decode cX1_addWhen 41 = .ok (.iastore, 1) := by decide +kernel
theorem dX1_addWhen_42 : decode cX1_addWhen 42 = .ok (.aload_n 0, 1) := by decide +kernel
theorem dX1_addWhen_43 : decode cX1_addWhen 43 = .ok (.dup, 1) := by decide +kernel
theorem dX1_addWhen_44 : decode cX1_addWhen 44 = .ok (.getfield 53, 3) := by decide +kernel
theorem dX1_addWhen_47 : decode cX1_addWhen 47 = .ok (.iconst 1, 1) := by decide +kernel
theorem dX1_addWhen_48 : decode cX1_addWhen 48 = .ok (.iadd, 1) := by decide +kernel
theorem dX1_addWhen_49 : decode cX1_addWhen 49 = .ok (.putfield 53, 3) := by decide +kernel
theorem dX1_addWhen_52 : decode cX1_addWhen 52 = .ok (.return_, 1) := by decide +kernel
theorem dX1_partOfDegree_0 : decode cX1_partOfDegree 0 = .ok (.aload_n 0, 1) := by decide +kernel
theorem dX1_partOfDegree_1 : decode cX1_partOfDegree 1 = .ok (.getfield 15, 3) := by decide +kernel
theorem dX1_partOfDegree_4 : decode cX1_partOfDegree 4 = .ok (.iconst 0, 1) := by decide +kernel
theorem dX1_partOfDegree_5 : decode cX1_partOfDegree 5 = .ok (.iaload, 1) := by decide +kernel
theorem dX1_partOfDegree_6 : decode cX1_partOfDegree 6 = .ok (.aload_n 0, 1) := by decide +kernel
theorem dX1_partOfDegree_7 : decode cX1_partOfDegree 7 = .ok (.getfield 15, 3) := by decide +kernel
theorem dX1_partOfDegree_10 : decode cX1_partOfDegree 10 = .ok (.iconst 1, 1) := by decide +kernel
theorem dX1_partOfDegree_11 : decode cX1_partOfDegree 11 = .ok (.iaload, 1) := by decide +kernel
theorem dX1_partOfDegree_12 : decode cX1_partOfDegree 12 = .ok (.iadd, 1) := by decide +kernel
theorem dX1_partOfDegree_13 : decode cX1_partOfDegree 13 = .ok (.aload_n 0, 1) := by decide +kernel
theorem dX1_partOfDegree_14 : decode cX1_partOfDegree 14 = .ok (.getfield 15, 3) := by decide +kernel
theorem dX1_partOfDegree_17 : decode cX1_partOfDegree 17 = .ok (.iconst 2, 1) := by decide +kernel
theorem dX1_partOfDegree_18 : decode cX1_partOfDegree 18 = .ok (.iaload, 1) := by decide +kernel
theorem dX1_partOfDegree_19 : decode cX1_partOfDegree 19 = .ok (.iadd, 1) := by decide +kernel
theorem dX1_partOfDegree_20 : decode cX1_partOfDegree 20 = .ok (.aload_n 0, 1) := by decide +kernel
theorem dX1_partOfDegree_21 : decode cX1_partOfDegree 21 = .ok (.getfield 15, 3) := by decide +kernel
theorem dX1_partOfDegree_24 : decode cX1_partOfDegree 24 = .ok (.iconst 3, 1) := by decide +kernel
theorem dX1_partOfDegree_25 : decode cX1_partOfDegree 25 = .ok (.iaload, 1) := by decide +kernel
theorem dX1_partOfDegree_26 : decode cX1_partOfDegree 26 = .ok (.iadd, 1) := by decide +kernel
theorem dX1_partOfDegree_27 : decode cX1_partOfDegree 27 = .ok (.istore_n 3, 1) := by decide +kernel
theorem dX1_partOfDegree_28 : decode cX1_partOfDegree 28 = .ok (.iload_n 3, 1) := by decide +kernel
theorem dX1_partOfDegree_29 : decode cX1_partOfDegree 29 = .ok (.ifCond .le 16, 3) := by decide +kernel
theorem dX1_partOfDegree_32 : decode cX1_partOfDegree 32 = .ok (.iload_n 2, 1) := by decide +kernel
theorem dX1_partOfDegree_33 : decode cX1_partOfDegree 33 = .ok (.ifCond .lt 12, 3) := by decide +kernel
theorem dX1_partOfDegree_36 : decode cX1_partOfDegree 36 = .ok (.iload_n 2, 1) := by decide +kernel
theorem dX1_partOfDegree_37 : decode cX1_partOfDegree 37 = .ok (.aload_n 0, 1) := by decide +kernel
theorem dX1_partOfDegree_38 : decode cX1_partOfDegree 38 = .ok (.getfield 15, 3) := by decide +kernel
theorem dX1_partOfDegree_41 : decode cX1_partOfDegree 41 = .ok (.arraylength, 1) := by decide +kernel
theorem dX1_partOfDegree_42 : decode cX1_partOfDegree 42 = .ok (.if_icmp .lt 5, 3) := by decide +kernel
theorem dX1_partOfDegree_45 : decode cX1_partOfDegree 45 = .ok (.iconst 0, 1) := by decide +kernel
theorem dX1_partOfDegree_46 : decode cX1_partOfDegree 46 = .ok (.ireturn, 1) := by decide +kernel
theorem dX1_partOfDegree_47 : decode cX1_partOfDegree 47 = .ok (.iload_n 1, 1) := by decide +kernel
theorem dX1_partOfDegree_48 : decode cX1_partOfDegree 48 = .ok (.i2l, 1) := by decide +kernel
theorem dX1_partOfDegree_49 : decode cX1_partOfDegree 49 = .ok (.aload_n 0, 1) := by decide +kernel
theorem dX1_partOfDegree_50 : decode cX1_partOfDegree 50 = .ok (.getfield 15, 3) := by decide +kernel
theorem dX1_partOfDegree_53 : decode cX1_partOfDegree 53 = .ok (.iload_n 2, 1) := by decide +kernel
theorem dX1_partOfDegree_54 : decode cX1_partOfDegree 54 = .ok (.iaload, 1) := by decide +kernel
theorem dX1_partOfDegree_55 : decode cX1_partOfDegree 55 = .ok (.i2l, 1) := by decide +kernel
theorem dX1_partOfDegree_56 : decode cX1_partOfDegree 56 = .ok (.lmul, 1) := by decide +kernel
theorem dX1_partOfDegree_57 : decode cX1_partOfDegree 57 = .ok (.iload_n 3, 1) := by decide +kernel
theorem dX1_partOfDegree_58 : decode cX1_partOfDegree 58 = .ok (.i2l, 1) := by decide +kernel
theorem dX1_partOfDegree_59 : decode cX1_partOfDegree 59 = .ok (.ldiv, 1) := by decide +kernel
theorem dX1_partOfDegree_60 : decode cX1_partOfDegree 60 = .ok (.l2i, 1) := by decide +kernel
theorem dX1_partOfDegree_61 : decode cX1_partOfDegree 61 = .ok (.ireturn, 1) := by decide +kernel
theorem dX1_priceOf_0 : decode cX1_priceOf 0 = .ok (.iload_n 1, 1) := by decide +kernel
theorem dX1_priceOf_1 : decode cX1_priceOf 1 = .ok (.ifCond .lt 20, 3) := by decide +kernel
theorem dX1_priceOf_4 : decode cX1_priceOf 4 = .ok (.iload_n 1, 1) := by decide +kernel
theorem dX1_priceOf_5 : decode cX1_priceOf 5 = .ok (.aload_n 0, 1) := by decide +kernel
theorem dX1_priceOf_6 : decode cX1_priceOf 6 = .ok (.getfield 47, 3) := by decide +kernel
theorem dX1_priceOf_9 : decode cX1_priceOf 9 = .ok (.if_icmp .ge 12, 3) := by decide +kernel
theorem dX1_priceOf_12 : decode cX1_priceOf 12 = .ok (.aload_n 0, 1) := by decide +kernel
theorem dX1_priceOf_13 : decode cX1_priceOf 13 = .ok (.getfield 26, 3) := by decide +kernel
theorem dX1_priceOf_16 : decode cX1_priceOf 16 = .ok (.iload_n 1, 1) := by decide +kernel
theorem dX1_priceOf_17 : decode cX1_priceOf 17 = .ok (.iaload, 1) := by decide +kernel
theorem dX1_priceOf_18 : decode cX1_priceOf 18 = .ok (.goto 4, 3) := by decide +kernel
theorem dX1_priceOf_21 : decode cX1_priceOf 21 = .ok (.iconst 0, 1) := by decide +kernel
theorem dX1_priceOf_22 : decode cX1_priceOf 22 = .ok (.istore_n 3, 1) := by decide +kernel
theorem dX1_priceOf_23 : decode cX1_priceOf 23 = .ok (.iconst 0, 1) := by decide +kernel
theorem dX1_priceOf_24 : decode cX1_priceOf 24 = .ok (.istore 4, 2) := by decide +kernel
theorem dX1_priceOf_26 : decode cX1_priceOf 26 = .ok (.iconst 0, 1) := by decide +kernel
theorem dX1_priceOf_27 : decode cX1_priceOf 27 = .ok (.istore 5, 2) := by decide +kernel
theorem dX1_priceOf_29 : decode cX1_priceOf 29 = .ok (.iload 5, 2) := by decide +kernel
theorem dX1_priceOf_31 : decode cX1_priceOf 31 = .ok (.aload_n 0, 1) := by decide +kernel
theorem dX1_priceOf_32 : decode cX1_priceOf 32 = .ok (.getfield 53, 3) := by decide +kernel
theorem dX1_priceOf_35 : decode cX1_priceOf 35 = .ok (.if_icmp .ge 59, 3) := by decide +kernel
theorem dX1_priceOf_38 : decode cX1_priceOf 38 = .ok (.aload_n 2, 1) := by decide +kernel
theorem dX1_priceOf_39 : decode cX1_priceOf 39 = .ok (.bipush 6, 2) := by decide +kernel
theorem dX1_priceOf_41 : decode cX1_priceOf 41 = .ok (.iload_n 3, 1) := by decide +kernel
theorem dX1_priceOf_42 : decode cX1_priceOf 42 = .ok (.iastore, 1) := by decide +kernel
theorem dX1_priceOf_43 : decode cX1_priceOf 43 = .ok (.aload_n 0, 1) := by decide +kernel
theorem dX1_priceOf_44 : decode cX1_priceOf 44 = .ok (.iload 4, 2) := by decide +kernel
theorem dX1_priceOf_46 : decode cX1_priceOf 46 = .ok (.aload_n 0, 1) := by decide +kernel
theorem dX1_priceOf_47 : decode cX1_priceOf 47 = .ok (.getfield 35, 3) := by decide +kernel
theorem dX1_priceOf_50 : decode cX1_priceOf 50 = .ok (.iload 5, 2) := by decide +kernel
theorem dX1_priceOf_52 : decode cX1_priceOf 52 = .ok (.iaload, 1) := by decide +kernel
theorem dX1_priceOf_53 : decode cX1_priceOf 53 = .ok (.aload_n 2, 1) := by decide +kernel
theorem dX1_priceOf_54 : decode cX1_priceOf 54 = .ok (.invokevirtual 56, 3) := by decide +kernel
theorem dX1_priceOf_57 : decode cX1_priceOf 57 = .ok (.ifCond .eq 22, 3) := by decide +kernel
theorem dX1_priceOf_60 : decode cX1_priceOf 60 = .ok (.iload_n 3, 1) := by decide +kernel
theorem dX1_priceOf_61 : decode cX1_priceOf 61 = .ok (.aload_n 0, 1) := by decide +kernel
theorem dX1_priceOf_62 : decode cX1_priceOf 62 = .ok (.getfield 29, 3) := by decide +kernel
theorem dX1_priceOf_65 : decode cX1_priceOf 65 = .ok (.iload 5, 2) := by decide +kernel
theorem dX1_priceOf_67 : decode cX1_priceOf 67 = .ok (.iaload, 1) := by decide +kernel
theorem dX1_priceOf_68 : decode cX1_priceOf 68 = .ok (.aload_n 0, 1) := by decide +kernel
theorem dX1_priceOf_69 : decode cX1_priceOf 69 = .ok (.getfield 32, 3) := by decide +kernel
theorem dX1_priceOf_72 : decode cX1_priceOf 72 = .ok (.iload 5, 2) := by decide +kernel
theorem dX1_priceOf_74 : decode cX1_priceOf 74 = .ok (.iaload, 1) := by decide +kernel
theorem dX1_priceOf_75 : decode cX1_priceOf 75 = .ok (.invokestatic 60, 3) := by decide +kernel
theorem dX1_priceOf_78 : decode cX1_priceOf 78 = .ok (.istore_n 3, 1) := by decide +kernel
theorem dX1_priceOf_79 : decode cX1_priceOf 79 = .ok (.aload_n 0, 1) := by decide +kernel
theorem dX1_priceOf_80 : decode cX1_priceOf 80 = .ok (.getfield 35, 3) := by decide +kernel
theorem dX1_priceOf_83 : decode cX1_priceOf 83 = .ok (.iload 5, 2) := by decide +kernel
theorem dX1_priceOf_85 : decode cX1_priceOf 85 = .ok (.iaload, 1) := by decide +kernel
theorem dX1_priceOf_86 : decode cX1_priceOf 86 = .ok (.istore 4, 2) := by decide +kernel
theorem dX1_priceOf_88 : decode cX1_priceOf 88 = .ok (.iinc 5 1, 3) := by decide +kernel
theorem dX1_priceOf_91 : decode cX1_priceOf 91 = .ok (.goto (-62), 3) := by decide +kernel
theorem dX1_priceOf_94 : decode cX1_priceOf 94 = .ok (.iload_n 3, 1) := by decide +kernel
theorem dX1_priceOf_95 : decode cX1_priceOf 95 = .ok (.ireturn, 1) := by decide +kernel
theorem dX1_changed_0 : decode cX1_changed 0 = .ok (.iload_n 1, 1) := by decide +kernel
theorem dX1_changed_1 : decode cX1_changed 1 = .ok (.tableswitch 49 0 2 #[27, 36, 40], 27) := by decide +kernel
theorem dX1_changed_28 : decode cX1_changed 28 = .ok (.iload_n 0, 1) := by decide +kernel
theorem dX1_changed_29 : decode cX1_changed 29 = .ok (.iconst 2, 1) := by decide +kernel
theorem dX1_changed_30 : decode cX1_changed 30 = .ok (.imul, 1) := by decide +kernel
theorem dX1_changed_31 : decode cX1_changed 31 = .ok (.ldc 64, 2) := by decide +kernel
theorem dX1_changed_33 : decode cX1_changed 33 = .ok (.invokestatic 65, 3) := by decide +kernel
theorem dX1_changed_36 : decode cX1_changed 36 = .ok (.ireturn, 1) := by decide +kernel
theorem dX1_changed_37 : decode cX1_changed 37 = .ok (.iload_n 0, 1) := by decide +kernel
theorem dX1_changed_38 : decode cX1_changed 38 = .ok (.iconst 2, 1) := by decide +kernel
theorem dX1_changed_39 : decode cX1_changed 39 = .ok (.idiv, 1) := by decide +kernel
theorem dX1_changed_40 : decode cX1_changed 40 = .ok (.ireturn, 1) := by decide +kernel
theorem dX1_changed_41 : decode cX1_changed 41 = .ok (.iload_n 0, 1) := by decide +kernel
theorem dX1_changed_42 : decode cX1_changed 42 = .ok (.iload_n 2, 1) := by decide +kernel
theorem dX1_changed_43 : decode cX1_changed 43 = .ok (.iadd, 1) := by decide +kernel
theorem dX1_changed_44 : decode cX1_changed 44 = .ok (.ldc 64, 2) := by decide +kernel
theorem dX1_changed_46 : decode cX1_changed 46 = .ok (.invokestatic 65, 3) := by decide +kernel
theorem dX1_changed_49 : decode cX1_changed 49 = .ok (.ireturn, 1) := by decide +kernel
theorem dX1_changed_50 : decode cX1_changed 50 = .ok (.iload_n 0, 1) := by decide +kernel
theorem dX1_changed_51 : decode cX1_changed 51 = .ok (.iload_n 2, 1) := by decide +kernel
theorem dX1_changed_52 : decode cX1_changed 52 = .ok (.isub, 1) := by decide +kernel
theorem dX1_changed_53 : decode cX1_changed 53 = .ok (.iconst 0, 1) := by decide +kernel
theorem dX1_changed_54 : decode cX1_changed 54 = .ok (.invokestatic 71, 3) := by decide +kernel
theorem dX1_changed_57 : decode cX1_changed 57 = .ok (.ireturn, 1) := by decide +kernel
theorem dX1_holds_0 : decode cX1_holds 0 = .ok (.iconst 0, 1) := by decide +kernel
theorem dX1_holds_1 : decode cX1_holds 1 = .ok (.istore 4, 2) := by decide +kernel
theorem dX1_holds_3 : decode cX1_holds 3 = .ok (.iload_n 1, 1) := by decide +kernel
theorem dX1_holds_4 : decode cX1_holds 4 = .ok (.istore 5, 2) := by decide +kernel
theorem dX1_holds_6 : decode cX1_holds 6 = .ok (.iload 5, 2) := by decide +kernel
theorem dX1_holds_8 : decode cX1_holds 8 = .ok (.iload_n 2, 1) := by decide +kernel
theorem dX1_holds_9 : decode cX1_holds 9 = .ok (.if_icmp .ge 152, 3) := by decide +kernel
theorem dX1_holds_12 : decode cX1_holds 12 = .ok (.iload 5, 2) := by decide +kernel
theorem dX1_holds_14 : decode cX1_holds 14 = .ok (.aload_n 0, 1) := by decide +kernel
theorem dX1_holds_15 : decode cX1_holds 15 = .ok (.getfield 44, 3) := by decide +kernel
theorem dX1_holds_18 : decode cX1_holds 18 = .ok (.arraylength, 1) := by decide +kernel
theorem dX1_holds_19 : decode cX1_holds 19 = .ok (.if_icmp .ge 142, 3) := by decide +kernel
theorem dX1_holds_22 : decode cX1_holds 22 = .ok (.aload_n 0, 1) := by decide +kernel
theorem dX1_holds_23 : decode cX1_holds 23 = .ok (.getfield 44, 3) := by decide +kernel
theorem dX1_holds_26 : decode cX1_holds 26 = .ok (.iload 5, 2) := by decide +kernel
theorem dX1_holds_28 : decode cX1_holds 28 = .ok (.iaload, 1) := by decide +kernel
theorem dX1_holds_29 : decode cX1_holds 29 = .ok (.istore 6, 2) := by decide +kernel
theorem dX1_holds_31 : decode cX1_holds 31 = .ok (.iload 6, 2) := by decide +kernel
theorem dX1_holds_33 : decode cX1_holds 33 = .ok (.bipush (-11), 2) := by decide +kernel
theorem dX1_holds_35 : decode cX1_holds 35 = .ok (.if_icmp .le 32, 3) := by decide +kernel
theorem dX1_holds_38 : decode cX1_holds 38 = .ok (.iload 4, 2) := by decide +kernel
theorem dX1_holds_40 : decode cX1_holds 40 = .ok (.aload_n 0, 1) := by decide +kernel
theorem dX1_holds_41 : decode cX1_holds 41 = .ok (.getfield 38, 3) := by decide +kernel
theorem dX1_holds_44 : decode cX1_holds 44 = .ok (.arraylength, 1) := by decide +kernel
theorem dX1_holds_45 : decode cX1_holds 45 = .ok (.if_icmp .ge 110, 3) := by decide +kernel
theorem dX1_holds_48 : decode cX1_holds 48 = .ok (.aload_n 0, 1) := by decide +kernel
theorem dX1_holds_49 : decode cX1_holds 49 = .ok (.getfield 38, 3) := by decide +kernel
theorem dX1_holds_52 : decode cX1_holds 52 = .ok (.iload 4, 2) := by decide +kernel
theorem dX1_holds_54 : decode cX1_holds 54 = .ok (.iload 6, 2) := by decide +kernel
theorem dX1_holds_56 : decode cX1_holds 56 = .ok (.aload_n 3, 1) := by decide +kernel
theorem dX1_holds_57 : decode cX1_holds 57 = .ok (.invokestatic 74, 3) := by decide +kernel
theorem dX1_holds_60 : decode cX1_holds 60 = .ok (.iastore, 1) := by decide +kernel
theorem dX1_holds_61 : decode cX1_holds 61 = .ok (.iinc 4 1, 3) := by decide +kernel
theorem dX1_holds_64 : decode cX1_holds 64 = .ok (.goto 91, 3) := by decide +kernel
theorem dX1_holds_67 : decode cX1_holds 67 = .ok (.iload 6, 2) := by decide +kernel
theorem dX1_holds_69 : decode cX1_holds 69 = .ok (.bipush (-11), 2) := by decide +kernel
theorem dX1_holds_71 : decode cX1_holds 71 = .ok (.if_icmp .ne 37, 3) := by decide +kernel
theorem dX1_holds_74 : decode cX1_holds 74 = .ok (.iload 4, 2) := by decide +kernel
theorem dX1_holds_76 : decode cX1_holds 76 = .ok (.ifCond .le 79, 3) := by decide +kernel
theorem dX1_holds_79 : decode cX1_holds 79 = .ok (.aload_n 0, 1) := by decide +kernel
theorem dX1_holds_80 : decode cX1_holds 80 = .ok (.getfield 38, 3) := by decide +kernel
theorem dX1_holds_83 : decode cX1_holds 83 = .ok (.iload 4, 2) := by decide +kernel
theorem dX1_holds_85 : decode cX1_holds 85 = .ok (.iconst 1, 1) := by decide +kernel
theorem dX1_holds_86 : decode cX1_holds 86 = .ok (.isub, 1) := by decide +kernel
theorem dX1_holds_87 : decode cX1_holds 87 = .ok (.aload_n 0, 1) := by decide +kernel
theorem dX1_holds_88 : decode cX1_holds 88 = .ok (.getfield 38, 3) := by decide +kernel
theorem dX1_holds_91 : decode cX1_holds 91 = .ok (.iload 4, 2) := by decide +kernel
theorem dX1_holds_93 : decode cX1_holds 93 = .ok (.iconst 1, 1) := by decide +kernel
theorem dX1_holds_94 : decode cX1_holds 94 = .ok (.isub, 1) := by decide +kernel
theorem dX1_holds_95 : decode cX1_holds 95 = .ok (.iaload, 1) := by decide +kernel
theorem dX1_holds_96 : decode cX1_holds 96 = .ok (.ifCond .ne 7, 3) := by decide +kernel
theorem dX1_holds_99 : decode cX1_holds 99 = .ok (.iconst 1, 1) := by decide +kernel
theorem dX1_holds_100 : decode cX1_holds 100 = .ok (.goto 4, 3) := by decide +kernel
theorem dX1_holds_103 : decode cX1_holds 103 = .ok (.iconst 0, 1) := by decide +kernel
theorem dX1_holds_104 : decode cX1_holds 104 = .ok (.iastore, 1) := by decide +kernel
theorem dX1_holds_105 : decode cX1_holds 105 = .ok (.goto 50, 3) := by decide +kernel
theorem dX1_holds_108 : decode cX1_holds 108 = .ok (.iload 4, 2) := by decide +kernel
theorem dX1_holds_110 : decode cX1_holds 110 = .ok (.iconst 1, 1) := by decide +kernel
theorem dX1_holds_111 : decode cX1_holds 111 = .ok (.if_icmp .le 44, 3) := by decide +kernel
theorem dX1_holds_114 : decode cX1_holds 114 = .ok (.iinc 4 (-1), 3) := by decide +kernel
theorem dX1_holds_117 : decode cX1_holds 117 = .ok (.aload_n 0, 1) := by decide +kernel
theorem dX1_holds_118 : decode cX1_holds 118 = .ok (.getfield 38, 3) := by decide +kernel
theorem dX1_holds_121 : decode cX1_holds 121 = .ok (.iload 4, 2) := by decide +kernel
theorem dX1_holds_123 : decode cX1_holds 123 = .ok (.iconst 1, 1) := by decide +kernel
theorem dX1_holds_124 : decode cX1_holds 124 = .ok (.isub, 1) := by decide +kernel
theorem dX1_holds_125 : decode cX1_holds 125 = .ok (.iload 6, 2) := by decide +kernel
theorem dX1_holds_127 : decode cX1_holds 127 = .ok (.aload_n 0, 1) := by decide +kernel
theorem dX1_holds_128 : decode cX1_holds 128 = .ok (.getfield 38, 3) := by decide +kernel
theorem dX1_holds_131 : decode cX1_holds 131 = .ok (.iload 4, 2) := by decide +kernel
theorem dX1_holds_133 : decode cX1_holds 133 = .ok (.iconst 1, 1) := by decide +kernel
theorem dX1_holds_134 : decode cX1_holds 134 = .ok (.isub, 1) := by decide +kernel
theorem dX1_holds_135 : decode cX1_holds 135 = .ok (.iaload, 1) := by decide +kernel
theorem dX1_holds_136 : decode cX1_holds 136 = .ok (.aload_n 0, 1) := by decide +kernel
theorem dX1_holds_137 : decode cX1_holds 137 = .ok (.getfield 38, 3) := by decide +kernel
theorem dX1_holds_140 : decode cX1_holds 140 = .ok (.iload 4, 2) := by decide +kernel
theorem dX1_holds_142 : decode cX1_holds 142 = .ok (.iaload, 1) := by decide +kernel
theorem dX1_holds_143 : decode cX1_holds 143 = .ok (.invokestatic 78, 3) := by decide +kernel
theorem dX1_holds_146 : decode cX1_holds 146 = .ok (.ifCond .eq 7, 3) := by decide +kernel
theorem dX1_holds_149 : decode cX1_holds 149 = .ok (.iconst 1, 1) := by decide +kernel
theorem dX1_holds_150 : decode cX1_holds 150 = .ok (.goto 4, 3) := by decide +kernel
theorem dX1_holds_153 : decode cX1_holds 153 = .ok (.iconst 0, 1) := by decide +kernel
theorem dX1_holds_154 : decode cX1_holds 154 = .ok (.iastore, 1) := by decide +kernel
theorem dX1_holds_155 : decode cX1_holds 155 = .ok (.iinc 5 1, 3) := by decide +kernel
theorem dX1_holds_158 : decode cX1_holds 158 = .ok (.goto (-152), 3) := by decide +kernel
theorem dX1_holds_161 : decode cX1_holds 161 = .ok (.iload 4, 2) := by decide +kernel
theorem dX1_holds_163 : decode cX1_holds 163 = .ok (.ifCond .le 16, 3) := by decide +kernel
theorem dX1_holds_166 : decode cX1_holds 166 = .ok (.aload_n 0, 1) := by decide +kernel
theorem dX1_holds_167 : decode cX1_holds 167 = .ok (.getfield 38, 3) := by decide +kernel
theorem dX1_holds_170 : decode cX1_holds 170 = .ok (.iconst 0, 1) := by decide +kernel
theorem dX1_holds_171 : decode cX1_holds 171 = .ok (.iaload, 1) := by decide +kernel
theorem dX1_holds_172 : decode cX1_holds 172 = .ok (.ifCond .eq 7, 3) := by decide +kernel
theorem dX1_holds_175 : decode cX1_holds 175 = .ok (.iconst 1, 1) := by decide +kernel
theorem dX1_holds_176 : decode cX1_holds 176 = .ok (.goto 4, 3) := by decide +kernel
theorem dX1_holds_179 : decode cX1_holds 179 = .ok (.iconst 0, 1) := by decide +kernel
theorem dX1_holds_180 : decode cX1_holds 180 = .ok (.ireturn, 1) := by decide +kernel
theorem dX1_operand_0 : decode cX1_operand 0 = .ok (.iconst (-1), 1) := by decide +kernel
theorem dX1_operand_1 : decode cX1_operand 1 = .ok (.iload_n 0, 1) := by decide +kernel
theorem dX1_operand_2 : decode cX1_operand 2 = .ok (.isub, 1) := by decide +kernel
theorem dX1_operand_3 : decode cX1_operand 3 = .ok (.istore_n 2, 1) := by decide +kernel
theorem dX1_operand_4 : decode cX1_operand 4 = .ok (.iload_n 2, 1) := by decide +kernel
theorem dX1_operand_5 : decode cX1_operand 5 = .ok (.ifCond .lt 15, 3) := by decide +kernel
theorem dX1_operand_8 : decode cX1_operand 8 = .ok (.iload_n 2, 1) := by decide +kernel
theorem dX1_operand_9 : decode cX1_operand 9 = .ok (.aload_n 1, 1) := by decide +kernel
theorem dX1_operand_10 : decode cX1_operand 10 = .ok (.arraylength, 1) := by decide +kernel
theorem dX1_operand_11 : decode cX1_operand 11 = .ok (.if_icmp .ge 9, 3) := by decide +kernel
theorem dX1_operand_14 : decode cX1_operand 14 = .ok (.aload_n 1, 1) := by decide +kernel
theorem dX1_operand_15 : decode cX1_operand 15 = .ok (.iload_n 2, 1) := by decide +kernel
theorem dX1_operand_16 : decode cX1_operand 16 = .ok (.iaload, 1) := by decide +kernel
theorem dX1_operand_17 : decode cX1_operand 17 = .ok (.goto 4, 3) := by decide +kernel
theorem dX1_operand_20 : decode cX1_operand 20 = .ok (.iload_n 0, 1) := by decide +kernel
theorem dX1_operand_21 : decode cX1_operand 21 = .ok (.ireturn, 1) := by decide +kernel
theorem dX1_joined_0 : decode cX1_joined 0 = .ok (.iload_n 0, 1) := by decide +kernel
theorem dX1_joined_1 : decode cX1_joined 1 = .ok (.tableswitch 81 (-15) (-12) #[70, 59, 45, 31], 31) := by decide +kernel
theorem dX1_joined_32 : decode cX1_joined 32 = .ok (.iload_n 1, 1) := by decide +kernel
theorem dX1_joined_33 : decode cX1_joined 33 = .ok (.ifCond .eq 11, 3) := by decide +kernel
theorem dX1_joined_36 : decode cX1_joined 36 = .ok (.iload_n 2, 1) := by decide +kernel
theorem dX1_joined_37 : decode cX1_joined 37 = .ok (.ifCond .eq 7, 3) := by decide +kernel
theorem dX1_joined_40 : decode cX1_joined 40 = .ok (.iconst 1, 1) := by decide +kernel
theorem dX1_joined_41 : decode cX1_joined 41 = .ok (.goto 4, 3) := by decide +kernel
theorem dX1_joined_44 : decode cX1_joined 44 = .ok (.iconst 0, 1) := by decide +kernel
theorem dX1_joined_45 : decode cX1_joined 45 = .ok (.ireturn, 1) := by decide +kernel
theorem dX1_joined_46 : decode cX1_joined 46 = .ok (.iload_n 1, 1) := by decide +kernel
theorem dX1_joined_47 : decode cX1_joined 47 = .ok (.ifCond .ne 7, 3) := by decide +kernel
theorem dX1_joined_50 : decode cX1_joined 50 = .ok (.iload_n 2, 1) := by decide +kernel
theorem dX1_joined_51 : decode cX1_joined 51 = .ok (.ifCond .eq 7, 3) := by decide +kernel
theorem dX1_joined_54 : decode cX1_joined 54 = .ok (.iconst 1, 1) := by decide +kernel
theorem dX1_joined_55 : decode cX1_joined 55 = .ok (.goto 4, 3) := by decide +kernel
theorem dX1_joined_58 : decode cX1_joined 58 = .ok (.iconst 0, 1) := by decide +kernel
theorem dX1_joined_59 : decode cX1_joined 59 = .ok (.ireturn, 1) := by decide +kernel
theorem dX1_joined_60 : decode cX1_joined 60 = .ok (.iload_n 1, 1) := by decide +kernel
theorem dX1_joined_61 : decode cX1_joined 61 = .ok (.iload_n 2, 1) := by decide +kernel
theorem dX1_joined_62 : decode cX1_joined 62 = .ok (.if_icmp .ge 7, 3) := by decide +kernel
theorem dX1_joined_65 : decode cX1_joined 65 = .ok (.iconst 1, 1) := by decide +kernel
theorem dX1_joined_66 : decode cX1_joined 66 = .ok (.goto 4, 3) := by decide +kernel
theorem dX1_joined_69 : decode cX1_joined 69 = .ok (.iconst 0, 1) := by decide +kernel
theorem dX1_joined_70 : decode cX1_joined 70 = .ok (.ireturn, 1) := by decide +kernel
theorem dX1_joined_71 : decode cX1_joined 71 = .ok (.iload_n 1, 1) := by decide +kernel
theorem dX1_joined_72 : decode cX1_joined 72 = .ok (.iload_n 2, 1) := by decide +kernel
theorem dX1_joined_73 : decode cX1_joined 73 = .ok (.if_icmp .le 7, 3) := by decide +kernel
theorem dX1_joined_76 : decode cX1_joined 76 = .ok (.iconst 1, 1) := by decide +kernel
theorem dX1_joined_77 : decode cX1_joined 77 = .ok (.goto 4, 3) := by decide +kernel
theorem dX1_joined_80 : decode cX1_joined 80 = .ok (.iconst 0, 1) := by decide +kernel
theorem dX1_joined_81 : decode cX1_joined 81 = .ok (.ireturn, 1) := by decide +kernel
theorem dX1_joined_82 : decode cX1_joined 82 = .ok (.iload_n 1, 1) := by decide +kernel
theorem dX1_joined_83 : decode cX1_joined 83 = .ok (.iload_n 2, 1) := by decide +kernel
theorem dX1_joined_84 : decode cX1_joined 84 = .ok (.if_icmp .ne 7, 3) := by decide +kernel
theorem dX1_joined_87 : decode cX1_joined 87 = .ok (.iconst 1, 1) := by decide +kernel
theorem dX1_joined_88 : decode cX1_joined 88 = .ok (.goto 4, 3) := by decide +kernel
theorem dX1_joined_91 : decode cX1_joined 91 = .ok (.iconst 0, 1) := by decide +kernel
theorem dX1_joined_92 : decode cX1_joined 92 = .ok (.ireturn, 1) := by decide +kernel
theorem dX2_init_0 : decode cX2_init 0 = .ok (.aload_n 0, 1) := by decide +kernel
theorem dX2_init_1 : decode cX2_init 1 = .ok (.invokespecial 3, 3) := by decide +kernel
theorem dX2_init_4 : decode cX2_init 4 = .ok (.aload_n 0, 1) := by decide +kernel
theorem dX2_init_5 : decode cX2_init 5 = .ok (.bipush 60, 2) := by decide +kernel
theorem dX2_init_7 : decode cX2_init 7 = .ok (.newarray .int, 2) := by decide +kernel
theorem dX2_init_9 : decode cX2_init 9 = .ok (.putfield 9, 3) := by decide +kernel
theorem dX2_init_12 : decode cX2_init 12 = .ok (.aload_n 0, 1) := by decide +kernel
theorem dX2_init_13 : decode cX2_init 13 = .ok (.bipush 60, 2) := by decide +kernel
theorem dX2_init_15 : decode cX2_init 15 = .ok (.newarray .int, 2) := by decide +kernel
theorem dX2_init_17 : decode cX2_init 17 = .ok (.putfield 15, 3) := by decide +kernel
theorem dX2_init_20 : decode cX2_init 20 = .ok (.aload_n 0, 1) := by decide +kernel
theorem dX2_init_21 : decode cX2_init 21 = .ok (.bipush 60, 2) := by decide +kernel
theorem dX2_init_23 : decode cX2_init 23 = .ok (.newarray .int, 2) := by decide +kernel
theorem dX2_init_25 : decode cX2_init 25 = .ok (.putfield 18, 3) := by decide +kernel
theorem dX2_init_28 : decode cX2_init 28 = .ok (.return_, 1) := by decide +kernel
theorem dX2_add_0 : decode cX2_add 0 = .ok (.aload_n 0, 1) := by decide +kernel
theorem dX2_add_1 : decode cX2_add 1 = .ok (.getfield 21, 3) := by decide +kernel
theorem dX2_add_4 : decode cX2_add 4 = .ok (.bipush 60, 2) := by decide +kernel
theorem dX2_add_6 : decode cX2_add 6 = .ok (.if_icmp .lt 5, 3) := by decide +kernel
theorem dX2_add_9 : decode cX2_add 9 = .ok (.iconst (-1), 1) := by decide +kernel
theorem dX2_add_10 : decode cX2_add 10 = .ok (.ireturn, 1) := by decide +kernel
theorem dX2_add_11 : decode cX2_add 11 = .ok (.aload_n 0, 1) := by decide +kernel
theorem dX2_add_12 : decode cX2_add 12 = .ok (.getfield 9, 3) := by decide +kernel
theorem dX2_add_15 : decode cX2_add 15 = .ok (.aload_n 0, 1) := by decide +kernel
theorem dX2_add_16 : decode cX2_add 16 = .ok (.getfield 21, 3) := by decide +kernel
theorem dX2_add_19 : decode cX2_add 19 = .ok (.iload_n 1, 1) := by decide +kernel
theorem dX2_add_20 : decode cX2_add 20 = .ok (.iastore, 1) := by decide +kernel
theorem dX2_add_21 : decode cX2_add 21 = .ok (.aload_n 0, 1) := by decide +kernel
theorem dX2_add_22 : decode cX2_add 22 = .ok (.getfield 15, 3) := by decide +kernel
theorem dX2_add_25 : decode cX2_add 25 = .ok (.aload_n 0, 1) := by decide +kernel
theorem dX2_add_26 : decode cX2_add 26 = .ok (.getfield 21, 3) := by decide +kernel
theorem dX2_add_29 : decode cX2_add 29 = .ok (.iload_n 2, 1) := by decide +kernel
theorem dX2_add_30 : decode cX2_add 30 = .ok (.iastore, 1) := by decide +kernel
theorem dX2_add_31 : decode cX2_add 31 = .ok (.aload_n 0, 1) := by decide +kernel
theorem dX2_add_32 : decode cX2_add 32 = .ok (.getfield 18, 3) := by decide +kernel
theorem dX2_add_35 : decode cX2_add 35 = .ok (.aload_n 0, 1) := by decide +kernel
theorem dX2_add_36 : decode cX2_add 36 = .ok (.getfield 21, 3) := by decide +kernel
theorem dX2_add_39 : decode cX2_add 39 = .ok (.iload_n 3, 1) := by decide +kernel
theorem dX2_add_40 : decode cX2_add 40 = .ok (.iastore, 1) := by decide +kernel
theorem dX2_add_41 : decode cX2_add 41 = .ok (.aload_n 0, 1) := by decide +kernel
theorem dX2_add_42 : decode cX2_add 42 = .ok (.dup, 1) := by decide +kernel
theorem dX2_add_43 : decode cX2_add 43 = .ok (.getfield 21, 3) := by decide +kernel
theorem dX2_add_46 : decode cX2_add 46 = .ok (.iconst 1, 1) := by decide +kernel
theorem dX2_add_47 : decode cX2_add 47 = .ok (.iadd, 1) := by decide +kernel
theorem dX2_add_48 : decode cX2_add 48 = .ok (.putfield 21, 3) := by decide +kernel
theorem dX2_add_51 : decode cX2_add 51 = .ok (.iload_n 3, 1) := by decide +kernel
theorem dX2_add_52 : decode cX2_add 52 = .ok (.ireturn, 1) := by decide +kernel
theorem dX2_paid_0 : decode cX2_paid 0 = .ok (.iconst 0, 1) := by decide +kernel
theorem dX2_paid_1 : decode cX2_paid 1 = .ok (.istore 4, 2) := by decide +kernel
theorem dX2_paid_3 : decode cX2_paid 3 = .ok (.iconst 0, 1) := by decide +kernel
theorem dX2_paid_4 : decode cX2_paid 4 = .ok (.istore 5, 2) := by decide +kernel
theorem dX2_paid_6 : decode cX2_paid 6 = .ok (.iload 5, 2) := by decide +kernel
theorem dX2_paid_8 : decode cX2_paid 8 = .ok (.aload_n 0, 1) := by decide +kernel
theorem dX2_paid_9 : decode cX2_paid 9 = .ok (.getfield 21, 3) := by decide +kernel
theorem dX2_paid_12 : decode cX2_paid 12 = .ok (.if_icmp .ge 54, 3) := by decide +kernel
theorem dX2_paid_15 : decode cX2_paid 15 = .ok (.aload_n 0, 1) := by decide +kernel
theorem dX2_paid_16 : decode cX2_paid 16 = .ok (.getfield 9, 3) := by decide +kernel
theorem dX2_paid_19 : decode cX2_paid 19 = .ok (.iload 5, 2) := by decide +kernel
theorem dX2_paid_21 : decode cX2_paid 21 = .ok (.iaload, 1) := by decide +kernel
theorem dX2_paid_22 : decode cX2_paid 22 = .ok (.iload_n 1, 1) := by decide +kernel
theorem dX2_paid_23 : decode cX2_paid 23 = .ok (.if_icmp .ne 37, 3) := by decide +kernel
theorem dX2_paid_26 : decode cX2_paid 26 = .ok (.aload_n 0, 1) := by decide +kernel
theorem dX2_paid_27 : decode cX2_paid 27 = .ok (.getfield 15, 3) := by decide +kernel
theorem dX2_paid_30 : decode cX2_paid 30 = .ok (.iload 5, 2) := by decide +kernel
theorem dX2_paid_32 : decode cX2_paid 32 = .ok (.iaload, 1) := by decide +kernel
theorem dX2_paid_33 : decode cX2_paid 33 = .ok (.iload_n 2, 1) := by decide +kernel
theorem dX2_paid_34 : decode cX2_paid 34 = .ok (.if_icmp .le 26, 3) := by decide +kernel
theorem dX2_paid_37 : decode cX2_paid 37 = .ok (.aload_n 0, 1) := by decide +kernel
theorem dX2_paid_38 : decode cX2_paid 38 = .ok (.getfield 15, 3) := by decide +kernel
theorem dX2_paid_41 : decode cX2_paid 41 = .ok (.iload 5, 2) := by decide +kernel
theorem dX2_paid_43 : decode cX2_paid 43 = .ok (.iaload, 1) := by decide +kernel
theorem dX2_paid_44 : decode cX2_paid 44 = .ok (.iload_n 3, 1) := by decide +kernel
theorem dX2_paid_45 : decode cX2_paid 45 = .ok (.if_icmp .gt 15, 3) := by decide +kernel
theorem dX2_paid_48 : decode cX2_paid 48 = .ok (.iload 4, 2) := by decide +kernel
theorem dX2_paid_50 : decode cX2_paid 50 = .ok (.aload_n 0, 1) := by decide +kernel
theorem dX2_paid_51 : decode cX2_paid 51 = .ok (.getfield 18, 3) := by decide +kernel
theorem dX2_paid_54 : decode cX2_paid 54 = .ok (.iload 5, 2) := by decide +kernel
theorem dX2_paid_56 : decode cX2_paid 56 = .ok (.iaload, 1) := by decide +kernel
theorem dX2_paid_57 : decode cX2_paid 57 = .ok (.iadd, 1) := by decide +kernel
theorem dX2_paid_58 : decode cX2_paid 58 = .ok (.istore 4, 2) := by decide +kernel
theorem dX2_paid_60 : decode cX2_paid 60 = .ok (.iinc 5 1, 3) := by decide +kernel
theorem dX2_paid_63 : decode cX2_paid 63 = .ok (.goto (-57), 3) := by decide +kernel
theorem dX2_paid_66 : decode cX2_paid 66 = .ok (.iload 4, 2) := by decide +kernel
theorem dX2_paid_68 : decode cX2_paid 68 = .ok (.ireturn, 1) := by decide +kernel
theorem dX3_init_0 : decode cX3_init 0 = .ok (.aload_n 0, 1) := by decide +kernel
theorem dX3_init_1 : decode cX3_init 1 = .ok (.invokespecial 3, 3) := by decide +kernel
theorem dX3_init_4 : decode cX3_init 4 = .ok (.aload_n 0, 1) := by decide +kernel
theorem dX3_init_5 : decode cX3_init 5 = .ok (.bipush 20, 2) := by decide +kernel
theorem dX3_init_7 : decode cX3_init 7 = .ok (.newarray .int, 2) := by decide +kernel
theorem dX3_init_9 : decode cX3_init 9 = .ok (.putfield 9, 3) := by decide +kernel
theorem dX3_init_12 : decode cX3_init 12 = .ok (.aload_n 0, 1) := by decide +kernel
theorem dX3_init_13 : decode cX3_init 13 = .ok (.bipush 20, 2) := by decide +kernel
theorem dX3_init_15 : decode cX3_init 15 = .ok (.newarray .int, 2) := by decide +kernel
theorem dX3_init_17 : decode cX3_init 17 = .ok (.putfield 15, 3) := by decide +kernel
theorem dX3_init_20 : decode cX3_init 20 = .ok (.aload_n 0, 1) := by decide +kernel
theorem dX3_init_21 : decode cX3_init 21 = .ok (.bipush 20, 2) := by decide +kernel
theorem dX3_init_23 : decode cX3_init 23 = .ok (.newarray .int, 2) := by decide +kernel
theorem dX3_init_25 : decode cX3_init 25 = .ok (.putfield 18, 3) := by decide +kernel
theorem dX3_init_28 : decode cX3_init 28 = .ok (.aload_n 0, 1) := by decide +kernel
theorem dX3_init_29 : decode cX3_init 29 = .ok (.bipush 20, 2) := by decide +kernel
theorem dX3_init_31 : decode cX3_init 31 = .ok (.newarray .int, 2) := by decide +kernel
theorem dX3_init_33 : decode cX3_init 33 = .ok (.putfield 21, 3) := by decide +kernel
theorem dX3_init_36 : decode cX3_init 36 = .ok (.aload_n 0, 1) := by decide +kernel
theorem dX3_init_37 : decode cX3_init 37 = .ok (.bipush 20, 2) := by decide +kernel
theorem dX3_init_39 : decode cX3_init 39 = .ok (.newarray .int, 2) := by decide +kernel
theorem dX3_init_41 : decode cX3_init 41 = .ok (.putfield 24, 3) := by decide +kernel
theorem dX3_init_44 : decode cX3_init 44 = .ok (.aload_n 0, 1) := by decide +kernel
theorem dX3_init_45 : decode cX3_init 45 = .ok (.bipush 20, 2) := by decide +kernel
theorem dX3_init_47 : decode cX3_init 47 = .ok (.newarray .boolean, 2) := by decide +kernel
theorem dX3_init_49 : decode cX3_init 49 = .ok (.putfield 27, 3) := by decide +kernel
theorem dX3_init_52 : decode cX3_init 52 = .ok (.return_, 1) := by decide +kernel
theorem dX3_isThere_0 : decode cX3_isThere 0 = .ok (.iload_n 1, 1) := by decide +kernel
theorem dX3_isThere_1 : decode cX3_isThere 1 = .ok (.ifCond .lt 15, 3) := by decide +kernel
theorem dX3_isThere_4 : decode cX3_isThere 4 = .ok (.iload_n 1, 1) := by decide +kernel
theorem dX3_isThere_5 : decode cX3_isThere 5 = .ok (.aload_n 0, 1) := by decide +kernel
theorem dX3_isThere_6 : decode cX3_isThere 6 = .ok (.getfield 31, 3) := by decide +kernel
theorem dX3_isThere_9 : decode cX3_isThere 9 = .ok (.if_icmp .ge 7, 3) := by decide +kernel
theorem dX3_isThere_12 : decode cX3_isThere 12 = .ok (.iconst 1, 1) := by decide +kernel
theorem dX3_isThere_13 : decode cX3_isThere 13 = .ok (.goto 4, 3) := by decide +kernel
theorem dX3_isThere_16 : decode cX3_isThere 16 = .ok (.iconst 0, 1) := by decide +kernel
theorem dX3_isThere_17 : decode cX3_isThere 17 = .ok (.ireturn, 1) := by decide +kernel
theorem dX3_canBeParent_0 : decode cX3_canBeParent 0 = .ok (.iload_n 1, 1) := by decide +kernel
theorem dX3_canBeParent_1 : decode cX3_canBeParent 1 = .ok (.iconst (-1), 1) := by decide +kernel
theorem dX3_canBeParent_2 : decode cX3_canBeParent 2 = .ok (.if_icmp .eq 11, 3) := by decide +kernel
theorem dX3_canBeParent_5 : decode cX3_canBeParent 5 = .ok (.aload_n 0, 1) := by decide +kernel
theorem dX3_canBeParent_6 : decode cX3_canBeParent 6 = .ok (.iload_n 1, 1) := by decide +kernel
theorem dX3_canBeParent_7 : decode cX3_canBeParent 7 = .ok (.invokevirtual 35, 3) := by decide +kernel
theorem dX3_canBeParent_10 : decode cX3_canBeParent 10 = .ok (.ifCond .eq 7, 3) := by decide +kernel
theorem dX3_canBeParent_13 : decode cX3_canBeParent 13 = .ok (.iconst 1, 1) := by decide +kernel
theorem dX3_canBeParent_14 : decode cX3_canBeParent 14 = .ok (.goto 4, 3) := by decide +kernel
theorem dX3_canBeParent_17 : decode cX3_canBeParent 17 = .ok (.iconst 0, 1) := by decide +kernel
theorem dX3_canBeParent_18 : decode cX3_canBeParent 18 = .ok (.ireturn, 1) := by decide +kernel
theorem dX3_add_0 : decode cX3_add 0 = .ok (.aload_n 0, 1) := by decide +kernel
theorem dX3_add_1 : decode cX3_add 1 = .ok (.getfield 31, 3) := by decide +kernel
theorem dX3_add_4 : decode cX3_add 4 = .ok (.bipush 20, 2) := by decide +kernel
theorem dX3_add_6 : decode cX3_add 6 = .ok (.if_icmp .lt 5, 3) := by decide +kernel
theorem dX3_add_9 : decode cX3_add 9 = .ok (.iconst (-1), 1) := by decide +kernel
theorem dX3_add_10 : decode cX3_add 10 = .ok (.ireturn, 1) := by decide +kernel
theorem dX3_add_11 : decode cX3_add 11 = .ok (.aload_n 0, 1) := by decide +kernel
theorem dX3_add_12 : decode cX3_add 12 = .ok (.getfield 9, 3) := by decide +kernel
theorem dX3_add_15 : decode cX3_add 15 = .ok (.aload_n 0, 1) := by decide +kernel
theorem dX3_add_16 : decode cX3_add 16 = .ok (.getfield 31, 3) := by decide +kernel
theorem dX3_add_19 : decode cX3_add 19 = .ok (.iload_n 1, 1) := by decide +kernel
theorem dX3_add_20 : decode cX3_add 20 = .ok (.iastore, 1) := by decide +kernel
theorem dX3_add_21 : decode cX3_add 21 = .ok (.aload_n 0, 1) := by decide +kernel
theorem dX3_add_22 : decode cX3_add 22 = .ok (.getfield 15, 3) := by decide +kernel
theorem dX3_add_25 : decode cX3_add 25 = .ok (.aload_n 0, 1) := by decide +kernel
theorem dX3_add_26 : decode cX3_add 26 = .ok (.getfield 31, 3) := by decide +kernel
theorem dX3_add_29 : decode cX3_add 29 = .ok (.iload_n 2, 1) := by decide +kernel
theorem dX3_add_30 : decode cX3_add 30 = .ok (.iastore, 1) := by decide +kernel
theorem dX3_add_31 : decode cX3_add 31 = .ok (.aload_n 0, 1) := by decide +kernel
theorem dX3_add_32 : decode cX3_add 32 = .ok (.getfield 18, 3) := by decide +kernel
theorem dX3_add_35 : decode cX3_add 35 = .ok (.aload_n 0, 1) := by decide +kernel
theorem dX3_add_36 : decode cX3_add 36 = .ok (.getfield 31, 3) := by decide +kernel
theorem dX3_add_39 : decode cX3_add 39 = .ok (.iload_n 3, 1) := by decide +kernel
theorem dX3_add_40 : decode cX3_add 40 = .ok (.iastore, 1) := by decide +kernel
theorem dX3_add_41 : decode cX3_add 41 = .ok (.aload_n 0, 1) := by decide +kernel
theorem dX3_add_42 : decode cX3_add 42 = .ok (.getfield 21, 3) := by decide +kernel
theorem dX3_add_45 : decode cX3_add 45 = .ok (.aload_n 0, 1) := by decide +kernel
theorem dX3_add_46 : decode cX3_add 46 = .ok (.getfield 31, 3) := by decide +kernel
theorem dX3_add_49 : decode cX3_add 49 = .ok (.iconst (-1), 1) := by decide +kernel
theorem dX3_add_50 : decode cX3_add 50 = .ok (.iastore, 1) := by decide +kernel
theorem dX3_add_51 : decode cX3_add 51 = .ok (.aload_n 0, 1) := by decide +kernel
theorem dX3_add_52 : decode cX3_add 52 = .ok (.dup, 1) := by decide +kernel
theorem dX3_add_53 : decode cX3_add 53 = .ok (.getfield 31, 3) := by decide +kernel
theorem dX3_add_56 : decode cX3_add 56 = .ok (.iconst 1, 1) := by decide +kernel
theorem dX3_add_57 : decode cX3_add 57 = .ok (.iadd, 1) := by decide +kernel
theorem dX3_add_58 : decode cX3_add 58 = .ok (.putfield 31, 3) := by decide +kernel
theorem dX3_add_61 : decode cX3_add 61 = .ok (.aload_n 0, 1) := by decide +kernel
theorem dX3_add_62 : decode cX3_add 62 = .ok (.getfield 31, 3) := by decide +kernel
theorem dX3_add_65 : decode cX3_add 65 = .ok (.iconst 1, 1) := by decide +kernel
theorem dX3_add_66 : decode cX3_add 66 = .ok (.isub, 1) := by decide +kernel
theorem dX3_add_67 : decode cX3_add 67 = .ok (.ireturn, 1) := by decide +kernel
theorem dX3_folkOf_0 : decode cX3_folkOf 0 = .ok (.aload_n 0, 1) := by decide +kernel
theorem dX3_folkOf_1 : decode cX3_folkOf 1 = .ok (.iload_n 1, 1) := by decide +kernel
theorem dX3_folkOf_2 : decode cX3_folkOf 2 = .ok (.invokevirtual 35, 3) := by decide +kernel
theorem dX3_folkOf_5 : decode cX3_folkOf 5 = .ok (.ifCond .eq 12, 3) := by decide +kernel
theorem dX3_folkOf_8 : decode cX3_folkOf 8 = .ok (.aload_n 0, 1) := by decide +kernel
theorem dX3_folkOf_9 : decode cX3_folkOf 9 = .ok (.getfield 9, 3) := by decide +kernel
theorem dX3_folkOf_12 : decode cX3_folkOf 12 = .ok (.iload_n 1, 1) := by decide +kernel
theorem dX3_folkOf_13 : decode cX3_folkOf 13 = .ok (.iaload, 1) := by decide +kernel
theorem dX3_folkOf_14 : decode cX3_folkOf 14 = .ok (.goto 4, 3) := by decide +kernel
theorem dX3_folkOf_17 : decode cX3_folkOf 17 = .ok (.iconst (-1), 1) := by decide +kernel
theorem dX3_folkOf_18 : decode cX3_folkOf 18 = .ok (.ireturn, 1) := by decide +kernel
theorem dX3_bury_0 : decode cX3_bury 0 = .ok (.aload_n 0, 1) := by decide +kernel
theorem dX3_bury_1 : decode cX3_bury 1 = .ok (.iload_n 1, 1) := by decide +kernel
theorem dX3_bury_2 : decode cX3_bury 2 = .ok (.invokevirtual 35, 3) := by decide +kernel
theorem dX3_bury_5 : decode cX3_bury 5 = .ok (.ifCond .eq 13, 3) := by decide +kernel
theorem dX3_bury_8 : decode cX3_bury 8 = .ok (.aload_n 0, 1) := by decide +kernel
theorem dX3_bury_9 : decode cX3_bury 9 = .ok (.getfield 21, 3) := by decide +kernel
theorem dX3_bury_12 : decode cX3_bury 12 = .ok (.iload_n 1, 1) := by decide +kernel
theorem dX3_bury_13 : decode cX3_bury 13 = .ok (.iaload, 1) := by decide +kernel
theorem dX3_bury_14 : decode cX3_bury 14 = .ok (.iconst (-1), 1) := by decide +kernel
theorem dX3_bury_15 : decode cX3_bury 15 = .ok (.if_icmp .eq 5, 3) := by decide +kernel
theorem dX3_bury_18 : decode cX3_bury 18 = .ok (.iconst 0, 1) := by decide +kernel
theorem dX3_bury_19 : decode cX3_bury 19 = .ok (.ireturn, 1) := by decide +kernel
theorem dX3_bury_20 : decode cX3_bury 20 = .ok (.aload_n 0, 1) := by decide +kernel
theorem dX3_bury_21 : decode cX3_bury 21 = .ok (.getfield 21, 3) := by decide +kernel
theorem dX3_bury_24 : decode cX3_bury 24 = .ok (.iload_n 1, 1) := by decide +kernel
theorem dX3_bury_25 : decode cX3_bury 25 = .ok (.iload_n 2, 1) := by decide +kernel
theorem dX3_bury_26 : decode cX3_bury 26 = .ok (.iastore, 1) := by decide +kernel
theorem dX3_bury_27 : decode cX3_bury 27 = .ok (.iconst 1, 1) := by decide +kernel
theorem dX3_bury_28 : decode cX3_bury 28 = .ok (.ireturn, 1) := by decide +kernel
theorem dX3_deadOn_0 : decode cX3_deadOn 0 = .ok (.aload_n 0, 1) := by decide +kernel
theorem dX3_deadOn_1 : decode cX3_deadOn 1 = .ok (.iload_n 1, 1) := by decide +kernel
theorem dX3_deadOn_2 : decode cX3_deadOn 2 = .ok (.invokevirtual 35, 3) := by decide +kernel
theorem dX3_deadOn_5 : decode cX3_deadOn 5 = .ok (.ifCond .eq 27, 3) := by decide +kernel
theorem dX3_deadOn_8 : decode cX3_deadOn 8 = .ok (.aload_n 0, 1) := by decide +kernel
theorem dX3_deadOn_9 : decode cX3_deadOn 9 = .ok (.getfield 21, 3) := by decide +kernel
theorem dX3_deadOn_12 : decode cX3_deadOn 12 = .ok (.iload_n 1, 1) := by decide +kernel
theorem dX3_deadOn_13 : decode cX3_deadOn 13 = .ok (.iaload, 1) := by decide +kernel
theorem dX3_deadOn_14 : decode cX3_deadOn 14 = .ok (.iconst (-1), 1) := by decide +kernel
theorem dX3_deadOn_15 : decode cX3_deadOn 15 = .ok (.if_icmp .eq 17, 3) := by decide +kernel
theorem dX3_deadOn_18 : decode cX3_deadOn 18 = .ok (.aload_n 0, 1) := by decide +kernel
theorem dX3_deadOn_19 : decode cX3_deadOn 19 = .ok (.getfield 21, 3) := by decide +kernel
theorem dX3_deadOn_22 : decode cX3_deadOn 22 = .ok (.iload_n 1, 1) := by decide +kernel
theorem dX3_deadOn_23 : decode cX3_deadOn 23 = .ok (.iaload, 1) := by decide +kernel
theorem dX3_deadOn_24 : decode cX3_deadOn 24 = .ok (.iload_n 2, 1) := by decide +kernel
theorem dX3_deadOn_25 : decode cX3_deadOn 25 = .ok (.if_icmp .gt 7, 3) := by decide +kernel
theorem dX3_deadOn_28 : decode cX3_deadOn 28 = .ok (.iconst 1, 1) := by decide +kernel
theorem dX3_deadOn_29 : decode cX3_deadOn 29 = .ok (.goto 4, 3) := by decide +kernel
theorem dX3_deadOn_32 : decode cX3_deadOn 32 = .ok (.iconst 0, 1) := by decide +kernel
theorem dX3_deadOn_33 : decode cX3_deadOn 33 = .ok (.ireturn, 1) := by decide +kernel
theorem dX3_stepsBetween_0 : decode cX3_stepsBetween 0 = .ok (.aload_n 0, 1) := by decide +kernel
theorem dX3_stepsBetween_1 : decode cX3_stepsBetween 1 = .ok (.iload_n 1, 1) := by decide +kernel
theorem dX3_stepsBetween_2 : decode cX3_stepsBetween 2 = .ok (.invokevirtual 35, 3) := by decide +kernel
theorem dX3_stepsBetween_5 : decode cX3_stepsBetween 5 = .ok (.ifCond .eq 11, 3) := by decide +kernel
theorem dX3_stepsBetween_8 : decode cX3_stepsBetween 8 = .ok (.aload_n 0, 1) := by decide +kernel
theorem dX3_stepsBetween_9 : decode cX3_stepsBetween 9 = .ok (.iload_n 2, 1) := by decide +kernel
theorem dX3_stepsBetween_10 : decode cX3_stepsBetween 10 = .ok (.invokevirtual 35, 3) := by decide +kernel
theorem dX3_stepsBetween_13 : decode cX3_stepsBetween 13 = .ok (.ifCond .ne 5, 3) := by decide +kernel
theorem dX3_stepsBetween_16 : decode cX3_stepsBetween 16 = .ok (.iconst (-1), 1) := by decide +kernel
theorem dX3_stepsBetween_17 : decode cX3_stepsBetween 17 = .ok (.ireturn, 1) := by decide +kernel
theorem dX3_stepsBetween_18 : decode cX3_stepsBetween 18 = .ok (.aload_n 0, 1) := by decide +kernel
theorem dX3_stepsBetween_19 : decode cX3_stepsBetween 19 = .ok (.iload_n 1, 1) := by decide +kernel
theorem dX3_stepsBetween_20 : decode cX3_stepsBetween 20 = .ok (.invokevirtual 39, 3) := by decide +kernel
theorem dX3_stepsBetween_23 : decode cX3_stepsBetween 23 = .ok (.aload_n 0, 1) := by decide +kernel
theorem dX3_stepsBetween_24 : decode cX3_stepsBetween 24 = .ok (.getfield 24, 3) := by decide +kernel
theorem dX3_stepsBetween_27 : decode cX3_stepsBetween 27 = .ok (.iload_n 2, 1) := by decide +kernel
theorem dX3_stepsBetween_28 : decode cX3_stepsBetween 28 = .ok (.iaload, 1) := by decide +kernel
theorem dX3_stepsBetween_29 : decode cX3_stepsBetween 29 = .ok (.ireturn, 1) := by decide +kernel
theorem dX3_measureFrom_0 : decode cX3_measureFrom 0 = .ok (.iconst 0, 1) := by decide +kernel
theorem dX3_measureFrom_1 : decode cX3_measureFrom 1 = .ok (.istore_n 2, 1) := by decide +kernel
theorem dX3_measureFrom_2 : decode cX3_measureFrom 2 = .ok (.iload_n 2, 1) := by decide +kernel
theorem dX3_measureFrom_3 : decode cX3_measureFrom 3 = .ok (.aload_n 0, 1) := by decide +kernel
theorem dX3_measureFrom_4 : decode cX3_measureFrom 4 = .ok (.getfield 31, 3) := by decide +kernel
theorem dX3_measureFrom_7 : decode cX3_measureFrom 7 = .ok (.if_icmp .ge 25, 3) := by decide +kernel
theorem dX3_measureFrom_10 : decode cX3_measureFrom 10 = .ok (.aload_n 0, 1) := by decide +kernel
theorem dX3_measureFrom_11 : decode cX3_measureFrom 11 = .ok (.getfield 24, 3) := by decide +kernel
theorem dX3_measureFrom_14 : decode cX3_measureFrom 14 = .ok (.iload_n 2, 1) := by decide +kernel
theorem dX3_measureFrom_15 : decode cX3_measureFrom 15 = .ok (.iload_n 2, 1) := by decide +kernel
theorem dX3_measureFrom_16 : decode cX3_measureFrom 16 = .ok (.iload_n 1, 1) := by decide +kernel
theorem dX3_measureFrom_17 : decode cX3_measureFrom 17 = .ok (.if_icmp .ne 7, 3) := by decide +kernel
theorem dX3_measureFrom_20 : decode cX3_measureFrom 20 = .ok (.iconst 0, 1) := by decide +kernel
theorem dX3_measureFrom_21 : decode cX3_measureFrom 21 = .ok (.goto 4, 3) := by decide +kernel
theorem dX3_measureFrom_24 : decode cX3_measureFrom 24 = .ok (.iconst (-1), 1) := by decide +kernel
theorem dX3_measureFrom_25 : decode cX3_measureFrom 25 = .ok (.iastore, 1) := by decide +kernel
theorem dX3_measureFrom_26 : decode cX3_measureFrom 26 = .ok (.iinc 2 1, 3) := by decide +kernel
theorem dX3_measureFrom_29 : decode cX3_measureFrom 29 = .ok (.goto (-27), 3) := by decide +kernel
theorem dX3_measureFrom_32 : decode cX3_measureFrom 32 = .ok (.iconst 0, 1) := by decide +kernel
theorem dX3_measureFrom_33 : decode cX3_measureFrom 33 = .ok (.istore_n 2, 1) := by decide +kernel
theorem dX3_measureFrom_34 : decode cX3_measureFrom 34 = .ok (.iload_n 2, 1) := by decide +kernel
theorem dX3_measureFrom_35 : decode cX3_measureFrom 35 = .ok (.aload_n 0, 1) := by decide +kernel
theorem dX3_measureFrom_36 : decode cX3_measureFrom 36 = .ok (.getfield 31, 3) := by decide +kernel
theorem dX3_measureFrom_39 : decode cX3_measureFrom 39 = .ok (.if_icmp .ge 49, 3) := by decide +kernel
theorem dX3_measureFrom_42 : decode cX3_measureFrom 42 = .ok (.iconst 0, 1) := by decide +kernel
theorem dX3_measureFrom_43 : decode cX3_measureFrom 43 = .ok (.istore_n 3, 1) := by decide +kernel
theorem dX3_measureFrom_44 : decode cX3_measureFrom 44 = .ok (.iload_n 3, 1) := by decide +kernel
theorem dX3_measureFrom_45 : decode cX3_measureFrom 45 = .ok (.aload_n 0, 1) := by decide +kernel
theorem dX3_measureFrom_46 : decode cX3_measureFrom 46 = .ok (.getfield 31, 3) := by decide +kernel
theorem dX3_measureFrom_49 : decode cX3_measureFrom 49 = .ok (.if_icmp .ge 33, 3) := by decide +kernel
theorem dX3_measureFrom_52 : decode cX3_measureFrom 52 = .ok (.aload_n 0, 1) := by decide +kernel
theorem dX3_measureFrom_53 : decode cX3_measureFrom 53 = .ok (.iload_n 3, 1) := by decide +kernel
theorem dX3_measureFrom_54 : decode cX3_measureFrom 54 = .ok (.aload_n 0, 1) := by decide +kernel
theorem dX3_measureFrom_55 : decode cX3_measureFrom 55 = .ok (.getfield 15, 3) := by decide +kernel
theorem dX3_measureFrom_58 : decode cX3_measureFrom 58 = .ok (.iload_n 3, 1) := by decide +kernel
theorem dX3_measureFrom_59 : decode cX3_measureFrom 59 = .ok (.iaload, 1) := by decide +kernel
theorem dX3_measureFrom_60 : decode cX3_measureFrom 60 = .ok (.iload_n 2, 1) := by decide +kernel
theorem dX3_measureFrom_61 : decode cX3_measureFrom 61 = .ok (.invokevirtual 43, 3) := by decide +kernel
theorem dX3_measureFrom_64 : decode cX3_measureFrom 64 = .ok (.aload_n 0, 1) := by decide +kernel
theorem dX3_measureFrom_65 : decode cX3_measureFrom 65 = .ok (.iload_n 3, 1) := by decide +kernel
theorem dX3_measureFrom_66 : decode cX3_measureFrom 66 = .ok (.aload_n 0, 1) := by decide +kernel
theorem dX3_measureFrom_67 : decode cX3_measureFrom 67 = .ok (.getfield 18, 3) := by decide +kernel
theorem dX3_measureFrom_70 : decode cX3_measureFrom 70 = .ok (.iload_n 3, 1) := by decide +kernel
theorem dX3_measureFrom_71 : decode cX3_measureFrom 71 = .ok (.iaload, 1) := by decide +kernel
theorem dX3_measureFrom_72 : decode cX3_measureFrom 72 = .ok (.iload_n 2, 1) := by decide +kernel
theorem dX3_measureFrom_73 : decode cX3_measureFrom 73 = .ok (.invokevirtual 43, 3) := by decide +kernel
theorem dX3_measureFrom_76 : decode cX3_measureFrom 76 = .ok (.iinc 3 1, 3) := by decide +kernel
theorem dX3_measureFrom_79 : decode cX3_measureFrom 79 = .ok (.goto (-35), 3) := by decide +kernel
theorem dX3_measureFrom_82 : decode cX3_measureFrom 82 = .ok (.iinc 2 1, 3) := by decide +kernel
theorem dX3_measureFrom_85 : decode cX3_measureFrom 85 = .ok (.goto (-51), 3) := by decide +kernel
theorem dX3_measureFrom_88 : decode cX3_measureFrom 88 = .ok (.return_, 1) := by decide +kernel
theorem dX3_stepBetween_0 : decode cX3_stepBetween 0 = .ok (.aload_n 0, 1) := by decide +kernel
theorem dX3_stepBetween_1 : decode cX3_stepBetween 1 = .ok (.iload_n 2, 1) := by decide +kernel
theorem dX3_stepBetween_2 : decode cX3_stepBetween 2 = .ok (.invokevirtual 35, 3) := by decide +kernel
theorem dX3_stepBetween_5 : decode cX3_stepBetween 5 = .ok (.ifCond .ne 4, 3) := by decide +kernel
theorem dX3_stepBetween_8 : decode cX3_stepBetween 8 = .ok (.return_, 1) := by decide +kernel
theorem dX3_stepBetween_9 : decode cX3_stepBetween 9 = .ok (.aload_n 0, 1) := by decide +kernel
theorem dX3_stepBetween_10 : decode cX3_stepBetween 10 = .ok (.getfield 24, 3) := by decide +kernel
theorem dX3_stepBetween_13 : decode cX3_stepBetween 13 = .ok (.iload_n 1, 1) := by decide +kernel
theorem dX3_stepBetween_14 : decode cX3_stepBetween 14 = .ok (.iaload, 1) := by decide +kernel
theorem dX3_stepBetween_15 : decode cX3_stepBetween 15 = .ok (.iload_n 3, 1) := by decide +kernel
theorem dX3_stepBetween_16 : decode cX3_stepBetween 16 = .ok (.if_icmp .ne 25, 3) := by decide +kernel
theorem dX3_stepBetween_19 : decode cX3_stepBetween 19 = .ok (.aload_n 0, 1) := by decide +kernel
theorem dX3_stepBetween_20 : decode cX3_stepBetween 20 = .ok (.getfield 24, 3) := by decide +kernel
theorem dX3_stepBetween_23 : decode cX3_stepBetween 23 = .ok (.iload_n 2, 1) := by decide +kernel
theorem dX3_stepBetween_24 : decode cX3_stepBetween 24 = .ok (.iaload, 1) := by decide +kernel
theorem dX3_stepBetween_25 : decode cX3_stepBetween 25 = .ok (.iconst (-1), 1) := by decide +kernel
theorem dX3_stepBetween_26 : decode cX3_stepBetween 26 = .ok (.if_icmp .ne 15, 3) := by decide +kernel
theorem dX3_stepBetween_29 : decode cX3_stepBetween 29 = .ok (.aload_n 0, 1) := by decide +kernel
theorem dX3_stepBetween_30 : decode cX3_stepBetween 30 = .ok (.getfield 24, 3) := by decide +kernel
theorem dX3_stepBetween_33 : decode cX3_stepBetween 33 = .ok (.iload_n 2, 1) := by decide +kernel
theorem dX3_stepBetween_34 : decode cX3_stepBetween 34 = .ok (.iload_n 3, 1) := by decide +kernel
theorem dX3_stepBetween_35 : decode cX3_stepBetween 35 = .ok (.iconst 1, 1) := by decide +kernel
theorem dX3_stepBetween_36 : decode cX3_stepBetween 36 = .ok (.iadd, 1) := by decide +kernel
theorem dX3_stepBetween_37 : decode cX3_stepBetween 37 = .ok (.iastore, 1) := by decide +kernel
theorem dX3_stepBetween_38 : decode cX3_stepBetween 38 = .ok (.goto 32, 3) := by decide +kernel
theorem dX3_stepBetween_41 : decode cX3_stepBetween 41 = .ok (.aload_n 0, 1) := by decide +kernel
theorem dX3_stepBetween_42 : decode cX3_stepBetween 42 = .ok (.getfield 24, 3) := by decide +kernel
theorem dX3_stepBetween_45 : decode cX3_stepBetween 45 = .ok (.iload_n 2, 1) := by decide +kernel
theorem dX3_stepBetween_46 : decode cX3_stepBetween 46 = .ok (.iaload, 1) := by decide +kernel
theorem dX3_stepBetween_47 : decode cX3_stepBetween 47 = .ok (.iload_n 3, 1) := by decide +kernel
theorem dX3_stepBetween_48 : decode cX3_stepBetween 48 = .ok (.if_icmp .ne 22, 3) := by decide +kernel
theorem dX3_stepBetween_51 : decode cX3_stepBetween 51 = .ok (.aload_n 0, 1) := by decide +kernel
theorem dX3_stepBetween_52 : decode cX3_stepBetween 52 = .ok (.getfield 24, 3) := by decide +kernel
theorem dX3_stepBetween_55 : decode cX3_stepBetween 55 = .ok (.iload_n 1, 1) := by decide +kernel
theorem dX3_stepBetween_56 : decode cX3_stepBetween 56 = .ok (.iaload, 1) := by decide +kernel
theorem dX3_stepBetween_57 : decode cX3_stepBetween 57 = .ok (.iconst (-1), 1) := by decide +kernel
theorem dX3_stepBetween_58 : decode cX3_stepBetween 58 = .ok (.if_icmp .ne 12, 3) := by decide +kernel
theorem dX3_stepBetween_61 : decode cX3_stepBetween 61 = .ok (.aload_n 0, 1) := by decide +kernel
theorem dX3_stepBetween_62 : decode cX3_stepBetween 62 = .ok (.getfield 24, 3) := by decide +kernel
theorem dX3_stepBetween_65 : decode cX3_stepBetween 65 = .ok (.iload_n 1, 1) := by decide +kernel
theorem dX3_stepBetween_66 : decode cX3_stepBetween 66 = .ok (.iload_n 3, 1) := by decide +kernel
theorem dX3_stepBetween_67 : decode cX3_stepBetween 67 = .ok (.iconst 1, 1) := by decide +kernel
theorem dX3_stepBetween_68 : decode cX3_stepBetween 68 = .ok (.iadd, 1) := by decide +kernel
theorem dX3_stepBetween_69 : decode cX3_stepBetween 69 = .ok (.iastore, 1) := by decide +kernel
theorem dX3_stepBetween_70 : decode cX3_stepBetween 70 = .ok (.return_, 1) := by decide +kernel
theorem dX3_pickSharers_0 : decode cX3_pickSharers 0 = .ok (.aload_n 0, 1) := by decide +kernel
theorem dX3_pickSharers_1 : decode cX3_pickSharers 1 = .ok (.iconst 0, 1) := by decide +kernel
theorem dX3_pickSharers_2 : decode cX3_pickSharers 2 = .ok (.putfield 47, 3) := by decide +kernel
theorem dX3_pickSharers_5 : decode cX3_pickSharers 5 = .ok (.iconst 0, 1) := by decide +kernel
theorem dX3_pickSharers_6 : decode cX3_pickSharers 6 = .ok (.istore 5, 2) := by decide +kernel
theorem dX3_pickSharers_8 : decode cX3_pickSharers 8 = .ok (.iload 5, 2) := by decide +kernel
theorem dX3_pickSharers_10 : decode cX3_pickSharers 10 = .ok (.aload_n 0, 1) := by decide +kernel
theorem dX3_pickSharers_11 : decode cX3_pickSharers 11 = .ok (.getfield 31, 3) := by decide +kernel
theorem dX3_pickSharers_14 : decode cX3_pickSharers 14 = .ok (.if_icmp .ge 88, 3) := by decide +kernel
theorem dX3_pickSharers_17 : decode cX3_pickSharers 17 = .ok (.aload_n 0, 1) := by decide +kernel
theorem dX3_pickSharers_18 : decode cX3_pickSharers 18 = .ok (.getfield 27, 3) := by decide +kernel
theorem dX3_pickSharers_21 : decode cX3_pickSharers 21 = .ok (.iload 5, 2) := by decide +kernel
theorem dX3_pickSharers_23 : decode cX3_pickSharers 23 = .ok (.aload_n 0, 1) := by decide +kernel
theorem dX3_pickSharers_24 : decode cX3_pickSharers 24 = .ok (.getfield 24, 3) := by decide +kernel
theorem dX3_pickSharers_27 : decode cX3_pickSharers 27 = .ok (.iload 5, 2) := by decide +kernel
theorem dX3_pickSharers_29 : decode cX3_pickSharers 29 = .ok (.iaload, 1) := by decide +kernel
theorem dX3_pickSharers_30 : decode cX3_pickSharers 30 = .ok (.iload_n 3, 1) := by decide +kernel
theorem dX3_pickSharers_31 : decode cX3_pickSharers 31 = .ok (.if_icmp .ne 39, 3) := by decide +kernel
theorem dX3_pickSharers_34 : decode cX3_pickSharers 34 = .ok (.iload 5, 2) := by decide +kernel
theorem dX3_pickSharers_36 : decode cX3_pickSharers 36 = .ok (.iload_n 2, 1) := by decide +kernel
theorem dX3_pickSharers_37 : decode cX3_pickSharers 37 = .ok (.if_icmp .eq 33, 3) := by decide +kernel
theorem dX3_pickSharers_40 : decode cX3_pickSharers 40 = .ok (.aload_n 0, 1) := by decide +kernel
theorem dX3_pickSharers_41 : decode cX3_pickSharers 41 = .ok (.getfield 9, 3) := by decide +kernel
theorem dX3_pickSharers_44 : decode cX3_pickSharers 44 = .ok (.iload 5, 2) := by decide +kernel
theorem dX3_pickSharers_46 : decode cX3_pickSharers 46 = .ok (.iaload, 1) := by decide +kernel
theorem dX3_pickSharers_47 : decode cX3_pickSharers 47 = .ok (.aload_n 0, 1) := by decide +kernel
theorem dX3_pickSharers_48 : decode cX3_pickSharers 48 = .ok (.iload_n 1, 1) := by decide +kernel
theorem dX3_pickSharers_49 : decode cX3_pickSharers 49 = .ok (.invokevirtual 50, 3) := by decide +kernel
theorem dX3_pickSharers_52 : decode cX3_pickSharers 52 = .ok (.if_icmp .ne 18, 3) := by decide +kernel
theorem dX3_pickSharers_55 : decode cX3_pickSharers 55 = .ok (.aload_n 0, 1) := by decide +kernel
theorem dX3_pickSharers_56 : decode cX3_pickSharers 56 = .ok (.iload 5, 2) := by decide +kernel
theorem dX3_pickSharers_58 : decode cX3_pickSharers 58 = .ok (.iload 4, 2) := by decide +kernel
theorem dX3_pickSharers_60 : decode cX3_pickSharers 60 = .ok (.invokevirtual 54, 3) := by decide +kernel
theorem dX3_pickSharers_63 : decode cX3_pickSharers 63 = .ok (.ifCond .ne 7, 3) := by decide +kernel
theorem dX3_pickSharers_66 : decode cX3_pickSharers 66 = .ok (.iconst 1, 1) := by decide +kernel
theorem dX3_pickSharers_67 : decode cX3_pickSharers 67 = .ok (.goto 4, 3) := by decide +kernel
theorem dX3_pickSharers_70 : decode cX3_pickSharers 70 = .ok (.iconst 0, 1) := by decide +kernel
theorem dX3_pickSharers_71 : decode cX3_pickSharers 71 = .ok (.bastore, 1) := by decide +kernel
theorem dX3_pickSharers_72 : decode cX3_pickSharers 72 = .ok (.aload_n 0, 1) := by decide +kernel
theorem dX3_pickSharers_73 : decode cX3_pickSharers 73 = .ok (.dup, 1) := by decide +kernel
theorem dX3_pickSharers_74 : decode cX3_pickSharers 74 = .ok (.getfield 47, 3) := by decide +kernel
theorem dX3_pickSharers_77 : decode cX3_pickSharers 77 = .ok (.aload_n 0, 1) := by decide +kernel
theorem dX3_pickSharers_78 : decode cX3_pickSharers 78 = .ok (.getfield 27, 3) := by decide +kernel
theorem dX3_pickSharers_81 : decode cX3_pickSharers 81 = .ok (.iload 5, 2) := by decide +kernel
theorem dX3_pickSharers_83 : decode cX3_pickSharers 83 = .ok (.baload, 1) := by decide +kernel
theorem dX3_pickSharers_84 : decode cX3_pickSharers 84 = .ok (.ifCond .eq 7, 3) := by decide +kernel
theorem dX3_pickSharers_87 : decode cX3_pickSharers 87 = .ok (.iconst 1, 1) := by decide +kernel
theorem dX3_pickSharers_88 : decode cX3_pickSharers 88 = .ok (.goto 4, 3) := by decide +kernel
theorem dX3_pickSharers_91 : decode cX3_pickSharers 91 = .ok (.iconst 0, 1) := by decide +kernel
theorem dX3_pickSharers_92 : decode cX3_pickSharers 92 = .ok (.iadd, 1) := by decide +kernel
theorem dX3_pickSharers_93 : decode cX3_pickSharers 93 = .ok (.putfield 47, 3) := by decide +kernel
theorem dX3_pickSharers_96 : decode cX3_pickSharers 96 = .ok (.iinc 5 1, 3) := by decide +kernel
theorem dX3_pickSharers_99 : decode cX3_pickSharers 99 = .ok (.goto (-91), 3) := by decide +kernel
theorem dX3_pickSharers_102 : decode cX3_pickSharers 102 = .ok (.return_, 1) := by decide +kernel
theorem dX4_init_0 : decode cX4_init 0 = .ok (.aload_n 0, 1) := by decide +kernel
theorem dX4_init_1 : decode cX4_init 1 = .ok (.invokespecial 3, 3) := by decide +kernel
theorem dX4_init_4 : decode cX4_init 4 = .ok (.aload_n 0, 1) := by decide +kernel
theorem dX4_init_5 : decode cX4_init 5 = .ok (.iconst (-1), 1) := by decide +kernel
theorem dX4_init_6 : decode cX4_init 6 = .ok (.putfield 9, 3) := by decide +kernel
theorem dX4_init_9 : decode cX4_init 9 = .ok (.aload_n 0, 1) := by decide +kernel
theorem dX4_init_10 : decode cX4_init 10 = .ok (.aload_n 1, 1) := by decide +kernel
theorem dX4_init_11 : decode cX4_init 11 = .ok (.putfield 15, 3) := by decide +kernel
theorem dX4_init_14 : decode cX4_init 14 = .ok (.aload_n 0, 1) := by decide +kernel
theorem dX4_init_15 : decode cX4_init 15 = .ok (.aload_n 2, 1) := by decide +kernel
theorem dX4_init_16 : decode cX4_init 16 = .ok (.putfield 19, 3) := by decide +kernel
theorem dX4_init_19 : decode cX4_init 19 = .ok (.aload_n 0, 1) := by decide +kernel
theorem dX4_init_20 : decode cX4_init 20 = .ok (.aload_n 1, 1) := by decide +kernel
theorem dX4_init_21 : decode cX4_init 21 = .ok (.getfield 23, 3) := by decide +kernel
theorem dX4_init_24 : decode cX4_init 24 = .ok (.iconst 0, 1) := by decide +kernel
theorem dX4_init_25 : decode cX4_init 25 = .ok (.laload, 1) := by decide +kernel
theorem dX4_init_26 : decode cX4_init 26 = .ok (.putfield 29, 3) := by decide +kernel
theorem dX4_init_29 : decode cX4_init 29 = .ok (.return_, 1) := by decide +kernel
theorem dX4_readText_0 : decode cX4_readText 0 = .ok (.iconst 1, 1) := by decide +kernel
theorem dX4_readText_1 : decode cX4_readText 1 = .ok (.istore_n 1, 1) := by decide +kernel
theorem dX4_readText_2 : decode cX4_readText 2 = .ok (.iconst 0, 1) := by decide +kernel
theorem dX4_readText_3 : decode cX4_readText 3 = .ok (.istore_n 2, 1) := by decide +kernel
theorem dX4_readText_4 : decode cX4_readText 4 = .ok (.iload_n 2, 1) := by decide +kernel
theorem dX4_readText_5 : decode cX4_readText 5 = .ok (.sipush 700, 3) := by decide +kernel
theorem dX4_readText_8 : decode cX4_readText 8 = .ok (.if_icmp .gt 123, 3) := by decide +kernel
theorem dX4_readText_11 : decode cX4_readText 11 = .ok (.iload_n 1, 1) := by decide +kernel
theorem dX4_readText_12 : decode cX4_readText 12 = .ok (.ifCond .eq 119, 3) := by decide +kernel
theorem dX4_readText_15 : decode cX4_readText 15 = .ok (.aload_n 0, 1) := by decide +kernel
theorem dX4_readText_16 : decode cX4_readText 16 = .ok (.getfield 29, 3) := by decide +kernel
theorem dX4_readText_19 : decode cX4_readText 19 = .ok (.lconst 1, 1) := by decide +kernel
theorem dX4_readText_20 : decode cX4_readText 20 = .ok (.lcmp, 1) := by decide +kernel
theorem dX4_readText_21 : decode cX4_readText 21 = .ok (.ifCond .eq 110, 3) := by decide +kernel
theorem dX4_readText_24 : decode cX4_readText 24 = .ok (.aload_n 0, 1) := by decide +kernel
theorem dX4_readText_25 : decode cX4_readText 25 = .ok (.getfield 29, 3) := by decide +kernel
theorem dX4_readText_28 : decode cX4_readText 28 = .ok (.ldc2_w 33, 3) := by decide +kernel
theorem dX4_readText_31 : decode cX4_readText 31 = .ok (.lcmp, 1) := by decide +kernel
theorem dX4_readText_32 : decode cX4_readText 32 = .ok (.ifCond .ne 11, 3) := by decide +kernel
theorem dX4_readText_35 : decode cX4_readText 35 = .ok (.aload_n 0, 1) := by decide +kernel
theorem dX4_readText_36 : decode cX4_readText 36 = .ok (.invokevirtual 35, 3) := by decide +kernel
theorem dX4_readText_39 : decode cX4_readText 39 = .ok (.istore_n 1, 1) := by decide +kernel
theorem dX4_readText_40 : decode cX4_readText 40 = .ok (.goto 85, 3) := by decide +kernel
theorem dX4_readText_43 : decode cX4_readText 43 = .ok (.aload_n 0, 1) := by decide +kernel
theorem dX4_readText_44 : decode cX4_readText 44 = .ok (.getfield 29, 3) := by decide +kernel
theorem dX4_readText_47 : decode cX4_readText 47 = .ok (.ldc2_w 39, 3) := by decide +kernel
theorem dX4_readText_50 : decode cX4_readText 50 = .ok (.lcmp, 1) := by decide +kernel
theorem dX4_readText_51 : decode cX4_readText 51 = .ok (.ifCond .ne 11, 3) := by decide +kernel
theorem dX4_readText_54 : decode cX4_readText 54 = .ok (.aload_n 0, 1) := by decide +kernel
theorem dX4_readText_55 : decode cX4_readText 55 = .ok (.invokevirtual 41, 3) := by decide +kernel
theorem dX4_readText_58 : decode cX4_readText 58 = .ok (.istore_n 1, 1) := by decide +kernel
theorem dX4_readText_59 : decode cX4_readText 59 = .ok (.goto 66, 3) := by decide +kernel
theorem dX4_readText_62 : decode cX4_readText 62 = .ok (.aload_n 0, 1) := by decide +kernel
theorem dX4_readText_63 : decode cX4_readText 63 = .ok (.getfield 29, 3) := by decide +kernel
theorem dX4_readText_66 : decode cX4_readText 66 = .ok (.ldc2_w 44, 3) := by decide +kernel
theorem dX4_readText_69 : decode cX4_readText 69 = .ok (.lcmp, 1) := by decide +kernel
theorem dX4_readText_70 : decode cX4_readText 70 = .ok (.ifCond .ne 11, 3) := by decide +kernel
theorem dX4_readText_73 : decode cX4_readText 73 = .ok (.aload_n 0, 1) := by decide +kernel
theorem dX4_readText_74 : decode cX4_readText 74 = .ok (.invokevirtual 46, 3) := by decide +kernel
theorem dX4_readText_77 : decode cX4_readText 77 = .ok (.istore_n 1, 1) := by decide +kernel
theorem dX4_readText_78 : decode cX4_readText 78 = .ok (.goto 47, 3) := by decide +kernel
theorem dX4_readText_81 : decode cX4_readText 81 = .ok (.aload_n 0, 1) := by decide +kernel
theorem dX4_readText_82 : decode cX4_readText 82 = .ok (.getfield 29, 3) := by decide +kernel
theorem dX4_readText_85 : decode cX4_readText 85 = .ok (.ldc2_w 49, 3) := by decide +kernel
theorem dX4_readText_88 : decode cX4_readText 88 = .ok (.lcmp, 1) := by decide +kernel
theorem dX4_readText_89 : decode cX4_readText 89 = .ok (.ifCond .ne 11, 3) := by decide +kernel
theorem dX4_readText_92 : decode cX4_readText 92 = .ok (.aload_n 0, 1) := by decide +kernel
theorem dX4_readText_93 : decode cX4_readText 93 = .ok (.invokevirtual 51, 3) := by decide +kernel
theorem dX4_readText_96 : decode cX4_readText 96 = .ok (.istore_n 1, 1) := by decide +kernel
theorem dX4_readText_97 : decode cX4_readText 97 = .ok (.goto 28, 3) := by decide +kernel
theorem dX4_readText_100 : decode cX4_readText 100 = .ok (.aload_n 0, 1) := by decide +kernel
theorem dX4_readText_101 : decode cX4_readText 101 = .ok (.getfield 29, 3) := by decide +kernel
theorem dX4_readText_104 : decode cX4_readText 104 = .ok (.ldc2_w 54, 3) := by decide +kernel
theorem dX4_readText_107 : decode cX4_readText 107 = .ok (.lcmp, 1) := by decide +kernel
theorem dX4_readText_108 : decode cX4_readText 108 = .ok (.ifCond .ne 11, 3) := by decide +kernel
theorem dX4_readText_111 : decode cX4_readText 111 = .ok (.aload_n 0, 1) := by decide +kernel
theorem dX4_readText_112 : decode cX4_readText 112 = .ok (.invokevirtual 56, 3) := by decide +kernel
theorem dX4_readText_115 : decode cX4_readText 115 = .ok (.istore_n 1, 1) := by decide +kernel
theorem dX4_readText_116 : decode cX4_readText 116 = .ok (.goto 9, 3) := by decide +kernel
theorem dX4_readText_119 : decode cX4_readText 119 = .ok (.aload_n 0, 1) := by decide +kernel
theorem dX4_readText_120 : decode cX4_readText 120 = .ok (.iconst 2, 1) := by decide +kernel
theorem dX4_readText_121 : decode cX4_readText 121 = .ok (.invokevirtual 59, 3) := by decide +kernel
theorem dX4_readText_124 : decode cX4_readText 124 = .ok (.istore_n 1, 1) := by decide +kernel
theorem dX4_readText_125 : decode cX4_readText 125 = .ok (.iinc 2 1, 3) := by decide +kernel
theorem dX4_readText_128 : decode cX4_readText 128 = .ok (.goto (-124), 3) := by decide +kernel
theorem dX4_readText_131 : decode cX4_readText 131 = .ok (.iload_n 1, 1) := by decide +kernel
theorem dX4_readText_132 : decode cX4_readText 132 = .ok (.ireturn, 1) := by decide +kernel
theorem dX4_readHurt_0 : decode cX4_readHurt 0 = .ok (.aload_n 0, 1) := by decide +kernel
theorem dX4_readHurt_1 : decode cX4_readHurt 1 = .ok (.getfield 19, 3) := by decide +kernel
theorem dX4_readHurt_4 : decode cX4_readHurt 4 = .ok (.getfield 63, 3) := by decide +kernel
theorem dX4_readHurt_7 : decode cX4_readHurt 7 = .ok (.bipush 12, 2) := by decide +kernel
theorem dX4_readHurt_9 : decode cX4_readHurt 9 = .ok (.if_icmp .lt 9, 3) := by decide +kernel
theorem dX4_readHurt_12 : decode cX4_readHurt 12 = .ok (.aload_n 0, 1) := by decide +kernel
theorem dX4_readHurt_13 : decode cX4_readHurt 13 = .ok (.iconst 2, 1) := by decide +kernel
theorem dX4_readHurt_14 : decode cX4_readHurt 14 = .ok (.invokevirtual 59, 3) := by decide +kernel
theorem dX4_readHurt_17 : decode cX4_readHurt 17 = .ok (.ireturn, 1) := by decide +kernel
theorem dX4_readHurt_18 : decode cX4_readHurt 18 = .ok (.aload_n 0, 1) := by decide +kernel
theorem dX4_readHurt_19 : decode cX4_readHurt 19 = .ok (.invokevirtual 68, 3) := by decide +kernel
theorem dX4_readHurt_22 : decode cX4_readHurt 22 = .ok (.aload_n 0, 1) := by decide +kernel
theorem dX4_readHurt_23 : decode cX4_readHurt 23 = .ok (.getfield 29, 3) := by decide +kernel
theorem dX4_readHurt_26 : decode cX4_readHurt 26 = .ok (.lstore_n 1, 1) := by decide +kernel
theorem dX4_readHurt_27 : decode cX4_readHurt 27 = .ok (.lload_n 1, 1) := by decide +kernel
theorem dX4_readHurt_28 : decode cX4_readHurt 28 = .ok (.invokestatic 71, 3) := by decide +kernel
theorem dX4_readHurt_31 : decode cX4_readHurt 31 = .ok (.ifCond .ne 9, 3) := by decide +kernel
theorem dX4_readHurt_34 : decode cX4_readHurt 34 = .ok (.aload_n 0, 1) := by decide +kernel
theorem dX4_readHurt_35 : decode cX4_readHurt 35 = .ok (.iconst 2, 1) := by decide +kernel
theorem dX4_readHurt_36 : decode cX4_readHurt 36 = .ok (.invokevirtual 59, 3) := by decide +kernel
theorem dX4_readHurt_39 : decode cX4_readHurt 39 = .ok (.ireturn, 1) := by decide +kernel
theorem dX4_readHurt_40 : decode cX4_readHurt 40 = .ok (.aload_n 0, 1) := by decide +kernel
theorem dX4_readHurt_41 : decode cX4_readHurt 41 = .ok (.getfield 19, 3) := by decide +kernel
theorem dX4_readHurt_44 : decode cX4_readHurt 44 = .ok (.getfield 75, 3) := by decide +kernel
theorem dX4_readHurt_47 : decode cX4_readHurt 47 = .ok (.lload_n 1, 1) := by decide +kernel
theorem dX4_readHurt_48 : decode cX4_readHurt 48 = .ok (.invokestatic 78, 3) := by decide +kernel
theorem dX4_readHurt_51 : decode cX4_readHurt 51 = .ok (.iconst (-1), 1) := by decide +kernel
theorem dX4_readHurt_52 : decode cX4_readHurt 52 = .ok (.if_icmp .eq 9, 3) := by decide +kernel
theorem dX4_readHurt_55 : decode cX4_readHurt 55 = .ok (.aload_n 0, 1) := by decide +kernel
theorem dX4_readHurt_56 : decode cX4_readHurt 56 = .ok (.iconst 3, 1) := by decide +kernel
theorem dX4_readHurt_57 : decode cX4_readHurt 57 = .ok (.invokevirtual 59, 3) := by decide +kernel
theorem dX4_readHurt_60 : decode cX4_readHurt 60 = .ok (.ireturn, 1) := by decide +kernel
theorem dX4_readHurt_61 : decode cX4_readHurt 61 = .ok (.aload_n 0, 1) := by decide +kernel
theorem dX4_readHurt_62 : decode cX4_readHurt 62 = .ok (.invokevirtual 68, 3) := by decide +kernel
theorem dX4_readHurt_65 : decode cX4_readHurt 65 = .ok (.aload_n 0, 1) := by decide +kernel
theorem dX4_readHurt_66 : decode cX4_readHurt 66 = .ok (.iconst 0, 1) := by decide +kernel
theorem dX4_readHurt_67 : decode cX4_readHurt 67 = .ok (.ldc 82, 2) := by decide +kernel
theorem dX4_readHurt_69 : decode cX4_readHurt 69 = .ok (.invokevirtual 83, 3) := by decide +kernel
theorem dX4_readHurt_72 : decode cX4_readHurt 72 = .ok (.istore_n 3, 1) := by decide +kernel
theorem dX4_readHurt_73 : decode cX4_readHurt 73 = .ok (.iload_n 3, 1) := by decide +kernel
theorem dX4_readHurt_74 : decode cX4_readHurt 74 = .ok (.iconst (-1), 1) := by decide +kernel
theorem dX4_readHurt_75 : decode cX4_readHurt 75 = .ok (.if_icmp .eq 13, 3) := by decide +kernel
theorem dX4_readHurt_78 : decode cX4_readHurt 78 = .ok (.aload_n 0, 1) := by decide +kernel
theorem dX4_readHurt_79 : decode cX4_readHurt 79 = .ok (.ldc2_w 87, 3) := by decide +kernel
theorem dX4_readHurt_82 : decode cX4_readHurt 82 = .ok (.invokevirtual 89, 3) := by decide +kernel
theorem dX4_readHurt_85 : decode cX4_readHurt 85 = .ok (.ifCond .ne 5, 3) := by decide +kernel
theorem dX4_readHurt_88 : decode cX4_readHurt 88 = .ok (.iconst 0, 1) := by decide +kernel
theorem dX4_readHurt_89 : decode cX4_readHurt 89 = .ok (.ireturn, 1) := by decide +kernel
theorem dX4_readHurt_90 : decode cX4_readHurt 90 = .ok (.aload_n 0, 1) := by decide +kernel
theorem dX4_readHurt_91 : decode cX4_readHurt 91 = .ok (.getfield 19, 3) := by decide +kernel
theorem dX4_readHurt_94 : decode cX4_readHurt 94 = .ok (.lload_n 1, 1) := by decide +kernel
theorem dX4_readHurt_95 : decode cX4_readHurt 95 = .ok (.iload_n 3, 1) := by decide +kernel
theorem dX4_readHurt_96 : decode cX4_readHurt 96 = .ok (.invokevirtual 92, 3) := by decide +kernel
theorem dX4_readHurt_99 : decode cX4_readHurt 99 = .ok (.iconst 1, 1) := by decide +kernel
theorem dX4_readHurt_100 : decode cX4_readHurt 100 = .ok (.ireturn, 1) := by decide +kernel
theorem dX4_readWhen_0 : decode cX4_readWhen 0 = .ok (.aload_n 0, 1) := by decide +kernel
theorem dX4_readWhen_1 : decode cX4_readWhen 1 = .ok (.getfield 19, 3) := by decide +kernel
theorem dX4_readWhen_4 : decode cX4_readWhen 4 = .ok (.getfield 96, 3) := by decide +kernel
theorem dX4_readWhen_7 : decode cX4_readWhen 7 = .ok (.bipush 16, 2) := by decide +kernel
theorem dX4_readWhen_9 : decode cX4_readWhen 9 = .ok (.if_icmp .lt 9, 3) := by decide +kernel
theorem dX4_readWhen_12 : decode cX4_readWhen 12 = .ok (.aload_n 0, 1) := by decide +kernel
theorem dX4_readWhen_13 : decode cX4_readWhen 13 = .ok (.iconst 2, 1) := by decide +kernel
theorem dX4_readWhen_14 : decode cX4_readWhen 14 = .ok (.invokevirtual 59, 3) := by decide +kernel
theorem dX4_readWhen_17 : decode cX4_readWhen 17 = .ok (.ireturn, 1) := by decide +kernel
theorem dX4_readWhen_18 : decode cX4_readWhen 18 = .ok (.aload_n 0, 1) := by decide +kernel
theorem dX4_readWhen_19 : decode cX4_readWhen 19 = .ok (.invokevirtual 68, 3) := by decide +kernel
theorem dX4_readWhen_22 : decode cX4_readWhen 22 = .ok (.aload_n 0, 1) := by decide +kernel
theorem dX4_readWhen_23 : decode cX4_readWhen 23 = .ok (.iconst 0, 1) := by decide +kernel
theorem dX4_readWhen_24 : decode cX4_readWhen 24 = .ok (.invokevirtual 99, 3) := by decide +kernel
theorem dX4_readWhen_27 : decode cX4_readWhen 27 = .ok (.ifCond .eq 13, 3) := by decide +kernel
theorem dX4_readWhen_30 : decode cX4_readWhen 30 = .ok (.aload_n 0, 1) := by decide +kernel
theorem dX4_readWhen_31 : decode cX4_readWhen 31 = .ok (.ldc2_w 102, 3) := by decide +kernel
theorem dX4_readWhen_34 : decode cX4_readWhen 34 = .ok (.invokevirtual 89, 3) := by decide +kernel
theorem dX4_readWhen_37 : decode cX4_readWhen 37 = .ok (.ifCond .ne 5, 3) := by decide +kernel
theorem dX4_readWhen_40 : decode cX4_readWhen 40 = .ok (.iconst 0, 1) := by decide +kernel
theorem dX4_readWhen_41 : decode cX4_readWhen 41 = .ok (.ireturn, 1) := by decide +kernel
theorem dX4_readWhen_42 : decode cX4_readWhen 42 = .ok (.aload_n 0, 1) := by decide +kernel
theorem dX4_readWhen_43 : decode cX4_readWhen 43 = .ok (.getfield 29, 3) := by decide +kernel
theorem dX4_readWhen_46 : decode cX4_readWhen 46 = .ok (.invokestatic 104, 3) := by decide +kernel
theorem dX4_readWhen_49 : decode cX4_readWhen 49 = .ok (.istore_n 1, 1) := by decide +kernel
theorem dX4_readWhen_50 : decode cX4_readWhen 50 = .ok (.iload_n 1, 1) := by decide +kernel
theorem dX4_readWhen_51 : decode cX4_readWhen 51 = .ok (.iconst (-1), 1) := by decide +kernel
theorem dX4_readWhen_52 : decode cX4_readWhen 52 = .ok (.if_icmp .ne 9, 3) := by decide +kernel
theorem dX4_readWhen_55 : decode cX4_readWhen 55 = .ok (.aload_n 0, 1) := by decide +kernel
theorem dX4_readWhen_56 : decode cX4_readWhen 56 = .ok (.iconst 2, 1) := by decide +kernel
theorem dX4_readWhen_57 : decode cX4_readWhen 57 = .ok (.invokevirtual 59, 3) := by decide +kernel
theorem dX4_readWhen_60 : decode cX4_readWhen 60 = .ok (.ireturn, 1) := by decide +kernel
theorem dX4_readWhen_61 : decode cX4_readWhen 61 = .ok (.aload_n 0, 1) := by decide +kernel
theorem dX4_readWhen_62 : decode cX4_readWhen 62 = .ok (.invokevirtual 68, 3) := by decide +kernel
theorem dX4_readWhen_65 : decode cX4_readWhen 65 = .ok (.iload_n 1, 1) := by decide +kernel
theorem dX4_readWhen_66 : decode cX4_readWhen 66 = .ok (.iconst 2, 1) := by decide +kernel
theorem dX4_readWhen_67 : decode cX4_readWhen 67 = .ok (.if_icmp .eq 8, 3) := by decide +kernel
theorem dX4_readWhen_70 : decode cX4_readWhen 70 = .ok (.iload_n 1, 1) := by decide +kernel
theorem dX4_readWhen_71 : decode cX4_readWhen 71 = .ok (.iconst 3, 1) := by decide +kernel
theorem dX4_readWhen_72 : decode cX4_readWhen 72 = .ok (.if_icmp .ne 13, 3) := by decide +kernel
theorem dX4_readWhen_75 : decode cX4_readWhen 75 = .ok (.aload_n 0, 1) := by decide +kernel
theorem dX4_readWhen_76 : decode cX4_readWhen 76 = .ok (.iconst 0, 1) := by decide +kernel
theorem dX4_readWhen_77 : decode cX4_readWhen 77 = .ok (.ldc 82, 2) := by decide +kernel
theorem dX4_readWhen_79 : decode cX4_readWhen 79 = .ok (.invokevirtual 83, 3) := by decide +kernel
theorem dX4_readWhen_82 : decode cX4_readWhen 82 = .ok (.goto 4, 3) := by decide +kernel
theorem dX4_readWhen_85 : decode cX4_readWhen 85 = .ok (.iconst 0, 1) := by decide +kernel
theorem dX4_readWhen_86 : decode cX4_readWhen 86 = .ok (.istore_n 2, 1) := by decide +kernel
theorem dX4_readWhen_87 : decode cX4_readWhen 87 = .ok (.iload_n 2, 1) := by decide +kernel
theorem dX4_readWhen_88 : decode cX4_readWhen 88 = .ok (.iconst (-1), 1) := by decide +kernel
theorem dX4_readWhen_89 : decode cX4_readWhen 89 = .ok (.if_icmp .eq 13, 3) := by decide +kernel
theorem dX4_readWhen_92 : decode cX4_readWhen 92 = .ok (.aload_n 0, 1) := by decide +kernel
theorem dX4_readWhen_93 : decode cX4_readWhen 93 = .ok (.ldc2_w 87, 3) := by decide +kernel
theorem dX4_readWhen_96 : decode cX4_readWhen 96 = .ok (.invokevirtual 89, 3) := by decide +kernel
theorem dX4_readWhen_99 : decode cX4_readWhen 99 = .ok (.ifCond .ne 5, 3) := by decide +kernel
theorem dX4_readWhen_102 : decode cX4_readWhen 102 = .ok (.iconst 0, 1) := by decide +kernel
theorem dX4_readWhen_103 : decode cX4_readWhen 103 = .ok (.ireturn, 1) := by decide +kernel
theorem dX4_readWhen_104 : decode cX4_readWhen 104 = .ok (.aload_n 0, 1) := by decide +kernel
theorem dX4_readWhen_105 : decode cX4_readWhen 105 = .ok (.getfield 19, 3) := by decide +kernel
theorem dX4_readWhen_108 : decode cX4_readWhen 108 = .ok (.iload_n 1, 1) := by decide +kernel
theorem dX4_readWhen_109 : decode cX4_readWhen 109 = .ok (.iload_n 2, 1) := by decide +kernel
theorem dX4_readWhen_110 : decode cX4_readWhen 110 = .ok (.invokevirtual 108, 3) := by decide +kernel
theorem dX4_readWhen_113 : decode cX4_readWhen 113 = .ok (.iconst 1, 1) := by decide +kernel
theorem dX4_readWhen_114 : decode cX4_readWhen 114 = .ok (.ireturn, 1) := by decide +kernel
theorem dX4_readShare_0 : decode cX4_readShare 0 = .ok (.aload_n 0, 1) := by decide +kernel
theorem dX4_readShare_1 : decode cX4_readShare 1 = .ok (.getfield 112, 3) := by decide +kernel
theorem dX4_readShare_4 : decode cX4_readShare 4 = .ok (.ifCond .eq 9, 3) := by decide +kernel
theorem dX4_readShare_7 : decode cX4_readShare 7 = .ok (.aload_n 0, 1) := by decide +kernel
theorem dX4_readShare_8 : decode cX4_readShare 8 = .ok (.iconst 2, 1) := by decide +kernel
theorem dX4_readShare_9 : decode cX4_readShare 9 = .ok (.invokevirtual 59, 3) := by decide +kernel
theorem dX4_readShare_12 : decode cX4_readShare 12 = .ok (.ireturn, 1) := by decide +kernel
theorem dX4_readShare_13 : decode cX4_readShare 13 = .ok (.aload_n 0, 1) := by decide +kernel
theorem dX4_readShare_14 : decode cX4_readShare 14 = .ok (.iconst 1, 1) := by decide +kernel
theorem dX4_readShare_15 : decode cX4_readShare 15 = .ok (.putfield 112, 3) := by decide +kernel
theorem dX4_readShare_18 : decode cX4_readShare 18 = .ok (.aload_n 0, 1) := by decide +kernel
theorem dX4_readShare_19 : decode cX4_readShare 19 = .ok (.invokevirtual 68, 3) := by decide +kernel
theorem dX4_readShare_22 : decode cX4_readShare 22 = .ok (.iconst 0, 1) := by decide +kernel
theorem dX4_readShare_23 : decode cX4_readShare 23 = .ok (.istore_n 1, 1) := by decide +kernel
theorem dX4_readShare_24 : decode cX4_readShare 24 = .ok (.aload_n 0, 1) := by decide +kernel
theorem dX4_readShare_25 : decode cX4_readShare 25 = .ok (.getfield 19, 3) := by decide +kernel
theorem dX4_readShare_28 : decode cX4_readShare 28 = .ok (.getfield 116, 3) := by decide +kernel
theorem dX4_readShare_31 : decode cX4_readShare 31 = .ok (.arraylength, 1) := by decide +kernel
theorem dX4_readShare_32 : decode cX4_readShare 32 = .ok (.iconst 1, 1) := by decide +kernel
theorem dX4_readShare_33 : decode cX4_readShare 33 = .ok (.isub, 1) := by decide +kernel
theorem dX4_readShare_34 : decode cX4_readShare 34 = .ok (.istore_n 2, 1) := by decide +kernel
theorem dX4_readShare_35 : decode cX4_readShare 35 = .ok (.iconst 0, 1) := by decide +kernel
theorem dX4_readShare_36 : decode cX4_readShare 36 = .ok (.istore_n 3, 1) := by decide +kernel
theorem dX4_readShare_37 : decode cX4_readShare 37 = .ok (.iload_n 3, 1) := by decide +kernel
theorem dX4_readShare_38 : decode cX4_readShare 38 = .ok (.iload_n 2, 1) := by decide +kernel
theorem dX4_readShare_39 : decode cX4_readShare 39 = .ok (.if_icmp .gt 55, 3) := by decide +kernel
theorem dX4_readShare_42 : decode cX4_readShare 42 = .ok (.aload_n 0, 1) := by decide +kernel
theorem dX4_readShare_43 : decode cX4_readShare 43 = .ok (.iload_n 3, 1) := by decide +kernel
theorem dX4_readShare_44 : decode cX4_readShare 44 = .ok (.iload_n 2, 1) := by decide +kernel
theorem dX4_readShare_45 : decode cX4_readShare 45 = .ok (.if_icmp .ne 11, 3) := by decide +kernel
theorem dX4_readShare_48 : decode cX4_readShare 48 = .ok (.iload_n 1, 1) := by decide +kernel
theorem dX4_readShare_49 : decode cX4_readShare 49 = .ok (.ifCond .ne 7, 3) := by decide +kernel
theorem dX4_readShare_52 : decode cX4_readShare 52 = .ok (.iconst 1, 1) := by decide +kernel
theorem dX4_readShare_53 : decode cX4_readShare 53 = .ok (.goto 4, 3) := by decide +kernel
theorem dX4_readShare_56 : decode cX4_readShare 56 = .ok (.iconst 0, 1) := by decide +kernel
theorem dX4_readShare_57 : decode cX4_readShare 57 = .ok (.bipush 100, 2) := by decide +kernel
theorem dX4_readShare_59 : decode cX4_readShare 59 = .ok (.invokevirtual 83, 3) := by decide +kernel
theorem dX4_readShare_62 : decode cX4_readShare 62 = .ok (.istore 4, 2) := by decide +kernel
theorem dX4_readShare_64 : decode cX4_readShare 64 = .ok (.iload 4, 2) := by decide +kernel
theorem dX4_readShare_66 : decode cX4_readShare 66 = .ok (.iconst (-1), 1) := by decide +kernel
theorem dX4_readShare_67 : decode cX4_readShare 67 = .ok (.if_icmp .ne 5, 3) := by decide +kernel
theorem dX4_readShare_70 : decode cX4_readShare 70 = .ok (.iconst 0, 1) := by decide +kernel
theorem dX4_readShare_71 : decode cX4_readShare 71 = .ok (.ireturn, 1) := by decide +kernel
theorem dX4_readShare_72 : decode cX4_readShare 72 = .ok (.aload_n 0, 1) := by decide +kernel
theorem dX4_readShare_73 : decode cX4_readShare 73 = .ok (.getfield 19, 3) := by decide +kernel
theorem dX4_readShare_76 : decode cX4_readShare 76 = .ok (.getfield 116, 3) := by decide +kernel
theorem dX4_readShare_79 : decode cX4_readShare 79 = .ok (.iload_n 3, 1) := by decide +kernel
theorem dX4_readShare_80 : decode cX4_readShare 80 = .ok (.iload 4, 2) := by decide +kernel
theorem dX4_readShare_82 : decode cX4_readShare 82 = .ok (.iastore, 1) := by decide +kernel
theorem dX4_readShare_83 : decode cX4_readShare 83 = .ok (.iload_n 1, 1) := by decide +kernel
theorem dX4_readShare_84 : decode cX4_readShare 84 = .ok (.iload 4, 2) := by decide +kernel
theorem dX4_readShare_86 : decode cX4_readShare 86 = .ok (.iadd, 1) := by decide +kernel
theorem dX4_readShare_87 : decode cX4_readShare 87 = .ok (.istore_n 1, 1) := by decide +kernel
theorem dX4_readShare_88 : decode cX4_readShare 88 = .ok (.iinc 3 1, 3) := by decide +kernel
theorem dX4_readShare_91 : decode cX4_readShare 91 = .ok (.goto (-54), 3) := by decide +kernel
theorem dX4_readShare_94 : decode cX4_readShare 94 = .ok (.aload_n 0, 1) := by decide +kernel
theorem dX4_readShare_95 : decode cX4_readShare 95 = .ok (.ldc2_w 87, 3) := by decide +kernel
theorem dX4_readShare_98 : decode cX4_readShare 98 = .ok (.invokevirtual 89, 3) := by decide +kernel
theorem dX4_readShare_101 : decode cX4_readShare 101 = .ok (.ireturn, 1) := by decide +kernel
theorem dX4_readNeed_0 : decode cX4_readNeed 0 = .ok (.aload_n 0, 1) := by decide +kernel
theorem dX4_readNeed_1 : decode cX4_readNeed 1 = .ok (.getfield 120, 3) := by decide +kernel
theorem dX4_readNeed_4 : decode cX4_readNeed 4 = .ok (.ifCond .eq 9, 3) := by decide +kernel
theorem dX4_readNeed_7 : decode cX4_readNeed 7 = .ok (.aload_n 0, 1) := by decide +kernel
theorem dX4_readNeed_8 : decode cX4_readNeed 8 = .ok (.iconst 2, 1) := by decide +kernel
theorem dX4_readNeed_9 : decode cX4_readNeed 9 = .ok (.invokevirtual 59, 3) := by decide +kernel
theorem dX4_readNeed_12 : decode cX4_readNeed 12 = .ok (.ireturn, 1) := by decide +kernel
theorem dX4_readNeed_13 : decode cX4_readNeed 13 = .ok (.aload_n 0, 1) := by decide +kernel
theorem dX4_readNeed_14 : decode cX4_readNeed 14 = .ok (.iconst 1, 1) := by decide +kernel
theorem dX4_readNeed_15 : decode cX4_readNeed 15 = .ok (.putfield 120, 3) := by decide +kernel
theorem dX4_readNeed_18 : decode cX4_readNeed 18 = .ok (.aload_n 0, 1) := by decide +kernel
theorem dX4_readNeed_19 : decode cX4_readNeed 19 = .ok (.invokevirtual 68, 3) := by decide +kernel
theorem dX4_readNeed_22 : decode cX4_readNeed 22 = .ok (.aload_n 0, 1) := by decide +kernel
theorem dX4_readNeed_23 : decode cX4_readNeed 23 = .ok (.getfield 19, 3) := by decide +kernel
theorem dX4_readNeed_26 : decode cX4_readNeed 26 = .ok (.aload_n 0, 1) := by decide +kernel
theorem dX4_readNeed_27 : decode cX4_readNeed 27 = .ok (.iconst 0, 1) := by decide +kernel
theorem dX4_readNeed_28 : decode cX4_readNeed 28 = .ok (.bipush 12, 2) := by decide +kernel
theorem dX4_readNeed_30 : decode cX4_readNeed 30 = .ok (.invokevirtual 83, 3) := by decide +kernel
theorem dX4_readNeed_33 : decode cX4_readNeed 33 = .ok (.putfield 123, 3) := by decide +kernel
theorem dX4_readNeed_36 : decode cX4_readNeed 36 = .ok (.aload_n 0, 1) := by decide +kernel
theorem dX4_readNeed_37 : decode cX4_readNeed 37 = .ok (.getfield 19, 3) := by decide +kernel
theorem dX4_readNeed_40 : decode cX4_readNeed 40 = .ok (.getfield 123, 3) := by decide +kernel
theorem dX4_readNeed_43 : decode cX4_readNeed 43 = .ok (.iconst (-1), 1) := by decide +kernel
theorem dX4_readNeed_44 : decode cX4_readNeed 44 = .ok (.if_icmp .eq 13, 3) := by decide +kernel
theorem dX4_readNeed_47 : decode cX4_readNeed 47 = .ok (.aload_n 0, 1) := by decide +kernel
theorem dX4_readNeed_48 : decode cX4_readNeed 48 = .ok (.ldc2_w 126, 3) := by decide +kernel
theorem dX4_readNeed_51 : decode cX4_readNeed 51 = .ok (.invokevirtual 89, 3) := by decide +kernel
theorem dX4_readNeed_54 : decode cX4_readNeed 54 = .ok (.ifCond .ne 5, 3) := by decide +kernel
theorem dX4_readNeed_57 : decode cX4_readNeed 57 = .ok (.iconst 0, 1) := by decide +kernel
theorem dX4_readNeed_58 : decode cX4_readNeed 58 = .ok (.ireturn, 1) := by decide +kernel
theorem dX4_readNeed_59 : decode cX4_readNeed 59 = .ok (.aload_n 0, 1) := by decide +kernel
theorem dX4_readNeed_60 : decode cX4_readNeed 60 = .ok (.getfield 19, 3) := by decide +kernel
theorem dX4_readNeed_63 : decode cX4_readNeed 63 = .ok (.aload_n 0, 1) := by decide +kernel
theorem dX4_readNeed_64 : decode cX4_readNeed 64 = .ok (.iconst 0, 1) := by decide +kernel
theorem dX4_readNeed_65 : decode cX4_readNeed 65 = .ok (.iconst 3, 1) := by decide +kernel
theorem dX4_readNeed_66 : decode cX4_readNeed 66 = .ok (.invokevirtual 83, 3) := by decide +kernel
theorem dX4_readNeed_69 : decode cX4_readNeed 69 = .ok (.putfield 128, 3) := by decide +kernel
theorem dX4_readNeed_72 : decode cX4_readNeed 72 = .ok (.aload_n 0, 1) := by decide +kernel
theorem dX4_readNeed_73 : decode cX4_readNeed 73 = .ok (.getfield 19, 3) := by decide +kernel
theorem dX4_readNeed_76 : decode cX4_readNeed 76 = .ok (.getfield 128, 3) := by decide +kernel
theorem dX4_readNeed_79 : decode cX4_readNeed 79 = .ok (.iconst (-1), 1) := by decide +kernel
theorem dX4_readNeed_80 : decode cX4_readNeed 80 = .ok (.if_icmp .eq 17, 3) := by decide +kernel
theorem dX4_readNeed_83 : decode cX4_readNeed 83 = .ok (.aload_n 0, 1) := by decide +kernel
theorem dX4_readNeed_84 : decode cX4_readNeed 84 = .ok (.ldc2_w 87, 3) := by decide +kernel
theorem dX4_readNeed_87 : decode cX4_readNeed 87 = .ok (.invokevirtual 89, 3) := by decide +kernel
theorem dX4_readNeed_90 : decode cX4_readNeed 90 = .ok (.ifCond .eq 7, 3) := by decide +kernel
theorem dX4_readNeed_93 : decode cX4_readNeed 93 = .ok (.iconst 1, 1) := by decide +kernel
theorem dX4_readNeed_94 : decode cX4_readNeed 94 = .ok (.goto 4, 3) := by decide +kernel
theorem dX4_readNeed_97 : decode cX4_readNeed 97 = .ok (.iconst 0, 1) := by decide +kernel
theorem dX4_readNeed_98 : decode cX4_readNeed 98 = .ok (.ireturn, 1) := by decide +kernel
theorem dX4_readTerms_0 : decode cX4_readTerms 0 = .ok (.aload_n 0, 1) := by decide +kernel
theorem dX4_readTerms_1 : decode cX4_readTerms 1 = .ok (.getfield 131, 3) := by decide +kernel
theorem dX4_readTerms_4 : decode cX4_readTerms 4 = .ok (.ifCond .eq 9, 3) := by decide +kernel
theorem dX4_readTerms_7 : decode cX4_readTerms 7 = .ok (.aload_n 0, 1) := by decide +kernel
theorem dX4_readTerms_8 : decode cX4_readTerms 8 = .ok (.iconst 2, 1) := by decide +kernel
theorem dX4_readTerms_9 : decode cX4_readTerms 9 = .ok (.invokevirtual 59, 3) := by decide +kernel
theorem dX4_readTerms_12 : decode cX4_readTerms 12 = .ok (.ireturn, 1) := by decide +kernel
theorem dX4_readTerms_13 : decode cX4_readTerms 13 = .ok (.aload_n 0, 1) := by decide +kernel
theorem dX4_readTerms_14 : decode cX4_readTerms 14 = .ok (.iconst 1, 1) := by decide +kernel
theorem dX4_readTerms_15 : decode cX4_readTerms 15 = .ok (.putfield 131, 3) := by decide +kernel
theorem dX4_readTerms_18 : decode cX4_readTerms 18 = .ok (.aload_n 0, 1) := by decide +kernel
theorem dX4_readTerms_19 : decode cX4_readTerms 19 = .ok (.invokevirtual 68, 3) := by decide +kernel
theorem dX4_readTerms_22 : decode cX4_readTerms 22 = .ok (.aload_n 0, 1) := by decide +kernel
theorem dX4_readTerms_23 : decode cX4_readTerms 23 = .ok (.getfield 19, 3) := by decide +kernel
theorem dX4_readTerms_26 : decode cX4_readTerms 26 = .ok (.aload_n 0, 1) := by decide +kernel
theorem dX4_readTerms_27 : decode cX4_readTerms 27 = .ok (.iconst 1, 1) := by decide +kernel
theorem dX4_readTerms_28 : decode cX4_readTerms 28 = .ok (.bipush 6, 2) := by decide +kernel
theorem dX4_readTerms_30 : decode cX4_readTerms 30 = .ok (.invokevirtual 83, 3) := by decide +kernel
theorem dX4_readTerms_33 : decode cX4_readTerms 33 = .ok (.putfield 134, 3) := by decide +kernel
theorem dX4_readTerms_36 : decode cX4_readTerms 36 = .ok (.aload_n 0, 1) := by decide +kernel
theorem dX4_readTerms_37 : decode cX4_readTerms 37 = .ok (.getfield 19, 3) := by decide +kernel
theorem dX4_readTerms_40 : decode cX4_readTerms 40 = .ok (.getfield 134, 3) := by decide +kernel
theorem dX4_readTerms_43 : decode cX4_readTerms 43 = .ok (.iconst (-1), 1) := by decide +kernel
theorem dX4_readTerms_44 : decode cX4_readTerms 44 = .ok (.if_icmp .eq 13, 3) := by decide +kernel
theorem dX4_readTerms_47 : decode cX4_readTerms 47 = .ok (.aload_n 0, 1) := by decide +kernel
theorem dX4_readTerms_48 : decode cX4_readTerms 48 = .ok (.ldc2_w 137, 3) := by decide +kernel
theorem dX4_readTerms_51 : decode cX4_readTerms 51 = .ok (.invokevirtual 89, 3) := by decide +kernel
theorem dX4_readTerms_54 : decode cX4_readTerms 54 = .ok (.ifCond .ne 5, 3) := by decide +kernel
theorem dX4_readTerms_57 : decode cX4_readTerms 57 = .ok (.iconst 0, 1) := by decide +kernel
theorem dX4_readTerms_58 : decode cX4_readTerms 58 = .ok (.ireturn, 1) := by decide +kernel
theorem dX4_readTerms_59 : decode cX4_readTerms 59 = .ok (.aload_n 0, 1) := by decide +kernel
theorem dX4_readTerms_60 : decode cX4_readTerms 60 = .ok (.getfield 19, 3) := by decide +kernel
theorem dX4_readTerms_63 : decode cX4_readTerms 63 = .ok (.aload_n 0, 1) := by decide +kernel
theorem dX4_readTerms_64 : decode cX4_readTerms 64 = .ok (.iconst 1, 1) := by decide +kernel
theorem dX4_readTerms_65 : decode cX4_readTerms 65 = .ok (.sipush 400, 3) := by decide +kernel
theorem dX4_readTerms_68 : decode cX4_readTerms 68 = .ok (.invokevirtual 83, 3) := by decide +kernel
theorem dX4_readTerms_71 : decode cX4_readTerms 71 = .ok (.putfield 139, 3) := by decide +kernel
theorem dX4_readTerms_74 : decode cX4_readTerms 74 = .ok (.aload_n 0, 1) := by decide +kernel
theorem dX4_readTerms_75 : decode cX4_readTerms 75 = .ok (.getfield 19, 3) := by decide +kernel
theorem dX4_readTerms_78 : decode cX4_readTerms 78 = .ok (.getfield 139, 3) := by decide +kernel
theorem dX4_readTerms_81 : decode cX4_readTerms 81 = .ok (.iconst (-1), 1) := by decide +kernel
theorem dX4_readTerms_82 : decode cX4_readTerms 82 = .ok (.if_icmp .eq 17, 3) := by decide +kernel
theorem dX4_readTerms_85 : decode cX4_readTerms 85 = .ok (.aload_n 0, 1) := by decide +kernel
theorem dX4_readTerms_86 : decode cX4_readTerms 86 = .ok (.ldc2_w 87, 3) := by decide +kernel
theorem dX4_readTerms_89 : decode cX4_readTerms 89 = .ok (.invokevirtual 89, 3) := by decide +kernel
theorem dX4_readTerms_92 : decode cX4_readTerms 92 = .ok (.ifCond .eq 7, 3) := by decide +kernel
theorem dX4_readTerms_95 : decode cX4_readTerms 95 = .ok (.iconst 1, 1) := by decide +kernel
theorem dX4_readTerms_96 : decode cX4_readTerms 96 = .ok (.goto 4, 3) := by decide +kernel
theorem dX4_readTerms_99 : decode cX4_readTerms 99 = .ok (.iconst 0, 1) := by decide +kernel
theorem dX4_readTerms_100 : decode cX4_readTerms 100 = .ok (.ireturn, 1) := by decide +kernel
theorem dX4_readEither_0 : decode cX4_readEither 0 = .ok (.iload_n 1, 1) := by decide +kernel
theorem dX4_readEither_1 : decode cX4_readEither 1 = .ok (.bipush 6, 2) := by decide +kernel
theorem dX4_readEither_3 : decode cX4_readEither 3 = .ok (.if_icmp .lt 9, 3) := by decide +kernel
theorem dX4_readEither_6 : decode cX4_readEither 6 = .ok (.aload_n 0, 1) := by decide +kernel
theorem dX4_readEither_7 : decode cX4_readEither 7 = .ok (.iconst 2, 1) := by decide +kernel
theorem dX4_readEither_8 : decode cX4_readEither 8 = .ok (.invokevirtual 59, 3) := by decide +kernel
theorem dX4_readEither_11 : decode cX4_readEither 11 = .ok (.ireturn, 1) := by decide +kernel
theorem dX4_readEither_12 : decode cX4_readEither 12 = .ok (.aload_n 0, 1) := by decide +kernel
theorem dX4_readEither_13 : decode cX4_readEither 13 = .ok (.iload_n 1, 1) := by decide +kernel
theorem dX4_readEither_14 : decode cX4_readEither 14 = .ok (.invokevirtual 142, 3) := by decide +kernel
theorem dX4_readEither_17 : decode cX4_readEither 17 = .ok (.istore_n 2, 1) := by decide +kernel
theorem dX4_readEither_18 : decode cX4_readEither 18 = .ok (.iconst 0, 1) := by decide +kernel
theorem dX4_readEither_19 : decode cX4_readEither 19 = .ok (.istore_n 3, 1) := by decide +kernel
theorem dX4_readEither_20 : decode cX4_readEither 20 = .ok (.iload_n 3, 1) := by decide +kernel
theorem dX4_readEither_21 : decode cX4_readEither 21 = .ok (.bipush 60, 2) := by decide +kernel
theorem dX4_readEither_23 : decode cX4_readEither 23 = .ok (.if_icmp .ge 43, 3) := by decide +kernel
theorem dX4_readEither_26 : decode cX4_readEither 26 = .ok (.iload_n 2, 1) := by decide +kernel
theorem dX4_readEither_27 : decode cX4_readEither 27 = .ok (.ifCond .eq 39, 3) := by decide +kernel
theorem dX4_readEither_30 : decode cX4_readEither 30 = .ok (.aload_n 0, 1) := by decide +kernel
theorem dX4_readEither_31 : decode cX4_readEither 31 = .ok (.getfield 29, 3) := by decide +kernel
theorem dX4_readEither_34 : decode cX4_readEither 34 = .ok (.ldc2_w 145, 3) := by decide +kernel
theorem dX4_readEither_37 : decode cX4_readEither 37 = .ok (.lcmp, 1) := by decide +kernel
theorem dX4_readEither_38 : decode cX4_readEither 38 = .ok (.ifCond .ne 28, 3) := by decide +kernel
theorem dX4_readEither_41 : decode cX4_readEither 41 = .ok (.aload_n 0, 1) := by decide +kernel
theorem dX4_readEither_42 : decode cX4_readEither 42 = .ok (.invokevirtual 68, 3) := by decide +kernel
theorem dX4_readEither_45 : decode cX4_readEither 45 = .ok (.aload_n 0, 1) := by decide +kernel
theorem dX4_readEither_46 : decode cX4_readEither 46 = .ok (.iload_n 1, 1) := by decide +kernel
theorem dX4_readEither_47 : decode cX4_readEither 47 = .ok (.invokevirtual 142, 3) := by decide +kernel
theorem dX4_readEither_50 : decode cX4_readEither 50 = .ok (.istore_n 2, 1) := by decide +kernel
theorem dX4_readEither_51 : decode cX4_readEither 51 = .ok (.aload_n 0, 1) := by decide +kernel
theorem dX4_readEither_52 : decode cX4_readEither 52 = .ok (.getfield 19, 3) := by decide +kernel
theorem dX4_readEither_55 : decode cX4_readEither 55 = .ok (.bipush (-13), 2) := by decide +kernel
theorem dX4_readEither_57 : decode cX4_readEither 57 = .ok (.invokevirtual 147, 3) := by decide +kernel
theorem dX4_readEither_60 : decode cX4_readEither 60 = .ok (.iinc 3 1, 3) := by decide +kernel
theorem dX4_readEither_63 : decode cX4_readEither 63 = .ok (.goto (-43), 3) := by decide +kernel
theorem dX4_readEither_66 : decode cX4_readEither 66 = .ok (.iload_n 2, 1) := by decide +kernel
theorem dX4_readEither_67 : decode cX4_readEither 67 = .ok (.ireturn, 1) := by decide +kernel
theorem dX4_readBoth_0 : decode cX4_readBoth 0 = .ok (.aload_n 0, 1) := by decide +kernel
theorem dX4_readBoth_1 : decode cX4_readBoth 1 = .ok (.iload_n 1, 1) := by decide +kernel
theorem dX4_readBoth_2 : decode cX4_readBoth 2 = .ok (.invokevirtual 151, 3) := by decide +kernel
theorem dX4_readBoth_5 : decode cX4_readBoth 5 = .ok (.istore_n 2, 1) := by decide +kernel
theorem dX4_readBoth_6 : decode cX4_readBoth 6 = .ok (.iconst 0, 1) := by decide +kernel
theorem dX4_readBoth_7 : decode cX4_readBoth 7 = .ok (.istore_n 3, 1) := by decide +kernel
theorem dX4_readBoth_8 : decode cX4_readBoth 8 = .ok (.iload_n 3, 1) := by decide +kernel
theorem dX4_readBoth_9 : decode cX4_readBoth 9 = .ok (.bipush 60, 2) := by decide +kernel
theorem dX4_readBoth_11 : decode cX4_readBoth 11 = .ok (.if_icmp .ge 43, 3) := by decide +kernel
theorem dX4_readBoth_14 : decode cX4_readBoth 14 = .ok (.iload_n 2, 1) := by decide +kernel
theorem dX4_readBoth_15 : decode cX4_readBoth 15 = .ok (.ifCond .eq 39, 3) := by decide +kernel
theorem dX4_readBoth_18 : decode cX4_readBoth 18 = .ok (.aload_n 0, 1) := by decide +kernel
theorem dX4_readBoth_19 : decode cX4_readBoth 19 = .ok (.getfield 29, 3) := by decide +kernel
theorem dX4_readBoth_22 : decode cX4_readBoth 22 = .ok (.ldc2_w 154, 3) := by decide +kernel
theorem dX4_readBoth_25 : decode cX4_readBoth 25 = .ok (.lcmp, 1) := by decide +kernel
theorem dX4_readBoth_26 : decode cX4_readBoth 26 = .ok (.ifCond .ne 28, 3) := by decide +kernel
theorem dX4_readBoth_29 : decode cX4_readBoth 29 = .ok (.aload_n 0, 1) := by decide +kernel
theorem dX4_readBoth_30 : decode cX4_readBoth 30 = .ok (.invokevirtual 68, 3) := by decide +kernel
theorem dX4_readBoth_33 : decode cX4_readBoth 33 = .ok (.aload_n 0, 1) := by decide +kernel
theorem dX4_readBoth_34 : decode cX4_readBoth 34 = .ok (.iload_n 1, 1) := by decide +kernel
theorem dX4_readBoth_35 : decode cX4_readBoth 35 = .ok (.invokevirtual 151, 3) := by decide +kernel
theorem dX4_readBoth_38 : decode cX4_readBoth 38 = .ok (.istore_n 2, 1) := by decide +kernel
theorem dX4_readBoth_39 : decode cX4_readBoth 39 = .ok (.aload_n 0, 1) := by decide +kernel
theorem dX4_readBoth_40 : decode cX4_readBoth 40 = .ok (.getfield 19, 3) := by decide +kernel
theorem dX4_readBoth_43 : decode cX4_readBoth 43 = .ok (.bipush (-12), 2) := by decide +kernel
theorem dX4_readBoth_45 : decode cX4_readBoth 45 = .ok (.invokevirtual 147, 3) := by decide +kernel
theorem dX4_readBoth_48 : decode cX4_readBoth 48 = .ok (.iinc 3 1, 3) := by decide +kernel
theorem dX4_readBoth_51 : decode cX4_readBoth 51 = .ok (.goto (-43), 3) := by decide +kernel
theorem dX4_readBoth_54 : decode cX4_readBoth 54 = .ok (.iload_n 2, 1) := by decide +kernel
theorem dX4_readBoth_55 : decode cX4_readBoth 55 = .ok (.ireturn, 1) := by decide +kernel
theorem dX4_readOne_0 : decode cX4_readOne 0 = .ok (.iload_n 1, 1) := by decide +kernel
theorem dX4_readOne_1 : decode cX4_readOne 1 = .ok (.bipush 6, 2) := by decide +kernel
theorem dX4_readOne_3 : decode cX4_readOne 3 = .ok (.if_icmp .lt 9, 3) := by decide +kernel
theorem dX4_readOne_6 : decode cX4_readOne 6 = .ok (.aload_n 0, 1) := by decide +kernel
theorem dX4_readOne_7 : decode cX4_readOne 7 = .ok (.iconst 2, 1) := by decide +kernel
theorem dX4_readOne_8 : decode cX4_readOne 8 = .ok (.invokevirtual 59, 3) := by decide +kernel
theorem dX4_readOne_11 : decode cX4_readOne 11 = .ok (.ireturn, 1) := by decide +kernel
theorem dX4_readOne_12 : decode cX4_readOne 12 = .ok (.aload_n 0, 1) := by decide +kernel
theorem dX4_readOne_13 : decode cX4_readOne 13 = .ok (.getfield 29, 3) := by decide +kernel
theorem dX4_readOne_16 : decode cX4_readOne 16 = .ok (.ldc2_w 156, 3) := by decide +kernel
theorem dX4_readOne_19 : decode cX4_readOne 19 = .ok (.lcmp, 1) := by decide +kernel
theorem dX4_readOne_20 : decode cX4_readOne 20 = .ok (.ifCond .ne 26, 3) := by decide +kernel
theorem dX4_readOne_23 : decode cX4_readOne 23 = .ok (.aload_n 0, 1) := by decide +kernel
theorem dX4_readOne_24 : decode cX4_readOne 24 = .ok (.invokevirtual 68, 3) := by decide +kernel
theorem dX4_readOne_27 : decode cX4_readOne 27 = .ok (.aload_n 0, 1) := by decide +kernel
theorem dX4_readOne_28 : decode cX4_readOne 28 = .ok (.iload_n 1, 1) := by decide +kernel
theorem dX4_readOne_29 : decode cX4_readOne 29 = .ok (.iconst 1, 1) := by decide +kernel
theorem dX4_readOne_30 : decode cX4_readOne 30 = .ok (.iadd, 1) := by decide +kernel
theorem dX4_readOne_31 : decode cX4_readOne 31 = .ok (.invokevirtual 151, 3) := by decide +kernel
theorem dX4_readOne_34 : decode cX4_readOne 34 = .ok (.istore_n 2, 1) := by decide +kernel
