theorem gw_s1 {w : Cond} (i : Nat) (h : tables_1_1[i]? = some w) (hg : goodWord w = true) : w ∈ GW := List.mem_filter.mpr ⟨List.mem_append_right _ (List.mem_append_left _ (List.mem_of_getElem? h)), hg⟩
theorem gw_s2 {w : Cond} (i : Nat) (h : tables_1_2[i]? = some w) (hg : goodWord w = true) : w ∈ GW := List.mem_filter.mpr ⟨List.mem_append_right _ (List.mem_append_right _ (List.mem_append_left _ (List.mem_of_getElem? h))), hg⟩
theorem gw_s3 {w : Cond} (i : Nat) (h : tables_1_3[i]? = some w) (hg : goodWord w = true) : w ∈ GW := List.mem_filter.mpr ⟨List.mem_append_right _ (List.mem_append_right _ (List.mem_append_right _ (List.mem_append_left _ (List.mem_of_getElem? h)))), hg⟩
theorem gw_s4 {w : Cond} (i : Nat) (h : tables_1_4[i]? = some w) (hg : goodWord w = true) : w ∈ GW := List.mem_filter.mpr ⟨List.mem_append_right _ (List.mem_append_right _ (List.mem_append_right _ (List.mem_append_right _ (List.mem_append_left _ (List.mem_of_getElem? h))))), hg⟩
theorem gw_s5 {w : Cond} (i : Nat) (h : tables_1_5[i]? = some w) (hg : goodWord w = true) : w ∈ GW := List.mem_filter.mpr ⟨List.mem_append_right _ (List.mem_append_right _ (List.mem_append_right _ (List.mem_append_right _ (List.mem_append_right _ (List.mem_append_left _ (List.mem_of_getElem? h)))))), hg⟩
theorem gw_s6 {w : Cond} (i : Nat) (h : tables_1_6[i]? = some w) (hg : goodWord w = true) : w ∈ GW := List.mem_filter.mpr ⟨List.mem_append_right _ (List.mem_append_right _ (List.mem_append_right _ (List.mem_append_right _ (List.mem_append_right _ (List.mem_append_right _ (List.mem_of_getElem? h)))))), hg⟩
theorem tw_0 : (Jvm.Cond.initialized "BloodPriceLaw") ∈ GW := gw_s1 0 rfl rfl
theorem tw_1 : (Jvm.Cond.initialized "BloodPrice") ∈ GW := gw_s1 1 rfl rfl
theorem tw_2 : (Jvm.Cond.initialized "BloodPrice$Tokens") ∈ GW := gw_s1 2 rfl rfl
theorem tw_3 : (Jvm.Cond.initialized "BloodPrice$People") ∈ GW := gw_s1 3 rfl rfl
theorem tw_4 : (Jvm.Cond.initialized "BloodPrice$Tolds") ∈ GW := gw_s1 4 rfl rfl
theorem tw_5 : (Jvm.Cond.initialized "BloodPrice$Truces") ∈ GW := gw_s1 5 rfl rfl
theorem tw_6 : (Jvm.Cond.initialized "BloodPrice$Payments") ∈ GW := gw_s1 6 rfl rfl
theorem tw_7 : (Jvm.Cond.initialized "BloodPriceModel") ∈ GW := gw_s1 7 rfl rfl
theorem tw_8 : (Jvm.Cond.initialized "BloodPrice$Law") ∈ GW := gw_s1 8 rfl rfl
theorem tw_9 : (Jvm.Cond.initialized "BloodPrice$Reader") ∈ GW := gw_s1 9 rfl rfl
theorem tw_10 : (Jvm.Cond.initialized "BloodPrice$Case") ∈ GW := gw_s1 10 rfl rfl
theorem tw_11 : (Jvm.Cond.initialized "java/lang/Math") ∈ GW := gw_s1 11 rfl rfl
theorem tw_12 : (Jvm.Cond.initialized "java/lang/Integer") ∈ GW := gw_s1 12 rfl rfl
theorem tw_13 : (Jvm.Cond.classLink "BloodPriceLaw" (7 : Nat) "BloodPrice") ∈ GW := gw_s1 13 rfl rfl
theorem tw_14 : (Jvm.Cond.instantiable "BloodPrice" (17 : Nat)) ∈ GW := gw_s1 14 rfl rfl
theorem tw_15 : (Jvm.Cond.methodLink "BloodPriceLaw" (9 : Nat) ({ cls := "BloodPrice", name := "<init>", desc := "()V" } : Jvm.MethodName)) ∈ GW := gw_s1 15 rfl rfl
theorem tw_16 : (Jvm.Cond.instanceMethod ({ cls := "BloodPrice", name := "<init>", desc := "()V" } : Jvm.MethodName)) ∈ GW := gw_s1 16 rfl rfl
theorem tw_17 : (Jvm.Cond.code ({ cls := "BloodPrice", name := "<init>", desc := "()V" } : Jvm.MethodName) prog_1_method_1_code (1 : Nat) (Option.none : Option Jvm.ClassFile.FieldType)) ∈ GW := gw_s1 17 rfl rfl
theorem tw_18 : (Jvm.Cond.methodLink "BloodPrice" (1 : Nat) ({ cls := "java/lang/Object", name := "<init>", desc := "()V" } : Jvm.MethodName)) ∈ GW := gw_s1 18 rfl rfl
theorem tw_19 : (Jvm.Cond.instanceMethod ({ cls := "java/lang/Object", name := "<init>", desc := "()V" } : Jvm.MethodName)) ∈ GW := gw_s1 19 rfl rfl
theorem tw_20 : (Jvm.Cond.code ({ cls := "java/lang/Object", name := "<init>", desc := "()V" } : Jvm.MethodName) object_method_1_code (1 : Nat) (Option.none : Option Jvm.ClassFile.FieldType)) ∈ GW := gw_s1 20 rfl rfl
theorem tw_21 : (Jvm.Cond.classLink "BloodPrice" (13 : Nat) "BloodPrice$Tokens") ∈ GW := gw_s1 21 rfl rfl
theorem tw_22 : (Jvm.Cond.instantiable "BloodPrice$Tokens" (4 : Nat)) ∈ GW := gw_s1 22 rfl rfl
theorem tw_24 : (Jvm.Cond.instanceMethod ({ cls := "BloodPrice$Tokens", name := "<init>", desc := "()V" } : Jvm.MethodName)) ∈ GW := gw_s1 24 rfl rfl
theorem tw_25 : (Jvm.Cond.code ({ cls := "BloodPrice$Tokens", name := "<init>", desc := "()V" } : Jvm.MethodName) prog_7_method_1_code (1 : Nat) (Option.none : Option Jvm.ClassFile.FieldType)) ∈ GW := gw_s1 25 rfl rfl
theorem tw_26 : (Jvm.Cond.methodLink "BloodPrice$Tokens" (3 : Nat) ({ cls := "java/lang/Object", name := "<init>", desc := "()V" } : Jvm.MethodName)) ∈ GW := gw_s1 26 rfl rfl
theorem tw_27 : (Jvm.Cond.fieldLink "BloodPrice$Tokens" (9 : Nat) "BloodPrice$Tokens" "token" "[J") ∈ GW := gw_s1 27 rfl rfl
theorem tw_28 : (Jvm.Cond.fieldLink "BloodPrice$Reader" (23 : Nat) "BloodPrice$Tokens" "token" "[J") ∈ GW := gw_s1 28 rfl rfl
theorem tw_29 : (Jvm.Cond.fieldLink "BloodPrice$Tokens" (15 : Nat) "BloodPrice$Tokens" "place" "[I") ∈ GW := gw_s1 29 rfl rfl
theorem tw_30 : (Jvm.Cond.fieldLink "BloodPrice$Reader" (179 : Nat) "BloodPrice$Tokens" "place" "[I") ∈ GW := gw_s1 30 rfl rfl
theorem tw_31 : (Jvm.Cond.fieldLink "BloodPrice$Tokens" (19 : Nat) "BloodPrice$Tokens" "count" "I") ∈ GW := gw_s1 31 rfl rfl
theorem tw_32 : (Jvm.Cond.fieldLink "BloodPrice" (92 : Nat) "BloodPrice$Tokens" "count" "I") ∈ GW := gw_s1 32 rfl rfl
theorem tw_33 : (Jvm.Cond.fieldLink "BloodPrice$Reader" (185 : Nat) "BloodPrice$Tokens" "count" "I") ∈ GW := gw_s1 33 rfl rfl
theorem tw_34 : (Jvm.Cond.fieldLink "BloodPrice$Tokens" (60 : Nat) "BloodPrice$Tokens" "length" "I") ∈ GW := gw_s1 34 rfl rfl
theorem tw_35 : (Jvm.Cond.laysFinal "BloodPrice$Tokens" "BloodPrice$Tokens" "token" "[J") ∈ GW := gw_s1 35 rfl rfl
theorem tw_36 : (Jvm.Cond.soleField "BloodPrice$Tokens" "token") ∈ GW := gw_s1 36 rfl rfl
theorem tw_37 : (Jvm.Cond.laysFinal "BloodPrice$Tokens" "BloodPrice$Tokens" "place" "[I") ∈ GW := gw_s1 37 rfl rfl
theorem tw_38 : (Jvm.Cond.soleField "BloodPrice$Tokens" "place") ∈ GW := gw_s1 38 rfl rfl
theorem tw_39 : (Jvm.Cond.lays "BloodPrice$Tokens" "BloodPrice$Tokens" "count" "I") ∈ GW := gw_s1 39 rfl rfl
theorem tw_40 : (Jvm.Cond.soleField "BloodPrice$Tokens" "count") ∈ GW := gw_s1 40 rfl rfl
theorem tw_41 : (Jvm.Cond.lays "BloodPrice$Tokens" "BloodPrice$Tokens" "length" "I") ∈ GW := gw_s1 41 rfl rfl
theorem tw_42 : (Jvm.Cond.soleField "BloodPrice$Tokens" "length") ∈ GW := gw_s1 42 rfl rfl
theorem tw_43 : (Jvm.Cond.superclass "BloodPrice$Tokens" "java/lang/Object") ∈ GW := gw_s1 43 rfl rfl
theorem tw_44 : (Jvm.Cond.arrayClass Jvm.ClassFile.FieldType.byte) ∈ GW := gw_s1 44 rfl rfl
theorem tw_45 : (Jvm.Cond.arrayClass Jvm.ClassFile.FieldType.long) ∈ GW := gw_s1 45 rfl rfl
theorem tw_46 : (Jvm.Cond.arrayClass Jvm.ClassFile.FieldType.int) ∈ GW := gw_s1 46 rfl rfl
theorem tw_47 : (Jvm.Cond.classLink "BloodPrice" (20 : Nat) "BloodPrice$Law") ∈ GW := gw_s1 47 rfl rfl
theorem tw_49 : (Jvm.Cond.classLink "BloodPrice" (34 : Nat) "BloodPrice$People") ∈ GW := gw_s1 49 rfl rfl
theorem tw_50 : (Jvm.Cond.instantiable "BloodPrice$People" (8 : Nat)) ∈ GW := gw_s1 50 rfl rfl
theorem tw_52 : (Jvm.Cond.instanceMethod ({ cls := "BloodPrice$People", name := "<init>", desc := "()V" } : Jvm.MethodName)) ∈ GW := gw_s1 52 rfl rfl
theorem tw_53 : (Jvm.Cond.code ({ cls := "BloodPrice$People", name := "<init>", desc := "()V" } : Jvm.MethodName) prog_5_method_1_code (1 : Nat) (Option.none : Option Jvm.ClassFile.FieldType)) ∈ GW := gw_s1 53 rfl rfl
theorem tw_54 : (Jvm.Cond.methodLink "BloodPrice$People" (3 : Nat) ({ cls := "java/lang/Object", name := "<init>", desc := "()V" } : Jvm.MethodName)) ∈ GW := gw_s1 54 rfl rfl
theorem tw_55 : (Jvm.Cond.fieldLink "BloodPrice$People" (9 : Nat) "BloodPrice$People" "folk" "[I") ∈ GW := gw_s1 55 rfl rfl
theorem tw_56 : (Jvm.Cond.fieldLink "BloodPrice$People" (15 : Nat) "BloodPrice$People" "mother" "[I") ∈ GW := gw_s1 56 rfl rfl
theorem tw_57 : (Jvm.Cond.fieldLink "BloodPrice$People" (18 : Nat) "BloodPrice$People" "father" "[I") ∈ GW := gw_s1 57 rfl rfl
theorem tw_58 : (Jvm.Cond.fieldLink "BloodPrice$People" (21 : Nat) "BloodPrice$People" "deadFrom" "[I") ∈ GW := gw_s1 58 rfl rfl
theorem tw_59 : (Jvm.Cond.fieldLink "BloodPrice$People" (24 : Nat) "BloodPrice$People" "steps" "[I") ∈ GW := gw_s1 59 rfl rfl
theorem tw_60 : (Jvm.Cond.fieldLink "BloodPrice" (287 : Nat) "BloodPrice$People" "steps" "[I") ∈ GW := gw_s1 60 rfl rfl
theorem tw_61 : (Jvm.Cond.fieldLink "BloodPrice$People" (27 : Nat) "BloodPrice$People" "sharing" "[Z") ∈ GW := gw_s1 61 rfl rfl
theorem tw_62 : (Jvm.Cond.fieldLink "BloodPrice" (303 : Nat) "BloodPrice$People" "sharing" "[Z") ∈ GW := gw_s1 62 rfl rfl
theorem tw_63 : (Jvm.Cond.fieldLink "BloodPrice$People" (47 : Nat) "BloodPrice$People" "sharers" "I") ∈ GW := gw_s1 63 rfl rfl
theorem tw_64 : (Jvm.Cond.fieldLink "BloodPrice" (297 : Nat) "BloodPrice$People" "sharers" "I") ∈ GW := gw_s1 64 rfl rfl
theorem tw_65 : (Jvm.Cond.fieldLink "BloodPrice$People" (31 : Nat) "BloodPrice$People" "count" "I") ∈ GW := gw_s1 65 rfl rfl
theorem tw_66 : (Jvm.Cond.fieldLink "BloodPrice" (220 : Nat) "BloodPrice$People" "count" "I") ∈ GW := gw_s1 66 rfl rfl
theorem tw_67 : (Jvm.Cond.laysFinal "BloodPrice$People" "BloodPrice$People" "folk" "[I") ∈ GW := gw_s1 67 rfl rfl
theorem tw_68 : (Jvm.Cond.soleField "BloodPrice$People" "folk") ∈ GW := gw_s1 68 rfl rfl
theorem tw_69 : (Jvm.Cond.laysFinal "BloodPrice$People" "BloodPrice$People" "mother" "[I") ∈ GW := gw_s1 69 rfl rfl
theorem tw_70 : (Jvm.Cond.soleField "BloodPrice$People" "mother") ∈ GW := gw_s1 70 rfl rfl
theorem tw_71 : (Jvm.Cond.laysFinal "BloodPrice$People" "BloodPrice$People" "father" "[I") ∈ GW := gw_s1 71 rfl rfl
theorem tw_72 : (Jvm.Cond.soleField "BloodPrice$People" "father") ∈ GW := gw_s1 72 rfl rfl
theorem tw_73 : (Jvm.Cond.laysFinal "BloodPrice$People" "BloodPrice$People" "deadFrom" "[I") ∈ GW := gw_s1 73 rfl rfl
theorem tw_74 : (Jvm.Cond.soleField "BloodPrice$People" "deadFrom") ∈ GW := gw_s1 74 rfl rfl
theorem tw_75 : (Jvm.Cond.laysFinal "BloodPrice$People" "BloodPrice$People" "steps" "[I") ∈ GW := gw_s1 75 rfl rfl
theorem tw_76 : (Jvm.Cond.soleField "BloodPrice$People" "steps") ∈ GW := gw_s1 76 rfl rfl
theorem tw_77 : (Jvm.Cond.laysFinal "BloodPrice$People" "BloodPrice$People" "sharing" "[Z") ∈ GW := gw_s1 77 rfl rfl
theorem tw_78 : (Jvm.Cond.soleField "BloodPrice$People" "sharing") ∈ GW := gw_s1 78 rfl rfl
theorem tw_79 : (Jvm.Cond.lays "BloodPrice$People" "BloodPrice$People" "sharers" "I") ∈ GW := gw_s1 79 rfl rfl
theorem tw_80 : (Jvm.Cond.soleField "BloodPrice$People" "sharers") ∈ GW := gw_s1 80 rfl rfl
theorem tw_81 : (Jvm.Cond.lays "BloodPrice$People" "BloodPrice$People" "count" "I") ∈ GW := gw_s1 81 rfl rfl
theorem tw_82 : (Jvm.Cond.soleField "BloodPrice$People" "count") ∈ GW := gw_s1 82 rfl rfl
theorem tw_83 : (Jvm.Cond.superclass "BloodPrice$People" "java/lang/Object") ∈ GW := gw_s1 83 rfl rfl
theorem tw_84 : (Jvm.Cond.arrayClass Jvm.ClassFile.FieldType.boolean) ∈ GW := gw_s1 84 rfl rfl
theorem tw_85 : (Jvm.Cond.classLink "BloodPrice" (41 : Nat) "BloodPrice$Tolds") ∈ GW := gw_s1 85 rfl rfl
theorem tw_86 : (Jvm.Cond.instantiable "BloodPrice$Tolds" (5 : Nat)) ∈ GW := gw_s1 86 rfl rfl
theorem tw_88 : (Jvm.Cond.instanceMethod ({ cls := "BloodPrice$Tolds", name := "<init>", desc := "()V" } : Jvm.MethodName)) ∈ GW := gw_s1 88 rfl rfl
theorem tw_89 : (Jvm.Cond.code ({ cls := "BloodPrice$Tolds", name := "<init>", desc := "()V" } : Jvm.MethodName) prog_8_method_1_code (1 : Nat) (Option.none : Option Jvm.ClassFile.FieldType)) ∈ GW := gw_s1 89 rfl rfl
theorem tw_90 : (Jvm.Cond.methodLink "BloodPrice$Tolds" (3 : Nat) ({ cls := "java/lang/Object", name := "<init>", desc := "()V" } : Jvm.MethodName)) ∈ GW := gw_s1 90 rfl rfl
theorem tw_91 : (Jvm.Cond.fieldLink "BloodPrice$Tolds" (9 : Nat) "BloodPrice$Tolds" "person" "[I") ∈ GW := gw_s1 91 rfl rfl
theorem tw_92 : (Jvm.Cond.fieldLink "BloodPrice$Tolds" (15 : Nat) "BloodPrice$Tolds" "level" "[I") ∈ GW := gw_s1 92 rfl rfl
theorem tw_93 : (Jvm.Cond.fieldLink "BloodPrice$Tolds" (18 : Nat) "BloodPrice$Tolds" "from" "[I") ∈ GW := gw_s1 93 rfl rfl
theorem tw_94 : (Jvm.Cond.fieldLink "BloodPrice$Tolds" (21 : Nat) "BloodPrice$Tolds" "toldOn" "[I") ∈ GW := gw_s1 94 rfl rfl
theorem tw_95 : (Jvm.Cond.fieldLink "BloodPrice$Tolds" (24 : Nat) "BloodPrice$Tolds" "count" "I") ∈ GW := gw_s1 95 rfl rfl
theorem tw_96 : (Jvm.Cond.fieldLink "BloodPrice" (221 : Nat) "BloodPrice$Tolds" "count" "I") ∈ GW := gw_s1 96 rfl rfl
theorem tw_97 : (Jvm.Cond.laysFinal "BloodPrice$Tolds" "BloodPrice$Tolds" "person" "[I") ∈ GW := gw_s1 97 rfl rfl
theorem tw_98 : (Jvm.Cond.soleField "BloodPrice$Tolds" "person") ∈ GW := gw_s1 98 rfl rfl
theorem tw_99 : (Jvm.Cond.laysFinal "BloodPrice$Tolds" "BloodPrice$Tolds" "level" "[I") ∈ GW := gw_s1 99 rfl rfl
theorem tw_100 : (Jvm.Cond.soleField "BloodPrice$Tolds" "level") ∈ GW := gw_s1 100 rfl rfl
theorem tw_101 : (Jvm.Cond.laysFinal "BloodPrice$Tolds" "BloodPrice$Tolds" "from" "[I") ∈ GW := gw_s1 101 rfl rfl
theorem tw_102 : (Jvm.Cond.soleField "BloodPrice$Tolds" "from") ∈ GW := gw_s1 102 rfl rfl
theorem tw_103 : (Jvm.Cond.laysFinal "BloodPrice$Tolds" "BloodPrice$Tolds" "toldOn" "[I") ∈ GW := gw_s1 103 rfl rfl
theorem tw_104 : (Jvm.Cond.soleField "BloodPrice$Tolds" "toldOn") ∈ GW := gw_s1 104 rfl rfl
theorem tw_105 : (Jvm.Cond.lays "BloodPrice$Tolds" "BloodPrice$Tolds" "count" "I") ∈ GW := gw_s1 105 rfl rfl
theorem tw_106 : (Jvm.Cond.soleField "BloodPrice$Tolds" "count") ∈ GW := gw_s1 106 rfl rfl
theorem tw_107 : (Jvm.Cond.superclass "BloodPrice$Tolds" "java/lang/Object") ∈ GW := gw_s1 107 rfl rfl
theorem tw_108 : (Jvm.Cond.classLink "BloodPrice" (48 : Nat) "BloodPrice$Truces") ∈ GW := gw_s1 108 rfl rfl
theorem tw_109 : (Jvm.Cond.instantiable "BloodPrice$Truces" (5 : Nat)) ∈ GW := gw_s1 109 rfl rfl
theorem tw_111 : (Jvm.Cond.instanceMethod ({ cls := "BloodPrice$Truces", name := "<init>", desc := "()V" } : Jvm.MethodName)) ∈ GW := gw_s1 111 rfl rfl
theorem tw_112 : (Jvm.Cond.code ({ cls := "BloodPrice$Truces", name := "<init>", desc := "()V" } : Jvm.MethodName) prog_9_method_1_code (1 : Nat) (Option.none : Option Jvm.ClassFile.FieldType)) ∈ GW := gw_s1 112 rfl rfl
theorem tw_113 : (Jvm.Cond.methodLink "BloodPrice$Truces" (3 : Nat) ({ cls := "java/lang/Object", name := "<init>", desc := "()V" } : Jvm.MethodName)) ∈ GW := gw_s1 113 rfl rfl
theorem tw_114 : (Jvm.Cond.fieldLink "BloodPrice$Truces" (9 : Nat) "BloodPrice$Truces" "one" "[I") ∈ GW := gw_s1 114 rfl rfl
theorem tw_115 : (Jvm.Cond.fieldLink "BloodPrice$Truces" (15 : Nat) "BloodPrice$Truces" "another" "[I") ∈ GW := gw_s1 115 rfl rfl
theorem tw_116 : (Jvm.Cond.fieldLink "BloodPrice$Truces" (18 : Nat) "BloodPrice$Truces" "from" "[I") ∈ GW := gw_s1 116 rfl rfl
theorem tw_117 : (Jvm.Cond.fieldLink "BloodPrice$Truces" (21 : Nat) "BloodPrice$Truces" "upTo" "[I") ∈ GW := gw_s1 117 rfl rfl
theorem tw_118 : (Jvm.Cond.fieldLink "BloodPrice$Truces" (24 : Nat) "BloodPrice$Truces" "count" "I") ∈ GW := gw_s1 118 rfl rfl
theorem tw_119 : (Jvm.Cond.fieldLink "BloodPrice" (222 : Nat) "BloodPrice$Truces" "count" "I") ∈ GW := gw_s1 119 rfl rfl
theorem tw_120 : (Jvm.Cond.laysFinal "BloodPrice$Truces" "BloodPrice$Truces" "one" "[I") ∈ GW := gw_s1 120 rfl rfl
theorem tw_121 : (Jvm.Cond.soleField "BloodPrice$Truces" "one") ∈ GW := gw_s1 121 rfl rfl
theorem tw_122 : (Jvm.Cond.laysFinal "BloodPrice$Truces" "BloodPrice$Truces" "another" "[I") ∈ GW := gw_s1 122 rfl rfl
theorem tw_123 : (Jvm.Cond.soleField "BloodPrice$Truces" "another") ∈ GW := gw_s1 123 rfl rfl
theorem tw_124 : (Jvm.Cond.laysFinal "BloodPrice$Truces" "BloodPrice$Truces" "from" "[I") ∈ GW := gw_s1 124 rfl rfl
theorem tw_125 : (Jvm.Cond.soleField "BloodPrice$Truces" "from") ∈ GW := gw_s1 125 rfl rfl
theorem tw_126 : (Jvm.Cond.laysFinal "BloodPrice$Truces" "BloodPrice$Truces" "upTo" "[I") ∈ GW := gw_s1 126 rfl rfl
theorem tw_127 : (Jvm.Cond.soleField "BloodPrice$Truces" "upTo") ∈ GW := gw_s1 127 rfl rfl
theorem tw_128 : (Jvm.Cond.lays "BloodPrice$Truces" "BloodPrice$Truces" "count" "I") ∈ GW := gw_s1 128 rfl rfl
theorem tw_129 : (Jvm.Cond.soleField "BloodPrice$Truces" "count") ∈ GW := gw_s1 129 rfl rfl
theorem tw_130 : (Jvm.Cond.superclass "BloodPrice$Truces" "java/lang/Object") ∈ GW := gw_s1 130 rfl rfl
theorem tw_131 : (Jvm.Cond.classLink "BloodPrice" (55 : Nat) "BloodPrice$Case") ∈ GW := gw_s1 131 rfl rfl
theorem tw_133 : (Jvm.Cond.classLink "BloodPrice" (61 : Nat) "BloodPrice$Payments") ∈ GW := gw_s1 133 rfl rfl
theorem tw_134 : (Jvm.Cond.instantiable "BloodPrice$Payments" (4 : Nat)) ∈ GW := gw_s1 134 rfl rfl
theorem tw_136 : (Jvm.Cond.instanceMethod ({ cls := "BloodPrice$Payments", name := "<init>", desc := "()V" } : Jvm.MethodName)) ∈ GW := gw_s1 136 rfl rfl
theorem tw_137 : (Jvm.Cond.code ({ cls := "BloodPrice$Payments", name := "<init>", desc := "()V" } : Jvm.MethodName) prog_4_method_1_code (1 : Nat) (Option.none : Option Jvm.ClassFile.FieldType)) ∈ GW := gw_s1 137 rfl rfl
theorem tw_138 : (Jvm.Cond.methodLink "BloodPrice$Payments" (3 : Nat) ({ cls := "java/lang/Object", name := "<init>", desc := "()V" } : Jvm.MethodName)) ∈ GW := gw_s1 138 rfl rfl
theorem tw_139 : (Jvm.Cond.fieldLink "BloodPrice$Payments" (9 : Nat) "BloodPrice$Payments" "which" "[I") ∈ GW := gw_s1 139 rfl rfl
theorem tw_140 : (Jvm.Cond.fieldLink "BloodPrice$Payments" (15 : Nat) "BloodPrice$Payments" "day" "[I") ∈ GW := gw_s1 140 rfl rfl
theorem tw_141 : (Jvm.Cond.fieldLink "BloodPrice$Payments" (18 : Nat) "BloodPrice$Payments" "worth" "[I") ∈ GW := gw_s1 141 rfl rfl
theorem tw_142 : (Jvm.Cond.fieldLink "BloodPrice$Payments" (21 : Nat) "BloodPrice$Payments" "count" "I") ∈ GW := gw_s1 142 rfl rfl
theorem tw_143 : (Jvm.Cond.fieldLink "BloodPrice" (223 : Nat) "BloodPrice$Payments" "count" "I") ∈ GW := gw_s1 143 rfl rfl
theorem tw_144 : (Jvm.Cond.laysFinal "BloodPrice$Payments" "BloodPrice$Payments" "which" "[I") ∈ GW := gw_s1 144 rfl rfl
theorem tw_145 : (Jvm.Cond.soleField "BloodPrice$Payments" "which") ∈ GW := gw_s1 145 rfl rfl
theorem tw_146 : (Jvm.Cond.laysFinal "BloodPrice$Payments" "BloodPrice$Payments" "day" "[I") ∈ GW := gw_s1 146 rfl rfl
theorem tw_147 : (Jvm.Cond.soleField "BloodPrice$Payments" "day") ∈ GW := gw_s1 147 rfl rfl
theorem tw_148 : (Jvm.Cond.laysFinal "BloodPrice$Payments" "BloodPrice$Payments" "worth" "[I") ∈ GW := gw_s1 148 rfl rfl
theorem tw_149 : (Jvm.Cond.soleField "BloodPrice$Payments" "worth") ∈ GW := gw_s1 149 rfl rfl
theorem tw_150 : (Jvm.Cond.lays "BloodPrice$Payments" "BloodPrice$Payments" "count" "I") ∈ GW := gw_s1 150 rfl rfl
theorem tw_151 : (Jvm.Cond.soleField "BloodPrice$Payments" "count") ∈ GW := gw_s1 151 rfl rfl
theorem tw_152 : (Jvm.Cond.superclass "BloodPrice$Payments" "java/lang/Object") ∈ GW := gw_s1 152 rfl rfl
theorem tw_153 : (Jvm.Cond.fieldLink "BloodPrice" (9 : Nat) "BloodPrice" "tape" "[B") ∈ GW := gw_s1 153 rfl rfl
theorem tw_154 : (Jvm.Cond.fieldLink "BloodPrice" (74 : Nat) "BloodPrice" "taped" "I") ∈ GW := gw_s1 154 rfl rfl
theorem tw_155 : (Jvm.Cond.fieldLink "BloodPrice" (16 : Nat) "BloodPrice" "tokens" "LBloodPrice$Tokens;") ∈ GW := gw_s1 155 rfl rfl
theorem tw_156 : (Jvm.Cond.fieldLink "BloodPrice" (22 : Nat) "BloodPrice" "laws" "[LBloodPrice$Law;") ∈ GW := gw_s1 156 rfl rfl
theorem tw_157 : (Jvm.Cond.fieldLink "BloodPrice" (26 : Nat) "BloodPrice" "lawsOf" "[I") ∈ GW := gw_s1 157 rfl rfl
theorem tw_158 : (Jvm.Cond.fieldLink "BloodPrice" (110 : Nat) "BloodPrice" "latestFault" "I") ∈ GW := gw_s1 158 rfl rfl
theorem tw_159 : (Jvm.Cond.fieldLink "BloodPrice" (30 : Nat) "BloodPrice" "latestPlace" "I") ∈ GW := gw_s1 159 rfl rfl
theorem tw_160 : (Jvm.Cond.fieldLink "BloodPrice" (133 : Nat) "BloodPrice" "today" "I") ∈ GW := gw_s1 160 rfl rfl
theorem tw_161 : (Jvm.Cond.fieldLink "BloodPrice" (37 : Nat) "BloodPrice" "people" "LBloodPrice$People;") ∈ GW := gw_s1 161 rfl rfl
theorem tw_162 : (Jvm.Cond.fieldLink "BloodPrice" (44 : Nat) "BloodPrice" "tolds" "LBloodPrice$Tolds;") ∈ GW := gw_s1 162 rfl rfl
theorem tw_163 : (Jvm.Cond.fieldLink "BloodPrice" (51 : Nat) "BloodPrice" "truces" "LBloodPrice$Truces;") ∈ GW := gw_s1 163 rfl rfl
theorem tw_164 : (Jvm.Cond.fieldLink "BloodPrice" (57 : Nat) "BloodPrice" "cases" "[LBloodPrice$Case;") ∈ GW := gw_s1 164 rfl rfl
theorem tw_165 : (Jvm.Cond.fieldLink "BloodPrice" (152 : Nat) "BloodPrice" "caseCount" "I") ∈ GW := gw_s1 165 rfl rfl
theorem tw_166 : (Jvm.Cond.fieldLink "BloodPrice" (64 : Nat) "BloodPrice" "payments" "LBloodPrice$Payments;") ∈ GW := gw_s1 166 rfl rfl
theorem tw_167 : (Jvm.Cond.fieldLink "BloodPrice" (68 : Nat) "BloodPrice" "rates" "[I") ∈ GW := gw_s1 167 rfl rfl
theorem tw_168 : (Jvm.Cond.fieldLink "BloodPrice" (211 : Nat) "BloodPrice" "ratesTold" "I") ∈ GW := gw_s1 168 rfl rfl
theorem tw_169 : (Jvm.Cond.fieldLink "BloodPrice" (71 : Nat) "BloodPrice" "facts" "[I") ∈ GW := gw_s1 169 rfl rfl
theorem tw_170 : (Jvm.Cond.laysFinal "BloodPrice" "BloodPrice" "tape" "[B") ∈ GW := gw_s1 170 rfl rfl
theorem tw_171 : (Jvm.Cond.soleField "BloodPrice" "tape") ∈ GW := gw_s1 171 rfl rfl
theorem tw_172 : (Jvm.Cond.lays "BloodPrice" "BloodPrice" "taped" "I") ∈ GW := gw_s1 172 rfl rfl
theorem tw_173 : (Jvm.Cond.soleField "BloodPrice" "taped") ∈ GW := gw_s1 173 rfl rfl
theorem tw_174 : (Jvm.Cond.laysFinal "BloodPrice" "BloodPrice" "tokens" "LBloodPrice$Tokens;") ∈ GW := gw_s1 174 rfl rfl
theorem tw_175 : (Jvm.Cond.soleField "BloodPrice" "tokens") ∈ GW := gw_s1 175 rfl rfl
theorem tw_176 : (Jvm.Cond.laysFinal "BloodPrice" "BloodPrice" "laws" "[LBloodPrice$Law;") ∈ GW := gw_s1 176 rfl rfl
theorem tw_177 : (Jvm.Cond.soleField "BloodPrice" "laws") ∈ GW := gw_s1 177 rfl rfl
theorem tw_178 : (Jvm.Cond.laysFinal "BloodPrice" "BloodPrice" "lawsOf" "[I") ∈ GW := gw_s1 178 rfl rfl
theorem tw_179 : (Jvm.Cond.soleField "BloodPrice" "lawsOf") ∈ GW := gw_s1 179 rfl rfl
theorem tw_180 : (Jvm.Cond.lays "BloodPrice" "BloodPrice" "latestFault" "I") ∈ GW := gw_s1 180 rfl rfl
theorem tw_181 : (Jvm.Cond.soleField "BloodPrice" "latestFault") ∈ GW := gw_s1 181 rfl rfl
theorem tw_182 : (Jvm.Cond.lays "BloodPrice" "BloodPrice" "latestPlace" "I") ∈ GW := gw_s1 182 rfl rfl
theorem tw_183 : (Jvm.Cond.soleField "BloodPrice" "latestPlace") ∈ GW := gw_s1 183 rfl rfl
theorem tw_184 : (Jvm.Cond.lays "BloodPrice" "BloodPrice" "today" "I") ∈ GW := gw_s1 184 rfl rfl
theorem tw_185 : (Jvm.Cond.soleField "BloodPrice" "today") ∈ GW := gw_s1 185 rfl rfl
theorem tw_186 : (Jvm.Cond.laysFinal "BloodPrice" "BloodPrice" "people" "LBloodPrice$People;") ∈ GW := gw_s1 186 rfl rfl
theorem tw_187 : (Jvm.Cond.soleField "BloodPrice" "people") ∈ GW := gw_s1 187 rfl rfl
theorem tw_188 : (Jvm.Cond.laysFinal "BloodPrice" "BloodPrice" "tolds" "LBloodPrice$Tolds;") ∈ GW := gw_s1 188 rfl rfl
theorem tw_189 : (Jvm.Cond.soleField "BloodPrice" "tolds") ∈ GW := gw_s1 189 rfl rfl
theorem tw_190 : (Jvm.Cond.laysFinal "BloodPrice" "BloodPrice" "truces" "LBloodPrice$Truces;") ∈ GW := gw_s1 190 rfl rfl
theorem tw_191 : (Jvm.Cond.soleField "BloodPrice" "truces") ∈ GW := gw_s1 191 rfl rfl
theorem tw_192 : (Jvm.Cond.laysFinal "BloodPrice" "BloodPrice" "cases" "[LBloodPrice$Case;") ∈ GW := gw_s1 192 rfl rfl
theorem tw_193 : (Jvm.Cond.soleField "BloodPrice" "cases") ∈ GW := gw_s1 193 rfl rfl
theorem tw_194 : (Jvm.Cond.lays "BloodPrice" "BloodPrice" "caseCount" "I") ∈ GW := gw_s1 194 rfl rfl
theorem tw_195 : (Jvm.Cond.soleField "BloodPrice" "caseCount") ∈ GW := gw_s1 195 rfl rfl
theorem tw_196 : (Jvm.Cond.laysFinal "BloodPrice" "BloodPrice" "payments" "LBloodPrice$Payments;") ∈ GW := gw_s1 196 rfl rfl
theorem tw_197 : (Jvm.Cond.soleField "BloodPrice" "payments") ∈ GW := gw_s1 197 rfl rfl
theorem tw_198 : (Jvm.Cond.laysFinal "BloodPrice" "BloodPrice" "rates" "[I") ∈ GW := gw_s1 198 rfl rfl
theorem tw_199 : (Jvm.Cond.soleField "BloodPrice" "rates") ∈ GW := gw_s1 199 rfl rfl
theorem tw_200 : (Jvm.Cond.lays "BloodPrice" "BloodPrice" "ratesTold" "I") ∈ GW := gw_s1 200 rfl rfl
theorem tw_201 : (Jvm.Cond.soleField "BloodPrice" "ratesTold") ∈ GW := gw_s1 201 rfl rfl
theorem tw_202 : (Jvm.Cond.laysFinal "BloodPrice" "BloodPrice" "facts" "[I") ∈ GW := gw_s1 202 rfl rfl
theorem tw_203 : (Jvm.Cond.soleField "BloodPrice" "facts") ∈ GW := gw_s1 203 rfl rfl
theorem tw_204 : (Jvm.Cond.superclass "BloodPrice" "java/lang/Object") ∈ GW := gw_s1 204 rfl rfl
theorem tw_205 : (Jvm.Cond.methodLink "BloodPriceLaw" (13 : Nat) ({ cls := "BloodPrice", name := "feed", desc := "(IIIII)I" } : Jvm.MethodName)) ∈ GW := gw_s1 205 rfl rfl
theorem tw_206 : (Jvm.Cond.instanceMethod ({ cls := "BloodPrice", name := "feed", desc := "(IIIII)I" } : Jvm.MethodName)) ∈ GW := gw_s1 206 rfl rfl
theorem tw_207 : (Jvm.Cond.selects "BloodPrice" ({ cls := "BloodPrice", name := "feed", desc := "(IIIII)I" } : Jvm.MethodName) ({ cls := "BloodPrice", name := "feed", desc := "(IIIII)I" } : Jvm.MethodName)) ∈ GW := gw_s1 207 rfl rfl
theorem tw_208 : (Jvm.Cond.code ({ cls := "BloodPrice", name := "feed", desc := "(IIIII)I" } : Jvm.MethodName) prog_1_method_2_code (6 : Nat) (Option.some Jvm.ClassFile.FieldType.int)) ∈ GW := gw_s1 208 rfl rfl
theorem tw_209 : (Jvm.Cond.methodLink "BloodPrice" (77 : Nat) ({ cls := "BloodPrice", name := "writeNumber", desc := "(I)V" } : Jvm.MethodName)) ∈ GW := gw_s1 209 rfl rfl
theorem tw_211 : (Jvm.Cond.instanceMethod ({ cls := "BloodPrice", name := "writeNumber", desc := "(I)V" } : Jvm.MethodName)) ∈ GW := gw_s1 211 rfl rfl
theorem tw_212 : (Jvm.Cond.code ({ cls := "BloodPrice", name := "writeNumber", desc := "(I)V" } : Jvm.MethodName) prog_1_method_3_code (3 : Nat) (Option.none : Option Jvm.ClassFile.FieldType)) ∈ GW := gw_s1 212 rfl rfl
theorem tw_213 : (Jvm.Cond.methodLink "BloodPriceLaw" (18 : Nat) ({ cls := "BloodPrice", name := "end", desc := "(I)I" } : Jvm.MethodName)) ∈ GW := gw_s1 213 rfl rfl
theorem tw_214 : (Jvm.Cond.instanceMethod ({ cls := "BloodPrice", name := "end", desc := "(I)I" } : Jvm.MethodName)) ∈ GW := gw_s1 214 rfl rfl
theorem tw_215 : (Jvm.Cond.selects "BloodPrice" ({ cls := "BloodPrice", name := "end", desc := "(I)I" } : Jvm.MethodName) ({ cls := "BloodPrice", name := "end", desc := "(I)I" } : Jvm.MethodName)) ∈ GW := gw_s1 215 rfl rfl
theorem tw_216 : (Jvm.Cond.code ({ cls := "BloodPrice", name := "end", desc := "(I)I" } : Jvm.MethodName) prog_1_method_4_code (2 : Nat) (Option.some Jvm.ClassFile.FieldType.int)) ∈ GW := gw_s1 216 rfl rfl
theorem tw_217 : (Jvm.Cond.methodLink "BloodPriceLaw" (23 : Nat) ({ cls := "BloodPrice", name := "law", desc := "(II)I" } : Jvm.MethodName)) ∈ GW := gw_s1 217 rfl rfl
theorem tw_218 : (Jvm.Cond.instanceMethod ({ cls := "BloodPrice", name := "law", desc := "(II)I" } : Jvm.MethodName)) ∈ GW := gw_s1 218 rfl rfl
theorem tw_219 : (Jvm.Cond.selects "BloodPrice" ({ cls := "BloodPrice", name := "law", desc := "(II)I" } : Jvm.MethodName) ({ cls := "BloodPrice", name := "law", desc := "(II)I" } : Jvm.MethodName)) ∈ GW := gw_s1 219 rfl rfl
theorem tw_220 : (Jvm.Cond.code ({ cls := "BloodPrice", name := "law", desc := "(II)I" } : Jvm.MethodName) prog_1_method_5_code (6 : Nat) (Option.some Jvm.ClassFile.FieldType.int)) ∈ GW := gw_s1 220 rfl rfl
theorem tw_221 : (Jvm.Cond.methodLink "BloodPrice" (81 : Nat) ({ cls := "BloodPrice", name := "isFolk", desc := "(I)Z" } : Jvm.MethodName)) ∈ GW := gw_s1 221 rfl rfl
theorem tw_222 : (Jvm.Cond.static ({ cls := "BloodPrice", name := "isFolk", desc := "(I)Z" } : Jvm.MethodName)) ∈ GW := gw_s1 222 rfl rfl
theorem tw_223 : (Jvm.Cond.code ({ cls := "BloodPrice", name := "isFolk", desc := "(I)Z" } : Jvm.MethodName) prog_1_method_26_code (1 : Nat) (Option.some Jvm.ClassFile.FieldType.boolean)) ∈ GW := gw_s1 223 rfl rfl
theorem tw_224 : (Jvm.Cond.methodLink "BloodPrice" (85 : Nat) ({ cls := "BloodPrice", name := "isDay", desc := "(I)Z" } : Jvm.MethodName)) ∈ GW := gw_s1 224 rfl rfl
theorem tw_225 : (Jvm.Cond.static ({ cls := "BloodPrice", name := "isDay", desc := "(I)Z" } : Jvm.MethodName)) ∈ GW := gw_s1 225 rfl rfl
theorem tw_226 : (Jvm.Cond.code ({ cls := "BloodPrice", name := "isDay", desc := "(I)Z" } : Jvm.MethodName) prog_1_method_27_code (1 : Nat) (Option.some Jvm.ClassFile.FieldType.boolean)) ∈ GW := gw_s1 226 rfl rfl
theorem tw_227 : (Jvm.Cond.constant "BloodPrice" (147 : Nat) (100000 : Int32)) ∈ GW := gw_s1 227 rfl rfl
theorem tw_228 : (Jvm.Cond.methodLink "BloodPrice" (88 : Nat) ({ cls := "BloodPrice$Tokens", name := "split", desc := "([BI)V" } : Jvm.MethodName)) ∈ GW := gw_s1 228 rfl rfl
theorem tw_229 : (Jvm.Cond.instanceMethod ({ cls := "BloodPrice$Tokens", name := "split", desc := "([BI)V" } : Jvm.MethodName)) ∈ GW := gw_s1 229 rfl rfl
theorem tw_230 : (Jvm.Cond.selects "BloodPrice$Tokens" ({ cls := "BloodPrice$Tokens", name := "split", desc := "([BI)V" } : Jvm.MethodName) ({ cls := "BloodPrice$Tokens", name := "split", desc := "([BI)V" } : Jvm.MethodName)) ∈ GW := gw_s1 230 rfl rfl
theorem tw_231 : (Jvm.Cond.code ({ cls := "BloodPrice$Tokens", name := "split", desc := "([BI)V" } : Jvm.MethodName) prog_7_method_2_code (7 : Nat) (Option.none : Option Jvm.ClassFile.FieldType)) ∈ GW := gw_s1 231 rfl rfl
theorem tw_232 : (Jvm.Cond.methodLink "BloodPrice$Tokens" (23 : Nat) ({ cls := "BloodPrice$Tokens", name := "sortOf", desc := "(I)I" } : Jvm.MethodName)) ∈ GW := gw_s1 232 rfl rfl
theorem tw_233 : (Jvm.Cond.static ({ cls := "BloodPrice$Tokens", name := "sortOf", desc := "(I)I" } : Jvm.MethodName)) ∈ GW := gw_s1 233 rfl rfl
theorem tw_234 : (Jvm.Cond.code ({ cls := "BloodPrice$Tokens", name := "sortOf", desc := "(I)I" } : Jvm.MethodName) prog_7_method_3_code (1 : Nat) (Option.some Jvm.ClassFile.FieldType.int)) ∈ GW := gw_s1 234 rfl rfl
theorem tw_236 : (Jvm.Cond.static ({ cls := "BloodPrice", name := "isLetter", desc := "(I)Z" } : Jvm.MethodName)) ∈ GW := gw_s1 236 rfl rfl
theorem tw_237 : (Jvm.Cond.code ({ cls := "BloodPrice", name := "isLetter", desc := "(I)Z" } : Jvm.MethodName) prog_1_method_29_code (1 : Nat) (Option.some Jvm.ClassFile.FieldType.boolean)) ∈ GW := gw_s1 237 rfl rfl
theorem tw_238 : (Jvm.Cond.constantLong "BloodPrice$Tokens" (46 : Nat) (59 : Int64)) ∈ GW := gw_s1 238 rfl rfl
theorem tw_239 : (Jvm.Cond.constantLong "BloodPrice$Tokens" (48 : Nat) (40 : Int64)) ∈ GW := gw_s1 239 rfl rfl
theorem tw_240 : (Jvm.Cond.constantLong "BloodPrice$Tokens" (50 : Nat) (41 : Int64)) ∈ GW := gw_s2 0 rfl rfl
theorem tw_241 : (Jvm.Cond.constantLong "BloodPrice$Tokens" (52 : Nat) (60 : Int64)) ∈ GW := gw_s2 1 rfl rfl
theorem tw_242 : (Jvm.Cond.constantLong "BloodPrice$Tokens" (54 : Nat) (62 : Int64)) ∈ GW := gw_s2 2 rfl rfl
theorem tw_243 : (Jvm.Cond.constantLong "BloodPrice$Tokens" (56 : Nat) (61 : Int64)) ∈ GW := gw_s2 3 rfl rfl
theorem tw_244 : (Jvm.Cond.methodLink "BloodPrice$Tokens" (27 : Nat) ({ cls := "BloodPrice$Tokens", name := "spoilLast", desc := "()V" } : Jvm.MethodName)) ∈ GW := gw_s2 4 rfl rfl
theorem tw_246 : (Jvm.Cond.instanceMethod ({ cls := "BloodPrice$Tokens", name := "spoilLast", desc := "()V" } : Jvm.MethodName)) ∈ GW := gw_s2 6 rfl rfl
theorem tw_247 : (Jvm.Cond.code ({ cls := "BloodPrice$Tokens", name := "spoilLast", desc := "()V" } : Jvm.MethodName) prog_7_method_6_code (1 : Nat) (Option.none : Option Jvm.ClassFile.FieldType)) ∈ GW := gw_s2 7 rfl rfl
theorem tw_248 : (Jvm.Cond.methodLink "BloodPrice$Tokens" (30 : Nat) ({ cls := "BloodPrice$Tokens", name := "lengthenLast", desc := "(II)V" } : Jvm.MethodName)) ∈ GW := gw_s2 8 rfl rfl
theorem tw_250 : (Jvm.Cond.instanceMethod ({ cls := "BloodPrice$Tokens", name := "lengthenLast", desc := "(II)V" } : Jvm.MethodName)) ∈ GW := gw_s2 10 rfl rfl
theorem tw_251 : (Jvm.Cond.code ({ cls := "BloodPrice$Tokens", name := "lengthenLast", desc := "(II)V" } : Jvm.MethodName) prog_7_method_7_code (5 : Nat) (Option.none : Option Jvm.ClassFile.FieldType)) ∈ GW := gw_s2 11 rfl rfl
theorem tw_252 : (Jvm.Cond.constantLong "BloodPrice$Tokens" (58 : Nat) (-1 : Int64)) ∈ GW := gw_s2 12 rfl rfl
theorem tw_253 : (Jvm.Cond.constantLong "BloodPrice$Tokens" (63 : Nat) (10 : Int64)) ∈ GW := gw_s2 13 rfl rfl
theorem tw_254 : (Jvm.Cond.methodLink "BloodPrice$Tokens" (34 : Nat) ({ cls := "BloodPrice$Tokens", name := "firstOf", desc := "(II)J" } : Jvm.MethodName)) ∈ GW := gw_s2 14 rfl rfl
theorem tw_255 : (Jvm.Cond.static ({ cls := "BloodPrice$Tokens", name := "firstOf", desc := "(II)J" } : Jvm.MethodName)) ∈ GW := gw_s2 15 rfl rfl
theorem tw_256 : (Jvm.Cond.code ({ cls := "BloodPrice$Tokens", name := "firstOf", desc := "(II)J" } : Jvm.MethodName) prog_7_method_4_code (2 : Nat) (Option.some Jvm.ClassFile.FieldType.long)) ∈ GW := gw_s2 16 rfl rfl
theorem tw_257 : (Jvm.Cond.methodLink "BloodPrice$Tokens" (38 : Nat) ({ cls := "BloodPrice$Tokens", name := "begin", desc := "(JI)V" } : Jvm.MethodName)) ∈ GW := gw_s2 17 rfl rfl
theorem tw_259 : (Jvm.Cond.instanceMethod ({ cls := "BloodPrice$Tokens", name := "begin", desc := "(JI)V" } : Jvm.MethodName)) ∈ GW := gw_s2 19 rfl rfl
theorem tw_260 : (Jvm.Cond.code ({ cls := "BloodPrice$Tokens", name := "begin", desc := "(JI)V" } : Jvm.MethodName) prog_7_method_5_code (4 : Nat) (Option.none : Option Jvm.ClassFile.FieldType)) ∈ GW := gw_s2 20 rfl rfl
theorem tw_261 : (Jvm.Cond.instantiable "BloodPrice$Law" (16 : Nat)) ∈ GW := gw_s2 21 rfl rfl
theorem tw_262 : (Jvm.Cond.methodLink "BloodPrice" (95 : Nat) ({ cls := "BloodPrice$Law", name := "<init>", desc := "(II)V" } : Jvm.MethodName)) ∈ GW := gw_s2 22 rfl rfl
theorem tw_263 : (Jvm.Cond.instanceMethod ({ cls := "BloodPrice$Law", name := "<init>", desc := "(II)V" } : Jvm.MethodName)) ∈ GW := gw_s2 23 rfl rfl
theorem tw_264 : (Jvm.Cond.code ({ cls := "BloodPrice$Law", name := "<init>", desc := "(II)V" } : Jvm.MethodName) prog_3_method_1_code (3 : Nat) (Option.none : Option Jvm.ClassFile.FieldType)) ∈ GW := gw_s2 24 rfl rfl
theorem tw_265 : (Jvm.Cond.methodLink "BloodPrice$Law" (3 : Nat) ({ cls := "java/lang/Object", name := "<init>", desc := "()V" } : Jvm.MethodName)) ∈ GW := gw_s2 25 rfl rfl
theorem tw_266 : (Jvm.Cond.fieldLink "BloodPrice$Law" (41 : Nat) "BloodPrice$Law" "from" "I") ∈ GW := gw_s2 26 rfl rfl
theorem tw_267 : (Jvm.Cond.fieldLink "BloodPrice" (116 : Nat) "BloodPrice$Law" "from" "I") ∈ GW := gw_s2 27 rfl rfl
theorem tw_268 : (Jvm.Cond.fieldLink "BloodPrice$Law" (9 : Nat) "BloodPrice$Law" "names" "[J") ∈ GW := gw_s2 28 rfl rfl
theorem tw_269 : (Jvm.Cond.fieldLink "BloodPrice$Reader" (75 : Nat) "BloodPrice$Law" "names" "[J") ∈ GW := gw_s2 29 rfl rfl
theorem tw_270 : (Jvm.Cond.fieldLink "BloodPrice" (248 : Nat) "BloodPrice$Law" "names" "[J") ∈ GW := gw_s2 30 rfl rfl
theorem tw_271 : (Jvm.Cond.fieldLink "BloodPrice$Law" (15 : Nat) "BloodPrice$Law" "share" "[I") ∈ GW := gw_s2 31 rfl rfl
theorem tw_272 : (Jvm.Cond.fieldLink "BloodPrice$Reader" (116 : Nat) "BloodPrice$Law" "share" "[I") ∈ GW := gw_s2 32 rfl rfl
theorem tw_273 : (Jvm.Cond.fieldLink "BloodPrice$Law" (47 : Nat) "BloodPrice$Law" "hurts" "I") ∈ GW := gw_s2 33 rfl rfl
theorem tw_274 : (Jvm.Cond.fieldLink "BloodPrice$Reader" (63 : Nat) "BloodPrice$Law" "hurts" "I") ∈ GW := gw_s2 34 rfl rfl
theorem tw_275 : (Jvm.Cond.fieldLink "BloodPrice$Law" (53 : Nat) "BloodPrice$Law" "whens" "I") ∈ GW := gw_s2 35 rfl rfl
theorem tw_276 : (Jvm.Cond.fieldLink "BloodPrice$Reader" (96 : Nat) "BloodPrice$Law" "whens" "I") ∈ GW := gw_s2 36 rfl rfl
theorem tw_277 : (Jvm.Cond.fieldLink "BloodPrice$Reader" (123 : Nat) "BloodPrice$Law" "helpers" "I") ∈ GW := gw_s2 37 rfl rfl
theorem tw_278 : (Jvm.Cond.fieldLink "BloodPrice" (275 : Nat) "BloodPrice$Law" "helpers" "I") ∈ GW := gw_s2 38 rfl rfl
theorem tw_279 : (Jvm.Cond.fieldLink "BloodPrice$Reader" (128 : Nat) "BloodPrice$Law" "helperRank" "I") ∈ GW := gw_s2 39 rfl rfl
theorem tw_280 : (Jvm.Cond.fieldLink "BloodPrice" (290 : Nat) "BloodPrice$Law" "helperRank" "I") ∈ GW := gw_s2 40 rfl rfl
theorem tw_281 : (Jvm.Cond.fieldLink "BloodPrice$Law" (19 : Nat) "BloodPrice$Law" "terms" "I") ∈ GW := gw_s2 41 rfl rfl
theorem tw_282 : (Jvm.Cond.fieldLink "BloodPrice$Reader" (134 : Nat) "BloodPrice$Law" "terms" "I") ∈ GW := gw_s2 42 rfl rfl
theorem tw_283 : (Jvm.Cond.fieldLink "BloodPrice" (200 : Nat) "BloodPrice$Law" "terms" "I") ∈ GW := gw_s2 43 rfl rfl
theorem tw_284 : (Jvm.Cond.fieldLink "BloodPrice$Law" (23 : Nat) "BloodPrice$Law" "termDays" "I") ∈ GW := gw_s2 44 rfl rfl
theorem tw_285 : (Jvm.Cond.fieldLink "BloodPrice$Reader" (139 : Nat) "BloodPrice$Law" "termDays" "I") ∈ GW := gw_s2 45 rfl rfl
theorem tw_286 : (Jvm.Cond.fieldLink "BloodPrice" (204 : Nat) "BloodPrice$Law" "termDays" "I") ∈ GW := gw_s2 46 rfl rfl
theorem tw_287 : (Jvm.Cond.fieldLink "BloodPrice$Law" (26 : Nat) "BloodPrice$Law" "prices" "[I") ∈ GW := gw_s2 47 rfl rfl
theorem tw_288 : (Jvm.Cond.fieldLink "BloodPrice$Law" (29 : Nat) "BloodPrice$Law" "deeds" "[I") ∈ GW := gw_s2 48 rfl rfl
theorem tw_289 : (Jvm.Cond.fieldLink "BloodPrice$Law" (32 : Nat) "BloodPrice$Law" "amounts" "[I") ∈ GW := gw_s2 49 rfl rfl
theorem tw_290 : (Jvm.Cond.fieldLink "BloodPrice$Law" (35 : Nat) "BloodPrice$Law" "stepsUpTo" "[I") ∈ GW := gw_s2 50 rfl rfl
theorem tw_291 : (Jvm.Cond.fieldLink "BloodPrice$Law" (44 : Nat) "BloodPrice$Law" "steps" "[I") ∈ GW := gw_s2 51 rfl rfl
theorem tw_292 : (Jvm.Cond.fieldLink "BloodPrice$Law" (50 : Nat) "BloodPrice$Law" "stepCount" "I") ∈ GW := gw_s2 52 rfl rfl
theorem tw_293 : (Jvm.Cond.fieldLink "BloodPrice$Law" (38 : Nat) "BloodPrice$Law" "stack" "[I") ∈ GW := gw_s2 53 rfl rfl
theorem tw_294 : (Jvm.Cond.laysFinal "BloodPrice$Law" "BloodPrice$Law" "from" "I") ∈ GW := gw_s2 54 rfl rfl
theorem tw_295 : (Jvm.Cond.soleField "BloodPrice$Law" "from") ∈ GW := gw_s2 55 rfl rfl
theorem tw_296 : (Jvm.Cond.laysFinal "BloodPrice$Law" "BloodPrice$Law" "names" "[J") ∈ GW := gw_s2 56 rfl rfl
theorem tw_297 : (Jvm.Cond.soleField "BloodPrice$Law" "names") ∈ GW := gw_s2 57 rfl rfl
theorem tw_298 : (Jvm.Cond.laysFinal "BloodPrice$Law" "BloodPrice$Law" "share" "[I") ∈ GW := gw_s2 58 rfl rfl
theorem tw_299 : (Jvm.Cond.soleField "BloodPrice$Law" "share") ∈ GW := gw_s2 59 rfl rfl
theorem tw_300 : (Jvm.Cond.lays "BloodPrice$Law" "BloodPrice$Law" "hurts" "I") ∈ GW := gw_s2 60 rfl rfl
theorem tw_301 : (Jvm.Cond.soleField "BloodPrice$Law" "hurts") ∈ GW := gw_s2 61 rfl rfl
theorem tw_302 : (Jvm.Cond.lays "BloodPrice$Law" "BloodPrice$Law" "whens" "I") ∈ GW := gw_s2 62 rfl rfl
theorem tw_303 : (Jvm.Cond.soleField "BloodPrice$Law" "whens") ∈ GW := gw_s2 63 rfl rfl
theorem tw_304 : (Jvm.Cond.lays "BloodPrice$Law" "BloodPrice$Law" "helpers" "I") ∈ GW := gw_s2 64 rfl rfl
theorem tw_305 : (Jvm.Cond.soleField "BloodPrice$Law" "helpers") ∈ GW := gw_s2 65 rfl rfl
theorem tw_306 : (Jvm.Cond.lays "BloodPrice$Law" "BloodPrice$Law" "helperRank" "I") ∈ GW := gw_s2 66 rfl rfl
theorem tw_307 : (Jvm.Cond.soleField "BloodPrice$Law" "helperRank") ∈ GW := gw_s2 67 rfl rfl
theorem tw_308 : (Jvm.Cond.lays "BloodPrice$Law" "BloodPrice$Law" "terms" "I") ∈ GW := gw_s2 68 rfl rfl
theorem tw_309 : (Jvm.Cond.soleField "BloodPrice$Law" "terms") ∈ GW := gw_s2 69 rfl rfl
theorem tw_310 : (Jvm.Cond.lays "BloodPrice$Law" "BloodPrice$Law" "termDays" "I") ∈ GW := gw_s2 70 rfl rfl
theorem tw_311 : (Jvm.Cond.soleField "BloodPrice$Law" "termDays") ∈ GW := gw_s2 71 rfl rfl
theorem tw_312 : (Jvm.Cond.laysFinal "BloodPrice$Law" "BloodPrice$Law" "prices" "[I") ∈ GW := gw_s2 72 rfl rfl
theorem tw_313 : (Jvm.Cond.soleField "BloodPrice$Law" "prices") ∈ GW := gw_s2 73 rfl rfl
theorem tw_314 : (Jvm.Cond.laysFinal "BloodPrice$Law" "BloodPrice$Law" "deeds" "[I") ∈ GW := gw_s2 74 rfl rfl
theorem tw_315 : (Jvm.Cond.soleField "BloodPrice$Law" "deeds") ∈ GW := gw_s2 75 rfl rfl
theorem tw_316 : (Jvm.Cond.laysFinal "BloodPrice$Law" "BloodPrice$Law" "amounts" "[I") ∈ GW := gw_s2 76 rfl rfl
theorem tw_317 : (Jvm.Cond.soleField "BloodPrice$Law" "amounts") ∈ GW := gw_s2 77 rfl rfl
theorem tw_318 : (Jvm.Cond.laysFinal "BloodPrice$Law" "BloodPrice$Law" "stepsUpTo" "[I") ∈ GW := gw_s2 78 rfl rfl
theorem tw_319 : (Jvm.Cond.soleField "BloodPrice$Law" "stepsUpTo") ∈ GW := gw_s2 79 rfl rfl
theorem tw_320 : (Jvm.Cond.laysFinal "BloodPrice$Law" "BloodPrice$Law" "steps" "[I") ∈ GW := gw_s2 80 rfl rfl
theorem tw_321 : (Jvm.Cond.soleField "BloodPrice$Law" "steps") ∈ GW := gw_s2 81 rfl rfl
theorem tw_322 : (Jvm.Cond.lays "BloodPrice$Law" "BloodPrice$Law" "stepCount" "I") ∈ GW := gw_s2 82 rfl rfl
theorem tw_323 : (Jvm.Cond.soleField "BloodPrice$Law" "stepCount") ∈ GW := gw_s2 83 rfl rfl
theorem tw_324 : (Jvm.Cond.laysFinal "BloodPrice$Law" "BloodPrice$Law" "stack" "[I") ∈ GW := gw_s2 84 rfl rfl
theorem tw_325 : (Jvm.Cond.soleField "BloodPrice$Law" "stack") ∈ GW := gw_s2 85 rfl rfl
theorem tw_326 : (Jvm.Cond.superclass "BloodPrice$Law" "java/lang/Object") ∈ GW := gw_s2 86 rfl rfl
theorem tw_327 : (Jvm.Cond.classLink "BloodPrice" (98 : Nat) "BloodPrice$Reader") ∈ GW := gw_s2 87 rfl rfl
theorem tw_328 : (Jvm.Cond.instantiable "BloodPrice$Reader" (10 : Nat)) ∈ GW := gw_s2 88 rfl rfl
theorem tw_329 : (Jvm.Cond.methodLink "BloodPrice" (100 : Nat) ({ cls := "BloodPrice$Reader", name := "<init>", desc := "(LBloodPrice$Tokens;LBloodPrice$Law;)V" } : Jvm.MethodName)) ∈ GW := gw_s2 89 rfl rfl
theorem tw_330 : (Jvm.Cond.instanceMethod ({ cls := "BloodPrice$Reader", name := "<init>", desc := "(LBloodPrice$Tokens;LBloodPrice$Law;)V" } : Jvm.MethodName)) ∈ GW := gw_s2 90 rfl rfl
theorem tw_331 : (Jvm.Cond.code ({ cls := "BloodPrice$Reader", name := "<init>", desc := "(LBloodPrice$Tokens;LBloodPrice$Law;)V" } : Jvm.MethodName) prog_6_method_1_code (3 : Nat) (Option.none : Option Jvm.ClassFile.FieldType)) ∈ GW := gw_s2 91 rfl rfl
theorem tw_332 : (Jvm.Cond.methodLink "BloodPrice$Reader" (3 : Nat) ({ cls := "java/lang/Object", name := "<init>", desc := "()V" } : Jvm.MethodName)) ∈ GW := gw_s2 92 rfl rfl
theorem tw_333 : (Jvm.Cond.fieldLink "BloodPrice$Reader" (15 : Nat) "BloodPrice$Reader" "tokens" "LBloodPrice$Tokens;") ∈ GW := gw_s2 93 rfl rfl
theorem tw_334 : (Jvm.Cond.fieldLink "BloodPrice$Reader" (19 : Nat) "BloodPrice$Reader" "told" "LBloodPrice$Law;") ∈ GW := gw_s2 94 rfl rfl
theorem tw_335 : (Jvm.Cond.fieldLink "BloodPrice$Reader" (182 : Nat) "BloodPrice$Reader" "at" "I") ∈ GW := gw_s2 95 rfl rfl
theorem tw_336 : (Jvm.Cond.fieldLink "BloodPrice$Reader" (29 : Nat) "BloodPrice$Reader" "current" "J") ∈ GW := gw_s2 96 rfl rfl
theorem tw_337 : (Jvm.Cond.fieldLink "BloodPrice$Reader" (171 : Nat) "BloodPrice$Reader" "sums" "I") ∈ GW := gw_s2 97 rfl rfl
theorem tw_338 : (Jvm.Cond.fieldLink "BloodPrice$Reader" (112 : Nat) "BloodPrice$Reader" "shareTold" "Z") ∈ GW := gw_s2 98 rfl rfl
theorem tw_339 : (Jvm.Cond.fieldLink "BloodPrice$Reader" (120 : Nat) "BloodPrice$Reader" "needTold" "Z") ∈ GW := gw_s2 99 rfl rfl
theorem tw_340 : (Jvm.Cond.fieldLink "BloodPrice$Reader" (131 : Nat) "BloodPrice$Reader" "termsTold" "Z") ∈ GW := gw_s2 100 rfl rfl
theorem tw_341 : (Jvm.Cond.fieldLink "BloodPrice" (107 : Nat) "BloodPrice$Reader" "fault" "I") ∈ GW := gw_s2 101 rfl rfl
theorem tw_342 : (Jvm.Cond.fieldLink "BloodPrice$Reader" (176 : Nat) "BloodPrice$Reader" "fault" "I") ∈ GW := gw_s2 102 rfl rfl
theorem tw_343 : (Jvm.Cond.fieldLink "BloodPrice$Reader" (9 : Nat) "BloodPrice$Reader" "faultPlace" "I") ∈ GW := gw_s2 103 rfl rfl
theorem tw_344 : (Jvm.Cond.fieldLink "BloodPrice" (113 : Nat) "BloodPrice$Reader" "faultPlace" "I") ∈ GW := gw_s2 104 rfl rfl
theorem tw_345 : (Jvm.Cond.laysFinal "BloodPrice$Reader" "BloodPrice$Reader" "tokens" "LBloodPrice$Tokens;") ∈ GW := gw_s2 105 rfl rfl
theorem tw_346 : (Jvm.Cond.soleField "BloodPrice$Reader" "tokens") ∈ GW := gw_s2 106 rfl rfl
theorem tw_347 : (Jvm.Cond.laysFinal "BloodPrice$Reader" "BloodPrice$Reader" "told" "LBloodPrice$Law;") ∈ GW := gw_s2 107 rfl rfl
theorem tw_348 : (Jvm.Cond.soleField "BloodPrice$Reader" "told") ∈ GW := gw_s2 108 rfl rfl
theorem tw_349 : (Jvm.Cond.lays "BloodPrice$Reader" "BloodPrice$Reader" "at" "I") ∈ GW := gw_s2 109 rfl rfl
theorem tw_350 : (Jvm.Cond.soleField "BloodPrice$Reader" "at") ∈ GW := gw_s2 110 rfl rfl
theorem tw_351 : (Jvm.Cond.lays "BloodPrice$Reader" "BloodPrice$Reader" "current" "J") ∈ GW := gw_s2 111 rfl rfl
theorem tw_352 : (Jvm.Cond.soleField "BloodPrice$Reader" "current") ∈ GW := gw_s2 112 rfl rfl
theorem tw_353 : (Jvm.Cond.lays "BloodPrice$Reader" "BloodPrice$Reader" "sums" "I") ∈ GW := gw_s2 113 rfl rfl
theorem tw_354 : (Jvm.Cond.soleField "BloodPrice$Reader" "sums") ∈ GW := gw_s2 114 rfl rfl
theorem tw_355 : (Jvm.Cond.lays "BloodPrice$Reader" "BloodPrice$Reader" "shareTold" "Z") ∈ GW := gw_s2 115 rfl rfl
theorem tw_356 : (Jvm.Cond.soleField "BloodPrice$Reader" "shareTold") ∈ GW := gw_s2 116 rfl rfl
theorem tw_357 : (Jvm.Cond.lays "BloodPrice$Reader" "BloodPrice$Reader" "needTold" "Z") ∈ GW := gw_s2 117 rfl rfl
theorem tw_358 : (Jvm.Cond.soleField "BloodPrice$Reader" "needTold") ∈ GW := gw_s2 118 rfl rfl
theorem tw_359 : (Jvm.Cond.lays "BloodPrice$Reader" "BloodPrice$Reader" "termsTold" "Z") ∈ GW := gw_s2 119 rfl rfl
theorem tw_360 : (Jvm.Cond.soleField "BloodPrice$Reader" "termsTold") ∈ GW := gw_s2 120 rfl rfl
theorem tw_361 : (Jvm.Cond.lays "BloodPrice$Reader" "BloodPrice$Reader" "fault" "I") ∈ GW := gw_s2 121 rfl rfl
theorem tw_362 : (Jvm.Cond.soleField "BloodPrice$Reader" "fault") ∈ GW := gw_s2 122 rfl rfl
theorem tw_363 : (Jvm.Cond.lays "BloodPrice$Reader" "BloodPrice$Reader" "faultPlace" "I") ∈ GW := gw_s2 123 rfl rfl
theorem tw_364 : (Jvm.Cond.soleField "BloodPrice$Reader" "faultPlace") ∈ GW := gw_s2 124 rfl rfl
theorem tw_365 : (Jvm.Cond.superclass "BloodPrice$Reader" "java/lang/Object") ∈ GW := gw_s2 125 rfl rfl
theorem tw_366 : (Jvm.Cond.methodLink "BloodPrice" (103 : Nat) ({ cls := "BloodPrice$Reader", name := "readText", desc := "()Z" } : Jvm.MethodName)) ∈ GW := gw_s2 126 rfl rfl
theorem tw_367 : (Jvm.Cond.instanceMethod ({ cls := "BloodPrice$Reader", name := "readText", desc := "()Z" } : Jvm.MethodName)) ∈ GW := gw_s2 127 rfl rfl
theorem tw_368 : (Jvm.Cond.selects "BloodPrice$Reader" ({ cls := "BloodPrice$Reader", name := "readText", desc := "()Z" } : Jvm.MethodName) ({ cls := "BloodPrice$Reader", name := "readText", desc := "()Z" } : Jvm.MethodName)) ∈ GW := gw_s2 128 rfl rfl
theorem tw_369 : (Jvm.Cond.code ({ cls := "BloodPrice$Reader", name := "readText", desc := "()Z" } : Jvm.MethodName) prog_6_method_2_code (3 : Nat) (Option.some Jvm.ClassFile.FieldType.boolean)) ∈ GW := gw_s2 129 rfl rfl
theorem tw_370 : (Jvm.Cond.constantLong "BloodPrice$Reader" (33 : Nat) (1752527476 : Int64)) ∈ GW := gw_s2 130 rfl rfl
theorem tw_371 : (Jvm.Cond.methodLink "BloodPrice$Reader" (35 : Nat) ({ cls := "BloodPrice$Reader", name := "readHurt", desc := "()Z" } : Jvm.MethodName)) ∈ GW := gw_s2 131 rfl rfl
theorem tw_373 : (Jvm.Cond.instanceMethod ({ cls := "BloodPrice$Reader", name := "readHurt", desc := "()Z" } : Jvm.MethodName)) ∈ GW := gw_s2 133 rfl rfl
theorem tw_374 : (Jvm.Cond.code ({ cls := "BloodPrice$Reader", name := "readHurt", desc := "()Z" } : Jvm.MethodName) prog_6_method_3_code (4 : Nat) (Option.some Jvm.ClassFile.FieldType.boolean)) ∈ GW := gw_s2 134 rfl rfl
theorem tw_375 : (Jvm.Cond.methodLink "BloodPrice$Reader" (59 : Nat) ({ cls := "BloodPrice$Reader", name := "refuse", desc := "(I)Z" } : Jvm.MethodName)) ∈ GW := gw_s2 135 rfl rfl
theorem tw_377 : (Jvm.Cond.instanceMethod ({ cls := "BloodPrice$Reader", name := "refuse", desc := "(I)Z" } : Jvm.MethodName)) ∈ GW := gw_s2 137 rfl rfl
theorem tw_378 : (Jvm.Cond.code ({ cls := "BloodPrice$Reader", name := "refuse", desc := "(I)Z" } : Jvm.MethodName) prog_6_method_14_code (2 : Nat) (Option.some Jvm.ClassFile.FieldType.boolean)) ∈ GW := gw_s2 138 rfl rfl
theorem tw_379 : (Jvm.Cond.methodLink "BloodPrice$Reader" (68 : Nat) ({ cls := "BloodPrice$Reader", name := "advance", desc := "()V" } : Jvm.MethodName)) ∈ GW := gw_s2 139 rfl rfl
theorem tw_381 : (Jvm.Cond.instanceMethod ({ cls := "BloodPrice$Reader", name := "advance", desc := "()V" } : Jvm.MethodName)) ∈ GW := gw_s2 141 rfl rfl
theorem tw_382 : (Jvm.Cond.code ({ cls := "BloodPrice$Reader", name := "advance", desc := "()V" } : Jvm.MethodName) prog_6_method_15_code (1 : Nat) (Option.none : Option Jvm.ClassFile.FieldType)) ∈ GW := gw_s2 142 rfl rfl
theorem tw_384 : (Jvm.Cond.static ({ cls := "BloodPrice", name := "isName", desc := "(J)Z" } : Jvm.MethodName)) ∈ GW := gw_s2 144 rfl rfl
theorem tw_385 : (Jvm.Cond.code ({ cls := "BloodPrice", name := "isName", desc := "(J)Z" } : Jvm.MethodName) prog_1_method_30_code (5 : Nat) (Option.some Jvm.ClassFile.FieldType.boolean)) ∈ GW := gw_s2 145 rfl rfl
theorem tw_386 : (Jvm.Cond.constantLong "BloodPrice" (224 : Nat) (255 : Int64)) ∈ GW := gw_s2 146 rfl rfl
theorem tw_387 : (Jvm.Cond.methodLink "BloodPrice" (226 : Nat) ({ cls := "BloodPrice", name := "isLetter", desc := "(I)Z" } : Jvm.MethodName)) ∈ GW := gw_s2 147 rfl rfl
theorem tw_388 : (Jvm.Cond.fieldLink "BloodPrice" (229 : Nat) "BloodPrice" "NO_NAMES" "[J") ∈ GW := gw_s2 148 rfl rfl
theorem tw_390 : (Jvm.Cond.methodLink "BloodPrice" (233 : Nat) ({ cls := "BloodPrice", name := "placeIn", desc := "([JJ)I" } : Jvm.MethodName)) ∈ GW := gw_s2 150 rfl rfl
theorem tw_391 : (Jvm.Cond.static ({ cls := "BloodPrice", name := "placeIn", desc := "([JJ)I" } : Jvm.MethodName)) ∈ GW := gw_s2 151 rfl rfl
theorem tw_392 : (Jvm.Cond.code ({ cls := "BloodPrice", name := "placeIn", desc := "([JJ)I" } : Jvm.MethodName) prog_1_method_31_code (4 : Nat) (Option.some Jvm.ClassFile.FieldType.int)) ∈ GW := gw_s2 152 rfl rfl
theorem tw_394 : (Jvm.Cond.constant "BloodPrice$Reader" (82 : Nat) (100000 : Int32)) ∈ GW := gw_s2 154 rfl rfl
theorem tw_395 : (Jvm.Cond.methodLink "BloodPrice$Reader" (83 : Nat) ({ cls := "BloodPrice$Reader", name := "readNumber", desc := "(II)I" } : Jvm.MethodName)) ∈ GW := gw_s2 155 rfl rfl
theorem tw_397 : (Jvm.Cond.instanceMethod ({ cls := "BloodPrice$Reader", name := "readNumber", desc := "(II)I" } : Jvm.MethodName)) ∈ GW := gw_s2 157 rfl rfl
theorem tw_398 : (Jvm.Cond.code ({ cls := "BloodPrice$Reader", name := "readNumber", desc := "(II)I" } : Jvm.MethodName) prog_6_method_12_code (4 : Nat) (Option.some Jvm.ClassFile.FieldType.int)) ∈ GW := gw_s2 158 rfl rfl
theorem tw_399 : (Jvm.Cond.constantLong "BloodPrice$Reader" (174 : Nat) (-1 : Int64)) ∈ GW := gw_s2 159 rfl rfl
theorem tw_400 : (Jvm.Cond.constantLong "BloodPrice$Reader" (87 : Nat) (59 : Int64)) ∈ GW := gw_s2 160 rfl rfl
theorem tw_401 : (Jvm.Cond.methodLink "BloodPrice$Reader" (89 : Nat) ({ cls := "BloodPrice$Reader", name := "expect", desc := "(J)Z" } : Jvm.MethodName)) ∈ GW := gw_s2 161 rfl rfl
theorem tw_403 : (Jvm.Cond.instanceMethod ({ cls := "BloodPrice$Reader", name := "expect", desc := "(J)Z" } : Jvm.MethodName)) ∈ GW := gw_s2 163 rfl rfl
theorem tw_404 : (Jvm.Cond.code ({ cls := "BloodPrice$Reader", name := "expect", desc := "(J)Z" } : Jvm.MethodName) prog_6_method_13_code (3 : Nat) (Option.some Jvm.ClassFile.FieldType.boolean)) ∈ GW := gw_s2 164 rfl rfl
theorem tw_405 : (Jvm.Cond.methodLink "BloodPrice$Reader" (92 : Nat) ({ cls := "BloodPrice$Law", name := "addHurt", desc := "(JI)V" } : Jvm.MethodName)) ∈ GW := gw_s2 165 rfl rfl
theorem tw_406 : (Jvm.Cond.instanceMethod ({ cls := "BloodPrice$Law", name := "addHurt", desc := "(JI)V" } : Jvm.MethodName)) ∈ GW := gw_s2 166 rfl rfl
theorem tw_407 : (Jvm.Cond.selects "BloodPrice$Law" ({ cls := "BloodPrice$Law", name := "addHurt", desc := "(JI)V" } : Jvm.MethodName) ({ cls := "BloodPrice$Law", name := "addHurt", desc := "(JI)V" } : Jvm.MethodName)) ∈ GW := gw_s2 167 rfl rfl
theorem tw_408 : (Jvm.Cond.code ({ cls := "BloodPrice$Law", name := "addHurt", desc := "(JI)V" } : Jvm.MethodName) prog_3_method_2_code (4 : Nat) (Option.none : Option Jvm.ClassFile.FieldType)) ∈ GW := gw_s2 168 rfl rfl
theorem tw_409 : (Jvm.Cond.constantLong "BloodPrice$Reader" (39 : Nat) (2003330414 : Int64)) ∈ GW := gw_s2 169 rfl rfl
theorem tw_410 : (Jvm.Cond.methodLink "BloodPrice$Reader" (41 : Nat) ({ cls := "BloodPrice$Reader", name := "readWhen", desc := "()Z" } : Jvm.MethodName)) ∈ GW := gw_s2 170 rfl rfl
theorem tw_412 : (Jvm.Cond.instanceMethod ({ cls := "BloodPrice$Reader", name := "readWhen", desc := "()Z" } : Jvm.MethodName)) ∈ GW := gw_s2 172 rfl rfl
theorem tw_413 : (Jvm.Cond.code ({ cls := "BloodPrice$Reader", name := "readWhen", desc := "()Z" } : Jvm.MethodName) prog_6_method_4_code (3 : Nat) (Option.some Jvm.ClassFile.FieldType.boolean)) ∈ GW := gw_s2 173 rfl rfl
theorem tw_414 : (Jvm.Cond.methodLink "BloodPrice$Reader" (99 : Nat) ({ cls := "BloodPrice$Reader", name := "readEither", desc := "(I)Z" } : Jvm.MethodName)) ∈ GW := gw_s2 174 rfl rfl
theorem tw_416 : (Jvm.Cond.instanceMethod ({ cls := "BloodPrice$Reader", name := "readEither", desc := "(I)Z" } : Jvm.MethodName)) ∈ GW := gw_s2 176 rfl rfl
theorem tw_417 : (Jvm.Cond.code ({ cls := "BloodPrice$Reader", name := "readEither", desc := "(I)Z" } : Jvm.MethodName) prog_6_method_8_code (4 : Nat) (Option.some Jvm.ClassFile.FieldType.boolean)) ∈ GW := gw_s2 177 rfl rfl
theorem tw_418 : (Jvm.Cond.methodLink "BloodPrice$Reader" (142 : Nat) ({ cls := "BloodPrice$Reader", name := "readBoth", desc := "(I)Z" } : Jvm.MethodName)) ∈ GW := gw_s2 178 rfl rfl
theorem tw_420 : (Jvm.Cond.instanceMethod ({ cls := "BloodPrice$Reader", name := "readBoth", desc := "(I)Z" } : Jvm.MethodName)) ∈ GW := gw_s2 180 rfl rfl
theorem tw_421 : (Jvm.Cond.code ({ cls := "BloodPrice$Reader", name := "readBoth", desc := "(I)Z" } : Jvm.MethodName) prog_6_method_9_code (4 : Nat) (Option.some Jvm.ClassFile.FieldType.boolean)) ∈ GW := gw_s2 181 rfl rfl
theorem tw_422 : (Jvm.Cond.methodLink "BloodPrice$Reader" (151 : Nat) ({ cls := "BloodPrice$Reader", name := "readOne", desc := "(I)Z" } : Jvm.MethodName)) ∈ GW := gw_s2 182 rfl rfl
theorem tw_424 : (Jvm.Cond.instanceMethod ({ cls := "BloodPrice$Reader", name := "readOne", desc := "(I)Z" } : Jvm.MethodName)) ∈ GW := gw_s2 184 rfl rfl
theorem tw_425 : (Jvm.Cond.code ({ cls := "BloodPrice$Reader", name := "readOne", desc := "(I)Z" } : Jvm.MethodName) prog_6_method_10_code (4 : Nat) (Option.some Jvm.ClassFile.FieldType.boolean)) ∈ GW := gw_s2 185 rfl rfl
theorem tw_426 : (Jvm.Cond.constantLong "BloodPrice$Reader" (156 : Nat) (7237492 : Int64)) ∈ GW := gw_s2 186 rfl rfl
theorem tw_427 : (Jvm.Cond.methodLink "BloodPrice$Reader" (147 : Nat) ({ cls := "BloodPrice$Law", name := "addStep", desc := "(I)V" } : Jvm.MethodName)) ∈ GW := gw_s2 187 rfl rfl
theorem tw_428 : (Jvm.Cond.instanceMethod ({ cls := "BloodPrice$Law", name := "addStep", desc := "(I)V" } : Jvm.MethodName)) ∈ GW := gw_s2 188 rfl rfl
theorem tw_429 : (Jvm.Cond.selects "BloodPrice$Law" ({ cls := "BloodPrice$Law", name := "addStep", desc := "(I)V" } : Jvm.MethodName) ({ cls := "BloodPrice$Law", name := "addStep", desc := "(I)V" } : Jvm.MethodName)) ∈ GW := gw_s2 189 rfl rfl
theorem tw_430 : (Jvm.Cond.code ({ cls := "BloodPrice$Law", name := "addStep", desc := "(I)V" } : Jvm.MethodName) prog_3_method_3_code (2 : Nat) (Option.none : Option Jvm.ClassFile.FieldType)) ∈ GW := gw_s2 190 rfl rfl
theorem tw_431 : (Jvm.Cond.constantLong "BloodPrice$Reader" (158 : Nat) (40 : Int64)) ∈ GW := gw_s2 191 rfl rfl
theorem tw_432 : (Jvm.Cond.constantLong "BloodPrice$Reader" (160 : Nat) (41 : Int64)) ∈ GW := gw_s2 192 rfl rfl
theorem tw_433 : (Jvm.Cond.methodLink "BloodPrice$Reader" (162 : Nat) ({ cls := "BloodPrice$Reader", name := "readOperand", desc := "()Z" } : Jvm.MethodName)) ∈ GW := gw_s2 193 rfl rfl
theorem tw_435 : (Jvm.Cond.instanceMethod ({ cls := "BloodPrice$Reader", name := "readOperand", desc := "()Z" } : Jvm.MethodName)) ∈ GW := gw_s2 195 rfl rfl
theorem tw_436 : (Jvm.Cond.code ({ cls := "BloodPrice$Reader", name := "readOperand", desc := "()Z" } : Jvm.MethodName) prog_6_method_11_code (2 : Nat) (Option.some Jvm.ClassFile.FieldType.boolean)) ∈ GW := gw_s2 196 rfl rfl
theorem tw_439 : (Jvm.Cond.methodLink "BloodPrice$Reader" (165 : Nat) ({ cls := "BloodPrice$Reader", name := "comparisonOf", desc := "(J)I" } : Jvm.MethodName)) ∈ GW := gw_s2 199 rfl rfl
theorem tw_440 : (Jvm.Cond.static ({ cls := "BloodPrice$Reader", name := "comparisonOf", desc := "(J)I" } : Jvm.MethodName)) ∈ GW := gw_s2 200 rfl rfl
theorem tw_441 : (Jvm.Cond.code ({ cls := "BloodPrice$Reader", name := "comparisonOf", desc := "(J)I" } : Jvm.MethodName) prog_6_method_17_code (2 : Nat) (Option.some Jvm.ClassFile.FieldType.int)) ∈ GW := gw_s2 201 rfl rfl
theorem tw_442 : (Jvm.Cond.constantLong "BloodPrice$Reader" (196 : Nat) (60 : Int64)) ∈ GW := gw_s2 202 rfl rfl
theorem tw_443 : (Jvm.Cond.constantLong "BloodPrice$Reader" (198 : Nat) (62 : Int64)) ∈ GW := gw_s2 203 rfl rfl
theorem tw_444 : (Jvm.Cond.constantLong "BloodPrice$Reader" (200 : Nat) (61 : Int64)) ∈ GW := gw_s2 204 rfl rfl
theorem tw_445 : (Jvm.Cond.constantLong "BloodPrice$Reader" (154 : Nat) (6385252 : Int64)) ∈ GW := gw_s2 205 rfl rfl
theorem tw_446 : (Jvm.Cond.constantLong "BloodPrice$Reader" (145 : Nat) (28530 : Int64)) ∈ GW := gw_s2 206 rfl rfl
theorem tw_447 : (Jvm.Cond.constantLong "BloodPrice$Reader" (102 : Nat) (25711 : Int64)) ∈ GW := gw_s2 207 rfl rfl
theorem tw_448 : (Jvm.Cond.methodLink "BloodPrice$Reader" (104 : Nat) ({ cls := "BloodPrice$Reader", name := "deedOf", desc := "(J)I" } : Jvm.MethodName)) ∈ GW := gw_s2 208 rfl rfl
theorem tw_449 : (Jvm.Cond.static ({ cls := "BloodPrice$Reader", name := "deedOf", desc := "(J)I" } : Jvm.MethodName)) ∈ GW := gw_s2 209 rfl rfl
theorem tw_450 : (Jvm.Cond.code ({ cls := "BloodPrice$Reader", name := "deedOf", desc := "(J)I" } : Jvm.MethodName) prog_6_method_16_code (2 : Nat) (Option.some Jvm.ClassFile.FieldType.int)) ∈ GW := gw_s2 210 rfl rfl
theorem tw_451 : (Jvm.Cond.constantLong "BloodPrice$Reader" (188 : Nat) (110429873532005 : Int64)) ∈ GW := gw_s2 211 rfl rfl
theorem tw_452 : (Jvm.Cond.constantLong "BloodPrice$Reader" (190 : Nat) (1751215206 : Int64)) ∈ GW := gw_s2 212 rfl rfl
theorem tw_453 : (Jvm.Cond.constantLong "BloodPrice$Reader" (192 : Nat) (6382692 : Int64)) ∈ GW := gw_s2 213 rfl rfl
theorem tw_454 : (Jvm.Cond.constantLong "BloodPrice$Reader" (194 : Nat) (1818588019 : Int64)) ∈ GW := gw_s2 214 rfl rfl
theorem tw_455 : (Jvm.Cond.methodLink "BloodPrice$Reader" (108 : Nat) ({ cls := "BloodPrice$Law", name := "addWhen", desc := "(II)V" } : Jvm.MethodName)) ∈ GW := gw_s2 215 rfl rfl
theorem tw_456 : (Jvm.Cond.instanceMethod ({ cls := "BloodPrice$Law", name := "addWhen", desc := "(II)V" } : Jvm.MethodName)) ∈ GW := gw_s2 216 rfl rfl
theorem tw_457 : (Jvm.Cond.selects "BloodPrice$Law" ({ cls := "BloodPrice$Law", name := "addWhen", desc := "(II)V" } : Jvm.MethodName) ({ cls := "BloodPrice$Law", name := "addWhen", desc := "(II)V" } : Jvm.MethodName)) ∈ GW := gw_s2 217 rfl rfl
theorem tw_458 : (Jvm.Cond.code ({ cls := "BloodPrice$Law", name := "addWhen", desc := "(II)V" } : Jvm.MethodName) prog_3_method_4_code (3 : Nat) (Option.none : Option Jvm.ClassFile.FieldType)) ∈ GW := gw_s2 218 rfl rfl
theorem tw_459 : (Jvm.Cond.constantLong "BloodPrice$Reader" (44 : Nat) (495672455781 : Int64)) ∈ GW := gw_s2 219 rfl rfl
theorem tw_460 : (Jvm.Cond.methodLink "BloodPrice$Reader" (46 : Nat) ({ cls := "BloodPrice$Reader", name := "readShare", desc := "()Z" } : Jvm.MethodName)) ∈ GW := gw_s2 220 rfl rfl
theorem tw_462 : (Jvm.Cond.instanceMethod ({ cls := "BloodPrice$Reader", name := "readShare", desc := "()Z" } : Jvm.MethodName)) ∈ GW := gw_s2 222 rfl rfl
theorem tw_463 : (Jvm.Cond.code ({ cls := "BloodPrice$Reader", name := "readShare", desc := "()Z" } : Jvm.MethodName) prog_6_method_5_code (5 : Nat) (Option.some Jvm.ClassFile.FieldType.boolean)) ∈ GW := gw_s2 223 rfl rfl
theorem tw_464 : (Jvm.Cond.constantLong "BloodPrice$Reader" (49 : Nat) (1852138852 : Int64)) ∈ GW := gw_s2 224 rfl rfl
theorem tw_465 : (Jvm.Cond.methodLink "BloodPrice$Reader" (51 : Nat) ({ cls := "BloodPrice$Reader", name := "readNeed", desc := "()Z" } : Jvm.MethodName)) ∈ GW := gw_s2 225 rfl rfl
theorem tw_467 : (Jvm.Cond.instanceMethod ({ cls := "BloodPrice$Reader", name := "readNeed", desc := "()Z" } : Jvm.MethodName)) ∈ GW := gw_s2 227 rfl rfl
theorem tw_468 : (Jvm.Cond.code ({ cls := "BloodPrice$Reader", name := "readNeed", desc := "()Z" } : Jvm.MethodName) prog_6_method_6_code (1 : Nat) (Option.some Jvm.ClassFile.FieldType.boolean)) ∈ GW := gw_s2 228 rfl rfl
theorem tw_469 : (Jvm.Cond.constantLong "BloodPrice$Reader" (126 : Nat) (1918987883 : Int64)) ∈ GW := gw_s2 229 rfl rfl
theorem tw_470 : (Jvm.Cond.constantLong "BloodPrice$Reader" (54 : Nat) (499918204275 : Int64)) ∈ GW := gw_s2 230 rfl rfl
theorem tw_471 : (Jvm.Cond.methodLink "BloodPrice$Reader" (56 : Nat) ({ cls := "BloodPrice$Reader", name := "readTerms", desc := "()Z" } : Jvm.MethodName)) ∈ GW := gw_s2 231 rfl rfl
theorem tw_473 : (Jvm.Cond.instanceMethod ({ cls := "BloodPrice$Reader", name := "readTerms", desc := "()Z" } : Jvm.MethodName)) ∈ GW := gw_s2 233 rfl rfl
theorem tw_474 : (Jvm.Cond.code ({ cls := "BloodPrice$Reader", name := "readTerms", desc := "()Z" } : Jvm.MethodName) prog_6_method_7_code (1 : Nat) (Option.some Jvm.ClassFile.FieldType.boolean)) ∈ GW := gw_s2 234 rfl rfl
theorem tw_475 : (Jvm.Cond.constantLong "BloodPrice$Reader" (137 : Nat) (1684109683 : Int64)) ∈ GW := gw_s2 235 rfl rfl
theorem tw_476 : (Jvm.Cond.methodLink "BloodPriceLaw" (28 : Nat) ({ cls := "BloodPrice", name := "fault", desc := "(I)I" } : Jvm.MethodName)) ∈ GW := gw_s2 236 rfl rfl
theorem tw_477 : (Jvm.Cond.instanceMethod ({ cls := "BloodPrice", name := "fault", desc := "(I)I" } : Jvm.MethodName)) ∈ GW := gw_s2 237 rfl rfl
theorem tw_478 : (Jvm.Cond.selects "BloodPrice" ({ cls := "BloodPrice", name := "fault", desc := "(I)I" } : Jvm.MethodName) ({ cls := "BloodPrice", name := "fault", desc := "(I)I" } : Jvm.MethodName)) ∈ GW := gw_s2 238 rfl rfl
theorem tw_479 : (Jvm.Cond.code ({ cls := "BloodPrice", name := "fault", desc := "(I)I" } : Jvm.MethodName) prog_1_method_6_code (2 : Nat) (Option.some Jvm.ClassFile.FieldType.int)) ∈ GW := gw_s2 239 rfl rfl
theorem tw_480 : (Jvm.Cond.methodLink "BloodPriceLaw" (32 : Nat) ({ cls := "BloodPrice", name := "lawOn", desc := "(II)I" } : Jvm.MethodName)) ∈ GW := gw_s3 0 rfl rfl
theorem tw_481 : (Jvm.Cond.instanceMethod ({ cls := "BloodPrice", name := "lawOn", desc := "(II)I" } : Jvm.MethodName)) ∈ GW := gw_s3 1 rfl rfl
theorem tw_482 : (Jvm.Cond.selects "BloodPrice" ({ cls := "BloodPrice", name := "lawOn", desc := "(II)I" } : Jvm.MethodName) ({ cls := "BloodPrice", name := "lawOn", desc := "(II)I" } : Jvm.MethodName)) ∈ GW := gw_s3 2 rfl rfl
theorem tw_483 : (Jvm.Cond.code ({ cls := "BloodPrice", name := "lawOn", desc := "(II)I" } : Jvm.MethodName) prog_1_method_7_code (7 : Nat) (Option.some Jvm.ClassFile.FieldType.int)) ∈ GW := gw_s3 3 rfl rfl
theorem tw_484 : (Jvm.Cond.methodLink "BloodPriceLaw" (36 : Nat) ({ cls := "BloodPrice", name := "person", desc := "(III)I" } : Jvm.MethodName)) ∈ GW := gw_s3 4 rfl rfl
theorem tw_485 : (Jvm.Cond.instanceMethod ({ cls := "BloodPrice", name := "person", desc := "(III)I" } : Jvm.MethodName)) ∈ GW := gw_s3 5 rfl rfl
theorem tw_486 : (Jvm.Cond.selects "BloodPrice" ({ cls := "BloodPrice", name := "person", desc := "(III)I" } : Jvm.MethodName) ({ cls := "BloodPrice", name := "person", desc := "(III)I" } : Jvm.MethodName)) ∈ GW := gw_s3 6 rfl rfl
theorem tw_487 : (Jvm.Cond.code ({ cls := "BloodPrice", name := "person", desc := "(III)I" } : Jvm.MethodName) prog_1_method_8_code (4 : Nat) (Option.some Jvm.ClassFile.FieldType.int)) ∈ GW := gw_s3 7 rfl rfl
theorem tw_488 : (Jvm.Cond.methodLink "BloodPrice" (119 : Nat) ({ cls := "BloodPrice$People", name := "canBeParent", desc := "(I)Z" } : Jvm.MethodName)) ∈ GW := gw_s3 8 rfl rfl
theorem tw_489 : (Jvm.Cond.instanceMethod ({ cls := "BloodPrice$People", name := "canBeParent", desc := "(I)Z" } : Jvm.MethodName)) ∈ GW := gw_s3 9 rfl rfl
theorem tw_490 : (Jvm.Cond.selects "BloodPrice$People" ({ cls := "BloodPrice$People", name := "canBeParent", desc := "(I)Z" } : Jvm.MethodName) ({ cls := "BloodPrice$People", name := "canBeParent", desc := "(I)Z" } : Jvm.MethodName)) ∈ GW := gw_s3 10 rfl rfl
theorem tw_491 : (Jvm.Cond.code ({ cls := "BloodPrice$People", name := "canBeParent", desc := "(I)Z" } : Jvm.MethodName) prog_5_method_3_code (2 : Nat) (Option.some Jvm.ClassFile.FieldType.boolean)) ∈ GW := gw_s3 11 rfl rfl
theorem tw_492 : (Jvm.Cond.methodLink "BloodPrice$People" (35 : Nat) ({ cls := "BloodPrice$People", name := "isThere", desc := "(I)Z" } : Jvm.MethodName)) ∈ GW := gw_s3 12 rfl rfl
theorem tw_493 : (Jvm.Cond.instanceMethod ({ cls := "BloodPrice$People", name := "isThere", desc := "(I)Z" } : Jvm.MethodName)) ∈ GW := gw_s3 13 rfl rfl
theorem tw_494 : (Jvm.Cond.selects "BloodPrice$People" ({ cls := "BloodPrice$People", name := "isThere", desc := "(I)Z" } : Jvm.MethodName) ({ cls := "BloodPrice$People", name := "isThere", desc := "(I)Z" } : Jvm.MethodName)) ∈ GW := gw_s3 14 rfl rfl
theorem tw_495 : (Jvm.Cond.code ({ cls := "BloodPrice$People", name := "isThere", desc := "(I)Z" } : Jvm.MethodName) prog_5_method_2_code (2 : Nat) (Option.some Jvm.ClassFile.FieldType.boolean)) ∈ GW := gw_s3 15 rfl rfl
theorem tw_496 : (Jvm.Cond.methodLink "BloodPrice" (122 : Nat) ({ cls := "BloodPrice$People", name := "add", desc := "(III)I" } : Jvm.MethodName)) ∈ GW := gw_s3 16 rfl rfl
theorem tw_497 : (Jvm.Cond.instanceMethod ({ cls := "BloodPrice$People", name := "add", desc := "(III)I" } : Jvm.MethodName)) ∈ GW := gw_s3 17 rfl rfl
theorem tw_498 : (Jvm.Cond.selects "BloodPrice$People" ({ cls := "BloodPrice$People", name := "add", desc := "(III)I" } : Jvm.MethodName) ({ cls := "BloodPrice$People", name := "add", desc := "(III)I" } : Jvm.MethodName)) ∈ GW := gw_s3 18 rfl rfl
theorem tw_499 : (Jvm.Cond.code ({ cls := "BloodPrice$People", name := "add", desc := "(III)I" } : Jvm.MethodName) prog_5_method_4_code (4 : Nat) (Option.some Jvm.ClassFile.FieldType.int)) ∈ GW := gw_s3 19 rfl rfl
theorem tw_500 : (Jvm.Cond.methodLink "BloodPriceLaw" (41 : Nat) ({ cls := "BloodPrice", name := "degree", desc := "(II)I" } : Jvm.MethodName)) ∈ GW := gw_s3 20 rfl rfl
theorem tw_501 : (Jvm.Cond.instanceMethod ({ cls := "BloodPrice", name := "degree", desc := "(II)I" } : Jvm.MethodName)) ∈ GW := gw_s3 21 rfl rfl
theorem tw_502 : (Jvm.Cond.selects "BloodPrice" ({ cls := "BloodPrice", name := "degree", desc := "(II)I" } : Jvm.MethodName) ({ cls := "BloodPrice", name := "degree", desc := "(II)I" } : Jvm.MethodName)) ∈ GW := gw_s3 22 rfl rfl
theorem tw_503 : (Jvm.Cond.code ({ cls := "BloodPrice", name := "degree", desc := "(II)I" } : Jvm.MethodName) prog_1_method_9_code (3 : Nat) (Option.some Jvm.ClassFile.FieldType.int)) ∈ GW := gw_s3 23 rfl rfl
theorem tw_504 : (Jvm.Cond.methodLink "BloodPrice" (126 : Nat) ({ cls := "BloodPrice$People", name := "stepsBetween", desc := "(II)I" } : Jvm.MethodName)) ∈ GW := gw_s3 24 rfl rfl
theorem tw_505 : (Jvm.Cond.instanceMethod ({ cls := "BloodPrice$People", name := "stepsBetween", desc := "(II)I" } : Jvm.MethodName)) ∈ GW := gw_s3 25 rfl rfl
theorem tw_506 : (Jvm.Cond.selects "BloodPrice$People" ({ cls := "BloodPrice$People", name := "stepsBetween", desc := "(II)I" } : Jvm.MethodName) ({ cls := "BloodPrice$People", name := "stepsBetween", desc := "(II)I" } : Jvm.MethodName)) ∈ GW := gw_s3 26 rfl rfl
theorem tw_507 : (Jvm.Cond.code ({ cls := "BloodPrice$People", name := "stepsBetween", desc := "(II)I" } : Jvm.MethodName) prog_5_method_8_code (3 : Nat) (Option.some Jvm.ClassFile.FieldType.int)) ∈ GW := gw_s3 27 rfl rfl
theorem tw_508 : (Jvm.Cond.methodLink "BloodPrice$People" (39 : Nat) ({ cls := "BloodPrice$People", name := "measureFrom", desc := "(I)V" } : Jvm.MethodName)) ∈ GW := gw_s3 28 rfl rfl
theorem tw_509 : (Jvm.Cond.instanceMethod ({ cls := "BloodPrice$People", name := "measureFrom", desc := "(I)V" } : Jvm.MethodName)) ∈ GW := gw_s3 29 rfl rfl
theorem tw_510 : (Jvm.Cond.selects "BloodPrice$People" ({ cls := "BloodPrice$People", name := "measureFrom", desc := "(I)V" } : Jvm.MethodName) ({ cls := "BloodPrice$People", name := "measureFrom", desc := "(I)V" } : Jvm.MethodName)) ∈ GW := gw_s3 30 rfl rfl
theorem tw_511 : (Jvm.Cond.code ({ cls := "BloodPrice$People", name := "measureFrom", desc := "(I)V" } : Jvm.MethodName) prog_5_method_9_code (4 : Nat) (Option.none : Option Jvm.ClassFile.FieldType)) ∈ GW := gw_s3 31 rfl rfl
theorem tw_512 : (Jvm.Cond.methodLink "BloodPrice$People" (43 : Nat) ({ cls := "BloodPrice$People", name := "stepBetween", desc := "(III)V" } : Jvm.MethodName)) ∈ GW := gw_s3 32 rfl rfl
theorem tw_514 : (Jvm.Cond.instanceMethod ({ cls := "BloodPrice$People", name := "stepBetween", desc := "(III)V" } : Jvm.MethodName)) ∈ GW := gw_s3 34 rfl rfl
theorem tw_515 : (Jvm.Cond.code ({ cls := "BloodPrice$People", name := "stepBetween", desc := "(III)V" } : Jvm.MethodName) prog_5_method_10_code (4 : Nat) (Option.none : Option Jvm.ClassFile.FieldType)) ∈ GW := gw_s3 35 rfl rfl
theorem tw_516 : (Jvm.Cond.methodLink "BloodPriceLaw" (45 : Nat) ({ cls := "BloodPrice", name := "rank", desc := "(III)I" } : Jvm.MethodName)) ∈ GW := gw_s3 36 rfl rfl
theorem tw_517 : (Jvm.Cond.instanceMethod ({ cls := "BloodPrice", name := "rank", desc := "(III)I" } : Jvm.MethodName)) ∈ GW := gw_s3 37 rfl rfl
theorem tw_518 : (Jvm.Cond.selects "BloodPrice" ({ cls := "BloodPrice", name := "rank", desc := "(III)I" } : Jvm.MethodName) ({ cls := "BloodPrice", name := "rank", desc := "(III)I" } : Jvm.MethodName)) ∈ GW := gw_s3 38 rfl rfl
theorem tw_519 : (Jvm.Cond.code ({ cls := "BloodPrice", name := "rank", desc := "(III)I" } : Jvm.MethodName) prog_1_method_10_code (4 : Nat) (Option.some Jvm.ClassFile.FieldType.int)) ∈ GW := gw_s3 39 rfl rfl
theorem tw_520 : (Jvm.Cond.methodLink "BloodPrice" (130 : Nat) ({ cls := "BloodPrice$People", name := "isThere", desc := "(I)Z" } : Jvm.MethodName)) ∈ GW := gw_s3 40 rfl rfl
theorem tw_521 : (Jvm.Cond.methodLink "BloodPrice" (136 : Nat) ({ cls := "BloodPrice$Tolds", name := "add", desc := "(IIII)I" } : Jvm.MethodName)) ∈ GW := gw_s3 41 rfl rfl
theorem tw_522 : (Jvm.Cond.instanceMethod ({ cls := "BloodPrice$Tolds", name := "add", desc := "(IIII)I" } : Jvm.MethodName)) ∈ GW := gw_s3 42 rfl rfl
theorem tw_523 : (Jvm.Cond.selects "BloodPrice$Tolds" ({ cls := "BloodPrice$Tolds", name := "add", desc := "(IIII)I" } : Jvm.MethodName) ({ cls := "BloodPrice$Tolds", name := "add", desc := "(IIII)I" } : Jvm.MethodName)) ∈ GW := gw_s3 43 rfl rfl
theorem tw_524 : (Jvm.Cond.code ({ cls := "BloodPrice$Tolds", name := "add", desc := "(IIII)I" } : Jvm.MethodName) prog_8_method_2_code (5 : Nat) (Option.some Jvm.ClassFile.FieldType.int)) ∈ GW := gw_s3 44 rfl rfl
theorem tw_525 : (Jvm.Cond.methodLink "BloodPriceLaw" (49 : Nat) ({ cls := "BloodPrice", name := "ranked", desc := "(III)I" } : Jvm.MethodName)) ∈ GW := gw_s3 45 rfl rfl
theorem tw_526 : (Jvm.Cond.instanceMethod ({ cls := "BloodPrice", name := "ranked", desc := "(III)I" } : Jvm.MethodName)) ∈ GW := gw_s3 46 rfl rfl
theorem tw_527 : (Jvm.Cond.selects "BloodPrice" ({ cls := "BloodPrice", name := "ranked", desc := "(III)I" } : Jvm.MethodName) ({ cls := "BloodPrice", name := "ranked", desc := "(III)I" } : Jvm.MethodName)) ∈ GW := gw_s3 47 rfl rfl
theorem tw_528 : (Jvm.Cond.code ({ cls := "BloodPrice", name := "ranked", desc := "(III)I" } : Jvm.MethodName) prog_1_method_11_code (4 : Nat) (Option.some Jvm.ClassFile.FieldType.int)) ∈ GW := gw_s3 48 rfl rfl
theorem tw_529 : (Jvm.Cond.methodLink "BloodPrice" (139 : Nat) ({ cls := "BloodPrice$Tolds", name := "rankAsKnown", desc := "(III)I" } : Jvm.MethodName)) ∈ GW := gw_s3 49 rfl rfl
theorem tw_530 : (Jvm.Cond.instanceMethod ({ cls := "BloodPrice$Tolds", name := "rankAsKnown", desc := "(III)I" } : Jvm.MethodName)) ∈ GW := gw_s3 50 rfl rfl
theorem tw_531 : (Jvm.Cond.selects "BloodPrice$Tolds" ({ cls := "BloodPrice$Tolds", name := "rankAsKnown", desc := "(III)I" } : Jvm.MethodName) ({ cls := "BloodPrice$Tolds", name := "rankAsKnown", desc := "(III)I" } : Jvm.MethodName)) ∈ GW := gw_s3 51 rfl rfl
theorem tw_532 : (Jvm.Cond.code ({ cls := "BloodPrice$Tolds", name := "rankAsKnown", desc := "(III)I" } : Jvm.MethodName) prog_8_method_3_code (8 : Nat) (Option.some Jvm.ClassFile.FieldType.int)) ∈ GW := gw_s3 52 rfl rfl
theorem tw_533 : (Jvm.Cond.methodLink "BloodPriceLaw" (53 : Nat) ({ cls := "BloodPrice", name := "dead", desc := "(II)Z" } : Jvm.MethodName)) ∈ GW := gw_s3 53 rfl rfl
theorem tw_534 : (Jvm.Cond.instanceMethod ({ cls := "BloodPrice", name := "dead", desc := "(II)Z" } : Jvm.MethodName)) ∈ GW := gw_s3 54 rfl rfl
theorem tw_535 : (Jvm.Cond.selects "BloodPrice" ({ cls := "BloodPrice", name := "dead", desc := "(II)Z" } : Jvm.MethodName) ({ cls := "BloodPrice", name := "dead", desc := "(II)Z" } : Jvm.MethodName)) ∈ GW := gw_s3 55 rfl rfl
theorem tw_536 : (Jvm.Cond.code ({ cls := "BloodPrice", name := "dead", desc := "(II)Z" } : Jvm.MethodName) prog_1_method_12_code (3 : Nat) (Option.some Jvm.ClassFile.FieldType.boolean)) ∈ GW := gw_s3 56 rfl rfl
theorem tw_537 : (Jvm.Cond.methodLink "BloodPrice" (142 : Nat) ({ cls := "BloodPrice$People", name := "bury", desc := "(II)Z" } : Jvm.MethodName)) ∈ GW := gw_s3 57 rfl rfl
theorem tw_538 : (Jvm.Cond.instanceMethod ({ cls := "BloodPrice$People", name := "bury", desc := "(II)Z" } : Jvm.MethodName)) ∈ GW := gw_s3 58 rfl rfl
theorem tw_539 : (Jvm.Cond.selects "BloodPrice$People" ({ cls := "BloodPrice$People", name := "bury", desc := "(II)Z" } : Jvm.MethodName) ({ cls := "BloodPrice$People", name := "bury", desc := "(II)Z" } : Jvm.MethodName)) ∈ GW := gw_s3 59 rfl rfl
theorem tw_540 : (Jvm.Cond.code ({ cls := "BloodPrice$People", name := "bury", desc := "(II)Z" } : Jvm.MethodName) prog_5_method_6_code (3 : Nat) (Option.some Jvm.ClassFile.FieldType.boolean)) ∈ GW := gw_s3 60 rfl rfl
theorem tw_541 : (Jvm.Cond.methodLink "BloodPriceLaw" (58 : Nat) ({ cls := "BloodPrice", name := "truce", desc := "(IIII)I" } : Jvm.MethodName)) ∈ GW := gw_s3 61 rfl rfl
theorem tw_542 : (Jvm.Cond.instanceMethod ({ cls := "BloodPrice", name := "truce", desc := "(IIII)I" } : Jvm.MethodName)) ∈ GW := gw_s3 62 rfl rfl
theorem tw_543 : (Jvm.Cond.selects "BloodPrice" ({ cls := "BloodPrice", name := "truce", desc := "(IIII)I" } : Jvm.MethodName) ({ cls := "BloodPrice", name := "truce", desc := "(IIII)I" } : Jvm.MethodName)) ∈ GW := gw_s3 63 rfl rfl
theorem tw_544 : (Jvm.Cond.code ({ cls := "BloodPrice", name := "truce", desc := "(IIII)I" } : Jvm.MethodName) prog_1_method_13_code (5 : Nat) (Option.some Jvm.ClassFile.FieldType.int)) ∈ GW := gw_s3 64 rfl rfl
theorem tw_545 : (Jvm.Cond.methodLink "BloodPrice" (146 : Nat) ({ cls := "BloodPrice$Truces", name := "add", desc := "(IIII)I" } : Jvm.MethodName)) ∈ GW := gw_s3 65 rfl rfl
theorem tw_546 : (Jvm.Cond.instanceMethod ({ cls := "BloodPrice$Truces", name := "add", desc := "(IIII)I" } : Jvm.MethodName)) ∈ GW := gw_s3 66 rfl rfl
theorem tw_547 : (Jvm.Cond.selects "BloodPrice$Truces" ({ cls := "BloodPrice$Truces", name := "add", desc := "(IIII)I" } : Jvm.MethodName) ({ cls := "BloodPrice$Truces", name := "add", desc := "(IIII)I" } : Jvm.MethodName)) ∈ GW := gw_s3 67 rfl rfl
theorem tw_548 : (Jvm.Cond.code ({ cls := "BloodPrice$Truces", name := "add", desc := "(IIII)I" } : Jvm.MethodName) prog_9_method_2_code (5 : Nat) (Option.some Jvm.ClassFile.FieldType.int)) ∈ GW := gw_s3 68 rfl rfl
theorem tw_549 : (Jvm.Cond.methodLink "BloodPriceLaw" (63 : Nat) ({ cls := "BloodPrice", name := "later", desc := "(I)I" } : Jvm.MethodName)) ∈ GW := gw_s3 69 rfl rfl
theorem tw_550 : (Jvm.Cond.instanceMethod ({ cls := "BloodPrice", name := "later", desc := "(I)I" } : Jvm.MethodName)) ∈ GW := gw_s3 70 rfl rfl
theorem tw_551 : (Jvm.Cond.selects "BloodPrice" ({ cls := "BloodPrice", name := "later", desc := "(I)I" } : Jvm.MethodName) ({ cls := "BloodPrice", name := "later", desc := "(I)I" } : Jvm.MethodName)) ∈ GW := gw_s3 71 rfl rfl
theorem tw_552 : (Jvm.Cond.code ({ cls := "BloodPrice", name := "later", desc := "(I)I" } : Jvm.MethodName) prog_1_method_14_code (2 : Nat) (Option.some Jvm.ClassFile.FieldType.int)) ∈ GW := gw_s3 72 rfl rfl
theorem tw_553 : (Jvm.Cond.methodLink "BloodPriceLaw" (69 : Nat) ({ cls := "BloodPrice", name := "hurt", desc := "(IIJIIZ)I" } : Jvm.MethodName)) ∈ GW := gw_s3 73 rfl rfl
theorem tw_554 : (Jvm.Cond.instanceMethod ({ cls := "BloodPrice", name := "hurt", desc := "(IIJIIZ)I" } : Jvm.MethodName)) ∈ GW := gw_s3 74 rfl rfl
theorem tw_555 : (Jvm.Cond.selects "BloodPrice" ({ cls := "BloodPrice", name := "hurt", desc := "(IIJIIZ)I" } : Jvm.MethodName) ({ cls := "BloodPrice", name := "hurt", desc := "(IIJIIZ)I" } : Jvm.MethodName)) ∈ GW := gw_s3 75 rfl rfl
theorem tw_556 : (Jvm.Cond.code ({ cls := "BloodPrice", name := "hurt", desc := "(IIJIIZ)I" } : Jvm.MethodName) prog_1_method_15_code (8 : Nat) (Option.some Jvm.ClassFile.FieldType.int)) ∈ GW := gw_s3 76 rfl rfl
theorem tw_557 : (Jvm.Cond.methodLink "BloodPrice" (148 : Nat) ({ cls := "BloodPrice", name := "isName", desc := "(J)Z" } : Jvm.MethodName)) ∈ GW := gw_s3 77 rfl rfl
theorem tw_558 : (Jvm.Cond.instantiable "BloodPrice$Case" (11 : Nat)) ∈ GW := gw_s3 78 rfl rfl
theorem tw_559 : (Jvm.Cond.methodLink "BloodPrice" (155 : Nat) ({ cls := "BloodPrice$Case", name := "<init>", desc := "(IIJIIZ)V" } : Jvm.MethodName)) ∈ GW := gw_s3 79 rfl rfl
theorem tw_560 : (Jvm.Cond.instanceMethod ({ cls := "BloodPrice$Case", name := "<init>", desc := "(IIJIIZ)V" } : Jvm.MethodName)) ∈ GW := gw_s3 80 rfl rfl
theorem tw_561 : (Jvm.Cond.code ({ cls := "BloodPrice$Case", name := "<init>", desc := "(IIJIIZ)V" } : Jvm.MethodName) prog_2_method_1_code (8 : Nat) (Option.none : Option Jvm.ClassFile.FieldType)) ∈ GW := gw_s3 81 rfl rfl
theorem tw_562 : (Jvm.Cond.methodLink "BloodPrice$Case" (3 : Nat) ({ cls := "java/lang/Object", name := "<init>", desc := "()V" } : Jvm.MethodName)) ∈ GW := gw_s3 82 rfl rfl
theorem tw_563 : (Jvm.Cond.fieldLink "BloodPrice$Case" (18 : Nat) "BloodPrice$Case" "doer" "I") ∈ GW := gw_s3 83 rfl rfl
theorem tw_564 : (Jvm.Cond.fieldLink "BloodPrice" (180 : Nat) "BloodPrice$Case" "doer" "I") ∈ GW := gw_s3 84 rfl rfl
theorem tw_565 : (Jvm.Cond.fieldLink "BloodPrice$Case" (21 : Nat) "BloodPrice$Case" "victim" "I") ∈ GW := gw_s3 85 rfl rfl
theorem tw_566 : (Jvm.Cond.fieldLink "BloodPrice" (183 : Nat) "BloodPrice$Case" "victim" "I") ∈ GW := gw_s3 86 rfl rfl
theorem tw_567 : (Jvm.Cond.fieldLink "BloodPrice$Case" (24 : Nat) "BloodPrice$Case" "name" "J") ∈ GW := gw_s3 87 rfl rfl
theorem tw_568 : (Jvm.Cond.fieldLink "BloodPrice" (251 : Nat) "BloodPrice$Case" "name" "J") ∈ GW := gw_s3 88 rfl rfl
theorem tw_569 : (Jvm.Cond.fieldLink "BloodPrice$Case" (28 : Nat) "BloodPrice$Case" "day" "I") ∈ GW := gw_s3 89 rfl rfl
theorem tw_570 : (Jvm.Cond.fieldLink "BloodPrice" (186 : Nat) "BloodPrice$Case" "day" "I") ∈ GW := gw_s3 90 rfl rfl
theorem tw_571 : (Jvm.Cond.fieldLink "BloodPrice$Case" (31 : Nat) "BloodPrice$Case" "place" "I") ∈ GW := gw_s3 91 rfl rfl
theorem tw_572 : (Jvm.Cond.fieldLink "BloodPrice" (263 : Nat) "BloodPrice$Case" "place" "I") ∈ GW := gw_s3 92 rfl rfl
theorem tw_573 : (Jvm.Cond.fieldLink "BloodPrice$Case" (34 : Nat) "BloodPrice$Case" "night" "Z") ∈ GW := gw_s3 93 rfl rfl
theorem tw_574 : (Jvm.Cond.fieldLink "BloodPrice" (266 : Nat) "BloodPrice$Case" "night" "Z") ∈ GW := gw_s3 94 rfl rfl
theorem tw_575 : (Jvm.Cond.fieldLink "BloodPrice$Case" (9 : Nat) "BloodPrice$Case" "cleared" "I") ∈ GW := gw_s3 95 rfl rfl
theorem tw_576 : (Jvm.Cond.fieldLink "BloodPrice" (166 : Nat) "BloodPrice$Case" "cleared" "I") ∈ GW := gw_s3 96 rfl rfl
theorem tw_577 : (Jvm.Cond.fieldLink "BloodPrice$Case" (15 : Nat) "BloodPrice$Case" "judged" "I") ∈ GW := gw_s3 97 rfl rfl
theorem tw_578 : (Jvm.Cond.fieldLink "BloodPrice" (169 : Nat) "BloodPrice$Case" "judged" "I") ∈ GW := gw_s3 98 rfl rfl
theorem tw_579 : (Jvm.Cond.fieldLink "BloodPrice$Case" (41 : Nat) "BloodPrice$Case" "due" "I") ∈ GW := gw_s3 99 rfl rfl
theorem tw_580 : (Jvm.Cond.fieldLink "BloodPrice" (197 : Nat) "BloodPrice$Case" "due" "I") ∈ GW := gw_s3 100 rfl rfl
theorem tw_581 : (Jvm.Cond.fieldLink "BloodPrice$Case" (38 : Nat) "BloodPrice$Case" "terms" "I") ∈ GW := gw_s3 101 rfl rfl
theorem tw_582 : (Jvm.Cond.fieldLink "BloodPrice" (203 : Nat) "BloodPrice$Case" "terms" "I") ∈ GW := gw_s3 102 rfl rfl
theorem tw_583 : (Jvm.Cond.fieldLink "BloodPrice" (207 : Nat) "BloodPrice$Case" "termDays" "I") ∈ GW := gw_s3 103 rfl rfl
theorem tw_584 : (Jvm.Cond.laysFinal "BloodPrice$Case" "BloodPrice$Case" "doer" "I") ∈ GW := gw_s3 104 rfl rfl
theorem tw_585 : (Jvm.Cond.soleField "BloodPrice$Case" "doer") ∈ GW := gw_s3 105 rfl rfl
theorem tw_586 : (Jvm.Cond.laysFinal "BloodPrice$Case" "BloodPrice$Case" "victim" "I") ∈ GW := gw_s3 106 rfl rfl
theorem tw_587 : (Jvm.Cond.soleField "BloodPrice$Case" "victim") ∈ GW := gw_s3 107 rfl rfl
theorem tw_588 : (Jvm.Cond.laysFinal "BloodPrice$Case" "BloodPrice$Case" "name" "J") ∈ GW := gw_s3 108 rfl rfl
theorem tw_589 : (Jvm.Cond.soleField "BloodPrice$Case" "name") ∈ GW := gw_s3 109 rfl rfl
theorem tw_590 : (Jvm.Cond.laysFinal "BloodPrice$Case" "BloodPrice$Case" "day" "I") ∈ GW := gw_s3 110 rfl rfl
theorem tw_591 : (Jvm.Cond.soleField "BloodPrice$Case" "day") ∈ GW := gw_s3 111 rfl rfl
theorem tw_592 : (Jvm.Cond.laysFinal "BloodPrice$Case" "BloodPrice$Case" "place" "I") ∈ GW := gw_s3 112 rfl rfl
theorem tw_593 : (Jvm.Cond.soleField "BloodPrice$Case" "place") ∈ GW := gw_s3 113 rfl rfl
theorem tw_594 : (Jvm.Cond.laysFinal "BloodPrice$Case" "BloodPrice$Case" "night" "Z") ∈ GW := gw_s3 114 rfl rfl
theorem tw_595 : (Jvm.Cond.soleField "BloodPrice$Case" "night") ∈ GW := gw_s3 115 rfl rfl
theorem tw_596 : (Jvm.Cond.lays "BloodPrice$Case" "BloodPrice$Case" "cleared" "I") ∈ GW := gw_s3 116 rfl rfl
theorem tw_597 : (Jvm.Cond.soleField "BloodPrice$Case" "cleared") ∈ GW := gw_s3 117 rfl rfl
theorem tw_598 : (Jvm.Cond.lays "BloodPrice$Case" "BloodPrice$Case" "judged" "I") ∈ GW := gw_s3 118 rfl rfl
theorem tw_599 : (Jvm.Cond.soleField "BloodPrice$Case" "judged") ∈ GW := gw_s3 119 rfl rfl
theorem tw_600 : (Jvm.Cond.lays "BloodPrice$Case" "BloodPrice$Case" "due" "I") ∈ GW := gw_s3 120 rfl rfl
theorem tw_601 : (Jvm.Cond.soleField "BloodPrice$Case" "due") ∈ GW := gw_s3 121 rfl rfl
theorem tw_602 : (Jvm.Cond.lays "BloodPrice$Case" "BloodPrice$Case" "terms" "I") ∈ GW := gw_s3 122 rfl rfl
theorem tw_603 : (Jvm.Cond.soleField "BloodPrice$Case" "terms") ∈ GW := gw_s3 123 rfl rfl
theorem tw_604 : (Jvm.Cond.lays "BloodPrice$Case" "BloodPrice$Case" "termDays" "I") ∈ GW := gw_s3 124 rfl rfl
theorem tw_605 : (Jvm.Cond.soleField "BloodPrice$Case" "termDays") ∈ GW := gw_s3 125 rfl rfl
theorem tw_606 : (Jvm.Cond.superclass "BloodPrice$Case" "java/lang/Object") ∈ GW := gw_s3 126 rfl rfl
theorem tw_607 : (Jvm.Cond.methodLink "BloodPriceLaw" (74 : Nat) ({ cls := "BloodPrice", name := "sum", desc := "(II)I" } : Jvm.MethodName)) ∈ GW := gw_s3 127 rfl rfl
theorem tw_608 : (Jvm.Cond.instanceMethod ({ cls := "BloodPrice", name := "sum", desc := "(II)I" } : Jvm.MethodName)) ∈ GW := gw_s3 128 rfl rfl
theorem tw_609 : (Jvm.Cond.selects "BloodPrice" ({ cls := "BloodPrice", name := "sum", desc := "(II)I" } : Jvm.MethodName) ({ cls := "BloodPrice", name := "sum", desc := "(II)I" } : Jvm.MethodName)) ∈ GW := gw_s3 129 rfl rfl
theorem tw_610 : (Jvm.Cond.code ({ cls := "BloodPrice", name := "sum", desc := "(II)I" } : Jvm.MethodName) prog_1_method_16_code (4 : Nat) (Option.some Jvm.ClassFile.FieldType.int)) ∈ GW := gw_s3 130 rfl rfl
theorem tw_611 : (Jvm.Cond.methodLink "BloodPrice" (158 : Nat) ({ cls := "BloodPrice", name := "caseAt", desc := "(I)LBloodPrice$Case;" } : Jvm.MethodName)) ∈ GW := gw_s3 131 rfl rfl
theorem tw_613 : (Jvm.Cond.instanceMethod ({ cls := "BloodPrice", name := "caseAt", desc := "(I)LBloodPrice$Case;" } : Jvm.MethodName)) ∈ GW := gw_s3 133 rfl rfl
theorem tw_614 : (Jvm.Cond.code ({ cls := "BloodPrice", name := "caseAt", desc := "(I)LBloodPrice$Case;" } : Jvm.MethodName) prog_1_method_32_code (2 : Nat) (Option.some (Jvm.ClassFile.FieldType.object "BloodPrice$Case"))) ∈ GW := gw_s3 134 rfl rfl
theorem tw_615 : (Jvm.Cond.methodLink "BloodPrice" (162 : Nat) ({ cls := "BloodPrice", name := "sumAsKnown", desc := "(LBloodPrice$Case;I)I" } : Jvm.MethodName)) ∈ GW := gw_s3 135 rfl rfl
theorem tw_617 : (Jvm.Cond.instanceMethod ({ cls := "BloodPrice", name := "sumAsKnown", desc := "(LBloodPrice$Case;I)I" } : Jvm.MethodName)) ∈ GW := gw_s3 137 rfl rfl
theorem tw_618 : (Jvm.Cond.code ({ cls := "BloodPrice", name := "sumAsKnown", desc := "(LBloodPrice$Case;I)I" } : Jvm.MethodName) prog_1_method_35_code (5 : Nat) (Option.some Jvm.ClassFile.FieldType.int)) ∈ GW := gw_s3 138 rfl rfl
theorem tw_619 : (Jvm.Cond.methodLink "BloodPrice" (172 : Nat) ({ cls := "BloodPrice", name := "lawOfCase", desc := "(LBloodPrice$Case;)LBloodPrice$Law;" } : Jvm.MethodName)) ∈ GW := gw_s3 139 rfl rfl
theorem tw_621 : (Jvm.Cond.instanceMethod ({ cls := "BloodPrice", name := "lawOfCase", desc := "(LBloodPrice$Case;)LBloodPrice$Law;" } : Jvm.MethodName)) ∈ GW := gw_s3 141 rfl rfl
theorem tw_622 : (Jvm.Cond.code ({ cls := "BloodPrice", name := "lawOfCase", desc := "(LBloodPrice$Case;)LBloodPrice$Law;" } : Jvm.MethodName) prog_1_method_33_code (4 : Nat) (Option.some (Jvm.ClassFile.FieldType.object "BloodPrice$Law"))) ∈ GW := gw_s3 142 rfl rfl
theorem tw_623 : (Jvm.Cond.methodLink "BloodPrice" (237 : Nat) ({ cls := "BloodPrice$People", name := "folkOf", desc := "(I)I" } : Jvm.MethodName)) ∈ GW := gw_s3 143 rfl rfl
theorem tw_624 : (Jvm.Cond.instanceMethod ({ cls := "BloodPrice$People", name := "folkOf", desc := "(I)I" } : Jvm.MethodName)) ∈ GW := gw_s3 144 rfl rfl
theorem tw_625 : (Jvm.Cond.selects "BloodPrice$People" ({ cls := "BloodPrice$People", name := "folkOf", desc := "(I)I" } : Jvm.MethodName) ({ cls := "BloodPrice$People", name := "folkOf", desc := "(I)I" } : Jvm.MethodName)) ∈ GW := gw_s3 145 rfl rfl
theorem tw_626 : (Jvm.Cond.code ({ cls := "BloodPrice$People", name := "folkOf", desc := "(I)I" } : Jvm.MethodName) prog_5_method_5_code (2 : Nat) (Option.some Jvm.ClassFile.FieldType.int)) ∈ GW := gw_s3 146 rfl rfl
theorem tw_627 : (Jvm.Cond.methodLink "BloodPrice" (241 : Nat) ({ cls := "BloodPrice", name := "lawOn", desc := "(II)I" } : Jvm.MethodName)) ∈ GW := gw_s3 147 rfl rfl
theorem tw_628 : (Jvm.Cond.methodLink "BloodPrice" (255 : Nat) ({ cls := "BloodPrice", name := "gatherFacts", desc := "(LBloodPrice$Case;I)V" } : Jvm.MethodName)) ∈ GW := gw_s3 148 rfl rfl
theorem tw_630 : (Jvm.Cond.instanceMethod ({ cls := "BloodPrice", name := "gatherFacts", desc := "(LBloodPrice$Case;I)V" } : Jvm.MethodName)) ∈ GW := gw_s3 150 rfl rfl
theorem tw_631 : (Jvm.Cond.code ({ cls := "BloodPrice", name := "gatherFacts", desc := "(LBloodPrice$Case;I)V" } : Jvm.MethodName) prog_1_method_36_code (4 : Nat) (Option.none : Option Jvm.ClassFile.FieldType)) ∈ GW := gw_s3 151 rfl rfl
theorem tw_632 : (Jvm.Cond.methodLink "BloodPrice" (189 : Nat) ({ cls := "BloodPrice", name := "truceBroken", desc := "(LBloodPrice$Case;)Z" } : Jvm.MethodName)) ∈ GW := gw_s3 152 rfl rfl
theorem tw_634 : (Jvm.Cond.instanceMethod ({ cls := "BloodPrice", name := "truceBroken", desc := "(LBloodPrice$Case;)Z" } : Jvm.MethodName)) ∈ GW := gw_s3 154 rfl rfl
theorem tw_635 : (Jvm.Cond.code ({ cls := "BloodPrice", name := "truceBroken", desc := "(LBloodPrice$Case;)Z" } : Jvm.MethodName) prog_1_method_34_code (2 : Nat) (Option.some Jvm.ClassFile.FieldType.boolean)) ∈ GW := gw_s3 155 rfl rfl
theorem tw_636 : (Jvm.Cond.methodLink "BloodPrice" (244 : Nat) ({ cls := "BloodPrice$Truces", name := "held", desc := "(III)Z" } : Jvm.MethodName)) ∈ GW := gw_s3 156 rfl rfl
theorem tw_637 : (Jvm.Cond.instanceMethod ({ cls := "BloodPrice$Truces", name := "held", desc := "(III)Z" } : Jvm.MethodName)) ∈ GW := gw_s3 157 rfl rfl
theorem tw_638 : (Jvm.Cond.selects "BloodPrice$Truces" ({ cls := "BloodPrice$Truces", name := "held", desc := "(III)Z" } : Jvm.MethodName) ({ cls := "BloodPrice$Truces", name := "held", desc := "(III)Z" } : Jvm.MethodName)) ∈ GW := gw_s3 158 rfl rfl
theorem tw_639 : (Jvm.Cond.code ({ cls := "BloodPrice$Truces", name := "held", desc := "(III)Z" } : Jvm.MethodName) prog_9_method_3_code (6 : Nat) (Option.some Jvm.ClassFile.FieldType.boolean)) ∈ GW := gw_s3 159 rfl rfl
theorem tw_640 : (Jvm.Cond.methodLink "BloodPrice" (259 : Nat) ({ cls := "BloodPrice$Law", name := "priceOf", desc := "(I[I)I" } : Jvm.MethodName)) ∈ GW := gw_s3 160 rfl rfl
theorem tw_641 : (Jvm.Cond.instanceMethod ({ cls := "BloodPrice$Law", name := "priceOf", desc := "(I[I)I" } : Jvm.MethodName)) ∈ GW := gw_s3 161 rfl rfl
theorem tw_642 : (Jvm.Cond.selects "BloodPrice$Law" ({ cls := "BloodPrice$Law", name := "priceOf", desc := "(I[I)I" } : Jvm.MethodName) ({ cls := "BloodPrice$Law", name := "priceOf", desc := "(I[I)I" } : Jvm.MethodName)) ∈ GW := gw_s3 162 rfl rfl
theorem tw_643 : (Jvm.Cond.code ({ cls := "BloodPrice$Law", name := "priceOf", desc := "(I[I)I" } : Jvm.MethodName) prog_3_method_6_code (6 : Nat) (Option.some Jvm.ClassFile.FieldType.int)) ∈ GW := gw_s3 163 rfl rfl
theorem tw_644 : (Jvm.Cond.methodLink "BloodPrice$Law" (56 : Nat) ({ cls := "BloodPrice$Law", name := "holds", desc := "(II[I)Z" } : Jvm.MethodName)) ∈ GW := gw_s3 164 rfl rfl
theorem tw_646 : (Jvm.Cond.instanceMethod ({ cls := "BloodPrice$Law", name := "holds", desc := "(II[I)Z" } : Jvm.MethodName)) ∈ GW := gw_s3 166 rfl rfl
theorem tw_647 : (Jvm.Cond.code ({ cls := "BloodPrice$Law", name := "holds", desc := "(II[I)Z" } : Jvm.MethodName) prog_3_method_8_code (7 : Nat) (Option.some Jvm.ClassFile.FieldType.boolean)) ∈ GW := gw_s3 167 rfl rfl
theorem tw_648 : (Jvm.Cond.methodLink "BloodPrice$Law" (74 : Nat) ({ cls := "BloodPrice$Law", name := "operand", desc := "(I[I)I" } : Jvm.MethodName)) ∈ GW := gw_s3 168 rfl rfl
theorem tw_649 : (Jvm.Cond.static ({ cls := "BloodPrice$Law", name := "operand", desc := "(I[I)I" } : Jvm.MethodName)) ∈ GW := gw_s3 169 rfl rfl
theorem tw_650 : (Jvm.Cond.code ({ cls := "BloodPrice$Law", name := "operand", desc := "(I[I)I" } : Jvm.MethodName) prog_3_method_9_code (3 : Nat) (Option.some Jvm.ClassFile.FieldType.int)) ∈ GW := gw_s3 170 rfl rfl
theorem tw_651 : (Jvm.Cond.methodLink "BloodPrice$Law" (78 : Nat) ({ cls := "BloodPrice$Law", name := "joined", desc := "(III)Z" } : Jvm.MethodName)) ∈ GW := gw_s3 171 rfl rfl
theorem tw_652 : (Jvm.Cond.static ({ cls := "BloodPrice$Law", name := "joined", desc := "(III)Z" } : Jvm.MethodName)) ∈ GW := gw_s3 172 rfl rfl
theorem tw_653 : (Jvm.Cond.code ({ cls := "BloodPrice$Law", name := "joined", desc := "(III)Z" } : Jvm.MethodName) prog_3_method_10_code (3 : Nat) (Option.some Jvm.ClassFile.FieldType.boolean)) ∈ GW := gw_s3 173 rfl rfl
theorem tw_654 : (Jvm.Cond.methodLink "BloodPrice$Law" (60 : Nat) ({ cls := "BloodPrice$Law", name := "changed", desc := "(III)I" } : Jvm.MethodName)) ∈ GW := gw_s3 174 rfl rfl
theorem tw_655 : (Jvm.Cond.static ({ cls := "BloodPrice$Law", name := "changed", desc := "(III)I" } : Jvm.MethodName)) ∈ GW := gw_s3 175 rfl rfl
theorem tw_656 : (Jvm.Cond.code ({ cls := "BloodPrice$Law", name := "changed", desc := "(III)I" } : Jvm.MethodName) prog_3_method_7_code (3 : Nat) (Option.some Jvm.ClassFile.FieldType.int)) ∈ GW := gw_s3 176 rfl rfl
theorem tw_657 : (Jvm.Cond.constant "BloodPrice$Law" (64 : Nat) (10000000 : Int32)) ∈ GW := gw_s3 177 rfl rfl
theorem tw_658 : (Jvm.Cond.methodLink "BloodPrice$Law" (65 : Nat) ({ cls := "java/lang/Math", name := "min", desc := "(II)I" } : Jvm.MethodName)) ∈ GW := gw_s3 178 rfl rfl
theorem tw_659 : (Jvm.Cond.static ({ cls := "java/lang/Math", name := "min", desc := "(II)I" } : Jvm.MethodName)) ∈ GW := gw_s3 179 rfl rfl
theorem tw_660 : (Jvm.Cond.code ({ cls := "java/lang/Math", name := "min", desc := "(II)I" } : Jvm.MethodName) prog_13_method_69_code (2 : Nat) (Option.some Jvm.ClassFile.FieldType.int)) ∈ GW := gw_s3 180 rfl rfl
theorem tw_661 : (Jvm.Cond.methodLink "BloodPrice$Law" (71 : Nat) ({ cls := "java/lang/Math", name := "max", desc := "(II)I" } : Jvm.MethodName)) ∈ GW := gw_s3 181 rfl rfl
theorem tw_662 : (Jvm.Cond.static ({ cls := "java/lang/Math", name := "max", desc := "(II)I" } : Jvm.MethodName)) ∈ GW := gw_s3 182 rfl rfl
theorem tw_663 : (Jvm.Cond.code ({ cls := "java/lang/Math", name := "max", desc := "(II)I" } : Jvm.MethodName) prog_13_method_65_code (2 : Nat) (Option.some Jvm.ClassFile.FieldType.int)) ∈ GW := gw_s3 183 rfl rfl
theorem tw_664 : (Jvm.Cond.methodLink "BloodPriceLaw" (78 : Nat) ({ cls := "BloodPrice", name := "oath", desc := "(II)I" } : Jvm.MethodName)) ∈ GW := gw_s3 184 rfl rfl
theorem tw_665 : (Jvm.Cond.instanceMethod ({ cls := "BloodPrice", name := "oath", desc := "(II)I" } : Jvm.MethodName)) ∈ GW := gw_s3 185 rfl rfl
theorem tw_666 : (Jvm.Cond.selects "BloodPrice" ({ cls := "BloodPrice", name := "oath", desc := "(II)I" } : Jvm.MethodName) ({ cls := "BloodPrice", name := "oath", desc := "(II)I" } : Jvm.MethodName)) ∈ GW := gw_s3 186 rfl rfl
theorem tw_667 : (Jvm.Cond.code ({ cls := "BloodPrice", name := "oath", desc := "(II)I" } : Jvm.MethodName) prog_1_method_17_code (5 : Nat) (Option.some Jvm.ClassFile.FieldType.int)) ∈ GW := gw_s3 187 rfl rfl
theorem tw_668 : (Jvm.Cond.methodLink "BloodPrice" (176 : Nat) ({ cls := "BloodPrice", name := "oathStands", desc := "(LBloodPrice$Case;LBloodPrice$Law;I)Z" } : Jvm.MethodName)) ∈ GW := gw_s3 188 rfl rfl
theorem tw_670 : (Jvm.Cond.instanceMethod ({ cls := "BloodPrice", name := "oathStands", desc := "(LBloodPrice$Case;LBloodPrice$Law;I)Z" } : Jvm.MethodName)) ∈ GW := gw_s3 190 rfl rfl
theorem tw_671 : (Jvm.Cond.code ({ cls := "BloodPrice", name := "oathStands", desc := "(LBloodPrice$Case;LBloodPrice$Law;I)Z" } : Jvm.MethodName) prog_1_method_37_code (5 : Nat) (Option.some Jvm.ClassFile.FieldType.boolean)) ∈ GW := gw_s3 191 rfl rfl
theorem tw_672 : (Jvm.Cond.methodLink "BloodPrice" (270 : Nat) ({ cls := "java/lang/Integer", name := "bitCount", desc := "(I)I" } : Jvm.MethodName)) ∈ GW := gw_s3 192 rfl rfl
theorem tw_673 : (Jvm.Cond.static ({ cls := "java/lang/Integer", name := "bitCount", desc := "(I)I" } : Jvm.MethodName)) ∈ GW := gw_s3 193 rfl rfl
theorem tw_674 : (Jvm.Cond.code ({ cls := "java/lang/Integer", name := "bitCount", desc := "(I)I" } : Jvm.MethodName) prog_12_method_49_code (1 : Nat) (Option.some Jvm.ClassFile.FieldType.int)) ∈ GW := gw_s3 194 rfl rfl
theorem tw_675 : (Jvm.Cond.constant "java/lang/Integer" (265 : Nat) (1431655765 : Int32)) ∈ GW := gw_s3 195 rfl rfl
theorem tw_676 : (Jvm.Cond.constant "java/lang/Integer" (266 : Nat) (858993459 : Int32)) ∈ GW := gw_s3 196 rfl rfl
theorem tw_677 : (Jvm.Cond.constant "java/lang/Integer" (267 : Nat) (252645135 : Int32)) ∈ GW := gw_s3 197 rfl rfl
theorem tw_678 : (Jvm.Cond.methodLink "BloodPrice" (278 : Nat) ({ cls := "BloodPrice$People", name := "measureFrom", desc := "(I)V" } : Jvm.MethodName)) ∈ GW := gw_s3 198 rfl rfl
theorem tw_679 : (Jvm.Cond.methodLink "BloodPrice" (281 : Nat) ({ cls := "BloodPrice", name := "maySwear", desc := "(LBloodPrice$Case;LBloodPrice$Law;I)Z" } : Jvm.MethodName)) ∈ GW := gw_s3 199 rfl rfl
theorem tw_681 : (Jvm.Cond.instanceMethod ({ cls := "BloodPrice", name := "maySwear", desc := "(LBloodPrice$Case;LBloodPrice$Law;I)Z" } : Jvm.MethodName)) ∈ GW := gw_s3 201 rfl rfl
theorem tw_682 : (Jvm.Cond.code ({ cls := "BloodPrice", name := "maySwear", desc := "(LBloodPrice$Case;LBloodPrice$Law;I)Z" } : Jvm.MethodName) prog_1_method_38_code (4 : Nat) (Option.some Jvm.ClassFile.FieldType.boolean)) ∈ GW := gw_s3 202 rfl rfl
theorem tw_683 : (Jvm.Cond.methodLink "BloodPrice" (284 : Nat) ({ cls := "BloodPrice$People", name := "deadOn", desc := "(II)Z" } : Jvm.MethodName)) ∈ GW := gw_s3 203 rfl rfl
theorem tw_684 : (Jvm.Cond.instanceMethod ({ cls := "BloodPrice$People", name := "deadOn", desc := "(II)Z" } : Jvm.MethodName)) ∈ GW := gw_s3 204 rfl rfl
theorem tw_685 : (Jvm.Cond.selects "BloodPrice$People" ({ cls := "BloodPrice$People", name := "deadOn", desc := "(II)Z" } : Jvm.MethodName) ({ cls := "BloodPrice$People", name := "deadOn", desc := "(II)Z" } : Jvm.MethodName)) ∈ GW := gw_s3 205 rfl rfl
theorem tw_686 : (Jvm.Cond.code ({ cls := "BloodPrice$People", name := "deadOn", desc := "(II)Z" } : Jvm.MethodName) prog_5_method_7_code (3 : Nat) (Option.some Jvm.ClassFile.FieldType.boolean)) ∈ GW := gw_s3 206 rfl rfl
theorem tw_687 : (Jvm.Cond.methodLink "BloodPriceLaw" (82 : Nat) ({ cls := "BloodPrice", name := "of", desc := "(II)I" } : Jvm.MethodName)) ∈ GW := gw_s3 207 rfl rfl
theorem tw_688 : (Jvm.Cond.instanceMethod ({ cls := "BloodPrice", name := "of", desc := "(II)I" } : Jvm.MethodName)) ∈ GW := gw_s3 208 rfl rfl
theorem tw_689 : (Jvm.Cond.selects "BloodPrice" ({ cls := "BloodPrice", name := "of", desc := "(II)I" } : Jvm.MethodName) ({ cls := "BloodPrice", name := "of", desc := "(II)I" } : Jvm.MethodName)) ∈ GW := gw_s3 209 rfl rfl
theorem tw_690 : (Jvm.Cond.code ({ cls := "BloodPrice", name := "of", desc := "(II)I" } : Jvm.MethodName) prog_1_method_18_code (4 : Nat) (Option.some Jvm.ClassFile.FieldType.int)) ∈ GW := gw_s3 210 rfl rfl
theorem tw_691 : (Jvm.Cond.methodLink "BloodPriceLaw" (86 : Nat) ({ cls := "BloodPrice", name := "pays", desc := "(III)I" } : Jvm.MethodName)) ∈ GW := gw_s3 211 rfl rfl
theorem tw_692 : (Jvm.Cond.instanceMethod ({ cls := "BloodPrice", name := "pays", desc := "(III)I" } : Jvm.MethodName)) ∈ GW := gw_s3 212 rfl rfl
theorem tw_693 : (Jvm.Cond.selects "BloodPrice" ({ cls := "BloodPrice", name := "pays", desc := "(III)I" } : Jvm.MethodName) ({ cls := "BloodPrice", name := "pays", desc := "(III)I" } : Jvm.MethodName)) ∈ GW := gw_s3 213 rfl rfl
theorem tw_694 : (Jvm.Cond.code ({ cls := "BloodPrice", name := "pays", desc := "(III)I" } : Jvm.MethodName) prog_1_method_19_code (5 : Nat) (Option.some Jvm.ClassFile.FieldType.int)) ∈ GW := gw_s3 214 rfl rfl
theorem tw_695 : (Jvm.Cond.methodLink "BloodPrice" (193 : Nat) ({ cls := "BloodPrice", name := "partOf", desc := "(LBloodPrice$Case;IIII)I" } : Jvm.MethodName)) ∈ GW := gw_s3 215 rfl rfl
theorem tw_697 : (Jvm.Cond.instanceMethod ({ cls := "BloodPrice", name := "partOf", desc := "(LBloodPrice$Case;IIII)I" } : Jvm.MethodName)) ∈ GW := gw_s3 217 rfl rfl
theorem tw_698 : (Jvm.Cond.code ({ cls := "BloodPrice", name := "partOf", desc := "(LBloodPrice$Case;IIII)I" } : Jvm.MethodName) prog_1_method_39_code (12 : Nat) (Option.some Jvm.ClassFile.FieldType.int)) ∈ GW := gw_s3 218 rfl rfl
theorem tw_699 : (Jvm.Cond.methodLink "BloodPrice" (293 : Nat) ({ cls := "BloodPrice$People", name := "pickSharers", desc := "(IIII)V" } : Jvm.MethodName)) ∈ GW := gw_s3 219 rfl rfl
theorem tw_700 : (Jvm.Cond.instanceMethod ({ cls := "BloodPrice$People", name := "pickSharers", desc := "(IIII)V" } : Jvm.MethodName)) ∈ GW := gw_s3 220 rfl rfl
theorem tw_701 : (Jvm.Cond.selects "BloodPrice$People" ({ cls := "BloodPrice$People", name := "pickSharers", desc := "(IIII)V" } : Jvm.MethodName) ({ cls := "BloodPrice$People", name := "pickSharers", desc := "(IIII)V" } : Jvm.MethodName)) ∈ GW := gw_s3 221 rfl rfl
theorem tw_702 : (Jvm.Cond.code ({ cls := "BloodPrice$People", name := "pickSharers", desc := "(IIII)V" } : Jvm.MethodName) prog_5_method_11_code (6 : Nat) (Option.none : Option Jvm.ClassFile.FieldType)) ∈ GW := gw_s3 222 rfl rfl
theorem tw_703 : (Jvm.Cond.methodLink "BloodPrice$People" (50 : Nat) ({ cls := "BloodPrice$People", name := "folkOf", desc := "(I)I" } : Jvm.MethodName)) ∈ GW := gw_s3 223 rfl rfl
theorem tw_704 : (Jvm.Cond.methodLink "BloodPrice$People" (54 : Nat) ({ cls := "BloodPrice$People", name := "deadOn", desc := "(II)Z" } : Jvm.MethodName)) ∈ GW := gw_s3 224 rfl rfl
theorem tw_705 : (Jvm.Cond.methodLink "BloodPrice" (300 : Nat) ({ cls := "BloodPrice$Law", name := "partOfDegree", desc := "(II)I" } : Jvm.MethodName)) ∈ GW := gw_s3 225 rfl rfl
theorem tw_706 : (Jvm.Cond.instanceMethod ({ cls := "BloodPrice$Law", name := "partOfDegree", desc := "(II)I" } : Jvm.MethodName)) ∈ GW := gw_s3 226 rfl rfl
theorem tw_707 : (Jvm.Cond.selects "BloodPrice$Law" ({ cls := "BloodPrice$Law", name := "partOfDegree", desc := "(II)I" } : Jvm.MethodName) ({ cls := "BloodPrice$Law", name := "partOfDegree", desc := "(II)I" } : Jvm.MethodName)) ∈ GW := gw_s3 227 rfl rfl
theorem tw_708 : (Jvm.Cond.code ({ cls := "BloodPrice$Law", name := "partOfDegree", desc := "(II)I" } : Jvm.MethodName) prog_3_method_5_code (4 : Nat) (Option.some Jvm.ClassFile.FieldType.int)) ∈ GW := gw_s3 228 rfl rfl
theorem tw_709 : (Jvm.Cond.methodLink "BloodPriceLaw" (90 : Nat) ({ cls := "BloodPrice", name := "has", desc := "(III)I" } : Jvm.MethodName)) ∈ GW := gw_s3 229 rfl rfl
theorem tw_710 : (Jvm.Cond.instanceMethod ({ cls := "BloodPrice", name := "has", desc := "(III)I" } : Jvm.MethodName)) ∈ GW := gw_s3 230 rfl rfl
theorem tw_711 : (Jvm.Cond.selects "BloodPrice" ({ cls := "BloodPrice", name := "has", desc := "(III)I" } : Jvm.MethodName) ({ cls := "BloodPrice", name := "has", desc := "(III)I" } : Jvm.MethodName)) ∈ GW := gw_s3 231 rfl rfl
theorem tw_712 : (Jvm.Cond.code ({ cls := "BloodPrice", name := "has", desc := "(III)I" } : Jvm.MethodName) prog_1_method_20_code (5 : Nat) (Option.some Jvm.ClassFile.FieldType.int)) ∈ GW := gw_s3 232 rfl rfl
theorem tw_713 : (Jvm.Cond.methodLink "BloodPriceLaw" (94 : Nat) ({ cls := "BloodPrice", name := "judge", desc := "(I)I" } : Jvm.MethodName)) ∈ GW := gw_s3 233 rfl rfl
theorem tw_714 : (Jvm.Cond.instanceMethod ({ cls := "BloodPrice", name := "judge", desc := "(I)I" } : Jvm.MethodName)) ∈ GW := gw_s3 234 rfl rfl
theorem tw_715 : (Jvm.Cond.selects "BloodPrice" ({ cls := "BloodPrice", name := "judge", desc := "(I)I" } : Jvm.MethodName) ({ cls := "BloodPrice", name := "judge", desc := "(I)I" } : Jvm.MethodName)) ∈ GW := gw_s3 235 rfl rfl
theorem tw_716 : (Jvm.Cond.code ({ cls := "BloodPrice", name := "judge", desc := "(I)I" } : Jvm.MethodName) prog_1_method_21_code (5 : Nat) (Option.some Jvm.ClassFile.FieldType.int)) ∈ GW := gw_s3 236 rfl rfl
theorem tw_717 : (Jvm.Cond.methodLink "BloodPriceLaw" (98 : Nat) ({ cls := "BloodPrice", name := "rate", desc := "(II)Z" } : Jvm.MethodName)) ∈ GW := gw_s3 237 rfl rfl
theorem tw_718 : (Jvm.Cond.instanceMethod ({ cls := "BloodPrice", name := "rate", desc := "(II)Z" } : Jvm.MethodName)) ∈ GW := gw_s3 238 rfl rfl
theorem tw_719 : (Jvm.Cond.selects "BloodPrice" ({ cls := "BloodPrice", name := "rate", desc := "(II)Z" } : Jvm.MethodName) ({ cls := "BloodPrice", name := "rate", desc := "(II)Z" } : Jvm.MethodName)) ∈ GW := gw_s3 239 rfl rfl
theorem tw_720 : (Jvm.Cond.code ({ cls := "BloodPrice", name := "rate", desc := "(II)Z" } : Jvm.MethodName) prog_1_method_22_code (3 : Nat) (Option.some Jvm.ClassFile.FieldType.boolean)) ∈ GW := gw_s4 0 rfl rfl
theorem tw_721 : (Jvm.Cond.methodLink "BloodPrice" (208 : Nat) ({ cls := "BloodPrice", name := "isKind", desc := "(I)Z" } : Jvm.MethodName)) ∈ GW := gw_s4 1 rfl rfl
theorem tw_722 : (Jvm.Cond.static ({ cls := "BloodPrice", name := "isKind", desc := "(I)Z" } : Jvm.MethodName)) ∈ GW := gw_s4 2 rfl rfl
theorem tw_723 : (Jvm.Cond.code ({ cls := "BloodPrice", name := "isKind", desc := "(I)Z" } : Jvm.MethodName) prog_1_method_28_code (1 : Nat) (Option.some Jvm.ClassFile.FieldType.boolean)) ∈ GW := gw_s4 3 rfl rfl
theorem tw_724 : (Jvm.Cond.methodLink "BloodPriceLaw" (102 : Nat) ({ cls := "BloodPrice", name := "pay", desc := "(III)I" } : Jvm.MethodName)) ∈ GW := gw_s4 4 rfl rfl
theorem tw_725 : (Jvm.Cond.instanceMethod ({ cls := "BloodPrice", name := "pay", desc := "(III)I" } : Jvm.MethodName)) ∈ GW := gw_s4 5 rfl rfl
theorem tw_726 : (Jvm.Cond.selects "BloodPrice" ({ cls := "BloodPrice", name := "pay", desc := "(III)I" } : Jvm.MethodName) ({ cls := "BloodPrice", name := "pay", desc := "(III)I" } : Jvm.MethodName)) ∈ GW := gw_s4 6 rfl rfl
theorem tw_727 : (Jvm.Cond.code ({ cls := "BloodPrice", name := "pay", desc := "(III)I" } : Jvm.MethodName) prog_1_method_23_code (5 : Nat) (Option.some Jvm.ClassFile.FieldType.int)) ∈ GW := gw_s4 7 rfl rfl
theorem tw_728 : (Jvm.Cond.methodLink "BloodPrice" (214 : Nat) ({ cls := "BloodPrice$Payments", name := "add", desc := "(III)I" } : Jvm.MethodName)) ∈ GW := gw_s4 8 rfl rfl
theorem tw_729 : (Jvm.Cond.instanceMethod ({ cls := "BloodPrice$Payments", name := "add", desc := "(III)I" } : Jvm.MethodName)) ∈ GW := gw_s4 9 rfl rfl
theorem tw_730 : (Jvm.Cond.selects "BloodPrice$Payments" ({ cls := "BloodPrice$Payments", name := "add", desc := "(III)I" } : Jvm.MethodName) ({ cls := "BloodPrice$Payments", name := "add", desc := "(III)I" } : Jvm.MethodName)) ∈ GW := gw_s4 10 rfl rfl
theorem tw_731 : (Jvm.Cond.code ({ cls := "BloodPrice$Payments", name := "add", desc := "(III)I" } : Jvm.MethodName) prog_4_method_2_code (4 : Nat) (Option.some Jvm.ClassFile.FieldType.int)) ∈ GW := gw_s4 11 rfl rfl
theorem tw_732 : (Jvm.Cond.methodLink "BloodPriceLaw" (106 : Nat) ({ cls := "BloodPrice", name := "owed", desc := "(II)I" } : Jvm.MethodName)) ∈ GW := gw_s4 12 rfl rfl
theorem tw_733 : (Jvm.Cond.instanceMethod ({ cls := "BloodPrice", name := "owed", desc := "(II)I" } : Jvm.MethodName)) ∈ GW := gw_s4 13 rfl rfl
theorem tw_734 : (Jvm.Cond.selects "BloodPrice" ({ cls := "BloodPrice", name := "owed", desc := "(II)I" } : Jvm.MethodName) ({ cls := "BloodPrice", name := "owed", desc := "(II)I" } : Jvm.MethodName)) ∈ GW := gw_s4 14 rfl rfl
theorem tw_735 : (Jvm.Cond.code ({ cls := "BloodPrice", name := "owed", desc := "(II)I" } : Jvm.MethodName) prog_1_method_24_code (4 : Nat) (Option.some Jvm.ClassFile.FieldType.int)) ∈ GW := gw_s4 15 rfl rfl
theorem tw_736 : (Jvm.Cond.constant "BloodPrice" (215 : Nat) (-2000000001 : Int32)) ∈ GW := gw_s4 16 rfl rfl
theorem tw_737 : (Jvm.Cond.methodLink "BloodPrice" (216 : Nat) ({ cls := "BloodPrice", name := "owedOn", desc := "(LBloodPrice$Case;II)I" } : Jvm.MethodName)) ∈ GW := gw_s4 17 rfl rfl
theorem tw_739 : (Jvm.Cond.instanceMethod ({ cls := "BloodPrice", name := "owedOn", desc := "(LBloodPrice$Case;II)I" } : Jvm.MethodName)) ∈ GW := gw_s4 19 rfl rfl
theorem tw_740 : (Jvm.Cond.code ({ cls := "BloodPrice", name := "owedOn", desc := "(LBloodPrice$Case;II)I" } : Jvm.MethodName) prog_1_method_40_code (8 : Nat) (Option.some Jvm.ClassFile.FieldType.int)) ∈ GW := gw_s4 20 rfl rfl
theorem tw_741 : (Jvm.Cond.methodLink "BloodPrice" (307 : Nat) ({ cls := "BloodPrice$Case", name := "dueIn", desc := "(I)I" } : Jvm.MethodName)) ∈ GW := gw_s4 21 rfl rfl
theorem tw_742 : (Jvm.Cond.instanceMethod ({ cls := "BloodPrice$Case", name := "dueIn", desc := "(I)I" } : Jvm.MethodName)) ∈ GW := gw_s4 22 rfl rfl
theorem tw_743 : (Jvm.Cond.selects "BloodPrice$Case" ({ cls := "BloodPrice$Case", name := "dueIn", desc := "(I)I" } : Jvm.MethodName) ({ cls := "BloodPrice$Case", name := "dueIn", desc := "(I)I" } : Jvm.MethodName)) ∈ GW := gw_s4 23 rfl rfl
theorem tw_744 : (Jvm.Cond.code ({ cls := "BloodPrice$Case", name := "dueIn", desc := "(I)I" } : Jvm.MethodName) prog_2_method_2_code (2 : Nat) (Option.some Jvm.ClassFile.FieldType.int)) ∈ GW := gw_s4 24 rfl rfl
theorem tw_745 : (Jvm.Cond.methodLink "BloodPrice" (310 : Nat) ({ cls := "BloodPrice$Payments", name := "paid", desc := "(III)I" } : Jvm.MethodName)) ∈ GW := gw_s4 25 rfl rfl
theorem tw_746 : (Jvm.Cond.instanceMethod ({ cls := "BloodPrice$Payments", name := "paid", desc := "(III)I" } : Jvm.MethodName)) ∈ GW := gw_s4 26 rfl rfl
theorem tw_747 : (Jvm.Cond.selects "BloodPrice$Payments" ({ cls := "BloodPrice$Payments", name := "paid", desc := "(III)I" } : Jvm.MethodName) ({ cls := "BloodPrice$Payments", name := "paid", desc := "(III)I" } : Jvm.MethodName)) ∈ GW := gw_s4 27 rfl rfl
theorem tw_748 : (Jvm.Cond.code ({ cls := "BloodPrice$Payments", name := "paid", desc := "(III)I" } : Jvm.MethodName) prog_4_method_3_code (6 : Nat) (Option.some Jvm.ClassFile.FieldType.int)) ∈ GW := gw_s4 28 rfl rfl
theorem tw_749 : (Jvm.Cond.methodLink "BloodPriceLaw" (110 : Nat) ({ cls := "BloodPrice", name := "about", desc := "(I)I" } : Jvm.MethodName)) ∈ GW := gw_s4 29 rfl rfl
theorem tw_750 : (Jvm.Cond.instanceMethod ({ cls := "BloodPrice", name := "about", desc := "(I)I" } : Jvm.MethodName)) ∈ GW := gw_s4 30 rfl rfl
theorem tw_751 : (Jvm.Cond.selects "BloodPrice" ({ cls := "BloodPrice", name := "about", desc := "(I)I" } : Jvm.MethodName) ({ cls := "BloodPrice", name := "about", desc := "(I)I" } : Jvm.MethodName)) ∈ GW := gw_s4 31 rfl rfl
theorem tw_752 : (Jvm.Cond.code ({ cls := "BloodPrice", name := "about", desc := "(I)I" } : Jvm.MethodName) prog_1_method_25_code (2 : Nat) (Option.some Jvm.ClassFile.FieldType.int)) ∈ GW := gw_s4 32 rfl rfl
theorem tw_753 : (Jvm.Cond.classLink "BloodPriceLaw" (10 : Nat) "BloodPriceModel") ∈ GW := gw_s4 33 rfl rfl
theorem tw_754 : (Jvm.Cond.instantiable "BloodPriceModel" (75 : Nat)) ∈ GW := gw_s4 34 rfl rfl
theorem tw_755 : (Jvm.Cond.methodLink "BloodPriceLaw" (12 : Nat) ({ cls := "BloodPriceModel", name := "<init>", desc := "()V" } : Jvm.MethodName)) ∈ GW := gw_s4 35 rfl rfl
theorem tw_756 : (Jvm.Cond.instanceMethod ({ cls := "BloodPriceModel", name := "<init>", desc := "()V" } : Jvm.MethodName)) ∈ GW := gw_s4 36 rfl rfl
theorem tw_757 : (Jvm.Cond.code ({ cls := "BloodPriceModel", name := "<init>", desc := "()V" } : Jvm.MethodName) prog_11_method_1_code (1 : Nat) (Option.none : Option Jvm.ClassFile.FieldType)) ∈ GW := gw_s4 37 rfl rfl
theorem tw_758 : (Jvm.Cond.methodLink "BloodPriceModel" (1 : Nat) ({ cls := "java/lang/Object", name := "<init>", desc := "()V" } : Jvm.MethodName)) ∈ GW := gw_s4 38 rfl rfl
theorem tw_759 : (Jvm.Cond.fieldLink "BloodPriceModel" (7 : Nat) "BloodPriceModel" "tape" "[B") ∈ GW := gw_s4 39 rfl rfl
theorem tw_760 : (Jvm.Cond.fieldLink "BloodPriceModel" (13 : Nat) "BloodPriceModel" "src" "[B") ∈ GW := gw_s4 40 rfl rfl
theorem tw_761 : (Jvm.Cond.fieldLink "BloodPriceModel" (277 : Nat) "BloodPriceModel" "taped" "I") ∈ GW := gw_s4 41 rfl rfl
theorem tw_762 : (Jvm.Cond.fieldLink "BloodPriceModel" (176 : Nat) "BloodPriceModel" "size" "I") ∈ GW := gw_s4 42 rfl rfl
theorem tw_763 : (Jvm.Cond.fieldLink "BloodPriceModel" (179 : Nat) "BloodPriceModel" "faultKind" "I") ∈ GW := gw_s4 43 rfl rfl
theorem tw_764 : (Jvm.Cond.fieldLink "BloodPriceModel" (16 : Nat) "BloodPriceModel" "faultPlace" "I") ∈ GW := gw_s4 44 rfl rfl
theorem tw_765 : (Jvm.Cond.fieldLink "BloodPriceModel" (365 : Nat) "BloodPriceModel" "today" "I") ∈ GW := gw_s4 45 rfl rfl
theorem tw_766 : (Jvm.Cond.fieldLink "BloodPriceModel" (231 : Nat) "BloodPriceModel" "at" "I") ∈ GW := gw_s4 46 rfl rfl
theorem tw_767 : (Jvm.Cond.fieldLink "BloodPriceModel" (228 : Nat) "BloodPriceModel" "end" "I") ∈ GW := gw_s4 47 rfl rfl
theorem tw_768 : (Jvm.Cond.fieldLink "BloodPriceModel" (238 : Nat) "BloodPriceModel" "token" "I") ∈ GW := gw_s4 48 rfl rfl
theorem tw_769 : (Jvm.Cond.fieldLink "BloodPriceModel" (256 : Nat) "BloodPriceModel" "number" "I") ∈ GW := gw_s4 49 rfl rfl
theorem tw_770 : (Jvm.Cond.fieldLink "BloodPriceModel" (245 : Nat) "BloodPriceModel" "name" "J") ∈ GW := gw_s4 50 rfl rfl
theorem tw_771 : (Jvm.Cond.fieldLink "BloodPriceModel" (20 : Nat) "BloodPriceModel" "lFolk" "[I") ∈ GW := gw_s4 51 rfl rfl
theorem tw_772 : (Jvm.Cond.fieldLink "BloodPriceModel" (24 : Nat) "BloodPriceModel" "lDay" "[I") ∈ GW := gw_s4 52 rfl rfl
theorem tw_773 : (Jvm.Cond.fieldLink "BloodPriceModel" (27 : Nat) "BloodPriceModel" "lawMany" "[I") ∈ GW := gw_s4 53 rfl rfl
theorem tw_774 : (Jvm.Cond.fieldLink "BloodPriceModel" (30 : Nat) "BloodPriceModel" "hMany" "[I") ∈ GW := gw_s4 54 rfl rfl
theorem tw_775 : (Jvm.Cond.fieldLink "BloodPriceModel" (33 : Nat) "BloodPriceModel" "hN" "[I") ∈ GW := gw_s4 55 rfl rfl
theorem tw_776 : (Jvm.Cond.fieldLink "BloodPriceModel" (36 : Nat) "BloodPriceModel" "wMany" "[I") ∈ GW := gw_s4 56 rfl rfl
theorem tw_777 : (Jvm.Cond.fieldLink "BloodPriceModel" (39 : Nat) "BloodPriceModel" "wFrom" "[I") ∈ GW := gw_s4 57 rfl rfl
theorem tw_778 : (Jvm.Cond.fieldLink "BloodPriceModel" (42 : Nat) "BloodPriceModel" "wTo" "[I") ∈ GW := gw_s4 58 rfl rfl
theorem tw_779 : (Jvm.Cond.fieldLink "BloodPriceModel" (45 : Nat) "BloodPriceModel" "wDeed" "[I") ∈ GW := gw_s4 59 rfl rfl
theorem tw_780 : (Jvm.Cond.fieldLink "BloodPriceModel" (48 : Nat) "BloodPriceModel" "wN" "[I") ∈ GW := gw_s4 60 rfl rfl
theorem tw_781 : (Jvm.Cond.fieldLink "BloodPriceModel" (51 : Nat) "BloodPriceModel" "share" "[I") ∈ GW := gw_s4 61 rfl rfl
theorem tw_782 : (Jvm.Cond.fieldLink "BloodPriceModel" (54 : Nat) "BloodPriceModel" "needs" "[I") ∈ GW := gw_s4 62 rfl rfl
theorem tw_783 : (Jvm.Cond.fieldLink "BloodPriceModel" (57 : Nat) "BloodPriceModel" "needRank" "[I") ∈ GW := gw_s4 63 rfl rfl
theorem tw_784 : (Jvm.Cond.fieldLink "BloodPriceModel" (60 : Nat) "BloodPriceModel" "terms" "[I") ∈ GW := gw_s4 64 rfl rfl
theorem tw_785 : (Jvm.Cond.fieldLink "BloodPriceModel" (63 : Nat) "BloodPriceModel" "termDays" "[I") ∈ GW := gw_s4 65 rfl rfl
theorem tw_786 : (Jvm.Cond.fieldLink "BloodPriceModel" (66 : Nat) "BloodPriceModel" "code" "[I") ∈ GW := gw_s4 66 rfl rfl
theorem tw_787 : (Jvm.Cond.fieldLink "BloodPriceModel" (69 : Nat) "BloodPriceModel" "codeNumber" "[I") ∈ GW := gw_s4 67 rfl rfl
theorem tw_788 : (Jvm.Cond.fieldLink "BloodPriceModel" (72 : Nat) "BloodPriceModel" "hName" "[J") ∈ GW := gw_s4 68 rfl rfl
theorem tw_789 : (Jvm.Cond.fieldLink "BloodPriceModel" (76 : Nat) "BloodPriceModel" "hasShare" "[Z") ∈ GW := gw_s4 69 rfl rfl
theorem tw_790 : (Jvm.Cond.fieldLink "BloodPriceModel" (80 : Nat) "BloodPriceModel" "hasNeed" "[Z") ∈ GW := gw_s4 70 rfl rfl
theorem tw_791 : (Jvm.Cond.fieldLink "BloodPriceModel" (83 : Nat) "BloodPriceModel" "hasTerms" "[Z") ∈ GW := gw_s4 71 rfl rfl
theorem tw_792 : (Jvm.Cond.fieldLink "BloodPriceModel" (280 : Nat) "BloodPriceModel" "laws" "I") ∈ GW := gw_s4 72 rfl rfl
theorem tw_793 : (Jvm.Cond.fieldLink "BloodPriceModel" (283 : Nat) "BloodPriceModel" "rb" "I") ∈ GW := gw_s4 73 rfl rfl
theorem tw_794 : (Jvm.Cond.fieldLink "BloodPriceModel" (286 : Nat) "BloodPriceModel" "codes" "I") ∈ GW := gw_s4 74 rfl rfl
theorem tw_795 : (Jvm.Cond.fieldLink "BloodPriceModel" (289 : Nat) "BloodPriceModel" "sums" "I") ∈ GW := gw_s4 75 rfl rfl
theorem tw_796 : (Jvm.Cond.fieldLink "BloodPriceModel" (86 : Nat) "BloodPriceModel" "eWhat" "[I") ∈ GW := gw_s4 76 rfl rfl
theorem tw_797 : (Jvm.Cond.fieldLink "BloodPriceModel" (328 : Nat) "BloodPriceModel" "piled" "I") ∈ GW := gw_s4 77 rfl rfl
theorem tw_798 : (Jvm.Cond.fieldLink "BloodPriceModel" (331 : Nat) "BloodPriceModel" "deep" "I") ∈ GW := gw_s4 78 rfl rfl
theorem tw_799 : (Jvm.Cond.fieldLink "BloodPriceModel" (89 : Nat) "BloodPriceModel" "pFolk" "[I") ∈ GW := gw_s4 79 rfl rfl
theorem tw_800 : (Jvm.Cond.fieldLink "BloodPriceModel" (92 : Nat) "BloodPriceModel" "pMother" "[I") ∈ GW := gw_s4 80 rfl rfl
theorem tw_801 : (Jvm.Cond.fieldLink "BloodPriceModel" (95 : Nat) "BloodPriceModel" "pFather" "[I") ∈ GW := gw_s4 81 rfl rfl
theorem tw_802 : (Jvm.Cond.fieldLink "BloodPriceModel" (98 : Nat) "BloodPriceModel" "pDead" "[I") ∈ GW := gw_s4 82 rfl rfl
theorem tw_803 : (Jvm.Cond.fieldLink "BloodPriceModel" (101 : Nat) "BloodPriceModel" "oPerson" "[I") ∈ GW := gw_s4 83 rfl rfl
theorem tw_804 : (Jvm.Cond.fieldLink "BloodPriceModel" (104 : Nat) "BloodPriceModel" "oRank" "[I") ∈ GW := gw_s4 84 rfl rfl
theorem tw_805 : (Jvm.Cond.fieldLink "BloodPriceModel" (107 : Nat) "BloodPriceModel" "oDay" "[I") ∈ GW := gw_s4 85 rfl rfl
theorem tw_806 : (Jvm.Cond.fieldLink "BloodPriceModel" (110 : Nat) "BloodPriceModel" "oTold" "[I") ∈ GW := gw_s4 86 rfl rfl
theorem tw_807 : (Jvm.Cond.fieldLink "BloodPriceModel" (113 : Nat) "BloodPriceModel" "cA" "[I") ∈ GW := gw_s4 87 rfl rfl
theorem tw_808 : (Jvm.Cond.fieldLink "BloodPriceModel" (116 : Nat) "BloodPriceModel" "cB" "[I") ∈ GW := gw_s4 88 rfl rfl
theorem tw_809 : (Jvm.Cond.fieldLink "BloodPriceModel" (119 : Nat) "BloodPriceModel" "cFrom" "[I") ∈ GW := gw_s4 89 rfl rfl
theorem tw_810 : (Jvm.Cond.fieldLink "BloodPriceModel" (122 : Nat) "BloodPriceModel" "cTo" "[I") ∈ GW := gw_s4 90 rfl rfl
theorem tw_811 : (Jvm.Cond.fieldLink "BloodPriceModel" (353 : Nat) "BloodPriceModel" "people" "I") ∈ GW := gw_s4 91 rfl rfl
theorem tw_812 : (Jvm.Cond.fieldLink "BloodPriceModel" (362 : Nat) "BloodPriceModel" "tolds" "I") ∈ GW := gw_s4 92 rfl rfl
theorem tw_813 : (Jvm.Cond.fieldLink "BloodPriceModel" (368 : Nat) "BloodPriceModel" "truces" "I") ∈ GW := gw_s4 93 rfl rfl
theorem tw_814 : (Jvm.Cond.fieldLink "BloodPriceModel" (125 : Nat) "BloodPriceModel" "kBy" "[I") ∈ GW := gw_s4 94 rfl rfl
theorem tw_815 : (Jvm.Cond.fieldLink "BloodPriceModel" (128 : Nat) "BloodPriceModel" "kOf" "[I") ∈ GW := gw_s4 95 rfl rfl
theorem tw_816 : (Jvm.Cond.fieldLink "BloodPriceModel" (131 : Nat) "BloodPriceModel" "kDay" "[I") ∈ GW := gw_s4 96 rfl rfl
theorem tw_817 : (Jvm.Cond.fieldLink "BloodPriceModel" (134 : Nat) "BloodPriceModel" "kPlace" "[I") ∈ GW := gw_s4 97 rfl rfl
theorem tw_818 : (Jvm.Cond.fieldLink "BloodPriceModel" (137 : Nat) "BloodPriceModel" "kCleared" "[I") ∈ GW := gw_s4 98 rfl rfl
theorem tw_819 : (Jvm.Cond.fieldLink "BloodPriceModel" (140 : Nat) "BloodPriceModel" "kJudged" "[I") ∈ GW := gw_s4 99 rfl rfl
theorem tw_820 : (Jvm.Cond.fieldLink "BloodPriceModel" (143 : Nat) "BloodPriceModel" "kDue" "[I") ∈ GW := gw_s4 100 rfl rfl
theorem tw_821 : (Jvm.Cond.fieldLink "BloodPriceModel" (146 : Nat) "BloodPriceModel" "kTerms" "[I") ∈ GW := gw_s4 101 rfl rfl
theorem tw_822 : (Jvm.Cond.fieldLink "BloodPriceModel" (149 : Nat) "BloodPriceModel" "kDays" "[I") ∈ GW := gw_s4 102 rfl rfl
theorem tw_823 : (Jvm.Cond.fieldLink "BloodPriceModel" (152 : Nat) "BloodPriceModel" "kName" "[J") ∈ GW := gw_s4 103 rfl rfl
theorem tw_824 : (Jvm.Cond.fieldLink "BloodPriceModel" (155 : Nat) "BloodPriceModel" "isNight" "[Z") ∈ GW := gw_s4 104 rfl rfl
theorem tw_825 : (Jvm.Cond.fieldLink "BloodPriceModel" (371 : Nat) "BloodPriceModel" "cases" "I") ∈ GW := gw_s4 105 rfl rfl
theorem tw_826 : (Jvm.Cond.fieldLink "BloodPriceModel" (158 : Nat) "BloodPriceModel" "names" "[I") ∈ GW := gw_s4 106 rfl rfl
theorem tw_827 : (Jvm.Cond.fieldLink "BloodPriceModel" (161 : Nat) "BloodPriceModel" "values" "[I") ∈ GW := gw_s4 107 rfl rfl
theorem tw_828 : (Jvm.Cond.fieldLink "BloodPriceModel" (164 : Nat) "BloodPriceModel" "rateOf" "[I") ∈ GW := gw_s4 108 rfl rfl
theorem tw_829 : (Jvm.Cond.fieldLink "BloodPriceModel" (167 : Nat) "BloodPriceModel" "mCase" "[I") ∈ GW := gw_s4 109 rfl rfl
theorem tw_830 : (Jvm.Cond.fieldLink "BloodPriceModel" (170 : Nat) "BloodPriceModel" "mDay" "[I") ∈ GW := gw_s4 110 rfl rfl
theorem tw_831 : (Jvm.Cond.fieldLink "BloodPriceModel" (173 : Nat) "BloodPriceModel" "mWorth" "[I") ∈ GW := gw_s4 111 rfl rfl
theorem tw_832 : (Jvm.Cond.fieldLink "BloodPriceModel" (428 : Nat) "BloodPriceModel" "rates" "I") ∈ GW := gw_s4 112 rfl rfl
theorem tw_833 : (Jvm.Cond.fieldLink "BloodPriceModel" (431 : Nat) "BloodPriceModel" "payments" "I") ∈ GW := gw_s4 113 rfl rfl
theorem tw_834 : (Jvm.Cond.laysFinal "BloodPriceModel" "BloodPriceModel" "tape" "[B") ∈ GW := gw_s4 114 rfl rfl
theorem tw_835 : (Jvm.Cond.soleField "BloodPriceModel" "tape") ∈ GW := gw_s4 115 rfl rfl
theorem tw_836 : (Jvm.Cond.laysFinal "BloodPriceModel" "BloodPriceModel" "src" "[B") ∈ GW := gw_s4 116 rfl rfl
theorem tw_837 : (Jvm.Cond.soleField "BloodPriceModel" "src") ∈ GW := gw_s4 117 rfl rfl
theorem tw_838 : (Jvm.Cond.lays "BloodPriceModel" "BloodPriceModel" "taped" "I") ∈ GW := gw_s4 118 rfl rfl
theorem tw_839 : (Jvm.Cond.soleField "BloodPriceModel" "taped") ∈ GW := gw_s4 119 rfl rfl
theorem tw_840 : (Jvm.Cond.lays "BloodPriceModel" "BloodPriceModel" "size" "I") ∈ GW := gw_s4 120 rfl rfl
theorem tw_841 : (Jvm.Cond.soleField "BloodPriceModel" "size") ∈ GW := gw_s4 121 rfl rfl
theorem tw_842 : (Jvm.Cond.lays "BloodPriceModel" "BloodPriceModel" "faultKind" "I") ∈ GW := gw_s4 122 rfl rfl
theorem tw_843 : (Jvm.Cond.soleField "BloodPriceModel" "faultKind") ∈ GW := gw_s4 123 rfl rfl
theorem tw_844 : (Jvm.Cond.lays "BloodPriceModel" "BloodPriceModel" "faultPlace" "I") ∈ GW := gw_s4 124 rfl rfl
theorem tw_845 : (Jvm.Cond.soleField "BloodPriceModel" "faultPlace") ∈ GW := gw_s4 125 rfl rfl
theorem tw_846 : (Jvm.Cond.lays "BloodPriceModel" "BloodPriceModel" "today" "I") ∈ GW := gw_s4 126 rfl rfl
theorem tw_847 : (Jvm.Cond.soleField "BloodPriceModel" "today") ∈ GW := gw_s4 127 rfl rfl
theorem tw_848 : (Jvm.Cond.lays "BloodPriceModel" "BloodPriceModel" "at" "I") ∈ GW := gw_s4 128 rfl rfl
theorem tw_849 : (Jvm.Cond.soleField "BloodPriceModel" "at") ∈ GW := gw_s4 129 rfl rfl
theorem tw_850 : (Jvm.Cond.lays "BloodPriceModel" "BloodPriceModel" "end" "I") ∈ GW := gw_s4 130 rfl rfl
theorem tw_851 : (Jvm.Cond.soleField "BloodPriceModel" "end") ∈ GW := gw_s4 131 rfl rfl
theorem tw_852 : (Jvm.Cond.lays "BloodPriceModel" "BloodPriceModel" "token" "I") ∈ GW := gw_s4 132 rfl rfl
theorem tw_853 : (Jvm.Cond.soleField "BloodPriceModel" "token") ∈ GW := gw_s4 133 rfl rfl
theorem tw_854 : (Jvm.Cond.lays "BloodPriceModel" "BloodPriceModel" "number" "I") ∈ GW := gw_s4 134 rfl rfl
theorem tw_855 : (Jvm.Cond.soleField "BloodPriceModel" "number") ∈ GW := gw_s4 135 rfl rfl
theorem tw_856 : (Jvm.Cond.lays "BloodPriceModel" "BloodPriceModel" "name" "J") ∈ GW := gw_s4 136 rfl rfl
theorem tw_857 : (Jvm.Cond.soleField "BloodPriceModel" "name") ∈ GW := gw_s4 137 rfl rfl
theorem tw_858 : (Jvm.Cond.laysFinal "BloodPriceModel" "BloodPriceModel" "lFolk" "[I") ∈ GW := gw_s4 138 rfl rfl
theorem tw_859 : (Jvm.Cond.soleField "BloodPriceModel" "lFolk") ∈ GW := gw_s4 139 rfl rfl
theorem tw_860 : (Jvm.Cond.laysFinal "BloodPriceModel" "BloodPriceModel" "lDay" "[I") ∈ GW := gw_s4 140 rfl rfl
theorem tw_861 : (Jvm.Cond.soleField "BloodPriceModel" "lDay") ∈ GW := gw_s4 141 rfl rfl
theorem tw_862 : (Jvm.Cond.laysFinal "BloodPriceModel" "BloodPriceModel" "lawMany" "[I") ∈ GW := gw_s4 142 rfl rfl
theorem tw_863 : (Jvm.Cond.soleField "BloodPriceModel" "lawMany") ∈ GW := gw_s4 143 rfl rfl
theorem tw_864 : (Jvm.Cond.laysFinal "BloodPriceModel" "BloodPriceModel" "hMany" "[I") ∈ GW := gw_s4 144 rfl rfl
theorem tw_865 : (Jvm.Cond.soleField "BloodPriceModel" "hMany") ∈ GW := gw_s4 145 rfl rfl
theorem tw_866 : (Jvm.Cond.laysFinal "BloodPriceModel" "BloodPriceModel" "hN" "[I") ∈ GW := gw_s4 146 rfl rfl
theorem tw_867 : (Jvm.Cond.soleField "BloodPriceModel" "hN") ∈ GW := gw_s4 147 rfl rfl
theorem tw_868 : (Jvm.Cond.laysFinal "BloodPriceModel" "BloodPriceModel" "wMany" "[I") ∈ GW := gw_s4 148 rfl rfl
theorem tw_869 : (Jvm.Cond.soleField "BloodPriceModel" "wMany") ∈ GW := gw_s4 149 rfl rfl
theorem tw_870 : (Jvm.Cond.laysFinal "BloodPriceModel" "BloodPriceModel" "wFrom" "[I") ∈ GW := gw_s4 150 rfl rfl
theorem tw_871 : (Jvm.Cond.soleField "BloodPriceModel" "wFrom") ∈ GW := gw_s4 151 rfl rfl
theorem tw_872 : (Jvm.Cond.laysFinal "BloodPriceModel" "BloodPriceModel" "wTo" "[I") ∈ GW := gw_s4 152 rfl rfl
theorem tw_873 : (Jvm.Cond.soleField "BloodPriceModel" "wTo") ∈ GW := gw_s4 153 rfl rfl
theorem tw_874 : (Jvm.Cond.laysFinal "BloodPriceModel" "BloodPriceModel" "wDeed" "[I") ∈ GW := gw_s4 154 rfl rfl
theorem tw_875 : (Jvm.Cond.soleField "BloodPriceModel" "wDeed") ∈ GW := gw_s4 155 rfl rfl
theorem tw_876 : (Jvm.Cond.laysFinal "BloodPriceModel" "BloodPriceModel" "wN" "[I") ∈ GW := gw_s4 156 rfl rfl
theorem tw_877 : (Jvm.Cond.soleField "BloodPriceModel" "wN") ∈ GW := gw_s4 157 rfl rfl
theorem tw_878 : (Jvm.Cond.laysFinal "BloodPriceModel" "BloodPriceModel" "share" "[I") ∈ GW := gw_s4 158 rfl rfl
theorem tw_879 : (Jvm.Cond.soleField "BloodPriceModel" "share") ∈ GW := gw_s4 159 rfl rfl
theorem tw_880 : (Jvm.Cond.laysFinal "BloodPriceModel" "BloodPriceModel" "needs" "[I") ∈ GW := gw_s4 160 rfl rfl
theorem tw_881 : (Jvm.Cond.soleField "BloodPriceModel" "needs") ∈ GW := gw_s4 161 rfl rfl
theorem tw_882 : (Jvm.Cond.laysFinal "BloodPriceModel" "BloodPriceModel" "needRank" "[I") ∈ GW := gw_s4 162 rfl rfl
theorem tw_883 : (Jvm.Cond.soleField "BloodPriceModel" "needRank") ∈ GW := gw_s4 163 rfl rfl
theorem tw_884 : (Jvm.Cond.laysFinal "BloodPriceModel" "BloodPriceModel" "terms" "[I") ∈ GW := gw_s4 164 rfl rfl
theorem tw_885 : (Jvm.Cond.soleField "BloodPriceModel" "terms") ∈ GW := gw_s4 165 rfl rfl
theorem tw_886 : (Jvm.Cond.laysFinal "BloodPriceModel" "BloodPriceModel" "termDays" "[I") ∈ GW := gw_s4 166 rfl rfl
theorem tw_887 : (Jvm.Cond.soleField "BloodPriceModel" "termDays") ∈ GW := gw_s4 167 rfl rfl
theorem tw_888 : (Jvm.Cond.laysFinal "BloodPriceModel" "BloodPriceModel" "code" "[I") ∈ GW := gw_s4 168 rfl rfl
theorem tw_889 : (Jvm.Cond.soleField "BloodPriceModel" "code") ∈ GW := gw_s4 169 rfl rfl
theorem tw_890 : (Jvm.Cond.laysFinal "BloodPriceModel" "BloodPriceModel" "codeNumber" "[I") ∈ GW := gw_s4 170 rfl rfl
theorem tw_891 : (Jvm.Cond.soleField "BloodPriceModel" "codeNumber") ∈ GW := gw_s4 171 rfl rfl
theorem tw_892 : (Jvm.Cond.laysFinal "BloodPriceModel" "BloodPriceModel" "hName" "[J") ∈ GW := gw_s4 172 rfl rfl
theorem tw_893 : (Jvm.Cond.soleField "BloodPriceModel" "hName") ∈ GW := gw_s4 173 rfl rfl
theorem tw_894 : (Jvm.Cond.laysFinal "BloodPriceModel" "BloodPriceModel" "hasShare" "[Z") ∈ GW := gw_s4 174 rfl rfl
theorem tw_895 : (Jvm.Cond.soleField "BloodPriceModel" "hasShare") ∈ GW := gw_s4 175 rfl rfl
theorem tw_896 : (Jvm.Cond.laysFinal "BloodPriceModel" "BloodPriceModel" "hasNeed" "[Z") ∈ GW := gw_s4 176 rfl rfl
theorem tw_897 : (Jvm.Cond.soleField "BloodPriceModel" "hasNeed") ∈ GW := gw_s4 177 rfl rfl
theorem tw_898 : (Jvm.Cond.laysFinal "BloodPriceModel" "BloodPriceModel" "hasTerms" "[Z") ∈ GW := gw_s4 178 rfl rfl
theorem tw_899 : (Jvm.Cond.soleField "BloodPriceModel" "hasTerms") ∈ GW := gw_s4 179 rfl rfl
theorem tw_900 : (Jvm.Cond.lays "BloodPriceModel" "BloodPriceModel" "laws" "I") ∈ GW := gw_s4 180 rfl rfl
theorem tw_901 : (Jvm.Cond.soleField "BloodPriceModel" "laws") ∈ GW := gw_s4 181 rfl rfl
theorem tw_902 : (Jvm.Cond.lays "BloodPriceModel" "BloodPriceModel" "rb" "I") ∈ GW := gw_s4 182 rfl rfl
theorem tw_903 : (Jvm.Cond.soleField "BloodPriceModel" "rb") ∈ GW := gw_s4 183 rfl rfl
theorem tw_904 : (Jvm.Cond.lays "BloodPriceModel" "BloodPriceModel" "codes" "I") ∈ GW := gw_s4 184 rfl rfl
theorem tw_905 : (Jvm.Cond.soleField "BloodPriceModel" "codes") ∈ GW := gw_s4 185 rfl rfl
theorem tw_906 : (Jvm.Cond.lays "BloodPriceModel" "BloodPriceModel" "sums" "I") ∈ GW := gw_s4 186 rfl rfl
theorem tw_907 : (Jvm.Cond.soleField "BloodPriceModel" "sums") ∈ GW := gw_s4 187 rfl rfl
theorem tw_908 : (Jvm.Cond.laysFinal "BloodPriceModel" "BloodPriceModel" "eWhat" "[I") ∈ GW := gw_s4 188 rfl rfl
theorem tw_909 : (Jvm.Cond.soleField "BloodPriceModel" "eWhat") ∈ GW := gw_s4 189 rfl rfl
theorem tw_910 : (Jvm.Cond.lays "BloodPriceModel" "BloodPriceModel" "piled" "I") ∈ GW := gw_s4 190 rfl rfl
theorem tw_911 : (Jvm.Cond.soleField "BloodPriceModel" "piled") ∈ GW := gw_s4 191 rfl rfl
theorem tw_912 : (Jvm.Cond.lays "BloodPriceModel" "BloodPriceModel" "deep" "I") ∈ GW := gw_s4 192 rfl rfl
theorem tw_913 : (Jvm.Cond.soleField "BloodPriceModel" "deep") ∈ GW := gw_s4 193 rfl rfl
theorem tw_914 : (Jvm.Cond.laysFinal "BloodPriceModel" "BloodPriceModel" "pFolk" "[I") ∈ GW := gw_s4 194 rfl rfl
theorem tw_915 : (Jvm.Cond.soleField "BloodPriceModel" "pFolk") ∈ GW := gw_s4 195 rfl rfl
theorem tw_916 : (Jvm.Cond.laysFinal "BloodPriceModel" "BloodPriceModel" "pMother" "[I") ∈ GW := gw_s4 196 rfl rfl
theorem tw_917 : (Jvm.Cond.soleField "BloodPriceModel" "pMother") ∈ GW := gw_s4 197 rfl rfl
theorem tw_918 : (Jvm.Cond.laysFinal "BloodPriceModel" "BloodPriceModel" "pFather" "[I") ∈ GW := gw_s4 198 rfl rfl
theorem tw_919 : (Jvm.Cond.soleField "BloodPriceModel" "pFather") ∈ GW := gw_s4 199 rfl rfl
theorem tw_920 : (Jvm.Cond.laysFinal "BloodPriceModel" "BloodPriceModel" "pDead" "[I") ∈ GW := gw_s4 200 rfl rfl
theorem tw_921 : (Jvm.Cond.soleField "BloodPriceModel" "pDead") ∈ GW := gw_s4 201 rfl rfl
theorem tw_922 : (Jvm.Cond.laysFinal "BloodPriceModel" "BloodPriceModel" "oPerson" "[I") ∈ GW := gw_s4 202 rfl rfl
theorem tw_923 : (Jvm.Cond.soleField "BloodPriceModel" "oPerson") ∈ GW := gw_s4 203 rfl rfl
theorem tw_924 : (Jvm.Cond.laysFinal "BloodPriceModel" "BloodPriceModel" "oRank" "[I") ∈ GW := gw_s4 204 rfl rfl
theorem tw_925 : (Jvm.Cond.soleField "BloodPriceModel" "oRank") ∈ GW := gw_s4 205 rfl rfl
theorem tw_926 : (Jvm.Cond.laysFinal "BloodPriceModel" "BloodPriceModel" "oDay" "[I") ∈ GW := gw_s4 206 rfl rfl
theorem tw_927 : (Jvm.Cond.soleField "BloodPriceModel" "oDay") ∈ GW := gw_s4 207 rfl rfl
theorem tw_928 : (Jvm.Cond.laysFinal "BloodPriceModel" "BloodPriceModel" "oTold" "[I") ∈ GW := gw_s4 208 rfl rfl
theorem tw_929 : (Jvm.Cond.soleField "BloodPriceModel" "oTold") ∈ GW := gw_s4 209 rfl rfl
theorem tw_930 : (Jvm.Cond.laysFinal "BloodPriceModel" "BloodPriceModel" "cA" "[I") ∈ GW := gw_s4 210 rfl rfl
theorem tw_931 : (Jvm.Cond.soleField "BloodPriceModel" "cA") ∈ GW := gw_s4 211 rfl rfl
theorem tw_932 : (Jvm.Cond.laysFinal "BloodPriceModel" "BloodPriceModel" "cB" "[I") ∈ GW := gw_s4 212 rfl rfl
theorem tw_933 : (Jvm.Cond.soleField "BloodPriceModel" "cB") ∈ GW := gw_s4 213 rfl rfl
theorem tw_934 : (Jvm.Cond.laysFinal "BloodPriceModel" "BloodPriceModel" "cFrom" "[I") ∈ GW := gw_s4 214 rfl rfl
theorem tw_935 : (Jvm.Cond.soleField "BloodPriceModel" "cFrom") ∈ GW := gw_s4 215 rfl rfl
theorem tw_936 : (Jvm.Cond.laysFinal "BloodPriceModel" "BloodPriceModel" "cTo" "[I") ∈ GW := gw_s4 216 rfl rfl
theorem tw_937 : (Jvm.Cond.soleField "BloodPriceModel" "cTo") ∈ GW := gw_s4 217 rfl rfl
theorem tw_938 : (Jvm.Cond.lays "BloodPriceModel" "BloodPriceModel" "people" "I") ∈ GW := gw_s4 218 rfl rfl
theorem tw_939 : (Jvm.Cond.soleField "BloodPriceModel" "people") ∈ GW := gw_s4 219 rfl rfl
theorem tw_940 : (Jvm.Cond.lays "BloodPriceModel" "BloodPriceModel" "tolds" "I") ∈ GW := gw_s4 220 rfl rfl
theorem tw_941 : (Jvm.Cond.soleField "BloodPriceModel" "tolds") ∈ GW := gw_s4 221 rfl rfl
theorem tw_942 : (Jvm.Cond.lays "BloodPriceModel" "BloodPriceModel" "truces" "I") ∈ GW := gw_s4 222 rfl rfl
theorem tw_943 : (Jvm.Cond.soleField "BloodPriceModel" "truces") ∈ GW := gw_s4 223 rfl rfl
theorem tw_944 : (Jvm.Cond.laysFinal "BloodPriceModel" "BloodPriceModel" "kBy" "[I") ∈ GW := gw_s4 224 rfl rfl
theorem tw_945 : (Jvm.Cond.soleField "BloodPriceModel" "kBy") ∈ GW := gw_s4 225 rfl rfl
theorem tw_946 : (Jvm.Cond.laysFinal "BloodPriceModel" "BloodPriceModel" "kOf" "[I") ∈ GW := gw_s4 226 rfl rfl
theorem tw_947 : (Jvm.Cond.soleField "BloodPriceModel" "kOf") ∈ GW := gw_s4 227 rfl rfl
theorem tw_948 : (Jvm.Cond.laysFinal "BloodPriceModel" "BloodPriceModel" "kDay" "[I") ∈ GW := gw_s4 228 rfl rfl
theorem tw_949 : (Jvm.Cond.soleField "BloodPriceModel" "kDay") ∈ GW := gw_s4 229 rfl rfl
theorem tw_950 : (Jvm.Cond.laysFinal "BloodPriceModel" "BloodPriceModel" "kPlace" "[I") ∈ GW := gw_s4 230 rfl rfl
theorem tw_951 : (Jvm.Cond.soleField "BloodPriceModel" "kPlace") ∈ GW := gw_s4 231 rfl rfl
theorem tw_952 : (Jvm.Cond.laysFinal "BloodPriceModel" "BloodPriceModel" "kCleared" "[I") ∈ GW := gw_s4 232 rfl rfl
theorem tw_953 : (Jvm.Cond.soleField "BloodPriceModel" "kCleared") ∈ GW := gw_s4 233 rfl rfl
theorem tw_954 : (Jvm.Cond.laysFinal "BloodPriceModel" "BloodPriceModel" "kJudged" "[I") ∈ GW := gw_s4 234 rfl rfl
theorem tw_955 : (Jvm.Cond.soleField "BloodPriceModel" "kJudged") ∈ GW := gw_s4 235 rfl rfl
theorem tw_956 : (Jvm.Cond.laysFinal "BloodPriceModel" "BloodPriceModel" "kDue" "[I") ∈ GW := gw_s4 236 rfl rfl
theorem tw_957 : (Jvm.Cond.soleField "BloodPriceModel" "kDue") ∈ GW := gw_s4 237 rfl rfl
theorem tw_958 : (Jvm.Cond.laysFinal "BloodPriceModel" "BloodPriceModel" "kTerms" "[I") ∈ GW := gw_s4 238 rfl rfl
theorem tw_959 : (Jvm.Cond.soleField "BloodPriceModel" "kTerms") ∈ GW := gw_s4 239 rfl rfl
theorem tw_960 : (Jvm.Cond.laysFinal "BloodPriceModel" "BloodPriceModel" "kDays" "[I") ∈ GW := gw_s5 0 rfl rfl
theorem tw_961 : (Jvm.Cond.soleField "BloodPriceModel" "kDays") ∈ GW := gw_s5 1 rfl rfl
theorem tw_962 : (Jvm.Cond.laysFinal "BloodPriceModel" "BloodPriceModel" "kName" "[J") ∈ GW := gw_s5 2 rfl rfl
theorem tw_963 : (Jvm.Cond.soleField "BloodPriceModel" "kName") ∈ GW := gw_s5 3 rfl rfl
theorem tw_964 : (Jvm.Cond.laysFinal "BloodPriceModel" "BloodPriceModel" "isNight" "[Z") ∈ GW := gw_s5 4 rfl rfl
theorem tw_965 : (Jvm.Cond.soleField "BloodPriceModel" "isNight") ∈ GW := gw_s5 5 rfl rfl
theorem tw_966 : (Jvm.Cond.lays "BloodPriceModel" "BloodPriceModel" "cases" "I") ∈ GW := gw_s5 6 rfl rfl
theorem tw_967 : (Jvm.Cond.soleField "BloodPriceModel" "cases") ∈ GW := gw_s5 7 rfl rfl
theorem tw_968 : (Jvm.Cond.laysFinal "BloodPriceModel" "BloodPriceModel" "names" "[I") ∈ GW := gw_s5 8 rfl rfl
theorem tw_969 : (Jvm.Cond.soleField "BloodPriceModel" "names") ∈ GW := gw_s5 9 rfl rfl
theorem tw_970 : (Jvm.Cond.laysFinal "BloodPriceModel" "BloodPriceModel" "values" "[I") ∈ GW := gw_s5 10 rfl rfl
theorem tw_971 : (Jvm.Cond.soleField "BloodPriceModel" "values") ∈ GW := gw_s5 11 rfl rfl
theorem tw_972 : (Jvm.Cond.laysFinal "BloodPriceModel" "BloodPriceModel" "rateOf" "[I") ∈ GW := gw_s5 12 rfl rfl
theorem tw_973 : (Jvm.Cond.soleField "BloodPriceModel" "rateOf") ∈ GW := gw_s5 13 rfl rfl
theorem tw_974 : (Jvm.Cond.laysFinal "BloodPriceModel" "BloodPriceModel" "mCase" "[I") ∈ GW := gw_s5 14 rfl rfl
theorem tw_975 : (Jvm.Cond.soleField "BloodPriceModel" "mCase") ∈ GW := gw_s5 15 rfl rfl
theorem tw_976 : (Jvm.Cond.laysFinal "BloodPriceModel" "BloodPriceModel" "mDay" "[I") ∈ GW := gw_s5 16 rfl rfl
theorem tw_977 : (Jvm.Cond.soleField "BloodPriceModel" "mDay") ∈ GW := gw_s5 17 rfl rfl
theorem tw_978 : (Jvm.Cond.laysFinal "BloodPriceModel" "BloodPriceModel" "mWorth" "[I") ∈ GW := gw_s5 18 rfl rfl
theorem tw_979 : (Jvm.Cond.soleField "BloodPriceModel" "mWorth") ∈ GW := gw_s5 19 rfl rfl
theorem tw_980 : (Jvm.Cond.lays "BloodPriceModel" "BloodPriceModel" "rates" "I") ∈ GW := gw_s5 20 rfl rfl
theorem tw_981 : (Jvm.Cond.soleField "BloodPriceModel" "rates") ∈ GW := gw_s5 21 rfl rfl
theorem tw_982 : (Jvm.Cond.lays "BloodPriceModel" "BloodPriceModel" "payments" "I") ∈ GW := gw_s5 22 rfl rfl
theorem tw_983 : (Jvm.Cond.soleField "BloodPriceModel" "payments") ∈ GW := gw_s5 23 rfl rfl
theorem tw_984 : (Jvm.Cond.superclass "BloodPriceModel" "java/lang/Object") ∈ GW := gw_s5 24 rfl rfl
theorem tw_985 : (Jvm.Cond.methodLink "BloodPriceLaw" (27 : Nat) ({ cls := "BloodPriceModel", name := "law", desc := "(II)I" } : Jvm.MethodName)) ∈ GW := gw_s5 25 rfl rfl
theorem tw_986 : (Jvm.Cond.instanceMethod ({ cls := "BloodPriceModel", name := "law", desc := "(II)I" } : Jvm.MethodName)) ∈ GW := gw_s5 26 rfl rfl
theorem tw_987 : (Jvm.Cond.selects "BloodPriceModel" ({ cls := "BloodPriceModel", name := "law", desc := "(II)I" } : Jvm.MethodName) ({ cls := "BloodPriceModel", name := "law", desc := "(II)I" } : Jvm.MethodName)) ∈ GW := gw_s5 27 rfl rfl
theorem tw_988 : (Jvm.Cond.code ({ cls := "BloodPriceModel", name := "law", desc := "(II)I" } : Jvm.MethodName) prog_11_method_15_code (4 : Nat) (Option.some Jvm.ClassFile.FieldType.int)) ∈ GW := gw_s5 28 rfl rfl
theorem tw_989 : (Jvm.Cond.constant "BloodPriceModel" (276 : Nat) (100000 : Int32)) ∈ GW := gw_s5 29 rfl rfl
theorem tw_990 : (Jvm.Cond.methodLink "BloodPriceModel" (266 : Nat) ({ cls := "BloodPriceModel", name := "next", desc := "()V" } : Jvm.MethodName)) ∈ GW := gw_s5 30 rfl rfl
theorem tw_992 : (Jvm.Cond.instanceMethod ({ cls := "BloodPriceModel", name := "next", desc := "()V" } : Jvm.MethodName)) ∈ GW := gw_s5 32 rfl rfl
theorem tw_993 : (Jvm.Cond.code ({ cls := "BloodPriceModel", name := "next", desc := "()V" } : Jvm.MethodName) prog_11_method_9_code (3 : Nat) (Option.none : Option Jvm.ClassFile.FieldType)) ∈ GW := gw_s5 33 rfl rfl
theorem tw_994 : (Jvm.Cond.methodLink "BloodPriceModel" (234 : Nat) ({ cls := "BloodPriceModel", name := "sign", desc := "(I)I" } : Jvm.MethodName)) ∈ GW := gw_s5 34 rfl rfl
theorem tw_996 : (Jvm.Cond.instanceMethod ({ cls := "BloodPriceModel", name := "sign", desc := "(I)I" } : Jvm.MethodName)) ∈ GW := gw_s5 36 rfl rfl
theorem tw_997 : (Jvm.Cond.code ({ cls := "BloodPriceModel", name := "sign", desc := "(I)I" } : Jvm.MethodName) prog_11_method_2_code (2 : Nat) (Option.some Jvm.ClassFile.FieldType.int)) ∈ GW := gw_s5 37 rfl rfl
theorem tw_998 : (Jvm.Cond.methodLink "BloodPriceModel" (241 : Nat) ({ cls := "BloodPriceModel", name := "isLetter", desc := "(I)Z" } : Jvm.MethodName)) ∈ GW := gw_s5 38 rfl rfl
theorem tw_999 : (Jvm.Cond.static ({ cls := "BloodPriceModel", name := "isLetter", desc := "(I)Z" } : Jvm.MethodName)) ∈ GW := gw_s5 39 rfl rfl
theorem tw_1000 : (Jvm.Cond.code ({ cls := "BloodPriceModel", name := "isLetter", desc := "(I)Z" } : Jvm.MethodName) prog_11_method_3_code (1 : Nat) (Option.some Jvm.ClassFile.FieldType.boolean)) ∈ GW := gw_s5 40 rfl rfl
theorem tw_1001 : (Jvm.Cond.methodLink "BloodPriceModel" (249 : Nat) ({ cls := "BloodPriceModel", name := "isKept", desc := "(J)Z" } : Jvm.MethodName)) ∈ GW := gw_s5 41 rfl rfl
theorem tw_1002 : (Jvm.Cond.static ({ cls := "BloodPriceModel", name := "isKept", desc := "(J)Z" } : Jvm.MethodName)) ∈ GW := gw_s5 42 rfl rfl
theorem tw_1003 : (Jvm.Cond.code ({ cls := "BloodPriceModel", name := "isKept", desc := "(J)Z" } : Jvm.MethodName) prog_11_method_8_code (2 : Nat) (Option.some Jvm.ClassFile.FieldType.boolean)) ∈ GW := gw_s5 43 rfl rfl
theorem tw_1004 : (Jvm.Cond.methodLink "BloodPriceModel" (196 : Nat) ({ cls := "BloodPriceModel", name := "meaning", desc := "(J)I" } : Jvm.MethodName)) ∈ GW := gw_s5 44 rfl rfl
theorem tw_1005 : (Jvm.Cond.static ({ cls := "BloodPriceModel", name := "meaning", desc := "(J)I" } : Jvm.MethodName)) ∈ GW := gw_s5 45 rfl rfl
theorem tw_1006 : (Jvm.Cond.code ({ cls := "BloodPriceModel", name := "meaning", desc := "(J)I" } : Jvm.MethodName) prog_11_method_7_code (2 : Nat) (Option.some Jvm.ClassFile.FieldType.int)) ∈ GW := gw_s5 46 rfl rfl
theorem tw_1007 : (Jvm.Cond.constantLong "BloodPriceModel" (182 : Nat) (1918987883 : Int64)) ∈ GW := gw_s5 47 rfl rfl
theorem tw_1008 : (Jvm.Cond.constantLong "BloodPriceModel" (184 : Nat) (478694368626 : Int64)) ∈ GW := gw_s5 48 rfl rfl
theorem tw_1009 : (Jvm.Cond.constantLong "BloodPriceModel" (186 : Nat) (482854658917 : Int64)) ∈ GW := gw_s5 49 rfl rfl
theorem tw_1010 : (Jvm.Cond.constantLong "BloodPriceModel" (188 : Nat) (474214787188 : Int64)) ∈ GW := gw_s5 50 rfl rfl
theorem tw_1011 : (Jvm.Cond.constantLong "BloodPriceModel" (190 : Nat) (7039342 : Int64)) ∈ GW := gw_s5 51 rfl rfl
theorem tw_1012 : (Jvm.Cond.constantLong "BloodPriceModel" (192 : Nat) (500136502117 : Int64)) ∈ GW := gw_s5 52 rfl rfl
theorem tw_1013 : (Jvm.Cond.constantLong "BloodPriceModel" (194 : Nat) (7566701 : Int64)) ∈ GW := gw_s5 53 rfl rfl
theorem tw_1014 : (Jvm.Cond.constantLong "BloodPriceModel" (200 : Nat) (1752527476 : Int64)) ∈ GW := gw_s5 54 rfl rfl
theorem tw_1015 : (Jvm.Cond.constantLong "BloodPriceModel" (202 : Nat) (2003330414 : Int64)) ∈ GW := gw_s5 55 rfl rfl
theorem tw_1016 : (Jvm.Cond.constantLong "BloodPriceModel" (204 : Nat) (25711 : Int64)) ∈ GW := gw_s5 56 rfl rfl
theorem tw_1017 : (Jvm.Cond.constantLong "BloodPriceModel" (206 : Nat) (110429873532005 : Int64)) ∈ GW := gw_s5 57 rfl rfl
theorem tw_1018 : (Jvm.Cond.constantLong "BloodPriceModel" (208 : Nat) (1751215206 : Int64)) ∈ GW := gw_s5 58 rfl rfl
theorem tw_1019 : (Jvm.Cond.constantLong "BloodPriceModel" (210 : Nat) (6382692 : Int64)) ∈ GW := gw_s5 59 rfl rfl
theorem tw_1020 : (Jvm.Cond.constantLong "BloodPriceModel" (212 : Nat) (1818588019 : Int64)) ∈ GW := gw_s5 60 rfl rfl
theorem tw_1021 : (Jvm.Cond.constantLong "BloodPriceModel" (214 : Nat) (495672455781 : Int64)) ∈ GW := gw_s5 61 rfl rfl
theorem tw_1022 : (Jvm.Cond.constantLong "BloodPriceModel" (216 : Nat) (1852138852 : Int64)) ∈ GW := gw_s5 62 rfl rfl
theorem tw_1023 : (Jvm.Cond.constantLong "BloodPriceModel" (218 : Nat) (499918204275 : Int64)) ∈ GW := gw_s5 63 rfl rfl
theorem tw_1024 : (Jvm.Cond.constantLong "BloodPriceModel" (220 : Nat) (1684109683 : Int64)) ∈ GW := gw_s5 64 rfl rfl
theorem tw_1025 : (Jvm.Cond.constantLong "BloodPriceModel" (222 : Nat) (28530 : Int64)) ∈ GW := gw_s5 65 rfl rfl
theorem tw_1026 : (Jvm.Cond.constantLong "BloodPriceModel" (224 : Nat) (6385252 : Int64)) ∈ GW := gw_s5 66 rfl rfl
theorem tw_1027 : (Jvm.Cond.constantLong "BloodPriceModel" (226 : Nat) (7237492 : Int64)) ∈ GW := gw_s5 67 rfl rfl
theorem tw_1028 : (Jvm.Cond.methodLink "BloodPriceModel" (253 : Nat) ({ cls := "BloodPriceModel", name := "isDigit", desc := "(I)Z" } : Jvm.MethodName)) ∈ GW := gw_s5 68 rfl rfl
theorem tw_1029 : (Jvm.Cond.static ({ cls := "BloodPriceModel", name := "isDigit", desc := "(I)Z" } : Jvm.MethodName)) ∈ GW := gw_s5 69 rfl rfl
theorem tw_1030 : (Jvm.Cond.code ({ cls := "BloodPriceModel", name := "isDigit", desc := "(I)Z" } : Jvm.MethodName) prog_11_method_4_code (1 : Nat) (Option.some Jvm.ClassFile.FieldType.boolean)) ∈ GW := gw_s5 70 rfl rfl
theorem tw_1031 : (Jvm.Cond.methodLink "BloodPriceModel" (272 : Nat) ({ cls := "BloodPriceModel", name := "isGood", desc := "()Z" } : Jvm.MethodName)) ∈ GW := gw_s5 71 rfl rfl
theorem tw_1033 : (Jvm.Cond.instanceMethod ({ cls := "BloodPriceModel", name := "isGood", desc := "()Z" } : Jvm.MethodName)) ∈ GW := gw_s5 73 rfl rfl
theorem tw_1034 : (Jvm.Cond.code ({ cls := "BloodPriceModel", name := "isGood", desc := "()Z" } : Jvm.MethodName) prog_11_method_6_code (1 : Nat) (Option.some Jvm.ClassFile.FieldType.boolean)) ∈ GW := gw_s5 74 rfl rfl
theorem tw_1035 : (Jvm.Cond.methodLink "BloodPriceModel" (292 : Nat) ({ cls := "BloodPriceModel", name := "readLine", desc := "()V" } : Jvm.MethodName)) ∈ GW := gw_s5 75 rfl rfl
theorem tw_1037 : (Jvm.Cond.instanceMethod ({ cls := "BloodPriceModel", name := "readLine", desc := "()V" } : Jvm.MethodName)) ∈ GW := gw_s5 77 rfl rfl
theorem tw_1038 : (Jvm.Cond.code ({ cls := "BloodPriceModel", name := "readLine", desc := "()V" } : Jvm.MethodName) prog_11_method_16_code (4 : Nat) (Option.none : Option Jvm.ClassFile.FieldType)) ∈ GW := gw_s5 78 rfl rfl
theorem tw_1039 : (Jvm.Cond.methodLink "BloodPriceModel" (269 : Nat) ({ cls := "BloodPriceModel", name := "wrong", desc := "()V" } : Jvm.MethodName)) ∈ GW := gw_s5 79 rfl rfl
theorem tw_1041 : (Jvm.Cond.instanceMethod ({ cls := "BloodPriceModel", name := "wrong", desc := "()V" } : Jvm.MethodName)) ∈ GW := gw_s5 81 rfl rfl
theorem tw_1042 : (Jvm.Cond.code ({ cls := "BloodPriceModel", name := "wrong", desc := "()V" } : Jvm.MethodName) prog_11_method_12_code (1 : Nat) (Option.none : Option Jvm.ClassFile.FieldType)) ∈ GW := gw_s5 82 rfl rfl
theorem tw_1043 : (Jvm.Cond.methodLink "BloodPriceModel" (259 : Nat) ({ cls := "BloodPriceModel", name := "fails", desc := "(II)V" } : Jvm.MethodName)) ∈ GW := gw_s5 83 rfl rfl
theorem tw_1045 : (Jvm.Cond.instanceMethod ({ cls := "BloodPriceModel", name := "fails", desc := "(II)V" } : Jvm.MethodName)) ∈ GW := gw_s5 85 rfl rfl
theorem tw_1046 : (Jvm.Cond.code ({ cls := "BloodPriceModel", name := "fails", desc := "(II)V" } : Jvm.MethodName) prog_11_method_5_code (3 : Nat) (Option.none : Option Jvm.ClassFile.FieldType)) ∈ GW := gw_s5 86 rfl rfl
theorem tw_1047 : (Jvm.Cond.methodLink "BloodPriceModel" (295 : Nat) ({ cls := "BloodPriceModel", name := "readHurt", desc := "()V" } : Jvm.MethodName)) ∈ GW := gw_s5 87 rfl rfl
theorem tw_1049 : (Jvm.Cond.instanceMethod ({ cls := "BloodPriceModel", name := "readHurt", desc := "()V" } : Jvm.MethodName)) ∈ GW := gw_s5 89 rfl rfl
theorem tw_1050 : (Jvm.Cond.code ({ cls := "BloodPriceModel", name := "readHurt", desc := "()V" } : Jvm.MethodName) prog_11_method_18_code (2 : Nat) (Option.none : Option Jvm.ClassFile.FieldType)) ∈ GW := gw_s5 90 rfl rfl
theorem tw_1051 : (Jvm.Cond.methodLink "BloodPriceModel" (313 : Nat) ({ cls := "BloodPriceModel", name := "hurtOf", desc := "(IJ)I" } : Jvm.MethodName)) ∈ GW := gw_s5 91 rfl rfl
theorem tw_1053 : (Jvm.Cond.instanceMethod ({ cls := "BloodPriceModel", name := "hurtOf", desc := "(IJ)I" } : Jvm.MethodName)) ∈ GW := gw_s5 93 rfl rfl
theorem tw_1054 : (Jvm.Cond.code ({ cls := "BloodPriceModel", name := "hurtOf", desc := "(IJ)I" } : Jvm.MethodName) prog_11_method_17_code (5 : Nat) (Option.some Jvm.ClassFile.FieldType.int)) ∈ GW := gw_s5 94 rfl rfl
theorem tw_1055 : (Jvm.Cond.methodLink "BloodPriceModel" (317 : Nat) ({ cls := "BloodPriceModel", name := "numeral", desc := "(II)I" } : Jvm.MethodName)) ∈ GW := gw_s5 95 rfl rfl
theorem tw_1057 : (Jvm.Cond.instanceMethod ({ cls := "BloodPriceModel", name := "numeral", desc := "(II)I" } : Jvm.MethodName)) ∈ GW := gw_s5 97 rfl rfl
theorem tw_1058 : (Jvm.Cond.code ({ cls := "BloodPriceModel", name := "numeral", desc := "(II)I" } : Jvm.MethodName) prog_11_method_14_code (4 : Nat) (Option.some Jvm.ClassFile.FieldType.int)) ∈ GW := gw_s5 98 rfl rfl
theorem tw_1059 : (Jvm.Cond.methodLink "BloodPriceModel" (298 : Nat) ({ cls := "BloodPriceModel", name := "readWhen", desc := "()V" } : Jvm.MethodName)) ∈ GW := gw_s5 99 rfl rfl
theorem tw_1061 : (Jvm.Cond.instanceMethod ({ cls := "BloodPriceModel", name := "readWhen", desc := "()V" } : Jvm.MethodName)) ∈ GW := gw_s5 101 rfl rfl
theorem tw_1062 : (Jvm.Cond.code ({ cls := "BloodPriceModel", name := "readWhen", desc := "()V" } : Jvm.MethodName) prog_11_method_22_code (2 : Nat) (Option.none : Option Jvm.ClassFile.FieldType)) ∈ GW := gw_s5 102 rfl rfl
theorem tw_1063 : (Jvm.Cond.methodLink "BloodPriceModel" (325 : Nat) ({ cls := "BloodPriceModel", name := "e", desc := "()V" } : Jvm.MethodName)) ∈ GW := gw_s5 103 rfl rfl
theorem tw_1065 : (Jvm.Cond.instanceMethod ({ cls := "BloodPriceModel", name := "e", desc := "()V" } : Jvm.MethodName)) ∈ GW := gw_s5 105 rfl rfl
theorem tw_1066 : (Jvm.Cond.code ({ cls := "BloodPriceModel", name := "e", desc := "()V" } : Jvm.MethodName) prog_11_method_25_code (2 : Nat) (Option.none : Option Jvm.ClassFile.FieldType)) ∈ GW := gw_s5 106 rfl rfl
theorem tw_1067 : (Jvm.Cond.methodLink "BloodPriceModel" (334 : Nat) ({ cls := "BloodPriceModel", name := "pile", desc := "(I)V" } : Jvm.MethodName)) ∈ GW := gw_s5 107 rfl rfl
theorem tw_1069 : (Jvm.Cond.instanceMethod ({ cls := "BloodPriceModel", name := "pile", desc := "(I)V" } : Jvm.MethodName)) ∈ GW := gw_s5 109 rfl rfl
theorem tw_1070 : (Jvm.Cond.code ({ cls := "BloodPriceModel", name := "pile", desc := "(I)V" } : Jvm.MethodName) prog_11_method_24_code (2 : Nat) (Option.none : Option Jvm.ClassFile.FieldType)) ∈ GW := gw_s5 110 rfl rfl
theorem tw_1071 : (Jvm.Cond.methodLink "BloodPriceModel" (338 : Nat) ({ cls := "BloodPriceModel", name := "one", desc := "()Z" } : Jvm.MethodName)) ∈ GW := gw_s5 111 rfl rfl
theorem tw_1073 : (Jvm.Cond.instanceMethod ({ cls := "BloodPriceModel", name := "one", desc := "()Z" } : Jvm.MethodName)) ∈ GW := gw_s5 113 rfl rfl
theorem tw_1074 : (Jvm.Cond.code ({ cls := "BloodPriceModel", name := "one", desc := "()Z" } : Jvm.MethodName) prog_11_method_26_code (2 : Nat) (Option.some Jvm.ClassFile.FieldType.boolean)) ∈ GW := gw_s5 114 rfl rfl
theorem tw_1075 : (Jvm.Cond.methodLink "BloodPriceModel" (310 : Nat) ({ cls := "BloodPriceModel", name := "is", desc := "(I)Z" } : Jvm.MethodName)) ∈ GW := gw_s5 115 rfl rfl
theorem tw_1077 : (Jvm.Cond.instanceMethod ({ cls := "BloodPriceModel", name := "is", desc := "(I)Z" } : Jvm.MethodName)) ∈ GW := gw_s5 117 rfl rfl
theorem tw_1078 : (Jvm.Cond.code ({ cls := "BloodPriceModel", name := "is", desc := "(I)Z" } : Jvm.MethodName) prog_11_method_10_code (2 : Nat) (Option.some Jvm.ClassFile.FieldType.boolean)) ∈ GW := gw_s5 118 rfl rfl
theorem tw_1079 : (Jvm.Cond.methodLink "BloodPriceModel" (263 : Nat) ({ cls := "BloodPriceModel", name := "isWord", desc := "(J)Z" } : Jvm.MethodName)) ∈ GW := gw_s5 119 rfl rfl
theorem tw_1081 : (Jvm.Cond.instanceMethod ({ cls := "BloodPriceModel", name := "isWord", desc := "(J)Z" } : Jvm.MethodName)) ∈ GW := gw_s5 121 rfl rfl
theorem tw_1082 : (Jvm.Cond.code ({ cls := "BloodPriceModel", name := "isWord", desc := "(J)Z" } : Jvm.MethodName) prog_11_method_11_code (3 : Nat) (Option.some Jvm.ClassFile.FieldType.boolean)) ∈ GW := gw_s5 122 rfl rfl
theorem tw_1083 : (Jvm.Cond.methodLink "BloodPriceModel" (344 : Nat) ({ cls := "BloodPriceModel", name := "side", desc := "()V" } : Jvm.MethodName)) ∈ GW := gw_s5 123 rfl rfl
theorem tw_1085 : (Jvm.Cond.instanceMethod ({ cls := "BloodPriceModel", name := "side", desc := "()V" } : Jvm.MethodName)) ∈ GW := gw_s5 125 rfl rfl
theorem tw_1086 : (Jvm.Cond.code ({ cls := "BloodPriceModel", name := "side", desc := "()V" } : Jvm.MethodName) prog_11_method_27_code (2 : Nat) (Option.none : Option Jvm.ClassFile.FieldType)) ∈ GW := gw_s5 126 rfl rfl
theorem tw_1087 : (Jvm.Cond.methodLink "BloodPriceModel" (347 : Nat) ({ cls := "BloodPriceModel", name := "put", desc := "(II)V" } : Jvm.MethodName)) ∈ GW := gw_s5 127 rfl rfl
theorem tw_1089 : (Jvm.Cond.instanceMethod ({ cls := "BloodPriceModel", name := "put", desc := "(II)V" } : Jvm.MethodName)) ∈ GW := gw_s5 129 rfl rfl
theorem tw_1090 : (Jvm.Cond.code ({ cls := "BloodPriceModel", name := "put", desc := "(II)V" } : Jvm.MethodName) prog_11_method_23_code (3 : Nat) (Option.none : Option Jvm.ClassFile.FieldType)) ∈ GW := gw_s5 130 rfl rfl
theorem tw_1091 : (Jvm.Cond.methodLink "BloodPriceModel" (341 : Nat) ({ cls := "BloodPriceModel", name := "behind", desc := "()Z" } : Jvm.MethodName)) ∈ GW := gw_s5 131 rfl rfl
theorem tw_1093 : (Jvm.Cond.instanceMethod ({ cls := "BloodPriceModel", name := "behind", desc := "()Z" } : Jvm.MethodName)) ∈ GW := gw_s5 133 rfl rfl
theorem tw_1094 : (Jvm.Cond.code ({ cls := "BloodPriceModel", name := "behind", desc := "()Z" } : Jvm.MethodName) prog_11_method_28_code (2 : Nat) (Option.some Jvm.ClassFile.FieldType.boolean)) ∈ GW := gw_s5 134 rfl rfl
theorem tw_1095 : (Jvm.Cond.methodLink "BloodPriceModel" (321 : Nat) ({ cls := "BloodPriceModel", name := "mustWord", desc := "(J)V" } : Jvm.MethodName)) ∈ GW := gw_s5 135 rfl rfl
theorem tw_1097 : (Jvm.Cond.instanceMethod ({ cls := "BloodPriceModel", name := "mustWord", desc := "(J)V" } : Jvm.MethodName)) ∈ GW := gw_s5 137 rfl rfl
theorem tw_1098 : (Jvm.Cond.code ({ cls := "BloodPriceModel", name := "mustWord", desc := "(J)V" } : Jvm.MethodName) prog_11_method_13_code (3 : Nat) (Option.none : Option Jvm.ClassFile.FieldType)) ∈ GW := gw_s5 138 rfl rfl
theorem tw_1099 : (Jvm.Cond.methodLink "BloodPriceModel" (301 : Nat) ({ cls := "BloodPriceModel", name := "readShare", desc := "()V" } : Jvm.MethodName)) ∈ GW := gw_s5 139 rfl rfl
theorem tw_1101 : (Jvm.Cond.instanceMethod ({ cls := "BloodPriceModel", name := "readShare", desc := "()V" } : Jvm.MethodName)) ∈ GW := gw_s5 141 rfl rfl
theorem tw_1102 : (Jvm.Cond.code ({ cls := "BloodPriceModel", name := "readShare", desc := "()V" } : Jvm.MethodName) prog_11_method_19_code (4 : Nat) (Option.none : Option Jvm.ClassFile.FieldType)) ∈ GW := gw_s5 142 rfl rfl
theorem tw_1103 : (Jvm.Cond.methodLink "BloodPriceModel" (304 : Nat) ({ cls := "BloodPriceModel", name := "readNeed", desc := "()V" } : Jvm.MethodName)) ∈ GW := gw_s5 143 rfl rfl
theorem tw_1105 : (Jvm.Cond.instanceMethod ({ cls := "BloodPriceModel", name := "readNeed", desc := "()V" } : Jvm.MethodName)) ∈ GW := gw_s5 145 rfl rfl
theorem tw_1106 : (Jvm.Cond.code ({ cls := "BloodPriceModel", name := "readNeed", desc := "()V" } : Jvm.MethodName) prog_11_method_20_code (1 : Nat) (Option.none : Option Jvm.ClassFile.FieldType)) ∈ GW := gw_s5 146 rfl rfl
theorem tw_1107 : (Jvm.Cond.methodLink "BloodPriceModel" (307 : Nat) ({ cls := "BloodPriceModel", name := "readTerms", desc := "()V" } : Jvm.MethodName)) ∈ GW := gw_s5 147 rfl rfl
theorem tw_1109 : (Jvm.Cond.instanceMethod ({ cls := "BloodPriceModel", name := "readTerms", desc := "()V" } : Jvm.MethodName)) ∈ GW := gw_s5 149 rfl rfl
theorem tw_1110 : (Jvm.Cond.code ({ cls := "BloodPriceModel", name := "readTerms", desc := "()V" } : Jvm.MethodName) prog_11_method_21_code (1 : Nat) (Option.none : Option Jvm.ClassFile.FieldType)) ∈ GW := gw_s5 150 rfl rfl
theorem tw_1111 : (Jvm.Cond.methodLink "BloodPriceLaw" (31 : Nat) ({ cls := "BloodPriceModel", name := "fault", desc := "(I)I" } : Jvm.MethodName)) ∈ GW := gw_s5 151 rfl rfl
theorem tw_1112 : (Jvm.Cond.instanceMethod ({ cls := "BloodPriceModel", name := "fault", desc := "(I)I" } : Jvm.MethodName)) ∈ GW := gw_s5 152 rfl rfl
theorem tw_1113 : (Jvm.Cond.selects "BloodPriceModel" ({ cls := "BloodPriceModel", name := "fault", desc := "(I)I" } : Jvm.MethodName) ({ cls := "BloodPriceModel", name := "fault", desc := "(I)I" } : Jvm.MethodName)) ∈ GW := gw_s5 153 rfl rfl
theorem tw_1114 : (Jvm.Cond.code ({ cls := "BloodPriceModel", name := "fault", desc := "(I)I" } : Jvm.MethodName) prog_11_method_29_code (2 : Nat) (Option.some Jvm.ClassFile.FieldType.int)) ∈ GW := gw_s5 154 rfl rfl
theorem tw_1115 : (Jvm.Cond.methodLink "BloodPriceLaw" (35 : Nat) ({ cls := "BloodPriceModel", name := "lawOn", desc := "(II)I" } : Jvm.MethodName)) ∈ GW := gw_s5 155 rfl rfl
theorem tw_1116 : (Jvm.Cond.instanceMethod ({ cls := "BloodPriceModel", name := "lawOn", desc := "(II)I" } : Jvm.MethodName)) ∈ GW := gw_s5 156 rfl rfl
theorem tw_1117 : (Jvm.Cond.selects "BloodPriceModel" ({ cls := "BloodPriceModel", name := "lawOn", desc := "(II)I" } : Jvm.MethodName) ({ cls := "BloodPriceModel", name := "lawOn", desc := "(II)I" } : Jvm.MethodName)) ∈ GW := gw_s5 157 rfl rfl
theorem tw_1118 : (Jvm.Cond.code ({ cls := "BloodPriceModel", name := "lawOn", desc := "(II)I" } : Jvm.MethodName) prog_11_method_31_code (6 : Nat) (Option.some Jvm.ClassFile.FieldType.int)) ∈ GW := gw_s5 158 rfl rfl
theorem tw_1119 : (Jvm.Cond.methodLink "BloodPriceModel" (350 : Nat) ({ cls := "BloodPriceModel", name := "lawFor", desc := "(II)I" } : Jvm.MethodName)) ∈ GW := gw_s5 159 rfl rfl
theorem tw_1121 : (Jvm.Cond.instanceMethod ({ cls := "BloodPriceModel", name := "lawFor", desc := "(II)I" } : Jvm.MethodName)) ∈ GW := gw_s5 161 rfl rfl
theorem tw_1122 : (Jvm.Cond.code ({ cls := "BloodPriceModel", name := "lawFor", desc := "(II)I" } : Jvm.MethodName) prog_11_method_30_code (5 : Nat) (Option.some Jvm.ClassFile.FieldType.int)) ∈ GW := gw_s5 162 rfl rfl
theorem tw_1123 : (Jvm.Cond.methodLink "BloodPriceLaw" (40 : Nat) ({ cls := "BloodPriceModel", name := "person", desc := "(III)I" } : Jvm.MethodName)) ∈ GW := gw_s5 163 rfl rfl
theorem tw_1124 : (Jvm.Cond.instanceMethod ({ cls := "BloodPriceModel", name := "person", desc := "(III)I" } : Jvm.MethodName)) ∈ GW := gw_s5 164 rfl rfl
theorem tw_1125 : (Jvm.Cond.selects "BloodPriceModel" ({ cls := "BloodPriceModel", name := "person", desc := "(III)I" } : Jvm.MethodName) ({ cls := "BloodPriceModel", name := "person", desc := "(III)I" } : Jvm.MethodName)) ∈ GW := gw_s5 165 rfl rfl
theorem tw_1126 : (Jvm.Cond.code ({ cls := "BloodPriceModel", name := "person", desc := "(III)I" } : Jvm.MethodName) prog_11_method_33_code (4 : Nat) (Option.some Jvm.ClassFile.FieldType.int)) ∈ GW := gw_s5 166 rfl rfl
theorem tw_1127 : (Jvm.Cond.methodLink "BloodPriceLaw" (44 : Nat) ({ cls := "BloodPriceModel", name := "degree", desc := "(II)I" } : Jvm.MethodName)) ∈ GW := gw_s5 167 rfl rfl
theorem tw_1128 : (Jvm.Cond.instanceMethod ({ cls := "BloodPriceModel", name := "degree", desc := "(II)I" } : Jvm.MethodName)) ∈ GW := gw_s5 168 rfl rfl
theorem tw_1129 : (Jvm.Cond.selects "BloodPriceModel" ({ cls := "BloodPriceModel", name := "degree", desc := "(II)I" } : Jvm.MethodName) ({ cls := "BloodPriceModel", name := "degree", desc := "(II)I" } : Jvm.MethodName)) ∈ GW := gw_s5 169 rfl rfl
theorem tw_1130 : (Jvm.Cond.code ({ cls := "BloodPriceModel", name := "degree", desc := "(II)I" } : Jvm.MethodName) prog_11_method_35_code (5 : Nat) (Option.some Jvm.ClassFile.FieldType.int)) ∈ GW := gw_s5 170 rfl rfl
theorem tw_1131 : (Jvm.Cond.methodLink "BloodPriceModel" (356 : Nat) ({ cls := "BloodPriceModel", name := "isPerson", desc := "(I)Z" } : Jvm.MethodName)) ∈ GW := gw_s5 171 rfl rfl
theorem tw_1133 : (Jvm.Cond.instanceMethod ({ cls := "BloodPriceModel", name := "isPerson", desc := "(I)Z" } : Jvm.MethodName)) ∈ GW := gw_s5 173 rfl rfl
theorem tw_1134 : (Jvm.Cond.code ({ cls := "BloodPriceModel", name := "isPerson", desc := "(I)Z" } : Jvm.MethodName) prog_11_method_32_code (2 : Nat) (Option.some Jvm.ClassFile.FieldType.boolean)) ∈ GW := gw_s5 174 rfl rfl
theorem tw_1135 : (Jvm.Cond.methodLink "BloodPriceModel" (359 : Nat) ({ cls := "BloodPriceModel", name := "wider", desc := "(I)I" } : Jvm.MethodName)) ∈ GW := gw_s5 175 rfl rfl
theorem tw_1137 : (Jvm.Cond.instanceMethod ({ cls := "BloodPriceModel", name := "wider", desc := "(I)I" } : Jvm.MethodName)) ∈ GW := gw_s5 177 rfl rfl
theorem tw_1138 : (Jvm.Cond.code ({ cls := "BloodPriceModel", name := "wider", desc := "(I)I" } : Jvm.MethodName) prog_11_method_34_code (5 : Nat) (Option.some Jvm.ClassFile.FieldType.int)) ∈ GW := gw_s5 178 rfl rfl
theorem tw_1139 : (Jvm.Cond.methodLink "BloodPriceLaw" (48 : Nat) ({ cls := "BloodPriceModel", name := "rank", desc := "(III)I" } : Jvm.MethodName)) ∈ GW := gw_s5 179 rfl rfl
theorem tw_1140 : (Jvm.Cond.instanceMethod ({ cls := "BloodPriceModel", name := "rank", desc := "(III)I" } : Jvm.MethodName)) ∈ GW := gw_s5 180 rfl rfl
theorem tw_1141 : (Jvm.Cond.selects "BloodPriceModel" ({ cls := "BloodPriceModel", name := "rank", desc := "(III)I" } : Jvm.MethodName) ({ cls := "BloodPriceModel", name := "rank", desc := "(III)I" } : Jvm.MethodName)) ∈ GW := gw_s5 181 rfl rfl
theorem tw_1142 : (Jvm.Cond.code ({ cls := "BloodPriceModel", name := "rank", desc := "(III)I" } : Jvm.MethodName) prog_11_method_36_code (4 : Nat) (Option.some Jvm.ClassFile.FieldType.int)) ∈ GW := gw_s5 182 rfl rfl
theorem tw_1143 : (Jvm.Cond.methodLink "BloodPriceLaw" (52 : Nat) ({ cls := "BloodPriceModel", name := "ranked", desc := "(III)I" } : Jvm.MethodName)) ∈ GW := gw_s5 183 rfl rfl
theorem tw_1144 : (Jvm.Cond.instanceMethod ({ cls := "BloodPriceModel", name := "ranked", desc := "(III)I" } : Jvm.MethodName)) ∈ GW := gw_s5 184 rfl rfl
theorem tw_1145 : (Jvm.Cond.selects "BloodPriceModel" ({ cls := "BloodPriceModel", name := "ranked", desc := "(III)I" } : Jvm.MethodName) ({ cls := "BloodPriceModel", name := "ranked", desc := "(III)I" } : Jvm.MethodName)) ∈ GW := gw_s5 185 rfl rfl
theorem tw_1146 : (Jvm.Cond.code ({ cls := "BloodPriceModel", name := "ranked", desc := "(III)I" } : Jvm.MethodName) prog_11_method_37_code (6 : Nat) (Option.some Jvm.ClassFile.FieldType.int)) ∈ GW := gw_s5 186 rfl rfl
theorem tw_1147 : (Jvm.Cond.methodLink "BloodPriceLaw" (57 : Nat) ({ cls := "BloodPriceModel", name := "dead", desc := "(II)Z" } : Jvm.MethodName)) ∈ GW := gw_s5 187 rfl rfl
theorem tw_1148 : (Jvm.Cond.instanceMethod ({ cls := "BloodPriceModel", name := "dead", desc := "(II)Z" } : Jvm.MethodName)) ∈ GW := gw_s5 188 rfl rfl
theorem tw_1149 : (Jvm.Cond.selects "BloodPriceModel" ({ cls := "BloodPriceModel", name := "dead", desc := "(II)Z" } : Jvm.MethodName) ({ cls := "BloodPriceModel", name := "dead", desc := "(II)Z" } : Jvm.MethodName)) ∈ GW := gw_s5 189 rfl rfl
theorem tw_1150 : (Jvm.Cond.code ({ cls := "BloodPriceModel", name := "dead", desc := "(II)Z" } : Jvm.MethodName) prog_11_method_38_code (3 : Nat) (Option.some Jvm.ClassFile.FieldType.boolean)) ∈ GW := gw_s5 190 rfl rfl
theorem tw_1151 : (Jvm.Cond.methodLink "BloodPriceLaw" (62 : Nat) ({ cls := "BloodPriceModel", name := "truce", desc := "(IIII)I" } : Jvm.MethodName)) ∈ GW := gw_s5 191 rfl rfl
theorem tw_1152 : (Jvm.Cond.instanceMethod ({ cls := "BloodPriceModel", name := "truce", desc := "(IIII)I" } : Jvm.MethodName)) ∈ GW := gw_s5 192 rfl rfl
theorem tw_1153 : (Jvm.Cond.selects "BloodPriceModel" ({ cls := "BloodPriceModel", name := "truce", desc := "(IIII)I" } : Jvm.MethodName) ({ cls := "BloodPriceModel", name := "truce", desc := "(IIII)I" } : Jvm.MethodName)) ∈ GW := gw_s5 193 rfl rfl
theorem tw_1154 : (Jvm.Cond.code ({ cls := "BloodPriceModel", name := "truce", desc := "(IIII)I" } : Jvm.MethodName) prog_11_method_40_code (5 : Nat) (Option.some Jvm.ClassFile.FieldType.int)) ∈ GW := gw_s5 194 rfl rfl
theorem tw_1155 : (Jvm.Cond.methodLink "BloodPriceLaw" (66 : Nat) ({ cls := "BloodPriceModel", name := "later", desc := "(I)I" } : Jvm.MethodName)) ∈ GW := gw_s5 195 rfl rfl
theorem tw_1156 : (Jvm.Cond.instanceMethod ({ cls := "BloodPriceModel", name := "later", desc := "(I)I" } : Jvm.MethodName)) ∈ GW := gw_s5 196 rfl rfl
theorem tw_1157 : (Jvm.Cond.selects "BloodPriceModel" ({ cls := "BloodPriceModel", name := "later", desc := "(I)I" } : Jvm.MethodName) ({ cls := "BloodPriceModel", name := "later", desc := "(I)I" } : Jvm.MethodName)) ∈ GW := gw_s5 197 rfl rfl
theorem tw_1158 : (Jvm.Cond.code ({ cls := "BloodPriceModel", name := "later", desc := "(I)I" } : Jvm.MethodName) prog_11_method_42_code (2 : Nat) (Option.some Jvm.ClassFile.FieldType.int)) ∈ GW := gw_s5 198 rfl rfl
theorem tw_1159 : (Jvm.Cond.methodLink "BloodPriceLaw" (73 : Nat) ({ cls := "BloodPriceModel", name := "hurt", desc := "(IIJIIZ)I" } : Jvm.MethodName)) ∈ GW := gw_s5 199 rfl rfl
theorem tw_1160 : (Jvm.Cond.instanceMethod ({ cls := "BloodPriceModel", name := "hurt", desc := "(IIJIIZ)I" } : Jvm.MethodName)) ∈ GW := gw_s5 200 rfl rfl
theorem tw_1161 : (Jvm.Cond.selects "BloodPriceModel" ({ cls := "BloodPriceModel", name := "hurt", desc := "(IIJIIZ)I" } : Jvm.MethodName) ({ cls := "BloodPriceModel", name := "hurt", desc := "(IIJIIZ)I" } : Jvm.MethodName)) ∈ GW := gw_s5 201 rfl rfl
theorem tw_1162 : (Jvm.Cond.code ({ cls := "BloodPriceModel", name := "hurt", desc := "(IIJIIZ)I" } : Jvm.MethodName) prog_11_method_45_code (8 : Nat) (Option.some Jvm.ClassFile.FieldType.int)) ∈ GW := gw_s5 202 rfl rfl
theorem tw_1163 : (Jvm.Cond.methodLink "BloodPriceModel" (376 : Nat) ({ cls := "BloodPriceModel", name := "isName", desc := "(J)Z" } : Jvm.MethodName)) ∈ GW := gw_s5 203 rfl rfl
theorem tw_1164 : (Jvm.Cond.static ({ cls := "BloodPriceModel", name := "isName", desc := "(J)Z" } : Jvm.MethodName)) ∈ GW := gw_s5 204 rfl rfl
theorem tw_1165 : (Jvm.Cond.code ({ cls := "BloodPriceModel", name := "isName", desc := "(J)Z" } : Jvm.MethodName) prog_11_method_44_code (5 : Nat) (Option.some Jvm.ClassFile.FieldType.boolean)) ∈ GW := gw_s5 205 rfl rfl
theorem tw_1166 : (Jvm.Cond.constantLong "BloodPriceModel" (374 : Nat) (255 : Int64)) ∈ GW := gw_s5 206 rfl rfl
theorem tw_1167 : (Jvm.Cond.methodLink "BloodPriceLaw" (77 : Nat) ({ cls := "BloodPriceModel", name := "sum", desc := "(II)I" } : Jvm.MethodName)) ∈ GW := gw_s5 207 rfl rfl
theorem tw_1168 : (Jvm.Cond.instanceMethod ({ cls := "BloodPriceModel", name := "sum", desc := "(II)I" } : Jvm.MethodName)) ∈ GW := gw_s5 208 rfl rfl
theorem tw_1169 : (Jvm.Cond.selects "BloodPriceModel" ({ cls := "BloodPriceModel", name := "sum", desc := "(II)I" } : Jvm.MethodName) ({ cls := "BloodPriceModel", name := "sum", desc := "(II)I" } : Jvm.MethodName)) ∈ GW := gw_s5 209 rfl rfl
theorem tw_1170 : (Jvm.Cond.code ({ cls := "BloodPriceModel", name := "sum", desc := "(II)I" } : Jvm.MethodName) prog_11_method_52_code (3 : Nat) (Option.some Jvm.ClassFile.FieldType.int)) ∈ GW := gw_s5 210 rfl rfl
theorem tw_1171 : (Jvm.Cond.methodLink "BloodPriceModel" (410 : Nat) ({ cls := "BloodPriceModel", name := "isCase", desc := "(I)Z" } : Jvm.MethodName)) ∈ GW := gw_s5 211 rfl rfl
theorem tw_1173 : (Jvm.Cond.instanceMethod ({ cls := "BloodPriceModel", name := "isCase", desc := "(I)Z" } : Jvm.MethodName)) ∈ GW := gw_s5 213 rfl rfl
theorem tw_1174 : (Jvm.Cond.code ({ cls := "BloodPriceModel", name := "isCase", desc := "(I)Z" } : Jvm.MethodName) prog_11_method_43_code (2 : Nat) (Option.some Jvm.ClassFile.FieldType.boolean)) ∈ GW := gw_s5 214 rfl rfl
theorem tw_1175 : (Jvm.Cond.methodLink "BloodPriceModel" (413 : Nat) ({ cls := "BloodPriceModel", name := "sumOf", desc := "(II)I" } : Jvm.MethodName)) ∈ GW := gw_s5 215 rfl rfl
theorem tw_1177 : (Jvm.Cond.instanceMethod ({ cls := "BloodPriceModel", name := "sumOf", desc := "(II)I" } : Jvm.MethodName)) ∈ GW := gw_s5 217 rfl rfl
theorem tw_1178 : (Jvm.Cond.code ({ cls := "BloodPriceModel", name := "sumOf", desc := "(II)I" } : Jvm.MethodName) prog_11_method_51_code (4 : Nat) (Option.some Jvm.ClassFile.FieldType.int)) ∈ GW := gw_s5 218 rfl rfl
theorem tw_1179 : (Jvm.Cond.methodLink "BloodPriceModel" (407 : Nat) ({ cls := "BloodPriceModel", name := "price", desc := "(II)I" } : Jvm.MethodName)) ∈ GW := gw_s5 219 rfl rfl
theorem tw_1181 : (Jvm.Cond.instanceMethod ({ cls := "BloodPriceModel", name := "price", desc := "(II)I" } : Jvm.MethodName)) ∈ GW := gw_s5 221 rfl rfl
theorem tw_1182 : (Jvm.Cond.code ({ cls := "BloodPriceModel", name := "price", desc := "(II)I" } : Jvm.MethodName) prog_11_method_50_code (8 : Nat) (Option.some Jvm.ClassFile.FieldType.int)) ∈ GW := gw_s5 222 rfl rfl
theorem tw_1183 : (Jvm.Cond.methodLink "BloodPriceModel" (386 : Nat) ({ cls := "BloodPriceModel", name := "lawOf", desc := "(I)I" } : Jvm.MethodName)) ∈ GW := gw_s5 223 rfl rfl
theorem tw_1185 : (Jvm.Cond.instanceMethod ({ cls := "BloodPriceModel", name := "lawOf", desc := "(I)I" } : Jvm.MethodName)) ∈ GW := gw_s5 225 rfl rfl
theorem tw_1186 : (Jvm.Cond.code ({ cls := "BloodPriceModel", name := "lawOf", desc := "(I)I" } : Jvm.MethodName) prog_11_method_46_code (2 : Nat) (Option.some Jvm.ClassFile.FieldType.int)) ∈ GW := gw_s5 226 rfl rfl
theorem tw_1187 : (Jvm.Cond.methodLink "BloodPriceModel" (389 : Nat) ({ cls := "BloodPriceModel", name := "degree", desc := "(II)I" } : Jvm.MethodName)) ∈ GW := gw_s5 227 rfl rfl
theorem tw_1188 : (Jvm.Cond.methodLink "BloodPriceModel" (392 : Nat) ({ cls := "BloodPriceModel", name := "ranked", desc := "(III)I" } : Jvm.MethodName)) ∈ GW := gw_s5 228 rfl rfl
theorem tw_1189 : (Jvm.Cond.methodLink "BloodPriceModel" (396 : Nat) ({ cls := "BloodPriceModel", name := "isTruce", desc := "(III)Z" } : Jvm.MethodName)) ∈ GW := gw_s5 229 rfl rfl
theorem tw_1191 : (Jvm.Cond.instanceMethod ({ cls := "BloodPriceModel", name := "isTruce", desc := "(III)Z" } : Jvm.MethodName)) ∈ GW := gw_s5 231 rfl rfl
theorem tw_1192 : (Jvm.Cond.code ({ cls := "BloodPriceModel", name := "isTruce", desc := "(III)Z" } : Jvm.MethodName) prog_11_method_41_code (5 : Nat) (Option.some Jvm.ClassFile.FieldType.boolean)) ∈ GW := gw_s5 232 rfl rfl
theorem tw_1193 : (Jvm.Cond.methodLink "BloodPriceModel" (399 : Nat) ({ cls := "BloodPriceModel", name := "work", desc := "(II)I" } : Jvm.MethodName)) ∈ GW := gw_s5 233 rfl rfl
theorem tw_1195 : (Jvm.Cond.instanceMethod ({ cls := "BloodPriceModel", name := "work", desc := "(II)I" } : Jvm.MethodName)) ∈ GW := gw_s5 235 rfl rfl
theorem tw_1196 : (Jvm.Cond.code ({ cls := "BloodPriceModel", name := "work", desc := "(II)I" } : Jvm.MethodName) prog_11_method_47_code (6 : Nat) (Option.some Jvm.ClassFile.FieldType.int)) ∈ GW := gw_s5 236 rfl rfl
theorem tw_1197 : (Jvm.Cond.methodLink "BloodPriceModel" (379 : Nat) ({ cls := "BloodPriceModel", name := "two", desc := "(III)Z" } : Jvm.MethodName)) ∈ GW := gw_s5 237 rfl rfl
theorem tw_1198 : (Jvm.Cond.static ({ cls := "BloodPriceModel", name := "two", desc := "(III)Z" } : Jvm.MethodName)) ∈ GW := gw_s5 238 rfl rfl
theorem tw_1199 : (Jvm.Cond.code ({ cls := "BloodPriceModel", name := "two", desc := "(III)Z" } : Jvm.MethodName) prog_11_method_48_code (3 : Nat) (Option.some Jvm.ClassFile.FieldType.boolean)) ∈ GW := gw_s5 239 rfl rfl
theorem tw_1200 : (Jvm.Cond.constantLong "BloodPriceModel" (402 : Nat) (2 : Int64)) ∈ GW := gw_s6 0 rfl rfl
theorem tw_1201 : (Jvm.Cond.methodLink "BloodPriceModel" (404 : Nat) ({ cls := "BloodPriceModel", name := "bounded", desc := "(J)I" } : Jvm.MethodName)) ∈ GW := gw_s6 1 rfl rfl
theorem tw_1202 : (Jvm.Cond.static ({ cls := "BloodPriceModel", name := "bounded", desc := "(J)I" } : Jvm.MethodName)) ∈ GW := gw_s6 2 rfl rfl
theorem tw_1203 : (Jvm.Cond.code ({ cls := "BloodPriceModel", name := "bounded", desc := "(J)I" } : Jvm.MethodName) prog_11_method_49_code (2 : Nat) (Option.some Jvm.ClassFile.FieldType.int)) ∈ GW := gw_s6 3 rfl rfl
theorem tw_1204 : (Jvm.Cond.constantLong "BloodPriceModel" (383 : Nat) (10000000 : Int64)) ∈ GW := gw_s6 4 rfl rfl
theorem tw_1205 : (Jvm.Cond.constant "BloodPriceModel" (385 : Nat) (10000000 : Int32)) ∈ GW := gw_s6 5 rfl rfl
theorem tw_1206 : (Jvm.Cond.methodLink "BloodPriceLaw" (81 : Nat) ({ cls := "BloodPriceModel", name := "oath", desc := "(II)I" } : Jvm.MethodName)) ∈ GW := gw_s6 6 rfl rfl
theorem tw_1207 : (Jvm.Cond.instanceMethod ({ cls := "BloodPriceModel", name := "oath", desc := "(II)I" } : Jvm.MethodName)) ∈ GW := gw_s6 7 rfl rfl
theorem tw_1208 : (Jvm.Cond.selects "BloodPriceModel" ({ cls := "BloodPriceModel", name := "oath", desc := "(II)I" } : Jvm.MethodName) ({ cls := "BloodPriceModel", name := "oath", desc := "(II)I" } : Jvm.MethodName)) ∈ GW := gw_s6 8 rfl rfl
theorem tw_1209 : (Jvm.Cond.code ({ cls := "BloodPriceModel", name := "oath", desc := "(II)I" } : Jvm.MethodName) prog_11_method_53_code (7 : Nat) (Option.some Jvm.ClassFile.FieldType.int)) ∈ GW := gw_s6 9 rfl rfl
theorem tw_1210 : (Jvm.Cond.methodLink "BloodPriceModel" (416 : Nat) ({ cls := "BloodPriceModel", name := "isDead", desc := "(II)Z" } : Jvm.MethodName)) ∈ GW := gw_s6 10 rfl rfl
theorem tw_1212 : (Jvm.Cond.instanceMethod ({ cls := "BloodPriceModel", name := "isDead", desc := "(II)Z" } : Jvm.MethodName)) ∈ GW := gw_s6 12 rfl rfl
theorem tw_1213 : (Jvm.Cond.code ({ cls := "BloodPriceModel", name := "isDead", desc := "(II)Z" } : Jvm.MethodName) prog_11_method_39_code (3 : Nat) (Option.some Jvm.ClassFile.FieldType.boolean)) ∈ GW := gw_s6 13 rfl rfl
theorem tw_1214 : (Jvm.Cond.methodLink "BloodPriceLaw" (85 : Nat) ({ cls := "BloodPriceModel", name := "of", desc := "(II)I" } : Jvm.MethodName)) ∈ GW := gw_s6 14 rfl rfl
theorem tw_1215 : (Jvm.Cond.instanceMethod ({ cls := "BloodPriceModel", name := "of", desc := "(II)I" } : Jvm.MethodName)) ∈ GW := gw_s6 15 rfl rfl
theorem tw_1216 : (Jvm.Cond.selects "BloodPriceModel" ({ cls := "BloodPriceModel", name := "of", desc := "(II)I" } : Jvm.MethodName) ({ cls := "BloodPriceModel", name := "of", desc := "(II)I" } : Jvm.MethodName)) ∈ GW := gw_s6 16 rfl rfl
theorem tw_1217 : (Jvm.Cond.code ({ cls := "BloodPriceModel", name := "of", desc := "(II)I" } : Jvm.MethodName) prog_11_method_54_code (3 : Nat) (Option.some Jvm.ClassFile.FieldType.int)) ∈ GW := gw_s6 17 rfl rfl
theorem tw_1218 : (Jvm.Cond.methodLink "BloodPriceLaw" (89 : Nat) ({ cls := "BloodPriceModel", name := "pays", desc := "(III)I" } : Jvm.MethodName)) ∈ GW := gw_s6 18 rfl rfl
theorem tw_1219 : (Jvm.Cond.instanceMethod ({ cls := "BloodPriceModel", name := "pays", desc := "(III)I" } : Jvm.MethodName)) ∈ GW := gw_s6 19 rfl rfl
theorem tw_1220 : (Jvm.Cond.selects "BloodPriceModel" ({ cls := "BloodPriceModel", name := "pays", desc := "(III)I" } : Jvm.MethodName) ({ cls := "BloodPriceModel", name := "pays", desc := "(III)I" } : Jvm.MethodName)) ∈ GW := gw_s6 20 rfl rfl
theorem tw_1221 : (Jvm.Cond.code ({ cls := "BloodPriceModel", name := "pays", desc := "(III)I" } : Jvm.MethodName) prog_11_method_57_code (5 : Nat) (Option.some Jvm.ClassFile.FieldType.int)) ∈ GW := gw_s6 21 rfl rfl
theorem tw_1222 : (Jvm.Cond.methodLink "BloodPriceModel" (424 : Nat) ({ cls := "BloodPriceModel", name := "part", desc := "(IIIII)I" } : Jvm.MethodName)) ∈ GW := gw_s6 22 rfl rfl
theorem tw_1224 : (Jvm.Cond.instanceMethod ({ cls := "BloodPriceModel", name := "part", desc := "(IIIII)I" } : Jvm.MethodName)) ∈ GW := gw_s6 24 rfl rfl
theorem tw_1225 : (Jvm.Cond.code ({ cls := "BloodPriceModel", name := "part", desc := "(IIIII)I" } : Jvm.MethodName) prog_11_method_56_code (13 : Nat) (Option.some Jvm.ClassFile.FieldType.int)) ∈ GW := gw_s6 25 rfl rfl
theorem tw_1226 : (Jvm.Cond.methodLink "BloodPriceModel" (420 : Nat) ({ cls := "BloodPriceModel", name := "isOf", desc := "(IIIII)Z" } : Jvm.MethodName)) ∈ GW := gw_s6 26 rfl rfl
theorem tw_1228 : (Jvm.Cond.instanceMethod ({ cls := "BloodPriceModel", name := "isOf", desc := "(IIIII)Z" } : Jvm.MethodName)) ∈ GW := gw_s6 28 rfl rfl
theorem tw_1229 : (Jvm.Cond.code ({ cls := "BloodPriceModel", name := "isOf", desc := "(IIIII)Z" } : Jvm.MethodName) prog_11_method_55_code (6 : Nat) (Option.some Jvm.ClassFile.FieldType.boolean)) ∈ GW := gw_s6 29 rfl rfl
theorem tw_1230 : (Jvm.Cond.methodLink "BloodPriceLaw" (93 : Nat) ({ cls := "BloodPriceModel", name := "has", desc := "(III)I" } : Jvm.MethodName)) ∈ GW := gw_s6 30 rfl rfl
theorem tw_1231 : (Jvm.Cond.instanceMethod ({ cls := "BloodPriceModel", name := "has", desc := "(III)I" } : Jvm.MethodName)) ∈ GW := gw_s6 31 rfl rfl
theorem tw_1232 : (Jvm.Cond.selects "BloodPriceModel" ({ cls := "BloodPriceModel", name := "has", desc := "(III)I" } : Jvm.MethodName) ({ cls := "BloodPriceModel", name := "has", desc := "(III)I" } : Jvm.MethodName)) ∈ GW := gw_s6 32 rfl rfl
theorem tw_1233 : (Jvm.Cond.code ({ cls := "BloodPriceModel", name := "has", desc := "(III)I" } : Jvm.MethodName) prog_11_method_58_code (5 : Nat) (Option.some Jvm.ClassFile.FieldType.int)) ∈ GW := gw_s6 33 rfl rfl
theorem tw_1234 : (Jvm.Cond.methodLink "BloodPriceLaw" (97 : Nat) ({ cls := "BloodPriceModel", name := "judge", desc := "(I)I" } : Jvm.MethodName)) ∈ GW := gw_s6 34 rfl rfl
theorem tw_1235 : (Jvm.Cond.instanceMethod ({ cls := "BloodPriceModel", name := "judge", desc := "(I)I" } : Jvm.MethodName)) ∈ GW := gw_s6 35 rfl rfl
theorem tw_1236 : (Jvm.Cond.selects "BloodPriceModel" ({ cls := "BloodPriceModel", name := "judge", desc := "(I)I" } : Jvm.MethodName) ({ cls := "BloodPriceModel", name := "judge", desc := "(I)I" } : Jvm.MethodName)) ∈ GW := gw_s6 36 rfl rfl
theorem tw_1237 : (Jvm.Cond.code ({ cls := "BloodPriceModel", name := "judge", desc := "(I)I" } : Jvm.MethodName) prog_11_method_59_code (3 : Nat) (Option.some Jvm.ClassFile.FieldType.int)) ∈ GW := gw_s6 37 rfl rfl
theorem tw_1238 : (Jvm.Cond.methodLink "BloodPriceLaw" (101 : Nat) ({ cls := "BloodPriceModel", name := "rate", desc := "(II)Z" } : Jvm.MethodName)) ∈ GW := gw_s6 38 rfl rfl
theorem tw_1239 : (Jvm.Cond.instanceMethod ({ cls := "BloodPriceModel", name := "rate", desc := "(II)Z" } : Jvm.MethodName)) ∈ GW := gw_s6 39 rfl rfl
theorem tw_1240 : (Jvm.Cond.selects "BloodPriceModel" ({ cls := "BloodPriceModel", name := "rate", desc := "(II)Z" } : Jvm.MethodName) ({ cls := "BloodPriceModel", name := "rate", desc := "(II)Z" } : Jvm.MethodName)) ∈ GW := gw_s6 40 rfl rfl
theorem tw_1241 : (Jvm.Cond.code ({ cls := "BloodPriceModel", name := "rate", desc := "(II)Z" } : Jvm.MethodName) prog_11_method_60_code (3 : Nat) (Option.some Jvm.ClassFile.FieldType.boolean)) ∈ GW := gw_s6 41 rfl rfl
theorem tw_1242 : (Jvm.Cond.methodLink "BloodPriceLaw" (105 : Nat) ({ cls := "BloodPriceModel", name := "pay", desc := "(III)I" } : Jvm.MethodName)) ∈ GW := gw_s6 42 rfl rfl
theorem tw_1243 : (Jvm.Cond.instanceMethod ({ cls := "BloodPriceModel", name := "pay", desc := "(III)I" } : Jvm.MethodName)) ∈ GW := gw_s6 43 rfl rfl
theorem tw_1244 : (Jvm.Cond.selects "BloodPriceModel" ({ cls := "BloodPriceModel", name := "pay", desc := "(III)I" } : Jvm.MethodName) ({ cls := "BloodPriceModel", name := "pay", desc := "(III)I" } : Jvm.MethodName)) ∈ GW := gw_s6 44 rfl rfl
theorem tw_1245 : (Jvm.Cond.code ({ cls := "BloodPriceModel", name := "pay", desc := "(III)I" } : Jvm.MethodName) prog_11_method_61_code (4 : Nat) (Option.some Jvm.ClassFile.FieldType.int)) ∈ GW := gw_s6 45 rfl rfl
theorem tw_1246 : (Jvm.Cond.methodLink "BloodPriceLaw" (109 : Nat) ({ cls := "BloodPriceModel", name := "owed", desc := "(II)I" } : Jvm.MethodName)) ∈ GW := gw_s6 46 rfl rfl
theorem tw_1247 : (Jvm.Cond.instanceMethod ({ cls := "BloodPriceModel", name := "owed", desc := "(II)I" } : Jvm.MethodName)) ∈ GW := gw_s6 47 rfl rfl
theorem tw_1248 : (Jvm.Cond.selects "BloodPriceModel" ({ cls := "BloodPriceModel", name := "owed", desc := "(II)I" } : Jvm.MethodName) ({ cls := "BloodPriceModel", name := "owed", desc := "(II)I" } : Jvm.MethodName)) ∈ GW := gw_s6 48 rfl rfl
theorem tw_1249 : (Jvm.Cond.code ({ cls := "BloodPriceModel", name := "owed", desc := "(II)I" } : Jvm.MethodName) prog_11_method_64_code (9 : Nat) (Option.some Jvm.ClassFile.FieldType.int)) ∈ GW := gw_s6 49 rfl rfl
theorem tw_1250 : (Jvm.Cond.constant "BloodPriceModel" (434 : Nat) (-2000000001 : Int32)) ∈ GW := gw_s6 50 rfl rfl
theorem tw_1251 : (Jvm.Cond.methodLink "BloodPriceModel" (435 : Nat) ({ cls := "BloodPriceModel", name := "termOf", desc := "(II)I" } : Jvm.MethodName)) ∈ GW := gw_s6 51 rfl rfl
theorem tw_1253 : (Jvm.Cond.instanceMethod ({ cls := "BloodPriceModel", name := "termOf", desc := "(II)I" } : Jvm.MethodName)) ∈ GW := gw_s6 53 rfl rfl
theorem tw_1254 : (Jvm.Cond.code ({ cls := "BloodPriceModel", name := "termOf", desc := "(II)I" } : Jvm.MethodName) prog_11_method_63_code (3 : Nat) (Option.some Jvm.ClassFile.FieldType.int)) ∈ GW := gw_s6 54 rfl rfl
theorem tw_1255 : (Jvm.Cond.methodLink "BloodPriceModel" (438 : Nat) ({ cls := "BloodPriceModel", name := "paidBy", desc := "(II)I" } : Jvm.MethodName)) ∈ GW := gw_s6 55 rfl rfl
theorem tw_1257 : (Jvm.Cond.instanceMethod ({ cls := "BloodPriceModel", name := "paidBy", desc := "(II)I" } : Jvm.MethodName)) ∈ GW := gw_s6 57 rfl rfl
theorem tw_1258 : (Jvm.Cond.code ({ cls := "BloodPriceModel", name := "paidBy", desc := "(II)I" } : Jvm.MethodName) prog_11_method_62_code (5 : Nat) (Option.some Jvm.ClassFile.FieldType.int)) ∈ GW := gw_s6 58 rfl rfl
theorem tw_1259 : (Jvm.Cond.methodLink "BloodPriceLaw" (113 : Nat) ({ cls := "BloodPriceModel", name := "about", desc := "(I)I" } : Jvm.MethodName)) ∈ GW := gw_s6 59 rfl rfl
theorem tw_1260 : (Jvm.Cond.instanceMethod ({ cls := "BloodPriceModel", name := "about", desc := "(I)I" } : Jvm.MethodName)) ∈ GW := gw_s6 60 rfl rfl
theorem tw_1261 : (Jvm.Cond.selects "BloodPriceModel" ({ cls := "BloodPriceModel", name := "about", desc := "(I)I" } : Jvm.MethodName) ({ cls := "BloodPriceModel", name := "about", desc := "(I)I" } : Jvm.MethodName)) ∈ GW := gw_s6 61 rfl rfl
theorem tw_1262 : (Jvm.Cond.code ({ cls := "BloodPriceModel", name := "about", desc := "(I)I" } : Jvm.MethodName) prog_11_method_65_code (2 : Nat) (Option.some Jvm.ClassFile.FieldType.int)) ∈ GW := gw_s6 62 rfl rfl
theorem tw_1263 : (Jvm.Cond.methodLink "BloodPriceLaw" (17 : Nat) ({ cls := "BloodPriceModel", name := "feed", desc := "(IIIII)I" } : Jvm.MethodName)) ∈ GW := gw_s6 63 rfl rfl
theorem tw_1264 : (Jvm.Cond.instanceMethod ({ cls := "BloodPriceModel", name := "feed", desc := "(IIIII)I" } : Jvm.MethodName)) ∈ GW := gw_s6 64 rfl rfl
theorem tw_1265 : (Jvm.Cond.selects "BloodPriceModel" ({ cls := "BloodPriceModel", name := "feed", desc := "(IIIII)I" } : Jvm.MethodName) ({ cls := "BloodPriceModel", name := "feed", desc := "(IIIII)I" } : Jvm.MethodName)) ∈ GW := gw_s6 65 rfl rfl
theorem tw_1266 : (Jvm.Cond.code ({ cls := "BloodPriceModel", name := "feed", desc := "(IIIII)I" } : Jvm.MethodName) prog_11_method_66_code (8 : Nat) (Option.some Jvm.ClassFile.FieldType.int)) ∈ GW := gw_s6 66 rfl rfl
theorem tw_1267 : (Jvm.Cond.methodLink "BloodPriceLaw" (22 : Nat) ({ cls := "BloodPriceModel", name := "end", desc := "(I)I" } : Jvm.MethodName)) ∈ GW := gw_s6 67 rfl rfl
theorem tw_1268 : (Jvm.Cond.instanceMethod ({ cls := "BloodPriceModel", name := "end", desc := "(I)I" } : Jvm.MethodName)) ∈ GW := gw_s6 68 rfl rfl
theorem tw_1269 : (Jvm.Cond.selects "BloodPriceModel" ({ cls := "BloodPriceModel", name := "end", desc := "(I)I" } : Jvm.MethodName) ({ cls := "BloodPriceModel", name := "end", desc := "(I)I" } : Jvm.MethodName)) ∈ GW := gw_s6 69 rfl rfl
theorem tw_1270 : (Jvm.Cond.code ({ cls := "BloodPriceModel", name := "end", desc := "(I)I" } : Jvm.MethodName) prog_11_method_67_code (2 : Nat) (Option.some Jvm.ClassFile.FieldType.int)) ∈ GW := gw_s6 70 rfl rfl
theorem tw_1271 : (Jvm.Cond.constantLong "BloodPriceLaw" (67 : Nat) (4294967295 : Int64)) ∈ GW := gw_s6 71 rfl rfl
