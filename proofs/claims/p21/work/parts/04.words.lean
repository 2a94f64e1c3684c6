theorem tw_0 : (Jvm.Cond.initialized "BloodPriceLaw") ∈ GW := gw_tab 0 (by decide +kernel) rfl
theorem tw_1 : (Jvm.Cond.initialized "BloodPrice") ∈ GW := gw_tab 1 (by decide +kernel) rfl
theorem tw_2 : (Jvm.Cond.initialized "BloodPrice$Tokens") ∈ GW := gw_tab 2 (by decide +kernel) rfl
theorem tw_3 : (Jvm.Cond.initialized "BloodPrice$People") ∈ GW := gw_tab 3 (by decide +kernel) rfl
theorem tw_4 : (Jvm.Cond.initialized "BloodPrice$Tolds") ∈ GW := gw_tab 4 (by decide +kernel) rfl
theorem tw_5 : (Jvm.Cond.initialized "BloodPrice$Truces") ∈ GW := gw_tab 5 (by decide +kernel) rfl
theorem tw_6 : (Jvm.Cond.initialized "BloodPrice$Payments") ∈ GW := gw_tab 6 (by decide +kernel) rfl
theorem tw_7 : (Jvm.Cond.initialized "BloodPriceModel") ∈ GW := gw_tab 7 (by decide +kernel) rfl
theorem tw_8 : (Jvm.Cond.initialized "BloodPrice$Law") ∈ GW := gw_tab 8 (by decide +kernel) rfl
theorem tw_9 : (Jvm.Cond.initialized "BloodPrice$Reader") ∈ GW := gw_tab 9 (by decide +kernel) rfl
theorem tw_10 : (Jvm.Cond.initialized "BloodPrice$Case") ∈ GW := gw_tab 10 (by decide +kernel) rfl
theorem tw_11 : (Jvm.Cond.initialized "java/lang/Math") ∈ GW := gw_tab 11 (by decide +kernel) rfl
theorem tw_12 : (Jvm.Cond.initialized "java/lang/Integer") ∈ GW := gw_tab 12 (by decide +kernel) rfl
theorem tw_13 : (Jvm.Cond.classLink "BloodPriceLaw" (7 : Nat) "BloodPrice") ∈ GW := gw_tab 13 (by decide +kernel) rfl
theorem tw_14 : (Jvm.Cond.instantiable "BloodPrice" (17 : Nat)) ∈ GW := gw_tab 14 (by decide +kernel) rfl
theorem tw_15 : (Jvm.Cond.methodLink "BloodPriceLaw" (9 : Nat) ({ cls := "BloodPrice", name := "<init>", desc := "()V" } : Jvm.MethodName)) ∈ GW := gw_tab 15 (by decide +kernel) rfl
theorem tw_16 : (Jvm.Cond.instanceMethod ({ cls := "BloodPrice", name := "<init>", desc := "()V" } : Jvm.MethodName)) ∈ GW := gw_tab 16 (by decide +kernel) rfl
theorem tw_17 : (Jvm.Cond.code ({ cls := "BloodPrice", name := "<init>", desc := "()V" } : Jvm.MethodName) prog_1_method_1_code (1 : Nat) (Option.none : Option Jvm.ClassFile.FieldType)) ∈ GW := gw_tab 17 (by decide +kernel) rfl
theorem tw_18 : (Jvm.Cond.methodLink "BloodPrice" (1 : Nat) ({ cls := "java/lang/Object", name := "<init>", desc := "()V" } : Jvm.MethodName)) ∈ GW := gw_tab 18 (by decide +kernel) rfl
theorem tw_19 : (Jvm.Cond.instanceMethod ({ cls := "java/lang/Object", name := "<init>", desc := "()V" } : Jvm.MethodName)) ∈ GW := gw_tab 19 (by decide +kernel) rfl
theorem tw_20 : (Jvm.Cond.code ({ cls := "java/lang/Object", name := "<init>", desc := "()V" } : Jvm.MethodName) object_method_1_code (1 : Nat) (Option.none : Option Jvm.ClassFile.FieldType)) ∈ GW := gw_tab 20 (by decide +kernel) rfl
theorem tw_21 : (Jvm.Cond.classLink "BloodPrice" (13 : Nat) "BloodPrice$Tokens") ∈ GW := gw_tab 21 (by decide +kernel) rfl
theorem tw_22 : (Jvm.Cond.instantiable "BloodPrice$Tokens" (4 : Nat)) ∈ GW := gw_tab 22 (by decide +kernel) rfl
theorem tw_24 : (Jvm.Cond.instanceMethod ({ cls := "BloodPrice$Tokens", name := "<init>", desc := "()V" } : Jvm.MethodName)) ∈ GW := gw_tab 24 (by decide +kernel) rfl
theorem tw_25 : (Jvm.Cond.code ({ cls := "BloodPrice$Tokens", name := "<init>", desc := "()V" } : Jvm.MethodName) prog_7_method_1_code (1 : Nat) (Option.none : Option Jvm.ClassFile.FieldType)) ∈ GW := gw_tab 25 (by decide +kernel) rfl
theorem tw_26 : (Jvm.Cond.methodLink "BloodPrice$Tokens" (3 : Nat) ({ cls := "java/lang/Object", name := "<init>", desc := "()V" } : Jvm.MethodName)) ∈ GW := gw_tab 26 (by decide +kernel) rfl
theorem tw_27 : (Jvm.Cond.fieldLink "BloodPrice$Tokens" (9 : Nat) "BloodPrice$Tokens" "token" "[J") ∈ GW := gw_tab 27 (by decide +kernel) rfl
theorem tw_28 : (Jvm.Cond.fieldLink "BloodPrice$Reader" (23 : Nat) "BloodPrice$Tokens" "token" "[J") ∈ GW := gw_tab 28 (by decide +kernel) rfl
theorem tw_29 : (Jvm.Cond.fieldLink "BloodPrice$Tokens" (15 : Nat) "BloodPrice$Tokens" "place" "[I") ∈ GW := gw_tab 29 (by decide +kernel) rfl
theorem tw_30 : (Jvm.Cond.fieldLink "BloodPrice$Reader" (179 : Nat) "BloodPrice$Tokens" "place" "[I") ∈ GW := gw_tab 30 (by decide +kernel) rfl
theorem tw_31 : (Jvm.Cond.fieldLink "BloodPrice$Tokens" (19 : Nat) "BloodPrice$Tokens" "count" "I") ∈ GW := gw_tab 31 (by decide +kernel) rfl
theorem tw_32 : (Jvm.Cond.fieldLink "BloodPrice" (92 : Nat) "BloodPrice$Tokens" "count" "I") ∈ GW := gw_tab 32 (by decide +kernel) rfl
theorem tw_33 : (Jvm.Cond.fieldLink "BloodPrice$Reader" (185 : Nat) "BloodPrice$Tokens" "count" "I") ∈ GW := gw_tab 33 (by decide +kernel) rfl
theorem tw_34 : (Jvm.Cond.fieldLink "BloodPrice$Tokens" (60 : Nat) "BloodPrice$Tokens" "length" "I") ∈ GW := gw_tab 34 (by decide +kernel) rfl
theorem tw_35 : (Jvm.Cond.laysFinal "BloodPrice$Tokens" "BloodPrice$Tokens" "token" "[J") ∈ GW := gw_tab 35 (by decide +kernel) rfl
theorem tw_36 : (Jvm.Cond.soleField "BloodPrice$Tokens" "token") ∈ GW := gw_tab 36 (by decide +kernel) rfl
theorem tw_37 : (Jvm.Cond.laysFinal "BloodPrice$Tokens" "BloodPrice$Tokens" "place" "[I") ∈ GW := gw_tab 37 (by decide +kernel) rfl
theorem tw_38 : (Jvm.Cond.soleField "BloodPrice$Tokens" "place") ∈ GW := gw_tab 38 (by decide +kernel) rfl
theorem tw_39 : (Jvm.Cond.lays "BloodPrice$Tokens" "BloodPrice$Tokens" "count" "I") ∈ GW := gw_tab 39 (by decide +kernel) rfl
theorem tw_40 : (Jvm.Cond.soleField "BloodPrice$Tokens" "count") ∈ GW := gw_tab 40 (by decide +kernel) rfl
theorem tw_41 : (Jvm.Cond.lays "BloodPrice$Tokens" "BloodPrice$Tokens" "length" "I") ∈ GW := gw_tab 41 (by decide +kernel) rfl
theorem tw_42 : (Jvm.Cond.soleField "BloodPrice$Tokens" "length") ∈ GW := gw_tab 42 (by decide +kernel) rfl
theorem tw_43 : (Jvm.Cond.superclass "BloodPrice$Tokens" "java/lang/Object") ∈ GW := gw_tab 43 (by decide +kernel) rfl
theorem tw_44 : (Jvm.Cond.arrayClass Jvm.ClassFile.FieldType.byte) ∈ GW := gw_tab 44 (by decide +kernel) rfl
theorem tw_45 : (Jvm.Cond.arrayClass Jvm.ClassFile.FieldType.long) ∈ GW := gw_tab 45 (by decide +kernel) rfl
theorem tw_46 : (Jvm.Cond.arrayClass Jvm.ClassFile.FieldType.int) ∈ GW := gw_tab 46 (by decide +kernel) rfl
theorem tw_47 : (Jvm.Cond.classLink "BloodPrice" (20 : Nat) "BloodPrice$Law") ∈ GW := gw_tab 47 (by decide +kernel) rfl
theorem tw_49 : (Jvm.Cond.classLink "BloodPrice" (34 : Nat) "BloodPrice$People") ∈ GW := gw_tab 49 (by decide +kernel) rfl
theorem tw_50 : (Jvm.Cond.instantiable "BloodPrice$People" (8 : Nat)) ∈ GW := gw_tab 50 (by decide +kernel) rfl
theorem tw_52 : (Jvm.Cond.instanceMethod ({ cls := "BloodPrice$People", name := "<init>", desc := "()V" } : Jvm.MethodName)) ∈ GW := gw_tab 52 (by decide +kernel) rfl
theorem tw_53 : (Jvm.Cond.code ({ cls := "BloodPrice$People", name := "<init>", desc := "()V" } : Jvm.MethodName) prog_5_method_1_code (1 : Nat) (Option.none : Option Jvm.ClassFile.FieldType)) ∈ GW := gw_tab 53 (by decide +kernel) rfl
theorem tw_54 : (Jvm.Cond.methodLink "BloodPrice$People" (3 : Nat) ({ cls := "java/lang/Object", name := "<init>", desc := "()V" } : Jvm.MethodName)) ∈ GW := gw_tab 54 (by decide +kernel) rfl
theorem tw_55 : (Jvm.Cond.fieldLink "BloodPrice$People" (9 : Nat) "BloodPrice$People" "folk" "[I") ∈ GW := gw_tab 55 (by decide +kernel) rfl
theorem tw_56 : (Jvm.Cond.fieldLink "BloodPrice$People" (15 : Nat) "BloodPrice$People" "mother" "[I") ∈ GW := gw_tab 56 (by decide +kernel) rfl
theorem tw_57 : (Jvm.Cond.fieldLink "BloodPrice$People" (18 : Nat) "BloodPrice$People" "father" "[I") ∈ GW := gw_tab 57 (by decide +kernel) rfl
theorem tw_58 : (Jvm.Cond.fieldLink "BloodPrice$People" (21 : Nat) "BloodPrice$People" "deadFrom" "[I") ∈ GW := gw_tab 58 (by decide +kernel) rfl
theorem tw_59 : (Jvm.Cond.fieldLink "BloodPrice$People" (24 : Nat) "BloodPrice$People" "steps" "[I") ∈ GW := gw_tab 59 (by decide +kernel) rfl
theorem tw_60 : (Jvm.Cond.fieldLink "BloodPrice" (287 : Nat) "BloodPrice$People" "steps" "[I") ∈ GW := gw_tab 60 (by decide +kernel) rfl
theorem tw_61 : (Jvm.Cond.fieldLink "BloodPrice$People" (27 : Nat) "BloodPrice$People" "sharing" "[Z") ∈ GW := gw_tab 61 (by decide +kernel) rfl
theorem tw_62 : (Jvm.Cond.fieldLink "BloodPrice" (303 : Nat) "BloodPrice$People" "sharing" "[Z") ∈ GW := gw_tab 62 (by decide +kernel) rfl
theorem tw_63 : (Jvm.Cond.fieldLink "BloodPrice$People" (47 : Nat) "BloodPrice$People" "sharers" "I") ∈ GW := gw_tab 63 (by decide +kernel) rfl
theorem tw_64 : (Jvm.Cond.fieldLink "BloodPrice" (297 : Nat) "BloodPrice$People" "sharers" "I") ∈ GW := gw_tab 64 (by decide +kernel) rfl
theorem tw_65 : (Jvm.Cond.fieldLink "BloodPrice$People" (31 : Nat) "BloodPrice$People" "count" "I") ∈ GW := gw_tab 65 (by decide +kernel) rfl
theorem tw_66 : (Jvm.Cond.fieldLink "BloodPrice" (220 : Nat) "BloodPrice$People" "count" "I") ∈ GW := gw_tab 66 (by decide +kernel) rfl
theorem tw_67 : (Jvm.Cond.laysFinal "BloodPrice$People" "BloodPrice$People" "folk" "[I") ∈ GW := gw_tab 67 (by decide +kernel) rfl
theorem tw_68 : (Jvm.Cond.soleField "BloodPrice$People" "folk") ∈ GW := gw_tab 68 (by decide +kernel) rfl
theorem tw_69 : (Jvm.Cond.laysFinal "BloodPrice$People" "BloodPrice$People" "mother" "[I") ∈ GW := gw_tab 69 (by decide +kernel) rfl
theorem tw_70 : (Jvm.Cond.soleField "BloodPrice$People" "mother") ∈ GW := gw_tab 70 (by decide +kernel) rfl
theorem tw_71 : (Jvm.Cond.laysFinal "BloodPrice$People" "BloodPrice$People" "father" "[I") ∈ GW := gw_tab 71 (by decide +kernel) rfl
theorem tw_72 : (Jvm.Cond.soleField "BloodPrice$People" "father") ∈ GW := gw_tab 72 (by decide +kernel) rfl
theorem tw_73 : (Jvm.Cond.laysFinal "BloodPrice$People" "BloodPrice$People" "deadFrom" "[I") ∈ GW := gw_tab 73 (by decide +kernel) rfl
theorem tw_74 : (Jvm.Cond.soleField "BloodPrice$People" "deadFrom") ∈ GW := gw_tab 74 (by decide +kernel) rfl
theorem tw_75 : (Jvm.Cond.laysFinal "BloodPrice$People" "BloodPrice$People" "steps" "[I") ∈ GW := gw_tab 75 (by decide +kernel) rfl
theorem tw_76 : (Jvm.Cond.soleField "BloodPrice$People" "steps") ∈ GW := gw_tab 76 (by decide +kernel) rfl
theorem tw_77 : (Jvm.Cond.laysFinal "BloodPrice$People" "BloodPrice$People" "sharing" "[Z") ∈ GW := gw_tab 77 (by decide +kernel) rfl
theorem tw_78 : (Jvm.Cond.soleField "BloodPrice$People" "sharing") ∈ GW := gw_tab 78 (by decide +kernel) rfl
theorem tw_79 : (Jvm.Cond.lays "BloodPrice$People" "BloodPrice$People" "sharers" "I") ∈ GW := gw_tab 79 (by decide +kernel) rfl
theorem tw_80 : (Jvm.Cond.soleField "BloodPrice$People" "sharers") ∈ GW := gw_tab 80 (by decide +kernel) rfl
theorem tw_81 : (Jvm.Cond.lays "BloodPrice$People" "BloodPrice$People" "count" "I") ∈ GW := gw_tab 81 (by decide +kernel) rfl
theorem tw_82 : (Jvm.Cond.soleField "BloodPrice$People" "count") ∈ GW := gw_tab 82 (by decide +kernel) rfl
theorem tw_83 : (Jvm.Cond.superclass "BloodPrice$People" "java/lang/Object") ∈ GW := gw_tab 83 (by decide +kernel) rfl
theorem tw_84 : (Jvm.Cond.arrayClass Jvm.ClassFile.FieldType.boolean) ∈ GW := gw_tab 84 (by decide +kernel) rfl
theorem tw_85 : (Jvm.Cond.classLink "BloodPrice" (41 : Nat) "BloodPrice$Tolds") ∈ GW := gw_tab 85 (by decide +kernel) rfl
theorem tw_86 : (Jvm.Cond.instantiable "BloodPrice$Tolds" (5 : Nat)) ∈ GW := gw_tab 86 (by decide +kernel) rfl
theorem tw_88 : (Jvm.Cond.instanceMethod ({ cls := "BloodPrice$Tolds", name := "<init>", desc := "()V" } : Jvm.MethodName)) ∈ GW := gw_tab 88 (by decide +kernel) rfl
theorem tw_89 : (Jvm.Cond.code ({ cls := "BloodPrice$Tolds", name := "<init>", desc := "()V" } : Jvm.MethodName) prog_8_method_1_code (1 : Nat) (Option.none : Option Jvm.ClassFile.FieldType)) ∈ GW := gw_tab 89 (by decide +kernel) rfl
theorem tw_90 : (Jvm.Cond.methodLink "BloodPrice$Tolds" (3 : Nat) ({ cls := "java/lang/Object", name := "<init>", desc := "()V" } : Jvm.MethodName)) ∈ GW := gw_tab 90 (by decide +kernel) rfl
theorem tw_91 : (Jvm.Cond.fieldLink "BloodPrice$Tolds" (9 : Nat) "BloodPrice$Tolds" "person" "[I") ∈ GW := gw_tab 91 (by decide +kernel) rfl
theorem tw_92 : (Jvm.Cond.fieldLink "BloodPrice$Tolds" (15 : Nat) "BloodPrice$Tolds" "level" "[I") ∈ GW := gw_tab 92 (by decide +kernel) rfl
theorem tw_93 : (Jvm.Cond.fieldLink "BloodPrice$Tolds" (18 : Nat) "BloodPrice$Tolds" "from" "[I") ∈ GW := gw_tab 93 (by decide +kernel) rfl
theorem tw_94 : (Jvm.Cond.fieldLink "BloodPrice$Tolds" (21 : Nat) "BloodPrice$Tolds" "toldOn" "[I") ∈ GW := gw_tab 94 (by decide +kernel) rfl
theorem tw_95 : (Jvm.Cond.fieldLink "BloodPrice$Tolds" (24 : Nat) "BloodPrice$Tolds" "count" "I") ∈ GW := gw_tab 95 (by decide +kernel) rfl
theorem tw_96 : (Jvm.Cond.fieldLink "BloodPrice" (221 : Nat) "BloodPrice$Tolds" "count" "I") ∈ GW := gw_tab 96 (by decide +kernel) rfl
theorem tw_97 : (Jvm.Cond.laysFinal "BloodPrice$Tolds" "BloodPrice$Tolds" "person" "[I") ∈ GW := gw_tab 97 (by decide +kernel) rfl
theorem tw_98 : (Jvm.Cond.soleField "BloodPrice$Tolds" "person") ∈ GW := gw_tab 98 (by decide +kernel) rfl
theorem tw_99 : (Jvm.Cond.laysFinal "BloodPrice$Tolds" "BloodPrice$Tolds" "level" "[I") ∈ GW := gw_tab 99 (by decide +kernel) rfl
theorem tw_100 : (Jvm.Cond.soleField "BloodPrice$Tolds" "level") ∈ GW := gw_tab 100 (by decide +kernel) rfl
theorem tw_101 : (Jvm.Cond.laysFinal "BloodPrice$Tolds" "BloodPrice$Tolds" "from" "[I") ∈ GW := gw_tab 101 (by decide +kernel) rfl
theorem tw_102 : (Jvm.Cond.soleField "BloodPrice$Tolds" "from") ∈ GW := gw_tab 102 (by decide +kernel) rfl
theorem tw_103 : (Jvm.Cond.laysFinal "BloodPrice$Tolds" "BloodPrice$Tolds" "toldOn" "[I") ∈ GW := gw_tab 103 (by decide +kernel) rfl
theorem tw_104 : (Jvm.Cond.soleField "BloodPrice$Tolds" "toldOn") ∈ GW := gw_tab 104 (by decide +kernel) rfl
theorem tw_105 : (Jvm.Cond.lays "BloodPrice$Tolds" "BloodPrice$Tolds" "count" "I") ∈ GW := gw_tab 105 (by decide +kernel) rfl
theorem tw_106 : (Jvm.Cond.soleField "BloodPrice$Tolds" "count") ∈ GW := gw_tab 106 (by decide +kernel) rfl
theorem tw_107 : (Jvm.Cond.superclass "BloodPrice$Tolds" "java/lang/Object") ∈ GW := gw_tab 107 (by decide +kernel) rfl
theorem tw_108 : (Jvm.Cond.classLink "BloodPrice" (48 : Nat) "BloodPrice$Truces") ∈ GW := gw_tab 108 (by decide +kernel) rfl
theorem tw_109 : (Jvm.Cond.instantiable "BloodPrice$Truces" (5 : Nat)) ∈ GW := gw_tab 109 (by decide +kernel) rfl
theorem tw_111 : (Jvm.Cond.instanceMethod ({ cls := "BloodPrice$Truces", name := "<init>", desc := "()V" } : Jvm.MethodName)) ∈ GW := gw_tab 111 (by decide +kernel) rfl
theorem tw_112 : (Jvm.Cond.code ({ cls := "BloodPrice$Truces", name := "<init>", desc := "()V" } : Jvm.MethodName) prog_9_method_1_code (1 : Nat) (Option.none : Option Jvm.ClassFile.FieldType)) ∈ GW := gw_tab 112 (by decide +kernel) rfl
theorem tw_113 : (Jvm.Cond.methodLink "BloodPrice$Truces" (3 : Nat) ({ cls := "java/lang/Object", name := "<init>", desc := "()V" } : Jvm.MethodName)) ∈ GW := gw_tab 113 (by decide +kernel) rfl
theorem tw_114 : (Jvm.Cond.fieldLink "BloodPrice$Truces" (9 : Nat) "BloodPrice$Truces" "one" "[I") ∈ GW := gw_tab 114 (by decide +kernel) rfl
theorem tw_115 : (Jvm.Cond.fieldLink "BloodPrice$Truces" (15 : Nat) "BloodPrice$Truces" "another" "[I") ∈ GW := gw_tab 115 (by decide +kernel) rfl
theorem tw_116 : (Jvm.Cond.fieldLink "BloodPrice$Truces" (18 : Nat) "BloodPrice$Truces" "from" "[I") ∈ GW := gw_tab 116 (by decide +kernel) rfl
theorem tw_117 : (Jvm.Cond.fieldLink "BloodPrice$Truces" (21 : Nat) "BloodPrice$Truces" "upTo" "[I") ∈ GW := gw_tab 117 (by decide +kernel) rfl
theorem tw_118 : (Jvm.Cond.fieldLink "BloodPrice$Truces" (24 : Nat) "BloodPrice$Truces" "count" "I") ∈ GW := gw_tab 118 (by decide +kernel) rfl
theorem tw_119 : (Jvm.Cond.fieldLink "BloodPrice" (222 : Nat) "BloodPrice$Truces" "count" "I") ∈ GW := gw_tab 119 (by decide +kernel) rfl
theorem tw_120 : (Jvm.Cond.laysFinal "BloodPrice$Truces" "BloodPrice$Truces" "one" "[I") ∈ GW := gw_tab 120 (by decide +kernel) rfl
theorem tw_121 : (Jvm.Cond.soleField "BloodPrice$Truces" "one") ∈ GW := gw_tab 121 (by decide +kernel) rfl
theorem tw_122 : (Jvm.Cond.laysFinal "BloodPrice$Truces" "BloodPrice$Truces" "another" "[I") ∈ GW := gw_tab 122 (by decide +kernel) rfl
theorem tw_123 : (Jvm.Cond.soleField "BloodPrice$Truces" "another") ∈ GW := gw_tab 123 (by decide +kernel) rfl
theorem tw_124 : (Jvm.Cond.laysFinal "BloodPrice$Truces" "BloodPrice$Truces" "from" "[I") ∈ GW := gw_tab 124 (by decide +kernel) rfl
theorem tw_125 : (Jvm.Cond.soleField "BloodPrice$Truces" "from") ∈ GW := gw_tab 125 (by decide +kernel) rfl
theorem tw_126 : (Jvm.Cond.laysFinal "BloodPrice$Truces" "BloodPrice$Truces" "upTo" "[I") ∈ GW := gw_tab 126 (by decide +kernel) rfl
theorem tw_127 : (Jvm.Cond.soleField "BloodPrice$Truces" "upTo") ∈ GW := gw_tab 127 (by decide +kernel) rfl
theorem tw_128 : (Jvm.Cond.lays "BloodPrice$Truces" "BloodPrice$Truces" "count" "I") ∈ GW := gw_tab 128 (by decide +kernel) rfl
theorem tw_129 : (Jvm.Cond.soleField "BloodPrice$Truces" "count") ∈ GW := gw_tab 129 (by decide +kernel) rfl
theorem tw_130 : (Jvm.Cond.superclass "BloodPrice$Truces" "java/lang/Object") ∈ GW := gw_tab 130 (by decide +kernel) rfl
theorem tw_131 : (Jvm.Cond.classLink "BloodPrice" (55 : Nat) "BloodPrice$Case") ∈ GW := gw_tab 131 (by decide +kernel) rfl
theorem tw_133 : (Jvm.Cond.classLink "BloodPrice" (61 : Nat) "BloodPrice$Payments") ∈ GW := gw_tab 133 (by decide +kernel) rfl
theorem tw_134 : (Jvm.Cond.instantiable "BloodPrice$Payments" (4 : Nat)) ∈ GW := gw_tab 134 (by decide +kernel) rfl
theorem tw_136 : (Jvm.Cond.instanceMethod ({ cls := "BloodPrice$Payments", name := "<init>", desc := "()V" } : Jvm.MethodName)) ∈ GW := gw_tab 136 (by decide +kernel) rfl
theorem tw_137 : (Jvm.Cond.code ({ cls := "BloodPrice$Payments", name := "<init>", desc := "()V" } : Jvm.MethodName) prog_4_method_1_code (1 : Nat) (Option.none : Option Jvm.ClassFile.FieldType)) ∈ GW := gw_tab 137 (by decide +kernel) rfl
theorem tw_138 : (Jvm.Cond.methodLink "BloodPrice$Payments" (3 : Nat) ({ cls := "java/lang/Object", name := "<init>", desc := "()V" } : Jvm.MethodName)) ∈ GW := gw_tab 138 (by decide +kernel) rfl
theorem tw_139 : (Jvm.Cond.fieldLink "BloodPrice$Payments" (9 : Nat) "BloodPrice$Payments" "which" "[I") ∈ GW := gw_tab 139 (by decide +kernel) rfl
theorem tw_140 : (Jvm.Cond.fieldLink "BloodPrice$Payments" (15 : Nat) "BloodPrice$Payments" "day" "[I") ∈ GW := gw_tab 140 (by decide +kernel) rfl
theorem tw_141 : (Jvm.Cond.fieldLink "BloodPrice$Payments" (18 : Nat) "BloodPrice$Payments" "worth" "[I") ∈ GW := gw_tab 141 (by decide +kernel) rfl
theorem tw_142 : (Jvm.Cond.fieldLink "BloodPrice$Payments" (21 : Nat) "BloodPrice$Payments" "count" "I") ∈ GW := gw_tab 142 (by decide +kernel) rfl
theorem tw_143 : (Jvm.Cond.fieldLink "BloodPrice" (223 : Nat) "BloodPrice$Payments" "count" "I") ∈ GW := gw_tab 143 (by decide +kernel) rfl
theorem tw_144 : (Jvm.Cond.laysFinal "BloodPrice$Payments" "BloodPrice$Payments" "which" "[I") ∈ GW := gw_tab 144 (by decide +kernel) rfl
theorem tw_145 : (Jvm.Cond.soleField "BloodPrice$Payments" "which") ∈ GW := gw_tab 145 (by decide +kernel) rfl
theorem tw_146 : (Jvm.Cond.laysFinal "BloodPrice$Payments" "BloodPrice$Payments" "day" "[I") ∈ GW := gw_tab 146 (by decide +kernel) rfl
theorem tw_147 : (Jvm.Cond.soleField "BloodPrice$Payments" "day") ∈ GW := gw_tab 147 (by decide +kernel) rfl
theorem tw_148 : (Jvm.Cond.laysFinal "BloodPrice$Payments" "BloodPrice$Payments" "worth" "[I") ∈ GW := gw_tab 148 (by decide +kernel) rfl
theorem tw_149 : (Jvm.Cond.soleField "BloodPrice$Payments" "worth") ∈ GW := gw_tab 149 (by decide +kernel) rfl
theorem tw_150 : (Jvm.Cond.lays "BloodPrice$Payments" "BloodPrice$Payments" "count" "I") ∈ GW := gw_tab 150 (by decide +kernel) rfl
theorem tw_151 : (Jvm.Cond.soleField "BloodPrice$Payments" "count") ∈ GW := gw_tab 151 (by decide +kernel) rfl
theorem tw_152 : (Jvm.Cond.superclass "BloodPrice$Payments" "java/lang/Object") ∈ GW := gw_tab 152 (by decide +kernel) rfl
theorem tw_153 : (Jvm.Cond.fieldLink "BloodPrice" (9 : Nat) "BloodPrice" "tape" "[B") ∈ GW := gw_tab 153 (by decide +kernel) rfl
theorem tw_154 : (Jvm.Cond.fieldLink "BloodPrice" (74 : Nat) "BloodPrice" "taped" "I") ∈ GW := gw_tab 154 (by decide +kernel) rfl
theorem tw_155 : (Jvm.Cond.fieldLink "BloodPrice" (16 : Nat) "BloodPrice" "tokens" "LBloodPrice$Tokens;") ∈ GW := gw_tab 155 (by decide +kernel) rfl
theorem tw_156 : (Jvm.Cond.fieldLink "BloodPrice" (22 : Nat) "BloodPrice" "laws" "[LBloodPrice$Law;") ∈ GW := gw_tab 156 (by decide +kernel) rfl
theorem tw_157 : (Jvm.Cond.fieldLink "BloodPrice" (26 : Nat) "BloodPrice" "lawsOf" "[I") ∈ GW := gw_tab 157 (by decide +kernel) rfl
theorem tw_158 : (Jvm.Cond.fieldLink "BloodPrice" (110 : Nat) "BloodPrice" "latestFault" "I") ∈ GW := gw_tab 158 (by decide +kernel) rfl
theorem tw_159 : (Jvm.Cond.fieldLink "BloodPrice" (30 : Nat) "BloodPrice" "latestPlace" "I") ∈ GW := gw_tab 159 (by decide +kernel) rfl
theorem tw_160 : (Jvm.Cond.fieldLink "BloodPrice" (133 : Nat) "BloodPrice" "today" "I") ∈ GW := gw_tab 160 (by decide +kernel) rfl
theorem tw_161 : (Jvm.Cond.fieldLink "BloodPrice" (37 : Nat) "BloodPrice" "people" "LBloodPrice$People;") ∈ GW := gw_tab 161 (by decide +kernel) rfl
theorem tw_162 : (Jvm.Cond.fieldLink "BloodPrice" (44 : Nat) "BloodPrice" "tolds" "LBloodPrice$Tolds;") ∈ GW := gw_tab 162 (by decide +kernel) rfl
theorem tw_163 : (Jvm.Cond.fieldLink "BloodPrice" (51 : Nat) "BloodPrice" "truces" "LBloodPrice$Truces;") ∈ GW := gw_tab 163 (by decide +kernel) rfl
theorem tw_164 : (Jvm.Cond.fieldLink "BloodPrice" (57 : Nat) "BloodPrice" "cases" "[LBloodPrice$Case;") ∈ GW := gw_tab 164 (by decide +kernel) rfl
theorem tw_165 : (Jvm.Cond.fieldLink "BloodPrice" (152 : Nat) "BloodPrice" "caseCount" "I") ∈ GW := gw_tab 165 (by decide +kernel) rfl
theorem tw_166 : (Jvm.Cond.fieldLink "BloodPrice" (64 : Nat) "BloodPrice" "payments" "LBloodPrice$Payments;") ∈ GW := gw_tab 166 (by decide +kernel) rfl
theorem tw_167 : (Jvm.Cond.fieldLink "BloodPrice" (68 : Nat) "BloodPrice" "rates" "[I") ∈ GW := gw_tab 167 (by decide +kernel) rfl
theorem tw_168 : (Jvm.Cond.fieldLink "BloodPrice" (211 : Nat) "BloodPrice" "ratesTold" "I") ∈ GW := gw_tab 168 (by decide +kernel) rfl
theorem tw_169 : (Jvm.Cond.fieldLink "BloodPrice" (71 : Nat) "BloodPrice" "facts" "[I") ∈ GW := gw_tab 169 (by decide +kernel) rfl
theorem tw_170 : (Jvm.Cond.laysFinal "BloodPrice" "BloodPrice" "tape" "[B") ∈ GW := gw_tab 170 (by decide +kernel) rfl
theorem tw_171 : (Jvm.Cond.soleField "BloodPrice" "tape") ∈ GW := gw_tab 171 (by decide +kernel) rfl
theorem tw_172 : (Jvm.Cond.lays "BloodPrice" "BloodPrice" "taped" "I") ∈ GW := gw_tab 172 (by decide +kernel) rfl
theorem tw_173 : (Jvm.Cond.soleField "BloodPrice" "taped") ∈ GW := gw_tab 173 (by decide +kernel) rfl
theorem tw_174 : (Jvm.Cond.laysFinal "BloodPrice" "BloodPrice" "tokens" "LBloodPrice$Tokens;") ∈ GW := gw_tab 174 (by decide +kernel) rfl
theorem tw_175 : (Jvm.Cond.soleField "BloodPrice" "tokens") ∈ GW := gw_tab 175 (by decide +kernel) rfl
theorem tw_176 : (Jvm.Cond.laysFinal "BloodPrice" "BloodPrice" "laws" "[LBloodPrice$Law;") ∈ GW := gw_tab 176 (by decide +kernel) rfl
theorem tw_177 : (Jvm.Cond.soleField "BloodPrice" "laws") ∈ GW := gw_tab 177 (by decide +kernel) rfl
theorem tw_178 : (Jvm.Cond.laysFinal "BloodPrice" "BloodPrice" "lawsOf" "[I") ∈ GW := gw_tab 178 (by decide +kernel) rfl
theorem tw_179 : (Jvm.Cond.soleField "BloodPrice" "lawsOf") ∈ GW := gw_tab 179 (by decide +kernel) rfl
theorem tw_180 : (Jvm.Cond.lays "BloodPrice" "BloodPrice" "latestFault" "I") ∈ GW := gw_tab 180 (by decide +kernel) rfl
theorem tw_181 : (Jvm.Cond.soleField "BloodPrice" "latestFault") ∈ GW := gw_tab 181 (by decide +kernel) rfl
theorem tw_182 : (Jvm.Cond.lays "BloodPrice" "BloodPrice" "latestPlace" "I") ∈ GW := gw_tab 182 (by decide +kernel) rfl
theorem tw_183 : (Jvm.Cond.soleField "BloodPrice" "latestPlace") ∈ GW := gw_tab 183 (by decide +kernel) rfl
theorem tw_184 : (Jvm.Cond.lays "BloodPrice" "BloodPrice" "today" "I") ∈ GW := gw_tab 184 (by decide +kernel) rfl
theorem tw_185 : (Jvm.Cond.soleField "BloodPrice" "today") ∈ GW := gw_tab 185 (by decide +kernel) rfl
theorem tw_186 : (Jvm.Cond.laysFinal "BloodPrice" "BloodPrice" "people" "LBloodPrice$People;") ∈ GW := gw_tab 186 (by decide +kernel) rfl
theorem tw_187 : (Jvm.Cond.soleField "BloodPrice" "people") ∈ GW := gw_tab 187 (by decide +kernel) rfl
theorem tw_188 : (Jvm.Cond.laysFinal "BloodPrice" "BloodPrice" "tolds" "LBloodPrice$Tolds;") ∈ GW := gw_tab 188 (by decide +kernel) rfl
theorem tw_189 : (Jvm.Cond.soleField "BloodPrice" "tolds") ∈ GW := gw_tab 189 (by decide +kernel) rfl
theorem tw_190 : (Jvm.Cond.laysFinal "BloodPrice" "BloodPrice" "truces" "LBloodPrice$Truces;") ∈ GW := gw_tab 190 (by decide +kernel) rfl
theorem tw_191 : (Jvm.Cond.soleField "BloodPrice" "truces") ∈ GW := gw_tab 191 (by decide +kernel) rfl
theorem tw_192 : (Jvm.Cond.laysFinal "BloodPrice" "BloodPrice" "cases" "[LBloodPrice$Case;") ∈ GW := gw_tab 192 (by decide +kernel) rfl
theorem tw_193 : (Jvm.Cond.soleField "BloodPrice" "cases") ∈ GW := gw_tab 193 (by decide +kernel) rfl
theorem tw_194 : (Jvm.Cond.lays "BloodPrice" "BloodPrice" "caseCount" "I") ∈ GW := gw_tab 194 (by decide +kernel) rfl
theorem tw_195 : (Jvm.Cond.soleField "BloodPrice" "caseCount") ∈ GW := gw_tab 195 (by decide +kernel) rfl
theorem tw_196 : (Jvm.Cond.laysFinal "BloodPrice" "BloodPrice" "payments" "LBloodPrice$Payments;") ∈ GW := gw_tab 196 (by decide +kernel) rfl
theorem tw_197 : (Jvm.Cond.soleField "BloodPrice" "payments") ∈ GW := gw_tab 197 (by decide +kernel) rfl
theorem tw_198 : (Jvm.Cond.laysFinal "BloodPrice" "BloodPrice" "rates" "[I") ∈ GW := gw_tab 198 (by decide +kernel) rfl
theorem tw_199 : (Jvm.Cond.soleField "BloodPrice" "rates") ∈ GW := gw_tab 199 (by decide +kernel) rfl
theorem tw_200 : (Jvm.Cond.lays "BloodPrice" "BloodPrice" "ratesTold" "I") ∈ GW := gw_tab 200 (by decide +kernel) rfl
theorem tw_201 : (Jvm.Cond.soleField "BloodPrice" "ratesTold") ∈ GW := gw_tab 201 (by decide +kernel) rfl
theorem tw_202 : (Jvm.Cond.laysFinal "BloodPrice" "BloodPrice" "facts" "[I") ∈ GW := gw_tab 202 (by decide +kernel) rfl
theorem tw_203 : (Jvm.Cond.soleField "BloodPrice" "facts") ∈ GW := gw_tab 203 (by decide +kernel) rfl
theorem tw_204 : (Jvm.Cond.superclass "BloodPrice" "java/lang/Object") ∈ GW := gw_tab 204 (by decide +kernel) rfl
theorem tw_205 : (Jvm.Cond.methodLink "BloodPriceLaw" (13 : Nat) ({ cls := "BloodPrice", name := "feed", desc := "(IIIII)I" } : Jvm.MethodName)) ∈ GW := gw_tab 205 (by decide +kernel) rfl
theorem tw_206 : (Jvm.Cond.instanceMethod ({ cls := "BloodPrice", name := "feed", desc := "(IIIII)I" } : Jvm.MethodName)) ∈ GW := gw_tab 206 (by decide +kernel) rfl
theorem tw_207 : (Jvm.Cond.selects "BloodPrice" ({ cls := "BloodPrice", name := "feed", desc := "(IIIII)I" } : Jvm.MethodName) ({ cls := "BloodPrice", name := "feed", desc := "(IIIII)I" } : Jvm.MethodName)) ∈ GW := gw_tab 207 (by decide +kernel) rfl
theorem tw_208 : (Jvm.Cond.code ({ cls := "BloodPrice", name := "feed", desc := "(IIIII)I" } : Jvm.MethodName) prog_1_method_2_code (6 : Nat) (Option.some Jvm.ClassFile.FieldType.int)) ∈ GW := gw_tab 208 (by decide +kernel) rfl
theorem tw_209 : (Jvm.Cond.methodLink "BloodPrice" (77 : Nat) ({ cls := "BloodPrice", name := "writeNumber", desc := "(I)V" } : Jvm.MethodName)) ∈ GW := gw_tab 209 (by decide +kernel) rfl
theorem tw_211 : (Jvm.Cond.instanceMethod ({ cls := "BloodPrice", name := "writeNumber", desc := "(I)V" } : Jvm.MethodName)) ∈ GW := gw_tab 211 (by decide +kernel) rfl
theorem tw_212 : (Jvm.Cond.code ({ cls := "BloodPrice", name := "writeNumber", desc := "(I)V" } : Jvm.MethodName) prog_1_method_3_code (3 : Nat) (Option.none : Option Jvm.ClassFile.FieldType)) ∈ GW := gw_tab 212 (by decide +kernel) rfl
theorem tw_213 : (Jvm.Cond.methodLink "BloodPriceLaw" (18 : Nat) ({ cls := "BloodPrice", name := "end", desc := "(I)I" } : Jvm.MethodName)) ∈ GW := gw_tab 213 (by decide +kernel) rfl
theorem tw_214 : (Jvm.Cond.instanceMethod ({ cls := "BloodPrice", name := "end", desc := "(I)I" } : Jvm.MethodName)) ∈ GW := gw_tab 214 (by decide +kernel) rfl
theorem tw_215 : (Jvm.Cond.selects "BloodPrice" ({ cls := "BloodPrice", name := "end", desc := "(I)I" } : Jvm.MethodName) ({ cls := "BloodPrice", name := "end", desc := "(I)I" } : Jvm.MethodName)) ∈ GW := gw_tab 215 (by decide +kernel) rfl
theorem tw_216 : (Jvm.Cond.code ({ cls := "BloodPrice", name := "end", desc := "(I)I" } : Jvm.MethodName) prog_1_method_4_code (2 : Nat) (Option.some Jvm.ClassFile.FieldType.int)) ∈ GW := gw_tab 216 (by decide +kernel) rfl
theorem tw_217 : (Jvm.Cond.methodLink "BloodPriceLaw" (23 : Nat) ({ cls := "BloodPrice", name := "law", desc := "(II)I" } : Jvm.MethodName)) ∈ GW := gw_tab 217 (by decide +kernel) rfl
theorem tw_218 : (Jvm.Cond.instanceMethod ({ cls := "BloodPrice", name := "law", desc := "(II)I" } : Jvm.MethodName)) ∈ GW := gw_tab 218 (by decide +kernel) rfl
theorem tw_219 : (Jvm.Cond.selects "BloodPrice" ({ cls := "BloodPrice", name := "law", desc := "(II)I" } : Jvm.MethodName) ({ cls := "BloodPrice", name := "law", desc := "(II)I" } : Jvm.MethodName)) ∈ GW := gw_tab 219 (by decide +kernel) rfl
theorem tw_220 : (Jvm.Cond.code ({ cls := "BloodPrice", name := "law", desc := "(II)I" } : Jvm.MethodName) prog_1_method_5_code (6 : Nat) (Option.some Jvm.ClassFile.FieldType.int)) ∈ GW := gw_tab 220 (by decide +kernel) rfl
theorem tw_221 : (Jvm.Cond.methodLink "BloodPrice" (81 : Nat) ({ cls := "BloodPrice", name := "isFolk", desc := "(I)Z" } : Jvm.MethodName)) ∈ GW := gw_tab 221 (by decide +kernel) rfl
theorem tw_222 : (Jvm.Cond.static ({ cls := "BloodPrice", name := "isFolk", desc := "(I)Z" } : Jvm.MethodName)) ∈ GW := gw_tab 222 (by decide +kernel) rfl
theorem tw_223 : (Jvm.Cond.code ({ cls := "BloodPrice", name := "isFolk", desc := "(I)Z" } : Jvm.MethodName) prog_1_method_26_code (1 : Nat) (Option.some Jvm.ClassFile.FieldType.boolean)) ∈ GW := gw_tab 223 (by decide +kernel) rfl
theorem tw_224 : (Jvm.Cond.methodLink "BloodPrice" (85 : Nat) ({ cls := "BloodPrice", name := "isDay", desc := "(I)Z" } : Jvm.MethodName)) ∈ GW := gw_tab 224 (by decide +kernel) rfl
theorem tw_225 : (Jvm.Cond.static ({ cls := "BloodPrice", name := "isDay", desc := "(I)Z" } : Jvm.MethodName)) ∈ GW := gw_tab 225 (by decide +kernel) rfl
theorem tw_226 : (Jvm.Cond.code ({ cls := "BloodPrice", name := "isDay", desc := "(I)Z" } : Jvm.MethodName) prog_1_method_27_code (1 : Nat) (Option.some Jvm.ClassFile.FieldType.boolean)) ∈ GW := gw_tab 226 (by decide +kernel) rfl
theorem tw_227 : (Jvm.Cond.constant "BloodPrice" (147 : Nat) (100000 : Int32)) ∈ GW := gw_tab 227 (by decide +kernel) rfl
theorem tw_228 : (Jvm.Cond.methodLink "BloodPrice" (88 : Nat) ({ cls := "BloodPrice$Tokens", name := "split", desc := "([BI)V" } : Jvm.MethodName)) ∈ GW := gw_tab 228 (by decide +kernel) rfl
theorem tw_229 : (Jvm.Cond.instanceMethod ({ cls := "BloodPrice$Tokens", name := "split", desc := "([BI)V" } : Jvm.MethodName)) ∈ GW := gw_tab 229 (by decide +kernel) rfl
theorem tw_230 : (Jvm.Cond.selects "BloodPrice$Tokens" ({ cls := "BloodPrice$Tokens", name := "split", desc := "([BI)V" } : Jvm.MethodName) ({ cls := "BloodPrice$Tokens", name := "split", desc := "([BI)V" } : Jvm.MethodName)) ∈ GW := gw_tab 230 (by decide +kernel) rfl
theorem tw_231 : (Jvm.Cond.code ({ cls := "BloodPrice$Tokens", name := "split", desc := "([BI)V" } : Jvm.MethodName) prog_7_method_2_code (7 : Nat) (Option.none : Option Jvm.ClassFile.FieldType)) ∈ GW := gw_tab 231 (by decide +kernel) rfl
theorem tw_232 : (Jvm.Cond.methodLink "BloodPrice$Tokens" (23 : Nat) ({ cls := "BloodPrice$Tokens", name := "sortOf", desc := "(I)I" } : Jvm.MethodName)) ∈ GW := gw_tab 232 (by decide +kernel) rfl
theorem tw_233 : (Jvm.Cond.static ({ cls := "BloodPrice$Tokens", name := "sortOf", desc := "(I)I" } : Jvm.MethodName)) ∈ GW := gw_tab 233 (by decide +kernel) rfl
theorem tw_234 : (Jvm.Cond.code ({ cls := "BloodPrice$Tokens", name := "sortOf", desc := "(I)I" } : Jvm.MethodName) prog_7_method_3_code (1 : Nat) (Option.some Jvm.ClassFile.FieldType.int)) ∈ GW := gw_tab 234 (by decide +kernel) rfl
theorem tw_236 : (Jvm.Cond.static ({ cls := "BloodPrice", name := "isLetter", desc := "(I)Z" } : Jvm.MethodName)) ∈ GW := gw_tab 236 (by decide +kernel) rfl
theorem tw_237 : (Jvm.Cond.code ({ cls := "BloodPrice", name := "isLetter", desc := "(I)Z" } : Jvm.MethodName) prog_1_method_29_code (1 : Nat) (Option.some Jvm.ClassFile.FieldType.boolean)) ∈ GW := gw_tab 237 (by decide +kernel) rfl
theorem tw_238 : (Jvm.Cond.constantLong "BloodPrice$Tokens" (46 : Nat) (59 : Int64)) ∈ GW := gw_tab 238 (by decide +kernel) rfl
theorem tw_239 : (Jvm.Cond.constantLong "BloodPrice$Tokens" (48 : Nat) (40 : Int64)) ∈ GW := gw_tab 239 (by decide +kernel) rfl
theorem tw_240 : (Jvm.Cond.constantLong "BloodPrice$Tokens" (50 : Nat) (41 : Int64)) ∈ GW := gw_tab 240 (by decide +kernel) rfl
theorem tw_241 : (Jvm.Cond.constantLong "BloodPrice$Tokens" (52 : Nat) (60 : Int64)) ∈ GW := gw_tab 241 (by decide +kernel) rfl
theorem tw_242 : (Jvm.Cond.constantLong "BloodPrice$Tokens" (54 : Nat) (62 : Int64)) ∈ GW := gw_tab 242 (by decide +kernel) rfl
theorem tw_243 : (Jvm.Cond.constantLong "BloodPrice$Tokens" (56 : Nat) (61 : Int64)) ∈ GW := gw_tab 243 (by decide +kernel) rfl
theorem tw_244 : (Jvm.Cond.methodLink "BloodPrice$Tokens" (27 : Nat) ({ cls := "BloodPrice$Tokens", name := "spoilLast", desc := "()V" } : Jvm.MethodName)) ∈ GW := gw_tab 244 (by decide +kernel) rfl
theorem tw_246 : (Jvm.Cond.instanceMethod ({ cls := "BloodPrice$Tokens", name := "spoilLast", desc := "()V" } : Jvm.MethodName)) ∈ GW := gw_tab 246 (by decide +kernel) rfl
theorem tw_247 : (Jvm.Cond.code ({ cls := "BloodPrice$Tokens", name := "spoilLast", desc := "()V" } : Jvm.MethodName) prog_7_method_6_code (1 : Nat) (Option.none : Option Jvm.ClassFile.FieldType)) ∈ GW := gw_tab 247 (by decide +kernel) rfl
theorem tw_248 : (Jvm.Cond.methodLink "BloodPrice$Tokens" (30 : Nat) ({ cls := "BloodPrice$Tokens", name := "lengthenLast", desc := "(II)V" } : Jvm.MethodName)) ∈ GW := gw_tab 248 (by decide +kernel) rfl
theorem tw_250 : (Jvm.Cond.instanceMethod ({ cls := "BloodPrice$Tokens", name := "lengthenLast", desc := "(II)V" } : Jvm.MethodName)) ∈ GW := gw_tab 250 (by decide +kernel) rfl
theorem tw_251 : (Jvm.Cond.code ({ cls := "BloodPrice$Tokens", name := "lengthenLast", desc := "(II)V" } : Jvm.MethodName) prog_7_method_7_code (5 : Nat) (Option.none : Option Jvm.ClassFile.FieldType)) ∈ GW := gw_tab 251 (by decide +kernel) rfl
theorem tw_252 : (Jvm.Cond.constantLong "BloodPrice$Tokens" (58 : Nat) (-1 : Int64)) ∈ GW := gw_tab 252 (by decide +kernel) rfl
theorem tw_253 : (Jvm.Cond.constantLong "BloodPrice$Tokens" (63 : Nat) (10 : Int64)) ∈ GW := gw_tab 253 (by decide +kernel) rfl
theorem tw_254 : (Jvm.Cond.methodLink "BloodPrice$Tokens" (34 : Nat) ({ cls := "BloodPrice$Tokens", name := "firstOf", desc := "(II)J" } : Jvm.MethodName)) ∈ GW := gw_tab 254 (by decide +kernel) rfl
theorem tw_255 : (Jvm.Cond.static ({ cls := "BloodPrice$Tokens", name := "firstOf", desc := "(II)J" } : Jvm.MethodName)) ∈ GW := gw_tab 255 (by decide +kernel) rfl
theorem tw_256 : (Jvm.Cond.code ({ cls := "BloodPrice$Tokens", name := "firstOf", desc := "(II)J" } : Jvm.MethodName) prog_7_method_4_code (2 : Nat) (Option.some Jvm.ClassFile.FieldType.long)) ∈ GW := gw_tab 256 (by decide +kernel) rfl
theorem tw_257 : (Jvm.Cond.methodLink "BloodPrice$Tokens" (38 : Nat) ({ cls := "BloodPrice$Tokens", name := "begin", desc := "(JI)V" } : Jvm.MethodName)) ∈ GW := gw_tab 257 (by decide +kernel) rfl
theorem tw_259 : (Jvm.Cond.instanceMethod ({ cls := "BloodPrice$Tokens", name := "begin", desc := "(JI)V" } : Jvm.MethodName)) ∈ GW := gw_tab 259 (by decide +kernel) rfl
theorem tw_260 : (Jvm.Cond.code ({ cls := "BloodPrice$Tokens", name := "begin", desc := "(JI)V" } : Jvm.MethodName) prog_7_method_5_code (4 : Nat) (Option.none : Option Jvm.ClassFile.FieldType)) ∈ GW := gw_tab 260 (by decide +kernel) rfl
theorem tw_261 : (Jvm.Cond.instantiable "BloodPrice$Law" (16 : Nat)) ∈ GW := gw_tab 261 (by decide +kernel) rfl
theorem tw_262 : (Jvm.Cond.methodLink "BloodPrice" (95 : Nat) ({ cls := "BloodPrice$Law", name := "<init>", desc := "(II)V" } : Jvm.MethodName)) ∈ GW := gw_tab 262 (by decide +kernel) rfl
theorem tw_263 : (Jvm.Cond.instanceMethod ({ cls := "BloodPrice$Law", name := "<init>", desc := "(II)V" } : Jvm.MethodName)) ∈ GW := gw_tab 263 (by decide +kernel) rfl
theorem tw_264 : (Jvm.Cond.code ({ cls := "BloodPrice$Law", name := "<init>", desc := "(II)V" } : Jvm.MethodName) prog_3_method_1_code (3 : Nat) (Option.none : Option Jvm.ClassFile.FieldType)) ∈ GW := gw_tab 264 (by decide +kernel) rfl
theorem tw_265 : (Jvm.Cond.methodLink "BloodPrice$Law" (3 : Nat) ({ cls := "java/lang/Object", name := "<init>", desc := "()V" } : Jvm.MethodName)) ∈ GW := gw_tab 265 (by decide +kernel) rfl
theorem tw_266 : (Jvm.Cond.fieldLink "BloodPrice$Law" (41 : Nat) "BloodPrice$Law" "from" "I") ∈ GW := gw_tab 266 (by decide +kernel) rfl
theorem tw_267 : (Jvm.Cond.fieldLink "BloodPrice" (116 : Nat) "BloodPrice$Law" "from" "I") ∈ GW := gw_tab 267 (by decide +kernel) rfl
theorem tw_268 : (Jvm.Cond.fieldLink "BloodPrice$Law" (9 : Nat) "BloodPrice$Law" "names" "[J") ∈ GW := gw_tab 268 (by decide +kernel) rfl
theorem tw_269 : (Jvm.Cond.fieldLink "BloodPrice$Reader" (75 : Nat) "BloodPrice$Law" "names" "[J") ∈ GW := gw_tab 269 (by decide +kernel) rfl
theorem tw_270 : (Jvm.Cond.fieldLink "BloodPrice" (248 : Nat) "BloodPrice$Law" "names" "[J") ∈ GW := gw_tab 270 (by decide +kernel) rfl
theorem tw_271 : (Jvm.Cond.fieldLink "BloodPrice$Law" (15 : Nat) "BloodPrice$Law" "share" "[I") ∈ GW := gw_tab 271 (by decide +kernel) rfl
theorem tw_272 : (Jvm.Cond.fieldLink "BloodPrice$Reader" (116 : Nat) "BloodPrice$Law" "share" "[I") ∈ GW := gw_tab 272 (by decide +kernel) rfl
theorem tw_273 : (Jvm.Cond.fieldLink "BloodPrice$Law" (47 : Nat) "BloodPrice$Law" "hurts" "I") ∈ GW := gw_tab 273 (by decide +kernel) rfl
theorem tw_274 : (Jvm.Cond.fieldLink "BloodPrice$Reader" (63 : Nat) "BloodPrice$Law" "hurts" "I") ∈ GW := gw_tab 274 (by decide +kernel) rfl
theorem tw_275 : (Jvm.Cond.fieldLink "BloodPrice$Law" (53 : Nat) "BloodPrice$Law" "whens" "I") ∈ GW := gw_tab 275 (by decide +kernel) rfl
theorem tw_276 : (Jvm.Cond.fieldLink "BloodPrice$Reader" (96 : Nat) "BloodPrice$Law" "whens" "I") ∈ GW := gw_tab 276 (by decide +kernel) rfl
theorem tw_277 : (Jvm.Cond.fieldLink "BloodPrice$Reader" (123 : Nat) "BloodPrice$Law" "helpers" "I") ∈ GW := gw_tab 277 (by decide +kernel) rfl
theorem tw_278 : (Jvm.Cond.fieldLink "BloodPrice" (275 : Nat) "BloodPrice$Law" "helpers" "I") ∈ GW := gw_tab 278 (by decide +kernel) rfl
theorem tw_279 : (Jvm.Cond.fieldLink "BloodPrice$Reader" (128 : Nat) "BloodPrice$Law" "helperRank" "I") ∈ GW := gw_tab 279 (by decide +kernel) rfl
theorem tw_280 : (Jvm.Cond.fieldLink "BloodPrice" (290 : Nat) "BloodPrice$Law" "helperRank" "I") ∈ GW := gw_tab 280 (by decide +kernel) rfl
theorem tw_281 : (Jvm.Cond.fieldLink "BloodPrice$Law" (19 : Nat) "BloodPrice$Law" "terms" "I") ∈ GW := gw_tab 281 (by decide +kernel) rfl
theorem tw_282 : (Jvm.Cond.fieldLink "BloodPrice$Reader" (134 : Nat) "BloodPrice$Law" "terms" "I") ∈ GW := gw_tab 282 (by decide +kernel) rfl
theorem tw_283 : (Jvm.Cond.fieldLink "BloodPrice" (200 : Nat) "BloodPrice$Law" "terms" "I") ∈ GW := gw_tab 283 (by decide +kernel) rfl
theorem tw_284 : (Jvm.Cond.fieldLink "BloodPrice$Law" (23 : Nat) "BloodPrice$Law" "termDays" "I") ∈ GW := gw_tab 284 (by decide +kernel) rfl
theorem tw_285 : (Jvm.Cond.fieldLink "BloodPrice$Reader" (139 : Nat) "BloodPrice$Law" "termDays" "I") ∈ GW := gw_tab 285 (by decide +kernel) rfl
theorem tw_286 : (Jvm.Cond.fieldLink "BloodPrice" (204 : Nat) "BloodPrice$Law" "termDays" "I") ∈ GW := gw_tab 286 (by decide +kernel) rfl
theorem tw_287 : (Jvm.Cond.fieldLink "BloodPrice$Law" (26 : Nat) "BloodPrice$Law" "prices" "[I") ∈ GW := gw_tab 287 (by decide +kernel) rfl
theorem tw_288 : (Jvm.Cond.fieldLink "BloodPrice$Law" (29 : Nat) "BloodPrice$Law" "deeds" "[I") ∈ GW := gw_tab 288 (by decide +kernel) rfl
theorem tw_289 : (Jvm.Cond.fieldLink "BloodPrice$Law" (32 : Nat) "BloodPrice$Law" "amounts" "[I") ∈ GW := gw_tab 289 (by decide +kernel) rfl
theorem tw_290 : (Jvm.Cond.fieldLink "BloodPrice$Law" (35 : Nat) "BloodPrice$Law" "stepsUpTo" "[I") ∈ GW := gw_tab 290 (by decide +kernel) rfl
theorem tw_291 : (Jvm.Cond.fieldLink "BloodPrice$Law" (44 : Nat) "BloodPrice$Law" "steps" "[I") ∈ GW := gw_tab 291 (by decide +kernel) rfl
theorem tw_292 : (Jvm.Cond.fieldLink "BloodPrice$Law" (50 : Nat) "BloodPrice$Law" "stepCount" "I") ∈ GW := gw_tab 292 (by decide +kernel) rfl
theorem tw_293 : (Jvm.Cond.fieldLink "BloodPrice$Law" (38 : Nat) "BloodPrice$Law" "stack" "[I") ∈ GW := gw_tab 293 (by decide +kernel) rfl
theorem tw_294 : (Jvm.Cond.laysFinal "BloodPrice$Law" "BloodPrice$Law" "from" "I") ∈ GW := gw_tab 294 (by decide +kernel) rfl
theorem tw_295 : (Jvm.Cond.soleField "BloodPrice$Law" "from") ∈ GW := gw_tab 295 (by decide +kernel) rfl
theorem tw_296 : (Jvm.Cond.laysFinal "BloodPrice$Law" "BloodPrice$Law" "names" "[J") ∈ GW := gw_tab 296 (by decide +kernel) rfl
theorem tw_297 : (Jvm.Cond.soleField "BloodPrice$Law" "names") ∈ GW := gw_tab 297 (by decide +kernel) rfl
theorem tw_298 : (Jvm.Cond.laysFinal "BloodPrice$Law" "BloodPrice$Law" "share" "[I") ∈ GW := gw_tab 298 (by decide +kernel) rfl
theorem tw_299 : (Jvm.Cond.soleField "BloodPrice$Law" "share") ∈ GW := gw_tab 299 (by decide +kernel) rfl
theorem tw_300 : (Jvm.Cond.lays "BloodPrice$Law" "BloodPrice$Law" "hurts" "I") ∈ GW := gw_tab 300 (by decide +kernel) rfl
theorem tw_301 : (Jvm.Cond.soleField "BloodPrice$Law" "hurts") ∈ GW := gw_tab 301 (by decide +kernel) rfl
theorem tw_302 : (Jvm.Cond.lays "BloodPrice$Law" "BloodPrice$Law" "whens" "I") ∈ GW := gw_tab 302 (by decide +kernel) rfl
theorem tw_303 : (Jvm.Cond.soleField "BloodPrice$Law" "whens") ∈ GW := gw_tab 303 (by decide +kernel) rfl
theorem tw_304 : (Jvm.Cond.lays "BloodPrice$Law" "BloodPrice$Law" "helpers" "I") ∈ GW := gw_tab 304 (by decide +kernel) rfl
theorem tw_305 : (Jvm.Cond.soleField "BloodPrice$Law" "helpers") ∈ GW := gw_tab 305 (by decide +kernel) rfl
theorem tw_306 : (Jvm.Cond.lays "BloodPrice$Law" "BloodPrice$Law" "helperRank" "I") ∈ GW := gw_tab 306 (by decide +kernel) rfl
theorem tw_307 : (Jvm.Cond.soleField "BloodPrice$Law" "helperRank") ∈ GW := gw_tab 307 (by decide +kernel) rfl
theorem tw_308 : (Jvm.Cond.lays "BloodPrice$Law" "BloodPrice$Law" "terms" "I") ∈ GW := gw_tab 308 (by decide +kernel) rfl
theorem tw_309 : (Jvm.Cond.soleField "BloodPrice$Law" "terms") ∈ GW := gw_tab 309 (by decide +kernel) rfl
theorem tw_310 : (Jvm.Cond.lays "BloodPrice$Law" "BloodPrice$Law" "termDays" "I") ∈ GW := gw_tab 310 (by decide +kernel) rfl
theorem tw_311 : (Jvm.Cond.soleField "BloodPrice$Law" "termDays") ∈ GW := gw_tab 311 (by decide +kernel) rfl
theorem tw_312 : (Jvm.Cond.laysFinal "BloodPrice$Law" "BloodPrice$Law" "prices" "[I") ∈ GW := gw_tab 312 (by decide +kernel) rfl
theorem tw_313 : (Jvm.Cond.soleField "BloodPrice$Law" "prices") ∈ GW := gw_tab 313 (by decide +kernel) rfl
theorem tw_314 : (Jvm.Cond.laysFinal "BloodPrice$Law" "BloodPrice$Law" "deeds" "[I") ∈ GW := gw_tab 314 (by decide +kernel) rfl
theorem tw_315 : (Jvm.Cond.soleField "BloodPrice$Law" "deeds") ∈ GW := gw_tab 315 (by decide +kernel) rfl
theorem tw_316 : (Jvm.Cond.laysFinal "BloodPrice$Law" "BloodPrice$Law" "amounts" "[I") ∈ GW := gw_tab 316 (by decide +kernel) rfl
theorem tw_317 : (Jvm.Cond.soleField "BloodPrice$Law" "amounts") ∈ GW := gw_tab 317 (by decide +kernel) rfl
theorem tw_318 : (Jvm.Cond.laysFinal "BloodPrice$Law" "BloodPrice$Law" "stepsUpTo" "[I") ∈ GW := gw_tab 318 (by decide +kernel) rfl
theorem tw_319 : (Jvm.Cond.soleField "BloodPrice$Law" "stepsUpTo") ∈ GW := gw_tab 319 (by decide +kernel) rfl
theorem tw_320 : (Jvm.Cond.laysFinal "BloodPrice$Law" "BloodPrice$Law" "steps" "[I") ∈ GW := gw_tab 320 (by decide +kernel) rfl
theorem tw_321 : (Jvm.Cond.soleField "BloodPrice$Law" "steps") ∈ GW := gw_tab 321 (by decide +kernel) rfl
theorem tw_322 : (Jvm.Cond.lays "BloodPrice$Law" "BloodPrice$Law" "stepCount" "I") ∈ GW := gw_tab 322 (by decide +kernel) rfl
theorem tw_323 : (Jvm.Cond.soleField "BloodPrice$Law" "stepCount") ∈ GW := gw_tab 323 (by decide +kernel) rfl
theorem tw_324 : (Jvm.Cond.laysFinal "BloodPrice$Law" "BloodPrice$Law" "stack" "[I") ∈ GW := gw_tab 324 (by decide +kernel) rfl
theorem tw_325 : (Jvm.Cond.soleField "BloodPrice$Law" "stack") ∈ GW := gw_tab 325 (by decide +kernel) rfl
theorem tw_326 : (Jvm.Cond.superclass "BloodPrice$Law" "java/lang/Object") ∈ GW := gw_tab 326 (by decide +kernel) rfl
theorem tw_327 : (Jvm.Cond.classLink "BloodPrice" (98 : Nat) "BloodPrice$Reader") ∈ GW := gw_tab 327 (by decide +kernel) rfl
theorem tw_328 : (Jvm.Cond.instantiable "BloodPrice$Reader" (10 : Nat)) ∈ GW := gw_tab 328 (by decide +kernel) rfl
theorem tw_329 : (Jvm.Cond.methodLink "BloodPrice" (100 : Nat) ({ cls := "BloodPrice$Reader", name := "<init>", desc := "(LBloodPrice$Tokens;LBloodPrice$Law;)V" } : Jvm.MethodName)) ∈ GW := gw_tab 329 (by decide +kernel) rfl
theorem tw_330 : (Jvm.Cond.instanceMethod ({ cls := "BloodPrice$Reader", name := "<init>", desc := "(LBloodPrice$Tokens;LBloodPrice$Law;)V" } : Jvm.MethodName)) ∈ GW := gw_tab 330 (by decide +kernel) rfl
theorem tw_331 : (Jvm.Cond.code ({ cls := "BloodPrice$Reader", name := "<init>", desc := "(LBloodPrice$Tokens;LBloodPrice$Law;)V" } : Jvm.MethodName) prog_6_method_1_code (3 : Nat) (Option.none : Option Jvm.ClassFile.FieldType)) ∈ GW := gw_tab 331 (by decide +kernel) rfl
theorem tw_332 : (Jvm.Cond.methodLink "BloodPrice$Reader" (3 : Nat) ({ cls := "java/lang/Object", name := "<init>", desc := "()V" } : Jvm.MethodName)) ∈ GW := gw_tab 332 (by decide +kernel) rfl
theorem tw_333 : (Jvm.Cond.fieldLink "BloodPrice$Reader" (15 : Nat) "BloodPrice$Reader" "tokens" "LBloodPrice$Tokens;") ∈ GW := gw_tab 333 (by decide +kernel) rfl
theorem tw_334 : (Jvm.Cond.fieldLink "BloodPrice$Reader" (19 : Nat) "BloodPrice$Reader" "told" "LBloodPrice$Law;") ∈ GW := gw_tab 334 (by decide +kernel) rfl
theorem tw_335 : (Jvm.Cond.fieldLink "BloodPrice$Reader" (182 : Nat) "BloodPrice$Reader" "at" "I") ∈ GW := gw_tab 335 (by decide +kernel) rfl
theorem tw_336 : (Jvm.Cond.fieldLink "BloodPrice$Reader" (29 : Nat) "BloodPrice$Reader" "current" "J") ∈ GW := gw_tab 336 (by decide +kernel) rfl
theorem tw_337 : (Jvm.Cond.fieldLink "BloodPrice$Reader" (171 : Nat) "BloodPrice$Reader" "sums" "I") ∈ GW := gw_tab 337 (by decide +kernel) rfl
theorem tw_338 : (Jvm.Cond.fieldLink "BloodPrice$Reader" (112 : Nat) "BloodPrice$Reader" "shareTold" "Z") ∈ GW := gw_tab 338 (by decide +kernel) rfl
theorem tw_339 : (Jvm.Cond.fieldLink "BloodPrice$Reader" (120 : Nat) "BloodPrice$Reader" "needTold" "Z") ∈ GW := gw_tab 339 (by decide +kernel) rfl
theorem tw_340 : (Jvm.Cond.fieldLink "BloodPrice$Reader" (131 : Nat) "BloodPrice$Reader" "termsTold" "Z") ∈ GW := gw_tab 340 (by decide +kernel) rfl
theorem tw_341 : (Jvm.Cond.fieldLink "BloodPrice" (107 : Nat) "BloodPrice$Reader" "fault" "I") ∈ GW := gw_tab 341 (by decide +kernel) rfl
theorem tw_342 : (Jvm.Cond.fieldLink "BloodPrice$Reader" (176 : Nat) "BloodPrice$Reader" "fault" "I") ∈ GW := gw_tab 342 (by decide +kernel) rfl
theorem tw_343 : (Jvm.Cond.fieldLink "BloodPrice$Reader" (9 : Nat) "BloodPrice$Reader" "faultPlace" "I") ∈ GW := gw_tab 343 (by decide +kernel) rfl
theorem tw_344 : (Jvm.Cond.fieldLink "BloodPrice" (113 : Nat) "BloodPrice$Reader" "faultPlace" "I") ∈ GW := gw_tab 344 (by decide +kernel) rfl
theorem tw_345 : (Jvm.Cond.laysFinal "BloodPrice$Reader" "BloodPrice$Reader" "tokens" "LBloodPrice$Tokens;") ∈ GW := gw_tab 345 (by decide +kernel) rfl
theorem tw_346 : (Jvm.Cond.soleField "BloodPrice$Reader" "tokens") ∈ GW := gw_tab 346 (by decide +kernel) rfl
theorem tw_347 : (Jvm.Cond.laysFinal "BloodPrice$Reader" "BloodPrice$Reader" "told" "LBloodPrice$Law;") ∈ GW := gw_tab 347 (by decide +kernel) rfl
theorem tw_348 : (Jvm.Cond.soleField "BloodPrice$Reader" "told") ∈ GW := gw_tab 348 (by decide +kernel) rfl
theorem tw_349 : (Jvm.Cond.lays "BloodPrice$Reader" "BloodPrice$Reader" "at" "I") ∈ GW := gw_tab 349 (by decide +kernel) rfl
theorem tw_350 : (Jvm.Cond.soleField "BloodPrice$Reader" "at") ∈ GW := gw_tab 350 (by decide +kernel) rfl
theorem tw_351 : (Jvm.Cond.lays "BloodPrice$Reader" "BloodPrice$Reader" "current" "J") ∈ GW := gw_tab 351 (by decide +kernel) rfl
theorem tw_352 : (Jvm.Cond.soleField "BloodPrice$Reader" "current") ∈ GW := gw_tab 352 (by decide +kernel) rfl
theorem tw_353 : (Jvm.Cond.lays "BloodPrice$Reader" "BloodPrice$Reader" "sums" "I") ∈ GW := gw_tab 353 (by decide +kernel) rfl
theorem tw_354 : (Jvm.Cond.soleField "BloodPrice$Reader" "sums") ∈ GW := gw_tab 354 (by decide +kernel) rfl
theorem tw_355 : (Jvm.Cond.lays "BloodPrice$Reader" "BloodPrice$Reader" "shareTold" "Z") ∈ GW := gw_tab 355 (by decide +kernel) rfl
theorem tw_356 : (Jvm.Cond.soleField "BloodPrice$Reader" "shareTold") ∈ GW := gw_tab 356 (by decide +kernel) rfl
theorem tw_357 : (Jvm.Cond.lays "BloodPrice$Reader" "BloodPrice$Reader" "needTold" "Z") ∈ GW := gw_tab 357 (by decide +kernel) rfl
theorem tw_358 : (Jvm.Cond.soleField "BloodPrice$Reader" "needTold") ∈ GW := gw_tab 358 (by decide +kernel) rfl
theorem tw_359 : (Jvm.Cond.lays "BloodPrice$Reader" "BloodPrice$Reader" "termsTold" "Z") ∈ GW := gw_tab 359 (by decide +kernel) rfl
theorem tw_360 : (Jvm.Cond.soleField "BloodPrice$Reader" "termsTold") ∈ GW := gw_tab 360 (by decide +kernel) rfl
theorem tw_361 : (Jvm.Cond.lays "BloodPrice$Reader" "BloodPrice$Reader" "fault" "I") ∈ GW := gw_tab 361 (by decide +kernel) rfl
theorem tw_362 : (Jvm.Cond.soleField "BloodPrice$Reader" "fault") ∈ GW := gw_tab 362 (by decide +kernel) rfl
theorem tw_363 : (Jvm.Cond.lays "BloodPrice$Reader" "BloodPrice$Reader" "faultPlace" "I") ∈ GW := gw_tab 363 (by decide +kernel) rfl
theorem tw_364 : (Jvm.Cond.soleField "BloodPrice$Reader" "faultPlace") ∈ GW := gw_tab 364 (by decide +kernel) rfl
theorem tw_365 : (Jvm.Cond.superclass "BloodPrice$Reader" "java/lang/Object") ∈ GW := gw_tab 365 (by decide +kernel) rfl
theorem tw_366 : (Jvm.Cond.methodLink "BloodPrice" (103 : Nat) ({ cls := "BloodPrice$Reader", name := "readText", desc := "()Z" } : Jvm.MethodName)) ∈ GW := gw_tab 366 (by decide +kernel) rfl
theorem tw_367 : (Jvm.Cond.instanceMethod ({ cls := "BloodPrice$Reader", name := "readText", desc := "()Z" } : Jvm.MethodName)) ∈ GW := gw_tab 367 (by decide +kernel) rfl
theorem tw_368 : (Jvm.Cond.selects "BloodPrice$Reader" ({ cls := "BloodPrice$Reader", name := "readText", desc := "()Z" } : Jvm.MethodName) ({ cls := "BloodPrice$Reader", name := "readText", desc := "()Z" } : Jvm.MethodName)) ∈ GW := gw_tab 368 (by decide +kernel) rfl
theorem tw_369 : (Jvm.Cond.code ({ cls := "BloodPrice$Reader", name := "readText", desc := "()Z" } : Jvm.MethodName) prog_6_method_2_code (3 : Nat) (Option.some Jvm.ClassFile.FieldType.boolean)) ∈ GW := gw_tab 369 (by decide +kernel) rfl
theorem tw_370 : (Jvm.Cond.constantLong "BloodPrice$Reader" (33 : Nat) (1752527476 : Int64)) ∈ GW := gw_tab 370 (by decide +kernel) rfl
theorem tw_371 : (Jvm.Cond.methodLink "BloodPrice$Reader" (35 : Nat) ({ cls := "BloodPrice$Reader", name := "readHurt", desc := "()Z" } : Jvm.MethodName)) ∈ GW := gw_tab 371 (by decide +kernel) rfl
theorem tw_373 : (Jvm.Cond.instanceMethod ({ cls := "BloodPrice$Reader", name := "readHurt", desc := "()Z" } : Jvm.MethodName)) ∈ GW := gw_tab 373 (by decide +kernel) rfl
theorem tw_374 : (Jvm.Cond.code ({ cls := "BloodPrice$Reader", name := "readHurt", desc := "()Z" } : Jvm.MethodName) prog_6_method_3_code (4 : Nat) (Option.some Jvm.ClassFile.FieldType.boolean)) ∈ GW := gw_tab 374 (by decide +kernel) rfl
theorem tw_375 : (Jvm.Cond.methodLink "BloodPrice$Reader" (59 : Nat) ({ cls := "BloodPrice$Reader", name := "refuse", desc := "(I)Z" } : Jvm.MethodName)) ∈ GW := gw_tab 375 (by decide +kernel) rfl
theorem tw_377 : (Jvm.Cond.instanceMethod ({ cls := "BloodPrice$Reader", name := "refuse", desc := "(I)Z" } : Jvm.MethodName)) ∈ GW := gw_tab 377 (by decide +kernel) rfl
theorem tw_378 : (Jvm.Cond.code ({ cls := "BloodPrice$Reader", name := "refuse", desc := "(I)Z" } : Jvm.MethodName) prog_6_method_14_code (2 : Nat) (Option.some Jvm.ClassFile.FieldType.boolean)) ∈ GW := gw_tab 378 (by decide +kernel) rfl
theorem tw_379 : (Jvm.Cond.methodLink "BloodPrice$Reader" (68 : Nat) ({ cls := "BloodPrice$Reader", name := "advance", desc := "()V" } : Jvm.MethodName)) ∈ GW := gw_tab 379 (by decide +kernel) rfl
theorem tw_381 : (Jvm.Cond.instanceMethod ({ cls := "BloodPrice$Reader", name := "advance", desc := "()V" } : Jvm.MethodName)) ∈ GW := gw_tab 381 (by decide +kernel) rfl
theorem tw_382 : (Jvm.Cond.code ({ cls := "BloodPrice$Reader", name := "advance", desc := "()V" } : Jvm.MethodName) prog_6_method_15_code (1 : Nat) (Option.none : Option Jvm.ClassFile.FieldType)) ∈ GW := gw_tab 382 (by decide +kernel) rfl
theorem tw_384 : (Jvm.Cond.static ({ cls := "BloodPrice", name := "isName", desc := "(J)Z" } : Jvm.MethodName)) ∈ GW := gw_tab 384 (by decide +kernel) rfl
theorem tw_385 : (Jvm.Cond.code ({ cls := "BloodPrice", name := "isName", desc := "(J)Z" } : Jvm.MethodName) prog_1_method_30_code (5 : Nat) (Option.some Jvm.ClassFile.FieldType.boolean)) ∈ GW := gw_tab 385 (by decide +kernel) rfl
theorem tw_386 : (Jvm.Cond.constantLong "BloodPrice" (224 : Nat) (255 : Int64)) ∈ GW := gw_tab 386 (by decide +kernel) rfl
theorem tw_387 : (Jvm.Cond.methodLink "BloodPrice" (226 : Nat) ({ cls := "BloodPrice", name := "isLetter", desc := "(I)Z" } : Jvm.MethodName)) ∈ GW := gw_tab 387 (by decide +kernel) rfl
theorem tw_388 : (Jvm.Cond.fieldLink "BloodPrice" (229 : Nat) "BloodPrice" "NO_NAMES" "[J") ∈ GW := gw_tab 388 (by decide +kernel) rfl
theorem tw_390 : (Jvm.Cond.methodLink "BloodPrice" (233 : Nat) ({ cls := "BloodPrice", name := "placeIn", desc := "([JJ)I" } : Jvm.MethodName)) ∈ GW := gw_tab 390 (by decide +kernel) rfl
theorem tw_391 : (Jvm.Cond.static ({ cls := "BloodPrice", name := "placeIn", desc := "([JJ)I" } : Jvm.MethodName)) ∈ GW := gw_tab 391 (by decide +kernel) rfl
theorem tw_392 : (Jvm.Cond.code ({ cls := "BloodPrice", name := "placeIn", desc := "([JJ)I" } : Jvm.MethodName) prog_1_method_31_code (4 : Nat) (Option.some Jvm.ClassFile.FieldType.int)) ∈ GW := gw_tab 392 (by decide +kernel) rfl
theorem tw_394 : (Jvm.Cond.constant "BloodPrice$Reader" (82 : Nat) (100000 : Int32)) ∈ GW := gw_tab 394 (by decide +kernel) rfl
theorem tw_395 : (Jvm.Cond.methodLink "BloodPrice$Reader" (83 : Nat) ({ cls := "BloodPrice$Reader", name := "readNumber", desc := "(II)I" } : Jvm.MethodName)) ∈ GW := gw_tab 395 (by decide +kernel) rfl
theorem tw_397 : (Jvm.Cond.instanceMethod ({ cls := "BloodPrice$Reader", name := "readNumber", desc := "(II)I" } : Jvm.MethodName)) ∈ GW := gw_tab 397 (by decide +kernel) rfl
theorem tw_398 : (Jvm.Cond.code ({ cls := "BloodPrice$Reader", name := "readNumber", desc := "(II)I" } : Jvm.MethodName) prog_6_method_12_code (4 : Nat) (Option.some Jvm.ClassFile.FieldType.int)) ∈ GW := gw_tab 398 (by decide +kernel) rfl
theorem tw_399 : (Jvm.Cond.constantLong "BloodPrice$Reader" (174 : Nat) (-1 : Int64)) ∈ GW := gw_tab 399 (by decide +kernel) rfl
theorem tw_400 : (Jvm.Cond.constantLong "BloodPrice$Reader" (87 : Nat) (59 : Int64)) ∈ GW := gw_tab 400 (by decide +kernel) rfl
theorem tw_401 : (Jvm.Cond.methodLink "BloodPrice$Reader" (89 : Nat) ({ cls := "BloodPrice$Reader", name := "expect", desc := "(J)Z" } : Jvm.MethodName)) ∈ GW := gw_tab 401 (by decide +kernel) rfl
theorem tw_403 : (Jvm.Cond.instanceMethod ({ cls := "BloodPrice$Reader", name := "expect", desc := "(J)Z" } : Jvm.MethodName)) ∈ GW := gw_tab 403 (by decide +kernel) rfl
theorem tw_404 : (Jvm.Cond.code ({ cls := "BloodPrice$Reader", name := "expect", desc := "(J)Z" } : Jvm.MethodName) prog_6_method_13_code (3 : Nat) (Option.some Jvm.ClassFile.FieldType.boolean)) ∈ GW := gw_tab 404 (by decide +kernel) rfl
theorem tw_405 : (Jvm.Cond.methodLink "BloodPrice$Reader" (92 : Nat) ({ cls := "BloodPrice$Law", name := "addHurt", desc := "(JI)V" } : Jvm.MethodName)) ∈ GW := gw_tab 405 (by decide +kernel) rfl
theorem tw_406 : (Jvm.Cond.instanceMethod ({ cls := "BloodPrice$Law", name := "addHurt", desc := "(JI)V" } : Jvm.MethodName)) ∈ GW := gw_tab 406 (by decide +kernel) rfl
theorem tw_407 : (Jvm.Cond.selects "BloodPrice$Law" ({ cls := "BloodPrice$Law", name := "addHurt", desc := "(JI)V" } : Jvm.MethodName) ({ cls := "BloodPrice$Law", name := "addHurt", desc := "(JI)V" } : Jvm.MethodName)) ∈ GW := gw_tab 407 (by decide +kernel) rfl
theorem tw_408 : (Jvm.Cond.code ({ cls := "BloodPrice$Law", name := "addHurt", desc := "(JI)V" } : Jvm.MethodName) prog_3_method_2_code (4 : Nat) (Option.none : Option Jvm.ClassFile.FieldType)) ∈ GW := gw_tab 408 (by decide +kernel) rfl
theorem tw_409 : (Jvm.Cond.constantLong "BloodPrice$Reader" (39 : Nat) (2003330414 : Int64)) ∈ GW := gw_tab 409 (by decide +kernel) rfl
theorem tw_410 : (Jvm.Cond.methodLink "BloodPrice$Reader" (41 : Nat) ({ cls := "BloodPrice$Reader", name := "readWhen", desc := "()Z" } : Jvm.MethodName)) ∈ GW := gw_tab 410 (by decide +kernel) rfl
theorem tw_412 : (Jvm.Cond.instanceMethod ({ cls := "BloodPrice$Reader", name := "readWhen", desc := "()Z" } : Jvm.MethodName)) ∈ GW := gw_tab 412 (by decide +kernel) rfl
theorem tw_413 : (Jvm.Cond.code ({ cls := "BloodPrice$Reader", name := "readWhen", desc := "()Z" } : Jvm.MethodName) prog_6_method_4_code (3 : Nat) (Option.some Jvm.ClassFile.FieldType.boolean)) ∈ GW := gw_tab 413 (by decide +kernel) rfl
theorem tw_414 : (Jvm.Cond.methodLink "BloodPrice$Reader" (99 : Nat) ({ cls := "BloodPrice$Reader", name := "readEither", desc := "(I)Z" } : Jvm.MethodName)) ∈ GW := gw_tab 414 (by decide +kernel) rfl
theorem tw_416 : (Jvm.Cond.instanceMethod ({ cls := "BloodPrice$Reader", name := "readEither", desc := "(I)Z" } : Jvm.MethodName)) ∈ GW := gw_tab 416 (by decide +kernel) rfl
theorem tw_417 : (Jvm.Cond.code ({ cls := "BloodPrice$Reader", name := "readEither", desc := "(I)Z" } : Jvm.MethodName) prog_6_method_8_code (4 : Nat) (Option.some Jvm.ClassFile.FieldType.boolean)) ∈ GW := gw_tab 417 (by decide +kernel) rfl
theorem tw_418 : (Jvm.Cond.methodLink "BloodPrice$Reader" (142 : Nat) ({ cls := "BloodPrice$Reader", name := "readBoth", desc := "(I)Z" } : Jvm.MethodName)) ∈ GW := gw_tab 418 (by decide +kernel) rfl
theorem tw_420 : (Jvm.Cond.instanceMethod ({ cls := "BloodPrice$Reader", name := "readBoth", desc := "(I)Z" } : Jvm.MethodName)) ∈ GW := gw_tab 420 (by decide +kernel) rfl
theorem tw_421 : (Jvm.Cond.code ({ cls := "BloodPrice$Reader", name := "readBoth", desc := "(I)Z" } : Jvm.MethodName) prog_6_method_9_code (4 : Nat) (Option.some Jvm.ClassFile.FieldType.boolean)) ∈ GW := gw_tab 421 (by decide +kernel) rfl
theorem tw_422 : (Jvm.Cond.methodLink "BloodPrice$Reader" (151 : Nat) ({ cls := "BloodPrice$Reader", name := "readOne", desc := "(I)Z" } : Jvm.MethodName)) ∈ GW := gw_tab 422 (by decide +kernel) rfl
theorem tw_424 : (Jvm.Cond.instanceMethod ({ cls := "BloodPrice$Reader", name := "readOne", desc := "(I)Z" } : Jvm.MethodName)) ∈ GW := gw_tab 424 (by decide +kernel) rfl
theorem tw_425 : (Jvm.Cond.code ({ cls := "BloodPrice$Reader", name := "readOne", desc := "(I)Z" } : Jvm.MethodName) prog_6_method_10_code (4 : Nat) (Option.some Jvm.ClassFile.FieldType.boolean)) ∈ GW := gw_tab 425 (by decide +kernel) rfl
theorem tw_426 : (Jvm.Cond.constantLong "BloodPrice$Reader" (156 : Nat) (7237492 : Int64)) ∈ GW := gw_tab 426 (by decide +kernel) rfl
theorem tw_427 : (Jvm.Cond.methodLink "BloodPrice$Reader" (147 : Nat) ({ cls := "BloodPrice$Law", name := "addStep", desc := "(I)V" } : Jvm.MethodName)) ∈ GW := gw_tab 427 (by decide +kernel) rfl
theorem tw_428 : (Jvm.Cond.instanceMethod ({ cls := "BloodPrice$Law", name := "addStep", desc := "(I)V" } : Jvm.MethodName)) ∈ GW := gw_tab 428 (by decide +kernel) rfl
theorem tw_429 : (Jvm.Cond.selects "BloodPrice$Law" ({ cls := "BloodPrice$Law", name := "addStep", desc := "(I)V" } : Jvm.MethodName) ({ cls := "BloodPrice$Law", name := "addStep", desc := "(I)V" } : Jvm.MethodName)) ∈ GW := gw_tab 429 (by decide +kernel) rfl
theorem tw_430 : (Jvm.Cond.code ({ cls := "BloodPrice$Law", name := "addStep", desc := "(I)V" } : Jvm.MethodName) prog_3_method_3_code (2 : Nat) (Option.none : Option Jvm.ClassFile.FieldType)) ∈ GW := gw_tab 430 (by decide +kernel) rfl
theorem tw_431 : (Jvm.Cond.constantLong "BloodPrice$Reader" (158 : Nat) (40 : Int64)) ∈ GW := gw_tab 431 (by decide +kernel) rfl
theorem tw_432 : (Jvm.Cond.constantLong "BloodPrice$Reader" (160 : Nat) (41 : Int64)) ∈ GW := gw_tab 432 (by decide +kernel) rfl
theorem tw_433 : (Jvm.Cond.methodLink "BloodPrice$Reader" (162 : Nat) ({ cls := "BloodPrice$Reader", name := "readOperand", desc := "()Z" } : Jvm.MethodName)) ∈ GW := gw_tab 433 (by decide +kernel) rfl
theorem tw_435 : (Jvm.Cond.instanceMethod ({ cls := "BloodPrice$Reader", name := "readOperand", desc := "()Z" } : Jvm.MethodName)) ∈ GW := gw_tab 435 (by decide +kernel) rfl
theorem tw_436 : (Jvm.Cond.code ({ cls := "BloodPrice$Reader", name := "readOperand", desc := "()Z" } : Jvm.MethodName) prog_6_method_11_code (2 : Nat) (Option.some Jvm.ClassFile.FieldType.boolean)) ∈ GW := gw_tab 436 (by decide +kernel) rfl
theorem tw_439 : (Jvm.Cond.methodLink "BloodPrice$Reader" (165 : Nat) ({ cls := "BloodPrice$Reader", name := "comparisonOf", desc := "(J)I" } : Jvm.MethodName)) ∈ GW := gw_tab 439 (by decide +kernel) rfl
theorem tw_440 : (Jvm.Cond.static ({ cls := "BloodPrice$Reader", name := "comparisonOf", desc := "(J)I" } : Jvm.MethodName)) ∈ GW := gw_tab 440 (by decide +kernel) rfl
theorem tw_441 : (Jvm.Cond.code ({ cls := "BloodPrice$Reader", name := "comparisonOf", desc := "(J)I" } : Jvm.MethodName) prog_6_method_17_code (2 : Nat) (Option.some Jvm.ClassFile.FieldType.int)) ∈ GW := gw_tab 441 (by decide +kernel) rfl
theorem tw_442 : (Jvm.Cond.constantLong "BloodPrice$Reader" (196 : Nat) (60 : Int64)) ∈ GW := gw_tab 442 (by decide +kernel) rfl
theorem tw_443 : (Jvm.Cond.constantLong "BloodPrice$Reader" (198 : Nat) (62 : Int64)) ∈ GW := gw_tab 443 (by decide +kernel) rfl
theorem tw_444 : (Jvm.Cond.constantLong "BloodPrice$Reader" (200 : Nat) (61 : Int64)) ∈ GW := gw_tab 444 (by decide +kernel) rfl
theorem tw_445 : (Jvm.Cond.constantLong "BloodPrice$Reader" (154 : Nat) (6385252 : Int64)) ∈ GW := gw_tab 445 (by decide +kernel) rfl
theorem tw_446 : (Jvm.Cond.constantLong "BloodPrice$Reader" (145 : Nat) (28530 : Int64)) ∈ GW := gw_tab 446 (by decide +kernel) rfl
theorem tw_447 : (Jvm.Cond.constantLong "BloodPrice$Reader" (102 : Nat) (25711 : Int64)) ∈ GW := gw_tab 447 (by decide +kernel) rfl
theorem tw_448 : (Jvm.Cond.methodLink "BloodPrice$Reader" (104 : Nat) ({ cls := "BloodPrice$Reader", name := "deedOf", desc := "(J)I" } : Jvm.MethodName)) ∈ GW := gw_tab 448 (by decide +kernel) rfl
theorem tw_449 : (Jvm.Cond.static ({ cls := "BloodPrice$Reader", name := "deedOf", desc := "(J)I" } : Jvm.MethodName)) ∈ GW := gw_tab 449 (by decide +kernel) rfl
theorem tw_450 : (Jvm.Cond.code ({ cls := "BloodPrice$Reader", name := "deedOf", desc := "(J)I" } : Jvm.MethodName) prog_6_method_16_code (2 : Nat) (Option.some Jvm.ClassFile.FieldType.int)) ∈ GW := gw_tab 450 (by decide +kernel) rfl
theorem tw_451 : (Jvm.Cond.constantLong "BloodPrice$Reader" (188 : Nat) (110429873532005 : Int64)) ∈ GW := gw_tab 451 (by decide +kernel) rfl
theorem tw_452 : (Jvm.Cond.constantLong "BloodPrice$Reader" (190 : Nat) (1751215206 : Int64)) ∈ GW := gw_tab 452 (by decide +kernel) rfl
theorem tw_453 : (Jvm.Cond.constantLong "BloodPrice$Reader" (192 : Nat) (6382692 : Int64)) ∈ GW := gw_tab 453 (by decide +kernel) rfl
theorem tw_454 : (Jvm.Cond.constantLong "BloodPrice$Reader" (194 : Nat) (1818588019 : Int64)) ∈ GW := gw_tab 454 (by decide +kernel) rfl
theorem tw_455 : (Jvm.Cond.methodLink "BloodPrice$Reader" (108 : Nat) ({ cls := "BloodPrice$Law", name := "addWhen", desc := "(II)V" } : Jvm.MethodName)) ∈ GW := gw_tab 455 (by decide +kernel) rfl
theorem tw_456 : (Jvm.Cond.instanceMethod ({ cls := "BloodPrice$Law", name := "addWhen", desc := "(II)V" } : Jvm.MethodName)) ∈ GW := gw_tab 456 (by decide +kernel) rfl
theorem tw_457 : (Jvm.Cond.selects "BloodPrice$Law" ({ cls := "BloodPrice$Law", name := "addWhen", desc := "(II)V" } : Jvm.MethodName) ({ cls := "BloodPrice$Law", name := "addWhen", desc := "(II)V" } : Jvm.MethodName)) ∈ GW := gw_tab 457 (by decide +kernel) rfl
theorem tw_458 : (Jvm.Cond.code ({ cls := "BloodPrice$Law", name := "addWhen", desc := "(II)V" } : Jvm.MethodName) prog_3_method_4_code (3 : Nat) (Option.none : Option Jvm.ClassFile.FieldType)) ∈ GW := gw_tab 458 (by decide +kernel) rfl
theorem tw_459 : (Jvm.Cond.constantLong "BloodPrice$Reader" (44 : Nat) (495672455781 : Int64)) ∈ GW := gw_tab 459 (by decide +kernel) rfl
theorem tw_460 : (Jvm.Cond.methodLink "BloodPrice$Reader" (46 : Nat) ({ cls := "BloodPrice$Reader", name := "readShare", desc := "()Z" } : Jvm.MethodName)) ∈ GW := gw_tab 460 (by decide +kernel) rfl
theorem tw_462 : (Jvm.Cond.instanceMethod ({ cls := "BloodPrice$Reader", name := "readShare", desc := "()Z" } : Jvm.MethodName)) ∈ GW := gw_tab 462 (by decide +kernel) rfl
theorem tw_463 : (Jvm.Cond.code ({ cls := "BloodPrice$Reader", name := "readShare", desc := "()Z" } : Jvm.MethodName) prog_6_method_5_code (5 : Nat) (Option.some Jvm.ClassFile.FieldType.boolean)) ∈ GW := gw_tab 463 (by decide +kernel) rfl
theorem tw_464 : (Jvm.Cond.constantLong "BloodPrice$Reader" (49 : Nat) (1852138852 : Int64)) ∈ GW := gw_tab 464 (by decide +kernel) rfl
theorem tw_465 : (Jvm.Cond.methodLink "BloodPrice$Reader" (51 : Nat) ({ cls := "BloodPrice$Reader", name := "readNeed", desc := "()Z" } : Jvm.MethodName)) ∈ GW := gw_tab 465 (by decide +kernel) rfl
theorem tw_467 : (Jvm.Cond.instanceMethod ({ cls := "BloodPrice$Reader", name := "readNeed", desc := "()Z" } : Jvm.MethodName)) ∈ GW := gw_tab 467 (by decide +kernel) rfl
theorem tw_468 : (Jvm.Cond.code ({ cls := "BloodPrice$Reader", name := "readNeed", desc := "()Z" } : Jvm.MethodName) prog_6_method_6_code (1 : Nat) (Option.some Jvm.ClassFile.FieldType.boolean)) ∈ GW := gw_tab 468 (by decide +kernel) rfl
theorem tw_469 : (Jvm.Cond.constantLong "BloodPrice$Reader" (126 : Nat) (1918987883 : Int64)) ∈ GW := gw_tab 469 (by decide +kernel) rfl
theorem tw_470 : (Jvm.Cond.constantLong "BloodPrice$Reader" (54 : Nat) (499918204275 : Int64)) ∈ GW := gw_tab 470 (by decide +kernel) rfl
theorem tw_471 : (Jvm.Cond.methodLink "BloodPrice$Reader" (56 : Nat) ({ cls := "BloodPrice$Reader", name := "readTerms", desc := "()Z" } : Jvm.MethodName)) ∈ GW := gw_tab 471 (by decide +kernel) rfl
theorem tw_473 : (Jvm.Cond.instanceMethod ({ cls := "BloodPrice$Reader", name := "readTerms", desc := "()Z" } : Jvm.MethodName)) ∈ GW := gw_tab 473 (by decide +kernel) rfl
theorem tw_474 : (Jvm.Cond.code ({ cls := "BloodPrice$Reader", name := "readTerms", desc := "()Z" } : Jvm.MethodName) prog_6_method_7_code (1 : Nat) (Option.some Jvm.ClassFile.FieldType.boolean)) ∈ GW := gw_tab 474 (by decide +kernel) rfl
theorem tw_475 : (Jvm.Cond.constantLong "BloodPrice$Reader" (137 : Nat) (1684109683 : Int64)) ∈ GW := gw_tab 475 (by decide +kernel) rfl
theorem tw_476 : (Jvm.Cond.methodLink "BloodPriceLaw" (28 : Nat) ({ cls := "BloodPrice", name := "fault", desc := "(I)I" } : Jvm.MethodName)) ∈ GW := gw_tab 476 (by decide +kernel) rfl
theorem tw_477 : (Jvm.Cond.instanceMethod ({ cls := "BloodPrice", name := "fault", desc := "(I)I" } : Jvm.MethodName)) ∈ GW := gw_tab 477 (by decide +kernel) rfl
theorem tw_478 : (Jvm.Cond.selects "BloodPrice" ({ cls := "BloodPrice", name := "fault", desc := "(I)I" } : Jvm.MethodName) ({ cls := "BloodPrice", name := "fault", desc := "(I)I" } : Jvm.MethodName)) ∈ GW := gw_tab 478 (by decide +kernel) rfl
theorem tw_479 : (Jvm.Cond.code ({ cls := "BloodPrice", name := "fault", desc := "(I)I" } : Jvm.MethodName) prog_1_method_6_code (2 : Nat) (Option.some Jvm.ClassFile.FieldType.int)) ∈ GW := gw_tab 479 (by decide +kernel) rfl
theorem tw_480 : (Jvm.Cond.methodLink "BloodPriceLaw" (32 : Nat) ({ cls := "BloodPrice", name := "lawOn", desc := "(II)I" } : Jvm.MethodName)) ∈ GW := gw_tab 480 (by decide +kernel) rfl
theorem tw_481 : (Jvm.Cond.instanceMethod ({ cls := "BloodPrice", name := "lawOn", desc := "(II)I" } : Jvm.MethodName)) ∈ GW := gw_tab 481 (by decide +kernel) rfl
theorem tw_482 : (Jvm.Cond.selects "BloodPrice" ({ cls := "BloodPrice", name := "lawOn", desc := "(II)I" } : Jvm.MethodName) ({ cls := "BloodPrice", name := "lawOn", desc := "(II)I" } : Jvm.MethodName)) ∈ GW := gw_tab 482 (by decide +kernel) rfl
theorem tw_483 : (Jvm.Cond.code ({ cls := "BloodPrice", name := "lawOn", desc := "(II)I" } : Jvm.MethodName) prog_1_method_7_code (7 : Nat) (Option.some Jvm.ClassFile.FieldType.int)) ∈ GW := gw_tab 483 (by decide +kernel) rfl
theorem tw_484 : (Jvm.Cond.methodLink "BloodPriceLaw" (36 : Nat) ({ cls := "BloodPrice", name := "person", desc := "(III)I" } : Jvm.MethodName)) ∈ GW := gw_tab 484 (by decide +kernel) rfl
theorem tw_485 : (Jvm.Cond.instanceMethod ({ cls := "BloodPrice", name := "person", desc := "(III)I" } : Jvm.MethodName)) ∈ GW := gw_tab 485 (by decide +kernel) rfl
theorem tw_486 : (Jvm.Cond.selects "BloodPrice" ({ cls := "BloodPrice", name := "person", desc := "(III)I" } : Jvm.MethodName) ({ cls := "BloodPrice", name := "person", desc := "(III)I" } : Jvm.MethodName)) ∈ GW := gw_tab 486 (by decide +kernel) rfl
theorem tw_487 : (Jvm.Cond.code ({ cls := "BloodPrice", name := "person", desc := "(III)I" } : Jvm.MethodName) prog_1_method_8_code (4 : Nat) (Option.some Jvm.ClassFile.FieldType.int)) ∈ GW := gw_tab 487 (by decide +kernel) rfl
theorem tw_488 : (Jvm.Cond.methodLink "BloodPrice" (119 : Nat) ({ cls := "BloodPrice$People", name := "canBeParent", desc := "(I)Z" } : Jvm.MethodName)) ∈ GW := gw_tab 488 (by decide +kernel) rfl
theorem tw_489 : (Jvm.Cond.instanceMethod ({ cls := "BloodPrice$People", name := "canBeParent", desc := "(I)Z" } : Jvm.MethodName)) ∈ GW := gw_tab 489 (by decide +kernel) rfl
theorem tw_490 : (Jvm.Cond.selects "BloodPrice$People" ({ cls := "BloodPrice$People", name := "canBeParent", desc := "(I)Z" } : Jvm.MethodName) ({ cls := "BloodPrice$People", name := "canBeParent", desc := "(I)Z" } : Jvm.MethodName)) ∈ GW := gw_tab 490 (by decide +kernel) rfl
theorem tw_491 : (Jvm.Cond.code ({ cls := "BloodPrice$People", name := "canBeParent", desc := "(I)Z" } : Jvm.MethodName) prog_5_method_3_code (2 : Nat) (Option.some Jvm.ClassFile.FieldType.boolean)) ∈ GW := gw_tab 491 (by decide +kernel) rfl
theorem tw_492 : (Jvm.Cond.methodLink "BloodPrice$People" (35 : Nat) ({ cls := "BloodPrice$People", name := "isThere", desc := "(I)Z" } : Jvm.MethodName)) ∈ GW := gw_tab 492 (by decide +kernel) rfl
theorem tw_493 : (Jvm.Cond.instanceMethod ({ cls := "BloodPrice$People", name := "isThere", desc := "(I)Z" } : Jvm.MethodName)) ∈ GW := gw_tab 493 (by decide +kernel) rfl
theorem tw_494 : (Jvm.Cond.selects "BloodPrice$People" ({ cls := "BloodPrice$People", name := "isThere", desc := "(I)Z" } : Jvm.MethodName) ({ cls := "BloodPrice$People", name := "isThere", desc := "(I)Z" } : Jvm.MethodName)) ∈ GW := gw_tab 494 (by decide +kernel) rfl
theorem tw_495 : (Jvm.Cond.code ({ cls := "BloodPrice$People", name := "isThere", desc := "(I)Z" } : Jvm.MethodName) prog_5_method_2_code (2 : Nat) (Option.some Jvm.ClassFile.FieldType.boolean)) ∈ GW := gw_tab 495 (by decide +kernel) rfl
theorem tw_496 : (Jvm.Cond.methodLink "BloodPrice" (122 : Nat) ({ cls := "BloodPrice$People", name := "add", desc := "(III)I" } : Jvm.MethodName)) ∈ GW := gw_tab 496 (by decide +kernel) rfl
theorem tw_497 : (Jvm.Cond.instanceMethod ({ cls := "BloodPrice$People", name := "add", desc := "(III)I" } : Jvm.MethodName)) ∈ GW := gw_tab 497 (by decide +kernel) rfl
theorem tw_498 : (Jvm.Cond.selects "BloodPrice$People" ({ cls := "BloodPrice$People", name := "add", desc := "(III)I" } : Jvm.MethodName) ({ cls := "BloodPrice$People", name := "add", desc := "(III)I" } : Jvm.MethodName)) ∈ GW := gw_tab 498 (by decide +kernel) rfl
theorem tw_499 : (Jvm.Cond.code ({ cls := "BloodPrice$People", name := "add", desc := "(III)I" } : Jvm.MethodName) prog_5_method_4_code (4 : Nat) (Option.some Jvm.ClassFile.FieldType.int)) ∈ GW := gw_tab 499 (by decide +kernel) rfl
theorem tw_500 : (Jvm.Cond.methodLink "BloodPriceLaw" (41 : Nat) ({ cls := "BloodPrice", name := "degree", desc := "(II)I" } : Jvm.MethodName)) ∈ GW := gw_tab 500 (by decide +kernel) rfl
theorem tw_501 : (Jvm.Cond.instanceMethod ({ cls := "BloodPrice", name := "degree", desc := "(II)I" } : Jvm.MethodName)) ∈ GW := gw_tab 501 (by decide +kernel) rfl
theorem tw_502 : (Jvm.Cond.selects "BloodPrice" ({ cls := "BloodPrice", name := "degree", desc := "(II)I" } : Jvm.MethodName) ({ cls := "BloodPrice", name := "degree", desc := "(II)I" } : Jvm.MethodName)) ∈ GW := gw_tab 502 (by decide +kernel) rfl
theorem tw_503 : (Jvm.Cond.code ({ cls := "BloodPrice", name := "degree", desc := "(II)I" } : Jvm.MethodName) prog_1_method_9_code (3 : Nat) (Option.some Jvm.ClassFile.FieldType.int)) ∈ GW := gw_tab 503 (by decide +kernel) rfl
theorem tw_504 : (Jvm.Cond.methodLink "BloodPrice" (126 : Nat) ({ cls := "BloodPrice$People", name := "stepsBetween", desc := "(II)I" } : Jvm.MethodName)) ∈ GW := gw_tab 504 (by decide +kernel) rfl
theorem tw_505 : (Jvm.Cond.instanceMethod ({ cls := "BloodPrice$People", name := "stepsBetween", desc := "(II)I" } : Jvm.MethodName)) ∈ GW := gw_tab 505 (by decide +kernel) rfl
theorem tw_506 : (Jvm.Cond.selects "BloodPrice$People" ({ cls := "BloodPrice$People", name := "stepsBetween", desc := "(II)I" } : Jvm.MethodName) ({ cls := "BloodPrice$People", name := "stepsBetween", desc := "(II)I" } : Jvm.MethodName)) ∈ GW := gw_tab 506 (by decide +kernel) rfl
theorem tw_507 : (Jvm.Cond.code ({ cls := "BloodPrice$People", name := "stepsBetween", desc := "(II)I" } : Jvm.MethodName) prog_5_method_8_code (3 : Nat) (Option.some Jvm.ClassFile.FieldType.int)) ∈ GW := gw_tab 507 (by decide +kernel) rfl
theorem tw_508 : (Jvm.Cond.methodLink "BloodPrice$People" (39 : Nat) ({ cls := "BloodPrice$People", name := "measureFrom", desc := "(I)V" } : Jvm.MethodName)) ∈ GW := gw_tab 508 (by decide +kernel) rfl
theorem tw_509 : (Jvm.Cond.instanceMethod ({ cls := "BloodPrice$People", name := "measureFrom", desc := "(I)V" } : Jvm.MethodName)) ∈ GW := gw_tab 509 (by decide +kernel) rfl
theorem tw_510 : (Jvm.Cond.selects "BloodPrice$People" ({ cls := "BloodPrice$People", name := "measureFrom", desc := "(I)V" } : Jvm.MethodName) ({ cls := "BloodPrice$People", name := "measureFrom", desc := "(I)V" } : Jvm.MethodName)) ∈ GW := gw_tab 510 (by decide +kernel) rfl
theorem tw_511 : (Jvm.Cond.code ({ cls := "BloodPrice$People", name := "measureFrom", desc := "(I)V" } : Jvm.MethodName) prog_5_method_9_code (4 : Nat) (Option.none : Option Jvm.ClassFile.FieldType)) ∈ GW := gw_tab 511 (by decide +kernel) rfl
theorem tw_512 : (Jvm.Cond.methodLink "BloodPrice$People" (43 : Nat) ({ cls := "BloodPrice$People", name := "stepBetween", desc := "(III)V" } : Jvm.MethodName)) ∈ GW := gw_tab 512 (by decide +kernel) rfl
theorem tw_514 : (Jvm.Cond.instanceMethod ({ cls := "BloodPrice$People", name := "stepBetween", desc := "(III)V" } : Jvm.MethodName)) ∈ GW := gw_tab 514 (by decide +kernel) rfl
theorem tw_515 : (Jvm.Cond.code ({ cls := "BloodPrice$People", name := "stepBetween", desc := "(III)V" } : Jvm.MethodName) prog_5_method_10_code (4 : Nat) (Option.none : Option Jvm.ClassFile.FieldType)) ∈ GW := gw_tab 515 (by decide +kernel) rfl
theorem tw_516 : (Jvm.Cond.methodLink "BloodPriceLaw" (45 : Nat) ({ cls := "BloodPrice", name := "rank", desc := "(III)I" } : Jvm.MethodName)) ∈ GW := gw_tab 516 (by decide +kernel) rfl
theorem tw_517 : (Jvm.Cond.instanceMethod ({ cls := "BloodPrice", name := "rank", desc := "(III)I" } : Jvm.MethodName)) ∈ GW := gw_tab 517 (by decide +kernel) rfl
theorem tw_518 : (Jvm.Cond.selects "BloodPrice" ({ cls := "BloodPrice", name := "rank", desc := "(III)I" } : Jvm.MethodName) ({ cls := "BloodPrice", name := "rank", desc := "(III)I" } : Jvm.MethodName)) ∈ GW := gw_tab 518 (by decide +kernel) rfl
theorem tw_519 : (Jvm.Cond.code ({ cls := "BloodPrice", name := "rank", desc := "(III)I" } : Jvm.MethodName) prog_1_method_10_code (4 : Nat) (Option.some Jvm.ClassFile.FieldType.int)) ∈ GW := gw_tab 519 (by decide +kernel) rfl
theorem tw_520 : (Jvm.Cond.methodLink "BloodPrice" (130 : Nat) ({ cls := "BloodPrice$People", name := "isThere", desc := "(I)Z" } : Jvm.MethodName)) ∈ GW := gw_tab 520 (by decide +kernel) rfl
theorem tw_521 : (Jvm.Cond.methodLink "BloodPrice" (136 : Nat) ({ cls := "BloodPrice$Tolds", name := "add", desc := "(IIII)I" } : Jvm.MethodName)) ∈ GW := gw_tab 521 (by decide +kernel) rfl
theorem tw_522 : (Jvm.Cond.instanceMethod ({ cls := "BloodPrice$Tolds", name := "add", desc := "(IIII)I" } : Jvm.MethodName)) ∈ GW := gw_tab 522 (by decide +kernel) rfl
theorem tw_523 : (Jvm.Cond.selects "BloodPrice$Tolds" ({ cls := "BloodPrice$Tolds", name := "add", desc := "(IIII)I" } : Jvm.MethodName) ({ cls := "BloodPrice$Tolds", name := "add", desc := "(IIII)I" } : Jvm.MethodName)) ∈ GW := gw_tab 523 (by decide +kernel) rfl
theorem tw_524 : (Jvm.Cond.code ({ cls := "BloodPrice$Tolds", name := "add", desc := "(IIII)I" } : Jvm.MethodName) prog_8_method_2_code (5 : Nat) (Option.some Jvm.ClassFile.FieldType.int)) ∈ GW := gw_tab 524 (by decide +kernel) rfl
theorem tw_525 : (Jvm.Cond.methodLink "BloodPriceLaw" (49 : Nat) ({ cls := "BloodPrice", name := "ranked", desc := "(III)I" } : Jvm.MethodName)) ∈ GW := gw_tab 525 (by decide +kernel) rfl
theorem tw_526 : (Jvm.Cond.instanceMethod ({ cls := "BloodPrice", name := "ranked", desc := "(III)I" } : Jvm.MethodName)) ∈ GW := gw_tab 526 (by decide +kernel) rfl
theorem tw_527 : (Jvm.Cond.selects "BloodPrice" ({ cls := "BloodPrice", name := "ranked", desc := "(III)I" } : Jvm.MethodName) ({ cls := "BloodPrice", name := "ranked", desc := "(III)I" } : Jvm.MethodName)) ∈ GW := gw_tab 527 (by decide +kernel) rfl
theorem tw_528 : (Jvm.Cond.code ({ cls := "BloodPrice", name := "ranked", desc := "(III)I" } : Jvm.MethodName) prog_1_method_11_code (4 : Nat) (Option.some Jvm.ClassFile.FieldType.int)) ∈ GW := gw_tab 528 (by decide +kernel) rfl
theorem tw_529 : (Jvm.Cond.methodLink "BloodPrice" (139 : Nat) ({ cls := "BloodPrice$Tolds", name := "rankAsKnown", desc := "(III)I" } : Jvm.MethodName)) ∈ GW := gw_tab 529 (by decide +kernel) rfl
theorem tw_530 : (Jvm.Cond.instanceMethod ({ cls := "BloodPrice$Tolds", name := "rankAsKnown", desc := "(III)I" } : Jvm.MethodName)) ∈ GW := gw_tab 530 (by decide +kernel) rfl
theorem tw_531 : (Jvm.Cond.selects "BloodPrice$Tolds" ({ cls := "BloodPrice$Tolds", name := "rankAsKnown", desc := "(III)I" } : Jvm.MethodName) ({ cls := "BloodPrice$Tolds", name := "rankAsKnown", desc := "(III)I" } : Jvm.MethodName)) ∈ GW := gw_tab 531 (by decide +kernel) rfl
theorem tw_532 : (Jvm.Cond.code ({ cls := "BloodPrice$Tolds", name := "rankAsKnown", desc := "(III)I" } : Jvm.MethodName) prog_8_method_3_code (8 : Nat) (Option.some Jvm.ClassFile.FieldType.int)) ∈ GW := gw_tab 532 (by decide +kernel) rfl
theorem tw_533 : (Jvm.Cond.methodLink "BloodPriceLaw" (53 : Nat) ({ cls := "BloodPrice", name := "dead", desc := "(II)Z" } : Jvm.MethodName)) ∈ GW := gw_tab 533 (by decide +kernel) rfl
theorem tw_534 : (Jvm.Cond.instanceMethod ({ cls := "BloodPrice", name := "dead", desc := "(II)Z" } : Jvm.MethodName)) ∈ GW := gw_tab 534 (by decide +kernel) rfl
theorem tw_535 : (Jvm.Cond.selects "BloodPrice" ({ cls := "BloodPrice", name := "dead", desc := "(II)Z" } : Jvm.MethodName) ({ cls := "BloodPrice", name := "dead", desc := "(II)Z" } : Jvm.MethodName)) ∈ GW := gw_tab 535 (by decide +kernel) rfl
theorem tw_536 : (Jvm.Cond.code ({ cls := "BloodPrice", name := "dead", desc := "(II)Z" } : Jvm.MethodName) prog_1_method_12_code (3 : Nat) (Option.some Jvm.ClassFile.FieldType.boolean)) ∈ GW := gw_tab 536 (by decide +kernel) rfl
theorem tw_537 : (Jvm.Cond.methodLink "BloodPrice" (142 : Nat) ({ cls := "BloodPrice$People", name := "bury", desc := "(II)Z" } : Jvm.MethodName)) ∈ GW := gw_tab 537 (by decide +kernel) rfl
theorem tw_538 : (Jvm.Cond.instanceMethod ({ cls := "BloodPrice$People", name := "bury", desc := "(II)Z" } : Jvm.MethodName)) ∈ GW := gw_tab 538 (by decide +kernel) rfl
theorem tw_539 : (Jvm.Cond.selects "BloodPrice$People" ({ cls := "BloodPrice$People", name := "bury", desc := "(II)Z" } : Jvm.MethodName) ({ cls := "BloodPrice$People", name := "bury", desc := "(II)Z" } : Jvm.MethodName)) ∈ GW := gw_tab 539 (by decide +kernel) rfl
theorem tw_540 : (Jvm.Cond.code ({ cls := "BloodPrice$People", name := "bury", desc := "(II)Z" } : Jvm.MethodName) prog_5_method_6_code (3 : Nat) (Option.some Jvm.ClassFile.FieldType.boolean)) ∈ GW := gw_tab 540 (by decide +kernel) rfl
theorem tw_541 : (Jvm.Cond.methodLink "BloodPriceLaw" (58 : Nat) ({ cls := "BloodPrice", name := "truce", desc := "(IIII)I" } : Jvm.MethodName)) ∈ GW := gw_tab 541 (by decide +kernel) rfl
theorem tw_542 : (Jvm.Cond.instanceMethod ({ cls := "BloodPrice", name := "truce", desc := "(IIII)I" } : Jvm.MethodName)) ∈ GW := gw_tab 542 (by decide +kernel) rfl
theorem tw_543 : (Jvm.Cond.selects "BloodPrice" ({ cls := "BloodPrice", name := "truce", desc := "(IIII)I" } : Jvm.MethodName) ({ cls := "BloodPrice", name := "truce", desc := "(IIII)I" } : Jvm.MethodName)) ∈ GW := gw_tab 543 (by decide +kernel) rfl
theorem tw_544 : (Jvm.Cond.code ({ cls := "BloodPrice", name := "truce", desc := "(IIII)I" } : Jvm.MethodName) prog_1_method_13_code (5 : Nat) (Option.some Jvm.ClassFile.FieldType.int)) ∈ GW := gw_tab 544 (by decide +kernel) rfl
theorem tw_545 : (Jvm.Cond.methodLink "BloodPrice" (146 : Nat) ({ cls := "BloodPrice$Truces", name := "add", desc := "(IIII)I" } : Jvm.MethodName)) ∈ GW := gw_tab 545 (by decide +kernel) rfl
theorem tw_546 : (Jvm.Cond.instanceMethod ({ cls := "BloodPrice$Truces", name := "add", desc := "(IIII)I" } : Jvm.MethodName)) ∈ GW := gw_tab 546 (by decide +kernel) rfl
theorem tw_547 : (Jvm.Cond.selects "BloodPrice$Truces" ({ cls := "BloodPrice$Truces", name := "add", desc := "(IIII)I" } : Jvm.MethodName) ({ cls := "BloodPrice$Truces", name := "add", desc := "(IIII)I" } : Jvm.MethodName)) ∈ GW := gw_tab 547 (by decide +kernel) rfl
theorem tw_548 : (Jvm.Cond.code ({ cls := "BloodPrice$Truces", name := "add", desc := "(IIII)I" } : Jvm.MethodName) prog_9_method_2_code (5 : Nat) (Option.some Jvm.ClassFile.FieldType.int)) ∈ GW := gw_tab 548 (by decide +kernel) rfl
theorem tw_549 : (Jvm.Cond.methodLink "BloodPriceLaw" (63 : Nat) ({ cls := "BloodPrice", name := "later", desc := "(I)I" } : Jvm.MethodName)) ∈ GW := gw_tab 549 (by decide +kernel) rfl
theorem tw_550 : (Jvm.Cond.instanceMethod ({ cls := "BloodPrice", name := "later", desc := "(I)I" } : Jvm.MethodName)) ∈ GW := gw_tab 550 (by decide +kernel) rfl
theorem tw_551 : (Jvm.Cond.selects "BloodPrice" ({ cls := "BloodPrice", name := "later", desc := "(I)I" } : Jvm.MethodName) ({ cls := "BloodPrice", name := "later", desc := "(I)I" } : Jvm.MethodName)) ∈ GW := gw_tab 551 (by decide +kernel) rfl
theorem tw_552 : (Jvm.Cond.code ({ cls := "BloodPrice", name := "later", desc := "(I)I" } : Jvm.MethodName) prog_1_method_14_code (2 : Nat) (Option.some Jvm.ClassFile.FieldType.int)) ∈ GW := gw_tab 552 (by decide +kernel) rfl
theorem tw_553 : (Jvm.Cond.methodLink "BloodPriceLaw" (69 : Nat) ({ cls := "BloodPrice", name := "hurt", desc := "(IIJIIZ)I" } : Jvm.MethodName)) ∈ GW := gw_tab 553 (by decide +kernel) rfl
theorem tw_554 : (Jvm.Cond.instanceMethod ({ cls := "BloodPrice", name := "hurt", desc := "(IIJIIZ)I" } : Jvm.MethodName)) ∈ GW := gw_tab 554 (by decide +kernel) rfl
theorem tw_555 : (Jvm.Cond.selects "BloodPrice" ({ cls := "BloodPrice", name := "hurt", desc := "(IIJIIZ)I" } : Jvm.MethodName) ({ cls := "BloodPrice", name := "hurt", desc := "(IIJIIZ)I" } : Jvm.MethodName)) ∈ GW := gw_tab 555 (by decide +kernel) rfl
theorem tw_556 : (Jvm.Cond.code ({ cls := "BloodPrice", name := "hurt", desc := "(IIJIIZ)I" } : Jvm.MethodName) prog_1_method_15_code (8 : Nat) (Option.some Jvm.ClassFile.FieldType.int)) ∈ GW := gw_tab 556 (by decide +kernel) rfl
theorem tw_557 : (Jvm.Cond.methodLink "BloodPrice" (148 : Nat) ({ cls := "BloodPrice", name := "isName", desc := "(J)Z" } : Jvm.MethodName)) ∈ GW := gw_tab 557 (by decide +kernel) rfl
theorem tw_558 : (Jvm.Cond.instantiable "BloodPrice$Case" (11 : Nat)) ∈ GW := gw_tab 558 (by decide +kernel) rfl
theorem tw_559 : (Jvm.Cond.methodLink "BloodPrice" (155 : Nat) ({ cls := "BloodPrice$Case", name := "<init>", desc := "(IIJIIZ)V" } : Jvm.MethodName)) ∈ GW := gw_tab 559 (by decide +kernel) rfl
theorem tw_560 : (Jvm.Cond.instanceMethod ({ cls := "BloodPrice$Case", name := "<init>", desc := "(IIJIIZ)V" } : Jvm.MethodName)) ∈ GW := gw_tab 560 (by decide +kernel) rfl
theorem tw_561 : (Jvm.Cond.code ({ cls := "BloodPrice$Case", name := "<init>", desc := "(IIJIIZ)V" } : Jvm.MethodName) prog_2_method_1_code (8 : Nat) (Option.none : Option Jvm.ClassFile.FieldType)) ∈ GW := gw_tab 561 (by decide +kernel) rfl
theorem tw_562 : (Jvm.Cond.methodLink "BloodPrice$Case" (3 : Nat) ({ cls := "java/lang/Object", name := "<init>", desc := "()V" } : Jvm.MethodName)) ∈ GW := gw_tab 562 (by decide +kernel) rfl
theorem tw_563 : (Jvm.Cond.fieldLink "BloodPrice$Case" (18 : Nat) "BloodPrice$Case" "doer" "I") ∈ GW := gw_tab 563 (by decide +kernel) rfl
theorem tw_564 : (Jvm.Cond.fieldLink "BloodPrice" (180 : Nat) "BloodPrice$Case" "doer" "I") ∈ GW := gw_tab 564 (by decide +kernel) rfl
theorem tw_565 : (Jvm.Cond.fieldLink "BloodPrice$Case" (21 : Nat) "BloodPrice$Case" "victim" "I") ∈ GW := gw_tab 565 (by decide +kernel) rfl
theorem tw_566 : (Jvm.Cond.fieldLink "BloodPrice" (183 : Nat) "BloodPrice$Case" "victim" "I") ∈ GW := gw_tab 566 (by decide +kernel) rfl
theorem tw_567 : (Jvm.Cond.fieldLink "BloodPrice$Case" (24 : Nat) "BloodPrice$Case" "name" "J") ∈ GW := gw_tab 567 (by decide +kernel) rfl
theorem tw_568 : (Jvm.Cond.fieldLink "BloodPrice" (251 : Nat) "BloodPrice$Case" "name" "J") ∈ GW := gw_tab 568 (by decide +kernel) rfl
theorem tw_569 : (Jvm.Cond.fieldLink "BloodPrice$Case" (28 : Nat) "BloodPrice$Case" "day" "I") ∈ GW := gw_tab 569 (by decide +kernel) rfl
theorem tw_570 : (Jvm.Cond.fieldLink "BloodPrice" (186 : Nat) "BloodPrice$Case" "day" "I") ∈ GW := gw_tab 570 (by decide +kernel) rfl
theorem tw_571 : (Jvm.Cond.fieldLink "BloodPrice$Case" (31 : Nat) "BloodPrice$Case" "place" "I") ∈ GW := gw_tab 571 (by decide +kernel) rfl
theorem tw_572 : (Jvm.Cond.fieldLink "BloodPrice" (263 : Nat) "BloodPrice$Case" "place" "I") ∈ GW := gw_tab 572 (by decide +kernel) rfl
theorem tw_573 : (Jvm.Cond.fieldLink "BloodPrice$Case" (34 : Nat) "BloodPrice$Case" "night" "Z") ∈ GW := gw_tab 573 (by decide +kernel) rfl
theorem tw_574 : (Jvm.Cond.fieldLink "BloodPrice" (266 : Nat) "BloodPrice$Case" "night" "Z") ∈ GW := gw_tab 574 (by decide +kernel) rfl
theorem tw_575 : (Jvm.Cond.fieldLink "BloodPrice$Case" (9 : Nat) "BloodPrice$Case" "cleared" "I") ∈ GW := gw_tab 575 (by decide +kernel) rfl
theorem tw_576 : (Jvm.Cond.fieldLink "BloodPrice" (166 : Nat) "BloodPrice$Case" "cleared" "I") ∈ GW := gw_tab 576 (by decide +kernel) rfl
theorem tw_577 : (Jvm.Cond.fieldLink "BloodPrice$Case" (15 : Nat) "BloodPrice$Case" "judged" "I") ∈ GW := gw_tab 577 (by decide +kernel) rfl
theorem tw_578 : (Jvm.Cond.fieldLink "BloodPrice" (169 : Nat) "BloodPrice$Case" "judged" "I") ∈ GW := gw_tab 578 (by decide +kernel) rfl
theorem tw_579 : (Jvm.Cond.fieldLink "BloodPrice$Case" (41 : Nat) "BloodPrice$Case" "due" "I") ∈ GW := gw_tab 579 (by decide +kernel) rfl
theorem tw_580 : (Jvm.Cond.fieldLink "BloodPrice" (197 : Nat) "BloodPrice$Case" "due" "I") ∈ GW := gw_tab 580 (by decide +kernel) rfl
theorem tw_581 : (Jvm.Cond.fieldLink "BloodPrice$Case" (38 : Nat) "BloodPrice$Case" "terms" "I") ∈ GW := gw_tab 581 (by decide +kernel) rfl
theorem tw_582 : (Jvm.Cond.fieldLink "BloodPrice" (203 : Nat) "BloodPrice$Case" "terms" "I") ∈ GW := gw_tab 582 (by decide +kernel) rfl
theorem tw_583 : (Jvm.Cond.fieldLink "BloodPrice" (207 : Nat) "BloodPrice$Case" "termDays" "I") ∈ GW := gw_tab 583 (by decide +kernel) rfl
theorem tw_584 : (Jvm.Cond.laysFinal "BloodPrice$Case" "BloodPrice$Case" "doer" "I") ∈ GW := gw_tab 584 (by decide +kernel) rfl
theorem tw_585 : (Jvm.Cond.soleField "BloodPrice$Case" "doer") ∈ GW := gw_tab 585 (by decide +kernel) rfl
theorem tw_586 : (Jvm.Cond.laysFinal "BloodPrice$Case" "BloodPrice$Case" "victim" "I") ∈ GW := gw_tab 586 (by decide +kernel) rfl
theorem tw_587 : (Jvm.Cond.soleField "BloodPrice$Case" "victim") ∈ GW := gw_tab 587 (by decide +kernel) rfl
theorem tw_588 : (Jvm.Cond.laysFinal "BloodPrice$Case" "BloodPrice$Case" "name" "J") ∈ GW := gw_tab 588 (by decide +kernel) rfl
theorem tw_589 : (Jvm.Cond.soleField "BloodPrice$Case" "name") ∈ GW := gw_tab 589 (by decide +kernel) rfl
theorem tw_590 : (Jvm.Cond.laysFinal "BloodPrice$Case" "BloodPrice$Case" "day" "I") ∈ GW := gw_tab 590 (by decide +kernel) rfl
theorem tw_591 : (Jvm.Cond.soleField "BloodPrice$Case" "day") ∈ GW := gw_tab 591 (by decide +kernel) rfl
theorem tw_592 : (Jvm.Cond.laysFinal "BloodPrice$Case" "BloodPrice$Case" "place" "I") ∈ GW := gw_tab 592 (by decide +kernel) rfl
theorem tw_593 : (Jvm.Cond.soleField "BloodPrice$Case" "place") ∈ GW := gw_tab 593 (by decide +kernel) rfl
theorem tw_594 : (Jvm.Cond.laysFinal "BloodPrice$Case" "BloodPrice$Case" "night" "Z") ∈ GW := gw_tab 594 (by decide +kernel) rfl
theorem tw_595 : (Jvm.Cond.soleField "BloodPrice$Case" "night") ∈ GW := gw_tab 595 (by decide +kernel) rfl
theorem tw_596 : (Jvm.Cond.lays "BloodPrice$Case" "BloodPrice$Case" "cleared" "I") ∈ GW := gw_tab 596 (by decide +kernel) rfl
theorem tw_597 : (Jvm.Cond.soleField "BloodPrice$Case" "cleared") ∈ GW := gw_tab 597 (by decide +kernel) rfl
theorem tw_598 : (Jvm.Cond.lays "BloodPrice$Case" "BloodPrice$Case" "judged" "I") ∈ GW := gw_tab 598 (by decide +kernel) rfl
theorem tw_599 : (Jvm.Cond.soleField "BloodPrice$Case" "judged") ∈ GW := gw_tab 599 (by decide +kernel) rfl
theorem tw_600 : (Jvm.Cond.lays "BloodPrice$Case" "BloodPrice$Case" "due" "I") ∈ GW := gw_tab 600 (by decide +kernel) rfl
theorem tw_601 : (Jvm.Cond.soleField "BloodPrice$Case" "due") ∈ GW := gw_tab 601 (by decide +kernel) rfl
theorem tw_602 : (Jvm.Cond.lays "BloodPrice$Case" "BloodPrice$Case" "terms" "I") ∈ GW := gw_tab 602 (by decide +kernel) rfl
theorem tw_603 : (Jvm.Cond.soleField "BloodPrice$Case" "terms") ∈ GW := gw_tab 603 (by decide +kernel) rfl
theorem tw_604 : (Jvm.Cond.lays "BloodPrice$Case" "BloodPrice$Case" "termDays" "I") ∈ GW := gw_tab 604 (by decide +kernel) rfl
theorem tw_605 : (Jvm.Cond.soleField "BloodPrice$Case" "termDays") ∈ GW := gw_tab 605 (by decide +kernel) rfl
theorem tw_606 : (Jvm.Cond.superclass "BloodPrice$Case" "java/lang/Object") ∈ GW := gw_tab 606 (by decide +kernel) rfl
theorem tw_607 : (Jvm.Cond.methodLink "BloodPriceLaw" (74 : Nat) ({ cls := "BloodPrice", name := "sum", desc := "(II)I" } : Jvm.MethodName)) ∈ GW := gw_tab 607 (by decide +kernel) rfl
theorem tw_608 : (Jvm.Cond.instanceMethod ({ cls := "BloodPrice", name := "sum", desc := "(II)I" } : Jvm.MethodName)) ∈ GW := gw_tab 608 (by decide +kernel) rfl
theorem tw_609 : (Jvm.Cond.selects "BloodPrice" ({ cls := "BloodPrice", name := "sum", desc := "(II)I" } : Jvm.MethodName) ({ cls := "BloodPrice", name := "sum", desc := "(II)I" } : Jvm.MethodName)) ∈ GW := gw_tab 609 (by decide +kernel) rfl
theorem tw_610 : (Jvm.Cond.code ({ cls := "BloodPrice", name := "sum", desc := "(II)I" } : Jvm.MethodName) prog_1_method_16_code (4 : Nat) (Option.some Jvm.ClassFile.FieldType.int)) ∈ GW := gw_tab 610 (by decide +kernel) rfl
theorem tw_611 : (Jvm.Cond.methodLink "BloodPrice" (158 : Nat) ({ cls := "BloodPrice", name := "caseAt", desc := "(I)LBloodPrice$Case;" } : Jvm.MethodName)) ∈ GW := gw_tab 611 (by decide +kernel) rfl
theorem tw_613 : (Jvm.Cond.instanceMethod ({ cls := "BloodPrice", name := "caseAt", desc := "(I)LBloodPrice$Case;" } : Jvm.MethodName)) ∈ GW := gw_tab 613 (by decide +kernel) rfl
theorem tw_614 : (Jvm.Cond.code ({ cls := "BloodPrice", name := "caseAt", desc := "(I)LBloodPrice$Case;" } : Jvm.MethodName) prog_1_method_32_code (2 : Nat) (Option.some (Jvm.ClassFile.FieldType.object "BloodPrice$Case"))) ∈ GW := gw_tab 614 (by decide +kernel) rfl
theorem tw_615 : (Jvm.Cond.methodLink "BloodPrice" (162 : Nat) ({ cls := "BloodPrice", name := "sumAsKnown", desc := "(LBloodPrice$Case;I)I" } : Jvm.MethodName)) ∈ GW := gw_tab 615 (by decide +kernel) rfl
theorem tw_617 : (Jvm.Cond.instanceMethod ({ cls := "BloodPrice", name := "sumAsKnown", desc := "(LBloodPrice$Case;I)I" } : Jvm.MethodName)) ∈ GW := gw_tab 617 (by decide +kernel) rfl
theorem tw_618 : (Jvm.Cond.code ({ cls := "BloodPrice", name := "sumAsKnown", desc := "(LBloodPrice$Case;I)I" } : Jvm.MethodName) prog_1_method_35_code (5 : Nat) (Option.some Jvm.ClassFile.FieldType.int)) ∈ GW := gw_tab 618 (by decide +kernel) rfl
theorem tw_619 : (Jvm.Cond.methodLink "BloodPrice" (172 : Nat) ({ cls := "BloodPrice", name := "lawOfCase", desc := "(LBloodPrice$Case;)LBloodPrice$Law;" } : Jvm.MethodName)) ∈ GW := gw_tab 619 (by decide +kernel) rfl
theorem tw_621 : (Jvm.Cond.instanceMethod ({ cls := "BloodPrice", name := "lawOfCase", desc := "(LBloodPrice$Case;)LBloodPrice$Law;" } : Jvm.MethodName)) ∈ GW := gw_tab 621 (by decide +kernel) rfl
theorem tw_622 : (Jvm.Cond.code ({ cls := "BloodPrice", name := "lawOfCase", desc := "(LBloodPrice$Case;)LBloodPrice$Law;" } : Jvm.MethodName) prog_1_method_33_code (4 : Nat) (Option.some (Jvm.ClassFile.FieldType.object "BloodPrice$Law"))) ∈ GW := gw_tab 622 (by decide +kernel) rfl
theorem tw_623 : (Jvm.Cond.methodLink "BloodPrice" (237 : Nat) ({ cls := "BloodPrice$People", name := "folkOf", desc := "(I)I" } : Jvm.MethodName)) ∈ GW := gw_tab 623 (by decide +kernel) rfl
theorem tw_624 : (Jvm.Cond.instanceMethod ({ cls := "BloodPrice$People", name := "folkOf", desc := "(I)I" } : Jvm.MethodName)) ∈ GW := gw_tab 624 (by decide +kernel) rfl
theorem tw_625 : (Jvm.Cond.selects "BloodPrice$People" ({ cls := "BloodPrice$People", name := "folkOf", desc := "(I)I" } : Jvm.MethodName) ({ cls := "BloodPrice$People", name := "folkOf", desc := "(I)I" } : Jvm.MethodName)) ∈ GW := gw_tab 625 (by decide +kernel) rfl
theorem tw_626 : (Jvm.Cond.code ({ cls := "BloodPrice$People", name := "folkOf", desc := "(I)I" } : Jvm.MethodName) prog_5_method_5_code (2 : Nat) (Option.some Jvm.ClassFile.FieldType.int)) ∈ GW := gw_tab 626 (by decide +kernel) rfl
theorem tw_627 : (Jvm.Cond.methodLink "BloodPrice" (241 : Nat) ({ cls := "BloodPrice", name := "lawOn", desc := "(II)I" } : Jvm.MethodName)) ∈ GW := gw_tab 627 (by decide +kernel) rfl
theorem tw_628 : (Jvm.Cond.methodLink "BloodPrice" (255 : Nat) ({ cls := "BloodPrice", name := "gatherFacts", desc := "(LBloodPrice$Case;I)V" } : Jvm.MethodName)) ∈ GW := gw_tab 628 (by decide +kernel) rfl
theorem tw_630 : (Jvm.Cond.instanceMethod ({ cls := "BloodPrice", name := "gatherFacts", desc := "(LBloodPrice$Case;I)V" } : Jvm.MethodName)) ∈ GW := gw_tab 630 (by decide +kernel) rfl
theorem tw_631 : (Jvm.Cond.code ({ cls := "BloodPrice", name := "gatherFacts", desc := "(LBloodPrice$Case;I)V" } : Jvm.MethodName) prog_1_method_36_code (4 : Nat) (Option.none : Option Jvm.ClassFile.FieldType)) ∈ GW := gw_tab 631 (by decide +kernel) rfl
theorem tw_632 : (Jvm.Cond.methodLink "BloodPrice" (189 : Nat) ({ cls := "BloodPrice", name := "truceBroken", desc := "(LBloodPrice$Case;)Z" } : Jvm.MethodName)) ∈ GW := gw_tab 632 (by decide +kernel) rfl
theorem tw_634 : (Jvm.Cond.instanceMethod ({ cls := "BloodPrice", name := "truceBroken", desc := "(LBloodPrice$Case;)Z" } : Jvm.MethodName)) ∈ GW := gw_tab 634 (by decide +kernel) rfl
theorem tw_635 : (Jvm.Cond.code ({ cls := "BloodPrice", name := "truceBroken", desc := "(LBloodPrice$Case;)Z" } : Jvm.MethodName) prog_1_method_34_code (2 : Nat) (Option.some Jvm.ClassFile.FieldType.boolean)) ∈ GW := gw_tab 635 (by decide +kernel) rfl
theorem tw_636 : (Jvm.Cond.methodLink "BloodPrice" (244 : Nat) ({ cls := "BloodPrice$Truces", name := "held", desc := "(III)Z" } : Jvm.MethodName)) ∈ GW := gw_tab 636 (by decide +kernel) rfl
theorem tw_637 : (Jvm.Cond.instanceMethod ({ cls := "BloodPrice$Truces", name := "held", desc := "(III)Z" } : Jvm.MethodName)) ∈ GW := gw_tab 637 (by decide +kernel) rfl
theorem tw_638 : (Jvm.Cond.selects "BloodPrice$Truces" ({ cls := "BloodPrice$Truces", name := "held", desc := "(III)Z" } : Jvm.MethodName) ({ cls := "BloodPrice$Truces", name := "held", desc := "(III)Z" } : Jvm.MethodName)) ∈ GW := gw_tab 638 (by decide +kernel) rfl
theorem tw_639 : (Jvm.Cond.code ({ cls := "BloodPrice$Truces", name := "held", desc := "(III)Z" } : Jvm.MethodName) prog_9_method_3_code (6 : Nat) (Option.some Jvm.ClassFile.FieldType.boolean)) ∈ GW := gw_tab 639 (by decide +kernel) rfl
theorem tw_640 : (Jvm.Cond.methodLink "BloodPrice" (259 : Nat) ({ cls := "BloodPrice$Law", name := "priceOf", desc := "(I[I)I" } : Jvm.MethodName)) ∈ GW := gw_tab 640 (by decide +kernel) rfl
theorem tw_641 : (Jvm.Cond.instanceMethod ({ cls := "BloodPrice$Law", name := "priceOf", desc := "(I[I)I" } : Jvm.MethodName)) ∈ GW := gw_tab 641 (by decide +kernel) rfl
theorem tw_642 : (Jvm.Cond.selects "BloodPrice$Law" ({ cls := "BloodPrice$Law", name := "priceOf", desc := "(I[I)I" } : Jvm.MethodName) ({ cls := "BloodPrice$Law", name := "priceOf", desc := "(I[I)I" } : Jvm.MethodName)) ∈ GW := gw_tab 642 (by decide +kernel) rfl
theorem tw_643 : (Jvm.Cond.code ({ cls := "BloodPrice$Law", name := "priceOf", desc := "(I[I)I" } : Jvm.MethodName) prog_3_method_6_code (6 : Nat) (Option.some Jvm.ClassFile.FieldType.int)) ∈ GW := gw_tab 643 (by decide +kernel) rfl
theorem tw_644 : (Jvm.Cond.methodLink "BloodPrice$Law" (56 : Nat) ({ cls := "BloodPrice$Law", name := "holds", desc := "(II[I)Z" } : Jvm.MethodName)) ∈ GW := gw_tab 644 (by decide +kernel) rfl
theorem tw_646 : (Jvm.Cond.instanceMethod ({ cls := "BloodPrice$Law", name := "holds", desc := "(II[I)Z" } : Jvm.MethodName)) ∈ GW := gw_tab 646 (by decide +kernel) rfl
theorem tw_647 : (Jvm.Cond.code ({ cls := "BloodPrice$Law", name := "holds", desc := "(II[I)Z" } : Jvm.MethodName) prog_3_method_8_code (7 : Nat) (Option.some Jvm.ClassFile.FieldType.boolean)) ∈ GW := gw_tab 647 (by decide +kernel) rfl
theorem tw_648 : (Jvm.Cond.methodLink "BloodPrice$Law" (74 : Nat) ({ cls := "BloodPrice$Law", name := "operand", desc := "(I[I)I" } : Jvm.MethodName)) ∈ GW := gw_tab 648 (by decide +kernel) rfl
theorem tw_649 : (Jvm.Cond.static ({ cls := "BloodPrice$Law", name := "operand", desc := "(I[I)I" } : Jvm.MethodName)) ∈ GW := gw_tab 649 (by decide +kernel) rfl
theorem tw_650 : (Jvm.Cond.code ({ cls := "BloodPrice$Law", name := "operand", desc := "(I[I)I" } : Jvm.MethodName) prog_3_method_9_code (3 : Nat) (Option.some Jvm.ClassFile.FieldType.int)) ∈ GW := gw_tab 650 (by decide +kernel) rfl
theorem tw_651 : (Jvm.Cond.methodLink "BloodPrice$Law" (78 : Nat) ({ cls := "BloodPrice$Law", name := "joined", desc := "(III)Z" } : Jvm.MethodName)) ∈ GW := gw_tab 651 (by decide +kernel) rfl
theorem tw_652 : (Jvm.Cond.static ({ cls := "BloodPrice$Law", name := "joined", desc := "(III)Z" } : Jvm.MethodName)) ∈ GW := gw_tab 652 (by decide +kernel) rfl
theorem tw_653 : (Jvm.Cond.code ({ cls := "BloodPrice$Law", name := "joined", desc := "(III)Z" } : Jvm.MethodName) prog_3_method_10_code (3 : Nat) (Option.some Jvm.ClassFile.FieldType.boolean)) ∈ GW := gw_tab 653 (by decide +kernel) rfl
theorem tw_654 : (Jvm.Cond.methodLink "BloodPrice$Law" (60 : Nat) ({ cls := "BloodPrice$Law", name := "changed", desc := "(III)I" } : Jvm.MethodName)) ∈ GW := gw_tab 654 (by decide +kernel) rfl
theorem tw_655 : (Jvm.Cond.static ({ cls := "BloodPrice$Law", name := "changed", desc := "(III)I" } : Jvm.MethodName)) ∈ GW := gw_tab 655 (by decide +kernel) rfl
theorem tw_656 : (Jvm.Cond.code ({ cls := "BloodPrice$Law", name := "changed", desc := "(III)I" } : Jvm.MethodName) prog_3_method_7_code (3 : Nat) (Option.some Jvm.ClassFile.FieldType.int)) ∈ GW := gw_tab 656 (by decide +kernel) rfl
theorem tw_657 : (Jvm.Cond.constant "BloodPrice$Law" (64 : Nat) (10000000 : Int32)) ∈ GW := gw_tab 657 (by decide +kernel) rfl
theorem tw_658 : (Jvm.Cond.methodLink "BloodPrice$Law" (65 : Nat) ({ cls := "java/lang/Math", name := "min", desc := "(II)I" } : Jvm.MethodName)) ∈ GW := gw_tab 658 (by decide +kernel) rfl
theorem tw_659 : (Jvm.Cond.static ({ cls := "java/lang/Math", name := "min", desc := "(II)I" } : Jvm.MethodName)) ∈ GW := gw_tab 659 (by decide +kernel) rfl
theorem tw_660 : (Jvm.Cond.code ({ cls := "java/lang/Math", name := "min", desc := "(II)I" } : Jvm.MethodName) prog_13_method_69_code (2 : Nat) (Option.some Jvm.ClassFile.FieldType.int)) ∈ GW := gw_tab 660 (by decide +kernel) rfl
theorem tw_661 : (Jvm.Cond.methodLink "BloodPrice$Law" (71 : Nat) ({ cls := "java/lang/Math", name := "max", desc := "(II)I" } : Jvm.MethodName)) ∈ GW := gw_tab 661 (by decide +kernel) rfl
theorem tw_662 : (Jvm.Cond.static ({ cls := "java/lang/Math", name := "max", desc := "(II)I" } : Jvm.MethodName)) ∈ GW := gw_tab 662 (by decide +kernel) rfl
theorem tw_663 : (Jvm.Cond.code ({ cls := "java/lang/Math", name := "max", desc := "(II)I" } : Jvm.MethodName) prog_13_method_65_code (2 : Nat) (Option.some Jvm.ClassFile.FieldType.int)) ∈ GW := gw_tab 663 (by decide +kernel) rfl
theorem tw_664 : (Jvm.Cond.methodLink "BloodPriceLaw" (78 : Nat) ({ cls := "BloodPrice", name := "oath", desc := "(II)I" } : Jvm.MethodName)) ∈ GW := gw_tab 664 (by decide +kernel) rfl
theorem tw_665 : (Jvm.Cond.instanceMethod ({ cls := "BloodPrice", name := "oath", desc := "(II)I" } : Jvm.MethodName)) ∈ GW := gw_tab 665 (by decide +kernel) rfl
theorem tw_666 : (Jvm.Cond.selects "BloodPrice" ({ cls := "BloodPrice", name := "oath", desc := "(II)I" } : Jvm.MethodName) ({ cls := "BloodPrice", name := "oath", desc := "(II)I" } : Jvm.MethodName)) ∈ GW := gw_tab 666 (by decide +kernel) rfl
theorem tw_667 : (Jvm.Cond.code ({ cls := "BloodPrice", name := "oath", desc := "(II)I" } : Jvm.MethodName) prog_1_method_17_code (5 : Nat) (Option.some Jvm.ClassFile.FieldType.int)) ∈ GW := gw_tab 667 (by decide +kernel) rfl
theorem tw_668 : (Jvm.Cond.methodLink "BloodPrice" (176 : Nat) ({ cls := "BloodPrice", name := "oathStands", desc := "(LBloodPrice$Case;LBloodPrice$Law;I)Z" } : Jvm.MethodName)) ∈ GW := gw_tab 668 (by decide +kernel) rfl
theorem tw_670 : (Jvm.Cond.instanceMethod ({ cls := "BloodPrice", name := "oathStands", desc := "(LBloodPrice$Case;LBloodPrice$Law;I)Z" } : Jvm.MethodName)) ∈ GW := gw_tab 670 (by decide +kernel) rfl
theorem tw_671 : (Jvm.Cond.code ({ cls := "BloodPrice", name := "oathStands", desc := "(LBloodPrice$Case;LBloodPrice$Law;I)Z" } : Jvm.MethodName) prog_1_method_37_code (5 : Nat) (Option.some Jvm.ClassFile.FieldType.boolean)) ∈ GW := gw_tab 671 (by decide +kernel) rfl
theorem tw_672 : (Jvm.Cond.methodLink "BloodPrice" (270 : Nat) ({ cls := "java/lang/Integer", name := "bitCount", desc := "(I)I" } : Jvm.MethodName)) ∈ GW := gw_tab 672 (by decide +kernel) rfl
theorem tw_673 : (Jvm.Cond.static ({ cls := "java/lang/Integer", name := "bitCount", desc := "(I)I" } : Jvm.MethodName)) ∈ GW := gw_tab 673 (by decide +kernel) rfl
theorem tw_674 : (Jvm.Cond.code ({ cls := "java/lang/Integer", name := "bitCount", desc := "(I)I" } : Jvm.MethodName) prog_12_method_49_code (1 : Nat) (Option.some Jvm.ClassFile.FieldType.int)) ∈ GW := gw_tab 674 (by decide +kernel) rfl
theorem tw_675 : (Jvm.Cond.constant "java/lang/Integer" (265 : Nat) (1431655765 : Int32)) ∈ GW := gw_tab 675 (by decide +kernel) rfl
theorem tw_676 : (Jvm.Cond.constant "java/lang/Integer" (266 : Nat) (858993459 : Int32)) ∈ GW := gw_tab 676 (by decide +kernel) rfl
theorem tw_677 : (Jvm.Cond.constant "java/lang/Integer" (267 : Nat) (252645135 : Int32)) ∈ GW := gw_tab 677 (by decide +kernel) rfl
theorem tw_678 : (Jvm.Cond.methodLink "BloodPrice" (278 : Nat) ({ cls := "BloodPrice$People", name := "measureFrom", desc := "(I)V" } : Jvm.MethodName)) ∈ GW := gw_tab 678 (by decide +kernel) rfl
theorem tw_679 : (Jvm.Cond.methodLink "BloodPrice" (281 : Nat) ({ cls := "BloodPrice", name := "maySwear", desc := "(LBloodPrice$Case;LBloodPrice$Law;I)Z" } : Jvm.MethodName)) ∈ GW := gw_tab 679 (by decide +kernel) rfl
theorem tw_681 : (Jvm.Cond.instanceMethod ({ cls := "BloodPrice", name := "maySwear", desc := "(LBloodPrice$Case;LBloodPrice$Law;I)Z" } : Jvm.MethodName)) ∈ GW := gw_tab 681 (by decide +kernel) rfl
theorem tw_682 : (Jvm.Cond.code ({ cls := "BloodPrice", name := "maySwear", desc := "(LBloodPrice$Case;LBloodPrice$Law;I)Z" } : Jvm.MethodName) prog_1_method_38_code (4 : Nat) (Option.some Jvm.ClassFile.FieldType.boolean)) ∈ GW := gw_tab 682 (by decide +kernel) rfl
theorem tw_683 : (Jvm.Cond.methodLink "BloodPrice" (284 : Nat) ({ cls := "BloodPrice$People", name := "deadOn", desc := "(II)Z" } : Jvm.MethodName)) ∈ GW := gw_tab 683 (by decide +kernel) rfl
theorem tw_684 : (Jvm.Cond.instanceMethod ({ cls := "BloodPrice$People", name := "deadOn", desc := "(II)Z" } : Jvm.MethodName)) ∈ GW := gw_tab 684 (by decide +kernel) rfl
theorem tw_685 : (Jvm.Cond.selects "BloodPrice$People" ({ cls := "BloodPrice$People", name := "deadOn", desc := "(II)Z" } : Jvm.MethodName) ({ cls := "BloodPrice$People", name := "deadOn", desc := "(II)Z" } : Jvm.MethodName)) ∈ GW := gw_tab 685 (by decide +kernel) rfl
theorem tw_686 : (Jvm.Cond.code ({ cls := "BloodPrice$People", name := "deadOn", desc := "(II)Z" } : Jvm.MethodName) prog_5_method_7_code (3 : Nat) (Option.some Jvm.ClassFile.FieldType.boolean)) ∈ GW := gw_tab 686 (by decide +kernel) rfl
theorem tw_687 : (Jvm.Cond.methodLink "BloodPriceLaw" (82 : Nat) ({ cls := "BloodPrice", name := "of", desc := "(II)I" } : Jvm.MethodName)) ∈ GW := gw_tab 687 (by decide +kernel) rfl
theorem tw_688 : (Jvm.Cond.instanceMethod ({ cls := "BloodPrice", name := "of", desc := "(II)I" } : Jvm.MethodName)) ∈ GW := gw_tab 688 (by decide +kernel) rfl
theorem tw_689 : (Jvm.Cond.selects "BloodPrice" ({ cls := "BloodPrice", name := "of", desc := "(II)I" } : Jvm.MethodName) ({ cls := "BloodPrice", name := "of", desc := "(II)I" } : Jvm.MethodName)) ∈ GW := gw_tab 689 (by decide +kernel) rfl
theorem tw_690 : (Jvm.Cond.code ({ cls := "BloodPrice", name := "of", desc := "(II)I" } : Jvm.MethodName) prog_1_method_18_code (4 : Nat) (Option.some Jvm.ClassFile.FieldType.int)) ∈ GW := gw_tab 690 (by decide +kernel) rfl
theorem tw_691 : (Jvm.Cond.methodLink "BloodPriceLaw" (86 : Nat) ({ cls := "BloodPrice", name := "pays", desc := "(III)I" } : Jvm.MethodName)) ∈ GW := gw_tab 691 (by decide +kernel) rfl
theorem tw_692 : (Jvm.Cond.instanceMethod ({ cls := "BloodPrice", name := "pays", desc := "(III)I" } : Jvm.MethodName)) ∈ GW := gw_tab 692 (by decide +kernel) rfl
theorem tw_693 : (Jvm.Cond.selects "BloodPrice" ({ cls := "BloodPrice", name := "pays", desc := "(III)I" } : Jvm.MethodName) ({ cls := "BloodPrice", name := "pays", desc := "(III)I" } : Jvm.MethodName)) ∈ GW := gw_tab 693 (by decide +kernel) rfl
theorem tw_694 : (Jvm.Cond.code ({ cls := "BloodPrice", name := "pays", desc := "(III)I" } : Jvm.MethodName) prog_1_method_19_code (5 : Nat) (Option.some Jvm.ClassFile.FieldType.int)) ∈ GW := gw_tab 694 (by decide +kernel) rfl
theorem tw_695 : (Jvm.Cond.methodLink "BloodPrice" (193 : Nat) ({ cls := "BloodPrice", name := "partOf", desc := "(LBloodPrice$Case;IIII)I" } : Jvm.MethodName)) ∈ GW := gw_tab 695 (by decide +kernel) rfl
theorem tw_697 : (Jvm.Cond.instanceMethod ({ cls := "BloodPrice", name := "partOf", desc := "(LBloodPrice$Case;IIII)I" } : Jvm.MethodName)) ∈ GW := gw_tab 697 (by decide +kernel) rfl
theorem tw_698 : (Jvm.Cond.code ({ cls := "BloodPrice", name := "partOf", desc := "(LBloodPrice$Case;IIII)I" } : Jvm.MethodName) prog_1_method_39_code (12 : Nat) (Option.some Jvm.ClassFile.FieldType.int)) ∈ GW := gw_tab 698 (by decide +kernel) rfl
theorem tw_699 : (Jvm.Cond.methodLink "BloodPrice" (293 : Nat) ({ cls := "BloodPrice$People", name := "pickSharers", desc := "(IIII)V" } : Jvm.MethodName)) ∈ GW := gw_tab 699 (by decide +kernel) rfl
theorem tw_700 : (Jvm.Cond.instanceMethod ({ cls := "BloodPrice$People", name := "pickSharers", desc := "(IIII)V" } : Jvm.MethodName)) ∈ GW := gw_tab 700 (by decide +kernel) rfl
theorem tw_701 : (Jvm.Cond.selects "BloodPrice$People" ({ cls := "BloodPrice$People", name := "pickSharers", desc := "(IIII)V" } : Jvm.MethodName) ({ cls := "BloodPrice$People", name := "pickSharers", desc := "(IIII)V" } : Jvm.MethodName)) ∈ GW := gw_tab 701 (by decide +kernel) rfl
theorem tw_702 : (Jvm.Cond.code ({ cls := "BloodPrice$People", name := "pickSharers", desc := "(IIII)V" } : Jvm.MethodName) prog_5_method_11_code (6 : Nat) (Option.none : Option Jvm.ClassFile.FieldType)) ∈ GW := gw_tab 702 (by decide +kernel) rfl
theorem tw_703 : (Jvm.Cond.methodLink "BloodPrice$People" (50 : Nat) ({ cls := "BloodPrice$People", name := "folkOf", desc := "(I)I" } : Jvm.MethodName)) ∈ GW := gw_tab 703 (by decide +kernel) rfl
theorem tw_704 : (Jvm.Cond.methodLink "BloodPrice$People" (54 : Nat) ({ cls := "BloodPrice$People", name := "deadOn", desc := "(II)Z" } : Jvm.MethodName)) ∈ GW := gw_tab 704 (by decide +kernel) rfl
theorem tw_705 : (Jvm.Cond.methodLink "BloodPrice" (300 : Nat) ({ cls := "BloodPrice$Law", name := "partOfDegree", desc := "(II)I" } : Jvm.MethodName)) ∈ GW := gw_tab 705 (by decide +kernel) rfl
theorem tw_706 : (Jvm.Cond.instanceMethod ({ cls := "BloodPrice$Law", name := "partOfDegree", desc := "(II)I" } : Jvm.MethodName)) ∈ GW := gw_tab 706 (by decide +kernel) rfl
theorem tw_707 : (Jvm.Cond.selects "BloodPrice$Law" ({ cls := "BloodPrice$Law", name := "partOfDegree", desc := "(II)I" } : Jvm.MethodName) ({ cls := "BloodPrice$Law", name := "partOfDegree", desc := "(II)I" } : Jvm.MethodName)) ∈ GW := gw_tab 707 (by decide +kernel) rfl
theorem tw_708 : (Jvm.Cond.code ({ cls := "BloodPrice$Law", name := "partOfDegree", desc := "(II)I" } : Jvm.MethodName) prog_3_method_5_code (4 : Nat) (Option.some Jvm.ClassFile.FieldType.int)) ∈ GW := gw_tab 708 (by decide +kernel) rfl
theorem tw_709 : (Jvm.Cond.methodLink "BloodPriceLaw" (90 : Nat) ({ cls := "BloodPrice", name := "has", desc := "(III)I" } : Jvm.MethodName)) ∈ GW := gw_tab 709 (by decide +kernel) rfl
theorem tw_710 : (Jvm.Cond.instanceMethod ({ cls := "BloodPrice", name := "has", desc := "(III)I" } : Jvm.MethodName)) ∈ GW := gw_tab 710 (by decide +kernel) rfl
theorem tw_711 : (Jvm.Cond.selects "BloodPrice" ({ cls := "BloodPrice", name := "has", desc := "(III)I" } : Jvm.MethodName) ({ cls := "BloodPrice", name := "has", desc := "(III)I" } : Jvm.MethodName)) ∈ GW := gw_tab 711 (by decide +kernel) rfl
theorem tw_712 : (Jvm.Cond.code ({ cls := "BloodPrice", name := "has", desc := "(III)I" } : Jvm.MethodName) prog_1_method_20_code (5 : Nat) (Option.some Jvm.ClassFile.FieldType.int)) ∈ GW := gw_tab 712 (by decide +kernel) rfl
theorem tw_713 : (Jvm.Cond.methodLink "BloodPriceLaw" (94 : Nat) ({ cls := "BloodPrice", name := "judge", desc := "(I)I" } : Jvm.MethodName)) ∈ GW := gw_tab 713 (by decide +kernel) rfl
theorem tw_714 : (Jvm.Cond.instanceMethod ({ cls := "BloodPrice", name := "judge", desc := "(I)I" } : Jvm.MethodName)) ∈ GW := gw_tab 714 (by decide +kernel) rfl
theorem tw_715 : (Jvm.Cond.selects "BloodPrice" ({ cls := "BloodPrice", name := "judge", desc := "(I)I" } : Jvm.MethodName) ({ cls := "BloodPrice", name := "judge", desc := "(I)I" } : Jvm.MethodName)) ∈ GW := gw_tab 715 (by decide +kernel) rfl
theorem tw_716 : (Jvm.Cond.code ({ cls := "BloodPrice", name := "judge", desc := "(I)I" } : Jvm.MethodName) prog_1_method_21_code (5 : Nat) (Option.some Jvm.ClassFile.FieldType.int)) ∈ GW := gw_tab 716 (by decide +kernel) rfl
theorem tw_717 : (Jvm.Cond.methodLink "BloodPriceLaw" (98 : Nat) ({ cls := "BloodPrice", name := "rate", desc := "(II)Z" } : Jvm.MethodName)) ∈ GW := gw_tab 717 (by decide +kernel) rfl
theorem tw_718 : (Jvm.Cond.instanceMethod ({ cls := "BloodPrice", name := "rate", desc := "(II)Z" } : Jvm.MethodName)) ∈ GW := gw_tab 718 (by decide +kernel) rfl
theorem tw_719 : (Jvm.Cond.selects "BloodPrice" ({ cls := "BloodPrice", name := "rate", desc := "(II)Z" } : Jvm.MethodName) ({ cls := "BloodPrice", name := "rate", desc := "(II)Z" } : Jvm.MethodName)) ∈ GW := gw_tab 719 (by decide +kernel) rfl
theorem tw_720 : (Jvm.Cond.code ({ cls := "BloodPrice", name := "rate", desc := "(II)Z" } : Jvm.MethodName) prog_1_method_22_code (3 : Nat) (Option.some Jvm.ClassFile.FieldType.boolean)) ∈ GW := gw_tab 720 (by decide +kernel) rfl
theorem tw_721 : (Jvm.Cond.methodLink "BloodPrice" (208 : Nat) ({ cls := "BloodPrice", name := "isKind", desc := "(I)Z" } : Jvm.MethodName)) ∈ GW := gw_tab 721 (by decide +kernel) rfl
theorem tw_722 : (Jvm.Cond.static ({ cls := "BloodPrice", name := "isKind", desc := "(I)Z" } : Jvm.MethodName)) ∈ GW := gw_tab 722 (by decide +kernel) rfl
theorem tw_723 : (Jvm.Cond.code ({ cls := "BloodPrice", name := "isKind", desc := "(I)Z" } : Jvm.MethodName) prog_1_method_28_code (1 : Nat) (Option.some Jvm.ClassFile.FieldType.boolean)) ∈ GW := gw_tab 723 (by decide +kernel) rfl
theorem tw_724 : (Jvm.Cond.methodLink "BloodPriceLaw" (102 : Nat) ({ cls := "BloodPrice", name := "pay", desc := "(III)I" } : Jvm.MethodName)) ∈ GW := gw_tab 724 (by decide +kernel) rfl
theorem tw_725 : (Jvm.Cond.instanceMethod ({ cls := "BloodPrice", name := "pay", desc := "(III)I" } : Jvm.MethodName)) ∈ GW := gw_tab 725 (by decide +kernel) rfl
theorem tw_726 : (Jvm.Cond.selects "BloodPrice" ({ cls := "BloodPrice", name := "pay", desc := "(III)I" } : Jvm.MethodName) ({ cls := "BloodPrice", name := "pay", desc := "(III)I" } : Jvm.MethodName)) ∈ GW := gw_tab 726 (by decide +kernel) rfl
theorem tw_727 : (Jvm.Cond.code ({ cls := "BloodPrice", name := "pay", desc := "(III)I" } : Jvm.MethodName) prog_1_method_23_code (5 : Nat) (Option.some Jvm.ClassFile.FieldType.int)) ∈ GW := gw_tab 727 (by decide +kernel) rfl
theorem tw_728 : (Jvm.Cond.methodLink "BloodPrice" (214 : Nat) ({ cls := "BloodPrice$Payments", name := "add", desc := "(III)I" } : Jvm.MethodName)) ∈ GW := gw_tab 728 (by decide +kernel) rfl
theorem tw_729 : (Jvm.Cond.instanceMethod ({ cls := "BloodPrice$Payments", name := "add", desc := "(III)I" } : Jvm.MethodName)) ∈ GW := gw_tab 729 (by decide +kernel) rfl
theorem tw_730 : (Jvm.Cond.selects "BloodPrice$Payments" ({ cls := "BloodPrice$Payments", name := "add", desc := "(III)I" } : Jvm.MethodName) ({ cls := "BloodPrice$Payments", name := "add", desc := "(III)I" } : Jvm.MethodName)) ∈ GW := gw_tab 730 (by decide +kernel) rfl
theorem tw_731 : (Jvm.Cond.code ({ cls := "BloodPrice$Payments", name := "add", desc := "(III)I" } : Jvm.MethodName) prog_4_method_2_code (4 : Nat) (Option.some Jvm.ClassFile.FieldType.int)) ∈ GW := gw_tab 731 (by decide +kernel) rfl
theorem tw_732 : (Jvm.Cond.methodLink "BloodPriceLaw" (106 : Nat) ({ cls := "BloodPrice", name := "owed", desc := "(II)I" } : Jvm.MethodName)) ∈ GW := gw_tab 732 (by decide +kernel) rfl
theorem tw_733 : (Jvm.Cond.instanceMethod ({ cls := "BloodPrice", name := "owed", desc := "(II)I" } : Jvm.MethodName)) ∈ GW := gw_tab 733 (by decide +kernel) rfl
theorem tw_734 : (Jvm.Cond.selects "BloodPrice" ({ cls := "BloodPrice", name := "owed", desc := "(II)I" } : Jvm.MethodName) ({ cls := "BloodPrice", name := "owed", desc := "(II)I" } : Jvm.MethodName)) ∈ GW := gw_tab 734 (by decide +kernel) rfl
theorem tw_735 : (Jvm.Cond.code ({ cls := "BloodPrice", name := "owed", desc := "(II)I" } : Jvm.MethodName) prog_1_method_24_code (4 : Nat) (Option.some Jvm.ClassFile.FieldType.int)) ∈ GW := gw_tab 735 (by decide +kernel) rfl
theorem tw_736 : (Jvm.Cond.constant "BloodPrice" (215 : Nat) (-2000000001 : Int32)) ∈ GW := gw_tab 736 (by decide +kernel) rfl
theorem tw_737 : (Jvm.Cond.methodLink "BloodPrice" (216 : Nat) ({ cls := "BloodPrice", name := "owedOn", desc := "(LBloodPrice$Case;II)I" } : Jvm.MethodName)) ∈ GW := gw_tab 737 (by decide +kernel) rfl
theorem tw_739 : (Jvm.Cond.instanceMethod ({ cls := "BloodPrice", name := "owedOn", desc := "(LBloodPrice$Case;II)I" } : Jvm.MethodName)) ∈ GW := gw_tab 739 (by decide +kernel) rfl
theorem tw_740 : (Jvm.Cond.code ({ cls := "BloodPrice", name := "owedOn", desc := "(LBloodPrice$Case;II)I" } : Jvm.MethodName) prog_1_method_40_code (8 : Nat) (Option.some Jvm.ClassFile.FieldType.int)) ∈ GW := gw_tab 740 (by decide +kernel) rfl
theorem tw_741 : (Jvm.Cond.methodLink "BloodPrice" (307 : Nat) ({ cls := "BloodPrice$Case", name := "dueIn", desc := "(I)I" } : Jvm.MethodName)) ∈ GW := gw_tab 741 (by decide +kernel) rfl
theorem tw_742 : (Jvm.Cond.instanceMethod ({ cls := "BloodPrice$Case", name := "dueIn", desc := "(I)I" } : Jvm.MethodName)) ∈ GW := gw_tab 742 (by decide +kernel) rfl
theorem tw_743 : (Jvm.Cond.selects "BloodPrice$Case" ({ cls := "BloodPrice$Case", name := "dueIn", desc := "(I)I" } : Jvm.MethodName) ({ cls := "BloodPrice$Case", name := "dueIn", desc := "(I)I" } : Jvm.MethodName)) ∈ GW := gw_tab 743 (by decide +kernel) rfl
theorem tw_744 : (Jvm.Cond.code ({ cls := "BloodPrice$Case", name := "dueIn", desc := "(I)I" } : Jvm.MethodName) prog_2_method_2_code (2 : Nat) (Option.some Jvm.ClassFile.FieldType.int)) ∈ GW := gw_tab 744 (by decide +kernel) rfl
theorem tw_745 : (Jvm.Cond.methodLink "BloodPrice" (310 : Nat) ({ cls := "BloodPrice$Payments", name := "paid", desc := "(III)I" } : Jvm.MethodName)) ∈ GW := gw_tab 745 (by decide +kernel) rfl
theorem tw_746 : (Jvm.Cond.instanceMethod ({ cls := "BloodPrice$Payments", name := "paid", desc := "(III)I" } : Jvm.MethodName)) ∈ GW := gw_tab 746 (by decide +kernel) rfl
theorem tw_747 : (Jvm.Cond.selects "BloodPrice$Payments" ({ cls := "BloodPrice$Payments", name := "paid", desc := "(III)I" } : Jvm.MethodName) ({ cls := "BloodPrice$Payments", name := "paid", desc := "(III)I" } : Jvm.MethodName)) ∈ GW := gw_tab 747 (by decide +kernel) rfl
theorem tw_748 : (Jvm.Cond.code ({ cls := "BloodPrice$Payments", name := "paid", desc := "(III)I" } : Jvm.MethodName) prog_4_method_3_code (6 : Nat) (Option.some Jvm.ClassFile.FieldType.int)) ∈ GW := gw_tab 748 (by decide +kernel) rfl
theorem tw_749 : (Jvm.Cond.methodLink "BloodPriceLaw" (110 : Nat) ({ cls := "BloodPrice", name := "about", desc := "(I)I" } : Jvm.MethodName)) ∈ GW := gw_tab 749 (by decide +kernel) rfl
theorem tw_750 : (Jvm.Cond.instanceMethod ({ cls := "BloodPrice", name := "about", desc := "(I)I" } : Jvm.MethodName)) ∈ GW := gw_tab 750 (by decide +kernel) rfl
theorem tw_751 : (Jvm.Cond.selects "BloodPrice" ({ cls := "BloodPrice", name := "about", desc := "(I)I" } : Jvm.MethodName) ({ cls := "BloodPrice", name := "about", desc := "(I)I" } : Jvm.MethodName)) ∈ GW := gw_tab 751 (by decide +kernel) rfl
theorem tw_752 : (Jvm.Cond.code ({ cls := "BloodPrice", name := "about", desc := "(I)I" } : Jvm.MethodName) prog_1_method_25_code (2 : Nat) (Option.some Jvm.ClassFile.FieldType.int)) ∈ GW := gw_tab 752 (by decide +kernel) rfl
theorem tw_753 : (Jvm.Cond.classLink "BloodPriceLaw" (10 : Nat) "BloodPriceModel") ∈ GW := gw_tab 753 (by decide +kernel) rfl
theorem tw_754 : (Jvm.Cond.instantiable "BloodPriceModel" (75 : Nat)) ∈ GW := gw_tab 754 (by decide +kernel) rfl
theorem tw_755 : (Jvm.Cond.methodLink "BloodPriceLaw" (12 : Nat) ({ cls := "BloodPriceModel", name := "<init>", desc := "()V" } : Jvm.MethodName)) ∈ GW := gw_tab 755 (by decide +kernel) rfl
theorem tw_756 : (Jvm.Cond.instanceMethod ({ cls := "BloodPriceModel", name := "<init>", desc := "()V" } : Jvm.MethodName)) ∈ GW := gw_tab 756 (by decide +kernel) rfl
theorem tw_757 : (Jvm.Cond.code ({ cls := "BloodPriceModel", name := "<init>", desc := "()V" } : Jvm.MethodName) prog_11_method_1_code (1 : Nat) (Option.none : Option Jvm.ClassFile.FieldType)) ∈ GW := gw_tab 757 (by decide +kernel) rfl
theorem tw_758 : (Jvm.Cond.methodLink "BloodPriceModel" (1 : Nat) ({ cls := "java/lang/Object", name := "<init>", desc := "()V" } : Jvm.MethodName)) ∈ GW := gw_tab 758 (by decide +kernel) rfl
theorem tw_759 : (Jvm.Cond.fieldLink "BloodPriceModel" (7 : Nat) "BloodPriceModel" "tape" "[B") ∈ GW := gw_tab 759 (by decide +kernel) rfl
theorem tw_760 : (Jvm.Cond.fieldLink "BloodPriceModel" (13 : Nat) "BloodPriceModel" "src" "[B") ∈ GW := gw_tab 760 (by decide +kernel) rfl
theorem tw_761 : (Jvm.Cond.fieldLink "BloodPriceModel" (277 : Nat) "BloodPriceModel" "taped" "I") ∈ GW := gw_tab 761 (by decide +kernel) rfl
theorem tw_762 : (Jvm.Cond.fieldLink "BloodPriceModel" (176 : Nat) "BloodPriceModel" "size" "I") ∈ GW := gw_tab 762 (by decide +kernel) rfl
theorem tw_763 : (Jvm.Cond.fieldLink "BloodPriceModel" (179 : Nat) "BloodPriceModel" "faultKind" "I") ∈ GW := gw_tab 763 (by decide +kernel) rfl
theorem tw_764 : (Jvm.Cond.fieldLink "BloodPriceModel" (16 : Nat) "BloodPriceModel" "faultPlace" "I") ∈ GW := gw_tab 764 (by decide +kernel) rfl
theorem tw_765 : (Jvm.Cond.fieldLink "BloodPriceModel" (365 : Nat) "BloodPriceModel" "today" "I") ∈ GW := gw_tab 765 (by decide +kernel) rfl
theorem tw_766 : (Jvm.Cond.fieldLink "BloodPriceModel" (231 : Nat) "BloodPriceModel" "at" "I") ∈ GW := gw_tab 766 (by decide +kernel) rfl
theorem tw_767 : (Jvm.Cond.fieldLink "BloodPriceModel" (228 : Nat) "BloodPriceModel" "end" "I") ∈ GW := gw_tab 767 (by decide +kernel) rfl
theorem tw_768 : (Jvm.Cond.fieldLink "BloodPriceModel" (238 : Nat) "BloodPriceModel" "token" "I") ∈ GW := gw_tab 768 (by decide +kernel) rfl
theorem tw_769 : (Jvm.Cond.fieldLink "BloodPriceModel" (256 : Nat) "BloodPriceModel" "number" "I") ∈ GW := gw_tab 769 (by decide +kernel) rfl
theorem tw_770 : (Jvm.Cond.fieldLink "BloodPriceModel" (245 : Nat) "BloodPriceModel" "name" "J") ∈ GW := gw_tab 770 (by decide +kernel) rfl
theorem tw_771 : (Jvm.Cond.fieldLink "BloodPriceModel" (20 : Nat) "BloodPriceModel" "lFolk" "[I") ∈ GW := gw_tab 771 (by decide +kernel) rfl
theorem tw_772 : (Jvm.Cond.fieldLink "BloodPriceModel" (24 : Nat) "BloodPriceModel" "lDay" "[I") ∈ GW := gw_tab 772 (by decide +kernel) rfl
theorem tw_773 : (Jvm.Cond.fieldLink "BloodPriceModel" (27 : Nat) "BloodPriceModel" "lawMany" "[I") ∈ GW := gw_tab 773 (by decide +kernel) rfl
theorem tw_774 : (Jvm.Cond.fieldLink "BloodPriceModel" (30 : Nat) "BloodPriceModel" "hMany" "[I") ∈ GW := gw_tab 774 (by decide +kernel) rfl
theorem tw_775 : (Jvm.Cond.fieldLink "BloodPriceModel" (33 : Nat) "BloodPriceModel" "hN" "[I") ∈ GW := gw_tab 775 (by decide +kernel) rfl
theorem tw_776 : (Jvm.Cond.fieldLink "BloodPriceModel" (36 : Nat) "BloodPriceModel" "wMany" "[I") ∈ GW := gw_tab 776 (by decide +kernel) rfl
theorem tw_777 : (Jvm.Cond.fieldLink "BloodPriceModel" (39 : Nat) "BloodPriceModel" "wFrom" "[I") ∈ GW := gw_tab 777 (by decide +kernel) rfl
theorem tw_778 : (Jvm.Cond.fieldLink "BloodPriceModel" (42 : Nat) "BloodPriceModel" "wTo" "[I") ∈ GW := gw_tab 778 (by decide +kernel) rfl
theorem tw_779 : (Jvm.Cond.fieldLink "BloodPriceModel" (45 : Nat) "BloodPriceModel" "wDeed" "[I") ∈ GW := gw_tab 779 (by decide +kernel) rfl
theorem tw_780 : (Jvm.Cond.fieldLink "BloodPriceModel" (48 : Nat) "BloodPriceModel" "wN" "[I") ∈ GW := gw_tab 780 (by decide +kernel) rfl
theorem tw_781 : (Jvm.Cond.fieldLink "BloodPriceModel" (51 : Nat) "BloodPriceModel" "share" "[I") ∈ GW := gw_tab 781 (by decide +kernel) rfl
theorem tw_782 : (Jvm.Cond.fieldLink "BloodPriceModel" (54 : Nat) "BloodPriceModel" "needs" "[I") ∈ GW := gw_tab 782 (by decide +kernel) rfl
theorem tw_783 : (Jvm.Cond.fieldLink "BloodPriceModel" (57 : Nat) "BloodPriceModel" "needRank" "[I") ∈ GW := gw_tab 783 (by decide +kernel) rfl
theorem tw_784 : (Jvm.Cond.fieldLink "BloodPriceModel" (60 : Nat) "BloodPriceModel" "terms" "[I") ∈ GW := gw_tab 784 (by decide +kernel) rfl
theorem tw_785 : (Jvm.Cond.fieldLink "BloodPriceModel" (63 : Nat) "BloodPriceModel" "termDays" "[I") ∈ GW := gw_tab 785 (by decide +kernel) rfl
theorem tw_786 : (Jvm.Cond.fieldLink "BloodPriceModel" (66 : Nat) "BloodPriceModel" "code" "[I") ∈ GW := gw_tab 786 (by decide +kernel) rfl
theorem tw_787 : (Jvm.Cond.fieldLink "BloodPriceModel" (69 : Nat) "BloodPriceModel" "codeNumber" "[I") ∈ GW := gw_tab 787 (by decide +kernel) rfl
theorem tw_788 : (Jvm.Cond.fieldLink "BloodPriceModel" (72 : Nat) "BloodPriceModel" "hName" "[J") ∈ GW := gw_tab 788 (by decide +kernel) rfl
theorem tw_789 : (Jvm.Cond.fieldLink "BloodPriceModel" (76 : Nat) "BloodPriceModel" "hasShare" "[Z") ∈ GW := gw_tab 789 (by decide +kernel) rfl
theorem tw_790 : (Jvm.Cond.fieldLink "BloodPriceModel" (80 : Nat) "BloodPriceModel" "hasNeed" "[Z") ∈ GW := gw_tab 790 (by decide +kernel) rfl
theorem tw_791 : (Jvm.Cond.fieldLink "BloodPriceModel" (83 : Nat) "BloodPriceModel" "hasTerms" "[Z") ∈ GW := gw_tab 791 (by decide +kernel) rfl
theorem tw_792 : (Jvm.Cond.fieldLink "BloodPriceModel" (280 : Nat) "BloodPriceModel" "laws" "I") ∈ GW := gw_tab 792 (by decide +kernel) rfl
theorem tw_793 : (Jvm.Cond.fieldLink "BloodPriceModel" (283 : Nat) "BloodPriceModel" "rb" "I") ∈ GW := gw_tab 793 (by decide +kernel) rfl
theorem tw_794 : (Jvm.Cond.fieldLink "BloodPriceModel" (286 : Nat) "BloodPriceModel" "codes" "I") ∈ GW := gw_tab 794 (by decide +kernel) rfl
theorem tw_795 : (Jvm.Cond.fieldLink "BloodPriceModel" (289 : Nat) "BloodPriceModel" "sums" "I") ∈ GW := gw_tab 795 (by decide +kernel) rfl
theorem tw_796 : (Jvm.Cond.fieldLink "BloodPriceModel" (86 : Nat) "BloodPriceModel" "eWhat" "[I") ∈ GW := gw_tab 796 (by decide +kernel) rfl
theorem tw_797 : (Jvm.Cond.fieldLink "BloodPriceModel" (328 : Nat) "BloodPriceModel" "piled" "I") ∈ GW := gw_tab 797 (by decide +kernel) rfl
theorem tw_798 : (Jvm.Cond.fieldLink "BloodPriceModel" (331 : Nat) "BloodPriceModel" "deep" "I") ∈ GW := gw_tab 798 (by decide +kernel) rfl
theorem tw_799 : (Jvm.Cond.fieldLink "BloodPriceModel" (89 : Nat) "BloodPriceModel" "pFolk" "[I") ∈ GW := gw_tab 799 (by decide +kernel) rfl
theorem tw_800 : (Jvm.Cond.fieldLink "BloodPriceModel" (92 : Nat) "BloodPriceModel" "pMother" "[I") ∈ GW := gw_tab 800 (by decide +kernel) rfl
theorem tw_801 : (Jvm.Cond.fieldLink "BloodPriceModel" (95 : Nat) "BloodPriceModel" "pFather" "[I") ∈ GW := gw_tab 801 (by decide +kernel) rfl
theorem tw_802 : (Jvm.Cond.fieldLink "BloodPriceModel" (98 : Nat) "BloodPriceModel" "pDead" "[I") ∈ GW := gw_tab 802 (by decide +kernel) rfl
theorem tw_803 : (Jvm.Cond.fieldLink "BloodPriceModel" (101 : Nat) "BloodPriceModel" "oPerson" "[I") ∈ GW := gw_tab 803 (by decide +kernel) rfl
theorem tw_804 : (Jvm.Cond.fieldLink "BloodPriceModel" (104 : Nat) "BloodPriceModel" "oRank" "[I") ∈ GW := gw_tab 804 (by decide +kernel) rfl
theorem tw_805 : (Jvm.Cond.fieldLink "BloodPriceModel" (107 : Nat) "BloodPriceModel" "oDay" "[I") ∈ GW := gw_tab 805 (by decide +kernel) rfl
theorem tw_806 : (Jvm.Cond.fieldLink "BloodPriceModel" (110 : Nat) "BloodPriceModel" "oTold" "[I") ∈ GW := gw_tab 806 (by decide +kernel) rfl
theorem tw_807 : (Jvm.Cond.fieldLink "BloodPriceModel" (113 : Nat) "BloodPriceModel" "cA" "[I") ∈ GW := gw_tab 807 (by decide +kernel) rfl
theorem tw_808 : (Jvm.Cond.fieldLink "BloodPriceModel" (116 : Nat) "BloodPriceModel" "cB" "[I") ∈ GW := gw_tab 808 (by decide +kernel) rfl
theorem tw_809 : (Jvm.Cond.fieldLink "BloodPriceModel" (119 : Nat) "BloodPriceModel" "cFrom" "[I") ∈ GW := gw_tab 809 (by decide +kernel) rfl
theorem tw_810 : (Jvm.Cond.fieldLink "BloodPriceModel" (122 : Nat) "BloodPriceModel" "cTo" "[I") ∈ GW := gw_tab 810 (by decide +kernel) rfl
theorem tw_811 : (Jvm.Cond.fieldLink "BloodPriceModel" (353 : Nat) "BloodPriceModel" "people" "I") ∈ GW := gw_tab 811 (by decide +kernel) rfl
theorem tw_812 : (Jvm.Cond.fieldLink "BloodPriceModel" (362 : Nat) "BloodPriceModel" "tolds" "I") ∈ GW := gw_tab 812 (by decide +kernel) rfl
theorem tw_813 : (Jvm.Cond.fieldLink "BloodPriceModel" (368 : Nat) "BloodPriceModel" "truces" "I") ∈ GW := gw_tab 813 (by decide +kernel) rfl
theorem tw_814 : (Jvm.Cond.fieldLink "BloodPriceModel" (125 : Nat) "BloodPriceModel" "kBy" "[I") ∈ GW := gw_tab 814 (by decide +kernel) rfl
theorem tw_815 : (Jvm.Cond.fieldLink "BloodPriceModel" (128 : Nat) "BloodPriceModel" "kOf" "[I") ∈ GW := gw_tab 815 (by decide +kernel) rfl
theorem tw_816 : (Jvm.Cond.fieldLink "BloodPriceModel" (131 : Nat) "BloodPriceModel" "kDay" "[I") ∈ GW := gw_tab 816 (by decide +kernel) rfl
theorem tw_817 : (Jvm.Cond.fieldLink "BloodPriceModel" (134 : Nat) "BloodPriceModel" "kPlace" "[I") ∈ GW := gw_tab 817 (by decide +kernel) rfl
theorem tw_818 : (Jvm.Cond.fieldLink "BloodPriceModel" (137 : Nat) "BloodPriceModel" "kCleared" "[I") ∈ GW := gw_tab 818 (by decide +kernel) rfl
theorem tw_819 : (Jvm.Cond.fieldLink "BloodPriceModel" (140 : Nat) "BloodPriceModel" "kJudged" "[I") ∈ GW := gw_tab 819 (by decide +kernel) rfl
theorem tw_820 : (Jvm.Cond.fieldLink "BloodPriceModel" (143 : Nat) "BloodPriceModel" "kDue" "[I") ∈ GW := gw_tab 820 (by decide +kernel) rfl
theorem tw_821 : (Jvm.Cond.fieldLink "BloodPriceModel" (146 : Nat) "BloodPriceModel" "kTerms" "[I") ∈ GW := gw_tab 821 (by decide +kernel) rfl
theorem tw_822 : (Jvm.Cond.fieldLink "BloodPriceModel" (149 : Nat) "BloodPriceModel" "kDays" "[I") ∈ GW := gw_tab 822 (by decide +kernel) rfl
theorem tw_823 : (Jvm.Cond.fieldLink "BloodPriceModel" (152 : Nat) "BloodPriceModel" "kName" "[J") ∈ GW := gw_tab 823 (by decide +kernel) rfl
theorem tw_824 : (Jvm.Cond.fieldLink "BloodPriceModel" (155 : Nat) "BloodPriceModel" "isNight" "[Z") ∈ GW := gw_tab 824 (by decide +kernel) rfl
theorem tw_825 : (Jvm.Cond.fieldLink "BloodPriceModel" (371 : Nat) "BloodPriceModel" "cases" "I") ∈ GW := gw_tab 825 (by decide +kernel) rfl
theorem tw_826 : (Jvm.Cond.fieldLink "BloodPriceModel" (158 : Nat) "BloodPriceModel" "names" "[I") ∈ GW := gw_tab 826 (by decide +kernel) rfl
theorem tw_827 : (Jvm.Cond.fieldLink "BloodPriceModel" (161 : Nat) "BloodPriceModel" "values" "[I") ∈ GW := gw_tab 827 (by decide +kernel) rfl
theorem tw_828 : (Jvm.Cond.fieldLink "BloodPriceModel" (164 : Nat) "BloodPriceModel" "rateOf" "[I") ∈ GW := gw_tab 828 (by decide +kernel) rfl
theorem tw_829 : (Jvm.Cond.fieldLink "BloodPriceModel" (167 : Nat) "BloodPriceModel" "mCase" "[I") ∈ GW := gw_tab 829 (by decide +kernel) rfl
theorem tw_830 : (Jvm.Cond.fieldLink "BloodPriceModel" (170 : Nat) "BloodPriceModel" "mDay" "[I") ∈ GW := gw_tab 830 (by decide +kernel) rfl
theorem tw_831 : (Jvm.Cond.fieldLink "BloodPriceModel" (173 : Nat) "BloodPriceModel" "mWorth" "[I") ∈ GW := gw_tab 831 (by decide +kernel) rfl
theorem tw_832 : (Jvm.Cond.fieldLink "BloodPriceModel" (428 : Nat) "BloodPriceModel" "rates" "I") ∈ GW := gw_tab 832 (by decide +kernel) rfl
theorem tw_833 : (Jvm.Cond.fieldLink "BloodPriceModel" (431 : Nat) "BloodPriceModel" "payments" "I") ∈ GW := gw_tab 833 (by decide +kernel) rfl
theorem tw_834 : (Jvm.Cond.laysFinal "BloodPriceModel" "BloodPriceModel" "tape" "[B") ∈ GW := gw_tab 834 (by decide +kernel) rfl
theorem tw_835 : (Jvm.Cond.soleField "BloodPriceModel" "tape") ∈ GW := gw_tab 835 (by decide +kernel) rfl
theorem tw_836 : (Jvm.Cond.laysFinal "BloodPriceModel" "BloodPriceModel" "src" "[B") ∈ GW := gw_tab 836 (by decide +kernel) rfl
theorem tw_837 : (Jvm.Cond.soleField "BloodPriceModel" "src") ∈ GW := gw_tab 837 (by decide +kernel) rfl
theorem tw_838 : (Jvm.Cond.lays "BloodPriceModel" "BloodPriceModel" "taped" "I") ∈ GW := gw_tab 838 (by decide +kernel) rfl
theorem tw_839 : (Jvm.Cond.soleField "BloodPriceModel" "taped") ∈ GW := gw_tab 839 (by decide +kernel) rfl
theorem tw_840 : (Jvm.Cond.lays "BloodPriceModel" "BloodPriceModel" "size" "I") ∈ GW := gw_tab 840 (by decide +kernel) rfl
theorem tw_841 : (Jvm.Cond.soleField "BloodPriceModel" "size") ∈ GW := gw_tab 841 (by decide +kernel) rfl
theorem tw_842 : (Jvm.Cond.lays "BloodPriceModel" "BloodPriceModel" "faultKind" "I") ∈ GW := gw_tab 842 (by decide +kernel) rfl
theorem tw_843 : (Jvm.Cond.soleField "BloodPriceModel" "faultKind") ∈ GW := gw_tab 843 (by decide +kernel) rfl
theorem tw_844 : (Jvm.Cond.lays "BloodPriceModel" "BloodPriceModel" "faultPlace" "I") ∈ GW := gw_tab 844 (by decide +kernel) rfl
theorem tw_845 : (Jvm.Cond.soleField "BloodPriceModel" "faultPlace") ∈ GW := gw_tab 845 (by decide +kernel) rfl
theorem tw_846 : (Jvm.Cond.lays "BloodPriceModel" "BloodPriceModel" "today" "I") ∈ GW := gw_tab 846 (by decide +kernel) rfl
theorem tw_847 : (Jvm.Cond.soleField "BloodPriceModel" "today") ∈ GW := gw_tab 847 (by decide +kernel) rfl
theorem tw_848 : (Jvm.Cond.lays "BloodPriceModel" "BloodPriceModel" "at" "I") ∈ GW := gw_tab 848 (by decide +kernel) rfl
theorem tw_849 : (Jvm.Cond.soleField "BloodPriceModel" "at") ∈ GW := gw_tab 849 (by decide +kernel) rfl
theorem tw_850 : (Jvm.Cond.lays "BloodPriceModel" "BloodPriceModel" "end" "I") ∈ GW := gw_tab 850 (by decide +kernel) rfl
theorem tw_851 : (Jvm.Cond.soleField "BloodPriceModel" "end") ∈ GW := gw_tab 851 (by decide +kernel) rfl
theorem tw_852 : (Jvm.Cond.lays "BloodPriceModel" "BloodPriceModel" "token" "I") ∈ GW := gw_tab 852 (by decide +kernel) rfl
theorem tw_853 : (Jvm.Cond.soleField "BloodPriceModel" "token") ∈ GW := gw_tab 853 (by decide +kernel) rfl
theorem tw_854 : (Jvm.Cond.lays "BloodPriceModel" "BloodPriceModel" "number" "I") ∈ GW := gw_tab 854 (by decide +kernel) rfl
theorem tw_855 : (Jvm.Cond.soleField "BloodPriceModel" "number") ∈ GW := gw_tab 855 (by decide +kernel) rfl
theorem tw_856 : (Jvm.Cond.lays "BloodPriceModel" "BloodPriceModel" "name" "J") ∈ GW := gw_tab 856 (by decide +kernel) rfl
theorem tw_857 : (Jvm.Cond.soleField "BloodPriceModel" "name") ∈ GW := gw_tab 857 (by decide +kernel) rfl
theorem tw_858 : (Jvm.Cond.laysFinal "BloodPriceModel" "BloodPriceModel" "lFolk" "[I") ∈ GW := gw_tab 858 (by decide +kernel) rfl
theorem tw_859 : (Jvm.Cond.soleField "BloodPriceModel" "lFolk") ∈ GW := gw_tab 859 (by decide +kernel) rfl
theorem tw_860 : (Jvm.Cond.laysFinal "BloodPriceModel" "BloodPriceModel" "lDay" "[I") ∈ GW := gw_tab 860 (by decide +kernel) rfl
theorem tw_861 : (Jvm.Cond.soleField "BloodPriceModel" "lDay") ∈ GW := gw_tab 861 (by decide +kernel) rfl
theorem tw_862 : (Jvm.Cond.laysFinal "BloodPriceModel" "BloodPriceModel" "lawMany" "[I") ∈ GW := gw_tab 862 (by decide +kernel) rfl
theorem tw_863 : (Jvm.Cond.soleField "BloodPriceModel" "lawMany") ∈ GW := gw_tab 863 (by decide +kernel) rfl
theorem tw_864 : (Jvm.Cond.laysFinal "BloodPriceModel" "BloodPriceModel" "hMany" "[I") ∈ GW := gw_tab 864 (by decide +kernel) rfl
theorem tw_865 : (Jvm.Cond.soleField "BloodPriceModel" "hMany") ∈ GW := gw_tab 865 (by decide +kernel) rfl
theorem tw_866 : (Jvm.Cond.laysFinal "BloodPriceModel" "BloodPriceModel" "hN" "[I") ∈ GW := gw_tab 866 (by decide +kernel) rfl
theorem tw_867 : (Jvm.Cond.soleField "BloodPriceModel" "hN") ∈ GW := gw_tab 867 (by decide +kernel) rfl
theorem tw_868 : (Jvm.Cond.laysFinal "BloodPriceModel" "BloodPriceModel" "wMany" "[I") ∈ GW := gw_tab 868 (by decide +kernel) rfl
theorem tw_869 : (Jvm.Cond.soleField "BloodPriceModel" "wMany") ∈ GW := gw_tab 869 (by decide +kernel) rfl
theorem tw_870 : (Jvm.Cond.laysFinal "BloodPriceModel" "BloodPriceModel" "wFrom" "[I") ∈ GW := gw_tab 870 (by decide +kernel) rfl
theorem tw_871 : (Jvm.Cond.soleField "BloodPriceModel" "wFrom") ∈ GW := gw_tab 871 (by decide +kernel) rfl
theorem tw_872 : (Jvm.Cond.laysFinal "BloodPriceModel" "BloodPriceModel" "wTo" "[I") ∈ GW := gw_tab 872 (by decide +kernel) rfl
theorem tw_873 : (Jvm.Cond.soleField "BloodPriceModel" "wTo") ∈ GW := gw_tab 873 (by decide +kernel) rfl
theorem tw_874 : (Jvm.Cond.laysFinal "BloodPriceModel" "BloodPriceModel" "wDeed" "[I") ∈ GW := gw_tab 874 (by decide +kernel) rfl
theorem tw_875 : (Jvm.Cond.soleField "BloodPriceModel" "wDeed") ∈ GW := gw_tab 875 (by decide +kernel) rfl
theorem tw_876 : (Jvm.Cond.laysFinal "BloodPriceModel" "BloodPriceModel" "wN" "[I") ∈ GW := gw_tab 876 (by decide +kernel) rfl
theorem tw_877 : (Jvm.Cond.soleField "BloodPriceModel" "wN") ∈ GW := gw_tab 877 (by decide +kernel) rfl
theorem tw_878 : (Jvm.Cond.laysFinal "BloodPriceModel" "BloodPriceModel" "share" "[I") ∈ GW := gw_tab 878 (by decide +kernel) rfl
theorem tw_879 : (Jvm.Cond.soleField "BloodPriceModel" "share") ∈ GW := gw_tab 879 (by decide +kernel) rfl
theorem tw_880 : (Jvm.Cond.laysFinal "BloodPriceModel" "BloodPriceModel" "needs" "[I") ∈ GW := gw_tab 880 (by decide +kernel) rfl
theorem tw_881 : (Jvm.Cond.soleField "BloodPriceModel" "needs") ∈ GW := gw_tab 881 (by decide +kernel) rfl
theorem tw_882 : (Jvm.Cond.laysFinal "BloodPriceModel" "BloodPriceModel" "needRank" "[I") ∈ GW := gw_tab 882 (by decide +kernel) rfl
theorem tw_883 : (Jvm.Cond.soleField "BloodPriceModel" "needRank") ∈ GW := gw_tab 883 (by decide +kernel) rfl
theorem tw_884 : (Jvm.Cond.laysFinal "BloodPriceModel" "BloodPriceModel" "terms" "[I") ∈ GW := gw_tab 884 (by decide +kernel) rfl
theorem tw_885 : (Jvm.Cond.soleField "BloodPriceModel" "terms") ∈ GW := gw_tab 885 (by decide +kernel) rfl
theorem tw_886 : (Jvm.Cond.laysFinal "BloodPriceModel" "BloodPriceModel" "termDays" "[I") ∈ GW := gw_tab 886 (by decide +kernel) rfl
theorem tw_887 : (Jvm.Cond.soleField "BloodPriceModel" "termDays") ∈ GW := gw_tab 887 (by decide +kernel) rfl
theorem tw_888 : (Jvm.Cond.laysFinal "BloodPriceModel" "BloodPriceModel" "code" "[I") ∈ GW := gw_tab 888 (by decide +kernel) rfl
theorem tw_889 : (Jvm.Cond.soleField "BloodPriceModel" "code") ∈ GW := gw_tab 889 (by decide +kernel) rfl
theorem tw_890 : (Jvm.Cond.laysFinal "BloodPriceModel" "BloodPriceModel" "codeNumber" "[I") ∈ GW := gw_tab 890 (by decide +kernel) rfl
theorem tw_891 : (Jvm.Cond.soleField "BloodPriceModel" "codeNumber") ∈ GW := gw_tab 891 (by decide +kernel) rfl
theorem tw_892 : (Jvm.Cond.laysFinal "BloodPriceModel" "BloodPriceModel" "hName" "[J") ∈ GW := gw_tab 892 (by decide +kernel) rfl
theorem tw_893 : (Jvm.Cond.soleField "BloodPriceModel" "hName") ∈ GW := gw_tab 893 (by decide +kernel) rfl
theorem tw_894 : (Jvm.Cond.laysFinal "BloodPriceModel" "BloodPriceModel" "hasShare" "[Z") ∈ GW := gw_tab 894 (by decide +kernel) rfl
theorem tw_895 : (Jvm.Cond.soleField "BloodPriceModel" "hasShare") ∈ GW := gw_tab 895 (by decide +kernel) rfl
theorem tw_896 : (Jvm.Cond.laysFinal "BloodPriceModel" "BloodPriceModel" "hasNeed" "[Z") ∈ GW := gw_tab 896 (by decide +kernel) rfl
theorem tw_897 : (Jvm.Cond.soleField "BloodPriceModel" "hasNeed") ∈ GW := gw_tab 897 (by decide +kernel) rfl
theorem tw_898 : (Jvm.Cond.laysFinal "BloodPriceModel" "BloodPriceModel" "hasTerms" "[Z") ∈ GW := gw_tab 898 (by decide +kernel) rfl
theorem tw_899 : (Jvm.Cond.soleField "BloodPriceModel" "hasTerms") ∈ GW := gw_tab 899 (by decide +kernel) rfl
theorem tw_900 : (Jvm.Cond.lays "BloodPriceModel" "BloodPriceModel" "laws" "I") ∈ GW := gw_tab 900 (by decide +kernel) rfl
theorem tw_901 : (Jvm.Cond.soleField "BloodPriceModel" "laws") ∈ GW := gw_tab 901 (by decide +kernel) rfl
theorem tw_902 : (Jvm.Cond.lays "BloodPriceModel" "BloodPriceModel" "rb" "I") ∈ GW := gw_tab 902 (by decide +kernel) rfl
theorem tw_903 : (Jvm.Cond.soleField "BloodPriceModel" "rb") ∈ GW := gw_tab 903 (by decide +kernel) rfl
theorem tw_904 : (Jvm.Cond.lays "BloodPriceModel" "BloodPriceModel" "codes" "I") ∈ GW := gw_tab 904 (by decide +kernel) rfl
theorem tw_905 : (Jvm.Cond.soleField "BloodPriceModel" "codes") ∈ GW := gw_tab 905 (by decide +kernel) rfl
theorem tw_906 : (Jvm.Cond.lays "BloodPriceModel" "BloodPriceModel" "sums" "I") ∈ GW := gw_tab 906 (by decide +kernel) rfl
theorem tw_907 : (Jvm.Cond.soleField "BloodPriceModel" "sums") ∈ GW := gw_tab 907 (by decide +kernel) rfl
theorem tw_908 : (Jvm.Cond.laysFinal "BloodPriceModel" "BloodPriceModel" "eWhat" "[I") ∈ GW := gw_tab 908 (by decide +kernel) rfl
theorem tw_909 : (Jvm.Cond.soleField "BloodPriceModel" "eWhat") ∈ GW := gw_tab 909 (by decide +kernel) rfl
theorem tw_910 : (Jvm.Cond.lays "BloodPriceModel" "BloodPriceModel" "piled" "I") ∈ GW := gw_tab 910 (by decide +kernel) rfl
theorem tw_911 : (Jvm.Cond.soleField "BloodPriceModel" "piled") ∈ GW := gw_tab 911 (by decide +kernel) rfl
theorem tw_912 : (Jvm.Cond.lays "BloodPriceModel" "BloodPriceModel" "deep" "I") ∈ GW := gw_tab 912 (by decide +kernel) rfl
theorem tw_913 : (Jvm.Cond.soleField "BloodPriceModel" "deep") ∈ GW := gw_tab 913 (by decide +kernel) rfl
theorem tw_914 : (Jvm.Cond.laysFinal "BloodPriceModel" "BloodPriceModel" "pFolk" "[I") ∈ GW := gw_tab 914 (by decide +kernel) rfl
theorem tw_915 : (Jvm.Cond.soleField "BloodPriceModel" "pFolk") ∈ GW := gw_tab 915 (by decide +kernel) rfl
theorem tw_916 : (Jvm.Cond.laysFinal "BloodPriceModel" "BloodPriceModel" "pMother" "[I") ∈ GW := gw_tab 916 (by decide +kernel) rfl
theorem tw_917 : (Jvm.Cond.soleField "BloodPriceModel" "pMother") ∈ GW := gw_tab 917 (by decide +kernel) rfl
theorem tw_918 : (Jvm.Cond.laysFinal "BloodPriceModel" "BloodPriceModel" "pFather" "[I") ∈ GW := gw_tab 918 (by decide +kernel) rfl
theorem tw_919 : (Jvm.Cond.soleField "BloodPriceModel" "pFather") ∈ GW := gw_tab 919 (by decide +kernel) rfl
theorem tw_920 : (Jvm.Cond.laysFinal "BloodPriceModel" "BloodPriceModel" "pDead" "[I") ∈ GW := gw_tab 920 (by decide +kernel) rfl
theorem tw_921 : (Jvm.Cond.soleField "BloodPriceModel" "pDead") ∈ GW := gw_tab 921 (by decide +kernel) rfl
theorem tw_922 : (Jvm.Cond.laysFinal "BloodPriceModel" "BloodPriceModel" "oPerson" "[I") ∈ GW := gw_tab 922 (by decide +kernel) rfl
theorem tw_923 : (Jvm.Cond.soleField "BloodPriceModel" "oPerson") ∈ GW := gw_tab 923 (by decide +kernel) rfl
theorem tw_924 : (Jvm.Cond.laysFinal "BloodPriceModel" "BloodPriceModel" "oRank" "[I") ∈ GW := gw_tab 924 (by decide +kernel) rfl
theorem tw_925 : (Jvm.Cond.soleField "BloodPriceModel" "oRank") ∈ GW := gw_tab 925 (by decide +kernel) rfl
theorem tw_926 : (Jvm.Cond.laysFinal "BloodPriceModel" "BloodPriceModel" "oDay" "[I") ∈ GW := gw_tab 926 (by decide +kernel) rfl
theorem tw_927 : (Jvm.Cond.soleField "BloodPriceModel" "oDay") ∈ GW := gw_tab 927 (by decide +kernel) rfl
theorem tw_928 : (Jvm.Cond.laysFinal "BloodPriceModel" "BloodPriceModel" "oTold" "[I") ∈ GW := gw_tab 928 (by decide +kernel) rfl
theorem tw_929 : (Jvm.Cond.soleField "BloodPriceModel" "oTold") ∈ GW := gw_tab 929 (by decide +kernel) rfl
theorem tw_930 : (Jvm.Cond.laysFinal "BloodPriceModel" "BloodPriceModel" "cA" "[I") ∈ GW := gw_tab 930 (by decide +kernel) rfl
theorem tw_931 : (Jvm.Cond.soleField "BloodPriceModel" "cA") ∈ GW := gw_tab 931 (by decide +kernel) rfl
theorem tw_932 : (Jvm.Cond.laysFinal "BloodPriceModel" "BloodPriceModel" "cB" "[I") ∈ GW := gw_tab 932 (by decide +kernel) rfl
theorem tw_933 : (Jvm.Cond.soleField "BloodPriceModel" "cB") ∈ GW := gw_tab 933 (by decide +kernel) rfl
theorem tw_934 : (Jvm.Cond.laysFinal "BloodPriceModel" "BloodPriceModel" "cFrom" "[I") ∈ GW := gw_tab 934 (by decide +kernel) rfl
theorem tw_935 : (Jvm.Cond.soleField "BloodPriceModel" "cFrom") ∈ GW := gw_tab 935 (by decide +kernel) rfl
theorem tw_936 : (Jvm.Cond.laysFinal "BloodPriceModel" "BloodPriceModel" "cTo" "[I") ∈ GW := gw_tab 936 (by decide +kernel) rfl
theorem tw_937 : (Jvm.Cond.soleField "BloodPriceModel" "cTo") ∈ GW := gw_tab 937 (by decide +kernel) rfl
theorem tw_938 : (Jvm.Cond.lays "BloodPriceModel" "BloodPriceModel" "people" "I") ∈ GW := gw_tab 938 (by decide +kernel) rfl
theorem tw_939 : (Jvm.Cond.soleField "BloodPriceModel" "people") ∈ GW := gw_tab 939 (by decide +kernel) rfl
theorem tw_940 : (Jvm.Cond.lays "BloodPriceModel" "BloodPriceModel" "tolds" "I") ∈ GW := gw_tab 940 (by decide +kernel) rfl
theorem tw_941 : (Jvm.Cond.soleField "BloodPriceModel" "tolds") ∈ GW := gw_tab 941 (by decide +kernel) rfl
theorem tw_942 : (Jvm.Cond.lays "BloodPriceModel" "BloodPriceModel" "truces" "I") ∈ GW := gw_tab 942 (by decide +kernel) rfl
theorem tw_943 : (Jvm.Cond.soleField "BloodPriceModel" "truces") ∈ GW := gw_tab 943 (by decide +kernel) rfl
theorem tw_944 : (Jvm.Cond.laysFinal "BloodPriceModel" "BloodPriceModel" "kBy" "[I") ∈ GW := gw_tab 944 (by decide +kernel) rfl
theorem tw_945 : (Jvm.Cond.soleField "BloodPriceModel" "kBy") ∈ GW := gw_tab 945 (by decide +kernel) rfl
theorem tw_946 : (Jvm.Cond.laysFinal "BloodPriceModel" "BloodPriceModel" "kOf" "[I") ∈ GW := gw_tab 946 (by decide +kernel) rfl
theorem tw_947 : (Jvm.Cond.soleField "BloodPriceModel" "kOf") ∈ GW := gw_tab 947 (by decide +kernel) rfl
theorem tw_948 : (Jvm.Cond.laysFinal "BloodPriceModel" "BloodPriceModel" "kDay" "[I") ∈ GW := gw_tab 948 (by decide +kernel) rfl
theorem tw_949 : (Jvm.Cond.soleField "BloodPriceModel" "kDay") ∈ GW := gw_tab 949 (by decide +kernel) rfl
theorem tw_950 : (Jvm.Cond.laysFinal "BloodPriceModel" "BloodPriceModel" "kPlace" "[I") ∈ GW := gw_tab 950 (by decide +kernel) rfl
theorem tw_951 : (Jvm.Cond.soleField "BloodPriceModel" "kPlace") ∈ GW := gw_tab 951 (by decide +kernel) rfl
theorem tw_952 : (Jvm.Cond.laysFinal "BloodPriceModel" "BloodPriceModel" "kCleared" "[I") ∈ GW := gw_tab 952 (by decide +kernel) rfl
theorem tw_953 : (Jvm.Cond.soleField "BloodPriceModel" "kCleared") ∈ GW := gw_tab 953 (by decide +kernel) rfl
theorem tw_954 : (Jvm.Cond.laysFinal "BloodPriceModel" "BloodPriceModel" "kJudged" "[I") ∈ GW := gw_tab 954 (by decide +kernel) rfl
theorem tw_955 : (Jvm.Cond.soleField "BloodPriceModel" "kJudged") ∈ GW := gw_tab 955 (by decide +kernel) rfl
theorem tw_956 : (Jvm.Cond.laysFinal "BloodPriceModel" "BloodPriceModel" "kDue" "[I") ∈ GW := gw_tab 956 (by decide +kernel) rfl
theorem tw_957 : (Jvm.Cond.soleField "BloodPriceModel" "kDue") ∈ GW := gw_tab 957 (by decide +kernel) rfl
theorem tw_958 : (Jvm.Cond.laysFinal "BloodPriceModel" "BloodPriceModel" "kTerms" "[I") ∈ GW := gw_tab 958 (by decide +kernel) rfl
theorem tw_959 : (Jvm.Cond.soleField "BloodPriceModel" "kTerms") ∈ GW := gw_tab 959 (by decide +kernel) rfl
theorem tw_960 : (Jvm.Cond.laysFinal "BloodPriceModel" "BloodPriceModel" "kDays" "[I") ∈ GW := gw_tab 960 (by decide +kernel) rfl
theorem tw_961 : (Jvm.Cond.soleField "BloodPriceModel" "kDays") ∈ GW := gw_tab 961 (by decide +kernel) rfl
theorem tw_962 : (Jvm.Cond.laysFinal "BloodPriceModel" "BloodPriceModel" "kName" "[J") ∈ GW := gw_tab 962 (by decide +kernel) rfl
theorem tw_963 : (Jvm.Cond.soleField "BloodPriceModel" "kName") ∈ GW := gw_tab 963 (by decide +kernel) rfl
theorem tw_964 : (Jvm.Cond.laysFinal "BloodPriceModel" "BloodPriceModel" "isNight" "[Z") ∈ GW := gw_tab 964 (by decide +kernel) rfl
theorem tw_965 : (Jvm.Cond.soleField "BloodPriceModel" "isNight") ∈ GW := gw_tab 965 (by decide +kernel) rfl
theorem tw_966 : (Jvm.Cond.lays "BloodPriceModel" "BloodPriceModel" "cases" "I") ∈ GW := gw_tab 966 (by decide +kernel) rfl
theorem tw_967 : (Jvm.Cond.soleField "BloodPriceModel" "cases") ∈ GW := gw_tab 967 (by decide +kernel) rfl
theorem tw_968 : (Jvm.Cond.laysFinal "BloodPriceModel" "BloodPriceModel" "names" "[I") ∈ GW := gw_tab 968 (by decide +kernel) rfl
theorem tw_969 : (Jvm.Cond.soleField "BloodPriceModel" "names") ∈ GW := gw_tab 969 (by decide +kernel) rfl
theorem tw_970 : (Jvm.Cond.laysFinal "BloodPriceModel" "BloodPriceModel" "values" "[I") ∈ GW := gw_tab 970 (by decide +kernel) rfl
theorem tw_971 : (Jvm.Cond.soleField "BloodPriceModel" "values") ∈ GW := gw_tab 971 (by decide +kernel) rfl
theorem tw_972 : (Jvm.Cond.laysFinal "BloodPriceModel" "BloodPriceModel" "rateOf" "[I") ∈ GW := gw_tab 972 (by decide +kernel) rfl
theorem tw_973 : (Jvm.Cond.soleField "BloodPriceModel" "rateOf") ∈ GW := gw_tab 973 (by decide +kernel) rfl
theorem tw_974 : (Jvm.Cond.laysFinal "BloodPriceModel" "BloodPriceModel" "mCase" "[I") ∈ GW := gw_tab 974 (by decide +kernel) rfl
theorem tw_975 : (Jvm.Cond.soleField "BloodPriceModel" "mCase") ∈ GW := gw_tab 975 (by decide +kernel) rfl
theorem tw_976 : (Jvm.Cond.laysFinal "BloodPriceModel" "BloodPriceModel" "mDay" "[I") ∈ GW := gw_tab 976 (by decide +kernel) rfl
theorem tw_977 : (Jvm.Cond.soleField "BloodPriceModel" "mDay") ∈ GW := gw_tab 977 (by decide +kernel) rfl
theorem tw_978 : (Jvm.Cond.laysFinal "BloodPriceModel" "BloodPriceModel" "mWorth" "[I") ∈ GW := gw_tab 978 (by decide +kernel) rfl
theorem tw_979 : (Jvm.Cond.soleField "BloodPriceModel" "mWorth") ∈ GW := gw_tab 979 (by decide +kernel) rfl
theorem tw_980 : (Jvm.Cond.lays "BloodPriceModel" "BloodPriceModel" "rates" "I") ∈ GW := gw_tab 980 (by decide +kernel) rfl
theorem tw_981 : (Jvm.Cond.soleField "BloodPriceModel" "rates") ∈ GW := gw_tab 981 (by decide +kernel) rfl
theorem tw_982 : (Jvm.Cond.lays "BloodPriceModel" "BloodPriceModel" "payments" "I") ∈ GW := gw_tab 982 (by decide +kernel) rfl
theorem tw_983 : (Jvm.Cond.soleField "BloodPriceModel" "payments") ∈ GW := gw_tab 983 (by decide +kernel) rfl
theorem tw_984 : (Jvm.Cond.superclass "BloodPriceModel" "java/lang/Object") ∈ GW := gw_tab 984 (by decide +kernel) rfl
theorem tw_985 : (Jvm.Cond.methodLink "BloodPriceLaw" (27 : Nat) ({ cls := "BloodPriceModel", name := "law", desc := "(II)I" } : Jvm.MethodName)) ∈ GW := gw_tab 985 (by decide +kernel) rfl
theorem tw_986 : (Jvm.Cond.instanceMethod ({ cls := "BloodPriceModel", name := "law", desc := "(II)I" } : Jvm.MethodName)) ∈ GW := gw_tab 986 (by decide +kernel) rfl
theorem tw_987 : (Jvm.Cond.selects "BloodPriceModel" ({ cls := "BloodPriceModel", name := "law", desc := "(II)I" } : Jvm.MethodName) ({ cls := "BloodPriceModel", name := "law", desc := "(II)I" } : Jvm.MethodName)) ∈ GW := gw_tab 987 (by decide +kernel) rfl
theorem tw_988 : (Jvm.Cond.code ({ cls := "BloodPriceModel", name := "law", desc := "(II)I" } : Jvm.MethodName) prog_11_method_15_code (4 : Nat) (Option.some Jvm.ClassFile.FieldType.int)) ∈ GW := gw_tab 988 (by decide +kernel) rfl
theorem tw_989 : (Jvm.Cond.constant "BloodPriceModel" (276 : Nat) (100000 : Int32)) ∈ GW := gw_tab 989 (by decide +kernel) rfl
theorem tw_990 : (Jvm.Cond.methodLink "BloodPriceModel" (266 : Nat) ({ cls := "BloodPriceModel", name := "next", desc := "()V" } : Jvm.MethodName)) ∈ GW := gw_tab 990 (by decide +kernel) rfl
theorem tw_992 : (Jvm.Cond.instanceMethod ({ cls := "BloodPriceModel", name := "next", desc := "()V" } : Jvm.MethodName)) ∈ GW := gw_tab 992 (by decide +kernel) rfl
theorem tw_993 : (Jvm.Cond.code ({ cls := "BloodPriceModel", name := "next", desc := "()V" } : Jvm.MethodName) prog_11_method_9_code (3 : Nat) (Option.none : Option Jvm.ClassFile.FieldType)) ∈ GW := gw_tab 993 (by decide +kernel) rfl
theorem tw_994 : (Jvm.Cond.methodLink "BloodPriceModel" (234 : Nat) ({ cls := "BloodPriceModel", name := "sign", desc := "(I)I" } : Jvm.MethodName)) ∈ GW := gw_tab 994 (by decide +kernel) rfl
theorem tw_996 : (Jvm.Cond.instanceMethod ({ cls := "BloodPriceModel", name := "sign", desc := "(I)I" } : Jvm.MethodName)) ∈ GW := gw_tab 996 (by decide +kernel) rfl
theorem tw_997 : (Jvm.Cond.code ({ cls := "BloodPriceModel", name := "sign", desc := "(I)I" } : Jvm.MethodName) prog_11_method_2_code (2 : Nat) (Option.some Jvm.ClassFile.FieldType.int)) ∈ GW := gw_tab 997 (by decide +kernel) rfl
theorem tw_998 : (Jvm.Cond.methodLink "BloodPriceModel" (241 : Nat) ({ cls := "BloodPriceModel", name := "isLetter", desc := "(I)Z" } : Jvm.MethodName)) ∈ GW := gw_tab 998 (by decide +kernel) rfl
theorem tw_999 : (Jvm.Cond.static ({ cls := "BloodPriceModel", name := "isLetter", desc := "(I)Z" } : Jvm.MethodName)) ∈ GW := gw_tab 999 (by decide +kernel) rfl
theorem tw_1000 : (Jvm.Cond.code ({ cls := "BloodPriceModel", name := "isLetter", desc := "(I)Z" } : Jvm.MethodName) prog_11_method_3_code (1 : Nat) (Option.some Jvm.ClassFile.FieldType.boolean)) ∈ GW := gw_tab 1000 (by decide +kernel) rfl
theorem tw_1001 : (Jvm.Cond.methodLink "BloodPriceModel" (249 : Nat) ({ cls := "BloodPriceModel", name := "isKept", desc := "(J)Z" } : Jvm.MethodName)) ∈ GW := gw_tab 1001 (by decide +kernel) rfl
theorem tw_1002 : (Jvm.Cond.static ({ cls := "BloodPriceModel", name := "isKept", desc := "(J)Z" } : Jvm.MethodName)) ∈ GW := gw_tab 1002 (by decide +kernel) rfl
theorem tw_1003 : (Jvm.Cond.code ({ cls := "BloodPriceModel", name := "isKept", desc := "(J)Z" } : Jvm.MethodName) prog_11_method_8_code (2 : Nat) (Option.some Jvm.ClassFile.FieldType.boolean)) ∈ GW := gw_tab 1003 (by decide +kernel) rfl
theorem tw_1004 : (Jvm.Cond.methodLink "BloodPriceModel" (196 : Nat) ({ cls := "BloodPriceModel", name := "meaning", desc := "(J)I" } : Jvm.MethodName)) ∈ GW := gw_tab 1004 (by decide +kernel) rfl
theorem tw_1005 : (Jvm.Cond.static ({ cls := "BloodPriceModel", name := "meaning", desc := "(J)I" } : Jvm.MethodName)) ∈ GW := gw_tab 1005 (by decide +kernel) rfl
theorem tw_1006 : (Jvm.Cond.code ({ cls := "BloodPriceModel", name := "meaning", desc := "(J)I" } : Jvm.MethodName) prog_11_method_7_code (2 : Nat) (Option.some Jvm.ClassFile.FieldType.int)) ∈ GW := gw_tab 1006 (by decide +kernel) rfl
theorem tw_1007 : (Jvm.Cond.constantLong "BloodPriceModel" (182 : Nat) (1918987883 : Int64)) ∈ GW := gw_tab 1007 (by decide +kernel) rfl
theorem tw_1008 : (Jvm.Cond.constantLong "BloodPriceModel" (184 : Nat) (478694368626 : Int64)) ∈ GW := gw_tab 1008 (by decide +kernel) rfl
theorem tw_1009 : (Jvm.Cond.constantLong "BloodPriceModel" (186 : Nat) (482854658917 : Int64)) ∈ GW := gw_tab 1009 (by decide +kernel) rfl
theorem tw_1010 : (Jvm.Cond.constantLong "BloodPriceModel" (188 : Nat) (474214787188 : Int64)) ∈ GW := gw_tab 1010 (by decide +kernel) rfl
theorem tw_1011 : (Jvm.Cond.constantLong "BloodPriceModel" (190 : Nat) (7039342 : Int64)) ∈ GW := gw_tab 1011 (by decide +kernel) rfl
theorem tw_1012 : (Jvm.Cond.constantLong "BloodPriceModel" (192 : Nat) (500136502117 : Int64)) ∈ GW := gw_tab 1012 (by decide +kernel) rfl
theorem tw_1013 : (Jvm.Cond.constantLong "BloodPriceModel" (194 : Nat) (7566701 : Int64)) ∈ GW := gw_tab 1013 (by decide +kernel) rfl
theorem tw_1014 : (Jvm.Cond.constantLong "BloodPriceModel" (200 : Nat) (1752527476 : Int64)) ∈ GW := gw_tab 1014 (by decide +kernel) rfl
theorem tw_1015 : (Jvm.Cond.constantLong "BloodPriceModel" (202 : Nat) (2003330414 : Int64)) ∈ GW := gw_tab 1015 (by decide +kernel) rfl
theorem tw_1016 : (Jvm.Cond.constantLong "BloodPriceModel" (204 : Nat) (25711 : Int64)) ∈ GW := gw_tab 1016 (by decide +kernel) rfl
theorem tw_1017 : (Jvm.Cond.constantLong "BloodPriceModel" (206 : Nat) (110429873532005 : Int64)) ∈ GW := gw_tab 1017 (by decide +kernel) rfl
theorem tw_1018 : (Jvm.Cond.constantLong "BloodPriceModel" (208 : Nat) (1751215206 : Int64)) ∈ GW := gw_tab 1018 (by decide +kernel) rfl
theorem tw_1019 : (Jvm.Cond.constantLong "BloodPriceModel" (210 : Nat) (6382692 : Int64)) ∈ GW := gw_tab 1019 (by decide +kernel) rfl
theorem tw_1020 : (Jvm.Cond.constantLong "BloodPriceModel" (212 : Nat) (1818588019 : Int64)) ∈ GW := gw_tab 1020 (by decide +kernel) rfl
theorem tw_1021 : (Jvm.Cond.constantLong "BloodPriceModel" (214 : Nat) (495672455781 : Int64)) ∈ GW := gw_tab 1021 (by decide +kernel) rfl
theorem tw_1022 : (Jvm.Cond.constantLong "BloodPriceModel" (216 : Nat) (1852138852 : Int64)) ∈ GW := gw_tab 1022 (by decide +kernel) rfl
theorem tw_1023 : (Jvm.Cond.constantLong "BloodPriceModel" (218 : Nat) (499918204275 : Int64)) ∈ GW := gw_tab 1023 (by decide +kernel) rfl
theorem tw_1024 : (Jvm.Cond.constantLong "BloodPriceModel" (220 : Nat) (1684109683 : Int64)) ∈ GW := gw_tab 1024 (by decide +kernel) rfl
theorem tw_1025 : (Jvm.Cond.constantLong "BloodPriceModel" (222 : Nat) (28530 : Int64)) ∈ GW := gw_tab 1025 (by decide +kernel) rfl
theorem tw_1026 : (Jvm.Cond.constantLong "BloodPriceModel" (224 : Nat) (6385252 : Int64)) ∈ GW := gw_tab 1026 (by decide +kernel) rfl
theorem tw_1027 : (Jvm.Cond.constantLong "BloodPriceModel" (226 : Nat) (7237492 : Int64)) ∈ GW := gw_tab 1027 (by decide +kernel) rfl
theorem tw_1028 : (Jvm.Cond.methodLink "BloodPriceModel" (253 : Nat) ({ cls := "BloodPriceModel", name := "isDigit", desc := "(I)Z" } : Jvm.MethodName)) ∈ GW := gw_tab 1028 (by decide +kernel) rfl
theorem tw_1029 : (Jvm.Cond.static ({ cls := "BloodPriceModel", name := "isDigit", desc := "(I)Z" } : Jvm.MethodName)) ∈ GW := gw_tab 1029 (by decide +kernel) rfl
theorem tw_1030 : (Jvm.Cond.code ({ cls := "BloodPriceModel", name := "isDigit", desc := "(I)Z" } : Jvm.MethodName) prog_11_method_4_code (1 : Nat) (Option.some Jvm.ClassFile.FieldType.boolean)) ∈ GW := gw_tab 1030 (by decide +kernel) rfl
theorem tw_1031 : (Jvm.Cond.methodLink "BloodPriceModel" (272 : Nat) ({ cls := "BloodPriceModel", name := "isGood", desc := "()Z" } : Jvm.MethodName)) ∈ GW := gw_tab 1031 (by decide +kernel) rfl
theorem tw_1033 : (Jvm.Cond.instanceMethod ({ cls := "BloodPriceModel", name := "isGood", desc := "()Z" } : Jvm.MethodName)) ∈ GW := gw_tab 1033 (by decide +kernel) rfl
theorem tw_1034 : (Jvm.Cond.code ({ cls := "BloodPriceModel", name := "isGood", desc := "()Z" } : Jvm.MethodName) prog_11_method_6_code (1 : Nat) (Option.some Jvm.ClassFile.FieldType.boolean)) ∈ GW := gw_tab 1034 (by decide +kernel) rfl
theorem tw_1035 : (Jvm.Cond.methodLink "BloodPriceModel" (292 : Nat) ({ cls := "BloodPriceModel", name := "readLine", desc := "()V" } : Jvm.MethodName)) ∈ GW := gw_tab 1035 (by decide +kernel) rfl
theorem tw_1037 : (Jvm.Cond.instanceMethod ({ cls := "BloodPriceModel", name := "readLine", desc := "()V" } : Jvm.MethodName)) ∈ GW := gw_tab 1037 (by decide +kernel) rfl
theorem tw_1038 : (Jvm.Cond.code ({ cls := "BloodPriceModel", name := "readLine", desc := "()V" } : Jvm.MethodName) prog_11_method_16_code (4 : Nat) (Option.none : Option Jvm.ClassFile.FieldType)) ∈ GW := gw_tab 1038 (by decide +kernel) rfl
theorem tw_1039 : (Jvm.Cond.methodLink "BloodPriceModel" (269 : Nat) ({ cls := "BloodPriceModel", name := "wrong", desc := "()V" } : Jvm.MethodName)) ∈ GW := gw_tab 1039 (by decide +kernel) rfl
theorem tw_1041 : (Jvm.Cond.instanceMethod ({ cls := "BloodPriceModel", name := "wrong", desc := "()V" } : Jvm.MethodName)) ∈ GW := gw_tab 1041 (by decide +kernel) rfl
theorem tw_1042 : (Jvm.Cond.code ({ cls := "BloodPriceModel", name := "wrong", desc := "()V" } : Jvm.MethodName) prog_11_method_12_code (1 : Nat) (Option.none : Option Jvm.ClassFile.FieldType)) ∈ GW := gw_tab 1042 (by decide +kernel) rfl
theorem tw_1043 : (Jvm.Cond.methodLink "BloodPriceModel" (259 : Nat) ({ cls := "BloodPriceModel", name := "fails", desc := "(II)V" } : Jvm.MethodName)) ∈ GW := gw_tab 1043 (by decide +kernel) rfl
theorem tw_1045 : (Jvm.Cond.instanceMethod ({ cls := "BloodPriceModel", name := "fails", desc := "(II)V" } : Jvm.MethodName)) ∈ GW := gw_tab 1045 (by decide +kernel) rfl
theorem tw_1046 : (Jvm.Cond.code ({ cls := "BloodPriceModel", name := "fails", desc := "(II)V" } : Jvm.MethodName) prog_11_method_5_code (3 : Nat) (Option.none : Option Jvm.ClassFile.FieldType)) ∈ GW := gw_tab 1046 (by decide +kernel) rfl
theorem tw_1047 : (Jvm.Cond.methodLink "BloodPriceModel" (295 : Nat) ({ cls := "BloodPriceModel", name := "readHurt", desc := "()V" } : Jvm.MethodName)) ∈ GW := gw_tab 1047 (by decide +kernel) rfl
theorem tw_1049 : (Jvm.Cond.instanceMethod ({ cls := "BloodPriceModel", name := "readHurt", desc := "()V" } : Jvm.MethodName)) ∈ GW := gw_tab 1049 (by decide +kernel) rfl
theorem tw_1050 : (Jvm.Cond.code ({ cls := "BloodPriceModel", name := "readHurt", desc := "()V" } : Jvm.MethodName) prog_11_method_18_code (2 : Nat) (Option.none : Option Jvm.ClassFile.FieldType)) ∈ GW := gw_tab 1050 (by decide +kernel) rfl
theorem tw_1051 : (Jvm.Cond.methodLink "BloodPriceModel" (313 : Nat) ({ cls := "BloodPriceModel", name := "hurtOf", desc := "(IJ)I" } : Jvm.MethodName)) ∈ GW := gw_tab 1051 (by decide +kernel) rfl
theorem tw_1053 : (Jvm.Cond.instanceMethod ({ cls := "BloodPriceModel", name := "hurtOf", desc := "(IJ)I" } : Jvm.MethodName)) ∈ GW := gw_tab 1053 (by decide +kernel) rfl
theorem tw_1054 : (Jvm.Cond.code ({ cls := "BloodPriceModel", name := "hurtOf", desc := "(IJ)I" } : Jvm.MethodName) prog_11_method_17_code (5 : Nat) (Option.some Jvm.ClassFile.FieldType.int)) ∈ GW := gw_tab 1054 (by decide +kernel) rfl
theorem tw_1055 : (Jvm.Cond.methodLink "BloodPriceModel" (317 : Nat) ({ cls := "BloodPriceModel", name := "numeral", desc := "(II)I" } : Jvm.MethodName)) ∈ GW := gw_tab 1055 (by decide +kernel) rfl
theorem tw_1057 : (Jvm.Cond.instanceMethod ({ cls := "BloodPriceModel", name := "numeral", desc := "(II)I" } : Jvm.MethodName)) ∈ GW := gw_tab 1057 (by decide +kernel) rfl
theorem tw_1058 : (Jvm.Cond.code ({ cls := "BloodPriceModel", name := "numeral", desc := "(II)I" } : Jvm.MethodName) prog_11_method_14_code (4 : Nat) (Option.some Jvm.ClassFile.FieldType.int)) ∈ GW := gw_tab 1058 (by decide +kernel) rfl
theorem tw_1059 : (Jvm.Cond.methodLink "BloodPriceModel" (298 : Nat) ({ cls := "BloodPriceModel", name := "readWhen", desc := "()V" } : Jvm.MethodName)) ∈ GW := gw_tab 1059 (by decide +kernel) rfl
theorem tw_1061 : (Jvm.Cond.instanceMethod ({ cls := "BloodPriceModel", name := "readWhen", desc := "()V" } : Jvm.MethodName)) ∈ GW := gw_tab 1061 (by decide +kernel) rfl
theorem tw_1062 : (Jvm.Cond.code ({ cls := "BloodPriceModel", name := "readWhen", desc := "()V" } : Jvm.MethodName) prog_11_method_22_code (2 : Nat) (Option.none : Option Jvm.ClassFile.FieldType)) ∈ GW := gw_tab 1062 (by decide +kernel) rfl
theorem tw_1063 : (Jvm.Cond.methodLink "BloodPriceModel" (325 : Nat) ({ cls := "BloodPriceModel", name := "e", desc := "()V" } : Jvm.MethodName)) ∈ GW := gw_tab 1063 (by decide +kernel) rfl
theorem tw_1065 : (Jvm.Cond.instanceMethod ({ cls := "BloodPriceModel", name := "e", desc := "()V" } : Jvm.MethodName)) ∈ GW := gw_tab 1065 (by decide +kernel) rfl
theorem tw_1066 : (Jvm.Cond.code ({ cls := "BloodPriceModel", name := "e", desc := "()V" } : Jvm.MethodName) prog_11_method_25_code (2 : Nat) (Option.none : Option Jvm.ClassFile.FieldType)) ∈ GW := gw_tab 1066 (by decide +kernel) rfl
theorem tw_1067 : (Jvm.Cond.methodLink "BloodPriceModel" (334 : Nat) ({ cls := "BloodPriceModel", name := "pile", desc := "(I)V" } : Jvm.MethodName)) ∈ GW := gw_tab 1067 (by decide +kernel) rfl
theorem tw_1069 : (Jvm.Cond.instanceMethod ({ cls := "BloodPriceModel", name := "pile", desc := "(I)V" } : Jvm.MethodName)) ∈ GW := gw_tab 1069 (by decide +kernel) rfl
theorem tw_1070 : (Jvm.Cond.code ({ cls := "BloodPriceModel", name := "pile", desc := "(I)V" } : Jvm.MethodName) prog_11_method_24_code (2 : Nat) (Option.none : Option Jvm.ClassFile.FieldType)) ∈ GW := gw_tab 1070 (by decide +kernel) rfl
theorem tw_1071 : (Jvm.Cond.methodLink "BloodPriceModel" (338 : Nat) ({ cls := "BloodPriceModel", name := "one", desc := "()Z" } : Jvm.MethodName)) ∈ GW := gw_tab 1071 (by decide +kernel) rfl
theorem tw_1073 : (Jvm.Cond.instanceMethod ({ cls := "BloodPriceModel", name := "one", desc := "()Z" } : Jvm.MethodName)) ∈ GW := gw_tab 1073 (by decide +kernel) rfl
theorem tw_1074 : (Jvm.Cond.code ({ cls := "BloodPriceModel", name := "one", desc := "()Z" } : Jvm.MethodName) prog_11_method_26_code (2 : Nat) (Option.some Jvm.ClassFile.FieldType.boolean)) ∈ GW := gw_tab 1074 (by decide +kernel) rfl
theorem tw_1075 : (Jvm.Cond.methodLink "BloodPriceModel" (310 : Nat) ({ cls := "BloodPriceModel", name := "is", desc := "(I)Z" } : Jvm.MethodName)) ∈ GW := gw_tab 1075 (by decide +kernel) rfl
theorem tw_1077 : (Jvm.Cond.instanceMethod ({ cls := "BloodPriceModel", name := "is", desc := "(I)Z" } : Jvm.MethodName)) ∈ GW := gw_tab 1077 (by decide +kernel) rfl
theorem tw_1078 : (Jvm.Cond.code ({ cls := "BloodPriceModel", name := "is", desc := "(I)Z" } : Jvm.MethodName) prog_11_method_10_code (2 : Nat) (Option.some Jvm.ClassFile.FieldType.boolean)) ∈ GW := gw_tab 1078 (by decide +kernel) rfl
theorem tw_1079 : (Jvm.Cond.methodLink "BloodPriceModel" (263 : Nat) ({ cls := "BloodPriceModel", name := "isWord", desc := "(J)Z" } : Jvm.MethodName)) ∈ GW := gw_tab 1079 (by decide +kernel) rfl
theorem tw_1081 : (Jvm.Cond.instanceMethod ({ cls := "BloodPriceModel", name := "isWord", desc := "(J)Z" } : Jvm.MethodName)) ∈ GW := gw_tab 1081 (by decide +kernel) rfl
theorem tw_1082 : (Jvm.Cond.code ({ cls := "BloodPriceModel", name := "isWord", desc := "(J)Z" } : Jvm.MethodName) prog_11_method_11_code (3 : Nat) (Option.some Jvm.ClassFile.FieldType.boolean)) ∈ GW := gw_tab 1082 (by decide +kernel) rfl
theorem tw_1083 : (Jvm.Cond.methodLink "BloodPriceModel" (344 : Nat) ({ cls := "BloodPriceModel", name := "side", desc := "()V" } : Jvm.MethodName)) ∈ GW := gw_tab 1083 (by decide +kernel) rfl
theorem tw_1085 : (Jvm.Cond.instanceMethod ({ cls := "BloodPriceModel", name := "side", desc := "()V" } : Jvm.MethodName)) ∈ GW := gw_tab 1085 (by decide +kernel) rfl
theorem tw_1086 : (Jvm.Cond.code ({ cls := "BloodPriceModel", name := "side", desc := "()V" } : Jvm.MethodName) prog_11_method_27_code (2 : Nat) (Option.none : Option Jvm.ClassFile.FieldType)) ∈ GW := gw_tab 1086 (by decide +kernel) rfl
theorem tw_1087 : (Jvm.Cond.methodLink "BloodPriceModel" (347 : Nat) ({ cls := "BloodPriceModel", name := "put", desc := "(II)V" } : Jvm.MethodName)) ∈ GW := gw_tab 1087 (by decide +kernel) rfl
theorem tw_1089 : (Jvm.Cond.instanceMethod ({ cls := "BloodPriceModel", name := "put", desc := "(II)V" } : Jvm.MethodName)) ∈ GW := gw_tab 1089 (by decide +kernel) rfl
theorem tw_1090 : (Jvm.Cond.code ({ cls := "BloodPriceModel", name := "put", desc := "(II)V" } : Jvm.MethodName) prog_11_method_23_code (3 : Nat) (Option.none : Option Jvm.ClassFile.FieldType)) ∈ GW := gw_tab 1090 (by decide +kernel) rfl
theorem tw_1091 : (Jvm.Cond.methodLink "BloodPriceModel" (341 : Nat) ({ cls := "BloodPriceModel", name := "behind", desc := "()Z" } : Jvm.MethodName)) ∈ GW := gw_tab 1091 (by decide +kernel) rfl
theorem tw_1093 : (Jvm.Cond.instanceMethod ({ cls := "BloodPriceModel", name := "behind", desc := "()Z" } : Jvm.MethodName)) ∈ GW := gw_tab 1093 (by decide +kernel) rfl
theorem tw_1094 : (Jvm.Cond.code ({ cls := "BloodPriceModel", name := "behind", desc := "()Z" } : Jvm.MethodName) prog_11_method_28_code (2 : Nat) (Option.some Jvm.ClassFile.FieldType.boolean)) ∈ GW := gw_tab 1094 (by decide +kernel) rfl
theorem tw_1095 : (Jvm.Cond.methodLink "BloodPriceModel" (321 : Nat) ({ cls := "BloodPriceModel", name := "mustWord", desc := "(J)V" } : Jvm.MethodName)) ∈ GW := gw_tab 1095 (by decide +kernel) rfl
theorem tw_1097 : (Jvm.Cond.instanceMethod ({ cls := "BloodPriceModel", name := "mustWord", desc := "(J)V" } : Jvm.MethodName)) ∈ GW := gw_tab 1097 (by decide +kernel) rfl
theorem tw_1098 : (Jvm.Cond.code ({ cls := "BloodPriceModel", name := "mustWord", desc := "(J)V" } : Jvm.MethodName) prog_11_method_13_code (3 : Nat) (Option.none : Option Jvm.ClassFile.FieldType)) ∈ GW := gw_tab 1098 (by decide +kernel) rfl
theorem tw_1099 : (Jvm.Cond.methodLink "BloodPriceModel" (301 : Nat) ({ cls := "BloodPriceModel", name := "readShare", desc := "()V" } : Jvm.MethodName)) ∈ GW := gw_tab 1099 (by decide +kernel) rfl
theorem tw_1101 : (Jvm.Cond.instanceMethod ({ cls := "BloodPriceModel", name := "readShare", desc := "()V" } : Jvm.MethodName)) ∈ GW := gw_tab 1101 (by decide +kernel) rfl
theorem tw_1102 : (Jvm.Cond.code ({ cls := "BloodPriceModel", name := "readShare", desc := "()V" } : Jvm.MethodName) prog_11_method_19_code (4 : Nat) (Option.none : Option Jvm.ClassFile.FieldType)) ∈ GW := gw_tab 1102 (by decide +kernel) rfl
theorem tw_1103 : (Jvm.Cond.methodLink "BloodPriceModel" (304 : Nat) ({ cls := "BloodPriceModel", name := "readNeed", desc := "()V" } : Jvm.MethodName)) ∈ GW := gw_tab 1103 (by decide +kernel) rfl
theorem tw_1105 : (Jvm.Cond.instanceMethod ({ cls := "BloodPriceModel", name := "readNeed", desc := "()V" } : Jvm.MethodName)) ∈ GW := gw_tab 1105 (by decide +kernel) rfl
theorem tw_1106 : (Jvm.Cond.code ({ cls := "BloodPriceModel", name := "readNeed", desc := "()V" } : Jvm.MethodName) prog_11_method_20_code (1 : Nat) (Option.none : Option Jvm.ClassFile.FieldType)) ∈ GW := gw_tab 1106 (by decide +kernel) rfl
theorem tw_1107 : (Jvm.Cond.methodLink "BloodPriceModel" (307 : Nat) ({ cls := "BloodPriceModel", name := "readTerms", desc := "()V" } : Jvm.MethodName)) ∈ GW := gw_tab 1107 (by decide +kernel) rfl
theorem tw_1109 : (Jvm.Cond.instanceMethod ({ cls := "BloodPriceModel", name := "readTerms", desc := "()V" } : Jvm.MethodName)) ∈ GW := gw_tab 1109 (by decide +kernel) rfl
theorem tw_1110 : (Jvm.Cond.code ({ cls := "BloodPriceModel", name := "readTerms", desc := "()V" } : Jvm.MethodName) prog_11_method_21_code (1 : Nat) (Option.none : Option Jvm.ClassFile.FieldType)) ∈ GW := gw_tab 1110 (by decide +kernel) rfl
theorem tw_1111 : (Jvm.Cond.methodLink "BloodPriceLaw" (31 : Nat) ({ cls := "BloodPriceModel", name := "fault", desc := "(I)I" } : Jvm.MethodName)) ∈ GW := gw_tab 1111 (by decide +kernel) rfl
theorem tw_1112 : (Jvm.Cond.instanceMethod ({ cls := "BloodPriceModel", name := "fault", desc := "(I)I" } : Jvm.MethodName)) ∈ GW := gw_tab 1112 (by decide +kernel) rfl
theorem tw_1113 : (Jvm.Cond.selects "BloodPriceModel" ({ cls := "BloodPriceModel", name := "fault", desc := "(I)I" } : Jvm.MethodName) ({ cls := "BloodPriceModel", name := "fault", desc := "(I)I" } : Jvm.MethodName)) ∈ GW := gw_tab 1113 (by decide +kernel) rfl
theorem tw_1114 : (Jvm.Cond.code ({ cls := "BloodPriceModel", name := "fault", desc := "(I)I" } : Jvm.MethodName) prog_11_method_29_code (2 : Nat) (Option.some Jvm.ClassFile.FieldType.int)) ∈ GW := gw_tab 1114 (by decide +kernel) rfl
theorem tw_1115 : (Jvm.Cond.methodLink "BloodPriceLaw" (35 : Nat) ({ cls := "BloodPriceModel", name := "lawOn", desc := "(II)I" } : Jvm.MethodName)) ∈ GW := gw_tab 1115 (by decide +kernel) rfl
theorem tw_1116 : (Jvm.Cond.instanceMethod ({ cls := "BloodPriceModel", name := "lawOn", desc := "(II)I" } : Jvm.MethodName)) ∈ GW := gw_tab 1116 (by decide +kernel) rfl
theorem tw_1117 : (Jvm.Cond.selects "BloodPriceModel" ({ cls := "BloodPriceModel", name := "lawOn", desc := "(II)I" } : Jvm.MethodName) ({ cls := "BloodPriceModel", name := "lawOn", desc := "(II)I" } : Jvm.MethodName)) ∈ GW := gw_tab 1117 (by decide +kernel) rfl
theorem tw_1118 : (Jvm.Cond.code ({ cls := "BloodPriceModel", name := "lawOn", desc := "(II)I" } : Jvm.MethodName) prog_11_method_31_code (6 : Nat) (Option.some Jvm.ClassFile.FieldType.int)) ∈ GW := gw_tab 1118 (by decide +kernel) rfl
theorem tw_1119 : (Jvm.Cond.methodLink "BloodPriceModel" (350 : Nat) ({ cls := "BloodPriceModel", name := "lawFor", desc := "(II)I" } : Jvm.MethodName)) ∈ GW := gw_tab 1119 (by decide +kernel) rfl
theorem tw_1121 : (Jvm.Cond.instanceMethod ({ cls := "BloodPriceModel", name := "lawFor", desc := "(II)I" } : Jvm.MethodName)) ∈ GW := gw_tab 1121 (by decide +kernel) rfl
theorem tw_1122 : (Jvm.Cond.code ({ cls := "BloodPriceModel", name := "lawFor", desc := "(II)I" } : Jvm.MethodName) prog_11_method_30_code (5 : Nat) (Option.some Jvm.ClassFile.FieldType.int)) ∈ GW := gw_tab 1122 (by decide +kernel) rfl
theorem tw_1123 : (Jvm.Cond.methodLink "BloodPriceLaw" (40 : Nat) ({ cls := "BloodPriceModel", name := "person", desc := "(III)I" } : Jvm.MethodName)) ∈ GW := gw_tab 1123 (by decide +kernel) rfl
theorem tw_1124 : (Jvm.Cond.instanceMethod ({ cls := "BloodPriceModel", name := "person", desc := "(III)I" } : Jvm.MethodName)) ∈ GW := gw_tab 1124 (by decide +kernel) rfl
theorem tw_1125 : (Jvm.Cond.selects "BloodPriceModel" ({ cls := "BloodPriceModel", name := "person", desc := "(III)I" } : Jvm.MethodName) ({ cls := "BloodPriceModel", name := "person", desc := "(III)I" } : Jvm.MethodName)) ∈ GW := gw_tab 1125 (by decide +kernel) rfl
theorem tw_1126 : (Jvm.Cond.code ({ cls := "BloodPriceModel", name := "person", desc := "(III)I" } : Jvm.MethodName) prog_11_method_33_code (4 : Nat) (Option.some Jvm.ClassFile.FieldType.int)) ∈ GW := gw_tab 1126 (by decide +kernel) rfl
theorem tw_1127 : (Jvm.Cond.methodLink "BloodPriceLaw" (44 : Nat) ({ cls := "BloodPriceModel", name := "degree", desc := "(II)I" } : Jvm.MethodName)) ∈ GW := gw_tab 1127 (by decide +kernel) rfl
theorem tw_1128 : (Jvm.Cond.instanceMethod ({ cls := "BloodPriceModel", name := "degree", desc := "(II)I" } : Jvm.MethodName)) ∈ GW := gw_tab 1128 (by decide +kernel) rfl
theorem tw_1129 : (Jvm.Cond.selects "BloodPriceModel" ({ cls := "BloodPriceModel", name := "degree", desc := "(II)I" } : Jvm.MethodName) ({ cls := "BloodPriceModel", name := "degree", desc := "(II)I" } : Jvm.MethodName)) ∈ GW := gw_tab 1129 (by decide +kernel) rfl
theorem tw_1130 : (Jvm.Cond.code ({ cls := "BloodPriceModel", name := "degree", desc := "(II)I" } : Jvm.MethodName) prog_11_method_35_code (5 : Nat) (Option.some Jvm.ClassFile.FieldType.int)) ∈ GW := gw_tab 1130 (by decide +kernel) rfl
theorem tw_1131 : (Jvm.Cond.methodLink "BloodPriceModel" (356 : Nat) ({ cls := "BloodPriceModel", name := "isPerson", desc := "(I)Z" } : Jvm.MethodName)) ∈ GW := gw_tab 1131 (by decide +kernel) rfl
theorem tw_1133 : (Jvm.Cond.instanceMethod ({ cls := "BloodPriceModel", name := "isPerson", desc := "(I)Z" } : Jvm.MethodName)) ∈ GW := gw_tab 1133 (by decide +kernel) rfl
theorem tw_1134 : (Jvm.Cond.code ({ cls := "BloodPriceModel", name := "isPerson", desc := "(I)Z" } : Jvm.MethodName) prog_11_method_32_code (2 : Nat) (Option.some Jvm.ClassFile.FieldType.boolean)) ∈ GW := gw_tab 1134 (by decide +kernel) rfl
theorem tw_1135 : (Jvm.Cond.methodLink "BloodPriceModel" (359 : Nat) ({ cls := "BloodPriceModel", name := "wider", desc := "(I)I" } : Jvm.MethodName)) ∈ GW := gw_tab 1135 (by decide +kernel) rfl
theorem tw_1137 : (Jvm.Cond.instanceMethod ({ cls := "BloodPriceModel", name := "wider", desc := "(I)I" } : Jvm.MethodName)) ∈ GW := gw_tab 1137 (by decide +kernel) rfl
theorem tw_1138 : (Jvm.Cond.code ({ cls := "BloodPriceModel", name := "wider", desc := "(I)I" } : Jvm.MethodName) prog_11_method_34_code (5 : Nat) (Option.some Jvm.ClassFile.FieldType.int)) ∈ GW := gw_tab 1138 (by decide +kernel) rfl
theorem tw_1139 : (Jvm.Cond.methodLink "BloodPriceLaw" (48 : Nat) ({ cls := "BloodPriceModel", name := "rank", desc := "(III)I" } : Jvm.MethodName)) ∈ GW := gw_tab 1139 (by decide +kernel) rfl
theorem tw_1140 : (Jvm.Cond.instanceMethod ({ cls := "BloodPriceModel", name := "rank", desc := "(III)I" } : Jvm.MethodName)) ∈ GW := gw_tab 1140 (by decide +kernel) rfl
theorem tw_1141 : (Jvm.Cond.selects "BloodPriceModel" ({ cls := "BloodPriceModel", name := "rank", desc := "(III)I" } : Jvm.MethodName) ({ cls := "BloodPriceModel", name := "rank", desc := "(III)I" } : Jvm.MethodName)) ∈ GW := gw_tab 1141 (by decide +kernel) rfl
theorem tw_1142 : (Jvm.Cond.code ({ cls := "BloodPriceModel", name := "rank", desc := "(III)I" } : Jvm.MethodName) prog_11_method_36_code (4 : Nat) (Option.some Jvm.ClassFile.FieldType.int)) ∈ GW := gw_tab 1142 (by decide +kernel) rfl
theorem tw_1143 : (Jvm.Cond.methodLink "BloodPriceLaw" (52 : Nat) ({ cls := "BloodPriceModel", name := "ranked", desc := "(III)I" } : Jvm.MethodName)) ∈ GW := gw_tab 1143 (by decide +kernel) rfl
theorem tw_1144 : (Jvm.Cond.instanceMethod ({ cls := "BloodPriceModel", name := "ranked", desc := "(III)I" } : Jvm.MethodName)) ∈ GW := gw_tab 1144 (by decide +kernel) rfl
theorem tw_1145 : (Jvm.Cond.selects "BloodPriceModel" ({ cls := "BloodPriceModel", name := "ranked", desc := "(III)I" } : Jvm.MethodName) ({ cls := "BloodPriceModel", name := "ranked", desc := "(III)I" } : Jvm.MethodName)) ∈ GW := gw_tab 1145 (by decide +kernel) rfl
theorem tw_1146 : (Jvm.Cond.code ({ cls := "BloodPriceModel", name := "ranked", desc := "(III)I" } : Jvm.MethodName) prog_11_method_37_code (6 : Nat) (Option.some Jvm.ClassFile.FieldType.int)) ∈ GW := gw_tab 1146 (by decide +kernel) rfl
theorem tw_1147 : (Jvm.Cond.methodLink "BloodPriceLaw" (57 : Nat) ({ cls := "BloodPriceModel", name := "dead", desc := "(II)Z" } : Jvm.MethodName)) ∈ GW := gw_tab 1147 (by decide +kernel) rfl
theorem tw_1148 : (Jvm.Cond.instanceMethod ({ cls := "BloodPriceModel", name := "dead", desc := "(II)Z" } : Jvm.MethodName)) ∈ GW := gw_tab 1148 (by decide +kernel) rfl
theorem tw_1149 : (Jvm.Cond.selects "BloodPriceModel" ({ cls := "BloodPriceModel", name := "dead", desc := "(II)Z" } : Jvm.MethodName) ({ cls := "BloodPriceModel", name := "dead", desc := "(II)Z" } : Jvm.MethodName)) ∈ GW := gw_tab 1149 (by decide +kernel) rfl
theorem tw_1150 : (Jvm.Cond.code ({ cls := "BloodPriceModel", name := "dead", desc := "(II)Z" } : Jvm.MethodName) prog_11_method_38_code (3 : Nat) (Option.some Jvm.ClassFile.FieldType.boolean)) ∈ GW := gw_tab 1150 (by decide +kernel) rfl
theorem tw_1151 : (Jvm.Cond.methodLink "BloodPriceLaw" (62 : Nat) ({ cls := "BloodPriceModel", name := "truce", desc := "(IIII)I" } : Jvm.MethodName)) ∈ GW := gw_tab 1151 (by decide +kernel) rfl
theorem tw_1152 : (Jvm.Cond.instanceMethod ({ cls := "BloodPriceModel", name := "truce", desc := "(IIII)I" } : Jvm.MethodName)) ∈ GW := gw_tab 1152 (by decide +kernel) rfl
theorem tw_1153 : (Jvm.Cond.selects "BloodPriceModel" ({ cls := "BloodPriceModel", name := "truce", desc := "(IIII)I" } : Jvm.MethodName) ({ cls := "BloodPriceModel", name := "truce", desc := "(IIII)I" } : Jvm.MethodName)) ∈ GW := gw_tab 1153 (by decide +kernel) rfl
theorem tw_1154 : (Jvm.Cond.code ({ cls := "BloodPriceModel", name := "truce", desc := "(IIII)I" } : Jvm.MethodName) prog_11_method_40_code (5 : Nat) (Option.some Jvm.ClassFile.FieldType.int)) ∈ GW := gw_tab 1154 (by decide +kernel) rfl
theorem tw_1155 : (Jvm.Cond.methodLink "BloodPriceLaw" (66 : Nat) ({ cls := "BloodPriceModel", name := "later", desc := "(I)I" } : Jvm.MethodName)) ∈ GW := gw_tab 1155 (by decide +kernel) rfl
theorem tw_1156 : (Jvm.Cond.instanceMethod ({ cls := "BloodPriceModel", name := "later", desc := "(I)I" } : Jvm.MethodName)) ∈ GW := gw_tab 1156 (by decide +kernel) rfl
theorem tw_1157 : (Jvm.Cond.selects "BloodPriceModel" ({ cls := "BloodPriceModel", name := "later", desc := "(I)I" } : Jvm.MethodName) ({ cls := "BloodPriceModel", name := "later", desc := "(I)I" } : Jvm.MethodName)) ∈ GW := gw_tab 1157 (by decide +kernel) rfl
theorem tw_1158 : (Jvm.Cond.code ({ cls := "BloodPriceModel", name := "later", desc := "(I)I" } : Jvm.MethodName) prog_11_method_42_code (2 : Nat) (Option.some Jvm.ClassFile.FieldType.int)) ∈ GW := gw_tab 1158 (by decide +kernel) rfl
theorem tw_1159 : (Jvm.Cond.methodLink "BloodPriceLaw" (73 : Nat) ({ cls := "BloodPriceModel", name := "hurt", desc := "(IIJIIZ)I" } : Jvm.MethodName)) ∈ GW := gw_tab 1159 (by decide +kernel) rfl
theorem tw_1160 : (Jvm.Cond.instanceMethod ({ cls := "BloodPriceModel", name := "hurt", desc := "(IIJIIZ)I" } : Jvm.MethodName)) ∈ GW := gw_tab 1160 (by decide +kernel) rfl
theorem tw_1161 : (Jvm.Cond.selects "BloodPriceModel" ({ cls := "BloodPriceModel", name := "hurt", desc := "(IIJIIZ)I" } : Jvm.MethodName) ({ cls := "BloodPriceModel", name := "hurt", desc := "(IIJIIZ)I" } : Jvm.MethodName)) ∈ GW := gw_tab 1161 (by decide +kernel) rfl
theorem tw_1162 : (Jvm.Cond.code ({ cls := "BloodPriceModel", name := "hurt", desc := "(IIJIIZ)I" } : Jvm.MethodName) prog_11_method_45_code (8 : Nat) (Option.some Jvm.ClassFile.FieldType.int)) ∈ GW := gw_tab 1162 (by decide +kernel) rfl
theorem tw_1163 : (Jvm.Cond.methodLink "BloodPriceModel" (376 : Nat) ({ cls := "BloodPriceModel", name := "isName", desc := "(J)Z" } : Jvm.MethodName)) ∈ GW := gw_tab 1163 (by decide +kernel) rfl
theorem tw_1164 : (Jvm.Cond.static ({ cls := "BloodPriceModel", name := "isName", desc := "(J)Z" } : Jvm.MethodName)) ∈ GW := gw_tab 1164 (by decide +kernel) rfl
theorem tw_1165 : (Jvm.Cond.code ({ cls := "BloodPriceModel", name := "isName", desc := "(J)Z" } : Jvm.MethodName) prog_11_method_44_code (5 : Nat) (Option.some Jvm.ClassFile.FieldType.boolean)) ∈ GW := gw_tab 1165 (by decide +kernel) rfl
theorem tw_1166 : (Jvm.Cond.constantLong "BloodPriceModel" (374 : Nat) (255 : Int64)) ∈ GW := gw_tab 1166 (by decide +kernel) rfl
theorem tw_1167 : (Jvm.Cond.methodLink "BloodPriceLaw" (77 : Nat) ({ cls := "BloodPriceModel", name := "sum", desc := "(II)I" } : Jvm.MethodName)) ∈ GW := gw_tab 1167 (by decide +kernel) rfl
theorem tw_1168 : (Jvm.Cond.instanceMethod ({ cls := "BloodPriceModel", name := "sum", desc := "(II)I" } : Jvm.MethodName)) ∈ GW := gw_tab 1168 (by decide +kernel) rfl
theorem tw_1169 : (Jvm.Cond.selects "BloodPriceModel" ({ cls := "BloodPriceModel", name := "sum", desc := "(II)I" } : Jvm.MethodName) ({ cls := "BloodPriceModel", name := "sum", desc := "(II)I" } : Jvm.MethodName)) ∈ GW := gw_tab 1169 (by decide +kernel) rfl
theorem tw_1170 : (Jvm.Cond.code ({ cls := "BloodPriceModel", name := "sum", desc := "(II)I" } : Jvm.MethodName) prog_11_method_52_code (3 : Nat) (Option.some Jvm.ClassFile.FieldType.int)) ∈ GW := gw_tab 1170 (by decide +kernel) rfl
theorem tw_1171 : (Jvm.Cond.methodLink "BloodPriceModel" (410 : Nat) ({ cls := "BloodPriceModel", name := "isCase", desc := "(I)Z" } : Jvm.MethodName)) ∈ GW := gw_tab 1171 (by decide +kernel) rfl
theorem tw_1173 : (Jvm.Cond.instanceMethod ({ cls := "BloodPriceModel", name := "isCase", desc := "(I)Z" } : Jvm.MethodName)) ∈ GW := gw_tab 1173 (by decide +kernel) rfl
theorem tw_1174 : (Jvm.Cond.code ({ cls := "BloodPriceModel", name := "isCase", desc := "(I)Z" } : Jvm.MethodName) prog_11_method_43_code (2 : Nat) (Option.some Jvm.ClassFile.FieldType.boolean)) ∈ GW := gw_tab 1174 (by decide +kernel) rfl
theorem tw_1175 : (Jvm.Cond.methodLink "BloodPriceModel" (413 : Nat) ({ cls := "BloodPriceModel", name := "sumOf", desc := "(II)I" } : Jvm.MethodName)) ∈ GW := gw_tab 1175 (by decide +kernel) rfl
theorem tw_1177 : (Jvm.Cond.instanceMethod ({ cls := "BloodPriceModel", name := "sumOf", desc := "(II)I" } : Jvm.MethodName)) ∈ GW := gw_tab 1177 (by decide +kernel) rfl
theorem tw_1178 : (Jvm.Cond.code ({ cls := "BloodPriceModel", name := "sumOf", desc := "(II)I" } : Jvm.MethodName) prog_11_method_51_code (4 : Nat) (Option.some Jvm.ClassFile.FieldType.int)) ∈ GW := gw_tab 1178 (by decide +kernel) rfl
theorem tw_1179 : (Jvm.Cond.methodLink "BloodPriceModel" (407 : Nat) ({ cls := "BloodPriceModel", name := "price", desc := "(II)I" } : Jvm.MethodName)) ∈ GW := gw_tab 1179 (by decide +kernel) rfl
theorem tw_1181 : (Jvm.Cond.instanceMethod ({ cls := "BloodPriceModel", name := "price", desc := "(II)I" } : Jvm.MethodName)) ∈ GW := gw_tab 1181 (by decide +kernel) rfl
theorem tw_1182 : (Jvm.Cond.code ({ cls := "BloodPriceModel", name := "price", desc := "(II)I" } : Jvm.MethodName) prog_11_method_50_code (8 : Nat) (Option.some Jvm.ClassFile.FieldType.int)) ∈ GW := gw_tab 1182 (by decide +kernel) rfl
theorem tw_1183 : (Jvm.Cond.methodLink "BloodPriceModel" (386 : Nat) ({ cls := "BloodPriceModel", name := "lawOf", desc := "(I)I" } : Jvm.MethodName)) ∈ GW := gw_tab 1183 (by decide +kernel) rfl
theorem tw_1185 : (Jvm.Cond.instanceMethod ({ cls := "BloodPriceModel", name := "lawOf", desc := "(I)I" } : Jvm.MethodName)) ∈ GW := gw_tab 1185 (by decide +kernel) rfl
theorem tw_1186 : (Jvm.Cond.code ({ cls := "BloodPriceModel", name := "lawOf", desc := "(I)I" } : Jvm.MethodName) prog_11_method_46_code (2 : Nat) (Option.some Jvm.ClassFile.FieldType.int)) ∈ GW := gw_tab 1186 (by decide +kernel) rfl
theorem tw_1187 : (Jvm.Cond.methodLink "BloodPriceModel" (389 : Nat) ({ cls := "BloodPriceModel", name := "degree", desc := "(II)I" } : Jvm.MethodName)) ∈ GW := gw_tab 1187 (by decide +kernel) rfl
theorem tw_1188 : (Jvm.Cond.methodLink "BloodPriceModel" (392 : Nat) ({ cls := "BloodPriceModel", name := "ranked", desc := "(III)I" } : Jvm.MethodName)) ∈ GW := gw_tab 1188 (by decide +kernel) rfl
theorem tw_1189 : (Jvm.Cond.methodLink "BloodPriceModel" (396 : Nat) ({ cls := "BloodPriceModel", name := "isTruce", desc := "(III)Z" } : Jvm.MethodName)) ∈ GW := gw_tab 1189 (by decide +kernel) rfl
theorem tw_1191 : (Jvm.Cond.instanceMethod ({ cls := "BloodPriceModel", name := "isTruce", desc := "(III)Z" } : Jvm.MethodName)) ∈ GW := gw_tab 1191 (by decide +kernel) rfl
theorem tw_1192 : (Jvm.Cond.code ({ cls := "BloodPriceModel", name := "isTruce", desc := "(III)Z" } : Jvm.MethodName) prog_11_method_41_code (5 : Nat) (Option.some Jvm.ClassFile.FieldType.boolean)) ∈ GW := gw_tab 1192 (by decide +kernel) rfl
theorem tw_1193 : (Jvm.Cond.methodLink "BloodPriceModel" (399 : Nat) ({ cls := "BloodPriceModel", name := "work", desc := "(II)I" } : Jvm.MethodName)) ∈ GW := gw_tab 1193 (by decide +kernel) rfl
theorem tw_1195 : (Jvm.Cond.instanceMethod ({ cls := "BloodPriceModel", name := "work", desc := "(II)I" } : Jvm.MethodName)) ∈ GW := gw_tab 1195 (by decide +kernel) rfl
theorem tw_1196 : (Jvm.Cond.code ({ cls := "BloodPriceModel", name := "work", desc := "(II)I" } : Jvm.MethodName) prog_11_method_47_code (6 : Nat) (Option.some Jvm.ClassFile.FieldType.int)) ∈ GW := gw_tab 1196 (by decide +kernel) rfl
theorem tw_1197 : (Jvm.Cond.methodLink "BloodPriceModel" (379 : Nat) ({ cls := "BloodPriceModel", name := "two", desc := "(III)Z" } : Jvm.MethodName)) ∈ GW := gw_tab 1197 (by decide +kernel) rfl
theorem tw_1198 : (Jvm.Cond.static ({ cls := "BloodPriceModel", name := "two", desc := "(III)Z" } : Jvm.MethodName)) ∈ GW := gw_tab 1198 (by decide +kernel) rfl
theorem tw_1199 : (Jvm.Cond.code ({ cls := "BloodPriceModel", name := "two", desc := "(III)Z" } : Jvm.MethodName) prog_11_method_48_code (3 : Nat) (Option.some Jvm.ClassFile.FieldType.boolean)) ∈ GW := gw_tab 1199 (by decide +kernel) rfl
theorem tw_1200 : (Jvm.Cond.constantLong "BloodPriceModel" (402 : Nat) (2 : Int64)) ∈ GW := gw_tab 1200 (by decide +kernel) rfl
theorem tw_1201 : (Jvm.Cond.methodLink "BloodPriceModel" (404 : Nat) ({ cls := "BloodPriceModel", name := "bounded", desc := "(J)I" } : Jvm.MethodName)) ∈ GW := gw_tab 1201 (by decide +kernel) rfl
theorem tw_1202 : (Jvm.Cond.static ({ cls := "BloodPriceModel", name := "bounded", desc := "(J)I" } : Jvm.MethodName)) ∈ GW := gw_tab 1202 (by decide +kernel) rfl
theorem tw_1203 : (Jvm.Cond.code ({ cls := "BloodPriceModel", name := "bounded", desc := "(J)I" } : Jvm.MethodName) prog_11_method_49_code (2 : Nat) (Option.some Jvm.ClassFile.FieldType.int)) ∈ GW := gw_tab 1203 (by decide +kernel) rfl
theorem tw_1204 : (Jvm.Cond.constantLong "BloodPriceModel" (383 : Nat) (10000000 : Int64)) ∈ GW := gw_tab 1204 (by decide +kernel) rfl
theorem tw_1205 : (Jvm.Cond.constant "BloodPriceModel" (385 : Nat) (10000000 : Int32)) ∈ GW := gw_tab 1205 (by decide +kernel) rfl
theorem tw_1206 : (Jvm.Cond.methodLink "BloodPriceLaw" (81 : Nat) ({ cls := "BloodPriceModel", name := "oath", desc := "(II)I" } : Jvm.MethodName)) ∈ GW := gw_tab 1206 (by decide +kernel) rfl
theorem tw_1207 : (Jvm.Cond.instanceMethod ({ cls := "BloodPriceModel", name := "oath", desc := "(II)I" } : Jvm.MethodName)) ∈ GW := gw_tab 1207 (by decide +kernel) rfl
theorem tw_1208 : (Jvm.Cond.selects "BloodPriceModel" ({ cls := "BloodPriceModel", name := "oath", desc := "(II)I" } : Jvm.MethodName) ({ cls := "BloodPriceModel", name := "oath", desc := "(II)I" } : Jvm.MethodName)) ∈ GW := gw_tab 1208 (by decide +kernel) rfl
theorem tw_1209 : (Jvm.Cond.code ({ cls := "BloodPriceModel", name := "oath", desc := "(II)I" } : Jvm.MethodName) prog_11_method_53_code (7 : Nat) (Option.some Jvm.ClassFile.FieldType.int)) ∈ GW := gw_tab 1209 (by decide +kernel) rfl
theorem tw_1210 : (Jvm.Cond.methodLink "BloodPriceModel" (416 : Nat) ({ cls := "BloodPriceModel", name := "isDead", desc := "(II)Z" } : Jvm.MethodName)) ∈ GW := gw_tab 1210 (by decide +kernel) rfl
theorem tw_1212 : (Jvm.Cond.instanceMethod ({ cls := "BloodPriceModel", name := "isDead", desc := "(II)Z" } : Jvm.MethodName)) ∈ GW := gw_tab 1212 (by decide +kernel) rfl
theorem tw_1213 : (Jvm.Cond.code ({ cls := "BloodPriceModel", name := "isDead", desc := "(II)Z" } : Jvm.MethodName) prog_11_method_39_code (3 : Nat) (Option.some Jvm.ClassFile.FieldType.boolean)) ∈ GW := gw_tab 1213 (by decide +kernel) rfl
theorem tw_1214 : (Jvm.Cond.methodLink "BloodPriceLaw" (85 : Nat) ({ cls := "BloodPriceModel", name := "of", desc := "(II)I" } : Jvm.MethodName)) ∈ GW := gw_tab 1214 (by decide +kernel) rfl
theorem tw_1215 : (Jvm.Cond.instanceMethod ({ cls := "BloodPriceModel", name := "of", desc := "(II)I" } : Jvm.MethodName)) ∈ GW := gw_tab 1215 (by decide +kernel) rfl
theorem tw_1216 : (Jvm.Cond.selects "BloodPriceModel" ({ cls := "BloodPriceModel", name := "of", desc := "(II)I" } : Jvm.MethodName) ({ cls := "BloodPriceModel", name := "of", desc := "(II)I" } : Jvm.MethodName)) ∈ GW := gw_tab 1216 (by decide +kernel) rfl
theorem tw_1217 : (Jvm.Cond.code ({ cls := "BloodPriceModel", name := "of", desc := "(II)I" } : Jvm.MethodName) prog_11_method_54_code (3 : Nat) (Option.some Jvm.ClassFile.FieldType.int)) ∈ GW := gw_tab 1217 (by decide +kernel) rfl
theorem tw_1218 : (Jvm.Cond.methodLink "BloodPriceLaw" (89 : Nat) ({ cls := "BloodPriceModel", name := "pays", desc := "(III)I" } : Jvm.MethodName)) ∈ GW := gw_tab 1218 (by decide +kernel) rfl
theorem tw_1219 : (Jvm.Cond.instanceMethod ({ cls := "BloodPriceModel", name := "pays", desc := "(III)I" } : Jvm.MethodName)) ∈ GW := gw_tab 1219 (by decide +kernel) rfl
theorem tw_1220 : (Jvm.Cond.selects "BloodPriceModel" ({ cls := "BloodPriceModel", name := "pays", desc := "(III)I" } : Jvm.MethodName) ({ cls := "BloodPriceModel", name := "pays", desc := "(III)I" } : Jvm.MethodName)) ∈ GW := gw_tab 1220 (by decide +kernel) rfl
theorem tw_1221 : (Jvm.Cond.code ({ cls := "BloodPriceModel", name := "pays", desc := "(III)I" } : Jvm.MethodName) prog_11_method_57_code (5 : Nat) (Option.some Jvm.ClassFile.FieldType.int)) ∈ GW := gw_tab 1221 (by decide +kernel) rfl
theorem tw_1222 : (Jvm.Cond.methodLink "BloodPriceModel" (424 : Nat) ({ cls := "BloodPriceModel", name := "part", desc := "(IIIII)I" } : Jvm.MethodName)) ∈ GW := gw_tab 1222 (by decide +kernel) rfl
theorem tw_1224 : (Jvm.Cond.instanceMethod ({ cls := "BloodPriceModel", name := "part", desc := "(IIIII)I" } : Jvm.MethodName)) ∈ GW := gw_tab 1224 (by decide +kernel) rfl
theorem tw_1225 : (Jvm.Cond.code ({ cls := "BloodPriceModel", name := "part", desc := "(IIIII)I" } : Jvm.MethodName) prog_11_method_56_code (13 : Nat) (Option.some Jvm.ClassFile.FieldType.int)) ∈ GW := gw_tab 1225 (by decide +kernel) rfl
theorem tw_1226 : (Jvm.Cond.methodLink "BloodPriceModel" (420 : Nat) ({ cls := "BloodPriceModel", name := "isOf", desc := "(IIIII)Z" } : Jvm.MethodName)) ∈ GW := gw_tab 1226 (by decide +kernel) rfl
theorem tw_1228 : (Jvm.Cond.instanceMethod ({ cls := "BloodPriceModel", name := "isOf", desc := "(IIIII)Z" } : Jvm.MethodName)) ∈ GW := gw_tab 1228 (by decide +kernel) rfl
theorem tw_1229 : (Jvm.Cond.code ({ cls := "BloodPriceModel", name := "isOf", desc := "(IIIII)Z" } : Jvm.MethodName) prog_11_method_55_code (6 : Nat) (Option.some Jvm.ClassFile.FieldType.boolean)) ∈ GW := gw_tab 1229 (by decide +kernel) rfl
theorem tw_1230 : (Jvm.Cond.methodLink "BloodPriceLaw" (93 : Nat) ({ cls := "BloodPriceModel", name := "has", desc := "(III)I" } : Jvm.MethodName)) ∈ GW := gw_tab 1230 (by decide +kernel) rfl
theorem tw_1231 : (Jvm.Cond.instanceMethod ({ cls := "BloodPriceModel", name := "has", desc := "(III)I" } : Jvm.MethodName)) ∈ GW := gw_tab 1231 (by decide +kernel) rfl
theorem tw_1232 : (Jvm.Cond.selects "BloodPriceModel" ({ cls := "BloodPriceModel", name := "has", desc := "(III)I" } : Jvm.MethodName) ({ cls := "BloodPriceModel", name := "has", desc := "(III)I" } : Jvm.MethodName)) ∈ GW := gw_tab 1232 (by decide +kernel) rfl
theorem tw_1233 : (Jvm.Cond.code ({ cls := "BloodPriceModel", name := "has", desc := "(III)I" } : Jvm.MethodName) prog_11_method_58_code (5 : Nat) (Option.some Jvm.ClassFile.FieldType.int)) ∈ GW := gw_tab 1233 (by decide +kernel) rfl
theorem tw_1234 : (Jvm.Cond.methodLink "BloodPriceLaw" (97 : Nat) ({ cls := "BloodPriceModel", name := "judge", desc := "(I)I" } : Jvm.MethodName)) ∈ GW := gw_tab 1234 (by decide +kernel) rfl
theorem tw_1235 : (Jvm.Cond.instanceMethod ({ cls := "BloodPriceModel", name := "judge", desc := "(I)I" } : Jvm.MethodName)) ∈ GW := gw_tab 1235 (by decide +kernel) rfl
theorem tw_1236 : (Jvm.Cond.selects "BloodPriceModel" ({ cls := "BloodPriceModel", name := "judge", desc := "(I)I" } : Jvm.MethodName) ({ cls := "BloodPriceModel", name := "judge", desc := "(I)I" } : Jvm.MethodName)) ∈ GW := gw_tab 1236 (by decide +kernel) rfl
theorem tw_1237 : (Jvm.Cond.code ({ cls := "BloodPriceModel", name := "judge", desc := "(I)I" } : Jvm.MethodName) prog_11_method_59_code (3 : Nat) (Option.some Jvm.ClassFile.FieldType.int)) ∈ GW := gw_tab 1237 (by decide +kernel) rfl
theorem tw_1238 : (Jvm.Cond.methodLink "BloodPriceLaw" (101 : Nat) ({ cls := "BloodPriceModel", name := "rate", desc := "(II)Z" } : Jvm.MethodName)) ∈ GW := gw_tab 1238 (by decide +kernel) rfl
theorem tw_1239 : (Jvm.Cond.instanceMethod ({ cls := "BloodPriceModel", name := "rate", desc := "(II)Z" } : Jvm.MethodName)) ∈ GW := gw_tab 1239 (by decide +kernel) rfl
theorem tw_1240 : (Jvm.Cond.selects "BloodPriceModel" ({ cls := "BloodPriceModel", name := "rate", desc := "(II)Z" } : Jvm.MethodName) ({ cls := "BloodPriceModel", name := "rate", desc := "(II)Z" } : Jvm.MethodName)) ∈ GW := gw_tab 1240 (by decide +kernel) rfl
theorem tw_1241 : (Jvm.Cond.code ({ cls := "BloodPriceModel", name := "rate", desc := "(II)Z" } : Jvm.MethodName) prog_11_method_60_code (3 : Nat) (Option.some Jvm.ClassFile.FieldType.boolean)) ∈ GW := gw_tab 1241 (by decide +kernel) rfl
theorem tw_1242 : (Jvm.Cond.methodLink "BloodPriceLaw" (105 : Nat) ({ cls := "BloodPriceModel", name := "pay", desc := "(III)I" } : Jvm.MethodName)) ∈ GW := gw_tab 1242 (by decide +kernel) rfl
theorem tw_1243 : (Jvm.Cond.instanceMethod ({ cls := "BloodPriceModel", name := "pay", desc := "(III)I" } : Jvm.MethodName)) ∈ GW := gw_tab 1243 (by decide +kernel) rfl
theorem tw_1244 : (Jvm.Cond.selects "BloodPriceModel" ({ cls := "BloodPriceModel", name := "pay", desc := "(III)I" } : Jvm.MethodName) ({ cls := "BloodPriceModel", name := "pay", desc := "(III)I" } : Jvm.MethodName)) ∈ GW := gw_tab 1244 (by decide +kernel) rfl
theorem tw_1245 : (Jvm.Cond.code ({ cls := "BloodPriceModel", name := "pay", desc := "(III)I" } : Jvm.MethodName) prog_11_method_61_code (4 : Nat) (Option.some Jvm.ClassFile.FieldType.int)) ∈ GW := gw_tab 1245 (by decide +kernel) rfl
theorem tw_1246 : (Jvm.Cond.methodLink "BloodPriceLaw" (109 : Nat) ({ cls := "BloodPriceModel", name := "owed", desc := "(II)I" } : Jvm.MethodName)) ∈ GW := gw_tab 1246 (by decide +kernel) rfl
theorem tw_1247 : (Jvm.Cond.instanceMethod ({ cls := "BloodPriceModel", name := "owed", desc := "(II)I" } : Jvm.MethodName)) ∈ GW := gw_tab 1247 (by decide +kernel) rfl
theorem tw_1248 : (Jvm.Cond.selects "BloodPriceModel" ({ cls := "BloodPriceModel", name := "owed", desc := "(II)I" } : Jvm.MethodName) ({ cls := "BloodPriceModel", name := "owed", desc := "(II)I" } : Jvm.MethodName)) ∈ GW := gw_tab 1248 (by decide +kernel) rfl
theorem tw_1249 : (Jvm.Cond.code ({ cls := "BloodPriceModel", name := "owed", desc := "(II)I" } : Jvm.MethodName) prog_11_method_64_code (9 : Nat) (Option.some Jvm.ClassFile.FieldType.int)) ∈ GW := gw_tab 1249 (by decide +kernel) rfl
theorem tw_1250 : (Jvm.Cond.constant "BloodPriceModel" (434 : Nat) (-2000000001 : Int32)) ∈ GW := gw_tab 1250 (by decide +kernel) rfl
theorem tw_1251 : (Jvm.Cond.methodLink "BloodPriceModel" (435 : Nat) ({ cls := "BloodPriceModel", name := "termOf", desc := "(II)I" } : Jvm.MethodName)) ∈ GW := gw_tab 1251 (by decide +kernel) rfl
theorem tw_1253 : (Jvm.Cond.instanceMethod ({ cls := "BloodPriceModel", name := "termOf", desc := "(II)I" } : Jvm.MethodName)) ∈ GW := gw_tab 1253 (by decide +kernel) rfl
theorem tw_1254 : (Jvm.Cond.code ({ cls := "BloodPriceModel", name := "termOf", desc := "(II)I" } : Jvm.MethodName) prog_11_method_63_code (3 : Nat) (Option.some Jvm.ClassFile.FieldType.int)) ∈ GW := gw_tab 1254 (by decide +kernel) rfl
theorem tw_1255 : (Jvm.Cond.methodLink "BloodPriceModel" (438 : Nat) ({ cls := "BloodPriceModel", name := "paidBy", desc := "(II)I" } : Jvm.MethodName)) ∈ GW := gw_tab 1255 (by decide +kernel) rfl
theorem tw_1257 : (Jvm.Cond.instanceMethod ({ cls := "BloodPriceModel", name := "paidBy", desc := "(II)I" } : Jvm.MethodName)) ∈ GW := gw_tab 1257 (by decide +kernel) rfl
theorem tw_1258 : (Jvm.Cond.code ({ cls := "BloodPriceModel", name := "paidBy", desc := "(II)I" } : Jvm.MethodName) prog_11_method_62_code (5 : Nat) (Option.some Jvm.ClassFile.FieldType.int)) ∈ GW := gw_tab 1258 (by decide +kernel) rfl
theorem tw_1259 : (Jvm.Cond.methodLink "BloodPriceLaw" (113 : Nat) ({ cls := "BloodPriceModel", name := "about", desc := "(I)I" } : Jvm.MethodName)) ∈ GW := gw_tab 1259 (by decide +kernel) rfl
theorem tw_1260 : (Jvm.Cond.instanceMethod ({ cls := "BloodPriceModel", name := "about", desc := "(I)I" } : Jvm.MethodName)) ∈ GW := gw_tab 1260 (by decide +kernel) rfl
theorem tw_1261 : (Jvm.Cond.selects "BloodPriceModel" ({ cls := "BloodPriceModel", name := "about", desc := "(I)I" } : Jvm.MethodName) ({ cls := "BloodPriceModel", name := "about", desc := "(I)I" } : Jvm.MethodName)) ∈ GW := gw_tab 1261 (by decide +kernel) rfl
theorem tw_1262 : (Jvm.Cond.code ({ cls := "BloodPriceModel", name := "about", desc := "(I)I" } : Jvm.MethodName) prog_11_method_65_code (2 : Nat) (Option.some Jvm.ClassFile.FieldType.int)) ∈ GW := gw_tab 1262 (by decide +kernel) rfl
theorem tw_1263 : (Jvm.Cond.methodLink "BloodPriceLaw" (17 : Nat) ({ cls := "BloodPriceModel", name := "feed", desc := "(IIIII)I" } : Jvm.MethodName)) ∈ GW := gw_tab 1263 (by decide +kernel) rfl
theorem tw_1264 : (Jvm.Cond.instanceMethod ({ cls := "BloodPriceModel", name := "feed", desc := "(IIIII)I" } : Jvm.MethodName)) ∈ GW := gw_tab 1264 (by decide +kernel) rfl
theorem tw_1265 : (Jvm.Cond.selects "BloodPriceModel" ({ cls := "BloodPriceModel", name := "feed", desc := "(IIIII)I" } : Jvm.MethodName) ({ cls := "BloodPriceModel", name := "feed", desc := "(IIIII)I" } : Jvm.MethodName)) ∈ GW := gw_tab 1265 (by decide +kernel) rfl
theorem tw_1266 : (Jvm.Cond.code ({ cls := "BloodPriceModel", name := "feed", desc := "(IIIII)I" } : Jvm.MethodName) prog_11_method_66_code (8 : Nat) (Option.some Jvm.ClassFile.FieldType.int)) ∈ GW := gw_tab 1266 (by decide +kernel) rfl
theorem tw_1267 : (Jvm.Cond.methodLink "BloodPriceLaw" (22 : Nat) ({ cls := "BloodPriceModel", name := "end", desc := "(I)I" } : Jvm.MethodName)) ∈ GW := gw_tab 1267 (by decide +kernel) rfl
theorem tw_1268 : (Jvm.Cond.instanceMethod ({ cls := "BloodPriceModel", name := "end", desc := "(I)I" } : Jvm.MethodName)) ∈ GW := gw_tab 1268 (by decide +kernel) rfl
theorem tw_1269 : (Jvm.Cond.selects "BloodPriceModel" ({ cls := "BloodPriceModel", name := "end", desc := "(I)I" } : Jvm.MethodName) ({ cls := "BloodPriceModel", name := "end", desc := "(I)I" } : Jvm.MethodName)) ∈ GW := gw_tab 1269 (by decide +kernel) rfl
theorem tw_1270 : (Jvm.Cond.code ({ cls := "BloodPriceModel", name := "end", desc := "(I)I" } : Jvm.MethodName) prog_11_method_67_code (2 : Nat) (Option.some Jvm.ClassFile.FieldType.int)) ∈ GW := gw_tab 1270 (by decide +kernel) rfl
theorem tw_1271 : (Jvm.Cond.constantLong "BloodPriceLaw" (67 : Nat) (4294967295 : Int64)) ∈ GW := gw_tab 1271 (by decide +kernel) rfl
