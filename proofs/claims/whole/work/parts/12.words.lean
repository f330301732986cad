/-! WORDS, by their places in the tables -/
theorem wd_0 : (Jvm.Cond.initialized "RoundPlansLaw") ∈ zT := zT_of 0 (by decide +kernel) (by decide +kernel)
theorem wd_1 : (Jvm.Cond.initialized "RoundPlans") ∈ zT := zT_of 1 (by decide +kernel) (by decide +kernel)
theorem wd_2 : (Jvm.Cond.initialized "RoundPlans$Told") ∈ zT := zT_of 2 (by decide +kernel) (by decide +kernel)
theorem wd_3 : (Jvm.Cond.initialized "java/util/Arrays") ∈ zT := zT_of 3 (by decide +kernel) (by decide +kernel)
theorem wd_4 : (Jvm.Cond.initialized "RoundPlans$Rounds") ∈ zT := zT_of 4 (by decide +kernel) (by decide +kernel)
theorem wd_5 : (Jvm.Cond.initialized "RoundPlans$Plans") ∈ zT := zT_of 5 (by decide +kernel) (by decide +kernel)
theorem wd_6 : (Jvm.Cond.initialized "RoundPlans$Found") ∈ zT := zT_of 6 (by decide +kernel) (by decide +kernel)
theorem wd_7 : (Jvm.Cond.initialized "RoundPlansModel") ∈ zT := zT_of 7 (by decide +kernel) (by decide +kernel)
theorem wd_8 : (Jvm.Cond.initialized "java/lang/Math") ∈ zT := zT_of 8 (by decide +kernel) (by decide +kernel)
theorem wd_9 : (Jvm.Cond.initialized "java/lang/System") ∈ zT := zT_of 9 (by decide +kernel) (by decide +kernel)
theorem wd_10 : (Jvm.Cond.initialized "java/lang/Integer") ∈ zT := zT_of 10 (by decide +kernel) (by decide +kernel)
theorem wd_11 : (Jvm.Cond.classLink "RoundPlansLaw" (7 : Nat) "RoundPlans") ∈ zT := zT_of 11 (by decide +kernel) (by decide +kernel)
theorem wd_12 : (Jvm.Cond.instantiable "RoundPlans" (4 : Nat)) ∈ zT := zT_of 12 (by decide +kernel) (by decide +kernel)
theorem wd_13 : (Jvm.Cond.methodLink "RoundPlansLaw" (9 : Nat) ({ cls := "RoundPlans", name := "<init>", desc := "()V" } : Jvm.MethodName)) ∈ zT := zT_of 13 (by decide +kernel) (by decide +kernel)
theorem wd_14 : (Jvm.Cond.instanceMethod ({ cls := "RoundPlans", name := "<init>", desc := "()V" } : Jvm.MethodName)) ∈ zT := zT_of 14 (by decide +kernel) (by decide +kernel)
set_option maxRecDepth 100000 in
theorem wd_15 : zc g_rp_init ∈ zT := zT_of 15 rfl rfl
theorem wd_16 : (Jvm.Cond.methodLink "RoundPlans" (3 : Nat) ({ cls := "java/lang/Object", name := "<init>", desc := "()V" } : Jvm.MethodName)) ∈ zT := zT_of 16 (by decide +kernel) (by decide +kernel)
theorem wd_17 : (Jvm.Cond.instanceMethod ({ cls := "java/lang/Object", name := "<init>", desc := "()V" } : Jvm.MethodName)) ∈ zT := zT_of 17 (by decide +kernel) (by decide +kernel)
set_option maxRecDepth 100000 in
theorem wd_18 : (Cond.code ({ cls := "java/lang/Object", name := "<init>", desc := "()V" } : Jvm.MethodName) object_method_1_code (1 : Nat) (Option.none : Option Jvm.ClassFile.FieldType)) ∈ zT := zT_of 18 rfl rfl
theorem wd_19 : (Jvm.Cond.classLink "RoundPlans" (9 : Nat) "RoundPlans$Told") ∈ zT := zT_of 19 (by decide +kernel) (by decide +kernel)
theorem wd_20 : (Jvm.Cond.instantiable "RoundPlans$Told" (17 : Nat)) ∈ zT := zT_of 20 (by decide +kernel) (by decide +kernel)
theorem wd_21 : (Jvm.Cond.methodLink "RoundPlans" (11 : Nat) ({ cls := "RoundPlans$Told", name := "<init>", desc := "()V" } : Jvm.MethodName)) ∈ zT := zT_of 21 (by decide +kernel) (by decide +kernel)
theorem wd_22 : (Jvm.Cond.instanceMethod ({ cls := "RoundPlans$Told", name := "<init>", desc := "()V" } : Jvm.MethodName)) ∈ zT := zT_of 22 (by decide +kernel) (by decide +kernel)
set_option maxRecDepth 100000 in
theorem wd_23 : zc g_td_init ∈ zT := zT_of 23 rfl rfl
theorem wd_24 : (Jvm.Cond.methodLink "RoundPlans$Told" (3 : Nat) ({ cls := "java/lang/Object", name := "<init>", desc := "()V" } : Jvm.MethodName)) ∈ zT := zT_of 24 (by decide +kernel) (by decide +kernel)
theorem wd_25 : (Jvm.Cond.constant "RoundPlans$Told" (58 : Nat) (86399 : Int32)) ∈ zT := zT_of 25 (by decide +kernel) (by decide +kernel)
theorem wd_26 : (Jvm.Cond.methodLink "RoundPlans$Told" (59 : Nat) ({ cls := "java/util/Arrays", name := "fill", desc := "([II)V" } : Jvm.MethodName)) ∈ zT := zT_of 26 (by decide +kernel) (by decide +kernel)
theorem wd_27 : (Jvm.Cond.static ({ cls := "java/util/Arrays", name := "fill", desc := "([II)V" } : Jvm.MethodName)) ∈ zT := zT_of 27 (by decide +kernel) (by decide +kernel)
set_option maxRecDepth 100000 in
theorem wd_28 : zc g_ar_fill ∈ zT := zT_of 28 rfl rfl
theorem wd_29 : (Jvm.Cond.fieldLink "RoundPlans" (41 : Nat) "RoundPlans$Told" "stops" "I") ∈ zT := zT_of 29 (by decide +kernel) (by decide +kernel)
theorem wd_30 : (Jvm.Cond.fieldLink "RoundPlans$Told" (65 : Nat) "RoundPlans$Told" "stops" "I") ∈ zT := zT_of 30 (by decide +kernel) (by decide +kernel)
theorem wd_31 : (Jvm.Cond.fieldLink "RoundPlans$Plans" (29 : Nat) "RoundPlans$Told" "stops" "I") ∈ zT := zT_of 31 (by decide +kernel) (by decide +kernel)
theorem wd_32 : (Jvm.Cond.fieldLink "RoundPlans$Rounds" (31 : Nat) "RoundPlans$Told" "stops" "I") ∈ zT := zT_of 32 (by decide +kernel) (by decide +kernel)
theorem wd_33 : (Jvm.Cond.fieldLink "RoundPlans$Found" (44 : Nat) "RoundPlans$Told" "stops" "I") ∈ zT := zT_of 33 (by decide +kernel) (by decide +kernel)
theorem wd_34 : (Jvm.Cond.fieldLink "RoundPlans$Plans" (44 : Nat) "RoundPlans$Told" "vehicles" "I") ∈ zT := zT_of 34 (by decide +kernel) (by decide +kernel)
theorem wd_35 : (Jvm.Cond.fieldLink "RoundPlans$Told" (69 : Nat) "RoundPlans$Told" "vehicles" "I") ∈ zT := zT_of 35 (by decide +kernel) (by decide +kernel)
theorem wd_36 : (Jvm.Cond.fieldLink "RoundPlans$Rounds" (25 : Nat) "RoundPlans$Told" "vehicles" "I") ∈ zT := zT_of 36 (by decide +kernel) (by decide +kernel)
theorem wd_37 : (Jvm.Cond.fieldLink "RoundPlans$Found" (49 : Nat) "RoundPlans$Told" "vehicles" "I") ∈ zT := zT_of 37 (by decide +kernel) (by decide +kernel)
theorem wd_38 : (Jvm.Cond.fieldLink "RoundPlans" (77 : Nat) "RoundPlans$Told" "vehicles" "I") ∈ zT := zT_of 38 (by decide +kernel) (by decide +kernel)
theorem wd_39 : (Jvm.Cond.fieldLink "RoundPlans$Told" (9 : Nat) "RoundPlans$Told" "kilograms" "[I") ∈ zT := zT_of 39 (by decide +kernel) (by decide +kernel)
theorem wd_40 : (Jvm.Cond.fieldLink "RoundPlans$Rounds" (52 : Nat) "RoundPlans$Told" "kilograms" "[I") ∈ zT := zT_of 40 (by decide +kernel) (by decide +kernel)
theorem wd_41 : (Jvm.Cond.fieldLink "RoundPlans$Told" (15 : Nat) "RoundPlans$Told" "first" "[I") ∈ zT := zT_of 41 (by decide +kernel) (by decide +kernel)
theorem wd_42 : (Jvm.Cond.fieldLink "RoundPlans" (61 : Nat) "RoundPlans$Told" "first" "[I") ∈ zT := zT_of 42 (by decide +kernel) (by decide +kernel)
theorem wd_43 : (Jvm.Cond.fieldLink "RoundPlans$Rounds" (85 : Nat) "RoundPlans$Told" "first" "[I") ∈ zT := zT_of 43 (by decide +kernel) (by decide +kernel)
theorem wd_44 : (Jvm.Cond.fieldLink "RoundPlans$Told" (18 : Nat) "RoundPlans$Told" "last" "[I") ∈ zT := zT_of 44 (by decide +kernel) (by decide +kernel)
theorem wd_45 : (Jvm.Cond.fieldLink "RoundPlans" (65 : Nat) "RoundPlans$Told" "last" "[I") ∈ zT := zT_of 45 (by decide +kernel) (by decide +kernel)
theorem wd_46 : (Jvm.Cond.fieldLink "RoundPlans$Rounds" (82 : Nat) "RoundPlans$Told" "last" "[I") ∈ zT := zT_of 46 (by decide +kernel) (by decide +kernel)
theorem wd_47 : (Jvm.Cond.fieldLink "RoundPlans$Told" (21 : Nat) "RoundPlans$Told" "service" "[I") ∈ zT := zT_of 47 (by decide +kernel) (by decide +kernel)
theorem wd_48 : (Jvm.Cond.fieldLink "RoundPlans" (68 : Nat) "RoundPlans$Told" "service" "[I") ∈ zT := zT_of 48 (by decide +kernel) (by decide +kernel)
theorem wd_49 : (Jvm.Cond.fieldLink "RoundPlans$Rounds" (91 : Nat) "RoundPlans$Told" "service" "[I") ∈ zT := zT_of 49 (by decide +kernel) (by decide +kernel)
theorem wd_50 : (Jvm.Cond.fieldLink "RoundPlans$Told" (24 : Nat) "RoundPlans$Told" "penalties" "[J") ∈ zT := zT_of 50 (by decide +kernel) (by decide +kernel)
theorem wd_51 : (Jvm.Cond.fieldLink "RoundPlans" (73 : Nat) "RoundPlans$Told" "penalties" "[J") ∈ zT := zT_of 51 (by decide +kernel) (by decide +kernel)
theorem wd_52 : (Jvm.Cond.fieldLink "RoundPlans$Plans" (71 : Nat) "RoundPlans$Told" "penalties" "[J") ∈ zT := zT_of 52 (by decide +kernel) (by decide +kernel)
theorem wd_53 : (Jvm.Cond.fieldLink "RoundPlans$Told" (28 : Nat) "RoundPlans$Told" "fixedTo" "[I") ∈ zT := zT_of 53 (by decide +kernel) (by decide +kernel)
theorem wd_54 : (Jvm.Cond.fieldLink "RoundPlans$Rounds" (46 : Nat) "RoundPlans$Told" "fixedTo" "[I") ∈ zT := zT_of 54 (by decide +kernel) (by decide +kernel)
theorem wd_55 : (Jvm.Cond.fieldLink "RoundPlans" (92 : Nat) "RoundPlans$Told" "fixedTo" "[I") ∈ zT := zT_of 55 (by decide +kernel) (by decide +kernel)
theorem wd_56 : (Jvm.Cond.fieldLink "RoundPlans$Told" (31 : Nat) "RoundPlans$Told" "apartFrom" "[I") ∈ zT := zT_of 56 (by decide +kernel) (by decide +kernel)
theorem wd_57 : (Jvm.Cond.fieldLink "RoundPlans$Rounds" (49 : Nat) "RoundPlans$Told" "apartFrom" "[I") ∈ zT := zT_of 57 (by decide +kernel) (by decide +kernel)
theorem wd_58 : (Jvm.Cond.fieldLink "RoundPlans$Told" (34 : Nat) "RoundPlans$Told" "ahead" "[I") ∈ zT := zT_of 58 (by decide +kernel) (by decide +kernel)
theorem wd_59 : (Jvm.Cond.fieldLink "RoundPlans$Rounds" (114 : Nat) "RoundPlans$Told" "ahead" "[I") ∈ zT := zT_of 59 (by decide +kernel) (by decide +kernel)
theorem wd_60 : (Jvm.Cond.fieldLink "RoundPlans$Told" (37 : Nat) "RoundPlans$Told" "behind" "[I") ∈ zT := zT_of 60 (by decide +kernel) (by decide +kernel)
theorem wd_61 : (Jvm.Cond.fieldLink "RoundPlans$Rounds" (76 : Nat) "RoundPlans$Told" "behind" "[I") ∈ zT := zT_of 61 (by decide +kernel) (by decide +kernel)
theorem wd_62 : (Jvm.Cond.fieldLink "RoundPlans" (102 : Nat) "RoundPlans$Told" "behind" "[I") ∈ zT := zT_of 62 (by decide +kernel) (by decide +kernel)
theorem wd_63 : (Jvm.Cond.fieldLink "RoundPlans$Told" (40 : Nat) "RoundPlans$Told" "reached" "[I") ∈ zT := zT_of 63 (by decide +kernel) (by decide +kernel)
theorem wd_64 : (Jvm.Cond.fieldLink "RoundPlans" (108 : Nat) "RoundPlans$Told" "reached" "[I") ∈ zT := zT_of 64 (by decide +kernel) (by decide +kernel)
theorem wd_65 : (Jvm.Cond.fieldLink "RoundPlans$Told" (43 : Nat) "RoundPlans$Told" "most" "[I") ∈ zT := zT_of 65 (by decide +kernel) (by decide +kernel)
theorem wd_66 : (Jvm.Cond.fieldLink "RoundPlans$Rounds" (55 : Nat) "RoundPlans$Told" "most" "[I") ∈ zT := zT_of 66 (by decide +kernel) (by decide +kernel)
theorem wd_67 : (Jvm.Cond.fieldLink "RoundPlans$Told" (46 : Nat) "RoundPlans$Told" "leaving" "[I") ∈ zT := zT_of 67 (by decide +kernel) (by decide +kernel)
theorem wd_68 : (Jvm.Cond.fieldLink "RoundPlans$Plans" (60 : Nat) "RoundPlans$Told" "leaving" "[I") ∈ zT := zT_of 68 (by decide +kernel) (by decide +kernel)
theorem wd_69 : (Jvm.Cond.fieldLink "RoundPlans$Rounds" (79 : Nat) "RoundPlans$Told" "leaving" "[I") ∈ zT := zT_of 69 (by decide +kernel) (by decide +kernel)
theorem wd_70 : (Jvm.Cond.fieldLink "RoundPlans$Told" (49 : Nat) "RoundPlans$Told" "due" "[I") ∈ zT := zT_of 70 (by decide +kernel) (by decide +kernel)
theorem wd_71 : (Jvm.Cond.fieldLink "RoundPlans$Rounds" (70 : Nat) "RoundPlans$Told" "due" "[I") ∈ zT := zT_of 71 (by decide +kernel) (by decide +kernel)
theorem wd_72 : (Jvm.Cond.fieldLink "RoundPlans$Told" (52 : Nat) "RoundPlans$Told" "rate" "[I") ∈ zT := zT_of 72 (by decide +kernel) (by decide +kernel)
theorem wd_73 : (Jvm.Cond.fieldLink "RoundPlans$Plans" (64 : Nat) "RoundPlans$Told" "rate" "[I") ∈ zT := zT_of 73 (by decide +kernel) (by decide +kernel)
theorem wd_74 : (Jvm.Cond.fieldLink "RoundPlans$Told" (55 : Nat) "RoundPlans$Told" "ways" "[I") ∈ zT := zT_of 74 (by decide +kernel) (by decide +kernel)
theorem wd_75 : (Jvm.Cond.fieldLink "RoundPlans" (86 : Nat) "RoundPlans$Told" "ways" "[I") ∈ zT := zT_of 75 (by decide +kernel) (by decide +kernel)
theorem wd_111 : (Jvm.Cond.arrayClass Jvm.ClassFile.FieldType.int) ∈ zT := zT_of 111 (by decide +kernel) (by decide +kernel)
theorem wd_112 : (Jvm.Cond.arrayClass Jvm.ClassFile.FieldType.long) ∈ zT := zT_of 112 (by decide +kernel) (by decide +kernel)
theorem wd_113 : (Jvm.Cond.classLink "RoundPlans" (16 : Nat) "RoundPlans$Rounds") ∈ zT := zT_of 113 (by decide +kernel) (by decide +kernel)
theorem wd_114 : (Jvm.Cond.instantiable "RoundPlans$Rounds" (4 : Nat)) ∈ zT := zT_of 114 (by decide +kernel) (by decide +kernel)
theorem wd_115 : (Jvm.Cond.methodLink "RoundPlans" (18 : Nat) ({ cls := "RoundPlans$Rounds", name := "<init>", desc := "(LRoundPlans$Told;)V" } : Jvm.MethodName)) ∈ zT := zT_of 115 (by decide +kernel) (by decide +kernel)
theorem wd_116 : (Jvm.Cond.instanceMethod ({ cls := "RoundPlans$Rounds", name := "<init>", desc := "(LRoundPlans$Told;)V" } : Jvm.MethodName)) ∈ zT := zT_of 116 (by decide +kernel) (by decide +kernel)
set_option maxRecDepth 100000 in
theorem wd_117 : zc g_rd_init ∈ zT := zT_of 117 rfl rfl
theorem wd_118 : (Jvm.Cond.methodLink "RoundPlans$Rounds" (3 : Nat) ({ cls := "java/lang/Object", name := "<init>", desc := "()V" } : Jvm.MethodName)) ∈ zT := zT_of 118 (by decide +kernel) (by decide +kernel)
theorem wd_119 : (Jvm.Cond.fieldLink "RoundPlans$Rounds" (9 : Nat) "RoundPlans$Rounds" "told" "LRoundPlans$Told;") ∈ zT := zT_of 119 (by decide +kernel) (by decide +kernel)
theorem wd_120 : (Jvm.Cond.fieldLink "RoundPlans$Rounds" (15 : Nat) "RoundPlans$Rounds" "backs" "[I") ∈ zT := zT_of 120 (by decide +kernel) (by decide +kernel)
theorem wd_121 : (Jvm.Cond.fieldLink "RoundPlans$Rounds" (19 : Nat) "RoundPlans$Rounds" "ready" "[I") ∈ zT := zT_of 121 (by decide +kernel) (by decide +kernel)
theorem wd_122 : (Jvm.Cond.fieldLink "RoundPlans$Rounds" (22 : Nat) "RoundPlans$Rounds" "latest" "[I") ∈ zT := zT_of 122 (by decide +kernel) (by decide +kernel)
theorem wd_132 : (Jvm.Cond.classLink "RoundPlans" (25 : Nat) "RoundPlans$Plans") ∈ zT := zT_of 132 (by decide +kernel) (by decide +kernel)
theorem wd_133 : (Jvm.Cond.instantiable "RoundPlans$Plans" (5 : Nat)) ∈ zT := zT_of 133 (by decide +kernel) (by decide +kernel)
theorem wd_134 : (Jvm.Cond.methodLink "RoundPlans" (27 : Nat) ({ cls := "RoundPlans$Plans", name := "<init>", desc := "(LRoundPlans$Told;LRoundPlans$Rounds;)V" } : Jvm.MethodName)) ∈ zT := zT_of 134 (by decide +kernel) (by decide +kernel)
theorem wd_135 : (Jvm.Cond.instanceMethod ({ cls := "RoundPlans$Plans", name := "<init>", desc := "(LRoundPlans$Told;LRoundPlans$Rounds;)V" } : Jvm.MethodName)) ∈ zT := zT_of 135 (by decide +kernel) (by decide +kernel)
set_option maxRecDepth 100000 in
theorem wd_136 : zc g_pl_init ∈ zT := zT_of 136 rfl rfl
theorem wd_137 : (Jvm.Cond.methodLink "RoundPlans$Plans" (3 : Nat) ({ cls := "java/lang/Object", name := "<init>", desc := "()V" } : Jvm.MethodName)) ∈ zT := zT_of 137 (by decide +kernel) (by decide +kernel)
theorem wd_138 : (Jvm.Cond.fieldLink "RoundPlans$Plans" (9 : Nat) "RoundPlans$Plans" "told" "LRoundPlans$Told;") ∈ zT := zT_of 138 (by decide +kernel) (by decide +kernel)
theorem wd_139 : (Jvm.Cond.fieldLink "RoundPlans$Plans" (15 : Nat) "RoundPlans$Plans" "rounds" "LRoundPlans$Rounds;") ∈ zT := zT_of 139 (by decide +kernel) (by decide +kernel)
theorem wd_140 : (Jvm.Cond.fieldLink "RoundPlans$Plans" (19 : Nat) "RoundPlans$Plans" "prices" "[J") ∈ zT := zT_of 140 (by decide +kernel) (by decide +kernel)
theorem wd_141 : (Jvm.Cond.fieldLink "RoundPlans$Plans" (23 : Nat) "RoundPlans$Plans" "skips" "[J") ∈ zT := zT_of 141 (by decide +kernel) (by decide +kernel)
theorem wd_142 : (Jvm.Cond.fieldLink "RoundPlans$Plans" (26 : Nat) "RoundPlans$Plans" "least" "[J") ∈ zT := zT_of 142 (by decide +kernel) (by decide +kernel)
theorem wd_154 : (Jvm.Cond.classLink "RoundPlans" (34 : Nat) "RoundPlans$Found") ∈ zT := zT_of 154 (by decide +kernel) (by decide +kernel)
theorem wd_155 : (Jvm.Cond.instantiable "RoundPlans$Found" (9 : Nat)) ∈ zT := zT_of 155 (by decide +kernel) (by decide +kernel)
theorem wd_156 : (Jvm.Cond.methodLink "RoundPlans" (36 : Nat) ({ cls := "RoundPlans$Found", name := "<init>", desc := "()V" } : Jvm.MethodName)) ∈ zT := zT_of 156 (by decide +kernel) (by decide +kernel)
theorem wd_157 : (Jvm.Cond.instanceMethod ({ cls := "RoundPlans$Found", name := "<init>", desc := "()V" } : Jvm.MethodName)) ∈ zT := zT_of 157 (by decide +kernel) (by decide +kernel)
set_option maxRecDepth 100000 in
theorem wd_158 : zc g_fd_init ∈ zT := zT_of 158 rfl rfl
theorem wd_159 : (Jvm.Cond.methodLink "RoundPlans$Found" (3 : Nat) ({ cls := "java/lang/Object", name := "<init>", desc := "()V" } : Jvm.MethodName)) ∈ zT := zT_of 159 (by decide +kernel) (by decide +kernel)
theorem wd_160 : (Jvm.Cond.constantLong "RoundPlans$Found" (9 : Nat) (-1 : Int64)) ∈ zT := zT_of 160 (by decide +kernel) (by decide +kernel)
theorem wd_161 : (Jvm.Cond.fieldLink "RoundPlans$Found" (37 : Nat) "RoundPlans$Found" "stopCount" "I") ∈ zT := zT_of 161 (by decide +kernel) (by decide +kernel)
theorem wd_162 : (Jvm.Cond.fieldLink "RoundPlans$Found" (41 : Nat) "RoundPlans$Found" "vehicleCount" "I") ∈ zT := zT_of 162 (by decide +kernel) (by decide +kernel)
theorem wd_163 : (Jvm.Cond.fieldLink "RoundPlans$Found" (11 : Nat) "RoundPlans$Found" "cents" "J") ∈ zT := zT_of 163 (by decide +kernel) (by decide +kernel)
theorem wd_164 : (Jvm.Cond.fieldLink "RoundPlans" (136 : Nat) "RoundPlans$Found" "cents" "J") ∈ zT := zT_of 164 (by decide +kernel) (by decide +kernel)
theorem wd_165 : (Jvm.Cond.fieldLink "RoundPlans$Found" (17 : Nat) "RoundPlans$Found" "vehicles" "[I") ∈ zT := zT_of 165 (by decide +kernel) (by decide +kernel)
theorem wd_166 : (Jvm.Cond.fieldLink "RoundPlans" (154 : Nat) "RoundPlans$Found" "vehicles" "[I") ∈ zT := zT_of 166 (by decide +kernel) (by decide +kernel)
theorem wd_167 : (Jvm.Cond.fieldLink "RoundPlans$Found" (21 : Nat) "RoundPlans$Found" "begins" "[I") ∈ zT := zT_of 167 (by decide +kernel) (by decide +kernel)
theorem wd_168 : (Jvm.Cond.fieldLink "RoundPlans" (163 : Nat) "RoundPlans$Found" "begins" "[I") ∈ zT := zT_of 168 (by decide +kernel) (by decide +kernel)
theorem wd_169 : (Jvm.Cond.fieldLink "RoundPlans$Found" (24 : Nat) "RoundPlans$Found" "order" "[I") ∈ zT := zT_of 169 (by decide +kernel) (by decide +kernel)
theorem wd_170 : (Jvm.Cond.fieldLink "RoundPlans" (160 : Nat) "RoundPlans$Found" "order" "[I") ∈ zT := zT_of 170 (by decide +kernel) (by decide +kernel)
theorem wd_171 : (Jvm.Cond.fieldLink "RoundPlans$Found" (27 : Nat) "RoundPlans$Found" "lengths" "[I") ∈ zT := zT_of 171 (by decide +kernel) (by decide +kernel)
theorem wd_172 : (Jvm.Cond.fieldLink "RoundPlans" (157 : Nat) "RoundPlans$Found" "lengths" "[I") ∈ zT := zT_of 172 (by decide +kernel) (by decide +kernel)
theorem wd_173 : (Jvm.Cond.fieldLink "RoundPlans$Found" (30 : Nat) "RoundPlans$Found" "backs" "[I") ∈ zT := zT_of 173 (by decide +kernel) (by decide +kernel)
theorem wd_174 : (Jvm.Cond.fieldLink "RoundPlans$Rounds" (110 : Nat) "RoundPlans$Found" "backs" "[I") ∈ zT := zT_of 174 (by decide +kernel) (by decide +kernel)
theorem wd_175 : (Jvm.Cond.fieldLink "RoundPlans" (166 : Nat) "RoundPlans$Found" "backs" "[I") ∈ zT := zT_of 175 (by decide +kernel) (by decide +kernel)
theorem wd_176 : (Jvm.Cond.fieldLink "RoundPlans$Found" (33 : Nat) "RoundPlans$Found" "more" "[J") ∈ zT := zT_of 176 (by decide +kernel) (by decide +kernel)
theorem wd_177 : (Jvm.Cond.fieldLink "RoundPlans" (129 : Nat) "RoundPlans$Found" "more" "[J") ∈ zT := zT_of 177 (by decide +kernel) (by decide +kernel)
theorem wd_197 : (Jvm.Cond.fieldLink "RoundPlans" (12 : Nat) "RoundPlans" "told" "LRoundPlans$Told;") ∈ zT := zT_of 197 (by decide +kernel) (by decide +kernel)
theorem wd_198 : (Jvm.Cond.fieldLink "RoundPlans" (21 : Nat) "RoundPlans" "rounds" "LRoundPlans$Rounds;") ∈ zT := zT_of 198 (by decide +kernel) (by decide +kernel)
theorem wd_199 : (Jvm.Cond.fieldLink "RoundPlans" (30 : Nat) "RoundPlans" "plans" "LRoundPlans$Plans;") ∈ zT := zT_of 199 (by decide +kernel) (by decide +kernel)
theorem wd_200 : (Jvm.Cond.fieldLink "RoundPlans" (37 : Nat) "RoundPlans" "found" "LRoundPlans$Found;") ∈ zT := zT_of 200 (by decide +kernel) (by decide +kernel)
theorem wd_210 : (Jvm.Cond.methodLink "RoundPlansLaw" (13 : Nat) ({ cls := "RoundPlans", name := "stop", desc := "(I)I" } : Jvm.MethodName)) ∈ zT := zT_of 210 (by decide +kernel) (by decide +kernel)
theorem wd_211 : (Jvm.Cond.instanceMethod ({ cls := "RoundPlans", name := "stop", desc := "(I)I" } : Jvm.MethodName)) ∈ zT := zT_of 211 (by decide +kernel) (by decide +kernel)
theorem wd_212 : (Jvm.Cond.selects "RoundPlans" ({ cls := "RoundPlans", name := "stop", desc := "(I)I" } : Jvm.MethodName) ({ cls := "RoundPlans", name := "stop", desc := "(I)I" } : Jvm.MethodName)) ∈ zT := zT_of 212 (by decide +kernel) (by decide +kernel)
set_option maxRecDepth 100000 in
theorem wd_213 : zc g_rp_stop ∈ zT := zT_of 213 rfl rfl
theorem wd_214 : (Jvm.Cond.constant "RoundPlans" (45 : Nat) (100000 : Int32)) ∈ zT := zT_of 214 (by decide +kernel) (by decide +kernel)
theorem wd_215 : (Jvm.Cond.methodLink "RoundPlans" (46 : Nat) ({ cls := "RoundPlans", name := "isWithin", desc := "(II)Z" } : Jvm.MethodName)) ∈ zT := zT_of 215 (by decide +kernel) (by decide +kernel)
theorem wd_216 : (Jvm.Cond.static ({ cls := "RoundPlans", name := "isWithin", desc := "(II)Z" } : Jvm.MethodName)) ∈ zT := zT_of 216 (by decide +kernel) (by decide +kernel)
set_option maxRecDepth 100000 in
theorem wd_217 : zc g_rp_isWithin ∈ zT := zT_of 217 rfl rfl
theorem wd_218 : (Jvm.Cond.methodLink "RoundPlans" (50 : Nat) ({ cls := "RoundPlans$Told", name := "addStop", desc := "(I)I" } : Jvm.MethodName)) ∈ zT := zT_of 218 (by decide +kernel) (by decide +kernel)
theorem wd_219 : (Jvm.Cond.instanceMethod ({ cls := "RoundPlans$Told", name := "addStop", desc := "(I)I" } : Jvm.MethodName)) ∈ zT := zT_of 219 (by decide +kernel) (by decide +kernel)
theorem wd_220 : (Jvm.Cond.selects "RoundPlans$Told" ({ cls := "RoundPlans$Told", name := "addStop", desc := "(I)I" } : Jvm.MethodName) ({ cls := "RoundPlans$Told", name := "addStop", desc := "(I)I" } : Jvm.MethodName)) ∈ zT := zT_of 220 (by decide +kernel) (by decide +kernel)
set_option maxRecDepth 100000 in
theorem wd_221 : zc g_td_addStop ∈ zT := zT_of 221 rfl rfl
theorem wd_222 : (Jvm.Cond.methodLink "RoundPlansLaw" (18 : Nat) ({ cls := "RoundPlans", name := "hours", desc := "(IIII)Z" } : Jvm.MethodName)) ∈ zT := zT_of 222 (by decide +kernel) (by decide +kernel)
theorem wd_223 : (Jvm.Cond.instanceMethod ({ cls := "RoundPlans", name := "hours", desc := "(IIII)Z" } : Jvm.MethodName)) ∈ zT := zT_of 223 (by decide +kernel) (by decide +kernel)
theorem wd_224 : (Jvm.Cond.selects "RoundPlans" ({ cls := "RoundPlans", name := "hours", desc := "(IIII)Z" } : Jvm.MethodName) ({ cls := "RoundPlans", name := "hours", desc := "(IIII)Z" } : Jvm.MethodName)) ∈ zT := zT_of 224 (by decide +kernel) (by decide +kernel)
set_option maxRecDepth 100000 in
theorem wd_225 : zc g_rp_hours ∈ zT := zT_of 225 rfl rfl
theorem wd_226 : (Jvm.Cond.methodLink "RoundPlans" (54 : Nat) ({ cls := "RoundPlans$Told", name := "hasStop", desc := "(I)Z" } : Jvm.MethodName)) ∈ zT := zT_of 226 (by decide +kernel) (by decide +kernel)
theorem wd_227 : (Jvm.Cond.instanceMethod ({ cls := "RoundPlans$Told", name := "hasStop", desc := "(I)Z" } : Jvm.MethodName)) ∈ zT := zT_of 227 (by decide +kernel) (by decide +kernel)
theorem wd_228 : (Jvm.Cond.selects "RoundPlans$Told" ({ cls := "RoundPlans$Told", name := "hasStop", desc := "(I)Z" } : Jvm.MethodName) ({ cls := "RoundPlans$Told", name := "hasStop", desc := "(I)Z" } : Jvm.MethodName)) ∈ zT := zT_of 228 (by decide +kernel) (by decide +kernel)
set_option maxRecDepth 100000 in
theorem wd_229 : zc g_td_hasStop ∈ zT := zT_of 229 rfl rfl
theorem wd_230 : (Jvm.Cond.methodLink "RoundPlans" (58 : Nat) ({ cls := "RoundPlans", name := "isSpan", desc := "(II)Z" } : Jvm.MethodName)) ∈ zT := zT_of 230 (by decide +kernel) (by decide +kernel)
theorem wd_231 : (Jvm.Cond.static ({ cls := "RoundPlans", name := "isSpan", desc := "(II)Z" } : Jvm.MethodName)) ∈ zT := zT_of 231 (by decide +kernel) (by decide +kernel)
set_option maxRecDepth 100000 in
theorem wd_232 : zc g_rp_isSpan ∈ zT := zT_of 232 rfl rfl
theorem wd_233 : (Jvm.Cond.constant "RoundPlans" (171 : Nat) (86399 : Int32)) ∈ zT := zT_of 233 (by decide +kernel) (by decide +kernel)
theorem wd_234 : (Jvm.Cond.methodLink "RoundPlansLaw" (25 : Nat) ({ cls := "RoundPlans", name := "penalty", desc := "(IJ)Z" } : Jvm.MethodName)) ∈ zT := zT_of 234 (by decide +kernel) (by decide +kernel)
theorem wd_235 : (Jvm.Cond.instanceMethod ({ cls := "RoundPlans", name := "penalty", desc := "(IJ)Z" } : Jvm.MethodName)) ∈ zT := zT_of 235 (by decide +kernel) (by decide +kernel)
theorem wd_236 : (Jvm.Cond.selects "RoundPlans" ({ cls := "RoundPlans", name := "penalty", desc := "(IJ)Z" } : Jvm.MethodName) ({ cls := "RoundPlans", name := "penalty", desc := "(IJ)Z" } : Jvm.MethodName)) ∈ zT := zT_of 236 (by decide +kernel) (by decide +kernel)
set_option maxRecDepth 100000 in
theorem wd_237 : zc g_rp_penalty ∈ zT := zT_of 237 rfl rfl
theorem wd_238 : (Jvm.Cond.constantLong "RoundPlans" (71 : Nat) (1000000000 : Int64)) ∈ zT := zT_of 238 (by decide +kernel) (by decide +kernel)
theorem wd_239 : (Jvm.Cond.methodLink "RoundPlansLaw" (30 : Nat) ({ cls := "RoundPlans", name := "vehicle", desc := "(IIII)I" } : Jvm.MethodName)) ∈ zT := zT_of 239 (by decide +kernel) (by decide +kernel)
theorem wd_240 : (Jvm.Cond.instanceMethod ({ cls := "RoundPlans", name := "vehicle", desc := "(IIII)I" } : Jvm.MethodName)) ∈ zT := zT_of 240 (by decide +kernel) (by decide +kernel)
theorem wd_241 : (Jvm.Cond.selects "RoundPlans" ({ cls := "RoundPlans", name := "vehicle", desc := "(IIII)I" } : Jvm.MethodName) ({ cls := "RoundPlans", name := "vehicle", desc := "(IIII)I" } : Jvm.MethodName)) ∈ zT := zT_of 241 (by decide +kernel) (by decide +kernel)
set_option maxRecDepth 100000 in
theorem wd_242 : zc g_rp_vehicle ∈ zT := zT_of 242 rfl rfl
theorem wd_243 : (Jvm.Cond.constant "RoundPlans" (80 : Nat) (1000000 : Int32)) ∈ zT := zT_of 243 (by decide +kernel) (by decide +kernel)
theorem wd_244 : (Jvm.Cond.methodLink "RoundPlans" (81 : Nat) ({ cls := "RoundPlans$Told", name := "addVehicle", desc := "(IIII)I" } : Jvm.MethodName)) ∈ zT := zT_of 244 (by decide +kernel) (by decide +kernel)
theorem wd_245 : (Jvm.Cond.instanceMethod ({ cls := "RoundPlans$Told", name := "addVehicle", desc := "(IIII)I" } : Jvm.MethodName)) ∈ zT := zT_of 245 (by decide +kernel) (by decide +kernel)
theorem wd_246 : (Jvm.Cond.selects "RoundPlans$Told" ({ cls := "RoundPlans$Told", name := "addVehicle", desc := "(IIII)I" } : Jvm.MethodName) ({ cls := "RoundPlans$Told", name := "addVehicle", desc := "(IIII)I" } : Jvm.MethodName)) ∈ zT := zT_of 246 (by decide +kernel) (by decide +kernel)
set_option maxRecDepth 100000 in
theorem wd_247 : zc g_td_addVehicle ∈ zT := zT_of 247 rfl rfl
theorem wd_248 : (Jvm.Cond.methodLink "RoundPlansLaw" (35 : Nat) ({ cls := "RoundPlans", name := "way", desc := "(III)Z" } : Jvm.MethodName)) ∈ zT := zT_of 248 (by decide +kernel) (by decide +kernel)
theorem wd_249 : (Jvm.Cond.instanceMethod ({ cls := "RoundPlans", name := "way", desc := "(III)Z" } : Jvm.MethodName)) ∈ zT := zT_of 249 (by decide +kernel) (by decide +kernel)
theorem wd_250 : (Jvm.Cond.selects "RoundPlans" ({ cls := "RoundPlans", name := "way", desc := "(III)Z" } : Jvm.MethodName) ({ cls := "RoundPlans", name := "way", desc := "(III)Z" } : Jvm.MethodName)) ∈ zT := zT_of 250 (by decide +kernel) (by decide +kernel)
set_option maxRecDepth 100000 in
theorem wd_251 : zc g_rp_way ∈ zT := zT_of 251 rfl rfl
theorem wd_252 : (Jvm.Cond.constant "RoundPlans" (85 : Nat) (50000 : Int32)) ∈ zT := zT_of 252 (by decide +kernel) (by decide +kernel)
theorem wd_253 : (Jvm.Cond.methodLink "RoundPlansLaw" (40 : Nat) ({ cls := "RoundPlans", name := "fixed", desc := "(II)Z" } : Jvm.MethodName)) ∈ zT := zT_of 253 (by decide +kernel) (by decide +kernel)
theorem wd_254 : (Jvm.Cond.instanceMethod ({ cls := "RoundPlans", name := "fixed", desc := "(II)Z" } : Jvm.MethodName)) ∈ zT := zT_of 254 (by decide +kernel) (by decide +kernel)
theorem wd_255 : (Jvm.Cond.selects "RoundPlans" ({ cls := "RoundPlans", name := "fixed", desc := "(II)Z" } : Jvm.MethodName) ({ cls := "RoundPlans", name := "fixed", desc := "(II)Z" } : Jvm.MethodName)) ∈ zT := zT_of 255 (by decide +kernel) (by decide +kernel)
set_option maxRecDepth 100000 in
theorem wd_256 : zc g_rp_fixed ∈ zT := zT_of 256 rfl rfl
theorem wd_257 : (Jvm.Cond.methodLink "RoundPlans" (89 : Nat) ({ cls := "RoundPlans$Told", name := "hasVehicle", desc := "(I)Z" } : Jvm.MethodName)) ∈ zT := zT_of 257 (by decide +kernel) (by decide +kernel)
theorem wd_258 : (Jvm.Cond.instanceMethod ({ cls := "RoundPlans$Told", name := "hasVehicle", desc := "(I)Z" } : Jvm.MethodName)) ∈ zT := zT_of 258 (by decide +kernel) (by decide +kernel)
theorem wd_259 : (Jvm.Cond.selects "RoundPlans$Told" ({ cls := "RoundPlans$Told", name := "hasVehicle", desc := "(I)Z" } : Jvm.MethodName) ({ cls := "RoundPlans$Told", name := "hasVehicle", desc := "(I)Z" } : Jvm.MethodName)) ∈ zT := zT_of 259 (by decide +kernel) (by decide +kernel)
set_option maxRecDepth 100000 in
theorem wd_260 : zc g_td_hasVehicle ∈ zT := zT_of 260 rfl rfl
theorem wd_261 : (Jvm.Cond.methodLink "RoundPlansLaw" (45 : Nat) ({ cls := "RoundPlans", name := "apart", desc := "(IIZ)Z" } : Jvm.MethodName)) ∈ zT := zT_of 261 (by decide +kernel) (by decide +kernel)
theorem wd_262 : (Jvm.Cond.instanceMethod ({ cls := "RoundPlans", name := "apart", desc := "(IIZ)Z" } : Jvm.MethodName)) ∈ zT := zT_of 262 (by decide +kernel) (by decide +kernel)
theorem wd_263 : (Jvm.Cond.selects "RoundPlans" ({ cls := "RoundPlans", name := "apart", desc := "(IIZ)Z" } : Jvm.MethodName) ({ cls := "RoundPlans", name := "apart", desc := "(IIZ)Z" } : Jvm.MethodName)) ∈ zT := zT_of 263 (by decide +kernel) (by decide +kernel)
set_option maxRecDepth 100000 in
theorem wd_264 : zc g_rp_apart ∈ zT := zT_of 264 rfl rfl
theorem wd_265 : (Jvm.Cond.methodLink "RoundPlans" (95 : Nat) ({ cls := "RoundPlans$Told", name := "areTwoStops", desc := "(II)Z" } : Jvm.MethodName)) ∈ zT := zT_of 265 (by decide +kernel) (by decide +kernel)
theorem wd_266 : (Jvm.Cond.instanceMethod ({ cls := "RoundPlans$Told", name := "areTwoStops", desc := "(II)Z" } : Jvm.MethodName)) ∈ zT := zT_of 266 (by decide +kernel) (by decide +kernel)
theorem wd_267 : (Jvm.Cond.selects "RoundPlans$Told" ({ cls := "RoundPlans$Told", name := "areTwoStops", desc := "(II)Z" } : Jvm.MethodName) ({ cls := "RoundPlans$Told", name := "areTwoStops", desc := "(II)Z" } : Jvm.MethodName)) ∈ zT := zT_of 267 (by decide +kernel) (by decide +kernel)
set_option maxRecDepth 100000 in
theorem wd_268 : zc g_td_areTwoStops ∈ zT := zT_of 268 rfl rfl
theorem wd_269 : (Jvm.Cond.methodLink "RoundPlans$Told" (72 : Nat) ({ cls := "RoundPlans$Told", name := "hasStop", desc := "(I)Z" } : Jvm.MethodName)) ∈ zT := zT_of 269 (by decide +kernel) (by decide +kernel)
theorem wd_270 : (Jvm.Cond.methodLink "RoundPlans" (98 : Nat) ({ cls := "RoundPlans$Told", name := "setApart", desc := "(IIZ)V" } : Jvm.MethodName)) ∈ zT := zT_of 270 (by decide +kernel) (by decide +kernel)
theorem wd_271 : (Jvm.Cond.instanceMethod ({ cls := "RoundPlans$Told", name := "setApart", desc := "(IIZ)V" } : Jvm.MethodName)) ∈ zT := zT_of 271 (by decide +kernel) (by decide +kernel)
theorem wd_272 : (Jvm.Cond.selects "RoundPlans$Told" ({ cls := "RoundPlans$Told", name := "setApart", desc := "(IIZ)V" } : Jvm.MethodName) ({ cls := "RoundPlans$Told", name := "setApart", desc := "(IIZ)V" } : Jvm.MethodName)) ∈ zT := zT_of 272 (by decide +kernel) (by decide +kernel)
set_option maxRecDepth 100000 in
theorem wd_273 : zc g_td_setApart ∈ zT := zT_of 273 rfl rfl
theorem wd_275 : (Jvm.Cond.static ({ cls := "RoundPlans", name := "with", desc := "(II)I" } : Jvm.MethodName)) ∈ zT := zT_of 275 (by decide +kernel) (by decide +kernel)
set_option maxRecDepth 100000 in
theorem wd_276 : zc g_rp_with ∈ zT := zT_of 276 rfl rfl
theorem wd_278 : (Jvm.Cond.static ({ cls := "RoundPlans", name := "without", desc := "(II)I" } : Jvm.MethodName)) ∈ zT := zT_of 278 (by decide +kernel) (by decide +kernel)
set_option maxRecDepth 100000 in
theorem wd_279 : zc g_rp_without ∈ zT := zT_of 279 rfl rfl
theorem wd_280 : (Jvm.Cond.methodLink "RoundPlansLaw" (50 : Nat) ({ cls := "RoundPlans", name := "before", desc := "(II)Z" } : Jvm.MethodName)) ∈ zT := zT_of 280 (by decide +kernel) (by decide +kernel)
theorem wd_281 : (Jvm.Cond.instanceMethod ({ cls := "RoundPlans", name := "before", desc := "(II)Z" } : Jvm.MethodName)) ∈ zT := zT_of 281 (by decide +kernel) (by decide +kernel)
theorem wd_282 : (Jvm.Cond.selects "RoundPlans" ({ cls := "RoundPlans", name := "before", desc := "(II)Z" } : Jvm.MethodName) ({ cls := "RoundPlans", name := "before", desc := "(II)Z" } : Jvm.MethodName)) ∈ zT := zT_of 282 (by decide +kernel) (by decide +kernel)
set_option maxRecDepth 100000 in
theorem wd_283 : zc g_rp_before ∈ zT := zT_of 283 rfl rfl
theorem wd_284 : (Jvm.Cond.methodLink "RoundPlans" (105 : Nat) ({ cls := "RoundPlans", name := "holds", desc := "(II)Z" } : Jvm.MethodName)) ∈ zT := zT_of 284 (by decide +kernel) (by decide +kernel)
theorem wd_285 : (Jvm.Cond.static ({ cls := "RoundPlans", name := "holds", desc := "(II)Z" } : Jvm.MethodName)) ∈ zT := zT_of 285 (by decide +kernel) (by decide +kernel)
set_option maxRecDepth 100000 in
theorem wd_286 : zc g_rp_holds ∈ zT := zT_of 286 rfl rfl
theorem wd_287 : (Jvm.Cond.methodLink "RoundPlans" (111 : Nat) ({ cls := "RoundPlans$Told", name := "setBefore", desc := "(II)V" } : Jvm.MethodName)) ∈ zT := zT_of 287 (by decide +kernel) (by decide +kernel)
theorem wd_288 : (Jvm.Cond.instanceMethod ({ cls := "RoundPlans$Told", name := "setBefore", desc := "(II)V" } : Jvm.MethodName)) ∈ zT := zT_of 288 (by decide +kernel) (by decide +kernel)
theorem wd_289 : (Jvm.Cond.selects "RoundPlans$Told" ({ cls := "RoundPlans$Told", name := "setBefore", desc := "(II)V" } : Jvm.MethodName) ({ cls := "RoundPlans$Told", name := "setBefore", desc := "(II)V" } : Jvm.MethodName)) ∈ zT := zT_of 289 (by decide +kernel) (by decide +kernel)
set_option maxRecDepth 100000 in
theorem wd_290 : zc g_td_setBefore ∈ zT := zT_of 290 rfl rfl
theorem wd_292 : (Jvm.Cond.methodLink "RoundPlansLaw" (54 : Nat) ({ cls := "RoundPlans", name := "run", desc := "()I" } : Jvm.MethodName)) ∈ zT := zT_of 292 (by decide +kernel) (by decide +kernel)
theorem wd_293 : (Jvm.Cond.instanceMethod ({ cls := "RoundPlans", name := "run", desc := "()I" } : Jvm.MethodName)) ∈ zT := zT_of 293 (by decide +kernel) (by decide +kernel)
theorem wd_294 : (Jvm.Cond.selects "RoundPlans" ({ cls := "RoundPlans", name := "run", desc := "()I" } : Jvm.MethodName) ({ cls := "RoundPlans", name := "run", desc := "()I" } : Jvm.MethodName)) ∈ zT := zT_of 294 (by decide +kernel) (by decide +kernel)
set_option maxRecDepth 100000 in
theorem wd_295 : zc g_rp_run ∈ zT := zT_of 295 rfl rfl
theorem wd_296 : (Jvm.Cond.methodLink "RoundPlans" (115 : Nat) ({ cls := "RoundPlans$Rounds", name := "findBacks", desc := "()V" } : Jvm.MethodName)) ∈ zT := zT_of 296 (by decide +kernel) (by decide +kernel)
theorem wd_297 : (Jvm.Cond.instanceMethod ({ cls := "RoundPlans$Rounds", name := "findBacks", desc := "()V" } : Jvm.MethodName)) ∈ zT := zT_of 297 (by decide +kernel) (by decide +kernel)
theorem wd_298 : (Jvm.Cond.selects "RoundPlans$Rounds" ({ cls := "RoundPlans$Rounds", name := "findBacks", desc := "()V" } : Jvm.MethodName) ({ cls := "RoundPlans$Rounds", name := "findBacks", desc := "()V" } : Jvm.MethodName)) ∈ zT := zT_of 298 (by decide +kernel) (by decide +kernel)
set_option maxRecDepth 100000 in
theorem wd_299 : zc g_rd_findBacks ∈ zT := zT_of 299 rfl rfl
theorem wd_300 : (Jvm.Cond.methodLink "RoundPlans$Rounds" (34 : Nat) ({ cls := "RoundPlans$Rounds", name := "mayHave", desc := "(II)Z" } : Jvm.MethodName)) ∈ zT := zT_of 300 (by decide +kernel) (by decide +kernel)
theorem wd_302 : (Jvm.Cond.instanceMethod ({ cls := "RoundPlans$Rounds", name := "mayHave", desc := "(II)Z" } : Jvm.MethodName)) ∈ zT := zT_of 302 (by decide +kernel) (by decide +kernel)
set_option maxRecDepth 100000 in
theorem wd_303 : zc g_rd_mayHave ∈ zT := zT_of 303 rfl rfl
theorem wd_305 : (Jvm.Cond.methodLink "RoundPlans$Rounds" (38 : Nat) ({ cls := "RoundPlans$Rounds", name := "findBack", desc := "(II)I" } : Jvm.MethodName)) ∈ zT := zT_of 305 (by decide +kernel) (by decide +kernel)
theorem wd_307 : (Jvm.Cond.instanceMethod ({ cls := "RoundPlans$Rounds", name := "findBack", desc := "(II)I" } : Jvm.MethodName)) ∈ zT := zT_of 307 (by decide +kernel) (by decide +kernel)
set_option maxRecDepth 100000 in
theorem wd_308 : zc g_rd_findBack ∈ zT := zT_of 308 rfl rfl
theorem wd_309 : (Jvm.Cond.constant "RoundPlans$Rounds" (42 : Nat) (1073741824 : Int32)) ∈ zT := zT_of 309 (by decide +kernel) (by decide +kernel)
theorem wd_310 : (Jvm.Cond.methodLink "RoundPlans$Rounds" (58 : Nat) ({ cls := "RoundPlans$Rounds", name := "findReady", desc := "(III)I" } : Jvm.MethodName)) ∈ zT := zT_of 310 (by decide +kernel) (by decide +kernel)
theorem wd_312 : (Jvm.Cond.instanceMethod ({ cls := "RoundPlans$Rounds", name := "findReady", desc := "(III)I" } : Jvm.MethodName)) ∈ zT := zT_of 312 (by decide +kernel) (by decide +kernel)
set_option maxRecDepth 100000 in
theorem wd_313 : zc g_rd_findReady ∈ zT := zT_of 313 rfl rfl
theorem wd_315 : (Jvm.Cond.methodLink "RoundPlans$Rounds" (62 : Nat) ({ cls := "RoundPlans$Told", name := "seconds", desc := "(II)I" } : Jvm.MethodName)) ∈ zT := zT_of 315 (by decide +kernel) (by decide +kernel)
theorem wd_316 : (Jvm.Cond.instanceMethod ({ cls := "RoundPlans$Told", name := "seconds", desc := "(II)I" } : Jvm.MethodName)) ∈ zT := zT_of 316 (by decide +kernel) (by decide +kernel)
theorem wd_317 : (Jvm.Cond.selects "RoundPlans$Told" ({ cls := "RoundPlans$Told", name := "seconds", desc := "(II)I" } : Jvm.MethodName) ({ cls := "RoundPlans$Told", name := "seconds", desc := "(II)I" } : Jvm.MethodName)) ∈ zT := zT_of 317 (by decide +kernel) (by decide +kernel)
set_option maxRecDepth 100000 in
theorem wd_318 : zc g_td_seconds ∈ zT := zT_of 318 rfl rfl
theorem wd_319 : (Jvm.Cond.methodLink "RoundPlans$Rounds" (65 : Nat) ({ cls := "java/lang/Math", name := "min", desc := "(II)I" } : Jvm.MethodName)) ∈ zT := zT_of 319 (by decide +kernel) (by decide +kernel)
theorem wd_320 : (Jvm.Cond.static ({ cls := "java/lang/Math", name := "min", desc := "(II)I" } : Jvm.MethodName)) ∈ zT := zT_of 320 (by decide +kernel) (by decide +kernel)
set_option maxRecDepth 100000 in
theorem wd_321 : (Cond.code ({ cls := "java/lang/Math", name := "min", desc := "(II)I" } : Jvm.MethodName) prog_9_method_69_code (2 : Nat) (Option.some Jvm.ClassFile.FieldType.int)) ∈ zT := zT_of 321 rfl rfl
theorem wd_322 : (Jvm.Cond.methodLink "RoundPlans$Rounds" (88 : Nat) ({ cls := "java/lang/Math", name := "max", desc := "(II)I" } : Jvm.MethodName)) ∈ zT := zT_of 322 (by decide +kernel) (by decide +kernel)
theorem wd_323 : (Jvm.Cond.static ({ cls := "java/lang/Math", name := "max", desc := "(II)I" } : Jvm.MethodName)) ∈ zT := zT_of 323 (by decide +kernel) (by decide +kernel)
set_option maxRecDepth 100000 in
theorem wd_324 : (Cond.code ({ cls := "java/lang/Math", name := "max", desc := "(II)I" } : Jvm.MethodName) prog_9_method_65_code (2 : Nat) (Option.some Jvm.ClassFile.FieldType.int)) ∈ zT := zT_of 324 rfl rfl
theorem wd_325 : (Jvm.Cond.methodLink "RoundPlans" (118 : Nat) ({ cls := "RoundPlans$Plans", name := "findPrices", desc := "()V" } : Jvm.MethodName)) ∈ zT := zT_of 325 (by decide +kernel) (by decide +kernel)
theorem wd_326 : (Jvm.Cond.instanceMethod ({ cls := "RoundPlans$Plans", name := "findPrices", desc := "()V" } : Jvm.MethodName)) ∈ zT := zT_of 326 (by decide +kernel) (by decide +kernel)
theorem wd_327 : (Jvm.Cond.selects "RoundPlans$Plans" ({ cls := "RoundPlans$Plans", name := "findPrices", desc := "()V" } : Jvm.MethodName) ({ cls := "RoundPlans$Plans", name := "findPrices", desc := "()V" } : Jvm.MethodName)) ∈ zT := zT_of 327 (by decide +kernel) (by decide +kernel)
set_option maxRecDepth 100000 in
theorem wd_328 : zc g_pl_findPrices ∈ zT := zT_of 328 rfl rfl
theorem wd_329 : (Jvm.Cond.methodLink "RoundPlans$Plans" (35 : Nat) ({ cls := "RoundPlans$Plans", name := "codeOfOnes", desc := "(I)J" } : Jvm.MethodName)) ∈ zT := zT_of 329 (by decide +kernel) (by decide +kernel)
theorem wd_331 : (Jvm.Cond.instanceMethod ({ cls := "RoundPlans$Plans", name := "codeOfOnes", desc := "(I)J" } : Jvm.MethodName)) ∈ zT := zT_of 331 (by decide +kernel) (by decide +kernel)
set_option maxRecDepth 100000 in
theorem wd_332 : zc g_pl_codeOfOnes ∈ zT := zT_of 332 rfl rfl
theorem wd_335 : (Jvm.Cond.static ({ cls := "RoundPlans", name := "codeShift", desc := "(I)I" } : Jvm.MethodName)) ∈ zT := zT_of 335 (by decide +kernel) (by decide +kernel)
set_option maxRecDepth 100000 in
theorem wd_336 : zc g_rp_codeShift ∈ zT := zT_of 336 rfl rfl
theorem wd_337 : (Jvm.Cond.methodLink "RoundPlans$Plans" (39 : Nat) ({ cls := "RoundPlans$Plans", name := "penaltiesOf", desc := "(I)J" } : Jvm.MethodName)) ∈ zT := zT_of 337 (by decide +kernel) (by decide +kernel)
theorem wd_339 : (Jvm.Cond.instanceMethod ({ cls := "RoundPlans$Plans", name := "penaltiesOf", desc := "(I)J" } : Jvm.MethodName)) ∈ zT := zT_of 339 (by decide +kernel) (by decide +kernel)
set_option maxRecDepth 100000 in
theorem wd_340 : zc g_pl_penaltiesOf ∈ zT := zT_of 340 rfl rfl
theorem wd_341 : (Jvm.Cond.constantLong "RoundPlans$Plans" (42 : Nat) (3 : Int64)) ∈ zT := zT_of 341 (by decide +kernel) (by decide +kernel)
theorem wd_342 : (Jvm.Cond.methodLink "RoundPlans$Plans" (47 : Nat) ({ cls := "RoundPlans$Plans", name := "findPrice", desc := "(IIJ)J" } : Jvm.MethodName)) ∈ zT := zT_of 342 (by decide +kernel) (by decide +kernel)
theorem wd_344 : (Jvm.Cond.instanceMethod ({ cls := "RoundPlans$Plans", name := "findPrice", desc := "(IIJ)J" } : Jvm.MethodName)) ∈ zT := zT_of 344 (by decide +kernel) (by decide +kernel)
set_option maxRecDepth 100000 in
theorem wd_345 : zc g_pl_findPrice ∈ zT := zT_of 345 rfl rfl
theorem wd_346 : (Jvm.Cond.methodLink "RoundPlans$Plans" (51 : Nat) ({ cls := "RoundPlans$Rounds", name := "firstBack", desc := "(II)I" } : Jvm.MethodName)) ∈ zT := zT_of 346 (by decide +kernel) (by decide +kernel)
theorem wd_347 : (Jvm.Cond.instanceMethod ({ cls := "RoundPlans$Rounds", name := "firstBack", desc := "(II)I" } : Jvm.MethodName)) ∈ zT := zT_of 347 (by decide +kernel) (by decide +kernel)
theorem wd_348 : (Jvm.Cond.selects "RoundPlans$Rounds" ({ cls := "RoundPlans$Rounds", name := "firstBack", desc := "(II)I" } : Jvm.MethodName) ({ cls := "RoundPlans$Rounds", name := "firstBack", desc := "(II)I" } : Jvm.MethodName)) ∈ zT := zT_of 348 (by decide +kernel) (by decide +kernel)
set_option maxRecDepth 100000 in
theorem wd_349 : zc g_rd_firstBack ∈ zT := zT_of 349 rfl rfl
theorem wd_350 : (Jvm.Cond.constant "RoundPlans$Plans" (57 : Nat) (1073741824 : Int32)) ∈ zT := zT_of 350 (by decide +kernel) (by decide +kernel)
theorem wd_351 : (Jvm.Cond.constantLong "RoundPlans$Plans" (58 : Nat) (1152921504606846976 : Int64)) ∈ zT := zT_of 351 (by decide +kernel) (by decide +kernel)
theorem wd_352 : (Jvm.Cond.methodLink "RoundPlans" (121 : Nat) ({ cls := "RoundPlans$Plans", name := "cheapest", desc := "(I)J" } : Jvm.MethodName)) ∈ zT := zT_of 352 (by decide +kernel) (by decide +kernel)
theorem wd_353 : (Jvm.Cond.instanceMethod ({ cls := "RoundPlans$Plans", name := "cheapest", desc := "(I)J" } : Jvm.MethodName)) ∈ zT := zT_of 353 (by decide +kernel) (by decide +kernel)
theorem wd_354 : (Jvm.Cond.selects "RoundPlans$Plans" ({ cls := "RoundPlans$Plans", name := "cheapest", desc := "(I)J" } : Jvm.MethodName) ({ cls := "RoundPlans$Plans", name := "cheapest", desc := "(I)J" } : Jvm.MethodName)) ∈ zT := zT_of 354 (by decide +kernel) (by decide +kernel)
set_option maxRecDepth 100000 in
theorem wd_355 : zc g_pl_cheapest ∈ zT := zT_of 355 rfl rfl
theorem wd_356 : (Jvm.Cond.methodLink "RoundPlans$Plans" (78 : Nat) ({ cls := "java/lang/System", name := "arraycopy", desc := "(Ljava/lang/Object;ILjava/lang/Object;II)V" } : Jvm.MethodName)) ∈ zT := zT_of 356 (by decide +kernel) (by decide +kernel)
theorem wd_357 : (Jvm.Cond.static ({ cls := "java/lang/System", name := "arraycopy", desc := "(Ljava/lang/Object;ILjava/lang/Object;II)V" } : Jvm.MethodName)) ∈ zT := zT_of 357 (by decide +kernel) (by decide +kernel)
theorem wd_358 : (Jvm.Cond.native ({ cls := "java/lang/System", name := "arraycopy", desc := "(Ljava/lang/Object;ILjava/lang/Object;II)V" } : Jvm.MethodName)) ∈ zT := zT_of 358 (by decide +kernel) (by decide +kernel)
theorem wd_359 : (Jvm.Cond.methodLink "RoundPlans$Plans" (84 : Nat) ({ cls := "RoundPlans$Plans", name := "addRounds", desc := "(II)V" } : Jvm.MethodName)) ∈ zT := zT_of 359 (by decide +kernel) (by decide +kernel)
theorem wd_361 : (Jvm.Cond.instanceMethod ({ cls := "RoundPlans$Plans", name := "addRounds", desc := "(II)V" } : Jvm.MethodName)) ∈ zT := zT_of 361 (by decide +kernel) (by decide +kernel)
set_option maxRecDepth 100000 in
theorem wd_362 : zc g_pl_addRounds ∈ zT := zT_of 362 rfl rfl
theorem wd_363 : (Jvm.Cond.methodLink "RoundPlans$Plans" (88 : Nat) ({ cls := "RoundPlans$Plans", name := "leastWith", desc := "(II)J" } : Jvm.MethodName)) ∈ zT := zT_of 363 (by decide +kernel) (by decide +kernel)
theorem wd_365 : (Jvm.Cond.instanceMethod ({ cls := "RoundPlans$Plans", name := "leastWith", desc := "(II)J" } : Jvm.MethodName)) ∈ zT := zT_of 365 (by decide +kernel) (by decide +kernel)
set_option maxRecDepth 100000 in
theorem wd_366 : zc g_pl_leastWith ∈ zT := zT_of 366 rfl rfl
theorem wd_367 : (Jvm.Cond.methodLink "RoundPlans$Plans" (92 : Nat) ({ cls := "java/lang/Math", name := "min", desc := "(JJ)J" } : Jvm.MethodName)) ∈ zT := zT_of 367 (by decide +kernel) (by decide +kernel)
theorem wd_368 : (Jvm.Cond.static ({ cls := "java/lang/Math", name := "min", desc := "(JJ)J" } : Jvm.MethodName)) ∈ zT := zT_of 368 (by decide +kernel) (by decide +kernel)
set_option maxRecDepth 100000 in
theorem wd_369 : (Cond.code ({ cls := "java/lang/Math", name := "min", desc := "(JJ)J" } : Jvm.MethodName) prog_9_method_70_code (4 : Nat) (Option.some Jvm.ClassFile.FieldType.long)) ∈ zT := zT_of 369 rfl rfl
theorem wd_370 : (Jvm.Cond.methodLink "RoundPlans" (125 : Nat) ({ cls := "RoundPlans$Found", name := "take", desc := "(LRoundPlans$Told;J)V" } : Jvm.MethodName)) ∈ zT := zT_of 370 (by decide +kernel) (by decide +kernel)
theorem wd_371 : (Jvm.Cond.instanceMethod ({ cls := "RoundPlans$Found", name := "take", desc := "(LRoundPlans$Told;J)V" } : Jvm.MethodName)) ∈ zT := zT_of 371 (by decide +kernel) (by decide +kernel)
theorem wd_372 : (Jvm.Cond.selects "RoundPlans$Found" ({ cls := "RoundPlans$Found", name := "take", desc := "(LRoundPlans$Told;J)V" } : Jvm.MethodName) ({ cls := "RoundPlans$Found", name := "take", desc := "(LRoundPlans$Told;J)V" } : Jvm.MethodName)) ∈ zT := zT_of 372 (by decide +kernel) (by decide +kernel)
set_option maxRecDepth 100000 in
theorem wd_373 : zc g_fd_take ∈ zT := zT_of 373 rfl rfl
theorem wd_375 : (Jvm.Cond.static ({ cls := "RoundPlans", name := "costIn", desc := "(J)J" } : Jvm.MethodName)) ∈ zT := zT_of 375 (by decide +kernel) (by decide +kernel)
set_option maxRecDepth 100000 in
theorem wd_376 : zc g_rp_costIn ∈ zT := zT_of 376 rfl rfl
theorem wd_378 : (Jvm.Cond.static ({ cls := "RoundPlans", name := "vehicleIn", desc := "(JI)I" } : Jvm.MethodName)) ∈ zT := zT_of 378 (by decide +kernel) (by decide +kernel)
set_option maxRecDepth 100000 in
theorem wd_379 : zc g_rp_vehicleIn ∈ zT := zT_of 379 rfl rfl
theorem wd_380 : (Jvm.Cond.methodLink "RoundPlans" (172 : Nat) ({ cls := "RoundPlans", name := "codeShift", desc := "(I)I" } : Jvm.MethodName)) ∈ zT := zT_of 380 (by decide +kernel) (by decide +kernel)
theorem wd_381 : (Jvm.Cond.methodLink "RoundPlans$Found" (59 : Nat) ({ cls := "java/util/Arrays", name := "fill", desc := "([II)V" } : Jvm.MethodName)) ∈ zT := zT_of 381 (by decide +kernel) (by decide +kernel)
theorem wd_382 : (Jvm.Cond.methodLink "RoundPlans" (132 : Nat) ({ cls := "RoundPlans", name := "costIn", desc := "(J)J" } : Jvm.MethodName)) ∈ zT := zT_of 382 (by decide +kernel) (by decide +kernel)
theorem wd_383 : (Jvm.Cond.methodLink "RoundPlans" (140 : Nat) ({ cls := "RoundPlans", name := "setIn", desc := "(JII)I" } : Jvm.MethodName)) ∈ zT := zT_of 383 (by decide +kernel) (by decide +kernel)
theorem wd_384 : (Jvm.Cond.static ({ cls := "RoundPlans", name := "setIn", desc := "(JII)I" } : Jvm.MethodName)) ∈ zT := zT_of 384 (by decide +kernel) (by decide +kernel)
set_option maxRecDepth 100000 in
theorem wd_385 : zc g_rp_setIn ∈ zT := zT_of 385 rfl rfl
theorem wd_386 : (Jvm.Cond.methodLink "RoundPlans" (175 : Nat) ({ cls := "RoundPlans", name := "vehicleIn", desc := "(JI)I" } : Jvm.MethodName)) ∈ zT := zT_of 386 (by decide +kernel) (by decide +kernel)
theorem wd_387 : (Jvm.Cond.methodLink "RoundPlans" (179 : Nat) ({ cls := "RoundPlans", name := "with", desc := "(II)I" } : Jvm.MethodName)) ∈ zT := zT_of 387 (by decide +kernel) (by decide +kernel)
theorem wd_388 : (Jvm.Cond.methodLink "RoundPlans" (144 : Nat) ({ cls := "RoundPlans$Rounds", name := "drive", desc := "(IILRoundPlans$Found;)V" } : Jvm.MethodName)) ∈ zT := zT_of 388 (by decide +kernel) (by decide +kernel)
theorem wd_389 : (Jvm.Cond.instanceMethod ({ cls := "RoundPlans$Rounds", name := "drive", desc := "(IILRoundPlans$Found;)V" } : Jvm.MethodName)) ∈ zT := zT_of 389 (by decide +kernel) (by decide +kernel)
theorem wd_390 : (Jvm.Cond.selects "RoundPlans$Rounds" ({ cls := "RoundPlans$Rounds", name := "drive", desc := "(IILRoundPlans$Found;)V" } : Jvm.MethodName) ({ cls := "RoundPlans$Rounds", name := "drive", desc := "(IILRoundPlans$Found;)V" } : Jvm.MethodName)) ∈ zT := zT_of 390 (by decide +kernel) (by decide +kernel)
set_option maxRecDepth 100000 in
theorem wd_391 : zc g_rd_drive ∈ zT := zT_of 391 rfl rfl
theorem wd_392 : (Jvm.Cond.methodLink "RoundPlans$Rounds" (94 : Nat) ({ cls := "RoundPlans$Rounds", name := "firstBack", desc := "(II)I" } : Jvm.MethodName)) ∈ zT := zT_of 392 (by decide +kernel) (by decide +kernel)
theorem wd_393 : (Jvm.Cond.methodLink "RoundPlans$Rounds" (97 : Nat) ({ cls := "RoundPlans$Rounds", name := "findLatest", desc := "(II)V" } : Jvm.MethodName)) ∈ zT := zT_of 393 (by decide +kernel) (by decide +kernel)
theorem wd_395 : (Jvm.Cond.instanceMethod ({ cls := "RoundPlans$Rounds", name := "findLatest", desc := "(II)V" } : Jvm.MethodName)) ∈ zT := zT_of 395 (by decide +kernel) (by decide +kernel)
set_option maxRecDepth 100000 in
theorem wd_396 : zc g_rd_findLatest ∈ zT := zT_of 396 rfl rfl
theorem wd_397 : (Jvm.Cond.methodLink "RoundPlans$Rounds" (111 : Nat) ({ cls := "RoundPlans$Rounds", name := "findLatestAt", desc := "(III)I" } : Jvm.MethodName)) ∈ zT := zT_of 397 (by decide +kernel) (by decide +kernel)
theorem wd_399 : (Jvm.Cond.instanceMethod ({ cls := "RoundPlans$Rounds", name := "findLatestAt", desc := "(III)I" } : Jvm.MethodName)) ∈ zT := zT_of 399 (by decide +kernel) (by decide +kernel)
set_option maxRecDepth 100000 in
theorem wd_400 : zc g_rd_findLatestAt ∈ zT := zT_of 400 rfl rfl
theorem wd_401 : (Jvm.Cond.methodLink "RoundPlans$Rounds" (101 : Nat) ({ cls := "RoundPlans$Rounds", name := "firstInTime", desc := "(III)I" } : Jvm.MethodName)) ∈ zT := zT_of 401 (by decide +kernel) (by decide +kernel)
theorem wd_403 : (Jvm.Cond.instanceMethod ({ cls := "RoundPlans$Rounds", name := "firstInTime", desc := "(III)I" } : Jvm.MethodName)) ∈ zT := zT_of 403 (by decide +kernel) (by decide +kernel)
set_option maxRecDepth 100000 in
theorem wd_404 : zc g_rd_firstInTime ∈ zT := zT_of 404 rfl rfl
theorem wd_405 : (Jvm.Cond.methodLink "RoundPlans$Rounds" (104 : Nat) ({ cls := "RoundPlans$Found", name := "note", desc := "(III)V" } : Jvm.MethodName)) ∈ zT := zT_of 405 (by decide +kernel) (by decide +kernel)
theorem wd_406 : (Jvm.Cond.instanceMethod ({ cls := "RoundPlans$Found", name := "note", desc := "(III)V" } : Jvm.MethodName)) ∈ zT := zT_of 406 (by decide +kernel) (by decide +kernel)
theorem wd_407 : (Jvm.Cond.selects "RoundPlans$Found" ({ cls := "RoundPlans$Found", name := "note", desc := "(III)V" } : Jvm.MethodName) ({ cls := "RoundPlans$Found", name := "note", desc := "(III)V" } : Jvm.MethodName)) ∈ zT := zT_of 407 (by decide +kernel) (by decide +kernel)
set_option maxRecDepth 100000 in
theorem wd_408 : zc g_fd_note ∈ zT := zT_of 408 rfl rfl
theorem wd_409 : (Jvm.Cond.methodLink "RoundPlans" (148 : Nat) ({ cls := "java/lang/Integer", name := "bitCount", desc := "(I)I" } : Jvm.MethodName)) ∈ zT := zT_of 409 (by decide +kernel) (by decide +kernel)
theorem wd_410 : (Jvm.Cond.static ({ cls := "java/lang/Integer", name := "bitCount", desc := "(I)I" } : Jvm.MethodName)) ∈ zT := zT_of 410 (by decide +kernel) (by decide +kernel)
set_option maxRecDepth 100000 in
theorem wd_411 : zc g_ig_bitCount ∈ zT := zT_of 411 rfl rfl
theorem wd_412 : (Jvm.Cond.constant "java/lang/Integer" (265 : Nat) (1431655765 : Int32)) ∈ zT := zT_of 412 (by decide +kernel) (by decide +kernel)
theorem wd_413 : (Jvm.Cond.constant "java/lang/Integer" (266 : Nat) (858993459 : Int32)) ∈ zT := zT_of 413 (by decide +kernel) (by decide +kernel)
theorem wd_414 : (Jvm.Cond.constant "java/lang/Integer" (267 : Nat) (252645135 : Int32)) ∈ zT := zT_of 414 (by decide +kernel) (by decide +kernel)
theorem wd_415 : (Jvm.Cond.methodLink "RoundPlansLaw" (59 : Nat) ({ cls := "RoundPlans", name := "cost", desc := "()J" } : Jvm.MethodName)) ∈ zT := zT_of 415 (by decide +kernel) (by decide +kernel)
theorem wd_416 : (Jvm.Cond.instanceMethod ({ cls := "RoundPlans", name := "cost", desc := "()J" } : Jvm.MethodName)) ∈ zT := zT_of 416 (by decide +kernel) (by decide +kernel)
theorem wd_417 : (Jvm.Cond.selects "RoundPlans" ({ cls := "RoundPlans", name := "cost", desc := "()J" } : Jvm.MethodName) ({ cls := "RoundPlans", name := "cost", desc := "()J" } : Jvm.MethodName)) ∈ zT := zT_of 417 (by decide +kernel) (by decide +kernel)
set_option maxRecDepth 100000 in
theorem wd_418 : zc g_rp_cost ∈ zT := zT_of 418 rfl rfl
theorem wd_419 : (Jvm.Cond.methodLink "RoundPlansLaw" (64 : Nat) ({ cls := "RoundPlans", name := "vehicleOf", desc := "(I)I" } : Jvm.MethodName)) ∈ zT := zT_of 419 (by decide +kernel) (by decide +kernel)
theorem wd_420 : (Jvm.Cond.instanceMethod ({ cls := "RoundPlans", name := "vehicleOf", desc := "(I)I" } : Jvm.MethodName)) ∈ zT := zT_of 420 (by decide +kernel) (by decide +kernel)
theorem wd_421 : (Jvm.Cond.selects "RoundPlans" ({ cls := "RoundPlans", name := "vehicleOf", desc := "(I)I" } : Jvm.MethodName) ({ cls := "RoundPlans", name := "vehicleOf", desc := "(I)I" } : Jvm.MethodName)) ∈ zT := zT_of 421 (by decide +kernel) (by decide +kernel)
set_option maxRecDepth 100000 in
theorem wd_422 : zc g_rp_vehicleOf ∈ zT := zT_of 422 rfl rfl
theorem wd_423 : (Jvm.Cond.methodLink "RoundPlans" (153 : Nat) ({ cls := "RoundPlans$Found", name := "hasStop", desc := "(I)Z" } : Jvm.MethodName)) ∈ zT := zT_of 423 (by decide +kernel) (by decide +kernel)
theorem wd_424 : (Jvm.Cond.instanceMethod ({ cls := "RoundPlans$Found", name := "hasStop", desc := "(I)Z" } : Jvm.MethodName)) ∈ zT := zT_of 424 (by decide +kernel) (by decide +kernel)
theorem wd_425 : (Jvm.Cond.selects "RoundPlans$Found" ({ cls := "RoundPlans$Found", name := "hasStop", desc := "(I)Z" } : Jvm.MethodName) ({ cls := "RoundPlans$Found", name := "hasStop", desc := "(I)Z" } : Jvm.MethodName)) ∈ zT := zT_of 425 (by decide +kernel) (by decide +kernel)
set_option maxRecDepth 100000 in
theorem wd_426 : zc g_fd_hasStop ∈ zT := zT_of 426 rfl rfl
theorem wd_427 : (Jvm.Cond.methodLink "RoundPlansLaw" (68 : Nat) ({ cls := "RoundPlans", name := "at", desc := "(II)I" } : Jvm.MethodName)) ∈ zT := zT_of 427 (by decide +kernel) (by decide +kernel)
theorem wd_428 : (Jvm.Cond.instanceMethod ({ cls := "RoundPlans", name := "at", desc := "(II)I" } : Jvm.MethodName)) ∈ zT := zT_of 428 (by decide +kernel) (by decide +kernel)
theorem wd_429 : (Jvm.Cond.selects "RoundPlans" ({ cls := "RoundPlans", name := "at", desc := "(II)I" } : Jvm.MethodName) ({ cls := "RoundPlans", name := "at", desc := "(II)I" } : Jvm.MethodName)) ∈ zT := zT_of 429 (by decide +kernel) (by decide +kernel)
set_option maxRecDepth 100000 in
theorem wd_430 : zc g_rp_at ∈ zT := zT_of 430 rfl rfl
theorem wd_431 : (Jvm.Cond.methodLink "RoundPlans" (156 : Nat) ({ cls := "RoundPlans$Found", name := "hasVehicle", desc := "(I)Z" } : Jvm.MethodName)) ∈ zT := zT_of 431 (by decide +kernel) (by decide +kernel)
theorem wd_432 : (Jvm.Cond.instanceMethod ({ cls := "RoundPlans$Found", name := "hasVehicle", desc := "(I)Z" } : Jvm.MethodName)) ∈ zT := zT_of 432 (by decide +kernel) (by decide +kernel)
theorem wd_433 : (Jvm.Cond.selects "RoundPlans$Found" ({ cls := "RoundPlans$Found", name := "hasVehicle", desc := "(I)Z" } : Jvm.MethodName) ({ cls := "RoundPlans$Found", name := "hasVehicle", desc := "(I)Z" } : Jvm.MethodName)) ∈ zT := zT_of 433 (by decide +kernel) (by decide +kernel)
set_option maxRecDepth 100000 in
theorem wd_434 : zc g_fd_hasVehicle ∈ zT := zT_of 434 rfl rfl
theorem wd_435 : (Jvm.Cond.methodLink "RoundPlansLaw" (73 : Nat) ({ cls := "RoundPlans", name := "begun", desc := "(I)I" } : Jvm.MethodName)) ∈ zT := zT_of 435 (by decide +kernel) (by decide +kernel)
theorem wd_436 : (Jvm.Cond.instanceMethod ({ cls := "RoundPlans", name := "begun", desc := "(I)I" } : Jvm.MethodName)) ∈ zT := zT_of 436 (by decide +kernel) (by decide +kernel)
theorem wd_437 : (Jvm.Cond.selects "RoundPlans" ({ cls := "RoundPlans", name := "begun", desc := "(I)I" } : Jvm.MethodName) ({ cls := "RoundPlans", name := "begun", desc := "(I)I" } : Jvm.MethodName)) ∈ zT := zT_of 437 (by decide +kernel) (by decide +kernel)
set_option maxRecDepth 100000 in
theorem wd_438 : zc g_rp_begun ∈ zT := zT_of 438 rfl rfl
theorem wd_439 : (Jvm.Cond.methodLink "RoundPlansLaw" (77 : Nat) ({ cls := "RoundPlans", name := "back", desc := "(I)I" } : Jvm.MethodName)) ∈ zT := zT_of 439 (by decide +kernel) (by decide +kernel)
theorem wd_440 : (Jvm.Cond.instanceMethod ({ cls := "RoundPlans", name := "back", desc := "(I)I" } : Jvm.MethodName)) ∈ zT := zT_of 440 (by decide +kernel) (by decide +kernel)
theorem wd_441 : (Jvm.Cond.selects "RoundPlans" ({ cls := "RoundPlans", name := "back", desc := "(I)I" } : Jvm.MethodName) ({ cls := "RoundPlans", name := "back", desc := "(I)I" } : Jvm.MethodName)) ∈ zT := zT_of 441 (by decide +kernel) (by decide +kernel)
set_option maxRecDepth 100000 in
theorem wd_442 : zc g_rp_back ∈ zT := zT_of 442 rfl rfl
theorem wd_443 : (Jvm.Cond.methodLink "RoundPlansLaw" (81 : Nat) ({ cls := "RoundPlans", name := "saved", desc := "(I)J" } : Jvm.MethodName)) ∈ zT := zT_of 443 (by decide +kernel) (by decide +kernel)
theorem wd_444 : (Jvm.Cond.instanceMethod ({ cls := "RoundPlans", name := "saved", desc := "(I)J" } : Jvm.MethodName)) ∈ zT := zT_of 444 (by decide +kernel) (by decide +kernel)
theorem wd_445 : (Jvm.Cond.selects "RoundPlans" ({ cls := "RoundPlans", name := "saved", desc := "(I)J" } : Jvm.MethodName) ({ cls := "RoundPlans", name := "saved", desc := "(I)J" } : Jvm.MethodName)) ∈ zT := zT_of 445 (by decide +kernel) (by decide +kernel)
set_option maxRecDepth 100000 in
theorem wd_446 : zc g_rp_saved ∈ zT := zT_of 446 rfl rfl
theorem wd_447 : (Jvm.Cond.constantLong "RoundPlans" (169 : Nat) (-1 : Int64)) ∈ zT := zT_of 447 (by decide +kernel) (by decide +kernel)
theorem wd_448 : (Jvm.Cond.classLink "RoundPlansLaw" (10 : Nat) "RoundPlansModel") ∈ zT := zT_of 448 (by decide +kernel) (by decide +kernel)
theorem wd_449 : (Jvm.Cond.instantiable "RoundPlansModel" (28 : Nat)) ∈ zT := zT_of 449 (by decide +kernel) (by decide +kernel)
theorem wd_450 : (Jvm.Cond.methodLink "RoundPlansLaw" (12 : Nat) ({ cls := "RoundPlansModel", name := "<init>", desc := "()V" } : Jvm.MethodName)) ∈ zT := zT_of 450 (by decide +kernel) (by decide +kernel)
theorem wd_451 : (Jvm.Cond.instanceMethod ({ cls := "RoundPlansModel", name := "<init>", desc := "()V" } : Jvm.MethodName)) ∈ zT := zT_of 451 (by decide +kernel) (by decide +kernel)
set_option maxRecDepth 100000 in
theorem wd_452 : zc g_md_init ∈ zT := zT_of 452 rfl rfl
theorem wd_453 : (Jvm.Cond.methodLink "RoundPlansModel" (1 : Nat) ({ cls := "java/lang/Object", name := "<init>", desc := "()V" } : Jvm.MethodName)) ∈ zT := zT_of 453 (by decide +kernel) (by decide +kernel)
theorem wd_454 : (Jvm.Cond.fieldLink "RoundPlansModel" (78 : Nat) "RoundPlansModel" "stops" "I") ∈ zT := zT_of 454 (by decide +kernel) (by decide +kernel)
theorem wd_455 : (Jvm.Cond.fieldLink "RoundPlansModel" (7 : Nat) "RoundPlansModel" "loads" "[I") ∈ zT := zT_of 455 (by decide +kernel) (by decide +kernel)
theorem wd_456 : (Jvm.Cond.fieldLink "RoundPlansModel" (13 : Nat) "RoundPlansModel" "firsts" "[I") ∈ zT := zT_of 456 (by decide +kernel) (by decide +kernel)
theorem wd_457 : (Jvm.Cond.fieldLink "RoundPlansModel" (16 : Nat) "RoundPlansModel" "lasts" "[I") ∈ zT := zT_of 457 (by decide +kernel) (by decide +kernel)
theorem wd_458 : (Jvm.Cond.fieldLink "RoundPlansModel" (19 : Nat) "RoundPlansModel" "services" "[I") ∈ zT := zT_of 458 (by decide +kernel) (by decide +kernel)
theorem wd_459 : (Jvm.Cond.fieldLink "RoundPlansModel" (22 : Nat) "RoundPlansModel" "penalties" "[J") ∈ zT := zT_of 459 (by decide +kernel) (by decide +kernel)
theorem wd_460 : (Jvm.Cond.fieldLink "RoundPlansModel" (26 : Nat) "RoundPlansModel" "fixedTo" "[I") ∈ zT := zT_of 460 (by decide +kernel) (by decide +kernel)
theorem wd_461 : (Jvm.Cond.fieldLink "RoundPlansModel" (29 : Nat) "RoundPlansModel" "apart" "[Z") ∈ zT := zT_of 461 (by decide +kernel) (by decide +kernel)
theorem wd_462 : (Jvm.Cond.fieldLink "RoundPlansModel" (33 : Nat) "RoundPlansModel" "before" "[Z") ∈ zT := zT_of 462 (by decide +kernel) (by decide +kernel)
theorem wd_463 : (Jvm.Cond.fieldLink "RoundPlansModel" (99 : Nat) "RoundPlansModel" "vehicles" "I") ∈ zT := zT_of 463 (by decide +kernel) (by decide +kernel)
theorem wd_464 : (Jvm.Cond.fieldLink "RoundPlansModel" (36 : Nat) "RoundPlansModel" "mosts" "[I") ∈ zT := zT_of 464 (by decide +kernel) (by decide +kernel)
theorem wd_465 : (Jvm.Cond.fieldLink "RoundPlansModel" (39 : Nat) "RoundPlansModel" "leaves" "[I") ∈ zT := zT_of 465 (by decide +kernel) (by decide +kernel)
theorem wd_466 : (Jvm.Cond.fieldLink "RoundPlansModel" (42 : Nat) "RoundPlansModel" "backs" "[I") ∈ zT := zT_of 466 (by decide +kernel) (by decide +kernel)
theorem wd_467 : (Jvm.Cond.fieldLink "RoundPlansModel" (45 : Nat) "RoundPlansModel" "rates" "[I") ∈ zT := zT_of 467 (by decide +kernel) (by decide +kernel)
theorem wd_468 : (Jvm.Cond.fieldLink "RoundPlansModel" (48 : Nat) "RoundPlansModel" "ways" "[I") ∈ zT := zT_of 468 (by decide +kernel) (by decide +kernel)
theorem wd_469 : (Jvm.Cond.fieldLink "RoundPlansModel" (51 : Nat) "RoundPlansModel" "early" "[I") ∈ zT := zT_of 469 (by decide +kernel) (by decide +kernel)
theorem wd_470 : (Jvm.Cond.fieldLink "RoundPlansModel" (54 : Nat) "RoundPlansModel" "rows" "[I") ∈ zT := zT_of 470 (by decide +kernel) (by decide +kernel)
theorem wd_471 : (Jvm.Cond.fieldLink "RoundPlansModel" (57 : Nat) "RoundPlansModel" "trial" "[I") ∈ zT := zT_of 471 (by decide +kernel) (by decide +kernel)
theorem wd_472 : (Jvm.Cond.fieldLink "RoundPlansModel" (159 : Nat) "RoundPlansModel" "isFound" "Z") ∈ zT := zT_of 472 (by decide +kernel) (by decide +kernel)
theorem wd_473 : (Jvm.Cond.fieldLink "RoundPlansModel" (163 : Nat) "RoundPlansModel" "foundStops" "I") ∈ zT := zT_of 473 (by decide +kernel) (by decide +kernel)
theorem wd_474 : (Jvm.Cond.fieldLink "RoundPlansModel" (166 : Nat) "RoundPlansModel" "foundVehicles" "I") ∈ zT := zT_of 474 (by decide +kernel) (by decide +kernel)
theorem wd_475 : (Jvm.Cond.fieldLink "RoundPlansModel" (155 : Nat) "RoundPlansModel" "foundCost" "J") ∈ zT := zT_of 475 (by decide +kernel) (by decide +kernel)
theorem wd_476 : (Jvm.Cond.fieldLink "RoundPlansModel" (60 : Nat) "RoundPlansModel" "vehicleOf" "[I") ∈ zT := zT_of 476 (by decide +kernel) (by decide +kernel)
theorem wd_477 : (Jvm.Cond.fieldLink "RoundPlansModel" (63 : Nat) "RoundPlansModel" "begins" "[I") ∈ zT := zT_of 477 (by decide +kernel) (by decide +kernel)
theorem wd_478 : (Jvm.Cond.fieldLink "RoundPlansModel" (66 : Nat) "RoundPlansModel" "rounds" "[I") ∈ zT := zT_of 478 (by decide +kernel) (by decide +kernel)
theorem wd_479 : (Jvm.Cond.fieldLink "RoundPlansModel" (69 : Nat) "RoundPlansModel" "counts" "[I") ∈ zT := zT_of 479 (by decide +kernel) (by decide +kernel)
theorem wd_480 : (Jvm.Cond.fieldLink "RoundPlansModel" (72 : Nat) "RoundPlansModel" "backAt" "[I") ∈ zT := zT_of 480 (by decide +kernel) (by decide +kernel)
theorem wd_481 : (Jvm.Cond.fieldLink "RoundPlansModel" (75 : Nat) "RoundPlansModel" "saves" "[J") ∈ zT := zT_of 481 (by decide +kernel) (by decide +kernel)
theorem wd_539 : (Jvm.Cond.arrayClass Jvm.ClassFile.FieldType.boolean) ∈ zT := zT_of 539 (by decide +kernel) (by decide +kernel)
theorem wd_540 : (Jvm.Cond.methodLink "RoundPlansLaw" (17 : Nat) ({ cls := "RoundPlansModel", name := "stop", desc := "(I)I" } : Jvm.MethodName)) ∈ zT := zT_of 540 (by decide +kernel) (by decide +kernel)
theorem wd_541 : (Jvm.Cond.instanceMethod ({ cls := "RoundPlansModel", name := "stop", desc := "(I)I" } : Jvm.MethodName)) ∈ zT := zT_of 541 (by decide +kernel) (by decide +kernel)
theorem wd_542 : (Jvm.Cond.selects "RoundPlansModel" ({ cls := "RoundPlansModel", name := "stop", desc := "(I)I" } : Jvm.MethodName) ({ cls := "RoundPlansModel", name := "stop", desc := "(I)I" } : Jvm.MethodName)) ∈ zT := zT_of 542 (by decide +kernel) (by decide +kernel)
set_option maxRecDepth 100000 in
theorem wd_543 : zc g_md_stop ∈ zT := zT_of 543 rfl rfl
theorem wd_544 : (Jvm.Cond.constantLong "RoundPlansModel" (86 : Nat) (100000 : Int64)) ∈ zT := zT_of 544 (by decide +kernel) (by decide +kernel)
theorem wd_545 : (Jvm.Cond.methodLink "RoundPlansModel" (88 : Nat) ({ cls := "RoundPlansModel", name := "isIn", desc := "(JJJ)Z" } : Jvm.MethodName)) ∈ zT := zT_of 545 (by decide +kernel) (by decide +kernel)
theorem wd_546 : (Jvm.Cond.static ({ cls := "RoundPlansModel", name := "isIn", desc := "(JJJ)Z" } : Jvm.MethodName)) ∈ zT := zT_of 546 (by decide +kernel) (by decide +kernel)
set_option maxRecDepth 100000 in
theorem wd_547 : zc g_md_isIn ∈ zT := zT_of 547 rfl rfl
theorem wd_548 : (Jvm.Cond.constant "RoundPlansModel" (92 : Nat) (86399 : Int32)) ∈ zT := zT_of 548 (by decide +kernel) (by decide +kernel)
theorem wd_549 : (Jvm.Cond.methodLink "RoundPlansLaw" (22 : Nat) ({ cls := "RoundPlansModel", name := "hours", desc := "(IIII)Z" } : Jvm.MethodName)) ∈ zT := zT_of 549 (by decide +kernel) (by decide +kernel)
theorem wd_550 : (Jvm.Cond.instanceMethod ({ cls := "RoundPlansModel", name := "hours", desc := "(IIII)Z" } : Jvm.MethodName)) ∈ zT := zT_of 550 (by decide +kernel) (by decide +kernel)
theorem wd_551 : (Jvm.Cond.selects "RoundPlansModel" ({ cls := "RoundPlansModel", name := "hours", desc := "(IIII)Z" } : Jvm.MethodName) ({ cls := "RoundPlansModel", name := "hours", desc := "(IIII)Z" } : Jvm.MethodName)) ∈ zT := zT_of 551 (by decide +kernel) (by decide +kernel)
set_option maxRecDepth 100000 in
theorem wd_552 : zc g_md_hours ∈ zT := zT_of 552 rfl rfl
theorem wd_553 : (Jvm.Cond.methodLink "RoundPlansModel" (82 : Nat) ({ cls := "RoundPlansModel", name := "isStop", desc := "(I)Z" } : Jvm.MethodName)) ∈ zT := zT_of 553 (by decide +kernel) (by decide +kernel)
theorem wd_555 : (Jvm.Cond.instanceMethod ({ cls := "RoundPlansModel", name := "isStop", desc := "(I)Z" } : Jvm.MethodName)) ∈ zT := zT_of 555 (by decide +kernel) (by decide +kernel)
set_option maxRecDepth 100000 in
theorem wd_556 : zc g_md_isStop ∈ zT := zT_of 556 rfl rfl
theorem wd_557 : (Jvm.Cond.constantLong "RoundPlansModel" (93 : Nat) (86399 : Int64)) ∈ zT := zT_of 557 (by decide +kernel) (by decide +kernel)
theorem wd_558 : (Jvm.Cond.constantLong "RoundPlansModel" (95 : Nat) (10000 : Int64)) ∈ zT := zT_of 558 (by decide +kernel) (by decide +kernel)
theorem wd_559 : (Jvm.Cond.methodLink "RoundPlansLaw" (29 : Nat) ({ cls := "RoundPlansModel", name := "penalty", desc := "(IJ)Z" } : Jvm.MethodName)) ∈ zT := zT_of 559 (by decide +kernel) (by decide +kernel)
theorem wd_560 : (Jvm.Cond.instanceMethod ({ cls := "RoundPlansModel", name := "penalty", desc := "(IJ)Z" } : Jvm.MethodName)) ∈ zT := zT_of 560 (by decide +kernel) (by decide +kernel)
theorem wd_561 : (Jvm.Cond.selects "RoundPlansModel" ({ cls := "RoundPlansModel", name := "penalty", desc := "(IJ)Z" } : Jvm.MethodName) ({ cls := "RoundPlansModel", name := "penalty", desc := "(IJ)Z" } : Jvm.MethodName)) ∈ zT := zT_of 561 (by decide +kernel) (by decide +kernel)
set_option maxRecDepth 100000 in
theorem wd_562 : zc g_md_penalty ∈ zT := zT_of 562 rfl rfl
theorem wd_563 : (Jvm.Cond.constantLong "RoundPlansModel" (97 : Nat) (1000000000 : Int64)) ∈ zT := zT_of 563 (by decide +kernel) (by decide +kernel)
theorem wd_564 : (Jvm.Cond.methodLink "RoundPlansLaw" (34 : Nat) ({ cls := "RoundPlansModel", name := "vehicle", desc := "(IIII)I" } : Jvm.MethodName)) ∈ zT := zT_of 564 (by decide +kernel) (by decide +kernel)
theorem wd_565 : (Jvm.Cond.instanceMethod ({ cls := "RoundPlansModel", name := "vehicle", desc := "(IIII)I" } : Jvm.MethodName)) ∈ zT := zT_of 565 (by decide +kernel) (by decide +kernel)
theorem wd_566 : (Jvm.Cond.selects "RoundPlansModel" ({ cls := "RoundPlansModel", name := "vehicle", desc := "(IIII)I" } : Jvm.MethodName) ({ cls := "RoundPlansModel", name := "vehicle", desc := "(IIII)I" } : Jvm.MethodName)) ∈ zT := zT_of 566 (by decide +kernel) (by decide +kernel)
set_option maxRecDepth 100000 in
theorem wd_567 : zc g_md_vehicle ∈ zT := zT_of 567 rfl rfl
theorem wd_568 : (Jvm.Cond.constantLong "RoundPlansModel" (102 : Nat) (1000000 : Int64)) ∈ zT := zT_of 568 (by decide +kernel) (by decide +kernel)
theorem wd_569 : (Jvm.Cond.constantLong "RoundPlansModel" (104 : Nat) (1000 : Int64)) ∈ zT := zT_of 569 (by decide +kernel) (by decide +kernel)
theorem wd_570 : (Jvm.Cond.methodLink "RoundPlansLaw" (39 : Nat) ({ cls := "RoundPlansModel", name := "way", desc := "(III)Z" } : Jvm.MethodName)) ∈ zT := zT_of 570 (by decide +kernel) (by decide +kernel)
theorem wd_571 : (Jvm.Cond.instanceMethod ({ cls := "RoundPlansModel", name := "way", desc := "(III)Z" } : Jvm.MethodName)) ∈ zT := zT_of 571 (by decide +kernel) (by decide +kernel)
theorem wd_572 : (Jvm.Cond.selects "RoundPlansModel" ({ cls := "RoundPlansModel", name := "way", desc := "(III)Z" } : Jvm.MethodName) ({ cls := "RoundPlansModel", name := "way", desc := "(III)Z" } : Jvm.MethodName)) ∈ zT := zT_of 572 (by decide +kernel) (by decide +kernel)
set_option maxRecDepth 100000 in
theorem wd_573 : zc g_md_way ∈ zT := zT_of 573 rfl rfl
theorem wd_574 : (Jvm.Cond.constantLong "RoundPlansModel" (106 : Nat) (7 : Int64)) ∈ zT := zT_of 574 (by decide +kernel) (by decide +kernel)
theorem wd_575 : (Jvm.Cond.constantLong "RoundPlansModel" (108 : Nat) (50000 : Int64)) ∈ zT := zT_of 575 (by decide +kernel) (by decide +kernel)
theorem wd_576 : (Jvm.Cond.methodLink "RoundPlansLaw" (44 : Nat) ({ cls := "RoundPlansModel", name := "fixed", desc := "(II)Z" } : Jvm.MethodName)) ∈ zT := zT_of 576 (by decide +kernel) (by decide +kernel)
theorem wd_577 : (Jvm.Cond.instanceMethod ({ cls := "RoundPlansModel", name := "fixed", desc := "(II)Z" } : Jvm.MethodName)) ∈ zT := zT_of 577 (by decide +kernel) (by decide +kernel)
theorem wd_578 : (Jvm.Cond.selects "RoundPlansModel" ({ cls := "RoundPlansModel", name := "fixed", desc := "(II)Z" } : Jvm.MethodName) ({ cls := "RoundPlansModel", name := "fixed", desc := "(II)Z" } : Jvm.MethodName)) ∈ zT := zT_of 578 (by decide +kernel) (by decide +kernel)
set_option maxRecDepth 100000 in
theorem wd_579 : zc g_md_fixed ∈ zT := zT_of 579 rfl rfl
theorem wd_580 : (Jvm.Cond.methodLink "RoundPlansLaw" (49 : Nat) ({ cls := "RoundPlansModel", name := "apart", desc := "(IIZ)Z" } : Jvm.MethodName)) ∈ zT := zT_of 580 (by decide +kernel) (by decide +kernel)
theorem wd_581 : (Jvm.Cond.instanceMethod ({ cls := "RoundPlansModel", name := "apart", desc := "(IIZ)Z" } : Jvm.MethodName)) ∈ zT := zT_of 581 (by decide +kernel) (by decide +kernel)
theorem wd_582 : (Jvm.Cond.selects "RoundPlansModel" ({ cls := "RoundPlansModel", name := "apart", desc := "(IIZ)Z" } : Jvm.MethodName) ({ cls := "RoundPlansModel", name := "apart", desc := "(IIZ)Z" } : Jvm.MethodName)) ∈ zT := zT_of 582 (by decide +kernel) (by decide +kernel)
set_option maxRecDepth 100000 in
theorem wd_583 : zc g_md_apart ∈ zT := zT_of 583 rfl rfl
theorem wd_584 : (Jvm.Cond.methodLink "RoundPlansModel" (110 : Nat) ({ cls := "RoundPlansModel", name := "arePair", desc := "(II)Z" } : Jvm.MethodName)) ∈ zT := zT_of 584 (by decide +kernel) (by decide +kernel)
theorem wd_586 : (Jvm.Cond.instanceMethod ({ cls := "RoundPlansModel", name := "arePair", desc := "(II)Z" } : Jvm.MethodName)) ∈ zT := zT_of 586 (by decide +kernel) (by decide +kernel)
set_option maxRecDepth 100000 in
theorem wd_587 : zc g_md_arePair ∈ zT := zT_of 587 rfl rfl
theorem wd_588 : (Jvm.Cond.methodLink "RoundPlansLaw" (53 : Nat) ({ cls := "RoundPlansModel", name := "before", desc := "(II)Z" } : Jvm.MethodName)) ∈ zT := zT_of 588 (by decide +kernel) (by decide +kernel)
theorem wd_589 : (Jvm.Cond.instanceMethod ({ cls := "RoundPlansModel", name := "before", desc := "(II)Z" } : Jvm.MethodName)) ∈ zT := zT_of 589 (by decide +kernel) (by decide +kernel)
theorem wd_590 : (Jvm.Cond.selects "RoundPlansModel" ({ cls := "RoundPlansModel", name := "before", desc := "(II)Z" } : Jvm.MethodName) ({ cls := "RoundPlansModel", name := "before", desc := "(II)Z" } : Jvm.MethodName)) ∈ zT := zT_of 590 (by decide +kernel) (by decide +kernel)
set_option maxRecDepth 100000 in
theorem wd_591 : zc g_md_before ∈ zT := zT_of 591 rfl rfl
theorem wd_592 : (Jvm.Cond.methodLink "RoundPlansModel" (114 : Nat) ({ cls := "RoundPlansModel", name := "leads", desc := "(II)Z" } : Jvm.MethodName)) ∈ zT := zT_of 592 (by decide +kernel) (by decide +kernel)
theorem wd_594 : (Jvm.Cond.instanceMethod ({ cls := "RoundPlansModel", name := "leads", desc := "(II)Z" } : Jvm.MethodName)) ∈ zT := zT_of 594 (by decide +kernel) (by decide +kernel)
set_option maxRecDepth 100000 in
theorem wd_595 : zc g_md_leads ∈ zT := zT_of 595 rfl rfl
theorem wd_596 : (Jvm.Cond.methodLink "RoundPlansLaw" (58 : Nat) ({ cls := "RoundPlansModel", name := "run", desc := "()I" } : Jvm.MethodName)) ∈ zT := zT_of 596 (by decide +kernel) (by decide +kernel)
theorem wd_597 : (Jvm.Cond.instanceMethod ({ cls := "RoundPlansModel", name := "run", desc := "()I" } : Jvm.MethodName)) ∈ zT := zT_of 597 (by decide +kernel) (by decide +kernel)
theorem wd_598 : (Jvm.Cond.selects "RoundPlansModel" ({ cls := "RoundPlansModel", name := "run", desc := "()I" } : Jvm.MethodName) ({ cls := "RoundPlansModel", name := "run", desc := "()I" } : Jvm.MethodName)) ∈ zT := zT_of 598 (by decide +kernel) (by decide +kernel)
set_option maxRecDepth 100000 in
theorem wd_599 : zc g_md_run ∈ zT := zT_of 599 rfl rfl
theorem wd_600 : (Jvm.Cond.methodLink "RoundPlansModel" (148 : Nat) ({ cls := "RoundPlansModel", name := "driveAll", desc := "(I)V" } : Jvm.MethodName)) ∈ zT := zT_of 600 (by decide +kernel) (by decide +kernel)
theorem wd_602 : (Jvm.Cond.instanceMethod ({ cls := "RoundPlansModel", name := "driveAll", desc := "(I)V" } : Jvm.MethodName)) ∈ zT := zT_of 602 (by decide +kernel) (by decide +kernel)
set_option maxRecDepth 100000 in
theorem wd_603 : zc g_md_driveAll ∈ zT := zT_of 603 rfl rfl
theorem wd_604 : (Jvm.Cond.methodLink "RoundPlansModel" (117 : Nat) ({ cls := "RoundPlansModel", name := "mayFollow", desc := "(III)Z" } : Jvm.MethodName)) ∈ zT := zT_of 604 (by decide +kernel) (by decide +kernel)
theorem wd_606 : (Jvm.Cond.instanceMethod ({ cls := "RoundPlansModel", name := "mayFollow", desc := "(III)Z" } : Jvm.MethodName)) ∈ zT := zT_of 606 (by decide +kernel) (by decide +kernel)
set_option maxRecDepth 100000 in
theorem wd_607 : zc g_md_mayFollow ∈ zT := zT_of 607 rfl rfl
theorem wd_608 : (Jvm.Cond.methodLink "RoundPlansModel" (121 : Nat) ({ cls := "RoundPlansModel", name := "keep", desc := "(II)V" } : Jvm.MethodName)) ∈ zT := zT_of 608 (by decide +kernel) (by decide +kernel)
theorem wd_610 : (Jvm.Cond.instanceMethod ({ cls := "RoundPlansModel", name := "keep", desc := "(II)V" } : Jvm.MethodName)) ∈ zT := zT_of 610 (by decide +kernel) (by decide +kernel)
set_option maxRecDepth 100000 in
theorem wd_611 : zc g_md_keep ∈ zT := zT_of 611 rfl rfl
theorem wd_612 : (Jvm.Cond.methodLink "RoundPlansModel" (125 : Nat) ({ cls := "RoundPlansModel", name := "drive", desc := "(II)I" } : Jvm.MethodName)) ∈ zT := zT_of 612 (by decide +kernel) (by decide +kernel)
theorem wd_614 : (Jvm.Cond.instanceMethod ({ cls := "RoundPlansModel", name := "drive", desc := "(II)I" } : Jvm.MethodName)) ∈ zT := zT_of 614 (by decide +kernel) (by decide +kernel)
set_option maxRecDepth 100000 in
theorem wd_615 : zc g_md_drive ∈ zT := zT_of 615 rfl rfl
theorem wd_616 : (Jvm.Cond.methodLink "RoundPlansModel" (129 : Nat) ({ cls := "RoundPlansModel", name := "setOf", desc := "(I)I" } : Jvm.MethodName)) ∈ zT := zT_of 616 (by decide +kernel) (by decide +kernel)
theorem wd_618 : (Jvm.Cond.instanceMethod ({ cls := "RoundPlansModel", name := "setOf", desc := "(I)I" } : Jvm.MethodName)) ∈ zT := zT_of 618 (by decide +kernel) (by decide +kernel)
set_option maxRecDepth 100000 in
theorem wd_619 : zc g_md_setOf ∈ zT := zT_of 619 rfl rfl
theorem wd_620 : (Jvm.Cond.methodLink "RoundPlansModel" (133 : Nat) ({ cls := "RoundPlansModel", name := "rowOf", desc := "(I)I" } : Jvm.MethodName)) ∈ zT := zT_of 620 (by decide +kernel) (by decide +kernel)
theorem wd_622 : (Jvm.Cond.instanceMethod ({ cls := "RoundPlansModel", name := "rowOf", desc := "(I)I" } : Jvm.MethodName)) ∈ zT := zT_of 622 (by decide +kernel) (by decide +kernel)
set_option maxRecDepth 100000 in
theorem wd_623 : zc g_md_rowOf ∈ zT := zT_of 623 rfl rfl
theorem wd_624 : (Jvm.Cond.methodLink "RoundPlansModel" (152 : Nat) ({ cls := "RoundPlansModel", name := "bestPlan", desc := "(I)I" } : Jvm.MethodName)) ∈ zT := zT_of 624 (by decide +kernel) (by decide +kernel)
theorem wd_626 : (Jvm.Cond.instanceMethod ({ cls := "RoundPlansModel", name := "bestPlan", desc := "(I)I" } : Jvm.MethodName)) ∈ zT := zT_of 626 (by decide +kernel) (by decide +kernel)
set_option maxRecDepth 100000 in
theorem wd_627 : zc g_md_bestPlan ∈ zT := zT_of 627 rfl rfl
theorem wd_628 : (Jvm.Cond.methodLink "RoundPlansModel" (144 : Nat) ({ cls := "RoundPlansModel", name := "costOf", desc := "(II)J" } : Jvm.MethodName)) ∈ zT := zT_of 628 (by decide +kernel) (by decide +kernel)
theorem wd_630 : (Jvm.Cond.instanceMethod ({ cls := "RoundPlansModel", name := "costOf", desc := "(II)J" } : Jvm.MethodName)) ∈ zT := zT_of 630 (by decide +kernel) (by decide +kernel)
set_option maxRecDepth 100000 in
theorem wd_631 : zc g_md_costOf ∈ zT := zT_of 631 rfl rfl
theorem wd_632 : (Jvm.Cond.methodLink "RoundPlansModel" (136 : Nat) ({ cls := "RoundPlansModel", name := "digit", desc := "(II)I" } : Jvm.MethodName)) ∈ zT := zT_of 632 (by decide +kernel) (by decide +kernel)
theorem wd_633 : (Jvm.Cond.static ({ cls := "RoundPlansModel", name := "digit", desc := "(II)I" } : Jvm.MethodName)) ∈ zT := zT_of 633 (by decide +kernel) (by decide +kernel)
set_option maxRecDepth 100000 in
theorem wd_634 : zc g_md_digit ∈ zT := zT_of 634 rfl rfl
theorem wd_635 : (Jvm.Cond.constantLong "RoundPlansModel" (139 : Nat) (-1 : Int64)) ∈ zT := zT_of 635 (by decide +kernel) (by decide +kernel)
theorem wd_636 : (Jvm.Cond.methodLink "RoundPlansModel" (141 : Nat) ({ cls := "RoundPlansModel", name := "setIn", desc := "(II)I" } : Jvm.MethodName)) ∈ zT := zT_of 636 (by decide +kernel) (by decide +kernel)
theorem wd_638 : (Jvm.Cond.instanceMethod ({ cls := "RoundPlansModel", name := "setIn", desc := "(II)I" } : Jvm.MethodName)) ∈ zT := zT_of 638 (by decide +kernel) (by decide +kernel)
set_option maxRecDepth 100000 in
theorem wd_639 : zc g_md_setIn ∈ zT := zT_of 639 rfl rfl
theorem wd_640 : (Jvm.Cond.methodLink "RoundPlansModel" (169 : Nat) ({ cls := "RoundPlansModel", name := "tellRound", desc := "(II)V" } : Jvm.MethodName)) ∈ zT := zT_of 640 (by decide +kernel) (by decide +kernel)
theorem wd_642 : (Jvm.Cond.instanceMethod ({ cls := "RoundPlansModel", name := "tellRound", desc := "(II)V" } : Jvm.MethodName)) ∈ zT := zT_of 642 (by decide +kernel) (by decide +kernel)
set_option maxRecDepth 100000 in
theorem wd_643 : zc g_md_tellRound ∈ zT := zT_of 643 rfl rfl
theorem wd_644 : (Jvm.Cond.methodLink "RoundPlansLaw" (63 : Nat) ({ cls := "RoundPlansModel", name := "cost", desc := "()J" } : Jvm.MethodName)) ∈ zT := zT_of 644 (by decide +kernel) (by decide +kernel)
theorem wd_645 : (Jvm.Cond.instanceMethod ({ cls := "RoundPlansModel", name := "cost", desc := "()J" } : Jvm.MethodName)) ∈ zT := zT_of 645 (by decide +kernel) (by decide +kernel)
theorem wd_646 : (Jvm.Cond.selects "RoundPlansModel" ({ cls := "RoundPlansModel", name := "cost", desc := "()J" } : Jvm.MethodName) ({ cls := "RoundPlansModel", name := "cost", desc := "()J" } : Jvm.MethodName)) ∈ zT := zT_of 646 (by decide +kernel) (by decide +kernel)
set_option maxRecDepth 100000 in
theorem wd_647 : zc g_md_cost ∈ zT := zT_of 647 rfl rfl
theorem wd_648 : (Jvm.Cond.methodLink "RoundPlansLaw" (67 : Nat) ({ cls := "RoundPlansModel", name := "vehicleOf", desc := "(I)I" } : Jvm.MethodName)) ∈ zT := zT_of 648 (by decide +kernel) (by decide +kernel)
theorem wd_649 : (Jvm.Cond.instanceMethod ({ cls := "RoundPlansModel", name := "vehicleOf", desc := "(I)I" } : Jvm.MethodName)) ∈ zT := zT_of 649 (by decide +kernel) (by decide +kernel)
theorem wd_650 : (Jvm.Cond.selects "RoundPlansModel" ({ cls := "RoundPlansModel", name := "vehicleOf", desc := "(I)I" } : Jvm.MethodName) ({ cls := "RoundPlansModel", name := "vehicleOf", desc := "(I)I" } : Jvm.MethodName)) ∈ zT := zT_of 650 (by decide +kernel) (by decide +kernel)
set_option maxRecDepth 100000 in
theorem wd_651 : zc g_md_vehicleOf ∈ zT := zT_of 651 rfl rfl
theorem wd_652 : (Jvm.Cond.methodLink "RoundPlansLaw" (72 : Nat) ({ cls := "RoundPlansModel", name := "at", desc := "(II)I" } : Jvm.MethodName)) ∈ zT := zT_of 652 (by decide +kernel) (by decide +kernel)
theorem wd_653 : (Jvm.Cond.instanceMethod ({ cls := "RoundPlansModel", name := "at", desc := "(II)I" } : Jvm.MethodName)) ∈ zT := zT_of 653 (by decide +kernel) (by decide +kernel)
theorem wd_654 : (Jvm.Cond.selects "RoundPlansModel" ({ cls := "RoundPlansModel", name := "at", desc := "(II)I" } : Jvm.MethodName) ({ cls := "RoundPlansModel", name := "at", desc := "(II)I" } : Jvm.MethodName)) ∈ zT := zT_of 654 (by decide +kernel) (by decide +kernel)
set_option maxRecDepth 100000 in
theorem wd_655 : zc g_md_at ∈ zT := zT_of 655 rfl rfl
theorem wd_656 : (Jvm.Cond.methodLink "RoundPlansLaw" (76 : Nat) ({ cls := "RoundPlansModel", name := "begun", desc := "(I)I" } : Jvm.MethodName)) ∈ zT := zT_of 656 (by decide +kernel) (by decide +kernel)
theorem wd_657 : (Jvm.Cond.instanceMethod ({ cls := "RoundPlansModel", name := "begun", desc := "(I)I" } : Jvm.MethodName)) ∈ zT := zT_of 657 (by decide +kernel) (by decide +kernel)
theorem wd_658 : (Jvm.Cond.selects "RoundPlansModel" ({ cls := "RoundPlansModel", name := "begun", desc := "(I)I" } : Jvm.MethodName) ({ cls := "RoundPlansModel", name := "begun", desc := "(I)I" } : Jvm.MethodName)) ∈ zT := zT_of 658 (by decide +kernel) (by decide +kernel)
set_option maxRecDepth 100000 in
theorem wd_659 : zc g_md_begun ∈ zT := zT_of 659 rfl rfl
theorem wd_660 : (Jvm.Cond.methodLink "RoundPlansLaw" (80 : Nat) ({ cls := "RoundPlansModel", name := "back", desc := "(I)I" } : Jvm.MethodName)) ∈ zT := zT_of 660 (by decide +kernel) (by decide +kernel)
theorem wd_661 : (Jvm.Cond.instanceMethod ({ cls := "RoundPlansModel", name := "back", desc := "(I)I" } : Jvm.MethodName)) ∈ zT := zT_of 661 (by decide +kernel) (by decide +kernel)
theorem wd_662 : (Jvm.Cond.selects "RoundPlansModel" ({ cls := "RoundPlansModel", name := "back", desc := "(I)I" } : Jvm.MethodName) ({ cls := "RoundPlansModel", name := "back", desc := "(I)I" } : Jvm.MethodName)) ∈ zT := zT_of 662 (by decide +kernel) (by decide +kernel)
set_option maxRecDepth 100000 in
theorem wd_663 : zc g_md_back ∈ zT := zT_of 663 rfl rfl
theorem wd_664 : (Jvm.Cond.methodLink "RoundPlansLaw" (85 : Nat) ({ cls := "RoundPlansModel", name := "saved", desc := "(I)J" } : Jvm.MethodName)) ∈ zT := zT_of 664 (by decide +kernel) (by decide +kernel)
theorem wd_665 : (Jvm.Cond.instanceMethod ({ cls := "RoundPlansModel", name := "saved", desc := "(I)J" } : Jvm.MethodName)) ∈ zT := zT_of 665 (by decide +kernel) (by decide +kernel)
theorem wd_666 : (Jvm.Cond.selects "RoundPlansModel" ({ cls := "RoundPlansModel", name := "saved", desc := "(I)J" } : Jvm.MethodName) ({ cls := "RoundPlansModel", name := "saved", desc := "(I)J" } : Jvm.MethodName)) ∈ zT := zT_of 666 (by decide +kernel) (by decide +kernel)
set_option maxRecDepth 100000 in
theorem wd_667 : zc g_md_saved ∈ zT := zT_of 667 rfl rfl
theorem wd_668 : (Jvm.Cond.constantLong "RoundPlansLaw" (23 : Nat) (4294967295 : Int64)) ∈ zT := zT_of 668 (by decide +kernel) (by decide +kernel)
theorem ws_0 : Cond.selects "RoundPlans$Rounds" ⟨"RoundPlans$Rounds", "mayHave", "(II)Z"⟩ ⟨"RoundPlans$Rounds", "mayHave", "(II)Z"⟩ ∈ zT := zT_sel 0 (by decide +kernel) (by decide +kernel)
theorem ws_1 : Cond.selects "RoundPlans$Rounds" ⟨"RoundPlans$Rounds", "findBack", "(II)I"⟩ ⟨"RoundPlans$Rounds", "findBack", "(II)I"⟩ ∈ zT := zT_sel 1 (by decide +kernel) (by decide +kernel)
theorem ws_2 : Cond.selects "RoundPlans$Rounds" ⟨"RoundPlans$Rounds", "findReady", "(III)I"⟩ ⟨"RoundPlans$Rounds", "findReady", "(III)I"⟩ ∈ zT := zT_sel 2 (by decide +kernel) (by decide +kernel)
theorem ws_3 : Cond.selects "RoundPlans$Plans" ⟨"RoundPlans$Plans", "codeOfOnes", "(I)J"⟩ ⟨"RoundPlans$Plans", "codeOfOnes", "(I)J"⟩ ∈ zT := zT_sel 3 (by decide +kernel) (by decide +kernel)
theorem ws_4 : Cond.selects "RoundPlans$Plans" ⟨"RoundPlans$Plans", "penaltiesOf", "(I)J"⟩ ⟨"RoundPlans$Plans", "penaltiesOf", "(I)J"⟩ ∈ zT := zT_sel 4 (by decide +kernel) (by decide +kernel)
theorem ws_5 : Cond.selects "RoundPlans$Plans" ⟨"RoundPlans$Plans", "findPrice", "(IIJ)J"⟩ ⟨"RoundPlans$Plans", "findPrice", "(IIJ)J"⟩ ∈ zT := zT_sel 5 (by decide +kernel) (by decide +kernel)
theorem ws_6 : Cond.selects "RoundPlans$Plans" ⟨"RoundPlans$Plans", "addRounds", "(II)V"⟩ ⟨"RoundPlans$Plans", "addRounds", "(II)V"⟩ ∈ zT := zT_sel 6 (by decide +kernel) (by decide +kernel)
theorem ws_7 : Cond.selects "RoundPlans$Plans" ⟨"RoundPlans$Plans", "leastWith", "(II)J"⟩ ⟨"RoundPlans$Plans", "leastWith", "(II)J"⟩ ∈ zT := zT_sel 7 (by decide +kernel) (by decide +kernel)
theorem ws_8 : Cond.selects "RoundPlans$Rounds" ⟨"RoundPlans$Rounds", "findLatest", "(II)V"⟩ ⟨"RoundPlans$Rounds", "findLatest", "(II)V"⟩ ∈ zT := zT_sel 8 (by decide +kernel) (by decide +kernel)
theorem ws_9 : Cond.selects "RoundPlans$Rounds" ⟨"RoundPlans$Rounds", "findLatestAt", "(III)I"⟩ ⟨"RoundPlans$Rounds", "findLatestAt", "(III)I"⟩ ∈ zT := zT_sel 9 (by decide +kernel) (by decide +kernel)
theorem ws_10 : Cond.selects "RoundPlans$Rounds" ⟨"RoundPlans$Rounds", "firstInTime", "(III)I"⟩ ⟨"RoundPlans$Rounds", "firstInTime", "(III)I"⟩ ∈ zT := zT_sel 10 (by decide +kernel) (by decide +kernel)
theorem ws_11 : Cond.selects "RoundPlansModel" ⟨"RoundPlansModel", "isStop", "(I)Z"⟩ ⟨"RoundPlansModel", "isStop", "(I)Z"⟩ ∈ zT := zT_sel 11 (by decide +kernel) (by decide +kernel)
theorem ws_12 : Cond.selects "RoundPlansModel" ⟨"RoundPlansModel", "arePair", "(II)Z"⟩ ⟨"RoundPlansModel", "arePair", "(II)Z"⟩ ∈ zT := zT_sel 12 (by decide +kernel) (by decide +kernel)
theorem ws_13 : Cond.selects "RoundPlansModel" ⟨"RoundPlansModel", "leads", "(II)Z"⟩ ⟨"RoundPlansModel", "leads", "(II)Z"⟩ ∈ zT := zT_sel 13 (by decide +kernel) (by decide +kernel)
theorem ws_14 : Cond.selects "RoundPlansModel" ⟨"RoundPlansModel", "driveAll", "(I)V"⟩ ⟨"RoundPlansModel", "driveAll", "(I)V"⟩ ∈ zT := zT_sel 14 (by decide +kernel) (by decide +kernel)
theorem ws_15 : Cond.selects "RoundPlansModel" ⟨"RoundPlansModel", "mayFollow", "(III)Z"⟩ ⟨"RoundPlansModel", "mayFollow", "(III)Z"⟩ ∈ zT := zT_sel 15 (by decide +kernel) (by decide +kernel)
theorem ws_16 : Cond.selects "RoundPlansModel" ⟨"RoundPlansModel", "keep", "(II)V"⟩ ⟨"RoundPlansModel", "keep", "(II)V"⟩ ∈ zT := zT_sel 16 (by decide +kernel) (by decide +kernel)
theorem ws_17 : Cond.selects "RoundPlansModel" ⟨"RoundPlansModel", "drive", "(II)I"⟩ ⟨"RoundPlansModel", "drive", "(II)I"⟩ ∈ zT := zT_sel 17 (by decide +kernel) (by decide +kernel)
theorem ws_18 : Cond.selects "RoundPlansModel" ⟨"RoundPlansModel", "setOf", "(I)I"⟩ ⟨"RoundPlansModel", "setOf", "(I)I"⟩ ∈ zT := zT_sel 18 (by decide +kernel) (by decide +kernel)
theorem ws_19 : Cond.selects "RoundPlansModel" ⟨"RoundPlansModel", "rowOf", "(I)I"⟩ ⟨"RoundPlansModel", "rowOf", "(I)I"⟩ ∈ zT := zT_sel 19 (by decide +kernel) (by decide +kernel)
theorem ws_20 : Cond.selects "RoundPlansModel" ⟨"RoundPlansModel", "bestPlan", "(I)I"⟩ ⟨"RoundPlansModel", "bestPlan", "(I)I"⟩ ∈ zT := zT_sel 20 (by decide +kernel) (by decide +kernel)
theorem ws_21 : Cond.selects "RoundPlansModel" ⟨"RoundPlansModel", "costOf", "(II)J"⟩ ⟨"RoundPlansModel", "costOf", "(II)J"⟩ ∈ zT := zT_sel 21 (by decide +kernel) (by decide +kernel)
theorem ws_22 : Cond.selects "RoundPlansModel" ⟨"RoundPlansModel", "setIn", "(II)I"⟩ ⟨"RoundPlansModel", "setIn", "(II)I"⟩ ∈ zT := zT_sel 22 (by decide +kernel) (by decide +kernel)
theorem ws_23 : Cond.selects "RoundPlansModel" ⟨"RoundPlansModel", "tellRound", "(II)V"⟩ ⟨"RoundPlansModel", "tellRound", "(II)V"⟩ ∈ zT := zT_sel 23 (by decide +kernel) (by decide +kernel)
