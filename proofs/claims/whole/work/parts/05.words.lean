/-! The tables' words by their places -/
theorem zt_in0 {i : Nat} {w : Cond} (h : tables_1_1[i]? = some w) : w ∈ lw_tbl := List.mem_append_right _ (List.mem_append_left _ (List.mem_of_getElem? h))
theorem zt_in1 {i : Nat} {w : Cond} (h : tables_1_2[i]? = some w) : w ∈ lw_tbl := List.mem_append_right _ (List.mem_append_right _ (List.mem_append_left _ (List.mem_of_getElem? h)))
theorem zt_in2 {i : Nat} {w : Cond} (h : tables_1_3[i]? = some w) : w ∈ lw_tbl := List.mem_append_right _ (List.mem_append_right _ (List.mem_append_right _ (List.mem_append_left _ (List.mem_of_getElem? h))))
theorem zt_in3 {i : Nat} {w : Cond} (h : tables_1_4[i]? = some w) : w ∈ lw_tbl := List.mem_append_right _ (List.mem_append_right _ (List.mem_append_right _ (List.mem_append_right _ (List.mem_of_getElem? h))))
theorem zt_inp {i : Nat} {q : MethodName × Nat} (h : lw_privs[i]? = some q) : Cond.selects q.1.cls q.1 q.1 ∈ lw_tbl := List.mem_append_left _ (List.mem_map.mpr ⟨q, List.mem_of_getElem? h, rfl⟩)
theorem tw_0 : (Jvm.Cond.initialized "StrataClientLaw") ∈ lw_tbl := zt_in0 (i := 0) rfl
theorem tw_1 : (Jvm.Cond.initialized "StrataClient") ∈ lw_tbl := zt_in0 (i := 1) rfl
theorem tw_2 : (Jvm.Cond.initialized "StrataClient$Packet") ∈ lw_tbl := zt_in0 (i := 2) rfl
theorem tw_3 : (Jvm.Cond.initialized "StrataClient$Server") ∈ lw_tbl := zt_in0 (i := 3) rfl
theorem tw_4 : (Jvm.Cond.initialized "StrataClient$Vote") ∈ lw_tbl := zt_in0 (i := 4) rfl
theorem tw_5 : (Jvm.Cond.initialized "StrataClientModel") ∈ lw_tbl := zt_in0 (i := 5) rfl
theorem tw_6 : (Jvm.Cond.initialized "java/lang/Throwable") ∈ lw_tbl := zt_in0 (i := 6) rfl
theorem tw_7 : (Jvm.Cond.initialized "java/lang/Exception") ∈ lw_tbl := zt_in0 (i := 7) rfl
theorem tw_8 : (Jvm.Cond.initialized "java/lang/RuntimeException") ∈ lw_tbl := zt_in0 (i := 8) rfl
theorem tw_9 : (Jvm.Cond.initialized "java/lang/IllegalArgumentException") ∈ lw_tbl := zt_in0 (i := 9) rfl
theorem tw_10 : (Jvm.Cond.initialized "java/lang/Math") ∈ lw_tbl := zt_in0 (i := 10) rfl
theorem tw_11 : (Jvm.Cond.initialized "java/lang/IndexOutOfBoundsException") ∈ lw_tbl := zt_in0 (i := 11) rfl
theorem tw_12 : (Jvm.Cond.initialized "java/lang/IllegalStateException") ∈ lw_tbl := zt_in0 (i := 12) rfl
theorem tw_13 : (Jvm.Cond.initialized "java/util/NoSuchElementException") ∈ lw_tbl := zt_in0 (i := 13) rfl
theorem tw_14 : (Jvm.Cond.initialized "java/lang/Integer") ∈ lw_tbl := zt_in0 (i := 14) rfl
theorem tw_15 : (Jvm.Cond.initialized "java/lang/UnsupportedOperationException") ∈ lw_tbl := zt_in0 (i := 15) rfl
theorem tw_16 : (Jvm.Cond.classLink "StrataClientLaw" (8 : Nat) "StrataClient") ∈ lw_tbl := zt_in0 (i := 16) rfl
theorem tw_17 : (Jvm.Cond.instantiable "StrataClient" (6 : Nat)) ∈ lw_tbl := zt_in0 (i := 17) rfl
theorem tw_18 : (Jvm.Cond.methodLink "StrataClientLaw" (74 : Nat) ({ cls := "StrataClient", name := "<init>", desc := "()V" } : Jvm.MethodName)) ∈ lw_tbl := zt_in0 (i := 18) rfl
theorem tw_19 : (Jvm.Cond.instanceMethod ({ cls := "StrataClient", name := "<init>", desc := "()V" } : Jvm.MethodName)) ∈ lw_tbl := zt_in0 (i := 19) rfl
theorem tw_20 : (Jvm.Cond.code ({ cls := "StrataClient", name := "<init>", desc := "()V" } : Jvm.MethodName) prog_1_method_1_code (2 : Nat) (Option.none : Option Jvm.ClassFile.FieldType)) ∈ lw_tbl := zt_in0 (i := 20) rfl
theorem tw_21 : (Jvm.Cond.methodLink "StrataClient" (1 : Nat) ({ cls := "java/lang/Object", name := "<init>", desc := "()V" } : Jvm.MethodName)) ∈ lw_tbl := zt_in0 (i := 21) rfl
theorem tw_22 : (Jvm.Cond.instanceMethod ({ cls := "java/lang/Object", name := "<init>", desc := "()V" } : Jvm.MethodName)) ∈ lw_tbl := zt_in0 (i := 22) rfl
theorem tw_23 : (Jvm.Cond.code ({ cls := "java/lang/Object", name := "<init>", desc := "()V" } : Jvm.MethodName) object_method_1_code (1 : Nat) (Option.none : Option Jvm.ClassFile.FieldType)) ∈ lw_tbl := zt_in0 (i := 23) rfl
theorem tw_24 : (Jvm.Cond.classLink "StrataClient" (7 : Nat) "StrataClient$Packet") ∈ lw_tbl := zt_in0 (i := 24) rfl
theorem tw_25 : (Jvm.Cond.instantiable "StrataClient$Packet" (1 : Nat)) ∈ lw_tbl := zt_in0 (i := 25) rfl
theorem tw_26 : (Jvm.Cond.methodLink "StrataClient" (9 : Nat) ({ cls := "StrataClient$Packet", name := "<init>", desc := "()V" } : Jvm.MethodName)) ∈ lw_tbl := zt_in0 (i := 26) rfl
theorem tw_27 : (Jvm.Cond.instanceMethod ({ cls := "StrataClient$Packet", name := "<init>", desc := "()V" } : Jvm.MethodName)) ∈ lw_tbl := zt_in0 (i := 27) rfl
theorem tw_28 : (Jvm.Cond.code ({ cls := "StrataClient$Packet", name := "<init>", desc := "()V" } : Jvm.MethodName) prog_2_method_1_code (1 : Nat) (Option.none : Option Jvm.ClassFile.FieldType)) ∈ lw_tbl := zt_in0 (i := 28) rfl
theorem tw_29 : (Jvm.Cond.methodLink "StrataClient$Packet" (1 : Nat) ({ cls := "java/lang/Object", name := "<init>", desc := "()V" } : Jvm.MethodName)) ∈ lw_tbl := zt_in0 (i := 29) rfl
theorem tw_30 : (Jvm.Cond.fieldLink "StrataClient$Packet" (9 : Nat) "StrataClient$Packet" "row" "[B") ∈ lw_tbl := zt_in0 (i := 30) rfl
theorem tw_31 : (Jvm.Cond.laysFinal "StrataClient$Packet" "StrataClient$Packet" "row" "[B") ∈ lw_tbl := zt_in0 (i := 31) rfl
theorem tw_32 : (Jvm.Cond.soleField "StrataClient$Packet" "row") ∈ lw_tbl := zt_in0 (i := 32) rfl
theorem tw_33 : (Jvm.Cond.superclass "StrataClient$Packet" "java/lang/Object") ∈ lw_tbl := zt_in0 (i := 33) rfl
theorem tw_34 : (Jvm.Cond.arrayClass Jvm.ClassFile.FieldType.byte) ∈ lw_tbl := zt_in0 (i := 34) rfl
theorem tw_35 : (Jvm.Cond.classLink "StrataClient" (16 : Nat) "StrataClient$Server") ∈ lw_tbl := zt_in0 (i := 35) rfl
theorem tw_36 : (Jvm.Cond.arrayOver (Jvm.ClassFile.FieldType.object "StrataClient$Server")) ∈ lw_tbl := zt_in0 (i := 36) rfl
theorem tw_37 : (Jvm.Cond.instantiable "StrataClient$Server" (12 : Nat)) ∈ lw_tbl := zt_in0 (i := 37) rfl
theorem tw_38 : (Jvm.Cond.methodLink "StrataClient" (22 : Nat) ({ cls := "StrataClient$Server", name := "<init>", desc := "()V" } : Jvm.MethodName)) ∈ lw_tbl := zt_in0 (i := 38) rfl
theorem tw_39 : (Jvm.Cond.instanceMethod ({ cls := "StrataClient$Server", name := "<init>", desc := "()V" } : Jvm.MethodName)) ∈ lw_tbl := zt_in0 (i := 39) rfl
theorem tw_40 : (Jvm.Cond.code ({ cls := "StrataClient$Server", name := "<init>", desc := "()V" } : Jvm.MethodName) prog_3_method_1_code (1 : Nat) (Option.none : Option Jvm.ClassFile.FieldType)) ∈ lw_tbl := zt_in0 (i := 40) rfl
theorem tw_41 : (Jvm.Cond.methodLink "StrataClient$Server" (1 : Nat) ({ cls := "java/lang/Object", name := "<init>", desc := "()V" } : Jvm.MethodName)) ∈ lw_tbl := zt_in0 (i := 41) rfl
theorem tw_42 : (Jvm.Cond.fieldLink "StrataClient$Server" (7 : Nat) "StrataClient$Server" "denied" "Z") ∈ lw_tbl := zt_in0 (i := 42) rfl
theorem tw_43 : (Jvm.Cond.fieldLink "StrataClient" (79 : Nat) "StrataClient$Server" "denied" "Z") ∈ lw_tbl := zt_in0 (i := 43) rfl
theorem tw_44 : (Jvm.Cond.fieldLink "StrataClient$Vote" (74 : Nat) "StrataClient$Server" "denied" "Z") ∈ lw_tbl := zt_in0 (i := 44) rfl
theorem tw_45 : (Jvm.Cond.fieldLink "StrataClient$Server" (13 : Nat) "StrataClient$Server" "reach" "I") ∈ lw_tbl := zt_in0 (i := 45) rfl
theorem tw_46 : (Jvm.Cond.fieldLink "StrataClient$Vote" (80 : Nat) "StrataClient$Server" "reach" "I") ∈ lw_tbl := zt_in0 (i := 46) rfl
theorem tw_47 : (Jvm.Cond.fieldLink "StrataClient" (108 : Nat) "StrataClient$Server" "reach" "I") ∈ lw_tbl := zt_in0 (i := 47) rfl
theorem tw_48 : (Jvm.Cond.fieldLink "StrataClient$Server" (17 : Nat) "StrataClient$Server" "poll" "I") ∈ lw_tbl := zt_in0 (i := 48) rfl
theorem tw_49 : (Jvm.Cond.fieldLink "StrataClient" (112 : Nat) "StrataClient$Server" "poll" "I") ∈ lw_tbl := zt_in0 (i := 49) rfl
theorem tw_50 : (Jvm.Cond.fieldLink "StrataClient$Server" (20 : Nat) "StrataClient$Server" "expecting" "Z") ∈ lw_tbl := zt_in0 (i := 50) rfl
theorem tw_51 : (Jvm.Cond.fieldLink "StrataClient" (68 : Nat) "StrataClient$Server" "expecting" "Z") ∈ lw_tbl := zt_in0 (i := 51) rfl
theorem tw_52 : (Jvm.Cond.fieldLink "StrataClient$Server" (23 : Nat) "StrataClient$Server" "expected" "J") ∈ lw_tbl := zt_in0 (i := 52) rfl
theorem tw_53 : (Jvm.Cond.fieldLink "StrataClient" (76 : Nat) "StrataClient$Server" "expected" "J") ∈ lw_tbl := zt_in0 (i := 53) rfl
theorem tw_54 : (Jvm.Cond.fieldLink "StrataClient$Server" (27 : Nat) "StrataClient$Server" "count" "I") ∈ lw_tbl := zt_in0 (i := 54) rfl
theorem tw_55 : (Jvm.Cond.fieldLink "StrataClient$Vote" (83 : Nat) "StrataClient$Server" "count" "I") ∈ lw_tbl := zt_in0 (i := 55) rfl
theorem tw_56 : (Jvm.Cond.fieldLink "StrataClient" (115 : Nat) "StrataClient$Server" "count" "I") ∈ lw_tbl := zt_in0 (i := 56) rfl
theorem tw_57 : (Jvm.Cond.fieldLink "StrataClient$Server" (30 : Nat) "StrataClient$Server" "stratum" "I") ∈ lw_tbl := zt_in0 (i := 57) rfl
theorem tw_58 : (Jvm.Cond.fieldLink "StrataClient$Vote" (117 : Nat) "StrataClient$Server" "stratum" "I") ∈ lw_tbl := zt_in0 (i := 58) rfl
theorem tw_59 : (Jvm.Cond.fieldLink "StrataClient$Server" (33 : Nat) "StrataClient$Server" "rootDelay" "J") ∈ lw_tbl := zt_in0 (i := 59) rfl
theorem tw_60 : (Jvm.Cond.fieldLink "StrataClient$Server" (36 : Nat) "StrataClient$Server" "rootDispersion" "J") ∈ lw_tbl := zt_in0 (i := 60) rfl
theorem tw_61 : (Jvm.Cond.fieldLink "StrataClient$Server" (39 : Nat) "StrataClient$Server" "offsets" "[J") ∈ lw_tbl := zt_in0 (i := 61) rfl
theorem tw_62 : (Jvm.Cond.fieldLink "StrataClient$Server" (43 : Nat) "StrataClient$Server" "delays" "[J") ∈ lw_tbl := zt_in0 (i := 62) rfl
theorem tw_63 : (Jvm.Cond.fieldLink "StrataClient$Server" (46 : Nat) "StrataClient$Server" "arrivals" "[J") ∈ lw_tbl := zt_in0 (i := 63) rfl
theorem tw_64 : (Jvm.Cond.lays "StrataClient$Server" "StrataClient$Server" "denied" "Z") ∈ lw_tbl := zt_in0 (i := 64) rfl
theorem tw_65 : (Jvm.Cond.soleField "StrataClient$Server" "denied") ∈ lw_tbl := zt_in0 (i := 65) rfl
theorem tw_66 : (Jvm.Cond.lays "StrataClient$Server" "StrataClient$Server" "reach" "I") ∈ lw_tbl := zt_in0 (i := 66) rfl
theorem tw_67 : (Jvm.Cond.soleField "StrataClient$Server" "reach") ∈ lw_tbl := zt_in0 (i := 67) rfl
theorem tw_68 : (Jvm.Cond.lays "StrataClient$Server" "StrataClient$Server" "poll" "I") ∈ lw_tbl := zt_in0 (i := 68) rfl
theorem tw_69 : (Jvm.Cond.soleField "StrataClient$Server" "poll") ∈ lw_tbl := zt_in0 (i := 69) rfl
theorem tw_70 : (Jvm.Cond.lays "StrataClient$Server" "StrataClient$Server" "expecting" "Z") ∈ lw_tbl := zt_in0 (i := 70) rfl
theorem tw_71 : (Jvm.Cond.soleField "StrataClient$Server" "expecting") ∈ lw_tbl := zt_in0 (i := 71) rfl
theorem tw_72 : (Jvm.Cond.lays "StrataClient$Server" "StrataClient$Server" "expected" "J") ∈ lw_tbl := zt_in0 (i := 72) rfl
theorem tw_73 : (Jvm.Cond.soleField "StrataClient$Server" "expected") ∈ lw_tbl := zt_in0 (i := 73) rfl
theorem tw_74 : (Jvm.Cond.lays "StrataClient$Server" "StrataClient$Server" "count" "I") ∈ lw_tbl := zt_in0 (i := 74) rfl
theorem tw_75 : (Jvm.Cond.soleField "StrataClient$Server" "count") ∈ lw_tbl := zt_in0 (i := 75) rfl
theorem tw_76 : (Jvm.Cond.lays "StrataClient$Server" "StrataClient$Server" "stratum" "I") ∈ lw_tbl := zt_in0 (i := 76) rfl
theorem tw_77 : (Jvm.Cond.soleField "StrataClient$Server" "stratum") ∈ lw_tbl := zt_in0 (i := 77) rfl
theorem tw_78 : (Jvm.Cond.lays "StrataClient$Server" "StrataClient$Server" "rootDelay" "J") ∈ lw_tbl := zt_in0 (i := 78) rfl
theorem tw_79 : (Jvm.Cond.soleField "StrataClient$Server" "rootDelay") ∈ lw_tbl := zt_in0 (i := 79) rfl
theorem tw_80 : (Jvm.Cond.lays "StrataClient$Server" "StrataClient$Server" "rootDispersion" "J") ∈ lw_tbl := zt_in0 (i := 80) rfl
theorem tw_81 : (Jvm.Cond.soleField "StrataClient$Server" "rootDispersion") ∈ lw_tbl := zt_in0 (i := 81) rfl
theorem tw_82 : (Jvm.Cond.laysFinal "StrataClient$Server" "StrataClient$Server" "offsets" "[J") ∈ lw_tbl := zt_in0 (i := 82) rfl
theorem tw_83 : (Jvm.Cond.soleField "StrataClient$Server" "offsets") ∈ lw_tbl := zt_in0 (i := 83) rfl
theorem tw_84 : (Jvm.Cond.laysFinal "StrataClient$Server" "StrataClient$Server" "delays" "[J") ∈ lw_tbl := zt_in0 (i := 84) rfl
theorem tw_85 : (Jvm.Cond.soleField "StrataClient$Server" "delays") ∈ lw_tbl := zt_in0 (i := 85) rfl
theorem tw_86 : (Jvm.Cond.laysFinal "StrataClient$Server" "StrataClient$Server" "arrivals" "[J") ∈ lw_tbl := zt_in0 (i := 86) rfl
theorem tw_87 : (Jvm.Cond.soleField "StrataClient$Server" "arrivals") ∈ lw_tbl := zt_in0 (i := 87) rfl
theorem tw_88 : (Jvm.Cond.superclass "StrataClient$Server" "java/lang/Object") ∈ lw_tbl := zt_in0 (i := 88) rfl
theorem tw_89 : (Jvm.Cond.arrayClass Jvm.ClassFile.FieldType.long) ∈ lw_tbl := zt_in0 (i := 89) rfl
theorem tw_90 : (Jvm.Cond.classLink "StrataClient" (23 : Nat) "StrataClient$Vote") ∈ lw_tbl := zt_in0 (i := 90) rfl
theorem tw_91 : (Jvm.Cond.instantiable "StrataClient$Vote" (6 : Nat)) ∈ lw_tbl := zt_in0 (i := 91) rfl
theorem tw_92 : (Jvm.Cond.methodLink "StrataClient" (25 : Nat) ({ cls := "StrataClient$Vote", name := "<init>", desc := "()V" } : Jvm.MethodName)) ∈ lw_tbl := zt_in0 (i := 92) rfl
theorem tw_93 : (Jvm.Cond.instanceMethod ({ cls := "StrataClient$Vote", name := "<init>", desc := "()V" } : Jvm.MethodName)) ∈ lw_tbl := zt_in0 (i := 93) rfl
theorem tw_94 : (Jvm.Cond.code ({ cls := "StrataClient$Vote", name := "<init>", desc := "()V" } : Jvm.MethodName) prog_4_method_1_code (1 : Nat) (Option.none : Option Jvm.ClassFile.FieldType)) ∈ lw_tbl := zt_in0 (i := 94) rfl
theorem tw_95 : (Jvm.Cond.methodLink "StrataClient$Vote" (3 : Nat) ({ cls := "java/lang/Object", name := "<init>", desc := "()V" } : Jvm.MethodName)) ∈ lw_tbl := zt_in0 (i := 95) rfl
theorem tw_96 : (Jvm.Cond.constantLong "StrataClient$Vote" (15 : Nat) (4611686018427387904 : Int64)) ∈ lw_tbl := zt_in0 (i := 96) rfl
theorem tw_97 : (Jvm.Cond.constantLong "StrataClient$Vote" (21 : Nat) (-4611686018427387904 : Int64)) ∈ lw_tbl := zt_in0 (i := 97) rfl
theorem tw_98 : (Jvm.Cond.fieldLink "StrataClient$Vote" (9 : Nat) "StrataClient$Vote" "candidates" "I") ∈ lw_tbl := zt_in0 (i := 98) rfl
theorem tw_99 : (Jvm.Cond.fieldLink "StrataClient" (138 : Nat) "StrataClient$Vote" "candidates" "I") ∈ lw_tbl := zt_in0 (i := 99) rfl
theorem tw_100 : (Jvm.Cond.fieldLink "StrataClient$Vote" (17 : Nat) "StrataClient$Vote" "low" "J") ∈ lw_tbl := zt_in0 (i := 100) rfl
theorem tw_101 : (Jvm.Cond.fieldLink "StrataClient" (147 : Nat) "StrataClient$Vote" "low" "J") ∈ lw_tbl := zt_in0 (i := 101) rfl
theorem tw_102 : (Jvm.Cond.fieldLink "StrataClient$Vote" (23 : Nat) "StrataClient$Vote" "high" "J") ∈ lw_tbl := zt_in0 (i := 102) rfl
theorem tw_103 : (Jvm.Cond.fieldLink "StrataClient" (150 : Nat) "StrataClient$Vote" "high" "J") ∈ lw_tbl := zt_in0 (i := 103) rfl
theorem tw_104 : (Jvm.Cond.fieldLink "StrataClient$Vote" (26 : Nat) "StrataClient$Vote" "survivors" "I") ∈ lw_tbl := zt_in0 (i := 104) rfl
theorem tw_105 : (Jvm.Cond.fieldLink "StrataClient" (153 : Nat) "StrataClient$Vote" "survivors" "I") ∈ lw_tbl := zt_in0 (i := 105) rfl
theorem tw_106 : (Jvm.Cond.fieldLink "StrataClient$Vote" (29 : Nat) "StrataClient$Vote" "offsets" "[J") ∈ lw_tbl := zt_in0 (i := 106) rfl
theorem tw_107 : (Jvm.Cond.fieldLink "StrataClient$Vote" (33 : Nat) "StrataClient$Vote" "distances" "[J") ∈ lw_tbl := zt_in0 (i := 107) rfl
theorem tw_108 : (Jvm.Cond.lays "StrataClient$Vote" "StrataClient$Vote" "candidates" "I") ∈ lw_tbl := zt_in0 (i := 108) rfl
theorem tw_109 : (Jvm.Cond.soleField "StrataClient$Vote" "candidates") ∈ lw_tbl := zt_in0 (i := 109) rfl
theorem tw_110 : (Jvm.Cond.lays "StrataClient$Vote" "StrataClient$Vote" "low" "J") ∈ lw_tbl := zt_in0 (i := 110) rfl
theorem tw_111 : (Jvm.Cond.soleField "StrataClient$Vote" "low") ∈ lw_tbl := zt_in0 (i := 111) rfl
theorem tw_112 : (Jvm.Cond.lays "StrataClient$Vote" "StrataClient$Vote" "high" "J") ∈ lw_tbl := zt_in0 (i := 112) rfl
theorem tw_113 : (Jvm.Cond.soleField "StrataClient$Vote" "high") ∈ lw_tbl := zt_in0 (i := 113) rfl
theorem tw_114 : (Jvm.Cond.lays "StrataClient$Vote" "StrataClient$Vote" "survivors" "I") ∈ lw_tbl := zt_in0 (i := 114) rfl
theorem tw_115 : (Jvm.Cond.soleField "StrataClient$Vote" "survivors") ∈ lw_tbl := zt_in0 (i := 115) rfl
theorem tw_116 : (Jvm.Cond.laysFinal "StrataClient$Vote" "StrataClient$Vote" "offsets" "[J") ∈ lw_tbl := zt_in0 (i := 116) rfl
theorem tw_117 : (Jvm.Cond.soleField "StrataClient$Vote" "offsets") ∈ lw_tbl := zt_in0 (i := 117) rfl
theorem tw_118 : (Jvm.Cond.laysFinal "StrataClient$Vote" "StrataClient$Vote" "distances" "[J") ∈ lw_tbl := zt_in0 (i := 118) rfl
theorem tw_119 : (Jvm.Cond.soleField "StrataClient$Vote" "distances") ∈ lw_tbl := zt_in0 (i := 119) rfl
theorem tw_120 : (Jvm.Cond.superclass "StrataClient$Vote" "java/lang/Object") ∈ lw_tbl := zt_in0 (i := 120) rfl
theorem tw_121 : (Jvm.Cond.fieldLink "StrataClient" (10 : Nat) "StrataClient" "packet" "LStrataClient$Packet;") ∈ lw_tbl := zt_in0 (i := 121) rfl
theorem tw_122 : (Jvm.Cond.fieldLink "StrataClient" (18 : Nat) "StrataClient" "servers" "[LStrataClient$Server;") ∈ lw_tbl := zt_in0 (i := 122) rfl
theorem tw_123 : (Jvm.Cond.fieldLink "StrataClient" (26 : Nat) "StrataClient" "vote" "LStrataClient$Vote;") ∈ lw_tbl := zt_in0 (i := 123) rfl
theorem tw_124 : (Jvm.Cond.fieldLink "StrataClient" (30 : Nat) "StrataClient" "local" "J") ∈ lw_tbl := zt_in0 (i := 124) rfl
theorem tw_125 : (Jvm.Cond.fieldLink "StrataClient" (34 : Nat) "StrataClient" "slew" "J") ∈ lw_tbl := zt_in0 (i := 125) rfl
theorem tw_126 : (Jvm.Cond.fieldLink "StrataClient" (37 : Nat) "StrataClient" "wasSet" "Z") ∈ lw_tbl := zt_in0 (i := 126) rfl
theorem tw_127 : (Jvm.Cond.laysFinal "StrataClient" "StrataClient" "packet" "LStrataClient$Packet;") ∈ lw_tbl := zt_in0 (i := 127) rfl
theorem tw_128 : (Jvm.Cond.soleField "StrataClient" "packet") ∈ lw_tbl := zt_in0 (i := 128) rfl
theorem tw_129 : (Jvm.Cond.laysFinal "StrataClient" "StrataClient" "servers" "[LStrataClient$Server;") ∈ lw_tbl := zt_in0 (i := 129) rfl
theorem tw_130 : (Jvm.Cond.soleField "StrataClient" "servers") ∈ lw_tbl := zt_in0 (i := 130) rfl
theorem tw_131 : (Jvm.Cond.laysFinal "StrataClient" "StrataClient" "vote" "LStrataClient$Vote;") ∈ lw_tbl := zt_in0 (i := 131) rfl
theorem tw_132 : (Jvm.Cond.soleField "StrataClient" "vote") ∈ lw_tbl := zt_in0 (i := 132) rfl
theorem tw_133 : (Jvm.Cond.lays "StrataClient" "StrataClient" "local" "J") ∈ lw_tbl := zt_in0 (i := 133) rfl
theorem tw_134 : (Jvm.Cond.soleField "StrataClient" "local") ∈ lw_tbl := zt_in0 (i := 134) rfl
theorem tw_135 : (Jvm.Cond.lays "StrataClient" "StrataClient" "slew" "J") ∈ lw_tbl := zt_in0 (i := 135) rfl
theorem tw_136 : (Jvm.Cond.soleField "StrataClient" "slew") ∈ lw_tbl := zt_in0 (i := 136) rfl
theorem tw_137 : (Jvm.Cond.lays "StrataClient" "StrataClient" "wasSet" "Z") ∈ lw_tbl := zt_in0 (i := 137) rfl
theorem tw_138 : (Jvm.Cond.soleField "StrataClient" "wasSet") ∈ lw_tbl := zt_in0 (i := 138) rfl
theorem tw_139 : (Jvm.Cond.superclass "StrataClient" "java/lang/Object") ∈ lw_tbl := zt_in0 (i := 139) rfl
theorem tw_140 : (Jvm.Cond.methodLink "StrataClientLaw" (89 : Nat) ({ cls := "StrataClient", name := "local", desc := "()J" } : Jvm.MethodName)) ∈ lw_tbl := zt_in0 (i := 140) rfl
theorem tw_141 : (Jvm.Cond.instanceMethod ({ cls := "StrataClient", name := "local", desc := "()J" } : Jvm.MethodName)) ∈ lw_tbl := zt_in0 (i := 141) rfl
theorem tw_142 : (Jvm.Cond.selects "StrataClient" ({ cls := "StrataClient", name := "local", desc := "()J" } : Jvm.MethodName) ({ cls := "StrataClient", name := "local", desc := "()J" } : Jvm.MethodName)) ∈ lw_tbl := zt_in0 (i := 142) rfl
theorem tw_143 : (Jvm.Cond.code ({ cls := "StrataClient", name := "local", desc := "()J" } : Jvm.MethodName) prog_1_method_3_code (1 : Nat) (Option.some Jvm.ClassFile.FieldType.long)) ∈ lw_tbl := zt_in0 (i := 143) rfl
theorem tw_144 : (Jvm.Cond.methodLink "StrataClientLaw" (93 : Nat) ({ cls := "StrataClient", name := "slew", desc := "()J" } : Jvm.MethodName)) ∈ lw_tbl := zt_in0 (i := 144) rfl
theorem tw_145 : (Jvm.Cond.instanceMethod ({ cls := "StrataClient", name := "slew", desc := "()J" } : Jvm.MethodName)) ∈ lw_tbl := zt_in0 (i := 145) rfl
theorem tw_146 : (Jvm.Cond.selects "StrataClient" ({ cls := "StrataClient", name := "slew", desc := "()J" } : Jvm.MethodName) ({ cls := "StrataClient", name := "slew", desc := "()J" } : Jvm.MethodName)) ∈ lw_tbl := zt_in0 (i := 146) rfl
theorem tw_147 : (Jvm.Cond.code ({ cls := "StrataClient", name := "slew", desc := "()J" } : Jvm.MethodName) prog_1_method_4_code (1 : Nat) (Option.some Jvm.ClassFile.FieldType.long)) ∈ lw_tbl := zt_in0 (i := 147) rfl
theorem tw_148 : (Jvm.Cond.methodLink "StrataClientLaw" (133 : Nat) ({ cls := "StrataClient", name := "candidates", desc := "()I" } : Jvm.MethodName)) ∈ lw_tbl := zt_in0 (i := 148) rfl
theorem tw_149 : (Jvm.Cond.instanceMethod ({ cls := "StrataClient", name := "candidates", desc := "()I" } : Jvm.MethodName)) ∈ lw_tbl := zt_in0 (i := 149) rfl
theorem tw_150 : (Jvm.Cond.selects "StrataClient" ({ cls := "StrataClient", name := "candidates", desc := "()I" } : Jvm.MethodName) ({ cls := "StrataClient", name := "candidates", desc := "()I" } : Jvm.MethodName)) ∈ lw_tbl := zt_in0 (i := 150) rfl
theorem tw_151 : (Jvm.Cond.code ({ cls := "StrataClient", name := "candidates", desc := "()I" } : Jvm.MethodName) prog_1_method_16_code (1 : Nat) (Option.some Jvm.ClassFile.FieldType.int)) ∈ lw_tbl := zt_in0 (i := 151) rfl
theorem tw_152 : (Jvm.Cond.methodLink "StrataClient" (134 : Nat) ({ cls := "StrataClient$Vote", name := "hold", desc := "([LStrataClient$Server;J)V" } : Jvm.MethodName)) ∈ lw_tbl := zt_in0 (i := 152) rfl
theorem tw_153 : (Jvm.Cond.instanceMethod ({ cls := "StrataClient$Vote", name := "hold", desc := "([LStrataClient$Server;J)V" } : Jvm.MethodName)) ∈ lw_tbl := zt_in0 (i := 153) rfl
theorem tw_154 : (Jvm.Cond.selects "StrataClient$Vote" ({ cls := "StrataClient$Vote", name := "hold", desc := "([LStrataClient$Server;J)V" } : Jvm.MethodName) ({ cls := "StrataClient$Vote", name := "hold", desc := "([LStrataClient$Server;J)V" } : Jvm.MethodName)) ∈ lw_tbl := zt_in0 (i := 154) rfl
theorem tw_155 : (Jvm.Cond.code ({ cls := "StrataClient$Vote", name := "hold", desc := "([LStrataClient$Server;J)V" } : Jvm.MethodName) prog_4_method_3_code (4 : Nat) (Option.none : Option Jvm.ClassFile.FieldType)) ∈ lw_tbl := zt_in0 (i := 155) rfl
theorem tw_156 : (Jvm.Cond.methodLink "StrataClient$Vote" (36 : Nat) ({ cls := "StrataClient$Vote", name := "findCandidates", desc := "([LStrataClient$Server;J)V" } : Jvm.MethodName)) ∈ lw_tbl := zt_in0 (i := 156) rfl
theorem tw_157 : (Jvm.Cond.privateMethod ({ cls := "StrataClient$Vote", name := "findCandidates", desc := "([LStrataClient$Server;J)V" } : Jvm.MethodName)) ∈ lw_tbl := zt_in0 (i := 157) rfl
theorem tw_158 : (Jvm.Cond.instanceMethod ({ cls := "StrataClient$Vote", name := "findCandidates", desc := "([LStrataClient$Server;J)V" } : Jvm.MethodName)) ∈ lw_tbl := zt_in0 (i := 158) rfl
theorem tw_159 : (Jvm.Cond.code ({ cls := "StrataClient$Vote", name := "findCandidates", desc := "([LStrataClient$Server;J)V" } : Jvm.MethodName) prog_4_method_8_code (6 : Nat) (Option.none : Option Jvm.ClassFile.FieldType)) ∈ lw_tbl := zt_in0 (i := 159) rfl
theorem tw_160 : (Jvm.Cond.methodLink "StrataClient$Vote" (86 : Nat) ({ cls := "StrataClient$Server", name := "bestOffset", desc := "(J)J" } : Jvm.MethodName)) ∈ lw_tbl := zt_in0 (i := 160) rfl
theorem tw_161 : (Jvm.Cond.instanceMethod ({ cls := "StrataClient$Server", name := "bestOffset", desc := "(J)J" } : Jvm.MethodName)) ∈ lw_tbl := zt_in0 (i := 161) rfl
theorem tw_162 : (Jvm.Cond.selects "StrataClient$Server" ({ cls := "StrataClient$Server", name := "bestOffset", desc := "(J)J" } : Jvm.MethodName) ({ cls := "StrataClient$Server", name := "bestOffset", desc := "(J)J" } : Jvm.MethodName)) ∈ lw_tbl := zt_in0 (i := 162) rfl
theorem tw_163 : (Jvm.Cond.code ({ cls := "StrataClient$Server", name := "bestOffset", desc := "(J)J" } : Jvm.MethodName) prog_3_method_9_code (3 : Nat) (Option.some Jvm.ClassFile.FieldType.long)) ∈ lw_tbl := zt_in0 (i := 163) rfl
theorem tw_164 : (Jvm.Cond.methodLink "StrataClient$Server" (67 : Nat) ({ cls := "StrataClient$Server", name := "bestAt", desc := "(J)I" } : Jvm.MethodName)) ∈ lw_tbl := zt_in0 (i := 164) rfl
theorem tw_165 : (Jvm.Cond.privateMethod ({ cls := "StrataClient$Server", name := "bestAt", desc := "(J)I" } : Jvm.MethodName)) ∈ lw_tbl := zt_in0 (i := 165) rfl
theorem tw_166 : (Jvm.Cond.instanceMethod ({ cls := "StrataClient$Server", name := "bestAt", desc := "(J)I" } : Jvm.MethodName)) ∈ lw_tbl := zt_in0 (i := 166) rfl
theorem tw_167 : (Jvm.Cond.code ({ cls := "StrataClient$Server", name := "bestAt", desc := "(J)I" } : Jvm.MethodName) prog_3_method_13_code (5 : Nat) (Option.some Jvm.ClassFile.FieldType.int)) ∈ lw_tbl := zt_in0 (i := 167) rfl
theorem tw_168 : (Jvm.Cond.methodLink "StrataClient$Server" (77 : Nat) ({ cls := "StrataClient$Server", name := "distanceOf", desc := "(IJ)J" } : Jvm.MethodName)) ∈ lw_tbl := zt_in0 (i := 168) rfl
theorem tw_169 : (Jvm.Cond.privateMethod ({ cls := "StrataClient$Server", name := "distanceOf", desc := "(IJ)J" } : Jvm.MethodName)) ∈ lw_tbl := zt_in0 (i := 169) rfl
theorem tw_170 : (Jvm.Cond.instanceMethod ({ cls := "StrataClient$Server", name := "distanceOf", desc := "(IJ)J" } : Jvm.MethodName)) ∈ lw_tbl := zt_in0 (i := 170) rfl
theorem tw_171 : (Jvm.Cond.code ({ cls := "StrataClient$Server", name := "distanceOf", desc := "(IJ)J" } : Jvm.MethodName) prog_3_method_14_code (6 : Nat) (Option.some Jvm.ClassFile.FieldType.long)) ∈ lw_tbl := zt_in0 (i := 171) rfl
theorem tw_172 : (Jvm.Cond.constantLong "StrataClient$Server" (75 : Nat) (2 : Int64)) ∈ lw_tbl := zt_in0 (i := 172) rfl
theorem tw_173 : (Jvm.Cond.constantLong "StrataClient$Server" (81 : Nat) (65536 : Int64)) ∈ lw_tbl := zt_in0 (i := 173) rfl
theorem tw_174 : (Jvm.Cond.methodLink "StrataClient$Server" (83 : Nat) ({ cls := "java/lang/Math", name := "floorDiv", desc := "(JJ)J" } : Jvm.MethodName)) ∈ lw_tbl := zt_in0 (i := 174) rfl
theorem tw_175 : (Jvm.Cond.static ({ cls := "java/lang/Math", name := "floorDiv", desc := "(JJ)J" } : Jvm.MethodName)) ∈ lw_tbl := zt_in0 (i := 175) rfl
theorem tw_176 : (Jvm.Cond.code ({ cls := "java/lang/Math", name := "floorDiv", desc := "(JJ)J" } : Jvm.MethodName) prog_12_method_49_code (6 : Nat) (Option.some Jvm.ClassFile.FieldType.long)) ∈ lw_tbl := zt_in0 (i := 176) rfl
theorem tw_177 : (Jvm.Cond.methodLink "StrataClient$Vote" (90 : Nat) ({ cls := "StrataClient$Server", name := "rootDistance", desc := "(J)J" } : Jvm.MethodName)) ∈ lw_tbl := zt_in0 (i := 177) rfl
theorem tw_178 : (Jvm.Cond.instanceMethod ({ cls := "StrataClient$Server", name := "rootDistance", desc := "(J)J" } : Jvm.MethodName)) ∈ lw_tbl := zt_in0 (i := 178) rfl
theorem tw_179 : (Jvm.Cond.selects "StrataClient$Server" ({ cls := "StrataClient$Server", name := "rootDistance", desc := "(J)J" } : Jvm.MethodName) ({ cls := "StrataClient$Server", name := "rootDistance", desc := "(J)J" } : Jvm.MethodName)) ∈ lw_tbl := zt_in0 (i := 179) rfl
theorem tw_180 : (Jvm.Cond.code ({ cls := "StrataClient$Server", name := "rootDistance", desc := "(J)J" } : Jvm.MethodName) prog_3_method_12_code (4 : Nat) (Option.some Jvm.ClassFile.FieldType.long)) ∈ lw_tbl := zt_in0 (i := 180) rfl
theorem tw_181 : (Jvm.Cond.methodLink "StrataClient$Server" (71 : Nat) ({ cls := "StrataClient$Server", name := "farthestFrom", desc := "(J)J" } : Jvm.MethodName)) ∈ lw_tbl := zt_in0 (i := 181) rfl
theorem tw_182 : (Jvm.Cond.privateMethod ({ cls := "StrataClient$Server", name := "farthestFrom", desc := "(J)J" } : Jvm.MethodName)) ∈ lw_tbl := zt_in0 (i := 182) rfl
theorem tw_183 : (Jvm.Cond.instanceMethod ({ cls := "StrataClient$Server", name := "farthestFrom", desc := "(J)J" } : Jvm.MethodName)) ∈ lw_tbl := zt_in0 (i := 183) rfl
theorem tw_184 : (Jvm.Cond.code ({ cls := "StrataClient$Server", name := "farthestFrom", desc := "(J)J" } : Jvm.MethodName) prog_3_method_15_code (6 : Nat) (Option.some Jvm.ClassFile.FieldType.long)) ∈ lw_tbl := zt_in0 (i := 184) rfl
theorem tw_185 : (Jvm.Cond.methodLink "StrataClient$Server" (87 : Nat) ({ cls := "java/lang/Math", name := "abs", desc := "(J)J" } : Jvm.MethodName)) ∈ lw_tbl := zt_in0 (i := 185) rfl
theorem tw_186 : (Jvm.Cond.static ({ cls := "java/lang/Math", name := "abs", desc := "(J)J" } : Jvm.MethodName)) ∈ lw_tbl := zt_in0 (i := 186) rfl
theorem tw_187 : (Jvm.Cond.code ({ cls := "java/lang/Math", name := "abs", desc := "(J)J" } : Jvm.MethodName) prog_12_method_61_code (2 : Nat) (Option.some Jvm.ClassFile.FieldType.long)) ∈ lw_tbl := zt_in0 (i := 187) rfl
theorem tw_188 : (Jvm.Cond.methodLink "StrataClient$Server" (90 : Nat) ({ cls := "java/lang/Math", name := "max", desc := "(JJ)J" } : Jvm.MethodName)) ∈ lw_tbl := zt_in0 (i := 188) rfl
theorem tw_189 : (Jvm.Cond.static ({ cls := "java/lang/Math", name := "max", desc := "(JJ)J" } : Jvm.MethodName)) ∈ lw_tbl := zt_in0 (i := 189) rfl
theorem tw_190 : (Jvm.Cond.code ({ cls := "java/lang/Math", name := "max", desc := "(JJ)J" } : Jvm.MethodName) prog_12_method_66_code (4 : Nat) (Option.some Jvm.ClassFile.FieldType.long)) ∈ lw_tbl := zt_in0 (i := 190) rfl
theorem tw_191 : (Jvm.Cond.constantLong "StrataClient$Vote" (93 : Nat) (6442450944 : Int64)) ∈ lw_tbl := zt_in0 (i := 191) rfl
theorem tw_192 : (Jvm.Cond.methodLink "StrataClient$Vote" (40 : Nat) ({ cls := "StrataClient$Vote", name := "findBounds", desc := "()V" } : Jvm.MethodName)) ∈ lw_tbl := zt_in0 (i := 192) rfl
theorem tw_193 : (Jvm.Cond.privateMethod ({ cls := "StrataClient$Vote", name := "findBounds", desc := "()V" } : Jvm.MethodName)) ∈ lw_tbl := zt_in0 (i := 193) rfl
theorem tw_194 : (Jvm.Cond.instanceMethod ({ cls := "StrataClient$Vote", name := "findBounds", desc := "()V" } : Jvm.MethodName)) ∈ lw_tbl := zt_in0 (i := 194) rfl
theorem tw_195 : (Jvm.Cond.code ({ cls := "StrataClient$Vote", name := "findBounds", desc := "()V" } : Jvm.MethodName) prog_4_method_9_code (6 : Nat) (Option.none : Option Jvm.ClassFile.FieldType)) ∈ lw_tbl := zt_in0 (i := 195) rfl
theorem tw_196 : (Jvm.Cond.methodLink "StrataClient$Vote" (50 : Nat) ({ cls := "StrataClient$Vote", name := "has", desc := "(II)Z" } : Jvm.MethodName)) ∈ lw_tbl := zt_in0 (i := 196) rfl
theorem tw_197 : (Jvm.Cond.static ({ cls := "StrataClient$Vote", name := "has", desc := "(II)Z" } : Jvm.MethodName)) ∈ lw_tbl := zt_in0 (i := 197) rfl
theorem tw_198 : (Jvm.Cond.code ({ cls := "StrataClient$Vote", name := "has", desc := "(II)Z" } : Jvm.MethodName) prog_4_method_2_code (2 : Nat) (Option.some Jvm.ClassFile.FieldType.boolean)) ∈ lw_tbl := zt_in0 (i := 198) rfl
theorem tw_199 : (Jvm.Cond.methodLink "StrataClient$Vote" (95 : Nat) ({ cls := "StrataClient$Vote", name := "isInMost", desc := "(J)Z" } : Jvm.MethodName)) ∈ lw_tbl := zt_in0 (i := 199) rfl
theorem tw_200 : (Jvm.Cond.privateMethod ({ cls := "StrataClient$Vote", name := "isInMost", desc := "(J)Z" } : Jvm.MethodName)) ∈ lw_tbl := zt_in0 (i := 200) rfl
theorem tw_201 : (Jvm.Cond.instanceMethod ({ cls := "StrataClient$Vote", name := "isInMost", desc := "(J)Z" } : Jvm.MethodName)) ∈ lw_tbl := zt_in0 (i := 201) rfl
theorem tw_202 : (Jvm.Cond.code ({ cls := "StrataClient$Vote", name := "isInMost", desc := "(J)Z" } : Jvm.MethodName) prog_4_method_10_code (5 : Nat) (Option.some Jvm.ClassFile.FieldType.boolean)) ∈ lw_tbl := zt_in0 (i := 202) rfl
theorem tw_203 : (Jvm.Cond.methodLink "StrataClient$Vote" (104 : Nat) ({ cls := "java/lang/Math", name := "abs", desc := "(J)J" } : Jvm.MethodName)) ∈ lw_tbl := zt_in0 (i := 203) rfl
theorem tw_204 : (Jvm.Cond.methodLink "StrataClient$Vote" (64 : Nat) ({ cls := "java/lang/Integer", name := "bitCount", desc := "(I)I" } : Jvm.MethodName)) ∈ lw_tbl := zt_in0 (i := 204) rfl
theorem tw_205 : (Jvm.Cond.static ({ cls := "java/lang/Integer", name := "bitCount", desc := "(I)I" } : Jvm.MethodName)) ∈ lw_tbl := zt_in0 (i := 205) rfl
theorem tw_206 : (Jvm.Cond.code ({ cls := "java/lang/Integer", name := "bitCount", desc := "(I)I" } : Jvm.MethodName) prog_11_method_49_code (1 : Nat) (Option.some Jvm.ClassFile.FieldType.int)) ∈ lw_tbl := zt_in0 (i := 206) rfl
theorem tw_207 : (Jvm.Cond.constant "java/lang/Integer" (265 : Nat) (1431655765 : Int32)) ∈ lw_tbl := zt_in0 (i := 207) rfl
theorem tw_208 : (Jvm.Cond.constant "java/lang/Integer" (266 : Nat) (858993459 : Int32)) ∈ lw_tbl := zt_in0 (i := 208) rfl
theorem tw_209 : (Jvm.Cond.constant "java/lang/Integer" (267 : Nat) (252645135 : Int32)) ∈ lw_tbl := zt_in0 (i := 209) rfl
theorem tw_210 : (Jvm.Cond.methodLink "StrataClient$Vote" (99 : Nat) ({ cls := "java/lang/Math", name := "min", desc := "(JJ)J" } : Jvm.MethodName)) ∈ lw_tbl := zt_in0 (i := 210) rfl
theorem tw_211 : (Jvm.Cond.static ({ cls := "java/lang/Math", name := "min", desc := "(JJ)J" } : Jvm.MethodName)) ∈ lw_tbl := zt_in0 (i := 211) rfl
theorem tw_212 : (Jvm.Cond.code ({ cls := "java/lang/Math", name := "min", desc := "(JJ)J" } : Jvm.MethodName) prog_12_method_70_code (4 : Nat) (Option.some Jvm.ClassFile.FieldType.long)) ∈ lw_tbl := zt_in0 (i := 212) rfl
theorem tw_213 : (Jvm.Cond.methodLink "StrataClient$Vote" (102 : Nat) ({ cls := "java/lang/Math", name := "max", desc := "(JJ)J" } : Jvm.MethodName)) ∈ lw_tbl := zt_in0 (i := 213) rfl
theorem tw_214 : (Jvm.Cond.methodLink "StrataClient$Vote" (43 : Nat) ({ cls := "StrataClient$Vote", name := "findSurvivors", desc := "()V" } : Jvm.MethodName)) ∈ lw_tbl := zt_in0 (i := 214) rfl
theorem tw_215 : (Jvm.Cond.privateMethod ({ cls := "StrataClient$Vote", name := "findSurvivors", desc := "()V" } : Jvm.MethodName)) ∈ lw_tbl := zt_in0 (i := 215) rfl
theorem tw_216 : (Jvm.Cond.instanceMethod ({ cls := "StrataClient$Vote", name := "findSurvivors", desc := "()V" } : Jvm.MethodName)) ∈ lw_tbl := zt_in0 (i := 216) rfl
theorem tw_217 : (Jvm.Cond.code ({ cls := "StrataClient$Vote", name := "findSurvivors", desc := "()V" } : Jvm.MethodName) prog_4_method_11_code (2 : Nat) (Option.none : Option Jvm.ClassFile.FieldType)) ∈ lw_tbl := zt_in0 (i := 217) rfl
theorem tw_218 : (Jvm.Cond.methodLink "StrataClient$Vote" (107 : Nat) ({ cls := "StrataClient$Vote", name := "findFarthest", desc := "()I" } : Jvm.MethodName)) ∈ lw_tbl := zt_in0 (i := 218) rfl
theorem tw_219 : (Jvm.Cond.privateMethod ({ cls := "StrataClient$Vote", name := "findFarthest", desc := "()I" } : Jvm.MethodName)) ∈ lw_tbl := zt_in0 (i := 219) rfl
theorem tw_220 : (Jvm.Cond.instanceMethod ({ cls := "StrataClient$Vote", name := "findFarthest", desc := "()I" } : Jvm.MethodName)) ∈ lw_tbl := zt_in0 (i := 220) rfl
theorem tw_221 : (Jvm.Cond.code ({ cls := "StrataClient$Vote", name := "findFarthest", desc := "()I" } : Jvm.MethodName) prog_4_method_12_code (5 : Nat) (Option.some Jvm.ClassFile.FieldType.int)) ∈ lw_tbl := zt_in0 (i := 221) rfl
theorem tw_222 : (Jvm.Cond.constantLong "StrataClient$Vote" (111 : Nat) (-1 : Int64)) ∈ lw_tbl := zt_in0 (i := 222) rfl
theorem tw_223 : (Jvm.Cond.methodLink "StrataClient$Vote" (113 : Nat) ({ cls := "StrataClient$Vote", name := "spreadOf", desc := "(I)J" } : Jvm.MethodName)) ∈ lw_tbl := zt_in0 (i := 223) rfl
theorem tw_224 : (Jvm.Cond.privateMethod ({ cls := "StrataClient$Vote", name := "spreadOf", desc := "(I)J" } : Jvm.MethodName)) ∈ lw_tbl := zt_in0 (i := 224) rfl
theorem tw_225 : (Jvm.Cond.instanceMethod ({ cls := "StrataClient$Vote", name := "spreadOf", desc := "(I)J" } : Jvm.MethodName)) ∈ lw_tbl := zt_in0 (i := 225) rfl
theorem tw_226 : (Jvm.Cond.code ({ cls := "StrataClient$Vote", name := "spreadOf", desc := "(I)J" } : Jvm.MethodName) prog_4_method_13_code (5 : Nat) (Option.some Jvm.ClassFile.FieldType.long)) ∈ lw_tbl := zt_in0 (i := 226) rfl
theorem tw_227 : (Jvm.Cond.methodLink "StrataClientLaw" (144 : Nat) ({ cls := "StrataClient", name := "survivors", desc := "()I" } : Jvm.MethodName)) ∈ lw_tbl := zt_in0 (i := 227) rfl
theorem tw_228 : (Jvm.Cond.instanceMethod ({ cls := "StrataClient", name := "survivors", desc := "()I" } : Jvm.MethodName)) ∈ lw_tbl := zt_in0 (i := 228) rfl
theorem tw_229 : (Jvm.Cond.selects "StrataClient" ({ cls := "StrataClient", name := "survivors", desc := "()I" } : Jvm.MethodName) ({ cls := "StrataClient", name := "survivors", desc := "()I" } : Jvm.MethodName)) ∈ lw_tbl := zt_in0 (i := 229) rfl
theorem tw_230 : (Jvm.Cond.code ({ cls := "StrataClient", name := "survivors", desc := "()I" } : Jvm.MethodName) prog_1_method_19_code (1 : Nat) (Option.some Jvm.ClassFile.FieldType.int)) ∈ lw_tbl := zt_in0 (i := 230) rfl
theorem tw_231 : (Jvm.Cond.methodLink "StrataClientLaw" (80 : Nat) ({ cls := "StrataClientLaw", name := "run", desc := "(LStrataClient;J)I" } : Jvm.MethodName)) ∈ lw_tbl := zt_in0 (i := 231) rfl
theorem tw_232 : (Jvm.Cond.static ({ cls := "StrataClientLaw", name := "run", desc := "(LStrataClient;J)I" } : Jvm.MethodName)) ∈ lw_tbl := zt_in0 (i := 232) rfl
theorem tw_233 : (Jvm.Cond.codeWith ({ cls := "StrataClientLaw", name := "run", desc := "(LStrataClient;J)I" } : Jvm.MethodName) method_3_code (4 : Nat) (Option.some Jvm.ClassFile.FieldType.int) [((0 : Nat), (5 : Nat), (8 : Nat), (13 : Nat))]) ∈ lw_tbl := zt_in0 (i := 233) rfl
theorem tw_234 : (Jvm.Cond.classLink "StrataClientLaw" (13 : Nat) "java/lang/IllegalArgumentException") ∈ lw_tbl := zt_in0 (i := 234) rfl
theorem tw_235 : (Jvm.Cond.methodLink "StrataClientLaw" (7 : Nat) ({ cls := "StrataClient", name := "run", desc := "(J)V" } : Jvm.MethodName)) ∈ lw_tbl := zt_in0 (i := 235) rfl
theorem tw_236 : (Jvm.Cond.instanceMethod ({ cls := "StrataClient", name := "run", desc := "(J)V" } : Jvm.MethodName)) ∈ lw_tbl := zt_in0 (i := 236) rfl
theorem tw_237 : (Jvm.Cond.selects "StrataClient" ({ cls := "StrataClient", name := "run", desc := "(J)V" } : Jvm.MethodName) ({ cls := "StrataClient", name := "run", desc := "(J)V" } : Jvm.MethodName)) ∈ lw_tbl := zt_in0 (i := 237) rfl
theorem tw_238 : (Jvm.Cond.code ({ cls := "StrataClient", name := "run", desc := "(J)V" } : Jvm.MethodName) prog_1_method_2_code (7 : Nat) (Option.none : Option Jvm.ClassFile.FieldType)) ∈ lw_tbl := zt_in0 (i := 238) rfl
theorem tw_239 : (Jvm.Cond.constantLong "StrataClient" (41 : Nat) (1099511627776 : Int64)) ∈ lw_tbl := zt_in0 (i := 239) rfl
theorem tw_240 : (Jvm.Cond.classLink "StrataClient" (43 : Nat) "java/lang/IllegalArgumentException") ∈ lw_tbl := zt_in1 (i := 0) rfl
theorem tw_241 : (Jvm.Cond.instantiable "java/lang/IllegalArgumentException" (6 : Nat)) ∈ lw_tbl := zt_in1 (i := 1) rfl
theorem tw_242 : (Jvm.Cond.castable "java/lang/IllegalArgumentException" "java/lang/IllegalArgumentException") ∈ lw_tbl := zt_in1 (i := 2) rfl
theorem tw_243 : (Jvm.Cond.declares ({ cls := "java/lang/RuntimeException", name := "<init>", desc := "()V" } : Jvm.MethodName)) ∈ lw_tbl := zt_in1 (i := 3) rfl
theorem tw_244 : (Jvm.Cond.declares ({ cls := "java/lang/RuntimeException", name := "<init>", desc := "(Ljava/lang/String;)V" } : Jvm.MethodName)) ∈ lw_tbl := zt_in1 (i := 4) rfl
theorem tw_245 : (Jvm.Cond.declares ({ cls := "java/lang/Exception", name := "<init>", desc := "()V" } : Jvm.MethodName)) ∈ lw_tbl := zt_in1 (i := 5) rfl
theorem tw_246 : (Jvm.Cond.declares ({ cls := "java/lang/Exception", name := "<init>", desc := "(Ljava/lang/String;)V" } : Jvm.MethodName)) ∈ lw_tbl := zt_in1 (i := 6) rfl
theorem tw_247 : (Jvm.Cond.declares ({ cls := "java/lang/Throwable", name := "<init>", desc := "()V" } : Jvm.MethodName)) ∈ lw_tbl := zt_in1 (i := 7) rfl
theorem tw_248 : (Jvm.Cond.declares ({ cls := "java/lang/Throwable", name := "<init>", desc := "(Ljava/lang/String;)V" } : Jvm.MethodName)) ∈ lw_tbl := zt_in1 (i := 8) rfl
theorem tw_249 : (Jvm.Cond.selects "java/lang/IllegalArgumentException" ({ cls := "java/lang/Throwable", name := "fillInStackTrace", desc := "(I)Ljava/lang/Throwable;" } : Jvm.MethodName) ({ cls := "java/lang/Throwable", name := "fillInStackTrace", desc := "(I)Ljava/lang/Throwable;" } : Jvm.MethodName)) ∈ lw_tbl := zt_in1 (i := 9) rfl
theorem tw_250 : (Jvm.Cond.selects "java/lang/IllegalArgumentException" ({ cls := "java/lang/Throwable", name := "fillInStackTrace", desc := "()Ljava/lang/Throwable;" } : Jvm.MethodName) ({ cls := "java/lang/Throwable", name := "fillInStackTrace", desc := "()Ljava/lang/Throwable;" } : Jvm.MethodName)) ∈ lw_tbl := zt_in1 (i := 10) rfl
theorem tw_251 : (Jvm.Cond.lays "java/lang/IllegalArgumentException" "java/lang/Throwable" "cause" "Ljava/lang/Throwable;") ∈ lw_tbl := zt_in1 (i := 11) rfl
theorem tw_252 : (Jvm.Cond.lays "java/lang/Throwable" "java/lang/Throwable" "cause" "Ljava/lang/Throwable;") ∈ lw_tbl := zt_in1 (i := 12) rfl
theorem tw_253 : (Jvm.Cond.lays "java/lang/IllegalArgumentException" "java/lang/Throwable" "stackTrace" "[Ljava/lang/StackTraceElement;") ∈ lw_tbl := zt_in1 (i := 13) rfl
theorem tw_254 : (Jvm.Cond.lays "java/lang/Throwable" "java/lang/Throwable" "stackTrace" "[Ljava/lang/StackTraceElement;") ∈ lw_tbl := zt_in1 (i := 14) rfl
theorem tw_255 : (Jvm.Cond.lays "java/lang/IllegalArgumentException" "java/lang/Throwable" "suppressedExceptions" "Ljava/util/List;") ∈ lw_tbl := zt_in1 (i := 15) rfl
theorem tw_256 : (Jvm.Cond.lays "java/lang/Throwable" "java/lang/Throwable" "suppressedExceptions" "Ljava/util/List;") ∈ lw_tbl := zt_in1 (i := 16) rfl
theorem tw_257 : (Jvm.Cond.lays "java/lang/IllegalArgumentException" "java/lang/Throwable" "detailMessage" "Ljava/lang/String;") ∈ lw_tbl := zt_in1 (i := 17) rfl
theorem tw_258 : (Jvm.Cond.lays "java/lang/Throwable" "java/lang/Throwable" "detailMessage" "Ljava/lang/String;") ∈ lw_tbl := zt_in1 (i := 18) rfl
theorem tw_259 : (Jvm.Cond.lays "java/lang/IllegalArgumentException" "java/lang/Throwable" "backtrace" "Ljava/lang/Object;") ∈ lw_tbl := zt_in1 (i := 19) rfl
theorem tw_260 : (Jvm.Cond.lays "java/lang/Throwable" "java/lang/Throwable" "backtrace" "Ljava/lang/Object;") ∈ lw_tbl := zt_in1 (i := 20) rfl
theorem tw_261 : (Jvm.Cond.fieldLink "java/lang/Throwable" (198 : Nat) "java/lang/Throwable" "backtrace" "Ljava/lang/Object;") ∈ lw_tbl := zt_in1 (i := 21) rfl
theorem tw_262 : (Jvm.Cond.superclass "java/lang/Throwable" "java/lang/Object") ∈ lw_tbl := zt_in1 (i := 22) rfl
theorem tw_263 : (Jvm.Cond.instanceMethod ({ cls := "java/lang/Throwable", name := "<init>", desc := "()V" } : Jvm.MethodName)) ∈ lw_tbl := zt_in1 (i := 23) rfl
theorem tw_264 : (Jvm.Cond.code ({ cls := "java/lang/Throwable", name := "<init>", desc := "()V" } : Jvm.MethodName) prog_14_method_1_code (1 : Nat) (Option.none : Option Jvm.ClassFile.FieldType)) ∈ lw_tbl := zt_in1 (i := 24) rfl
theorem tw_265 : (Jvm.Cond.methodLink "java/lang/Throwable" (1 : Nat) ({ cls := "java/lang/Object", name := "<init>", desc := "()V" } : Jvm.MethodName)) ∈ lw_tbl := zt_in1 (i := 25) rfl
theorem tw_266 : (Jvm.Cond.fieldLink "java/lang/Throwable" (13 : Nat) "java/lang/Throwable" "UNASSIGNED_STACK" "[Ljava/lang/StackTraceElement;") ∈ lw_tbl := zt_in1 (i := 26) rfl
theorem tw_267 : (Jvm.Cond.laysStatic "java/lang/Throwable" "UNASSIGNED_STACK" "[Ljava/lang/StackTraceElement;") ∈ lw_tbl := zt_in1 (i := 27) rfl
theorem tw_268 : (Jvm.Cond.fieldLink "java/lang/Throwable" (20 : Nat) "java/lang/Throwable" "SUPPRESSED_SENTINEL" "Ljava/util/List;") ∈ lw_tbl := zt_in1 (i := 28) rfl
theorem tw_269 : (Jvm.Cond.laysStatic "java/lang/Throwable" "SUPPRESSED_SENTINEL" "Ljava/util/List;") ∈ lw_tbl := zt_in1 (i := 29) rfl
theorem tw_270 : (Jvm.Cond.methodLink "java/lang/Throwable" (27 : Nat) ({ cls := "java/lang/Throwable", name := "fillInStackTrace", desc := "()Ljava/lang/Throwable;" } : Jvm.MethodName)) ∈ lw_tbl := zt_in1 (i := 30) rfl
theorem tw_271 : (Jvm.Cond.instanceMethod ({ cls := "java/lang/Throwable", name := "fillInStackTrace", desc := "()Ljava/lang/Throwable;" } : Jvm.MethodName)) ∈ lw_tbl := zt_in1 (i := 31) rfl
theorem tw_272 : (Jvm.Cond.sameMethod "java/lang/Throwable" "java/lang/Throwable" "fillInStackTrace" "()Ljava/lang/Throwable;") ∈ lw_tbl := zt_in1 (i := 32) rfl
theorem tw_273 : (Jvm.Cond.selects "java/lang/IllegalStateException" ({ cls := "java/lang/Throwable", name := "fillInStackTrace", desc := "()Ljava/lang/Throwable;" } : Jvm.MethodName) ({ cls := "java/lang/Throwable", name := "fillInStackTrace", desc := "()Ljava/lang/Throwable;" } : Jvm.MethodName)) ∈ lw_tbl := zt_in1 (i := 33) rfl
theorem tw_274 : (Jvm.Cond.selects "java/lang/IndexOutOfBoundsException" ({ cls := "java/lang/Throwable", name := "fillInStackTrace", desc := "()Ljava/lang/Throwable;" } : Jvm.MethodName) ({ cls := "java/lang/Throwable", name := "fillInStackTrace", desc := "()Ljava/lang/Throwable;" } : Jvm.MethodName)) ∈ lw_tbl := zt_in1 (i := 34) rfl
theorem tw_275 : (Jvm.Cond.selects "java/lang/UnsupportedOperationException" ({ cls := "java/lang/Throwable", name := "fillInStackTrace", desc := "()Ljava/lang/Throwable;" } : Jvm.MethodName) ({ cls := "java/lang/Throwable", name := "fillInStackTrace", desc := "()Ljava/lang/Throwable;" } : Jvm.MethodName)) ∈ lw_tbl := zt_in1 (i := 35) rfl
theorem tw_276 : (Jvm.Cond.selects "java/util/NoSuchElementException" ({ cls := "java/lang/Throwable", name := "fillInStackTrace", desc := "()Ljava/lang/Throwable;" } : Jvm.MethodName) ({ cls := "java/lang/Throwable", name := "fillInStackTrace", desc := "()Ljava/lang/Throwable;" } : Jvm.MethodName)) ∈ lw_tbl := zt_in1 (i := 36) rfl
theorem tw_277 : (Jvm.Cond.codeSync ({ cls := "java/lang/Throwable", name := "fillInStackTrace", desc := "()Ljava/lang/Throwable;" } : Jvm.MethodName) prog_14_method_18_code (1 : Nat) (Option.some (Jvm.ClassFile.FieldType.object "java/lang/Throwable"))) ∈ lw_tbl := zt_in1 (i := 37) rfl
theorem tw_278 : (Jvm.Cond.methodLink "java/lang/Throwable" (202 : Nat) ({ cls := "java/lang/Throwable", name := "fillInStackTrace", desc := "(I)Ljava/lang/Throwable;" } : Jvm.MethodName)) ∈ lw_tbl := zt_in1 (i := 38) rfl
theorem tw_279 : (Jvm.Cond.privateMethod ({ cls := "java/lang/Throwable", name := "fillInStackTrace", desc := "(I)Ljava/lang/Throwable;" } : Jvm.MethodName)) ∈ lw_tbl := zt_in1 (i := 39) rfl
theorem tw_280 : (Jvm.Cond.instanceMethod ({ cls := "java/lang/Throwable", name := "fillInStackTrace", desc := "(I)Ljava/lang/Throwable;" } : Jvm.MethodName)) ∈ lw_tbl := zt_in1 (i := 40) rfl
theorem tw_281 : (Jvm.Cond.instantiable "java/lang/Throwable" (6 : Nat)) ∈ lw_tbl := zt_in1 (i := 41) rfl
theorem tw_282 : (Jvm.Cond.native ({ cls := "java/lang/Throwable", name := "fillInStackTrace", desc := "(I)Ljava/lang/Throwable;" } : Jvm.MethodName)) ∈ lw_tbl := zt_in1 (i := 42) rfl
theorem tw_283 : (Jvm.Cond.methodLink "StrataClient" (45 : Nat) ({ cls := "java/lang/IllegalArgumentException", name := "<init>", desc := "()V" } : Jvm.MethodName)) ∈ lw_tbl := zt_in1 (i := 43) rfl
theorem tw_284 : (Jvm.Cond.instanceMethod ({ cls := "java/lang/IllegalArgumentException", name := "<init>", desc := "()V" } : Jvm.MethodName)) ∈ lw_tbl := zt_in1 (i := 44) rfl
theorem tw_285 : (Jvm.Cond.code ({ cls := "java/lang/IllegalArgumentException", name := "<init>", desc := "()V" } : Jvm.MethodName) prog_8_method_1_code (1 : Nat) (Option.none : Option Jvm.ClassFile.FieldType)) ∈ lw_tbl := zt_in1 (i := 45) rfl
theorem tw_286 : (Jvm.Cond.methodLink "java/lang/IllegalArgumentException" (1 : Nat) ({ cls := "java/lang/RuntimeException", name := "<init>", desc := "()V" } : Jvm.MethodName)) ∈ lw_tbl := zt_in1 (i := 46) rfl
theorem tw_287 : (Jvm.Cond.instanceMethod ({ cls := "java/lang/RuntimeException", name := "<init>", desc := "()V" } : Jvm.MethodName)) ∈ lw_tbl := zt_in1 (i := 47) rfl
theorem tw_288 : (Jvm.Cond.code ({ cls := "java/lang/RuntimeException", name := "<init>", desc := "()V" } : Jvm.MethodName) prog_13_method_1_code (1 : Nat) (Option.none : Option Jvm.ClassFile.FieldType)) ∈ lw_tbl := zt_in1 (i := 48) rfl
theorem tw_289 : (Jvm.Cond.methodLink "java/lang/RuntimeException" (1 : Nat) ({ cls := "java/lang/Exception", name := "<init>", desc := "()V" } : Jvm.MethodName)) ∈ lw_tbl := zt_in1 (i := 49) rfl
theorem tw_290 : (Jvm.Cond.instanceMethod ({ cls := "java/lang/Exception", name := "<init>", desc := "()V" } : Jvm.MethodName)) ∈ lw_tbl := zt_in1 (i := 50) rfl
theorem tw_291 : (Jvm.Cond.code ({ cls := "java/lang/Exception", name := "<init>", desc := "()V" } : Jvm.MethodName) prog_7_method_1_code (1 : Nat) (Option.none : Option Jvm.ClassFile.FieldType)) ∈ lw_tbl := zt_in1 (i := 51) rfl
theorem tw_292 : (Jvm.Cond.methodLink "java/lang/Exception" (1 : Nat) ({ cls := "java/lang/Throwable", name := "<init>", desc := "()V" } : Jvm.MethodName)) ∈ lw_tbl := zt_in1 (i := 52) rfl
theorem tw_293 : (Jvm.Cond.fieldLink "java/lang/Throwable" (198 : Nat) "java/lang/Throwable" "backtrace" "Ljava/lang/Object;") ∈ lw_tbl := zt_in1 (i := 53) rfl
theorem tw_294 : (Jvm.Cond.fieldLink "java/lang/Throwable" (7 : Nat) "java/lang/Throwable" "cause" "Ljava/lang/Throwable;") ∈ lw_tbl := zt_in1 (i := 54) rfl
theorem tw_295 : (Jvm.Cond.fieldLink "java/lang/Throwable" (17 : Nat) "java/lang/Throwable" "stackTrace" "[Ljava/lang/StackTraceElement;") ∈ lw_tbl := zt_in1 (i := 55) rfl
theorem tw_296 : (Jvm.Cond.fieldLink "java/lang/Throwable" (24 : Nat) "java/lang/Throwable" "suppressedExceptions" "Ljava/util/List;") ∈ lw_tbl := zt_in1 (i := 56) rfl
theorem tw_297 : (Jvm.Cond.soleField "java/lang/Throwable" "backtrace") ∈ lw_tbl := zt_in1 (i := 57) rfl
theorem tw_298 : (Jvm.Cond.soleField "java/lang/Throwable" "detailMessage") ∈ lw_tbl := zt_in1 (i := 58) rfl
theorem tw_299 : (Jvm.Cond.soleField "java/lang/Throwable" "cause") ∈ lw_tbl := zt_in1 (i := 59) rfl
theorem tw_300 : (Jvm.Cond.soleField "java/lang/Throwable" "stackTrace") ∈ lw_tbl := zt_in1 (i := 60) rfl
theorem tw_301 : (Jvm.Cond.lays "java/lang/IllegalArgumentException" "java/lang/Throwable" "depth" "I") ∈ lw_tbl := zt_in1 (i := 61) rfl
theorem tw_302 : (Jvm.Cond.soleField "java/lang/Throwable" "depth") ∈ lw_tbl := zt_in1 (i := 62) rfl
theorem tw_303 : (Jvm.Cond.soleField "java/lang/Throwable" "suppressedExceptions") ∈ lw_tbl := zt_in1 (i := 63) rfl
theorem tw_304 : (Jvm.Cond.superclass "java/lang/IllegalArgumentException" "java/lang/RuntimeException") ∈ lw_tbl := zt_in1 (i := 64) rfl
theorem tw_305 : (Jvm.Cond.constantLong "StrataClient" (46 : Nat) (2048 : Int64)) ∈ lw_tbl := zt_in1 (i := 65) rfl
theorem tw_306 : (Jvm.Cond.methodLink "StrataClient" (48 : Nat) ({ cls := "java/lang/Math", name := "min", desc := "(JJ)J" } : Jvm.MethodName)) ∈ lw_tbl := zt_in1 (i := 66) rfl
theorem tw_307 : (Jvm.Cond.methodLink "StrataClient" (54 : Nat) ({ cls := "java/lang/Math", name := "max", desc := "(JJ)J" } : Jvm.MethodName)) ∈ lw_tbl := zt_in1 (i := 67) rfl
theorem tw_308 : (Jvm.Cond.methodLink "StrataClientLaw" (97 : Nat) ({ cls := "StrataClientLaw", name := "put", desc := "(LStrataClient;IJI)I" } : Jvm.MethodName)) ∈ lw_tbl := zt_in1 (i := 68) rfl
theorem tw_309 : (Jvm.Cond.static ({ cls := "StrataClientLaw", name := "put", desc := "(LStrataClient;IJI)I" } : Jvm.MethodName)) ∈ lw_tbl := zt_in1 (i := 69) rfl
theorem tw_310 : (Jvm.Cond.codeWith ({ cls := "StrataClientLaw", name := "put", desc := "(LStrataClient;IJI)I" } : Jvm.MethodName) method_4_code (6 : Nat) (Option.some Jvm.ClassFile.FieldType.int) [((0 : Nat), (8 : Nat), (11 : Nat), (13 : Nat)), ((0 : Nat), (8 : Nat), (15 : Nat), (19 : Nat))]) ∈ lw_tbl := zt_in1 (i := 70) rfl
theorem tw_311 : (Jvm.Cond.classLink "StrataClientLaw" (19 : Nat) "java/lang/IndexOutOfBoundsException") ∈ lw_tbl := zt_in1 (i := 71) rfl
theorem tw_312 : (Jvm.Cond.methodLink "StrataClientLaw" (15 : Nat) ({ cls := "StrataClient", name := "put", desc := "(IJI)V" } : Jvm.MethodName)) ∈ lw_tbl := zt_in1 (i := 72) rfl
theorem tw_313 : (Jvm.Cond.instanceMethod ({ cls := "StrataClient", name := "put", desc := "(IJI)V" } : Jvm.MethodName)) ∈ lw_tbl := zt_in1 (i := 73) rfl
theorem tw_314 : (Jvm.Cond.selects "StrataClient" ({ cls := "StrataClient", name := "put", desc := "(IJI)V" } : Jvm.MethodName) ({ cls := "StrataClient", name := "put", desc := "(IJI)V" } : Jvm.MethodName)) ∈ lw_tbl := zt_in1 (i := 74) rfl
theorem tw_315 : (Jvm.Cond.code ({ cls := "StrataClient", name := "put", desc := "(IJI)V" } : Jvm.MethodName) prog_1_method_5_code (5 : Nat) (Option.none : Option Jvm.ClassFile.FieldType)) ∈ lw_tbl := zt_in1 (i := 75) rfl
theorem tw_316 : (Jvm.Cond.classLink "StrataClient" (57 : Nat) "java/lang/IndexOutOfBoundsException") ∈ lw_tbl := zt_in1 (i := 76) rfl
theorem tw_317 : (Jvm.Cond.instantiable "java/lang/IndexOutOfBoundsException" (6 : Nat)) ∈ lw_tbl := zt_in1 (i := 77) rfl
theorem tw_318 : (Jvm.Cond.castable "java/lang/IndexOutOfBoundsException" "java/lang/IndexOutOfBoundsException") ∈ lw_tbl := zt_in1 (i := 78) rfl
theorem tw_319 : (Jvm.Cond.selects "java/lang/IndexOutOfBoundsException" ({ cls := "java/lang/Throwable", name := "fillInStackTrace", desc := "(I)Ljava/lang/Throwable;" } : Jvm.MethodName) ({ cls := "java/lang/Throwable", name := "fillInStackTrace", desc := "(I)Ljava/lang/Throwable;" } : Jvm.MethodName)) ∈ lw_tbl := zt_in1 (i := 79) rfl
theorem tw_320 : (Jvm.Cond.lays "java/lang/IndexOutOfBoundsException" "java/lang/Throwable" "cause" "Ljava/lang/Throwable;") ∈ lw_tbl := zt_in1 (i := 80) rfl
theorem tw_321 : (Jvm.Cond.lays "java/lang/IndexOutOfBoundsException" "java/lang/Throwable" "stackTrace" "[Ljava/lang/StackTraceElement;") ∈ lw_tbl := zt_in1 (i := 81) rfl
theorem tw_322 : (Jvm.Cond.lays "java/lang/IndexOutOfBoundsException" "java/lang/Throwable" "suppressedExceptions" "Ljava/util/List;") ∈ lw_tbl := zt_in1 (i := 82) rfl
theorem tw_323 : (Jvm.Cond.lays "java/lang/IndexOutOfBoundsException" "java/lang/Throwable" "detailMessage" "Ljava/lang/String;") ∈ lw_tbl := zt_in1 (i := 83) rfl
theorem tw_324 : (Jvm.Cond.lays "java/lang/IndexOutOfBoundsException" "java/lang/Throwable" "backtrace" "Ljava/lang/Object;") ∈ lw_tbl := zt_in1 (i := 84) rfl
theorem tw_325 : (Jvm.Cond.methodLink "StrataClient" (59 : Nat) ({ cls := "java/lang/IndexOutOfBoundsException", name := "<init>", desc := "()V" } : Jvm.MethodName)) ∈ lw_tbl := zt_in1 (i := 85) rfl
theorem tw_326 : (Jvm.Cond.instanceMethod ({ cls := "java/lang/IndexOutOfBoundsException", name := "<init>", desc := "()V" } : Jvm.MethodName)) ∈ lw_tbl := zt_in1 (i := 86) rfl
theorem tw_327 : (Jvm.Cond.code ({ cls := "java/lang/IndexOutOfBoundsException", name := "<init>", desc := "()V" } : Jvm.MethodName) prog_10_method_1_code (1 : Nat) (Option.none : Option Jvm.ClassFile.FieldType)) ∈ lw_tbl := zt_in1 (i := 87) rfl
theorem tw_328 : (Jvm.Cond.methodLink "java/lang/IndexOutOfBoundsException" (1 : Nat) ({ cls := "java/lang/RuntimeException", name := "<init>", desc := "()V" } : Jvm.MethodName)) ∈ lw_tbl := zt_in1 (i := 88) rfl
theorem tw_329 : (Jvm.Cond.lays "java/lang/IndexOutOfBoundsException" "java/lang/Throwable" "depth" "I") ∈ lw_tbl := zt_in1 (i := 89) rfl
theorem tw_330 : (Jvm.Cond.superclass "java/lang/IndexOutOfBoundsException" "java/lang/RuntimeException") ∈ lw_tbl := zt_in1 (i := 90) rfl
theorem tw_331 : (Jvm.Cond.methodLink "StrataClient" (60 : Nat) ({ cls := "StrataClient$Packet", name := "write", desc := "(IJI)V" } : Jvm.MethodName)) ∈ lw_tbl := zt_in1 (i := 91) rfl
theorem tw_332 : (Jvm.Cond.instanceMethod ({ cls := "StrataClient$Packet", name := "write", desc := "(IJI)V" } : Jvm.MethodName)) ∈ lw_tbl := zt_in1 (i := 92) rfl
theorem tw_333 : (Jvm.Cond.selects "StrataClient$Packet" ({ cls := "StrataClient$Packet", name := "write", desc := "(IJI)V" } : Jvm.MethodName) ({ cls := "StrataClient$Packet", name := "write", desc := "(IJI)V" } : Jvm.MethodName)) ∈ lw_tbl := zt_in1 (i := 93) rfl
theorem tw_334 : (Jvm.Cond.code ({ cls := "StrataClient$Packet", name := "write", desc := "(IJI)V" } : Jvm.MethodName) prog_2_method_2_code (6 : Nat) (Option.none : Option Jvm.ClassFile.FieldType)) ∈ lw_tbl := zt_in1 (i := 94) rfl
theorem tw_335 : (Jvm.Cond.methodLink "StrataClientLaw" (101 : Nat) ({ cls := "StrataClientLaw", name := "echo", desc := "(LStrataClient;IJJ)I" } : Jvm.MethodName)) ∈ lw_tbl := zt_in1 (i := 95) rfl
theorem tw_336 : (Jvm.Cond.static ({ cls := "StrataClientLaw", name := "echo", desc := "(LStrataClient;IJJ)I" } : Jvm.MethodName)) ∈ lw_tbl := zt_in1 (i := 96) rfl
theorem tw_337 : (Jvm.Cond.codeWith ({ cls := "StrataClientLaw", name := "echo", desc := "(LStrataClient;IJJ)I" } : Jvm.MethodName) method_5_code (7 : Nat) (Option.some Jvm.ClassFile.FieldType.int) [((0 : Nat), (8 : Nat), (11 : Nat), (19 : Nat)), ((0 : Nat), (8 : Nat), (15 : Nat), (25 : Nat))]) ∈ lw_tbl := zt_in1 (i := 97) rfl
theorem tw_338 : (Jvm.Cond.classLink "StrataClientLaw" (25 : Nat) "java/lang/IllegalStateException") ∈ lw_tbl := zt_in1 (i := 98) rfl
theorem tw_339 : (Jvm.Cond.methodLink "StrataClientLaw" (21 : Nat) ({ cls := "StrataClient", name := "echo", desc := "(IJJ)V" } : Jvm.MethodName)) ∈ lw_tbl := zt_in1 (i := 99) rfl
theorem tw_340 : (Jvm.Cond.instanceMethod ({ cls := "StrataClient", name := "echo", desc := "(IJJ)V" } : Jvm.MethodName)) ∈ lw_tbl := zt_in1 (i := 100) rfl
theorem tw_341 : (Jvm.Cond.selects "StrataClient" ({ cls := "StrataClient", name := "echo", desc := "(IJJ)V" } : Jvm.MethodName) ({ cls := "StrataClient", name := "echo", desc := "(IJJ)V" } : Jvm.MethodName)) ∈ lw_tbl := zt_in1 (i := 101) rfl
theorem tw_342 : (Jvm.Cond.code ({ cls := "StrataClient", name := "echo", desc := "(IJJ)V" } : Jvm.MethodName) prog_1_method_6_code (7 : Nat) (Option.none : Option Jvm.ClassFile.FieldType)) ∈ lw_tbl := zt_in1 (i := 102) rfl
theorem tw_343 : (Jvm.Cond.methodLink "StrataClient" (64 : Nat) ({ cls := "StrataClient", name := "serverAt", desc := "(I)LStrataClient$Server;" } : Jvm.MethodName)) ∈ lw_tbl := zt_in1 (i := 103) rfl
theorem tw_344 : (Jvm.Cond.privateMethod ({ cls := "StrataClient", name := "serverAt", desc := "(I)LStrataClient$Server;" } : Jvm.MethodName)) ∈ lw_tbl := zt_in1 (i := 104) rfl
theorem tw_345 : (Jvm.Cond.instanceMethod ({ cls := "StrataClient", name := "serverAt", desc := "(I)LStrataClient$Server;" } : Jvm.MethodName)) ∈ lw_tbl := zt_in1 (i := 105) rfl
theorem tw_346 : (Jvm.Cond.code ({ cls := "StrataClient", name := "serverAt", desc := "(I)LStrataClient$Server;" } : Jvm.MethodName) prog_1_method_22_code (2 : Nat) (Option.some (Jvm.ClassFile.FieldType.object "StrataClient$Server"))) ∈ lw_tbl := zt_in1 (i := 106) rfl
theorem tw_347 : (Jvm.Cond.classLink "StrataClient" (71 : Nat) "java/lang/IllegalStateException") ∈ lw_tbl := zt_in1 (i := 107) rfl
theorem tw_348 : (Jvm.Cond.instantiable "java/lang/IllegalStateException" (6 : Nat)) ∈ lw_tbl := zt_in1 (i := 108) rfl
theorem tw_349 : (Jvm.Cond.castable "java/lang/IllegalStateException" "java/lang/IllegalStateException") ∈ lw_tbl := zt_in1 (i := 109) rfl
theorem tw_350 : (Jvm.Cond.selects "java/lang/IllegalStateException" ({ cls := "java/lang/Throwable", name := "fillInStackTrace", desc := "(I)Ljava/lang/Throwable;" } : Jvm.MethodName) ({ cls := "java/lang/Throwable", name := "fillInStackTrace", desc := "(I)Ljava/lang/Throwable;" } : Jvm.MethodName)) ∈ lw_tbl := zt_in1 (i := 110) rfl
theorem tw_351 : (Jvm.Cond.lays "java/lang/IllegalStateException" "java/lang/Throwable" "cause" "Ljava/lang/Throwable;") ∈ lw_tbl := zt_in1 (i := 111) rfl
theorem tw_352 : (Jvm.Cond.lays "java/lang/IllegalStateException" "java/lang/Throwable" "stackTrace" "[Ljava/lang/StackTraceElement;") ∈ lw_tbl := zt_in1 (i := 112) rfl
theorem tw_353 : (Jvm.Cond.lays "java/lang/IllegalStateException" "java/lang/Throwable" "suppressedExceptions" "Ljava/util/List;") ∈ lw_tbl := zt_in1 (i := 113) rfl
theorem tw_354 : (Jvm.Cond.lays "java/lang/IllegalStateException" "java/lang/Throwable" "detailMessage" "Ljava/lang/String;") ∈ lw_tbl := zt_in1 (i := 114) rfl
theorem tw_355 : (Jvm.Cond.lays "java/lang/IllegalStateException" "java/lang/Throwable" "backtrace" "Ljava/lang/Object;") ∈ lw_tbl := zt_in1 (i := 115) rfl
theorem tw_356 : (Jvm.Cond.methodLink "StrataClient" (73 : Nat) ({ cls := "java/lang/IllegalStateException", name := "<init>", desc := "()V" } : Jvm.MethodName)) ∈ lw_tbl := zt_in1 (i := 116) rfl
theorem tw_357 : (Jvm.Cond.instanceMethod ({ cls := "java/lang/IllegalStateException", name := "<init>", desc := "()V" } : Jvm.MethodName)) ∈ lw_tbl := zt_in1 (i := 117) rfl
theorem tw_358 : (Jvm.Cond.code ({ cls := "java/lang/IllegalStateException", name := "<init>", desc := "()V" } : Jvm.MethodName) prog_9_method_1_code (1 : Nat) (Option.none : Option Jvm.ClassFile.FieldType)) ∈ lw_tbl := zt_in1 (i := 118) rfl
theorem tw_359 : (Jvm.Cond.methodLink "java/lang/IllegalStateException" (1 : Nat) ({ cls := "java/lang/RuntimeException", name := "<init>", desc := "()V" } : Jvm.MethodName)) ∈ lw_tbl := zt_in1 (i := 119) rfl
theorem tw_360 : (Jvm.Cond.lays "java/lang/IllegalStateException" "java/lang/Throwable" "depth" "I") ∈ lw_tbl := zt_in1 (i := 120) rfl
theorem tw_361 : (Jvm.Cond.superclass "java/lang/IllegalStateException" "java/lang/RuntimeException") ∈ lw_tbl := zt_in1 (i := 121) rfl
theorem tw_362 : (Jvm.Cond.constantLong "StrataClient" (74 : Nat) (36 : Int64)) ∈ lw_tbl := zt_in1 (i := 122) rfl
theorem tw_363 : (Jvm.Cond.methodLink "StrataClientLaw" (105 : Nat) ({ cls := "StrataClientLaw", name := "send", desc := "(LStrataClient;I[J)I" } : Jvm.MethodName)) ∈ lw_tbl := zt_in1 (i := 123) rfl
theorem tw_364 : (Jvm.Cond.static ({ cls := "StrataClientLaw", name := "send", desc := "(LStrataClient;I[J)I" } : Jvm.MethodName)) ∈ lw_tbl := zt_in1 (i := 124) rfl
theorem tw_365 : (Jvm.Cond.codeWith ({ cls := "StrataClientLaw", name := "send", desc := "(LStrataClient;I[J)I" } : Jvm.MethodName) method_6_code (4 : Nat) (Option.some Jvm.ClassFile.FieldType.int) [((0 : Nat), (8 : Nat), (11 : Nat), (19 : Nat)), ((0 : Nat), (8 : Nat), (14 : Nat), (25 : Nat))]) ∈ lw_tbl := zt_in1 (i := 125) rfl
theorem tw_366 : (Jvm.Cond.methodLink "StrataClientLaw" (27 : Nat) ({ cls := "StrataClient", name := "send", desc := "(I)J" } : Jvm.MethodName)) ∈ lw_tbl := zt_in1 (i := 126) rfl
theorem tw_367 : (Jvm.Cond.instanceMethod ({ cls := "StrataClient", name := "send", desc := "(I)J" } : Jvm.MethodName)) ∈ lw_tbl := zt_in1 (i := 127) rfl
theorem tw_368 : (Jvm.Cond.selects "StrataClient" ({ cls := "StrataClient", name := "send", desc := "(I)J" } : Jvm.MethodName) ({ cls := "StrataClient", name := "send", desc := "(I)J" } : Jvm.MethodName)) ∈ lw_tbl := zt_in1 (i := 128) rfl
theorem tw_369 : (Jvm.Cond.code ({ cls := "StrataClient", name := "send", desc := "(I)J" } : Jvm.MethodName) prog_1_method_7_code (3 : Nat) (Option.some Jvm.ClassFile.FieldType.long)) ∈ lw_tbl := zt_in1 (i := 129) rfl
theorem tw_370 : (Jvm.Cond.methodLink "StrataClient" (82 : Nat) ({ cls := "StrataClient$Server", name := "expect", desc := "(J)V" } : Jvm.MethodName)) ∈ lw_tbl := zt_in1 (i := 130) rfl
theorem tw_371 : (Jvm.Cond.instanceMethod ({ cls := "StrataClient$Server", name := "expect", desc := "(J)V" } : Jvm.MethodName)) ∈ lw_tbl := zt_in1 (i := 131) rfl
theorem tw_372 : (Jvm.Cond.selects "StrataClient$Server" ({ cls := "StrataClient$Server", name := "expect", desc := "(J)V" } : Jvm.MethodName) ({ cls := "StrataClient$Server", name := "expect", desc := "(J)V" } : Jvm.MethodName)) ∈ lw_tbl := zt_in1 (i := 132) rfl
theorem tw_373 : (Jvm.Cond.code ({ cls := "StrataClient$Server", name := "expect", desc := "(J)V" } : Jvm.MethodName) prog_3_method_2_code (3 : Nat) (Option.none : Option Jvm.ClassFile.FieldType)) ∈ lw_tbl := zt_in1 (i := 133) rfl
theorem tw_374 : (Jvm.Cond.methodLink "StrataClientLaw" (109 : Nat) ({ cls := "StrataClientLaw", name := "receive", desc := "(LStrataClient;I[J)I" } : Jvm.MethodName)) ∈ lw_tbl := zt_in1 (i := 134) rfl
theorem tw_375 : (Jvm.Cond.static ({ cls := "StrataClientLaw", name := "receive", desc := "(LStrataClient;I[J)I" } : Jvm.MethodName)) ∈ lw_tbl := zt_in1 (i := 135) rfl
theorem tw_376 : (Jvm.Cond.codeWith ({ cls := "StrataClientLaw", name := "receive", desc := "(LStrataClient;I[J)I" } : Jvm.MethodName) method_7_code (4 : Nat) (Option.some Jvm.ClassFile.FieldType.int) [((0 : Nat), (9 : Nat), (12 : Nat), (19 : Nat)), ((0 : Nat), (9 : Nat), (15 : Nat), (13 : Nat)), ((0 : Nat), (9 : Nat), (18 : Nat), (25 : Nat))]) ∈ lw_tbl := zt_in1 (i := 136) rfl
theorem tw_377 : (Jvm.Cond.methodLink "StrataClientLaw" (31 : Nat) ({ cls := "StrataClient", name := "receive", desc := "(I)I" } : Jvm.MethodName)) ∈ lw_tbl := zt_in1 (i := 137) rfl
theorem tw_378 : (Jvm.Cond.instanceMethod ({ cls := "StrataClient", name := "receive", desc := "(I)I" } : Jvm.MethodName)) ∈ lw_tbl := zt_in1 (i := 138) rfl
theorem tw_379 : (Jvm.Cond.selects "StrataClient" ({ cls := "StrataClient", name := "receive", desc := "(I)I" } : Jvm.MethodName) ({ cls := "StrataClient", name := "receive", desc := "(I)I" } : Jvm.MethodName)) ∈ lw_tbl := zt_in1 (i := 139) rfl
theorem tw_380 : (Jvm.Cond.code ({ cls := "StrataClient", name := "receive", desc := "(I)I" } : Jvm.MethodName) prog_1_method_8_code (3 : Nat) (Option.some Jvm.ClassFile.FieldType.int)) ∈ lw_tbl := zt_in1 (i := 140) rfl
theorem tw_381 : (Jvm.Cond.methodLink "StrataClient" (86 : Nat) ({ cls := "StrataClient$Packet", name := "isAnswer", desc := "()Z" } : Jvm.MethodName)) ∈ lw_tbl := zt_in1 (i := 141) rfl
theorem tw_382 : (Jvm.Cond.instanceMethod ({ cls := "StrataClient$Packet", name := "isAnswer", desc := "()Z" } : Jvm.MethodName)) ∈ lw_tbl := zt_in1 (i := 142) rfl
theorem tw_383 : (Jvm.Cond.selects "StrataClient$Packet" ({ cls := "StrataClient$Packet", name := "isAnswer", desc := "()Z" } : Jvm.MethodName) ({ cls := "StrataClient$Packet", name := "isAnswer", desc := "()Z" } : Jvm.MethodName)) ∈ lw_tbl := zt_in1 (i := 143) rfl
theorem tw_384 : (Jvm.Cond.code ({ cls := "StrataClient$Packet", name := "isAnswer", desc := "()Z" } : Jvm.MethodName) prog_2_method_4_code (2 : Nat) (Option.some Jvm.ClassFile.FieldType.boolean)) ∈ lw_tbl := zt_in1 (i := 144) rfl
theorem tw_385 : (Jvm.Cond.methodLink "StrataClient$Packet" (13 : Nat) ({ cls := "StrataClient$Packet", name := "read", desc := "(II)J" } : Jvm.MethodName)) ∈ lw_tbl := zt_in1 (i := 145) rfl
theorem tw_386 : (Jvm.Cond.instanceMethod ({ cls := "StrataClient$Packet", name := "read", desc := "(II)J" } : Jvm.MethodName)) ∈ lw_tbl := zt_in1 (i := 146) rfl
theorem tw_387 : (Jvm.Cond.selects "StrataClient$Packet" ({ cls := "StrataClient$Packet", name := "read", desc := "(II)J" } : Jvm.MethodName) ({ cls := "StrataClient$Packet", name := "read", desc := "(II)J" } : Jvm.MethodName)) ∈ lw_tbl := zt_in1 (i := 147) rfl
theorem tw_388 : (Jvm.Cond.code ({ cls := "StrataClient$Packet", name := "read", desc := "(II)J" } : Jvm.MethodName) prog_2_method_3_code (6 : Nat) (Option.some Jvm.ClassFile.FieldType.long)) ∈ lw_tbl := zt_in1 (i := 148) rfl
theorem tw_389 : (Jvm.Cond.methodLink "StrataClient" (90 : Nat) ({ cls := "StrataClient$Packet", name := "read", desc := "(II)J" } : Jvm.MethodName)) ∈ lw_tbl := zt_in1 (i := 149) rfl
theorem tw_390 : (Jvm.Cond.methodLink "StrataClient" (94 : Nat) ({ cls := "StrataClient$Packet", name := "stratum", desc := "()I" } : Jvm.MethodName)) ∈ lw_tbl := zt_in1 (i := 150) rfl
theorem tw_391 : (Jvm.Cond.instanceMethod ({ cls := "StrataClient$Packet", name := "stratum", desc := "()I" } : Jvm.MethodName)) ∈ lw_tbl := zt_in1 (i := 151) rfl
theorem tw_392 : (Jvm.Cond.selects "StrataClient$Packet" ({ cls := "StrataClient$Packet", name := "stratum", desc := "()I" } : Jvm.MethodName) ({ cls := "StrataClient$Packet", name := "stratum", desc := "()I" } : Jvm.MethodName)) ∈ lw_tbl := zt_in1 (i := 152) rfl
theorem tw_393 : (Jvm.Cond.code ({ cls := "StrataClient$Packet", name := "stratum", desc := "()I" } : Jvm.MethodName) prog_2_method_6_code (1 : Nat) (Option.some Jvm.ClassFile.FieldType.int)) ∈ lw_tbl := zt_in1 (i := 153) rfl
theorem tw_394 : (Jvm.Cond.methodLink "StrataClient" (98 : Nat) ({ cls := "StrataClient$Server", name := "obey", desc := "(J)V" } : Jvm.MethodName)) ∈ lw_tbl := zt_in1 (i := 154) rfl
theorem tw_395 : (Jvm.Cond.instanceMethod ({ cls := "StrataClient$Server", name := "obey", desc := "(J)V" } : Jvm.MethodName)) ∈ lw_tbl := zt_in1 (i := 155) rfl
theorem tw_396 : (Jvm.Cond.selects "StrataClient$Server" ({ cls := "StrataClient$Server", name := "obey", desc := "(J)V" } : Jvm.MethodName) ({ cls := "StrataClient$Server", name := "obey", desc := "(J)V" } : Jvm.MethodName)) ∈ lw_tbl := zt_in1 (i := 156) rfl
theorem tw_397 : (Jvm.Cond.code ({ cls := "StrataClient$Server", name := "obey", desc := "(J)V" } : Jvm.MethodName) prog_3_method_3_code (3 : Nat) (Option.none : Option Jvm.ClassFile.FieldType)) ∈ lw_tbl := zt_in1 (i := 157) rfl
theorem tw_398 : (Jvm.Cond.constantLong "StrataClient$Server" (49 : Nat) (1145392729 : Int64)) ∈ lw_tbl := zt_in1 (i := 158) rfl
theorem tw_399 : (Jvm.Cond.constantLong "StrataClient$Server" (51 : Nat) (1381192786 : Int64)) ∈ lw_tbl := zt_in1 (i := 159) rfl
theorem tw_400 : (Jvm.Cond.constantLong "StrataClient$Server" (53 : Nat) (1380013125 : Int64)) ∈ lw_tbl := zt_in1 (i := 160) rfl
theorem tw_401 : (Jvm.Cond.methodLink "StrataClient$Server" (55 : Nat) ({ cls := "StrataClient$Server", name := "pollLater", desc := "()V" } : Jvm.MethodName)) ∈ lw_tbl := zt_in1 (i := 161) rfl
theorem tw_402 : (Jvm.Cond.instanceMethod ({ cls := "StrataClient$Server", name := "pollLater", desc := "()V" } : Jvm.MethodName)) ∈ lw_tbl := zt_in1 (i := 162) rfl
theorem tw_403 : (Jvm.Cond.selects "StrataClient$Server" ({ cls := "StrataClient$Server", name := "pollLater", desc := "()V" } : Jvm.MethodName) ({ cls := "StrataClient$Server", name := "pollLater", desc := "()V" } : Jvm.MethodName)) ∈ lw_tbl := zt_in1 (i := 163) rfl
theorem tw_404 : (Jvm.Cond.code ({ cls := "StrataClient$Server", name := "pollLater", desc := "()V" } : Jvm.MethodName) prog_3_method_4_code (1 : Nat) (Option.none : Option Jvm.ClassFile.FieldType)) ∈ lw_tbl := zt_in1 (i := 164) rfl
theorem tw_405 : (Jvm.Cond.methodLink "StrataClient$Server" (58 : Nat) ({ cls := "java/lang/Math", name := "min", desc := "(II)I" } : Jvm.MethodName)) ∈ lw_tbl := zt_in1 (i := 165) rfl
theorem tw_406 : (Jvm.Cond.static ({ cls := "java/lang/Math", name := "min", desc := "(II)I" } : Jvm.MethodName)) ∈ lw_tbl := zt_in1 (i := 166) rfl
theorem tw_407 : (Jvm.Cond.code ({ cls := "java/lang/Math", name := "min", desc := "(II)I" } : Jvm.MethodName) prog_12_method_69_code (2 : Nat) (Option.some Jvm.ClassFile.FieldType.int)) ∈ lw_tbl := zt_in1 (i := 167) rfl
theorem tw_408 : (Jvm.Cond.methodLink "StrataClient" (101 : Nat) ({ cls := "StrataClient$Packet", name := "isSynchronized", desc := "()Z" } : Jvm.MethodName)) ∈ lw_tbl := zt_in1 (i := 168) rfl
theorem tw_409 : (Jvm.Cond.instanceMethod ({ cls := "StrataClient$Packet", name := "isSynchronized", desc := "()Z" } : Jvm.MethodName)) ∈ lw_tbl := zt_in1 (i := 169) rfl
theorem tw_410 : (Jvm.Cond.selects "StrataClient$Packet" ({ cls := "StrataClient$Packet", name := "isSynchronized", desc := "()Z" } : Jvm.MethodName) ({ cls := "StrataClient$Packet", name := "isSynchronized", desc := "()Z" } : Jvm.MethodName)) ∈ lw_tbl := zt_in1 (i := 170) rfl
theorem tw_411 : (Jvm.Cond.code ({ cls := "StrataClient$Packet", name := "isSynchronized", desc := "()Z" } : Jvm.MethodName) prog_2_method_5_code (1 : Nat) (Option.some Jvm.ClassFile.FieldType.boolean)) ∈ lw_tbl := zt_in1 (i := 171) rfl
theorem tw_412 : (Jvm.Cond.methodLink "StrataClient$Packet" (17 : Nat) ({ cls := "StrataClient$Packet", name := "stratum", desc := "()I" } : Jvm.MethodName)) ∈ lw_tbl := zt_in1 (i := 172) rfl
theorem tw_413 : (Jvm.Cond.methodLink "StrataClient" (104 : Nat) ({ cls := "StrataClient", name := "takeTimes", desc := "(LStrataClient$Server;)I" } : Jvm.MethodName)) ∈ lw_tbl := zt_in1 (i := 173) rfl
theorem tw_414 : (Jvm.Cond.privateMethod ({ cls := "StrataClient", name := "takeTimes", desc := "(LStrataClient$Server;)I" } : Jvm.MethodName)) ∈ lw_tbl := zt_in1 (i := 174) rfl
theorem tw_415 : (Jvm.Cond.instanceMethod ({ cls := "StrataClient", name := "takeTimes", desc := "(LStrataClient$Server;)I" } : Jvm.MethodName)) ∈ lw_tbl := zt_in1 (i := 175) rfl
theorem tw_416 : (Jvm.Cond.code ({ cls := "StrataClient", name := "takeTimes", desc := "(LStrataClient$Server;)I" } : Jvm.MethodName) prog_1_method_24_code (14 : Nat) (Option.some Jvm.ClassFile.FieldType.int)) ∈ lw_tbl := zt_in1 (i := 176) rfl
theorem tw_417 : (Jvm.Cond.methodLink "StrataClient" (183 : Nat) ({ cls := "StrataClient", name := "halfOfSum", desc := "(JJ)J" } : Jvm.MethodName)) ∈ lw_tbl := zt_in1 (i := 177) rfl
theorem tw_418 : (Jvm.Cond.static ({ cls := "StrataClient", name := "halfOfSum", desc := "(JJ)J" } : Jvm.MethodName)) ∈ lw_tbl := zt_in1 (i := 178) rfl
theorem tw_419 : (Jvm.Cond.code ({ cls := "StrataClient", name := "halfOfSum", desc := "(JJ)J" } : Jvm.MethodName) prog_1_method_25_code (4 : Nat) (Option.some Jvm.ClassFile.FieldType.long)) ∈ lw_tbl := zt_in1 (i := 179) rfl
theorem tw_420 : (Jvm.Cond.constantLong "StrataClient" (186 : Nat) (4096 : Int64)) ∈ lw_tbl := zt_in1 (i := 180) rfl
theorem tw_421 : (Jvm.Cond.constantLong "StrataClient" (188 : Nat) (-1152921504606846976 : Int64)) ∈ lw_tbl := zt_in1 (i := 181) rfl
theorem tw_422 : (Jvm.Cond.constantLong "StrataClient" (190 : Nat) (1152921504606846976 : Int64)) ∈ lw_tbl := zt_in1 (i := 182) rfl
theorem tw_423 : (Jvm.Cond.methodLink "StrataClient" (192 : Nat) ({ cls := "StrataClient$Packet", name := "rootDelay", desc := "()J" } : Jvm.MethodName)) ∈ lw_tbl := zt_in1 (i := 183) rfl
theorem tw_424 : (Jvm.Cond.instanceMethod ({ cls := "StrataClient$Packet", name := "rootDelay", desc := "()J" } : Jvm.MethodName)) ∈ lw_tbl := zt_in1 (i := 184) rfl
theorem tw_425 : (Jvm.Cond.selects "StrataClient$Packet" ({ cls := "StrataClient$Packet", name := "rootDelay", desc := "()J" } : Jvm.MethodName) ({ cls := "StrataClient$Packet", name := "rootDelay", desc := "()J" } : Jvm.MethodName)) ∈ lw_tbl := zt_in1 (i := 185) rfl
theorem tw_426 : (Jvm.Cond.code ({ cls := "StrataClient$Packet", name := "rootDelay", desc := "()J" } : Jvm.MethodName) prog_2_method_7_code (1 : Nat) (Option.some Jvm.ClassFile.FieldType.long)) ∈ lw_tbl := zt_in1 (i := 186) rfl
theorem tw_427 : (Jvm.Cond.constantLong "StrataClient$Packet" (21 : Nat) (65536 : Int64)) ∈ lw_tbl := zt_in1 (i := 187) rfl
theorem tw_428 : (Jvm.Cond.methodLink "StrataClient" (195 : Nat) ({ cls := "StrataClient$Packet", name := "rootDispersion", desc := "()J" } : Jvm.MethodName)) ∈ lw_tbl := zt_in1 (i := 188) rfl
theorem tw_429 : (Jvm.Cond.instanceMethod ({ cls := "StrataClient$Packet", name := "rootDispersion", desc := "()J" } : Jvm.MethodName)) ∈ lw_tbl := zt_in1 (i := 189) rfl
theorem tw_430 : (Jvm.Cond.selects "StrataClient$Packet" ({ cls := "StrataClient$Packet", name := "rootDispersion", desc := "()J" } : Jvm.MethodName) ({ cls := "StrataClient$Packet", name := "rootDispersion", desc := "()J" } : Jvm.MethodName)) ∈ lw_tbl := zt_in1 (i := 190) rfl
theorem tw_431 : (Jvm.Cond.code ({ cls := "StrataClient$Packet", name := "rootDispersion", desc := "()J" } : Jvm.MethodName) prog_2_method_8_code (1 : Nat) (Option.some Jvm.ClassFile.FieldType.long)) ∈ lw_tbl := zt_in1 (i := 191) rfl
theorem tw_432 : (Jvm.Cond.methodLink "StrataClient" (198 : Nat) ({ cls := "StrataClient$Server", name := "keepRoot", desc := "(IJJ)V" } : Jvm.MethodName)) ∈ lw_tbl := zt_in1 (i := 192) rfl
theorem tw_433 : (Jvm.Cond.instanceMethod ({ cls := "StrataClient$Server", name := "keepRoot", desc := "(IJJ)V" } : Jvm.MethodName)) ∈ lw_tbl := zt_in1 (i := 193) rfl
theorem tw_434 : (Jvm.Cond.selects "StrataClient$Server" ({ cls := "StrataClient$Server", name := "keepRoot", desc := "(IJJ)V" } : Jvm.MethodName) ({ cls := "StrataClient$Server", name := "keepRoot", desc := "(IJJ)V" } : Jvm.MethodName)) ∈ lw_tbl := zt_in1 (i := 194) rfl
theorem tw_435 : (Jvm.Cond.code ({ cls := "StrataClient$Server", name := "keepRoot", desc := "(IJJ)V" } : Jvm.MethodName) prog_3_method_6_code (6 : Nat) (Option.none : Option Jvm.ClassFile.FieldType)) ∈ lw_tbl := zt_in1 (i := 195) rfl
theorem tw_436 : (Jvm.Cond.methodLink "StrataClient" (202 : Nat) ({ cls := "StrataClient$Server", name := "keepSample", desc := "(JJJ)V" } : Jvm.MethodName)) ∈ lw_tbl := zt_in1 (i := 196) rfl
theorem tw_437 : (Jvm.Cond.instanceMethod ({ cls := "StrataClient$Server", name := "keepSample", desc := "(JJJ)V" } : Jvm.MethodName)) ∈ lw_tbl := zt_in1 (i := 197) rfl
theorem tw_438 : (Jvm.Cond.selects "StrataClient$Server" ({ cls := "StrataClient$Server", name := "keepSample", desc := "(JJJ)V" } : Jvm.MethodName) ({ cls := "StrataClient$Server", name := "keepSample", desc := "(JJJ)V" } : Jvm.MethodName)) ∈ lw_tbl := zt_in1 (i := 198) rfl
theorem tw_439 : (Jvm.Cond.code ({ cls := "StrataClient$Server", name := "keepSample", desc := "(JJJ)V" } : Jvm.MethodName) prog_3_method_7_code (8 : Nat) (Option.none : Option Jvm.ClassFile.FieldType)) ∈ lw_tbl := zt_in1 (i := 199) rfl
theorem tw_440 : (Jvm.Cond.methodLink "StrataClientLaw" (112 : Nat) ({ cls := "StrataClientLaw", name := "reach", desc := "(LStrataClient;I[J)I" } : Jvm.MethodName)) ∈ lw_tbl := zt_in1 (i := 200) rfl
theorem tw_441 : (Jvm.Cond.static ({ cls := "StrataClientLaw", name := "reach", desc := "(LStrataClient;I[J)I" } : Jvm.MethodName)) ∈ lw_tbl := zt_in1 (i := 201) rfl
theorem tw_442 : (Jvm.Cond.codeWith ({ cls := "StrataClientLaw", name := "reach", desc := "(LStrataClient;I[J)I" } : Jvm.MethodName) method_8_code (4 : Nat) (Option.some Jvm.ClassFile.FieldType.int) [((0 : Nat), (9 : Nat), (12 : Nat), (19 : Nat))]) ∈ lw_tbl := zt_in1 (i := 202) rfl
theorem tw_443 : (Jvm.Cond.methodLink "StrataClientLaw" (35 : Nat) ({ cls := "StrataClient", name := "reach", desc := "(I)I" } : Jvm.MethodName)) ∈ lw_tbl := zt_in1 (i := 203) rfl
theorem tw_444 : (Jvm.Cond.instanceMethod ({ cls := "StrataClient", name := "reach", desc := "(I)I" } : Jvm.MethodName)) ∈ lw_tbl := zt_in1 (i := 204) rfl
theorem tw_445 : (Jvm.Cond.selects "StrataClient" ({ cls := "StrataClient", name := "reach", desc := "(I)I" } : Jvm.MethodName) ({ cls := "StrataClient", name := "reach", desc := "(I)I" } : Jvm.MethodName)) ∈ lw_tbl := zt_in1 (i := 205) rfl
theorem tw_446 : (Jvm.Cond.code ({ cls := "StrataClient", name := "reach", desc := "(I)I" } : Jvm.MethodName) prog_1_method_9_code (3 : Nat) (Option.some Jvm.ClassFile.FieldType.int)) ∈ lw_tbl := zt_in1 (i := 206) rfl
theorem tw_447 : (Jvm.Cond.methodLink "StrataClientLaw" (115 : Nat) ({ cls := "StrataClientLaw", name := "poll", desc := "(LStrataClient;I[J)I" } : Jvm.MethodName)) ∈ lw_tbl := zt_in1 (i := 207) rfl
theorem tw_448 : (Jvm.Cond.static ({ cls := "StrataClientLaw", name := "poll", desc := "(LStrataClient;I[J)I" } : Jvm.MethodName)) ∈ lw_tbl := zt_in1 (i := 208) rfl
theorem tw_449 : (Jvm.Cond.codeWith ({ cls := "StrataClientLaw", name := "poll", desc := "(LStrataClient;I[J)I" } : Jvm.MethodName) method_9_code (4 : Nat) (Option.some Jvm.ClassFile.FieldType.int) [((0 : Nat), (9 : Nat), (12 : Nat), (19 : Nat))]) ∈ lw_tbl := zt_in1 (i := 209) rfl
theorem tw_450 : (Jvm.Cond.methodLink "StrataClientLaw" (38 : Nat) ({ cls := "StrataClient", name := "poll", desc := "(I)I" } : Jvm.MethodName)) ∈ lw_tbl := zt_in1 (i := 210) rfl
theorem tw_451 : (Jvm.Cond.instanceMethod ({ cls := "StrataClient", name := "poll", desc := "(I)I" } : Jvm.MethodName)) ∈ lw_tbl := zt_in1 (i := 211) rfl
theorem tw_452 : (Jvm.Cond.selects "StrataClient" ({ cls := "StrataClient", name := "poll", desc := "(I)I" } : Jvm.MethodName) ({ cls := "StrataClient", name := "poll", desc := "(I)I" } : Jvm.MethodName)) ∈ lw_tbl := zt_in1 (i := 212) rfl
theorem tw_453 : (Jvm.Cond.code ({ cls := "StrataClient", name := "poll", desc := "(I)I" } : Jvm.MethodName) prog_1_method_10_code (2 : Nat) (Option.some Jvm.ClassFile.FieldType.int)) ∈ lw_tbl := zt_in1 (i := 213) rfl
theorem tw_454 : (Jvm.Cond.methodLink "StrataClientLaw" (118 : Nat) ({ cls := "StrataClientLaw", name := "samples", desc := "(LStrataClient;I[J)I" } : Jvm.MethodName)) ∈ lw_tbl := zt_in1 (i := 214) rfl
theorem tw_455 : (Jvm.Cond.static ({ cls := "StrataClientLaw", name := "samples", desc := "(LStrataClient;I[J)I" } : Jvm.MethodName)) ∈ lw_tbl := zt_in1 (i := 215) rfl
theorem tw_456 : (Jvm.Cond.codeWith ({ cls := "StrataClientLaw", name := "samples", desc := "(LStrataClient;I[J)I" } : Jvm.MethodName) method_10_code (4 : Nat) (Option.some Jvm.ClassFile.FieldType.int) [((0 : Nat), (9 : Nat), (12 : Nat), (19 : Nat))]) ∈ lw_tbl := zt_in1 (i := 216) rfl
theorem tw_457 : (Jvm.Cond.methodLink "StrataClientLaw" (41 : Nat) ({ cls := "StrataClient", name := "samples", desc := "(I)I" } : Jvm.MethodName)) ∈ lw_tbl := zt_in1 (i := 217) rfl
theorem tw_458 : (Jvm.Cond.instanceMethod ({ cls := "StrataClient", name := "samples", desc := "(I)I" } : Jvm.MethodName)) ∈ lw_tbl := zt_in1 (i := 218) rfl
theorem tw_459 : (Jvm.Cond.selects "StrataClient" ({ cls := "StrataClient", name := "samples", desc := "(I)I" } : Jvm.MethodName) ({ cls := "StrataClient", name := "samples", desc := "(I)I" } : Jvm.MethodName)) ∈ lw_tbl := zt_in1 (i := 219) rfl
theorem tw_460 : (Jvm.Cond.code ({ cls := "StrataClient", name := "samples", desc := "(I)I" } : Jvm.MethodName) prog_1_method_11_code (2 : Nat) (Option.some Jvm.ClassFile.FieldType.int)) ∈ lw_tbl := zt_in1 (i := 220) rfl
theorem tw_461 : (Jvm.Cond.methodLink "StrataClientLaw" (121 : Nat) ({ cls := "StrataClientLaw", name := "offset", desc := "(LStrataClient;I[J)I" } : Jvm.MethodName)) ∈ lw_tbl := zt_in1 (i := 221) rfl
theorem tw_462 : (Jvm.Cond.static ({ cls := "StrataClientLaw", name := "offset", desc := "(LStrataClient;I[J)I" } : Jvm.MethodName)) ∈ lw_tbl := zt_in1 (i := 222) rfl
theorem tw_463 : (Jvm.Cond.codeWith ({ cls := "StrataClientLaw", name := "offset", desc := "(LStrataClient;I[J)I" } : Jvm.MethodName) method_11_code (4 : Nat) (Option.some Jvm.ClassFile.FieldType.int) [((0 : Nat), (8 : Nat), (11 : Nat), (19 : Nat)), ((0 : Nat), (8 : Nat), (14 : Nat), (47 : Nat))]) ∈ lw_tbl := zt_in1 (i := 223) rfl
theorem tw_464 : (Jvm.Cond.classLink "StrataClientLaw" (47 : Nat) "java/util/NoSuchElementException") ∈ lw_tbl := zt_in1 (i := 224) rfl
theorem tw_465 : (Jvm.Cond.methodLink "StrataClientLaw" (44 : Nat) ({ cls := "StrataClient", name := "offset", desc := "(I)J" } : Jvm.MethodName)) ∈ lw_tbl := zt_in1 (i := 225) rfl
theorem tw_466 : (Jvm.Cond.instanceMethod ({ cls := "StrataClient", name := "offset", desc := "(I)J" } : Jvm.MethodName)) ∈ lw_tbl := zt_in1 (i := 226) rfl
theorem tw_467 : (Jvm.Cond.selects "StrataClient" ({ cls := "StrataClient", name := "offset", desc := "(I)J" } : Jvm.MethodName) ({ cls := "StrataClient", name := "offset", desc := "(I)J" } : Jvm.MethodName)) ∈ lw_tbl := zt_in1 (i := 227) rfl
theorem tw_468 : (Jvm.Cond.code ({ cls := "StrataClient", name := "offset", desc := "(I)J" } : Jvm.MethodName) prog_1_method_12_code (2 : Nat) (Option.some Jvm.ClassFile.FieldType.long)) ∈ lw_tbl := zt_in1 (i := 228) rfl
theorem tw_469 : (Jvm.Cond.methodLink "StrataClient" (118 : Nat) ({ cls := "StrataClient", name := "sampledAt", desc := "(I)LStrataClient$Server;" } : Jvm.MethodName)) ∈ lw_tbl := zt_in1 (i := 229) rfl
theorem tw_470 : (Jvm.Cond.privateMethod ({ cls := "StrataClient", name := "sampledAt", desc := "(I)LStrataClient$Server;" } : Jvm.MethodName)) ∈ lw_tbl := zt_in1 (i := 230) rfl
theorem tw_471 : (Jvm.Cond.instanceMethod ({ cls := "StrataClient", name := "sampledAt", desc := "(I)LStrataClient$Server;" } : Jvm.MethodName)) ∈ lw_tbl := zt_in1 (i := 231) rfl
theorem tw_472 : (Jvm.Cond.code ({ cls := "StrataClient", name := "sampledAt", desc := "(I)LStrataClient$Server;" } : Jvm.MethodName) prog_1_method_23_code (3 : Nat) (Option.some (Jvm.ClassFile.FieldType.object "StrataClient$Server"))) ∈ lw_tbl := zt_in1 (i := 232) rfl
theorem tw_473 : (Jvm.Cond.classLink "StrataClient" (144 : Nat) "java/util/NoSuchElementException") ∈ lw_tbl := zt_in1 (i := 233) rfl
theorem tw_474 : (Jvm.Cond.instantiable "java/util/NoSuchElementException" (6 : Nat)) ∈ lw_tbl := zt_in1 (i := 234) rfl
theorem tw_475 : (Jvm.Cond.castable "java/util/NoSuchElementException" "java/util/NoSuchElementException") ∈ lw_tbl := zt_in1 (i := 235) rfl
theorem tw_476 : (Jvm.Cond.selects "java/util/NoSuchElementException" ({ cls := "java/lang/Throwable", name := "fillInStackTrace", desc := "(I)Ljava/lang/Throwable;" } : Jvm.MethodName) ({ cls := "java/lang/Throwable", name := "fillInStackTrace", desc := "(I)Ljava/lang/Throwable;" } : Jvm.MethodName)) ∈ lw_tbl := zt_in1 (i := 236) rfl
theorem tw_477 : (Jvm.Cond.lays "java/util/NoSuchElementException" "java/lang/Throwable" "cause" "Ljava/lang/Throwable;") ∈ lw_tbl := zt_in1 (i := 237) rfl
theorem tw_478 : (Jvm.Cond.lays "java/util/NoSuchElementException" "java/lang/Throwable" "stackTrace" "[Ljava/lang/StackTraceElement;") ∈ lw_tbl := zt_in1 (i := 238) rfl
theorem tw_479 : (Jvm.Cond.lays "java/util/NoSuchElementException" "java/lang/Throwable" "suppressedExceptions" "Ljava/util/List;") ∈ lw_tbl := zt_in1 (i := 239) rfl
theorem tw_480 : (Jvm.Cond.lays "java/util/NoSuchElementException" "java/lang/Throwable" "detailMessage" "Ljava/lang/String;") ∈ lw_tbl := zt_in2 (i := 0) rfl
theorem tw_481 : (Jvm.Cond.lays "java/util/NoSuchElementException" "java/lang/Throwable" "backtrace" "Ljava/lang/Object;") ∈ lw_tbl := zt_in2 (i := 1) rfl
theorem tw_482 : (Jvm.Cond.methodLink "StrataClient" (146 : Nat) ({ cls := "java/util/NoSuchElementException", name := "<init>", desc := "()V" } : Jvm.MethodName)) ∈ lw_tbl := zt_in2 (i := 2) rfl
theorem tw_483 : (Jvm.Cond.instanceMethod ({ cls := "java/util/NoSuchElementException", name := "<init>", desc := "()V" } : Jvm.MethodName)) ∈ lw_tbl := zt_in2 (i := 3) rfl
theorem tw_484 : (Jvm.Cond.code ({ cls := "java/util/NoSuchElementException", name := "<init>", desc := "()V" } : Jvm.MethodName) prog_16_method_1_code (1 : Nat) (Option.none : Option Jvm.ClassFile.FieldType)) ∈ lw_tbl := zt_in2 (i := 4) rfl
theorem tw_485 : (Jvm.Cond.methodLink "java/util/NoSuchElementException" (1 : Nat) ({ cls := "java/lang/RuntimeException", name := "<init>", desc := "()V" } : Jvm.MethodName)) ∈ lw_tbl := zt_in2 (i := 5) rfl
theorem tw_486 : (Jvm.Cond.lays "java/util/NoSuchElementException" "java/lang/Throwable" "depth" "I") ∈ lw_tbl := zt_in2 (i := 6) rfl
theorem tw_487 : (Jvm.Cond.superclass "java/util/NoSuchElementException" "java/lang/RuntimeException") ∈ lw_tbl := zt_in2 (i := 7) rfl
theorem tw_488 : (Jvm.Cond.methodLink "StrataClient" (121 : Nat) ({ cls := "StrataClient$Server", name := "bestOffset", desc := "(J)J" } : Jvm.MethodName)) ∈ lw_tbl := zt_in2 (i := 8) rfl
theorem tw_489 : (Jvm.Cond.methodLink "StrataClientLaw" (124 : Nat) ({ cls := "StrataClientLaw", name := "delay", desc := "(LStrataClient;I[J)I" } : Jvm.MethodName)) ∈ lw_tbl := zt_in2 (i := 9) rfl
theorem tw_490 : (Jvm.Cond.static ({ cls := "StrataClientLaw", name := "delay", desc := "(LStrataClient;I[J)I" } : Jvm.MethodName)) ∈ lw_tbl := zt_in2 (i := 10) rfl
theorem tw_491 : (Jvm.Cond.codeWith ({ cls := "StrataClientLaw", name := "delay", desc := "(LStrataClient;I[J)I" } : Jvm.MethodName) method_12_code (4 : Nat) (Option.some Jvm.ClassFile.FieldType.int) [((0 : Nat), (8 : Nat), (11 : Nat), (19 : Nat)), ((0 : Nat), (8 : Nat), (14 : Nat), (47 : Nat))]) ∈ lw_tbl := zt_in2 (i := 11) rfl
theorem tw_492 : (Jvm.Cond.methodLink "StrataClientLaw" (49 : Nat) ({ cls := "StrataClient", name := "delay", desc := "(I)J" } : Jvm.MethodName)) ∈ lw_tbl := zt_in2 (i := 12) rfl
theorem tw_493 : (Jvm.Cond.instanceMethod ({ cls := "StrataClient", name := "delay", desc := "(I)J" } : Jvm.MethodName)) ∈ lw_tbl := zt_in2 (i := 13) rfl
theorem tw_494 : (Jvm.Cond.selects "StrataClient" ({ cls := "StrataClient", name := "delay", desc := "(I)J" } : Jvm.MethodName) ({ cls := "StrataClient", name := "delay", desc := "(I)J" } : Jvm.MethodName)) ∈ lw_tbl := zt_in2 (i := 14) rfl
theorem tw_495 : (Jvm.Cond.code ({ cls := "StrataClient", name := "delay", desc := "(I)J" } : Jvm.MethodName) prog_1_method_13_code (2 : Nat) (Option.some Jvm.ClassFile.FieldType.long)) ∈ lw_tbl := zt_in2 (i := 15) rfl
theorem tw_496 : (Jvm.Cond.methodLink "StrataClient" (125 : Nat) ({ cls := "StrataClient$Server", name := "bestDelay", desc := "(J)J" } : Jvm.MethodName)) ∈ lw_tbl := zt_in2 (i := 16) rfl
theorem tw_497 : (Jvm.Cond.instanceMethod ({ cls := "StrataClient$Server", name := "bestDelay", desc := "(J)J" } : Jvm.MethodName)) ∈ lw_tbl := zt_in2 (i := 17) rfl
theorem tw_498 : (Jvm.Cond.selects "StrataClient$Server" ({ cls := "StrataClient$Server", name := "bestDelay", desc := "(J)J" } : Jvm.MethodName) ({ cls := "StrataClient$Server", name := "bestDelay", desc := "(J)J" } : Jvm.MethodName)) ∈ lw_tbl := zt_in2 (i := 18) rfl
theorem tw_499 : (Jvm.Cond.code ({ cls := "StrataClient$Server", name := "bestDelay", desc := "(J)J" } : Jvm.MethodName) prog_3_method_10_code (3 : Nat) (Option.some Jvm.ClassFile.FieldType.long)) ∈ lw_tbl := zt_in2 (i := 19) rfl
theorem tw_500 : (Jvm.Cond.methodLink "StrataClientLaw" (127 : Nat) ({ cls := "StrataClientLaw", name := "jitter", desc := "(LStrataClient;I[J)I" } : Jvm.MethodName)) ∈ lw_tbl := zt_in2 (i := 20) rfl
theorem tw_501 : (Jvm.Cond.static ({ cls := "StrataClientLaw", name := "jitter", desc := "(LStrataClient;I[J)I" } : Jvm.MethodName)) ∈ lw_tbl := zt_in2 (i := 21) rfl
theorem tw_502 : (Jvm.Cond.codeWith ({ cls := "StrataClientLaw", name := "jitter", desc := "(LStrataClient;I[J)I" } : Jvm.MethodName) method_13_code (4 : Nat) (Option.some Jvm.ClassFile.FieldType.int) [((0 : Nat), (8 : Nat), (11 : Nat), (19 : Nat)), ((0 : Nat), (8 : Nat), (14 : Nat), (47 : Nat))]) ∈ lw_tbl := zt_in2 (i := 22) rfl
theorem tw_503 : (Jvm.Cond.methodLink "StrataClientLaw" (52 : Nat) ({ cls := "StrataClient", name := "jitter", desc := "(I)J" } : Jvm.MethodName)) ∈ lw_tbl := zt_in2 (i := 23) rfl
theorem tw_504 : (Jvm.Cond.instanceMethod ({ cls := "StrataClient", name := "jitter", desc := "(I)J" } : Jvm.MethodName)) ∈ lw_tbl := zt_in2 (i := 24) rfl
theorem tw_505 : (Jvm.Cond.selects "StrataClient" ({ cls := "StrataClient", name := "jitter", desc := "(I)J" } : Jvm.MethodName) ({ cls := "StrataClient", name := "jitter", desc := "(I)J" } : Jvm.MethodName)) ∈ lw_tbl := zt_in2 (i := 25) rfl
theorem tw_506 : (Jvm.Cond.code ({ cls := "StrataClient", name := "jitter", desc := "(I)J" } : Jvm.MethodName) prog_1_method_14_code (2 : Nat) (Option.some Jvm.ClassFile.FieldType.long)) ∈ lw_tbl := zt_in2 (i := 26) rfl
theorem tw_507 : (Jvm.Cond.methodLink "StrataClient" (128 : Nat) ({ cls := "StrataClient$Server", name := "jitterAt", desc := "(J)J" } : Jvm.MethodName)) ∈ lw_tbl := zt_in2 (i := 27) rfl
theorem tw_508 : (Jvm.Cond.instanceMethod ({ cls := "StrataClient$Server", name := "jitterAt", desc := "(J)J" } : Jvm.MethodName)) ∈ lw_tbl := zt_in2 (i := 28) rfl
theorem tw_509 : (Jvm.Cond.selects "StrataClient$Server" ({ cls := "StrataClient$Server", name := "jitterAt", desc := "(J)J" } : Jvm.MethodName) ({ cls := "StrataClient$Server", name := "jitterAt", desc := "(J)J" } : Jvm.MethodName)) ∈ lw_tbl := zt_in2 (i := 29) rfl
theorem tw_510 : (Jvm.Cond.code ({ cls := "StrataClient$Server", name := "jitterAt", desc := "(J)J" } : Jvm.MethodName) prog_3_method_11_code (3 : Nat) (Option.some Jvm.ClassFile.FieldType.long)) ∈ lw_tbl := zt_in2 (i := 30) rfl
theorem tw_511 : (Jvm.Cond.methodLink "StrataClientLaw" (130 : Nat) ({ cls := "StrataClientLaw", name := "distance", desc := "(LStrataClient;I[J)I" } : Jvm.MethodName)) ∈ lw_tbl := zt_in2 (i := 31) rfl
theorem tw_512 : (Jvm.Cond.static ({ cls := "StrataClientLaw", name := "distance", desc := "(LStrataClient;I[J)I" } : Jvm.MethodName)) ∈ lw_tbl := zt_in2 (i := 32) rfl
theorem tw_513 : (Jvm.Cond.codeWith ({ cls := "StrataClientLaw", name := "distance", desc := "(LStrataClient;I[J)I" } : Jvm.MethodName) method_14_code (4 : Nat) (Option.some Jvm.ClassFile.FieldType.int) [((0 : Nat), (8 : Nat), (11 : Nat), (19 : Nat)), ((0 : Nat), (8 : Nat), (14 : Nat), (47 : Nat))]) ∈ lw_tbl := zt_in2 (i := 33) rfl
theorem tw_514 : (Jvm.Cond.methodLink "StrataClientLaw" (55 : Nat) ({ cls := "StrataClient", name := "distance", desc := "(I)J" } : Jvm.MethodName)) ∈ lw_tbl := zt_in2 (i := 34) rfl
theorem tw_515 : (Jvm.Cond.instanceMethod ({ cls := "StrataClient", name := "distance", desc := "(I)J" } : Jvm.MethodName)) ∈ lw_tbl := zt_in2 (i := 35) rfl
theorem tw_516 : (Jvm.Cond.selects "StrataClient" ({ cls := "StrataClient", name := "distance", desc := "(I)J" } : Jvm.MethodName) ({ cls := "StrataClient", name := "distance", desc := "(I)J" } : Jvm.MethodName)) ∈ lw_tbl := zt_in2 (i := 36) rfl
theorem tw_517 : (Jvm.Cond.code ({ cls := "StrataClient", name := "distance", desc := "(I)J" } : Jvm.MethodName) prog_1_method_15_code (2 : Nat) (Option.some Jvm.ClassFile.FieldType.long)) ∈ lw_tbl := zt_in2 (i := 37) rfl
theorem tw_518 : (Jvm.Cond.methodLink "StrataClient" (131 : Nat) ({ cls := "StrataClient$Server", name := "rootDistance", desc := "(J)J" } : Jvm.MethodName)) ∈ lw_tbl := zt_in2 (i := 38) rfl
theorem tw_519 : (Jvm.Cond.methodLink "StrataClientLaw" (137 : Nat) ({ cls := "StrataClientLaw", name := "low", desc := "(LStrataClient;[J)I" } : Jvm.MethodName)) ∈ lw_tbl := zt_in2 (i := 39) rfl
theorem tw_520 : (Jvm.Cond.static ({ cls := "StrataClientLaw", name := "low", desc := "(LStrataClient;[J)I" } : Jvm.MethodName)) ∈ lw_tbl := zt_in2 (i := 40) rfl
theorem tw_521 : (Jvm.Cond.codeWith ({ cls := "StrataClientLaw", name := "low", desc := "(LStrataClient;[J)I" } : Jvm.MethodName) method_15_code (3 : Nat) (Option.some Jvm.ClassFile.FieldType.int) [((0 : Nat), (7 : Nat), (10 : Nat), (47 : Nat))]) ∈ lw_tbl := zt_in2 (i := 41) rfl
theorem tw_522 : (Jvm.Cond.methodLink "StrataClientLaw" (58 : Nat) ({ cls := "StrataClient", name := "low", desc := "()J" } : Jvm.MethodName)) ∈ lw_tbl := zt_in2 (i := 42) rfl
theorem tw_523 : (Jvm.Cond.instanceMethod ({ cls := "StrataClient", name := "low", desc := "()J" } : Jvm.MethodName)) ∈ lw_tbl := zt_in2 (i := 43) rfl
theorem tw_524 : (Jvm.Cond.selects "StrataClient" ({ cls := "StrataClient", name := "low", desc := "()J" } : Jvm.MethodName) ({ cls := "StrataClient", name := "low", desc := "()J" } : Jvm.MethodName)) ∈ lw_tbl := zt_in2 (i := 44) rfl
theorem tw_525 : (Jvm.Cond.code ({ cls := "StrataClient", name := "low", desc := "()J" } : Jvm.MethodName) prog_1_method_17_code (1 : Nat) (Option.some Jvm.ClassFile.FieldType.long)) ∈ lw_tbl := zt_in2 (i := 45) rfl
theorem tw_526 : (Jvm.Cond.methodLink "StrataClient" (141 : Nat) ({ cls := "StrataClient$Vote", name := "hasMajority", desc := "()Z" } : Jvm.MethodName)) ∈ lw_tbl := zt_in2 (i := 46) rfl
theorem tw_527 : (Jvm.Cond.instanceMethod ({ cls := "StrataClient$Vote", name := "hasMajority", desc := "()Z" } : Jvm.MethodName)) ∈ lw_tbl := zt_in2 (i := 47) rfl
theorem tw_528 : (Jvm.Cond.selects "StrataClient$Vote" ({ cls := "StrataClient$Vote", name := "hasMajority", desc := "()Z" } : Jvm.MethodName) ({ cls := "StrataClient$Vote", name := "hasMajority", desc := "()Z" } : Jvm.MethodName)) ∈ lw_tbl := zt_in2 (i := 48) rfl
theorem tw_529 : (Jvm.Cond.code ({ cls := "StrataClient$Vote", name := "hasMajority", desc := "()Z" } : Jvm.MethodName) prog_4_method_4_code (1 : Nat) (Option.some Jvm.ClassFile.FieldType.boolean)) ∈ lw_tbl := zt_in2 (i := 49) rfl
theorem tw_530 : (Jvm.Cond.methodLink "StrataClientLaw" (141 : Nat) ({ cls := "StrataClientLaw", name := "high", desc := "(LStrataClient;[J)I" } : Jvm.MethodName)) ∈ lw_tbl := zt_in2 (i := 50) rfl
theorem tw_531 : (Jvm.Cond.static ({ cls := "StrataClientLaw", name := "high", desc := "(LStrataClient;[J)I" } : Jvm.MethodName)) ∈ lw_tbl := zt_in2 (i := 51) rfl
theorem tw_532 : (Jvm.Cond.codeWith ({ cls := "StrataClientLaw", name := "high", desc := "(LStrataClient;[J)I" } : Jvm.MethodName) method_16_code (3 : Nat) (Option.some Jvm.ClassFile.FieldType.int) [((0 : Nat), (7 : Nat), (10 : Nat), (47 : Nat))]) ∈ lw_tbl := zt_in2 (i := 52) rfl
theorem tw_533 : (Jvm.Cond.methodLink "StrataClientLaw" (62 : Nat) ({ cls := "StrataClient", name := "high", desc := "()J" } : Jvm.MethodName)) ∈ lw_tbl := zt_in2 (i := 53) rfl
theorem tw_534 : (Jvm.Cond.instanceMethod ({ cls := "StrataClient", name := "high", desc := "()J" } : Jvm.MethodName)) ∈ lw_tbl := zt_in2 (i := 54) rfl
theorem tw_535 : (Jvm.Cond.selects "StrataClient" ({ cls := "StrataClient", name := "high", desc := "()J" } : Jvm.MethodName) ({ cls := "StrataClient", name := "high", desc := "()J" } : Jvm.MethodName)) ∈ lw_tbl := zt_in2 (i := 55) rfl
theorem tw_536 : (Jvm.Cond.code ({ cls := "StrataClient", name := "high", desc := "()J" } : Jvm.MethodName) prog_1_method_18_code (1 : Nat) (Option.some Jvm.ClassFile.FieldType.long)) ∈ lw_tbl := zt_in2 (i := 56) rfl
theorem tw_537 : (Jvm.Cond.methodLink "StrataClientLaw" (148 : Nat) ({ cls := "StrataClientLaw", name := "peer", desc := "(LStrataClient;[J)I" } : Jvm.MethodName)) ∈ lw_tbl := zt_in2 (i := 57) rfl
theorem tw_538 : (Jvm.Cond.static ({ cls := "StrataClientLaw", name := "peer", desc := "(LStrataClient;[J)I" } : Jvm.MethodName)) ∈ lw_tbl := zt_in2 (i := 58) rfl
theorem tw_539 : (Jvm.Cond.codeWith ({ cls := "StrataClientLaw", name := "peer", desc := "(LStrataClient;[J)I" } : Jvm.MethodName) method_17_code (3 : Nat) (Option.some Jvm.ClassFile.FieldType.int) [((0 : Nat), (8 : Nat), (11 : Nat), (47 : Nat))]) ∈ lw_tbl := zt_in2 (i := 59) rfl
theorem tw_540 : (Jvm.Cond.methodLink "StrataClientLaw" (65 : Nat) ({ cls := "StrataClient", name := "peer", desc := "()I" } : Jvm.MethodName)) ∈ lw_tbl := zt_in2 (i := 60) rfl
theorem tw_541 : (Jvm.Cond.instanceMethod ({ cls := "StrataClient", name := "peer", desc := "()I" } : Jvm.MethodName)) ∈ lw_tbl := zt_in2 (i := 61) rfl
theorem tw_542 : (Jvm.Cond.selects "StrataClient" ({ cls := "StrataClient", name := "peer", desc := "()I" } : Jvm.MethodName) ({ cls := "StrataClient", name := "peer", desc := "()I" } : Jvm.MethodName)) ∈ lw_tbl := zt_in2 (i := 62) rfl
theorem tw_543 : (Jvm.Cond.code ({ cls := "StrataClient", name := "peer", desc := "()I" } : Jvm.MethodName) prog_1_method_20_code (1 : Nat) (Option.some Jvm.ClassFile.FieldType.int)) ∈ lw_tbl := zt_in2 (i := 63) rfl
theorem tw_544 : (Jvm.Cond.methodLink "StrataClient" (156 : Nat) ({ cls := "StrataClient$Vote", name := "agrees", desc := "()Z" } : Jvm.MethodName)) ∈ lw_tbl := zt_in2 (i := 64) rfl
theorem tw_545 : (Jvm.Cond.instanceMethod ({ cls := "StrataClient$Vote", name := "agrees", desc := "()Z" } : Jvm.MethodName)) ∈ lw_tbl := zt_in2 (i := 65) rfl
theorem tw_546 : (Jvm.Cond.selects "StrataClient$Vote" ({ cls := "StrataClient$Vote", name := "agrees", desc := "()Z" } : Jvm.MethodName) ({ cls := "StrataClient$Vote", name := "agrees", desc := "()Z" } : Jvm.MethodName)) ∈ lw_tbl := zt_in2 (i := 66) rfl
theorem tw_547 : (Jvm.Cond.code ({ cls := "StrataClient$Vote", name := "agrees", desc := "()Z" } : Jvm.MethodName) prog_4_method_5_code (1 : Nat) (Option.some Jvm.ClassFile.FieldType.boolean)) ∈ lw_tbl := zt_in2 (i := 67) rfl
theorem tw_548 : (Jvm.Cond.methodLink "StrataClient$Vote" (46 : Nat) ({ cls := "StrataClient$Vote", name := "hasMajority", desc := "()Z" } : Jvm.MethodName)) ∈ lw_tbl := zt_in2 (i := 68) rfl
theorem tw_549 : (Jvm.Cond.methodLink "StrataClient" (159 : Nat) ({ cls := "StrataClient$Vote", name := "choosePeer", desc := "([LStrataClient$Server;)I" } : Jvm.MethodName)) ∈ lw_tbl := zt_in2 (i := 69) rfl
theorem tw_550 : (Jvm.Cond.instanceMethod ({ cls := "StrataClient$Vote", name := "choosePeer", desc := "([LStrataClient$Server;)I" } : Jvm.MethodName)) ∈ lw_tbl := zt_in2 (i := 70) rfl
theorem tw_551 : (Jvm.Cond.selects "StrataClient$Vote" ({ cls := "StrataClient$Vote", name := "choosePeer", desc := "([LStrataClient$Server;)I" } : Jvm.MethodName) ({ cls := "StrataClient$Vote", name := "choosePeer", desc := "([LStrataClient$Server;)I" } : Jvm.MethodName)) ∈ lw_tbl := zt_in2 (i := 71) rfl
theorem tw_552 : (Jvm.Cond.code ({ cls := "StrataClient$Vote", name := "choosePeer", desc := "([LStrataClient$Server;)I" } : Jvm.MethodName) prog_4_method_6_code (4 : Nat) (Option.some Jvm.ClassFile.FieldType.int)) ∈ lw_tbl := zt_in2 (i := 72) rfl
theorem tw_553 : (Jvm.Cond.methodLink "StrataClient$Vote" (54 : Nat) ({ cls := "StrataClient$Vote", name := "isBetter", desc := "([LStrataClient$Server;II)Z" } : Jvm.MethodName)) ∈ lw_tbl := zt_in2 (i := 73) rfl
theorem tw_554 : (Jvm.Cond.privateMethod ({ cls := "StrataClient$Vote", name := "isBetter", desc := "([LStrataClient$Server;II)Z" } : Jvm.MethodName)) ∈ lw_tbl := zt_in2 (i := 74) rfl
theorem tw_555 : (Jvm.Cond.instanceMethod ({ cls := "StrataClient$Vote", name := "isBetter", desc := "([LStrataClient$Server;II)Z" } : Jvm.MethodName)) ∈ lw_tbl := zt_in2 (i := 75) rfl
theorem tw_556 : (Jvm.Cond.code ({ cls := "StrataClient$Vote", name := "isBetter", desc := "([LStrataClient$Server;II)Z" } : Jvm.MethodName) prog_4_method_14_code (6 : Nat) (Option.some Jvm.ClassFile.FieldType.boolean)) ∈ lw_tbl := zt_in2 (i := 76) rfl
theorem tw_557 : (Jvm.Cond.methodLink "StrataClient$Vote" (58 : Nat) ({ cls := "java/lang/Math", name := "max", desc := "(II)I" } : Jvm.MethodName)) ∈ lw_tbl := zt_in2 (i := 77) rfl
theorem tw_558 : (Jvm.Cond.static ({ cls := "java/lang/Math", name := "max", desc := "(II)I" } : Jvm.MethodName)) ∈ lw_tbl := zt_in2 (i := 78) rfl
theorem tw_559 : (Jvm.Cond.code ({ cls := "java/lang/Math", name := "max", desc := "(II)I" } : Jvm.MethodName) prog_12_method_65_code (2 : Nat) (Option.some Jvm.ClassFile.FieldType.int)) ∈ lw_tbl := zt_in2 (i := 79) rfl
theorem tw_560 : (Jvm.Cond.methodLink "StrataClientLaw" (151 : Nat) ({ cls := "StrataClientLaw", name := "update", desc := "(LStrataClient;[J)I" } : Jvm.MethodName)) ∈ lw_tbl := zt_in2 (i := 80) rfl
theorem tw_561 : (Jvm.Cond.static ({ cls := "StrataClientLaw", name := "update", desc := "(LStrataClient;[J)I" } : Jvm.MethodName)) ∈ lw_tbl := zt_in2 (i := 81) rfl
theorem tw_562 : (Jvm.Cond.codeWith ({ cls := "StrataClientLaw", name := "update", desc := "(LStrataClient;[J)I" } : Jvm.MethodName) method_18_code (3 : Nat) (Option.some Jvm.ClassFile.FieldType.int) [((0 : Nat), (8 : Nat), (11 : Nat), (25 : Nat)), ((0 : Nat), (8 : Nat), (14 : Nat), (72 : Nat))]) ∈ lw_tbl := zt_in2 (i := 82) rfl
theorem tw_563 : (Jvm.Cond.classLink "StrataClientLaw" (72 : Nat) "java/lang/UnsupportedOperationException") ∈ lw_tbl := zt_in2 (i := 83) rfl
theorem tw_564 : (Jvm.Cond.methodLink "StrataClientLaw" (69 : Nat) ({ cls := "StrataClient", name := "update", desc := "()I" } : Jvm.MethodName)) ∈ lw_tbl := zt_in2 (i := 84) rfl
theorem tw_565 : (Jvm.Cond.instanceMethod ({ cls := "StrataClient", name := "update", desc := "()I" } : Jvm.MethodName)) ∈ lw_tbl := zt_in2 (i := 85) rfl
theorem tw_566 : (Jvm.Cond.selects "StrataClient" ({ cls := "StrataClient", name := "update", desc := "()I" } : Jvm.MethodName) ({ cls := "StrataClient", name := "update", desc := "()I" } : Jvm.MethodName)) ∈ lw_tbl := zt_in2 (i := 86) rfl
theorem tw_567 : (Jvm.Cond.code ({ cls := "StrataClient", name := "update", desc := "()I" } : Jvm.MethodName) prog_1_method_21_code (5 : Nat) (Option.some Jvm.ClassFile.FieldType.int)) ∈ lw_tbl := zt_in2 (i := 87) rfl
theorem tw_568 : (Jvm.Cond.methodLink "StrataClient" (163 : Nat) ({ cls := "StrataClient$Vote", name := "combinedOffset", desc := "()J" } : Jvm.MethodName)) ∈ lw_tbl := zt_in2 (i := 88) rfl
theorem tw_569 : (Jvm.Cond.instanceMethod ({ cls := "StrataClient$Vote", name := "combinedOffset", desc := "()J" } : Jvm.MethodName)) ∈ lw_tbl := zt_in2 (i := 89) rfl
theorem tw_570 : (Jvm.Cond.selects "StrataClient$Vote" ({ cls := "StrataClient$Vote", name := "combinedOffset", desc := "()J" } : Jvm.MethodName) ({ cls := "StrataClient$Vote", name := "combinedOffset", desc := "()J" } : Jvm.MethodName)) ∈ lw_tbl := zt_in2 (i := 90) rfl
theorem tw_571 : (Jvm.Cond.code ({ cls := "StrataClient$Vote", name := "combinedOffset", desc := "()J" } : Jvm.MethodName) prog_4_method_7_code (4 : Nat) (Option.some Jvm.ClassFile.FieldType.long)) ∈ lw_tbl := zt_in2 (i := 91) rfl
theorem tw_572 : (Jvm.Cond.methodLink "StrataClient$Vote" (70 : Nat) ({ cls := "java/lang/Math", name := "floorDiv", desc := "(JJ)J" } : Jvm.MethodName)) ∈ lw_tbl := zt_in2 (i := 92) rfl
theorem tw_573 : (Jvm.Cond.methodLink "StrataClient" (167 : Nat) ({ cls := "java/lang/Math", name := "abs", desc := "(J)J" } : Jvm.MethodName)) ∈ lw_tbl := zt_in2 (i := 93) rfl
theorem tw_574 : (Jvm.Cond.constantLong "StrataClient" (170 : Nat) (4294967296000 : Int64)) ∈ lw_tbl := zt_in2 (i := 94) rfl
theorem tw_575 : (Jvm.Cond.classLink "StrataClient" (172 : Nat) "java/lang/UnsupportedOperationException") ∈ lw_tbl := zt_in2 (i := 95) rfl
theorem tw_576 : (Jvm.Cond.instantiable "java/lang/UnsupportedOperationException" (6 : Nat)) ∈ lw_tbl := zt_in2 (i := 96) rfl
theorem tw_577 : (Jvm.Cond.castable "java/lang/UnsupportedOperationException" "java/lang/UnsupportedOperationException") ∈ lw_tbl := zt_in2 (i := 97) rfl
theorem tw_578 : (Jvm.Cond.selects "java/lang/UnsupportedOperationException" ({ cls := "java/lang/Throwable", name := "fillInStackTrace", desc := "(I)Ljava/lang/Throwable;" } : Jvm.MethodName) ({ cls := "java/lang/Throwable", name := "fillInStackTrace", desc := "(I)Ljava/lang/Throwable;" } : Jvm.MethodName)) ∈ lw_tbl := zt_in2 (i := 98) rfl
theorem tw_579 : (Jvm.Cond.lays "java/lang/UnsupportedOperationException" "java/lang/Throwable" "cause" "Ljava/lang/Throwable;") ∈ lw_tbl := zt_in2 (i := 99) rfl
theorem tw_580 : (Jvm.Cond.lays "java/lang/UnsupportedOperationException" "java/lang/Throwable" "stackTrace" "[Ljava/lang/StackTraceElement;") ∈ lw_tbl := zt_in2 (i := 100) rfl
theorem tw_581 : (Jvm.Cond.lays "java/lang/UnsupportedOperationException" "java/lang/Throwable" "suppressedExceptions" "Ljava/util/List;") ∈ lw_tbl := zt_in2 (i := 101) rfl
theorem tw_582 : (Jvm.Cond.lays "java/lang/UnsupportedOperationException" "java/lang/Throwable" "detailMessage" "Ljava/lang/String;") ∈ lw_tbl := zt_in2 (i := 102) rfl
theorem tw_583 : (Jvm.Cond.lays "java/lang/UnsupportedOperationException" "java/lang/Throwable" "backtrace" "Ljava/lang/Object;") ∈ lw_tbl := zt_in2 (i := 103) rfl
theorem tw_584 : (Jvm.Cond.methodLink "StrataClient" (174 : Nat) ({ cls := "java/lang/UnsupportedOperationException", name := "<init>", desc := "()V" } : Jvm.MethodName)) ∈ lw_tbl := zt_in2 (i := 104) rfl
theorem tw_585 : (Jvm.Cond.instanceMethod ({ cls := "java/lang/UnsupportedOperationException", name := "<init>", desc := "()V" } : Jvm.MethodName)) ∈ lw_tbl := zt_in2 (i := 105) rfl
theorem tw_586 : (Jvm.Cond.code ({ cls := "java/lang/UnsupportedOperationException", name := "<init>", desc := "()V" } : Jvm.MethodName) prog_15_method_1_code (1 : Nat) (Option.none : Option Jvm.ClassFile.FieldType)) ∈ lw_tbl := zt_in2 (i := 106) rfl
theorem tw_587 : (Jvm.Cond.methodLink "java/lang/UnsupportedOperationException" (1 : Nat) ({ cls := "java/lang/RuntimeException", name := "<init>", desc := "()V" } : Jvm.MethodName)) ∈ lw_tbl := zt_in2 (i := 107) rfl
theorem tw_588 : (Jvm.Cond.lays "java/lang/UnsupportedOperationException" "java/lang/Throwable" "depth" "I") ∈ lw_tbl := zt_in2 (i := 108) rfl
theorem tw_589 : (Jvm.Cond.superclass "java/lang/UnsupportedOperationException" "java/lang/RuntimeException") ∈ lw_tbl := zt_in2 (i := 109) rfl
theorem tw_590 : (Jvm.Cond.constantLong "StrataClient" (175 : Nat) (536870912 : Int64)) ∈ lw_tbl := zt_in2 (i := 110) rfl
theorem tw_591 : (Jvm.Cond.methodLink "StrataClient" (177 : Nat) ({ cls := "StrataClient", name := "stepBy", desc := "(J)V" } : Jvm.MethodName)) ∈ lw_tbl := zt_in2 (i := 111) rfl
theorem tw_592 : (Jvm.Cond.privateMethod ({ cls := "StrataClient", name := "stepBy", desc := "(J)V" } : Jvm.MethodName)) ∈ lw_tbl := zt_in2 (i := 112) rfl
theorem tw_593 : (Jvm.Cond.instanceMethod ({ cls := "StrataClient", name := "stepBy", desc := "(J)V" } : Jvm.MethodName)) ∈ lw_tbl := zt_in2 (i := 113) rfl
theorem tw_594 : (Jvm.Cond.code ({ cls := "StrataClient", name := "stepBy", desc := "(J)V" } : Jvm.MethodName) prog_1_method_26_code (4 : Nat) (Option.none : Option Jvm.ClassFile.FieldType)) ∈ lw_tbl := zt_in2 (i := 114) rfl
theorem tw_595 : (Jvm.Cond.methodLink "StrataClient" (206 : Nat) ({ cls := "StrataClient$Server", name := "forget", desc := "()V" } : Jvm.MethodName)) ∈ lw_tbl := zt_in2 (i := 115) rfl
theorem tw_596 : (Jvm.Cond.instanceMethod ({ cls := "StrataClient$Server", name := "forget", desc := "()V" } : Jvm.MethodName)) ∈ lw_tbl := zt_in2 (i := 116) rfl
theorem tw_597 : (Jvm.Cond.selects "StrataClient$Server" ({ cls := "StrataClient$Server", name := "forget", desc := "()V" } : Jvm.MethodName) ({ cls := "StrataClient$Server", name := "forget", desc := "()V" } : Jvm.MethodName)) ∈ lw_tbl := zt_in2 (i := 117) rfl
theorem tw_598 : (Jvm.Cond.code ({ cls := "StrataClient$Server", name := "forget", desc := "()V" } : Jvm.MethodName) prog_3_method_8_code (1 : Nat) (Option.none : Option Jvm.ClassFile.FieldType)) ∈ lw_tbl := zt_in2 (i := 118) rfl
theorem tw_599 : (Jvm.Cond.methodLink "StrataClient" (180 : Nat) ({ cls := "StrataClient", name := "tunePolls", desc := "(J)V" } : Jvm.MethodName)) ∈ lw_tbl := zt_in2 (i := 119) rfl
theorem tw_600 : (Jvm.Cond.privateMethod ({ cls := "StrataClient", name := "tunePolls", desc := "(J)V" } : Jvm.MethodName)) ∈ lw_tbl := zt_in2 (i := 120) rfl
theorem tw_601 : (Jvm.Cond.instanceMethod ({ cls := "StrataClient", name := "tunePolls", desc := "(J)V" } : Jvm.MethodName)) ∈ lw_tbl := zt_in2 (i := 121) rfl
theorem tw_602 : (Jvm.Cond.code ({ cls := "StrataClient", name := "tunePolls", desc := "(J)V" } : Jvm.MethodName) prog_1_method_27_code (7 : Nat) (Option.none : Option Jvm.ClassFile.FieldType)) ∈ lw_tbl := zt_in2 (i := 122) rfl
theorem tw_603 : (Jvm.Cond.constantLong "StrataClient" (209 : Nat) (4 : Int64)) ∈ lw_tbl := zt_in2 (i := 123) rfl
theorem tw_604 : (Jvm.Cond.methodLink "StrataClient" (211 : Nat) ({ cls := "StrataClient$Server", name := "pollSooner", desc := "()V" } : Jvm.MethodName)) ∈ lw_tbl := zt_in2 (i := 124) rfl
theorem tw_605 : (Jvm.Cond.instanceMethod ({ cls := "StrataClient$Server", name := "pollSooner", desc := "()V" } : Jvm.MethodName)) ∈ lw_tbl := zt_in2 (i := 125) rfl
theorem tw_606 : (Jvm.Cond.selects "StrataClient$Server" ({ cls := "StrataClient$Server", name := "pollSooner", desc := "()V" } : Jvm.MethodName) ({ cls := "StrataClient$Server", name := "pollSooner", desc := "()V" } : Jvm.MethodName)) ∈ lw_tbl := zt_in2 (i := 126) rfl
theorem tw_607 : (Jvm.Cond.code ({ cls := "StrataClient$Server", name := "pollSooner", desc := "()V" } : Jvm.MethodName) prog_3_method_5_code (1 : Nat) (Option.none : Option Jvm.ClassFile.FieldType)) ∈ lw_tbl := zt_in2 (i := 127) rfl
theorem tw_608 : (Jvm.Cond.methodLink "StrataClient$Server" (64 : Nat) ({ cls := "java/lang/Math", name := "max", desc := "(II)I" } : Jvm.MethodName)) ∈ lw_tbl := zt_in2 (i := 128) rfl
theorem tw_609 : (Jvm.Cond.methodLink "StrataClient" (214 : Nat) ({ cls := "StrataClient$Vote", name := "has", desc := "(II)Z" } : Jvm.MethodName)) ∈ lw_tbl := zt_in2 (i := 129) rfl
theorem tw_610 : (Jvm.Cond.methodLink "StrataClient" (218 : Nat) ({ cls := "StrataClient$Server", name := "pollLater", desc := "()V" } : Jvm.MethodName)) ∈ lw_tbl := zt_in2 (i := 130) rfl
theorem tw_611 : (Jvm.Cond.classLink "StrataClientLaw" (75 : Nat) "StrataClientModel") ∈ lw_tbl := zt_in2 (i := 131) rfl
theorem tw_612 : (Jvm.Cond.instantiable "StrataClientModel" (20 : Nat)) ∈ lw_tbl := zt_in2 (i := 132) rfl
theorem tw_613 : (Jvm.Cond.methodLink "StrataClientLaw" (77 : Nat) ({ cls := "StrataClientModel", name := "<init>", desc := "()V" } : Jvm.MethodName)) ∈ lw_tbl := zt_in2 (i := 133) rfl
theorem tw_614 : (Jvm.Cond.instanceMethod ({ cls := "StrataClientModel", name := "<init>", desc := "()V" } : Jvm.MethodName)) ∈ lw_tbl := zt_in2 (i := 134) rfl
theorem tw_615 : (Jvm.Cond.code ({ cls := "StrataClientModel", name := "<init>", desc := "()V" } : Jvm.MethodName) prog_6_method_1_code (2 : Nat) (Option.none : Option Jvm.ClassFile.FieldType)) ∈ lw_tbl := zt_in2 (i := 135) rfl
theorem tw_616 : (Jvm.Cond.methodLink "StrataClientModel" (1 : Nat) ({ cls := "java/lang/Object", name := "<init>", desc := "()V" } : Jvm.MethodName)) ∈ lw_tbl := zt_in2 (i := 136) rfl
theorem tw_617 : (Jvm.Cond.fieldLink "StrataClientModel" (54 : Nat) "StrataClientModel" "thrown" "I") ∈ lw_tbl := zt_in2 (i := 137) rfl
theorem tw_618 : (Jvm.Cond.fieldLink "StrataClientModel" (66 : Nat) "StrataClientModel" "local" "J") ∈ lw_tbl := zt_in2 (i := 138) rfl
theorem tw_619 : (Jvm.Cond.fieldLink "StrataClientModel" (62 : Nat) "StrataClientModel" "slew" "J") ∈ lw_tbl := zt_in2 (i := 139) rfl
theorem tw_620 : (Jvm.Cond.fieldLink "StrataClientModel" (166 : Nat) "StrataClientModel" "set" "Z") ∈ lw_tbl := zt_in2 (i := 140) rfl
theorem tw_621 : (Jvm.Cond.fieldLink "StrataClientModel" (7 : Nat) "StrataClientModel" "packet" "[I") ∈ lw_tbl := zt_in2 (i := 141) rfl
theorem tw_622 : (Jvm.Cond.fieldLink "StrataClientModel" (13 : Nat) "StrataClientModel" "denied" "[Z") ∈ lw_tbl := zt_in2 (i := 142) rfl
theorem tw_623 : (Jvm.Cond.fieldLink "StrataClientModel" (17 : Nat) "StrataClientModel" "reaches" "[I") ∈ lw_tbl := zt_in2 (i := 143) rfl
theorem tw_624 : (Jvm.Cond.fieldLink "StrataClientModel" (20 : Nat) "StrataClientModel" "polls" "[I") ∈ lw_tbl := zt_in2 (i := 144) rfl
theorem tw_625 : (Jvm.Cond.fieldLink "StrataClientModel" (23 : Nat) "StrataClientModel" "asked" "[Z") ∈ lw_tbl := zt_in2 (i := 145) rfl
theorem tw_626 : (Jvm.Cond.fieldLink "StrataClientModel" (26 : Nat) "StrataClientModel" "expected" "[J") ∈ lw_tbl := zt_in2 (i := 146) rfl
theorem tw_627 : (Jvm.Cond.fieldLink "StrataClientModel" (30 : Nat) "StrataClientModel" "strata" "[I") ∈ lw_tbl := zt_in2 (i := 147) rfl
theorem tw_628 : (Jvm.Cond.fieldLink "StrataClientModel" (33 : Nat) "StrataClientModel" "rootDelays" "[J") ∈ lw_tbl := zt_in2 (i := 148) rfl
theorem tw_629 : (Jvm.Cond.fieldLink "StrataClientModel" (36 : Nat) "StrataClientModel" "rootDispersions" "[J") ∈ lw_tbl := zt_in2 (i := 149) rfl
theorem tw_630 : (Jvm.Cond.fieldLink "StrataClientModel" (39 : Nat) "StrataClientModel" "many" "[I") ∈ lw_tbl := zt_in2 (i := 150) rfl
theorem tw_631 : (Jvm.Cond.fieldLink "StrataClientModel" (42 : Nat) "StrataClientModel" "offsets" "[J") ∈ lw_tbl := zt_in2 (i := 151) rfl
theorem tw_632 : (Jvm.Cond.fieldLink "StrataClientModel" (45 : Nat) "StrataClientModel" "delays" "[J") ∈ lw_tbl := zt_in2 (i := 152) rfl
theorem tw_633 : (Jvm.Cond.fieldLink "StrataClientModel" (48 : Nat) "StrataClientModel" "came" "[J") ∈ lw_tbl := zt_in2 (i := 153) rfl
theorem tw_634 : (Jvm.Cond.fieldLink "StrataClientModel" (51 : Nat) "StrataClientModel" "inside" "[Z") ∈ lw_tbl := zt_in2 (i := 154) rfl
theorem tw_635 : (Jvm.Cond.fieldLink "StrataClientModel" (137 : Nat) "StrataClientModel" "low" "J") ∈ lw_tbl := zt_in2 (i := 155) rfl
theorem tw_636 : (Jvm.Cond.fieldLink "StrataClientModel" (140 : Nat) "StrataClientModel" "high" "J") ∈ lw_tbl := zt_in2 (i := 156) rfl
theorem tw_637 : (Jvm.Cond.lays "StrataClientModel" "StrataClientModel" "thrown" "I") ∈ lw_tbl := zt_in2 (i := 157) rfl
theorem tw_638 : (Jvm.Cond.soleField "StrataClientModel" "thrown") ∈ lw_tbl := zt_in2 (i := 158) rfl
theorem tw_639 : (Jvm.Cond.lays "StrataClientModel" "StrataClientModel" "local" "J") ∈ lw_tbl := zt_in2 (i := 159) rfl
theorem tw_640 : (Jvm.Cond.soleField "StrataClientModel" "local") ∈ lw_tbl := zt_in2 (i := 160) rfl
theorem tw_641 : (Jvm.Cond.lays "StrataClientModel" "StrataClientModel" "slew" "J") ∈ lw_tbl := zt_in2 (i := 161) rfl
theorem tw_642 : (Jvm.Cond.soleField "StrataClientModel" "slew") ∈ lw_tbl := zt_in2 (i := 162) rfl
theorem tw_643 : (Jvm.Cond.lays "StrataClientModel" "StrataClientModel" "set" "Z") ∈ lw_tbl := zt_in2 (i := 163) rfl
theorem tw_644 : (Jvm.Cond.soleField "StrataClientModel" "set") ∈ lw_tbl := zt_in2 (i := 164) rfl
theorem tw_645 : (Jvm.Cond.laysFinal "StrataClientModel" "StrataClientModel" "packet" "[I") ∈ lw_tbl := zt_in2 (i := 165) rfl
theorem tw_646 : (Jvm.Cond.soleField "StrataClientModel" "packet") ∈ lw_tbl := zt_in2 (i := 166) rfl
theorem tw_647 : (Jvm.Cond.laysFinal "StrataClientModel" "StrataClientModel" "denied" "[Z") ∈ lw_tbl := zt_in2 (i := 167) rfl
theorem tw_648 : (Jvm.Cond.soleField "StrataClientModel" "denied") ∈ lw_tbl := zt_in2 (i := 168) rfl
theorem tw_649 : (Jvm.Cond.laysFinal "StrataClientModel" "StrataClientModel" "reaches" "[I") ∈ lw_tbl := zt_in2 (i := 169) rfl
theorem tw_650 : (Jvm.Cond.soleField "StrataClientModel" "reaches") ∈ lw_tbl := zt_in2 (i := 170) rfl
theorem tw_651 : (Jvm.Cond.laysFinal "StrataClientModel" "StrataClientModel" "polls" "[I") ∈ lw_tbl := zt_in2 (i := 171) rfl
theorem tw_652 : (Jvm.Cond.soleField "StrataClientModel" "polls") ∈ lw_tbl := zt_in2 (i := 172) rfl
theorem tw_653 : (Jvm.Cond.laysFinal "StrataClientModel" "StrataClientModel" "asked" "[Z") ∈ lw_tbl := zt_in2 (i := 173) rfl
theorem tw_654 : (Jvm.Cond.soleField "StrataClientModel" "asked") ∈ lw_tbl := zt_in2 (i := 174) rfl
theorem tw_655 : (Jvm.Cond.laysFinal "StrataClientModel" "StrataClientModel" "expected" "[J") ∈ lw_tbl := zt_in2 (i := 175) rfl
theorem tw_656 : (Jvm.Cond.soleField "StrataClientModel" "expected") ∈ lw_tbl := zt_in2 (i := 176) rfl
theorem tw_657 : (Jvm.Cond.laysFinal "StrataClientModel" "StrataClientModel" "strata" "[I") ∈ lw_tbl := zt_in2 (i := 177) rfl
theorem tw_658 : (Jvm.Cond.soleField "StrataClientModel" "strata") ∈ lw_tbl := zt_in2 (i := 178) rfl
theorem tw_659 : (Jvm.Cond.laysFinal "StrataClientModel" "StrataClientModel" "rootDelays" "[J") ∈ lw_tbl := zt_in2 (i := 179) rfl
theorem tw_660 : (Jvm.Cond.soleField "StrataClientModel" "rootDelays") ∈ lw_tbl := zt_in2 (i := 180) rfl
theorem tw_661 : (Jvm.Cond.laysFinal "StrataClientModel" "StrataClientModel" "rootDispersions" "[J") ∈ lw_tbl := zt_in2 (i := 181) rfl
theorem tw_662 : (Jvm.Cond.soleField "StrataClientModel" "rootDispersions") ∈ lw_tbl := zt_in2 (i := 182) rfl
theorem tw_663 : (Jvm.Cond.laysFinal "StrataClientModel" "StrataClientModel" "many" "[I") ∈ lw_tbl := zt_in2 (i := 183) rfl
theorem tw_664 : (Jvm.Cond.soleField "StrataClientModel" "many") ∈ lw_tbl := zt_in2 (i := 184) rfl
theorem tw_665 : (Jvm.Cond.laysFinal "StrataClientModel" "StrataClientModel" "offsets" "[J") ∈ lw_tbl := zt_in2 (i := 185) rfl
theorem tw_666 : (Jvm.Cond.soleField "StrataClientModel" "offsets") ∈ lw_tbl := zt_in2 (i := 186) rfl
theorem tw_667 : (Jvm.Cond.laysFinal "StrataClientModel" "StrataClientModel" "delays" "[J") ∈ lw_tbl := zt_in2 (i := 187) rfl
theorem tw_668 : (Jvm.Cond.soleField "StrataClientModel" "delays") ∈ lw_tbl := zt_in2 (i := 188) rfl
theorem tw_669 : (Jvm.Cond.laysFinal "StrataClientModel" "StrataClientModel" "came" "[J") ∈ lw_tbl := zt_in2 (i := 189) rfl
theorem tw_670 : (Jvm.Cond.soleField "StrataClientModel" "came") ∈ lw_tbl := zt_in2 (i := 190) rfl
theorem tw_671 : (Jvm.Cond.laysFinal "StrataClientModel" "StrataClientModel" "inside" "[Z") ∈ lw_tbl := zt_in2 (i := 191) rfl
theorem tw_672 : (Jvm.Cond.soleField "StrataClientModel" "inside") ∈ lw_tbl := zt_in2 (i := 192) rfl
theorem tw_673 : (Jvm.Cond.lays "StrataClientModel" "StrataClientModel" "low" "J") ∈ lw_tbl := zt_in2 (i := 193) rfl
theorem tw_674 : (Jvm.Cond.soleField "StrataClientModel" "low") ∈ lw_tbl := zt_in2 (i := 194) rfl
theorem tw_675 : (Jvm.Cond.lays "StrataClientModel" "StrataClientModel" "high" "J") ∈ lw_tbl := zt_in2 (i := 195) rfl
theorem tw_676 : (Jvm.Cond.soleField "StrataClientModel" "high") ∈ lw_tbl := zt_in2 (i := 196) rfl
theorem tw_677 : (Jvm.Cond.superclass "StrataClientModel" "java/lang/Object") ∈ lw_tbl := zt_in2 (i := 197) rfl
theorem tw_678 : (Jvm.Cond.arrayClass Jvm.ClassFile.FieldType.int) ∈ lw_tbl := zt_in2 (i := 198) rfl
theorem tw_679 : (Jvm.Cond.arrayClass Jvm.ClassFile.FieldType.boolean) ∈ lw_tbl := zt_in2 (i := 199) rfl
theorem tw_680 : (Jvm.Cond.methodLink "StrataClientLaw" (86 : Nat) ({ cls := "StrataClientModel", name := "thrown", desc := "()I" } : Jvm.MethodName)) ∈ lw_tbl := zt_in2 (i := 200) rfl
theorem tw_681 : (Jvm.Cond.instanceMethod ({ cls := "StrataClientModel", name := "thrown", desc := "()I" } : Jvm.MethodName)) ∈ lw_tbl := zt_in2 (i := 201) rfl
theorem tw_682 : (Jvm.Cond.selects "StrataClientModel" ({ cls := "StrataClientModel", name := "thrown", desc := "()I" } : Jvm.MethodName) ({ cls := "StrataClientModel", name := "thrown", desc := "()I" } : Jvm.MethodName)) ∈ lw_tbl := zt_in2 (i := 202) rfl
theorem tw_683 : (Jvm.Cond.code ({ cls := "StrataClientModel", name := "thrown", desc := "()I" } : Jvm.MethodName) prog_6_method_2_code (1 : Nat) (Option.some Jvm.ClassFile.FieldType.int)) ∈ lw_tbl := zt_in2 (i := 203) rfl
theorem tw_684 : (Jvm.Cond.methodLink "StrataClientLaw" (85 : Nat) ({ cls := "StrataClientModel", name := "run", desc := "(J)V" } : Jvm.MethodName)) ∈ lw_tbl := zt_in2 (i := 204) rfl
theorem tw_685 : (Jvm.Cond.instanceMethod ({ cls := "StrataClientModel", name := "run", desc := "(J)V" } : Jvm.MethodName)) ∈ lw_tbl := zt_in2 (i := 205) rfl
theorem tw_686 : (Jvm.Cond.selects "StrataClientModel" ({ cls := "StrataClientModel", name := "run", desc := "(J)V" } : Jvm.MethodName) ({ cls := "StrataClientModel", name := "run", desc := "(J)V" } : Jvm.MethodName)) ∈ lw_tbl := zt_in2 (i := 206) rfl
theorem tw_687 : (Jvm.Cond.code ({ cls := "StrataClientModel", name := "run", desc := "(J)V" } : Jvm.MethodName) prog_6_method_5_code (7 : Nat) (Option.none : Option Jvm.ClassFile.FieldType)) ∈ lw_tbl := zt_in2 (i := 207) rfl
theorem tw_688 : (Jvm.Cond.constantLong "StrataClientModel" (58 : Nat) (1099511627776 : Int64)) ∈ lw_tbl := zt_in2 (i := 208) rfl
theorem tw_689 : (Jvm.Cond.constantLong "StrataClientModel" (60 : Nat) (2048 : Int64)) ∈ lw_tbl := zt_in2 (i := 209) rfl
theorem tw_690 : (Jvm.Cond.methodLink "StrataClientLaw" (92 : Nat) ({ cls := "StrataClientModel", name := "local", desc := "()J" } : Jvm.MethodName)) ∈ lw_tbl := zt_in2 (i := 210) rfl
theorem tw_691 : (Jvm.Cond.instanceMethod ({ cls := "StrataClientModel", name := "local", desc := "()J" } : Jvm.MethodName)) ∈ lw_tbl := zt_in2 (i := 211) rfl
theorem tw_692 : (Jvm.Cond.selects "StrataClientModel" ({ cls := "StrataClientModel", name := "local", desc := "()J" } : Jvm.MethodName) ({ cls := "StrataClientModel", name := "local", desc := "()J" } : Jvm.MethodName)) ∈ lw_tbl := zt_in2 (i := 212) rfl
theorem tw_693 : (Jvm.Cond.code ({ cls := "StrataClientModel", name := "local", desc := "()J" } : Jvm.MethodName) prog_6_method_6_code (1 : Nat) (Option.some Jvm.ClassFile.FieldType.long)) ∈ lw_tbl := zt_in2 (i := 213) rfl
theorem tw_694 : (Jvm.Cond.methodLink "StrataClientLaw" (96 : Nat) ({ cls := "StrataClientModel", name := "slew", desc := "()J" } : Jvm.MethodName)) ∈ lw_tbl := zt_in2 (i := 214) rfl
theorem tw_695 : (Jvm.Cond.instanceMethod ({ cls := "StrataClientModel", name := "slew", desc := "()J" } : Jvm.MethodName)) ∈ lw_tbl := zt_in2 (i := 215) rfl
theorem tw_696 : (Jvm.Cond.selects "StrataClientModel" ({ cls := "StrataClientModel", name := "slew", desc := "()J" } : Jvm.MethodName) ({ cls := "StrataClientModel", name := "slew", desc := "()J" } : Jvm.MethodName)) ∈ lw_tbl := zt_in2 (i := 216) rfl
theorem tw_697 : (Jvm.Cond.code ({ cls := "StrataClientModel", name := "slew", desc := "()J" } : Jvm.MethodName) prog_6_method_7_code (1 : Nat) (Option.some Jvm.ClassFile.FieldType.long)) ∈ lw_tbl := zt_in2 (i := 217) rfl
theorem tw_698 : (Jvm.Cond.methodLink "StrataClientLaw" (100 : Nat) ({ cls := "StrataClientModel", name := "put", desc := "(IJI)V" } : Jvm.MethodName)) ∈ lw_tbl := zt_in2 (i := 218) rfl
theorem tw_699 : (Jvm.Cond.instanceMethod ({ cls := "StrataClientModel", name := "put", desc := "(IJI)V" } : Jvm.MethodName)) ∈ lw_tbl := zt_in2 (i := 219) rfl
theorem tw_700 : (Jvm.Cond.selects "StrataClientModel" ({ cls := "StrataClientModel", name := "put", desc := "(IJI)V" } : Jvm.MethodName) ({ cls := "StrataClientModel", name := "put", desc := "(IJI)V" } : Jvm.MethodName)) ∈ lw_tbl := zt_in2 (i := 220) rfl
theorem tw_701 : (Jvm.Cond.code ({ cls := "StrataClientModel", name := "put", desc := "(IJI)V" } : Jvm.MethodName) prog_6_method_10_code (5 : Nat) (Option.none : Option Jvm.ClassFile.FieldType)) ∈ lw_tbl := zt_in2 (i := 221) rfl
theorem tw_702 : (Jvm.Cond.methodLink "StrataClientModel" (71 : Nat) ({ cls := "StrataClientModel", name := "write", desc := "(IJI)V" } : Jvm.MethodName)) ∈ lw_tbl := zt_in2 (i := 222) rfl
theorem tw_703 : (Jvm.Cond.privateMethod ({ cls := "StrataClientModel", name := "write", desc := "(IJI)V" } : Jvm.MethodName)) ∈ lw_tbl := zt_in2 (i := 223) rfl
theorem tw_704 : (Jvm.Cond.instanceMethod ({ cls := "StrataClientModel", name := "write", desc := "(IJI)V" } : Jvm.MethodName)) ∈ lw_tbl := zt_in2 (i := 224) rfl
theorem tw_705 : (Jvm.Cond.code ({ cls := "StrataClientModel", name := "write", desc := "(IJI)V" } : Jvm.MethodName) prog_6_method_8_code (6 : Nat) (Option.none : Option Jvm.ClassFile.FieldType)) ∈ lw_tbl := zt_in2 (i := 225) rfl
theorem tw_706 : (Jvm.Cond.constantLong "StrataClientModel" (69 : Nat) (255 : Int64)) ∈ lw_tbl := zt_in2 (i := 226) rfl
theorem tw_707 : (Jvm.Cond.methodLink "StrataClientLaw" (104 : Nat) ({ cls := "StrataClientModel", name := "echo", desc := "(IJJ)V" } : Jvm.MethodName)) ∈ lw_tbl := zt_in2 (i := 227) rfl
theorem tw_708 : (Jvm.Cond.instanceMethod ({ cls := "StrataClientModel", name := "echo", desc := "(IJJ)V" } : Jvm.MethodName)) ∈ lw_tbl := zt_in2 (i := 228) rfl
theorem tw_709 : (Jvm.Cond.selects "StrataClientModel" ({ cls := "StrataClientModel", name := "echo", desc := "(IJJ)V" } : Jvm.MethodName) ({ cls := "StrataClientModel", name := "echo", desc := "(IJJ)V" } : Jvm.MethodName)) ∈ lw_tbl := zt_in2 (i := 229) rfl
theorem tw_710 : (Jvm.Cond.code ({ cls := "StrataClientModel", name := "echo", desc := "(IJJ)V" } : Jvm.MethodName) prog_6_method_11_code (6 : Nat) (Option.none : Option Jvm.ClassFile.FieldType)) ∈ lw_tbl := zt_in2 (i := 230) rfl
theorem tw_711 : (Jvm.Cond.methodLink "StrataClientModel" (75 : Nat) ({ cls := "StrataClientModel", name := "isServer", desc := "(I)Z" } : Jvm.MethodName)) ∈ lw_tbl := zt_in2 (i := 231) rfl
theorem tw_712 : (Jvm.Cond.static ({ cls := "StrataClientModel", name := "isServer", desc := "(I)Z" } : Jvm.MethodName)) ∈ lw_tbl := zt_in2 (i := 232) rfl
theorem tw_713 : (Jvm.Cond.code ({ cls := "StrataClientModel", name := "isServer", desc := "(I)Z" } : Jvm.MethodName) prog_6_method_3_code (1 : Nat) (Option.some Jvm.ClassFile.FieldType.boolean)) ∈ lw_tbl := zt_in2 (i := 233) rfl
theorem tw_714 : (Jvm.Cond.methodLink "StrataClientLaw" (108 : Nat) ({ cls := "StrataClientModel", name := "send", desc := "(I)J" } : Jvm.MethodName)) ∈ lw_tbl := zt_in2 (i := 234) rfl
theorem tw_715 : (Jvm.Cond.instanceMethod ({ cls := "StrataClientModel", name := "send", desc := "(I)J" } : Jvm.MethodName)) ∈ lw_tbl := zt_in2 (i := 235) rfl
theorem tw_716 : (Jvm.Cond.selects "StrataClientModel" ({ cls := "StrataClientModel", name := "send", desc := "(I)J" } : Jvm.MethodName) ({ cls := "StrataClientModel", name := "send", desc := "(I)J" } : Jvm.MethodName)) ∈ lw_tbl := zt_in2 (i := 236) rfl
theorem tw_717 : (Jvm.Cond.code ({ cls := "StrataClientModel", name := "send", desc := "(I)J" } : Jvm.MethodName) prog_6_method_12_code (2 : Nat) (Option.some Jvm.ClassFile.FieldType.long)) ∈ lw_tbl := zt_in2 (i := 237) rfl
theorem tw_718 : (Jvm.Cond.methodLink "StrataClientLaw" (111 : Nat) ({ cls := "StrataClientModel", name := "receive", desc := "(I)I" } : Jvm.MethodName)) ∈ lw_tbl := zt_in2 (i := 238) rfl
theorem tw_719 : (Jvm.Cond.instanceMethod ({ cls := "StrataClientModel", name := "receive", desc := "(I)I" } : Jvm.MethodName)) ∈ lw_tbl := zt_in2 (i := 239) rfl
theorem tw_720 : (Jvm.Cond.selects "StrataClientModel" ({ cls := "StrataClientModel", name := "receive", desc := "(I)I" } : Jvm.MethodName) ({ cls := "StrataClientModel", name := "receive", desc := "(I)I" } : Jvm.MethodName)) ∈ lw_tbl := zt_in3 (i := 0) rfl
theorem tw_721 : (Jvm.Cond.code ({ cls := "StrataClientModel", name := "receive", desc := "(I)I" } : Jvm.MethodName) prog_6_method_15_code (16 : Nat) (Option.some Jvm.ClassFile.FieldType.int)) ∈ lw_tbl := zt_in3 (i := 1) rfl
theorem tw_722 : (Jvm.Cond.methodLink "StrataClientModel" (79 : Nat) ({ cls := "StrataClientModel", name := "read", desc := "(II)J" } : Jvm.MethodName)) ∈ lw_tbl := zt_in3 (i := 2) rfl
theorem tw_723 : (Jvm.Cond.privateMethod ({ cls := "StrataClientModel", name := "read", desc := "(II)J" } : Jvm.MethodName)) ∈ lw_tbl := zt_in3 (i := 3) rfl
theorem tw_724 : (Jvm.Cond.instanceMethod ({ cls := "StrataClientModel", name := "read", desc := "(II)J" } : Jvm.MethodName)) ∈ lw_tbl := zt_in3 (i := 4) rfl
theorem tw_725 : (Jvm.Cond.code ({ cls := "StrataClientModel", name := "read", desc := "(II)J" } : Jvm.MethodName) prog_6_method_9_code (6 : Nat) (Option.some Jvm.ClassFile.FieldType.long)) ∈ lw_tbl := zt_in3 (i := 5) rfl
theorem tw_726 : (Jvm.Cond.methodLink "StrataClientModel" (89 : Nat) ({ cls := "StrataClientModel", name := "kiss", desc := "(I)I" } : Jvm.MethodName)) ∈ lw_tbl := zt_in3 (i := 6) rfl
theorem tw_727 : (Jvm.Cond.privateMethod ({ cls := "StrataClientModel", name := "kiss", desc := "(I)I" } : Jvm.MethodName)) ∈ lw_tbl := zt_in3 (i := 7) rfl
theorem tw_728 : (Jvm.Cond.instanceMethod ({ cls := "StrataClientModel", name := "kiss", desc := "(I)I" } : Jvm.MethodName)) ∈ lw_tbl := zt_in3 (i := 8) rfl
theorem tw_729 : (Jvm.Cond.code ({ cls := "StrataClientModel", name := "kiss", desc := "(I)I" } : Jvm.MethodName) prog_6_method_14_code (4 : Nat) (Option.some Jvm.ClassFile.FieldType.int)) ∈ lw_tbl := zt_in3 (i := 9) rfl
theorem tw_730 : (Jvm.Cond.constantLong "StrataClientModel" (83 : Nat) (1145392729 : Int64)) ∈ lw_tbl := zt_in3 (i := 10) rfl
theorem tw_731 : (Jvm.Cond.constantLong "StrataClientModel" (85 : Nat) (1381192786 : Int64)) ∈ lw_tbl := zt_in3 (i := 11) rfl
theorem tw_732 : (Jvm.Cond.constantLong "StrataClientModel" (87 : Nat) (1380013125 : Int64)) ∈ lw_tbl := zt_in3 (i := 12) rfl
theorem tw_733 : (Jvm.Cond.methodLink "StrataClientModel" (93 : Nat) ({ cls := "StrataClientModel", name := "half", desc := "(JJ)J" } : Jvm.MethodName)) ∈ lw_tbl := zt_in3 (i := 13) rfl
theorem tw_734 : (Jvm.Cond.static ({ cls := "StrataClientModel", name := "half", desc := "(JJ)J" } : Jvm.MethodName)) ∈ lw_tbl := zt_in3 (i := 14) rfl
theorem tw_735 : (Jvm.Cond.code ({ cls := "StrataClientModel", name := "half", desc := "(JJ)J" } : Jvm.MethodName) prog_6_method_13_code (4 : Nat) (Option.some Jvm.ClassFile.FieldType.long)) ∈ lw_tbl := zt_in3 (i := 15) rfl
theorem tw_736 : (Jvm.Cond.constantLong "StrataClientModel" (97 : Nat) (4096 : Int64)) ∈ lw_tbl := zt_in3 (i := 16) rfl
theorem tw_737 : (Jvm.Cond.constantLong "StrataClientModel" (99 : Nat) (1152921504606846976 : Int64)) ∈ lw_tbl := zt_in3 (i := 17) rfl
theorem tw_738 : (Jvm.Cond.constantLong "StrataClientModel" (101 : Nat) (65536 : Int64)) ∈ lw_tbl := zt_in3 (i := 18) rfl
theorem tw_739 : (Jvm.Cond.methodLink "StrataClientLaw" (114 : Nat) ({ cls := "StrataClientModel", name := "reach", desc := "(I)I" } : Jvm.MethodName)) ∈ lw_tbl := zt_in3 (i := 19) rfl
theorem tw_740 : (Jvm.Cond.instanceMethod ({ cls := "StrataClientModel", name := "reach", desc := "(I)I" } : Jvm.MethodName)) ∈ lw_tbl := zt_in3 (i := 20) rfl
theorem tw_741 : (Jvm.Cond.selects "StrataClientModel" ({ cls := "StrataClientModel", name := "reach", desc := "(I)I" } : Jvm.MethodName) ({ cls := "StrataClientModel", name := "reach", desc := "(I)I" } : Jvm.MethodName)) ∈ lw_tbl := zt_in3 (i := 21) rfl
theorem tw_742 : (Jvm.Cond.code ({ cls := "StrataClientModel", name := "reach", desc := "(I)I" } : Jvm.MethodName) prog_6_method_16_code (2 : Nat) (Option.some Jvm.ClassFile.FieldType.int)) ∈ lw_tbl := zt_in3 (i := 22) rfl
theorem tw_743 : (Jvm.Cond.methodLink "StrataClientLaw" (117 : Nat) ({ cls := "StrataClientModel", name := "poll", desc := "(I)I" } : Jvm.MethodName)) ∈ lw_tbl := zt_in3 (i := 23) rfl
theorem tw_744 : (Jvm.Cond.instanceMethod ({ cls := "StrataClientModel", name := "poll", desc := "(I)I" } : Jvm.MethodName)) ∈ lw_tbl := zt_in3 (i := 24) rfl
theorem tw_745 : (Jvm.Cond.selects "StrataClientModel" ({ cls := "StrataClientModel", name := "poll", desc := "(I)I" } : Jvm.MethodName) ({ cls := "StrataClientModel", name := "poll", desc := "(I)I" } : Jvm.MethodName)) ∈ lw_tbl := zt_in3 (i := 25) rfl
theorem tw_746 : (Jvm.Cond.code ({ cls := "StrataClientModel", name := "poll", desc := "(I)I" } : Jvm.MethodName) prog_6_method_17_code (2 : Nat) (Option.some Jvm.ClassFile.FieldType.int)) ∈ lw_tbl := zt_in3 (i := 26) rfl
theorem tw_747 : (Jvm.Cond.methodLink "StrataClientLaw" (120 : Nat) ({ cls := "StrataClientModel", name := "samples", desc := "(I)I" } : Jvm.MethodName)) ∈ lw_tbl := zt_in3 (i := 27) rfl
theorem tw_748 : (Jvm.Cond.instanceMethod ({ cls := "StrataClientModel", name := "samples", desc := "(I)I" } : Jvm.MethodName)) ∈ lw_tbl := zt_in3 (i := 28) rfl
theorem tw_749 : (Jvm.Cond.selects "StrataClientModel" ({ cls := "StrataClientModel", name := "samples", desc := "(I)I" } : Jvm.MethodName) ({ cls := "StrataClientModel", name := "samples", desc := "(I)I" } : Jvm.MethodName)) ∈ lw_tbl := zt_in3 (i := 29) rfl
theorem tw_750 : (Jvm.Cond.code ({ cls := "StrataClientModel", name := "samples", desc := "(I)I" } : Jvm.MethodName) prog_6_method_18_code (2 : Nat) (Option.some Jvm.ClassFile.FieldType.int)) ∈ lw_tbl := zt_in3 (i := 30) rfl
theorem tw_751 : (Jvm.Cond.methodLink "StrataClientLaw" (123 : Nat) ({ cls := "StrataClientModel", name := "offset", desc := "(I)J" } : Jvm.MethodName)) ∈ lw_tbl := zt_in3 (i := 31) rfl
theorem tw_752 : (Jvm.Cond.instanceMethod ({ cls := "StrataClientModel", name := "offset", desc := "(I)J" } : Jvm.MethodName)) ∈ lw_tbl := zt_in3 (i := 32) rfl
theorem tw_753 : (Jvm.Cond.selects "StrataClientModel" ({ cls := "StrataClientModel", name := "offset", desc := "(I)J" } : Jvm.MethodName) ({ cls := "StrataClientModel", name := "offset", desc := "(I)J" } : Jvm.MethodName)) ∈ lw_tbl := zt_in3 (i := 33) rfl
theorem tw_754 : (Jvm.Cond.code ({ cls := "StrataClientModel", name := "offset", desc := "(I)J" } : Jvm.MethodName) prog_6_method_25_code (2 : Nat) (Option.some Jvm.ClassFile.FieldType.long)) ∈ lw_tbl := zt_in3 (i := 34) rfl
theorem tw_755 : (Jvm.Cond.methodLink "StrataClientModel" (119 : Nat) ({ cls := "StrataClientModel", name := "shows", desc := "(I)Z" } : Jvm.MethodName)) ∈ lw_tbl := zt_in3 (i := 35) rfl
theorem tw_756 : (Jvm.Cond.privateMethod ({ cls := "StrataClientModel", name := "shows", desc := "(I)Z" } : Jvm.MethodName)) ∈ lw_tbl := zt_in3 (i := 36) rfl
theorem tw_757 : (Jvm.Cond.instanceMethod ({ cls := "StrataClientModel", name := "shows", desc := "(I)Z" } : Jvm.MethodName)) ∈ lw_tbl := zt_in3 (i := 37) rfl
theorem tw_758 : (Jvm.Cond.code ({ cls := "StrataClientModel", name := "shows", desc := "(I)Z" } : Jvm.MethodName) prog_6_method_24_code (2 : Nat) (Option.some Jvm.ClassFile.FieldType.boolean)) ∈ lw_tbl := zt_in3 (i := 38) rfl
theorem tw_759 : (Jvm.Cond.methodLink "StrataClientModel" (122 : Nat) ({ cls := "StrataClientModel", name := "offsetOf", desc := "(I)J" } : Jvm.MethodName)) ∈ lw_tbl := zt_in3 (i := 39) rfl
theorem tw_760 : (Jvm.Cond.privateMethod ({ cls := "StrataClientModel", name := "offsetOf", desc := "(I)J" } : Jvm.MethodName)) ∈ lw_tbl := zt_in3 (i := 40) rfl
theorem tw_761 : (Jvm.Cond.instanceMethod ({ cls := "StrataClientModel", name := "offsetOf", desc := "(I)J" } : Jvm.MethodName)) ∈ lw_tbl := zt_in3 (i := 41) rfl
theorem tw_762 : (Jvm.Cond.code ({ cls := "StrataClientModel", name := "offsetOf", desc := "(I)J" } : Jvm.MethodName) prog_6_method_23_code (2 : Nat) (Option.some Jvm.ClassFile.FieldType.long)) ∈ lw_tbl := zt_in3 (i := 42) rfl
theorem tw_763 : (Jvm.Cond.methodLink "StrataClientModel" (109 : Nat) ({ cls := "StrataClientModel", name := "best", desc := "(I)I" } : Jvm.MethodName)) ∈ lw_tbl := zt_in3 (i := 43) rfl
theorem tw_764 : (Jvm.Cond.privateMethod ({ cls := "StrataClientModel", name := "best", desc := "(I)I" } : Jvm.MethodName)) ∈ lw_tbl := zt_in3 (i := 44) rfl
theorem tw_765 : (Jvm.Cond.instanceMethod ({ cls := "StrataClientModel", name := "best", desc := "(I)I" } : Jvm.MethodName)) ∈ lw_tbl := zt_in3 (i := 45) rfl
theorem tw_766 : (Jvm.Cond.code ({ cls := "StrataClientModel", name := "best", desc := "(I)I" } : Jvm.MethodName) prog_6_method_20_code (5 : Nat) (Option.some Jvm.ClassFile.FieldType.int)) ∈ lw_tbl := zt_in3 (i := 46) rfl
theorem tw_767 : (Jvm.Cond.constantLong "StrataClientModel" (103 : Nat) (2 : Int64)) ∈ lw_tbl := zt_in3 (i := 47) rfl
theorem tw_768 : (Jvm.Cond.methodLink "StrataClientModel" (105 : Nat) ({ cls := "StrataClientModel", name := "dispersion", desc := "(I)J" } : Jvm.MethodName)) ∈ lw_tbl := zt_in3 (i := 48) rfl
theorem tw_769 : (Jvm.Cond.privateMethod ({ cls := "StrataClientModel", name := "dispersion", desc := "(I)J" } : Jvm.MethodName)) ∈ lw_tbl := zt_in3 (i := 49) rfl
theorem tw_770 : (Jvm.Cond.instanceMethod ({ cls := "StrataClientModel", name := "dispersion", desc := "(I)J" } : Jvm.MethodName)) ∈ lw_tbl := zt_in3 (i := 50) rfl
theorem tw_771 : (Jvm.Cond.code ({ cls := "StrataClientModel", name := "dispersion", desc := "(I)J" } : Jvm.MethodName) prog_6_method_19_code (2 : Nat) (Option.some Jvm.ClassFile.FieldType.long)) ∈ lw_tbl := zt_in3 (i := 51) rfl
theorem tw_772 : (Jvm.Cond.methodLink "StrataClientLaw" (126 : Nat) ({ cls := "StrataClientModel", name := "delay", desc := "(I)J" } : Jvm.MethodName)) ∈ lw_tbl := zt_in3 (i := 52) rfl
theorem tw_773 : (Jvm.Cond.instanceMethod ({ cls := "StrataClientModel", name := "delay", desc := "(I)J" } : Jvm.MethodName)) ∈ lw_tbl := zt_in3 (i := 53) rfl
theorem tw_774 : (Jvm.Cond.selects "StrataClientModel" ({ cls := "StrataClientModel", name := "delay", desc := "(I)J" } : Jvm.MethodName) ({ cls := "StrataClientModel", name := "delay", desc := "(I)J" } : Jvm.MethodName)) ∈ lw_tbl := zt_in3 (i := 54) rfl
theorem tw_775 : (Jvm.Cond.code ({ cls := "StrataClientModel", name := "delay", desc := "(I)J" } : Jvm.MethodName) prog_6_method_26_code (2 : Nat) (Option.some Jvm.ClassFile.FieldType.long)) ∈ lw_tbl := zt_in3 (i := 55) rfl
theorem tw_776 : (Jvm.Cond.methodLink "StrataClientLaw" (129 : Nat) ({ cls := "StrataClientModel", name := "jitter", desc := "(I)J" } : Jvm.MethodName)) ∈ lw_tbl := zt_in3 (i := 56) rfl
theorem tw_777 : (Jvm.Cond.instanceMethod ({ cls := "StrataClientModel", name := "jitter", desc := "(I)J" } : Jvm.MethodName)) ∈ lw_tbl := zt_in3 (i := 57) rfl
theorem tw_778 : (Jvm.Cond.selects "StrataClientModel" ({ cls := "StrataClientModel", name := "jitter", desc := "(I)J" } : Jvm.MethodName) ({ cls := "StrataClientModel", name := "jitter", desc := "(I)J" } : Jvm.MethodName)) ∈ lw_tbl := zt_in3 (i := 58) rfl
theorem tw_779 : (Jvm.Cond.code ({ cls := "StrataClientModel", name := "jitter", desc := "(I)J" } : Jvm.MethodName) prog_6_method_27_code (2 : Nat) (Option.some Jvm.ClassFile.FieldType.long)) ∈ lw_tbl := zt_in3 (i := 59) rfl
theorem tw_780 : (Jvm.Cond.methodLink "StrataClientModel" (116 : Nat) ({ cls := "StrataClientModel", name := "jitterOf", desc := "(I)J" } : Jvm.MethodName)) ∈ lw_tbl := zt_in3 (i := 60) rfl
theorem tw_781 : (Jvm.Cond.privateMethod ({ cls := "StrataClientModel", name := "jitterOf", desc := "(I)J" } : Jvm.MethodName)) ∈ lw_tbl := zt_in3 (i := 61) rfl
theorem tw_782 : (Jvm.Cond.instanceMethod ({ cls := "StrataClientModel", name := "jitterOf", desc := "(I)J" } : Jvm.MethodName)) ∈ lw_tbl := zt_in3 (i := 62) rfl
theorem tw_783 : (Jvm.Cond.code ({ cls := "StrataClientModel", name := "jitterOf", desc := "(I)J" } : Jvm.MethodName) prog_6_method_21_code (9 : Nat) (Option.some Jvm.ClassFile.FieldType.long)) ∈ lw_tbl := zt_in3 (i := 63) rfl
theorem tw_784 : (Jvm.Cond.methodLink "StrataClientModel" (112 : Nat) ({ cls := "StrataClientModel", name := "size", desc := "(J)J" } : Jvm.MethodName)) ∈ lw_tbl := zt_in3 (i := 64) rfl
theorem tw_785 : (Jvm.Cond.static ({ cls := "StrataClientModel", name := "size", desc := "(J)J" } : Jvm.MethodName)) ∈ lw_tbl := zt_in3 (i := 65) rfl
theorem tw_786 : (Jvm.Cond.code ({ cls := "StrataClientModel", name := "size", desc := "(J)J" } : Jvm.MethodName) prog_6_method_4_code (2 : Nat) (Option.some Jvm.ClassFile.FieldType.long)) ∈ lw_tbl := zt_in3 (i := 66) rfl
theorem tw_787 : (Jvm.Cond.methodLink "StrataClientLaw" (132 : Nat) ({ cls := "StrataClientModel", name := "distance", desc := "(I)J" } : Jvm.MethodName)) ∈ lw_tbl := zt_in3 (i := 67) rfl
theorem tw_788 : (Jvm.Cond.instanceMethod ({ cls := "StrataClientModel", name := "distance", desc := "(I)J" } : Jvm.MethodName)) ∈ lw_tbl := zt_in3 (i := 68) rfl
theorem tw_789 : (Jvm.Cond.selects "StrataClientModel" ({ cls := "StrataClientModel", name := "distance", desc := "(I)J" } : Jvm.MethodName) ({ cls := "StrataClientModel", name := "distance", desc := "(I)J" } : Jvm.MethodName)) ∈ lw_tbl := zt_in3 (i := 69) rfl
theorem tw_790 : (Jvm.Cond.code ({ cls := "StrataClientModel", name := "distance", desc := "(I)J" } : Jvm.MethodName) prog_6_method_28_code (2 : Nat) (Option.some Jvm.ClassFile.FieldType.long)) ∈ lw_tbl := zt_in3 (i := 70) rfl
theorem tw_791 : (Jvm.Cond.methodLink "StrataClientModel" (125 : Nat) ({ cls := "StrataClientModel", name := "distanceOf", desc := "(I)J" } : Jvm.MethodName)) ∈ lw_tbl := zt_in3 (i := 71) rfl
theorem tw_792 : (Jvm.Cond.privateMethod ({ cls := "StrataClientModel", name := "distanceOf", desc := "(I)J" } : Jvm.MethodName)) ∈ lw_tbl := zt_in3 (i := 72) rfl
theorem tw_793 : (Jvm.Cond.instanceMethod ({ cls := "StrataClientModel", name := "distanceOf", desc := "(I)J" } : Jvm.MethodName)) ∈ lw_tbl := zt_in3 (i := 73) rfl
theorem tw_794 : (Jvm.Cond.code ({ cls := "StrataClientModel", name := "distanceOf", desc := "(I)J" } : Jvm.MethodName) prog_6_method_22_code (3 : Nat) (Option.some Jvm.ClassFile.FieldType.long)) ∈ lw_tbl := zt_in3 (i := 74) rfl
theorem tw_795 : (Jvm.Cond.methodLink "StrataClientLaw" (136 : Nat) ({ cls := "StrataClientModel", name := "candidates", desc := "()I" } : Jvm.MethodName)) ∈ lw_tbl := zt_in3 (i := 75) rfl
theorem tw_796 : (Jvm.Cond.instanceMethod ({ cls := "StrataClientModel", name := "candidates", desc := "()I" } : Jvm.MethodName)) ∈ lw_tbl := zt_in3 (i := 76) rfl
theorem tw_797 : (Jvm.Cond.selects "StrataClientModel" ({ cls := "StrataClientModel", name := "candidates", desc := "()I" } : Jvm.MethodName) ({ cls := "StrataClientModel", name := "candidates", desc := "()I" } : Jvm.MethodName)) ∈ lw_tbl := zt_in3 (i := 77) rfl
theorem tw_798 : (Jvm.Cond.code ({ cls := "StrataClientModel", name := "candidates", desc := "()I" } : Jvm.MethodName) prog_6_method_30_code (3 : Nat) (Option.some Jvm.ClassFile.FieldType.int)) ∈ lw_tbl := zt_in3 (i := 78) rfl
theorem tw_799 : (Jvm.Cond.methodLink "StrataClientModel" (130 : Nat) ({ cls := "StrataClientModel", name := "isCandidate", desc := "(I)Z" } : Jvm.MethodName)) ∈ lw_tbl := zt_in3 (i := 79) rfl
theorem tw_800 : (Jvm.Cond.privateMethod ({ cls := "StrataClientModel", name := "isCandidate", desc := "(I)Z" } : Jvm.MethodName)) ∈ lw_tbl := zt_in3 (i := 80) rfl
theorem tw_801 : (Jvm.Cond.instanceMethod ({ cls := "StrataClientModel", name := "isCandidate", desc := "(I)Z" } : Jvm.MethodName)) ∈ lw_tbl := zt_in3 (i := 81) rfl
theorem tw_802 : (Jvm.Cond.code ({ cls := "StrataClientModel", name := "isCandidate", desc := "(I)Z" } : Jvm.MethodName) prog_6_method_29_code (2 : Nat) (Option.some Jvm.ClassFile.FieldType.boolean)) ∈ lw_tbl := zt_in3 (i := 82) rfl
theorem tw_803 : (Jvm.Cond.constantLong "StrataClientModel" (128 : Nat) (6442450944 : Int64)) ∈ lw_tbl := zt_in3 (i := 83) rfl
theorem tw_804 : (Jvm.Cond.methodLink "StrataClientLaw" (140 : Nat) ({ cls := "StrataClientModel", name := "low", desc := "()J" } : Jvm.MethodName)) ∈ lw_tbl := zt_in3 (i := 84) rfl
theorem tw_805 : (Jvm.Cond.instanceMethod ({ cls := "StrataClientModel", name := "low", desc := "()J" } : Jvm.MethodName)) ∈ lw_tbl := zt_in3 (i := 85) rfl
theorem tw_806 : (Jvm.Cond.selects "StrataClientModel" ({ cls := "StrataClientModel", name := "low", desc := "()J" } : Jvm.MethodName) ({ cls := "StrataClientModel", name := "low", desc := "()J" } : Jvm.MethodName)) ∈ lw_tbl := zt_in3 (i := 86) rfl
theorem tw_807 : (Jvm.Cond.code ({ cls := "StrataClientModel", name := "low", desc := "()J" } : Jvm.MethodName) prog_6_method_33_code (1 : Nat) (Option.some Jvm.ClassFile.FieldType.long)) ∈ lw_tbl := zt_in3 (i := 87) rfl
theorem tw_808 : (Jvm.Cond.methodLink "StrataClientModel" (143 : Nat) ({ cls := "StrataClientModel", name := "majority", desc := "()Z" } : Jvm.MethodName)) ∈ lw_tbl := zt_in3 (i := 88) rfl
theorem tw_809 : (Jvm.Cond.privateMethod ({ cls := "StrataClientModel", name := "majority", desc := "()Z" } : Jvm.MethodName)) ∈ lw_tbl := zt_in3 (i := 89) rfl
theorem tw_810 : (Jvm.Cond.instanceMethod ({ cls := "StrataClientModel", name := "majority", desc := "()Z" } : Jvm.MethodName)) ∈ lw_tbl := zt_in3 (i := 90) rfl
theorem tw_811 : (Jvm.Cond.code ({ cls := "StrataClientModel", name := "majority", desc := "()Z" } : Jvm.MethodName) prog_6_method_32_code (7 : Nat) (Option.some Jvm.ClassFile.FieldType.boolean)) ∈ lw_tbl := zt_in3 (i := 91) rfl
theorem tw_812 : (Jvm.Cond.methodLink "StrataClientModel" (133 : Nat) ({ cls := "StrataClientModel", name := "isCommon", desc := "(J)Z" } : Jvm.MethodName)) ∈ lw_tbl := zt_in3 (i := 92) rfl
theorem tw_813 : (Jvm.Cond.privateMethod ({ cls := "StrataClientModel", name := "isCommon", desc := "(J)Z" } : Jvm.MethodName)) ∈ lw_tbl := zt_in3 (i := 93) rfl
theorem tw_814 : (Jvm.Cond.instanceMethod ({ cls := "StrataClientModel", name := "isCommon", desc := "(J)Z" } : Jvm.MethodName)) ∈ lw_tbl := zt_in3 (i := 94) rfl
theorem tw_815 : (Jvm.Cond.code ({ cls := "StrataClientModel", name := "isCommon", desc := "(J)Z" } : Jvm.MethodName) prog_6_method_31_code (6 : Nat) (Option.some Jvm.ClassFile.FieldType.boolean)) ∈ lw_tbl := zt_in3 (i := 95) rfl
theorem tw_816 : (Jvm.Cond.methodLink "StrataClientLaw" (143 : Nat) ({ cls := "StrataClientModel", name := "high", desc := "()J" } : Jvm.MethodName)) ∈ lw_tbl := zt_in3 (i := 96) rfl
theorem tw_817 : (Jvm.Cond.instanceMethod ({ cls := "StrataClientModel", name := "high", desc := "()J" } : Jvm.MethodName)) ∈ lw_tbl := zt_in3 (i := 97) rfl
theorem tw_818 : (Jvm.Cond.selects "StrataClientModel" ({ cls := "StrataClientModel", name := "high", desc := "()J" } : Jvm.MethodName) ({ cls := "StrataClientModel", name := "high", desc := "()J" } : Jvm.MethodName)) ∈ lw_tbl := zt_in3 (i := 98) rfl
theorem tw_819 : (Jvm.Cond.code ({ cls := "StrataClientModel", name := "high", desc := "()J" } : Jvm.MethodName) prog_6_method_34_code (1 : Nat) (Option.some Jvm.ClassFile.FieldType.long)) ∈ lw_tbl := zt_in3 (i := 99) rfl
theorem tw_820 : (Jvm.Cond.methodLink "StrataClientLaw" (147 : Nat) ({ cls := "StrataClientModel", name := "survivors", desc := "()I" } : Jvm.MethodName)) ∈ lw_tbl := zt_in3 (i := 100) rfl
theorem tw_821 : (Jvm.Cond.instanceMethod ({ cls := "StrataClientModel", name := "survivors", desc := "()I" } : Jvm.MethodName)) ∈ lw_tbl := zt_in3 (i := 101) rfl
theorem tw_822 : (Jvm.Cond.selects "StrataClientModel" ({ cls := "StrataClientModel", name := "survivors", desc := "()I" } : Jvm.MethodName) ({ cls := "StrataClientModel", name := "survivors", desc := "()I" } : Jvm.MethodName)) ∈ lw_tbl := zt_in3 (i := 102) rfl
theorem tw_823 : (Jvm.Cond.code ({ cls := "StrataClientModel", name := "survivors", desc := "()I" } : Jvm.MethodName) prog_6_method_37_code (3 : Nat) (Option.some Jvm.ClassFile.FieldType.int)) ∈ lw_tbl := zt_in3 (i := 103) rfl
theorem tw_824 : (Jvm.Cond.methodLink "StrataClientModel" (152 : Nat) ({ cls := "StrataClientModel", name := "survive", desc := "()I" } : Jvm.MethodName)) ∈ lw_tbl := zt_in3 (i := 104) rfl
theorem tw_825 : (Jvm.Cond.privateMethod ({ cls := "StrataClientModel", name := "survive", desc := "()I" } : Jvm.MethodName)) ∈ lw_tbl := zt_in3 (i := 105) rfl
theorem tw_826 : (Jvm.Cond.instanceMethod ({ cls := "StrataClientModel", name := "survive", desc := "()I" } : Jvm.MethodName)) ∈ lw_tbl := zt_in3 (i := 106) rfl
theorem tw_827 : (Jvm.Cond.code ({ cls := "StrataClientModel", name := "survive", desc := "()I" } : Jvm.MethodName) prog_6_method_36_code (9 : Nat) (Option.some Jvm.ClassFile.FieldType.int)) ∈ lw_tbl := zt_in3 (i := 107) rfl
theorem tw_828 : (Jvm.Cond.constantLong "StrataClientModel" (147 : Nat) (-1 : Int64)) ∈ lw_tbl := zt_in3 (i := 108) rfl
theorem tw_829 : (Jvm.Cond.methodLink "StrataClientModel" (149 : Nat) ({ cls := "StrataClientModel", name := "spread", desc := "(I)J" } : Jvm.MethodName)) ∈ lw_tbl := zt_in3 (i := 109) rfl
theorem tw_830 : (Jvm.Cond.privateMethod ({ cls := "StrataClientModel", name := "spread", desc := "(I)J" } : Jvm.MethodName)) ∈ lw_tbl := zt_in3 (i := 110) rfl
theorem tw_831 : (Jvm.Cond.instanceMethod ({ cls := "StrataClientModel", name := "spread", desc := "(I)J" } : Jvm.MethodName)) ∈ lw_tbl := zt_in3 (i := 111) rfl
theorem tw_832 : (Jvm.Cond.code ({ cls := "StrataClientModel", name := "spread", desc := "(I)J" } : Jvm.MethodName) prog_6_method_35_code (5 : Nat) (Option.some Jvm.ClassFile.FieldType.long)) ∈ lw_tbl := zt_in3 (i := 112) rfl
theorem tw_833 : (Jvm.Cond.methodLink "StrataClientLaw" (150 : Nat) ({ cls := "StrataClientModel", name := "peer", desc := "()I" } : Jvm.MethodName)) ∈ lw_tbl := zt_in3 (i := 113) rfl
theorem tw_834 : (Jvm.Cond.instanceMethod ({ cls := "StrataClientModel", name := "peer", desc := "()I" } : Jvm.MethodName)) ∈ lw_tbl := zt_in3 (i := 114) rfl
theorem tw_835 : (Jvm.Cond.selects "StrataClientModel" ({ cls := "StrataClientModel", name := "peer", desc := "()I" } : Jvm.MethodName) ({ cls := "StrataClientModel", name := "peer", desc := "()I" } : Jvm.MethodName)) ∈ lw_tbl := zt_in3 (i := 115) rfl
theorem tw_836 : (Jvm.Cond.code ({ cls := "StrataClientModel", name := "peer", desc := "()I" } : Jvm.MethodName) prog_6_method_39_code (1 : Nat) (Option.some Jvm.ClassFile.FieldType.int)) ∈ lw_tbl := zt_in3 (i := 116) rfl
theorem tw_837 : (Jvm.Cond.methodLink "StrataClientModel" (156 : Nat) ({ cls := "StrataClientModel", name := "peerOf", desc := "()I" } : Jvm.MethodName)) ∈ lw_tbl := zt_in3 (i := 117) rfl
theorem tw_838 : (Jvm.Cond.privateMethod ({ cls := "StrataClientModel", name := "peerOf", desc := "()I" } : Jvm.MethodName)) ∈ lw_tbl := zt_in3 (i := 118) rfl
theorem tw_839 : (Jvm.Cond.instanceMethod ({ cls := "StrataClientModel", name := "peerOf", desc := "()I" } : Jvm.MethodName)) ∈ lw_tbl := zt_in3 (i := 119) rfl
theorem tw_840 : (Jvm.Cond.code ({ cls := "StrataClientModel", name := "peerOf", desc := "()I" } : Jvm.MethodName) prog_6_method_38_code (4 : Nat) (Option.some Jvm.ClassFile.FieldType.int)) ∈ lw_tbl := zt_in3 (i := 120) rfl
theorem tw_841 : (Jvm.Cond.methodLink "StrataClientLaw" (153 : Nat) ({ cls := "StrataClientModel", name := "update", desc := "()I" } : Jvm.MethodName)) ∈ lw_tbl := zt_in3 (i := 121) rfl
theorem tw_842 : (Jvm.Cond.instanceMethod ({ cls := "StrataClientModel", name := "update", desc := "()I" } : Jvm.MethodName)) ∈ lw_tbl := zt_in3 (i := 122) rfl
theorem tw_843 : (Jvm.Cond.selects "StrataClientModel" ({ cls := "StrataClientModel", name := "update", desc := "()I" } : Jvm.MethodName) ({ cls := "StrataClientModel", name := "update", desc := "()I" } : Jvm.MethodName)) ∈ lw_tbl := zt_in3 (i := 123) rfl
theorem tw_844 : (Jvm.Cond.code ({ cls := "StrataClientModel", name := "update", desc := "()I" } : Jvm.MethodName) prog_6_method_43_code (4 : Nat) (Option.some Jvm.ClassFile.FieldType.int)) ∈ lw_tbl := zt_in3 (i := 124) rfl
theorem tw_845 : (Jvm.Cond.methodLink "StrataClientModel" (161 : Nat) ({ cls := "StrataClientModel", name := "combined", desc := "(I)J" } : Jvm.MethodName)) ∈ lw_tbl := zt_in3 (i := 125) rfl
theorem tw_846 : (Jvm.Cond.privateMethod ({ cls := "StrataClientModel", name := "combined", desc := "(I)J" } : Jvm.MethodName)) ∈ lw_tbl := zt_in3 (i := 126) rfl
theorem tw_847 : (Jvm.Cond.instanceMethod ({ cls := "StrataClientModel", name := "combined", desc := "(I)J" } : Jvm.MethodName)) ∈ lw_tbl := zt_in3 (i := 127) rfl
theorem tw_848 : (Jvm.Cond.code ({ cls := "StrataClientModel", name := "combined", desc := "(I)J" } : Jvm.MethodName) prog_6_method_40_code (6 : Nat) (Option.some Jvm.ClassFile.FieldType.long)) ∈ lw_tbl := zt_in3 (i := 128) rfl
theorem tw_849 : (Jvm.Cond.constantLong "StrataClientModel" (164 : Nat) (4294967296000 : Int64)) ∈ lw_tbl := zt_in3 (i := 129) rfl
theorem tw_850 : (Jvm.Cond.constantLong "StrataClientModel" (170 : Nat) (536870912 : Int64)) ∈ lw_tbl := zt_in3 (i := 130) rfl
theorem tw_851 : (Jvm.Cond.methodLink "StrataClientModel" (172 : Nat) ({ cls := "StrataClientModel", name := "step", desc := "(J)V" } : Jvm.MethodName)) ∈ lw_tbl := zt_in3 (i := 131) rfl
theorem tw_852 : (Jvm.Cond.privateMethod ({ cls := "StrataClientModel", name := "step", desc := "(J)V" } : Jvm.MethodName)) ∈ lw_tbl := zt_in3 (i := 132) rfl
theorem tw_853 : (Jvm.Cond.instanceMethod ({ cls := "StrataClientModel", name := "step", desc := "(J)V" } : Jvm.MethodName)) ∈ lw_tbl := zt_in3 (i := 133) rfl
theorem tw_854 : (Jvm.Cond.code ({ cls := "StrataClientModel", name := "step", desc := "(J)V" } : Jvm.MethodName) prog_6_method_41_code (4 : Nat) (Option.none : Option Jvm.ClassFile.FieldType)) ∈ lw_tbl := zt_in3 (i := 134) rfl
theorem tw_855 : (Jvm.Cond.methodLink "StrataClientModel" (176 : Nat) ({ cls := "StrataClientModel", name := "slow", desc := "(J)V" } : Jvm.MethodName)) ∈ lw_tbl := zt_in3 (i := 135) rfl
theorem tw_856 : (Jvm.Cond.privateMethod ({ cls := "StrataClientModel", name := "slow", desc := "(J)V" } : Jvm.MethodName)) ∈ lw_tbl := zt_in3 (i := 136) rfl
theorem tw_857 : (Jvm.Cond.instanceMethod ({ cls := "StrataClientModel", name := "slow", desc := "(J)V" } : Jvm.MethodName)) ∈ lw_tbl := zt_in3 (i := 137) rfl
theorem tw_858 : (Jvm.Cond.code ({ cls := "StrataClientModel", name := "slow", desc := "(J)V" } : Jvm.MethodName) prog_6_method_42_code (5 : Nat) (Option.none : Option Jvm.ClassFile.FieldType)) ∈ lw_tbl := zt_in3 (i := 138) rfl
theorem tw_859 : (Jvm.Cond.constantLong "StrataClientModel" (159 : Nat) (4 : Int64)) ∈ lw_tbl := zt_in3 (i := 139) rfl
theorem tw_860 : (Jvm.Cond.constantLong "StrataClientLaw" (78 : Nat) (4294967295 : Int64)) ∈ lw_tbl := zt_in3 (i := 140) rfl
theorem tw_861 : (Jvm.Cond.sameMethod "java/lang/Throwable" "java/lang/Throwable" "fillInStackTrace" "(I)Ljava/lang/Throwable;") ∈ lw_tbl := zt_in3 (i := 141) rfl
