set_option maxRecDepth 100000 in
theorem mw_0 : (Cond.initialized "PayChainLaw") ∈ bw_B := bw_1 (List.mem_of_getElem? (i := 0) rfl) rfl
set_option maxRecDepth 100000 in
theorem mw_1 : (Cond.initialized "PayChain") ∈ bw_B := bw_1 (List.mem_of_getElem? (i := 1) rfl) rfl
set_option maxRecDepth 100000 in
theorem mw_2 : (Cond.initialized "PayChain$Row") ∈ bw_B := bw_1 (List.mem_of_getElem? (i := 2) rfl) rfl
set_option maxRecDepth 100000 in
theorem mw_3 : (Cond.initialized "PayChain$Terminal") ∈ bw_B := bw_1 (List.mem_of_getElem? (i := 3) rfl) rfl
set_option maxRecDepth 100000 in
theorem mw_4 : (Cond.initialized "PayChain$Host") ∈ bw_B := bw_1 (List.mem_of_getElem? (i := 4) rfl) rfl
set_option maxRecDepth 100000 in
theorem mw_5 : (Cond.initialized "PayChain$Payment") ∈ bw_B := bw_1 (List.mem_of_getElem? (i := 5) rfl) rfl
set_option maxRecDepth 100000 in
theorem mw_6 : (Cond.initialized "java/util/AbstractCollection") ∈ bw_B := bw_1 (List.mem_of_getElem? (i := 6) rfl) rfl
set_option maxRecDepth 100000 in
theorem mw_7 : (Cond.initialized "java/util/AbstractList") ∈ bw_B := bw_1 (List.mem_of_getElem? (i := 7) rfl) rfl
set_option maxRecDepth 100000 in
theorem mw_8 : (Cond.initialized "java/util/ArrayList") ∈ bw_B := bw_1 (List.mem_of_getElem? (i := 8) rfl) rfl
set_option maxRecDepth 100000 in
theorem mw_9 : (Cond.initialized "PayChain$Card") ∈ bw_B := bw_1 (List.mem_of_getElem? (i := 9) rfl) rfl
set_option maxRecDepth 100000 in
theorem mw_10 : (Cond.initialized "PayChain$ObjectTree") ∈ bw_B := bw_1 (List.mem_of_getElem? (i := 10) rfl) rfl
set_option maxRecDepth 100000 in
theorem mw_11 : (Cond.initialized "PayChainModel") ∈ bw_B := bw_1 (List.mem_of_getElem? (i := 11) rfl) rfl
set_option maxRecDepth 100000 in
theorem mw_12 : (Cond.initialized "PayChain$Tag") ∈ bw_B := bw_1 (List.mem_of_getElem? (i := 12) rfl) rfl
set_option maxRecDepth 100000 in
theorem mw_13 : (Cond.initialized "PayChain$Mac") ∈ bw_B := bw_1 (List.mem_of_getElem? (i := 13) rfl) rfl
set_option maxRecDepth 100000 in
theorem mw_14 : (Cond.initialized "PayChain$Reversal") ∈ bw_B := bw_1 (List.mem_of_getElem? (i := 14) rfl) rfl
set_option maxRecDepth 100000 in
theorem mw_15 : (Cond.initialized "jdk/internal/util/ArraysSupport") ∈ bw_B := bw_1 (List.mem_of_getElem? (i := 15) rfl) rfl
set_option maxRecDepth 100000 in
theorem mw_16 : (Cond.initialized "java/lang/Math") ∈ bw_B := bw_1 (List.mem_of_getElem? (i := 16) rfl) rfl
set_option maxRecDepth 100000 in
theorem mw_17 : (Cond.initialized "java/util/Arrays") ∈ bw_B := bw_1 (List.mem_of_getElem? (i := 17) rfl) rfl
set_option maxRecDepth 100000 in
theorem mw_18 : (Cond.initialized "java/lang/System") ∈ bw_B := bw_1 (List.mem_of_getElem? (i := 18) rfl) rfl
set_option maxRecDepth 100000 in
theorem mw_19 : (Cond.initialized "java/util/Objects") ∈ bw_B := bw_1 (List.mem_of_getElem? (i := 19) rfl) rfl
set_option maxRecDepth 100000 in
theorem mw_20 : (Cond.initialized "jdk/internal/util/Preconditions") ∈ bw_B := bw_1 (List.mem_of_getElem? (i := 20) rfl) rfl
set_option maxRecDepth 100000 in
theorem mw_21 : (Cond.classLink "PayChainLaw" (7 : Nat) "PayChain") ∈ bw_B := bw_1 (List.mem_of_getElem? (i := 21) rfl) rfl
set_option maxRecDepth 100000 in
theorem mw_22 : (Cond.instantiable "PayChain" (9 : Nat)) ∈ bw_B := bw_1 (List.mem_of_getElem? (i := 22) rfl) rfl
set_option maxRecDepth 100000 in
theorem mw_23 : (Cond.methodLink "PayChainLaw" (9 : Nat) ({ cls := "PayChain", name := "<init>", desc := "()V" } : MethodName)) ∈ bw_B := bw_1 (List.mem_of_getElem? (i := 23) rfl) rfl
set_option maxRecDepth 100000 in
theorem mw_24 : (Cond.instanceMethod ({ cls := "PayChain", name := "<init>", desc := "()V" } : MethodName)) ∈ bw_B := bw_1 (List.mem_of_getElem? (i := 24) rfl) rfl
set_option maxRecDepth 100000 in
theorem mw_25 : (Cond.code ({ cls := "PayChain", name := "<init>", desc := "()V" } : MethodName) prog_1_method_1_code (1 : Nat) (Option.none : Option FieldType)) ∈ bw_B := bw_1 (List.mem_of_getElem? (i := 25) rfl) rfl
set_option maxRecDepth 100000 in
theorem mw_26 : (Cond.methodLink "PayChain" (1 : Nat) ({ cls := "java/lang/Object", name := "<init>", desc := "()V" } : MethodName)) ∈ bw_B := bw_1 (List.mem_of_getElem? (i := 26) rfl) rfl
set_option maxRecDepth 100000 in
theorem mw_27 : (Cond.instanceMethod ({ cls := "java/lang/Object", name := "<init>", desc := "()V" } : MethodName)) ∈ bw_B := bw_1 (List.mem_of_getElem? (i := 27) rfl) rfl
set_option maxRecDepth 100000 in
theorem mw_28 : (Cond.code ({ cls := "java/lang/Object", name := "<init>", desc := "()V" } : MethodName) object_method_1_code (1 : Nat) (Option.none : Option FieldType)) ∈ bw_B := bw_1 (List.mem_of_getElem? (i := 28) rfl) rfl
set_option maxRecDepth 100000 in
theorem mw_29 : (Cond.classLink "PayChain" (7 : Nat) "PayChain$Row") ∈ bw_B := bw_1 (List.mem_of_getElem? (i := 29) rfl) rfl
set_option maxRecDepth 100000 in
theorem mw_30 : (Cond.instantiable "PayChain$Row" (2 : Nat)) ∈ bw_B := bw_1 (List.mem_of_getElem? (i := 30) rfl) rfl
set_option maxRecDepth 100000 in
theorem mw_31 : (Cond.methodLink "PayChain" (11 : Nat) ({ cls := "PayChain$Row", name := "<init>", desc := "(I)V" } : MethodName)) ∈ bw_B := bw_1 (List.mem_of_getElem? (i := 31) rfl) rfl
set_option maxRecDepth 100000 in
theorem mw_32 : (Cond.instanceMethod ({ cls := "PayChain$Row", name := "<init>", desc := "(I)V" } : MethodName)) ∈ bw_B := bw_1 (List.mem_of_getElem? (i := 32) rfl) rfl
set_option maxRecDepth 100000 in
theorem mw_33 : (Cond.code ({ cls := "PayChain$Row", name := "<init>", desc := "(I)V" } : MethodName) prog_8_method_1_code (2 : Nat) (Option.none : Option FieldType)) ∈ bw_B := bw_1 (List.mem_of_getElem? (i := 33) rfl) rfl
set_option maxRecDepth 100000 in
theorem mw_34 : (Cond.methodLink "PayChain$Row" (3 : Nat) ({ cls := "java/lang/Object", name := "<init>", desc := "()V" } : MethodName)) ∈ bw_B := bw_1 (List.mem_of_getElem? (i := 34) rfl) rfl
set_option maxRecDepth 100000 in
theorem mw_35 : (Cond.fieldLink "PayChain$Row" (9 : Nat) "PayChain$Row" "bytes" "[I") ∈ bw_B := bw_1 (List.mem_of_getElem? (i := 35) rfl) rfl
set_option maxRecDepth 100000 in
theorem mw_36 : (Cond.fieldLink "PayChain$Row" (15 : Nat) "PayChain$Row" "length" "I") ∈ bw_B := bw_1 (List.mem_of_getElem? (i := 36) rfl) rfl
set_option maxRecDepth 100000 in
theorem mw_37 : (Cond.laysFinal "PayChain$Row" "PayChain$Row" "bytes" "[I") ∈ bw_B := bw_1 (List.mem_of_getElem? (i := 37) rfl) rfl
set_option maxRecDepth 100000 in
theorem mw_39 : (Cond.lays "PayChain$Row" "PayChain$Row" "length" "I") ∈ bw_B := bw_1 (List.mem_of_getElem? (i := 39) rfl) rfl
set_option maxRecDepth 100000 in
theorem mw_42 : (Cond.arrayClass FieldType.int) ∈ bw_B := bw_1 (List.mem_of_getElem? (i := 42) rfl) rfl
set_option maxRecDepth 100000 in
theorem mw_43 : (Cond.classLink "PayChain" (18 : Nat) "PayChain$Card") ∈ bw_B := bw_1 (List.mem_of_getElem? (i := 43) rfl) rfl
set_option maxRecDepth 100000 in
theorem mw_45 : (Cond.classLink "PayChain" (24 : Nat) "PayChain$Terminal") ∈ bw_B := bw_1 (List.mem_of_getElem? (i := 45) rfl) rfl
set_option maxRecDepth 100000 in
theorem mw_46 : (Cond.instantiable "PayChain$Terminal" (1 : Nat)) ∈ bw_B := bw_1 (List.mem_of_getElem? (i := 46) rfl) rfl
set_option maxRecDepth 100000 in
theorem mw_48 : (Cond.instanceMethod ({ cls := "PayChain$Terminal", name := "<init>", desc := "()V" } : MethodName)) ∈ bw_B := bw_1 (List.mem_of_getElem? (i := 48) rfl) rfl
set_option maxRecDepth 100000 in
theorem mw_49 : (Cond.code ({ cls := "PayChain$Terminal", name := "<init>", desc := "()V" } : MethodName) prog_10_method_1_code (1 : Nat) (Option.none : Option FieldType)) ∈ bw_B := bw_1 (List.mem_of_getElem? (i := 49) rfl) rfl
set_option maxRecDepth 100000 in
theorem mw_50 : (Cond.methodLink "PayChain$Terminal" (1 : Nat) ({ cls := "java/lang/Object", name := "<init>", desc := "()V" } : MethodName)) ∈ bw_B := bw_1 (List.mem_of_getElem? (i := 50) rfl) rfl
set_option maxRecDepth 100000 in
theorem mw_51 : (Cond.fieldLink "PayChain$Terminal" (9 : Nat) "PayChain$Terminal" "settings" "[I") ∈ bw_B := bw_1 (List.mem_of_getElem? (i := 51) rfl) rfl
set_option maxRecDepth 100000 in
theorem mw_52 : (Cond.laysFinal "PayChain$Terminal" "PayChain$Terminal" "settings" "[I") ∈ bw_B := bw_1 (List.mem_of_getElem? (i := 52) rfl) rfl
set_option maxRecDepth 100000 in
theorem mw_55 : (Cond.classLink "PayChain" (31 : Nat) "PayChain$Host") ∈ bw_B := bw_1 (List.mem_of_getElem? (i := 55) rfl) rfl
set_option maxRecDepth 100000 in
theorem mw_56 : (Cond.instantiable "PayChain$Host" (4 : Nat)) ∈ bw_B := bw_1 (List.mem_of_getElem? (i := 56) rfl) rfl
set_option maxRecDepth 100000 in
theorem mw_58 : (Cond.instanceMethod ({ cls := "PayChain$Host", name := "<init>", desc := "()V" } : MethodName)) ∈ bw_B := bw_1 (List.mem_of_getElem? (i := 58) rfl) rfl
set_option maxRecDepth 100000 in
theorem mw_59 : (Cond.code ({ cls := "PayChain$Host", name := "<init>", desc := "()V" } : MethodName) prog_3_method_1_code (1 : Nat) (Option.none : Option FieldType)) ∈ bw_B := bw_1 (List.mem_of_getElem? (i := 59) rfl) rfl
set_option maxRecDepth 100000 in
theorem mw_60 : (Cond.methodLink "PayChain$Host" (3 : Nat) ({ cls := "java/lang/Object", name := "<init>", desc := "()V" } : MethodName)) ∈ bw_B := bw_1 (List.mem_of_getElem? (i := 60) rfl) rfl
set_option maxRecDepth 100000 in
theorem mw_61 : (Cond.fieldLink "PayChain$Host" (9 : Nat) "PayChain$Host" "balances" "[J") ∈ bw_B := bw_1 (List.mem_of_getElem? (i := 61) rfl) rfl
set_option maxRecDepth 100000 in
theorem mw_62 : (Cond.fieldLink "PayChain$Host" (15 : Nat) "PayChain$Host" "keys" "[I") ∈ bw_B := bw_1 (List.mem_of_getElem? (i := 62) rfl) rfl
set_option maxRecDepth 100000 in
theorem mw_63 : (Cond.fieldLink "PayChain$Host" (19 : Nat) "PayChain$Host" "lasts" "[I") ∈ bw_B := bw_1 (List.mem_of_getElem? (i := 63) rfl) rfl
set_option maxRecDepth 100000 in
theorem mw_64 : (Cond.fieldLink "PayChain$Host" (38 : Nat) "PayChain$Host" "standing" "I") ∈ bw_B := bw_1 (List.mem_of_getElem? (i := 64) rfl) rfl
set_option maxRecDepth 100000 in
theorem mw_66 : (Cond.laysFinal "PayChain$Host" "PayChain$Host" "balances" "[J") ∈ bw_B := bw_1 (List.mem_of_getElem? (i := 66) rfl) rfl
set_option maxRecDepth 100000 in
theorem mw_68 : (Cond.laysFinal "PayChain$Host" "PayChain$Host" "keys" "[I") ∈ bw_B := bw_1 (List.mem_of_getElem? (i := 68) rfl) rfl
set_option maxRecDepth 100000 in
theorem mw_70 : (Cond.laysFinal "PayChain$Host" "PayChain$Host" "lasts" "[I") ∈ bw_B := bw_1 (List.mem_of_getElem? (i := 70) rfl) rfl
set_option maxRecDepth 100000 in
theorem mw_72 : (Cond.lays "PayChain$Host" "PayChain$Host" "standing" "I") ∈ bw_B := bw_1 (List.mem_of_getElem? (i := 72) rfl) rfl
set_option maxRecDepth 100000 in
theorem mw_75 : (Cond.arrayClass FieldType.long) ∈ bw_B := bw_1 (List.mem_of_getElem? (i := 75) rfl) rfl
set_option maxRecDepth 100000 in
theorem mw_76 : (Cond.classLink "PayChain" (38 : Nat) "PayChain$Payment") ∈ bw_B := bw_1 (List.mem_of_getElem? (i := 76) rfl) rfl
set_option maxRecDepth 100000 in
theorem mw_77 : (Cond.instantiable "PayChain$Payment" (13 : Nat)) ∈ bw_B := bw_1 (List.mem_of_getElem? (i := 77) rfl) rfl
set_option maxRecDepth 100000 in
theorem mw_79 : (Cond.instanceMethod ({ cls := "PayChain$Payment", name := "<init>", desc := "()V" } : MethodName)) ∈ bw_B := bw_1 (List.mem_of_getElem? (i := 79) rfl) rfl
set_option maxRecDepth 100000 in
theorem mw_80 : (Cond.code ({ cls := "PayChain$Payment", name := "<init>", desc := "()V" } : MethodName) prog_6_method_1_code (1 : Nat) (Option.none : Option FieldType)) ∈ bw_B := bw_1 (List.mem_of_getElem? (i := 80) rfl) rfl
set_option maxRecDepth 100000 in
theorem mw_81 : (Cond.methodLink "PayChain$Payment" (3 : Nat) ({ cls := "java/lang/Object", name := "<init>", desc := "()V" } : MethodName)) ∈ bw_B := bw_1 (List.mem_of_getElem? (i := 81) rfl) rfl
set_option maxRecDepth 100000 in
theorem mw_82 : (Cond.classLink "PayChain$Payment" (9 : Nat) "PayChain$Row") ∈ bw_B := bw_1 (List.mem_of_getElem? (i := 82) rfl) rfl
set_option maxRecDepth 100000 in
theorem mw_83 : (Cond.methodLink "PayChain$Payment" (11 : Nat) ({ cls := "PayChain$Row", name := "<init>", desc := "(I)V" } : MethodName)) ∈ bw_B := bw_1 (List.mem_of_getElem? (i := 83) rfl) rfl
set_option maxRecDepth 100000 in
theorem mw_84 : (Cond.fieldLink "PayChain$Payment" (14 : Nat) "PayChain$Payment" "data" "LPayChain$Row;") ∈ bw_B := bw_1 (List.mem_of_getElem? (i := 84) rfl) rfl
set_option maxRecDepth 100000 in
theorem mw_87 : (Cond.fieldLink "PayChain$Payment" (20 : Nat) "PayChain$Payment" "number" "I") ∈ bw_B := bw_1 (List.mem_of_getElem? (i := 87) rfl) rfl
set_option maxRecDepth 100000 in
theorem mw_90 : (Cond.fieldLink "PayChain$Payment" (24 : Nat) "PayChain$Payment" "amount" "I") ∈ bw_B := bw_1 (List.mem_of_getElem? (i := 90) rfl) rfl
set_option maxRecDepth 100000 in
theorem mw_91 : (Cond.fieldLink "PayChain$Payment" (27 : Nat) "PayChain$Payment" "typed" "I") ∈ bw_B := bw_1 (List.mem_of_getElem? (i := 91) rfl) rfl
set_option maxRecDepth 100000 in
theorem mw_92 : (Cond.fieldLink "PayChain$Payment" (30 : Nat) "PayChain$Payment" "fate" "I") ∈ bw_B := bw_1 (List.mem_of_getElem? (i := 92) rfl) rfl
set_option maxRecDepth 100000 in
theorem mw_93 : (Cond.fieldLink "PayChain$Payment" (109 : Nat) "PayChain$Payment" "outcome" "I") ∈ bw_B := bw_1 (List.mem_of_getElem? (i := 93) rfl) rfl
set_option maxRecDepth 100000 in
theorem mw_95 : (Cond.fieldLink "PayChain$Payment" (33 : Nat) "PayChain$Payment" "flags" "I") ∈ bw_B := bw_1 (List.mem_of_getElem? (i := 95) rfl) rfl
set_option maxRecDepth 100000 in
theorem mw_96 : (Cond.fieldLink "PayChain$Payment" (78 : Nat) "PayChain$Payment" "wish" "I") ∈ bw_B := bw_1 (List.mem_of_getElem? (i := 96) rfl) rfl
set_option maxRecDepth 100000 in
theorem mw_97 : (Cond.fieldLink "PayChain$Payment" (88 : Nat) "PayChain$Payment" "firstAnswer" "I") ∈ bw_B := bw_1 (List.mem_of_getElem? (i := 97) rfl) rfl
set_option maxRecDepth 100000 in
theorem mw_98 : (Cond.fieldLink "PayChain$Payment" (99 : Nat) "PayChain$Payment" "firstCryptogram" "I") ∈ bw_B := bw_1 (List.mem_of_getElem? (i := 98) rfl) rfl
set_option maxRecDepth 100000 in
theorem mw_99 : (Cond.fieldLink "PayChain$Payment" (36 : Nat) "PayChain$Payment" "secondAnswer" "I") ∈ bw_B := bw_1 (List.mem_of_getElem? (i := 99) rfl) rfl
set_option maxRecDepth 100000 in
theorem mw_100 : (Cond.fieldLink "PayChain$Payment" (39 : Nat) "PayChain$Payment" "secondCryptogram" "I") ∈ bw_B := bw_1 (List.mem_of_getElem? (i := 100) rfl) rfl
set_option maxRecDepth 100000 in
theorem mw_102 : (Cond.fieldLink "PayChain$Payment" (42 : Nat) "PayChain$Payment" "code" "I") ∈ bw_B := bw_1 (List.mem_of_getElem? (i := 102) rfl) rfl
set_option maxRecDepth 100000 in
theorem mw_103 : (Cond.laysFinal "PayChain$Payment" "PayChain$Payment" "data" "LPayChain$Row;") ∈ bw_B := bw_1 (List.mem_of_getElem? (i := 103) rfl) rfl
set_option maxRecDepth 100000 in
theorem mw_105 : (Cond.lays "PayChain$Payment" "PayChain$Payment" "number" "I") ∈ bw_B := bw_1 (List.mem_of_getElem? (i := 105) rfl) rfl
set_option maxRecDepth 100000 in
theorem mw_107 : (Cond.lays "PayChain$Payment" "PayChain$Payment" "amount" "I") ∈ bw_B := bw_1 (List.mem_of_getElem? (i := 107) rfl) rfl
set_option maxRecDepth 100000 in
theorem mw_109 : (Cond.lays "PayChain$Payment" "PayChain$Payment" "typed" "I") ∈ bw_B := bw_1 (List.mem_of_getElem? (i := 109) rfl) rfl
set_option maxRecDepth 100000 in
theorem mw_111 : (Cond.lays "PayChain$Payment" "PayChain$Payment" "fate" "I") ∈ bw_B := bw_1 (List.mem_of_getElem? (i := 111) rfl) rfl
set_option maxRecDepth 100000 in
theorem mw_113 : (Cond.lays "PayChain$Payment" "PayChain$Payment" "outcome" "I") ∈ bw_B := bw_1 (List.mem_of_getElem? (i := 113) rfl) rfl
set_option maxRecDepth 100000 in
theorem mw_115 : (Cond.lays "PayChain$Payment" "PayChain$Payment" "flags" "I") ∈ bw_B := bw_1 (List.mem_of_getElem? (i := 115) rfl) rfl
set_option maxRecDepth 100000 in
theorem mw_117 : (Cond.lays "PayChain$Payment" "PayChain$Payment" "wish" "I") ∈ bw_B := bw_1 (List.mem_of_getElem? (i := 117) rfl) rfl
set_option maxRecDepth 100000 in
theorem mw_119 : (Cond.lays "PayChain$Payment" "PayChain$Payment" "firstAnswer" "I") ∈ bw_B := bw_1 (List.mem_of_getElem? (i := 119) rfl) rfl
set_option maxRecDepth 100000 in
theorem mw_121 : (Cond.lays "PayChain$Payment" "PayChain$Payment" "firstCryptogram" "I") ∈ bw_B := bw_1 (List.mem_of_getElem? (i := 121) rfl) rfl
set_option maxRecDepth 100000 in
theorem mw_123 : (Cond.lays "PayChain$Payment" "PayChain$Payment" "secondAnswer" "I") ∈ bw_B := bw_1 (List.mem_of_getElem? (i := 123) rfl) rfl
set_option maxRecDepth 100000 in
theorem mw_125 : (Cond.lays "PayChain$Payment" "PayChain$Payment" "secondCryptogram" "I") ∈ bw_B := bw_1 (List.mem_of_getElem? (i := 125) rfl) rfl
set_option maxRecDepth 100000 in
theorem mw_127 : (Cond.lays "PayChain$Payment" "PayChain$Payment" "code" "I") ∈ bw_B := bw_1 (List.mem_of_getElem? (i := 127) rfl) rfl
set_option maxRecDepth 100000 in
theorem mw_130 : (Cond.classLink "PayChain" (45 : Nat) "java/util/ArrayList") ∈ bw_B := bw_1 (List.mem_of_getElem? (i := 130) rfl) rfl
set_option maxRecDepth 100000 in
theorem mw_131 : (Cond.instantiable "java/util/ArrayList" (3 : Nat)) ∈ bw_B := bw_1 (List.mem_of_getElem? (i := 131) rfl) rfl
set_option maxRecDepth 100000 in
theorem mw_132 : (Cond.methodLink "PayChain" (47 : Nat) ({ cls := "java/util/ArrayList", name := "<init>", desc := "()V" } : MethodName)) ∈ bw_B := bw_1 (List.mem_of_getElem? (i := 132) rfl) rfl
set_option maxRecDepth 100000 in
theorem mw_133 : (Cond.instanceMethod ({ cls := "java/util/ArrayList", name := "<init>", desc := "()V" } : MethodName)) ∈ bw_B := bw_1 (List.mem_of_getElem? (i := 133) rfl) rfl
set_option maxRecDepth 100000 in
theorem mw_134 : (Cond.code ({ cls := "java/util/ArrayList", name := "<init>", desc := "()V" } : MethodName) prog_20_method_2_code (1 : Nat) (Option.none : Option FieldType)) ∈ bw_B := bw_1 (List.mem_of_getElem? (i := 134) rfl) rfl
set_option maxRecDepth 100000 in
theorem mw_135 : (Cond.methodLink "java/util/ArrayList" (1 : Nat) ({ cls := "java/util/AbstractList", name := "<init>", desc := "()V" } : MethodName)) ∈ bw_B := bw_1 (List.mem_of_getElem? (i := 135) rfl) rfl
set_option maxRecDepth 100000 in
theorem mw_136 : (Cond.instanceMethod ({ cls := "java/util/AbstractList", name := "<init>", desc := "()V" } : MethodName)) ∈ bw_B := bw_1 (List.mem_of_getElem? (i := 136) rfl) rfl
set_option maxRecDepth 100000 in
theorem mw_137 : (Cond.code ({ cls := "java/util/AbstractList", name := "<init>", desc := "()V" } : MethodName) prog_19_method_1_code (1 : Nat) (Option.none : Option FieldType)) ∈ bw_B := bw_1 (List.mem_of_getElem? (i := 137) rfl) rfl
set_option maxRecDepth 100000 in
theorem mw_138 : (Cond.methodLink "java/util/AbstractList" (1 : Nat) ({ cls := "java/util/AbstractCollection", name := "<init>", desc := "()V" } : MethodName)) ∈ bw_B := bw_1 (List.mem_of_getElem? (i := 138) rfl) rfl
set_option maxRecDepth 100000 in
theorem mw_139 : (Cond.instanceMethod ({ cls := "java/util/AbstractCollection", name := "<init>", desc := "()V" } : MethodName)) ∈ bw_B := bw_1 (List.mem_of_getElem? (i := 139) rfl) rfl
set_option maxRecDepth 100000 in
theorem mw_140 : (Cond.code ({ cls := "java/util/AbstractCollection", name := "<init>", desc := "()V" } : MethodName) prog_18_method_1_code (1 : Nat) (Option.none : Option FieldType)) ∈ bw_B := bw_1 (List.mem_of_getElem? (i := 140) rfl) rfl
set_option maxRecDepth 100000 in
theorem mw_141 : (Cond.methodLink "java/util/AbstractCollection" (1 : Nat) ({ cls := "java/lang/Object", name := "<init>", desc := "()V" } : MethodName)) ∈ bw_B := bw_1 (List.mem_of_getElem? (i := 141) rfl) rfl
set_option maxRecDepth 100000 in
theorem mw_142 : (Cond.fieldLink "java/util/ArrayList" (39 : Nat) "java/util/ArrayList" "DEFAULTCAPACITY_EMPTY_ELEMENTDATA" "[Ljava/lang/Object;") ∈ bw_B := bw_1 (List.mem_of_getElem? (i := 142) rfl) rfl
set_option maxRecDepth 100000 in
theorem mw_144 : (Cond.fieldLink "java/util/ArrayList" (9 : Nat) "java/util/ArrayList" "elementData" "[Ljava/lang/Object;") ∈ bw_B := bw_1 (List.mem_of_getElem? (i := 144) rfl) rfl
set_option maxRecDepth 100000 in
theorem mw_145 : (Cond.fieldLink "java/util/ArrayList" (48 : Nat) "java/util/ArrayList" "size" "I") ∈ bw_B := bw_1 (List.mem_of_getElem? (i := 145) rfl) rfl
set_option maxRecDepth 100000 in
theorem mw_146 : (Cond.fieldLink "java/util/AbstractList" (7 : Nat) "java/util/AbstractList" "modCount" "I") ∈ bw_B := bw_1 (List.mem_of_getElem? (i := 146) rfl) rfl
set_option maxRecDepth 100000 in
theorem mw_147 : (Cond.fieldLink "java/util/ArrayList" (63 : Nat) "java/util/ArrayList" "modCount" "I") ∈ bw_B := bw_1 (List.mem_of_getElem? (i := 147) rfl) rfl
set_option maxRecDepth 100000 in
theorem mw_149 : (Cond.lays "java/util/ArrayList" "java/util/ArrayList" "elementData" "[Ljava/lang/Object;") ∈ bw_B := bw_1 (List.mem_of_getElem? (i := 149) rfl) rfl
set_option maxRecDepth 100000 in
theorem mw_151 : (Cond.lays "java/util/ArrayList" "java/util/ArrayList" "size" "I") ∈ bw_B := bw_1 (List.mem_of_getElem? (i := 151) rfl) rfl
set_option maxRecDepth 100000 in
theorem mw_153 : (Cond.lays "java/util/ArrayList" "java/util/AbstractList" "modCount" "I") ∈ bw_B := bw_1 (List.mem_of_getElem? (i := 153) rfl) rfl
set_option maxRecDepth 100000 in
theorem mw_156 : (Cond.instantiable "PayChain$Card" (14 : Nat)) ∈ bw_B := bw_1 (List.mem_of_getElem? (i := 156) rfl) rfl
set_option maxRecDepth 100000 in
theorem mw_158 : (Cond.instanceMethod ({ cls := "PayChain$Card", name := "<init>", desc := "()V" } : MethodName)) ∈ bw_B := bw_1 (List.mem_of_getElem? (i := 158) rfl) rfl
set_option maxRecDepth 100000 in
theorem mw_159 : (Cond.code ({ cls := "PayChain$Card", name := "<init>", desc := "()V" } : MethodName) prog_2_method_1_code (1 : Nat) (Option.none : Option FieldType)) ∈ bw_B := bw_1 (List.mem_of_getElem? (i := 159) rfl) rfl
set_option maxRecDepth 100000 in
theorem mw_160 : (Cond.methodLink "PayChain$Card" (3 : Nat) ({ cls := "java/lang/Object", name := "<init>", desc := "()V" } : MethodName)) ∈ bw_B := bw_1 (List.mem_of_getElem? (i := 160) rfl) rfl
set_option maxRecDepth 100000 in
theorem mw_161 : (Cond.classLink "PayChain$Card" (9 : Nat) "PayChain$ObjectTree") ∈ bw_B := bw_1 (List.mem_of_getElem? (i := 161) rfl) rfl
set_option maxRecDepth 100000 in
theorem mw_162 : (Cond.instantiable "PayChain$ObjectTree" (6 : Nat)) ∈ bw_B := bw_1 (List.mem_of_getElem? (i := 162) rfl) rfl
set_option maxRecDepth 100000 in
theorem mw_164 : (Cond.instanceMethod ({ cls := "PayChain$ObjectTree", name := "<init>", desc := "()V" } : MethodName)) ∈ bw_B := bw_1 (List.mem_of_getElem? (i := 164) rfl) rfl
set_option maxRecDepth 100000 in
theorem mw_165 : (Cond.code ({ cls := "PayChain$ObjectTree", name := "<init>", desc := "()V" } : MethodName) prog_5_method_1_code (1 : Nat) (Option.none : Option FieldType)) ∈ bw_B := bw_1 (List.mem_of_getElem? (i := 165) rfl) rfl
set_option maxRecDepth 100000 in
theorem mw_166 : (Cond.methodLink "PayChain$ObjectTree" (3 : Nat) ({ cls := "java/lang/Object", name := "<init>", desc := "()V" } : MethodName)) ∈ bw_B := bw_1 (List.mem_of_getElem? (i := 166) rfl) rfl
set_option maxRecDepth 100000 in
theorem mw_167 : (Cond.classLink "PayChain$ObjectTree" (9 : Nat) "PayChain$Row") ∈ bw_B := bw_1 (List.mem_of_getElem? (i := 167) rfl) rfl
set_option maxRecDepth 100000 in
theorem mw_168 : (Cond.methodLink "PayChain$ObjectTree" (11 : Nat) ({ cls := "PayChain$Row", name := "<init>", desc := "(I)V" } : MethodName)) ∈ bw_B := bw_1 (List.mem_of_getElem? (i := 168) rfl) rfl
set_option maxRecDepth 100000 in
theorem mw_169 : (Cond.fieldLink "PayChain$ObjectTree" (14 : Nat) "PayChain$ObjectTree" "row" "LPayChain$Row;") ∈ bw_B := bw_1 (List.mem_of_getElem? (i := 169) rfl) rfl
set_option maxRecDepth 100000 in
theorem mw_170 : (Cond.fieldLink "PayChain$ObjectTree" (20 : Nat) "PayChain$ObjectTree" "tags" "[I") ∈ bw_B := bw_1 (List.mem_of_getElem? (i := 170) rfl) rfl
set_option maxRecDepth 100000 in
theorem mw_171 : (Cond.fieldLink "PayChain$ObjectTree" (24 : Nat) "PayChain$ObjectTree" "starts" "[I") ∈ bw_B := bw_1 (List.mem_of_getElem? (i := 171) rfl) rfl
set_option maxRecDepth 100000 in
theorem mw_172 : (Cond.fieldLink "PayChain$ObjectTree" (27 : Nat) "PayChain$ObjectTree" "lengths" "[I") ∈ bw_B := bw_1 (List.mem_of_getElem? (i := 172) rfl) rfl
set_option maxRecDepth 100000 in
theorem mw_173 : (Cond.fieldLink "PayChain$ObjectTree" (30 : Nat) "PayChain$ObjectTree" "inner" "[I") ∈ bw_B := bw_1 (List.mem_of_getElem? (i := 173) rfl) rfl
set_option maxRecDepth 100000 in
theorem mw_174 : (Cond.fieldLink "PayChain$ObjectTree" (37 : Nat) "PayChain$ObjectTree" "size" "I") ∈ bw_B := bw_1 (List.mem_of_getElem? (i := 174) rfl) rfl
set_option maxRecDepth 100000 in
theorem mw_175 : (Cond.laysFinal "PayChain$ObjectTree" "PayChain$ObjectTree" "row" "LPayChain$Row;") ∈ bw_B := bw_1 (List.mem_of_getElem? (i := 175) rfl) rfl
set_option maxRecDepth 100000 in
theorem mw_177 : (Cond.laysFinal "PayChain$ObjectTree" "PayChain$ObjectTree" "tags" "[I") ∈ bw_B := bw_1 (List.mem_of_getElem? (i := 177) rfl) rfl
set_option maxRecDepth 100000 in
theorem mw_179 : (Cond.laysFinal "PayChain$ObjectTree" "PayChain$ObjectTree" "starts" "[I") ∈ bw_B := bw_1 (List.mem_of_getElem? (i := 179) rfl) rfl
set_option maxRecDepth 100000 in
theorem mw_181 : (Cond.laysFinal "PayChain$ObjectTree" "PayChain$ObjectTree" "lengths" "[I") ∈ bw_B := bw_1 (List.mem_of_getElem? (i := 181) rfl) rfl
set_option maxRecDepth 100000 in
theorem mw_183 : (Cond.laysFinal "PayChain$ObjectTree" "PayChain$ObjectTree" "inner" "[I") ∈ bw_B := bw_1 (List.mem_of_getElem? (i := 183) rfl) rfl
set_option maxRecDepth 100000 in
theorem mw_185 : (Cond.lays "PayChain$ObjectTree" "PayChain$ObjectTree" "size" "I") ∈ bw_B := bw_1 (List.mem_of_getElem? (i := 185) rfl) rfl
set_option maxRecDepth 100000 in
theorem mw_188 : (Cond.fieldLink "PayChain$Card" (12 : Nat) "PayChain$Card" "objects" "LPayChain$ObjectTree;") ∈ bw_B := bw_1 (List.mem_of_getElem? (i := 188) rfl) rfl
set_option maxRecDepth 100000 in
theorem mw_189 : (Cond.fieldLink "PayChain" (76 : Nat) "PayChain$Card" "objects" "LPayChain$ObjectTree;") ∈ bw_B := bw_1 (List.mem_of_getElem? (i := 189) rfl) rfl
set_option maxRecDepth 100000 in
theorem mw_190 : (Cond.fieldLink "PayChain$Payment" (112 : Nat) "PayChain$Card" "objects" "LPayChain$ObjectTree;") ∈ bw_B := bw_1 (List.mem_of_getElem? (i := 190) rfl) rfl
set_option maxRecDepth 100000 in
theorem mw_191 : (Cond.fieldLink "PayChain$Card" (18 : Nat) "PayChain$Card" "key" "I") ∈ bw_B := bw_1 (List.mem_of_getElem? (i := 191) rfl) rfl
set_option maxRecDepth 100000 in
theorem mw_193 : (Cond.fieldLink "PayChain$Card" (22 : Nat) "PayChain$Card" "pin" "I") ∈ bw_B := bw_1 (List.mem_of_getElem? (i := 193) rfl) rfl
set_option maxRecDepth 100000 in
theorem mw_194 : (Cond.fieldLink "PayChain$Card" (25 : Nat) "PayChain$Card" "tries" "I") ∈ bw_B := bw_1 (List.mem_of_getElem? (i := 194) rfl) rfl
set_option maxRecDepth 100000 in
theorem mw_195 : (Cond.fieldLink "PayChain$Card" (28 : Nat) "PayChain$Card" "counter" "I") ∈ bw_B := bw_1 (List.mem_of_getElem? (i := 195) rfl) rfl
set_option maxRecDepth 100000 in
theorem mw_197 : (Cond.fieldLink "PayChain$Card" (31 : Nat) "PayChain$Card" "run" "I") ∈ bw_B := bw_1 (List.mem_of_getElem? (i := 197) rfl) rfl
set_option maxRecDepth 100000 in
theorem mw_199 : (Cond.fieldLink "PayChain$Card" (34 : Nat) "PayChain$Card" "seen" "Z") ∈ bw_B := bw_1 (List.mem_of_getElem? (i := 199) rfl) rfl
set_option maxRecDepth 100000 in
theorem mw_201 : (Cond.fieldLink "PayChain$Card" (48 : Nat) "PayChain$Card" "accountNumber" "I") ∈ bw_B := bw_1 (List.mem_of_getElem? (i := 201) rfl) rfl
set_option maxRecDepth 100000 in
theorem mw_204 : (Cond.fieldLink "PayChain$Card" (54 : Nat) "PayChain$Card" "endDay" "I") ∈ bw_B := bw_1 (List.mem_of_getElem? (i := 204) rfl) rfl
set_option maxRecDepth 100000 in
theorem mw_206 : (Cond.fieldLink "PayChain$Card" (58 : Nat) "PayChain$Card" "maskDefault" "I") ∈ bw_B := bw_1 (List.mem_of_getElem? (i := 206) rfl) rfl
set_option maxRecDepth 100000 in
theorem mw_208 : (Cond.fieldLink "PayChain$Card" (62 : Nat) "PayChain$Card" "maskDenial" "I") ∈ bw_B := bw_1 (List.mem_of_getElem? (i := 208) rfl) rfl
set_option maxRecDepth 100000 in
theorem mw_210 : (Cond.fieldLink "PayChain$Card" (66 : Nat) "PayChain$Card" "maskOnline" "I") ∈ bw_B := bw_1 (List.mem_of_getElem? (i := 210) rfl) rfl
set_option maxRecDepth 100000 in
theorem mw_212 : (Cond.fieldLink "PayChain$Card" (70 : Nat) "PayChain$Card" "lower" "I") ∈ bw_B := bw_1 (List.mem_of_getElem? (i := 212) rfl) rfl
set_option maxRecDepth 100000 in
theorem mw_214 : (Cond.fieldLink "PayChain$Card" (74 : Nat) "PayChain$Card" "upper" "I") ∈ bw_B := bw_1 (List.mem_of_getElem? (i := 214) rfl) rfl
set_option maxRecDepth 100000 in
theorem mw_216 : (Cond.laysFinal "PayChain$Card" "PayChain$Card" "objects" "LPayChain$ObjectTree;") ∈ bw_B := bw_1 (List.mem_of_getElem? (i := 216) rfl) rfl
set_option maxRecDepth 100000 in
theorem mw_218 : (Cond.lays "PayChain$Card" "PayChain$Card" "key" "I") ∈ bw_B := bw_1 (List.mem_of_getElem? (i := 218) rfl) rfl
set_option maxRecDepth 100000 in
theorem mw_220 : (Cond.lays "PayChain$Card" "PayChain$Card" "pin" "I") ∈ bw_B := bw_1 (List.mem_of_getElem? (i := 220) rfl) rfl
set_option maxRecDepth 100000 in
theorem mw_222 : (Cond.lays "PayChain$Card" "PayChain$Card" "tries" "I") ∈ bw_B := bw_1 (List.mem_of_getElem? (i := 222) rfl) rfl
set_option maxRecDepth 100000 in
theorem mw_224 : (Cond.lays "PayChain$Card" "PayChain$Card" "counter" "I") ∈ bw_B := bw_1 (List.mem_of_getElem? (i := 224) rfl) rfl
set_option maxRecDepth 100000 in
theorem mw_226 : (Cond.lays "PayChain$Card" "PayChain$Card" "run" "I") ∈ bw_B := bw_1 (List.mem_of_getElem? (i := 226) rfl) rfl
set_option maxRecDepth 100000 in
theorem mw_228 : (Cond.lays "PayChain$Card" "PayChain$Card" "seen" "Z") ∈ bw_B := bw_1 (List.mem_of_getElem? (i := 228) rfl) rfl
set_option maxRecDepth 100000 in
theorem mw_230 : (Cond.lays "PayChain$Card" "PayChain$Card" "accountNumber" "I") ∈ bw_B := bw_1 (List.mem_of_getElem? (i := 230) rfl) rfl
set_option maxRecDepth 100000 in
theorem mw_232 : (Cond.lays "PayChain$Card" "PayChain$Card" "endDay" "I") ∈ bw_B := bw_1 (List.mem_of_getElem? (i := 232) rfl) rfl
set_option maxRecDepth 100000 in
theorem mw_234 : (Cond.lays "PayChain$Card" "PayChain$Card" "maskDefault" "I") ∈ bw_B := bw_1 (List.mem_of_getElem? (i := 234) rfl) rfl
set_option maxRecDepth 100000 in
theorem mw_236 : (Cond.lays "PayChain$Card" "PayChain$Card" "maskDenial" "I") ∈ bw_B := bw_1 (List.mem_of_getElem? (i := 236) rfl) rfl
set_option maxRecDepth 100000 in
theorem mw_238 : (Cond.lays "PayChain$Card" "PayChain$Card" "maskOnline" "I") ∈ bw_B := bw_1 (List.mem_of_getElem? (i := 238) rfl) rfl
set_option maxRecDepth 100000 in
theorem mw_240 : (Cond.lays "PayChain$Card" "PayChain$Card" "lower" "I") ∈ bw_B := bw_2 (List.mem_of_getElem? (i := 0) rfl) rfl
set_option maxRecDepth 100000 in
theorem mw_242 : (Cond.lays "PayChain$Card" "PayChain$Card" "upper" "I") ∈ bw_B := bw_2 (List.mem_of_getElem? (i := 2) rfl) rfl
set_option maxRecDepth 100000 in
theorem mw_245 : (Cond.fieldLink "PayChain" (14 : Nat) "PayChain" "text" "LPayChain$Row;") ∈ bw_B := bw_2 (List.mem_of_getElem? (i := 5) rfl) rfl
set_option maxRecDepth 100000 in
theorem mw_246 : (Cond.fieldLink "PayChain" (20 : Nat) "PayChain" "cards" "[LPayChain$Card;") ∈ bw_B := bw_2 (List.mem_of_getElem? (i := 6) rfl) rfl
set_option maxRecDepth 100000 in
theorem mw_247 : (Cond.fieldLink "PayChain" (27 : Nat) "PayChain" "terminal" "LPayChain$Terminal;") ∈ bw_B := bw_2 (List.mem_of_getElem? (i := 7) rfl) rfl
set_option maxRecDepth 100000 in
theorem mw_248 : (Cond.fieldLink "PayChain" (34 : Nat) "PayChain" "host" "LPayChain$Host;") ∈ bw_B := bw_2 (List.mem_of_getElem? (i := 8) rfl) rfl
set_option maxRecDepth 100000 in
theorem mw_249 : (Cond.fieldLink "PayChain" (41 : Nat) "PayChain" "payment" "LPayChain$Payment;") ∈ bw_B := bw_2 (List.mem_of_getElem? (i := 9) rfl) rfl
set_option maxRecDepth 100000 in
theorem mw_250 : (Cond.fieldLink "PayChain" (48 : Nat) "PayChain" "queue" "Ljava/util/ArrayList;") ∈ bw_B := bw_2 (List.mem_of_getElem? (i := 10) rfl) rfl
set_option maxRecDepth 100000 in
theorem mw_251 : (Cond.fieldLink "PayChain" (53 : Nat) "PayChain" "spare" "LPayChain$Card;") ∈ bw_B := bw_2 (List.mem_of_getElem? (i := 11) rfl) rfl
set_option maxRecDepth 100000 in
theorem mw_252 : (Cond.fieldLink "PayChain" (57 : Nat) "PayChain" "placeOfMake" "I") ∈ bw_B := bw_2 (List.mem_of_getElem? (i := 12) rfl) rfl
set_option maxRecDepth 100000 in
theorem mw_253 : (Cond.fieldLink "PayChain" (124 : Nat) "PayChain" "approvedPayments" "I") ∈ bw_B := bw_2 (List.mem_of_getElem? (i := 13) rfl) rfl
set_option maxRecDepth 100000 in
theorem mw_254 : (Cond.laysFinal "PayChain" "PayChain" "text" "LPayChain$Row;") ∈ bw_B := bw_2 (List.mem_of_getElem? (i := 14) rfl) rfl
set_option maxRecDepth 100000 in
theorem mw_256 : (Cond.laysFinal "PayChain" "PayChain" "cards" "[LPayChain$Card;") ∈ bw_B := bw_2 (List.mem_of_getElem? (i := 16) rfl) rfl
set_option maxRecDepth 100000 in
theorem mw_258 : (Cond.laysFinal "PayChain" "PayChain" "terminal" "LPayChain$Terminal;") ∈ bw_B := bw_2 (List.mem_of_getElem? (i := 18) rfl) rfl
set_option maxRecDepth 100000 in
theorem mw_260 : (Cond.laysFinal "PayChain" "PayChain" "host" "LPayChain$Host;") ∈ bw_B := bw_2 (List.mem_of_getElem? (i := 20) rfl) rfl
set_option maxRecDepth 100000 in
theorem mw_262 : (Cond.laysFinal "PayChain" "PayChain" "payment" "LPayChain$Payment;") ∈ bw_B := bw_2 (List.mem_of_getElem? (i := 22) rfl) rfl
set_option maxRecDepth 100000 in
theorem mw_264 : (Cond.laysFinal "PayChain" "PayChain" "queue" "Ljava/util/ArrayList;") ∈ bw_B := bw_2 (List.mem_of_getElem? (i := 24) rfl) rfl
set_option maxRecDepth 100000 in
theorem mw_266 : (Cond.lays "PayChain" "PayChain" "spare" "LPayChain$Card;") ∈ bw_B := bw_2 (List.mem_of_getElem? (i := 26) rfl) rfl
set_option maxRecDepth 100000 in
theorem mw_268 : (Cond.lays "PayChain" "PayChain" "placeOfMake" "I") ∈ bw_B := bw_2 (List.mem_of_getElem? (i := 28) rfl) rfl
set_option maxRecDepth 100000 in
theorem mw_270 : (Cond.lays "PayChain" "PayChain" "approvedPayments" "I") ∈ bw_B := bw_2 (List.mem_of_getElem? (i := 30) rfl) rfl
set_option maxRecDepth 100000 in
theorem mw_273 : (Cond.methodLink "PayChainLaw" (13 : Nat) ({ cls := "PayChain", name := "feed", desc := "(I)I" } : MethodName)) ∈ bw_B := bw_2 (List.mem_of_getElem? (i := 33) rfl) rfl
set_option maxRecDepth 100000 in
theorem mw_274 : (Cond.instanceMethod ({ cls := "PayChain", name := "feed", desc := "(I)I" } : MethodName)) ∈ bw_B := bw_2 (List.mem_of_getElem? (i := 34) rfl) rfl
set_option maxRecDepth 100000 in
theorem mw_275 : (Cond.selects "PayChain" ({ cls := "PayChain", name := "feed", desc := "(I)I" } : MethodName) ({ cls := "PayChain", name := "feed", desc := "(I)I" } : MethodName)) ∈ bw_B := bw_2 (List.mem_of_getElem? (i := 35) rfl) rfl
set_option maxRecDepth 100000 in
theorem mw_276 : (Cond.code ({ cls := "PayChain", name := "feed", desc := "(I)I" } : MethodName) prog_1_method_2_code (2 : Nat) (Option.some FieldType.int)) ∈ bw_B := bw_2 (List.mem_of_getElem? (i := 36) rfl) rfl
set_option maxRecDepth 100000 in
theorem mw_277 : (Cond.methodLink "PayChain" (61 : Nat) ({ cls := "PayChain", name := "isWithin", desc := "(III)Z" } : MethodName)) ∈ bw_B := bw_2 (List.mem_of_getElem? (i := 37) rfl) rfl
set_option maxRecDepth 100000 in
theorem mw_278 : (Cond.static ({ cls := "PayChain", name := "isWithin", desc := "(III)Z" } : MethodName)) ∈ bw_B := bw_2 (List.mem_of_getElem? (i := 38) rfl) rfl
set_option maxRecDepth 100000 in
theorem mw_279 : (Cond.code ({ cls := "PayChain", name := "isWithin", desc := "(III)Z" } : MethodName) prog_1_method_21_code (3 : Nat) (Option.some FieldType.boolean)) ∈ bw_B := bw_2 (List.mem_of_getElem? (i := 39) rfl) rfl
set_option maxRecDepth 100000 in
theorem mw_280 : (Cond.methodLink "PayChain" (65 : Nat) ({ cls := "PayChain$Row", name := "add", desc := "(I)Z" } : MethodName)) ∈ bw_B := bw_2 (List.mem_of_getElem? (i := 40) rfl) rfl
set_option maxRecDepth 100000 in
theorem mw_281 : (Cond.instanceMethod ({ cls := "PayChain$Row", name := "add", desc := "(I)Z" } : MethodName)) ∈ bw_B := bw_2 (List.mem_of_getElem? (i := 41) rfl) rfl
set_option maxRecDepth 100000 in
theorem mw_282 : (Cond.selects "PayChain$Row" ({ cls := "PayChain$Row", name := "add", desc := "(I)Z" } : MethodName) ({ cls := "PayChain$Row", name := "add", desc := "(I)Z" } : MethodName)) ∈ bw_B := bw_2 (List.mem_of_getElem? (i := 42) rfl) rfl
set_option maxRecDepth 100000 in
theorem mw_283 : (Cond.code ({ cls := "PayChain$Row", name := "add", desc := "(I)Z" } : MethodName) prog_8_method_4_code (2 : Nat) (Option.some FieldType.boolean)) ∈ bw_B := bw_2 (List.mem_of_getElem? (i := 43) rfl) rfl
set_option maxRecDepth 100000 in
theorem mw_284 : (Cond.methodLink "PayChain" (69 : Nat) ({ cls := "PayChain$Row", name := "length", desc := "()I" } : MethodName)) ∈ bw_B := bw_2 (List.mem_of_getElem? (i := 44) rfl) rfl
set_option maxRecDepth 100000 in
theorem mw_285 : (Cond.instanceMethod ({ cls := "PayChain$Row", name := "length", desc := "()I" } : MethodName)) ∈ bw_B := bw_2 (List.mem_of_getElem? (i := 45) rfl) rfl
set_option maxRecDepth 100000 in
theorem mw_286 : (Cond.selects "PayChain$Row" ({ cls := "PayChain$Row", name := "length", desc := "()I" } : MethodName) ({ cls := "PayChain$Row", name := "length", desc := "()I" } : MethodName)) ∈ bw_B := bw_2 (List.mem_of_getElem? (i := 46) rfl) rfl
set_option maxRecDepth 100000 in
theorem mw_287 : (Cond.code ({ cls := "PayChain$Row", name := "length", desc := "()I" } : MethodName) prog_8_method_2_code (1 : Nat) (Option.some FieldType.int)) ∈ bw_B := bw_2 (List.mem_of_getElem? (i := 47) rfl) rfl
set_option maxRecDepth 100000 in
theorem mw_288 : (Cond.methodLink "PayChainLaw" (18 : Nat) ({ cls := "PayChain", name := "wipe", desc := "()I" } : MethodName)) ∈ bw_B := bw_2 (List.mem_of_getElem? (i := 48) rfl) rfl
set_option maxRecDepth 100000 in
theorem mw_289 : (Cond.instanceMethod ({ cls := "PayChain", name := "wipe", desc := "()I" } : MethodName)) ∈ bw_B := bw_2 (List.mem_of_getElem? (i := 49) rfl) rfl
set_option maxRecDepth 100000 in
theorem mw_290 : (Cond.selects "PayChain" ({ cls := "PayChain", name := "wipe", desc := "()I" } : MethodName) ({ cls := "PayChain", name := "wipe", desc := "()I" } : MethodName)) ∈ bw_B := bw_2 (List.mem_of_getElem? (i := 50) rfl) rfl
set_option maxRecDepth 100000 in
theorem mw_291 : (Cond.code ({ cls := "PayChain", name := "wipe", desc := "()I" } : MethodName) prog_1_method_3_code (2 : Nat) (Option.some FieldType.int)) ∈ bw_B := bw_2 (List.mem_of_getElem? (i := 51) rfl) rfl
set_option maxRecDepth 100000 in
theorem mw_292 : (Cond.methodLink "PayChain" (73 : Nat) ({ cls := "PayChain$Row", name := "clear", desc := "()V" } : MethodName)) ∈ bw_B := bw_2 (List.mem_of_getElem? (i := 52) rfl) rfl
set_option maxRecDepth 100000 in
theorem mw_293 : (Cond.instanceMethod ({ cls := "PayChain$Row", name := "clear", desc := "()V" } : MethodName)) ∈ bw_B := bw_2 (List.mem_of_getElem? (i := 53) rfl) rfl
set_option maxRecDepth 100000 in
theorem mw_294 : (Cond.selects "PayChain$Row" ({ cls := "PayChain$Row", name := "clear", desc := "()V" } : MethodName) ({ cls := "PayChain$Row", name := "clear", desc := "()V" } : MethodName)) ∈ bw_B := bw_2 (List.mem_of_getElem? (i := 54) rfl) rfl
set_option maxRecDepth 100000 in
theorem mw_295 : (Cond.code ({ cls := "PayChain$Row", name := "clear", desc := "()V" } : MethodName) prog_8_method_3_code (1 : Nat) (Option.none : Option FieldType)) ∈ bw_B := bw_2 (List.mem_of_getElem? (i := 55) rfl) rfl
set_option maxRecDepth 100000 in
theorem mw_296 : (Cond.methodLink "PayChainLaw" (23 : Nat) ({ cls := "PayChain", name := "make", desc := "(III)I" } : MethodName)) ∈ bw_B := bw_2 (List.mem_of_getElem? (i := 56) rfl) rfl
set_option maxRecDepth 100000 in
theorem mw_297 : (Cond.instanceMethod ({ cls := "PayChain", name := "make", desc := "(III)I" } : MethodName)) ∈ bw_B := bw_2 (List.mem_of_getElem? (i := 57) rfl) rfl
set_option maxRecDepth 100000 in
theorem mw_298 : (Cond.selects "PayChain" ({ cls := "PayChain", name := "make", desc := "(III)I" } : MethodName) ({ cls := "PayChain", name := "make", desc := "(III)I" } : MethodName)) ∈ bw_B := bw_2 (List.mem_of_getElem? (i := 58) rfl) rfl
set_option maxRecDepth 100000 in
theorem mw_299 : (Cond.code ({ cls := "PayChain", name := "make", desc := "(III)I" } : MethodName) prog_1_method_4_code (7 : Nat) (Option.some FieldType.int)) ∈ bw_B := bw_2 (List.mem_of_getElem? (i := 59) rfl) rfl
set_option maxRecDepth 100000 in
theorem mw_300 : (Cond.methodLink "PayChain" (80 : Nat) ({ cls := "PayChain$ObjectTree", name := "read", desc := "(LPayChain$Row;)I" } : MethodName)) ∈ bw_B := bw_2 (List.mem_of_getElem? (i := 60) rfl) rfl
set_option maxRecDepth 100000 in
theorem mw_301 : (Cond.instanceMethod ({ cls := "PayChain$ObjectTree", name := "read", desc := "(LPayChain$Row;)I" } : MethodName)) ∈ bw_B := bw_2 (List.mem_of_getElem? (i := 61) rfl) rfl
set_option maxRecDepth 100000 in
theorem mw_302 : (Cond.selects "PayChain$ObjectTree" ({ cls := "PayChain$ObjectTree", name := "read", desc := "(LPayChain$Row;)I" } : MethodName) ({ cls := "PayChain$ObjectTree", name := "read", desc := "(LPayChain$Row;)I" } : MethodName)) ∈ bw_B := bw_2 (List.mem_of_getElem? (i := 62) rfl) rfl
set_option maxRecDepth 100000 in
theorem mw_303 : (Cond.code ({ cls := "PayChain$ObjectTree", name := "read", desc := "(LPayChain$Row;)I" } : MethodName) prog_5_method_2_code (2 : Nat) (Option.some FieldType.int)) ∈ bw_B := bw_2 (List.mem_of_getElem? (i := 63) rfl) rfl
set_option maxRecDepth 100000 in
theorem mw_304 : (Cond.methodLink "PayChain$ObjectTree" (33 : Nat) ({ cls := "PayChain$Row", name := "copy", desc := "(LPayChain$Row;)V" } : MethodName)) ∈ bw_B := bw_2 (List.mem_of_getElem? (i := 64) rfl) rfl
set_option maxRecDepth 100000 in
theorem mw_305 : (Cond.instanceMethod ({ cls := "PayChain$Row", name := "copy", desc := "(LPayChain$Row;)V" } : MethodName)) ∈ bw_B := bw_2 (List.mem_of_getElem? (i := 65) rfl) rfl
set_option maxRecDepth 100000 in
theorem mw_306 : (Cond.selects "PayChain$Row" ({ cls := "PayChain$Row", name := "copy", desc := "(LPayChain$Row;)V" } : MethodName) ({ cls := "PayChain$Row", name := "copy", desc := "(LPayChain$Row;)V" } : MethodName)) ∈ bw_B := bw_2 (List.mem_of_getElem? (i := 66) rfl) rfl
set_option maxRecDepth 100000 in
theorem mw_307 : (Cond.code ({ cls := "PayChain$Row", name := "copy", desc := "(LPayChain$Row;)V" } : MethodName) prog_8_method_7_code (3 : Nat) (Option.none : Option FieldType)) ∈ bw_B := bw_2 (List.mem_of_getElem? (i := 67) rfl) rfl
set_option maxRecDepth 100000 in
theorem mw_308 : (Cond.methodLink "PayChain$Row" (19 : Nat) ({ cls := "PayChain$Row", name := "clear", desc := "()V" } : MethodName)) ∈ bw_B := bw_2 (List.mem_of_getElem? (i := 68) rfl) rfl
set_option maxRecDepth 100000 in
theorem mw_309 : (Cond.methodLink "PayChain$Row" (22 : Nat) ({ cls := "PayChain$Row", name := "at", desc := "(I)I" } : MethodName)) ∈ bw_B := bw_2 (List.mem_of_getElem? (i := 69) rfl) rfl
set_option maxRecDepth 100000 in
theorem mw_310 : (Cond.instanceMethod ({ cls := "PayChain$Row", name := "at", desc := "(I)I" } : MethodName)) ∈ bw_B := bw_2 (List.mem_of_getElem? (i := 70) rfl) rfl
set_option maxRecDepth 100000 in
theorem mw_311 : (Cond.selects "PayChain$Row" ({ cls := "PayChain$Row", name := "at", desc := "(I)I" } : MethodName) ({ cls := "PayChain$Row", name := "at", desc := "(I)I" } : MethodName)) ∈ bw_B := bw_2 (List.mem_of_getElem? (i := 71) rfl) rfl
set_option maxRecDepth 100000 in
theorem mw_312 : (Cond.code ({ cls := "PayChain$Row", name := "at", desc := "(I)I" } : MethodName) prog_8_method_5_code (2 : Nat) (Option.some FieldType.int)) ∈ bw_B := bw_2 (List.mem_of_getElem? (i := 72) rfl) rfl
set_option maxRecDepth 100000 in
theorem mw_313 : (Cond.methodLink "PayChain$Row" (26 : Nat) ({ cls := "PayChain$Row", name := "add", desc := "(I)Z" } : MethodName)) ∈ bw_B := bw_2 (List.mem_of_getElem? (i := 73) rfl) rfl
set_option maxRecDepth 100000 in
theorem mw_314 : (Cond.methodLink "PayChain$ObjectTree" (41 : Nat) ({ cls := "PayChain$Row", name := "length", desc := "()I" } : MethodName)) ∈ bw_B := bw_2 (List.mem_of_getElem? (i := 74) rfl) rfl
set_option maxRecDepth 100000 in
theorem mw_315 : (Cond.methodLink "PayChain$ObjectTree" (45 : Nat) ({ cls := "PayChain$ObjectTree", name := "cut", desc := "(IIII)I" } : MethodName)) ∈ bw_B := bw_2 (List.mem_of_getElem? (i := 75) rfl) rfl
set_option maxRecDepth 100000 in
theorem mw_317 : (Cond.instanceMethod ({ cls := "PayChain$ObjectTree", name := "cut", desc := "(IIII)I" } : MethodName)) ∈ bw_B := bw_2 (List.mem_of_getElem? (i := 77) rfl) rfl
set_option maxRecDepth 100000 in
theorem mw_318 : (Cond.code ({ cls := "PayChain$ObjectTree", name := "cut", desc := "(IIII)I" } : MethodName) prog_5_method_3_code (13 : Nat) (Option.some FieldType.int)) ∈ bw_B := bw_2 (List.mem_of_getElem? (i := 78) rfl) rfl
set_option maxRecDepth 100000 in
theorem mw_319 : (Cond.methodLink "PayChain$ObjectTree" (49 : Nat) ({ cls := "PayChain$Tag", name := "read", desc := "(LPayChain$Row;II)I" } : MethodName)) ∈ bw_B := bw_2 (List.mem_of_getElem? (i := 79) rfl) rfl
set_option maxRecDepth 100000 in
theorem mw_320 : (Cond.static ({ cls := "PayChain$Tag", name := "read", desc := "(LPayChain$Row;II)I" } : MethodName)) ∈ bw_B := bw_2 (List.mem_of_getElem? (i := 80) rfl) rfl
set_option maxRecDepth 100000 in
theorem mw_321 : (Cond.code ({ cls := "PayChain$Tag", name := "read", desc := "(LPayChain$Row;II)I" } : MethodName) prog_9_method_2_code (5 : Nat) (Option.some FieldType.int)) ∈ bw_B := bw_2 (List.mem_of_getElem? (i := 81) rfl) rfl
set_option maxRecDepth 100000 in
theorem mw_322 : (Cond.methodLink "PayChain$Tag" (9 : Nat) ({ cls := "PayChain$Row", name := "atBefore", desc := "(II)I" } : MethodName)) ∈ bw_B := bw_2 (List.mem_of_getElem? (i := 82) rfl) rfl
set_option maxRecDepth 100000 in
theorem mw_323 : (Cond.instanceMethod ({ cls := "PayChain$Row", name := "atBefore", desc := "(II)I" } : MethodName)) ∈ bw_B := bw_2 (List.mem_of_getElem? (i := 83) rfl) rfl
set_option maxRecDepth 100000 in
theorem mw_324 : (Cond.selects "PayChain$Row" ({ cls := "PayChain$Row", name := "atBefore", desc := "(II)I" } : MethodName) ({ cls := "PayChain$Row", name := "atBefore", desc := "(II)I" } : MethodName)) ∈ bw_B := bw_2 (List.mem_of_getElem? (i := 84) rfl) rfl
set_option maxRecDepth 100000 in
theorem mw_325 : (Cond.code ({ cls := "PayChain$Row", name := "atBefore", desc := "(II)I" } : MethodName) prog_8_method_6_code (3 : Nat) (Option.some FieldType.int)) ∈ bw_B := bw_2 (List.mem_of_getElem? (i := 85) rfl) rfl
set_option maxRecDepth 100000 in
theorem mw_327 : (Cond.methodLink "PayChain$ObjectTree" (55 : Nat) ({ cls := "PayChain$Tag", name := "bytesOf", desc := "(I)I" } : MethodName)) ∈ bw_B := bw_2 (List.mem_of_getElem? (i := 87) rfl) rfl
set_option maxRecDepth 100000 in
theorem mw_328 : (Cond.static ({ cls := "PayChain$Tag", name := "bytesOf", desc := "(I)I" } : MethodName)) ∈ bw_B := bw_2 (List.mem_of_getElem? (i := 88) rfl) rfl
set_option maxRecDepth 100000 in
theorem mw_329 : (Cond.code ({ cls := "PayChain$Tag", name := "bytesOf", desc := "(I)I" } : MethodName) prog_9_method_3_code (1 : Nat) (Option.some FieldType.int)) ∈ bw_B := bw_2 (List.mem_of_getElem? (i := 89) rfl) rfl
set_option maxRecDepth 100000 in
theorem mw_330 : (Cond.methodLink "PayChain$ObjectTree" (59 : Nat) ({ cls := "PayChain$ObjectTree", name := "readLength", desc := "(II)I" } : MethodName)) ∈ bw_B := bw_2 (List.mem_of_getElem? (i := 90) rfl) rfl
set_option maxRecDepth 100000 in
theorem mw_332 : (Cond.instanceMethod ({ cls := "PayChain$ObjectTree", name := "readLength", desc := "(II)I" } : MethodName)) ∈ bw_B := bw_2 (List.mem_of_getElem? (i := 92) rfl) rfl
set_option maxRecDepth 100000 in
theorem mw_333 : (Cond.code ({ cls := "PayChain$ObjectTree", name := "readLength", desc := "(II)I" } : MethodName) prog_5_method_4_code (4 : Nat) (Option.some FieldType.int)) ∈ bw_B := bw_2 (List.mem_of_getElem? (i := 93) rfl) rfl
set_option maxRecDepth 100000 in
theorem mw_334 : (Cond.methodLink "PayChain$ObjectTree" (73 : Nat) ({ cls := "PayChain$Row", name := "atBefore", desc := "(II)I" } : MethodName)) ∈ bw_B := bw_2 (List.mem_of_getElem? (i := 94) rfl) rfl
set_option maxRecDepth 100000 in
theorem mw_335 : (Cond.methodLink "PayChain$ObjectTree" (63 : Nat) ({ cls := "PayChain$Row", name := "at", desc := "(I)I" } : MethodName)) ∈ bw_B := bw_2 (List.mem_of_getElem? (i := 95) rfl) rfl
set_option maxRecDepth 100000 in
theorem mw_336 : (Cond.methodLink "PayChain$ObjectTree" (66 : Nat) ({ cls := "PayChain$ObjectTree", name := "keep", desc := "(IIII)I" } : MethodName)) ∈ bw_B := bw_2 (List.mem_of_getElem? (i := 96) rfl) rfl
set_option maxRecDepth 100000 in
theorem mw_338 : (Cond.instanceMethod ({ cls := "PayChain$ObjectTree", name := "keep", desc := "(IIII)I" } : MethodName)) ∈ bw_B := bw_2 (List.mem_of_getElem? (i := 98) rfl) rfl
set_option maxRecDepth 100000 in
theorem mw_339 : (Cond.code ({ cls := "PayChain$ObjectTree", name := "keep", desc := "(IIII)I" } : MethodName) prog_5_method_5_code (5 : Nat) (Option.some FieldType.int)) ∈ bw_B := bw_2 (List.mem_of_getElem? (i := 99) rfl) rfl
set_option maxRecDepth 100000 in
theorem mw_340 : (Cond.methodLink "PayChain$ObjectTree" (76 : Nat) ({ cls := "PayChain$ObjectTree", name := "isObject", desc := "(I)Z" } : MethodName)) ∈ bw_B := bw_2 (List.mem_of_getElem? (i := 100) rfl) rfl
set_option maxRecDepth 100000 in
theorem mw_342 : (Cond.instanceMethod ({ cls := "PayChain$ObjectTree", name := "isObject", desc := "(I)Z" } : MethodName)) ∈ bw_B := bw_2 (List.mem_of_getElem? (i := 102) rfl) rfl
set_option maxRecDepth 100000 in
theorem mw_343 : (Cond.code ({ cls := "PayChain$ObjectTree", name := "isObject", desc := "(I)Z" } : MethodName) prog_5_method_6_code (2 : Nat) (Option.some FieldType.boolean)) ∈ bw_B := bw_2 (List.mem_of_getElem? (i := 103) rfl) rfl
set_option maxRecDepth 100000 in
theorem mw_344 : (Cond.methodLink "PayChain$ObjectTree" (69 : Nat) ({ cls := "PayChain$Tag", name := "hasInner", desc := "(I)Z" } : MethodName)) ∈ bw_B := bw_2 (List.mem_of_getElem? (i := 104) rfl) rfl
set_option maxRecDepth 100000 in
theorem mw_345 : (Cond.static ({ cls := "PayChain$Tag", name := "hasInner", desc := "(I)Z" } : MethodName)) ∈ bw_B := bw_2 (List.mem_of_getElem? (i := 105) rfl) rfl
set_option maxRecDepth 100000 in
theorem mw_346 : (Cond.code ({ cls := "PayChain$Tag", name := "hasInner", desc := "(I)Z" } : MethodName) prog_9_method_4_code (2 : Nat) (Option.some FieldType.boolean)) ∈ bw_B := bw_2 (List.mem_of_getElem? (i := 106) rfl) rfl
set_option maxRecDepth 100000 in
theorem mw_347 : (Cond.methodLink "PayChain" (86 : Nat) ({ cls := "PayChain$ObjectTree", name := "size", desc := "()I" } : MethodName)) ∈ bw_B := bw_2 (List.mem_of_getElem? (i := 107) rfl) rfl
set_option maxRecDepth 100000 in
theorem mw_348 : (Cond.instanceMethod ({ cls := "PayChain$ObjectTree", name := "size", desc := "()I" } : MethodName)) ∈ bw_B := bw_2 (List.mem_of_getElem? (i := 108) rfl) rfl
set_option maxRecDepth 100000 in
theorem mw_349 : (Cond.selects "PayChain$ObjectTree" ({ cls := "PayChain$ObjectTree", name := "size", desc := "()I" } : MethodName) ({ cls := "PayChain$ObjectTree", name := "size", desc := "()I" } : MethodName)) ∈ bw_B := bw_2 (List.mem_of_getElem? (i := 109) rfl) rfl
set_option maxRecDepth 100000 in
theorem mw_350 : (Cond.code ({ cls := "PayChain$ObjectTree", name := "size", desc := "()I" } : MethodName) prog_5_method_7_code (1 : Nat) (Option.some FieldType.int)) ∈ bw_B := bw_2 (List.mem_of_getElem? (i := 110) rfl) rfl
set_option maxRecDepth 100000 in
theorem mw_351 : (Cond.methodLink "PayChain" (89 : Nat) ({ cls := "PayChain$Card", name := "unfitTag", desc := "()I" } : MethodName)) ∈ bw_B := bw_2 (List.mem_of_getElem? (i := 111) rfl) rfl
set_option maxRecDepth 100000 in
theorem mw_352 : (Cond.instanceMethod ({ cls := "PayChain$Card", name := "unfitTag", desc := "()I" } : MethodName)) ∈ bw_B := bw_2 (List.mem_of_getElem? (i := 112) rfl) rfl
set_option maxRecDepth 100000 in
theorem mw_353 : (Cond.selects "PayChain$Card" ({ cls := "PayChain$Card", name := "unfitTag", desc := "()I" } : MethodName) ({ cls := "PayChain$Card", name := "unfitTag", desc := "()I" } : MethodName)) ∈ bw_B := bw_2 (List.mem_of_getElem? (i := 113) rfl) rfl
set_option maxRecDepth 100000 in
theorem mw_354 : (Cond.code ({ cls := "PayChain$Card", name := "unfitTag", desc := "()I" } : MethodName) prog_2_method_3_code (2 : Nat) (Option.some FieldType.int)) ∈ bw_B := bw_2 (List.mem_of_getElem? (i := 114) rfl) rfl
set_option maxRecDepth 100000 in
theorem mw_355 : (Cond.fieldLink "PayChain$Card" (77 : Nat) "PayChain$Card" "USED_TAGS" "[I") ∈ bw_B := bw_2 (List.mem_of_getElem? (i := 115) rfl) rfl
set_option maxRecDepth 100000 in
theorem mw_357 : (Cond.methodLink "PayChain$Card" (81 : Nat) ({ cls := "PayChain$Card", name := "fits", desc := "(I)Z" } : MethodName)) ∈ bw_B := bw_2 (List.mem_of_getElem? (i := 117) rfl) rfl
set_option maxRecDepth 100000 in
theorem mw_359 : (Cond.instanceMethod ({ cls := "PayChain$Card", name := "fits", desc := "(I)Z" } : MethodName)) ∈ bw_B := bw_2 (List.mem_of_getElem? (i := 119) rfl) rfl
set_option maxRecDepth 100000 in
theorem mw_360 : (Cond.code ({ cls := "PayChain$Card", name := "fits", desc := "(I)Z" } : MethodName) prog_2_method_4_code (4 : Nat) (Option.some FieldType.boolean)) ∈ bw_B := bw_2 (List.mem_of_getElem? (i := 120) rfl) rfl
set_option maxRecDepth 100000 in
theorem mw_361 : (Cond.methodLink "PayChain$Card" (40 : Nat) ({ cls := "PayChain$ObjectTree", name := "first", desc := "(I)I" } : MethodName)) ∈ bw_B := bw_2 (List.mem_of_getElem? (i := 121) rfl) rfl
set_option maxRecDepth 100000 in
theorem mw_362 : (Cond.instanceMethod ({ cls := "PayChain$ObjectTree", name := "first", desc := "(I)I" } : MethodName)) ∈ bw_B := bw_2 (List.mem_of_getElem? (i := 122) rfl) rfl
set_option maxRecDepth 100000 in
theorem mw_363 : (Cond.selects "PayChain$ObjectTree" ({ cls := "PayChain$ObjectTree", name := "first", desc := "(I)I" } : MethodName) ({ cls := "PayChain$ObjectTree", name := "first", desc := "(I)I" } : MethodName)) ∈ bw_B := bw_2 (List.mem_of_getElem? (i := 123) rfl) rfl
set_option maxRecDepth 100000 in
theorem mw_364 : (Cond.code ({ cls := "PayChain$ObjectTree", name := "first", desc := "(I)I" } : MethodName) prog_5_method_8_code (3 : Nat) (Option.some FieldType.int)) ∈ bw_B := bw_2 (List.mem_of_getElem? (i := 124) rfl) rfl
set_option maxRecDepth 100000 in
theorem mw_365 : (Cond.methodLink "PayChain$Card" (85 : Nat) ({ cls := "PayChain$ObjectTree", name := "lengthOf", desc := "(I)I" } : MethodName)) ∈ bw_B := bw_2 (List.mem_of_getElem? (i := 125) rfl) rfl
set_option maxRecDepth 100000 in
theorem mw_366 : (Cond.instanceMethod ({ cls := "PayChain$ObjectTree", name := "lengthOf", desc := "(I)I" } : MethodName)) ∈ bw_B := bw_2 (List.mem_of_getElem? (i := 126) rfl) rfl
set_option maxRecDepth 100000 in
theorem mw_367 : (Cond.selects "PayChain$ObjectTree" ({ cls := "PayChain$ObjectTree", name := "lengthOf", desc := "(I)I" } : MethodName) ({ cls := "PayChain$ObjectTree", name := "lengthOf", desc := "(I)I" } : MethodName)) ∈ bw_B := bw_2 (List.mem_of_getElem? (i := 127) rfl) rfl
set_option maxRecDepth 100000 in
theorem mw_368 : (Cond.code ({ cls := "PayChain$ObjectTree", name := "lengthOf", desc := "(I)I" } : MethodName) prog_5_method_9_code (2 : Nat) (Option.some FieldType.int)) ∈ bw_B := bw_2 (List.mem_of_getElem? (i := 128) rfl) rfl
set_option maxRecDepth 100000 in
theorem mw_369 : (Cond.methodLink "PayChain$Card" (44 : Nat) ({ cls := "PayChain$ObjectTree", name := "byteOf", desc := "(II)I" } : MethodName)) ∈ bw_B := bw_2 (List.mem_of_getElem? (i := 129) rfl) rfl
set_option maxRecDepth 100000 in
theorem mw_370 : (Cond.instanceMethod ({ cls := "PayChain$ObjectTree", name := "byteOf", desc := "(II)I" } : MethodName)) ∈ bw_B := bw_2 (List.mem_of_getElem? (i := 130) rfl) rfl
set_option maxRecDepth 100000 in
theorem mw_371 : (Cond.selects "PayChain$ObjectTree" ({ cls := "PayChain$ObjectTree", name := "byteOf", desc := "(II)I" } : MethodName) ({ cls := "PayChain$ObjectTree", name := "byteOf", desc := "(II)I" } : MethodName)) ∈ bw_B := bw_2 (List.mem_of_getElem? (i := 131) rfl) rfl
set_option maxRecDepth 100000 in
theorem mw_372 : (Cond.code ({ cls := "PayChain$ObjectTree", name := "byteOf", desc := "(II)I" } : MethodName) prog_5_method_12_code (3 : Nat) (Option.some FieldType.int)) ∈ bw_B := bw_2 (List.mem_of_getElem? (i := 132) rfl) rfl
set_option maxRecDepth 100000 in
theorem mw_373 : (Cond.methodLink "PayChain$ObjectTree" (79 : Nat) ({ cls := "PayChain$ObjectTree", name := "hasByte", desc := "(II)Z" } : MethodName)) ∈ bw_B := bw_2 (List.mem_of_getElem? (i := 133) rfl) rfl
set_option maxRecDepth 100000 in
theorem mw_375 : (Cond.instanceMethod ({ cls := "PayChain$ObjectTree", name := "hasByte", desc := "(II)Z" } : MethodName)) ∈ bw_B := bw_2 (List.mem_of_getElem? (i := 135) rfl) rfl
set_option maxRecDepth 100000 in
theorem mw_376 : (Cond.code ({ cls := "PayChain$ObjectTree", name := "hasByte", desc := "(II)Z" } : MethodName) prog_5_method_11_code (3 : Nat) (Option.some FieldType.boolean)) ∈ bw_B := bw_2 (List.mem_of_getElem? (i := 136) rfl) rfl
set_option maxRecDepth 100000 in
theorem mw_377 : (Cond.methodLink "PayChain$Card" (88 : Nat) ({ cls := "PayChain$Card", name := "isList", desc := "(I)Z" } : MethodName)) ∈ bw_B := bw_2 (List.mem_of_getElem? (i := 137) rfl) rfl
set_option maxRecDepth 100000 in
theorem mw_379 : (Cond.instanceMethod ({ cls := "PayChain$Card", name := "isList", desc := "(I)Z" } : MethodName)) ∈ bw_B := bw_2 (List.mem_of_getElem? (i := 139) rfl) rfl
set_option maxRecDepth 100000 in
theorem mw_380 : (Cond.code ({ cls := "PayChain$Card", name := "isList", desc := "(I)Z" } : MethodName) prog_2_method_5_code (8 : Nat) (Option.some FieldType.boolean)) ∈ bw_B := bw_2 (List.mem_of_getElem? (i := 140) rfl) rfl
set_option maxRecDepth 100000 in
theorem mw_381 : (Cond.methodLink "PayChain$Card" (95 : Nat) ({ cls := "PayChain$ObjectTree", name := "tagOf", desc := "(II)I" } : MethodName)) ∈ bw_B := bw_2 (List.mem_of_getElem? (i := 141) rfl) rfl
set_option maxRecDepth 100000 in
theorem mw_382 : (Cond.instanceMethod ({ cls := "PayChain$ObjectTree", name := "tagOf", desc := "(II)I" } : MethodName)) ∈ bw_B := bw_2 (List.mem_of_getElem? (i := 142) rfl) rfl
set_option maxRecDepth 100000 in
theorem mw_383 : (Cond.selects "PayChain$ObjectTree" ({ cls := "PayChain$ObjectTree", name := "tagOf", desc := "(II)I" } : MethodName) ({ cls := "PayChain$ObjectTree", name := "tagOf", desc := "(II)I" } : MethodName)) ∈ bw_B := bw_2 (List.mem_of_getElem? (i := 143) rfl) rfl
set_option maxRecDepth 100000 in
theorem mw_384 : (Cond.code ({ cls := "PayChain$ObjectTree", name := "tagOf", desc := "(II)I" } : MethodName) prog_5_method_13_code (3 : Nat) (Option.some FieldType.int)) ∈ bw_B := bw_2 (List.mem_of_getElem? (i := 144) rfl) rfl
set_option maxRecDepth 100000 in
theorem mw_385 : (Cond.methodLink "PayChain$Card" (98 : Nat) ({ cls := "PayChain$Tag", name := "bytesOf", desc := "(I)I" } : MethodName)) ∈ bw_B := bw_2 (List.mem_of_getElem? (i := 145) rfl) rfl
set_option maxRecDepth 100000 in
theorem mw_387 : (Cond.methodLink "PayChain" (92 : Nat) ({ cls := "PayChain$Card", name := "reset", desc := "(II)V" } : MethodName)) ∈ bw_B := bw_2 (List.mem_of_getElem? (i := 147) rfl) rfl
set_option maxRecDepth 100000 in
theorem mw_388 : (Cond.instanceMethod ({ cls := "PayChain$Card", name := "reset", desc := "(II)V" } : MethodName)) ∈ bw_B := bw_2 (List.mem_of_getElem? (i := 148) rfl) rfl
set_option maxRecDepth 100000 in
theorem mw_389 : (Cond.selects "PayChain$Card" ({ cls := "PayChain$Card", name := "reset", desc := "(II)V" } : MethodName) ({ cls := "PayChain$Card", name := "reset", desc := "(II)V" } : MethodName)) ∈ bw_B := bw_2 (List.mem_of_getElem? (i := 149) rfl) rfl
set_option maxRecDepth 100000 in
theorem mw_390 : (Cond.code ({ cls := "PayChain$Card", name := "reset", desc := "(II)V" } : MethodName) prog_2_method_2_code (3 : Nat) (Option.none : Option FieldType)) ∈ bw_B := bw_2 (List.mem_of_getElem? (i := 150) rfl) rfl
set_option maxRecDepth 100000 in
theorem mw_391 : (Cond.methodLink "PayChain$Card" (51 : Nat) ({ cls := "PayChain$ObjectTree", name := "pairOf", desc := "(I)I" } : MethodName)) ∈ bw_B := bw_2 (List.mem_of_getElem? (i := 151) rfl) rfl
set_option maxRecDepth 100000 in
theorem mw_392 : (Cond.instanceMethod ({ cls := "PayChain$ObjectTree", name := "pairOf", desc := "(I)I" } : MethodName)) ∈ bw_B := bw_2 (List.mem_of_getElem? (i := 152) rfl) rfl
set_option maxRecDepth 100000 in
theorem mw_393 : (Cond.selects "PayChain$ObjectTree" ({ cls := "PayChain$ObjectTree", name := "pairOf", desc := "(I)I" } : MethodName) ({ cls := "PayChain$ObjectTree", name := "pairOf", desc := "(I)I" } : MethodName)) ∈ bw_B := bw_2 (List.mem_of_getElem? (i := 153) rfl) rfl
set_option maxRecDepth 100000 in
theorem mw_394 : (Cond.code ({ cls := "PayChain$ObjectTree", name := "pairOf", desc := "(I)I" } : MethodName) prog_5_method_14_code (2 : Nat) (Option.some FieldType.int)) ∈ bw_B := bw_2 (List.mem_of_getElem? (i := 154) rfl) rfl
set_option maxRecDepth 100000 in
theorem mw_395 : (Cond.methodLink "PayChain$ObjectTree" (83 : Nat) ({ cls := "PayChain$ObjectTree", name := "byteOf", desc := "(II)I" } : MethodName)) ∈ bw_B := bw_2 (List.mem_of_getElem? (i := 155) rfl) rfl
set_option maxRecDepth 100000 in
theorem mw_396 : (Cond.constant "PayChain$Card" (57 : Nat) (40717 : Int32)) ∈ bw_B := bw_2 (List.mem_of_getElem? (i := 156) rfl) rfl
set_option maxRecDepth 100000 in
theorem mw_397 : (Cond.constant "PayChain$Card" (61 : Nat) (40718 : Int32)) ∈ bw_B := bw_2 (List.mem_of_getElem? (i := 157) rfl) rfl
set_option maxRecDepth 100000 in
theorem mw_398 : (Cond.constant "PayChain$Card" (65 : Nat) (40719 : Int32)) ∈ bw_B := bw_2 (List.mem_of_getElem? (i := 158) rfl) rfl
set_option maxRecDepth 100000 in
theorem mw_399 : (Cond.constant "PayChain$Card" (69 : Nat) (40724 : Int32)) ∈ bw_B := bw_2 (List.mem_of_getElem? (i := 159) rfl) rfl
set_option maxRecDepth 100000 in
theorem mw_400 : (Cond.constant "PayChain$Card" (73 : Nat) (40739 : Int32)) ∈ bw_B := bw_2 (List.mem_of_getElem? (i := 160) rfl) rfl
set_option maxRecDepth 100000 in
theorem mw_401 : (Cond.methodLink "PayChain" (96 : Nat) ({ cls := "PayChain", name := "putSpare", desc := "(I)V" } : MethodName)) ∈ bw_B := bw_2 (List.mem_of_getElem? (i := 161) rfl) rfl
set_option maxRecDepth 100000 in
theorem mw_403 : (Cond.instanceMethod ({ cls := "PayChain", name := "putSpare", desc := "(I)V" } : MethodName)) ∈ bw_B := bw_2 (List.mem_of_getElem? (i := 163) rfl) rfl
set_option maxRecDepth 100000 in
theorem mw_404 : (Cond.code ({ cls := "PayChain", name := "putSpare", desc := "(I)V" } : MethodName) prog_1_method_19_code (3 : Nat) (Option.none : Option FieldType)) ∈ bw_B := bw_2 (List.mem_of_getElem? (i := 164) rfl) rfl
set_option maxRecDepth 100000 in
theorem mw_405 : (Cond.methodLink "PayChainLaw" (28 : Nat) ({ cls := "PayChain", name := "place", desc := "()I" } : MethodName)) ∈ bw_B := bw_2 (List.mem_of_getElem? (i := 165) rfl) rfl
set_option maxRecDepth 100000 in
theorem mw_406 : (Cond.instanceMethod ({ cls := "PayChain", name := "place", desc := "()I" } : MethodName)) ∈ bw_B := bw_2 (List.mem_of_getElem? (i := 166) rfl) rfl
set_option maxRecDepth 100000 in
theorem mw_407 : (Cond.selects "PayChain" ({ cls := "PayChain", name := "place", desc := "()I" } : MethodName) ({ cls := "PayChain", name := "place", desc := "()I" } : MethodName)) ∈ bw_B := bw_2 (List.mem_of_getElem? (i := 167) rfl) rfl
set_option maxRecDepth 100000 in
theorem mw_408 : (Cond.code ({ cls := "PayChain", name := "place", desc := "()I" } : MethodName) prog_1_method_5_code (1 : Nat) (Option.some FieldType.int)) ∈ bw_B := bw_2 (List.mem_of_getElem? (i := 168) rfl) rfl
set_option maxRecDepth 100000 in
theorem mw_409 : (Cond.methodLink "PayChainLaw" (32 : Nat) ({ cls := "PayChain", name := "account", desc := "(III)I" } : MethodName)) ∈ bw_B := bw_2 (List.mem_of_getElem? (i := 169) rfl) rfl
set_option maxRecDepth 100000 in
theorem mw_410 : (Cond.instanceMethod ({ cls := "PayChain", name := "account", desc := "(III)I" } : MethodName)) ∈ bw_B := bw_2 (List.mem_of_getElem? (i := 170) rfl) rfl
set_option maxRecDepth 100000 in
theorem mw_411 : (Cond.selects "PayChain" ({ cls := "PayChain", name := "account", desc := "(III)I" } : MethodName) ({ cls := "PayChain", name := "account", desc := "(III)I" } : MethodName)) ∈ bw_B := bw_2 (List.mem_of_getElem? (i := 171) rfl) rfl
set_option maxRecDepth 100000 in
theorem mw_412 : (Cond.code ({ cls := "PayChain", name := "account", desc := "(III)I" } : MethodName) prog_1_method_6_code (4 : Nat) (Option.some FieldType.int)) ∈ bw_B := bw_2 (List.mem_of_getElem? (i := 172) rfl) rfl
set_option maxRecDepth 100000 in
theorem mw_413 : (Cond.constant "PayChain" (99 : Nat) (9999999 : Int32)) ∈ bw_B := bw_2 (List.mem_of_getElem? (i := 173) rfl) rfl
set_option maxRecDepth 100000 in
theorem mw_414 : (Cond.methodLink "PayChain" (100 : Nat) ({ cls := "PayChain$Host", name := "open", desc := "(III)V" } : MethodName)) ∈ bw_B := bw_2 (List.mem_of_getElem? (i := 174) rfl) rfl
set_option maxRecDepth 100000 in
theorem mw_415 : (Cond.instanceMethod ({ cls := "PayChain$Host", name := "open", desc := "(III)V" } : MethodName)) ∈ bw_B := bw_2 (List.mem_of_getElem? (i := 175) rfl) rfl
set_option maxRecDepth 100000 in
theorem mw_416 : (Cond.selects "PayChain$Host" ({ cls := "PayChain$Host", name := "open", desc := "(III)V" } : MethodName) ({ cls := "PayChain$Host", name := "open", desc := "(III)V" } : MethodName)) ∈ bw_B := bw_2 (List.mem_of_getElem? (i := 176) rfl) rfl
set_option maxRecDepth 100000 in
theorem mw_417 : (Cond.code ({ cls := "PayChain$Host", name := "open", desc := "(III)V" } : MethodName) prog_3_method_2_code (4 : Nat) (Option.none : Option FieldType)) ∈ bw_B := bw_2 (List.mem_of_getElem? (i := 177) rfl) rfl
set_option maxRecDepth 100000 in
theorem mw_418 : (Cond.methodLink "PayChain$Host" (22 : Nat) ({ cls := "PayChain$Host", name := "isAccount", desc := "(I)Z" } : MethodName)) ∈ bw_B := bw_2 (List.mem_of_getElem? (i := 178) rfl) rfl
set_option maxRecDepth 100000 in
theorem mw_419 : (Cond.static ({ cls := "PayChain$Host", name := "isAccount", desc := "(I)Z" } : MethodName)) ∈ bw_B := bw_2 (List.mem_of_getElem? (i := 179) rfl) rfl
set_option maxRecDepth 100000 in
theorem mw_420 : (Cond.code ({ cls := "PayChain$Host", name := "isAccount", desc := "(I)Z" } : MethodName) prog_3_method_3_code (1 : Nat) (Option.some FieldType.boolean)) ∈ bw_B := bw_2 (List.mem_of_getElem? (i := 180) rfl) rfl
set_option maxRecDepth 100000 in
theorem mw_422 : (Cond.methodLink "PayChainLaw" (36 : Nat) ({ cls := "PayChain", name := "setting", desc := "(II)I" } : MethodName)) ∈ bw_B := bw_2 (List.mem_of_getElem? (i := 182) rfl) rfl
set_option maxRecDepth 100000 in
theorem mw_423 : (Cond.instanceMethod ({ cls := "PayChain", name := "setting", desc := "(II)I" } : MethodName)) ∈ bw_B := bw_2 (List.mem_of_getElem? (i := 183) rfl) rfl
set_option maxRecDepth 100000 in
theorem mw_424 : (Cond.selects "PayChain" ({ cls := "PayChain", name := "setting", desc := "(II)I" } : MethodName) ({ cls := "PayChain", name := "setting", desc := "(II)I" } : MethodName)) ∈ bw_B := bw_2 (List.mem_of_getElem? (i := 184) rfl) rfl
set_option maxRecDepth 100000 in
theorem mw_425 : (Cond.code ({ cls := "PayChain", name := "setting", desc := "(II)I" } : MethodName) prog_1_method_7_code (3 : Nat) (Option.some FieldType.int)) ∈ bw_B := bw_2 (List.mem_of_getElem? (i := 185) rfl) rfl
set_option maxRecDepth 100000 in
theorem mw_426 : (Cond.methodLink "PayChain" (104 : Nat) ({ cls := "PayChain$Terminal", name := "set", desc := "(II)Z" } : MethodName)) ∈ bw_B := bw_2 (List.mem_of_getElem? (i := 186) rfl) rfl
set_option maxRecDepth 100000 in
theorem mw_427 : (Cond.instanceMethod ({ cls := "PayChain$Terminal", name := "set", desc := "(II)Z" } : MethodName)) ∈ bw_B := bw_2 (List.mem_of_getElem? (i := 187) rfl) rfl
set_option maxRecDepth 100000 in
theorem mw_428 : (Cond.selects "PayChain$Terminal" ({ cls := "PayChain$Terminal", name := "set", desc := "(II)Z" } : MethodName) ({ cls := "PayChain$Terminal", name := "set", desc := "(II)Z" } : MethodName)) ∈ bw_B := bw_2 (List.mem_of_getElem? (i := 188) rfl) rfl
set_option maxRecDepth 100000 in
theorem mw_429 : (Cond.code ({ cls := "PayChain$Terminal", name := "set", desc := "(II)Z" } : MethodName) prog_10_method_2_code (4 : Nat) (Option.some FieldType.boolean)) ∈ bw_B := bw_2 (List.mem_of_getElem? (i := 189) rfl) rfl
set_option maxRecDepth 100000 in
theorem mw_430 : (Cond.constant "PayChain$Terminal" (13 : Nat) (65535 : Int32)) ∈ bw_B := bw_2 (List.mem_of_getElem? (i := 190) rfl) rfl
set_option maxRecDepth 100000 in
theorem mw_431 : (Cond.constant "PayChain$Terminal" (14 : Nat) (999999 : Int32)) ∈ bw_B := bw_2 (List.mem_of_getElem? (i := 191) rfl) rfl
set_option maxRecDepth 100000 in
theorem mw_433 : (Cond.methodLink "PayChainLaw" (41 : Nat) ({ cls := "PayChain", name := "pay", desc := "(IIII)I" } : MethodName)) ∈ bw_B := bw_2 (List.mem_of_getElem? (i := 193) rfl) rfl
set_option maxRecDepth 100000 in
theorem mw_434 : (Cond.instanceMethod ({ cls := "PayChain", name := "pay", desc := "(IIII)I" } : MethodName)) ∈ bw_B := bw_2 (List.mem_of_getElem? (i := 194) rfl) rfl
set_option maxRecDepth 100000 in
theorem mw_435 : (Cond.selects "PayChain" ({ cls := "PayChain", name := "pay", desc := "(IIII)I" } : MethodName) ({ cls := "PayChain", name := "pay", desc := "(IIII)I" } : MethodName)) ∈ bw_B := bw_2 (List.mem_of_getElem? (i := 195) rfl) rfl
set_option maxRecDepth 100000 in
theorem mw_436 : (Cond.code ({ cls := "PayChain", name := "pay", desc := "(IIII)I" } : MethodName) prog_1_method_8_code (6 : Nat) (Option.some FieldType.int)) ∈ bw_B := bw_2 (List.mem_of_getElem? (i := 196) rfl) rfl
set_option maxRecDepth 100000 in
theorem mw_437 : (Cond.methodLink "PayChain" (108 : Nat) ({ cls := "PayChain", name := "cardThere", desc := "(I)LPayChain$Card;" } : MethodName)) ∈ bw_B := bw_2 (List.mem_of_getElem? (i := 197) rfl) rfl
set_option maxRecDepth 100000 in
theorem mw_439 : (Cond.instanceMethod ({ cls := "PayChain", name := "cardThere", desc := "(I)LPayChain$Card;" } : MethodName)) ∈ bw_B := bw_2 (List.mem_of_getElem? (i := 199) rfl) rfl
set_option maxRecDepth 100000 in
theorem mw_440 : (Cond.code ({ cls := "PayChain", name := "cardThere", desc := "(I)LPayChain$Card;" } : MethodName) prog_1_method_18_code (2 : Nat) (Option.some (FieldType.object "PayChain$Card"))) ∈ bw_B := bw_2 (List.mem_of_getElem? (i := 200) rfl) rfl
set_option maxRecDepth 100000 in
theorem mw_441 : (Cond.constant "PayChain" (112 : Nat) (999999 : Int32)) ∈ bw_B := bw_2 (List.mem_of_getElem? (i := 201) rfl) rfl
set_option maxRecDepth 100000 in
theorem mw_442 : (Cond.methodLink "PayChain" (113 : Nat) ({ cls := "java/util/ArrayList", name := "size", desc := "()I" } : MethodName)) ∈ bw_B := bw_2 (List.mem_of_getElem? (i := 202) rfl) rfl
set_option maxRecDepth 100000 in
theorem mw_443 : (Cond.instanceMethod ({ cls := "java/util/ArrayList", name := "size", desc := "()I" } : MethodName)) ∈ bw_B := bw_2 (List.mem_of_getElem? (i := 203) rfl) rfl
set_option maxRecDepth 100000 in
theorem mw_444 : (Cond.selects "java/util/ArrayList" ({ cls := "java/util/ArrayList", name := "size", desc := "()I" } : MethodName) ({ cls := "java/util/ArrayList", name := "size", desc := "()I" } : MethodName)) ∈ bw_B := bw_2 (List.mem_of_getElem? (i := 204) rfl) rfl
set_option maxRecDepth 100000 in
theorem mw_445 : (Cond.code ({ cls := "java/util/ArrayList", name := "size", desc := "()I" } : MethodName) prog_20_method_8_code (1 : Nat) (Option.some FieldType.int)) ∈ bw_B := bw_2 (List.mem_of_getElem? (i := 205) rfl) rfl
set_option maxRecDepth 100000 in
theorem mw_446 : (Cond.methodLink "PayChain" (114 : Nat) ({ cls := "PayChain$Payment", name := "start", desc := "(III)V" } : MethodName)) ∈ bw_B := bw_2 (List.mem_of_getElem? (i := 206) rfl) rfl
set_option maxRecDepth 100000 in
theorem mw_447 : (Cond.instanceMethod ({ cls := "PayChain$Payment", name := "start", desc := "(III)V" } : MethodName)) ∈ bw_B := bw_2 (List.mem_of_getElem? (i := 207) rfl) rfl
set_option maxRecDepth 100000 in
theorem mw_448 : (Cond.selects "PayChain$Payment" ({ cls := "PayChain$Payment", name := "start", desc := "(III)V" } : MethodName) ({ cls := "PayChain$Payment", name := "start", desc := "(III)V" } : MethodName)) ∈ bw_B := bw_2 (List.mem_of_getElem? (i := 208) rfl) rfl
set_option maxRecDepth 100000 in
theorem mw_449 : (Cond.code ({ cls := "PayChain$Payment", name := "start", desc := "(III)V" } : MethodName) prog_6_method_2_code (4 : Nat) (Option.none : Option FieldType)) ∈ bw_B := bw_2 (List.mem_of_getElem? (i := 209) rfl) rfl
set_option maxRecDepth 100000 in
theorem mw_450 : (Cond.methodLink "PayChain" (117 : Nat) ({ cls := "PayChain$Payment", name := "run", desc := "(LPayChain$Card;LPayChain$Terminal;LPayChain$Host;)V" } : MethodName)) ∈ bw_B := bw_2 (List.mem_of_getElem? (i := 210) rfl) rfl
set_option maxRecDepth 100000 in
theorem mw_451 : (Cond.instanceMethod ({ cls := "PayChain$Payment", name := "run", desc := "(LPayChain$Card;LPayChain$Terminal;LPayChain$Host;)V" } : MethodName)) ∈ bw_B := bw_2 (List.mem_of_getElem? (i := 211) rfl) rfl
set_option maxRecDepth 100000 in
theorem mw_452 : (Cond.selects "PayChain$Payment" ({ cls := "PayChain$Payment", name := "run", desc := "(LPayChain$Card;LPayChain$Terminal;LPayChain$Host;)V" } : MethodName) ({ cls := "PayChain$Payment", name := "run", desc := "(LPayChain$Card;LPayChain$Terminal;LPayChain$Host;)V" } : MethodName)) ∈ bw_B := bw_2 (List.mem_of_getElem? (i := 212) rfl) rfl
set_option maxRecDepth 100000 in
theorem mw_453 : (Cond.code ({ cls := "PayChain$Payment", name := "run", desc := "(LPayChain$Card;LPayChain$Terminal;LPayChain$Host;)V" } : MethodName) prog_6_method_3_code (4 : Nat) (Option.none : Option FieldType)) ∈ bw_B := bw_2 (List.mem_of_getElem? (i := 213) rfl) rfl
set_option maxRecDepth 100000 in
theorem mw_454 : (Cond.methodLink "PayChain$Payment" (50 : Nat) ({ cls := "PayChain$Terminal", name := "day", desc := "()I" } : MethodName)) ∈ bw_B := bw_2 (List.mem_of_getElem? (i := 214) rfl) rfl
set_option maxRecDepth 100000 in
theorem mw_455 : (Cond.instanceMethod ({ cls := "PayChain$Terminal", name := "day", desc := "()I" } : MethodName)) ∈ bw_B := bw_2 (List.mem_of_getElem? (i := 215) rfl) rfl
set_option maxRecDepth 100000 in
theorem mw_456 : (Cond.selects "PayChain$Terminal" ({ cls := "PayChain$Terminal", name := "day", desc := "()I" } : MethodName) ({ cls := "PayChain$Terminal", name := "day", desc := "()I" } : MethodName)) ∈ bw_B := bw_2 (List.mem_of_getElem? (i := 216) rfl) rfl
set_option maxRecDepth 100000 in
theorem mw_457 : (Cond.code ({ cls := "PayChain$Terminal", name := "day", desc := "()I" } : MethodName) prog_10_method_4_code (1 : Nat) (Option.some FieldType.int)) ∈ bw_B := bw_2 (List.mem_of_getElem? (i := 217) rfl) rfl
set_option maxRecDepth 100000 in
theorem mw_458 : (Cond.methodLink "PayChain$Payment" (59 : Nat) ({ cls := "PayChain$Payment", name := "setIf", desc := "(ZI)V" } : MethodName)) ∈ bw_B := bw_2 (List.mem_of_getElem? (i := 218) rfl) rfl
set_option maxRecDepth 100000 in
theorem mw_460 : (Cond.instanceMethod ({ cls := "PayChain$Payment", name := "setIf", desc := "(ZI)V" } : MethodName)) ∈ bw_B := bw_2 (List.mem_of_getElem? (i := 220) rfl) rfl
set_option maxRecDepth 100000 in
theorem mw_461 : (Cond.code ({ cls := "PayChain$Payment", name := "setIf", desc := "(ZI)V" } : MethodName) prog_6_method_4_code (3 : Nat) (Option.none : Option FieldType)) ∈ bw_B := bw_2 (List.mem_of_getElem? (i := 221) rfl) rfl
set_option maxRecDepth 100000 in
theorem mw_462 : (Cond.methodLink "PayChain$Payment" (67 : Nat) ({ cls := "PayChain$Payment", name := "checkHolder", desc := "(LPayChain$Card;LPayChain$Terminal;)V" } : MethodName)) ∈ bw_B := bw_2 (List.mem_of_getElem? (i := 222) rfl) rfl
set_option maxRecDepth 100000 in
theorem mw_464 : (Cond.instanceMethod ({ cls := "PayChain$Payment", name := "checkHolder", desc := "(LPayChain$Card;LPayChain$Terminal;)V" } : MethodName)) ∈ bw_B := bw_2 (List.mem_of_getElem? (i := 224) rfl) rfl
set_option maxRecDepth 100000 in
theorem mw_465 : (Cond.code ({ cls := "PayChain$Payment", name := "checkHolder", desc := "(LPayChain$Card;LPayChain$Terminal;)V" } : MethodName) prog_6_method_5_code (7 : Nat) (Option.none : Option FieldType)) ∈ bw_B := bw_2 (List.mem_of_getElem? (i := 225) rfl) rfl
set_option maxRecDepth 100000 in
theorem mw_466 : (Cond.methodLink "PayChain$Payment" (118 : Nat) ({ cls := "PayChain$ObjectTree", name := "first", desc := "(I)I" } : MethodName)) ∈ bw_B := bw_2 (List.mem_of_getElem? (i := 226) rfl) rfl
set_option maxRecDepth 100000 in
theorem mw_467 : (Cond.methodLink "PayChain$Payment" (123 : Nat) ({ cls := "PayChain$ObjectTree", name := "pairOf", desc := "(I)I" } : MethodName)) ∈ bw_B := bw_2 (List.mem_of_getElem? (i := 227) rfl) rfl
set_option maxRecDepth 100000 in
theorem mw_468 : (Cond.methodLink "PayChain$Payment" (126 : Nat) ({ cls := "PayChain$ObjectTree", name := "lengthOf", desc := "(I)I" } : MethodName)) ∈ bw_B := bw_2 (List.mem_of_getElem? (i := 228) rfl) rfl
set_option maxRecDepth 100000 in
theorem mw_469 : (Cond.methodLink "PayChain$Payment" (129 : Nat) ({ cls := "PayChain$ObjectTree", name := "byteOf", desc := "(II)I" } : MethodName)) ∈ bw_B := bw_2 (List.mem_of_getElem? (i := 229) rfl) rfl
set_option maxRecDepth 100000 in
theorem mw_470 : (Cond.methodLink "PayChain$Payment" (133 : Nat) ({ cls := "PayChain$Payment", name := "isCase", desc := "(IILPayChain$Terminal;)Z" } : MethodName)) ∈ bw_B := bw_2 (List.mem_of_getElem? (i := 230) rfl) rfl
set_option maxRecDepth 100000 in
theorem mw_472 : (Cond.instanceMethod ({ cls := "PayChain$Payment", name := "isCase", desc := "(IILPayChain$Terminal;)Z" } : MethodName)) ∈ bw_B := bw_2 (List.mem_of_getElem? (i := 232) rfl) rfl
set_option maxRecDepth 100000 in
theorem mw_473 : (Cond.code ({ cls := "PayChain$Payment", name := "isCase", desc := "(IILPayChain$Terminal;)Z" } : MethodName) prog_6_method_6_code (4 : Nat) (Option.some FieldType.boolean)) ∈ bw_B := bw_2 (List.mem_of_getElem? (i := 233) rfl) rfl
set_option maxRecDepth 100000 in
theorem mw_474 : (Cond.methodLink "PayChain$Payment" (141 : Nat) ({ cls := "PayChain$Terminal", name := "hasPad", desc := "()Z" } : MethodName)) ∈ bw_B := bw_2 (List.mem_of_getElem? (i := 234) rfl) rfl
set_option maxRecDepth 100000 in
theorem mw_475 : (Cond.instanceMethod ({ cls := "PayChain$Terminal", name := "hasPad", desc := "()Z" } : MethodName)) ∈ bw_B := bw_2 (List.mem_of_getElem? (i := 235) rfl) rfl
set_option maxRecDepth 100000 in
theorem mw_476 : (Cond.selects "PayChain$Terminal" ({ cls := "PayChain$Terminal", name := "hasPad", desc := "()Z" } : MethodName) ({ cls := "PayChain$Terminal", name := "hasPad", desc := "()Z" } : MethodName)) ∈ bw_B := bw_2 (List.mem_of_getElem? (i := 236) rfl) rfl
set_option maxRecDepth 100000 in
theorem mw_477 : (Cond.code ({ cls := "PayChain$Terminal", name := "hasPad", desc := "()Z" } : MethodName) prog_10_method_6_code (1 : Nat) (Option.some FieldType.boolean)) ∈ bw_B := bw_2 (List.mem_of_getElem? (i := 237) rfl) rfl
set_option maxRecDepth 100000 in
theorem mw_478 : (Cond.methodLink "PayChain$Payment" (137 : Nat) ({ cls := "PayChain$Payment", name := "isMet", desc := "(ILPayChain$Card;LPayChain$Terminal;)Z" } : MethodName)) ∈ bw_B := bw_2 (List.mem_of_getElem? (i := 238) rfl) rfl
set_option maxRecDepth 100000 in
theorem mw_480 : (Cond.instanceMethod ({ cls := "PayChain$Payment", name := "isMet", desc := "(ILPayChain$Card;LPayChain$Terminal;)Z" } : MethodName)) ∈ bw_B := bw_3 (List.mem_of_getElem? (i := 0) rfl) rfl
set_option maxRecDepth 100000 in
theorem mw_481 : (Cond.code ({ cls := "PayChain$Payment", name := "isMet", desc := "(ILPayChain$Card;LPayChain$Terminal;)Z" } : MethodName) prog_6_method_7_code (4 : Nat) (Option.some FieldType.boolean)) ∈ bw_B := bw_3 (List.mem_of_getElem? (i := 1) rfl) rfl
set_option maxRecDepth 100000 in
theorem mw_482 : (Cond.methodLink "PayChain$Payment" (145 : Nat) ({ cls := "PayChain$Payment", name := "isPinRight", desc := "(LPayChain$Card;LPayChain$Terminal;)Z" } : MethodName)) ∈ bw_B := bw_3 (List.mem_of_getElem? (i := 2) rfl) rfl
set_option maxRecDepth 100000 in
theorem mw_484 : (Cond.instanceMethod ({ cls := "PayChain$Payment", name := "isPinRight", desc := "(LPayChain$Card;LPayChain$Terminal;)Z" } : MethodName)) ∈ bw_B := bw_3 (List.mem_of_getElem? (i := 4) rfl) rfl
set_option maxRecDepth 100000 in
theorem mw_485 : (Cond.code ({ cls := "PayChain$Payment", name := "isPinRight", desc := "(LPayChain$Card;LPayChain$Terminal;)Z" } : MethodName) prog_6_method_8_code (3 : Nat) (Option.some FieldType.boolean)) ∈ bw_B := bw_3 (List.mem_of_getElem? (i := 5) rfl) rfl
set_option maxRecDepth 100000 in
theorem mw_486 : (Cond.methodLink "PayChain$Payment" (149 : Nat) ({ cls := "PayChain$Card", name := "isBlocked", desc := "()Z" } : MethodName)) ∈ bw_B := bw_3 (List.mem_of_getElem? (i := 6) rfl) rfl
set_option maxRecDepth 100000 in
theorem mw_487 : (Cond.instanceMethod ({ cls := "PayChain$Card", name := "isBlocked", desc := "()Z" } : MethodName)) ∈ bw_B := bw_3 (List.mem_of_getElem? (i := 7) rfl) rfl
set_option maxRecDepth 100000 in
theorem mw_488 : (Cond.selects "PayChain$Card" ({ cls := "PayChain$Card", name := "isBlocked", desc := "()Z" } : MethodName) ({ cls := "PayChain$Card", name := "isBlocked", desc := "()Z" } : MethodName)) ∈ bw_B := bw_3 (List.mem_of_getElem? (i := 8) rfl) rfl
set_option maxRecDepth 100000 in
theorem mw_489 : (Cond.code ({ cls := "PayChain$Card", name := "isBlocked", desc := "()Z" } : MethodName) prog_2_method_9_code (1 : Nat) (Option.some FieldType.boolean)) ∈ bw_B := bw_3 (List.mem_of_getElem? (i := 9) rfl) rfl
set_option maxRecDepth 100000 in
theorem mw_490 : (Cond.methodLink "PayChain$Payment" (152 : Nat) ({ cls := "PayChain$Card", name := "acceptsPin", desc := "(I)Z" } : MethodName)) ∈ bw_B := bw_3 (List.mem_of_getElem? (i := 10) rfl) rfl
set_option maxRecDepth 100000 in
theorem mw_491 : (Cond.instanceMethod ({ cls := "PayChain$Card", name := "acceptsPin", desc := "(I)Z" } : MethodName)) ∈ bw_B := bw_3 (List.mem_of_getElem? (i := 11) rfl) rfl
set_option maxRecDepth 100000 in
theorem mw_492 : (Cond.selects "PayChain$Card" ({ cls := "PayChain$Card", name := "acceptsPin", desc := "(I)Z" } : MethodName) ({ cls := "PayChain$Card", name := "acceptsPin", desc := "(I)Z" } : MethodName)) ∈ bw_B := bw_3 (List.mem_of_getElem? (i := 12) rfl) rfl
set_option maxRecDepth 100000 in
theorem mw_493 : (Cond.code ({ cls := "PayChain$Card", name := "acceptsPin", desc := "(I)Z" } : MethodName) prog_2_method_10_code (2 : Nat) (Option.some FieldType.boolean)) ∈ bw_B := bw_3 (List.mem_of_getElem? (i := 13) rfl) rfl
set_option maxRecDepth 100000 in
theorem mw_494 : (Cond.methodLink "PayChain$Payment" (71 : Nat) ({ cls := "PayChain$Payment", name := "weighRisks", desc := "(LPayChain$Card;LPayChain$Terminal;)V" } : MethodName)) ∈ bw_B := bw_3 (List.mem_of_getElem? (i := 14) rfl) rfl
set_option maxRecDepth 100000 in
theorem mw_496 : (Cond.instanceMethod ({ cls := "PayChain$Payment", name := "weighRisks", desc := "(LPayChain$Card;LPayChain$Terminal;)V" } : MethodName)) ∈ bw_B := bw_3 (List.mem_of_getElem? (i := 16) rfl) rfl
set_option maxRecDepth 100000 in
theorem mw_497 : (Cond.code ({ cls := "PayChain$Payment", name := "weighRisks", desc := "(LPayChain$Card;LPayChain$Terminal;)V" } : MethodName) prog_6_method_9_code (3 : Nat) (Option.none : Option FieldType)) ∈ bw_B := bw_3 (List.mem_of_getElem? (i := 17) rfl) rfl
set_option maxRecDepth 100000 in
theorem mw_498 : (Cond.methodLink "PayChain$Payment" (156 : Nat) ({ cls := "PayChain$Terminal", name := "floor", desc := "()I" } : MethodName)) ∈ bw_B := bw_3 (List.mem_of_getElem? (i := 18) rfl) rfl
set_option maxRecDepth 100000 in
theorem mw_499 : (Cond.instanceMethod ({ cls := "PayChain$Terminal", name := "floor", desc := "()I" } : MethodName)) ∈ bw_B := bw_3 (List.mem_of_getElem? (i := 19) rfl) rfl
set_option maxRecDepth 100000 in
theorem mw_500 : (Cond.selects "PayChain$Terminal" ({ cls := "PayChain$Terminal", name := "floor", desc := "()I" } : MethodName) ({ cls := "PayChain$Terminal", name := "floor", desc := "()I" } : MethodName)) ∈ bw_B := bw_3 (List.mem_of_getElem? (i := 20) rfl) rfl
set_option maxRecDepth 100000 in
theorem mw_501 : (Cond.code ({ cls := "PayChain$Terminal", name := "floor", desc := "()I" } : MethodName) prog_10_method_3_code (1 : Nat) (Option.some FieldType.int)) ∈ bw_B := bw_3 (List.mem_of_getElem? (i := 21) rfl) rfl
set_option maxRecDepth 100000 in
theorem mw_502 : (Cond.methodLink "PayChain$Payment" (165 : Nat) ({ cls := "PayChain$Card", name := "isRunAtLower", desc := "()Z" } : MethodName)) ∈ bw_B := bw_3 (List.mem_of_getElem? (i := 22) rfl) rfl
set_option maxRecDepth 100000 in
theorem mw_503 : (Cond.instanceMethod ({ cls := "PayChain$Card", name := "isRunAtLower", desc := "()Z" } : MethodName)) ∈ bw_B := bw_3 (List.mem_of_getElem? (i := 23) rfl) rfl
set_option maxRecDepth 100000 in
theorem mw_504 : (Cond.selects "PayChain$Card" ({ cls := "PayChain$Card", name := "isRunAtLower", desc := "()Z" } : MethodName) ({ cls := "PayChain$Card", name := "isRunAtLower", desc := "()Z" } : MethodName)) ∈ bw_B := bw_3 (List.mem_of_getElem? (i := 24) rfl) rfl
set_option maxRecDepth 100000 in
theorem mw_505 : (Cond.code ({ cls := "PayChain$Card", name := "isRunAtLower", desc := "()Z" } : MethodName) prog_2_method_7_code (1 : Nat) (Option.some FieldType.boolean)) ∈ bw_B := bw_3 (List.mem_of_getElem? (i := 25) rfl) rfl
set_option maxRecDepth 100000 in
theorem mw_506 : (Cond.methodLink "PayChain$Payment" (168 : Nat) ({ cls := "PayChain$Card", name := "isRunAtUpper", desc := "()Z" } : MethodName)) ∈ bw_B := bw_3 (List.mem_of_getElem? (i := 26) rfl) rfl
set_option maxRecDepth 100000 in
theorem mw_507 : (Cond.instanceMethod ({ cls := "PayChain$Card", name := "isRunAtUpper", desc := "()Z" } : MethodName)) ∈ bw_B := bw_3 (List.mem_of_getElem? (i := 27) rfl) rfl
set_option maxRecDepth 100000 in
theorem mw_508 : (Cond.selects "PayChain$Card" ({ cls := "PayChain$Card", name := "isRunAtUpper", desc := "()Z" } : MethodName) ({ cls := "PayChain$Card", name := "isRunAtUpper", desc := "()Z" } : MethodName)) ∈ bw_B := bw_3 (List.mem_of_getElem? (i := 28) rfl) rfl
set_option maxRecDepth 100000 in
theorem mw_509 : (Cond.code ({ cls := "PayChain$Card", name := "isRunAtUpper", desc := "()Z" } : MethodName) prog_2_method_8_code (1 : Nat) (Option.some FieldType.boolean)) ∈ bw_B := bw_3 (List.mem_of_getElem? (i := 29) rfl) rfl
set_option maxRecDepth 100000 in
theorem mw_510 : (Cond.methodLink "PayChain$Payment" (74 : Nat) ({ cls := "PayChain$Payment", name := "findWish", desc := "(LPayChain$Card;LPayChain$Terminal;)I" } : MethodName)) ∈ bw_B := bw_3 (List.mem_of_getElem? (i := 30) rfl) rfl
set_option maxRecDepth 100000 in
theorem mw_512 : (Cond.instanceMethod ({ cls := "PayChain$Payment", name := "findWish", desc := "(LPayChain$Card;LPayChain$Terminal;)I" } : MethodName)) ∈ bw_B := bw_3 (List.mem_of_getElem? (i := 32) rfl) rfl
set_option maxRecDepth 100000 in
theorem mw_513 : (Cond.code ({ cls := "PayChain$Payment", name := "findWish", desc := "(LPayChain$Card;LPayChain$Terminal;)I" } : MethodName) prog_6_method_10_code (3 : Nat) (Option.some FieldType.int)) ∈ bw_B := bw_3 (List.mem_of_getElem? (i := 33) rfl) rfl
set_option maxRecDepth 100000 in
theorem mw_514 : (Cond.methodLink "PayChain$Payment" (174 : Nat) ({ cls := "PayChain$Terminal", name := "maskDenial", desc := "()I" } : MethodName)) ∈ bw_B := bw_3 (List.mem_of_getElem? (i := 34) rfl) rfl
set_option maxRecDepth 100000 in
theorem mw_515 : (Cond.instanceMethod ({ cls := "PayChain$Terminal", name := "maskDenial", desc := "()I" } : MethodName)) ∈ bw_B := bw_3 (List.mem_of_getElem? (i := 35) rfl) rfl
set_option maxRecDepth 100000 in
theorem mw_516 : (Cond.selects "PayChain$Terminal" ({ cls := "PayChain$Terminal", name := "maskDenial", desc := "()I" } : MethodName) ({ cls := "PayChain$Terminal", name := "maskDenial", desc := "()I" } : MethodName)) ∈ bw_B := bw_3 (List.mem_of_getElem? (i := 36) rfl) rfl
set_option maxRecDepth 100000 in
theorem mw_517 : (Cond.code ({ cls := "PayChain$Terminal", name := "maskDenial", desc := "()I" } : MethodName) prog_10_method_8_code (1 : Nat) (Option.some FieldType.int)) ∈ bw_B := bw_3 (List.mem_of_getElem? (i := 37) rfl) rfl
set_option maxRecDepth 100000 in
theorem mw_518 : (Cond.methodLink "PayChain$Payment" (176 : Nat) ({ cls := "PayChain$Payment", name := "hasFlagIn", desc := "(I)Z" } : MethodName)) ∈ bw_B := bw_3 (List.mem_of_getElem? (i := 38) rfl) rfl
set_option maxRecDepth 100000 in
theorem mw_520 : (Cond.instanceMethod ({ cls := "PayChain$Payment", name := "hasFlagIn", desc := "(I)Z" } : MethodName)) ∈ bw_B := bw_3 (List.mem_of_getElem? (i := 40) rfl) rfl
set_option maxRecDepth 100000 in
theorem mw_521 : (Cond.code ({ cls := "PayChain$Payment", name := "hasFlagIn", desc := "(I)Z" } : MethodName) prog_6_method_11_code (2 : Nat) (Option.some FieldType.boolean)) ∈ bw_B := bw_3 (List.mem_of_getElem? (i := 41) rfl) rfl
set_option maxRecDepth 100000 in
theorem mw_522 : (Cond.methodLink "PayChain$Payment" (179 : Nat) ({ cls := "PayChain$Terminal", name := "isConnected", desc := "()Z" } : MethodName)) ∈ bw_B := bw_3 (List.mem_of_getElem? (i := 42) rfl) rfl
set_option maxRecDepth 100000 in
theorem mw_523 : (Cond.instanceMethod ({ cls := "PayChain$Terminal", name := "isConnected", desc := "()Z" } : MethodName)) ∈ bw_B := bw_3 (List.mem_of_getElem? (i := 43) rfl) rfl
set_option maxRecDepth 100000 in
theorem mw_524 : (Cond.selects "PayChain$Terminal" ({ cls := "PayChain$Terminal", name := "isConnected", desc := "()Z" } : MethodName) ({ cls := "PayChain$Terminal", name := "isConnected", desc := "()Z" } : MethodName)) ∈ bw_B := bw_3 (List.mem_of_getElem? (i := 44) rfl) rfl
set_option maxRecDepth 100000 in
theorem mw_525 : (Cond.code ({ cls := "PayChain$Terminal", name := "isConnected", desc := "()Z" } : MethodName) prog_10_method_5_code (1 : Nat) (Option.some FieldType.boolean)) ∈ bw_B := bw_3 (List.mem_of_getElem? (i := 45) rfl) rfl
set_option maxRecDepth 100000 in
theorem mw_526 : (Cond.methodLink "PayChain$Payment" (185 : Nat) ({ cls := "PayChain$Terminal", name := "maskOnline", desc := "()I" } : MethodName)) ∈ bw_B := bw_3 (List.mem_of_getElem? (i := 46) rfl) rfl
set_option maxRecDepth 100000 in
theorem mw_527 : (Cond.instanceMethod ({ cls := "PayChain$Terminal", name := "maskOnline", desc := "()I" } : MethodName)) ∈ bw_B := bw_3 (List.mem_of_getElem? (i := 47) rfl) rfl
set_option maxRecDepth 100000 in
theorem mw_528 : (Cond.selects "PayChain$Terminal" ({ cls := "PayChain$Terminal", name := "maskOnline", desc := "()I" } : MethodName) ({ cls := "PayChain$Terminal", name := "maskOnline", desc := "()I" } : MethodName)) ∈ bw_B := bw_3 (List.mem_of_getElem? (i := 48) rfl) rfl
set_option maxRecDepth 100000 in
theorem mw_529 : (Cond.code ({ cls := "PayChain$Terminal", name := "maskOnline", desc := "()I" } : MethodName) prog_10_method_9_code (1 : Nat) (Option.some FieldType.int)) ∈ bw_B := bw_3 (List.mem_of_getElem? (i := 49) rfl) rfl
set_option maxRecDepth 100000 in
theorem mw_530 : (Cond.methodLink "PayChain$Payment" (190 : Nat) ({ cls := "PayChain$Terminal", name := "maskDefault", desc := "()I" } : MethodName)) ∈ bw_B := bw_3 (List.mem_of_getElem? (i := 50) rfl) rfl
set_option maxRecDepth 100000 in
theorem mw_531 : (Cond.instanceMethod ({ cls := "PayChain$Terminal", name := "maskDefault", desc := "()I" } : MethodName)) ∈ bw_B := bw_3 (List.mem_of_getElem? (i := 51) rfl) rfl
set_option maxRecDepth 100000 in
theorem mw_532 : (Cond.selects "PayChain$Terminal" ({ cls := "PayChain$Terminal", name := "maskDefault", desc := "()I" } : MethodName) ({ cls := "PayChain$Terminal", name := "maskDefault", desc := "()I" } : MethodName)) ∈ bw_B := bw_3 (List.mem_of_getElem? (i := 52) rfl) rfl
set_option maxRecDepth 100000 in
theorem mw_533 : (Cond.code ({ cls := "PayChain$Terminal", name := "maskDefault", desc := "()I" } : MethodName) prog_10_method_7_code (1 : Nat) (Option.some FieldType.int)) ∈ bw_B := bw_3 (List.mem_of_getElem? (i := 53) rfl) rfl
set_option maxRecDepth 100000 in
theorem mw_534 : (Cond.methodLink "PayChain$Payment" (81 : Nat) ({ cls := "PayChain$Payment", name := "gatherData", desc := "(LPayChain$Card;LPayChain$Terminal;)V" } : MethodName)) ∈ bw_B := bw_3 (List.mem_of_getElem? (i := 54) rfl) rfl
set_option maxRecDepth 100000 in
theorem mw_536 : (Cond.instanceMethod ({ cls := "PayChain$Payment", name := "gatherData", desc := "(LPayChain$Card;LPayChain$Terminal;)V" } : MethodName)) ∈ bw_B := bw_3 (List.mem_of_getElem? (i := 56) rfl) rfl
set_option maxRecDepth 100000 in
theorem mw_537 : (Cond.code ({ cls := "PayChain$Payment", name := "gatherData", desc := "(LPayChain$Card;LPayChain$Terminal;)V" } : MethodName) prog_6_method_12_code (8 : Nat) (Option.none : Option FieldType)) ∈ bw_B := bw_3 (List.mem_of_getElem? (i := 57) rfl) rfl
set_option maxRecDepth 100000 in
theorem mw_538 : (Cond.methodLink "PayChain$Payment" (192 : Nat) ({ cls := "PayChain$Row", name := "clear", desc := "()V" } : MethodName)) ∈ bw_B := bw_3 (List.mem_of_getElem? (i := 58) rfl) rfl
set_option maxRecDepth 100000 in
theorem mw_539 : (Cond.methodLink "PayChain$Payment" (195 : Nat) ({ cls := "PayChain$ObjectTree", name := "tagOf", desc := "(II)I" } : MethodName)) ∈ bw_B := bw_3 (List.mem_of_getElem? (i := 59) rfl) rfl
set_option maxRecDepth 100000 in
theorem mw_540 : (Cond.methodLink "PayChain$Payment" (198 : Nat) ({ cls := "PayChain$Tag", name := "bytesOf", desc := "(I)I" } : MethodName)) ∈ bw_B := bw_3 (List.mem_of_getElem? (i := 60) rfl) rfl
set_option maxRecDepth 100000 in
theorem mw_541 : (Cond.methodLink "PayChain$Payment" (201 : Nat) ({ cls := "PayChain$Payment", name := "demanded", desc := "(ILPayChain$Terminal;)I" } : MethodName)) ∈ bw_B := bw_3 (List.mem_of_getElem? (i := 61) rfl) rfl
set_option maxRecDepth 100000 in
theorem mw_543 : (Cond.instanceMethod ({ cls := "PayChain$Payment", name := "demanded", desc := "(ILPayChain$Terminal;)I" } : MethodName)) ∈ bw_B := bw_3 (List.mem_of_getElem? (i := 63) rfl) rfl
set_option maxRecDepth 100000 in
theorem mw_544 : (Cond.code ({ cls := "PayChain$Payment", name := "demanded", desc := "(ILPayChain$Terminal;)I" } : MethodName) prog_6_method_13_code (3 : Nat) (Option.some FieldType.int)) ∈ bw_B := bw_3 (List.mem_of_getElem? (i := 64) rfl) rfl
set_option maxRecDepth 100000 in
theorem mw_545 : (Cond.methodLink "PayChain$Payment" (205 : Nat) ({ cls := "PayChain$Payment", name := "addNumber", desc := "(II)V" } : MethodName)) ∈ bw_B := bw_3 (List.mem_of_getElem? (i := 65) rfl) rfl
set_option maxRecDepth 100000 in
theorem mw_547 : (Cond.instanceMethod ({ cls := "PayChain$Payment", name := "addNumber", desc := "(II)V" } : MethodName)) ∈ bw_B := bw_3 (List.mem_of_getElem? (i := 67) rfl) rfl
set_option maxRecDepth 100000 in
theorem mw_548 : (Cond.code ({ cls := "PayChain$Payment", name := "addNumber", desc := "(II)V" } : MethodName) prog_6_method_14_code (4 : Nat) (Option.none : Option FieldType)) ∈ bw_B := bw_3 (List.mem_of_getElem? (i := 68) rfl) rfl
set_option maxRecDepth 100000 in
theorem mw_549 : (Cond.methodLink "PayChain$Payment" (209 : Nat) ({ cls := "PayChain$Row", name := "add", desc := "(I)Z" } : MethodName)) ∈ bw_B := bw_3 (List.mem_of_getElem? (i := 69) rfl) rfl
set_option maxRecDepth 100000 in
theorem mw_550 : (Cond.methodLink "PayChain$Payment" (84 : Nat) ({ cls := "PayChain$Card", name := "firstAnswer", desc := "(I)I" } : MethodName)) ∈ bw_B := bw_3 (List.mem_of_getElem? (i := 70) rfl) rfl
set_option maxRecDepth 100000 in
theorem mw_551 : (Cond.instanceMethod ({ cls := "PayChain$Card", name := "firstAnswer", desc := "(I)I" } : MethodName)) ∈ bw_B := bw_3 (List.mem_of_getElem? (i := 71) rfl) rfl
set_option maxRecDepth 100000 in
theorem mw_552 : (Cond.selects "PayChain$Card" ({ cls := "PayChain$Card", name := "firstAnswer", desc := "(I)I" } : MethodName) ({ cls := "PayChain$Card", name := "firstAnswer", desc := "(I)I" } : MethodName)) ∈ bw_B := bw_3 (List.mem_of_getElem? (i := 72) rfl) rfl
set_option maxRecDepth 100000 in
theorem mw_553 : (Cond.code ({ cls := "PayChain$Card", name := "firstAnswer", desc := "(I)I" } : MethodName) prog_2_method_11_code (2 : Nat) (Option.some FieldType.int)) ∈ bw_B := bw_3 (List.mem_of_getElem? (i := 73) rfl) rfl
set_option maxRecDepth 100000 in
theorem mw_554 : (Cond.methodLink "PayChain$Card" (105 : Nat) ({ cls := "PayChain$Card", name := "isBlocked", desc := "()Z" } : MethodName)) ∈ bw_B := bw_3 (List.mem_of_getElem? (i := 74) rfl) rfl
set_option maxRecDepth 100000 in
theorem mw_555 : (Cond.methodLink "PayChain$Card" (109 : Nat) ({ cls := "PayChain$Card", name := "isRunAtUpper", desc := "()Z" } : MethodName)) ∈ bw_B := bw_3 (List.mem_of_getElem? (i := 75) rfl) rfl
set_option maxRecDepth 100000 in
theorem mw_556 : (Cond.methodLink "PayChain$Payment" (93 : Nat) ({ cls := "PayChain$Mac", name := "cryptogram", desc := "(IIILPayChain$Row;)I" } : MethodName)) ∈ bw_B := bw_3 (List.mem_of_getElem? (i := 76) rfl) rfl
set_option maxRecDepth 100000 in
theorem mw_557 : (Cond.static ({ cls := "PayChain$Mac", name := "cryptogram", desc := "(IIILPayChain$Row;)I" } : MethodName)) ∈ bw_B := bw_3 (List.mem_of_getElem? (i := 77) rfl) rfl
set_option maxRecDepth 100000 in
theorem mw_558 : (Cond.code ({ cls := "PayChain$Mac", name := "cryptogram", desc := "(IIILPayChain$Row;)I" } : MethodName) prog_4_method_3_code (6 : Nat) (Option.some FieldType.int)) ∈ bw_B := bw_3 (List.mem_of_getElem? (i := 78) rfl) rfl
set_option maxRecDepth 100000 in
theorem mw_559 : (Cond.methodLink "PayChain$Mac" (12 : Nat) ({ cls := "PayChain$Mac", name := "grow", desc := "(II)I" } : MethodName)) ∈ bw_B := bw_3 (List.mem_of_getElem? (i := 79) rfl) rfl
set_option maxRecDepth 100000 in
theorem mw_560 : (Cond.static ({ cls := "PayChain$Mac", name := "grow", desc := "(II)I" } : MethodName)) ∈ bw_B := bw_3 (List.mem_of_getElem? (i := 80) rfl) rfl
set_option maxRecDepth 100000 in
theorem mw_561 : (Cond.code ({ cls := "PayChain$Mac", name := "grow", desc := "(II)I" } : MethodName) prog_4_method_2_code (3 : Nat) (Option.some FieldType.int)) ∈ bw_B := bw_3 (List.mem_of_getElem? (i := 81) rfl) rfl
set_option maxRecDepth 100000 in
theorem mw_562 : (Cond.constant "PayChain$Mac" (11 : Nat) (16777619 : Int32)) ∈ bw_B := bw_3 (List.mem_of_getElem? (i := 82) rfl) rfl
set_option maxRecDepth 100000 in
theorem mw_563 : (Cond.methodLink "PayChain$Mac" (16 : Nat) ({ cls := "PayChain$Row", name := "length", desc := "()I" } : MethodName)) ∈ bw_B := bw_3 (List.mem_of_getElem? (i := 83) rfl) rfl
set_option maxRecDepth 100000 in
theorem mw_564 : (Cond.methodLink "PayChain$Mac" (22 : Nat) ({ cls := "PayChain$Row", name := "at", desc := "(I)I" } : MethodName)) ∈ bw_B := bw_3 (List.mem_of_getElem? (i := 84) rfl) rfl
set_option maxRecDepth 100000 in
theorem mw_565 : (Cond.methodLink "PayChain$Payment" (102 : Nat) ({ cls := "PayChain$Payment", name := "askHost", desc := "(LPayChain$Card;LPayChain$Terminal;LPayChain$Host;)V" } : MethodName)) ∈ bw_B := bw_3 (List.mem_of_getElem? (i := 85) rfl) rfl
set_option maxRecDepth 100000 in
theorem mw_567 : (Cond.instanceMethod ({ cls := "PayChain$Payment", name := "askHost", desc := "(LPayChain$Card;LPayChain$Terminal;LPayChain$Host;)V" } : MethodName)) ∈ bw_B := bw_3 (List.mem_of_getElem? (i := 87) rfl) rfl
set_option maxRecDepth 100000 in
theorem mw_568 : (Cond.code ({ cls := "PayChain$Payment", name := "askHost", desc := "(LPayChain$Card;LPayChain$Terminal;LPayChain$Host;)V" } : MethodName) prog_6_method_15_code (4 : Nat) (Option.none : Option FieldType)) ∈ bw_B := bw_3 (List.mem_of_getElem? (i := 88) rfl) rfl
set_option maxRecDepth 100000 in
theorem mw_569 : (Cond.methodLink "PayChain$Payment" (215 : Nat) ({ cls := "PayChain$Host", name := "judge", desc := "(IILPayChain$Row;II)I" } : MethodName)) ∈ bw_B := bw_3 (List.mem_of_getElem? (i := 89) rfl) rfl
set_option maxRecDepth 100000 in
theorem mw_570 : (Cond.instanceMethod ({ cls := "PayChain$Host", name := "judge", desc := "(IILPayChain$Row;II)I" } : MethodName)) ∈ bw_B := bw_3 (List.mem_of_getElem? (i := 90) rfl) rfl
set_option maxRecDepth 100000 in
theorem mw_571 : (Cond.selects "PayChain$Host" ({ cls := "PayChain$Host", name := "judge", desc := "(IILPayChain$Row;II)I" } : MethodName) ({ cls := "PayChain$Host", name := "judge", desc := "(IILPayChain$Row;II)I" } : MethodName)) ∈ bw_B := bw_3 (List.mem_of_getElem? (i := 91) rfl) rfl
set_option maxRecDepth 100000 in
theorem mw_572 : (Cond.code ({ cls := "PayChain$Host", name := "judge", desc := "(IILPayChain$Row;II)I" } : MethodName) prog_3_method_5_code (6 : Nat) (Option.some FieldType.int)) ∈ bw_B := bw_3 (List.mem_of_getElem? (i := 92) rfl) rfl
set_option maxRecDepth 100000 in
theorem mw_573 : (Cond.methodLink "PayChain$Host" (32 : Nat) ({ cls := "PayChain$Mac", name := "cryptogram", desc := "(IIILPayChain$Row;)I" } : MethodName)) ∈ bw_B := bw_3 (List.mem_of_getElem? (i := 93) rfl) rfl
set_option maxRecDepth 100000 in
theorem mw_574 : (Cond.methodLink "PayChain$Payment" (221 : Nat) ({ cls := "PayChain$Payment", name := "hasReply", desc := "(LPayChain$Terminal;)Z" } : MethodName)) ∈ bw_B := bw_3 (List.mem_of_getElem? (i := 94) rfl) rfl
set_option maxRecDepth 100000 in
theorem mw_576 : (Cond.instanceMethod ({ cls := "PayChain$Payment", name := "hasReply", desc := "(LPayChain$Terminal;)Z" } : MethodName)) ∈ bw_B := bw_3 (List.mem_of_getElem? (i := 96) rfl) rfl
set_option maxRecDepth 100000 in
theorem mw_577 : (Cond.code ({ cls := "PayChain$Payment", name := "hasReply", desc := "(LPayChain$Terminal;)Z" } : MethodName) prog_6_method_16_code (2 : Nat) (Option.some FieldType.boolean)) ∈ bw_B := bw_3 (List.mem_of_getElem? (i := 97) rfl) rfl
set_option maxRecDepth 100000 in
theorem mw_578 : (Cond.methodLink "PayChain$Payment" (225 : Nat) ({ cls := "PayChain$Payment", name := "answerReply", desc := "(LPayChain$Card;LPayChain$Host;)I" } : MethodName)) ∈ bw_B := bw_3 (List.mem_of_getElem? (i := 98) rfl) rfl
set_option maxRecDepth 100000 in
theorem mw_580 : (Cond.instanceMethod ({ cls := "PayChain$Payment", name := "answerReply", desc := "(LPayChain$Card;LPayChain$Host;)I" } : MethodName)) ∈ bw_B := bw_3 (List.mem_of_getElem? (i := 100) rfl) rfl
set_option maxRecDepth 100000 in
theorem mw_581 : (Cond.code ({ cls := "PayChain$Payment", name := "answerReply", desc := "(LPayChain$Card;LPayChain$Host;)I" } : MethodName) prog_6_method_17_code (4 : Nat) (Option.some FieldType.int)) ∈ bw_B := bw_3 (List.mem_of_getElem? (i := 101) rfl) rfl
set_option maxRecDepth 100000 in
theorem mw_582 : (Cond.methodLink "PayChain$Payment" (232 : Nat) ({ cls := "PayChain$Host", name := "sealOf", desc := "(III)I" } : MethodName)) ∈ bw_B := bw_3 (List.mem_of_getElem? (i := 102) rfl) rfl
set_option maxRecDepth 100000 in
theorem mw_583 : (Cond.instanceMethod ({ cls := "PayChain$Host", name := "sealOf", desc := "(III)I" } : MethodName)) ∈ bw_B := bw_3 (List.mem_of_getElem? (i := 103) rfl) rfl
set_option maxRecDepth 100000 in
theorem mw_584 : (Cond.selects "PayChain$Host" ({ cls := "PayChain$Host", name := "sealOf", desc := "(III)I" } : MethodName) ({ cls := "PayChain$Host", name := "sealOf", desc := "(III)I" } : MethodName)) ∈ bw_B := bw_3 (List.mem_of_getElem? (i := 104) rfl) rfl
set_option maxRecDepth 100000 in
theorem mw_585 : (Cond.code ({ cls := "PayChain$Host", name := "sealOf", desc := "(III)I" } : MethodName) prog_3_method_6_code (4 : Nat) (Option.some FieldType.int)) ∈ bw_B := bw_3 (List.mem_of_getElem? (i := 105) rfl) rfl
set_option maxRecDepth 100000 in
theorem mw_586 : (Cond.methodLink "PayChain$Host" (42 : Nat) ({ cls := "PayChain$Mac", name := "seal", desc := "(III)I" } : MethodName)) ∈ bw_B := bw_3 (List.mem_of_getElem? (i := 106) rfl) rfl
set_option maxRecDepth 100000 in
theorem mw_587 : (Cond.static ({ cls := "PayChain$Mac", name := "seal", desc := "(III)I" } : MethodName)) ∈ bw_B := bw_3 (List.mem_of_getElem? (i := 107) rfl) rfl
set_option maxRecDepth 100000 in
theorem mw_588 : (Cond.code ({ cls := "PayChain$Mac", name := "seal", desc := "(III)I" } : MethodName) prog_4_method_4_code (5 : Nat) (Option.some FieldType.int)) ∈ bw_B := bw_3 (List.mem_of_getElem? (i := 108) rfl) rfl
set_option maxRecDepth 100000 in
theorem mw_589 : (Cond.methodLink "PayChain$Payment" (236 : Nat) ({ cls := "PayChain$Card", name := "acceptsReply", desc := "(III)Z" } : MethodName)) ∈ bw_B := bw_3 (List.mem_of_getElem? (i := 109) rfl) rfl
set_option maxRecDepth 100000 in
theorem mw_590 : (Cond.instanceMethod ({ cls := "PayChain$Card", name := "acceptsReply", desc := "(III)Z" } : MethodName)) ∈ bw_B := bw_3 (List.mem_of_getElem? (i := 110) rfl) rfl
set_option maxRecDepth 100000 in
theorem mw_591 : (Cond.selects "PayChain$Card" ({ cls := "PayChain$Card", name := "acceptsReply", desc := "(III)Z" } : MethodName) ({ cls := "PayChain$Card", name := "acceptsReply", desc := "(III)Z" } : MethodName)) ∈ bw_B := bw_3 (List.mem_of_getElem? (i := 111) rfl) rfl
set_option maxRecDepth 100000 in
theorem mw_592 : (Cond.code ({ cls := "PayChain$Card", name := "acceptsReply", desc := "(III)Z" } : MethodName) prog_2_method_12_code (4 : Nat) (Option.some FieldType.boolean)) ∈ bw_B := bw_3 (List.mem_of_getElem? (i := 112) rfl) rfl
set_option maxRecDepth 100000 in
theorem mw_593 : (Cond.methodLink "PayChain$Card" (112 : Nat) ({ cls := "PayChain$Mac", name := "seal", desc := "(III)I" } : MethodName)) ∈ bw_B := bw_3 (List.mem_of_getElem? (i := 113) rfl) rfl
set_option maxRecDepth 100000 in
theorem mw_594 : (Cond.methodLink "PayChain$Payment" (229 : Nat) ({ cls := "PayChain$Payment", name := "answerAlone", desc := "(LPayChain$Card;LPayChain$Terminal;)I" } : MethodName)) ∈ bw_B := bw_3 (List.mem_of_getElem? (i := 114) rfl) rfl
set_option maxRecDepth 100000 in
theorem mw_596 : (Cond.instanceMethod ({ cls := "PayChain$Payment", name := "answerAlone", desc := "(LPayChain$Card;LPayChain$Terminal;)I" } : MethodName)) ∈ bw_B := bw_3 (List.mem_of_getElem? (i := 116) rfl) rfl
set_option maxRecDepth 100000 in
theorem mw_597 : (Cond.code ({ cls := "PayChain$Payment", name := "answerAlone", desc := "(LPayChain$Card;LPayChain$Terminal;)I" } : MethodName) prog_6_method_18_code (3 : Nat) (Option.some FieldType.int)) ∈ bw_B := bw_3 (List.mem_of_getElem? (i := 117) rfl) rfl
set_option maxRecDepth 100000 in
theorem mw_598 : (Cond.methodLink "PayChain" (127 : Nat) ({ cls := "PayChain$Payment", name := "needsReversal", desc := "(LPayChain$Terminal;)Z" } : MethodName)) ∈ bw_B := bw_3 (List.mem_of_getElem? (i := 118) rfl) rfl
set_option maxRecDepth 100000 in
theorem mw_599 : (Cond.instanceMethod ({ cls := "PayChain$Payment", name := "needsReversal", desc := "(LPayChain$Terminal;)Z" } : MethodName)) ∈ bw_B := bw_3 (List.mem_of_getElem? (i := 119) rfl) rfl
set_option maxRecDepth 100000 in
theorem mw_600 : (Cond.selects "PayChain$Payment" ({ cls := "PayChain$Payment", name := "needsReversal", desc := "(LPayChain$Terminal;)Z" } : MethodName) ({ cls := "PayChain$Payment", name := "needsReversal", desc := "(LPayChain$Terminal;)Z" } : MethodName)) ∈ bw_B := bw_3 (List.mem_of_getElem? (i := 120) rfl) rfl
set_option maxRecDepth 100000 in
theorem mw_601 : (Cond.code ({ cls := "PayChain$Payment", name := "needsReversal", desc := "(LPayChain$Terminal;)Z" } : MethodName) prog_6_method_19_code (2 : Nat) (Option.some FieldType.boolean)) ∈ bw_B := bw_3 (List.mem_of_getElem? (i := 121) rfl) rfl
set_option maxRecDepth 100000 in
theorem mw_602 : (Cond.classLink "PayChain" (131 : Nat) "PayChain$Reversal") ∈ bw_B := bw_3 (List.mem_of_getElem? (i := 122) rfl) rfl
set_option maxRecDepth 100000 in
theorem mw_603 : (Cond.instantiable "PayChain$Reversal" (4 : Nat)) ∈ bw_B := bw_3 (List.mem_of_getElem? (i := 123) rfl) rfl
set_option maxRecDepth 100000 in
theorem mw_604 : (Cond.methodLink "PayChain" (136 : Nat) ({ cls := "PayChain$Reversal", name := "<init>", desc := "(LPayChain$Payment;I)V" } : MethodName)) ∈ bw_B := bw_3 (List.mem_of_getElem? (i := 124) rfl) rfl
set_option maxRecDepth 100000 in
theorem mw_605 : (Cond.instanceMethod ({ cls := "PayChain$Reversal", name := "<init>", desc := "(LPayChain$Payment;I)V" } : MethodName)) ∈ bw_B := bw_3 (List.mem_of_getElem? (i := 125) rfl) rfl
set_option maxRecDepth 100000 in
theorem mw_606 : (Cond.code ({ cls := "PayChain$Reversal", name := "<init>", desc := "(LPayChain$Payment;I)V" } : MethodName) prog_7_method_1_code (3 : Nat) (Option.none : Option FieldType)) ∈ bw_B := bw_3 (List.mem_of_getElem? (i := 126) rfl) rfl
set_option maxRecDepth 100000 in
theorem mw_607 : (Cond.methodLink "PayChain$Reversal" (1 : Nat) ({ cls := "java/lang/Object", name := "<init>", desc := "()V" } : MethodName)) ∈ bw_B := bw_3 (List.mem_of_getElem? (i := 127) rfl) rfl
set_option maxRecDepth 100000 in
theorem mw_608 : (Cond.fieldLink "PayChain$Reversal" (13 : Nat) "PayChain$Reversal" "number" "I") ∈ bw_B := bw_3 (List.mem_of_getElem? (i := 128) rfl) rfl
set_option maxRecDepth 100000 in
theorem mw_610 : (Cond.fieldLink "PayChain$Reversal" (16 : Nat) "PayChain$Reversal" "account" "I") ∈ bw_B := bw_3 (List.mem_of_getElem? (i := 130) rfl) rfl
set_option maxRecDepth 100000 in
theorem mw_612 : (Cond.fieldLink "PayChain$Reversal" (22 : Nat) "PayChain$Reversal" "amount" "I") ∈ bw_B := bw_3 (List.mem_of_getElem? (i := 132) rfl) rfl
set_option maxRecDepth 100000 in
theorem mw_614 : (Cond.fieldLink "PayChain$Reversal" (28 : Nat) "PayChain$Reversal" "isDue" "Z") ∈ bw_B := bw_3 (List.mem_of_getElem? (i := 134) rfl) rfl
set_option maxRecDepth 100000 in
theorem mw_616 : (Cond.laysFinal "PayChain$Reversal" "PayChain$Reversal" "number" "I") ∈ bw_B := bw_3 (List.mem_of_getElem? (i := 136) rfl) rfl
set_option maxRecDepth 100000 in
theorem mw_618 : (Cond.laysFinal "PayChain$Reversal" "PayChain$Reversal" "account" "I") ∈ bw_B := bw_3 (List.mem_of_getElem? (i := 138) rfl) rfl
set_option maxRecDepth 100000 in
theorem mw_620 : (Cond.laysFinal "PayChain$Reversal" "PayChain$Reversal" "amount" "I") ∈ bw_B := bw_3 (List.mem_of_getElem? (i := 140) rfl) rfl
set_option maxRecDepth 100000 in
theorem mw_622 : (Cond.lays "PayChain$Reversal" "PayChain$Reversal" "isDue" "Z") ∈ bw_B := bw_3 (List.mem_of_getElem? (i := 142) rfl) rfl
set_option maxRecDepth 100000 in
theorem mw_625 : (Cond.methodLink "PayChain" (139 : Nat) ({ cls := "java/util/ArrayList", name := "add", desc := "(Ljava/lang/Object;)Z" } : MethodName)) ∈ bw_B := bw_3 (List.mem_of_getElem? (i := 145) rfl) rfl
set_option maxRecDepth 100000 in
theorem mw_626 : (Cond.instanceMethod ({ cls := "java/util/ArrayList", name := "add", desc := "(Ljava/lang/Object;)Z" } : MethodName)) ∈ bw_B := bw_3 (List.mem_of_getElem? (i := 146) rfl) rfl
set_option maxRecDepth 100000 in
theorem mw_627 : (Cond.selects "java/util/ArrayList" ({ cls := "java/util/ArrayList", name := "add", desc := "(Ljava/lang/Object;)Z" } : MethodName) ({ cls := "java/util/ArrayList", name := "add", desc := "(Ljava/lang/Object;)Z" } : MethodName)) ∈ bw_B := bw_3 (List.mem_of_getElem? (i := 147) rfl) rfl
set_option maxRecDepth 100000 in
theorem mw_628 : (Cond.code ({ cls := "java/util/ArrayList", name := "add", desc := "(Ljava/lang/Object;)Z" } : MethodName) prog_20_method_25_code (2 : Nat) (Option.some FieldType.boolean)) ∈ bw_B := bw_3 (List.mem_of_getElem? (i := 148) rfl) rfl
set_option maxRecDepth 100000 in
theorem mw_629 : (Cond.methodLink "java/util/ArrayList" (131 : Nat) ({ cls := "java/util/ArrayList", name := "add", desc := "(Ljava/lang/Object;[Ljava/lang/Object;I)V" } : MethodName)) ∈ bw_B := bw_3 (List.mem_of_getElem? (i := 149) rfl) rfl
set_option maxRecDepth 100000 in
theorem mw_631 : (Cond.instanceMethod ({ cls := "java/util/ArrayList", name := "add", desc := "(Ljava/lang/Object;[Ljava/lang/Object;I)V" } : MethodName)) ∈ bw_B := bw_3 (List.mem_of_getElem? (i := 151) rfl) rfl
set_option maxRecDepth 100000 in
theorem mw_632 : (Cond.code ({ cls := "java/util/ArrayList", name := "add", desc := "(Ljava/lang/Object;[Ljava/lang/Object;I)V" } : MethodName) prog_20_method_24_code (4 : Nat) (Option.none : Option FieldType)) ∈ bw_B := bw_3 (List.mem_of_getElem? (i := 152) rfl) rfl
set_option maxRecDepth 100000 in
theorem mw_633 : (Cond.methodLink "java/util/ArrayList" (129 : Nat) ({ cls := "java/util/ArrayList", name := "grow", desc := "()[Ljava/lang/Object;" } : MethodName)) ∈ bw_B := bw_3 (List.mem_of_getElem? (i := 153) rfl) rfl
set_option maxRecDepth 100000 in
theorem mw_635 : (Cond.instanceMethod ({ cls := "java/util/ArrayList", name := "grow", desc := "()[Ljava/lang/Object;" } : MethodName)) ∈ bw_B := bw_3 (List.mem_of_getElem? (i := 155) rfl) rfl
set_option maxRecDepth 100000 in
theorem mw_636 : (Cond.code ({ cls := "java/util/ArrayList", name := "grow", desc := "()[Ljava/lang/Object;" } : MethodName) prog_20_method_7_code (1 : Nat) (Option.some (FieldType.array (FieldType.object "java/lang/Object")))) ∈ bw_B := bw_3 (List.mem_of_getElem? (i := 156) rfl) rfl
set_option maxRecDepth 100000 in
theorem mw_637 : (Cond.methodLink "java/util/ArrayList" (69 : Nat) ({ cls := "java/util/ArrayList", name := "grow", desc := "(I)[Ljava/lang/Object;" } : MethodName)) ∈ bw_B := bw_3 (List.mem_of_getElem? (i := 157) rfl) rfl
set_option maxRecDepth 100000 in
theorem mw_639 : (Cond.instanceMethod ({ cls := "java/util/ArrayList", name := "grow", desc := "(I)[Ljava/lang/Object;" } : MethodName)) ∈ bw_B := bw_3 (List.mem_of_getElem? (i := 159) rfl) rfl
set_option maxRecDepth 100000 in
theorem mw_640 : (Cond.code ({ cls := "java/util/ArrayList", name := "grow", desc := "(I)[Ljava/lang/Object;" } : MethodName) prog_20_method_6_code (4 : Nat) (Option.some (FieldType.array (FieldType.object "java/lang/Object")))) ∈ bw_B := bw_3 (List.mem_of_getElem? (i := 160) rfl) rfl
set_option maxRecDepth 100000 in
theorem mw_641 : (Cond.methodLink "java/util/ArrayList" (73 : Nat) ({ cls := "jdk/internal/util/ArraysSupport", name := "newLength", desc := "(III)I" } : MethodName)) ∈ bw_B := bw_3 (List.mem_of_getElem? (i := 161) rfl) rfl
set_option maxRecDepth 100000 in
theorem mw_642 : (Cond.static ({ cls := "jdk/internal/util/ArraysSupport", name := "newLength", desc := "(III)I" } : MethodName)) ∈ bw_B := bw_3 (List.mem_of_getElem? (i := 162) rfl) rfl
set_option maxRecDepth 100000 in
theorem mw_643 : (Cond.code ({ cls := "jdk/internal/util/ArraysSupport", name := "newLength", desc := "(III)I" } : MethodName) prog_27_method_27_code (4 : Nat) (Option.some FieldType.int)) ∈ bw_B := bw_3 (List.mem_of_getElem? (i := 163) rfl) rfl
set_option maxRecDepth 100000 in
theorem mw_644 : (Cond.methodLink "jdk/internal/util/ArraysSupport" (194 : Nat) ({ cls := "java/lang/Math", name := "max", desc := "(II)I" } : MethodName)) ∈ bw_B := bw_3 (List.mem_of_getElem? (i := 164) rfl) rfl
set_option maxRecDepth 100000 in
theorem mw_645 : (Cond.static ({ cls := "java/lang/Math", name := "max", desc := "(II)I" } : MethodName)) ∈ bw_B := bw_3 (List.mem_of_getElem? (i := 165) rfl) rfl
set_option maxRecDepth 100000 in
theorem mw_646 : (Cond.code ({ cls := "java/lang/Math", name := "max", desc := "(II)I" } : MethodName) prog_16_method_65_code (2 : Nat) (Option.some FieldType.int)) ∈ bw_B := bw_3 (List.mem_of_getElem? (i := 166) rfl) rfl
set_option maxRecDepth 100000 in
theorem mw_647 : (Cond.constant "jdk/internal/util/ArraysSupport" (200 : Nat) (2147483639 : Int32)) ∈ bw_B := bw_3 (List.mem_of_getElem? (i := 167) rfl) rfl
set_option maxRecDepth 100000 in
theorem mw_648 : (Cond.methodLink "jdk/internal/util/ArraysSupport" (201 : Nat) ({ cls := "jdk/internal/util/ArraysSupport", name := "hugeLength", desc := "(II)I" } : MethodName)) ∈ bw_B := bw_3 (List.mem_of_getElem? (i := 168) rfl) rfl
set_option maxRecDepth 100000 in
theorem mw_649 : (Cond.static ({ cls := "jdk/internal/util/ArraysSupport", name := "hugeLength", desc := "(II)I" } : MethodName)) ∈ bw_B := bw_3 (List.mem_of_getElem? (i := 169) rfl) rfl
set_option maxRecDepth 100000 in
theorem mw_650 : (Cond.code ({ cls := "jdk/internal/util/ArraysSupport", name := "hugeLength", desc := "(II)I" } : MethodName) prog_27_method_28_code (3 : Nat) (Option.some FieldType.int)) ∈ bw_B := bw_3 (List.mem_of_getElem? (i := 170) rfl) rfl
set_option maxRecDepth 100000 in
theorem mw_651 : (Cond.methodLink "java/util/ArrayList" (66 : Nat) ({ cls := "java/util/Arrays", name := "copyOf", desc := "([Ljava/lang/Object;I)[Ljava/lang/Object;" } : MethodName)) ∈ bw_B := bw_3 (List.mem_of_getElem? (i := 171) rfl) rfl
set_option maxRecDepth 100000 in
theorem mw_652 : (Cond.static ({ cls := "java/util/Arrays", name := "copyOf", desc := "([Ljava/lang/Object;I)[Ljava/lang/Object;" } : MethodName)) ∈ bw_B := bw_3 (List.mem_of_getElem? (i := 172) rfl) rfl
set_option maxRecDepth 100000 in
theorem mw_653 : (Cond.code ({ cls := "java/util/Arrays", name := "copyOf", desc := "([Ljava/lang/Object;I)[Ljava/lang/Object;" } : MethodName) prog_21_method_119_code (2 : Nat) (Option.some (FieldType.array (FieldType.object "java/lang/Object")))) ∈ bw_B := bw_3 (List.mem_of_getElem? (i := 173) rfl) rfl
set_option maxRecDepth 100000 in
theorem mw_654 : (Cond.methodLink "java/util/Arrays" (86 : Nat) ({ cls := "java/lang/Object", name := "getClass", desc := "()Ljava/lang/Class;" } : MethodName)) ∈ bw_B := bw_3 (List.mem_of_getElem? (i := 174) rfl) rfl
set_option maxRecDepth 100000 in
theorem mw_655 : (Cond.instanceMethod ({ cls := "java/lang/Object", name := "getClass", desc := "()Ljava/lang/Class;" } : MethodName)) ∈ bw_B := bw_3 (List.mem_of_getElem? (i := 175) rfl) rfl
set_option maxRecDepth 100000 in
theorem mw_657 : (Cond.selects "PayChain" ({ cls := "java/lang/Object", name := "getClass", desc := "()Ljava/lang/Class;" } : MethodName) ({ cls := "java/lang/Object", name := "getClass", desc := "()Ljava/lang/Class;" } : MethodName)) ∈ bw_B := bw_3 (List.mem_of_getElem? (i := 177) rfl) rfl
set_option maxRecDepth 100000 in
theorem mw_658 : (Cond.selects "PayChain$Card" ({ cls := "java/lang/Object", name := "getClass", desc := "()Ljava/lang/Class;" } : MethodName) ({ cls := "java/lang/Object", name := "getClass", desc := "()Ljava/lang/Class;" } : MethodName)) ∈ bw_B := bw_3 (List.mem_of_getElem? (i := 178) rfl) rfl
set_option maxRecDepth 100000 in
theorem mw_659 : (Cond.selects "PayChain$Host" ({ cls := "java/lang/Object", name := "getClass", desc := "()Ljava/lang/Class;" } : MethodName) ({ cls := "java/lang/Object", name := "getClass", desc := "()Ljava/lang/Class;" } : MethodName)) ∈ bw_B := bw_3 (List.mem_of_getElem? (i := 179) rfl) rfl
set_option maxRecDepth 100000 in
theorem mw_660 : (Cond.selects "PayChain$ObjectTree" ({ cls := "java/lang/Object", name := "getClass", desc := "()Ljava/lang/Class;" } : MethodName) ({ cls := "java/lang/Object", name := "getClass", desc := "()Ljava/lang/Class;" } : MethodName)) ∈ bw_B := bw_3 (List.mem_of_getElem? (i := 180) rfl) rfl
set_option maxRecDepth 100000 in
theorem mw_661 : (Cond.selects "PayChain$Payment" ({ cls := "java/lang/Object", name := "getClass", desc := "()Ljava/lang/Class;" } : MethodName) ({ cls := "java/lang/Object", name := "getClass", desc := "()Ljava/lang/Class;" } : MethodName)) ∈ bw_B := bw_3 (List.mem_of_getElem? (i := 181) rfl) rfl
set_option maxRecDepth 100000 in
theorem mw_662 : (Cond.selects "PayChain$Reversal" ({ cls := "java/lang/Object", name := "getClass", desc := "()Ljava/lang/Class;" } : MethodName) ({ cls := "java/lang/Object", name := "getClass", desc := "()Ljava/lang/Class;" } : MethodName)) ∈ bw_B := bw_3 (List.mem_of_getElem? (i := 182) rfl) rfl
set_option maxRecDepth 100000 in
theorem mw_663 : (Cond.selects "PayChain$Row" ({ cls := "java/lang/Object", name := "getClass", desc := "()Ljava/lang/Class;" } : MethodName) ({ cls := "java/lang/Object", name := "getClass", desc := "()Ljava/lang/Class;" } : MethodName)) ∈ bw_B := bw_3 (List.mem_of_getElem? (i := 183) rfl) rfl
set_option maxRecDepth 100000 in
theorem mw_664 : (Cond.selects "PayChain$Terminal" ({ cls := "java/lang/Object", name := "getClass", desc := "()Ljava/lang/Class;" } : MethodName) ({ cls := "java/lang/Object", name := "getClass", desc := "()Ljava/lang/Class;" } : MethodName)) ∈ bw_B := bw_3 (List.mem_of_getElem? (i := 184) rfl) rfl
set_option maxRecDepth 100000 in
theorem mw_665 : (Cond.selects "PayChainModel" ({ cls := "java/lang/Object", name := "getClass", desc := "()Ljava/lang/Class;" } : MethodName) ({ cls := "java/lang/Object", name := "getClass", desc := "()Ljava/lang/Class;" } : MethodName)) ∈ bw_B := bw_3 (List.mem_of_getElem? (i := 185) rfl) rfl
set_option maxRecDepth 100000 in
theorem mw_666 : (Cond.selects "java/util/ArrayList" ({ cls := "java/lang/Object", name := "getClass", desc := "()Ljava/lang/Class;" } : MethodName) ({ cls := "java/lang/Object", name := "getClass", desc := "()Ljava/lang/Class;" } : MethodName)) ∈ bw_B := bw_3 (List.mem_of_getElem? (i := 186) rfl) rfl
set_option maxRecDepth 100000 in
theorem mw_668 : (Cond.methodLink "java/util/Arrays" (300 : Nat) ({ cls := "java/util/Arrays", name := "copyOf", desc := "([Ljava/lang/Object;ILjava/lang/Class;)[Ljava/lang/Object;" } : MethodName)) ∈ bw_B := bw_3 (List.mem_of_getElem? (i := 188) rfl) rfl
set_option maxRecDepth 100000 in
theorem mw_669 : (Cond.static ({ cls := "java/util/Arrays", name := "copyOf", desc := "([Ljava/lang/Object;ILjava/lang/Class;)[Ljava/lang/Object;" } : MethodName)) ∈ bw_B := bw_3 (List.mem_of_getElem? (i := 189) rfl) rfl
set_option maxRecDepth 100000 in
theorem mw_670 : (Cond.code ({ cls := "java/util/Arrays", name := "copyOf", desc := "([Ljava/lang/Object;ILjava/lang/Class;)[Ljava/lang/Object;" } : MethodName) prog_21_method_120_code (4 : Nat) (Option.some (FieldType.array (FieldType.object "java/lang/Object")))) ∈ bw_B := bw_3 (List.mem_of_getElem? (i := 190) rfl) rfl
set_option maxRecDepth 100000 in
theorem mw_671 : (Cond.classLink "java/util/Arrays" (110 : Nat) "[Ljava/lang/Object;") ∈ bw_B := bw_3 (List.mem_of_getElem? (i := 191) rfl) rfl
set_option maxRecDepth 100000 in
theorem mw_673 : (Cond.classLink "java/util/Arrays" (2 : Nat) "java/lang/Object") ∈ bw_B := bw_3 (List.mem_of_getElem? (i := 193) rfl) rfl
set_option maxRecDepth 100000 in
theorem mw_674 : (Cond.methodLink "java/util/Arrays" (304 : Nat) ({ cls := "java/lang/Math", name := "min", desc := "(II)I" } : MethodName)) ∈ bw_B := bw_3 (List.mem_of_getElem? (i := 194) rfl) rfl
set_option maxRecDepth 100000 in
theorem mw_675 : (Cond.static ({ cls := "java/lang/Math", name := "min", desc := "(II)I" } : MethodName)) ∈ bw_B := bw_3 (List.mem_of_getElem? (i := 195) rfl) rfl
set_option maxRecDepth 100000 in
theorem mw_676 : (Cond.code ({ cls := "java/lang/Math", name := "min", desc := "(II)I" } : MethodName) prog_16_method_69_code (2 : Nat) (Option.some FieldType.int)) ∈ bw_B := bw_3 (List.mem_of_getElem? (i := 196) rfl) rfl
set_option maxRecDepth 100000 in
theorem mw_677 : (Cond.methodLink "java/util/Arrays" (150 : Nat) ({ cls := "java/lang/System", name := "arraycopy", desc := "(Ljava/lang/Object;ILjava/lang/Object;II)V" } : MethodName)) ∈ bw_B := bw_3 (List.mem_of_getElem? (i := 197) rfl) rfl
set_option maxRecDepth 100000 in
theorem mw_678 : (Cond.static ({ cls := "java/lang/System", name := "arraycopy", desc := "(Ljava/lang/Object;ILjava/lang/Object;II)V" } : MethodName)) ∈ bw_B := bw_3 (List.mem_of_getElem? (i := 198) rfl) rfl
set_option maxRecDepth 100000 in
theorem mw_680 : (Cond.methodLink "java/util/ArrayList" (79 : Nat) ({ cls := "java/lang/Math", name := "max", desc := "(II)I" } : MethodName)) ∈ bw_B := bw_3 (List.mem_of_getElem? (i := 200) rfl) rfl
set_option maxRecDepth 100000 in
theorem mw_681 : (Cond.classLink "java/util/ArrayList" (7 : Nat) "java/lang/Object") ∈ bw_B := bw_3 (List.mem_of_getElem? (i := 201) rfl) rfl
set_option maxRecDepth 100000 in
theorem mw_682 : (Cond.methodLink "PayChainLaw" (46 : Nat) ({ cls := "PayChain", name := "send", desc := "(I)I" } : MethodName)) ∈ bw_B := bw_3 (List.mem_of_getElem? (i := 202) rfl) rfl
set_option maxRecDepth 100000 in
theorem mw_683 : (Cond.instanceMethod ({ cls := "PayChain", name := "send", desc := "(I)I" } : MethodName)) ∈ bw_B := bw_3 (List.mem_of_getElem? (i := 203) rfl) rfl
set_option maxRecDepth 100000 in
theorem mw_684 : (Cond.selects "PayChain" ({ cls := "PayChain", name := "send", desc := "(I)I" } : MethodName) ({ cls := "PayChain", name := "send", desc := "(I)I" } : MethodName)) ∈ bw_B := bw_3 (List.mem_of_getElem? (i := 204) rfl) rfl
set_option maxRecDepth 100000 in
theorem mw_685 : (Cond.code ({ cls := "PayChain", name := "send", desc := "(I)I" } : MethodName) prog_1_method_9_code (2 : Nat) (Option.some FieldType.int)) ∈ bw_B := bw_3 (List.mem_of_getElem? (i := 205) rfl) rfl
set_option maxRecDepth 100000 in
theorem mw_686 : (Cond.methodLink "PayChain" (142 : Nat) ({ cls := "PayChain$Terminal", name := "isConnected", desc := "()Z" } : MethodName)) ∈ bw_B := bw_3 (List.mem_of_getElem? (i := 206) rfl) rfl
set_option maxRecDepth 100000 in
theorem mw_687 : (Cond.methodLink "PayChain" (146 : Nat) ({ cls := "java/util/ArrayList", name := "isEmpty", desc := "()Z" } : MethodName)) ∈ bw_B := bw_3 (List.mem_of_getElem? (i := 207) rfl) rfl
set_option maxRecDepth 100000 in
theorem mw_688 : (Cond.instanceMethod ({ cls := "java/util/ArrayList", name := "isEmpty", desc := "()Z" } : MethodName)) ∈ bw_B := bw_3 (List.mem_of_getElem? (i := 208) rfl) rfl
set_option maxRecDepth 100000 in
theorem mw_689 : (Cond.selects "java/util/ArrayList" ({ cls := "java/util/ArrayList", name := "isEmpty", desc := "()Z" } : MethodName) ({ cls := "java/util/ArrayList", name := "isEmpty", desc := "()Z" } : MethodName)) ∈ bw_B := bw_3 (List.mem_of_getElem? (i := 209) rfl) rfl
set_option maxRecDepth 100000 in
theorem mw_690 : (Cond.code ({ cls := "java/util/ArrayList", name := "isEmpty", desc := "()Z" } : MethodName) prog_20_method_9_code (1 : Nat) (Option.some FieldType.boolean)) ∈ bw_B := bw_3 (List.mem_of_getElem? (i := 210) rfl) rfl
set_option maxRecDepth 100000 in
theorem mw_691 : (Cond.methodLink "PayChain" (149 : Nat) ({ cls := "java/util/ArrayList", name := "get", desc := "(I)Ljava/lang/Object;" } : MethodName)) ∈ bw_B := bw_3 (List.mem_of_getElem? (i := 211) rfl) rfl
set_option maxRecDepth 100000 in
theorem mw_692 : (Cond.instanceMethod ({ cls := "java/util/ArrayList", name := "get", desc := "(I)Ljava/lang/Object;" } : MethodName)) ∈ bw_B := bw_3 (List.mem_of_getElem? (i := 212) rfl) rfl
set_option maxRecDepth 100000 in
theorem mw_693 : (Cond.selects "java/util/ArrayList" ({ cls := "java/util/ArrayList", name := "get", desc := "(I)Ljava/lang/Object;" } : MethodName) ({ cls := "java/util/ArrayList", name := "get", desc := "(I)Ljava/lang/Object;" } : MethodName)) ∈ bw_B := bw_3 (List.mem_of_getElem? (i := 213) rfl) rfl
set_option maxRecDepth 100000 in
theorem mw_694 : (Cond.code ({ cls := "java/util/ArrayList", name := "get", desc := "(I)Ljava/lang/Object;" } : MethodName) prog_20_method_20_code (2 : Nat) (Option.some (FieldType.object "java/lang/Object"))) ∈ bw_B := bw_3 (List.mem_of_getElem? (i := 214) rfl) rfl
set_option maxRecDepth 100000 in
theorem mw_695 : (Cond.methodLink "java/util/ArrayList" (118 : Nat) ({ cls := "java/util/Objects", name := "checkIndex", desc := "(II)I" } : MethodName)) ∈ bw_B := bw_3 (List.mem_of_getElem? (i := 215) rfl) rfl
set_option maxRecDepth 100000 in
theorem mw_696 : (Cond.static ({ cls := "java/util/Objects", name := "checkIndex", desc := "(II)I" } : MethodName)) ∈ bw_B := bw_3 (List.mem_of_getElem? (i := 216) rfl) rfl
set_option maxRecDepth 100000 in
theorem mw_697 : (Cond.code ({ cls := "java/util/Objects", name := "checkIndex", desc := "(II)I" } : MethodName) prog_24_method_17_code (2 : Nat) (Option.some FieldType.int)) ∈ bw_B := bw_3 (List.mem_of_getElem? (i := 217) rfl) rfl
set_option maxRecDepth 100000 in
theorem mw_698 : (Cond.methodLink "java/util/Objects" (105 : Nat) ({ cls := "jdk/internal/util/Preconditions", name := "checkIndex", desc := "(IILjava/util/function/BiFunction;)I" } : MethodName)) ∈ bw_B := bw_3 (List.mem_of_getElem? (i := 218) rfl) rfl
set_option maxRecDepth 100000 in
theorem mw_699 : (Cond.static ({ cls := "jdk/internal/util/Preconditions", name := "checkIndex", desc := "(IILjava/util/function/BiFunction;)I" } : MethodName)) ∈ bw_B := bw_3 (List.mem_of_getElem? (i := 219) rfl) rfl
set_option maxRecDepth 100000 in
theorem mw_700 : (Cond.code ({ cls := "jdk/internal/util/Preconditions", name := "checkIndex", desc := "(IILjava/util/function/BiFunction;)I" } : MethodName) prog_28_method_11_code (3 : Nat) (Option.some FieldType.int)) ∈ bw_B := bw_3 (List.mem_of_getElem? (i := 220) rfl) rfl
set_option maxRecDepth 100000 in
theorem mw_701 : (Cond.methodLink "java/util/ArrayList" (123 : Nat) ({ cls := "java/util/ArrayList", name := "elementData", desc := "(I)Ljava/lang/Object;" } : MethodName)) ∈ bw_B := bw_3 (List.mem_of_getElem? (i := 221) rfl) rfl
set_option maxRecDepth 100000 in
theorem mw_702 : (Cond.instanceMethod ({ cls := "java/util/ArrayList", name := "elementData", desc := "(I)Ljava/lang/Object;" } : MethodName)) ∈ bw_B := bw_3 (List.mem_of_getElem? (i := 222) rfl) rfl
set_option maxRecDepth 100000 in
theorem mw_703 : (Cond.selects "java/util/ArrayList" ({ cls := "java/util/ArrayList", name := "elementData", desc := "(I)Ljava/lang/Object;" } : MethodName) ({ cls := "java/util/ArrayList", name := "elementData", desc := "(I)Ljava/lang/Object;" } : MethodName)) ∈ bw_B := bw_3 (List.mem_of_getElem? (i := 223) rfl) rfl
set_option maxRecDepth 100000 in
theorem mw_704 : (Cond.code ({ cls := "java/util/ArrayList", name := "elementData", desc := "(I)Ljava/lang/Object;" } : MethodName) prog_20_method_18_code (2 : Nat) (Option.some (FieldType.object "java/lang/Object"))) ∈ bw_B := bw_3 (List.mem_of_getElem? (i := 224) rfl) rfl
set_option maxRecDepth 100000 in
theorem mw_705 : (Cond.methodLink "PayChain" (153 : Nat) ({ cls := "PayChain$Host", name := "reverse", desc := "(LPayChain$Reversal;)V" } : MethodName)) ∈ bw_B := bw_3 (List.mem_of_getElem? (i := 225) rfl) rfl
set_option maxRecDepth 100000 in
theorem mw_706 : (Cond.instanceMethod ({ cls := "PayChain$Host", name := "reverse", desc := "(LPayChain$Reversal;)V" } : MethodName)) ∈ bw_B := bw_3 (List.mem_of_getElem? (i := 226) rfl) rfl
set_option maxRecDepth 100000 in
theorem mw_707 : (Cond.selects "PayChain$Host" ({ cls := "PayChain$Host", name := "reverse", desc := "(LPayChain$Reversal;)V" } : MethodName) ({ cls := "PayChain$Host", name := "reverse", desc := "(LPayChain$Reversal;)V" } : MethodName)) ∈ bw_B := bw_3 (List.mem_of_getElem? (i := 227) rfl) rfl
set_option maxRecDepth 100000 in
theorem mw_708 : (Cond.code ({ cls := "PayChain$Host", name := "reverse", desc := "(LPayChain$Reversal;)V" } : MethodName) prog_3_method_7_code (2 : Nat) (Option.none : Option FieldType)) ∈ bw_B := bw_3 (List.mem_of_getElem? (i := 228) rfl) rfl
set_option maxRecDepth 100000 in
theorem mw_709 : (Cond.methodLink "PayChain" (157 : Nat) ({ cls := "java/util/ArrayList", name := "remove", desc := "(I)Ljava/lang/Object;" } : MethodName)) ∈ bw_B := bw_3 (List.mem_of_getElem? (i := 229) rfl) rfl
set_option maxRecDepth 100000 in
theorem mw_710 : (Cond.instanceMethod ({ cls := "java/util/ArrayList", name := "remove", desc := "(I)Ljava/lang/Object;" } : MethodName)) ∈ bw_B := bw_3 (List.mem_of_getElem? (i := 230) rfl) rfl
set_option maxRecDepth 100000 in
theorem mw_711 : (Cond.selects "java/util/ArrayList" ({ cls := "java/util/ArrayList", name := "remove", desc := "(I)Ljava/lang/Object;" } : MethodName) ({ cls := "java/util/ArrayList", name := "remove", desc := "(I)Ljava/lang/Object;" } : MethodName)) ∈ bw_B := bw_3 (List.mem_of_getElem? (i := 231) rfl) rfl
set_option maxRecDepth 100000 in
theorem mw_712 : (Cond.code ({ cls := "java/util/ArrayList", name := "remove", desc := "(I)Ljava/lang/Object;" } : MethodName) prog_20_method_29_code (4 : Nat) (Option.some (FieldType.object "java/lang/Object"))) ∈ bw_B := bw_3 (List.mem_of_getElem? (i := 232) rfl) rfl
set_option maxRecDepth 100000 in
theorem mw_713 : (Cond.methodLink "java/util/ArrayList" (144 : Nat) ({ cls := "java/util/ArrayList", name := "fastRemove", desc := "([Ljava/lang/Object;I)V" } : MethodName)) ∈ bw_B := bw_3 (List.mem_of_getElem? (i := 233) rfl) rfl
set_option maxRecDepth 100000 in
theorem mw_715 : (Cond.instanceMethod ({ cls := "java/util/ArrayList", name := "fastRemove", desc := "([Ljava/lang/Object;I)V" } : MethodName)) ∈ bw_B := bw_3 (List.mem_of_getElem? (i := 235) rfl) rfl
set_option maxRecDepth 100000 in
theorem mw_716 : (Cond.code ({ cls := "java/util/ArrayList", name := "fastRemove", desc := "([Ljava/lang/Object;I)V" } : MethodName) prog_20_method_39_code (4 : Nat) (Option.none : Option FieldType)) ∈ bw_B := bw_3 (List.mem_of_getElem? (i := 236) rfl) rfl
set_option maxRecDepth 100000 in
theorem mw_717 : (Cond.methodLink "java/util/ArrayList" (112 : Nat) ({ cls := "java/lang/System", name := "arraycopy", desc := "(Ljava/lang/Object;ILjava/lang/Object;II)V" } : MethodName)) ∈ bw_B := bw_3 (List.mem_of_getElem? (i := 237) rfl) rfl
set_option maxRecDepth 100000 in
theorem mw_718 : (Cond.methodLink "PayChainLaw" (50 : Nat) ({ cls := "PayChain", name := "last", desc := "(I)I" } : MethodName)) ∈ bw_B := bw_3 (List.mem_of_getElem? (i := 238) rfl) rfl
set_option maxRecDepth 100000 in
theorem mw_719 : (Cond.instanceMethod ({ cls := "PayChain", name := "last", desc := "(I)I" } : MethodName)) ∈ bw_B := bw_3 (List.mem_of_getElem? (i := 239) rfl) rfl
set_option maxRecDepth 100000 in
theorem mw_720 : (Cond.selects "PayChain" ({ cls := "PayChain", name := "last", desc := "(I)I" } : MethodName) ({ cls := "PayChain", name := "last", desc := "(I)I" } : MethodName)) ∈ bw_B := bw_4 (List.mem_of_getElem? (i := 0) rfl) rfl
set_option maxRecDepth 100000 in
theorem mw_721 : (Cond.code ({ cls := "PayChain", name := "last", desc := "(I)I" } : MethodName) prog_1_method_10_code (2 : Nat) (Option.some FieldType.int)) ∈ bw_B := bw_4 (List.mem_of_getElem? (i := 1) rfl) rfl
set_option maxRecDepth 100000 in
theorem mw_722 : (Cond.methodLink "PayChain" (160 : Nat) ({ cls := "PayChain$Payment", name := "tell", desc := "(I)I" } : MethodName)) ∈ bw_B := bw_4 (List.mem_of_getElem? (i := 2) rfl) rfl
set_option maxRecDepth 100000 in
theorem mw_723 : (Cond.instanceMethod ({ cls := "PayChain$Payment", name := "tell", desc := "(I)I" } : MethodName)) ∈ bw_B := bw_4 (List.mem_of_getElem? (i := 3) rfl) rfl
set_option maxRecDepth 100000 in
theorem mw_724 : (Cond.selects "PayChain$Payment" ({ cls := "PayChain$Payment", name := "tell", desc := "(I)I" } : MethodName) ({ cls := "PayChain$Payment", name := "tell", desc := "(I)I" } : MethodName)) ∈ bw_B := bw_4 (List.mem_of_getElem? (i := 4) rfl) rfl
set_option maxRecDepth 100000 in
theorem mw_725 : (Cond.code ({ cls := "PayChain$Payment", name := "tell", desc := "(I)I" } : MethodName) prog_6_method_20_code (2 : Nat) (Option.some FieldType.int)) ∈ bw_B := bw_4 (List.mem_of_getElem? (i := 5) rfl) rfl
set_option maxRecDepth 100000 in
theorem mw_726 : (Cond.methodLink "PayChainLaw" (54 : Nat) ({ cls := "PayChain", name := "data", desc := "(I)I" } : MethodName)) ∈ bw_B := bw_4 (List.mem_of_getElem? (i := 6) rfl) rfl
set_option maxRecDepth 100000 in
theorem mw_727 : (Cond.instanceMethod ({ cls := "PayChain", name := "data", desc := "(I)I" } : MethodName)) ∈ bw_B := bw_4 (List.mem_of_getElem? (i := 7) rfl) rfl
set_option maxRecDepth 100000 in
theorem mw_728 : (Cond.selects "PayChain" ({ cls := "PayChain", name := "data", desc := "(I)I" } : MethodName) ({ cls := "PayChain", name := "data", desc := "(I)I" } : MethodName)) ∈ bw_B := bw_4 (List.mem_of_getElem? (i := 8) rfl) rfl
set_option maxRecDepth 100000 in
theorem mw_729 : (Cond.code ({ cls := "PayChain", name := "data", desc := "(I)I" } : MethodName) prog_1_method_11_code (2 : Nat) (Option.some FieldType.int)) ∈ bw_B := bw_4 (List.mem_of_getElem? (i := 9) rfl) rfl
set_option maxRecDepth 100000 in
theorem mw_730 : (Cond.methodLink "PayChain" (167 : Nat) ({ cls := "PayChain$Row", name := "at", desc := "(I)I" } : MethodName)) ∈ bw_B := bw_4 (List.mem_of_getElem? (i := 10) rfl) rfl
set_option maxRecDepth 100000 in
theorem mw_731 : (Cond.methodLink "PayChain" (170 : Nat) ({ cls := "PayChain", name := "orRefused", desc := "(I)I" } : MethodName)) ∈ bw_B := bw_4 (List.mem_of_getElem? (i := 11) rfl) rfl
set_option maxRecDepth 100000 in
theorem mw_732 : (Cond.static ({ cls := "PayChain", name := "orRefused", desc := "(I)I" } : MethodName)) ∈ bw_B := bw_4 (List.mem_of_getElem? (i := 12) rfl) rfl
set_option maxRecDepth 100000 in
theorem mw_733 : (Cond.code ({ cls := "PayChain", name := "orRefused", desc := "(I)I" } : MethodName) prog_1_method_20_code (1 : Nat) (Option.some FieldType.int)) ∈ bw_B := bw_4 (List.mem_of_getElem? (i := 13) rfl) rfl
set_option maxRecDepth 100000 in
theorem mw_734 : (Cond.methodLink "PayChainLaw" (58 : Nat) ({ cls := "PayChain", name := "card", desc := "(II)I" } : MethodName)) ∈ bw_B := bw_4 (List.mem_of_getElem? (i := 14) rfl) rfl
set_option maxRecDepth 100000 in
theorem mw_735 : (Cond.instanceMethod ({ cls := "PayChain", name := "card", desc := "(II)I" } : MethodName)) ∈ bw_B := bw_4 (List.mem_of_getElem? (i := 15) rfl) rfl
set_option maxRecDepth 100000 in
theorem mw_736 : (Cond.selects "PayChain" ({ cls := "PayChain", name := "card", desc := "(II)I" } : MethodName) ({ cls := "PayChain", name := "card", desc := "(II)I" } : MethodName)) ∈ bw_B := bw_4 (List.mem_of_getElem? (i := 16) rfl) rfl
set_option maxRecDepth 100000 in
theorem mw_737 : (Cond.code ({ cls := "PayChain", name := "card", desc := "(II)I" } : MethodName) prog_1_method_12_code (4 : Nat) (Option.some FieldType.int)) ∈ bw_B := bw_4 (List.mem_of_getElem? (i := 17) rfl) rfl
set_option maxRecDepth 100000 in
theorem mw_738 : (Cond.methodLink "PayChain" (173 : Nat) ({ cls := "PayChain$Card", name := "tell", desc := "(I)I" } : MethodName)) ∈ bw_B := bw_4 (List.mem_of_getElem? (i := 18) rfl) rfl
set_option maxRecDepth 100000 in
theorem mw_739 : (Cond.instanceMethod ({ cls := "PayChain$Card", name := "tell", desc := "(I)I" } : MethodName)) ∈ bw_B := bw_4 (List.mem_of_getElem? (i := 19) rfl) rfl
set_option maxRecDepth 100000 in
theorem mw_740 : (Cond.selects "PayChain$Card" ({ cls := "PayChain$Card", name := "tell", desc := "(I)I" } : MethodName) ({ cls := "PayChain$Card", name := "tell", desc := "(I)I" } : MethodName)) ∈ bw_B := bw_4 (List.mem_of_getElem? (i := 20) rfl) rfl
set_option maxRecDepth 100000 in
theorem mw_741 : (Cond.code ({ cls := "PayChain$Card", name := "tell", desc := "(I)I" } : MethodName) prog_2_method_6_code (2 : Nat) (Option.some FieldType.int)) ∈ bw_B := bw_4 (List.mem_of_getElem? (i := 21) rfl) rfl
set_option maxRecDepth 100000 in
theorem mw_742 : (Cond.methodLink "PayChain$Card" (101 : Nat) ({ cls := "PayChain$ObjectTree", name := "size", desc := "()I" } : MethodName)) ∈ bw_B := bw_4 (List.mem_of_getElem? (i := 22) rfl) rfl
set_option maxRecDepth 100000 in
theorem mw_743 : (Cond.methodLink "PayChainLaw" (62 : Nat) ({ cls := "PayChain", name := "value", desc := "(III)I" } : MethodName)) ∈ bw_B := bw_4 (List.mem_of_getElem? (i := 23) rfl) rfl
set_option maxRecDepth 100000 in
theorem mw_744 : (Cond.instanceMethod ({ cls := "PayChain", name := "value", desc := "(III)I" } : MethodName)) ∈ bw_B := bw_4 (List.mem_of_getElem? (i := 24) rfl) rfl
set_option maxRecDepth 100000 in
theorem mw_745 : (Cond.selects "PayChain" ({ cls := "PayChain", name := "value", desc := "(III)I" } : MethodName) ({ cls := "PayChain", name := "value", desc := "(III)I" } : MethodName)) ∈ bw_B := bw_4 (List.mem_of_getElem? (i := 25) rfl) rfl
set_option maxRecDepth 100000 in
theorem mw_746 : (Cond.code ({ cls := "PayChain", name := "value", desc := "(III)I" } : MethodName) prog_1_method_13_code (5 : Nat) (Option.some FieldType.int)) ∈ bw_B := bw_4 (List.mem_of_getElem? (i := 26) rfl) rfl
set_option maxRecDepth 100000 in
theorem mw_747 : (Cond.methodLink "PayChain" (174 : Nat) ({ cls := "PayChain$ObjectTree", name := "first", desc := "(I)I" } : MethodName)) ∈ bw_B := bw_4 (List.mem_of_getElem? (i := 27) rfl) rfl
set_option maxRecDepth 100000 in
theorem mw_748 : (Cond.methodLink "PayChain" (177 : Nat) ({ cls := "PayChain$ObjectTree", name := "byteOf", desc := "(II)I" } : MethodName)) ∈ bw_B := bw_4 (List.mem_of_getElem? (i := 28) rfl) rfl
set_option maxRecDepth 100000 in
theorem mw_749 : (Cond.methodLink "PayChainLaw" (66 : Nat) ({ cls := "PayChain", name := "inside", desc := "(II)I" } : MethodName)) ∈ bw_B := bw_4 (List.mem_of_getElem? (i := 29) rfl) rfl
set_option maxRecDepth 100000 in
theorem mw_750 : (Cond.instanceMethod ({ cls := "PayChain", name := "inside", desc := "(II)I" } : MethodName)) ∈ bw_B := bw_4 (List.mem_of_getElem? (i := 30) rfl) rfl
set_option maxRecDepth 100000 in
theorem mw_751 : (Cond.selects "PayChain" ({ cls := "PayChain", name := "inside", desc := "(II)I" } : MethodName) ({ cls := "PayChain", name := "inside", desc := "(II)I" } : MethodName)) ∈ bw_B := bw_4 (List.mem_of_getElem? (i := 31) rfl) rfl
set_option maxRecDepth 100000 in
theorem mw_752 : (Cond.code ({ cls := "PayChain", name := "inside", desc := "(II)I" } : MethodName) prog_1_method_14_code (4 : Nat) (Option.some FieldType.int)) ∈ bw_B := bw_4 (List.mem_of_getElem? (i := 32) rfl) rfl
set_option maxRecDepth 100000 in
theorem mw_753 : (Cond.methodLink "PayChain" (181 : Nat) ({ cls := "PayChain$ObjectTree", name := "innerOf", desc := "(I)I" } : MethodName)) ∈ bw_B := bw_4 (List.mem_of_getElem? (i := 33) rfl) rfl
set_option maxRecDepth 100000 in
theorem mw_754 : (Cond.instanceMethod ({ cls := "PayChain$ObjectTree", name := "innerOf", desc := "(I)I" } : MethodName)) ∈ bw_B := bw_4 (List.mem_of_getElem? (i := 34) rfl) rfl
set_option maxRecDepth 100000 in
theorem mw_755 : (Cond.selects "PayChain$ObjectTree" ({ cls := "PayChain$ObjectTree", name := "innerOf", desc := "(I)I" } : MethodName) ({ cls := "PayChain$ObjectTree", name := "innerOf", desc := "(I)I" } : MethodName)) ∈ bw_B := bw_4 (List.mem_of_getElem? (i := 35) rfl) rfl
set_option maxRecDepth 100000 in
theorem mw_756 : (Cond.code ({ cls := "PayChain$ObjectTree", name := "innerOf", desc := "(I)I" } : MethodName) prog_5_method_10_code (2 : Nat) (Option.some FieldType.int)) ∈ bw_B := bw_4 (List.mem_of_getElem? (i := 36) rfl) rfl
set_option maxRecDepth 100000 in
theorem mw_757 : (Cond.methodLink "PayChainLaw" (70 : Nat) ({ cls := "PayChain", name := "balance", desc := "(I)J" } : MethodName)) ∈ bw_B := bw_4 (List.mem_of_getElem? (i := 37) rfl) rfl
set_option maxRecDepth 100000 in
theorem mw_758 : (Cond.instanceMethod ({ cls := "PayChain", name := "balance", desc := "(I)J" } : MethodName)) ∈ bw_B := bw_4 (List.mem_of_getElem? (i := 38) rfl) rfl
set_option maxRecDepth 100000 in
theorem mw_759 : (Cond.selects "PayChain" ({ cls := "PayChain", name := "balance", desc := "(I)J" } : MethodName) ({ cls := "PayChain", name := "balance", desc := "(I)J" } : MethodName)) ∈ bw_B := bw_4 (List.mem_of_getElem? (i := 39) rfl) rfl
set_option maxRecDepth 100000 in
theorem mw_760 : (Cond.code ({ cls := "PayChain", name := "balance", desc := "(I)J" } : MethodName) prog_1_method_15_code (2 : Nat) (Option.some FieldType.long)) ∈ bw_B := bw_4 (List.mem_of_getElem? (i := 40) rfl) rfl
set_option maxRecDepth 100000 in
theorem mw_761 : (Cond.methodLink "PayChain" (184 : Nat) ({ cls := "PayChain$Host", name := "balanceOf", desc := "(I)J" } : MethodName)) ∈ bw_B := bw_4 (List.mem_of_getElem? (i := 41) rfl) rfl
set_option maxRecDepth 100000 in
theorem mw_762 : (Cond.instanceMethod ({ cls := "PayChain$Host", name := "balanceOf", desc := "(I)J" } : MethodName)) ∈ bw_B := bw_4 (List.mem_of_getElem? (i := 42) rfl) rfl
set_option maxRecDepth 100000 in
theorem mw_763 : (Cond.selects "PayChain$Host" ({ cls := "PayChain$Host", name := "balanceOf", desc := "(I)J" } : MethodName) ({ cls := "PayChain$Host", name := "balanceOf", desc := "(I)J" } : MethodName)) ∈ bw_B := bw_4 (List.mem_of_getElem? (i := 43) rfl) rfl
set_option maxRecDepth 100000 in
theorem mw_764 : (Cond.code ({ cls := "PayChain$Host", name := "balanceOf", desc := "(I)J" } : MethodName) prog_3_method_4_code (2 : Nat) (Option.some FieldType.long)) ∈ bw_B := bw_4 (List.mem_of_getElem? (i := 44) rfl) rfl
set_option maxRecDepth 100000 in
theorem mw_765 : (Cond.constantLong "PayChain$Host" (30 : Nat) (-1 : Int64)) ∈ bw_B := bw_4 (List.mem_of_getElem? (i := 45) rfl) rfl
set_option maxRecDepth 100000 in
theorem mw_766 : (Cond.methodLink "PayChainLaw" (75 : Nat) ({ cls := "PayChain", name := "queued", desc := "(I)I" } : MethodName)) ∈ bw_B := bw_4 (List.mem_of_getElem? (i := 46) rfl) rfl
set_option maxRecDepth 100000 in
theorem mw_767 : (Cond.instanceMethod ({ cls := "PayChain", name := "queued", desc := "(I)I" } : MethodName)) ∈ bw_B := bw_4 (List.mem_of_getElem? (i := 47) rfl) rfl
set_option maxRecDepth 100000 in
theorem mw_768 : (Cond.selects "PayChain" ({ cls := "PayChain", name := "queued", desc := "(I)I" } : MethodName) ({ cls := "PayChain", name := "queued", desc := "(I)I" } : MethodName)) ∈ bw_B := bw_4 (List.mem_of_getElem? (i := 48) rfl) rfl
set_option maxRecDepth 100000 in
theorem mw_769 : (Cond.code ({ cls := "PayChain", name := "queued", desc := "(I)I" } : MethodName) prog_1_method_16_code (2 : Nat) (Option.some FieldType.int)) ∈ bw_B := bw_4 (List.mem_of_getElem? (i := 49) rfl) rfl
set_option maxRecDepth 100000 in
theorem mw_770 : (Cond.methodLink "PayChainLaw" (79 : Nat) ({ cls := "PayChain", name := "count", desc := "(I)I" } : MethodName)) ∈ bw_B := bw_4 (List.mem_of_getElem? (i := 50) rfl) rfl
set_option maxRecDepth 100000 in
theorem mw_771 : (Cond.instanceMethod ({ cls := "PayChain", name := "count", desc := "(I)I" } : MethodName)) ∈ bw_B := bw_4 (List.mem_of_getElem? (i := 51) rfl) rfl
set_option maxRecDepth 100000 in
theorem mw_772 : (Cond.selects "PayChain" ({ cls := "PayChain", name := "count", desc := "(I)I" } : MethodName) ({ cls := "PayChain", name := "count", desc := "(I)I" } : MethodName)) ∈ bw_B := bw_4 (List.mem_of_getElem? (i := 52) rfl) rfl
set_option maxRecDepth 100000 in
theorem mw_773 : (Cond.code ({ cls := "PayChain", name := "count", desc := "(I)I" } : MethodName) prog_1_method_17_code (2 : Nat) (Option.some FieldType.int)) ∈ bw_B := bw_4 (List.mem_of_getElem? (i := 53) rfl) rfl
set_option maxRecDepth 100000 in
theorem mw_774 : (Cond.classLink "PayChainLaw" (10 : Nat) "PayChainModel") ∈ bw_B := bw_4 (List.mem_of_getElem? (i := 54) rfl) rfl
set_option maxRecDepth 100000 in
theorem mw_775 : (Cond.instantiable "PayChainModel" (31 : Nat)) ∈ bw_B := bw_4 (List.mem_of_getElem? (i := 55) rfl) rfl
set_option maxRecDepth 100000 in
theorem mw_776 : (Cond.methodLink "PayChainLaw" (12 : Nat) ({ cls := "PayChainModel", name := "<init>", desc := "()V" } : MethodName)) ∈ bw_B := bw_4 (List.mem_of_getElem? (i := 56) rfl) rfl
set_option maxRecDepth 100000 in
theorem mw_777 : (Cond.instanceMethod ({ cls := "PayChainModel", name := "<init>", desc := "()V" } : MethodName)) ∈ bw_B := bw_4 (List.mem_of_getElem? (i := 57) rfl) rfl
set_option maxRecDepth 100000 in
theorem mw_778 : (Cond.code ({ cls := "PayChainModel", name := "<init>", desc := "()V" } : MethodName) prog_12_method_1_code (1 : Nat) (Option.none : Option FieldType)) ∈ bw_B := bw_4 (List.mem_of_getElem? (i := 58) rfl) rfl
set_option maxRecDepth 100000 in
theorem mw_779 : (Cond.methodLink "PayChainModel" (1 : Nat) ({ cls := "java/lang/Object", name := "<init>", desc := "()V" } : MethodName)) ∈ bw_B := bw_4 (List.mem_of_getElem? (i := 59) rfl) rfl
set_option maxRecDepth 100000 in
theorem mw_780 : (Cond.fieldLink "PayChainModel" (7 : Nat) "PayChainModel" "mem" "[I") ∈ bw_B := bw_4 (List.mem_of_getElem? (i := 60) rfl) rfl
set_option maxRecDepth 100000 in
theorem mw_781 : (Cond.fieldLink "PayChainModel" (13 : Nat) "PayChainModel" "size" "[I") ∈ bw_B := bw_4 (List.mem_of_getElem? (i := 61) rfl) rfl
set_option maxRecDepth 100000 in
theorem mw_782 : (Cond.fieldLink "PayChainModel" (16 : Nat) "PayChainModel" "there" "[Z") ∈ bw_B := bw_4 (List.mem_of_getElem? (i := 62) rfl) rfl
set_option maxRecDepth 100000 in
theorem mw_783 : (Cond.fieldLink "PayChainModel" (20 : Nat) "PayChainModel" "keys" "[I") ∈ bw_B := bw_4 (List.mem_of_getElem? (i := 63) rfl) rfl
set_option maxRecDepth 100000 in
theorem mw_784 : (Cond.fieldLink "PayChainModel" (23 : Nat) "PayChainModel" "pins" "[I") ∈ bw_B := bw_4 (List.mem_of_getElem? (i := 64) rfl) rfl
set_option maxRecDepth 100000 in
theorem mw_785 : (Cond.fieldLink "PayChainModel" (26 : Nat) "PayChainModel" "tries" "[I") ∈ bw_B := bw_4 (List.mem_of_getElem? (i := 65) rfl) rfl
set_option maxRecDepth 100000 in
theorem mw_786 : (Cond.fieldLink "PayChainModel" (29 : Nat) "PayChainModel" "counter" "[I") ∈ bw_B := bw_4 (List.mem_of_getElem? (i := 66) rfl) rfl
set_option maxRecDepth 100000 in
theorem mw_787 : (Cond.fieldLink "PayChainModel" (32 : Nat) "PayChainModel" "run" "[I") ∈ bw_B := bw_4 (List.mem_of_getElem? (i := 67) rfl) rfl
set_option maxRecDepth 100000 in
theorem mw_788 : (Cond.fieldLink "PayChainModel" (35 : Nat) "PayChainModel" "seen" "[Z") ∈ bw_B := bw_4 (List.mem_of_getElem? (i := 68) rfl) rfl
set_option maxRecDepth 100000 in
theorem mw_789 : (Cond.fieldLink "PayChainModel" (38 : Nat) "PayChainModel" "balance" "[I") ∈ bw_B := bw_4 (List.mem_of_getElem? (i := 69) rfl) rfl
set_option maxRecDepth 100000 in
theorem mw_790 : (Cond.fieldLink "PayChainModel" (41 : Nat) "PayChainModel" "accountKey" "[I") ∈ bw_B := bw_4 (List.mem_of_getElem? (i := 70) rfl) rfl
set_option maxRecDepth 100000 in
theorem mw_791 : (Cond.fieldLink "PayChainModel" (44 : Nat) "PayChainModel" "latest" "[I") ∈ bw_B := bw_4 (List.mem_of_getElem? (i := 71) rfl) rfl
set_option maxRecDepth 100000 in
theorem mw_792 : (Cond.fieldLink "PayChainModel" (47 : Nat) "PayChainModel" "setting" "[I") ∈ bw_B := bw_4 (List.mem_of_getElem? (i := 72) rfl) rfl
set_option maxRecDepth 100000 in
theorem mw_793 : (Cond.fieldLink "PayChainModel" (50 : Nat) "PayChainModel" "place" "I") ∈ bw_B := bw_4 (List.mem_of_getElem? (i := 73) rfl) rfl
set_option maxRecDepth 100000 in
theorem mw_794 : (Cond.fieldLink "PayChainModel" (75 : Nat) "PayChainModel" "from" "I") ∈ bw_B := bw_4 (List.mem_of_getElem? (i := 74) rfl) rfl
set_option maxRecDepth 100000 in
theorem mw_795 : (Cond.fieldLink "PayChainModel" (78 : Nat) "PayChainModel" "to" "I") ∈ bw_B := bw_4 (List.mem_of_getElem? (i := 75) rfl) rfl
set_option maxRecDepth 100000 in
theorem mw_796 : (Cond.fieldLink "PayChainModel" (81 : Nat) "PayChainModel" "inner" "I") ∈ bw_B := bw_4 (List.mem_of_getElem? (i := 76) rfl) rfl
set_option maxRecDepth 100000 in
theorem mw_797 : (Cond.fieldLink "PayChainModel" (87 : Nat) "PayChainModel" "badAt" "I") ∈ bw_B := bw_4 (List.mem_of_getElem? (i := 77) rfl) rfl
set_option maxRecDepth 100000 in
theorem mw_798 : (Cond.fieldLink "PayChainModel" (145 : Nat) "PayChainModel" "payments" "I") ∈ bw_B := bw_4 (List.mem_of_getElem? (i := 78) rfl) rfl
set_option maxRecDepth 100000 in
theorem mw_799 : (Cond.fieldLink "PayChainModel" (54 : Nat) "PayChainModel" "payAccount" "[I") ∈ bw_B := bw_4 (List.mem_of_getElem? (i := 79) rfl) rfl
set_option maxRecDepth 100000 in
theorem mw_800 : (Cond.fieldLink "PayChainModel" (57 : Nat) "PayChainModel" "payAmount" "[I") ∈ bw_B := bw_4 (List.mem_of_getElem? (i := 80) rfl) rfl
set_option maxRecDepth 100000 in
theorem mw_801 : (Cond.fieldLink "PayChainModel" (60 : Nat) "PayChainModel" "payCode" "[I") ∈ bw_B := bw_4 (List.mem_of_getElem? (i := 81) rfl) rfl
set_option maxRecDepth 100000 in
theorem mw_802 : (Cond.fieldLink "PayChainModel" (63 : Nat) "PayChainModel" "payBack" "[Z") ∈ bw_B := bw_4 (List.mem_of_getElem? (i := 82) rfl) rfl
set_option maxRecDepth 100000 in
theorem mw_803 : (Cond.fieldLink "PayChainModel" (177 : Nat) "PayChainModel" "approved" "I") ∈ bw_B := bw_4 (List.mem_of_getElem? (i := 83) rfl) rfl
set_option maxRecDepth 100000 in
theorem mw_804 : (Cond.fieldLink "PayChainModel" (66 : Nat) "PayChainModel" "queue" "[I") ∈ bw_B := bw_4 (List.mem_of_getElem? (i := 84) rfl) rfl
set_option maxRecDepth 100000 in
theorem mw_805 : (Cond.fieldLink "PayChainModel" (155 : Nat) "PayChainModel" "queued" "I") ∈ bw_B := bw_4 (List.mem_of_getElem? (i := 85) rfl) rfl
set_option maxRecDepth 100000 in
theorem mw_806 : (Cond.fieldLink "PayChainModel" (69 : Nat) "PayChainModel" "last" "[I") ∈ bw_B := bw_4 (List.mem_of_getElem? (i := 86) rfl) rfl
set_option maxRecDepth 100000 in
theorem mw_807 : (Cond.fieldLink "PayChainModel" (72 : Nat) "PayChainModel" "data" "[I") ∈ bw_B := bw_4 (List.mem_of_getElem? (i := 87) rfl) rfl
set_option maxRecDepth 100000 in
theorem mw_808 : (Cond.fieldLink "PayChainModel" (130 : Nat) "PayChainModel" "dataSize" "I") ∈ bw_B := bw_4 (List.mem_of_getElem? (i := 88) rfl) rfl
set_option maxRecDepth 100000 in
theorem mw_809 : (Cond.fieldLink "PayChainModel" (133 : Nat) "PayChainModel" "flags" "I") ∈ bw_B := bw_4 (List.mem_of_getElem? (i := 89) rfl) rfl
set_option maxRecDepth 100000 in
theorem mw_810 : (Cond.fieldLink "PayChainModel" (84 : Nat) "PayChainModel" "to4" "I") ∈ bw_B := bw_4 (List.mem_of_getElem? (i := 90) rfl) rfl
set_option maxRecDepth 100000 in
theorem mw_811 : (Cond.laysFinal "PayChainModel" "PayChainModel" "mem" "[I") ∈ bw_B := bw_4 (List.mem_of_getElem? (i := 91) rfl) rfl
set_option maxRecDepth 100000 in
theorem mw_813 : (Cond.laysFinal "PayChainModel" "PayChainModel" "size" "[I") ∈ bw_B := bw_4 (List.mem_of_getElem? (i := 93) rfl) rfl
set_option maxRecDepth 100000 in
theorem mw_815 : (Cond.laysFinal "PayChainModel" "PayChainModel" "there" "[Z") ∈ bw_B := bw_4 (List.mem_of_getElem? (i := 95) rfl) rfl
set_option maxRecDepth 100000 in
theorem mw_817 : (Cond.laysFinal "PayChainModel" "PayChainModel" "keys" "[I") ∈ bw_B := bw_4 (List.mem_of_getElem? (i := 97) rfl) rfl
set_option maxRecDepth 100000 in
theorem mw_819 : (Cond.laysFinal "PayChainModel" "PayChainModel" "pins" "[I") ∈ bw_B := bw_4 (List.mem_of_getElem? (i := 99) rfl) rfl
set_option maxRecDepth 100000 in
theorem mw_821 : (Cond.laysFinal "PayChainModel" "PayChainModel" "tries" "[I") ∈ bw_B := bw_4 (List.mem_of_getElem? (i := 101) rfl) rfl
set_option maxRecDepth 100000 in
theorem mw_823 : (Cond.laysFinal "PayChainModel" "PayChainModel" "counter" "[I") ∈ bw_B := bw_4 (List.mem_of_getElem? (i := 103) rfl) rfl
set_option maxRecDepth 100000 in
theorem mw_825 : (Cond.laysFinal "PayChainModel" "PayChainModel" "run" "[I") ∈ bw_B := bw_4 (List.mem_of_getElem? (i := 105) rfl) rfl
set_option maxRecDepth 100000 in
theorem mw_827 : (Cond.laysFinal "PayChainModel" "PayChainModel" "seen" "[Z") ∈ bw_B := bw_4 (List.mem_of_getElem? (i := 107) rfl) rfl
set_option maxRecDepth 100000 in
theorem mw_829 : (Cond.laysFinal "PayChainModel" "PayChainModel" "balance" "[I") ∈ bw_B := bw_4 (List.mem_of_getElem? (i := 109) rfl) rfl
set_option maxRecDepth 100000 in
theorem mw_831 : (Cond.laysFinal "PayChainModel" "PayChainModel" "accountKey" "[I") ∈ bw_B := bw_4 (List.mem_of_getElem? (i := 111) rfl) rfl
set_option maxRecDepth 100000 in
theorem mw_833 : (Cond.laysFinal "PayChainModel" "PayChainModel" "latest" "[I") ∈ bw_B := bw_4 (List.mem_of_getElem? (i := 113) rfl) rfl
set_option maxRecDepth 100000 in
theorem mw_835 : (Cond.laysFinal "PayChainModel" "PayChainModel" "setting" "[I") ∈ bw_B := bw_4 (List.mem_of_getElem? (i := 115) rfl) rfl
set_option maxRecDepth 100000 in
theorem mw_837 : (Cond.lays "PayChainModel" "PayChainModel" "place" "I") ∈ bw_B := bw_4 (List.mem_of_getElem? (i := 117) rfl) rfl
set_option maxRecDepth 100000 in
theorem mw_839 : (Cond.lays "PayChainModel" "PayChainModel" "from" "I") ∈ bw_B := bw_4 (List.mem_of_getElem? (i := 119) rfl) rfl
set_option maxRecDepth 100000 in
theorem mw_841 : (Cond.lays "PayChainModel" "PayChainModel" "to" "I") ∈ bw_B := bw_4 (List.mem_of_getElem? (i := 121) rfl) rfl
set_option maxRecDepth 100000 in
theorem mw_843 : (Cond.lays "PayChainModel" "PayChainModel" "inner" "I") ∈ bw_B := bw_4 (List.mem_of_getElem? (i := 123) rfl) rfl
set_option maxRecDepth 100000 in
theorem mw_845 : (Cond.lays "PayChainModel" "PayChainModel" "badAt" "I") ∈ bw_B := bw_4 (List.mem_of_getElem? (i := 125) rfl) rfl
set_option maxRecDepth 100000 in
theorem mw_847 : (Cond.lays "PayChainModel" "PayChainModel" "payments" "I") ∈ bw_B := bw_4 (List.mem_of_getElem? (i := 127) rfl) rfl
set_option maxRecDepth 100000 in
theorem mw_849 : (Cond.laysFinal "PayChainModel" "PayChainModel" "payAccount" "[I") ∈ bw_B := bw_4 (List.mem_of_getElem? (i := 129) rfl) rfl
set_option maxRecDepth 100000 in
theorem mw_851 : (Cond.laysFinal "PayChainModel" "PayChainModel" "payAmount" "[I") ∈ bw_B := bw_4 (List.mem_of_getElem? (i := 131) rfl) rfl
set_option maxRecDepth 100000 in
theorem mw_853 : (Cond.laysFinal "PayChainModel" "PayChainModel" "payCode" "[I") ∈ bw_B := bw_4 (List.mem_of_getElem? (i := 133) rfl) rfl
set_option maxRecDepth 100000 in
theorem mw_855 : (Cond.laysFinal "PayChainModel" "PayChainModel" "payBack" "[Z") ∈ bw_B := bw_4 (List.mem_of_getElem? (i := 135) rfl) rfl
set_option maxRecDepth 100000 in
theorem mw_857 : (Cond.lays "PayChainModel" "PayChainModel" "approved" "I") ∈ bw_B := bw_4 (List.mem_of_getElem? (i := 137) rfl) rfl
set_option maxRecDepth 100000 in
theorem mw_859 : (Cond.laysFinal "PayChainModel" "PayChainModel" "queue" "[I") ∈ bw_B := bw_4 (List.mem_of_getElem? (i := 139) rfl) rfl
set_option maxRecDepth 100000 in
theorem mw_861 : (Cond.lays "PayChainModel" "PayChainModel" "queued" "I") ∈ bw_B := bw_4 (List.mem_of_getElem? (i := 141) rfl) rfl
set_option maxRecDepth 100000 in
theorem mw_863 : (Cond.laysFinal "PayChainModel" "PayChainModel" "last" "[I") ∈ bw_B := bw_4 (List.mem_of_getElem? (i := 143) rfl) rfl
set_option maxRecDepth 100000 in
theorem mw_865 : (Cond.laysFinal "PayChainModel" "PayChainModel" "data" "[I") ∈ bw_B := bw_4 (List.mem_of_getElem? (i := 145) rfl) rfl
set_option maxRecDepth 100000 in
theorem mw_867 : (Cond.lays "PayChainModel" "PayChainModel" "dataSize" "I") ∈ bw_B := bw_4 (List.mem_of_getElem? (i := 147) rfl) rfl
set_option maxRecDepth 100000 in
theorem mw_869 : (Cond.lays "PayChainModel" "PayChainModel" "flags" "I") ∈ bw_B := bw_4 (List.mem_of_getElem? (i := 149) rfl) rfl
set_option maxRecDepth 100000 in
theorem mw_871 : (Cond.lays "PayChainModel" "PayChainModel" "to4" "I") ∈ bw_B := bw_4 (List.mem_of_getElem? (i := 151) rfl) rfl
set_option maxRecDepth 100000 in
theorem mw_874 : (Cond.arrayClass FieldType.boolean) ∈ bw_B := bw_4 (List.mem_of_getElem? (i := 154) rfl) rfl
set_option maxRecDepth 100000 in
theorem mw_875 : (Cond.methodLink "PayChainLaw" (17 : Nat) ({ cls := "PayChainModel", name := "feed", desc := "(I)I" } : MethodName)) ∈ bw_B := bw_4 (List.mem_of_getElem? (i := 155) rfl) rfl
set_option maxRecDepth 100000 in
theorem mw_876 : (Cond.instanceMethod ({ cls := "PayChainModel", name := "feed", desc := "(I)I" } : MethodName)) ∈ bw_B := bw_4 (List.mem_of_getElem? (i := 156) rfl) rfl
set_option maxRecDepth 100000 in
theorem mw_877 : (Cond.selects "PayChainModel" ({ cls := "PayChainModel", name := "feed", desc := "(I)I" } : MethodName) ({ cls := "PayChainModel", name := "feed", desc := "(I)I" } : MethodName)) ∈ bw_B := bw_4 (List.mem_of_getElem? (i := 157) rfl) rfl
set_option maxRecDepth 100000 in
theorem mw_878 : (Cond.code ({ cls := "PayChainModel", name := "feed", desc := "(I)I" } : MethodName) prog_12_method_8_code (2 : Nat) (Option.some FieldType.int)) ∈ bw_B := bw_4 (List.mem_of_getElem? (i := 158) rfl) rfl
set_option maxRecDepth 100000 in
theorem mw_879 : (Cond.methodLink "PayChainModel" (101 : Nat) ({ cls := "PayChainModel", name := "in", desc := "(III)Z" } : MethodName)) ∈ bw_B := bw_4 (List.mem_of_getElem? (i := 159) rfl) rfl
set_option maxRecDepth 100000 in
theorem mw_880 : (Cond.static ({ cls := "PayChainModel", name := "in", desc := "(III)Z" } : MethodName)) ∈ bw_B := bw_4 (List.mem_of_getElem? (i := 160) rfl) rfl
set_option maxRecDepth 100000 in
theorem mw_881 : (Cond.code ({ cls := "PayChainModel", name := "in", desc := "(III)Z" } : MethodName) prog_12_method_2_code (3 : Nat) (Option.some FieldType.boolean)) ∈ bw_B := bw_4 (List.mem_of_getElem? (i := 161) rfl) rfl
set_option maxRecDepth 100000 in
theorem mw_882 : (Cond.methodLink "PayChainLaw" (22 : Nat) ({ cls := "PayChainModel", name := "wipe", desc := "()I" } : MethodName)) ∈ bw_B := bw_4 (List.mem_of_getElem? (i := 162) rfl) rfl
set_option maxRecDepth 100000 in
theorem mw_883 : (Cond.instanceMethod ({ cls := "PayChainModel", name := "wipe", desc := "()I" } : MethodName)) ∈ bw_B := bw_4 (List.mem_of_getElem? (i := 163) rfl) rfl
set_option maxRecDepth 100000 in
theorem mw_884 : (Cond.selects "PayChainModel" ({ cls := "PayChainModel", name := "wipe", desc := "()I" } : MethodName) ({ cls := "PayChainModel", name := "wipe", desc := "()I" } : MethodName)) ∈ bw_B := bw_4 (List.mem_of_getElem? (i := 164) rfl) rfl
set_option maxRecDepth 100000 in
theorem mw_885 : (Cond.code ({ cls := "PayChainModel", name := "wipe", desc := "()I" } : MethodName) prog_12_method_9_code (2 : Nat) (Option.some FieldType.int)) ∈ bw_B := bw_4 (List.mem_of_getElem? (i := 165) rfl) rfl
set_option maxRecDepth 100000 in
theorem mw_886 : (Cond.methodLink "PayChainLaw" (27 : Nat) ({ cls := "PayChainModel", name := "make", desc := "(III)I" } : MethodName)) ∈ bw_B := bw_4 (List.mem_of_getElem? (i := 166) rfl) rfl
set_option maxRecDepth 100000 in
theorem mw_887 : (Cond.instanceMethod ({ cls := "PayChainModel", name := "make", desc := "(III)I" } : MethodName)) ∈ bw_B := bw_4 (List.mem_of_getElem? (i := 167) rfl) rfl
set_option maxRecDepth 100000 in
theorem mw_888 : (Cond.selects "PayChainModel" ({ cls := "PayChainModel", name := "make", desc := "(III)I" } : MethodName) ({ cls := "PayChainModel", name := "make", desc := "(III)I" } : MethodName)) ∈ bw_B := bw_4 (List.mem_of_getElem? (i := 168) rfl) rfl
set_option maxRecDepth 100000 in
theorem mw_889 : (Cond.code ({ cls := "PayChainModel", name := "make", desc := "(III)I" } : MethodName) prog_12_method_13_code (7 : Nat) (Option.some FieldType.int)) ∈ bw_B := bw_4 (List.mem_of_getElem? (i := 169) rfl) rfl
set_option maxRecDepth 100000 in
theorem mw_890 : (Cond.methodLink "PayChainModel" (94 : Nat) ({ cls := "PayChainModel", name := "walk", desc := "(II)I" } : MethodName)) ∈ bw_B := bw_4 (List.mem_of_getElem? (i := 170) rfl) rfl
set_option maxRecDepth 100000 in
theorem mw_892 : (Cond.instanceMethod ({ cls := "PayChainModel", name := "walk", desc := "(II)I" } : MethodName)) ∈ bw_B := bw_4 (List.mem_of_getElem? (i := 172) rfl) rfl
set_option maxRecDepth 100000 in
theorem mw_893 : (Cond.code ({ cls := "PayChainModel", name := "walk", desc := "(II)I" } : MethodName) prog_12_method_4_code (17 : Nat) (Option.some FieldType.int)) ∈ bw_B := bw_4 (List.mem_of_getElem? (i := 173) rfl) rfl
set_option maxRecDepth 100000 in
theorem mw_894 : (Cond.methodLink "PayChainModel" (90 : Nat) ({ cls := "PayChainModel", name := "at", desc := "(II)I" } : MethodName)) ∈ bw_B := bw_4 (List.mem_of_getElem? (i := 174) rfl) rfl
set_option maxRecDepth 100000 in
theorem mw_896 : (Cond.instanceMethod ({ cls := "PayChainModel", name := "at", desc := "(II)I" } : MethodName)) ∈ bw_B := bw_4 (List.mem_of_getElem? (i := 176) rfl) rfl
set_option maxRecDepth 100000 in
theorem mw_897 : (Cond.code ({ cls := "PayChainModel", name := "at", desc := "(II)I" } : MethodName) prog_12_method_3_code (3 : Nat) (Option.some FieldType.int)) ∈ bw_B := bw_4 (List.mem_of_getElem? (i := 177) rfl) rfl
set_option maxRecDepth 100000 in
theorem mw_898 : (Cond.methodLink "PayChainModel" (120 : Nat) ({ cls := "PayChainModel", name := "unfit", desc := "()I" } : MethodName)) ∈ bw_B := bw_4 (List.mem_of_getElem? (i := 178) rfl) rfl
set_option maxRecDepth 100000 in
theorem mw_900 : (Cond.instanceMethod ({ cls := "PayChainModel", name := "unfit", desc := "()I" } : MethodName)) ∈ bw_B := bw_4 (List.mem_of_getElem? (i := 180) rfl) rfl
set_option maxRecDepth 100000 in
theorem mw_901 : (Cond.code ({ cls := "PayChainModel", name := "unfit", desc := "()I" } : MethodName) prog_12_method_12_code (2 : Nat) (Option.some FieldType.int)) ∈ bw_B := bw_4 (List.mem_of_getElem? (i := 181) rfl) rfl
set_option maxRecDepth 100000 in
theorem mw_902 : (Cond.methodLink "PayChainModel" (97 : Nat) ({ cls := "PayChainModel", name := "has", desc := "(II)Z" } : MethodName)) ∈ bw_B := bw_4 (List.mem_of_getElem? (i := 182) rfl) rfl
set_option maxRecDepth 100000 in
theorem mw_904 : (Cond.instanceMethod ({ cls := "PayChainModel", name := "has", desc := "(II)Z" } : MethodName)) ∈ bw_B := bw_4 (List.mem_of_getElem? (i := 184) rfl) rfl
set_option maxRecDepth 100000 in
theorem mw_905 : (Cond.code ({ cls := "PayChainModel", name := "has", desc := "(II)Z" } : MethodName) prog_12_method_5_code (3 : Nat) (Option.some FieldType.boolean)) ∈ bw_B := bw_4 (List.mem_of_getElem? (i := 185) rfl) rfl
set_option maxRecDepth 100000 in
theorem mw_906 : (Cond.methodLink "PayChainModel" (105 : Nat) ({ cls := "PayChainModel", name := "bytes", desc := "()I" } : MethodName)) ∈ bw_B := bw_4 (List.mem_of_getElem? (i := 186) rfl) rfl
set_option maxRecDepth 100000 in
theorem mw_908 : (Cond.instanceMethod ({ cls := "PayChainModel", name := "bytes", desc := "()I" } : MethodName)) ∈ bw_B := bw_4 (List.mem_of_getElem? (i := 188) rfl) rfl
set_option maxRecDepth 100000 in
theorem mw_909 : (Cond.code ({ cls := "PayChainModel", name := "bytes", desc := "()I" } : MethodName) prog_12_method_6_code (1 : Nat) (Option.some FieldType.int)) ∈ bw_B := bw_4 (List.mem_of_getElem? (i := 189) rfl) rfl
set_option maxRecDepth 100000 in
theorem mw_910 : (Cond.methodLink "PayChainModel" (109 : Nat) ({ cls := "PayChainModel", name := "list", desc := "()Z" } : MethodName)) ∈ bw_B := bw_4 (List.mem_of_getElem? (i := 190) rfl) rfl
set_option maxRecDepth 100000 in
theorem mw_912 : (Cond.instanceMethod ({ cls := "PayChainModel", name := "list", desc := "()Z" } : MethodName)) ∈ bw_B := bw_4 (List.mem_of_getElem? (i := 192) rfl) rfl
set_option maxRecDepth 100000 in
theorem mw_913 : (Cond.code ({ cls := "PayChainModel", name := "list", desc := "()Z" } : MethodName) prog_12_method_11_code (4 : Nat) (Option.some FieldType.boolean)) ∈ bw_B := bw_4 (List.mem_of_getElem? (i := 193) rfl) rfl
set_option maxRecDepth 100000 in
theorem mw_914 : (Cond.constant "PayChainModel" (113 : Nat) (40717 : Int32)) ∈ bw_B := bw_4 (List.mem_of_getElem? (i := 194) rfl) rfl
set_option maxRecDepth 100000 in
theorem mw_915 : (Cond.constant "PayChainModel" (114 : Nat) (40719 : Int32)) ∈ bw_B := bw_4 (List.mem_of_getElem? (i := 195) rfl) rfl
set_option maxRecDepth 100000 in
theorem mw_916 : (Cond.methodLink "PayChainModel" (115 : Nat) ({ cls := "PayChainModel", name := "sized", desc := "(II)Z" } : MethodName)) ∈ bw_B := bw_4 (List.mem_of_getElem? (i := 196) rfl) rfl
set_option maxRecDepth 100000 in
theorem mw_918 : (Cond.instanceMethod ({ cls := "PayChainModel", name := "sized", desc := "(II)Z" } : MethodName)) ∈ bw_B := bw_4 (List.mem_of_getElem? (i := 198) rfl) rfl
set_option maxRecDepth 100000 in
theorem mw_919 : (Cond.code ({ cls := "PayChainModel", name := "sized", desc := "(II)Z" } : MethodName) prog_12_method_10_code (3 : Nat) (Option.some FieldType.boolean)) ∈ bw_B := bw_4 (List.mem_of_getElem? (i := 199) rfl) rfl
set_option maxRecDepth 100000 in
theorem mw_920 : (Cond.constant "PayChainModel" (118 : Nat) (40724 : Int32)) ∈ bw_B := bw_4 (List.mem_of_getElem? (i := 200) rfl) rfl
set_option maxRecDepth 100000 in
theorem mw_921 : (Cond.constant "PayChainModel" (119 : Nat) (40739 : Int32)) ∈ bw_B := bw_4 (List.mem_of_getElem? (i := 201) rfl) rfl
set_option maxRecDepth 100000 in
theorem mw_922 : (Cond.methodLink "PayChainLaw" (31 : Nat) ({ cls := "PayChainModel", name := "place", desc := "()I" } : MethodName)) ∈ bw_B := bw_4 (List.mem_of_getElem? (i := 202) rfl) rfl
set_option maxRecDepth 100000 in
theorem mw_923 : (Cond.instanceMethod ({ cls := "PayChainModel", name := "place", desc := "()I" } : MethodName)) ∈ bw_B := bw_4 (List.mem_of_getElem? (i := 203) rfl) rfl
set_option maxRecDepth 100000 in
theorem mw_924 : (Cond.selects "PayChainModel" ({ cls := "PayChainModel", name := "place", desc := "()I" } : MethodName) ({ cls := "PayChainModel", name := "place", desc := "()I" } : MethodName)) ∈ bw_B := bw_4 (List.mem_of_getElem? (i := 204) rfl) rfl
set_option maxRecDepth 100000 in
theorem mw_925 : (Cond.code ({ cls := "PayChainModel", name := "place", desc := "()I" } : MethodName) prog_12_method_14_code (1 : Nat) (Option.some FieldType.int)) ∈ bw_B := bw_4 (List.mem_of_getElem? (i := 205) rfl) rfl
set_option maxRecDepth 100000 in
theorem mw_926 : (Cond.methodLink "PayChainLaw" (35 : Nat) ({ cls := "PayChainModel", name := "account", desc := "(III)I" } : MethodName)) ∈ bw_B := bw_4 (List.mem_of_getElem? (i := 206) rfl) rfl
set_option maxRecDepth 100000 in
theorem mw_927 : (Cond.instanceMethod ({ cls := "PayChainModel", name := "account", desc := "(III)I" } : MethodName)) ∈ bw_B := bw_4 (List.mem_of_getElem? (i := 207) rfl) rfl
set_option maxRecDepth 100000 in
theorem mw_928 : (Cond.selects "PayChainModel" ({ cls := "PayChainModel", name := "account", desc := "(III)I" } : MethodName) ({ cls := "PayChainModel", name := "account", desc := "(III)I" } : MethodName)) ∈ bw_B := bw_4 (List.mem_of_getElem? (i := 208) rfl) rfl
set_option maxRecDepth 100000 in
theorem mw_929 : (Cond.code ({ cls := "PayChainModel", name := "account", desc := "(III)I" } : MethodName) prog_12_method_15_code (4 : Nat) (Option.some FieldType.int)) ∈ bw_B := bw_4 (List.mem_of_getElem? (i := 209) rfl) rfl
set_option maxRecDepth 100000 in
theorem mw_930 : (Cond.constant "PayChainModel" (123 : Nat) (9999999 : Int32)) ∈ bw_B := bw_4 (List.mem_of_getElem? (i := 210) rfl) rfl
set_option maxRecDepth 100000 in
theorem mw_931 : (Cond.methodLink "PayChainLaw" (40 : Nat) ({ cls := "PayChainModel", name := "setting", desc := "(II)I" } : MethodName)) ∈ bw_B := bw_4 (List.mem_of_getElem? (i := 211) rfl) rfl
set_option maxRecDepth 100000 in
theorem mw_932 : (Cond.instanceMethod ({ cls := "PayChainModel", name := "setting", desc := "(II)I" } : MethodName)) ∈ bw_B := bw_4 (List.mem_of_getElem? (i := 212) rfl) rfl
set_option maxRecDepth 100000 in
theorem mw_933 : (Cond.selects "PayChainModel" ({ cls := "PayChainModel", name := "setting", desc := "(II)I" } : MethodName) ({ cls := "PayChainModel", name := "setting", desc := "(II)I" } : MethodName)) ∈ bw_B := bw_4 (List.mem_of_getElem? (i := 213) rfl) rfl
set_option maxRecDepth 100000 in
theorem mw_934 : (Cond.code ({ cls := "PayChainModel", name := "setting", desc := "(II)I" } : MethodName) prog_12_method_16_code (3 : Nat) (Option.some FieldType.int)) ∈ bw_B := bw_4 (List.mem_of_getElem? (i := 214) rfl) rfl
set_option maxRecDepth 100000 in
theorem mw_935 : (Cond.constant "PayChainModel" (124 : Nat) (999999 : Int32)) ∈ bw_B := bw_4 (List.mem_of_getElem? (i := 215) rfl) rfl
set_option maxRecDepth 100000 in
theorem mw_936 : (Cond.constant "PayChainModel" (125 : Nat) (65535 : Int32)) ∈ bw_B := bw_4 (List.mem_of_getElem? (i := 216) rfl) rfl
set_option maxRecDepth 100000 in
theorem mw_937 : (Cond.methodLink "PayChainLaw" (45 : Nat) ({ cls := "PayChainModel", name := "pay", desc := "(IIII)I" } : MethodName)) ∈ bw_B := bw_4 (List.mem_of_getElem? (i := 217) rfl) rfl
set_option maxRecDepth 100000 in
theorem mw_938 : (Cond.instanceMethod ({ cls := "PayChainModel", name := "pay", desc := "(IIII)I" } : MethodName)) ∈ bw_B := bw_4 (List.mem_of_getElem? (i := 218) rfl) rfl
set_option maxRecDepth 100000 in
theorem mw_939 : (Cond.selects "PayChainModel" ({ cls := "PayChainModel", name := "pay", desc := "(IIII)I" } : MethodName) ({ cls := "PayChainModel", name := "pay", desc := "(IIII)I" } : MethodName)) ∈ bw_B := bw_4 (List.mem_of_getElem? (i := 219) rfl) rfl
set_option maxRecDepth 100000 in
theorem mw_940 : (Cond.code ({ cls := "PayChainModel", name := "pay", desc := "(IIII)I" } : MethodName) prog_12_method_27_code (10 : Nat) (Option.some FieldType.int)) ∈ bw_B := bw_4 (List.mem_of_getElem? (i := 220) rfl) rfl
set_option maxRecDepth 100000 in
theorem mw_941 : (Cond.methodLink "PayChainModel" (139 : Nat) ({ cls := "PayChainModel", name := "number", desc := "(III)I" } : MethodName)) ∈ bw_B := bw_4 (List.mem_of_getElem? (i := 221) rfl) rfl
set_option maxRecDepth 100000 in
theorem mw_943 : (Cond.instanceMethod ({ cls := "PayChainModel", name := "number", desc := "(III)I" } : MethodName)) ∈ bw_B := bw_4 (List.mem_of_getElem? (i := 223) rfl) rfl
set_option maxRecDepth 100000 in
theorem mw_944 : (Cond.code ({ cls := "PayChainModel", name := "number", desc := "(III)I" } : MethodName) prog_12_method_7_code (6 : Nat) (Option.some FieldType.int)) ∈ bw_B := bw_4 (List.mem_of_getElem? (i := 224) rfl) rfl
set_option maxRecDepth 100000 in
theorem mw_945 : (Cond.methodLink "PayChainModel" (158 : Nat) ({ cls := "PayChainModel", name := "holder", desc := "(III)V" } : MethodName)) ∈ bw_B := bw_4 (List.mem_of_getElem? (i := 225) rfl) rfl
set_option maxRecDepth 100000 in
theorem mw_947 : (Cond.instanceMethod ({ cls := "PayChainModel", name := "holder", desc := "(III)V" } : MethodName)) ∈ bw_B := bw_4 (List.mem_of_getElem? (i := 227) rfl) rfl
set_option maxRecDepth 100000 in
theorem mw_948 : (Cond.code ({ cls := "PayChainModel", name := "holder", desc := "(III)V" } : MethodName) prog_12_method_21_code (10 : Nat) (Option.none : Option FieldType)) ∈ bw_B := bw_4 (List.mem_of_getElem? (i := 228) rfl) rfl
set_option maxRecDepth 100000 in
theorem mw_949 : (Cond.methodLink "PayChainModel" (136 : Nat) ({ cls := "PayChainModel", name := "pin", desc := "(II)Z" } : MethodName)) ∈ bw_B := bw_4 (List.mem_of_getElem? (i := 229) rfl) rfl
set_option maxRecDepth 100000 in
theorem mw_951 : (Cond.instanceMethod ({ cls := "PayChainModel", name := "pin", desc := "(II)Z" } : MethodName)) ∈ bw_B := bw_4 (List.mem_of_getElem? (i := 231) rfl) rfl
set_option maxRecDepth 100000 in
theorem mw_952 : (Cond.code ({ cls := "PayChainModel", name := "pin", desc := "(II)Z" } : MethodName) prog_12_method_20_code (3 : Nat) (Option.some FieldType.boolean)) ∈ bw_B := bw_4 (List.mem_of_getElem? (i := 232) rfl) rfl
set_option maxRecDepth 100000 in
theorem mw_953 : (Cond.methodLink "PayChainModel" (162 : Nat) ({ cls := "PayChainModel", name := "wish", desc := "(I)I" } : MethodName)) ∈ bw_B := bw_4 (List.mem_of_getElem? (i := 233) rfl) rfl
set_option maxRecDepth 100000 in
theorem mw_955 : (Cond.instanceMethod ({ cls := "PayChainModel", name := "wish", desc := "(I)I" } : MethodName)) ∈ bw_B := bw_4 (List.mem_of_getElem? (i := 235) rfl) rfl
set_option maxRecDepth 100000 in
theorem mw_956 : (Cond.code ({ cls := "PayChainModel", name := "wish", desc := "(I)I" } : MethodName) prog_12_method_24_code (2 : Nat) (Option.some FieldType.int)) ∈ bw_B := bw_4 (List.mem_of_getElem? (i := 236) rfl) rfl
set_option maxRecDepth 100000 in
theorem mw_957 : (Cond.constant "PayChainModel" (148 : Nat) (40718 : Int32)) ∈ bw_B := bw_4 (List.mem_of_getElem? (i := 237) rfl) rfl
set_option maxRecDepth 100000 in
theorem mw_958 : (Cond.methodLink "PayChainModel" (149 : Nat) ({ cls := "PayChainModel", name := "mask", desc := "(III)I" } : MethodName)) ∈ bw_B := bw_4 (List.mem_of_getElem? (i := 238) rfl) rfl
set_option maxRecDepth 100000 in
theorem mw_960 : (Cond.instanceMethod ({ cls := "PayChainModel", name := "mask", desc := "(III)I" } : MethodName)) ∈ bw_B := bw_5 (List.mem_of_getElem? (i := 0) rfl) rfl
set_option maxRecDepth 100000 in
theorem mw_961 : (Cond.code ({ cls := "PayChainModel", name := "mask", desc := "(III)I" } : MethodName) prog_12_method_22_code (4 : Nat) (Option.some FieldType.int)) ∈ bw_B := bw_5 (List.mem_of_getElem? (i := 1) rfl) rfl
set_option maxRecDepth 100000 in
theorem mw_962 : (Cond.methodLink "PayChainModel" (166 : Nat) ({ cls := "PayChainModel", name := "gather", desc := "(II)V" } : MethodName)) ∈ bw_B := bw_5 (List.mem_of_getElem? (i := 2) rfl) rfl
set_option maxRecDepth 100000 in
theorem mw_964 : (Cond.instanceMethod ({ cls := "PayChainModel", name := "gather", desc := "(II)V" } : MethodName)) ∈ bw_B := bw_5 (List.mem_of_getElem? (i := 4) rfl) rfl
set_option maxRecDepth 100000 in
theorem mw_965 : (Cond.code ({ cls := "PayChainModel", name := "gather", desc := "(II)V" } : MethodName) prog_12_method_23_code (9 : Nat) (Option.none : Option FieldType)) ∈ bw_B := bw_5 (List.mem_of_getElem? (i := 5) rfl) rfl
set_option maxRecDepth 100000 in
theorem mw_966 : (Cond.constant "PayChainModel" (143 : Nat) (40706 : Int32)) ∈ bw_B := bw_5 (List.mem_of_getElem? (i := 6) rfl) rfl
set_option maxRecDepth 100000 in
theorem mw_967 : (Cond.constant "PayChainModel" (144 : Nat) (40759 : Int32)) ∈ bw_B := bw_5 (List.mem_of_getElem? (i := 7) rfl) rfl
set_option maxRecDepth 100000 in
theorem mw_968 : (Cond.methodLink "PayChainModel" (170 : Nat) ({ cls := "PayChainModel", name := "over", desc := "(I)Z" } : MethodName)) ∈ bw_B := bw_5 (List.mem_of_getElem? (i := 8) rfl) rfl
set_option maxRecDepth 100000 in
theorem mw_970 : (Cond.instanceMethod ({ cls := "PayChainModel", name := "over", desc := "(I)Z" } : MethodName)) ∈ bw_B := bw_5 (List.mem_of_getElem? (i := 10) rfl) rfl
set_option maxRecDepth 100000 in
theorem mw_971 : (Cond.code ({ cls := "PayChainModel", name := "over", desc := "(I)Z" } : MethodName) prog_12_method_25_code (3 : Nat) (Option.some FieldType.boolean)) ∈ bw_B := bw_5 (List.mem_of_getElem? (i := 11) rfl) rfl
set_option maxRecDepth 100000 in
theorem mw_972 : (Cond.methodLink "PayChainModel" (152 : Nat) ({ cls := "PayChainModel", name := "cryptogram", desc := "(III)I" } : MethodName)) ∈ bw_B := bw_5 (List.mem_of_getElem? (i := 12) rfl) rfl
set_option maxRecDepth 100000 in
theorem mw_974 : (Cond.instanceMethod ({ cls := "PayChainModel", name := "cryptogram", desc := "(III)I" } : MethodName)) ∈ bw_B := bw_5 (List.mem_of_getElem? (i := 14) rfl) rfl
set_option maxRecDepth 100000 in
theorem mw_975 : (Cond.code ({ cls := "PayChainModel", name := "cryptogram", desc := "(III)I" } : MethodName) prog_12_method_18_code (6 : Nat) (Option.some FieldType.int)) ∈ bw_B := bw_5 (List.mem_of_getElem? (i := 15) rfl) rfl
set_option maxRecDepth 100000 in
theorem mw_976 : (Cond.methodLink "PayChainModel" (127 : Nat) ({ cls := "PayChainModel", name := "stir", desc := "(II)I" } : MethodName)) ∈ bw_B := bw_5 (List.mem_of_getElem? (i := 16) rfl) rfl
set_option maxRecDepth 100000 in
theorem mw_977 : (Cond.static ({ cls := "PayChainModel", name := "stir", desc := "(II)I" } : MethodName)) ∈ bw_B := bw_5 (List.mem_of_getElem? (i := 17) rfl) rfl
set_option maxRecDepth 100000 in
theorem mw_978 : (Cond.code ({ cls := "PayChainModel", name := "stir", desc := "(II)I" } : MethodName) prog_12_method_17_code (3 : Nat) (Option.some FieldType.int)) ∈ bw_B := bw_5 (List.mem_of_getElem? (i := 18) rfl) rfl
set_option maxRecDepth 100000 in
theorem mw_979 : (Cond.constant "PayChainModel" (126 : Nat) (16777619 : Int32)) ∈ bw_B := bw_5 (List.mem_of_getElem? (i := 19) rfl) rfl
set_option maxRecDepth 100000 in
theorem mw_980 : (Cond.methodLink "PayChainModel" (174 : Nat) ({ cls := "PayChainModel", name := "online", desc := "(III)I" } : MethodName)) ∈ bw_B := bw_5 (List.mem_of_getElem? (i := 20) rfl) rfl
set_option maxRecDepth 100000 in
theorem mw_982 : (Cond.instanceMethod ({ cls := "PayChainModel", name := "online", desc := "(III)I" } : MethodName)) ∈ bw_B := bw_5 (List.mem_of_getElem? (i := 22) rfl) rfl
set_option maxRecDepth 100000 in
theorem mw_983 : (Cond.code ({ cls := "PayChainModel", name := "online", desc := "(III)I" } : MethodName) prog_12_method_28_code (8 : Nat) (Option.some FieldType.int)) ∈ bw_B := bw_5 (List.mem_of_getElem? (i := 23) rfl) rfl
set_option maxRecDepth 100000 in
theorem mw_984 : (Cond.methodLink "PayChainModel" (180 : Nat) ({ cls := "PayChainModel", name := "host", desc := "(III)I" } : MethodName)) ∈ bw_B := bw_5 (List.mem_of_getElem? (i := 24) rfl) rfl
set_option maxRecDepth 100000 in
theorem mw_986 : (Cond.instanceMethod ({ cls := "PayChainModel", name := "host", desc := "(III)I" } : MethodName)) ∈ bw_B := bw_5 (List.mem_of_getElem? (i := 26) rfl) rfl
set_option maxRecDepth 100000 in
theorem mw_987 : (Cond.code ({ cls := "PayChainModel", name := "host", desc := "(III)I" } : MethodName) prog_12_method_26_code (5 : Nat) (Option.some FieldType.int)) ∈ bw_B := bw_5 (List.mem_of_getElem? (i := 27) rfl) rfl
set_option maxRecDepth 100000 in
theorem mw_988 : (Cond.methodLink "PayChainModel" (183 : Nat) ({ cls := "PayChainModel", name := "replied", desc := "(I)I" } : MethodName)) ∈ bw_B := bw_5 (List.mem_of_getElem? (i := 28) rfl) rfl
set_option maxRecDepth 100000 in
theorem mw_990 : (Cond.instanceMethod ({ cls := "PayChainModel", name := "replied", desc := "(I)I" } : MethodName)) ∈ bw_B := bw_5 (List.mem_of_getElem? (i := 30) rfl) rfl
set_option maxRecDepth 100000 in
theorem mw_991 : (Cond.code ({ cls := "PayChainModel", name := "replied", desc := "(I)I" } : MethodName) prog_12_method_30_code (3 : Nat) (Option.some FieldType.int)) ∈ bw_B := bw_5 (List.mem_of_getElem? (i := 31) rfl) rfl
set_option maxRecDepth 100000 in
theorem mw_992 : (Cond.methodLink "PayChainModel" (189 : Nat) ({ cls := "PayChainModel", name := "seal", desc := "(III)I" } : MethodName)) ∈ bw_B := bw_5 (List.mem_of_getElem? (i := 32) rfl) rfl
set_option maxRecDepth 100000 in
theorem mw_993 : (Cond.static ({ cls := "PayChainModel", name := "seal", desc := "(III)I" } : MethodName)) ∈ bw_B := bw_5 (List.mem_of_getElem? (i := 33) rfl) rfl
set_option maxRecDepth 100000 in
theorem mw_994 : (Cond.code ({ cls := "PayChainModel", name := "seal", desc := "(III)I" } : MethodName) prog_12_method_19_code (5 : Nat) (Option.some FieldType.int)) ∈ bw_B := bw_5 (List.mem_of_getElem? (i := 34) rfl) rfl
set_option maxRecDepth 100000 in
theorem mw_995 : (Cond.methodLink "PayChainModel" (186 : Nat) ({ cls := "PayChainModel", name := "alone", desc := "(I)I" } : MethodName)) ∈ bw_B := bw_5 (List.mem_of_getElem? (i := 35) rfl) rfl
set_option maxRecDepth 100000 in
theorem mw_997 : (Cond.instanceMethod ({ cls := "PayChainModel", name := "alone", desc := "(I)I" } : MethodName)) ∈ bw_B := bw_5 (List.mem_of_getElem? (i := 37) rfl) rfl
set_option maxRecDepth 100000 in
theorem mw_998 : (Cond.code ({ cls := "PayChainModel", name := "alone", desc := "(I)I" } : MethodName) prog_12_method_29_code (2 : Nat) (Option.some FieldType.int)) ∈ bw_B := bw_5 (List.mem_of_getElem? (i := 38) rfl) rfl
set_option maxRecDepth 100000 in
theorem mw_999 : (Cond.methodLink "PayChainLaw" (49 : Nat) ({ cls := "PayChainModel", name := "send", desc := "(I)I" } : MethodName)) ∈ bw_B := bw_5 (List.mem_of_getElem? (i := 39) rfl) rfl
set_option maxRecDepth 100000 in
theorem mw_1000 : (Cond.instanceMethod ({ cls := "PayChainModel", name := "send", desc := "(I)I" } : MethodName)) ∈ bw_B := bw_5 (List.mem_of_getElem? (i := 40) rfl) rfl
set_option maxRecDepth 100000 in
theorem mw_1001 : (Cond.selects "PayChainModel" ({ cls := "PayChainModel", name := "send", desc := "(I)I" } : MethodName) ({ cls := "PayChainModel", name := "send", desc := "(I)I" } : MethodName)) ∈ bw_B := bw_5 (List.mem_of_getElem? (i := 41) rfl) rfl
set_option maxRecDepth 100000 in
theorem mw_1002 : (Cond.code ({ cls := "PayChainModel", name := "send", desc := "(I)I" } : MethodName) prog_12_method_31_code (4 : Nat) (Option.some FieldType.int)) ∈ bw_B := bw_5 (List.mem_of_getElem? (i := 42) rfl) rfl
set_option maxRecDepth 100000 in
theorem mw_1003 : (Cond.methodLink "PayChainLaw" (53 : Nat) ({ cls := "PayChainModel", name := "last", desc := "(I)I" } : MethodName)) ∈ bw_B := bw_5 (List.mem_of_getElem? (i := 43) rfl) rfl
set_option maxRecDepth 100000 in
theorem mw_1004 : (Cond.instanceMethod ({ cls := "PayChainModel", name := "last", desc := "(I)I" } : MethodName)) ∈ bw_B := bw_5 (List.mem_of_getElem? (i := 44) rfl) rfl
set_option maxRecDepth 100000 in
theorem mw_1005 : (Cond.selects "PayChainModel" ({ cls := "PayChainModel", name := "last", desc := "(I)I" } : MethodName) ({ cls := "PayChainModel", name := "last", desc := "(I)I" } : MethodName)) ∈ bw_B := bw_5 (List.mem_of_getElem? (i := 45) rfl) rfl
set_option maxRecDepth 100000 in
theorem mw_1006 : (Cond.code ({ cls := "PayChainModel", name := "last", desc := "(I)I" } : MethodName) prog_12_method_32_code (2 : Nat) (Option.some FieldType.int)) ∈ bw_B := bw_5 (List.mem_of_getElem? (i := 46) rfl) rfl
set_option maxRecDepth 100000 in
theorem mw_1007 : (Cond.methodLink "PayChainLaw" (57 : Nat) ({ cls := "PayChainModel", name := "data", desc := "(I)I" } : MethodName)) ∈ bw_B := bw_5 (List.mem_of_getElem? (i := 47) rfl) rfl
set_option maxRecDepth 100000 in
theorem mw_1008 : (Cond.instanceMethod ({ cls := "PayChainModel", name := "data", desc := "(I)I" } : MethodName)) ∈ bw_B := bw_5 (List.mem_of_getElem? (i := 48) rfl) rfl
set_option maxRecDepth 100000 in
theorem mw_1009 : (Cond.selects "PayChainModel" ({ cls := "PayChainModel", name := "data", desc := "(I)I" } : MethodName) ({ cls := "PayChainModel", name := "data", desc := "(I)I" } : MethodName)) ∈ bw_B := bw_5 (List.mem_of_getElem? (i := 49) rfl) rfl
set_option maxRecDepth 100000 in
theorem mw_1010 : (Cond.code ({ cls := "PayChainModel", name := "data", desc := "(I)I" } : MethodName) prog_12_method_33_code (2 : Nat) (Option.some FieldType.int)) ∈ bw_B := bw_5 (List.mem_of_getElem? (i := 50) rfl) rfl
set_option maxRecDepth 100000 in
theorem mw_1011 : (Cond.methodLink "PayChainLaw" (61 : Nat) ({ cls := "PayChainModel", name := "card", desc := "(II)I" } : MethodName)) ∈ bw_B := bw_5 (List.mem_of_getElem? (i := 51) rfl) rfl
set_option maxRecDepth 100000 in
theorem mw_1012 : (Cond.instanceMethod ({ cls := "PayChainModel", name := "card", desc := "(II)I" } : MethodName)) ∈ bw_B := bw_5 (List.mem_of_getElem? (i := 52) rfl) rfl
set_option maxRecDepth 100000 in
theorem mw_1013 : (Cond.selects "PayChainModel" ({ cls := "PayChainModel", name := "card", desc := "(II)I" } : MethodName) ({ cls := "PayChainModel", name := "card", desc := "(II)I" } : MethodName)) ∈ bw_B := bw_5 (List.mem_of_getElem? (i := 53) rfl) rfl
set_option maxRecDepth 100000 in
theorem mw_1014 : (Cond.code ({ cls := "PayChainModel", name := "card", desc := "(II)I" } : MethodName) prog_12_method_34_code (3 : Nat) (Option.some FieldType.int)) ∈ bw_B := bw_5 (List.mem_of_getElem? (i := 54) rfl) rfl
set_option maxRecDepth 100000 in
theorem mw_1015 : (Cond.methodLink "PayChainLaw" (65 : Nat) ({ cls := "PayChainModel", name := "value", desc := "(III)I" } : MethodName)) ∈ bw_B := bw_5 (List.mem_of_getElem? (i := 55) rfl) rfl
set_option maxRecDepth 100000 in
theorem mw_1016 : (Cond.instanceMethod ({ cls := "PayChainModel", name := "value", desc := "(III)I" } : MethodName)) ∈ bw_B := bw_5 (List.mem_of_getElem? (i := 56) rfl) rfl
set_option maxRecDepth 100000 in
theorem mw_1017 : (Cond.selects "PayChainModel" ({ cls := "PayChainModel", name := "value", desc := "(III)I" } : MethodName) ({ cls := "PayChainModel", name := "value", desc := "(III)I" } : MethodName)) ∈ bw_B := bw_5 (List.mem_of_getElem? (i := 57) rfl) rfl
set_option maxRecDepth 100000 in
theorem mw_1018 : (Cond.code ({ cls := "PayChainModel", name := "value", desc := "(III)I" } : MethodName) prog_12_method_35_code (4 : Nat) (Option.some FieldType.int)) ∈ bw_B := bw_5 (List.mem_of_getElem? (i := 58) rfl) rfl
set_option maxRecDepth 100000 in
theorem mw_1019 : (Cond.methodLink "PayChainLaw" (69 : Nat) ({ cls := "PayChainModel", name := "inside", desc := "(II)I" } : MethodName)) ∈ bw_B := bw_5 (List.mem_of_getElem? (i := 59) rfl) rfl
set_option maxRecDepth 100000 in
theorem mw_1020 : (Cond.instanceMethod ({ cls := "PayChainModel", name := "inside", desc := "(II)I" } : MethodName)) ∈ bw_B := bw_5 (List.mem_of_getElem? (i := 60) rfl) rfl
set_option maxRecDepth 100000 in
theorem mw_1021 : (Cond.selects "PayChainModel" ({ cls := "PayChainModel", name := "inside", desc := "(II)I" } : MethodName) ({ cls := "PayChainModel", name := "inside", desc := "(II)I" } : MethodName)) ∈ bw_B := bw_5 (List.mem_of_getElem? (i := 61) rfl) rfl
set_option maxRecDepth 100000 in
theorem mw_1022 : (Cond.code ({ cls := "PayChainModel", name := "inside", desc := "(II)I" } : MethodName) prog_12_method_36_code (3 : Nat) (Option.some FieldType.int)) ∈ bw_B := bw_5 (List.mem_of_getElem? (i := 62) rfl) rfl
set_option maxRecDepth 100000 in
theorem mw_1023 : (Cond.methodLink "PayChainLaw" (74 : Nat) ({ cls := "PayChainModel", name := "balance", desc := "(I)J" } : MethodName)) ∈ bw_B := bw_5 (List.mem_of_getElem? (i := 63) rfl) rfl
set_option maxRecDepth 100000 in
theorem mw_1024 : (Cond.instanceMethod ({ cls := "PayChainModel", name := "balance", desc := "(I)J" } : MethodName)) ∈ bw_B := bw_5 (List.mem_of_getElem? (i := 64) rfl) rfl
set_option maxRecDepth 100000 in
theorem mw_1025 : (Cond.selects "PayChainModel" ({ cls := "PayChainModel", name := "balance", desc := "(I)J" } : MethodName) ({ cls := "PayChainModel", name := "balance", desc := "(I)J" } : MethodName)) ∈ bw_B := bw_5 (List.mem_of_getElem? (i := 65) rfl) rfl
set_option maxRecDepth 100000 in
theorem mw_1026 : (Cond.code ({ cls := "PayChainModel", name := "balance", desc := "(I)J" } : MethodName) prog_12_method_37_code (2 : Nat) (Option.some FieldType.long)) ∈ bw_B := bw_5 (List.mem_of_getElem? (i := 66) rfl) rfl
set_option maxRecDepth 100000 in
theorem mw_1027 : (Cond.constantLong "PayChainModel" (192 : Nat) (-1 : Int64)) ∈ bw_B := bw_5 (List.mem_of_getElem? (i := 67) rfl) rfl
set_option maxRecDepth 100000 in
theorem mw_1028 : (Cond.methodLink "PayChainLaw" (78 : Nat) ({ cls := "PayChainModel", name := "queued", desc := "(I)I" } : MethodName)) ∈ bw_B := bw_5 (List.mem_of_getElem? (i := 68) rfl) rfl
set_option maxRecDepth 100000 in
theorem mw_1029 : (Cond.instanceMethod ({ cls := "PayChainModel", name := "queued", desc := "(I)I" } : MethodName)) ∈ bw_B := bw_5 (List.mem_of_getElem? (i := 69) rfl) rfl
set_option maxRecDepth 100000 in
theorem mw_1030 : (Cond.selects "PayChainModel" ({ cls := "PayChainModel", name := "queued", desc := "(I)I" } : MethodName) ({ cls := "PayChainModel", name := "queued", desc := "(I)I" } : MethodName)) ∈ bw_B := bw_5 (List.mem_of_getElem? (i := 70) rfl) rfl
set_option maxRecDepth 100000 in
theorem mw_1031 : (Cond.code ({ cls := "PayChainModel", name := "queued", desc := "(I)I" } : MethodName) prog_12_method_38_code (2 : Nat) (Option.some FieldType.int)) ∈ bw_B := bw_5 (List.mem_of_getElem? (i := 71) rfl) rfl
set_option maxRecDepth 100000 in
theorem mw_1032 : (Cond.methodLink "PayChainLaw" (82 : Nat) ({ cls := "PayChainModel", name := "count", desc := "(I)I" } : MethodName)) ∈ bw_B := bw_5 (List.mem_of_getElem? (i := 72) rfl) rfl
set_option maxRecDepth 100000 in
theorem mw_1033 : (Cond.instanceMethod ({ cls := "PayChainModel", name := "count", desc := "(I)I" } : MethodName)) ∈ bw_B := bw_5 (List.mem_of_getElem? (i := 73) rfl) rfl
set_option maxRecDepth 100000 in
theorem mw_1034 : (Cond.selects "PayChainModel" ({ cls := "PayChainModel", name := "count", desc := "(I)I" } : MethodName) ({ cls := "PayChainModel", name := "count", desc := "(I)I" } : MethodName)) ∈ bw_B := bw_5 (List.mem_of_getElem? (i := 74) rfl) rfl
set_option maxRecDepth 100000 in
theorem mw_1035 : (Cond.code ({ cls := "PayChainModel", name := "count", desc := "(I)I" } : MethodName) prog_12_method_39_code (4 : Nat) (Option.some FieldType.int)) ∈ bw_B := bw_5 (List.mem_of_getElem? (i := 75) rfl) rfl
set_option maxRecDepth 100000 in
theorem mw_1038 : (Cond.selects "[Ljava/lang/Object;" ({ cls := "java/lang/Object", name := "getClass", desc := "()Ljava/lang/Class;" } : MethodName) ({ cls := "java/lang/Object", name := "getClass", desc := "()Ljava/lang/Class;" } : MethodName)) ∈ bw_B := bw_5 (List.mem_of_getElem? (i := 78) rfl) rfl
set_option maxRecDepth 100000 in
theorem ms_0 : Cond.selects "PayChain$ObjectTree" ⟨"PayChain$ObjectTree", "cut", "(IIII)I"⟩ ⟨"PayChain$ObjectTree", "cut", "(IIII)I"⟩ ∈ bw_B := bw_s (q := (⟨"PayChain$ObjectTree", "cut", "(IIII)I"⟩, _)) (List.mem_of_getElem? (i := 0) rfl) rfl
set_option maxRecDepth 100000 in
theorem ms_1 : Cond.selects "PayChain$ObjectTree" ⟨"PayChain$ObjectTree", "readLength", "(II)I"⟩ ⟨"PayChain$ObjectTree", "readLength", "(II)I"⟩ ∈ bw_B := bw_s (q := (⟨"PayChain$ObjectTree", "readLength", "(II)I"⟩, _)) (List.mem_of_getElem? (i := 1) rfl) rfl
set_option maxRecDepth 100000 in
theorem ms_2 : Cond.selects "PayChain$ObjectTree" ⟨"PayChain$ObjectTree", "keep", "(IIII)I"⟩ ⟨"PayChain$ObjectTree", "keep", "(IIII)I"⟩ ∈ bw_B := bw_s (q := (⟨"PayChain$ObjectTree", "keep", "(IIII)I"⟩, _)) (List.mem_of_getElem? (i := 2) rfl) rfl
set_option maxRecDepth 100000 in
theorem ms_3 : Cond.selects "PayChain$ObjectTree" ⟨"PayChain$ObjectTree", "isObject", "(I)Z"⟩ ⟨"PayChain$ObjectTree", "isObject", "(I)Z"⟩ ∈ bw_B := bw_s (q := (⟨"PayChain$ObjectTree", "isObject", "(I)Z"⟩, _)) (List.mem_of_getElem? (i := 3) rfl) rfl
set_option maxRecDepth 100000 in
theorem ms_4 : Cond.selects "PayChain$Card" ⟨"PayChain$Card", "fits", "(I)Z"⟩ ⟨"PayChain$Card", "fits", "(I)Z"⟩ ∈ bw_B := bw_s (q := (⟨"PayChain$Card", "fits", "(I)Z"⟩, _)) (List.mem_of_getElem? (i := 4) rfl) rfl
set_option maxRecDepth 100000 in
theorem ms_5 : Cond.selects "PayChain$ObjectTree" ⟨"PayChain$ObjectTree", "hasByte", "(II)Z"⟩ ⟨"PayChain$ObjectTree", "hasByte", "(II)Z"⟩ ∈ bw_B := bw_s (q := (⟨"PayChain$ObjectTree", "hasByte", "(II)Z"⟩, _)) (List.mem_of_getElem? (i := 5) rfl) rfl
set_option maxRecDepth 100000 in
theorem ms_6 : Cond.selects "PayChain$Card" ⟨"PayChain$Card", "isList", "(I)Z"⟩ ⟨"PayChain$Card", "isList", "(I)Z"⟩ ∈ bw_B := bw_s (q := (⟨"PayChain$Card", "isList", "(I)Z"⟩, _)) (List.mem_of_getElem? (i := 6) rfl) rfl
set_option maxRecDepth 100000 in
theorem ms_7 : Cond.selects "PayChain" ⟨"PayChain", "putSpare", "(I)V"⟩ ⟨"PayChain", "putSpare", "(I)V"⟩ ∈ bw_B := bw_s (q := (⟨"PayChain", "putSpare", "(I)V"⟩, _)) (List.mem_of_getElem? (i := 7) rfl) rfl
set_option maxRecDepth 100000 in
theorem ms_8 : Cond.selects "PayChain" ⟨"PayChain", "cardThere", "(I)LPayChain$Card;"⟩ ⟨"PayChain", "cardThere", "(I)LPayChain$Card;"⟩ ∈ bw_B := bw_s (q := (⟨"PayChain", "cardThere", "(I)LPayChain$Card;"⟩, _)) (List.mem_of_getElem? (i := 8) rfl) rfl
set_option maxRecDepth 100000 in
theorem ms_9 : Cond.selects "PayChain$Payment" ⟨"PayChain$Payment", "setIf", "(ZI)V"⟩ ⟨"PayChain$Payment", "setIf", "(ZI)V"⟩ ∈ bw_B := bw_s (q := (⟨"PayChain$Payment", "setIf", "(ZI)V"⟩, _)) (List.mem_of_getElem? (i := 9) rfl) rfl
set_option maxRecDepth 100000 in
theorem ms_10 : Cond.selects "PayChain$Payment" ⟨"PayChain$Payment", "checkHolder", "(LPayChain$Card;LPayChain$Terminal;)V"⟩ ⟨"PayChain$Payment", "checkHolder", "(LPayChain$Card;LPayChain$Terminal;)V"⟩ ∈ bw_B := bw_s (q := (⟨"PayChain$Payment", "checkHolder", "(LPayChain$Card;LPayChain$Terminal;)V"⟩, _)) (List.mem_of_getElem? (i := 10) rfl) rfl
set_option maxRecDepth 100000 in
theorem ms_11 : Cond.selects "PayChain$Payment" ⟨"PayChain$Payment", "isCase", "(IILPayChain$Terminal;)Z"⟩ ⟨"PayChain$Payment", "isCase", "(IILPayChain$Terminal;)Z"⟩ ∈ bw_B := bw_s (q := (⟨"PayChain$Payment", "isCase", "(IILPayChain$Terminal;)Z"⟩, _)) (List.mem_of_getElem? (i := 11) rfl) rfl
set_option maxRecDepth 100000 in
theorem ms_12 : Cond.selects "PayChain$Payment" ⟨"PayChain$Payment", "isMet", "(ILPayChain$Card;LPayChain$Terminal;)Z"⟩ ⟨"PayChain$Payment", "isMet", "(ILPayChain$Card;LPayChain$Terminal;)Z"⟩ ∈ bw_B := bw_s (q := (⟨"PayChain$Payment", "isMet", "(ILPayChain$Card;LPayChain$Terminal;)Z"⟩, _)) (List.mem_of_getElem? (i := 12) rfl) rfl
set_option maxRecDepth 100000 in
theorem ms_13 : Cond.selects "PayChain$Payment" ⟨"PayChain$Payment", "isPinRight", "(LPayChain$Card;LPayChain$Terminal;)Z"⟩ ⟨"PayChain$Payment", "isPinRight", "(LPayChain$Card;LPayChain$Terminal;)Z"⟩ ∈ bw_B := bw_s (q := (⟨"PayChain$Payment", "isPinRight", "(LPayChain$Card;LPayChain$Terminal;)Z"⟩, _)) (List.mem_of_getElem? (i := 13) rfl) rfl
set_option maxRecDepth 100000 in
theorem ms_14 : Cond.selects "PayChain$Payment" ⟨"PayChain$Payment", "weighRisks", "(LPayChain$Card;LPayChain$Terminal;)V"⟩ ⟨"PayChain$Payment", "weighRisks", "(LPayChain$Card;LPayChain$Terminal;)V"⟩ ∈ bw_B := bw_s (q := (⟨"PayChain$Payment", "weighRisks", "(LPayChain$Card;LPayChain$Terminal;)V"⟩, _)) (List.mem_of_getElem? (i := 14) rfl) rfl
set_option maxRecDepth 100000 in
theorem ms_15 : Cond.selects "PayChain$Payment" ⟨"PayChain$Payment", "findWish", "(LPayChain$Card;LPayChain$Terminal;)I"⟩ ⟨"PayChain$Payment", "findWish", "(LPayChain$Card;LPayChain$Terminal;)I"⟩ ∈ bw_B := bw_s (q := (⟨"PayChain$Payment", "findWish", "(LPayChain$Card;LPayChain$Terminal;)I"⟩, _)) (List.mem_of_getElem? (i := 15) rfl) rfl
set_option maxRecDepth 100000 in
theorem ms_16 : Cond.selects "PayChain$Payment" ⟨"PayChain$Payment", "hasFlagIn", "(I)Z"⟩ ⟨"PayChain$Payment", "hasFlagIn", "(I)Z"⟩ ∈ bw_B := bw_s (q := (⟨"PayChain$Payment", "hasFlagIn", "(I)Z"⟩, _)) (List.mem_of_getElem? (i := 16) rfl) rfl
set_option maxRecDepth 100000 in
theorem ms_17 : Cond.selects "PayChain$Payment" ⟨"PayChain$Payment", "gatherData", "(LPayChain$Card;LPayChain$Terminal;)V"⟩ ⟨"PayChain$Payment", "gatherData", "(LPayChain$Card;LPayChain$Terminal;)V"⟩ ∈ bw_B := bw_s (q := (⟨"PayChain$Payment", "gatherData", "(LPayChain$Card;LPayChain$Terminal;)V"⟩, _)) (List.mem_of_getElem? (i := 17) rfl) rfl
set_option maxRecDepth 100000 in
theorem ms_18 : Cond.selects "PayChain$Payment" ⟨"PayChain$Payment", "demanded", "(ILPayChain$Terminal;)I"⟩ ⟨"PayChain$Payment", "demanded", "(ILPayChain$Terminal;)I"⟩ ∈ bw_B := bw_s (q := (⟨"PayChain$Payment", "demanded", "(ILPayChain$Terminal;)I"⟩, _)) (List.mem_of_getElem? (i := 18) rfl) rfl
set_option maxRecDepth 100000 in
theorem ms_19 : Cond.selects "PayChain$Payment" ⟨"PayChain$Payment", "addNumber", "(II)V"⟩ ⟨"PayChain$Payment", "addNumber", "(II)V"⟩ ∈ bw_B := bw_s (q := (⟨"PayChain$Payment", "addNumber", "(II)V"⟩, _)) (List.mem_of_getElem? (i := 19) rfl) rfl
set_option maxRecDepth 100000 in
theorem ms_20 : Cond.selects "PayChain$Payment" ⟨"PayChain$Payment", "askHost", "(LPayChain$Card;LPayChain$Terminal;LPayChain$Host;)V"⟩ ⟨"PayChain$Payment", "askHost", "(LPayChain$Card;LPayChain$Terminal;LPayChain$Host;)V"⟩ ∈ bw_B := bw_s (q := (⟨"PayChain$Payment", "askHost", "(LPayChain$Card;LPayChain$Terminal;LPayChain$Host;)V"⟩, _)) (List.mem_of_getElem? (i := 20) rfl) rfl
set_option maxRecDepth 100000 in
theorem ms_21 : Cond.selects "PayChain$Payment" ⟨"PayChain$Payment", "hasReply", "(LPayChain$Terminal;)Z"⟩ ⟨"PayChain$Payment", "hasReply", "(LPayChain$Terminal;)Z"⟩ ∈ bw_B := bw_s (q := (⟨"PayChain$Payment", "hasReply", "(LPayChain$Terminal;)Z"⟩, _)) (List.mem_of_getElem? (i := 21) rfl) rfl
set_option maxRecDepth 100000 in
theorem ms_22 : Cond.selects "PayChain$Payment" ⟨"PayChain$Payment", "answerReply", "(LPayChain$Card;LPayChain$Host;)I"⟩ ⟨"PayChain$Payment", "answerReply", "(LPayChain$Card;LPayChain$Host;)I"⟩ ∈ bw_B := bw_s (q := (⟨"PayChain$Payment", "answerReply", "(LPayChain$Card;LPayChain$Host;)I"⟩, _)) (List.mem_of_getElem? (i := 22) rfl) rfl
set_option maxRecDepth 100000 in
theorem ms_23 : Cond.selects "PayChain$Payment" ⟨"PayChain$Payment", "answerAlone", "(LPayChain$Card;LPayChain$Terminal;)I"⟩ ⟨"PayChain$Payment", "answerAlone", "(LPayChain$Card;LPayChain$Terminal;)I"⟩ ∈ bw_B := bw_s (q := (⟨"PayChain$Payment", "answerAlone", "(LPayChain$Card;LPayChain$Terminal;)I"⟩, _)) (List.mem_of_getElem? (i := 23) rfl) rfl
set_option maxRecDepth 100000 in
theorem ms_24 : Cond.selects "java/util/ArrayList" ⟨"java/util/ArrayList", "add", "(Ljava/lang/Object;[Ljava/lang/Object;I)V"⟩ ⟨"java/util/ArrayList", "add", "(Ljava/lang/Object;[Ljava/lang/Object;I)V"⟩ ∈ bw_B := bw_s (q := (⟨"java/util/ArrayList", "add", "(Ljava/lang/Object;[Ljava/lang/Object;I)V"⟩, _)) (List.mem_of_getElem? (i := 24) rfl) rfl
set_option maxRecDepth 100000 in
theorem ms_25 : Cond.selects "java/util/ArrayList" ⟨"java/util/ArrayList", "grow", "()[Ljava/lang/Object;"⟩ ⟨"java/util/ArrayList", "grow", "()[Ljava/lang/Object;"⟩ ∈ bw_B := bw_s (q := (⟨"java/util/ArrayList", "grow", "()[Ljava/lang/Object;"⟩, _)) (List.mem_of_getElem? (i := 25) rfl) rfl
set_option maxRecDepth 100000 in
theorem ms_26 : Cond.selects "java/util/ArrayList" ⟨"java/util/ArrayList", "grow", "(I)[Ljava/lang/Object;"⟩ ⟨"java/util/ArrayList", "grow", "(I)[Ljava/lang/Object;"⟩ ∈ bw_B := bw_s (q := (⟨"java/util/ArrayList", "grow", "(I)[Ljava/lang/Object;"⟩, _)) (List.mem_of_getElem? (i := 26) rfl) rfl
set_option maxRecDepth 100000 in
theorem ms_27 : Cond.selects "java/util/ArrayList" ⟨"java/util/ArrayList", "fastRemove", "([Ljava/lang/Object;I)V"⟩ ⟨"java/util/ArrayList", "fastRemove", "([Ljava/lang/Object;I)V"⟩ ∈ bw_B := bw_s (q := (⟨"java/util/ArrayList", "fastRemove", "([Ljava/lang/Object;I)V"⟩, _)) (List.mem_of_getElem? (i := 27) rfl) rfl
set_option maxRecDepth 100000 in
theorem ms_28 : Cond.selects "PayChainModel" ⟨"PayChainModel", "walk", "(II)I"⟩ ⟨"PayChainModel", "walk", "(II)I"⟩ ∈ bw_B := bw_s (q := (⟨"PayChainModel", "walk", "(II)I"⟩, _)) (List.mem_of_getElem? (i := 28) rfl) rfl
set_option maxRecDepth 100000 in
theorem ms_29 : Cond.selects "PayChainModel" ⟨"PayChainModel", "at", "(II)I"⟩ ⟨"PayChainModel", "at", "(II)I"⟩ ∈ bw_B := bw_s (q := (⟨"PayChainModel", "at", "(II)I"⟩, _)) (List.mem_of_getElem? (i := 29) rfl) rfl
set_option maxRecDepth 100000 in
theorem ms_30 : Cond.selects "PayChainModel" ⟨"PayChainModel", "unfit", "()I"⟩ ⟨"PayChainModel", "unfit", "()I"⟩ ∈ bw_B := bw_s (q := (⟨"PayChainModel", "unfit", "()I"⟩, _)) (List.mem_of_getElem? (i := 30) rfl) rfl
set_option maxRecDepth 100000 in
theorem ms_31 : Cond.selects "PayChainModel" ⟨"PayChainModel", "has", "(II)Z"⟩ ⟨"PayChainModel", "has", "(II)Z"⟩ ∈ bw_B := bw_s (q := (⟨"PayChainModel", "has", "(II)Z"⟩, _)) (List.mem_of_getElem? (i := 31) rfl) rfl
set_option maxRecDepth 100000 in
theorem ms_32 : Cond.selects "PayChainModel" ⟨"PayChainModel", "bytes", "()I"⟩ ⟨"PayChainModel", "bytes", "()I"⟩ ∈ bw_B := bw_s (q := (⟨"PayChainModel", "bytes", "()I"⟩, _)) (List.mem_of_getElem? (i := 32) rfl) rfl
set_option maxRecDepth 100000 in
theorem ms_33 : Cond.selects "PayChainModel" ⟨"PayChainModel", "list", "()Z"⟩ ⟨"PayChainModel", "list", "()Z"⟩ ∈ bw_B := bw_s (q := (⟨"PayChainModel", "list", "()Z"⟩, _)) (List.mem_of_getElem? (i := 33) rfl) rfl
set_option maxRecDepth 100000 in
theorem ms_34 : Cond.selects "PayChainModel" ⟨"PayChainModel", "sized", "(II)Z"⟩ ⟨"PayChainModel", "sized", "(II)Z"⟩ ∈ bw_B := bw_s (q := (⟨"PayChainModel", "sized", "(II)Z"⟩, _)) (List.mem_of_getElem? (i := 34) rfl) rfl
set_option maxRecDepth 100000 in
theorem ms_35 : Cond.selects "PayChainModel" ⟨"PayChainModel", "number", "(III)I"⟩ ⟨"PayChainModel", "number", "(III)I"⟩ ∈ bw_B := bw_s (q := (⟨"PayChainModel", "number", "(III)I"⟩, _)) (List.mem_of_getElem? (i := 35) rfl) rfl
set_option maxRecDepth 100000 in
theorem ms_36 : Cond.selects "PayChainModel" ⟨"PayChainModel", "holder", "(III)V"⟩ ⟨"PayChainModel", "holder", "(III)V"⟩ ∈ bw_B := bw_s (q := (⟨"PayChainModel", "holder", "(III)V"⟩, _)) (List.mem_of_getElem? (i := 36) rfl) rfl
set_option maxRecDepth 100000 in
theorem ms_37 : Cond.selects "PayChainModel" ⟨"PayChainModel", "pin", "(II)Z"⟩ ⟨"PayChainModel", "pin", "(II)Z"⟩ ∈ bw_B := bw_s (q := (⟨"PayChainModel", "pin", "(II)Z"⟩, _)) (List.mem_of_getElem? (i := 37) rfl) rfl
set_option maxRecDepth 100000 in
theorem ms_38 : Cond.selects "PayChainModel" ⟨"PayChainModel", "wish", "(I)I"⟩ ⟨"PayChainModel", "wish", "(I)I"⟩ ∈ bw_B := bw_s (q := (⟨"PayChainModel", "wish", "(I)I"⟩, _)) (List.mem_of_getElem? (i := 38) rfl) rfl
set_option maxRecDepth 100000 in
theorem ms_39 : Cond.selects "PayChainModel" ⟨"PayChainModel", "mask", "(III)I"⟩ ⟨"PayChainModel", "mask", "(III)I"⟩ ∈ bw_B := bw_s (q := (⟨"PayChainModel", "mask", "(III)I"⟩, _)) (List.mem_of_getElem? (i := 39) rfl) rfl
set_option maxRecDepth 100000 in
theorem ms_40 : Cond.selects "PayChainModel" ⟨"PayChainModel", "gather", "(II)V"⟩ ⟨"PayChainModel", "gather", "(II)V"⟩ ∈ bw_B := bw_s (q := (⟨"PayChainModel", "gather", "(II)V"⟩, _)) (List.mem_of_getElem? (i := 40) rfl) rfl
set_option maxRecDepth 100000 in
theorem ms_41 : Cond.selects "PayChainModel" ⟨"PayChainModel", "over", "(I)Z"⟩ ⟨"PayChainModel", "over", "(I)Z"⟩ ∈ bw_B := bw_s (q := (⟨"PayChainModel", "over", "(I)Z"⟩, _)) (List.mem_of_getElem? (i := 41) rfl) rfl
set_option maxRecDepth 100000 in
theorem ms_42 : Cond.selects "PayChainModel" ⟨"PayChainModel", "cryptogram", "(III)I"⟩ ⟨"PayChainModel", "cryptogram", "(III)I"⟩ ∈ bw_B := bw_s (q := (⟨"PayChainModel", "cryptogram", "(III)I"⟩, _)) (List.mem_of_getElem? (i := 42) rfl) rfl
set_option maxRecDepth 100000 in
theorem ms_43 : Cond.selects "PayChainModel" ⟨"PayChainModel", "online", "(III)I"⟩ ⟨"PayChainModel", "online", "(III)I"⟩ ∈ bw_B := bw_s (q := (⟨"PayChainModel", "online", "(III)I"⟩, _)) (List.mem_of_getElem? (i := 43) rfl) rfl
set_option maxRecDepth 100000 in
theorem ms_44 : Cond.selects "PayChainModel" ⟨"PayChainModel", "host", "(III)I"⟩ ⟨"PayChainModel", "host", "(III)I"⟩ ∈ bw_B := bw_s (q := (⟨"PayChainModel", "host", "(III)I"⟩, _)) (List.mem_of_getElem? (i := 44) rfl) rfl
set_option maxRecDepth 100000 in
theorem ms_45 : Cond.selects "PayChainModel" ⟨"PayChainModel", "replied", "(I)I"⟩ ⟨"PayChainModel", "replied", "(I)I"⟩ ∈ bw_B := bw_s (q := (⟨"PayChainModel", "replied", "(I)I"⟩, _)) (List.mem_of_getElem? (i := 45) rfl) rfl
set_option maxRecDepth 100000 in
theorem ms_46 : Cond.selects "PayChainModel" ⟨"PayChainModel", "alone", "(I)I"⟩ ⟨"PayChainModel", "alone", "(I)I"⟩ ∈ bw_B := bw_s (q := (⟨"PayChainModel", "alone", "(I)I"⟩, _)) (List.mem_of_getElem? (i := 46) rfl) rfl
set_option maxRecDepth 100000 in
theorem ic_Row {c0 : Cond} : ∀ w ∈ u_ws rn_Row tb_Row 2, w ∈ c0 :: bw_B := by
  intro w hw
  obtain ⟨k, hk, rfl⟩ := List.mem_map.mp hw
  have hk := List.mem_range.mp hk
  apply List.mem_cons_of_mem
  match k, hk with
  | 0, _ => exact mw_37
  | 1, _ => exact mw_39
  | k + 2, hk => exact absurd hk (by omega)
set_option maxRecDepth 100000 in
theorem ic_Term {c0 : Cond} : ∀ w ∈ u_ws rn_Term tb_Term 1, w ∈ c0 :: bw_B := by
  intro w hw
  obtain ⟨k, hk, rfl⟩ := List.mem_map.mp hw
  have hk := List.mem_range.mp hk
  apply List.mem_cons_of_mem
  match k, hk with
  | 0, _ => exact mw_52
  | k + 1, hk => exact absurd hk (by omega)
set_option maxRecDepth 100000 in
theorem ic_Host {c0 : Cond} : ∀ w ∈ u_ws rn_Host tb_Host 4, w ∈ c0 :: bw_B := by
  intro w hw
  obtain ⟨k, hk, rfl⟩ := List.mem_map.mp hw
  have hk := List.mem_range.mp hk
  apply List.mem_cons_of_mem
  match k, hk with
  | 0, _ => exact mw_66
  | 1, _ => exact mw_68
  | 2, _ => exact mw_70
  | 3, _ => exact mw_72
  | k + 4, hk => exact absurd hk (by omega)
set_option maxRecDepth 100000 in
theorem ic_Pmt {c0 : Cond} : ∀ w ∈ u_ws rn_Pmt tb_Pmt 13, w ∈ c0 :: bw_B := by
  intro w hw
  obtain ⟨k, hk, rfl⟩ := List.mem_map.mp hw
  have hk := List.mem_range.mp hk
  apply List.mem_cons_of_mem
  match k, hk with
  | 0, _ => exact mw_103
  | 1, _ => exact mw_105
  | 2, _ => exact mw_107
  | 3, _ => exact mw_109
  | 4, _ => exact mw_111
  | 5, _ => exact mw_113
  | 6, _ => exact mw_115
  | 7, _ => exact mw_117
  | 8, _ => exact mw_119
  | 9, _ => exact mw_121
  | 10, _ => exact mw_123
  | 11, _ => exact mw_125
  | 12, _ => exact mw_127
  | k + 13, hk => exact absurd hk (by omega)
set_option maxRecDepth 100000 in
theorem ic_Tree {c0 : Cond} : ∀ w ∈ u_ws rn_Tree tb_Tree 6, w ∈ c0 :: bw_B := by
  intro w hw
  obtain ⟨k, hk, rfl⟩ := List.mem_map.mp hw
  have hk := List.mem_range.mp hk
  apply List.mem_cons_of_mem
  match k, hk with
  | 0, _ => exact mw_175
  | 1, _ => exact mw_177
  | 2, _ => exact mw_179
  | 3, _ => exact mw_181
  | 4, _ => exact mw_183
  | 5, _ => exact mw_185
  | k + 6, hk => exact absurd hk (by omega)
set_option maxRecDepth 100000 in
theorem ic_Card {c0 : Cond} : ∀ w ∈ u_ws rn_Card tb_Card 14, w ∈ c0 :: bw_B := by
  intro w hw
  obtain ⟨k, hk, rfl⟩ := List.mem_map.mp hw
  have hk := List.mem_range.mp hk
  apply List.mem_cons_of_mem
  match k, hk with
  | 0, _ => exact mw_216
  | 1, _ => exact mw_218
  | 2, _ => exact mw_220
  | 3, _ => exact mw_222
  | 4, _ => exact mw_224
  | 5, _ => exact mw_226
  | 6, _ => exact mw_228
  | 7, _ => exact mw_230
  | 8, _ => exact mw_232
  | 9, _ => exact mw_234
  | 10, _ => exact mw_236
  | 11, _ => exact mw_238
  | 12, _ => exact mw_240
  | 13, _ => exact mw_242
  | k + 14, hk => exact absurd hk (by omega)
set_option maxRecDepth 100000 in
theorem ic_Rev {c0 : Cond} : ∀ w ∈ u_ws rn_Rev tb_Rev 4, w ∈ c0 :: bw_B := by
  intro w hw
  obtain ⟨k, hk, rfl⟩ := List.mem_map.mp hw
  have hk := List.mem_range.mp hk
  apply List.mem_cons_of_mem
  match k, hk with
  | 0, _ => exact mw_616
  | 1, _ => exact mw_618
  | 2, _ => exact mw_620
  | 3, _ => exact mw_622
  | k + 4, hk => exact absurd hk (by omega)
set_option maxRecDepth 100000 in
theorem ic_PC {c0 : Cond} : ∀ w ∈ u_ws rn_PC tb_PC 9, w ∈ c0 :: bw_B := by
  intro w hw
  obtain ⟨k, hk, rfl⟩ := List.mem_map.mp hw
  have hk := List.mem_range.mp hk
  apply List.mem_cons_of_mem
  match k, hk with
  | 0, _ => exact mw_254
  | 1, _ => exact mw_256
  | 2, _ => exact mw_258
  | 3, _ => exact mw_260
  | 4, _ => exact mw_262
  | 5, _ => exact mw_264
  | 6, _ => exact mw_266
  | 7, _ => exact mw_268
  | 8, _ => exact mw_270
  | k + 9, hk => exact absurd hk (by omega)
set_option maxRecDepth 100000 in
theorem ic_AL {c0 : Cond} : ∀ w ∈ u_ws rn_AL tb_AL 3, w ∈ c0 :: bw_B := by
  intro w hw
  obtain ⟨k, hk, rfl⟩ := List.mem_map.mp hw
  have hk := List.mem_range.mp hk
  apply List.mem_cons_of_mem
  match k, hk with
  | 0, _ => exact mw_149
  | 1, _ => exact mw_151
  | 2, _ => exact mw_153
  | k + 3, hk => exact absurd hk (by omega)
set_option maxRecDepth 100000 in
theorem ic_Mod {c0 : Cond} : ∀ w ∈ u_ws rn_Mod tb_Mod 31, w ∈ c0 :: bw_B := by
  intro w hw
  obtain ⟨k, hk, rfl⟩ := List.mem_map.mp hw
  have hk := List.mem_range.mp hk
  apply List.mem_cons_of_mem
  match k, hk with
  | 0, _ => exact mw_811
  | 1, _ => exact mw_813
  | 2, _ => exact mw_815
  | 3, _ => exact mw_817
  | 4, _ => exact mw_819
  | 5, _ => exact mw_821
  | 6, _ => exact mw_823
  | 7, _ => exact mw_825
  | 8, _ => exact mw_827
  | 9, _ => exact mw_829
  | 10, _ => exact mw_831
  | 11, _ => exact mw_833
  | 12, _ => exact mw_835
  | 13, _ => exact mw_837
  | 14, _ => exact mw_839
  | 15, _ => exact mw_841
  | 16, _ => exact mw_843
  | 17, _ => exact mw_845
  | 18, _ => exact mw_847
  | 19, _ => exact mw_849
  | 20, _ => exact mw_851
  | 21, _ => exact mw_853
  | 22, _ => exact mw_855
  | 23, _ => exact mw_857
  | 24, _ => exact mw_859
  | 25, _ => exact mw_861
  | 26, _ => exact mw_863
  | 27, _ => exact mw_865
  | 28, _ => exact mw_867
  | 29, _ => exact mw_869
  | 30, _ => exact mw_871
  | k + 31, hk => exact absurd hk (by omega)
