/-! THE WORDS OF THE TABLES, BY THEIR PLACES -/
theorem it1 {w : Cond} (h : w ∈ tables_1_1) : w ∈ lw_tbl := by
  unfold lw_tbl tables_1
  exact List.mem_append_right _ (List.mem_append_left _ h)
theorem it2 {w : Cond} (h : w ∈ tables_1_2) : w ∈ lw_tbl := by
  unfold lw_tbl tables_1
  exact List.mem_append_right _ (List.mem_append_right _ (List.mem_append_left _ h))
theorem it3 {w : Cond} (h : w ∈ tables_1_3) : w ∈ lw_tbl := by
  unfold lw_tbl tables_1
  exact List.mem_append_right _ (List.mem_append_right _ (List.mem_append_right _ (List.mem_append_left _ h)))
theorem it4 {w : Cond} (h : w ∈ tables_1_4) : w ∈ lw_tbl := by
  unfold lw_tbl tables_1
  exact List.mem_append_right _ (List.mem_append_right _ (List.mem_append_right _ (List.mem_append_right _ (List.mem_append_left _ h))))
theorem it5 {w : Cond} (h : w ∈ tables_1_5) : w ∈ lw_tbl := by
  unfold lw_tbl tables_1
  exact List.mem_append_right _ (List.mem_append_right _ (List.mem_append_right _ (List.mem_append_right _ (List.mem_append_right _ (h)))))
theorem its {w : Cond} (h : w ∈ k2_sels lw_privs) : w ∈ lw_tbl := by
  unfold lw_tbl
  exact List.mem_append_left _ h
set_option maxRecDepth 20000 in
theorem w_1 : (Jvm.Cond.initialized "LavenderParts") ∈ lw_tbl := it1 (List.mem_of_getElem? (i := 1) rfl)
set_option maxRecDepth 20000 in
theorem w_2 : (Jvm.Cond.initialized "LavenderParts$Square") ∈ lw_tbl := it1 (List.mem_of_getElem? (i := 2) rfl)
set_option maxRecDepth 20000 in
theorem w_3 : (Jvm.Cond.initialized "LavenderParts$Singer") ∈ lw_tbl := it1 (List.mem_of_getElem? (i := 3) rfl)
set_option maxRecDepth 20000 in
theorem w_4 : (Jvm.Cond.initialized "LavenderParts$Reader") ∈ lw_tbl := it1 (List.mem_of_getElem? (i := 4) rfl)
set_option maxRecDepth 20000 in
theorem w_5 : (Jvm.Cond.initialized "LavenderParts$Tape") ∈ lw_tbl := it1 (List.mem_of_getElem? (i := 5) rfl)
set_option maxRecDepth 20000 in
theorem w_6 : (Jvm.Cond.initialized "LavenderParts$Sheet") ∈ lw_tbl := it1 (List.mem_of_getElem? (i := 6) rfl)
set_option maxRecDepth 20000 in
theorem w_7 : (Jvm.Cond.initialized "LavenderPartsModel") ∈ lw_tbl := it1 (List.mem_of_getElem? (i := 7) rfl)
set_option maxRecDepth 20000 in
theorem w_8 : (Jvm.Cond.initialized "java/lang/System") ∈ lw_tbl := it1 (List.mem_of_getElem? (i := 8) rfl)
set_option maxRecDepth 20000 in
theorem w_9 : (Jvm.Cond.initialized "java/lang/Math") ∈ lw_tbl := it1 (List.mem_of_getElem? (i := 9) rfl)
set_option maxRecDepth 20000 in
theorem w_10 : (Jvm.Cond.initialized "java/lang/Integer") ∈ lw_tbl := it1 (List.mem_of_getElem? (i := 10) rfl)
set_option maxRecDepth 20000 in
theorem w_11 : (Jvm.Cond.initialized "java/lang/Long") ∈ lw_tbl := it1 (List.mem_of_getElem? (i := 11) rfl)
set_option maxRecDepth 20000 in
theorem w_12 : (Jvm.Cond.initialized "java/lang/String") ∈ lw_tbl := it1 (List.mem_of_getElem? (i := 12) rfl)
set_option maxRecDepth 20000 in
theorem w_13 : (Jvm.Cond.initialized "java/lang/StringLatin1") ∈ lw_tbl := it1 (List.mem_of_getElem? (i := 13) rfl)
set_option maxRecDepth 20000 in
theorem w_14 : (Jvm.Cond.initialized "jdk/internal/util/Preconditions") ∈ lw_tbl := it1 (List.mem_of_getElem? (i := 14) rfl)
set_option maxRecDepth 20000 in
theorem w_16 : (Jvm.Cond.classLink "LavenderPartsLaw" (7 : Nat) "LavenderParts") ∈ lw_tbl := it1 (List.mem_of_getElem? (i := 16) rfl)
set_option maxRecDepth 20000 in
theorem w_17 : (Jvm.Cond.instantiable "LavenderParts" (7 : Nat)) ∈ lw_tbl := it1 (List.mem_of_getElem? (i := 17) rfl)
set_option maxRecDepth 20000 in
theorem w_18 : (Jvm.Cond.methodLink "LavenderPartsLaw" (9 : Nat) ({ cls := "LavenderParts", name := "<init>", desc := "()V" } : Jvm.MethodName)) ∈ lw_tbl := it1 (List.mem_of_getElem? (i := 18) rfl)
set_option maxRecDepth 20000 in
theorem w_19 : (Jvm.Cond.instanceMethod ({ cls := "LavenderParts", name := "<init>", desc := "()V" } : Jvm.MethodName)) ∈ lw_tbl := it1 (List.mem_of_getElem? (i := 19) rfl)
set_option maxRecDepth 20000 in
theorem w_20 : (Jvm.Cond.code ({ cls := "LavenderParts", name := "<init>", desc := "()V" } : Jvm.MethodName) prog_1_method_1_code (2 : Nat) (Option.none : Option Jvm.ClassFile.FieldType)) ∈ lw_tbl := it1 (List.mem_of_getElem? (i := 20) rfl)
set_option maxRecDepth 20000 in
theorem w_21 : (Jvm.Cond.methodLink "LavenderParts" (1 : Nat) ({ cls := "java/lang/Object", name := "<init>", desc := "()V" } : Jvm.MethodName)) ∈ lw_tbl := it1 (List.mem_of_getElem? (i := 21) rfl)
set_option maxRecDepth 20000 in
theorem w_22 : (Jvm.Cond.instanceMethod ({ cls := "java/lang/Object", name := "<init>", desc := "()V" } : Jvm.MethodName)) ∈ lw_tbl := it1 (List.mem_of_getElem? (i := 22) rfl)
set_option maxRecDepth 20000 in
theorem w_23 : (Jvm.Cond.code ({ cls := "java/lang/Object", name := "<init>", desc := "()V" } : Jvm.MethodName) object_method_1_code (1 : Nat) (Option.none : Option Jvm.ClassFile.FieldType)) ∈ lw_tbl := it1 (List.mem_of_getElem? (i := 23) rfl)
set_option maxRecDepth 20000 in
theorem w_24 : (Jvm.Cond.classLink "LavenderParts" (7 : Nat) "LavenderParts$Square") ∈ lw_tbl := it1 (List.mem_of_getElem? (i := 24) rfl)
set_option maxRecDepth 20000 in
theorem w_25 : (Jvm.Cond.instantiable "LavenderParts$Square" (6 : Nat)) ∈ lw_tbl := it1 (List.mem_of_getElem? (i := 25) rfl)
set_option maxRecDepth 20000 in
theorem w_26 : (Jvm.Cond.methodLink "LavenderParts" (9 : Nat) ({ cls := "LavenderParts$Square", name := "<init>", desc := "()V" } : Jvm.MethodName)) ∈ lw_tbl := it1 (List.mem_of_getElem? (i := 26) rfl)
set_option maxRecDepth 20000 in
theorem w_27 : (Jvm.Cond.instanceMethod ({ cls := "LavenderParts$Square", name := "<init>", desc := "()V" } : Jvm.MethodName)) ∈ lw_tbl := it1 (List.mem_of_getElem? (i := 27) rfl)
set_option maxRecDepth 20000 in
theorem w_28 : (Jvm.Cond.code ({ cls := "LavenderParts$Square", name := "<init>", desc := "()V" } : Jvm.MethodName) prog_5_method_1_code (2 : Nat) (Option.none : Option Jvm.ClassFile.FieldType)) ∈ lw_tbl := it1 (List.mem_of_getElem? (i := 28) rfl)
set_option maxRecDepth 20000 in
theorem w_29 : (Jvm.Cond.methodLink "LavenderParts$Square" (1 : Nat) ({ cls := "java/lang/Object", name := "<init>", desc := "()V" } : Jvm.MethodName)) ∈ lw_tbl := it1 (List.mem_of_getElem? (i := 29) rfl)
set_option maxRecDepth 20000 in
theorem w_30 : (Jvm.Cond.classLink "LavenderParts$Square" (9 : Nat) "LavenderParts$Singer") ∈ lw_tbl := it1 (List.mem_of_getElem? (i := 30) rfl)
set_option maxRecDepth 20000 in
theorem w_32 : (Jvm.Cond.instantiable "LavenderParts$Singer" (2 : Nat)) ∈ lw_tbl := it1 (List.mem_of_getElem? (i := 32) rfl)
set_option maxRecDepth 20000 in
theorem w_34 : (Jvm.Cond.instanceMethod ({ cls := "LavenderParts$Singer", name := "<init>", desc := "()V" } : Jvm.MethodName)) ∈ lw_tbl := it1 (List.mem_of_getElem? (i := 34) rfl)
set_option maxRecDepth 20000 in
theorem w_35 : (Jvm.Cond.code ({ cls := "LavenderParts$Singer", name := "<init>", desc := "()V" } : Jvm.MethodName) prog_4_method_1_code (1 : Nat) (Option.none : Option Jvm.ClassFile.FieldType)) ∈ lw_tbl := it1 (List.mem_of_getElem? (i := 35) rfl)
set_option maxRecDepth 20000 in
theorem w_36 : (Jvm.Cond.methodLink "LavenderParts$Singer" (1 : Nat) ({ cls := "java/lang/Object", name := "<init>", desc := "()V" } : Jvm.MethodName)) ∈ lw_tbl := it1 (List.mem_of_getElem? (i := 36) rfl)
set_option maxRecDepth 20000 in
theorem w_37 : (Jvm.Cond.fieldLink "LavenderParts$Singer" (7 : Nat) "LavenderParts$Singer" "AT_FIRST" "[I") ∈ lw_tbl := it1 (List.mem_of_getElem? (i := 37) rfl)
set_option maxRecDepth 20000 in
theorem w_39 : (Jvm.Cond.fieldLink "LavenderParts$Singer" (13 : Nat) "LavenderParts$Singer" "own" "[I") ∈ lw_tbl := it1 (List.mem_of_getElem? (i := 39) rfl)
set_option maxRecDepth 20000 in
theorem w_40 : (Jvm.Cond.fieldLink "LavenderParts$Square" (50 : Nat) "LavenderParts$Singer" "own" "[I") ∈ lw_tbl := it1 (List.mem_of_getElem? (i := 40) rfl)
set_option maxRecDepth 20000 in
theorem w_41 : (Jvm.Cond.fieldLink "LavenderParts$Singer" (16 : Nat) "LavenderParts$Singer" "hasEnded" "Z") ∈ lw_tbl := it1 (List.mem_of_getElem? (i := 41) rfl)
set_option maxRecDepth 20000 in
theorem w_42 : (Jvm.Cond.fieldLink "LavenderParts$Square" (124 : Nat) "LavenderParts$Singer" "hasEnded" "Z") ∈ lw_tbl := it1 (List.mem_of_getElem? (i := 42) rfl)
set_option maxRecDepth 20000 in
theorem w_48 : (Jvm.Cond.arrayClass Jvm.ClassFile.FieldType.int) ∈ lw_tbl := it1 (List.mem_of_getElem? (i := 48) rfl)
set_option maxRecDepth 20000 in
theorem w_49 : (Jvm.Cond.fieldLink "LavenderParts$Square" (11 : Nat) "LavenderParts$Square" "row" "[LLavenderParts$Singer;") ∈ lw_tbl := it1 (List.mem_of_getElem? (i := 49) rfl)
set_option maxRecDepth 20000 in
theorem w_50 : (Jvm.Cond.fieldLink "LavenderParts$Square" (15 : Nat) "LavenderParts$Square" "spots" "[I") ∈ lw_tbl := it1 (List.mem_of_getElem? (i := 50) rfl)
set_option maxRecDepth 20000 in
theorem w_51 : (Jvm.Cond.fieldLink "LavenderParts" (181 : Nat) "LavenderParts$Square" "spots" "[I") ∈ lw_tbl := it1 (List.mem_of_getElem? (i := 51) rfl)
set_option maxRecDepth 20000 in
theorem w_52 : (Jvm.Cond.fieldLink "LavenderParts$Square" (19 : Nat) "LavenderParts$Square" "size" "I") ∈ lw_tbl := it1 (List.mem_of_getElem? (i := 52) rfl)
set_option maxRecDepth 20000 in
theorem w_53 : (Jvm.Cond.fieldLink "LavenderParts$Reader" (80 : Nat) "LavenderParts$Square" "size" "I") ∈ lw_tbl := it1 (List.mem_of_getElem? (i := 53) rfl)
set_option maxRecDepth 20000 in
theorem w_54 : (Jvm.Cond.fieldLink "LavenderParts" (127 : Nat) "LavenderParts$Square" "size" "I") ∈ lw_tbl := it1 (List.mem_of_getElem? (i := 54) rfl)
set_option maxRecDepth 20000 in
theorem w_55 : (Jvm.Cond.fieldLink "LavenderParts$Square" (23 : Nat) "LavenderParts$Square" "day" "I") ∈ lw_tbl := it1 (List.mem_of_getElem? (i := 55) rfl)
set_option maxRecDepth 20000 in
theorem w_56 : (Jvm.Cond.fieldLink "LavenderParts" (93 : Nat) "LavenderParts$Square" "day" "I") ∈ lw_tbl := it1 (List.mem_of_getElem? (i := 56) rfl)
set_option maxRecDepth 20000 in
theorem w_57 : (Jvm.Cond.fieldLink "LavenderParts$Square" (26 : Nat) "LavenderParts$Square" "still" "I") ∈ lw_tbl := it1 (List.mem_of_getElem? (i := 57) rfl)
set_option maxRecDepth 20000 in
theorem w_58 : (Jvm.Cond.fieldLink "LavenderParts" (100 : Nat) "LavenderParts$Square" "still" "I") ∈ lw_tbl := it1 (List.mem_of_getElem? (i := 58) rfl)
set_option maxRecDepth 20000 in
theorem w_59 : (Jvm.Cond.fieldLink "LavenderParts$Square" (29 : Nat) "LavenderParts$Square" "z" "I") ∈ lw_tbl := it1 (List.mem_of_getElem? (i := 59) rfl)
set_option maxRecDepth 20000 in
theorem w_60 : (Jvm.Cond.fieldLink "LavenderParts" (160 : Nat) "LavenderParts$Square" "z" "I") ∈ lw_tbl := it1 (List.mem_of_getElem? (i := 60) rfl)
set_option maxRecDepth 20000 in
theorem w_74 : (Jvm.Cond.classLink "LavenderParts" (22 : Nat) "LavenderParts$Reader") ∈ lw_tbl := it1 (List.mem_of_getElem? (i := 74) rfl)
set_option maxRecDepth 20000 in
theorem w_75 : (Jvm.Cond.instantiable "LavenderParts$Reader" (1 : Nat)) ∈ lw_tbl := it1 (List.mem_of_getElem? (i := 75) rfl)
set_option maxRecDepth 20000 in
theorem w_77 : (Jvm.Cond.instanceMethod ({ cls := "LavenderParts$Reader", name := "<init>", desc := "()V" } : Jvm.MethodName)) ∈ lw_tbl := it1 (List.mem_of_getElem? (i := 77) rfl)
set_option maxRecDepth 20000 in
theorem w_78 : (Jvm.Cond.code ({ cls := "LavenderParts$Reader", name := "<init>", desc := "()V" } : Jvm.MethodName) prog_2_method_1_code (1 : Nat) (Option.none : Option Jvm.ClassFile.FieldType)) ∈ lw_tbl := it1 (List.mem_of_getElem? (i := 78) rfl)
set_option maxRecDepth 20000 in
theorem w_79 : (Jvm.Cond.methodLink "LavenderParts$Reader" (1 : Nat) ({ cls := "java/lang/Object", name := "<init>", desc := "()V" } : Jvm.MethodName)) ∈ lw_tbl := it1 (List.mem_of_getElem? (i := 79) rfl)
set_option maxRecDepth 20000 in
theorem w_80 : (Jvm.Cond.classLink "LavenderParts$Reader" (7 : Nat) "LavenderParts$Tape") ∈ lw_tbl := it1 (List.mem_of_getElem? (i := 80) rfl)
set_option maxRecDepth 20000 in
theorem w_81 : (Jvm.Cond.instantiable "LavenderParts$Tape" (6 : Nat)) ∈ lw_tbl := it1 (List.mem_of_getElem? (i := 81) rfl)
set_option maxRecDepth 20000 in
theorem w_83 : (Jvm.Cond.instanceMethod ({ cls := "LavenderParts$Tape", name := "<init>", desc := "()V" } : Jvm.MethodName)) ∈ lw_tbl := it1 (List.mem_of_getElem? (i := 83) rfl)
set_option maxRecDepth 20000 in
theorem w_84 : (Jvm.Cond.code ({ cls := "LavenderParts$Tape", name := "<init>", desc := "()V" } : Jvm.MethodName) prog_6_method_1_code (1 : Nat) (Option.none : Option Jvm.ClassFile.FieldType)) ∈ lw_tbl := it1 (List.mem_of_getElem? (i := 84) rfl)
set_option maxRecDepth 20000 in
theorem w_85 : (Jvm.Cond.methodLink "LavenderParts$Tape" (1 : Nat) ({ cls := "java/lang/Object", name := "<init>", desc := "()V" } : Jvm.MethodName)) ∈ lw_tbl := it1 (List.mem_of_getElem? (i := 85) rfl)
set_option maxRecDepth 20000 in
theorem w_86 : (Jvm.Cond.fieldLink "LavenderParts$Tape" (9 : Nat) "LavenderParts$Tape" "bytes" "[I") ∈ lw_tbl := it1 (List.mem_of_getElem? (i := 86) rfl)
set_option maxRecDepth 20000 in
theorem w_87 : (Jvm.Cond.fieldLink "LavenderParts$Tape" (13 : Nat) "LavenderParts$Tape" "length" "I") ∈ lw_tbl := it1 (List.mem_of_getElem? (i := 87) rfl)
set_option maxRecDepth 20000 in
theorem w_88 : (Jvm.Cond.fieldLink "LavenderParts" (174 : Nat) "LavenderParts$Tape" "length" "I") ∈ lw_tbl := it1 (List.mem_of_getElem? (i := 88) rfl)
set_option maxRecDepth 20000 in
theorem w_89 : (Jvm.Cond.fieldLink "LavenderParts$Tape" (17 : Nat) "LavenderParts$Tape" "token" "I") ∈ lw_tbl := it1 (List.mem_of_getElem? (i := 89) rfl)
set_option maxRecDepth 20000 in
theorem w_90 : (Jvm.Cond.fieldLink "LavenderParts$Reader" (23 : Nat) "LavenderParts$Tape" "token" "I") ∈ lw_tbl := it1 (List.mem_of_getElem? (i := 90) rfl)
set_option maxRecDepth 20000 in
theorem w_91 : (Jvm.Cond.fieldLink "LavenderParts$Tape" (20 : Nat) "LavenderParts$Tape" "start" "I") ∈ lw_tbl := it1 (List.mem_of_getElem? (i := 91) rfl)
set_option maxRecDepth 20000 in
theorem w_92 : (Jvm.Cond.fieldLink "LavenderParts$Reader" (30 : Nat) "LavenderParts$Tape" "start" "I") ∈ lw_tbl := it1 (List.mem_of_getElem? (i := 92) rfl)
set_option maxRecDepth 20000 in
theorem w_93 : (Jvm.Cond.fieldLink "LavenderParts$Tape" (23 : Nat) "LavenderParts$Tape" "value" "I") ∈ lw_tbl := it1 (List.mem_of_getElem? (i := 93) rfl)
set_option maxRecDepth 20000 in
theorem w_94 : (Jvm.Cond.fieldLink "LavenderParts$Reader" (77 : Nat) "LavenderParts$Tape" "value" "I") ∈ lw_tbl := it1 (List.mem_of_getElem? (i := 94) rfl)
set_option maxRecDepth 20000 in
theorem w_95 : (Jvm.Cond.fieldLink "LavenderParts$Tape" (26 : Nat) "LavenderParts$Tape" "stop" "I") ∈ lw_tbl := it1 (List.mem_of_getElem? (i := 95) rfl)
set_option maxRecDepth 20000 in
theorem w_109 : (Jvm.Cond.fieldLink "LavenderParts$Reader" (10 : Nat) "LavenderParts$Reader" "tape" "LLavenderParts$Tape;") ∈ lw_tbl := it1 (List.mem_of_getElem? (i := 109) rfl)
set_option maxRecDepth 20000 in
theorem w_110 : (Jvm.Cond.fieldLink "LavenderParts" (163 : Nat) "LavenderParts$Reader" "tape" "LLavenderParts$Tape;") ∈ lw_tbl := it1 (List.mem_of_getElem? (i := 110) rfl)
set_option maxRecDepth 20000 in
theorem w_114 : (Jvm.Cond.classLink "LavenderParts" (29 : Nat) "LavenderParts$Sheet") ∈ lw_tbl := it1 (List.mem_of_getElem? (i := 114) rfl)
set_option maxRecDepth 20000 in
theorem w_116 : (Jvm.Cond.instantiable "LavenderParts$Sheet" (3 : Nat)) ∈ lw_tbl := it1 (List.mem_of_getElem? (i := 116) rfl)
set_option maxRecDepth 20000 in
theorem w_118 : (Jvm.Cond.instanceMethod ({ cls := "LavenderParts$Sheet", name := "<init>", desc := "()V" } : Jvm.MethodName)) ∈ lw_tbl := it1 (List.mem_of_getElem? (i := 118) rfl)
set_option maxRecDepth 20000 in
theorem w_119 : (Jvm.Cond.code ({ cls := "LavenderParts$Sheet", name := "<init>", desc := "()V" } : Jvm.MethodName) prog_3_method_1_code (1 : Nat) (Option.none : Option Jvm.ClassFile.FieldType)) ∈ lw_tbl := it1 (List.mem_of_getElem? (i := 119) rfl)
set_option maxRecDepth 20000 in
theorem w_120 : (Jvm.Cond.methodLink "LavenderParts$Sheet" (1 : Nat) ({ cls := "java/lang/Object", name := "<init>", desc := "()V" } : Jvm.MethodName)) ∈ lw_tbl := it1 (List.mem_of_getElem? (i := 120) rfl)
set_option maxRecDepth 20000 in
theorem w_121 : (Jvm.Cond.fieldLink "LavenderParts$Sheet" (9 : Nat) "LavenderParts$Sheet" "numbers" "[I") ∈ lw_tbl := it1 (List.mem_of_getElem? (i := 121) rfl)
set_option maxRecDepth 20000 in
theorem w_122 : (Jvm.Cond.fieldLink "LavenderParts" (206 : Nat) "LavenderParts$Sheet" "numbers" "[I") ∈ lw_tbl := it1 (List.mem_of_getElem? (i := 122) rfl)
set_option maxRecDepth 20000 in
theorem w_123 : (Jvm.Cond.fieldLink "LavenderParts$Sheet" (13 : Nat) "LavenderParts$Sheet" "bits" "I") ∈ lw_tbl := it1 (List.mem_of_getElem? (i := 123) rfl)
set_option maxRecDepth 20000 in
theorem w_124 : (Jvm.Cond.fieldLink "LavenderParts" (200 : Nat) "LavenderParts$Sheet" "bits" "I") ∈ lw_tbl := it1 (List.mem_of_getElem? (i := 124) rfl)
set_option maxRecDepth 20000 in
theorem w_125 : (Jvm.Cond.fieldLink "LavenderParts$Sheet" (17 : Nat) "LavenderParts$Sheet" "size" "I") ∈ lw_tbl := it1 (List.mem_of_getElem? (i := 125) rfl)
set_option maxRecDepth 20000 in
theorem w_126 : (Jvm.Cond.fieldLink "LavenderParts" (194 : Nat) "LavenderParts$Sheet" "size" "I") ∈ lw_tbl := it1 (List.mem_of_getElem? (i := 126) rfl)
set_option maxRecDepth 20000 in
theorem w_134 : (Jvm.Cond.fieldLink "LavenderParts" (10 : Nat) "LavenderParts" "live" "LLavenderParts$Square;") ∈ lw_tbl := it1 (List.mem_of_getElem? (i := 134) rfl)
set_option maxRecDepth 20000 in
theorem w_135 : (Jvm.Cond.fieldLink "LavenderParts" (16 : Nat) "LavenderParts" "trial" "LLavenderParts$Square;") ∈ lw_tbl := it1 (List.mem_of_getElem? (i := 135) rfl)
set_option maxRecDepth 20000 in
theorem w_136 : (Jvm.Cond.fieldLink "LavenderParts" (19 : Nat) "LavenderParts" "kept" "LLavenderParts$Square;") ∈ lw_tbl := it1 (List.mem_of_getElem? (i := 136) rfl)
set_option maxRecDepth 20000 in
theorem w_137 : (Jvm.Cond.fieldLink "LavenderParts" (25 : Nat) "LavenderParts" "reader" "LLavenderParts$Reader;") ∈ lw_tbl := it1 (List.mem_of_getElem? (i := 137) rfl)
set_option maxRecDepth 20000 in
theorem w_138 : (Jvm.Cond.fieldLink "LavenderParts" (31 : Nat) "LavenderParts" "sheets" "[LLavenderParts$Sheet;") ∈ lw_tbl := it1 (List.mem_of_getElem? (i := 138) rfl)
set_option maxRecDepth 20000 in
theorem w_139 : (Jvm.Cond.fieldLink "LavenderParts" (35 : Nat) "LavenderParts" "findings" "[I") ∈ lw_tbl := it1 (List.mem_of_getElem? (i := 139) rfl)
set_option maxRecDepth 20000 in
theorem w_140 : (Jvm.Cond.fieldLink "LavenderParts" (39 : Nat) "LavenderParts" "isKept" "Z") ∈ lw_tbl := it1 (List.mem_of_getElem? (i := 140) rfl)
set_option maxRecDepth 20000 in
theorem w_156 : (Jvm.Cond.methodLink "LavenderPartsLaw" (13 : Nat) ({ cls := "LavenderParts", name := "singer", desc := "(II)I" } : Jvm.MethodName)) ∈ lw_tbl := it1 (List.mem_of_getElem? (i := 156) rfl)
set_option maxRecDepth 20000 in
theorem w_157 : (Jvm.Cond.instanceMethod ({ cls := "LavenderParts", name := "singer", desc := "(II)I" } : Jvm.MethodName)) ∈ lw_tbl := it1 (List.mem_of_getElem? (i := 157) rfl)
set_option maxRecDepth 20000 in
theorem w_158 : (Jvm.Cond.selects "LavenderParts" ({ cls := "LavenderParts", name := "singer", desc := "(II)I" } : Jvm.MethodName) ({ cls := "LavenderParts", name := "singer", desc := "(II)I" } : Jvm.MethodName)) ∈ lw_tbl := it1 (List.mem_of_getElem? (i := 158) rfl)
set_option maxRecDepth 20000 in
theorem w_159 : (Jvm.Cond.code ({ cls := "LavenderParts", name := "singer", desc := "(II)I" } : Jvm.MethodName) prog_1_method_2_code (3 : Nat) (Option.some Jvm.ClassFile.FieldType.int)) ∈ lw_tbl := it1 (List.mem_of_getElem? (i := 159) rfl)
set_option maxRecDepth 20000 in
theorem w_160 : (Jvm.Cond.methodLink "LavenderParts" (46 : Nat) ({ cls := "LavenderParts", name := "within", desc := "(III)Z" } : Jvm.MethodName)) ∈ lw_tbl := it1 (List.mem_of_getElem? (i := 160) rfl)
set_option maxRecDepth 20000 in
theorem w_161 : (Jvm.Cond.static ({ cls := "LavenderParts", name := "within", desc := "(III)Z" } : Jvm.MethodName)) ∈ lw_tbl := it1 (List.mem_of_getElem? (i := 161) rfl)
set_option maxRecDepth 20000 in
theorem w_162 : (Jvm.Cond.code ({ cls := "LavenderParts", name := "within", desc := "(III)Z" } : Jvm.MethodName) prog_1_method_42_code (3 : Nat) (Option.some Jvm.ClassFile.FieldType.boolean)) ∈ lw_tbl := it1 (List.mem_of_getElem? (i := 162) rfl)
set_option maxRecDepth 20000 in
theorem w_163 : (Jvm.Cond.methodLink "LavenderParts" (50 : Nat) ({ cls := "LavenderParts", name := "tell", desc := "(I)I" } : Jvm.MethodName)) ∈ lw_tbl := it1 (List.mem_of_getElem? (i := 163) rfl)
set_option maxRecDepth 20000 in
theorem w_165 : (Jvm.Cond.instanceMethod ({ cls := "LavenderParts", name := "tell", desc := "(I)I" } : Jvm.MethodName)) ∈ lw_tbl := it1 (List.mem_of_getElem? (i := 165) rfl)
set_option maxRecDepth 20000 in
theorem w_166 : (Jvm.Cond.code ({ cls := "LavenderParts", name := "tell", desc := "(I)I" } : Jvm.MethodName) prog_1_method_41_code (2 : Nat) (Option.some Jvm.ClassFile.FieldType.int)) ∈ lw_tbl := it1 (List.mem_of_getElem? (i := 166) rfl)
set_option maxRecDepth 20000 in
theorem w_167 : (Jvm.Cond.constant "LavenderParts" (218 : Nat) (-1000001 : Int32)) ∈ lw_tbl := it1 (List.mem_of_getElem? (i := 167) rfl)
set_option maxRecDepth 20000 in
theorem w_168 : (Jvm.Cond.methodLink "LavenderParts" (54 : Nat) ({ cls := "LavenderParts$Square", name := "isFull", desc := "()Z" } : Jvm.MethodName)) ∈ lw_tbl := it1 (List.mem_of_getElem? (i := 168) rfl)
set_option maxRecDepth 20000 in
theorem w_169 : (Jvm.Cond.instanceMethod ({ cls := "LavenderParts$Square", name := "isFull", desc := "()Z" } : Jvm.MethodName)) ∈ lw_tbl := it1 (List.mem_of_getElem? (i := 169) rfl)
set_option maxRecDepth 20000 in
theorem w_170 : (Jvm.Cond.selects "LavenderParts$Square" ({ cls := "LavenderParts$Square", name := "isFull", desc := "()Z" } : Jvm.MethodName) ({ cls := "LavenderParts$Square", name := "isFull", desc := "()Z" } : Jvm.MethodName)) ∈ lw_tbl := it1 (List.mem_of_getElem? (i := 170) rfl)
set_option maxRecDepth 20000 in
theorem w_171 : (Jvm.Cond.code ({ cls := "LavenderParts$Square", name := "isFull", desc := "()Z" } : Jvm.MethodName) prog_5_method_4_code (1 : Nat) (Option.some Jvm.ClassFile.FieldType.boolean)) ∈ lw_tbl := it1 (List.mem_of_getElem? (i := 171) rfl)
set_option maxRecDepth 20000 in
theorem w_172 : (Jvm.Cond.methodLink "LavenderParts" (58 : Nat) ({ cls := "LavenderParts$Square", name := "add", desc := "(II)I" } : Jvm.MethodName)) ∈ lw_tbl := it1 (List.mem_of_getElem? (i := 172) rfl)
set_option maxRecDepth 20000 in
theorem w_173 : (Jvm.Cond.instanceMethod ({ cls := "LavenderParts$Square", name := "add", desc := "(II)I" } : Jvm.MethodName)) ∈ lw_tbl := it1 (List.mem_of_getElem? (i := 173) rfl)
set_option maxRecDepth 20000 in
theorem w_174 : (Jvm.Cond.selects "LavenderParts$Square" ({ cls := "LavenderParts$Square", name := "add", desc := "(II)I" } : Jvm.MethodName) ({ cls := "LavenderParts$Square", name := "add", desc := "(II)I" } : Jvm.MethodName)) ∈ lw_tbl := it1 (List.mem_of_getElem? (i := 174) rfl)
set_option maxRecDepth 20000 in
theorem w_175 : (Jvm.Cond.code ({ cls := "LavenderParts$Square", name := "add", desc := "(II)I" } : Jvm.MethodName) prog_5_method_5_code (3 : Nat) (Option.some Jvm.ClassFile.FieldType.int)) ∈ lw_tbl := it1 (List.mem_of_getElem? (i := 175) rfl)
set_option maxRecDepth 20000 in
theorem w_176 : (Jvm.Cond.methodLink "LavenderParts$Square" (43 : Nat) ({ cls := "LavenderParts$Square", name := "isFull", desc := "()Z" } : Jvm.MethodName)) ∈ lw_tbl := it1 (List.mem_of_getElem? (i := 176) rfl)
set_option maxRecDepth 20000 in
theorem w_177 : (Jvm.Cond.methodLink "LavenderParts$Square" (47 : Nat) ({ cls := "LavenderParts$Singer", name := "reset", desc := "()V" } : Jvm.MethodName)) ∈ lw_tbl := it1 (List.mem_of_getElem? (i := 177) rfl)
set_option maxRecDepth 20000 in
theorem w_178 : (Jvm.Cond.instanceMethod ({ cls := "LavenderParts$Singer", name := "reset", desc := "()V" } : Jvm.MethodName)) ∈ lw_tbl := it1 (List.mem_of_getElem? (i := 178) rfl)
set_option maxRecDepth 20000 in
theorem w_179 : (Jvm.Cond.selects "LavenderParts$Singer" ({ cls := "LavenderParts$Singer", name := "reset", desc := "()V" } : Jvm.MethodName) ({ cls := "LavenderParts$Singer", name := "reset", desc := "()V" } : Jvm.MethodName)) ∈ lw_tbl := it1 (List.mem_of_getElem? (i := 179) rfl)
set_option maxRecDepth 20000 in
theorem w_180 : (Jvm.Cond.code ({ cls := "LavenderParts$Singer", name := "reset", desc := "()V" } : Jvm.MethodName) prog_4_method_2_code (1 : Nat) (Option.none : Option Jvm.ClassFile.FieldType)) ∈ lw_tbl := it1 (List.mem_of_getElem? (i := 180) rfl)
set_option maxRecDepth 20000 in
theorem w_181 : (Jvm.Cond.methodLink "LavenderParts$Singer" (20 : Nat) ({ cls := "java/lang/System", name := "arraycopy", desc := "(Ljava/lang/Object;ILjava/lang/Object;II)V" } : Jvm.MethodName)) ∈ lw_tbl := it1 (List.mem_of_getElem? (i := 181) rfl)
set_option maxRecDepth 20000 in
theorem w_182 : (Jvm.Cond.static ({ cls := "java/lang/System", name := "arraycopy", desc := "(Ljava/lang/Object;ILjava/lang/Object;II)V" } : Jvm.MethodName)) ∈ lw_tbl := it1 (List.mem_of_getElem? (i := 182) rfl)
set_option maxRecDepth 20000 in
theorem w_183 : (Jvm.Cond.native ({ cls := "java/lang/System", name := "arraycopy", desc := "(Ljava/lang/Object;ILjava/lang/Object;II)V" } : Jvm.MethodName)) ∈ lw_tbl := it1 (List.mem_of_getElem? (i := 183) rfl)
set_option maxRecDepth 20000 in
theorem w_184 : (Jvm.Cond.methodLink "LavenderPartsLaw" (18 : Nat) ({ cls := "LavenderParts", name := "of", desc := "(II)I" } : Jvm.MethodName)) ∈ lw_tbl := it1 (List.mem_of_getElem? (i := 184) rfl)
set_option maxRecDepth 20000 in
theorem w_185 : (Jvm.Cond.instanceMethod ({ cls := "LavenderParts", name := "of", desc := "(II)I" } : Jvm.MethodName)) ∈ lw_tbl := it1 (List.mem_of_getElem? (i := 185) rfl)
set_option maxRecDepth 20000 in
theorem w_186 : (Jvm.Cond.selects "LavenderParts" ({ cls := "LavenderParts", name := "of", desc := "(II)I" } : Jvm.MethodName) ({ cls := "LavenderParts", name := "of", desc := "(II)I" } : Jvm.MethodName)) ∈ lw_tbl := it1 (List.mem_of_getElem? (i := 186) rfl)
set_option maxRecDepth 20000 in
theorem w_187 : (Jvm.Cond.code ({ cls := "LavenderParts", name := "of", desc := "(II)I" } : Jvm.MethodName) prog_1_method_3_code (3 : Nat) (Option.some Jvm.ClassFile.FieldType.int)) ∈ lw_tbl := it1 (List.mem_of_getElem? (i := 187) rfl)
set_option maxRecDepth 20000 in
theorem w_188 : (Jvm.Cond.methodLink "LavenderParts" (62 : Nat) ({ cls := "LavenderParts$Square", name := "has", desc := "(I)Z" } : Jvm.MethodName)) ∈ lw_tbl := it1 (List.mem_of_getElem? (i := 188) rfl)
set_option maxRecDepth 20000 in
theorem w_189 : (Jvm.Cond.instanceMethod ({ cls := "LavenderParts$Square", name := "has", desc := "(I)Z" } : Jvm.MethodName)) ∈ lw_tbl := it1 (List.mem_of_getElem? (i := 189) rfl)
set_option maxRecDepth 20000 in
theorem w_190 : (Jvm.Cond.selects "LavenderParts$Square" ({ cls := "LavenderParts$Square", name := "has", desc := "(I)Z" } : Jvm.MethodName) ({ cls := "LavenderParts$Square", name := "has", desc := "(I)Z" } : Jvm.MethodName)) ∈ lw_tbl := it1 (List.mem_of_getElem? (i := 190) rfl)
set_option maxRecDepth 20000 in
theorem w_191 : (Jvm.Cond.code ({ cls := "LavenderParts$Square", name := "has", desc := "(I)Z" } : Jvm.MethodName) prog_5_method_3_code (2 : Nat) (Option.some Jvm.ClassFile.FieldType.boolean)) ∈ lw_tbl := it1 (List.mem_of_getElem? (i := 191) rfl)
set_option maxRecDepth 20000 in
theorem w_192 : (Jvm.Cond.methodLink "LavenderParts" (66 : Nat) ({ cls := "LavenderParts$Square", name := "look", desc := "(II)I" } : Jvm.MethodName)) ∈ lw_tbl := it1 (List.mem_of_getElem? (i := 192) rfl)
set_option maxRecDepth 20000 in
theorem w_193 : (Jvm.Cond.instanceMethod ({ cls := "LavenderParts$Square", name := "look", desc := "(II)I" } : Jvm.MethodName)) ∈ lw_tbl := it1 (List.mem_of_getElem? (i := 193) rfl)
set_option maxRecDepth 20000 in
theorem w_194 : (Jvm.Cond.selects "LavenderParts$Square" ({ cls := "LavenderParts$Square", name := "look", desc := "(II)I" } : Jvm.MethodName) ({ cls := "LavenderParts$Square", name := "look", desc := "(II)I" } : Jvm.MethodName)) ∈ lw_tbl := it1 (List.mem_of_getElem? (i := 194) rfl)
set_option maxRecDepth 20000 in
theorem w_195 : (Jvm.Cond.code ({ cls := "LavenderParts$Square", name := "look", desc := "(II)I" } : Jvm.MethodName) prog_5_method_6_code (3 : Nat) (Option.some Jvm.ClassFile.FieldType.int)) ∈ lw_tbl := it1 (List.mem_of_getElem? (i := 195) rfl)
set_option maxRecDepth 20000 in
theorem w_196 : (Jvm.Cond.methodLink "LavenderParts$Square" (53 : Nat) ({ cls := "LavenderParts$Square", name := "has", desc := "(I)Z" } : Jvm.MethodName)) ∈ lw_tbl := it1 (List.mem_of_getElem? (i := 196) rfl)
set_option maxRecDepth 20000 in
theorem w_197 : (Jvm.Cond.methodLink "LavenderParts$Square" (57 : Nat) ({ cls := "LavenderParts$Singer", name := "gap", desc := "()I" } : Jvm.MethodName)) ∈ lw_tbl := it1 (List.mem_of_getElem? (i := 197) rfl)
set_option maxRecDepth 20000 in
theorem w_198 : (Jvm.Cond.instanceMethod ({ cls := "LavenderParts$Singer", name := "gap", desc := "()I" } : Jvm.MethodName)) ∈ lw_tbl := it1 (List.mem_of_getElem? (i := 198) rfl)
set_option maxRecDepth 20000 in
theorem w_199 : (Jvm.Cond.selects "LavenderParts$Singer" ({ cls := "LavenderParts$Singer", name := "gap", desc := "()I" } : Jvm.MethodName) ({ cls := "LavenderParts$Singer", name := "gap", desc := "()I" } : Jvm.MethodName)) ∈ lw_tbl := it1 (List.mem_of_getElem? (i := 199) rfl)
set_option maxRecDepth 20000 in
theorem w_200 : (Jvm.Cond.code ({ cls := "LavenderParts$Singer", name := "gap", desc := "()I" } : Jvm.MethodName) prog_4_method_8_code (2 : Nat) (Option.some Jvm.ClassFile.FieldType.int)) ∈ lw_tbl := it1 (List.mem_of_getElem? (i := 200) rfl)
set_option maxRecDepth 20000 in
theorem w_201 : (Jvm.Cond.methodLink "LavenderParts$Square" (61 : Nat) ({ cls := "LavenderParts$Singer", name := "lasting", desc := "()I" } : Jvm.MethodName)) ∈ lw_tbl := it1 (List.mem_of_getElem? (i := 201) rfl)
set_option maxRecDepth 20000 in
theorem w_202 : (Jvm.Cond.instanceMethod ({ cls := "LavenderParts$Singer", name := "lasting", desc := "()I" } : Jvm.MethodName)) ∈ lw_tbl := it1 (List.mem_of_getElem? (i := 202) rfl)
set_option maxRecDepth 20000 in
theorem w_203 : (Jvm.Cond.selects "LavenderParts$Singer" ({ cls := "LavenderParts$Singer", name := "lasting", desc := "()I" } : Jvm.MethodName) ({ cls := "LavenderParts$Singer", name := "lasting", desc := "()I" } : Jvm.MethodName)) ∈ lw_tbl := it1 (List.mem_of_getElem? (i := 203) rfl)
set_option maxRecDepth 20000 in
theorem w_204 : (Jvm.Cond.code ({ cls := "LavenderParts$Singer", name := "lasting", desc := "()I" } : Jvm.MethodName) prog_4_method_9_code (3 : Nat) (Option.some Jvm.ClassFile.FieldType.int)) ∈ lw_tbl := it1 (List.mem_of_getElem? (i := 204) rfl)
set_option maxRecDepth 20000 in
theorem w_205 : (Jvm.Cond.methodLink "LavenderParts$Square" (64 : Nat) ({ cls := "LavenderParts$Square", name := "singing", desc := "()I" } : Jvm.MethodName)) ∈ lw_tbl := it1 (List.mem_of_getElem? (i := 205) rfl)
set_option maxRecDepth 20000 in
theorem w_206 : (Jvm.Cond.instanceMethod ({ cls := "LavenderParts$Square", name := "singing", desc := "()I" } : Jvm.MethodName)) ∈ lw_tbl := it1 (List.mem_of_getElem? (i := 206) rfl)
set_option maxRecDepth 20000 in
theorem w_207 : (Jvm.Cond.selects "LavenderParts$Square" ({ cls := "LavenderParts$Square", name := "singing", desc := "()I" } : Jvm.MethodName) ({ cls := "LavenderParts$Square", name := "singing", desc := "()I" } : Jvm.MethodName)) ∈ lw_tbl := it1 (List.mem_of_getElem? (i := 207) rfl)
set_option maxRecDepth 20000 in
theorem w_208 : (Jvm.Cond.code ({ cls := "LavenderParts$Square", name := "singing", desc := "()I" } : Jvm.MethodName) prog_5_method_11_code (3 : Nat) (Option.some Jvm.ClassFile.FieldType.int)) ∈ lw_tbl := it1 (List.mem_of_getElem? (i := 208) rfl)
set_option maxRecDepth 20000 in
theorem w_209 : (Jvm.Cond.methodLink "LavenderParts$Square" (87 : Nat) ({ cls := "LavenderParts$Singer", name := "isSinging", desc := "()Z" } : Jvm.MethodName)) ∈ lw_tbl := it1 (List.mem_of_getElem? (i := 209) rfl)
set_option maxRecDepth 20000 in
theorem w_210 : (Jvm.Cond.instanceMethod ({ cls := "LavenderParts$Singer", name := "isSinging", desc := "()Z" } : Jvm.MethodName)) ∈ lw_tbl := it1 (List.mem_of_getElem? (i := 210) rfl)
set_option maxRecDepth 20000 in
theorem w_211 : (Jvm.Cond.selects "LavenderParts$Singer" ({ cls := "LavenderParts$Singer", name := "isSinging", desc := "()Z" } : Jvm.MethodName) ({ cls := "LavenderParts$Singer", name := "isSinging", desc := "()Z" } : Jvm.MethodName)) ∈ lw_tbl := it1 (List.mem_of_getElem? (i := 211) rfl)
set_option maxRecDepth 20000 in
theorem w_212 : (Jvm.Cond.code ({ cls := "LavenderParts$Singer", name := "isSinging", desc := "()Z" } : Jvm.MethodName) prog_4_method_6_code (1 : Nat) (Option.some Jvm.ClassFile.FieldType.boolean)) ∈ lw_tbl := it1 (List.mem_of_getElem? (i := 212) rfl)
set_option maxRecDepth 20000 in
theorem w_213 : (Jvm.Cond.methodLink "LavenderParts$Square" (67 : Nat) ({ cls := "LavenderParts$Square", name := "selling", desc := "(II)I" } : Jvm.MethodName)) ∈ lw_tbl := it1 (List.mem_of_getElem? (i := 213) rfl)
set_option maxRecDepth 20000 in
theorem w_215 : (Jvm.Cond.instanceMethod ({ cls := "LavenderParts$Square", name := "selling", desc := "(II)I" } : Jvm.MethodName)) ∈ lw_tbl := it1 (List.mem_of_getElem? (i := 215) rfl)
set_option maxRecDepth 20000 in
theorem w_216 : (Jvm.Cond.code ({ cls := "LavenderParts$Square", name := "selling", desc := "(II)I" } : Jvm.MethodName) prog_5_method_27_code (5 : Nat) (Option.some Jvm.ClassFile.FieldType.int)) ∈ lw_tbl := it1 (List.mem_of_getElem? (i := 216) rfl)
set_option maxRecDepth 20000 in
theorem w_217 : (Jvm.Cond.methodLink "LavenderParts$Square" (132 : Nat) ({ cls := "LavenderParts$Singer", name := "selling", desc := "(ZZ)I" } : Jvm.MethodName)) ∈ lw_tbl := it1 (List.mem_of_getElem? (i := 217) rfl)
set_option maxRecDepth 20000 in
theorem w_218 : (Jvm.Cond.instanceMethod ({ cls := "LavenderParts$Singer", name := "selling", desc := "(ZZ)I" } : Jvm.MethodName)) ∈ lw_tbl := it1 (List.mem_of_getElem? (i := 218) rfl)
set_option maxRecDepth 20000 in
theorem w_219 : (Jvm.Cond.selects "LavenderParts$Singer" ({ cls := "LavenderParts$Singer", name := "selling", desc := "(ZZ)I" } : Jvm.MethodName) ({ cls := "LavenderParts$Singer", name := "selling", desc := "(ZZ)I" } : Jvm.MethodName)) ∈ lw_tbl := it1 (List.mem_of_getElem? (i := 219) rfl)
set_option maxRecDepth 20000 in
theorem w_220 : (Jvm.Cond.code ({ cls := "LavenderParts$Singer", name := "selling", desc := "(ZZ)I" } : Jvm.MethodName) prog_4_method_10_code (5 : Nat) (Option.some Jvm.ClassFile.FieldType.int)) ∈ lw_tbl := it1 (List.mem_of_getElem? (i := 220) rfl)
set_option maxRecDepth 20000 in
theorem w_221 : (Jvm.Cond.methodLink "LavenderParts$Square" (71 : Nat) ({ cls := "LavenderParts$Singer", name := "wearing", desc := "()I" } : Jvm.MethodName)) ∈ lw_tbl := it1 (List.mem_of_getElem? (i := 221) rfl)
set_option maxRecDepth 20000 in
theorem w_222 : (Jvm.Cond.instanceMethod ({ cls := "LavenderParts$Singer", name := "wearing", desc := "()I" } : Jvm.MethodName)) ∈ lw_tbl := it1 (List.mem_of_getElem? (i := 222) rfl)
set_option maxRecDepth 20000 in
theorem w_223 : (Jvm.Cond.selects "LavenderParts$Singer" ({ cls := "LavenderParts$Singer", name := "wearing", desc := "()I" } : Jvm.MethodName) ({ cls := "LavenderParts$Singer", name := "wearing", desc := "()I" } : Jvm.MethodName)) ∈ lw_tbl := it1 (List.mem_of_getElem? (i := 223) rfl)
set_option maxRecDepth 20000 in
theorem w_224 : (Jvm.Cond.code ({ cls := "LavenderParts$Singer", name := "wearing", desc := "()I" } : Jvm.MethodName) prog_4_method_11_code (1 : Nat) (Option.some Jvm.ClassFile.FieldType.int)) ∈ lw_tbl := it1 (List.mem_of_getElem? (i := 224) rfl)
set_option maxRecDepth 20000 in
theorem w_226 : (Jvm.Cond.methodLink "LavenderPartsLaw" (22 : Nat) ({ cls := "LavenderParts", name := "change", desc := "(III)I" } : Jvm.MethodName)) ∈ lw_tbl := it1 (List.mem_of_getElem? (i := 226) rfl)
set_option maxRecDepth 20000 in
theorem w_227 : (Jvm.Cond.instanceMethod ({ cls := "LavenderParts", name := "change", desc := "(III)I" } : Jvm.MethodName)) ∈ lw_tbl := it1 (List.mem_of_getElem? (i := 227) rfl)
set_option maxRecDepth 20000 in
theorem w_228 : (Jvm.Cond.selects "LavenderParts" ({ cls := "LavenderParts", name := "change", desc := "(III)I" } : Jvm.MethodName) ({ cls := "LavenderParts", name := "change", desc := "(III)I" } : Jvm.MethodName)) ∈ lw_tbl := it1 (List.mem_of_getElem? (i := 228) rfl)
set_option maxRecDepth 20000 in
theorem w_229 : (Jvm.Cond.code ({ cls := "LavenderParts", name := "change", desc := "(III)I" } : Jvm.MethodName) prog_1_method_4_code (5 : Nat) (Option.some Jvm.ClassFile.FieldType.int)) ∈ lw_tbl := it1 (List.mem_of_getElem? (i := 229) rfl)
set_option maxRecDepth 20000 in
theorem w_230 : (Jvm.Cond.methodLink "LavenderParts" (69 : Nat) ({ cls := "LavenderParts$Square", name := "canBe", desc := "(III)Z" } : Jvm.MethodName)) ∈ lw_tbl := it1 (List.mem_of_getElem? (i := 230) rfl)
set_option maxRecDepth 20000 in
theorem w_231 : (Jvm.Cond.instanceMethod ({ cls := "LavenderParts$Square", name := "canBe", desc := "(III)Z" } : Jvm.MethodName)) ∈ lw_tbl := it1 (List.mem_of_getElem? (i := 231) rfl)
set_option maxRecDepth 20000 in
theorem w_232 : (Jvm.Cond.selects "LavenderParts$Square" ({ cls := "LavenderParts$Square", name := "canBe", desc := "(III)Z" } : Jvm.MethodName) ({ cls := "LavenderParts$Square", name := "canBe", desc := "(III)Z" } : Jvm.MethodName)) ∈ lw_tbl := it1 (List.mem_of_getElem? (i := 232) rfl)
set_option maxRecDepth 20000 in
theorem w_233 : (Jvm.Cond.code ({ cls := "LavenderParts$Square", name := "canBe", desc := "(III)Z" } : Jvm.MethodName) prog_5_method_7_code (4 : Nat) (Option.some Jvm.ClassFile.FieldType.boolean)) ∈ lw_tbl := it1 (List.mem_of_getElem? (i := 233) rfl)
set_option maxRecDepth 20000 in
theorem w_234 : (Jvm.Cond.methodLink "LavenderParts$Square" (80 : Nat) ({ cls := "LavenderParts$Singer", name := "isInRange", desc := "(II)Z" } : Jvm.MethodName)) ∈ lw_tbl := it1 (List.mem_of_getElem? (i := 234) rfl)
set_option maxRecDepth 20000 in
theorem w_235 : (Jvm.Cond.static ({ cls := "LavenderParts$Singer", name := "isInRange", desc := "(II)Z" } : Jvm.MethodName)) ∈ lw_tbl := it1 (List.mem_of_getElem? (i := 235) rfl)
set_option maxRecDepth 20000 in
theorem w_236 : (Jvm.Cond.code ({ cls := "LavenderParts$Singer", name := "isInRange", desc := "(II)Z" } : Jvm.MethodName) prog_4_method_4_code (2 : Nat) (Option.some Jvm.ClassFile.FieldType.boolean)) ∈ lw_tbl := it1 (List.mem_of_getElem? (i := 236) rfl)
set_option maxRecDepth 20000 in
theorem w_238 : (Jvm.Cond.fieldLink "LavenderParts$Singer" (32 : Nat) "LavenderParts$Singer" "LEAST" "[I") ∈ lw_tbl := it1 (List.mem_of_getElem? (i := 238) rfl)
set_option maxRecDepth 20000 in
theorem w_240 : (Jvm.Cond.fieldLink "LavenderParts$Singer" (35 : Nat) "LavenderParts$Singer" "MOST" "[I") ∈ lw_tbl := it2 (List.mem_of_getElem? (i := 0) rfl)
set_option maxRecDepth 20000 in
theorem w_242 : (Jvm.Cond.methodLink "LavenderParts" (72 : Nat) ({ cls := "LavenderParts$Square", name := "put", desc := "(III)V" } : Jvm.MethodName)) ∈ lw_tbl := it2 (List.mem_of_getElem? (i := 2) rfl)
set_option maxRecDepth 20000 in
theorem w_243 : (Jvm.Cond.instanceMethod ({ cls := "LavenderParts$Square", name := "put", desc := "(III)V" } : Jvm.MethodName)) ∈ lw_tbl := it2 (List.mem_of_getElem? (i := 3) rfl)
set_option maxRecDepth 20000 in
theorem w_244 : (Jvm.Cond.selects "LavenderParts$Square" ({ cls := "LavenderParts$Square", name := "put", desc := "(III)V" } : Jvm.MethodName) ({ cls := "LavenderParts$Square", name := "put", desc := "(III)V" } : Jvm.MethodName)) ∈ lw_tbl := it2 (List.mem_of_getElem? (i := 4) rfl)
set_option maxRecDepth 20000 in
theorem w_245 : (Jvm.Cond.code ({ cls := "LavenderParts$Square", name := "put", desc := "(III)V" } : Jvm.MethodName) prog_5_method_8_code (4 : Nat) (Option.none : Option Jvm.ClassFile.FieldType)) ∈ lw_tbl := it2 (List.mem_of_getElem? (i := 5) rfl)
set_option maxRecDepth 20000 in
theorem w_246 : (Jvm.Cond.methodLink "LavenderPartsLaw" (27 : Nat) ({ cls := "LavenderParts", name := "answerers", desc := "(I)I" } : Jvm.MethodName)) ∈ lw_tbl := it2 (List.mem_of_getElem? (i := 6) rfl)
set_option maxRecDepth 20000 in
theorem w_247 : (Jvm.Cond.instanceMethod ({ cls := "LavenderParts", name := "answerers", desc := "(I)I" } : Jvm.MethodName)) ∈ lw_tbl := it2 (List.mem_of_getElem? (i := 7) rfl)
set_option maxRecDepth 20000 in
theorem w_248 : (Jvm.Cond.selects "LavenderParts" ({ cls := "LavenderParts", name := "answerers", desc := "(I)I" } : Jvm.MethodName) ({ cls := "LavenderParts", name := "answerers", desc := "(I)I" } : Jvm.MethodName)) ∈ lw_tbl := it2 (List.mem_of_getElem? (i := 8) rfl)
set_option maxRecDepth 20000 in
theorem w_249 : (Jvm.Cond.code ({ cls := "LavenderParts", name := "answerers", desc := "(I)I" } : Jvm.MethodName) prog_1_method_5_code (2 : Nat) (Option.some Jvm.ClassFile.FieldType.int)) ∈ lw_tbl := it2 (List.mem_of_getElem? (i := 9) rfl)
set_option maxRecDepth 20000 in
theorem w_250 : (Jvm.Cond.methodLink "LavenderParts" (76 : Nat) ({ cls := "LavenderParts$Square", name := "answering", desc := "(I)I" } : Jvm.MethodName)) ∈ lw_tbl := it2 (List.mem_of_getElem? (i := 10) rfl)
set_option maxRecDepth 20000 in
theorem w_251 : (Jvm.Cond.instanceMethod ({ cls := "LavenderParts$Square", name := "answering", desc := "(I)I" } : Jvm.MethodName)) ∈ lw_tbl := it2 (List.mem_of_getElem? (i := 11) rfl)
set_option maxRecDepth 20000 in
theorem w_252 : (Jvm.Cond.selects "LavenderParts$Square" ({ cls := "LavenderParts$Square", name := "answering", desc := "(I)I" } : Jvm.MethodName) ({ cls := "LavenderParts$Square", name := "answering", desc := "(I)I" } : Jvm.MethodName)) ∈ lw_tbl := it2 (List.mem_of_getElem? (i := 12) rfl)
set_option maxRecDepth 20000 in
theorem w_253 : (Jvm.Cond.code ({ cls := "LavenderParts$Square", name := "answering", desc := "(I)I" } : Jvm.MethodName) prog_5_method_14_code (2 : Nat) (Option.some Jvm.ClassFile.FieldType.int)) ∈ lw_tbl := it2 (List.mem_of_getElem? (i := 13) rfl)
set_option maxRecDepth 20000 in
theorem w_254 : (Jvm.Cond.methodLink "LavenderParts$Square" (90 : Nat) ({ cls := "LavenderParts$Square", name := "having", desc := "(II)I" } : Jvm.MethodName)) ∈ lw_tbl := it2 (List.mem_of_getElem? (i := 14) rfl)
set_option maxRecDepth 20000 in
theorem w_256 : (Jvm.Cond.instanceMethod ({ cls := "LavenderParts$Square", name := "having", desc := "(II)I" } : Jvm.MethodName)) ∈ lw_tbl := it2 (List.mem_of_getElem? (i := 16) rfl)
set_option maxRecDepth 20000 in
theorem w_257 : (Jvm.Cond.code ({ cls := "LavenderParts$Square", name := "having", desc := "(II)I" } : Jvm.MethodName) prog_5_method_15_code (5 : Nat) (Option.some Jvm.ClassFile.FieldType.int)) ∈ lw_tbl := it2 (List.mem_of_getElem? (i := 17) rfl)
set_option maxRecDepth 20000 in
theorem w_258 : (Jvm.Cond.methodLink "LavenderParts$Square" (93 : Nat) ({ cls := "LavenderParts$Square", name := "look", desc := "(II)I" } : Jvm.MethodName)) ∈ lw_tbl := it2 (List.mem_of_getElem? (i := 18) rfl)
set_option maxRecDepth 20000 in
theorem w_259 : (Jvm.Cond.methodLink "LavenderPartsLaw" (32 : Nat) ({ cls := "LavenderParts", name := "strike", desc := "(I)I" } : Jvm.MethodName)) ∈ lw_tbl := it2 (List.mem_of_getElem? (i := 19) rfl)
set_option maxRecDepth 20000 in
theorem w_260 : (Jvm.Cond.instanceMethod ({ cls := "LavenderParts", name := "strike", desc := "(I)I" } : Jvm.MethodName)) ∈ lw_tbl := it2 (List.mem_of_getElem? (i := 20) rfl)
set_option maxRecDepth 20000 in
theorem w_261 : (Jvm.Cond.selects "LavenderParts" ({ cls := "LavenderParts", name := "strike", desc := "(I)I" } : Jvm.MethodName) ({ cls := "LavenderParts", name := "strike", desc := "(I)I" } : Jvm.MethodName)) ∈ lw_tbl := it2 (List.mem_of_getElem? (i := 21) rfl)
set_option maxRecDepth 20000 in
theorem w_262 : (Jvm.Cond.code ({ cls := "LavenderParts", name := "strike", desc := "(I)I" } : Jvm.MethodName) prog_1_method_6_code (2 : Nat) (Option.some Jvm.ClassFile.FieldType.int)) ∈ lw_tbl := it2 (List.mem_of_getElem? (i := 22) rfl)
set_option maxRecDepth 20000 in
theorem w_263 : (Jvm.Cond.methodLink "LavenderParts" (79 : Nat) ({ cls := "LavenderParts$Square", name := "begin", desc := "(I)V" } : Jvm.MethodName)) ∈ lw_tbl := it2 (List.mem_of_getElem? (i := 23) rfl)
set_option maxRecDepth 20000 in
theorem w_264 : (Jvm.Cond.instanceMethod ({ cls := "LavenderParts$Square", name := "begin", desc := "(I)V" } : Jvm.MethodName)) ∈ lw_tbl := it2 (List.mem_of_getElem? (i := 24) rfl)
set_option maxRecDepth 20000 in
theorem w_265 : (Jvm.Cond.selects "LavenderParts$Square" ({ cls := "LavenderParts$Square", name := "begin", desc := "(I)V" } : Jvm.MethodName) ({ cls := "LavenderParts$Square", name := "begin", desc := "(I)V" } : Jvm.MethodName)) ∈ lw_tbl := it2 (List.mem_of_getElem? (i := 25) rfl)
set_option maxRecDepth 20000 in
theorem w_266 : (Jvm.Cond.code ({ cls := "LavenderParts$Square", name := "begin", desc := "(I)V" } : Jvm.MethodName) prog_5_method_9_code (2 : Nat) (Option.none : Option Jvm.ClassFile.FieldType)) ∈ lw_tbl := it2 (List.mem_of_getElem? (i := 26) rfl)
set_option maxRecDepth 20000 in
theorem w_267 : (Jvm.Cond.methodLink "LavenderParts$Square" (84 : Nat) ({ cls := "LavenderParts$Singer", name := "begin", desc := "()V" } : Jvm.MethodName)) ∈ lw_tbl := it2 (List.mem_of_getElem? (i := 27) rfl)
set_option maxRecDepth 20000 in
theorem w_268 : (Jvm.Cond.instanceMethod ({ cls := "LavenderParts$Singer", name := "begin", desc := "()V" } : Jvm.MethodName)) ∈ lw_tbl := it2 (List.mem_of_getElem? (i := 28) rfl)
set_option maxRecDepth 20000 in
theorem w_269 : (Jvm.Cond.selects "LavenderParts$Singer" ({ cls := "LavenderParts$Singer", name := "begin", desc := "()V" } : Jvm.MethodName) ({ cls := "LavenderParts$Singer", name := "begin", desc := "()V" } : Jvm.MethodName)) ∈ lw_tbl := it2 (List.mem_of_getElem? (i := 29) rfl)
set_option maxRecDepth 20000 in
theorem w_270 : (Jvm.Cond.code ({ cls := "LavenderParts$Singer", name := "begin", desc := "()V" } : Jvm.MethodName) prog_4_method_7_code (1 : Nat) (Option.none : Option Jvm.ClassFile.FieldType)) ∈ lw_tbl := it2 (List.mem_of_getElem? (i := 30) rfl)
set_option maxRecDepth 20000 in
theorem w_271 : (Jvm.Cond.methodLink "LavenderParts$Singer" (41 : Nat) ({ cls := "LavenderParts$Singer", name := "lasting", desc := "()I" } : Jvm.MethodName)) ∈ lw_tbl := it2 (List.mem_of_getElem? (i := 31) rfl)
set_option maxRecDepth 20000 in
theorem w_272 : (Jvm.Cond.methodLink "LavenderParts$Singer" (45 : Nat) ({ cls := "java/lang/Math", name := "min", desc := "(II)I" } : Jvm.MethodName)) ∈ lw_tbl := it2 (List.mem_of_getElem? (i := 32) rfl)
set_option maxRecDepth 20000 in
theorem w_273 : (Jvm.Cond.static ({ cls := "java/lang/Math", name := "min", desc := "(II)I" } : Jvm.MethodName)) ∈ lw_tbl := it2 (List.mem_of_getElem? (i := 33) rfl)
set_option maxRecDepth 20000 in
theorem w_274 : (Jvm.Cond.code ({ cls := "java/lang/Math", name := "min", desc := "(II)I" } : Jvm.MethodName) prog_11_method_69_code (2 : Nat) (Option.some Jvm.ClassFile.FieldType.int)) ∈ lw_tbl := it2 (List.mem_of_getElem? (i := 34) rfl)
set_option maxRecDepth 20000 in
theorem w_275 : (Jvm.Cond.methodLink "LavenderPartsLaw" (36 : Nat) ({ cls := "LavenderParts", name := "go", desc := "(I)I" } : Jvm.MethodName)) ∈ lw_tbl := it2 (List.mem_of_getElem? (i := 35) rfl)
set_option maxRecDepth 20000 in
theorem w_276 : (Jvm.Cond.instanceMethod ({ cls := "LavenderParts", name := "go", desc := "(I)I" } : Jvm.MethodName)) ∈ lw_tbl := it2 (List.mem_of_getElem? (i := 36) rfl)
set_option maxRecDepth 20000 in
theorem w_277 : (Jvm.Cond.selects "LavenderParts" ({ cls := "LavenderParts", name := "go", desc := "(I)I" } : Jvm.MethodName) ({ cls := "LavenderParts", name := "go", desc := "(I)I" } : Jvm.MethodName)) ∈ lw_tbl := it2 (List.mem_of_getElem? (i := 37) rfl)
set_option maxRecDepth 20000 in
theorem w_278 : (Jvm.Cond.code ({ cls := "LavenderParts", name := "go", desc := "(I)I" } : Jvm.MethodName) prog_1_method_7_code (2 : Nat) (Option.some Jvm.ClassFile.FieldType.int)) ∈ lw_tbl := it2 (List.mem_of_getElem? (i := 38) rfl)
set_option maxRecDepth 20000 in
theorem w_279 : (Jvm.Cond.methodLink "LavenderParts" (83 : Nat) ({ cls := "LavenderParts$Square", name := "hasDaysFor", desc := "(I)Z" } : Jvm.MethodName)) ∈ lw_tbl := it2 (List.mem_of_getElem? (i := 39) rfl)
set_option maxRecDepth 20000 in
theorem w_280 : (Jvm.Cond.instanceMethod ({ cls := "LavenderParts$Square", name := "hasDaysFor", desc := "(I)Z" } : Jvm.MethodName)) ∈ lw_tbl := it2 (List.mem_of_getElem? (i := 40) rfl)
set_option maxRecDepth 20000 in
theorem w_281 : (Jvm.Cond.selects "LavenderParts$Square" ({ cls := "LavenderParts$Square", name := "hasDaysFor", desc := "(I)Z" } : Jvm.MethodName) ({ cls := "LavenderParts$Square", name := "hasDaysFor", desc := "(I)Z" } : Jvm.MethodName)) ∈ lw_tbl := it2 (List.mem_of_getElem? (i := 41) rfl)
set_option maxRecDepth 20000 in
theorem w_282 : (Jvm.Cond.code ({ cls := "LavenderParts$Square", name := "hasDaysFor", desc := "(I)Z" } : Jvm.MethodName) prog_5_method_20_code (2 : Nat) (Option.some Jvm.ClassFile.FieldType.boolean)) ∈ lw_tbl := it2 (List.mem_of_getElem? (i := 42) rfl)
set_option maxRecDepth 20000 in
theorem w_283 : (Jvm.Cond.constant "LavenderParts$Square" (102 : Nat) (99999 : Int32)) ∈ lw_tbl := it2 (List.mem_of_getElem? (i := 43) rfl)
set_option maxRecDepth 20000 in
theorem w_284 : (Jvm.Cond.methodLink "LavenderParts" (86 : Nat) ({ cls := "LavenderParts$Square", name := "passDays", desc := "(I)V" } : Jvm.MethodName)) ∈ lw_tbl := it2 (List.mem_of_getElem? (i := 44) rfl)
set_option maxRecDepth 20000 in
theorem w_285 : (Jvm.Cond.instanceMethod ({ cls := "LavenderParts$Square", name := "passDays", desc := "(I)V" } : Jvm.MethodName)) ∈ lw_tbl := it2 (List.mem_of_getElem? (i := 45) rfl)
set_option maxRecDepth 20000 in
theorem w_286 : (Jvm.Cond.selects "LavenderParts$Square" ({ cls := "LavenderParts$Square", name := "passDays", desc := "(I)V" } : Jvm.MethodName) ({ cls := "LavenderParts$Square", name := "passDays", desc := "(I)V" } : Jvm.MethodName)) ∈ lw_tbl := it2 (List.mem_of_getElem? (i := 46) rfl)
set_option maxRecDepth 20000 in
theorem w_287 : (Jvm.Cond.code ({ cls := "LavenderParts$Square", name := "passDays", desc := "(I)V" } : Jvm.MethodName) prog_5_method_22_code (3 : Nat) (Option.none : Option Jvm.ClassFile.FieldType)) ∈ lw_tbl := it2 (List.mem_of_getElem? (i := 47) rfl)
set_option maxRecDepth 20000 in
theorem w_288 : (Jvm.Cond.methodLink "LavenderParts$Square" (104 : Nat) ({ cls := "LavenderParts$Square", name := "singOn", desc := "()V" } : Jvm.MethodName)) ∈ lw_tbl := it2 (List.mem_of_getElem? (i := 48) rfl)
set_option maxRecDepth 20000 in
theorem w_290 : (Jvm.Cond.instanceMethod ({ cls := "LavenderParts$Square", name := "singOn", desc := "()V" } : Jvm.MethodName)) ∈ lw_tbl := it2 (List.mem_of_getElem? (i := 50) rfl)
set_option maxRecDepth 20000 in
theorem w_291 : (Jvm.Cond.code ({ cls := "LavenderParts$Square", name := "singOn", desc := "()V" } : Jvm.MethodName) prog_5_method_23_code (3 : Nat) (Option.none : Option Jvm.ClassFile.FieldType)) ∈ lw_tbl := it2 (List.mem_of_getElem? (i := 51) rfl)
set_option maxRecDepth 20000 in
theorem w_292 : (Jvm.Cond.methodLink "LavenderParts$Square" (107 : Nat) ({ cls := "LavenderParts$Square", name := "comeIn", desc := "()V" } : Jvm.MethodName)) ∈ lw_tbl := it2 (List.mem_of_getElem? (i := 52) rfl)
set_option maxRecDepth 20000 in
theorem w_294 : (Jvm.Cond.instanceMethod ({ cls := "LavenderParts$Square", name := "comeIn", desc := "()V" } : Jvm.MethodName)) ∈ lw_tbl := it2 (List.mem_of_getElem? (i := 54) rfl)
set_option maxRecDepth 20000 in
theorem w_295 : (Jvm.Cond.code ({ cls := "LavenderParts$Square", name := "comeIn", desc := "()V" } : Jvm.MethodName) prog_5_method_24_code (4 : Nat) (Option.none : Option Jvm.ClassFile.FieldType)) ∈ lw_tbl := it2 (List.mem_of_getElem? (i := 55) rfl)
set_option maxRecDepth 20000 in
theorem w_296 : (Jvm.Cond.methodLink "LavenderParts$Square" (113 : Nat) ({ cls := "LavenderParts$Square", name := "today", desc := "()I" } : Jvm.MethodName)) ∈ lw_tbl := it2 (List.mem_of_getElem? (i := 56) rfl)
set_option maxRecDepth 20000 in
theorem w_297 : (Jvm.Cond.instanceMethod ({ cls := "LavenderParts$Square", name := "today", desc := "()I" } : Jvm.MethodName)) ∈ lw_tbl := it2 (List.mem_of_getElem? (i := 57) rfl)
set_option maxRecDepth 20000 in
theorem w_298 : (Jvm.Cond.selects "LavenderParts$Square" ({ cls := "LavenderParts$Square", name := "today", desc := "()I" } : Jvm.MethodName) ({ cls := "LavenderParts$Square", name := "today", desc := "()I" } : Jvm.MethodName)) ∈ lw_tbl := it2 (List.mem_of_getElem? (i := 58) rfl)
set_option maxRecDepth 20000 in
theorem w_299 : (Jvm.Cond.code ({ cls := "LavenderParts$Square", name := "today", desc := "()I" } : Jvm.MethodName) prog_5_method_19_code (1 : Nat) (Option.some Jvm.ClassFile.FieldType.int)) ∈ lw_tbl := it2 (List.mem_of_getElem? (i := 59) rfl)
set_option maxRecDepth 20000 in
theorem w_300 : (Jvm.Cond.methodLink "LavenderParts$Square" (128 : Nat) ({ cls := "LavenderParts$Square", name := "listen", desc := "(LLavenderParts$Singer;I)V" } : Jvm.MethodName)) ∈ lw_tbl := it2 (List.mem_of_getElem? (i := 60) rfl)
set_option maxRecDepth 20000 in
theorem w_302 : (Jvm.Cond.instanceMethod ({ cls := "LavenderParts$Square", name := "listen", desc := "(LLavenderParts$Singer;I)V" } : Jvm.MethodName)) ∈ lw_tbl := it2 (List.mem_of_getElem? (i := 62) rfl)
set_option maxRecDepth 20000 in
theorem w_303 : (Jvm.Cond.code ({ cls := "LavenderParts$Square", name := "listen", desc := "(LLavenderParts$Singer;I)V" } : Jvm.MethodName) prog_5_method_25_code (4 : Nat) (Option.none : Option Jvm.ClassFile.FieldType)) ∈ lw_tbl := it2 (List.mem_of_getElem? (i := 63) rfl)
set_option maxRecDepth 20000 in
theorem w_304 : (Jvm.Cond.methodLink "LavenderParts$Square" (119 : Nat) ({ cls := "java/lang/Math", name := "min", desc := "(II)I" } : Jvm.MethodName)) ∈ lw_tbl := it2 (List.mem_of_getElem? (i := 64) rfl)
set_option maxRecDepth 20000 in
theorem w_305 : (Jvm.Cond.methodLink "LavenderParts$Square" (110 : Nat) ({ cls := "LavenderParts$Square", name := "sell", desc := "()V" } : Jvm.MethodName)) ∈ lw_tbl := it2 (List.mem_of_getElem? (i := 65) rfl)
set_option maxRecDepth 20000 in
theorem w_307 : (Jvm.Cond.instanceMethod ({ cls := "LavenderParts$Square", name := "sell", desc := "()V" } : Jvm.MethodName)) ∈ lw_tbl := it2 (List.mem_of_getElem? (i := 67) rfl)
set_option maxRecDepth 20000 in
theorem w_308 : (Jvm.Cond.code ({ cls := "LavenderParts$Square", name := "sell", desc := "()V" } : Jvm.MethodName) prog_5_method_26_code (4 : Nat) (Option.none : Option Jvm.ClassFile.FieldType)) ∈ lw_tbl := it2 (List.mem_of_getElem? (i := 68) rfl)
set_option maxRecDepth 20000 in
theorem w_309 : (Jvm.Cond.methodLink "LavenderParts$Square" (116 : Nat) ({ cls := "LavenderParts$Square", name := "growOlder", desc := "()V" } : Jvm.MethodName)) ∈ lw_tbl := it2 (List.mem_of_getElem? (i := 69) rfl)
set_option maxRecDepth 20000 in
theorem w_311 : (Jvm.Cond.instanceMethod ({ cls := "LavenderParts$Square", name := "growOlder", desc := "()V" } : Jvm.MethodName)) ∈ lw_tbl := it2 (List.mem_of_getElem? (i := 71) rfl)
set_option maxRecDepth 20000 in
theorem w_312 : (Jvm.Cond.code ({ cls := "LavenderParts$Square", name := "growOlder", desc := "()V" } : Jvm.MethodName) prog_5_method_28_code (2 : Nat) (Option.none : Option Jvm.ClassFile.FieldType)) ∈ lw_tbl := it2 (List.mem_of_getElem? (i := 72) rfl)
set_option maxRecDepth 20000 in
theorem w_313 : (Jvm.Cond.methodLink "LavenderParts$Square" (135 : Nat) ({ cls := "LavenderParts$Singer", name := "growOlder", desc := "()V" } : Jvm.MethodName)) ∈ lw_tbl := it2 (List.mem_of_getElem? (i := 73) rfl)
set_option maxRecDepth 20000 in
theorem w_314 : (Jvm.Cond.instanceMethod ({ cls := "LavenderParts$Singer", name := "growOlder", desc := "()V" } : Jvm.MethodName)) ∈ lw_tbl := it2 (List.mem_of_getElem? (i := 74) rfl)
set_option maxRecDepth 20000 in
theorem w_315 : (Jvm.Cond.selects "LavenderParts$Singer" ({ cls := "LavenderParts$Singer", name := "growOlder", desc := "()V" } : Jvm.MethodName) ({ cls := "LavenderParts$Singer", name := "growOlder", desc := "()V" } : Jvm.MethodName)) ∈ lw_tbl := it2 (List.mem_of_getElem? (i := 75) rfl)
set_option maxRecDepth 20000 in
theorem w_316 : (Jvm.Cond.code ({ cls := "LavenderParts$Singer", name := "growOlder", desc := "()V" } : Jvm.MethodName) prog_4_method_12_code (1 : Nat) (Option.none : Option Jvm.ClassFile.FieldType)) ∈ lw_tbl := it2 (List.mem_of_getElem? (i := 76) rfl)
set_option maxRecDepth 20000 in
theorem w_317 : (Jvm.Cond.methodLink "LavenderParts$Singer" (51 : Nat) ({ cls := "LavenderParts$Singer", name := "wearing", desc := "()I" } : Jvm.MethodName)) ∈ lw_tbl := it2 (List.mem_of_getElem? (i := 77) rfl)
set_option maxRecDepth 20000 in
theorem w_318 : (Jvm.Cond.methodLink "LavenderParts$Singer" (54 : Nat) ({ cls := "java/lang/Math", name := "max", desc := "(II)I" } : Jvm.MethodName)) ∈ lw_tbl := it2 (List.mem_of_getElem? (i := 78) rfl)
set_option maxRecDepth 20000 in
theorem w_319 : (Jvm.Cond.static ({ cls := "java/lang/Math", name := "max", desc := "(II)I" } : Jvm.MethodName)) ∈ lw_tbl := it2 (List.mem_of_getElem? (i := 79) rfl)
set_option maxRecDepth 20000 in
theorem w_320 : (Jvm.Cond.code ({ cls := "java/lang/Math", name := "max", desc := "(II)I" } : Jvm.MethodName) prog_11_method_65_code (2 : Nat) (Option.some Jvm.ClassFile.FieldType.int)) ∈ lw_tbl := it2 (List.mem_of_getElem? (i := 80) rfl)
set_option maxRecDepth 20000 in
theorem w_321 : (Jvm.Cond.methodLink "LavenderParts" (89 : Nat) ({ cls := "LavenderParts$Square", name := "singing", desc := "()I" } : Jvm.MethodName)) ∈ lw_tbl := it2 (List.mem_of_getElem? (i := 81) rfl)
set_option maxRecDepth 20000 in
theorem w_322 : (Jvm.Cond.methodLink "LavenderPartsLaw" (40 : Nat) ({ cls := "LavenderParts", name := "now", desc := "(I)I" } : Jvm.MethodName)) ∈ lw_tbl := it2 (List.mem_of_getElem? (i := 82) rfl)
set_option maxRecDepth 20000 in
theorem w_323 : (Jvm.Cond.instanceMethod ({ cls := "LavenderParts", name := "now", desc := "(I)I" } : Jvm.MethodName)) ∈ lw_tbl := it2 (List.mem_of_getElem? (i := 83) rfl)
set_option maxRecDepth 20000 in
theorem w_324 : (Jvm.Cond.selects "LavenderParts" ({ cls := "LavenderParts", name := "now", desc := "(I)I" } : Jvm.MethodName) ({ cls := "LavenderParts", name := "now", desc := "(I)I" } : Jvm.MethodName)) ∈ lw_tbl := it2 (List.mem_of_getElem? (i := 84) rfl)
set_option maxRecDepth 20000 in
theorem w_325 : (Jvm.Cond.code ({ cls := "LavenderParts", name := "now", desc := "(I)I" } : Jvm.MethodName) prog_1_method_8_code (2 : Nat) (Option.some Jvm.ClassFile.FieldType.int)) ∈ lw_tbl := it2 (List.mem_of_getElem? (i := 85) rfl)
set_option maxRecDepth 20000 in
theorem w_326 : (Jvm.Cond.methodLink "LavenderParts" (97 : Nat) ({ cls := "LavenderParts$Square", name := "waiting", desc := "()I" } : Jvm.MethodName)) ∈ lw_tbl := it2 (List.mem_of_getElem? (i := 86) rfl)
set_option maxRecDepth 20000 in
theorem w_327 : (Jvm.Cond.instanceMethod ({ cls := "LavenderParts$Square", name := "waiting", desc := "()I" } : Jvm.MethodName)) ∈ lw_tbl := it2 (List.mem_of_getElem? (i := 87) rfl)
set_option maxRecDepth 20000 in
theorem w_328 : (Jvm.Cond.selects "LavenderParts$Square" ({ cls := "LavenderParts$Square", name := "waiting", desc := "()I" } : Jvm.MethodName) ({ cls := "LavenderParts$Square", name := "waiting", desc := "()I" } : Jvm.MethodName)) ∈ lw_tbl := it2 (List.mem_of_getElem? (i := 88) rfl)
set_option maxRecDepth 20000 in
theorem w_329 : (Jvm.Cond.code ({ cls := "LavenderParts$Square", name := "waiting", desc := "()I" } : Jvm.MethodName) prog_5_method_12_code (3 : Nat) (Option.some Jvm.ClassFile.FieldType.int)) ∈ lw_tbl := it2 (List.mem_of_getElem? (i := 89) rfl)
set_option maxRecDepth 20000 in
theorem w_330 : (Jvm.Cond.methodLink "LavenderParts" (103 : Nat) ({ cls := "LavenderParts$Square", name := "total", desc := "(I)I" } : Jvm.MethodName)) ∈ lw_tbl := it2 (List.mem_of_getElem? (i := 90) rfl)
set_option maxRecDepth 20000 in
theorem w_331 : (Jvm.Cond.instanceMethod ({ cls := "LavenderParts$Square", name := "total", desc := "(I)I" } : Jvm.MethodName)) ∈ lw_tbl := it2 (List.mem_of_getElem? (i := 91) rfl)
set_option maxRecDepth 20000 in
theorem w_332 : (Jvm.Cond.selects "LavenderParts$Square" ({ cls := "LavenderParts$Square", name := "total", desc := "(I)I" } : Jvm.MethodName) ({ cls := "LavenderParts$Square", name := "total", desc := "(I)I" } : Jvm.MethodName)) ∈ lw_tbl := it2 (List.mem_of_getElem? (i := 92) rfl)
set_option maxRecDepth 20000 in
theorem w_333 : (Jvm.Cond.code ({ cls := "LavenderParts$Square", name := "total", desc := "(I)I" } : Jvm.MethodName) prog_5_method_16_code (4 : Nat) (Option.some Jvm.ClassFile.FieldType.int)) ∈ lw_tbl := it2 (List.mem_of_getElem? (i := 93) rfl)
set_option maxRecDepth 20000 in
theorem w_334 : (Jvm.Cond.methodLink "LavenderParts" (106 : Nat) ({ cls := "LavenderParts$Square", name := "gone", desc := "()I" } : Jvm.MethodName)) ∈ lw_tbl := it2 (List.mem_of_getElem? (i := 94) rfl)
set_option maxRecDepth 20000 in
theorem w_335 : (Jvm.Cond.instanceMethod ({ cls := "LavenderParts$Square", name := "gone", desc := "()I" } : Jvm.MethodName)) ∈ lw_tbl := it2 (List.mem_of_getElem? (i := 95) rfl)
set_option maxRecDepth 20000 in
theorem w_336 : (Jvm.Cond.selects "LavenderParts$Square" ({ cls := "LavenderParts$Square", name := "gone", desc := "()I" } : Jvm.MethodName) ({ cls := "LavenderParts$Square", name := "gone", desc := "()I" } : Jvm.MethodName)) ∈ lw_tbl := it2 (List.mem_of_getElem? (i := 96) rfl)
set_option maxRecDepth 20000 in
theorem w_337 : (Jvm.Cond.code ({ cls := "LavenderParts$Square", name := "gone", desc := "()I" } : Jvm.MethodName) prog_5_method_13_code (1 : Nat) (Option.some Jvm.ClassFile.FieldType.int)) ∈ lw_tbl := it2 (List.mem_of_getElem? (i := 97) rfl)
set_option maxRecDepth 20000 in
theorem w_338 : (Jvm.Cond.methodLink "LavenderParts" (109 : Nat) ({ cls := "LavenderParts$Square", name := "today", desc := "()I" } : Jvm.MethodName)) ∈ lw_tbl := it2 (List.mem_of_getElem? (i := 98) rfl)
set_option maxRecDepth 20000 in
theorem w_339 : (Jvm.Cond.methodLink "LavenderPartsLaw" (44 : Nat) ({ cls := "LavenderParts", name := "ahead", desc := "(III)I" } : Jvm.MethodName)) ∈ lw_tbl := it2 (List.mem_of_getElem? (i := 99) rfl)
set_option maxRecDepth 20000 in
theorem w_340 : (Jvm.Cond.instanceMethod ({ cls := "LavenderParts", name := "ahead", desc := "(III)I" } : Jvm.MethodName)) ∈ lw_tbl := it2 (List.mem_of_getElem? (i := 100) rfl)
set_option maxRecDepth 20000 in
theorem w_341 : (Jvm.Cond.selects "LavenderParts" ({ cls := "LavenderParts", name := "ahead", desc := "(III)I" } : Jvm.MethodName) ({ cls := "LavenderParts", name := "ahead", desc := "(III)I" } : Jvm.MethodName)) ∈ lw_tbl := it2 (List.mem_of_getElem? (i := 101) rfl)
set_option maxRecDepth 20000 in
theorem w_342 : (Jvm.Cond.code ({ cls := "LavenderParts", name := "ahead", desc := "(III)I" } : Jvm.MethodName) prog_1_method_9_code (4 : Nat) (Option.some Jvm.ClassFile.FieldType.int)) ∈ lw_tbl := it2 (List.mem_of_getElem? (i := 102) rfl)
set_option maxRecDepth 20000 in
theorem w_343 : (Jvm.Cond.methodLink "LavenderParts" (112 : Nat) ({ cls := "LavenderParts", name := "isForetold", desc := "(I)Z" } : Jvm.MethodName)) ∈ lw_tbl := it2 (List.mem_of_getElem? (i := 103) rfl)
set_option maxRecDepth 20000 in
theorem w_344 : (Jvm.Cond.static ({ cls := "LavenderParts", name := "isForetold", desc := "(I)Z" } : Jvm.MethodName)) ∈ lw_tbl := it2 (List.mem_of_getElem? (i := 104) rfl)
set_option maxRecDepth 20000 in
theorem w_345 : (Jvm.Cond.code ({ cls := "LavenderParts", name := "isForetold", desc := "(I)Z" } : Jvm.MethodName) prog_1_method_43_code (1 : Nat) (Option.some Jvm.ClassFile.FieldType.boolean)) ∈ lw_tbl := it2 (List.mem_of_getElem? (i := 105) rfl)
set_option maxRecDepth 20000 in
theorem w_346 : (Jvm.Cond.methodLink "LavenderParts" (115 : Nat) ({ cls := "LavenderParts$Square", name := "become", desc := "(LLavenderParts$Square;)V" } : Jvm.MethodName)) ∈ lw_tbl := it2 (List.mem_of_getElem? (i := 106) rfl)
set_option maxRecDepth 20000 in
theorem w_347 : (Jvm.Cond.instanceMethod ({ cls := "LavenderParts$Square", name := "become", desc := "(LLavenderParts$Square;)V" } : Jvm.MethodName)) ∈ lw_tbl := it2 (List.mem_of_getElem? (i := 107) rfl)
set_option maxRecDepth 20000 in
theorem w_348 : (Jvm.Cond.selects "LavenderParts$Square" ({ cls := "LavenderParts$Square", name := "become", desc := "(LLavenderParts$Square;)V" } : Jvm.MethodName) ({ cls := "LavenderParts$Square", name := "become", desc := "(LLavenderParts$Square;)V" } : Jvm.MethodName)) ∈ lw_tbl := it2 (List.mem_of_getElem? (i := 108) rfl)
set_option maxRecDepth 20000 in
theorem w_349 : (Jvm.Cond.code ({ cls := "LavenderParts$Square", name := "become", desc := "(LLavenderParts$Square;)V" } : Jvm.MethodName) prog_5_method_2_code (3 : Nat) (Option.none : Option Jvm.ClassFile.FieldType)) ∈ lw_tbl := it2 (List.mem_of_getElem? (i := 109) rfl)
set_option maxRecDepth 20000 in
theorem w_350 : (Jvm.Cond.methodLink "LavenderParts$Square" (33 : Nat) ({ cls := "LavenderParts$Singer", name := "become", desc := "(LLavenderParts$Singer;)V" } : Jvm.MethodName)) ∈ lw_tbl := it2 (List.mem_of_getElem? (i := 110) rfl)
set_option maxRecDepth 20000 in
theorem w_351 : (Jvm.Cond.instanceMethod ({ cls := "LavenderParts$Singer", name := "become", desc := "(LLavenderParts$Singer;)V" } : Jvm.MethodName)) ∈ lw_tbl := it2 (List.mem_of_getElem? (i := 111) rfl)
set_option maxRecDepth 20000 in
theorem w_352 : (Jvm.Cond.selects "LavenderParts$Singer" ({ cls := "LavenderParts$Singer", name := "become", desc := "(LLavenderParts$Singer;)V" } : Jvm.MethodName) ({ cls := "LavenderParts$Singer", name := "become", desc := "(LLavenderParts$Singer;)V" } : Jvm.MethodName)) ∈ lw_tbl := it2 (List.mem_of_getElem? (i := 112) rfl)
set_option maxRecDepth 20000 in
theorem w_353 : (Jvm.Cond.code ({ cls := "LavenderParts$Singer", name := "become", desc := "(LLavenderParts$Singer;)V" } : Jvm.MethodName) prog_4_method_3_code (2 : Nat) (Option.none : Option Jvm.ClassFile.FieldType)) ∈ lw_tbl := it2 (List.mem_of_getElem? (i := 113) rfl)
set_option maxRecDepth 20000 in
theorem w_354 : (Jvm.Cond.methodLink "LavenderParts$Square" (37 : Nat) ({ cls := "java/lang/System", name := "arraycopy", desc := "(Ljava/lang/Object;ILjava/lang/Object;II)V" } : Jvm.MethodName)) ∈ lw_tbl := it2 (List.mem_of_getElem? (i := 114) rfl)
set_option maxRecDepth 20000 in
theorem w_355 : (Jvm.Cond.methodLink "LavenderPartsLaw" (48 : Nat) ({ cls := "LavenderParts", name := "sings", desc := "(I)I" } : Jvm.MethodName)) ∈ lw_tbl := it2 (List.mem_of_getElem? (i := 115) rfl)
set_option maxRecDepth 20000 in
theorem w_356 : (Jvm.Cond.instanceMethod ({ cls := "LavenderParts", name := "sings", desc := "(I)I" } : Jvm.MethodName)) ∈ lw_tbl := it2 (List.mem_of_getElem? (i := 116) rfl)
set_option maxRecDepth 20000 in
theorem w_357 : (Jvm.Cond.selects "LavenderParts" ({ cls := "LavenderParts", name := "sings", desc := "(I)I" } : Jvm.MethodName) ({ cls := "LavenderParts", name := "sings", desc := "(I)I" } : Jvm.MethodName)) ∈ lw_tbl := it2 (List.mem_of_getElem? (i := 117) rfl)
set_option maxRecDepth 20000 in
theorem w_358 : (Jvm.Cond.code ({ cls := "LavenderParts", name := "sings", desc := "(I)I" } : Jvm.MethodName) prog_1_method_10_code (2 : Nat) (Option.some Jvm.ClassFile.FieldType.int)) ∈ lw_tbl := it2 (List.mem_of_getElem? (i := 118) rfl)
set_option maxRecDepth 20000 in
theorem w_359 : (Jvm.Cond.methodLink "LavenderParts" (119 : Nat) ({ cls := "LavenderParts", name := "daysTillAllSing", desc := "(I)I" } : Jvm.MethodName)) ∈ lw_tbl := it2 (List.mem_of_getElem? (i := 119) rfl)
set_option maxRecDepth 20000 in
theorem w_361 : (Jvm.Cond.instanceMethod ({ cls := "LavenderParts", name := "daysTillAllSing", desc := "(I)I" } : Jvm.MethodName)) ∈ lw_tbl := it2 (List.mem_of_getElem? (i := 121) rfl)
set_option maxRecDepth 20000 in
theorem w_362 : (Jvm.Cond.code ({ cls := "LavenderParts", name := "daysTillAllSing", desc := "(I)I" } : Jvm.MethodName) prog_1_method_44_code (3 : Nat) (Option.some Jvm.ClassFile.FieldType.int)) ∈ lw_tbl := it2 (List.mem_of_getElem? (i := 122) rfl)
set_option maxRecDepth 20000 in
theorem w_363 : (Jvm.Cond.methodLink "LavenderPartsLaw" (52 : Nat) ({ cls := "LavenderParts", name := "together", desc := "(II)I" } : Jvm.MethodName)) ∈ lw_tbl := it2 (List.mem_of_getElem? (i := 123) rfl)
set_option maxRecDepth 20000 in
theorem w_364 : (Jvm.Cond.instanceMethod ({ cls := "LavenderParts", name := "together", desc := "(II)I" } : Jvm.MethodName)) ∈ lw_tbl := it2 (List.mem_of_getElem? (i := 124) rfl)
set_option maxRecDepth 20000 in
theorem w_365 : (Jvm.Cond.selects "LavenderParts" ({ cls := "LavenderParts", name := "together", desc := "(II)I" } : Jvm.MethodName) ({ cls := "LavenderParts", name := "together", desc := "(II)I" } : Jvm.MethodName)) ∈ lw_tbl := it2 (List.mem_of_getElem? (i := 125) rfl)
set_option maxRecDepth 20000 in
theorem w_366 : (Jvm.Cond.code ({ cls := "LavenderParts", name := "together", desc := "(II)I" } : Jvm.MethodName) prog_1_method_11_code (3 : Nat) (Option.some Jvm.ClassFile.FieldType.int)) ∈ lw_tbl := it2 (List.mem_of_getElem? (i := 126) rfl)
set_option maxRecDepth 20000 in
theorem w_367 : (Jvm.Cond.methodLink "LavenderPartsLaw" (56 : Nat) ({ cls := "LavenderParts", name := "rest", desc := "(I)I" } : Jvm.MethodName)) ∈ lw_tbl := it2 (List.mem_of_getElem? (i := 127) rfl)
set_option maxRecDepth 20000 in
theorem w_368 : (Jvm.Cond.instanceMethod ({ cls := "LavenderParts", name := "rest", desc := "(I)I" } : Jvm.MethodName)) ∈ lw_tbl := it2 (List.mem_of_getElem? (i := 128) rfl)
set_option maxRecDepth 20000 in
theorem w_369 : (Jvm.Cond.selects "LavenderParts" ({ cls := "LavenderParts", name := "rest", desc := "(I)I" } : Jvm.MethodName) ({ cls := "LavenderParts", name := "rest", desc := "(I)I" } : Jvm.MethodName)) ∈ lw_tbl := it2 (List.mem_of_getElem? (i := 129) rfl)
set_option maxRecDepth 20000 in
theorem w_370 : (Jvm.Cond.code ({ cls := "LavenderParts", name := "rest", desc := "(I)I" } : Jvm.MethodName) prog_1_method_12_code (3 : Nat) (Option.some Jvm.ClassFile.FieldType.int)) ∈ lw_tbl := it2 (List.mem_of_getElem? (i := 130) rfl)
set_option maxRecDepth 20000 in
theorem w_371 : (Jvm.Cond.constant "LavenderParts" (122 : Nat) (99999 : Int32)) ∈ lw_tbl := it2 (List.mem_of_getElem? (i := 131) rfl)
set_option maxRecDepth 20000 in
theorem w_372 : (Jvm.Cond.methodLink "LavenderPartsLaw" (60 : Nat) ({ cls := "LavenderParts", name := "when", desc := "(II)I" } : Jvm.MethodName)) ∈ lw_tbl := it2 (List.mem_of_getElem? (i := 132) rfl)
set_option maxRecDepth 20000 in
theorem w_373 : (Jvm.Cond.instanceMethod ({ cls := "LavenderParts", name := "when", desc := "(II)I" } : Jvm.MethodName)) ∈ lw_tbl := it2 (List.mem_of_getElem? (i := 133) rfl)
set_option maxRecDepth 20000 in
theorem w_374 : (Jvm.Cond.selects "LavenderParts" ({ cls := "LavenderParts", name := "when", desc := "(II)I" } : Jvm.MethodName) ({ cls := "LavenderParts", name := "when", desc := "(II)I" } : Jvm.MethodName)) ∈ lw_tbl := it2 (List.mem_of_getElem? (i := 134) rfl)
set_option maxRecDepth 20000 in
theorem w_375 : (Jvm.Cond.code ({ cls := "LavenderParts", name := "when", desc := "(II)I" } : Jvm.MethodName) prog_1_method_13_code (4 : Nat) (Option.some Jvm.ClassFile.FieldType.int)) ∈ lw_tbl := it2 (List.mem_of_getElem? (i := 135) rfl)
set_option maxRecDepth 20000 in
theorem w_376 : (Jvm.Cond.methodLink "LavenderPartsLaw" (64 : Nat) ({ cls := "LavenderParts", name := "beginFor", desc := "(II)I" } : Jvm.MethodName)) ∈ lw_tbl := it2 (List.mem_of_getElem? (i := 136) rfl)
set_option maxRecDepth 20000 in
theorem w_377 : (Jvm.Cond.instanceMethod ({ cls := "LavenderParts", name := "beginFor", desc := "(II)I" } : Jvm.MethodName)) ∈ lw_tbl := it2 (List.mem_of_getElem? (i := 137) rfl)
set_option maxRecDepth 20000 in
theorem w_378 : (Jvm.Cond.selects "LavenderParts" ({ cls := "LavenderParts", name := "beginFor", desc := "(II)I" } : Jvm.MethodName) ({ cls := "LavenderParts", name := "beginFor", desc := "(II)I" } : Jvm.MethodName)) ∈ lw_tbl := it2 (List.mem_of_getElem? (i := 138) rfl)
set_option maxRecDepth 20000 in
theorem w_379 : (Jvm.Cond.code ({ cls := "LavenderParts", name := "beginFor", desc := "(II)I" } : Jvm.MethodName) prog_1_method_14_code (7 : Nat) (Option.some Jvm.ClassFile.FieldType.int)) ∈ lw_tbl := it2 (List.mem_of_getElem? (i := 139) rfl)
set_option maxRecDepth 20000 in
theorem w_380 : (Jvm.Cond.methodLink "LavenderParts" (123 : Nat) ({ cls := "LavenderParts", name := "tryOut", desc := "(IIII)V" } : Jvm.MethodName)) ∈ lw_tbl := it2 (List.mem_of_getElem? (i := 140) rfl)
set_option maxRecDepth 20000 in
theorem w_382 : (Jvm.Cond.instanceMethod ({ cls := "LavenderParts", name := "tryOut", desc := "(IIII)V" } : Jvm.MethodName)) ∈ lw_tbl := it2 (List.mem_of_getElem? (i := 142) rfl)
set_option maxRecDepth 20000 in
theorem w_383 : (Jvm.Cond.code ({ cls := "LavenderParts", name := "tryOut", desc := "(IIII)V" } : Jvm.MethodName) prog_1_method_45_code (5 : Nat) (Option.none : Option Jvm.ClassFile.FieldType)) ∈ lw_tbl := it2 (List.mem_of_getElem? (i := 143) rfl)
set_option maxRecDepth 20000 in
theorem w_384 : (Jvm.Cond.methodLink "LavenderPartsLaw" (68 : Nat) ({ cls := "LavenderParts", name := "answerFor", desc := "(II)I" } : Jvm.MethodName)) ∈ lw_tbl := it2 (List.mem_of_getElem? (i := 144) rfl)
set_option maxRecDepth 20000 in
theorem w_385 : (Jvm.Cond.instanceMethod ({ cls := "LavenderParts", name := "answerFor", desc := "(II)I" } : Jvm.MethodName)) ∈ lw_tbl := it2 (List.mem_of_getElem? (i := 145) rfl)
set_option maxRecDepth 20000 in
theorem w_386 : (Jvm.Cond.selects "LavenderParts" ({ cls := "LavenderParts", name := "answerFor", desc := "(II)I" } : Jvm.MethodName) ({ cls := "LavenderParts", name := "answerFor", desc := "(II)I" } : Jvm.MethodName)) ∈ lw_tbl := it2 (List.mem_of_getElem? (i := 146) rfl)
set_option maxRecDepth 20000 in
theorem w_387 : (Jvm.Cond.code ({ cls := "LavenderParts", name := "answerFor", desc := "(II)I" } : Jvm.MethodName) prog_1_method_15_code (7 : Nat) (Option.some Jvm.ClassFile.FieldType.int)) ∈ lw_tbl := it2 (List.mem_of_getElem? (i := 147) rfl)
set_option maxRecDepth 20000 in
theorem w_388 : (Jvm.Cond.methodLink "LavenderPartsLaw" (72 : Nat) ({ cls := "LavenderParts", name := "kindFor", desc := "(II)I" } : Jvm.MethodName)) ∈ lw_tbl := it2 (List.mem_of_getElem? (i := 148) rfl)
set_option maxRecDepth 20000 in
theorem w_389 : (Jvm.Cond.instanceMethod ({ cls := "LavenderParts", name := "kindFor", desc := "(II)I" } : Jvm.MethodName)) ∈ lw_tbl := it2 (List.mem_of_getElem? (i := 149) rfl)
set_option maxRecDepth 20000 in
theorem w_390 : (Jvm.Cond.selects "LavenderParts" ({ cls := "LavenderParts", name := "kindFor", desc := "(II)I" } : Jvm.MethodName) ({ cls := "LavenderParts", name := "kindFor", desc := "(II)I" } : Jvm.MethodName)) ∈ lw_tbl := it2 (List.mem_of_getElem? (i := 150) rfl)
set_option maxRecDepth 20000 in
theorem w_391 : (Jvm.Cond.code ({ cls := "LavenderParts", name := "kindFor", desc := "(II)I" } : Jvm.MethodName) prog_1_method_16_code (7 : Nat) (Option.some Jvm.ClassFile.FieldType.int)) ∈ lw_tbl := it2 (List.mem_of_getElem? (i := 151) rfl)
set_option maxRecDepth 20000 in
theorem w_392 : (Jvm.Cond.methodLink "LavenderPartsLaw" (76 : Nat) ({ cls := "LavenderParts", name := "ageFor", desc := "(II)I" } : Jvm.MethodName)) ∈ lw_tbl := it2 (List.mem_of_getElem? (i := 152) rfl)
set_option maxRecDepth 20000 in
theorem w_393 : (Jvm.Cond.instanceMethod ({ cls := "LavenderParts", name := "ageFor", desc := "(II)I" } : Jvm.MethodName)) ∈ lw_tbl := it2 (List.mem_of_getElem? (i := 153) rfl)
set_option maxRecDepth 20000 in
theorem w_394 : (Jvm.Cond.selects "LavenderParts" ({ cls := "LavenderParts", name := "ageFor", desc := "(II)I" } : Jvm.MethodName) ({ cls := "LavenderParts", name := "ageFor", desc := "(II)I" } : Jvm.MethodName)) ∈ lw_tbl := it2 (List.mem_of_getElem? (i := 154) rfl)
set_option maxRecDepth 20000 in
theorem w_395 : (Jvm.Cond.code ({ cls := "LavenderParts", name := "ageFor", desc := "(II)I" } : Jvm.MethodName) prog_1_method_17_code (4 : Nat) (Option.some Jvm.ClassFile.FieldType.int)) ∈ lw_tbl := it2 (List.mem_of_getElem? (i := 155) rfl)
set_option maxRecDepth 20000 in
theorem w_396 : (Jvm.Cond.methodLink "LavenderPartsLaw" (80 : Nat) ({ cls := "LavenderParts", name := "hush", desc := "(I)I" } : Jvm.MethodName)) ∈ lw_tbl := it2 (List.mem_of_getElem? (i := 156) rfl)
set_option maxRecDepth 20000 in
theorem w_397 : (Jvm.Cond.instanceMethod ({ cls := "LavenderParts", name := "hush", desc := "(I)I" } : Jvm.MethodName)) ∈ lw_tbl := it2 (List.mem_of_getElem? (i := 157) rfl)
set_option maxRecDepth 20000 in
theorem w_398 : (Jvm.Cond.selects "LavenderParts" ({ cls := "LavenderParts", name := "hush", desc := "(I)I" } : Jvm.MethodName) ({ cls := "LavenderParts", name := "hush", desc := "(I)I" } : Jvm.MethodName)) ∈ lw_tbl := it2 (List.mem_of_getElem? (i := 158) rfl)
set_option maxRecDepth 20000 in
theorem w_399 : (Jvm.Cond.code ({ cls := "LavenderParts", name := "hush", desc := "(I)I" } : Jvm.MethodName) prog_1_method_18_code (6 : Nat) (Option.some Jvm.ClassFile.FieldType.int)) ∈ lw_tbl := it2 (List.mem_of_getElem? (i := 159) rfl)
set_option maxRecDepth 20000 in
theorem w_400 : (Jvm.Cond.methodLink "LavenderParts" (130 : Nat) ({ cls := "java/lang/Integer", name := "bitCount", desc := "(I)I" } : Jvm.MethodName)) ∈ lw_tbl := it2 (List.mem_of_getElem? (i := 160) rfl)
set_option maxRecDepth 20000 in
theorem w_401 : (Jvm.Cond.static ({ cls := "java/lang/Integer", name := "bitCount", desc := "(I)I" } : Jvm.MethodName)) ∈ lw_tbl := it2 (List.mem_of_getElem? (i := 161) rfl)
set_option maxRecDepth 20000 in
theorem w_402 : (Jvm.Cond.code ({ cls := "java/lang/Integer", name := "bitCount", desc := "(I)I" } : Jvm.MethodName) prog_9_method_49_code (1 : Nat) (Option.some Jvm.ClassFile.FieldType.int)) ∈ lw_tbl := it2 (List.mem_of_getElem? (i := 162) rfl)
set_option maxRecDepth 20000 in
theorem w_403 : (Jvm.Cond.constant "java/lang/Integer" (265 : Nat) (1431655765 : Int32)) ∈ lw_tbl := it2 (List.mem_of_getElem? (i := 163) rfl)
set_option maxRecDepth 20000 in
theorem w_404 : (Jvm.Cond.constant "java/lang/Integer" (266 : Nat) (858993459 : Int32)) ∈ lw_tbl := it2 (List.mem_of_getElem? (i := 164) rfl)
set_option maxRecDepth 20000 in
theorem w_405 : (Jvm.Cond.constant "java/lang/Integer" (267 : Nat) (252645135 : Int32)) ∈ lw_tbl := it2 (List.mem_of_getElem? (i := 165) rfl)
set_option maxRecDepth 20000 in
theorem w_406 : (Jvm.Cond.methodLink "LavenderParts" (135 : Nat) ({ cls := "LavenderParts", name := "isStillWithout", desc := "(II)Z" } : Jvm.MethodName)) ∈ lw_tbl := it2 (List.mem_of_getElem? (i := 166) rfl)
set_option maxRecDepth 20000 in
theorem w_408 : (Jvm.Cond.instanceMethod ({ cls := "LavenderParts", name := "isStillWithout", desc := "(II)Z" } : Jvm.MethodName)) ∈ lw_tbl := it2 (List.mem_of_getElem? (i := 168) rfl)
set_option maxRecDepth 20000 in
theorem w_409 : (Jvm.Cond.code ({ cls := "LavenderParts", name := "isStillWithout", desc := "(II)Z" } : Jvm.MethodName) prog_1_method_46_code (4 : Nat) (Option.some Jvm.ClassFile.FieldType.boolean)) ∈ lw_tbl := it2 (List.mem_of_getElem? (i := 169) rfl)
set_option maxRecDepth 20000 in
theorem w_410 : (Jvm.Cond.methodLink "LavenderParts" (219 : Nat) ({ cls := "LavenderParts$Square", name := "kill", desc := "(I)V" } : Jvm.MethodName)) ∈ lw_tbl := it2 (List.mem_of_getElem? (i := 170) rfl)
set_option maxRecDepth 20000 in
theorem w_411 : (Jvm.Cond.instanceMethod ({ cls := "LavenderParts$Square", name := "kill", desc := "(I)V" } : Jvm.MethodName)) ∈ lw_tbl := it2 (List.mem_of_getElem? (i := 171) rfl)
set_option maxRecDepth 20000 in
theorem w_412 : (Jvm.Cond.selects "LavenderParts$Square" ({ cls := "LavenderParts$Square", name := "kill", desc := "(I)V" } : Jvm.MethodName) ({ cls := "LavenderParts$Square", name := "kill", desc := "(I)V" } : Jvm.MethodName)) ∈ lw_tbl := it2 (List.mem_of_getElem? (i := 172) rfl)
set_option maxRecDepth 20000 in
theorem w_413 : (Jvm.Cond.code ({ cls := "LavenderParts$Square", name := "kill", desc := "(I)V" } : Jvm.MethodName) prog_5_method_10_code (3 : Nat) (Option.none : Option Jvm.ClassFile.FieldType)) ∈ lw_tbl := it2 (List.mem_of_getElem? (i := 173) rfl)
set_option maxRecDepth 20000 in
theorem w_414 : (Jvm.Cond.methodLink "LavenderPartsLaw" (84 : Nat) ({ cls := "LavenderParts", name := "longest", desc := "(I)I" } : Jvm.MethodName)) ∈ lw_tbl := it2 (List.mem_of_getElem? (i := 174) rfl)
set_option maxRecDepth 20000 in
theorem w_415 : (Jvm.Cond.instanceMethod ({ cls := "LavenderParts", name := "longest", desc := "(I)I" } : Jvm.MethodName)) ∈ lw_tbl := it2 (List.mem_of_getElem? (i := 175) rfl)
set_option maxRecDepth 20000 in
theorem w_416 : (Jvm.Cond.selects "LavenderParts" ({ cls := "LavenderParts", name := "longest", desc := "(I)I" } : Jvm.MethodName) ({ cls := "LavenderParts", name := "longest", desc := "(I)I" } : Jvm.MethodName)) ∈ lw_tbl := it2 (List.mem_of_getElem? (i := 176) rfl)
set_option maxRecDepth 20000 in
theorem w_417 : (Jvm.Cond.code ({ cls := "LavenderParts", name := "longest", desc := "(I)I" } : Jvm.MethodName) prog_1_method_19_code (4 : Nat) (Option.some Jvm.ClassFile.FieldType.int)) ∈ lw_tbl := it2 (List.mem_of_getElem? (i := 177) rfl)
set_option maxRecDepth 20000 in
theorem w_418 : (Jvm.Cond.methodLink "LavenderParts" (139 : Nat) ({ cls := "java/lang/Math", name := "max", desc := "(II)I" } : Jvm.MethodName)) ∈ lw_tbl := it2 (List.mem_of_getElem? (i := 178) rfl)
set_option maxRecDepth 20000 in
theorem w_419 : (Jvm.Cond.methodLink "LavenderPartsLaw" (88 : Nat) ({ cls := "LavenderParts", name := "fits", desc := "(II)I" } : Jvm.MethodName)) ∈ lw_tbl := it2 (List.mem_of_getElem? (i := 179) rfl)
set_option maxRecDepth 20000 in
theorem w_420 : (Jvm.Cond.instanceMethod ({ cls := "LavenderParts", name := "fits", desc := "(II)I" } : Jvm.MethodName)) ∈ lw_tbl := it2 (List.mem_of_getElem? (i := 180) rfl)
set_option maxRecDepth 20000 in
theorem w_421 : (Jvm.Cond.selects "LavenderParts" ({ cls := "LavenderParts", name := "fits", desc := "(II)I" } : Jvm.MethodName) ({ cls := "LavenderParts", name := "fits", desc := "(II)I" } : Jvm.MethodName)) ∈ lw_tbl := it2 (List.mem_of_getElem? (i := 181) rfl)
set_option maxRecDepth 20000 in
theorem w_422 : (Jvm.Cond.code ({ cls := "LavenderParts", name := "fits", desc := "(II)I" } : Jvm.MethodName) prog_1_method_20_code (6 : Nat) (Option.some Jvm.ClassFile.FieldType.int)) ∈ lw_tbl := it2 (List.mem_of_getElem? (i := 182) rfl)
set_option maxRecDepth 20000 in
theorem w_423 : (Jvm.Cond.methodLink "LavenderParts" (144 : Nat) ({ cls := "LavenderParts", name := "faultOfTold", desc := "(II)I" } : Jvm.MethodName)) ∈ lw_tbl := it2 (List.mem_of_getElem? (i := 183) rfl)
set_option maxRecDepth 20000 in
theorem w_425 : (Jvm.Cond.instanceMethod ({ cls := "LavenderParts", name := "faultOfTold", desc := "(II)I" } : Jvm.MethodName)) ∈ lw_tbl := it2 (List.mem_of_getElem? (i := 185) rfl)
set_option maxRecDepth 20000 in
theorem w_426 : (Jvm.Cond.code ({ cls := "LavenderParts", name := "faultOfTold", desc := "(II)I" } : Jvm.MethodName) prog_1_method_50_code (4 : Nat) (Option.some Jvm.ClassFile.FieldType.int)) ∈ lw_tbl := it2 (List.mem_of_getElem? (i := 186) rfl)
set_option maxRecDepth 20000 in
theorem w_427 : (Jvm.Cond.methodLink "LavenderParts" (195 : Nat) ({ cls := "LavenderParts", name := "faultOfSheet", desc := "(I)I" } : Jvm.MethodName)) ∈ lw_tbl := it2 (List.mem_of_getElem? (i := 187) rfl)
set_option maxRecDepth 20000 in
theorem w_429 : (Jvm.Cond.instanceMethod ({ cls := "LavenderParts", name := "faultOfSheet", desc := "(I)I" } : Jvm.MethodName)) ∈ lw_tbl := it2 (List.mem_of_getElem? (i := 189) rfl)
set_option maxRecDepth 20000 in
theorem w_430 : (Jvm.Cond.code ({ cls := "LavenderParts", name := "faultOfSheet", desc := "(I)I" } : Jvm.MethodName) prog_1_method_49_code (2 : Nat) (Option.some Jvm.ClassFile.FieldType.int)) ∈ lw_tbl := it2 (List.mem_of_getElem? (i := 190) rfl)
set_option maxRecDepth 20000 in
theorem w_431 : (Jvm.Cond.methodLink "LavenderParts" (187 : Nat) ({ cls := "LavenderParts", name := "isSheet", desc := "(I)Z" } : Jvm.MethodName)) ∈ lw_tbl := it2 (List.mem_of_getElem? (i := 191) rfl)
set_option maxRecDepth 20000 in
theorem w_432 : (Jvm.Cond.static ({ cls := "LavenderParts", name := "isSheet", desc := "(I)Z" } : Jvm.MethodName)) ∈ lw_tbl := it2 (List.mem_of_getElem? (i := 192) rfl)
set_option maxRecDepth 20000 in
theorem w_433 : (Jvm.Cond.code ({ cls := "LavenderParts", name := "isSheet", desc := "(I)Z" } : Jvm.MethodName) prog_1_method_48_code (1 : Nat) (Option.some Jvm.ClassFile.FieldType.boolean)) ∈ lw_tbl := it2 (List.mem_of_getElem? (i := 193) rfl)
set_option maxRecDepth 20000 in
theorem w_434 : (Jvm.Cond.methodLink "LavenderParts" (147 : Nat) ({ cls := "LavenderParts", name := "isAsTold", desc := "(LLavenderParts$Sheet;III)Z" } : Jvm.MethodName)) ∈ lw_tbl := it2 (List.mem_of_getElem? (i := 194) rfl)
set_option maxRecDepth 20000 in
theorem w_436 : (Jvm.Cond.instanceMethod ({ cls := "LavenderParts", name := "isAsTold", desc := "(LLavenderParts$Sheet;III)Z" } : Jvm.MethodName)) ∈ lw_tbl := it2 (List.mem_of_getElem? (i := 196) rfl)
set_option maxRecDepth 20000 in
theorem w_437 : (Jvm.Cond.code ({ cls := "LavenderParts", name := "isAsTold", desc := "(LLavenderParts$Sheet;III)Z" } : Jvm.MethodName) prog_1_method_47_code (7 : Nat) (Option.some Jvm.ClassFile.FieldType.boolean)) ∈ lw_tbl := it2 (List.mem_of_getElem? (i := 197) rfl)
set_option maxRecDepth 20000 in
theorem w_438 : (Jvm.Cond.methodLink "LavenderPartsLaw" (92 : Nat) ({ cls := "LavenderParts", name := "date", desc := "(II)I" } : Jvm.MethodName)) ∈ lw_tbl := it2 (List.mem_of_getElem? (i := 198) rfl)
set_option maxRecDepth 20000 in
theorem w_439 : (Jvm.Cond.instanceMethod ({ cls := "LavenderParts", name := "date", desc := "(II)I" } : Jvm.MethodName)) ∈ lw_tbl := it2 (List.mem_of_getElem? (i := 199) rfl)
set_option maxRecDepth 20000 in
theorem w_440 : (Jvm.Cond.selects "LavenderParts" ({ cls := "LavenderParts", name := "date", desc := "(II)I" } : Jvm.MethodName) ({ cls := "LavenderParts", name := "date", desc := "(II)I" } : Jvm.MethodName)) ∈ lw_tbl := it2 (List.mem_of_getElem? (i := 200) rfl)
set_option maxRecDepth 20000 in
theorem w_441 : (Jvm.Cond.code ({ cls := "LavenderParts", name := "date", desc := "(II)I" } : Jvm.MethodName) prog_1_method_21_code (5 : Nat) (Option.some Jvm.ClassFile.FieldType.int)) ∈ lw_tbl := it2 (List.mem_of_getElem? (i := 201) rfl)
set_option maxRecDepth 20000 in
theorem w_442 : (Jvm.Cond.methodLink "LavenderPartsLaw" (96 : Nat) ({ cls := "LavenderParts", name := "kinds", desc := "(II)I" } : Jvm.MethodName)) ∈ lw_tbl := it2 (List.mem_of_getElem? (i := 202) rfl)
set_option maxRecDepth 20000 in
theorem w_443 : (Jvm.Cond.instanceMethod ({ cls := "LavenderParts", name := "kinds", desc := "(II)I" } : Jvm.MethodName)) ∈ lw_tbl := it2 (List.mem_of_getElem? (i := 203) rfl)
set_option maxRecDepth 20000 in
theorem w_444 : (Jvm.Cond.selects "LavenderParts" ({ cls := "LavenderParts", name := "kinds", desc := "(II)I" } : Jvm.MethodName) ({ cls := "LavenderParts", name := "kinds", desc := "(II)I" } : Jvm.MethodName)) ∈ lw_tbl := it2 (List.mem_of_getElem? (i := 204) rfl)
set_option maxRecDepth 20000 in
theorem w_445 : (Jvm.Cond.code ({ cls := "LavenderParts", name := "kinds", desc := "(II)I" } : Jvm.MethodName) prog_1_method_22_code (6 : Nat) (Option.some Jvm.ClassFile.FieldType.int)) ∈ lw_tbl := it2 (List.mem_of_getElem? (i := 205) rfl)
set_option maxRecDepth 20000 in
theorem w_446 : (Jvm.Cond.methodLink "LavenderPartsLaw" (100 : Nat) ({ cls := "LavenderParts", name := "spring", desc := "(I)I" } : Jvm.MethodName)) ∈ lw_tbl := it2 (List.mem_of_getElem? (i := 206) rfl)
set_option maxRecDepth 20000 in
theorem w_447 : (Jvm.Cond.instanceMethod ({ cls := "LavenderParts", name := "spring", desc := "(I)I" } : Jvm.MethodName)) ∈ lw_tbl := it2 (List.mem_of_getElem? (i := 207) rfl)
set_option maxRecDepth 20000 in
theorem w_448 : (Jvm.Cond.selects "LavenderParts" ({ cls := "LavenderParts", name := "spring", desc := "(I)I" } : Jvm.MethodName) ({ cls := "LavenderParts", name := "spring", desc := "(I)I" } : Jvm.MethodName)) ∈ lw_tbl := it2 (List.mem_of_getElem? (i := 208) rfl)
set_option maxRecDepth 20000 in
theorem w_449 : (Jvm.Cond.code ({ cls := "LavenderParts", name := "spring", desc := "(I)I" } : Jvm.MethodName) prog_1_method_23_code (5 : Nat) (Option.some Jvm.ClassFile.FieldType.int)) ∈ lw_tbl := it2 (List.mem_of_getElem? (i := 209) rfl)
set_option maxRecDepth 20000 in
theorem w_450 : (Jvm.Cond.methodLink "LavenderParts" (151 : Nat) ({ cls := "LavenderParts$Square", name := "draw", desc := "()I" } : Jvm.MethodName)) ∈ lw_tbl := it2 (List.mem_of_getElem? (i := 210) rfl)
set_option maxRecDepth 20000 in
theorem w_451 : (Jvm.Cond.instanceMethod ({ cls := "LavenderParts$Square", name := "draw", desc := "()I" } : Jvm.MethodName)) ∈ lw_tbl := it2 (List.mem_of_getElem? (i := 211) rfl)
set_option maxRecDepth 20000 in
theorem w_452 : (Jvm.Cond.selects "LavenderParts$Square" ({ cls := "LavenderParts$Square", name := "draw", desc := "()I" } : Jvm.MethodName) ({ cls := "LavenderParts$Square", name := "draw", desc := "()I" } : Jvm.MethodName)) ∈ lw_tbl := it2 (List.mem_of_getElem? (i := 212) rfl)
set_option maxRecDepth 20000 in
theorem w_453 : (Jvm.Cond.code ({ cls := "LavenderParts$Square", name := "draw", desc := "()I" } : Jvm.MethodName) prog_5_method_21_code (1 : Nat) (Option.some Jvm.ClassFile.FieldType.int)) ∈ lw_tbl := it2 (List.mem_of_getElem? (i := 213) rfl)
set_option maxRecDepth 20000 in
theorem w_454 : (Jvm.Cond.constant "LavenderParts$Square" (103 : Nat) (1103515245 : Int32)) ∈ lw_tbl := it2 (List.mem_of_getElem? (i := 214) rfl)
set_option maxRecDepth 20000 in
theorem w_455 : (Jvm.Cond.methodLink "LavenderPartsLaw" (104 : Nat) ({ cls := "LavenderParts", name := "odds", desc := "(II)J" } : Jvm.MethodName)) ∈ lw_tbl := it2 (List.mem_of_getElem? (i := 215) rfl)
set_option maxRecDepth 20000 in
theorem w_456 : (Jvm.Cond.instanceMethod ({ cls := "LavenderParts", name := "odds", desc := "(II)J" } : Jvm.MethodName)) ∈ lw_tbl := it2 (List.mem_of_getElem? (i := 216) rfl)
set_option maxRecDepth 20000 in
theorem w_457 : (Jvm.Cond.selects "LavenderParts" ({ cls := "LavenderParts", name := "odds", desc := "(II)J" } : Jvm.MethodName) ({ cls := "LavenderParts", name := "odds", desc := "(II)J" } : Jvm.MethodName)) ∈ lw_tbl := it2 (List.mem_of_getElem? (i := 217) rfl)
set_option maxRecDepth 20000 in
theorem w_458 : (Jvm.Cond.code ({ cls := "LavenderParts", name := "odds", desc := "(II)J" } : Jvm.MethodName) prog_1_method_24_code (9 : Nat) (Option.some Jvm.ClassFile.FieldType.long)) ∈ lw_tbl := it2 (List.mem_of_getElem? (i := 218) rfl)
set_option maxRecDepth 20000 in
theorem w_459 : (Jvm.Cond.methodLink "LavenderParts" (154 : Nat) ({ cls := "LavenderParts$Square", name := "datesOfBeginning", desc := "()I" } : Jvm.MethodName)) ∈ lw_tbl := it2 (List.mem_of_getElem? (i := 219) rfl)
set_option maxRecDepth 20000 in
theorem w_460 : (Jvm.Cond.instanceMethod ({ cls := "LavenderParts$Square", name := "datesOfBeginning", desc := "()I" } : Jvm.MethodName)) ∈ lw_tbl := it2 (List.mem_of_getElem? (i := 220) rfl)
set_option maxRecDepth 20000 in
theorem w_461 : (Jvm.Cond.selects "LavenderParts$Square" ({ cls := "LavenderParts$Square", name := "datesOfBeginning", desc := "()I" } : Jvm.MethodName) ({ cls := "LavenderParts$Square", name := "datesOfBeginning", desc := "()I" } : Jvm.MethodName)) ∈ lw_tbl := it2 (List.mem_of_getElem? (i := 221) rfl)
set_option maxRecDepth 20000 in
theorem w_462 : (Jvm.Cond.code ({ cls := "LavenderParts$Square", name := "datesOfBeginning", desc := "()I" } : Jvm.MethodName) prog_5_method_18_code (5 : Nat) (Option.some Jvm.ClassFile.FieldType.int)) ∈ lw_tbl := it2 (List.mem_of_getElem? (i := 222) rfl)
set_option maxRecDepth 20000 in
theorem w_463 : (Jvm.Cond.methodLink "LavenderParts$Square" (96 : Nat) ({ cls := "java/lang/Long", name := "bitCount", desc := "(J)I" } : Jvm.MethodName)) ∈ lw_tbl := it2 (List.mem_of_getElem? (i := 223) rfl)
set_option maxRecDepth 20000 in
theorem w_464 : (Jvm.Cond.static ({ cls := "java/lang/Long", name := "bitCount", desc := "(J)I" } : Jvm.MethodName)) ∈ lw_tbl := it2 (List.mem_of_getElem? (i := 224) rfl)
set_option maxRecDepth 20000 in
theorem w_465 : (Jvm.Cond.code ({ cls := "java/lang/Long", name := "bitCount", desc := "(J)I" } : Jvm.MethodName) prog_10_method_50_code (2 : Nat) (Option.some Jvm.ClassFile.FieldType.int)) ∈ lw_tbl := it2 (List.mem_of_getElem? (i := 225) rfl)
set_option maxRecDepth 20000 in
theorem w_466 : (Jvm.Cond.constantLong "java/lang/Long" (314 : Nat) (6148914691236517205 : Int64)) ∈ lw_tbl := it2 (List.mem_of_getElem? (i := 226) rfl)
set_option maxRecDepth 20000 in
theorem w_467 : (Jvm.Cond.constantLong "java/lang/Long" (316 : Nat) (3689348814741910323 : Int64)) ∈ lw_tbl := it2 (List.mem_of_getElem? (i := 227) rfl)
set_option maxRecDepth 20000 in
theorem w_468 : (Jvm.Cond.constantLong "java/lang/Long" (318 : Nat) (1085102592571150095 : Int64)) ∈ lw_tbl := it2 (List.mem_of_getElem? (i := 228) rfl)
set_option maxRecDepth 20000 in
theorem w_469 : (Jvm.Cond.methodLink "LavenderParts" (157 : Nat) ({ cls := "LavenderParts", name := "greatestSharedWithYear", desc := "(I)I" } : Jvm.MethodName)) ∈ lw_tbl := it2 (List.mem_of_getElem? (i := 229) rfl)
set_option maxRecDepth 20000 in
theorem w_470 : (Jvm.Cond.static ({ cls := "LavenderParts", name := "greatestSharedWithYear", desc := "(I)I" } : Jvm.MethodName)) ∈ lw_tbl := it2 (List.mem_of_getElem? (i := 230) rfl)
set_option maxRecDepth 20000 in
theorem w_471 : (Jvm.Cond.code ({ cls := "LavenderParts", name := "greatestSharedWithYear", desc := "(I)I" } : Jvm.MethodName) prog_1_method_51_code (2 : Nat) (Option.some Jvm.ClassFile.FieldType.int)) ∈ lw_tbl := it2 (List.mem_of_getElem? (i := 231) rfl)
set_option maxRecDepth 20000 in
theorem w_472 : (Jvm.Cond.methodLink "LavenderPartsLaw" (109 : Nat) ({ cls := "LavenderParts", name := "seed", desc := "(I)I" } : Jvm.MethodName)) ∈ lw_tbl := it2 (List.mem_of_getElem? (i := 232) rfl)
set_option maxRecDepth 20000 in
theorem w_473 : (Jvm.Cond.instanceMethod ({ cls := "LavenderParts", name := "seed", desc := "(I)I" } : Jvm.MethodName)) ∈ lw_tbl := it2 (List.mem_of_getElem? (i := 233) rfl)
set_option maxRecDepth 20000 in
theorem w_474 : (Jvm.Cond.selects "LavenderParts" ({ cls := "LavenderParts", name := "seed", desc := "(I)I" } : Jvm.MethodName) ({ cls := "LavenderParts", name := "seed", desc := "(I)I" } : Jvm.MethodName)) ∈ lw_tbl := it2 (List.mem_of_getElem? (i := 234) rfl)
set_option maxRecDepth 20000 in
theorem w_475 : (Jvm.Cond.code ({ cls := "LavenderParts", name := "seed", desc := "(I)I" } : Jvm.MethodName) prog_1_method_25_code (3 : Nat) (Option.some Jvm.ClassFile.FieldType.int)) ∈ lw_tbl := it2 (List.mem_of_getElem? (i := 235) rfl)
set_option maxRecDepth 20000 in
theorem w_476 : (Jvm.Cond.methodLink "LavenderPartsLaw" (113 : Nat) ({ cls := "LavenderParts", name := "feed", desc := "(II)I" } : Jvm.MethodName)) ∈ lw_tbl := it2 (List.mem_of_getElem? (i := 236) rfl)
set_option maxRecDepth 20000 in
theorem w_477 : (Jvm.Cond.instanceMethod ({ cls := "LavenderParts", name := "feed", desc := "(II)I" } : Jvm.MethodName)) ∈ lw_tbl := it2 (List.mem_of_getElem? (i := 237) rfl)
set_option maxRecDepth 20000 in
theorem w_478 : (Jvm.Cond.selects "LavenderParts" ({ cls := "LavenderParts", name := "feed", desc := "(II)I" } : Jvm.MethodName) ({ cls := "LavenderParts", name := "feed", desc := "(II)I" } : Jvm.MethodName)) ∈ lw_tbl := it2 (List.mem_of_getElem? (i := 238) rfl)
set_option maxRecDepth 20000 in
theorem w_479 : (Jvm.Cond.code ({ cls := "LavenderParts", name := "feed", desc := "(II)I" } : Jvm.MethodName) prog_1_method_26_code (4 : Nat) (Option.some Jvm.ClassFile.FieldType.int)) ∈ lw_tbl := it2 (List.mem_of_getElem? (i := 239) rfl)
set_option maxRecDepth 20000 in
theorem w_480 : (Jvm.Cond.methodLink "LavenderParts" (167 : Nat) ({ cls := "LavenderParts$Tape", name := "hasRoomFor", desc := "(I)Z" } : Jvm.MethodName)) ∈ lw_tbl := it3 (List.mem_of_getElem? (i := 0) rfl)
set_option maxRecDepth 20000 in
theorem w_481 : (Jvm.Cond.instanceMethod ({ cls := "LavenderParts$Tape", name := "hasRoomFor", desc := "(I)Z" } : Jvm.MethodName)) ∈ lw_tbl := it3 (List.mem_of_getElem? (i := 1) rfl)
set_option maxRecDepth 20000 in
theorem w_482 : (Jvm.Cond.selects "LavenderParts$Tape" ({ cls := "LavenderParts$Tape", name := "hasRoomFor", desc := "(I)Z" } : Jvm.MethodName) ({ cls := "LavenderParts$Tape", name := "hasRoomFor", desc := "(I)Z" } : Jvm.MethodName)) ∈ lw_tbl := it3 (List.mem_of_getElem? (i := 2) rfl)
set_option maxRecDepth 20000 in
theorem w_483 : (Jvm.Cond.code ({ cls := "LavenderParts$Tape", name := "hasRoomFor", desc := "(I)Z" } : Jvm.MethodName) prog_6_method_2_code (2 : Nat) (Option.some Jvm.ClassFile.FieldType.boolean)) ∈ lw_tbl := it3 (List.mem_of_getElem? (i := 3) rfl)
set_option maxRecDepth 20000 in
theorem w_484 : (Jvm.Cond.methodLink "LavenderParts" (172 : Nat) ({ cls := "LavenderParts$Tape", name := "add", desc := "(I)V" } : Jvm.MethodName)) ∈ lw_tbl := it3 (List.mem_of_getElem? (i := 4) rfl)
set_option maxRecDepth 20000 in
theorem w_485 : (Jvm.Cond.instanceMethod ({ cls := "LavenderParts$Tape", name := "add", desc := "(I)V" } : Jvm.MethodName)) ∈ lw_tbl := it3 (List.mem_of_getElem? (i := 5) rfl)
set_option maxRecDepth 20000 in
theorem w_486 : (Jvm.Cond.selects "LavenderParts$Tape" ({ cls := "LavenderParts$Tape", name := "add", desc := "(I)V" } : Jvm.MethodName) ({ cls := "LavenderParts$Tape", name := "add", desc := "(I)V" } : Jvm.MethodName)) ∈ lw_tbl := it3 (List.mem_of_getElem? (i := 6) rfl)
set_option maxRecDepth 20000 in
theorem w_487 : (Jvm.Cond.code ({ cls := "LavenderParts$Tape", name := "add", desc := "(I)V" } : Jvm.MethodName) prog_6_method_3_code (2 : Nat) (Option.none : Option Jvm.ClassFile.FieldType)) ∈ lw_tbl := it3 (List.mem_of_getElem? (i := 7) rfl)
set_option maxRecDepth 20000 in
theorem w_488 : (Jvm.Cond.methodLink "LavenderParts$Tape" (29 : Nat) ({ cls := "LavenderParts$Tape", name := "hasRoomFor", desc := "(I)Z" } : Jvm.MethodName)) ∈ lw_tbl := it3 (List.mem_of_getElem? (i := 8) rfl)
set_option maxRecDepth 20000 in
theorem w_489 : (Jvm.Cond.methodLink "LavenderPartsLaw" (117 : Nat) ({ cls := "LavenderParts", name := "wipe", desc := "()I" } : Jvm.MethodName)) ∈ lw_tbl := it3 (List.mem_of_getElem? (i := 9) rfl)
set_option maxRecDepth 20000 in
theorem w_490 : (Jvm.Cond.instanceMethod ({ cls := "LavenderParts", name := "wipe", desc := "()I" } : Jvm.MethodName)) ∈ lw_tbl := it3 (List.mem_of_getElem? (i := 10) rfl)
set_option maxRecDepth 20000 in
theorem w_491 : (Jvm.Cond.selects "LavenderParts" ({ cls := "LavenderParts", name := "wipe", desc := "()I" } : Jvm.MethodName) ({ cls := "LavenderParts", name := "wipe", desc := "()I" } : Jvm.MethodName)) ∈ lw_tbl := it3 (List.mem_of_getElem? (i := 11) rfl)
set_option maxRecDepth 20000 in
theorem w_492 : (Jvm.Cond.code ({ cls := "LavenderParts", name := "wipe", desc := "()I" } : Jvm.MethodName) prog_1_method_27_code (2 : Nat) (Option.some Jvm.ClassFile.FieldType.int)) ∈ lw_tbl := it3 (List.mem_of_getElem? (i := 12) rfl)
set_option maxRecDepth 20000 in
theorem w_493 : (Jvm.Cond.methodLink "LavenderPartsLaw" (122 : Nat) ({ cls := "LavenderParts", name := "text", desc := "()I" } : Jvm.MethodName)) ∈ lw_tbl := it3 (List.mem_of_getElem? (i := 13) rfl)
set_option maxRecDepth 20000 in
theorem w_494 : (Jvm.Cond.instanceMethod ({ cls := "LavenderParts", name := "text", desc := "()I" } : Jvm.MethodName)) ∈ lw_tbl := it3 (List.mem_of_getElem? (i := 14) rfl)
set_option maxRecDepth 20000 in
theorem w_495 : (Jvm.Cond.selects "LavenderParts" ({ cls := "LavenderParts", name := "text", desc := "()I" } : Jvm.MethodName) ({ cls := "LavenderParts", name := "text", desc := "()I" } : Jvm.MethodName)) ∈ lw_tbl := it3 (List.mem_of_getElem? (i := 15) rfl)
set_option maxRecDepth 20000 in
theorem w_496 : (Jvm.Cond.code ({ cls := "LavenderParts", name := "text", desc := "()I" } : Jvm.MethodName) prog_1_method_28_code (2 : Nat) (Option.some Jvm.ClassFile.FieldType.int)) ∈ lw_tbl := it3 (List.mem_of_getElem? (i := 16) rfl)
set_option maxRecDepth 20000 in
theorem w_497 : (Jvm.Cond.methodLink "LavenderParts" (177 : Nat) ({ cls := "LavenderParts$Reader", name := "readAll", desc := "(LLavenderParts$Square;)I" } : Jvm.MethodName)) ∈ lw_tbl := it3 (List.mem_of_getElem? (i := 17) rfl)
set_option maxRecDepth 20000 in
theorem w_498 : (Jvm.Cond.instanceMethod ({ cls := "LavenderParts$Reader", name := "readAll", desc := "(LLavenderParts$Square;)I" } : Jvm.MethodName)) ∈ lw_tbl := it3 (List.mem_of_getElem? (i := 18) rfl)
set_option maxRecDepth 20000 in
theorem w_499 : (Jvm.Cond.selects "LavenderParts$Reader" ({ cls := "LavenderParts$Reader", name := "readAll", desc := "(LLavenderParts$Square;)I" } : Jvm.MethodName) ({ cls := "LavenderParts$Reader", name := "readAll", desc := "(LLavenderParts$Square;)I" } : Jvm.MethodName)) ∈ lw_tbl := it3 (List.mem_of_getElem? (i := 19) rfl)
set_option maxRecDepth 20000 in
theorem w_500 : (Jvm.Cond.code ({ cls := "LavenderParts$Reader", name := "readAll", desc := "(LLavenderParts$Square;)I" } : Jvm.MethodName) prog_2_method_2_code (3 : Nat) (Option.some Jvm.ClassFile.FieldType.int)) ∈ lw_tbl := it3 (List.mem_of_getElem? (i := 20) rfl)
set_option maxRecDepth 20000 in
theorem w_501 : (Jvm.Cond.methodLink "LavenderParts$Reader" (16 : Nat) ({ cls := "LavenderParts$Tape", name := "rewind", desc := "()V" } : Jvm.MethodName)) ∈ lw_tbl := it3 (List.mem_of_getElem? (i := 21) rfl)
set_option maxRecDepth 20000 in
theorem w_502 : (Jvm.Cond.instanceMethod ({ cls := "LavenderParts$Tape", name := "rewind", desc := "()V" } : Jvm.MethodName)) ∈ lw_tbl := it3 (List.mem_of_getElem? (i := 22) rfl)
set_option maxRecDepth 20000 in
theorem w_503 : (Jvm.Cond.selects "LavenderParts$Tape" ({ cls := "LavenderParts$Tape", name := "rewind", desc := "()V" } : Jvm.MethodName) ({ cls := "LavenderParts$Tape", name := "rewind", desc := "()V" } : Jvm.MethodName)) ∈ lw_tbl := it3 (List.mem_of_getElem? (i := 23) rfl)
set_option maxRecDepth 20000 in
theorem w_504 : (Jvm.Cond.code ({ cls := "LavenderParts$Tape", name := "rewind", desc := "()V" } : Jvm.MethodName) prog_6_method_4_code (1 : Nat) (Option.none : Option Jvm.ClassFile.FieldType)) ∈ lw_tbl := it3 (List.mem_of_getElem? (i := 24) rfl)
set_option maxRecDepth 20000 in
theorem w_505 : (Jvm.Cond.methodLink "LavenderParts$Tape" (33 : Nat) ({ cls := "LavenderParts$Tape", name := "step", desc := "()V" } : Jvm.MethodName)) ∈ lw_tbl := it3 (List.mem_of_getElem? (i := 25) rfl)
set_option maxRecDepth 20000 in
theorem w_506 : (Jvm.Cond.instanceMethod ({ cls := "LavenderParts$Tape", name := "step", desc := "()V" } : Jvm.MethodName)) ∈ lw_tbl := it3 (List.mem_of_getElem? (i := 26) rfl)
set_option maxRecDepth 20000 in
theorem w_507 : (Jvm.Cond.selects "LavenderParts$Tape" ({ cls := "LavenderParts$Tape", name := "step", desc := "()V" } : Jvm.MethodName) ({ cls := "LavenderParts$Tape", name := "step", desc := "()V" } : Jvm.MethodName)) ∈ lw_tbl := it3 (List.mem_of_getElem? (i := 27) rfl)
set_option maxRecDepth 20000 in
theorem w_508 : (Jvm.Cond.code ({ cls := "LavenderParts$Tape", name := "step", desc := "()V" } : Jvm.MethodName) prog_6_method_5_code (1 : Nat) (Option.none : Option Jvm.ClassFile.FieldType)) ∈ lw_tbl := it3 (List.mem_of_getElem? (i := 28) rfl)
set_option maxRecDepth 20000 in
theorem w_509 : (Jvm.Cond.methodLink "LavenderParts$Tape" (36 : Nat) ({ cls := "LavenderParts$Tape", name := "tokenWith", desc := "(I)I" } : Jvm.MethodName)) ∈ lw_tbl := it3 (List.mem_of_getElem? (i := 29) rfl)
set_option maxRecDepth 20000 in
theorem w_511 : (Jvm.Cond.instanceMethod ({ cls := "LavenderParts$Tape", name := "tokenWith", desc := "(I)I" } : Jvm.MethodName)) ∈ lw_tbl := it3 (List.mem_of_getElem? (i := 31) rfl)
set_option maxRecDepth 20000 in
theorem w_512 : (Jvm.Cond.code ({ cls := "LavenderParts$Tape", name := "tokenWith", desc := "(I)I" } : Jvm.MethodName) prog_6_method_7_code (3 : Nat) (Option.some Jvm.ClassFile.FieldType.int)) ∈ lw_tbl := it3 (List.mem_of_getElem? (i := 32) rfl)
set_option maxRecDepth 20000 in
theorem w_513 : (Jvm.Cond.methodLink "LavenderParts$Tape" (40 : Nat) ({ cls := "LavenderParts$Tape", name := "numberOfDigits", desc := "()I" } : Jvm.MethodName)) ∈ lw_tbl := it3 (List.mem_of_getElem? (i := 33) rfl)
set_option maxRecDepth 20000 in
theorem w_515 : (Jvm.Cond.instanceMethod ({ cls := "LavenderParts$Tape", name := "numberOfDigits", desc := "()I" } : Jvm.MethodName)) ∈ lw_tbl := it3 (List.mem_of_getElem? (i := 35) rfl)
set_option maxRecDepth 20000 in
theorem w_516 : (Jvm.Cond.code ({ cls := "LavenderParts$Tape", name := "numberOfDigits", desc := "()I" } : Jvm.MethodName) prog_6_method_6_code (3 : Nat) (Option.some Jvm.ClassFile.FieldType.int)) ∈ lw_tbl := it3 (List.mem_of_getElem? (i := 36) rfl)
set_option maxRecDepth 20000 in
theorem w_517 : (Jvm.Cond.methodLink "LavenderParts$Tape" (44 : Nat) ({ cls := "java/lang/Math", name := "min", desc := "(II)I" } : Jvm.MethodName)) ∈ lw_tbl := it3 (List.mem_of_getElem? (i := 37) rfl)
set_option maxRecDepth 20000 in
theorem w_518 : (Jvm.Cond.methodLink "LavenderParts$Reader" (19 : Nat) ({ cls := "LavenderParts$Reader", name := "readItem", desc := "(LLavenderParts$Square;)Z" } : Jvm.MethodName)) ∈ lw_tbl := it3 (List.mem_of_getElem? (i := 38) rfl)
set_option maxRecDepth 20000 in
theorem w_520 : (Jvm.Cond.instanceMethod ({ cls := "LavenderParts$Reader", name := "readItem", desc := "(LLavenderParts$Square;)Z" } : Jvm.MethodName)) ∈ lw_tbl := it3 (List.mem_of_getElem? (i := 40) rfl)
set_option maxRecDepth 20000 in
theorem w_521 : (Jvm.Cond.code ({ cls := "LavenderParts$Reader", name := "readItem", desc := "(LLavenderParts$Square;)Z" } : Jvm.MethodName) prog_2_method_3_code (4 : Nat) (Option.some Jvm.ClassFile.FieldType.boolean)) ∈ lw_tbl := it3 (List.mem_of_getElem? (i := 41) rfl)
set_option maxRecDepth 20000 in
theorem w_523 : (Jvm.Cond.methodLink "LavenderParts$Reader" (35 : Nat) ({ cls := "LavenderParts$Tape", name := "isAt", desc := "(Ljava/lang/String;)Z" } : Jvm.MethodName)) ∈ lw_tbl := it3 (List.mem_of_getElem? (i := 43) rfl)
set_option maxRecDepth 20000 in
theorem w_524 : (Jvm.Cond.instanceMethod ({ cls := "LavenderParts$Tape", name := "isAt", desc := "(Ljava/lang/String;)Z" } : Jvm.MethodName)) ∈ lw_tbl := it3 (List.mem_of_getElem? (i := 44) rfl)
set_option maxRecDepth 20000 in
theorem w_525 : (Jvm.Cond.selects "LavenderParts$Tape" ({ cls := "LavenderParts$Tape", name := "isAt", desc := "(Ljava/lang/String;)Z" } : Jvm.MethodName) ({ cls := "LavenderParts$Tape", name := "isAt", desc := "(Ljava/lang/String;)Z" } : Jvm.MethodName)) ∈ lw_tbl := it3 (List.mem_of_getElem? (i := 45) rfl)
set_option maxRecDepth 20000 in
theorem w_526 : (Jvm.Cond.code ({ cls := "LavenderParts$Tape", name := "isAt", desc := "(Ljava/lang/String;)Z" } : Jvm.MethodName) prog_6_method_8_code (3 : Nat) (Option.some Jvm.ClassFile.FieldType.boolean)) ∈ lw_tbl := it3 (List.mem_of_getElem? (i := 46) rfl)
set_option maxRecDepth 20000 in
theorem w_527 : (Jvm.Cond.methodLink "LavenderParts$Tape" (50 : Nat) ({ cls := "java/lang/String", name := "length", desc := "()I" } : Jvm.MethodName)) ∈ lw_tbl := it3 (List.mem_of_getElem? (i := 47) rfl)
set_option maxRecDepth 20000 in
theorem w_528 : (Jvm.Cond.instanceMethod ({ cls := "java/lang/String", name := "length", desc := "()I" } : Jvm.MethodName)) ∈ lw_tbl := it3 (List.mem_of_getElem? (i := 48) rfl)
set_option maxRecDepth 20000 in
theorem w_529 : (Jvm.Cond.selects "java/lang/String" ({ cls := "java/lang/String", name := "length", desc := "()I" } : Jvm.MethodName) ({ cls := "java/lang/String", name := "length", desc := "()I" } : Jvm.MethodName)) ∈ lw_tbl := it3 (List.mem_of_getElem? (i := 49) rfl)
set_option maxRecDepth 20000 in
theorem w_530 : (Jvm.Cond.code ({ cls := "java/lang/String", name := "length", desc := "()I" } : Jvm.MethodName) prog_12_method_54_code (1 : Nat) (Option.some Jvm.ClassFile.FieldType.int)) ∈ lw_tbl := it3 (List.mem_of_getElem? (i := 50) rfl)
set_option maxRecDepth 20000 in
theorem w_531 : (Jvm.Cond.methodLink "java/lang/String" (335 : Nat) ({ cls := "java/lang/String", name := "coder", desc := "()B" } : Jvm.MethodName)) ∈ lw_tbl := it3 (List.mem_of_getElem? (i := 51) rfl)
set_option maxRecDepth 20000 in
theorem w_532 : (Jvm.Cond.instanceMethod ({ cls := "java/lang/String", name := "coder", desc := "()B" } : Jvm.MethodName)) ∈ lw_tbl := it3 (List.mem_of_getElem? (i := 52) rfl)
set_option maxRecDepth 20000 in
theorem w_533 : (Jvm.Cond.selects "java/lang/String" ({ cls := "java/lang/String", name := "coder", desc := "()B" } : Jvm.MethodName) ({ cls := "java/lang/String", name := "coder", desc := "()B" } : Jvm.MethodName)) ∈ lw_tbl := it3 (List.mem_of_getElem? (i := 53) rfl)
set_option maxRecDepth 20000 in
theorem w_534 : (Jvm.Cond.code ({ cls := "java/lang/String", name := "coder", desc := "()B" } : Jvm.MethodName) prog_12_method_152_code (1 : Nat) (Option.some Jvm.ClassFile.FieldType.byte)) ∈ lw_tbl := it3 (List.mem_of_getElem? (i := 54) rfl)
set_option maxRecDepth 20000 in
theorem w_535 : (Jvm.Cond.fieldLink "java/lang/String" (38 : Nat) "java/lang/String" "COMPACT_STRINGS" "Z") ∈ lw_tbl := it3 (List.mem_of_getElem? (i := 55) rfl)
set_option maxRecDepth 20000 in
theorem w_537 : (Jvm.Cond.methodLink "LavenderParts$Tape" (54 : Nat) ({ cls := "java/lang/String", name := "charAt", desc := "(I)C" } : Jvm.MethodName)) ∈ lw_tbl := it3 (List.mem_of_getElem? (i := 57) rfl)
set_option maxRecDepth 20000 in
theorem w_538 : (Jvm.Cond.instanceMethod ({ cls := "java/lang/String", name := "charAt", desc := "(I)C" } : Jvm.MethodName)) ∈ lw_tbl := it3 (List.mem_of_getElem? (i := 58) rfl)
set_option maxRecDepth 20000 in
theorem w_539 : (Jvm.Cond.selects "java/lang/String" ({ cls := "java/lang/String", name := "charAt", desc := "(I)C" } : Jvm.MethodName) ({ cls := "java/lang/String", name := "charAt", desc := "(I)C" } : Jvm.MethodName)) ∈ lw_tbl := it3 (List.mem_of_getElem? (i := 59) rfl)
set_option maxRecDepth 20000 in
theorem w_540 : (Jvm.Cond.code ({ cls := "java/lang/String", name := "charAt", desc := "(I)C" } : Jvm.MethodName) prog_12_method_56_code (2 : Nat) (Option.some Jvm.ClassFile.FieldType.char)) ∈ lw_tbl := it3 (List.mem_of_getElem? (i := 60) rfl)
set_option maxRecDepth 20000 in
theorem w_541 : (Jvm.Cond.methodLink "java/lang/String" (492 : Nat) ({ cls := "java/lang/String", name := "isLatin1", desc := "()Z" } : Jvm.MethodName)) ∈ lw_tbl := it3 (List.mem_of_getElem? (i := 61) rfl)
set_option maxRecDepth 20000 in
theorem w_542 : (Jvm.Cond.instanceMethod ({ cls := "java/lang/String", name := "isLatin1", desc := "()Z" } : Jvm.MethodName)) ∈ lw_tbl := it3 (List.mem_of_getElem? (i := 62) rfl)
set_option maxRecDepth 20000 in
theorem w_543 : (Jvm.Cond.selects "java/lang/String" ({ cls := "java/lang/String", name := "isLatin1", desc := "()Z" } : Jvm.MethodName) ({ cls := "java/lang/String", name := "isLatin1", desc := "()Z" } : Jvm.MethodName)) ∈ lw_tbl := it3 (List.mem_of_getElem? (i := 63) rfl)
set_option maxRecDepth 20000 in
theorem w_544 : (Jvm.Cond.code ({ cls := "java/lang/String", name := "isLatin1", desc := "()Z" } : Jvm.MethodName) prog_12_method_154_code (1 : Nat) (Option.some Jvm.ClassFile.FieldType.boolean)) ∈ lw_tbl := it3 (List.mem_of_getElem? (i := 64) rfl)
set_option maxRecDepth 20000 in
theorem w_545 : (Jvm.Cond.methodLink "java/lang/String" (495 : Nat) ({ cls := "java/lang/StringLatin1", name := "charAt", desc := "([BI)C" } : Jvm.MethodName)) ∈ lw_tbl := it3 (List.mem_of_getElem? (i := 65) rfl)
set_option maxRecDepth 20000 in
theorem w_546 : (Jvm.Cond.static ({ cls := "java/lang/StringLatin1", name := "charAt", desc := "([BI)C" } : Jvm.MethodName)) ∈ lw_tbl := it3 (List.mem_of_getElem? (i := 66) rfl)
set_option maxRecDepth 20000 in
theorem w_547 : (Jvm.Cond.code ({ cls := "java/lang/StringLatin1", name := "charAt", desc := "([BI)C" } : Jvm.MethodName) prog_13_method_2_code (2 : Nat) (Option.some Jvm.ClassFile.FieldType.char)) ∈ lw_tbl := it3 (List.mem_of_getElem? (i := 67) rfl)
set_option maxRecDepth 20000 in
theorem w_548 : (Jvm.Cond.methodLink "java/lang/StringLatin1" (9 : Nat) ({ cls := "java/lang/String", name := "checkIndex", desc := "(II)V" } : Jvm.MethodName)) ∈ lw_tbl := it3 (List.mem_of_getElem? (i := 68) rfl)
set_option maxRecDepth 20000 in
theorem w_549 : (Jvm.Cond.static ({ cls := "java/lang/String", name := "checkIndex", desc := "(II)V" } : Jvm.MethodName)) ∈ lw_tbl := it3 (List.mem_of_getElem? (i := 69) rfl)
set_option maxRecDepth 20000 in
theorem w_550 : (Jvm.Cond.code ({ cls := "java/lang/String", name := "checkIndex", desc := "(II)V" } : Jvm.MethodName) prog_12_method_155_code (2 : Nat) (Option.none : Option Jvm.ClassFile.FieldType)) ∈ lw_tbl := it3 (List.mem_of_getElem? (i := 70) rfl)
set_option maxRecDepth 20000 in
theorem w_551 : (Jvm.Cond.fieldLink "java/lang/String" (1053 : Nat) "jdk/internal/util/Preconditions" "SIOOBE_FORMATTER" "Ljava/util/function/BiFunction;") ∈ lw_tbl := it3 (List.mem_of_getElem? (i := 71) rfl)
set_option maxRecDepth 20000 in
theorem w_553 : (Jvm.Cond.methodLink "java/lang/String" (1059 : Nat) ({ cls := "jdk/internal/util/Preconditions", name := "checkIndex", desc := "(IILjava/util/function/BiFunction;)I" } : Jvm.MethodName)) ∈ lw_tbl := it3 (List.mem_of_getElem? (i := 73) rfl)
set_option maxRecDepth 20000 in
theorem w_554 : (Jvm.Cond.static ({ cls := "jdk/internal/util/Preconditions", name := "checkIndex", desc := "(IILjava/util/function/BiFunction;)I" } : Jvm.MethodName)) ∈ lw_tbl := it3 (List.mem_of_getElem? (i := 74) rfl)
set_option maxRecDepth 20000 in
theorem w_555 : (Jvm.Cond.code ({ cls := "jdk/internal/util/Preconditions", name := "checkIndex", desc := "(IILjava/util/function/BiFunction;)I" } : Jvm.MethodName) prog_16_method_11_code (3 : Nat) (Option.some Jvm.ClassFile.FieldType.int)) ∈ lw_tbl := it3 (List.mem_of_getElem? (i := 75) rfl)
set_option maxRecDepth 20000 in
theorem w_575 : (Jvm.Cond.methodLink "LavenderParts$Reader" (39 : Nat) ({ cls := "LavenderParts$Reader", name := "readDead", desc := "(LLavenderParts$Square;)Z" } : Jvm.MethodName)) ∈ lw_tbl := it3 (List.mem_of_getElem? (i := 95) rfl)
set_option maxRecDepth 20000 in
theorem w_577 : (Jvm.Cond.instanceMethod ({ cls := "LavenderParts$Reader", name := "readDead", desc := "(LLavenderParts$Square;)Z" } : Jvm.MethodName)) ∈ lw_tbl := it3 (List.mem_of_getElem? (i := 97) rfl)
set_option maxRecDepth 20000 in
theorem w_578 : (Jvm.Cond.code ({ cls := "LavenderParts$Reader", name := "readDead", desc := "(LLavenderParts$Square;)Z" } : Jvm.MethodName) prog_2_method_4_code (3 : Nat) (Option.some Jvm.ClassFile.FieldType.boolean)) ∈ lw_tbl := it3 (List.mem_of_getElem? (i := 98) rfl)
set_option maxRecDepth 20000 in
theorem w_579 : (Jvm.Cond.methodLink "LavenderParts$Reader" (27 : Nat) ({ cls := "LavenderParts$Tape", name := "step", desc := "()V" } : Jvm.MethodName)) ∈ lw_tbl := it3 (List.mem_of_getElem? (i := 99) rfl)
set_option maxRecDepth 20000 in
theorem w_580 : (Jvm.Cond.methodLink "LavenderParts$Reader" (83 : Nat) ({ cls := "LavenderParts$Reader", name := "readNumber", desc := "(II)Z" } : Jvm.MethodName)) ∈ lw_tbl := it3 (List.mem_of_getElem? (i := 100) rfl)
set_option maxRecDepth 20000 in
theorem w_582 : (Jvm.Cond.instanceMethod ({ cls := "LavenderParts$Reader", name := "readNumber", desc := "(II)Z" } : Jvm.MethodName)) ∈ lw_tbl := it3 (List.mem_of_getElem? (i := 102) rfl)
set_option maxRecDepth 20000 in
theorem w_583 : (Jvm.Cond.code ({ cls := "LavenderParts$Reader", name := "readNumber", desc := "(II)Z" } : Jvm.MethodName) prog_2_method_7_code (3 : Nat) (Option.some Jvm.ClassFile.FieldType.boolean)) ∈ lw_tbl := it3 (List.mem_of_getElem? (i := 103) rfl)
set_option maxRecDepth 20000 in
theorem w_585 : (Jvm.Cond.methodLink "LavenderParts$Reader" (87 : Nat) ({ cls := "LavenderParts$Square", name := "put", desc := "(III)V" } : Jvm.MethodName)) ∈ lw_tbl := it3 (List.mem_of_getElem? (i := 105) rfl)
set_option maxRecDepth 20000 in
theorem w_587 : (Jvm.Cond.methodLink "LavenderParts$Reader" (44 : Nat) ({ cls := "LavenderParts$Reader", name := "readSings", desc := "(LLavenderParts$Square;)Z" } : Jvm.MethodName)) ∈ lw_tbl := it3 (List.mem_of_getElem? (i := 107) rfl)
set_option maxRecDepth 20000 in
theorem w_589 : (Jvm.Cond.instanceMethod ({ cls := "LavenderParts$Reader", name := "readSings", desc := "(LLavenderParts$Square;)Z" } : Jvm.MethodName)) ∈ lw_tbl := it3 (List.mem_of_getElem? (i := 109) rfl)
set_option maxRecDepth 20000 in
theorem w_590 : (Jvm.Cond.code ({ cls := "LavenderParts$Reader", name := "readSings", desc := "(LLavenderParts$Square;)Z" } : Jvm.MethodName) prog_2_method_5_code (4 : Nat) (Option.some Jvm.ClassFile.FieldType.boolean)) ∈ lw_tbl := it3 (List.mem_of_getElem? (i := 110) rfl)
set_option maxRecDepth 20000 in
theorem w_591 : (Jvm.Cond.methodLink "LavenderParts$Reader" (47 : Nat) ({ cls := "LavenderParts$Reader", name := "kindOfWord", desc := "()I" } : Jvm.MethodName)) ∈ lw_tbl := it3 (List.mem_of_getElem? (i := 111) rfl)
set_option maxRecDepth 20000 in
theorem w_593 : (Jvm.Cond.instanceMethod ({ cls := "LavenderParts$Reader", name := "kindOfWord", desc := "()I" } : Jvm.MethodName)) ∈ lw_tbl := it3 (List.mem_of_getElem? (i := 113) rfl)
set_option maxRecDepth 20000 in
theorem w_594 : (Jvm.Cond.code ({ cls := "LavenderParts$Reader", name := "kindOfWord", desc := "()I" } : Jvm.MethodName) prog_2_method_8_code (2 : Nat) (Option.some Jvm.ClassFile.FieldType.int)) ∈ lw_tbl := it3 (List.mem_of_getElem? (i := 114) rfl)
set_option maxRecDepth 20000 in
theorem w_595 : (Jvm.Cond.methodLink "LavenderParts$Reader" (97 : Nat) ({ cls := "LavenderParts$Reader", name := "wordOf", desc := "(I)Ljava/lang/String;" } : Jvm.MethodName)) ∈ lw_tbl := it3 (List.mem_of_getElem? (i := 115) rfl)
set_option maxRecDepth 20000 in
theorem w_596 : (Jvm.Cond.static ({ cls := "LavenderParts$Reader", name := "wordOf", desc := "(I)Ljava/lang/String;" } : Jvm.MethodName)) ∈ lw_tbl := it3 (List.mem_of_getElem? (i := 116) rfl)
set_option maxRecDepth 20000 in
theorem w_597 : (Jvm.Cond.code ({ cls := "LavenderParts$Reader", name := "wordOf", desc := "(I)Ljava/lang/String;" } : Jvm.MethodName) prog_2_method_9_code (1 : Nat) (Option.some (Jvm.ClassFile.FieldType.object "java/lang/String"))) ∈ lw_tbl := it3 (List.mem_of_getElem? (i := 117) rfl)
set_option maxRecDepth 20000 in
theorem w_605 : (Jvm.Cond.methodLink "LavenderParts$Reader" (51 : Nat) ({ cls := "LavenderParts$Square", name := "isFull", desc := "()Z" } : Jvm.MethodName)) ∈ lw_tbl := it3 (List.mem_of_getElem? (i := 125) rfl)
set_option maxRecDepth 20000 in
theorem w_606 : (Jvm.Cond.methodLink "LavenderParts$Reader" (57 : Nat) ({ cls := "LavenderParts$Square", name := "add", desc := "(II)I" } : Jvm.MethodName)) ∈ lw_tbl := it3 (List.mem_of_getElem? (i := 126) rfl)
set_option maxRecDepth 20000 in
theorem w_608 : (Jvm.Cond.methodLink "LavenderParts$Reader" (65 : Nat) ({ cls := "LavenderParts$Reader", name := "readOwn", desc := "(LLavenderParts$Square;Ljava/lang/String;IIII)Z" } : Jvm.MethodName)) ∈ lw_tbl := it3 (List.mem_of_getElem? (i := 128) rfl)
set_option maxRecDepth 20000 in
theorem w_610 : (Jvm.Cond.instanceMethod ({ cls := "LavenderParts$Reader", name := "readOwn", desc := "(LLavenderParts$Square;Ljava/lang/String;IIII)Z" } : Jvm.MethodName)) ∈ lw_tbl := it3 (List.mem_of_getElem? (i := 130) rfl)
set_option maxRecDepth 20000 in
theorem w_611 : (Jvm.Cond.code ({ cls := "LavenderParts$Reader", name := "readOwn", desc := "(LLavenderParts$Square;Ljava/lang/String;IIII)Z" } : Jvm.MethodName) prog_2_method_6_code (8 : Nat) (Option.some Jvm.ClassFile.FieldType.boolean)) ∈ lw_tbl := it3 (List.mem_of_getElem? (i := 131) rfl)
set_option maxRecDepth 20000 in
theorem w_617 : (Jvm.Cond.methodLink "LavenderPartsLaw" (126 : Nat) ({ cls := "LavenderParts", name := "hold", desc := "(II)I" } : Jvm.MethodName)) ∈ lw_tbl := it3 (List.mem_of_getElem? (i := 137) rfl)
set_option maxRecDepth 20000 in
theorem w_618 : (Jvm.Cond.instanceMethod ({ cls := "LavenderParts", name := "hold", desc := "(II)I" } : Jvm.MethodName)) ∈ lw_tbl := it3 (List.mem_of_getElem? (i := 138) rfl)
set_option maxRecDepth 20000 in
theorem w_619 : (Jvm.Cond.selects "LavenderParts" ({ cls := "LavenderParts", name := "hold", desc := "(II)I" } : Jvm.MethodName) ({ cls := "LavenderParts", name := "hold", desc := "(II)I" } : Jvm.MethodName)) ∈ lw_tbl := it3 (List.mem_of_getElem? (i := 139) rfl)
set_option maxRecDepth 20000 in
theorem w_620 : (Jvm.Cond.code ({ cls := "LavenderParts", name := "hold", desc := "(II)I" } : Jvm.MethodName) prog_1_method_29_code (3 : Nat) (Option.some Jvm.ClassFile.FieldType.int)) ∈ lw_tbl := it3 (List.mem_of_getElem? (i := 140) rfl)
set_option maxRecDepth 20000 in
theorem w_621 : (Jvm.Cond.methodLink "LavenderPartsLaw" (130 : Nat) ({ cls := "LavenderParts", name := "as", desc := "(II)I" } : Jvm.MethodName)) ∈ lw_tbl := it3 (List.mem_of_getElem? (i := 141) rfl)
set_option maxRecDepth 20000 in
theorem w_622 : (Jvm.Cond.instanceMethod ({ cls := "LavenderParts", name := "as", desc := "(II)I" } : Jvm.MethodName)) ∈ lw_tbl := it3 (List.mem_of_getElem? (i := 142) rfl)
set_option maxRecDepth 20000 in
theorem w_623 : (Jvm.Cond.selects "LavenderParts" ({ cls := "LavenderParts", name := "as", desc := "(II)I" } : Jvm.MethodName) ({ cls := "LavenderParts", name := "as", desc := "(II)I" } : Jvm.MethodName)) ∈ lw_tbl := it3 (List.mem_of_getElem? (i := 143) rfl)
set_option maxRecDepth 20000 in
theorem w_624 : (Jvm.Cond.code ({ cls := "LavenderParts", name := "as", desc := "(II)I" } : Jvm.MethodName) prog_1_method_30_code (4 : Nat) (Option.some Jvm.ClassFile.FieldType.int)) ∈ lw_tbl := it3 (List.mem_of_getElem? (i := 144) rfl)
set_option maxRecDepth 20000 in
theorem w_625 : (Jvm.Cond.methodLink "LavenderParts" (184 : Nat) ({ cls := "LavenderParts$Singer", name := "isUnder", desc := "(II)Z" } : Jvm.MethodName)) ∈ lw_tbl := it3 (List.mem_of_getElem? (i := 145) rfl)
set_option maxRecDepth 20000 in
theorem w_626 : (Jvm.Cond.static ({ cls := "LavenderParts$Singer", name := "isUnder", desc := "(II)Z" } : Jvm.MethodName)) ∈ lw_tbl := it3 (List.mem_of_getElem? (i := 146) rfl)
set_option maxRecDepth 20000 in
theorem w_627 : (Jvm.Cond.code ({ cls := "LavenderParts$Singer", name := "isUnder", desc := "(II)Z" } : Jvm.MethodName) prog_4_method_5_code (4 : Nat) (Option.some Jvm.ClassFile.FieldType.boolean)) ∈ lw_tbl := it3 (List.mem_of_getElem? (i := 147) rfl)
set_option maxRecDepth 20000 in
theorem w_628 : (Jvm.Cond.fieldLink "LavenderParts$Singer" (38 : Nat) "LavenderParts$Singer" "OVER" "[I") ∈ lw_tbl := it3 (List.mem_of_getElem? (i := 148) rfl)
set_option maxRecDepth 20000 in
theorem w_630 : (Jvm.Cond.methodLink "LavenderPartsLaw" (134 : Nat) ({ cls := "LavenderParts", name := "sheet", desc := "(III)I" } : Jvm.MethodName)) ∈ lw_tbl := it3 (List.mem_of_getElem? (i := 150) rfl)
set_option maxRecDepth 20000 in
theorem w_631 : (Jvm.Cond.instanceMethod ({ cls := "LavenderParts", name := "sheet", desc := "(III)I" } : Jvm.MethodName)) ∈ lw_tbl := it3 (List.mem_of_getElem? (i := 151) rfl)
set_option maxRecDepth 20000 in
theorem w_632 : (Jvm.Cond.selects "LavenderParts" ({ cls := "LavenderParts", name := "sheet", desc := "(III)I" } : Jvm.MethodName) ({ cls := "LavenderParts", name := "sheet", desc := "(III)I" } : Jvm.MethodName)) ∈ lw_tbl := it3 (List.mem_of_getElem? (i := 152) rfl)
set_option maxRecDepth 20000 in
theorem w_633 : (Jvm.Cond.code ({ cls := "LavenderParts", name := "sheet", desc := "(III)I" } : Jvm.MethodName) prog_1_method_31_code (4 : Nat) (Option.some Jvm.ClassFile.FieldType.int)) ∈ lw_tbl := it3 (List.mem_of_getElem? (i := 153) rfl)
set_option maxRecDepth 20000 in
theorem w_634 : (Jvm.Cond.methodLink "LavenderParts" (190 : Nat) ({ cls := "LavenderParts$Sheet", name := "lay", desc := "(II)V" } : Jvm.MethodName)) ∈ lw_tbl := it3 (List.mem_of_getElem? (i := 154) rfl)
set_option maxRecDepth 20000 in
theorem w_635 : (Jvm.Cond.instanceMethod ({ cls := "LavenderParts$Sheet", name := "lay", desc := "(II)V" } : Jvm.MethodName)) ∈ lw_tbl := it3 (List.mem_of_getElem? (i := 155) rfl)
set_option maxRecDepth 20000 in
theorem w_636 : (Jvm.Cond.selects "LavenderParts$Sheet" ({ cls := "LavenderParts$Sheet", name := "lay", desc := "(II)V" } : Jvm.MethodName) ({ cls := "LavenderParts$Sheet", name := "lay", desc := "(II)V" } : Jvm.MethodName)) ∈ lw_tbl := it3 (List.mem_of_getElem? (i := 156) rfl)
set_option maxRecDepth 20000 in
theorem w_637 : (Jvm.Cond.code ({ cls := "LavenderParts$Sheet", name := "lay", desc := "(II)V" } : Jvm.MethodName) prog_3_method_2_code (4 : Nat) (Option.none : Option Jvm.ClassFile.FieldType)) ∈ lw_tbl := it3 (List.mem_of_getElem? (i := 157) rfl)
set_option maxRecDepth 20000 in
theorem w_638 : (Jvm.Cond.methodLink "LavenderPartsLaw" (138 : Nat) ({ cls := "LavenderParts", name := "write", desc := "(III)I" } : Jvm.MethodName)) ∈ lw_tbl := it3 (List.mem_of_getElem? (i := 158) rfl)
set_option maxRecDepth 20000 in
theorem w_639 : (Jvm.Cond.instanceMethod ({ cls := "LavenderParts", name := "write", desc := "(III)I" } : Jvm.MethodName)) ∈ lw_tbl := it3 (List.mem_of_getElem? (i := 159) rfl)
set_option maxRecDepth 20000 in
theorem w_640 : (Jvm.Cond.selects "LavenderParts" ({ cls := "LavenderParts", name := "write", desc := "(III)I" } : Jvm.MethodName) ({ cls := "LavenderParts", name := "write", desc := "(III)I" } : Jvm.MethodName)) ∈ lw_tbl := it3 (List.mem_of_getElem? (i := 160) rfl)
set_option maxRecDepth 20000 in
theorem w_641 : (Jvm.Cond.code ({ cls := "LavenderParts", name := "write", desc := "(III)I" } : Jvm.MethodName) prog_1_method_32_code (5 : Nat) (Option.some Jvm.ClassFile.FieldType.int)) ∈ lw_tbl := it3 (List.mem_of_getElem? (i := 161) rfl)
set_option maxRecDepth 20000 in
theorem w_642 : (Jvm.Cond.methodLink "LavenderParts" (198 : Nat) ({ cls := "LavenderParts$Sheet", name := "put", desc := "(II)V" } : Jvm.MethodName)) ∈ lw_tbl := it3 (List.mem_of_getElem? (i := 162) rfl)
set_option maxRecDepth 20000 in
theorem w_643 : (Jvm.Cond.instanceMethod ({ cls := "LavenderParts$Sheet", name := "put", desc := "(II)V" } : Jvm.MethodName)) ∈ lw_tbl := it3 (List.mem_of_getElem? (i := 163) rfl)
set_option maxRecDepth 20000 in
theorem w_644 : (Jvm.Cond.selects "LavenderParts$Sheet" ({ cls := "LavenderParts$Sheet", name := "put", desc := "(II)V" } : Jvm.MethodName) ({ cls := "LavenderParts$Sheet", name := "put", desc := "(II)V" } : Jvm.MethodName)) ∈ lw_tbl := it3 (List.mem_of_getElem? (i := 164) rfl)
set_option maxRecDepth 20000 in
theorem w_645 : (Jvm.Cond.code ({ cls := "LavenderParts$Sheet", name := "put", desc := "(II)V" } : Jvm.MethodName) prog_3_method_3_code (3 : Nat) (Option.none : Option Jvm.ClassFile.FieldType)) ∈ lw_tbl := it3 (List.mem_of_getElem? (i := 165) rfl)
set_option maxRecDepth 20000 in
theorem w_647 : (Jvm.Cond.methodLink "LavenderPartsLaw" (142 : Nat) ({ cls := "LavenderParts", name := "copy", desc := "(IIIII)I" } : Jvm.MethodName)) ∈ lw_tbl := it3 (List.mem_of_getElem? (i := 167) rfl)
set_option maxRecDepth 20000 in
theorem w_648 : (Jvm.Cond.instanceMethod ({ cls := "LavenderParts", name := "copy", desc := "(IIIII)I" } : Jvm.MethodName)) ∈ lw_tbl := it3 (List.mem_of_getElem? (i := 168) rfl)
set_option maxRecDepth 20000 in
theorem w_649 : (Jvm.Cond.selects "LavenderParts" ({ cls := "LavenderParts", name := "copy", desc := "(IIIII)I" } : Jvm.MethodName) ({ cls := "LavenderParts", name := "copy", desc := "(IIIII)I" } : Jvm.MethodName)) ∈ lw_tbl := it3 (List.mem_of_getElem? (i := 169) rfl)
set_option maxRecDepth 20000 in
theorem w_650 : (Jvm.Cond.code ({ cls := "LavenderParts", name := "copy", desc := "(IIIII)I" } : Jvm.MethodName) prog_1_method_33_code (8 : Nat) (Option.some Jvm.ClassFile.FieldType.int)) ∈ lw_tbl := it3 (List.mem_of_getElem? (i := 170) rfl)
set_option maxRecDepth 20000 in
theorem w_651 : (Jvm.Cond.methodLink "LavenderParts" (203 : Nat) ({ cls := "LavenderParts$Sheet", name := "hasRun", desc := "(II)Z" } : Jvm.MethodName)) ∈ lw_tbl := it3 (List.mem_of_getElem? (i := 171) rfl)
set_option maxRecDepth 20000 in
theorem w_652 : (Jvm.Cond.instanceMethod ({ cls := "LavenderParts$Sheet", name := "hasRun", desc := "(II)Z" } : Jvm.MethodName)) ∈ lw_tbl := it3 (List.mem_of_getElem? (i := 172) rfl)
set_option maxRecDepth 20000 in
theorem w_653 : (Jvm.Cond.selects "LavenderParts$Sheet" ({ cls := "LavenderParts$Sheet", name := "hasRun", desc := "(II)Z" } : Jvm.MethodName) ({ cls := "LavenderParts$Sheet", name := "hasRun", desc := "(II)Z" } : Jvm.MethodName)) ∈ lw_tbl := it3 (List.mem_of_getElem? (i := 173) rfl)
set_option maxRecDepth 20000 in
theorem w_654 : (Jvm.Cond.code ({ cls := "LavenderParts$Sheet", name := "hasRun", desc := "(II)Z" } : Jvm.MethodName) prog_3_method_4_code (3 : Nat) (Option.some Jvm.ClassFile.FieldType.boolean)) ∈ lw_tbl := it3 (List.mem_of_getElem? (i := 174) rfl)
set_option maxRecDepth 20000 in
theorem w_655 : (Jvm.Cond.methodLink "LavenderParts" (209 : Nat) ({ cls := "java/lang/System", name := "arraycopy", desc := "(Ljava/lang/Object;ILjava/lang/Object;II)V" } : Jvm.MethodName)) ∈ lw_tbl := it3 (List.mem_of_getElem? (i := 175) rfl)
set_option maxRecDepth 20000 in
theorem w_656 : (Jvm.Cond.methodLink "LavenderPartsLaw" (147 : Nat) ({ cls := "LavenderParts", name := "load", desc := "(I)I" } : Jvm.MethodName)) ∈ lw_tbl := it3 (List.mem_of_getElem? (i := 176) rfl)
set_option maxRecDepth 20000 in
theorem w_657 : (Jvm.Cond.instanceMethod ({ cls := "LavenderParts", name := "load", desc := "(I)I" } : Jvm.MethodName)) ∈ lw_tbl := it3 (List.mem_of_getElem? (i := 177) rfl)
set_option maxRecDepth 20000 in
theorem w_658 : (Jvm.Cond.selects "LavenderParts" ({ cls := "LavenderParts", name := "load", desc := "(I)I" } : Jvm.MethodName) ({ cls := "LavenderParts", name := "load", desc := "(I)I" } : Jvm.MethodName)) ∈ lw_tbl := it3 (List.mem_of_getElem? (i := 178) rfl)
set_option maxRecDepth 20000 in
theorem w_659 : (Jvm.Cond.code ({ cls := "LavenderParts", name := "load", desc := "(I)I" } : Jvm.MethodName) prog_1_method_34_code (6 : Nat) (Option.some Jvm.ClassFile.FieldType.int)) ∈ lw_tbl := it3 (List.mem_of_getElem? (i := 179) rfl)
set_option maxRecDepth 20000 in
theorem w_660 : (Jvm.Cond.methodLink "LavenderPartsLaw" (151 : Nat) ({ cls := "LavenderParts", name := "judge", desc := "(I)I" } : Jvm.MethodName)) ∈ lw_tbl := it3 (List.mem_of_getElem? (i := 180) rfl)
set_option maxRecDepth 20000 in
theorem w_661 : (Jvm.Cond.instanceMethod ({ cls := "LavenderParts", name := "judge", desc := "(I)I" } : Jvm.MethodName)) ∈ lw_tbl := it3 (List.mem_of_getElem? (i := 181) rfl)
set_option maxRecDepth 20000 in
theorem w_662 : (Jvm.Cond.selects "LavenderParts" ({ cls := "LavenderParts", name := "judge", desc := "(I)I" } : Jvm.MethodName) ({ cls := "LavenderParts", name := "judge", desc := "(I)I" } : Jvm.MethodName)) ∈ lw_tbl := it3 (List.mem_of_getElem? (i := 182) rfl)
set_option maxRecDepth 20000 in
theorem w_663 : (Jvm.Cond.code ({ cls := "LavenderParts", name := "judge", desc := "(I)I" } : Jvm.MethodName) prog_1_method_35_code (4 : Nat) (Option.some Jvm.ClassFile.FieldType.int)) ∈ lw_tbl := it3 (List.mem_of_getElem? (i := 183) rfl)
set_option maxRecDepth 20000 in
theorem w_664 : (Jvm.Cond.methodLink "LavenderPartsLaw" (155 : Nat) ({ cls := "LavenderParts", name := "image", desc := "()I" } : Jvm.MethodName)) ∈ lw_tbl := it3 (List.mem_of_getElem? (i := 184) rfl)
set_option maxRecDepth 20000 in
theorem w_665 : (Jvm.Cond.instanceMethod ({ cls := "LavenderParts", name := "image", desc := "()I" } : Jvm.MethodName)) ∈ lw_tbl := it3 (List.mem_of_getElem? (i := 185) rfl)
set_option maxRecDepth 20000 in
theorem w_666 : (Jvm.Cond.selects "LavenderParts" ({ cls := "LavenderParts", name := "image", desc := "()I" } : Jvm.MethodName) ({ cls := "LavenderParts", name := "image", desc := "()I" } : Jvm.MethodName)) ∈ lw_tbl := it3 (List.mem_of_getElem? (i := 186) rfl)
set_option maxRecDepth 20000 in
theorem w_667 : (Jvm.Cond.code ({ cls := "LavenderParts", name := "image", desc := "()I" } : Jvm.MethodName) prog_1_method_36_code (1 : Nat) (Option.some Jvm.ClassFile.FieldType.int)) ∈ lw_tbl := it3 (List.mem_of_getElem? (i := 187) rfl)
set_option maxRecDepth 20000 in
theorem w_668 : (Jvm.Cond.methodLink "LavenderPartsLaw" (159 : Nat) ({ cls := "LavenderParts", name := "undo", desc := "()I" } : Jvm.MethodName)) ∈ lw_tbl := it3 (List.mem_of_getElem? (i := 188) rfl)
set_option maxRecDepth 20000 in
theorem w_669 : (Jvm.Cond.instanceMethod ({ cls := "LavenderParts", name := "undo", desc := "()I" } : Jvm.MethodName)) ∈ lw_tbl := it3 (List.mem_of_getElem? (i := 189) rfl)
set_option maxRecDepth 20000 in
theorem w_670 : (Jvm.Cond.selects "LavenderParts" ({ cls := "LavenderParts", name := "undo", desc := "()I" } : Jvm.MethodName) ({ cls := "LavenderParts", name := "undo", desc := "()I" } : Jvm.MethodName)) ∈ lw_tbl := it3 (List.mem_of_getElem? (i := 190) rfl)
set_option maxRecDepth 20000 in
theorem w_671 : (Jvm.Cond.code ({ cls := "LavenderParts", name := "undo", desc := "()I" } : Jvm.MethodName) prog_1_method_37_code (1 : Nat) (Option.some Jvm.ClassFile.FieldType.int)) ∈ lw_tbl := it3 (List.mem_of_getElem? (i := 191) rfl)
set_option maxRecDepth 20000 in
theorem w_672 : (Jvm.Cond.methodLink "LavenderPartsLaw" (163 : Nat) ({ cls := "LavenderParts", name := "tear", desc := "()I" } : Jvm.MethodName)) ∈ lw_tbl := it3 (List.mem_of_getElem? (i := 192) rfl)
set_option maxRecDepth 20000 in
theorem w_673 : (Jvm.Cond.instanceMethod ({ cls := "LavenderParts", name := "tear", desc := "()I" } : Jvm.MethodName)) ∈ lw_tbl := it3 (List.mem_of_getElem? (i := 193) rfl)
set_option maxRecDepth 20000 in
theorem w_674 : (Jvm.Cond.selects "LavenderParts" ({ cls := "LavenderParts", name := "tear", desc := "()I" } : Jvm.MethodName) ({ cls := "LavenderParts", name := "tear", desc := "()I" } : Jvm.MethodName)) ∈ lw_tbl := it3 (List.mem_of_getElem? (i := 194) rfl)
set_option maxRecDepth 20000 in
theorem w_675 : (Jvm.Cond.code ({ cls := "LavenderParts", name := "tear", desc := "()I" } : Jvm.MethodName) prog_1_method_38_code (2 : Nat) (Option.some Jvm.ClassFile.FieldType.int)) ∈ lw_tbl := it3 (List.mem_of_getElem? (i := 195) rfl)
set_option maxRecDepth 20000 in
theorem w_676 : (Jvm.Cond.methodLink "LavenderPartsLaw" (167 : Nat) ({ cls := "LavenderParts", name := "count", desc := "(I)I" } : Jvm.MethodName)) ∈ lw_tbl := it3 (List.mem_of_getElem? (i := 196) rfl)
set_option maxRecDepth 20000 in
theorem w_677 : (Jvm.Cond.instanceMethod ({ cls := "LavenderParts", name := "count", desc := "(I)I" } : Jvm.MethodName)) ∈ lw_tbl := it3 (List.mem_of_getElem? (i := 197) rfl)
set_option maxRecDepth 20000 in
theorem w_678 : (Jvm.Cond.selects "LavenderParts" ({ cls := "LavenderParts", name := "count", desc := "(I)I" } : Jvm.MethodName) ({ cls := "LavenderParts", name := "count", desc := "(I)I" } : Jvm.MethodName)) ∈ lw_tbl := it3 (List.mem_of_getElem? (i := 198) rfl)
set_option maxRecDepth 20000 in
theorem w_679 : (Jvm.Cond.code ({ cls := "LavenderParts", name := "count", desc := "(I)I" } : Jvm.MethodName) prog_1_method_39_code (2 : Nat) (Option.some Jvm.ClassFile.FieldType.int)) ∈ lw_tbl := it3 (List.mem_of_getElem? (i := 199) rfl)
set_option maxRecDepth 20000 in
theorem w_680 : (Jvm.Cond.methodLink "LavenderParts" (215 : Nat) ({ cls := "LavenderParts$Square", name := "heldSpots", desc := "()I" } : Jvm.MethodName)) ∈ lw_tbl := it3 (List.mem_of_getElem? (i := 200) rfl)
set_option maxRecDepth 20000 in
theorem w_681 : (Jvm.Cond.instanceMethod ({ cls := "LavenderParts$Square", name := "heldSpots", desc := "()I" } : Jvm.MethodName)) ∈ lw_tbl := it3 (List.mem_of_getElem? (i := 201) rfl)
set_option maxRecDepth 20000 in
theorem w_682 : (Jvm.Cond.selects "LavenderParts$Square" ({ cls := "LavenderParts$Square", name := "heldSpots", desc := "()I" } : Jvm.MethodName) ({ cls := "LavenderParts$Square", name := "heldSpots", desc := "()I" } : Jvm.MethodName)) ∈ lw_tbl := it3 (List.mem_of_getElem? (i := 202) rfl)
set_option maxRecDepth 20000 in
theorem w_683 : (Jvm.Cond.code ({ cls := "LavenderParts$Square", name := "heldSpots", desc := "()I" } : Jvm.MethodName) prog_5_method_17_code (3 : Nat) (Option.some Jvm.ClassFile.FieldType.int)) ∈ lw_tbl := it3 (List.mem_of_getElem? (i := 203) rfl)
set_option maxRecDepth 20000 in
theorem w_684 : (Jvm.Cond.methodLink "LavenderPartsLaw" (171 : Nat) ({ cls := "LavenderParts", name := "status", desc := "(I)I" } : Jvm.MethodName)) ∈ lw_tbl := it3 (List.mem_of_getElem? (i := 204) rfl)
set_option maxRecDepth 20000 in
theorem w_685 : (Jvm.Cond.instanceMethod ({ cls := "LavenderParts", name := "status", desc := "(I)I" } : Jvm.MethodName)) ∈ lw_tbl := it3 (List.mem_of_getElem? (i := 205) rfl)
set_option maxRecDepth 20000 in
theorem w_686 : (Jvm.Cond.selects "LavenderParts" ({ cls := "LavenderParts", name := "status", desc := "(I)I" } : Jvm.MethodName) ({ cls := "LavenderParts", name := "status", desc := "(I)I" } : Jvm.MethodName)) ∈ lw_tbl := it3 (List.mem_of_getElem? (i := 206) rfl)
set_option maxRecDepth 20000 in
theorem w_687 : (Jvm.Cond.code ({ cls := "LavenderParts", name := "status", desc := "(I)I" } : Jvm.MethodName) prog_1_method_40_code (4 : Nat) (Option.some Jvm.ClassFile.FieldType.int)) ∈ lw_tbl := it3 (List.mem_of_getElem? (i := 207) rfl)
set_option maxRecDepth 20000 in
theorem w_688 : (Jvm.Cond.classLink "LavenderPartsLaw" (10 : Nat) "LavenderPartsModel") ∈ lw_tbl := it3 (List.mem_of_getElem? (i := 208) rfl)
set_option maxRecDepth 20000 in
theorem w_689 : (Jvm.Cond.instantiable "LavenderPartsModel" (22 : Nat)) ∈ lw_tbl := it3 (List.mem_of_getElem? (i := 209) rfl)
set_option maxRecDepth 20000 in
theorem w_690 : (Jvm.Cond.methodLink "LavenderPartsLaw" (12 : Nat) ({ cls := "LavenderPartsModel", name := "<init>", desc := "()V" } : Jvm.MethodName)) ∈ lw_tbl := it3 (List.mem_of_getElem? (i := 210) rfl)
set_option maxRecDepth 20000 in
theorem w_691 : (Jvm.Cond.instanceMethod ({ cls := "LavenderPartsModel", name := "<init>", desc := "()V" } : Jvm.MethodName)) ∈ lw_tbl := it3 (List.mem_of_getElem? (i := 211) rfl)
set_option maxRecDepth 20000 in
theorem w_692 : (Jvm.Cond.code ({ cls := "LavenderPartsModel", name := "<init>", desc := "()V" } : Jvm.MethodName) prog_8_method_1_code (2 : Nat) (Option.none : Option Jvm.ClassFile.FieldType)) ∈ lw_tbl := it3 (List.mem_of_getElem? (i := 212) rfl)
set_option maxRecDepth 20000 in
theorem w_693 : (Jvm.Cond.methodLink "LavenderPartsModel" (1 : Nat) ({ cls := "java/lang/Object", name := "<init>", desc := "()V" } : Jvm.MethodName)) ∈ lw_tbl := it3 (List.mem_of_getElem? (i := 213) rfl)
set_option maxRecDepth 20000 in
theorem w_694 : (Jvm.Cond.classLink "LavenderPartsModel" (28 : Nat) "java/lang/String") ∈ lw_tbl := it3 (List.mem_of_getElem? (i := 214) rfl)
set_option maxRecDepth 20000 in
theorem w_703 : (Jvm.Cond.fieldLink "LavenderPartsModel" (9 : Nat) "LavenderPartsModel" "now" "[I") ∈ lw_tbl := it3 (List.mem_of_getElem? (i := 223) rfl)
set_option maxRecDepth 20000 in
theorem w_704 : (Jvm.Cond.fieldLink "LavenderPartsModel" (13 : Nat) "LavenderPartsModel" "kept" "[I") ∈ lw_tbl := it3 (List.mem_of_getElem? (i := 224) rfl)
set_option maxRecDepth 20000 in
theorem w_705 : (Jvm.Cond.fieldLink "LavenderPartsModel" (16 : Nat) "LavenderPartsModel" "aside" "[I") ∈ lw_tbl := it3 (List.mem_of_getElem? (i := 225) rfl)
set_option maxRecDepth 20000 in
theorem w_706 : (Jvm.Cond.fieldLink "LavenderPartsModel" (330 : Nat) "LavenderPartsModel" "isKept" "Z") ∈ lw_tbl := it3 (List.mem_of_getElem? (i := 226) rfl)
set_option maxRecDepth 20000 in
theorem w_707 : (Jvm.Cond.fieldLink "LavenderPartsModel" (19 : Nat) "LavenderPartsModel" "found" "[I") ∈ lw_tbl := it3 (List.mem_of_getElem? (i := 227) rfl)
set_option maxRecDepth 20000 in
theorem w_708 : (Jvm.Cond.fieldLink "LavenderPartsModel" (22 : Nat) "LavenderPartsModel" "sold" "[I") ∈ lw_tbl := it3 (List.mem_of_getElem? (i := 228) rfl)
set_option maxRecDepth 20000 in
theorem w_709 : (Jvm.Cond.fieldLink "LavenderPartsModel" (214 : Nat) "LavenderPartsModel" "firstFit" "I") ∈ lw_tbl := it3 (List.mem_of_getElem? (i := 229) rfl)
set_option maxRecDepth 20000 in
theorem w_710 : (Jvm.Cond.fieldLink "LavenderPartsModel" (25 : Nat) "LavenderPartsModel" "tape" "[I") ∈ lw_tbl := it3 (List.mem_of_getElem? (i := 230) rfl)
set_option maxRecDepth 20000 in
theorem w_711 : (Jvm.Cond.fieldLink "LavenderPartsModel" (239 : Nat) "LavenderPartsModel" "taped" "I") ∈ lw_tbl := it3 (List.mem_of_getElem? (i := 231) rfl)
set_option maxRecDepth 20000 in
theorem w_712 : (Jvm.Cond.fieldLink "LavenderPartsModel" (245 : Nat) "LavenderPartsModel" "begins" "I") ∈ lw_tbl := it3 (List.mem_of_getElem? (i := 232) rfl)
set_option maxRecDepth 20000 in
theorem w_713 : (Jvm.Cond.fieldLink "LavenderPartsModel" (242 : Nat) "LavenderPartsModel" "ends" "I") ∈ lw_tbl := it3 (List.mem_of_getElem? (i := 233) rfl)
set_option maxRecDepth 20000 in
theorem w_714 : (Jvm.Cond.fieldLink "LavenderPartsModel" (253 : Nat) "LavenderPartsModel" "sort" "I") ∈ lw_tbl := it3 (List.mem_of_getElem? (i := 234) rfl)
set_option maxRecDepth 20000 in
theorem w_715 : (Jvm.Cond.fieldLink "LavenderPartsModel" (250 : Nat) "LavenderPartsModel" "value" "I") ∈ lw_tbl := it3 (List.mem_of_getElem? (i := 235) rfl)
set_option maxRecDepth 20000 in
theorem w_716 : (Jvm.Cond.fieldLink "LavenderPartsModel" (263 : Nat) "LavenderPartsModel" "isWrong" "Z") ∈ lw_tbl := it3 (List.mem_of_getElem? (i := 236) rfl)
set_option maxRecDepth 20000 in
theorem w_717 : (Jvm.Cond.fieldLink "LavenderPartsModel" (44 : Nat) "LavenderPartsModel" "kindNames" "[Ljava/lang/String;") ∈ lw_tbl := it3 (List.mem_of_getElem? (i := 237) rfl)
set_option maxRecDepth 20000 in
theorem w_718 : (Jvm.Cond.fieldLink "LavenderPartsModel" (48 : Nat) "LavenderPartsModel" "items" "[I") ∈ lw_tbl := it3 (List.mem_of_getElem? (i := 238) rfl)
set_option maxRecDepth 20000 in
theorem w_719 : (Jvm.Cond.fieldLink "LavenderPartsModel" (274 : Nat) "LavenderPartsModel" "itemMany" "I") ∈ lw_tbl := it3 (List.mem_of_getElem? (i := 239) rfl)
set_option maxRecDepth 20000 in
theorem w_720 : (Jvm.Cond.fieldLink "LavenderPartsModel" (281 : Nat) "LavenderPartsModel" "singersThen" "I") ∈ lw_tbl := it4 (List.mem_of_getElem? (i := 0) rfl)
set_option maxRecDepth 20000 in
theorem w_721 : (Jvm.Cond.fieldLink "LavenderPartsModel" (51 : Nat) "LavenderPartsModel" "widths" "[I") ∈ lw_tbl := it4 (List.mem_of_getElem? (i := 1) rfl)
set_option maxRecDepth 20000 in
theorem w_722 : (Jvm.Cond.fieldLink "LavenderPartsModel" (54 : Nat) "LavenderPartsModel" "sizes" "[I") ∈ lw_tbl := it4 (List.mem_of_getElem? (i := 2) rfl)
set_option maxRecDepth 20000 in
theorem w_723 : (Jvm.Cond.fieldLink "LavenderPartsModel" (57 : Nat) "LavenderPartsModel" "numbers" "[I") ∈ lw_tbl := it4 (List.mem_of_getElem? (i := 3) rfl)
set_option maxRecDepth 20000 in
theorem w_724 : (Jvm.Cond.fieldLink "LavenderPartsModel" (60 : Nat) "LavenderPartsModel" "moved" "[I") ∈ lw_tbl := it4 (List.mem_of_getElem? (i := 4) rfl)
set_option maxRecDepth 20000 in
theorem w_770 : (Jvm.Cond.methodLink "LavenderPartsLaw" (17 : Nat) ({ cls := "LavenderPartsModel", name := "singer", desc := "(II)I" } : Jvm.MethodName)) ∈ lw_tbl := it4 (List.mem_of_getElem? (i := 50) rfl)
set_option maxRecDepth 20000 in
theorem w_771 : (Jvm.Cond.instanceMethod ({ cls := "LavenderPartsModel", name := "singer", desc := "(II)I" } : Jvm.MethodName)) ∈ lw_tbl := it4 (List.mem_of_getElem? (i := 51) rfl)
set_option maxRecDepth 20000 in
theorem w_772 : (Jvm.Cond.selects "LavenderPartsModel" ({ cls := "LavenderPartsModel", name := "singer", desc := "(II)I" } : Jvm.MethodName) ({ cls := "LavenderPartsModel", name := "singer", desc := "(II)I" } : Jvm.MethodName)) ∈ lw_tbl := it4 (List.mem_of_getElem? (i := 52) rfl)
set_option maxRecDepth 20000 in
theorem w_773 : (Jvm.Cond.code ({ cls := "LavenderPartsModel", name := "singer", desc := "(II)I" } : Jvm.MethodName) prog_8_method_15_code (3 : Nat) (Option.some Jvm.ClassFile.FieldType.int)) ∈ lw_tbl := it4 (List.mem_of_getElem? (i := 53) rfl)
set_option maxRecDepth 20000 in
theorem w_774 : (Jvm.Cond.methodLink "LavenderPartsModel" (81 : Nat) ({ cls := "LavenderPartsModel", name := "isKind", desc := "(I)Z" } : Jvm.MethodName)) ∈ lw_tbl := it4 (List.mem_of_getElem? (i := 54) rfl)
set_option maxRecDepth 20000 in
theorem w_775 : (Jvm.Cond.static ({ cls := "LavenderPartsModel", name := "isKind", desc := "(I)Z" } : Jvm.MethodName)) ∈ lw_tbl := it4 (List.mem_of_getElem? (i := 55) rfl)
set_option maxRecDepth 20000 in
theorem w_776 : (Jvm.Cond.code ({ cls := "LavenderPartsModel", name := "isKind", desc := "(I)Z" } : Jvm.MethodName) prog_8_method_13_code (1 : Nat) (Option.some Jvm.ClassFile.FieldType.boolean)) ∈ lw_tbl := it4 (List.mem_of_getElem? (i := 56) rfl)
set_option maxRecDepth 20000 in
theorem w_777 : (Jvm.Cond.methodLink "LavenderPartsModel" (73 : Nat) ({ cls := "LavenderPartsModel", name := "within", desc := "(III)Z" } : Jvm.MethodName)) ∈ lw_tbl := it4 (List.mem_of_getElem? (i := 57) rfl)
set_option maxRecDepth 20000 in
theorem w_778 : (Jvm.Cond.static ({ cls := "LavenderPartsModel", name := "within", desc := "(III)Z" } : Jvm.MethodName)) ∈ lw_tbl := it4 (List.mem_of_getElem? (i := 58) rfl)
set_option maxRecDepth 20000 in
theorem w_779 : (Jvm.Cond.code ({ cls := "LavenderPartsModel", name := "within", desc := "(III)Z" } : Jvm.MethodName) prog_8_method_3_code (3 : Nat) (Option.some Jvm.ClassFile.FieldType.boolean)) ∈ lw_tbl := it4 (List.mem_of_getElem? (i := 59) rfl)
set_option maxRecDepth 20000 in
theorem w_780 : (Jvm.Cond.methodLink "LavenderPartsModel" (85 : Nat) ({ cls := "LavenderPartsModel", name := "isDate", desc := "(I)Z" } : Jvm.MethodName)) ∈ lw_tbl := it4 (List.mem_of_getElem? (i := 60) rfl)
set_option maxRecDepth 20000 in
theorem w_781 : (Jvm.Cond.static ({ cls := "LavenderPartsModel", name := "isDate", desc := "(I)Z" } : Jvm.MethodName)) ∈ lw_tbl := it4 (List.mem_of_getElem? (i := 61) rfl)
set_option maxRecDepth 20000 in
theorem w_782 : (Jvm.Cond.code ({ cls := "LavenderPartsModel", name := "isDate", desc := "(I)Z" } : Jvm.MethodName) prog_8_method_9_code (1 : Nat) (Option.some Jvm.ClassFile.FieldType.boolean)) ∈ lw_tbl := it4 (List.mem_of_getElem? (i := 62) rfl)
set_option maxRecDepth 20000 in
theorem w_783 : (Jvm.Cond.constant "LavenderPartsModel" (63 : Nat) (-1000001 : Int32)) ∈ lw_tbl := it4 (List.mem_of_getElem? (i := 63) rfl)
set_option maxRecDepth 20000 in
theorem w_784 : (Jvm.Cond.methodLink "LavenderPartsModel" (69 : Nat) ({ cls := "LavenderPartsModel", name := "finding", desc := "(I)I" } : Jvm.MethodName)) ∈ lw_tbl := it4 (List.mem_of_getElem? (i := 64) rfl)
set_option maxRecDepth 20000 in
theorem w_786 : (Jvm.Cond.instanceMethod ({ cls := "LavenderPartsModel", name := "finding", desc := "(I)I" } : Jvm.MethodName)) ∈ lw_tbl := it4 (List.mem_of_getElem? (i := 66) rfl)
set_option maxRecDepth 20000 in
theorem w_787 : (Jvm.Cond.code ({ cls := "LavenderPartsModel", name := "finding", desc := "(I)I" } : Jvm.MethodName) prog_8_method_2_code (2 : Nat) (Option.some Jvm.ClassFile.FieldType.int)) ∈ lw_tbl := it4 (List.mem_of_getElem? (i := 67) rfl)
set_option maxRecDepth 20000 in
theorem w_788 : (Jvm.Cond.constant "LavenderPartsModel" (88 : Nat) (-1000002 : Int32)) ∈ lw_tbl := it4 (List.mem_of_getElem? (i := 68) rfl)
set_option maxRecDepth 20000 in
theorem w_789 : (Jvm.Cond.methodLink "LavenderPartsModel" (89 : Nat) ({ cls := "LavenderPartsModel", name := "comes", desc := "(II)I" } : Jvm.MethodName)) ∈ lw_tbl := it4 (List.mem_of_getElem? (i := 69) rfl)
set_option maxRecDepth 20000 in
theorem w_791 : (Jvm.Cond.instanceMethod ({ cls := "LavenderPartsModel", name := "comes", desc := "(II)I" } : Jvm.MethodName)) ∈ lw_tbl := it4 (List.mem_of_getElem? (i := 71) rfl)
set_option maxRecDepth 20000 in
theorem w_792 : (Jvm.Cond.code ({ cls := "LavenderPartsModel", name := "comes", desc := "(II)I" } : Jvm.MethodName) prog_8_method_14_code (5 : Nat) (Option.some Jvm.ClassFile.FieldType.int)) ∈ lw_tbl := it4 (List.mem_of_getElem? (i := 72) rfl)
set_option maxRecDepth 20000 in
theorem w_793 : (Jvm.Cond.methodLink "LavenderPartsModel" (77 : Nat) ({ cls := "LavenderPartsModel", name := "singerAt", desc := "(II)I" } : Jvm.MethodName)) ∈ lw_tbl := it4 (List.mem_of_getElem? (i := 73) rfl)
set_option maxRecDepth 20000 in
theorem w_794 : (Jvm.Cond.static ({ cls := "LavenderPartsModel", name := "singerAt", desc := "(II)I" } : Jvm.MethodName)) ∈ lw_tbl := it4 (List.mem_of_getElem? (i := 74) rfl)
set_option maxRecDepth 20000 in
theorem w_795 : (Jvm.Cond.code ({ cls := "LavenderPartsModel", name := "singerAt", desc := "(II)I" } : Jvm.MethodName) prog_8_method_10_code (2 : Nat) (Option.some Jvm.ClassFile.FieldType.int)) ∈ lw_tbl := it4 (List.mem_of_getElem? (i := 75) rfl)
set_option maxRecDepth 20000 in
theorem w_796 : (Jvm.Cond.methodLink "LavenderPartsLaw" (21 : Nat) ({ cls := "LavenderPartsModel", name := "of", desc := "(II)I" } : Jvm.MethodName)) ∈ lw_tbl := it4 (List.mem_of_getElem? (i := 76) rfl)
set_option maxRecDepth 20000 in
theorem w_797 : (Jvm.Cond.instanceMethod ({ cls := "LavenderPartsModel", name := "of", desc := "(II)I" } : Jvm.MethodName)) ∈ lw_tbl := it4 (List.mem_of_getElem? (i := 77) rfl)
set_option maxRecDepth 20000 in
theorem w_798 : (Jvm.Cond.selects "LavenderPartsModel" ({ cls := "LavenderPartsModel", name := "of", desc := "(II)I" } : Jvm.MethodName) ({ cls := "LavenderPartsModel", name := "of", desc := "(II)I" } : Jvm.MethodName)) ∈ lw_tbl := it4 (List.mem_of_getElem? (i := 78) rfl)
set_option maxRecDepth 20000 in
theorem w_799 : (Jvm.Cond.code ({ cls := "LavenderPartsModel", name := "of", desc := "(II)I" } : Jvm.MethodName) prog_8_method_24_code (3 : Nat) (Option.some Jvm.ClassFile.FieldType.int)) ∈ lw_tbl := it4 (List.mem_of_getElem? (i := 79) rfl)
set_option maxRecDepth 20000 in
theorem w_800 : (Jvm.Cond.methodLink "LavenderPartsModel" (116 : Nat) ({ cls := "LavenderPartsModel", name := "isSinger", desc := "(I)Z" } : Jvm.MethodName)) ∈ lw_tbl := it4 (List.mem_of_getElem? (i := 80) rfl)
set_option maxRecDepth 20000 in
theorem w_802 : (Jvm.Cond.instanceMethod ({ cls := "LavenderPartsModel", name := "isSinger", desc := "(I)Z" } : Jvm.MethodName)) ∈ lw_tbl := it4 (List.mem_of_getElem? (i := 82) rfl)
set_option maxRecDepth 20000 in
theorem w_803 : (Jvm.Cond.code ({ cls := "LavenderPartsModel", name := "isSinger", desc := "(I)Z" } : Jvm.MethodName) prog_8_method_12_code (2 : Nat) (Option.some Jvm.ClassFile.FieldType.boolean)) ∈ lw_tbl := it4 (List.mem_of_getElem? (i := 83) rfl)
set_option maxRecDepth 20000 in
theorem w_804 : (Jvm.Cond.methodLink "LavenderPartsModel" (119 : Nat) ({ cls := "LavenderPartsModel", name := "told", desc := "(II)I" } : Jvm.MethodName)) ∈ lw_tbl := it4 (List.mem_of_getElem? (i := 84) rfl)
set_option maxRecDepth 20000 in
theorem w_806 : (Jvm.Cond.instanceMethod ({ cls := "LavenderPartsModel", name := "told", desc := "(II)I" } : Jvm.MethodName)) ∈ lw_tbl := it4 (List.mem_of_getElem? (i := 86) rfl)
set_option maxRecDepth 20000 in
theorem w_807 : (Jvm.Cond.code ({ cls := "LavenderPartsModel", name := "told", desc := "(II)I" } : Jvm.MethodName) prog_8_method_23_code (3 : Nat) (Option.some Jvm.ClassFile.FieldType.int)) ∈ lw_tbl := it4 (List.mem_of_getElem? (i := 87) rfl)
set_option maxRecDepth 20000 in
theorem w_808 : (Jvm.Cond.methodLink "LavenderPartsModel" (104 : Nat) ({ cls := "LavenderPartsModel", name := "gap", desc := "(I)I" } : Jvm.MethodName)) ∈ lw_tbl := it4 (List.mem_of_getElem? (i := 88) rfl)
set_option maxRecDepth 20000 in
theorem w_810 : (Jvm.Cond.instanceMethod ({ cls := "LavenderPartsModel", name := "gap", desc := "(I)I" } : Jvm.MethodName)) ∈ lw_tbl := it4 (List.mem_of_getElem? (i := 90) rfl)
set_option maxRecDepth 20000 in
theorem w_811 : (Jvm.Cond.code ({ cls := "LavenderPartsModel", name := "gap", desc := "(I)I" } : Jvm.MethodName) prog_8_method_18_code (3 : Nat) (Option.some Jvm.ClassFile.FieldType.int)) ∈ lw_tbl := it4 (List.mem_of_getElem? (i := 91) rfl)
set_option maxRecDepth 20000 in
theorem w_812 : (Jvm.Cond.methodLink "LavenderPartsModel" (92 : Nat) ({ cls := "LavenderPartsModel", name := "singerIs", desc := "(II)I" } : Jvm.MethodName)) ∈ lw_tbl := it4 (List.mem_of_getElem? (i := 92) rfl)
set_option maxRecDepth 20000 in
theorem w_814 : (Jvm.Cond.instanceMethod ({ cls := "LavenderPartsModel", name := "singerIs", desc := "(II)I" } : Jvm.MethodName)) ∈ lw_tbl := it4 (List.mem_of_getElem? (i := 94) rfl)
set_option maxRecDepth 20000 in
theorem w_815 : (Jvm.Cond.code ({ cls := "LavenderPartsModel", name := "singerIs", desc := "(II)I" } : Jvm.MethodName) prog_8_method_11_code (3 : Nat) (Option.some Jvm.ClassFile.FieldType.int)) ∈ lw_tbl := it4 (List.mem_of_getElem? (i := 95) rfl)
set_option maxRecDepth 20000 in
theorem w_816 : (Jvm.Cond.methodLink "LavenderPartsModel" (107 : Nat) ({ cls := "LavenderPartsModel", name := "lasts", desc := "(I)I" } : Jvm.MethodName)) ∈ lw_tbl := it4 (List.mem_of_getElem? (i := 96) rfl)
set_option maxRecDepth 20000 in
theorem w_818 : (Jvm.Cond.instanceMethod ({ cls := "LavenderPartsModel", name := "lasts", desc := "(I)I" } : Jvm.MethodName)) ∈ lw_tbl := it4 (List.mem_of_getElem? (i := 98) rfl)
set_option maxRecDepth 20000 in
theorem w_819 : (Jvm.Cond.code ({ cls := "LavenderPartsModel", name := "lasts", desc := "(I)I" } : Jvm.MethodName) prog_8_method_19_code (3 : Nat) (Option.some Jvm.ClassFile.FieldType.int)) ∈ lw_tbl := it4 (List.mem_of_getElem? (i := 99) rfl)
set_option maxRecDepth 20000 in
theorem w_820 : (Jvm.Cond.methodLink "LavenderPartsModel" (110 : Nat) ({ cls := "LavenderPartsModel", name := "sells", desc := "(I)I" } : Jvm.MethodName)) ∈ lw_tbl := it4 (List.mem_of_getElem? (i := 100) rfl)
set_option maxRecDepth 20000 in
theorem w_822 : (Jvm.Cond.instanceMethod ({ cls := "LavenderPartsModel", name := "sells", desc := "(I)I" } : Jvm.MethodName)) ∈ lw_tbl := it4 (List.mem_of_getElem? (i := 102) rfl)
set_option maxRecDepth 20000 in
theorem w_823 : (Jvm.Cond.code ({ cls := "LavenderPartsModel", name := "sells", desc := "(I)I" } : Jvm.MethodName) prog_8_method_21_code (5 : Nat) (Option.some Jvm.ClassFile.FieldType.int)) ∈ lw_tbl := it4 (List.mem_of_getElem? (i := 103) rfl)
set_option maxRecDepth 20000 in
theorem w_824 : (Jvm.Cond.methodLink "LavenderPartsModel" (95 : Nat) ({ cls := "LavenderPartsModel", name := "isDead", desc := "(I)Z" } : Jvm.MethodName)) ∈ lw_tbl := it4 (List.mem_of_getElem? (i := 104) rfl)
set_option maxRecDepth 20000 in
theorem w_826 : (Jvm.Cond.instanceMethod ({ cls := "LavenderPartsModel", name := "isDead", desc := "(I)Z" } : Jvm.MethodName)) ∈ lw_tbl := it4 (List.mem_of_getElem? (i := 106) rfl)
set_option maxRecDepth 20000 in
theorem w_827 : (Jvm.Cond.code ({ cls := "LavenderPartsModel", name := "isDead", desc := "(I)Z" } : Jvm.MethodName) prog_8_method_16_code (2 : Nat) (Option.some Jvm.ClassFile.FieldType.boolean)) ∈ lw_tbl := it4 (List.mem_of_getElem? (i := 107) rfl)
set_option maxRecDepth 20000 in
theorem w_828 : (Jvm.Cond.methodLink "LavenderPartsModel" (101 : Nat) ({ cls := "LavenderPartsModel", name := "isAlone", desc := "(I)Z" } : Jvm.MethodName)) ∈ lw_tbl := it4 (List.mem_of_getElem? (i := 108) rfl)
set_option maxRecDepth 20000 in
theorem w_830 : (Jvm.Cond.instanceMethod ({ cls := "LavenderPartsModel", name := "isAlone", desc := "(I)Z" } : Jvm.MethodName)) ∈ lw_tbl := it4 (List.mem_of_getElem? (i := 110) rfl)
set_option maxRecDepth 20000 in
theorem w_831 : (Jvm.Cond.code ({ cls := "LavenderPartsModel", name := "isAlone", desc := "(I)Z" } : Jvm.MethodName) prog_8_method_20_code (4 : Nat) (Option.some Jvm.ClassFile.FieldType.boolean)) ∈ lw_tbl := it4 (List.mem_of_getElem? (i := 111) rfl)
set_option maxRecDepth 20000 in
theorem w_832 : (Jvm.Cond.methodLink "LavenderPartsModel" (98 : Nat) ({ cls := "LavenderPartsModel", name := "doesSing", desc := "(I)Z" } : Jvm.MethodName)) ∈ lw_tbl := it4 (List.mem_of_getElem? (i := 112) rfl)
set_option maxRecDepth 20000 in
theorem w_834 : (Jvm.Cond.instanceMethod ({ cls := "LavenderPartsModel", name := "doesSing", desc := "(I)Z" } : Jvm.MethodName)) ∈ lw_tbl := it4 (List.mem_of_getElem? (i := 114) rfl)
set_option maxRecDepth 20000 in
theorem w_835 : (Jvm.Cond.code ({ cls := "LavenderPartsModel", name := "doesSing", desc := "(I)Z" } : Jvm.MethodName) prog_8_method_17_code (2 : Nat) (Option.some Jvm.ClassFile.FieldType.boolean)) ∈ lw_tbl := it4 (List.mem_of_getElem? (i := 115) rfl)
set_option maxRecDepth 20000 in
theorem w_836 : (Jvm.Cond.methodLink "LavenderPartsModel" (113 : Nat) ({ cls := "LavenderPartsModel", name := "wears", desc := "(I)I" } : Jvm.MethodName)) ∈ lw_tbl := it4 (List.mem_of_getElem? (i := 116) rfl)
set_option maxRecDepth 20000 in
theorem w_838 : (Jvm.Cond.instanceMethod ({ cls := "LavenderPartsModel", name := "wears", desc := "(I)I" } : Jvm.MethodName)) ∈ lw_tbl := it4 (List.mem_of_getElem? (i := 118) rfl)
set_option maxRecDepth 20000 in
theorem w_839 : (Jvm.Cond.code ({ cls := "LavenderPartsModel", name := "wears", desc := "(I)I" } : Jvm.MethodName) prog_8_method_22_code (2 : Nat) (Option.some Jvm.ClassFile.FieldType.int)) ∈ lw_tbl := it4 (List.mem_of_getElem? (i := 119) rfl)
set_option maxRecDepth 20000 in
theorem w_840 : (Jvm.Cond.methodLink "LavenderPartsLaw" (26 : Nat) ({ cls := "LavenderPartsModel", name := "change", desc := "(III)I" } : Jvm.MethodName)) ∈ lw_tbl := it4 (List.mem_of_getElem? (i := 120) rfl)
set_option maxRecDepth 20000 in
theorem w_841 : (Jvm.Cond.instanceMethod ({ cls := "LavenderPartsModel", name := "change", desc := "(III)I" } : Jvm.MethodName)) ∈ lw_tbl := it4 (List.mem_of_getElem? (i := 121) rfl)
set_option maxRecDepth 20000 in
theorem w_842 : (Jvm.Cond.selects "LavenderPartsModel" ({ cls := "LavenderPartsModel", name := "change", desc := "(III)I" } : Jvm.MethodName) ({ cls := "LavenderPartsModel", name := "change", desc := "(III)I" } : Jvm.MethodName)) ∈ lw_tbl := it4 (List.mem_of_getElem? (i := 122) rfl)
set_option maxRecDepth 20000 in
theorem w_843 : (Jvm.Cond.code ({ cls := "LavenderPartsModel", name := "change", desc := "(III)I" } : Jvm.MethodName) prog_8_method_26_code (4 : Nat) (Option.some Jvm.ClassFile.FieldType.int)) ∈ lw_tbl := it4 (List.mem_of_getElem? (i := 123) rfl)
set_option maxRecDepth 20000 in
theorem w_844 : (Jvm.Cond.methodLink "LavenderPartsModel" (122 : Nat) ({ cls := "LavenderPartsModel", name := "isField", desc := "(III)Z" } : Jvm.MethodName)) ∈ lw_tbl := it4 (List.mem_of_getElem? (i := 124) rfl)
set_option maxRecDepth 20000 in
theorem w_846 : (Jvm.Cond.instanceMethod ({ cls := "LavenderPartsModel", name := "isField", desc := "(III)Z" } : Jvm.MethodName)) ∈ lw_tbl := it4 (List.mem_of_getElem? (i := 126) rfl)
set_option maxRecDepth 20000 in
theorem w_847 : (Jvm.Cond.code ({ cls := "LavenderPartsModel", name := "isField", desc := "(III)Z" } : Jvm.MethodName) prog_8_method_25_code (4 : Nat) (Option.some Jvm.ClassFile.FieldType.boolean)) ∈ lw_tbl := it4 (List.mem_of_getElem? (i := 127) rfl)
set_option maxRecDepth 20000 in
theorem w_848 : (Jvm.Cond.methodLink "LavenderPartsModel" (125 : Nat) ({ cls := "LavenderPartsModel", name := "become", desc := "(II)I" } : Jvm.MethodName)) ∈ lw_tbl := it4 (List.mem_of_getElem? (i := 128) rfl)
set_option maxRecDepth 20000 in
theorem w_850 : (Jvm.Cond.instanceMethod ({ cls := "LavenderPartsModel", name := "become", desc := "(II)I" } : Jvm.MethodName)) ∈ lw_tbl := it4 (List.mem_of_getElem? (i := 130) rfl)
set_option maxRecDepth 20000 in
theorem w_851 : (Jvm.Cond.code ({ cls := "LavenderPartsModel", name := "become", desc := "(II)I" } : Jvm.MethodName) prog_8_method_4_code (4 : Nat) (Option.some Jvm.ClassFile.FieldType.int)) ∈ lw_tbl := it4 (List.mem_of_getElem? (i := 131) rfl)
set_option maxRecDepth 20000 in
theorem w_852 : (Jvm.Cond.methodLink "LavenderPartsLaw" (31 : Nat) ({ cls := "LavenderPartsModel", name := "answerers", desc := "(I)I" } : Jvm.MethodName)) ∈ lw_tbl := it4 (List.mem_of_getElem? (i := 132) rfl)
set_option maxRecDepth 20000 in
theorem w_853 : (Jvm.Cond.instanceMethod ({ cls := "LavenderPartsModel", name := "answerers", desc := "(I)I" } : Jvm.MethodName)) ∈ lw_tbl := it4 (List.mem_of_getElem? (i := 133) rfl)
set_option maxRecDepth 20000 in
theorem w_854 : (Jvm.Cond.selects "LavenderPartsModel" ({ cls := "LavenderPartsModel", name := "answerers", desc := "(I)I" } : Jvm.MethodName) ({ cls := "LavenderPartsModel", name := "answerers", desc := "(I)I" } : Jvm.MethodName)) ∈ lw_tbl := it4 (List.mem_of_getElem? (i := 134) rfl)
set_option maxRecDepth 20000 in
theorem w_855 : (Jvm.Cond.code ({ cls := "LavenderPartsModel", name := "answerers", desc := "(I)I" } : Jvm.MethodName) prog_8_method_27_code (4 : Nat) (Option.some Jvm.ClassFile.FieldType.int)) ∈ lw_tbl := it4 (List.mem_of_getElem? (i := 135) rfl)
set_option maxRecDepth 20000 in
theorem w_856 : (Jvm.Cond.methodLink "LavenderPartsLaw" (35 : Nat) ({ cls := "LavenderPartsModel", name := "strike", desc := "(I)I" } : Jvm.MethodName)) ∈ lw_tbl := it4 (List.mem_of_getElem? (i := 136) rfl)
set_option maxRecDepth 20000 in
theorem w_857 : (Jvm.Cond.instanceMethod ({ cls := "LavenderPartsModel", name := "strike", desc := "(I)I" } : Jvm.MethodName)) ∈ lw_tbl := it4 (List.mem_of_getElem? (i := 137) rfl)
set_option maxRecDepth 20000 in
theorem w_858 : (Jvm.Cond.selects "LavenderPartsModel" ({ cls := "LavenderPartsModel", name := "strike", desc := "(I)I" } : Jvm.MethodName) ({ cls := "LavenderPartsModel", name := "strike", desc := "(I)I" } : Jvm.MethodName)) ∈ lw_tbl := it4 (List.mem_of_getElem? (i := 138) rfl)
set_option maxRecDepth 20000 in
theorem w_859 : (Jvm.Cond.code ({ cls := "LavenderPartsModel", name := "strike", desc := "(I)I" } : Jvm.MethodName) prog_8_method_29_code (2 : Nat) (Option.some Jvm.ClassFile.FieldType.int)) ∈ lw_tbl := it4 (List.mem_of_getElem? (i := 139) rfl)
set_option maxRecDepth 20000 in
theorem w_860 : (Jvm.Cond.constant "LavenderPartsModel" (133 : Nat) (-1000005 : Int32)) ∈ lw_tbl := it4 (List.mem_of_getElem? (i := 140) rfl)
set_option maxRecDepth 20000 in
theorem w_861 : (Jvm.Cond.methodLink "LavenderPartsModel" (134 : Nat) ({ cls := "LavenderPartsModel", name := "begins", desc := "(I)I" } : Jvm.MethodName)) ∈ lw_tbl := it4 (List.mem_of_getElem? (i := 141) rfl)
set_option maxRecDepth 20000 in
theorem w_863 : (Jvm.Cond.instanceMethod ({ cls := "LavenderPartsModel", name := "begins", desc := "(I)I" } : Jvm.MethodName)) ∈ lw_tbl := it4 (List.mem_of_getElem? (i := 143) rfl)
set_option maxRecDepth 20000 in
theorem w_864 : (Jvm.Cond.code ({ cls := "LavenderPartsModel", name := "begins", desc := "(I)I" } : Jvm.MethodName) prog_8_method_28_code (2 : Nat) (Option.some Jvm.ClassFile.FieldType.int)) ∈ lw_tbl := it4 (List.mem_of_getElem? (i := 144) rfl)
set_option maxRecDepth 20000 in
theorem w_865 : (Jvm.Cond.methodLink "LavenderPartsModel" (128 : Nat) ({ cls := "java/lang/Math", name := "min", desc := "(II)I" } : Jvm.MethodName)) ∈ lw_tbl := it4 (List.mem_of_getElem? (i := 145) rfl)
set_option maxRecDepth 20000 in
theorem w_866 : (Jvm.Cond.methodLink "LavenderPartsLaw" (39 : Nat) ({ cls := "LavenderPartsModel", name := "go", desc := "(I)I" } : Jvm.MethodName)) ∈ lw_tbl := it4 (List.mem_of_getElem? (i := 146) rfl)
set_option maxRecDepth 20000 in
theorem w_867 : (Jvm.Cond.instanceMethod ({ cls := "LavenderPartsModel", name := "go", desc := "(I)I" } : Jvm.MethodName)) ∈ lw_tbl := it4 (List.mem_of_getElem? (i := 147) rfl)
set_option maxRecDepth 20000 in
theorem w_868 : (Jvm.Cond.selects "LavenderPartsModel" ({ cls := "LavenderPartsModel", name := "go", desc := "(I)I" } : Jvm.MethodName) ({ cls := "LavenderPartsModel", name := "go", desc := "(I)I" } : Jvm.MethodName)) ∈ lw_tbl := it4 (List.mem_of_getElem? (i := 148) rfl)
set_option maxRecDepth 20000 in
theorem w_869 : (Jvm.Cond.code ({ cls := "LavenderPartsModel", name := "go", desc := "(I)I" } : Jvm.MethodName) prog_8_method_38_code (2 : Nat) (Option.some Jvm.ClassFile.FieldType.int)) ∈ lw_tbl := it4 (List.mem_of_getElem? (i := 149) rfl)
set_option maxRecDepth 20000 in
theorem w_870 : (Jvm.Cond.constant "LavenderPartsModel" (141 : Nat) (99999 : Int32)) ∈ lw_tbl := it4 (List.mem_of_getElem? (i := 150) rfl)
set_option maxRecDepth 20000 in
theorem w_871 : (Jvm.Cond.methodLink "LavenderPartsModel" (163 : Nat) ({ cls := "LavenderPartsModel", name := "daysGo", desc := "(I)V" } : Jvm.MethodName)) ∈ lw_tbl := it4 (List.mem_of_getElem? (i := 151) rfl)
set_option maxRecDepth 20000 in
theorem w_873 : (Jvm.Cond.instanceMethod ({ cls := "LavenderPartsModel", name := "daysGo", desc := "(I)V" } : Jvm.MethodName)) ∈ lw_tbl := it4 (List.mem_of_getElem? (i := 153) rfl)
set_option maxRecDepth 20000 in
theorem w_874 : (Jvm.Cond.code ({ cls := "LavenderPartsModel", name := "daysGo", desc := "(I)V" } : Jvm.MethodName) prog_8_method_36_code (3 : Nat) (Option.none : Option Jvm.ClassFile.FieldType)) ∈ lw_tbl := it4 (List.mem_of_getElem? (i := 154) rfl)
set_option maxRecDepth 20000 in
theorem w_875 : (Jvm.Cond.methodLink "LavenderPartsModel" (160 : Nat) ({ cls := "LavenderPartsModel", name := "day", desc := "()V" } : Jvm.MethodName)) ∈ lw_tbl := it4 (List.mem_of_getElem? (i := 155) rfl)
set_option maxRecDepth 20000 in
theorem w_877 : (Jvm.Cond.instanceMethod ({ cls := "LavenderPartsModel", name := "day", desc := "()V" } : Jvm.MethodName)) ∈ lw_tbl := it4 (List.mem_of_getElem? (i := 157) rfl)
set_option maxRecDepth 20000 in
theorem w_878 : (Jvm.Cond.code ({ cls := "LavenderPartsModel", name := "day", desc := "()V" } : Jvm.MethodName) prog_8_method_35_code (3 : Nat) (Option.none : Option Jvm.ClassFile.FieldType)) ∈ lw_tbl := it4 (List.mem_of_getElem? (i := 158) rfl)
set_option maxRecDepth 20000 in
theorem w_879 : (Jvm.Cond.methodLink "LavenderPartsModel" (145 : Nat) ({ cls := "LavenderPartsModel", name := "ended", desc := "()I" } : Jvm.MethodName)) ∈ lw_tbl := it4 (List.mem_of_getElem? (i := 159) rfl)
set_option maxRecDepth 20000 in
theorem w_881 : (Jvm.Cond.instanceMethod ({ cls := "LavenderPartsModel", name := "ended", desc := "()I" } : Jvm.MethodName)) ∈ lw_tbl := it4 (List.mem_of_getElem? (i := 161) rfl)
set_option maxRecDepth 20000 in
theorem w_882 : (Jvm.Cond.code ({ cls := "LavenderPartsModel", name := "ended", desc := "()I" } : Jvm.MethodName) prog_8_method_31_code (3 : Nat) (Option.some Jvm.ClassFile.FieldType.int)) ∈ lw_tbl := it4 (List.mem_of_getElem? (i := 162) rfl)
set_option maxRecDepth 20000 in
theorem w_883 : (Jvm.Cond.methodLink "LavenderPartsModel" (149 : Nat) ({ cls := "LavenderPartsModel", name := "comesIn", desc := "(II)V" } : Jvm.MethodName)) ∈ lw_tbl := it4 (List.mem_of_getElem? (i := 163) rfl)
set_option maxRecDepth 20000 in
theorem w_885 : (Jvm.Cond.instanceMethod ({ cls := "LavenderPartsModel", name := "comesIn", desc := "(II)V" } : Jvm.MethodName)) ∈ lw_tbl := it4 (List.mem_of_getElem? (i := 165) rfl)
set_option maxRecDepth 20000 in
theorem w_886 : (Jvm.Cond.code ({ cls := "LavenderPartsModel", name := "comesIn", desc := "(II)V" } : Jvm.MethodName) prog_8_method_32_code (4 : Nat) (Option.none : Option Jvm.ClassFile.FieldType)) ∈ lw_tbl := it4 (List.mem_of_getElem? (i := 166) rfl)
set_option maxRecDepth 20000 in
theorem w_887 : (Jvm.Cond.methodLink "LavenderPartsModel" (153 : Nat) ({ cls := "LavenderPartsModel", name := "sell", desc := "()V" } : Jvm.MethodName)) ∈ lw_tbl := it4 (List.mem_of_getElem? (i := 167) rfl)
set_option maxRecDepth 20000 in
theorem w_889 : (Jvm.Cond.instanceMethod ({ cls := "LavenderPartsModel", name := "sell", desc := "()V" } : Jvm.MethodName)) ∈ lw_tbl := it4 (List.mem_of_getElem? (i := 169) rfl)
set_option maxRecDepth 20000 in
theorem w_890 : (Jvm.Cond.code ({ cls := "LavenderPartsModel", name := "sell", desc := "()V" } : Jvm.MethodName) prog_8_method_33_code (3 : Nat) (Option.none : Option Jvm.ClassFile.FieldType)) ∈ lw_tbl := it4 (List.mem_of_getElem? (i := 170) rfl)
set_option maxRecDepth 20000 in
theorem w_891 : (Jvm.Cond.methodLink "LavenderPartsModel" (137 : Nat) ({ cls := "LavenderPartsModel", name := "more", desc := "(III)V" } : Jvm.MethodName)) ∈ lw_tbl := it4 (List.mem_of_getElem? (i := 171) rfl)
set_option maxRecDepth 20000 in
theorem w_893 : (Jvm.Cond.instanceMethod ({ cls := "LavenderPartsModel", name := "more", desc := "(III)V" } : Jvm.MethodName)) ∈ lw_tbl := it4 (List.mem_of_getElem? (i := 173) rfl)
set_option maxRecDepth 20000 in
theorem w_894 : (Jvm.Cond.code ({ cls := "LavenderPartsModel", name := "more", desc := "(III)V" } : Jvm.MethodName) prog_8_method_30_code (4 : Nat) (Option.none : Option Jvm.ClassFile.FieldType)) ∈ lw_tbl := it4 (List.mem_of_getElem? (i := 174) rfl)
set_option maxRecDepth 20000 in
theorem w_895 : (Jvm.Cond.methodLink "LavenderPartsModel" (156 : Nat) ({ cls := "LavenderPartsModel", name := "ages", desc := "(I)V" } : Jvm.MethodName)) ∈ lw_tbl := it4 (List.mem_of_getElem? (i := 175) rfl)
set_option maxRecDepth 20000 in
theorem w_897 : (Jvm.Cond.instanceMethod ({ cls := "LavenderPartsModel", name := "ages", desc := "(I)V" } : Jvm.MethodName)) ∈ lw_tbl := it4 (List.mem_of_getElem? (i := 177) rfl)
set_option maxRecDepth 20000 in
theorem w_898 : (Jvm.Cond.code ({ cls := "LavenderPartsModel", name := "ages", desc := "(I)V" } : Jvm.MethodName) prog_8_method_34_code (3 : Nat) (Option.none : Option Jvm.ClassFile.FieldType)) ∈ lw_tbl := it4 (List.mem_of_getElem? (i := 178) rfl)
set_option maxRecDepth 20000 in
theorem w_899 : (Jvm.Cond.methodLink "LavenderPartsModel" (142 : Nat) ({ cls := "java/lang/Math", name := "max", desc := "(II)I" } : Jvm.MethodName)) ∈ lw_tbl := it4 (List.mem_of_getElem? (i := 179) rfl)
set_option maxRecDepth 20000 in
theorem w_900 : (Jvm.Cond.methodLink "LavenderPartsModel" (166 : Nat) ({ cls := "LavenderPartsModel", name := "singing", desc := "()I" } : Jvm.MethodName)) ∈ lw_tbl := it4 (List.mem_of_getElem? (i := 180) rfl)
set_option maxRecDepth 20000 in
theorem w_902 : (Jvm.Cond.instanceMethod ({ cls := "LavenderPartsModel", name := "singing", desc := "()I" } : Jvm.MethodName)) ∈ lw_tbl := it4 (List.mem_of_getElem? (i := 182) rfl)
set_option maxRecDepth 20000 in
theorem w_903 : (Jvm.Cond.code ({ cls := "LavenderPartsModel", name := "singing", desc := "()I" } : Jvm.MethodName) prog_8_method_37_code (3 : Nat) (Option.some Jvm.ClassFile.FieldType.int)) ∈ lw_tbl := it4 (List.mem_of_getElem? (i := 183) rfl)
set_option maxRecDepth 20000 in
theorem w_904 : (Jvm.Cond.methodLink "LavenderPartsLaw" (43 : Nat) ({ cls := "LavenderPartsModel", name := "now", desc := "(I)I" } : Jvm.MethodName)) ∈ lw_tbl := it4 (List.mem_of_getElem? (i := 184) rfl)
set_option maxRecDepth 20000 in
theorem w_905 : (Jvm.Cond.instanceMethod ({ cls := "LavenderPartsModel", name := "now", desc := "(I)I" } : Jvm.MethodName)) ∈ lw_tbl := it4 (List.mem_of_getElem? (i := 185) rfl)
set_option maxRecDepth 20000 in
theorem w_906 : (Jvm.Cond.selects "LavenderPartsModel" ({ cls := "LavenderPartsModel", name := "now", desc := "(I)I" } : Jvm.MethodName) ({ cls := "LavenderPartsModel", name := "now", desc := "(I)I" } : Jvm.MethodName)) ∈ lw_tbl := it4 (List.mem_of_getElem? (i := 186) rfl)
set_option maxRecDepth 20000 in
theorem w_907 : (Jvm.Cond.code ({ cls := "LavenderPartsModel", name := "now", desc := "(I)I" } : Jvm.MethodName) prog_8_method_42_code (2 : Nat) (Option.some Jvm.ClassFile.FieldType.int)) ∈ lw_tbl := it4 (List.mem_of_getElem? (i := 187) rfl)
set_option maxRecDepth 20000 in
theorem w_908 : (Jvm.Cond.methodLink "LavenderPartsModel" (169 : Nat) ({ cls := "LavenderPartsModel", name := "waiting", desc := "()I" } : Jvm.MethodName)) ∈ lw_tbl := it4 (List.mem_of_getElem? (i := 188) rfl)
set_option maxRecDepth 20000 in
theorem w_910 : (Jvm.Cond.instanceMethod ({ cls := "LavenderPartsModel", name := "waiting", desc := "()I" } : Jvm.MethodName)) ∈ lw_tbl := it4 (List.mem_of_getElem? (i := 190) rfl)
set_option maxRecDepth 20000 in
theorem w_911 : (Jvm.Cond.code ({ cls := "LavenderPartsModel", name := "waiting", desc := "()I" } : Jvm.MethodName) prog_8_method_39_code (3 : Nat) (Option.some Jvm.ClassFile.FieldType.int)) ∈ lw_tbl := it4 (List.mem_of_getElem? (i := 191) rfl)
set_option maxRecDepth 20000 in
theorem w_912 : (Jvm.Cond.methodLink "LavenderPartsModel" (172 : Nat) ({ cls := "LavenderPartsModel", name := "sumOf", desc := "(I)I" } : Jvm.MethodName)) ∈ lw_tbl := it4 (List.mem_of_getElem? (i := 192) rfl)
set_option maxRecDepth 20000 in
theorem w_914 : (Jvm.Cond.instanceMethod ({ cls := "LavenderPartsModel", name := "sumOf", desc := "(I)I" } : Jvm.MethodName)) ∈ lw_tbl := it4 (List.mem_of_getElem? (i := 194) rfl)
set_option maxRecDepth 20000 in
theorem w_915 : (Jvm.Cond.code ({ cls := "LavenderPartsModel", name := "sumOf", desc := "(I)I" } : Jvm.MethodName) prog_8_method_41_code (4 : Nat) (Option.some Jvm.ClassFile.FieldType.int)) ∈ lw_tbl := it4 (List.mem_of_getElem? (i := 195) rfl)
set_option maxRecDepth 20000 in
theorem w_916 : (Jvm.Cond.methodLink "LavenderPartsModel" (175 : Nat) ({ cls := "LavenderPartsModel", name := "deadOnes", desc := "()I" } : Jvm.MethodName)) ∈ lw_tbl := it4 (List.mem_of_getElem? (i := 196) rfl)
set_option maxRecDepth 20000 in
theorem w_918 : (Jvm.Cond.instanceMethod ({ cls := "LavenderPartsModel", name := "deadOnes", desc := "()I" } : Jvm.MethodName)) ∈ lw_tbl := it4 (List.mem_of_getElem? (i := 198) rfl)
set_option maxRecDepth 20000 in
theorem w_919 : (Jvm.Cond.code ({ cls := "LavenderPartsModel", name := "deadOnes", desc := "()I" } : Jvm.MethodName) prog_8_method_40_code (3 : Nat) (Option.some Jvm.ClassFile.FieldType.int)) ∈ lw_tbl := it4 (List.mem_of_getElem? (i := 199) rfl)
set_option maxRecDepth 20000 in
theorem w_920 : (Jvm.Cond.methodLink "LavenderPartsLaw" (47 : Nat) ({ cls := "LavenderPartsModel", name := "ahead", desc := "(III)I" } : Jvm.MethodName)) ∈ lw_tbl := it4 (List.mem_of_getElem? (i := 200) rfl)
set_option maxRecDepth 20000 in
theorem w_921 : (Jvm.Cond.instanceMethod ({ cls := "LavenderPartsModel", name := "ahead", desc := "(III)I" } : Jvm.MethodName)) ∈ lw_tbl := it4 (List.mem_of_getElem? (i := 201) rfl)
set_option maxRecDepth 20000 in
theorem w_922 : (Jvm.Cond.selects "LavenderPartsModel" ({ cls := "LavenderPartsModel", name := "ahead", desc := "(III)I" } : Jvm.MethodName) ({ cls := "LavenderPartsModel", name := "ahead", desc := "(III)I" } : Jvm.MethodName)) ∈ lw_tbl := it4 (List.mem_of_getElem? (i := 202) rfl)
set_option maxRecDepth 20000 in
theorem w_923 : (Jvm.Cond.code ({ cls := "LavenderPartsModel", name := "ahead", desc := "(III)I" } : Jvm.MethodName) prog_8_method_45_code (5 : Nat) (Option.some Jvm.ClassFile.FieldType.int)) ∈ lw_tbl := it4 (List.mem_of_getElem? (i := 203) rfl)
set_option maxRecDepth 20000 in
theorem w_924 : (Jvm.Cond.methodLink "LavenderPartsModel" (64 : Nat) ({ cls := "LavenderPartsModel", name := "copyRow", desc := "([I[I)V" } : Jvm.MethodName)) ∈ lw_tbl := it4 (List.mem_of_getElem? (i := 204) rfl)
set_option maxRecDepth 20000 in
theorem w_925 : (Jvm.Cond.static ({ cls := "LavenderPartsModel", name := "copyRow", desc := "([I[I)V" } : Jvm.MethodName)) ∈ lw_tbl := it4 (List.mem_of_getElem? (i := 205) rfl)
set_option maxRecDepth 20000 in
theorem w_926 : (Jvm.Cond.code ({ cls := "LavenderPartsModel", name := "copyRow", desc := "([I[I)V" } : Jvm.MethodName) prog_8_method_5_code (3 : Nat) (Option.none : Option Jvm.ClassFile.FieldType)) ∈ lw_tbl := it4 (List.mem_of_getElem? (i := 206) rfl)
set_option maxRecDepth 20000 in
theorem w_927 : (Jvm.Cond.methodLink "LavenderPartsModel" (178 : Nat) ({ cls := "LavenderPartsModel", name := "putBack", desc := "(I)I" } : Jvm.MethodName)) ∈ lw_tbl := it4 (List.mem_of_getElem? (i := 207) rfl)
set_option maxRecDepth 20000 in
theorem w_929 : (Jvm.Cond.instanceMethod ({ cls := "LavenderPartsModel", name := "putBack", desc := "(I)I" } : Jvm.MethodName)) ∈ lw_tbl := it4 (List.mem_of_getElem? (i := 209) rfl)
set_option maxRecDepth 20000 in
theorem w_930 : (Jvm.Cond.code ({ cls := "LavenderPartsModel", name := "putBack", desc := "(I)I" } : Jvm.MethodName) prog_8_method_6_code (2 : Nat) (Option.some Jvm.ClassFile.FieldType.int)) ∈ lw_tbl := it4 (List.mem_of_getElem? (i := 210) rfl)
set_option maxRecDepth 20000 in
theorem w_931 : (Jvm.Cond.methodLink "LavenderPartsLaw" (51 : Nat) ({ cls := "LavenderPartsModel", name := "sings", desc := "(I)I" } : Jvm.MethodName)) ∈ lw_tbl := it4 (List.mem_of_getElem? (i := 211) rfl)
set_option maxRecDepth 20000 in
theorem w_932 : (Jvm.Cond.instanceMethod ({ cls := "LavenderPartsModel", name := "sings", desc := "(I)I" } : Jvm.MethodName)) ∈ lw_tbl := it4 (List.mem_of_getElem? (i := 212) rfl)
set_option maxRecDepth 20000 in
theorem w_933 : (Jvm.Cond.selects "LavenderPartsModel" ({ cls := "LavenderPartsModel", name := "sings", desc := "(I)I" } : Jvm.MethodName) ({ cls := "LavenderPartsModel", name := "sings", desc := "(I)I" } : Jvm.MethodName)) ∈ lw_tbl := it4 (List.mem_of_getElem? (i := 213) rfl)
set_option maxRecDepth 20000 in
theorem w_934 : (Jvm.Cond.code ({ cls := "LavenderPartsModel", name := "sings", desc := "(I)I" } : Jvm.MethodName) prog_8_method_47_code (2 : Nat) (Option.some Jvm.ClassFile.FieldType.int)) ∈ lw_tbl := it4 (List.mem_of_getElem? (i := 214) rfl)
set_option maxRecDepth 20000 in
theorem w_935 : (Jvm.Cond.methodLink "LavenderPartsModel" (181 : Nat) ({ cls := "LavenderPartsModel", name := "daysTo", desc := "(II)I" } : Jvm.MethodName)) ∈ lw_tbl := it4 (List.mem_of_getElem? (i := 215) rfl)
set_option maxRecDepth 20000 in
theorem w_937 : (Jvm.Cond.instanceMethod ({ cls := "LavenderPartsModel", name := "daysTo", desc := "(II)I" } : Jvm.MethodName)) ∈ lw_tbl := it4 (List.mem_of_getElem? (i := 217) rfl)
set_option maxRecDepth 20000 in
theorem w_938 : (Jvm.Cond.code ({ cls := "LavenderPartsModel", name := "daysTo", desc := "(II)I" } : Jvm.MethodName) prog_8_method_46_code (4 : Nat) (Option.some Jvm.ClassFile.FieldType.int)) ∈ lw_tbl := it4 (List.mem_of_getElem? (i := 218) rfl)
set_option maxRecDepth 20000 in
theorem w_939 : (Jvm.Cond.methodLink "LavenderPartsModel" (184 : Nat) ({ cls := "LavenderPartsModel", name := "orNone", desc := "(I)I" } : Jvm.MethodName)) ∈ lw_tbl := it4 (List.mem_of_getElem? (i := 219) rfl)
set_option maxRecDepth 20000 in
theorem w_941 : (Jvm.Cond.instanceMethod ({ cls := "LavenderPartsModel", name := "orNone", desc := "(I)I" } : Jvm.MethodName)) ∈ lw_tbl := it4 (List.mem_of_getElem? (i := 221) rfl)
set_option maxRecDepth 20000 in
theorem w_942 : (Jvm.Cond.code ({ cls := "LavenderPartsModel", name := "orNone", desc := "(I)I" } : Jvm.MethodName) prog_8_method_7_code (2 : Nat) (Option.some Jvm.ClassFile.FieldType.int)) ∈ lw_tbl := it4 (List.mem_of_getElem? (i := 222) rfl)
set_option maxRecDepth 20000 in
theorem w_943 : (Jvm.Cond.constant "LavenderPartsModel" (68 : Nat) (-1000004 : Int32)) ∈ lw_tbl := it4 (List.mem_of_getElem? (i := 223) rfl)
set_option maxRecDepth 20000 in
theorem w_944 : (Jvm.Cond.methodLink "LavenderPartsLaw" (55 : Nat) ({ cls := "LavenderPartsModel", name := "together", desc := "(II)I" } : Jvm.MethodName)) ∈ lw_tbl := it4 (List.mem_of_getElem? (i := 224) rfl)
set_option maxRecDepth 20000 in
theorem w_945 : (Jvm.Cond.instanceMethod ({ cls := "LavenderPartsModel", name := "together", desc := "(II)I" } : Jvm.MethodName)) ∈ lw_tbl := it4 (List.mem_of_getElem? (i := 225) rfl)
set_option maxRecDepth 20000 in
theorem w_946 : (Jvm.Cond.selects "LavenderPartsModel" ({ cls := "LavenderPartsModel", name := "together", desc := "(II)I" } : Jvm.MethodName) ({ cls := "LavenderPartsModel", name := "together", desc := "(II)I" } : Jvm.MethodName)) ∈ lw_tbl := it4 (List.mem_of_getElem? (i := 226) rfl)
set_option maxRecDepth 20000 in
theorem w_947 : (Jvm.Cond.code ({ cls := "LavenderPartsModel", name := "together", desc := "(II)I" } : Jvm.MethodName) prog_8_method_48_code (3 : Nat) (Option.some Jvm.ClassFile.FieldType.int)) ∈ lw_tbl := it4 (List.mem_of_getElem? (i := 227) rfl)
set_option maxRecDepth 20000 in
theorem w_948 : (Jvm.Cond.methodLink "LavenderPartsLaw" (59 : Nat) ({ cls := "LavenderPartsModel", name := "rest", desc := "(I)I" } : Jvm.MethodName)) ∈ lw_tbl := it4 (List.mem_of_getElem? (i := 228) rfl)
set_option maxRecDepth 20000 in
theorem w_949 : (Jvm.Cond.instanceMethod ({ cls := "LavenderPartsModel", name := "rest", desc := "(I)I" } : Jvm.MethodName)) ∈ lw_tbl := it4 (List.mem_of_getElem? (i := 229) rfl)
set_option maxRecDepth 20000 in
theorem w_950 : (Jvm.Cond.selects "LavenderPartsModel" ({ cls := "LavenderPartsModel", name := "rest", desc := "(I)I" } : Jvm.MethodName) ({ cls := "LavenderPartsModel", name := "rest", desc := "(I)I" } : Jvm.MethodName)) ∈ lw_tbl := it4 (List.mem_of_getElem? (i := 230) rfl)
set_option maxRecDepth 20000 in
theorem w_951 : (Jvm.Cond.code ({ cls := "LavenderPartsModel", name := "rest", desc := "(I)I" } : Jvm.MethodName) prog_8_method_50_code (2 : Nat) (Option.some Jvm.ClassFile.FieldType.int)) ∈ lw_tbl := it4 (List.mem_of_getElem? (i := 231) rfl)
set_option maxRecDepth 20000 in
theorem w_952 : (Jvm.Cond.methodLink "LavenderPartsModel" (187 : Nat) ({ cls := "LavenderPartsModel", name := "daysUp", desc := "(II)I" } : Jvm.MethodName)) ∈ lw_tbl := it4 (List.mem_of_getElem? (i := 232) rfl)
set_option maxRecDepth 20000 in
theorem w_954 : (Jvm.Cond.instanceMethod ({ cls := "LavenderPartsModel", name := "daysUp", desc := "(II)I" } : Jvm.MethodName)) ∈ lw_tbl := it4 (List.mem_of_getElem? (i := 234) rfl)
set_option maxRecDepth 20000 in
theorem w_955 : (Jvm.Cond.code ({ cls := "LavenderPartsModel", name := "daysUp", desc := "(II)I" } : Jvm.MethodName) prog_8_method_49_code (4 : Nat) (Option.some Jvm.ClassFile.FieldType.int)) ∈ lw_tbl := it4 (List.mem_of_getElem? (i := 235) rfl)
set_option maxRecDepth 20000 in
theorem w_956 : (Jvm.Cond.methodLink "LavenderPartsLaw" (63 : Nat) ({ cls := "LavenderPartsModel", name := "when", desc := "(II)I" } : Jvm.MethodName)) ∈ lw_tbl := it4 (List.mem_of_getElem? (i := 236) rfl)
set_option maxRecDepth 20000 in
theorem w_957 : (Jvm.Cond.instanceMethod ({ cls := "LavenderPartsModel", name := "when", desc := "(II)I" } : Jvm.MethodName)) ∈ lw_tbl := it4 (List.mem_of_getElem? (i := 237) rfl)
set_option maxRecDepth 20000 in
theorem w_958 : (Jvm.Cond.selects "LavenderPartsModel" ({ cls := "LavenderPartsModel", name := "when", desc := "(II)I" } : Jvm.MethodName) ({ cls := "LavenderPartsModel", name := "when", desc := "(II)I" } : Jvm.MethodName)) ∈ lw_tbl := it4 (List.mem_of_getElem? (i := 238) rfl)
set_option maxRecDepth 20000 in
theorem w_959 : (Jvm.Cond.code ({ cls := "LavenderPartsModel", name := "when", desc := "(II)I" } : Jvm.MethodName) prog_8_method_51_code (3 : Nat) (Option.some Jvm.ClassFile.FieldType.int)) ∈ lw_tbl := it4 (List.mem_of_getElem? (i := 239) rfl)
set_option maxRecDepth 20000 in
theorem w_960 : (Jvm.Cond.methodLink "LavenderPartsLaw" (67 : Nat) ({ cls := "LavenderPartsModel", name := "beginFor", desc := "(II)I" } : Jvm.MethodName)) ∈ lw_tbl := it5 (List.mem_of_getElem? (i := 0) rfl)
set_option maxRecDepth 20000 in
theorem w_961 : (Jvm.Cond.instanceMethod ({ cls := "LavenderPartsModel", name := "beginFor", desc := "(II)I" } : Jvm.MethodName)) ∈ lw_tbl := it5 (List.mem_of_getElem? (i := 1) rfl)
set_option maxRecDepth 20000 in
theorem w_962 : (Jvm.Cond.selects "LavenderPartsModel" ({ cls := "LavenderPartsModel", name := "beginFor", desc := "(II)I" } : Jvm.MethodName) ({ cls := "LavenderPartsModel", name := "beginFor", desc := "(II)I" } : Jvm.MethodName)) ∈ lw_tbl := it5 (List.mem_of_getElem? (i := 2) rfl)
set_option maxRecDepth 20000 in
theorem w_963 : (Jvm.Cond.code ({ cls := "LavenderPartsModel", name := "beginFor", desc := "(II)I" } : Jvm.MethodName) prog_8_method_54_code (3 : Nat) (Option.some Jvm.ClassFile.FieldType.int)) ∈ lw_tbl := it5 (List.mem_of_getElem? (i := 3) rfl)
set_option maxRecDepth 20000 in
theorem w_964 : (Jvm.Cond.methodLink "LavenderPartsModel" (196 : Nat) ({ cls := "LavenderPartsModel", name := "isThought", desc := "(I)Z" } : Jvm.MethodName)) ∈ lw_tbl := it5 (List.mem_of_getElem? (i := 4) rfl)
set_option maxRecDepth 20000 in
theorem w_965 : (Jvm.Cond.static ({ cls := "LavenderPartsModel", name := "isThought", desc := "(I)Z" } : Jvm.MethodName)) ∈ lw_tbl := it5 (List.mem_of_getElem? (i := 5) rfl)
set_option maxRecDepth 20000 in
theorem w_966 : (Jvm.Cond.code ({ cls := "LavenderPartsModel", name := "isThought", desc := "(I)Z" } : Jvm.MethodName) prog_8_method_52_code (1 : Nat) (Option.some Jvm.ClassFile.FieldType.boolean)) ∈ lw_tbl := it5 (List.mem_of_getElem? (i := 6) rfl)
set_option maxRecDepth 20000 in
theorem w_967 : (Jvm.Cond.methodLink "LavenderPartsModel" (199 : Nat) ({ cls := "LavenderPartsModel", name := "bestBy", desc := "(IIIII)I" } : Jvm.MethodName)) ∈ lw_tbl := it5 (List.mem_of_getElem? (i := 7) rfl)
set_option maxRecDepth 20000 in
theorem w_969 : (Jvm.Cond.instanceMethod ({ cls := "LavenderPartsModel", name := "bestBy", desc := "(IIIII)I" } : Jvm.MethodName)) ∈ lw_tbl := it5 (List.mem_of_getElem? (i := 9) rfl)
set_option maxRecDepth 20000 in
theorem w_970 : (Jvm.Cond.code ({ cls := "LavenderPartsModel", name := "bestBy", desc := "(IIIII)I" } : Jvm.MethodName) prog_8_method_53_code (11 : Nat) (Option.some Jvm.ClassFile.FieldType.int)) ∈ lw_tbl := it5 (List.mem_of_getElem? (i := 10) rfl)
set_option maxRecDepth 20000 in
theorem w_971 : (Jvm.Cond.methodLink "LavenderPartsModel" (190 : Nat) ({ cls := "LavenderPartsModel", name := "soldBehind", desc := "(I)I" } : Jvm.MethodName)) ∈ lw_tbl := it5 (List.mem_of_getElem? (i := 11) rfl)
set_option maxRecDepth 20000 in
theorem w_973 : (Jvm.Cond.instanceMethod ({ cls := "LavenderPartsModel", name := "soldBehind", desc := "(I)I" } : Jvm.MethodName)) ∈ lw_tbl := it5 (List.mem_of_getElem? (i := 13) rfl)
set_option maxRecDepth 20000 in
theorem w_974 : (Jvm.Cond.code ({ cls := "LavenderPartsModel", name := "soldBehind", desc := "(I)I" } : Jvm.MethodName) prog_8_method_44_code (2 : Nat) (Option.some Jvm.ClassFile.FieldType.int)) ∈ lw_tbl := it5 (List.mem_of_getElem? (i := 14) rfl)
set_option maxRecDepth 20000 in
theorem w_975 : (Jvm.Cond.methodLink "LavenderPartsModel" (193 : Nat) ({ cls := "LavenderPartsModel", name := "behind", desc := "(II)I" } : Jvm.MethodName)) ∈ lw_tbl := it5 (List.mem_of_getElem? (i := 15) rfl)
set_option maxRecDepth 20000 in
theorem w_977 : (Jvm.Cond.instanceMethod ({ cls := "LavenderPartsModel", name := "behind", desc := "(II)I" } : Jvm.MethodName)) ∈ lw_tbl := it5 (List.mem_of_getElem? (i := 17) rfl)
set_option maxRecDepth 20000 in
theorem w_978 : (Jvm.Cond.code ({ cls := "LavenderPartsModel", name := "behind", desc := "(II)I" } : Jvm.MethodName) prog_8_method_43_code (3 : Nat) (Option.some Jvm.ClassFile.FieldType.int)) ∈ lw_tbl := it5 (List.mem_of_getElem? (i := 18) rfl)
set_option maxRecDepth 20000 in
theorem w_979 : (Jvm.Cond.methodLink "LavenderPartsLaw" (71 : Nat) ({ cls := "LavenderPartsModel", name := "answerFor", desc := "(II)I" } : Jvm.MethodName)) ∈ lw_tbl := it5 (List.mem_of_getElem? (i := 19) rfl)
set_option maxRecDepth 20000 in
theorem w_980 : (Jvm.Cond.instanceMethod ({ cls := "LavenderPartsModel", name := "answerFor", desc := "(II)I" } : Jvm.MethodName)) ∈ lw_tbl := it5 (List.mem_of_getElem? (i := 20) rfl)
set_option maxRecDepth 20000 in
theorem w_981 : (Jvm.Cond.selects "LavenderPartsModel" ({ cls := "LavenderPartsModel", name := "answerFor", desc := "(II)I" } : Jvm.MethodName) ({ cls := "LavenderPartsModel", name := "answerFor", desc := "(II)I" } : Jvm.MethodName)) ∈ lw_tbl := it5 (List.mem_of_getElem? (i := 21) rfl)
set_option maxRecDepth 20000 in
theorem w_982 : (Jvm.Cond.code ({ cls := "LavenderPartsModel", name := "answerFor", desc := "(II)I" } : Jvm.MethodName) prog_8_method_55_code (9 : Nat) (Option.some Jvm.ClassFile.FieldType.int)) ∈ lw_tbl := it5 (List.mem_of_getElem? (i := 22) rfl)
set_option maxRecDepth 20000 in
theorem w_983 : (Jvm.Cond.methodLink "LavenderPartsLaw" (75 : Nat) ({ cls := "LavenderPartsModel", name := "kindFor", desc := "(II)I" } : Jvm.MethodName)) ∈ lw_tbl := it5 (List.mem_of_getElem? (i := 23) rfl)
set_option maxRecDepth 20000 in
theorem w_984 : (Jvm.Cond.instanceMethod ({ cls := "LavenderPartsModel", name := "kindFor", desc := "(II)I" } : Jvm.MethodName)) ∈ lw_tbl := it5 (List.mem_of_getElem? (i := 24) rfl)
set_option maxRecDepth 20000 in
theorem w_985 : (Jvm.Cond.selects "LavenderPartsModel" ({ cls := "LavenderPartsModel", name := "kindFor", desc := "(II)I" } : Jvm.MethodName) ({ cls := "LavenderPartsModel", name := "kindFor", desc := "(II)I" } : Jvm.MethodName)) ∈ lw_tbl := it5 (List.mem_of_getElem? (i := 25) rfl)
set_option maxRecDepth 20000 in
theorem w_986 : (Jvm.Cond.code ({ cls := "LavenderPartsModel", name := "kindFor", desc := "(II)I" } : Jvm.MethodName) prog_8_method_56_code (3 : Nat) (Option.some Jvm.ClassFile.FieldType.int)) ∈ lw_tbl := it5 (List.mem_of_getElem? (i := 26) rfl)
set_option maxRecDepth 20000 in
theorem w_987 : (Jvm.Cond.methodLink "LavenderPartsLaw" (79 : Nat) ({ cls := "LavenderPartsModel", name := "ageFor", desc := "(II)I" } : Jvm.MethodName)) ∈ lw_tbl := it5 (List.mem_of_getElem? (i := 27) rfl)
set_option maxRecDepth 20000 in
theorem w_988 : (Jvm.Cond.instanceMethod ({ cls := "LavenderPartsModel", name := "ageFor", desc := "(II)I" } : Jvm.MethodName)) ∈ lw_tbl := it5 (List.mem_of_getElem? (i := 28) rfl)
set_option maxRecDepth 20000 in
theorem w_989 : (Jvm.Cond.selects "LavenderPartsModel" ({ cls := "LavenderPartsModel", name := "ageFor", desc := "(II)I" } : Jvm.MethodName) ({ cls := "LavenderPartsModel", name := "ageFor", desc := "(II)I" } : Jvm.MethodName)) ∈ lw_tbl := it5 (List.mem_of_getElem? (i := 29) rfl)
set_option maxRecDepth 20000 in
theorem w_990 : (Jvm.Cond.code ({ cls := "LavenderPartsModel", name := "ageFor", desc := "(II)I" } : Jvm.MethodName) prog_8_method_57_code (7 : Nat) (Option.some Jvm.ClassFile.FieldType.int)) ∈ lw_tbl := it5 (List.mem_of_getElem? (i := 30) rfl)
set_option maxRecDepth 20000 in
theorem w_991 : (Jvm.Cond.methodLink "LavenderPartsLaw" (83 : Nat) ({ cls := "LavenderPartsModel", name := "hush", desc := "(I)I" } : Jvm.MethodName)) ∈ lw_tbl := it5 (List.mem_of_getElem? (i := 31) rfl)
set_option maxRecDepth 20000 in
theorem w_992 : (Jvm.Cond.instanceMethod ({ cls := "LavenderPartsModel", name := "hush", desc := "(I)I" } : Jvm.MethodName)) ∈ lw_tbl := it5 (List.mem_of_getElem? (i := 32) rfl)
set_option maxRecDepth 20000 in
theorem w_993 : (Jvm.Cond.selects "LavenderPartsModel" ({ cls := "LavenderPartsModel", name := "hush", desc := "(I)I" } : Jvm.MethodName) ({ cls := "LavenderPartsModel", name := "hush", desc := "(I)I" } : Jvm.MethodName)) ∈ lw_tbl := it5 (List.mem_of_getElem? (i := 33) rfl)
set_option maxRecDepth 20000 in
theorem w_994 : (Jvm.Cond.code ({ cls := "LavenderPartsModel", name := "hush", desc := "(I)I" } : Jvm.MethodName) prog_8_method_59_code (4 : Nat) (Option.some Jvm.ClassFile.FieldType.int)) ∈ lw_tbl := it5 (List.mem_of_getElem? (i := 34) rfl)
set_option maxRecDepth 20000 in
theorem w_995 : (Jvm.Cond.methodLink "LavenderPartsModel" (203 : Nat) ({ cls := "LavenderPartsModel", name := "bits", desc := "(I)I" } : Jvm.MethodName)) ∈ lw_tbl := it5 (List.mem_of_getElem? (i := 35) rfl)
set_option maxRecDepth 20000 in
theorem w_996 : (Jvm.Cond.static ({ cls := "LavenderPartsModel", name := "bits", desc := "(I)I" } : Jvm.MethodName)) ∈ lw_tbl := it5 (List.mem_of_getElem? (i := 36) rfl)
set_option maxRecDepth 20000 in
theorem w_997 : (Jvm.Cond.code ({ cls := "LavenderPartsModel", name := "bits", desc := "(I)I" } : Jvm.MethodName) prog_8_method_8_code (3 : Nat) (Option.some Jvm.ClassFile.FieldType.int)) ∈ lw_tbl := it5 (List.mem_of_getElem? (i := 37) rfl)
set_option maxRecDepth 20000 in
theorem w_998 : (Jvm.Cond.methodLink "LavenderPartsModel" (206 : Nat) ({ cls := "LavenderPartsModel", name := "isHushed", desc := "(II)Z" } : Jvm.MethodName)) ∈ lw_tbl := it5 (List.mem_of_getElem? (i := 38) rfl)
set_option maxRecDepth 20000 in
theorem w_1000 : (Jvm.Cond.instanceMethod ({ cls := "LavenderPartsModel", name := "isHushed", desc := "(II)Z" } : Jvm.MethodName)) ∈ lw_tbl := it5 (List.mem_of_getElem? (i := 40) rfl)
set_option maxRecDepth 20000 in
theorem w_1001 : (Jvm.Cond.code ({ cls := "LavenderPartsModel", name := "isHushed", desc := "(II)Z" } : Jvm.MethodName) prog_8_method_58_code (4 : Nat) (Option.some Jvm.ClassFile.FieldType.boolean)) ∈ lw_tbl := it5 (List.mem_of_getElem? (i := 41) rfl)
set_option maxRecDepth 20000 in
theorem w_1002 : (Jvm.Cond.methodLink "LavenderPartsLaw" (87 : Nat) ({ cls := "LavenderPartsModel", name := "longest", desc := "(I)I" } : Jvm.MethodName)) ∈ lw_tbl := it5 (List.mem_of_getElem? (i := 42) rfl)
set_option maxRecDepth 20000 in
theorem w_1003 : (Jvm.Cond.instanceMethod ({ cls := "LavenderPartsModel", name := "longest", desc := "(I)I" } : Jvm.MethodName)) ∈ lw_tbl := it5 (List.mem_of_getElem? (i := 43) rfl)
set_option maxRecDepth 20000 in
theorem w_1004 : (Jvm.Cond.selects "LavenderPartsModel" ({ cls := "LavenderPartsModel", name := "longest", desc := "(I)I" } : Jvm.MethodName) ({ cls := "LavenderPartsModel", name := "longest", desc := "(I)I" } : Jvm.MethodName)) ∈ lw_tbl := it5 (List.mem_of_getElem? (i := 44) rfl)
set_option maxRecDepth 20000 in
theorem w_1005 : (Jvm.Cond.code ({ cls := "LavenderPartsModel", name := "longest", desc := "(I)I" } : Jvm.MethodName) prog_8_method_60_code (4 : Nat) (Option.some Jvm.ClassFile.FieldType.int)) ∈ lw_tbl := it5 (List.mem_of_getElem? (i := 45) rfl)
set_option maxRecDepth 20000 in
theorem w_1006 : (Jvm.Cond.methodLink "LavenderPartsLaw" (91 : Nat) ({ cls := "LavenderPartsModel", name := "fits", desc := "(II)I" } : Jvm.MethodName)) ∈ lw_tbl := it5 (List.mem_of_getElem? (i := 46) rfl)
set_option maxRecDepth 20000 in
theorem w_1007 : (Jvm.Cond.instanceMethod ({ cls := "LavenderPartsModel", name := "fits", desc := "(II)I" } : Jvm.MethodName)) ∈ lw_tbl := it5 (List.mem_of_getElem? (i := 47) rfl)
set_option maxRecDepth 20000 in
theorem w_1008 : (Jvm.Cond.selects "LavenderPartsModel" ({ cls := "LavenderPartsModel", name := "fits", desc := "(II)I" } : Jvm.MethodName) ({ cls := "LavenderPartsModel", name := "fits", desc := "(II)I" } : Jvm.MethodName)) ∈ lw_tbl := it5 (List.mem_of_getElem? (i := 48) rfl)
set_option maxRecDepth 20000 in
theorem w_1009 : (Jvm.Cond.code ({ cls := "LavenderPartsModel", name := "fits", desc := "(II)I" } : Jvm.MethodName) prog_8_method_64_code (4 : Nat) (Option.some Jvm.ClassFile.FieldType.int)) ∈ lw_tbl := it5 (List.mem_of_getElem? (i := 49) rfl)
set_option maxRecDepth 20000 in
theorem w_1010 : (Jvm.Cond.methodLink "LavenderPartsModel" (221 : Nat) ({ cls := "LavenderPartsModel", name := "lacks", desc := "(IZ)I" } : Jvm.MethodName)) ∈ lw_tbl := it5 (List.mem_of_getElem? (i := 50) rfl)
set_option maxRecDepth 20000 in
theorem w_1012 : (Jvm.Cond.instanceMethod ({ cls := "LavenderPartsModel", name := "lacks", desc := "(IZ)I" } : Jvm.MethodName)) ∈ lw_tbl := it5 (List.mem_of_getElem? (i := 52) rfl)
set_option maxRecDepth 20000 in
theorem w_1013 : (Jvm.Cond.code ({ cls := "LavenderPartsModel", name := "lacks", desc := "(IZ)I" } : Jvm.MethodName) prog_8_method_61_code (3 : Nat) (Option.some Jvm.ClassFile.FieldType.int)) ∈ lw_tbl := it5 (List.mem_of_getElem? (i := 53) rfl)
set_option maxRecDepth 20000 in
theorem w_1014 : (Jvm.Cond.methodLink "LavenderPartsModel" (210 : Nat) ({ cls := "LavenderPartsModel", name := "isSheet", desc := "(I)Z" } : Jvm.MethodName)) ∈ lw_tbl := it5 (List.mem_of_getElem? (i := 54) rfl)
set_option maxRecDepth 20000 in
theorem w_1015 : (Jvm.Cond.static ({ cls := "LavenderPartsModel", name := "isSheet", desc := "(I)Z" } : Jvm.MethodName)) ∈ lw_tbl := it5 (List.mem_of_getElem? (i := 55) rfl)
set_option maxRecDepth 20000 in
theorem w_1016 : (Jvm.Cond.code ({ cls := "LavenderPartsModel", name := "isSheet", desc := "(I)Z" } : Jvm.MethodName) prog_8_method_88_code (1 : Nat) (Option.some Jvm.ClassFile.FieldType.boolean)) ∈ lw_tbl := it5 (List.mem_of_getElem? (i := 56) rfl)
set_option maxRecDepth 20000 in
theorem w_1017 : (Jvm.Cond.constant "LavenderPartsModel" (213 : Nat) (-1000006 : Int32)) ∈ lw_tbl := it5 (List.mem_of_getElem? (i := 57) rfl)
set_option maxRecDepth 20000 in
theorem w_1018 : (Jvm.Cond.methodLink "LavenderPartsModel" (225 : Nat) ({ cls := "LavenderPartsModel", name := "fitting", desc := "(IIII)I" } : Jvm.MethodName)) ∈ lw_tbl := it5 (List.mem_of_getElem? (i := 58) rfl)
set_option maxRecDepth 20000 in
theorem w_1020 : (Jvm.Cond.instanceMethod ({ cls := "LavenderPartsModel", name := "fitting", desc := "(IIII)I" } : Jvm.MethodName)) ∈ lw_tbl := it5 (List.mem_of_getElem? (i := 60) rfl)
set_option maxRecDepth 20000 in
theorem w_1021 : (Jvm.Cond.code ({ cls := "LavenderPartsModel", name := "fitting", desc := "(IIII)I" } : Jvm.MethodName) prog_8_method_63_code (9 : Nat) (Option.some Jvm.ClassFile.FieldType.int)) ∈ lw_tbl := it5 (List.mem_of_getElem? (i := 61) rfl)
set_option maxRecDepth 20000 in
theorem w_1022 : (Jvm.Cond.methodLink "LavenderPartsModel" (218 : Nat) ({ cls := "LavenderPartsModel", name := "isSo", desc := "(II)Z" } : Jvm.MethodName)) ∈ lw_tbl := it5 (List.mem_of_getElem? (i := 62) rfl)
set_option maxRecDepth 20000 in
theorem w_1024 : (Jvm.Cond.instanceMethod ({ cls := "LavenderPartsModel", name := "isSo", desc := "(II)Z" } : Jvm.MethodName)) ∈ lw_tbl := it5 (List.mem_of_getElem? (i := 64) rfl)
set_option maxRecDepth 20000 in
theorem w_1025 : (Jvm.Cond.code ({ cls := "LavenderPartsModel", name := "isSo", desc := "(II)Z" } : Jvm.MethodName) prog_8_method_62_code (6 : Nat) (Option.some Jvm.ClassFile.FieldType.boolean)) ∈ lw_tbl := it5 (List.mem_of_getElem? (i := 65) rfl)
set_option maxRecDepth 20000 in
theorem w_1026 : (Jvm.Cond.methodLink "LavenderPartsLaw" (95 : Nat) ({ cls := "LavenderPartsModel", name := "date", desc := "(II)I" } : Jvm.MethodName)) ∈ lw_tbl := it5 (List.mem_of_getElem? (i := 66) rfl)
set_option maxRecDepth 20000 in
theorem w_1027 : (Jvm.Cond.instanceMethod ({ cls := "LavenderPartsModel", name := "date", desc := "(II)I" } : Jvm.MethodName)) ∈ lw_tbl := it5 (List.mem_of_getElem? (i := 67) rfl)
set_option maxRecDepth 20000 in
theorem w_1028 : (Jvm.Cond.selects "LavenderPartsModel" ({ cls := "LavenderPartsModel", name := "date", desc := "(II)I" } : Jvm.MethodName) ({ cls := "LavenderPartsModel", name := "date", desc := "(II)I" } : Jvm.MethodName)) ∈ lw_tbl := it5 (List.mem_of_getElem? (i := 68) rfl)
set_option maxRecDepth 20000 in
theorem w_1029 : (Jvm.Cond.code ({ cls := "LavenderPartsModel", name := "date", desc := "(II)I" } : Jvm.MethodName) prog_8_method_65_code (4 : Nat) (Option.some Jvm.ClassFile.FieldType.int)) ∈ lw_tbl := it5 (List.mem_of_getElem? (i := 69) rfl)
set_option maxRecDepth 20000 in
theorem w_1030 : (Jvm.Cond.methodLink "LavenderPartsModel" (229 : Nat) ({ cls := "LavenderPartsModel", name := "fits", desc := "(II)I" } : Jvm.MethodName)) ∈ lw_tbl := it5 (List.mem_of_getElem? (i := 70) rfl)
set_option maxRecDepth 20000 in
theorem w_1031 : (Jvm.Cond.methodLink "LavenderPartsLaw" (99 : Nat) ({ cls := "LavenderPartsModel", name := "kinds", desc := "(II)I" } : Jvm.MethodName)) ∈ lw_tbl := it5 (List.mem_of_getElem? (i := 71) rfl)
set_option maxRecDepth 20000 in
theorem w_1032 : (Jvm.Cond.instanceMethod ({ cls := "LavenderPartsModel", name := "kinds", desc := "(II)I" } : Jvm.MethodName)) ∈ lw_tbl := it5 (List.mem_of_getElem? (i := 72) rfl)
set_option maxRecDepth 20000 in
theorem w_1033 : (Jvm.Cond.selects "LavenderPartsModel" ({ cls := "LavenderPartsModel", name := "kinds", desc := "(II)I" } : Jvm.MethodName) ({ cls := "LavenderPartsModel", name := "kinds", desc := "(II)I" } : Jvm.MethodName)) ∈ lw_tbl := it5 (List.mem_of_getElem? (i := 73) rfl)
set_option maxRecDepth 20000 in
theorem w_1034 : (Jvm.Cond.code ({ cls := "LavenderPartsModel", name := "kinds", desc := "(II)I" } : Jvm.MethodName) prog_8_method_66_code (4 : Nat) (Option.some Jvm.ClassFile.FieldType.int)) ∈ lw_tbl := it5 (List.mem_of_getElem? (i := 74) rfl)
set_option maxRecDepth 20000 in
theorem w_1035 : (Jvm.Cond.methodLink "LavenderPartsLaw" (103 : Nat) ({ cls := "LavenderPartsModel", name := "spring", desc := "(I)I" } : Jvm.MethodName)) ∈ lw_tbl := it5 (List.mem_of_getElem? (i := 75) rfl)
set_option maxRecDepth 20000 in
theorem w_1036 : (Jvm.Cond.instanceMethod ({ cls := "LavenderPartsModel", name := "spring", desc := "(I)I" } : Jvm.MethodName)) ∈ lw_tbl := it5 (List.mem_of_getElem? (i := 76) rfl)
set_option maxRecDepth 20000 in
theorem w_1037 : (Jvm.Cond.selects "LavenderPartsModel" ({ cls := "LavenderPartsModel", name := "spring", desc := "(I)I" } : Jvm.MethodName) ({ cls := "LavenderPartsModel", name := "spring", desc := "(I)I" } : Jvm.MethodName)) ∈ lw_tbl := it5 (List.mem_of_getElem? (i := 77) rfl)
set_option maxRecDepth 20000 in
theorem w_1038 : (Jvm.Cond.code ({ cls := "LavenderPartsModel", name := "spring", desc := "(I)I" } : Jvm.MethodName) prog_8_method_68_code (5 : Nat) (Option.some Jvm.ClassFile.FieldType.int)) ∈ lw_tbl := it5 (List.mem_of_getElem? (i := 78) rfl)
set_option maxRecDepth 20000 in
theorem w_1039 : (Jvm.Cond.methodLink "LavenderPartsModel" (233 : Nat) ({ cls := "LavenderPartsModel", name := "drawn", desc := "()I" } : Jvm.MethodName)) ∈ lw_tbl := it5 (List.mem_of_getElem? (i := 79) rfl)
set_option maxRecDepth 20000 in
theorem w_1041 : (Jvm.Cond.instanceMethod ({ cls := "LavenderPartsModel", name := "drawn", desc := "()I" } : Jvm.MethodName)) ∈ lw_tbl := it5 (List.mem_of_getElem? (i := 81) rfl)
set_option maxRecDepth 20000 in
theorem w_1042 : (Jvm.Cond.code ({ cls := "LavenderPartsModel", name := "drawn", desc := "()I" } : Jvm.MethodName) prog_8_method_67_code (1 : Nat) (Option.some Jvm.ClassFile.FieldType.int)) ∈ lw_tbl := it5 (List.mem_of_getElem? (i := 82) rfl)
set_option maxRecDepth 20000 in
theorem w_1043 : (Jvm.Cond.constant "LavenderPartsModel" (232 : Nat) (1103515245 : Int32)) ∈ lw_tbl := it5 (List.mem_of_getElem? (i := 83) rfl)
set_option maxRecDepth 20000 in
theorem w_1044 : (Jvm.Cond.methodLink "LavenderPartsLaw" (108 : Nat) ({ cls := "LavenderPartsModel", name := "odds", desc := "(II)J" } : Jvm.MethodName)) ∈ lw_tbl := it5 (List.mem_of_getElem? (i := 84) rfl)
set_option maxRecDepth 20000 in
theorem w_1045 : (Jvm.Cond.instanceMethod ({ cls := "LavenderPartsModel", name := "odds", desc := "(II)J" } : Jvm.MethodName)) ∈ lw_tbl := it5 (List.mem_of_getElem? (i := 85) rfl)
set_option maxRecDepth 20000 in
theorem w_1046 : (Jvm.Cond.selects "LavenderPartsModel" ({ cls := "LavenderPartsModel", name := "odds", desc := "(II)J" } : Jvm.MethodName) ({ cls := "LavenderPartsModel", name := "odds", desc := "(II)J" } : Jvm.MethodName)) ∈ lw_tbl := it5 (List.mem_of_getElem? (i := 86) rfl)
set_option maxRecDepth 20000 in
theorem w_1047 : (Jvm.Cond.code ({ cls := "LavenderPartsModel", name := "odds", desc := "(II)J" } : Jvm.MethodName) prog_8_method_70_code (9 : Nat) (Option.some Jvm.ClassFile.FieldType.long)) ∈ lw_tbl := it5 (List.mem_of_getElem? (i := 87) rfl)
set_option maxRecDepth 20000 in
theorem w_1048 : (Jvm.Cond.methodLink "LavenderPartsModel" (236 : Nat) ({ cls := "LavenderPartsModel", name := "beginDates", desc := "()I" } : Jvm.MethodName)) ∈ lw_tbl := it5 (List.mem_of_getElem? (i := 88) rfl)
set_option maxRecDepth 20000 in
theorem w_1050 : (Jvm.Cond.instanceMethod ({ cls := "LavenderPartsModel", name := "beginDates", desc := "()I" } : Jvm.MethodName)) ∈ lw_tbl := it5 (List.mem_of_getElem? (i := 90) rfl)
set_option maxRecDepth 20000 in
theorem w_1051 : (Jvm.Cond.code ({ cls := "LavenderPartsModel", name := "beginDates", desc := "()I" } : Jvm.MethodName) prog_8_method_69_code (5 : Nat) (Option.some Jvm.ClassFile.FieldType.int)) ∈ lw_tbl := it5 (List.mem_of_getElem? (i := 91) rfl)
set_option maxRecDepth 20000 in
theorem w_1052 : (Jvm.Cond.methodLink "LavenderPartsLaw" (112 : Nat) ({ cls := "LavenderPartsModel", name := "seed", desc := "(I)I" } : Jvm.MethodName)) ∈ lw_tbl := it5 (List.mem_of_getElem? (i := 92) rfl)
set_option maxRecDepth 20000 in
theorem w_1053 : (Jvm.Cond.instanceMethod ({ cls := "LavenderPartsModel", name := "seed", desc := "(I)I" } : Jvm.MethodName)) ∈ lw_tbl := it5 (List.mem_of_getElem? (i := 93) rfl)
set_option maxRecDepth 20000 in
theorem w_1054 : (Jvm.Cond.selects "LavenderPartsModel" ({ cls := "LavenderPartsModel", name := "seed", desc := "(I)I" } : Jvm.MethodName) ({ cls := "LavenderPartsModel", name := "seed", desc := "(I)I" } : Jvm.MethodName)) ∈ lw_tbl := it5 (List.mem_of_getElem? (i := 94) rfl)
set_option maxRecDepth 20000 in
theorem w_1055 : (Jvm.Cond.code ({ cls := "LavenderPartsModel", name := "seed", desc := "(I)I" } : Jvm.MethodName) prog_8_method_71_code (2 : Nat) (Option.some Jvm.ClassFile.FieldType.int)) ∈ lw_tbl := it5 (List.mem_of_getElem? (i := 95) rfl)
set_option maxRecDepth 20000 in
theorem w_1056 : (Jvm.Cond.methodLink "LavenderPartsLaw" (116 : Nat) ({ cls := "LavenderPartsModel", name := "feed", desc := "(II)I" } : Jvm.MethodName)) ∈ lw_tbl := it5 (List.mem_of_getElem? (i := 96) rfl)
set_option maxRecDepth 20000 in
theorem w_1057 : (Jvm.Cond.instanceMethod ({ cls := "LavenderPartsModel", name := "feed", desc := "(II)I" } : Jvm.MethodName)) ∈ lw_tbl := it5 (List.mem_of_getElem? (i := 97) rfl)
set_option maxRecDepth 20000 in
theorem w_1058 : (Jvm.Cond.selects "LavenderPartsModel" ({ cls := "LavenderPartsModel", name := "feed", desc := "(II)I" } : Jvm.MethodName) ({ cls := "LavenderPartsModel", name := "feed", desc := "(II)I" } : Jvm.MethodName)) ∈ lw_tbl := it5 (List.mem_of_getElem? (i := 98) rfl)
set_option maxRecDepth 20000 in
theorem w_1059 : (Jvm.Cond.code ({ cls := "LavenderPartsModel", name := "feed", desc := "(II)I" } : Jvm.MethodName) prog_8_method_72_code (4 : Nat) (Option.some Jvm.ClassFile.FieldType.int)) ∈ lw_tbl := it5 (List.mem_of_getElem? (i := 99) rfl)
set_option maxRecDepth 20000 in
theorem w_1060 : (Jvm.Cond.methodLink "LavenderPartsLaw" (121 : Nat) ({ cls := "LavenderPartsModel", name := "wipe", desc := "()I" } : Jvm.MethodName)) ∈ lw_tbl := it5 (List.mem_of_getElem? (i := 100) rfl)
set_option maxRecDepth 20000 in
theorem w_1061 : (Jvm.Cond.instanceMethod ({ cls := "LavenderPartsModel", name := "wipe", desc := "()I" } : Jvm.MethodName)) ∈ lw_tbl := it5 (List.mem_of_getElem? (i := 101) rfl)
set_option maxRecDepth 20000 in
theorem w_1062 : (Jvm.Cond.selects "LavenderPartsModel" ({ cls := "LavenderPartsModel", name := "wipe", desc := "()I" } : Jvm.MethodName) ({ cls := "LavenderPartsModel", name := "wipe", desc := "()I" } : Jvm.MethodName)) ∈ lw_tbl := it5 (List.mem_of_getElem? (i := 102) rfl)
set_option maxRecDepth 20000 in
theorem w_1063 : (Jvm.Cond.code ({ cls := "LavenderPartsModel", name := "wipe", desc := "()I" } : Jvm.MethodName) prog_8_method_73_code (2 : Nat) (Option.some Jvm.ClassFile.FieldType.int)) ∈ lw_tbl := it5 (List.mem_of_getElem? (i := 103) rfl)
set_option maxRecDepth 20000 in
theorem w_1064 : (Jvm.Cond.methodLink "LavenderPartsLaw" (125 : Nat) ({ cls := "LavenderPartsModel", name := "text", desc := "()I" } : Jvm.MethodName)) ∈ lw_tbl := it5 (List.mem_of_getElem? (i := 104) rfl)
set_option maxRecDepth 20000 in
theorem w_1065 : (Jvm.Cond.instanceMethod ({ cls := "LavenderPartsModel", name := "text", desc := "()I" } : Jvm.MethodName)) ∈ lw_tbl := it5 (List.mem_of_getElem? (i := 105) rfl)
set_option maxRecDepth 20000 in
theorem w_1066 : (Jvm.Cond.selects "LavenderPartsModel" ({ cls := "LavenderPartsModel", name := "text", desc := "()I" } : Jvm.MethodName) ({ cls := "LavenderPartsModel", name := "text", desc := "()I" } : Jvm.MethodName)) ∈ lw_tbl := it5 (List.mem_of_getElem? (i := 106) rfl)
set_option maxRecDepth 20000 in
theorem w_1067 : (Jvm.Cond.code ({ cls := "LavenderPartsModel", name := "text", desc := "()I" } : Jvm.MethodName) prog_8_method_84_code (2 : Nat) (Option.some Jvm.ClassFile.FieldType.int)) ∈ lw_tbl := it5 (List.mem_of_getElem? (i := 107) rfl)
set_option maxRecDepth 20000 in
theorem w_1068 : (Jvm.Cond.methodLink "LavenderPartsModel" (267 : Nat) ({ cls := "LavenderPartsModel", name := "token", desc := "()V" } : Jvm.MethodName)) ∈ lw_tbl := it5 (List.mem_of_getElem? (i := 108) rfl)
set_option maxRecDepth 20000 in
theorem w_1070 : (Jvm.Cond.instanceMethod ({ cls := "LavenderPartsModel", name := "token", desc := "()V" } : Jvm.MethodName)) ∈ lw_tbl := it5 (List.mem_of_getElem? (i := 110) rfl)
set_option maxRecDepth 20000 in
theorem w_1071 : (Jvm.Cond.code ({ cls := "LavenderPartsModel", name := "token", desc := "()V" } : Jvm.MethodName) prog_8_method_75_code (2 : Nat) (Option.none : Option Jvm.ClassFile.FieldType)) ∈ lw_tbl := it5 (List.mem_of_getElem? (i := 111) rfl)
set_option maxRecDepth 20000 in
theorem w_1072 : (Jvm.Cond.methodLink "LavenderPartsModel" (247 : Nat) ({ cls := "LavenderPartsModel", name := "byteAt", desc := "(I)I" } : Jvm.MethodName)) ∈ lw_tbl := it5 (List.mem_of_getElem? (i := 112) rfl)
set_option maxRecDepth 20000 in
theorem w_1074 : (Jvm.Cond.instanceMethod ({ cls := "LavenderPartsModel", name := "byteAt", desc := "(I)I" } : Jvm.MethodName)) ∈ lw_tbl := it5 (List.mem_of_getElem? (i := 114) rfl)
set_option maxRecDepth 20000 in
theorem w_1075 : (Jvm.Cond.code ({ cls := "LavenderPartsModel", name := "byteAt", desc := "(I)I" } : Jvm.MethodName) prog_8_method_74_code (2 : Nat) (Option.some Jvm.ClassFile.FieldType.int)) ∈ lw_tbl := it5 (List.mem_of_getElem? (i := 115) rfl)
set_option maxRecDepth 20000 in
theorem w_1076 : (Jvm.Cond.methodLink "LavenderPartsModel" (310 : Nat) ({ cls := "LavenderPartsModel", name := "readItem", desc := "()V" } : Jvm.MethodName)) ∈ lw_tbl := it5 (List.mem_of_getElem? (i := 116) rfl)
set_option maxRecDepth 20000 in
theorem w_1078 : (Jvm.Cond.instanceMethod ({ cls := "LavenderPartsModel", name := "readItem", desc := "()V" } : Jvm.MethodName)) ∈ lw_tbl := it5 (List.mem_of_getElem? (i := 118) rfl)
set_option maxRecDepth 20000 in
theorem w_1079 : (Jvm.Cond.code ({ cls := "LavenderPartsModel", name := "readItem", desc := "()V" } : Jvm.MethodName) prog_8_method_82_code (3 : Nat) (Option.none : Option Jvm.ClassFile.FieldType)) ∈ lw_tbl := it5 (List.mem_of_getElem? (i := 119) rfl)
set_option maxRecDepth 20000 in
theorem w_1080 : (Jvm.Cond.methodLink "LavenderPartsModel" (277 : Nat) ({ cls := "LavenderPartsModel", name := "isWord", desc := "(Ljava/lang/String;)Z" } : Jvm.MethodName)) ∈ lw_tbl := it5 (List.mem_of_getElem? (i := 120) rfl)
set_option maxRecDepth 20000 in
theorem w_1082 : (Jvm.Cond.instanceMethod ({ cls := "LavenderPartsModel", name := "isWord", desc := "(Ljava/lang/String;)Z" } : Jvm.MethodName)) ∈ lw_tbl := it5 (List.mem_of_getElem? (i := 122) rfl)
set_option maxRecDepth 20000 in
theorem w_1083 : (Jvm.Cond.code ({ cls := "LavenderPartsModel", name := "isWord", desc := "(Ljava/lang/String;)Z" } : Jvm.MethodName) prog_8_method_76_code (4 : Nat) (Option.some Jvm.ClassFile.FieldType.boolean)) ∈ lw_tbl := it5 (List.mem_of_getElem? (i := 123) rfl)
set_option maxRecDepth 20000 in
theorem w_1084 : (Jvm.Cond.methodLink "LavenderPartsModel" (256 : Nat) ({ cls := "java/lang/String", name := "length", desc := "()I" } : Jvm.MethodName)) ∈ lw_tbl := it5 (List.mem_of_getElem? (i := 124) rfl)
set_option maxRecDepth 20000 in
theorem w_1085 : (Jvm.Cond.methodLink "LavenderPartsModel" (259 : Nat) ({ cls := "java/lang/String", name := "charAt", desc := "(I)C" } : Jvm.MethodName)) ∈ lw_tbl := it5 (List.mem_of_getElem? (i := 125) rfl)
set_option maxRecDepth 20000 in
theorem w_1086 : (Jvm.Cond.methodLink "LavenderPartsModel" (303 : Nat) ({ cls := "LavenderPartsModel", name := "readSinger", desc := "(I)V" } : Jvm.MethodName)) ∈ lw_tbl := it5 (List.mem_of_getElem? (i := 126) rfl)
set_option maxRecDepth 20000 in
theorem w_1088 : (Jvm.Cond.instanceMethod ({ cls := "LavenderPartsModel", name := "readSinger", desc := "(I)V" } : Jvm.MethodName)) ∈ lw_tbl := it5 (List.mem_of_getElem? (i := 128) rfl)
set_option maxRecDepth 20000 in
theorem w_1089 : (Jvm.Cond.code ({ cls := "LavenderPartsModel", name := "readSinger", desc := "(I)V" } : Jvm.MethodName) prog_8_method_81_code (6 : Nat) (Option.none : Option Jvm.ClassFile.FieldType)) ∈ lw_tbl := it5 (List.mem_of_getElem? (i := 129) rfl)
set_option maxRecDepth 20000 in
theorem w_1090 : (Jvm.Cond.methodLink "LavenderPartsModel" (270 : Nat) ({ cls := "LavenderPartsModel", name := "must", desc := "(Z)V" } : Jvm.MethodName)) ∈ lw_tbl := it5 (List.mem_of_getElem? (i := 130) rfl)
set_option maxRecDepth 20000 in
theorem w_1092 : (Jvm.Cond.instanceMethod ({ cls := "LavenderPartsModel", name := "must", desc := "(Z)V" } : Jvm.MethodName)) ∈ lw_tbl := it5 (List.mem_of_getElem? (i := 132) rfl)
set_option maxRecDepth 20000 in
theorem w_1093 : (Jvm.Cond.code ({ cls := "LavenderPartsModel", name := "must", desc := "(Z)V" } : Jvm.MethodName) prog_8_method_77_code (2 : Nat) (Option.none : Option Jvm.ClassFile.FieldType)) ∈ lw_tbl := it5 (List.mem_of_getElem? (i := 133) rfl)
set_option maxRecDepth 20000 in
theorem w_1095 : (Jvm.Cond.methodLink "LavenderPartsModel" (285 : Nat) ({ cls := "LavenderPartsModel", name := "takesWord", desc := "(Ljava/lang/String;)Z" } : Jvm.MethodName)) ∈ lw_tbl := it5 (List.mem_of_getElem? (i := 135) rfl)
set_option maxRecDepth 20000 in
theorem w_1097 : (Jvm.Cond.instanceMethod ({ cls := "LavenderPartsModel", name := "takesWord", desc := "(Ljava/lang/String;)Z" } : Jvm.MethodName)) ∈ lw_tbl := it5 (List.mem_of_getElem? (i := 137) rfl)
set_option maxRecDepth 20000 in
theorem w_1098 : (Jvm.Cond.code ({ cls := "LavenderPartsModel", name := "takesWord", desc := "(Ljava/lang/String;)Z" } : Jvm.MethodName) prog_8_method_80_code (3 : Nat) (Option.some Jvm.ClassFile.FieldType.boolean)) ∈ lw_tbl := it5 (List.mem_of_getElem? (i := 138) rfl)
set_option maxRecDepth 20000 in
theorem w_1099 : (Jvm.Cond.methodLink "LavenderPartsModel" (288 : Nat) ({ cls := "LavenderPartsModel", name := "number", desc := "(II)I" } : Jvm.MethodName)) ∈ lw_tbl := it5 (List.mem_of_getElem? (i := 139) rfl)
set_option maxRecDepth 20000 in
theorem w_1101 : (Jvm.Cond.instanceMethod ({ cls := "LavenderPartsModel", name := "number", desc := "(II)I" } : Jvm.MethodName)) ∈ lw_tbl := it5 (List.mem_of_getElem? (i := 141) rfl)
set_option maxRecDepth 20000 in
theorem w_1102 : (Jvm.Cond.code ({ cls := "LavenderPartsModel", name := "number", desc := "(II)I" } : Jvm.MethodName) prog_8_method_78_code (4 : Nat) (Option.some Jvm.ClassFile.FieldType.int)) ∈ lw_tbl := it5 (List.mem_of_getElem? (i := 142) rfl)
set_option maxRecDepth 20000 in
theorem w_1107 : (Jvm.Cond.methodLink "LavenderPartsModel" (299 : Nat) ({ cls := "LavenderPartsModel", name := "addItem", desc := "(IIIIII)V" } : Jvm.MethodName)) ∈ lw_tbl := it5 (List.mem_of_getElem? (i := 147) rfl)
set_option maxRecDepth 20000 in
theorem w_1109 : (Jvm.Cond.instanceMethod ({ cls := "LavenderPartsModel", name := "addItem", desc := "(IIIIII)V" } : Jvm.MethodName)) ∈ lw_tbl := it5 (List.mem_of_getElem? (i := 149) rfl)
set_option maxRecDepth 20000 in
theorem w_1110 : (Jvm.Cond.code ({ cls := "LavenderPartsModel", name := "addItem", desc := "(IIIIII)V" } : Jvm.MethodName) prog_8_method_79_code (8 : Nat) (Option.none : Option Jvm.ClassFile.FieldType)) ∈ lw_tbl := it5 (List.mem_of_getElem? (i := 150) rfl)
set_option maxRecDepth 20000 in
theorem w_1113 : (Jvm.Cond.methodLink "LavenderPartsModel" (313 : Nat) ({ cls := "LavenderPartsModel", name := "isToldSo", desc := "(I)V" } : Jvm.MethodName)) ∈ lw_tbl := it5 (List.mem_of_getElem? (i := 153) rfl)
set_option maxRecDepth 20000 in
theorem w_1115 : (Jvm.Cond.instanceMethod ({ cls := "LavenderPartsModel", name := "isToldSo", desc := "(I)V" } : Jvm.MethodName)) ∈ lw_tbl := it5 (List.mem_of_getElem? (i := 155) rfl)
set_option maxRecDepth 20000 in
theorem w_1116 : (Jvm.Cond.code ({ cls := "LavenderPartsModel", name := "isToldSo", desc := "(I)V" } : Jvm.MethodName) prog_8_method_83_code (4 : Nat) (Option.none : Option Jvm.ClassFile.FieldType)) ∈ lw_tbl := it5 (List.mem_of_getElem? (i := 156) rfl)
set_option maxRecDepth 20000 in
theorem w_1117 : (Jvm.Cond.methodLink "LavenderPartsLaw" (129 : Nat) ({ cls := "LavenderPartsModel", name := "hold", desc := "(II)I" } : Jvm.MethodName)) ∈ lw_tbl := it5 (List.mem_of_getElem? (i := 157) rfl)
set_option maxRecDepth 20000 in
theorem w_1118 : (Jvm.Cond.instanceMethod ({ cls := "LavenderPartsModel", name := "hold", desc := "(II)I" } : Jvm.MethodName)) ∈ lw_tbl := it5 (List.mem_of_getElem? (i := 158) rfl)
set_option maxRecDepth 20000 in
theorem w_1119 : (Jvm.Cond.selects "LavenderPartsModel" ({ cls := "LavenderPartsModel", name := "hold", desc := "(II)I" } : Jvm.MethodName) ({ cls := "LavenderPartsModel", name := "hold", desc := "(II)I" } : Jvm.MethodName)) ∈ lw_tbl := it5 (List.mem_of_getElem? (i := 159) rfl)
set_option maxRecDepth 20000 in
theorem w_1120 : (Jvm.Cond.code ({ cls := "LavenderPartsModel", name := "hold", desc := "(II)I" } : Jvm.MethodName) prog_8_method_86_code (3 : Nat) (Option.some Jvm.ClassFile.FieldType.int)) ∈ lw_tbl := it5 (List.mem_of_getElem? (i := 160) rfl)
set_option maxRecDepth 20000 in
theorem w_1121 : (Jvm.Cond.methodLink "LavenderPartsModel" (316 : Nat) ({ cls := "LavenderPartsModel", name := "isSpot", desc := "(I)Z" } : Jvm.MethodName)) ∈ lw_tbl := it5 (List.mem_of_getElem? (i := 161) rfl)
set_option maxRecDepth 20000 in
theorem w_1122 : (Jvm.Cond.static ({ cls := "LavenderPartsModel", name := "isSpot", desc := "(I)Z" } : Jvm.MethodName)) ∈ lw_tbl := it5 (List.mem_of_getElem? (i := 162) rfl)
set_option maxRecDepth 20000 in
theorem w_1123 : (Jvm.Cond.code ({ cls := "LavenderPartsModel", name := "isSpot", desc := "(I)Z" } : Jvm.MethodName) prog_8_method_85_code (1 : Nat) (Option.some Jvm.ClassFile.FieldType.boolean)) ∈ lw_tbl := it5 (List.mem_of_getElem? (i := 163) rfl)
set_option maxRecDepth 20000 in
theorem w_1124 : (Jvm.Cond.methodLink "LavenderPartsLaw" (133 : Nat) ({ cls := "LavenderPartsModel", name := "as", desc := "(II)I" } : Jvm.MethodName)) ∈ lw_tbl := it5 (List.mem_of_getElem? (i := 164) rfl)
set_option maxRecDepth 20000 in
theorem w_1125 : (Jvm.Cond.instanceMethod ({ cls := "LavenderPartsModel", name := "as", desc := "(II)I" } : Jvm.MethodName)) ∈ lw_tbl := it5 (List.mem_of_getElem? (i := 165) rfl)
set_option maxRecDepth 20000 in
theorem w_1126 : (Jvm.Cond.selects "LavenderPartsModel" ({ cls := "LavenderPartsModel", name := "as", desc := "(II)I" } : Jvm.MethodName) ({ cls := "LavenderPartsModel", name := "as", desc := "(II)I" } : Jvm.MethodName)) ∈ lw_tbl := it5 (List.mem_of_getElem? (i := 166) rfl)
set_option maxRecDepth 20000 in
theorem w_1127 : (Jvm.Cond.code ({ cls := "LavenderPartsModel", name := "as", desc := "(II)I" } : Jvm.MethodName) prog_8_method_87_code (4 : Nat) (Option.some Jvm.ClassFile.FieldType.int)) ∈ lw_tbl := it5 (List.mem_of_getElem? (i := 167) rfl)
set_option maxRecDepth 20000 in
theorem w_1128 : (Jvm.Cond.methodLink "LavenderPartsModel" (319 : Nat) ({ cls := "LavenderPartsModel", name := "isUnder", desc := "(II)Z" } : Jvm.MethodName)) ∈ lw_tbl := it5 (List.mem_of_getElem? (i := 168) rfl)
set_option maxRecDepth 20000 in
theorem w_1129 : (Jvm.Cond.static ({ cls := "LavenderPartsModel", name := "isUnder", desc := "(II)Z" } : Jvm.MethodName)) ∈ lw_tbl := it5 (List.mem_of_getElem? (i := 169) rfl)
set_option maxRecDepth 20000 in
theorem w_1130 : (Jvm.Cond.code ({ cls := "LavenderPartsModel", name := "isUnder", desc := "(II)Z" } : Jvm.MethodName) prog_8_method_94_code (3 : Nat) (Option.some Jvm.ClassFile.FieldType.boolean)) ∈ lw_tbl := it5 (List.mem_of_getElem? (i := 170) rfl)
set_option maxRecDepth 20000 in
theorem w_1131 : (Jvm.Cond.methodLink "LavenderPartsModel" (327 : Nat) ({ cls := "LavenderPartsModel", name := "above", desc := "(I)I" } : Jvm.MethodName)) ∈ lw_tbl := it5 (List.mem_of_getElem? (i := 171) rfl)
set_option maxRecDepth 20000 in
theorem w_1132 : (Jvm.Cond.static ({ cls := "LavenderPartsModel", name := "above", desc := "(I)I" } : Jvm.MethodName)) ∈ lw_tbl := it5 (List.mem_of_getElem? (i := 172) rfl)
set_option maxRecDepth 20000 in
theorem w_1133 : (Jvm.Cond.code ({ cls := "LavenderPartsModel", name := "above", desc := "(I)I" } : Jvm.MethodName) prog_8_method_93_code (1 : Nat) (Option.some Jvm.ClassFile.FieldType.int)) ∈ lw_tbl := it5 (List.mem_of_getElem? (i := 173) rfl)
set_option maxRecDepth 20000 in
theorem w_1134 : (Jvm.Cond.constant "LavenderPartsModel" (322 : Nat) (-1000003 : Int32)) ∈ lw_tbl := it5 (List.mem_of_getElem? (i := 174) rfl)
set_option maxRecDepth 20000 in
theorem w_1135 : (Jvm.Cond.methodLink "LavenderPartsLaw" (137 : Nat) ({ cls := "LavenderPartsModel", name := "sheet", desc := "(III)I" } : Jvm.MethodName)) ∈ lw_tbl := it5 (List.mem_of_getElem? (i := 175) rfl)
set_option maxRecDepth 20000 in
theorem w_1136 : (Jvm.Cond.instanceMethod ({ cls := "LavenderPartsModel", name := "sheet", desc := "(III)I" } : Jvm.MethodName)) ∈ lw_tbl := it5 (List.mem_of_getElem? (i := 176) rfl)
set_option maxRecDepth 20000 in
theorem w_1137 : (Jvm.Cond.selects "LavenderPartsModel" ({ cls := "LavenderPartsModel", name := "sheet", desc := "(III)I" } : Jvm.MethodName) ({ cls := "LavenderPartsModel", name := "sheet", desc := "(III)I" } : Jvm.MethodName)) ∈ lw_tbl := it5 (List.mem_of_getElem? (i := 177) rfl)
set_option maxRecDepth 20000 in
theorem w_1138 : (Jvm.Cond.code ({ cls := "LavenderPartsModel", name := "sheet", desc := "(III)I" } : Jvm.MethodName) prog_8_method_90_code (5 : Nat) (Option.some Jvm.ClassFile.FieldType.int)) ∈ lw_tbl := it5 (List.mem_of_getElem? (i := 178) rfl)
set_option maxRecDepth 20000 in
theorem w_1139 : (Jvm.Cond.constant "LavenderPartsModel" (323 : Nat) (-1000007 : Int32)) ∈ lw_tbl := it5 (List.mem_of_getElem? (i := 179) rfl)
set_option maxRecDepth 20000 in
theorem w_1140 : (Jvm.Cond.methodLink "LavenderPartsLaw" (141 : Nat) ({ cls := "LavenderPartsModel", name := "write", desc := "(III)I" } : Jvm.MethodName)) ∈ lw_tbl := it5 (List.mem_of_getElem? (i := 180) rfl)
set_option maxRecDepth 20000 in
theorem w_1141 : (Jvm.Cond.instanceMethod ({ cls := "LavenderPartsModel", name := "write", desc := "(III)I" } : Jvm.MethodName)) ∈ lw_tbl := it5 (List.mem_of_getElem? (i := 181) rfl)
set_option maxRecDepth 20000 in
theorem w_1142 : (Jvm.Cond.selects "LavenderPartsModel" ({ cls := "LavenderPartsModel", name := "write", desc := "(III)I" } : Jvm.MethodName) ({ cls := "LavenderPartsModel", name := "write", desc := "(III)I" } : Jvm.MethodName)) ∈ lw_tbl := it5 (List.mem_of_getElem? (i := 182) rfl)
set_option maxRecDepth 20000 in
theorem w_1143 : (Jvm.Cond.code ({ cls := "LavenderPartsModel", name := "write", desc := "(III)I" } : Jvm.MethodName) prog_8_method_91_code (4 : Nat) (Option.some Jvm.ClassFile.FieldType.int)) ∈ lw_tbl := it5 (List.mem_of_getElem? (i := 183) rfl)
set_option maxRecDepth 20000 in
theorem w_1144 : (Jvm.Cond.methodLink "LavenderPartsModel" (324 : Nat) ({ cls := "LavenderPartsModel", name := "cutTo", desc := "(II)I" } : Jvm.MethodName)) ∈ lw_tbl := it5 (List.mem_of_getElem? (i := 184) rfl)
set_option maxRecDepth 20000 in
theorem w_1145 : (Jvm.Cond.static ({ cls := "LavenderPartsModel", name := "cutTo", desc := "(II)I" } : Jvm.MethodName)) ∈ lw_tbl := it5 (List.mem_of_getElem? (i := 185) rfl)
set_option maxRecDepth 20000 in
theorem w_1146 : (Jvm.Cond.code ({ cls := "LavenderPartsModel", name := "cutTo", desc := "(II)I" } : Jvm.MethodName) prog_8_method_89_code (2 : Nat) (Option.some Jvm.ClassFile.FieldType.int)) ∈ lw_tbl := it5 (List.mem_of_getElem? (i := 186) rfl)
set_option maxRecDepth 20000 in
theorem w_1147 : (Jvm.Cond.methodLink "LavenderPartsLaw" (146 : Nat) ({ cls := "LavenderPartsModel", name := "copy", desc := "(IIIII)I" } : Jvm.MethodName)) ∈ lw_tbl := it5 (List.mem_of_getElem? (i := 187) rfl)
set_option maxRecDepth 20000 in
theorem w_1148 : (Jvm.Cond.instanceMethod ({ cls := "LavenderPartsModel", name := "copy", desc := "(IIIII)I" } : Jvm.MethodName)) ∈ lw_tbl := it5 (List.mem_of_getElem? (i := 188) rfl)
set_option maxRecDepth 20000 in
theorem w_1149 : (Jvm.Cond.selects "LavenderPartsModel" ({ cls := "LavenderPartsModel", name := "copy", desc := "(IIIII)I" } : Jvm.MethodName) ({ cls := "LavenderPartsModel", name := "copy", desc := "(IIIII)I" } : Jvm.MethodName)) ∈ lw_tbl := it5 (List.mem_of_getElem? (i := 189) rfl)
set_option maxRecDepth 20000 in
theorem w_1150 : (Jvm.Cond.code ({ cls := "LavenderPartsModel", name := "copy", desc := "(IIIII)I" } : Jvm.MethodName) prog_8_method_92_code (7 : Nat) (Option.some Jvm.ClassFile.FieldType.int)) ∈ lw_tbl := it5 (List.mem_of_getElem? (i := 190) rfl)
set_option maxRecDepth 20000 in
theorem w_1151 : (Jvm.Cond.methodLink "LavenderPartsLaw" (150 : Nat) ({ cls := "LavenderPartsModel", name := "load", desc := "(I)I" } : Jvm.MethodName)) ∈ lw_tbl := it5 (List.mem_of_getElem? (i := 191) rfl)
set_option maxRecDepth 20000 in
theorem w_1152 : (Jvm.Cond.instanceMethod ({ cls := "LavenderPartsModel", name := "load", desc := "(I)I" } : Jvm.MethodName)) ∈ lw_tbl := it5 (List.mem_of_getElem? (i := 192) rfl)
set_option maxRecDepth 20000 in
theorem w_1153 : (Jvm.Cond.selects "LavenderPartsModel" ({ cls := "LavenderPartsModel", name := "load", desc := "(I)I" } : Jvm.MethodName) ({ cls := "LavenderPartsModel", name := "load", desc := "(I)I" } : Jvm.MethodName)) ∈ lw_tbl := it5 (List.mem_of_getElem? (i := 193) rfl)
set_option maxRecDepth 20000 in
theorem w_1154 : (Jvm.Cond.code ({ cls := "LavenderPartsModel", name := "load", desc := "(I)I" } : Jvm.MethodName) prog_8_method_95_code (3 : Nat) (Option.some Jvm.ClassFile.FieldType.int)) ∈ lw_tbl := it5 (List.mem_of_getElem? (i := 194) rfl)
set_option maxRecDepth 20000 in
theorem w_1155 : (Jvm.Cond.methodLink "LavenderPartsLaw" (154 : Nat) ({ cls := "LavenderPartsModel", name := "judge", desc := "(I)I" } : Jvm.MethodName)) ∈ lw_tbl := it5 (List.mem_of_getElem? (i := 195) rfl)
set_option maxRecDepth 20000 in
theorem w_1156 : (Jvm.Cond.instanceMethod ({ cls := "LavenderPartsModel", name := "judge", desc := "(I)I" } : Jvm.MethodName)) ∈ lw_tbl := it5 (List.mem_of_getElem? (i := 196) rfl)
set_option maxRecDepth 20000 in
theorem w_1157 : (Jvm.Cond.selects "LavenderPartsModel" ({ cls := "LavenderPartsModel", name := "judge", desc := "(I)I" } : Jvm.MethodName) ({ cls := "LavenderPartsModel", name := "judge", desc := "(I)I" } : Jvm.MethodName)) ∈ lw_tbl := it5 (List.mem_of_getElem? (i := 197) rfl)
set_option maxRecDepth 20000 in
theorem w_1158 : (Jvm.Cond.code ({ cls := "LavenderPartsModel", name := "judge", desc := "(I)I" } : Jvm.MethodName) prog_8_method_96_code (3 : Nat) (Option.some Jvm.ClassFile.FieldType.int)) ∈ lw_tbl := it5 (List.mem_of_getElem? (i := 198) rfl)
set_option maxRecDepth 20000 in
theorem w_1159 : (Jvm.Cond.methodLink "LavenderPartsLaw" (158 : Nat) ({ cls := "LavenderPartsModel", name := "image", desc := "()I" } : Jvm.MethodName)) ∈ lw_tbl := it5 (List.mem_of_getElem? (i := 199) rfl)
set_option maxRecDepth 20000 in
theorem w_1160 : (Jvm.Cond.instanceMethod ({ cls := "LavenderPartsModel", name := "image", desc := "()I" } : Jvm.MethodName)) ∈ lw_tbl := it5 (List.mem_of_getElem? (i := 200) rfl)
set_option maxRecDepth 20000 in
theorem w_1161 : (Jvm.Cond.selects "LavenderPartsModel" ({ cls := "LavenderPartsModel", name := "image", desc := "()I" } : Jvm.MethodName) ({ cls := "LavenderPartsModel", name := "image", desc := "()I" } : Jvm.MethodName)) ∈ lw_tbl := it5 (List.mem_of_getElem? (i := 201) rfl)
set_option maxRecDepth 20000 in
theorem w_1162 : (Jvm.Cond.code ({ cls := "LavenderPartsModel", name := "image", desc := "()I" } : Jvm.MethodName) prog_8_method_97_code (1 : Nat) (Option.some Jvm.ClassFile.FieldType.int)) ∈ lw_tbl := it5 (List.mem_of_getElem? (i := 202) rfl)
set_option maxRecDepth 20000 in
theorem w_1163 : (Jvm.Cond.methodLink "LavenderPartsLaw" (162 : Nat) ({ cls := "LavenderPartsModel", name := "undo", desc := "()I" } : Jvm.MethodName)) ∈ lw_tbl := it5 (List.mem_of_getElem? (i := 203) rfl)
set_option maxRecDepth 20000 in
theorem w_1164 : (Jvm.Cond.instanceMethod ({ cls := "LavenderPartsModel", name := "undo", desc := "()I" } : Jvm.MethodName)) ∈ lw_tbl := it5 (List.mem_of_getElem? (i := 204) rfl)
set_option maxRecDepth 20000 in
theorem w_1165 : (Jvm.Cond.selects "LavenderPartsModel" ({ cls := "LavenderPartsModel", name := "undo", desc := "()I" } : Jvm.MethodName) ({ cls := "LavenderPartsModel", name := "undo", desc := "()I" } : Jvm.MethodName)) ∈ lw_tbl := it5 (List.mem_of_getElem? (i := 205) rfl)
set_option maxRecDepth 20000 in
theorem w_1166 : (Jvm.Cond.code ({ cls := "LavenderPartsModel", name := "undo", desc := "()I" } : Jvm.MethodName) prog_8_method_98_code (1 : Nat) (Option.some Jvm.ClassFile.FieldType.int)) ∈ lw_tbl := it5 (List.mem_of_getElem? (i := 206) rfl)
set_option maxRecDepth 20000 in
theorem w_1167 : (Jvm.Cond.methodLink "LavenderPartsLaw" (166 : Nat) ({ cls := "LavenderPartsModel", name := "tear", desc := "()I" } : Jvm.MethodName)) ∈ lw_tbl := it5 (List.mem_of_getElem? (i := 207) rfl)
set_option maxRecDepth 20000 in
theorem w_1168 : (Jvm.Cond.instanceMethod ({ cls := "LavenderPartsModel", name := "tear", desc := "()I" } : Jvm.MethodName)) ∈ lw_tbl := it5 (List.mem_of_getElem? (i := 208) rfl)
set_option maxRecDepth 20000 in
theorem w_1169 : (Jvm.Cond.selects "LavenderPartsModel" ({ cls := "LavenderPartsModel", name := "tear", desc := "()I" } : Jvm.MethodName) ({ cls := "LavenderPartsModel", name := "tear", desc := "()I" } : Jvm.MethodName)) ∈ lw_tbl := it5 (List.mem_of_getElem? (i := 209) rfl)
set_option maxRecDepth 20000 in
theorem w_1170 : (Jvm.Cond.code ({ cls := "LavenderPartsModel", name := "tear", desc := "()I" } : Jvm.MethodName) prog_8_method_99_code (2 : Nat) (Option.some Jvm.ClassFile.FieldType.int)) ∈ lw_tbl := it5 (List.mem_of_getElem? (i := 210) rfl)
set_option maxRecDepth 20000 in
theorem w_1171 : (Jvm.Cond.methodLink "LavenderPartsLaw" (170 : Nat) ({ cls := "LavenderPartsModel", name := "count", desc := "(I)I" } : Jvm.MethodName)) ∈ lw_tbl := it5 (List.mem_of_getElem? (i := 211) rfl)
set_option maxRecDepth 20000 in
theorem w_1172 : (Jvm.Cond.instanceMethod ({ cls := "LavenderPartsModel", name := "count", desc := "(I)I" } : Jvm.MethodName)) ∈ lw_tbl := it5 (List.mem_of_getElem? (i := 212) rfl)
set_option maxRecDepth 20000 in
theorem w_1173 : (Jvm.Cond.selects "LavenderPartsModel" ({ cls := "LavenderPartsModel", name := "count", desc := "(I)I" } : Jvm.MethodName) ({ cls := "LavenderPartsModel", name := "count", desc := "(I)I" } : Jvm.MethodName)) ∈ lw_tbl := it5 (List.mem_of_getElem? (i := 213) rfl)
set_option maxRecDepth 20000 in
theorem w_1174 : (Jvm.Cond.code ({ cls := "LavenderPartsModel", name := "count", desc := "(I)I" } : Jvm.MethodName) prog_8_method_100_code (4 : Nat) (Option.some Jvm.ClassFile.FieldType.int)) ∈ lw_tbl := it5 (List.mem_of_getElem? (i := 214) rfl)
set_option maxRecDepth 20000 in
theorem w_1175 : (Jvm.Cond.methodLink "LavenderPartsLaw" (174 : Nat) ({ cls := "LavenderPartsModel", name := "status", desc := "(I)I" } : Jvm.MethodName)) ∈ lw_tbl := it5 (List.mem_of_getElem? (i := 215) rfl)
set_option maxRecDepth 20000 in
theorem w_1176 : (Jvm.Cond.instanceMethod ({ cls := "LavenderPartsModel", name := "status", desc := "(I)I" } : Jvm.MethodName)) ∈ lw_tbl := it5 (List.mem_of_getElem? (i := 216) rfl)
set_option maxRecDepth 20000 in
theorem w_1177 : (Jvm.Cond.selects "LavenderPartsModel" ({ cls := "LavenderPartsModel", name := "status", desc := "(I)I" } : Jvm.MethodName) ({ cls := "LavenderPartsModel", name := "status", desc := "(I)I" } : Jvm.MethodName)) ∈ lw_tbl := it5 (List.mem_of_getElem? (i := 217) rfl)
set_option maxRecDepth 20000 in
theorem w_1178 : (Jvm.Cond.code ({ cls := "LavenderPartsModel", name := "status", desc := "(I)I" } : Jvm.MethodName) prog_8_method_101_code (2 : Nat) (Option.some Jvm.ClassFile.FieldType.int)) ∈ lw_tbl := it5 (List.mem_of_getElem? (i := 218) rfl)
set_option maxRecDepth 20000 in
theorem w_1179 : (Jvm.Cond.fieldLink "java/lang/String" (9 : Nat) "java/lang/String" "value" "[B") ∈ lw_tbl := it5 (List.mem_of_getElem? (i := 219) rfl)
set_option maxRecDepth 20000 in
theorem w_1180 : (Jvm.Cond.fieldLink "java/lang/String" (15 : Nat) "java/lang/String" "coder" "B") ∈ lw_tbl := it5 (List.mem_of_getElem? (i := 220) rfl)
set_option maxRecDepth 20000 in
theorem ws_0 : Cond.selects "LavenderParts" ⟨"LavenderParts", "tell", "(I)I"⟩ ⟨"LavenderParts", "tell", "(I)I"⟩ ∈ lw_tbl := its (List.mem_of_getElem? (i := 0) rfl)
set_option maxRecDepth 20000 in
theorem ws_1 : Cond.selects "LavenderParts$Square" ⟨"LavenderParts$Square", "selling", "(II)I"⟩ ⟨"LavenderParts$Square", "selling", "(II)I"⟩ ∈ lw_tbl := its (List.mem_of_getElem? (i := 1) rfl)
set_option maxRecDepth 20000 in
theorem ws_2 : Cond.selects "LavenderParts$Square" ⟨"LavenderParts$Square", "having", "(II)I"⟩ ⟨"LavenderParts$Square", "having", "(II)I"⟩ ∈ lw_tbl := its (List.mem_of_getElem? (i := 2) rfl)
set_option maxRecDepth 20000 in
theorem ws_3 : Cond.selects "LavenderParts$Square" ⟨"LavenderParts$Square", "singOn", "()V"⟩ ⟨"LavenderParts$Square", "singOn", "()V"⟩ ∈ lw_tbl := its (List.mem_of_getElem? (i := 3) rfl)
set_option maxRecDepth 20000 in
theorem ws_4 : Cond.selects "LavenderParts$Square" ⟨"LavenderParts$Square", "comeIn", "()V"⟩ ⟨"LavenderParts$Square", "comeIn", "()V"⟩ ∈ lw_tbl := its (List.mem_of_getElem? (i := 4) rfl)
set_option maxRecDepth 20000 in
theorem ws_5 : Cond.selects "LavenderParts$Square" ⟨"LavenderParts$Square", "listen", "(LLavenderParts$Singer;I)V"⟩ ⟨"LavenderParts$Square", "listen", "(LLavenderParts$Singer;I)V"⟩ ∈ lw_tbl := its (List.mem_of_getElem? (i := 5) rfl)
set_option maxRecDepth 20000 in
theorem ws_6 : Cond.selects "LavenderParts$Square" ⟨"LavenderParts$Square", "sell", "()V"⟩ ⟨"LavenderParts$Square", "sell", "()V"⟩ ∈ lw_tbl := its (List.mem_of_getElem? (i := 6) rfl)
set_option maxRecDepth 20000 in
theorem ws_7 : Cond.selects "LavenderParts$Square" ⟨"LavenderParts$Square", "growOlder", "()V"⟩ ⟨"LavenderParts$Square", "growOlder", "()V"⟩ ∈ lw_tbl := its (List.mem_of_getElem? (i := 7) rfl)
set_option maxRecDepth 20000 in
theorem ws_8 : Cond.selects "LavenderParts" ⟨"LavenderParts", "daysTillAllSing", "(I)I"⟩ ⟨"LavenderParts", "daysTillAllSing", "(I)I"⟩ ∈ lw_tbl := its (List.mem_of_getElem? (i := 8) rfl)
set_option maxRecDepth 20000 in
theorem ws_9 : Cond.selects "LavenderParts" ⟨"LavenderParts", "tryOut", "(IIII)V"⟩ ⟨"LavenderParts", "tryOut", "(IIII)V"⟩ ∈ lw_tbl := its (List.mem_of_getElem? (i := 9) rfl)
set_option maxRecDepth 20000 in
theorem ws_10 : Cond.selects "LavenderParts" ⟨"LavenderParts", "isStillWithout", "(II)Z"⟩ ⟨"LavenderParts", "isStillWithout", "(II)Z"⟩ ∈ lw_tbl := its (List.mem_of_getElem? (i := 10) rfl)
set_option maxRecDepth 20000 in
theorem ws_11 : Cond.selects "LavenderParts" ⟨"LavenderParts", "faultOfTold", "(II)I"⟩ ⟨"LavenderParts", "faultOfTold", "(II)I"⟩ ∈ lw_tbl := its (List.mem_of_getElem? (i := 11) rfl)
set_option maxRecDepth 20000 in
theorem ws_12 : Cond.selects "LavenderParts" ⟨"LavenderParts", "faultOfSheet", "(I)I"⟩ ⟨"LavenderParts", "faultOfSheet", "(I)I"⟩ ∈ lw_tbl := its (List.mem_of_getElem? (i := 12) rfl)
set_option maxRecDepth 20000 in
theorem ws_13 : Cond.selects "LavenderParts" ⟨"LavenderParts", "isAsTold", "(LLavenderParts$Sheet;III)Z"⟩ ⟨"LavenderParts", "isAsTold", "(LLavenderParts$Sheet;III)Z"⟩ ∈ lw_tbl := its (List.mem_of_getElem? (i := 13) rfl)
set_option maxRecDepth 20000 in
theorem ws_14 : Cond.selects "LavenderParts$Tape" ⟨"LavenderParts$Tape", "tokenWith", "(I)I"⟩ ⟨"LavenderParts$Tape", "tokenWith", "(I)I"⟩ ∈ lw_tbl := its (List.mem_of_getElem? (i := 14) rfl)
set_option maxRecDepth 20000 in
theorem ws_15 : Cond.selects "LavenderParts$Tape" ⟨"LavenderParts$Tape", "numberOfDigits", "()I"⟩ ⟨"LavenderParts$Tape", "numberOfDigits", "()I"⟩ ∈ lw_tbl := its (List.mem_of_getElem? (i := 15) rfl)
set_option maxRecDepth 20000 in
theorem ws_16 : Cond.selects "LavenderParts$Reader" ⟨"LavenderParts$Reader", "readItem", "(LLavenderParts$Square;)Z"⟩ ⟨"LavenderParts$Reader", "readItem", "(LLavenderParts$Square;)Z"⟩ ∈ lw_tbl := its (List.mem_of_getElem? (i := 16) rfl)
set_option maxRecDepth 20000 in
theorem ws_17 : Cond.selects "LavenderParts$Reader" ⟨"LavenderParts$Reader", "readDead", "(LLavenderParts$Square;)Z"⟩ ⟨"LavenderParts$Reader", "readDead", "(LLavenderParts$Square;)Z"⟩ ∈ lw_tbl := its (List.mem_of_getElem? (i := 17) rfl)
set_option maxRecDepth 20000 in
theorem ws_18 : Cond.selects "LavenderParts$Reader" ⟨"LavenderParts$Reader", "readNumber", "(II)Z"⟩ ⟨"LavenderParts$Reader", "readNumber", "(II)Z"⟩ ∈ lw_tbl := its (List.mem_of_getElem? (i := 18) rfl)
set_option maxRecDepth 20000 in
theorem ws_19 : Cond.selects "LavenderParts$Reader" ⟨"LavenderParts$Reader", "readSings", "(LLavenderParts$Square;)Z"⟩ ⟨"LavenderParts$Reader", "readSings", "(LLavenderParts$Square;)Z"⟩ ∈ lw_tbl := its (List.mem_of_getElem? (i := 19) rfl)
set_option maxRecDepth 20000 in
theorem ws_20 : Cond.selects "LavenderParts$Reader" ⟨"LavenderParts$Reader", "kindOfWord", "()I"⟩ ⟨"LavenderParts$Reader", "kindOfWord", "()I"⟩ ∈ lw_tbl := its (List.mem_of_getElem? (i := 20) rfl)
set_option maxRecDepth 20000 in
theorem ws_21 : Cond.selects "LavenderParts$Reader" ⟨"LavenderParts$Reader", "readOwn", "(LLavenderParts$Square;Ljava/lang/String;IIII)Z"⟩ ⟨"LavenderParts$Reader", "readOwn", "(LLavenderParts$Square;Ljava/lang/String;IIII)Z"⟩ ∈ lw_tbl := its (List.mem_of_getElem? (i := 21) rfl)
set_option maxRecDepth 20000 in
theorem ws_22 : Cond.selects "LavenderPartsModel" ⟨"LavenderPartsModel", "finding", "(I)I"⟩ ⟨"LavenderPartsModel", "finding", "(I)I"⟩ ∈ lw_tbl := its (List.mem_of_getElem? (i := 22) rfl)
set_option maxRecDepth 20000 in
theorem ws_23 : Cond.selects "LavenderPartsModel" ⟨"LavenderPartsModel", "comes", "(II)I"⟩ ⟨"LavenderPartsModel", "comes", "(II)I"⟩ ∈ lw_tbl := its (List.mem_of_getElem? (i := 23) rfl)
set_option maxRecDepth 20000 in
theorem ws_24 : Cond.selects "LavenderPartsModel" ⟨"LavenderPartsModel", "isSinger", "(I)Z"⟩ ⟨"LavenderPartsModel", "isSinger", "(I)Z"⟩ ∈ lw_tbl := its (List.mem_of_getElem? (i := 24) rfl)
set_option maxRecDepth 20000 in
theorem ws_25 : Cond.selects "LavenderPartsModel" ⟨"LavenderPartsModel", "told", "(II)I"⟩ ⟨"LavenderPartsModel", "told", "(II)I"⟩ ∈ lw_tbl := its (List.mem_of_getElem? (i := 25) rfl)
set_option maxRecDepth 20000 in
theorem ws_26 : Cond.selects "LavenderPartsModel" ⟨"LavenderPartsModel", "gap", "(I)I"⟩ ⟨"LavenderPartsModel", "gap", "(I)I"⟩ ∈ lw_tbl := its (List.mem_of_getElem? (i := 26) rfl)
set_option maxRecDepth 20000 in
theorem ws_27 : Cond.selects "LavenderPartsModel" ⟨"LavenderPartsModel", "singerIs", "(II)I"⟩ ⟨"LavenderPartsModel", "singerIs", "(II)I"⟩ ∈ lw_tbl := its (List.mem_of_getElem? (i := 27) rfl)
set_option maxRecDepth 20000 in
theorem ws_28 : Cond.selects "LavenderPartsModel" ⟨"LavenderPartsModel", "lasts", "(I)I"⟩ ⟨"LavenderPartsModel", "lasts", "(I)I"⟩ ∈ lw_tbl := its (List.mem_of_getElem? (i := 28) rfl)
set_option maxRecDepth 20000 in
theorem ws_29 : Cond.selects "LavenderPartsModel" ⟨"LavenderPartsModel", "sells", "(I)I"⟩ ⟨"LavenderPartsModel", "sells", "(I)I"⟩ ∈ lw_tbl := its (List.mem_of_getElem? (i := 29) rfl)
set_option maxRecDepth 20000 in
theorem ws_30 : Cond.selects "LavenderPartsModel" ⟨"LavenderPartsModel", "isDead", "(I)Z"⟩ ⟨"LavenderPartsModel", "isDead", "(I)Z"⟩ ∈ lw_tbl := its (List.mem_of_getElem? (i := 30) rfl)
set_option maxRecDepth 20000 in
theorem ws_31 : Cond.selects "LavenderPartsModel" ⟨"LavenderPartsModel", "isAlone", "(I)Z"⟩ ⟨"LavenderPartsModel", "isAlone", "(I)Z"⟩ ∈ lw_tbl := its (List.mem_of_getElem? (i := 31) rfl)
set_option maxRecDepth 20000 in
theorem ws_32 : Cond.selects "LavenderPartsModel" ⟨"LavenderPartsModel", "doesSing", "(I)Z"⟩ ⟨"LavenderPartsModel", "doesSing", "(I)Z"⟩ ∈ lw_tbl := its (List.mem_of_getElem? (i := 32) rfl)
set_option maxRecDepth 20000 in
theorem ws_33 : Cond.selects "LavenderPartsModel" ⟨"LavenderPartsModel", "wears", "(I)I"⟩ ⟨"LavenderPartsModel", "wears", "(I)I"⟩ ∈ lw_tbl := its (List.mem_of_getElem? (i := 33) rfl)
set_option maxRecDepth 20000 in
theorem ws_34 : Cond.selects "LavenderPartsModel" ⟨"LavenderPartsModel", "isField", "(III)Z"⟩ ⟨"LavenderPartsModel", "isField", "(III)Z"⟩ ∈ lw_tbl := its (List.mem_of_getElem? (i := 34) rfl)
set_option maxRecDepth 20000 in
theorem ws_35 : Cond.selects "LavenderPartsModel" ⟨"LavenderPartsModel", "become", "(II)I"⟩ ⟨"LavenderPartsModel", "become", "(II)I"⟩ ∈ lw_tbl := its (List.mem_of_getElem? (i := 35) rfl)
set_option maxRecDepth 20000 in
theorem ws_36 : Cond.selects "LavenderPartsModel" ⟨"LavenderPartsModel", "begins", "(I)I"⟩ ⟨"LavenderPartsModel", "begins", "(I)I"⟩ ∈ lw_tbl := its (List.mem_of_getElem? (i := 36) rfl)
set_option maxRecDepth 20000 in
theorem ws_37 : Cond.selects "LavenderPartsModel" ⟨"LavenderPartsModel", "daysGo", "(I)V"⟩ ⟨"LavenderPartsModel", "daysGo", "(I)V"⟩ ∈ lw_tbl := its (List.mem_of_getElem? (i := 37) rfl)
set_option maxRecDepth 20000 in
theorem ws_38 : Cond.selects "LavenderPartsModel" ⟨"LavenderPartsModel", "day", "()V"⟩ ⟨"LavenderPartsModel", "day", "()V"⟩ ∈ lw_tbl := its (List.mem_of_getElem? (i := 38) rfl)
set_option maxRecDepth 20000 in
theorem ws_39 : Cond.selects "LavenderPartsModel" ⟨"LavenderPartsModel", "ended", "()I"⟩ ⟨"LavenderPartsModel", "ended", "()I"⟩ ∈ lw_tbl := its (List.mem_of_getElem? (i := 39) rfl)
set_option maxRecDepth 20000 in
theorem ws_40 : Cond.selects "LavenderPartsModel" ⟨"LavenderPartsModel", "comesIn", "(II)V"⟩ ⟨"LavenderPartsModel", "comesIn", "(II)V"⟩ ∈ lw_tbl := its (List.mem_of_getElem? (i := 40) rfl)
set_option maxRecDepth 20000 in
theorem ws_41 : Cond.selects "LavenderPartsModel" ⟨"LavenderPartsModel", "sell", "()V"⟩ ⟨"LavenderPartsModel", "sell", "()V"⟩ ∈ lw_tbl := its (List.mem_of_getElem? (i := 41) rfl)
set_option maxRecDepth 20000 in
theorem ws_42 : Cond.selects "LavenderPartsModel" ⟨"LavenderPartsModel", "more", "(III)V"⟩ ⟨"LavenderPartsModel", "more", "(III)V"⟩ ∈ lw_tbl := its (List.mem_of_getElem? (i := 42) rfl)
set_option maxRecDepth 20000 in
theorem ws_43 : Cond.selects "LavenderPartsModel" ⟨"LavenderPartsModel", "ages", "(I)V"⟩ ⟨"LavenderPartsModel", "ages", "(I)V"⟩ ∈ lw_tbl := its (List.mem_of_getElem? (i := 43) rfl)
set_option maxRecDepth 20000 in
theorem ws_44 : Cond.selects "LavenderPartsModel" ⟨"LavenderPartsModel", "singing", "()I"⟩ ⟨"LavenderPartsModel", "singing", "()I"⟩ ∈ lw_tbl := its (List.mem_of_getElem? (i := 44) rfl)
set_option maxRecDepth 20000 in
theorem ws_45 : Cond.selects "LavenderPartsModel" ⟨"LavenderPartsModel", "waiting", "()I"⟩ ⟨"LavenderPartsModel", "waiting", "()I"⟩ ∈ lw_tbl := its (List.mem_of_getElem? (i := 45) rfl)
set_option maxRecDepth 20000 in
theorem ws_46 : Cond.selects "LavenderPartsModel" ⟨"LavenderPartsModel", "sumOf", "(I)I"⟩ ⟨"LavenderPartsModel", "sumOf", "(I)I"⟩ ∈ lw_tbl := its (List.mem_of_getElem? (i := 46) rfl)
set_option maxRecDepth 20000 in
theorem ws_47 : Cond.selects "LavenderPartsModel" ⟨"LavenderPartsModel", "deadOnes", "()I"⟩ ⟨"LavenderPartsModel", "deadOnes", "()I"⟩ ∈ lw_tbl := its (List.mem_of_getElem? (i := 47) rfl)
set_option maxRecDepth 20000 in
theorem ws_48 : Cond.selects "LavenderPartsModel" ⟨"LavenderPartsModel", "putBack", "(I)I"⟩ ⟨"LavenderPartsModel", "putBack", "(I)I"⟩ ∈ lw_tbl := its (List.mem_of_getElem? (i := 48) rfl)
set_option maxRecDepth 20000 in
theorem ws_49 : Cond.selects "LavenderPartsModel" ⟨"LavenderPartsModel", "daysTo", "(II)I"⟩ ⟨"LavenderPartsModel", "daysTo", "(II)I"⟩ ∈ lw_tbl := its (List.mem_of_getElem? (i := 49) rfl)
set_option maxRecDepth 20000 in
theorem ws_50 : Cond.selects "LavenderPartsModel" ⟨"LavenderPartsModel", "orNone", "(I)I"⟩ ⟨"LavenderPartsModel", "orNone", "(I)I"⟩ ∈ lw_tbl := its (List.mem_of_getElem? (i := 50) rfl)
set_option maxRecDepth 20000 in
theorem ws_51 : Cond.selects "LavenderPartsModel" ⟨"LavenderPartsModel", "daysUp", "(II)I"⟩ ⟨"LavenderPartsModel", "daysUp", "(II)I"⟩ ∈ lw_tbl := its (List.mem_of_getElem? (i := 51) rfl)
set_option maxRecDepth 20000 in
theorem ws_52 : Cond.selects "LavenderPartsModel" ⟨"LavenderPartsModel", "bestBy", "(IIIII)I"⟩ ⟨"LavenderPartsModel", "bestBy", "(IIIII)I"⟩ ∈ lw_tbl := its (List.mem_of_getElem? (i := 52) rfl)
set_option maxRecDepth 20000 in
theorem ws_53 : Cond.selects "LavenderPartsModel" ⟨"LavenderPartsModel", "soldBehind", "(I)I"⟩ ⟨"LavenderPartsModel", "soldBehind", "(I)I"⟩ ∈ lw_tbl := its (List.mem_of_getElem? (i := 53) rfl)
set_option maxRecDepth 20000 in
theorem ws_54 : Cond.selects "LavenderPartsModel" ⟨"LavenderPartsModel", "behind", "(II)I"⟩ ⟨"LavenderPartsModel", "behind", "(II)I"⟩ ∈ lw_tbl := its (List.mem_of_getElem? (i := 54) rfl)
set_option maxRecDepth 20000 in
theorem ws_55 : Cond.selects "LavenderPartsModel" ⟨"LavenderPartsModel", "isHushed", "(II)Z"⟩ ⟨"LavenderPartsModel", "isHushed", "(II)Z"⟩ ∈ lw_tbl := its (List.mem_of_getElem? (i := 55) rfl)
set_option maxRecDepth 20000 in
theorem ws_56 : Cond.selects "LavenderPartsModel" ⟨"LavenderPartsModel", "lacks", "(IZ)I"⟩ ⟨"LavenderPartsModel", "lacks", "(IZ)I"⟩ ∈ lw_tbl := its (List.mem_of_getElem? (i := 56) rfl)
set_option maxRecDepth 20000 in
theorem ws_57 : Cond.selects "LavenderPartsModel" ⟨"LavenderPartsModel", "fitting", "(IIII)I"⟩ ⟨"LavenderPartsModel", "fitting", "(IIII)I"⟩ ∈ lw_tbl := its (List.mem_of_getElem? (i := 57) rfl)
set_option maxRecDepth 20000 in
theorem ws_58 : Cond.selects "LavenderPartsModel" ⟨"LavenderPartsModel", "isSo", "(II)Z"⟩ ⟨"LavenderPartsModel", "isSo", "(II)Z"⟩ ∈ lw_tbl := its (List.mem_of_getElem? (i := 58) rfl)
set_option maxRecDepth 20000 in
theorem ws_59 : Cond.selects "LavenderPartsModel" ⟨"LavenderPartsModel", "drawn", "()I"⟩ ⟨"LavenderPartsModel", "drawn", "()I"⟩ ∈ lw_tbl := its (List.mem_of_getElem? (i := 59) rfl)
set_option maxRecDepth 20000 in
theorem ws_60 : Cond.selects "LavenderPartsModel" ⟨"LavenderPartsModel", "beginDates", "()I"⟩ ⟨"LavenderPartsModel", "beginDates", "()I"⟩ ∈ lw_tbl := its (List.mem_of_getElem? (i := 60) rfl)
set_option maxRecDepth 20000 in
theorem ws_61 : Cond.selects "LavenderPartsModel" ⟨"LavenderPartsModel", "token", "()V"⟩ ⟨"LavenderPartsModel", "token", "()V"⟩ ∈ lw_tbl := its (List.mem_of_getElem? (i := 61) rfl)
set_option maxRecDepth 20000 in
theorem ws_62 : Cond.selects "LavenderPartsModel" ⟨"LavenderPartsModel", "byteAt", "(I)I"⟩ ⟨"LavenderPartsModel", "byteAt", "(I)I"⟩ ∈ lw_tbl := its (List.mem_of_getElem? (i := 62) rfl)
set_option maxRecDepth 20000 in
theorem ws_63 : Cond.selects "LavenderPartsModel" ⟨"LavenderPartsModel", "readItem", "()V"⟩ ⟨"LavenderPartsModel", "readItem", "()V"⟩ ∈ lw_tbl := its (List.mem_of_getElem? (i := 63) rfl)
set_option maxRecDepth 20000 in
theorem ws_64 : Cond.selects "LavenderPartsModel" ⟨"LavenderPartsModel", "isWord", "(Ljava/lang/String;)Z"⟩ ⟨"LavenderPartsModel", "isWord", "(Ljava/lang/String;)Z"⟩ ∈ lw_tbl := its (List.mem_of_getElem? (i := 64) rfl)
set_option maxRecDepth 20000 in
theorem ws_65 : Cond.selects "LavenderPartsModel" ⟨"LavenderPartsModel", "readSinger", "(I)V"⟩ ⟨"LavenderPartsModel", "readSinger", "(I)V"⟩ ∈ lw_tbl := its (List.mem_of_getElem? (i := 65) rfl)
set_option maxRecDepth 20000 in
theorem ws_66 : Cond.selects "LavenderPartsModel" ⟨"LavenderPartsModel", "must", "(Z)V"⟩ ⟨"LavenderPartsModel", "must", "(Z)V"⟩ ∈ lw_tbl := its (List.mem_of_getElem? (i := 66) rfl)
set_option maxRecDepth 20000 in
theorem ws_67 : Cond.selects "LavenderPartsModel" ⟨"LavenderPartsModel", "takesWord", "(Ljava/lang/String;)Z"⟩ ⟨"LavenderPartsModel", "takesWord", "(Ljava/lang/String;)Z"⟩ ∈ lw_tbl := its (List.mem_of_getElem? (i := 67) rfl)
set_option maxRecDepth 20000 in
theorem ws_68 : Cond.selects "LavenderPartsModel" ⟨"LavenderPartsModel", "number", "(II)I"⟩ ⟨"LavenderPartsModel", "number", "(II)I"⟩ ∈ lw_tbl := its (List.mem_of_getElem? (i := 68) rfl)
set_option maxRecDepth 20000 in
theorem ws_69 : Cond.selects "LavenderPartsModel" ⟨"LavenderPartsModel", "addItem", "(IIIIII)V"⟩ ⟨"LavenderPartsModel", "addItem", "(IIIIII)V"⟩ ∈ lw_tbl := its (List.mem_of_getElem? (i := 69) rfl)
set_option maxRecDepth 20000 in
theorem ws_70 : Cond.selects "LavenderPartsModel" ⟨"LavenderPartsModel", "isToldSo", "(I)V"⟩ ⟨"LavenderPartsModel", "isToldSo", "(I)V"⟩ ∈ lw_tbl := its (List.mem_of_getElem? (i := 70) rfl)
theorem n_0 : Cond.methodLinkNest "LavenderParts$Square" 32 ⟨"LavenderParts$Singer", "<init>", "()V"⟩ "LavenderParts" ∈ nsL := List.mem_of_getElem? (i := 0) rfl
theorem n_1 : Cond.methodLinkNest "LavenderParts" 24 ⟨"LavenderParts$Reader", "<init>", "()V"⟩ "LavenderParts" ∈ nsL := List.mem_of_getElem? (i := 1) rfl
theorem n_2 : Cond.methodLinkNest "LavenderParts$Reader" 9 ⟨"LavenderParts$Tape", "<init>", "()V"⟩ "LavenderParts" ∈ nsL := List.mem_of_getElem? (i := 2) rfl
theorem n_3 : Cond.methodLinkNest "LavenderParts" 43 ⟨"LavenderParts$Sheet", "<init>", "()V"⟩ "LavenderParts" ∈ nsL := List.mem_of_getElem? (i := 3) rfl
theorem n_4 : Cond.methodLinkNest "LavenderParts$Square" 74 ⟨"LavenderParts", "within", "(III)Z"⟩ "LavenderParts" ∈ nsL := List.mem_of_getElem? (i := 4) rfl
theorem n_5 : Cond.methodLinkNest "LavenderParts$Singer" 26 ⟨"LavenderParts", "within", "(III)Z"⟩ "LavenderParts" ∈ nsL := List.mem_of_getElem? (i := 5) rfl
theorem n_6 : Cond.methodLinkNest "LavenderParts$Reader" 91 ⟨"LavenderParts", "within", "(III)Z"⟩ "LavenderParts" ∈ nsL := List.mem_of_getElem? (i := 6) rfl
theorem n_7 : Cond.methodLinkNest "LavenderParts$Sheet" 20 ⟨"LavenderParts", "within", "(III)Z"⟩ "LavenderParts" ∈ nsL := List.mem_of_getElem? (i := 7) rfl
theorem sr_w_0 : ("LavenderParts$Reader", 33, "dead", 12) ∈ srL := List.mem_of_getElem? (i := 0) rfl
theorem sr_w_1 : ("LavenderParts$Reader", 42, "sings", 13) ∈ srL := List.mem_of_getElem? (i := 1) rfl
theorem sr_w_2 : ("LavenderParts$Reader", 101, "singer", 0) ∈ srL := List.mem_of_getElem? (i := 2) rfl
theorem sr_w_3 : ("LavenderParts$Reader", 103, "sister", 1) ∈ srL := List.mem_of_getElem? (i := 3) rfl
theorem sr_w_4 : ("LavenderParts$Reader", 105, "cabman", 2) ∈ srL := List.mem_of_getElem? (i := 4) rfl
theorem sr_w_5 : ("LavenderParts$Reader", 107, "elder", 3) ∈ srL := List.mem_of_getElem? (i := 5) rfl
theorem sr_w_6 : ("LavenderParts$Reader", 109, "last", 4) ∈ srL := List.mem_of_getElem? (i := 6) rfl
theorem sr_w_7 : ("LavenderParts$Reader", 111, "child", 5) ∈ srL := List.mem_of_getElem? (i := 7) rfl
theorem sr_w_8 : ("LavenderParts$Reader", 113, "caroller", 6) ∈ srL := List.mem_of_getElem? (i := 8) rfl
theorem sr_w_9 : ("LavenderParts$Reader", 61, "begins", 7) ∈ srL := List.mem_of_getElem? (i := 9) rfl
theorem sr_w_10 : ("LavenderParts$Reader", 69, "answers", 8) ∈ srL := List.mem_of_getElem? (i := 10) rfl
theorem sr_w_11 : ("LavenderParts$Reader", 71, "voice", 9) ∈ srL := List.mem_of_getElem? (i := 11) rfl
theorem sr_w_12 : ("LavenderParts$Reader", 73, "aged", 10) ∈ srL := List.mem_of_getElem? (i := 12) rfl
theorem sr_w_13 : ("LavenderParts$Reader", 75, "part", 11) ∈ srL := List.mem_of_getElem? (i := 13) rfl
theorem sr_w_14 : ("LavenderPartsModel", 30, "singer", 0) ∈ srL := List.mem_of_getElem? (i := 14) rfl
theorem sr_w_15 : ("LavenderPartsModel", 32, "sister", 1) ∈ srL := List.mem_of_getElem? (i := 15) rfl
theorem sr_w_16 : ("LavenderPartsModel", 34, "cabman", 2) ∈ srL := List.mem_of_getElem? (i := 16) rfl
theorem sr_w_17 : ("LavenderPartsModel", 36, "elder", 3) ∈ srL := List.mem_of_getElem? (i := 17) rfl
theorem sr_w_18 : ("LavenderPartsModel", 38, "last", 4) ∈ srL := List.mem_of_getElem? (i := 18) rfl
theorem sr_w_19 : ("LavenderPartsModel", 40, "child", 5) ∈ srL := List.mem_of_getElem? (i := 19) rfl
theorem sr_w_20 : ("LavenderPartsModel", 42, "caroller", 6) ∈ srL := List.mem_of_getElem? (i := 20) rfl
theorem sr_w_21 : ("LavenderPartsModel", 284, "begins", 7) ∈ srL := List.mem_of_getElem? (i := 21) rfl
theorem sr_w_22 : ("LavenderPartsModel", 291, "answers", 8) ∈ srL := List.mem_of_getElem? (i := 22) rfl
theorem sr_w_23 : ("LavenderPartsModel", 293, "voice", 9) ∈ srL := List.mem_of_getElem? (i := 23) rfl
theorem sr_w_24 : ("LavenderPartsModel", 295, "aged", 10) ∈ srL := List.mem_of_getElem? (i := 24) rfl
theorem sr_w_25 : ("LavenderPartsModel", 297, "part", 11) ∈ srL := List.mem_of_getElem? (i := 25) rfl
theorem sr_w_26 : ("LavenderPartsModel", 306, "dead", 12) ∈ srL := List.mem_of_getElem? (i := 26) rfl
theorem sr_w_27 : ("LavenderPartsModel", 308, "sings", 13) ∈ srL := List.mem_of_getElem? (i := 27) rfl
theorem cb8_m5 : (Int8.ofInt (-5)).toInt32 = (-5) := by decide +kernel
theorem cb8_6 : (Int8.ofInt 6).toInt32 = 6 := by decide +kernel
theorem cb8_7 : (Int8.ofInt 7).toInt32 = 7 := by decide +kernel
theorem cb8_8 : (Int8.ofInt 8).toInt32 = 8 := by decide +kernel
theorem cb8_9 : (Int8.ofInt 9).toInt32 = 9 := by decide +kernel
theorem cb8_10 : (Int8.ofInt 10).toInt32 = 10 := by decide +kernel
theorem cb8_11 : (Int8.ofInt 11).toInt32 = 11 := by decide +kernel
theorem cb8_13 : (Int8.ofInt 13).toInt32 = 13 := by decide +kernel
theorem cb8_14 : (Int8.ofInt 14).toInt32 = 14 := by decide +kernel
theorem cb8_15 : (Int8.ofInt 15).toInt32 = 15 := by decide +kernel
theorem cb8_16 : (Int8.ofInt 16).toInt32 = 16 := by decide +kernel
theorem cb8_20 : (Int8.ofInt 20).toInt32 = 20 := by decide +kernel
theorem cb8_30 : (Int8.ofInt 30).toInt32 = 30 := by decide +kernel
theorem cb8_32 : (Int8.ofInt 32).toInt32 = 32 := by decide +kernel
theorem cb8_40 : (Int8.ofInt 40).toInt32 = 40 := by decide +kernel
theorem cb8_48 : (Int8.ofInt 48).toInt32 = 48 := by decide +kernel
theorem cb8_50 : (Int8.ofInt 50).toInt32 = 50 := by decide +kernel
theorem cb8_57 : (Int8.ofInt 57).toInt32 = 57 := by decide +kernel
theorem cb8_59 : (Int8.ofInt 59).toInt32 = 59 := by decide +kernel
theorem cb8_60 : (Int8.ofInt 60).toInt32 = 60 := by decide +kernel
theorem cb8_63 : (Int8.ofInt 63).toInt32 = 63 := by decide +kernel
theorem cb8_94 : (Int8.ofInt 94).toInt32 = 94 := by decide +kernel
theorem cb8_97 : (Int8.ofInt 97).toInt32 = 97 := by decide +kernel
theorem cb8_99 : (Int8.ofInt 99).toInt32 = 99 := by decide +kernel
theorem cb8_120 : (Int8.ofInt 120).toInt32 = 120 := by decide +kernel
theorem cb8_122 : (Int8.ofInt 122).toInt32 = 122 := by decide +kernel
theorem cb8_127 : (Int8.ofInt 127).toInt32 = 127 := by decide +kernel
theorem ci_m1 : Int32.ofInt (-1) = (-1) := by decide +kernel
theorem ci_0 : Int32.ofInt 0 = 0 := by decide +kernel
theorem ci_1 : Int32.ofInt 1 = 1 := by decide +kernel
theorem ci_2 : Int32.ofInt 2 = 2 := by decide +kernel
theorem ci_3 : Int32.ofInt 3 = 3 := by decide +kernel
theorem ci_4 : Int32.ofInt 4 = 4 := by decide +kernel
theorem ci_5 : Int32.ofInt 5 = 5 := by decide +kernel
theorem ci_6 : Int32.ofInt 6 = 6 := by decide +kernel
theorem cs16_160 : (Int16.ofInt 160).toInt32 = 160 := by decide +kernel
theorem cs16_200 : (Int16.ofInt 200).toInt32 = 200 := by decide +kernel
theorem cs16_255 : (Int16.ofInt 255).toInt32 = 255 := by decide +kernel
theorem cs16_400 : (Int16.ofInt 400).toInt32 = 400 := by decide +kernel
theorem cs16_720 : (Int16.ofInt 720).toInt32 = 720 := by decide +kernel
theorem cs16_1000 : (Int16.ofInt 1000).toInt32 = 1000 := by decide +kernel
theorem cs16_9999 : (Int16.ofInt 9999).toInt32 = 9999 := by decide +kernel
theorem cs16_12345 : (Int16.ofInt 12345).toInt32 = 12345 := by decide +kernel
theorem hiX0 : ∀ w ∈ u_ws RX0 TX0 1, w ∈ lw_tbl := by decide +kernel
theorem hgX0 : ∀ w ∈ u_ws RX0 TX0 1, goodWord w = true := by decide +kernel
theorem hinX0 : ∀ w ∈ u_ws RX0 TX0 1, w ∈ gTb := fun w h => gTb_in (hiX0 w h) (hgX0 w h)
theorem hftX0 : ∀ k, k < 1 → defaultValue (tyX0 k) = if (ftL.getD 0 []).getD k 0 = 2 then .null else .int 0 := by decide +kernel
theorem hiX1 : ∀ w ∈ u_ws RX1 TX1 3, w ∈ lw_tbl := by decide +kernel
theorem hgX1 : ∀ w ∈ u_ws RX1 TX1 3, goodWord w = true := by decide +kernel
theorem hinX1 : ∀ w ∈ u_ws RX1 TX1 3, w ∈ gTb := fun w h => gTb_in (hiX1 w h) (hgX1 w h)
theorem hftX1 : ∀ k, k < 3 → defaultValue (tyX1 k) = if (ftL.getD 1 []).getD k 0 = 2 then .null else .int 0 := by decide +kernel
theorem hiX2 : ∀ w ∈ u_ws RX2 TX2 2, w ∈ lw_tbl := by decide +kernel
theorem hgX2 : ∀ w ∈ u_ws RX2 TX2 2, goodWord w = true := by decide +kernel
theorem hinX2 : ∀ w ∈ u_ws RX2 TX2 2, w ∈ gTb := fun w h => gTb_in (hiX2 w h) (hgX2 w h)
theorem hftX2 : ∀ k, k < 2 → defaultValue (tyX2 k) = if (ftL.getD 2 []).getD k 0 = 2 then .null else .int 0 := by decide +kernel
theorem hiX3 : ∀ w ∈ u_ws RX3 TX3 6, w ∈ lw_tbl := by decide +kernel
theorem hgX3 : ∀ w ∈ u_ws RX3 TX3 6, goodWord w = true := by decide +kernel
theorem hinX3 : ∀ w ∈ u_ws RX3 TX3 6, w ∈ gTb := fun w h => gTb_in (hiX3 w h) (hgX3 w h)
theorem hftX3 : ∀ k, k < 6 → defaultValue (tyX3 k) = if (ftL.getD 3 []).getD k 0 = 2 then .null else .int 0 := by decide +kernel
theorem hiX4 : ∀ w ∈ u_ws RX4 TX4 6, w ∈ lw_tbl := by decide +kernel
theorem hgX4 : ∀ w ∈ u_ws RX4 TX4 6, goodWord w = true := by decide +kernel
theorem hinX4 : ∀ w ∈ u_ws RX4 TX4 6, w ∈ gTb := fun w h => gTb_in (hiX4 w h) (hgX4 w h)
theorem hftX4 : ∀ k, k < 6 → defaultValue (tyX4 k) = if (ftL.getD 4 []).getD k 0 = 2 then .null else .int 0 := by decide +kernel
theorem hiX5 : ∀ w ∈ u_ws RX5 TX5 7, w ∈ lw_tbl := by decide +kernel
theorem hgX5 : ∀ w ∈ u_ws RX5 TX5 7, goodWord w = true := by decide +kernel
theorem hinX5 : ∀ w ∈ u_ws RX5 TX5 7, w ∈ gTb := fun w h => gTb_in (hiX5 w h) (hgX5 w h)
theorem hftX5 : ∀ k, k < 7 → defaultValue (tyX5 k) = if (ftL.getD 5 []).getD k 0 = 2 then .null else .int 0 := by decide +kernel
theorem hiX6 : ∀ w ∈ u_ws RX6 TX6 22, w ∈ lw_tbl := by decide +kernel
theorem hgX6 : ∀ w ∈ u_ws RX6 TX6 22, goodWord w = true := by decide +kernel
theorem hinX6 : ∀ w ∈ u_ws RX6 TX6 22, w ∈ gTb := fun w h => gTb_in (hiX6 w h) (hgX6 w h)
theorem hftX6 : ∀ k, k < 22 → defaultValue (tyX6 k) = if (ftL.getD 6 []).getD k 0 = 2 then .null else .int 0 := by decide +kernel
theorem cb_0 : CB 0 0 := ⟨by decide, w_78, w_4, ⟨by decide +kernel, by decide +kernel⟩, by decide +kernel, by decide +kernel, by decide +kernel⟩
theorem cb_1 : CB 1 1 := ⟨by decide, w_500, w_4, ⟨by decide +kernel, by decide +kernel⟩, by decide +kernel, by decide +kernel, by decide +kernel⟩
theorem cb_2 : CB 2 1 := ⟨by decide, w_521, w_4, ⟨by decide +kernel, by decide +kernel⟩, by decide +kernel, by decide +kernel, by decide +kernel⟩
theorem cb_3 : CB 3 1 := ⟨by decide, w_578, w_4, ⟨by decide +kernel, by decide +kernel⟩, by decide +kernel, by decide +kernel, by decide +kernel⟩
theorem cb_4 : CB 4 1 := ⟨by decide, w_590, w_4, ⟨by decide +kernel, by decide +kernel⟩, by decide +kernel, by decide +kernel, by decide +kernel⟩
theorem cb_5 : CB 5 6 := ⟨by decide, w_611, w_4, ⟨by decide +kernel, by decide +kernel⟩, by decide +kernel, by decide +kernel, by decide +kernel⟩
theorem cb_6 : CB 6 2 := ⟨by decide, w_583, w_4, ⟨by decide +kernel, by decide +kernel⟩, by decide +kernel, by decide +kernel, by decide +kernel⟩
theorem cb_7 : CB 7 0 := ⟨by decide, w_594, w_4, ⟨by decide +kernel, by decide +kernel⟩, by decide +kernel, by decide +kernel, by decide +kernel⟩
theorem cb_8 : CB 8 1 := ⟨by decide, w_597, w_4, ⟨by decide +kernel, by decide +kernel⟩, by decide +kernel, by decide +kernel, by decide +kernel⟩
theorem cb_9 : CB 9 0 := ⟨by decide, w_119, w_6, ⟨by decide +kernel, by decide +kernel⟩, by decide +kernel, by decide +kernel, by decide +kernel⟩
theorem cb_10 : CB 10 2 := ⟨by decide, w_637, w_6, ⟨by decide +kernel, by decide +kernel⟩, by decide +kernel, by decide +kernel, by decide +kernel⟩
theorem cb_11 : CB 11 2 := ⟨by decide, w_645, w_6, ⟨by decide +kernel, by decide +kernel⟩, by decide +kernel, by decide +kernel, by decide +kernel⟩
theorem cb_12 : CB 12 2 := ⟨by decide, w_654, w_6, ⟨by decide +kernel, by decide +kernel⟩, by decide +kernel, by decide +kernel, by decide +kernel⟩
theorem cb_13 : CB 13 0 := ⟨by decide, w_35, w_3, ⟨by decide +kernel, by decide +kernel⟩, by decide +kernel, by decide +kernel, by decide +kernel⟩
theorem cb_14 : CB 14 0 := ⟨by decide, w_180, w_3, ⟨by decide +kernel, by decide +kernel⟩, by decide +kernel, by decide +kernel, by decide +kernel⟩
theorem cb_15 : CB 15 1 := ⟨by decide, w_353, w_3, ⟨by decide +kernel, by decide +kernel⟩, by decide +kernel, by decide +kernel, by decide +kernel⟩
theorem cb_16 : CB 16 2 := ⟨by decide, w_236, w_3, ⟨by decide +kernel, by decide +kernel⟩, by decide +kernel, by decide +kernel, by decide +kernel⟩
theorem cb_17 : CB 17 2 := ⟨by decide, w_627, w_3, ⟨by decide +kernel, by decide +kernel⟩, by decide +kernel, by decide +kernel, by decide +kernel⟩
theorem cb_18 : CB 18 0 := ⟨by decide, w_212, w_3, ⟨by decide +kernel, by decide +kernel⟩, by decide +kernel, by decide +kernel, by decide +kernel⟩
theorem cb_19 : CB 19 0 := ⟨by decide, w_270, w_3, ⟨by decide +kernel, by decide +kernel⟩, by decide +kernel, by decide +kernel, by decide +kernel⟩
theorem cb_20 : CB 20 0 := ⟨by decide, w_200, w_3, ⟨by decide +kernel, by decide +kernel⟩, by decide +kernel, by decide +kernel, by decide +kernel⟩
theorem cb_21 : CB 21 0 := ⟨by decide, w_204, w_3, ⟨by decide +kernel, by decide +kernel⟩, by decide +kernel, by decide +kernel, by decide +kernel⟩
theorem cb_22 : CB 22 2 := ⟨by decide, w_220, w_3, ⟨by decide +kernel, by decide +kernel⟩, by decide +kernel, by decide +kernel, by decide +kernel⟩
theorem cb_23 : CB 23 0 := ⟨by decide, w_224, w_3, ⟨by decide +kernel, by decide +kernel⟩, by decide +kernel, by decide +kernel, by decide +kernel⟩
theorem cb_24 : CB 24 0 := ⟨by decide, w_316, w_3, ⟨by decide +kernel, by decide +kernel⟩, by decide +kernel, by decide +kernel, by decide +kernel⟩
theorem cb_25 : CB 25 0 := ⟨by decide, w_28, w_2, ⟨by decide +kernel, by decide +kernel⟩, by decide +kernel, by decide +kernel, by decide +kernel⟩
theorem cb_26 : CB 26 1 := ⟨by decide, w_349, w_2, ⟨by decide +kernel, by decide +kernel⟩, by decide +kernel, by decide +kernel, by decide +kernel⟩
theorem cb_27 : CB 27 1 := ⟨by decide, w_191, w_2, ⟨by decide +kernel, by decide +kernel⟩, by decide +kernel, by decide +kernel, by decide +kernel⟩
theorem cb_28 : CB 28 0 := ⟨by decide, w_171, w_2, ⟨by decide +kernel, by decide +kernel⟩, by decide +kernel, by decide +kernel, by decide +kernel⟩
theorem cb_29 : CB 29 2 := ⟨by decide, w_175, w_2, ⟨by decide +kernel, by decide +kernel⟩, by decide +kernel, by decide +kernel, by decide +kernel⟩
theorem cb_30 : CB 30 2 := ⟨by decide, w_195, w_2, ⟨by decide +kernel, by decide +kernel⟩, by decide +kernel, by decide +kernel, by decide +kernel⟩
theorem cb_31 : CB 31 3 := ⟨by decide, w_233, w_2, ⟨by decide +kernel, by decide +kernel⟩, by decide +kernel, by decide +kernel, by decide +kernel⟩
theorem cb_32 : CB 32 3 := ⟨by decide, w_245, w_2, ⟨by decide +kernel, by decide +kernel⟩, by decide +kernel, by decide +kernel, by decide +kernel⟩
theorem cb_33 : CB 33 1 := ⟨by decide, w_266, w_2, ⟨by decide +kernel, by decide +kernel⟩, by decide +kernel, by decide +kernel, by decide +kernel⟩
theorem cb_34 : CB 34 1 := ⟨by decide, w_413, w_2, ⟨by decide +kernel, by decide +kernel⟩, by decide +kernel, by decide +kernel, by decide +kernel⟩
theorem cb_35 : CB 35 0 := ⟨by decide, w_208, w_2, ⟨by decide +kernel, by decide +kernel⟩, by decide +kernel, by decide +kernel, by decide +kernel⟩
theorem cb_36 : CB 36 0 := ⟨by decide, w_329, w_2, ⟨by decide +kernel, by decide +kernel⟩, by decide +kernel, by decide +kernel, by decide +kernel⟩
theorem cb_37 : CB 37 0 := ⟨by decide, w_337, w_2, ⟨by decide +kernel, by decide +kernel⟩, by decide +kernel, by decide +kernel, by decide +kernel⟩
theorem cb_38 : CB 38 1 := ⟨by decide, w_253, w_2, ⟨by decide +kernel, by decide +kernel⟩, by decide +kernel, by decide +kernel, by decide +kernel⟩
theorem cb_39 : CB 39 2 := ⟨by decide, w_257, w_2, ⟨by decide +kernel, by decide +kernel⟩, by decide +kernel, by decide +kernel, by decide +kernel⟩
theorem cb_40 : CB 40 1 := ⟨by decide, w_333, w_2, ⟨by decide +kernel, by decide +kernel⟩, by decide +kernel, by decide +kernel, by decide +kernel⟩
theorem cb_41 : CB 41 0 := ⟨by decide, w_683, w_2, ⟨by decide +kernel, by decide +kernel⟩, by decide +kernel, by decide +kernel, by decide +kernel⟩
theorem cb_42 : CB 42 0 := ⟨by decide, w_462, w_2, ⟨by decide +kernel, by decide +kernel⟩, by decide +kernel, by decide +kernel, by decide +kernel⟩
theorem cb_43 : CB 43 0 := ⟨by decide, w_299, w_2, ⟨by decide +kernel, by decide +kernel⟩, by decide +kernel, by decide +kernel, by decide +kernel⟩
theorem cb_44 : CB 44 1 := ⟨by decide, w_282, w_2, ⟨by decide +kernel, by decide +kernel⟩, by decide +kernel, by decide +kernel, by decide +kernel⟩
theorem cb_45 : CB 45 0 := ⟨by decide, w_453, w_2, ⟨by decide +kernel, by decide +kernel⟩, by decide +kernel, by decide +kernel, by decide +kernel⟩
theorem cb_46 : CB 46 1 := ⟨by decide, w_287, w_2, ⟨by decide +kernel, by decide +kernel⟩, by decide +kernel, by decide +kernel, by decide +kernel⟩
theorem cb_47 : CB 47 0 := ⟨by decide, w_291, w_2, ⟨by decide +kernel, by decide +kernel⟩, by decide +kernel, by decide +kernel, by decide +kernel⟩
theorem cb_48 : CB 48 0 := ⟨by decide, w_295, w_2, ⟨by decide +kernel, by decide +kernel⟩, by decide +kernel, by decide +kernel, by decide +kernel⟩
theorem cb_49 : CB 49 2 := ⟨by decide, w_303, w_2, ⟨by decide +kernel, by decide +kernel⟩, by decide +kernel, by decide +kernel, by decide +kernel⟩
theorem cb_50 : CB 50 0 := ⟨by decide, w_308, w_2, ⟨by decide +kernel, by decide +kernel⟩, by decide +kernel, by decide +kernel, by decide +kernel⟩
theorem cb_51 : CB 51 2 := ⟨by decide, w_216, w_2, ⟨by decide +kernel, by decide +kernel⟩, by decide +kernel, by decide +kernel, by decide +kernel⟩
theorem cb_52 : CB 52 0 := ⟨by decide, w_312, w_2, ⟨by decide +kernel, by decide +kernel⟩, by decide +kernel, by decide +kernel, by decide +kernel⟩
theorem cb_53 : CB 53 0 := ⟨by decide, w_84, w_5, ⟨by decide +kernel, by decide +kernel⟩, by decide +kernel, by decide +kernel, by decide +kernel⟩
theorem cb_54 : CB 54 1 := ⟨by decide, w_483, w_5, ⟨by decide +kernel, by decide +kernel⟩, by decide +kernel, by decide +kernel, by decide +kernel⟩
theorem cb_55 : CB 55 1 := ⟨by decide, w_487, w_5, ⟨by decide +kernel, by decide +kernel⟩, by decide +kernel, by decide +kernel, by decide +kernel⟩
theorem cb_56 : CB 56 0 := ⟨by decide, w_504, w_5, ⟨by decide +kernel, by decide +kernel⟩, by decide +kernel, by decide +kernel, by decide +kernel⟩
theorem cb_57 : CB 57 0 := ⟨by decide, w_508, w_5, ⟨by decide +kernel, by decide +kernel⟩, by decide +kernel, by decide +kernel, by decide +kernel⟩
theorem cb_58 : CB 58 0 := ⟨by decide, w_516, w_5, ⟨by decide +kernel, by decide +kernel⟩, by decide +kernel, by decide +kernel, by decide +kernel⟩
theorem cb_59 : CB 59 1 := ⟨by decide, w_512, w_5, ⟨by decide +kernel, by decide +kernel⟩, by decide +kernel, by decide +kernel, by decide +kernel⟩
theorem cb_60 : CB 60 1 := ⟨by decide, w_526, w_5, ⟨by decide +kernel, by decide +kernel⟩, by decide +kernel, by decide +kernel, by decide +kernel⟩
theorem cb_61 : CB 61 0 := ⟨by decide, w_20, w_1, ⟨by decide +kernel, by decide +kernel⟩, by decide +kernel, by decide +kernel, by decide +kernel⟩
theorem cb_62 : CB 62 2 := ⟨by decide, w_159, w_1, ⟨by decide +kernel, by decide +kernel⟩, by decide +kernel, by decide +kernel, by decide +kernel⟩
theorem cb_63 : CB 63 2 := ⟨by decide, w_187, w_1, ⟨by decide +kernel, by decide +kernel⟩, by decide +kernel, by decide +kernel, by decide +kernel⟩
theorem cb_64 : CB 64 3 := ⟨by decide, w_229, w_1, ⟨by decide +kernel, by decide +kernel⟩, by decide +kernel, by decide +kernel, by decide +kernel⟩
theorem cb_65 : CB 65 1 := ⟨by decide, w_249, w_1, ⟨by decide +kernel, by decide +kernel⟩, by decide +kernel, by decide +kernel, by decide +kernel⟩
theorem cb_66 : CB 66 1 := ⟨by decide, w_262, w_1, ⟨by decide +kernel, by decide +kernel⟩, by decide +kernel, by decide +kernel, by decide +kernel⟩
theorem cb_67 : CB 67 1 := ⟨by decide, w_278, w_1, ⟨by decide +kernel, by decide +kernel⟩, by decide +kernel, by decide +kernel, by decide +kernel⟩
theorem cb_68 : CB 68 1 := ⟨by decide, w_325, w_1, ⟨by decide +kernel, by decide +kernel⟩, by decide +kernel, by decide +kernel, by decide +kernel⟩
theorem cb_69 : CB 69 3 := ⟨by decide, w_342, w_1, ⟨by decide +kernel, by decide +kernel⟩, by decide +kernel, by decide +kernel, by decide +kernel⟩
theorem cb_70 : CB 70 1 := ⟨by decide, w_358, w_1, ⟨by decide +kernel, by decide +kernel⟩, by decide +kernel, by decide +kernel, by decide +kernel⟩
theorem cb_71 : CB 71 2 := ⟨by decide, w_366, w_1, ⟨by decide +kernel, by decide +kernel⟩, by decide +kernel, by decide +kernel, by decide +kernel⟩
theorem cb_72 : CB 72 1 := ⟨by decide, w_370, w_1, ⟨by decide +kernel, by decide +kernel⟩, by decide +kernel, by decide +kernel, by decide +kernel⟩
theorem cb_73 : CB 73 2 := ⟨by decide, w_375, w_1, ⟨by decide +kernel, by decide +kernel⟩, by decide +kernel, by decide +kernel, by decide +kernel⟩
theorem cb_74 : CB 74 2 := ⟨by decide, w_379, w_1, ⟨by decide +kernel, by decide +kernel⟩, by decide +kernel, by decide +kernel, by decide +kernel⟩
theorem cb_75 : CB 75 2 := ⟨by decide, w_387, w_1, ⟨by decide +kernel, by decide +kernel⟩, by decide +kernel, by decide +kernel, by decide +kernel⟩
theorem cb_76 : CB 76 2 := ⟨by decide, w_391, w_1, ⟨by decide +kernel, by decide +kernel⟩, by decide +kernel, by decide +kernel, by decide +kernel⟩
theorem cb_77 : CB 77 2 := ⟨by decide, w_395, w_1, ⟨by decide +kernel, by decide +kernel⟩, by decide +kernel, by decide +kernel, by decide +kernel⟩
theorem cb_78 : CB 78 1 := ⟨by decide, w_399, w_1, ⟨by decide +kernel, by decide +kernel⟩, by decide +kernel, by decide +kernel, by decide +kernel⟩
theorem cb_79 : CB 79 1 := ⟨by decide, w_417, w_1, ⟨by decide +kernel, by decide +kernel⟩, by decide +kernel, by decide +kernel, by decide +kernel⟩
theorem cb_80 : CB 80 2 := ⟨by decide, w_422, w_1, ⟨by decide +kernel, by decide +kernel⟩, by decide +kernel, by decide +kernel, by decide +kernel⟩
theorem cb_81 : CB 81 2 := ⟨by decide, w_441, w_1, ⟨by decide +kernel, by decide +kernel⟩, by decide +kernel, by decide +kernel, by decide +kernel⟩
theorem cb_82 : CB 82 2 := ⟨by decide, w_445, w_1, ⟨by decide +kernel, by decide +kernel⟩, by decide +kernel, by decide +kernel, by decide +kernel⟩
theorem cb_83 : CB 83 1 := ⟨by decide, w_449, w_1, ⟨by decide +kernel, by decide +kernel⟩, by decide +kernel, by decide +kernel, by decide +kernel⟩
theorem cb_84 : CB 84 2 := ⟨by decide, w_458, w_1, ⟨by decide +kernel, by decide +kernel⟩, by decide +kernel, by decide +kernel, by decide +kernel⟩
theorem cb_85 : CB 85 1 := ⟨by decide, w_475, w_1, ⟨by decide +kernel, by decide +kernel⟩, by decide +kernel, by decide +kernel, by decide +kernel⟩
theorem cb_86 : CB 86 2 := ⟨by decide, w_479, w_1, ⟨by decide +kernel, by decide +kernel⟩, by decide +kernel, by decide +kernel, by decide +kernel⟩
theorem cb_87 : CB 87 0 := ⟨by decide, w_492, w_1, ⟨by decide +kernel, by decide +kernel⟩, by decide +kernel, by decide +kernel, by decide +kernel⟩
theorem cb_88 : CB 88 0 := ⟨by decide, w_496, w_1, ⟨by decide +kernel, by decide +kernel⟩, by decide +kernel, by decide +kernel, by decide +kernel⟩
theorem cb_89 : CB 89 2 := ⟨by decide, w_620, w_1, ⟨by decide +kernel, by decide +kernel⟩, by decide +kernel, by decide +kernel, by decide +kernel⟩
theorem cb_90 : CB 90 2 := ⟨by decide, w_624, w_1, ⟨by decide +kernel, by decide +kernel⟩, by decide +kernel, by decide +kernel, by decide +kernel⟩
theorem cb_91 : CB 91 3 := ⟨by decide, w_633, w_1, ⟨by decide +kernel, by decide +kernel⟩, by decide +kernel, by decide +kernel, by decide +kernel⟩
theorem cb_92 : CB 92 3 := ⟨by decide, w_641, w_1, ⟨by decide +kernel, by decide +kernel⟩, by decide +kernel, by decide +kernel, by decide +kernel⟩
theorem cb_93 : CB 93 5 := ⟨by decide, w_650, w_1, ⟨by decide +kernel, by decide +kernel⟩, by decide +kernel, by decide +kernel, by decide +kernel⟩
theorem cb_94 : CB 94 1 := ⟨by decide, w_659, w_1, ⟨by decide +kernel, by decide +kernel⟩, by decide +kernel, by decide +kernel, by decide +kernel⟩
theorem cb_95 : CB 95 1 := ⟨by decide, w_663, w_1, ⟨by decide +kernel, by decide +kernel⟩, by decide +kernel, by decide +kernel, by decide +kernel⟩
theorem cb_96 : CB 96 0 := ⟨by decide, w_667, w_1, ⟨by decide +kernel, by decide +kernel⟩, by decide +kernel, by decide +kernel, by decide +kernel⟩
theorem cb_97 : CB 97 0 := ⟨by decide, w_671, w_1, ⟨by decide +kernel, by decide +kernel⟩, by decide +kernel, by decide +kernel, by decide +kernel⟩
theorem cb_98 : CB 98 0 := ⟨by decide, w_675, w_1, ⟨by decide +kernel, by decide +kernel⟩, by decide +kernel, by decide +kernel, by decide +kernel⟩
theorem cb_99 : CB 99 1 := ⟨by decide, w_679, w_1, ⟨by decide +kernel, by decide +kernel⟩, by decide +kernel, by decide +kernel, by decide +kernel⟩
theorem cb_100 : CB 100 1 := ⟨by decide, w_687, w_1, ⟨by decide +kernel, by decide +kernel⟩, by decide +kernel, by decide +kernel, by decide +kernel⟩
theorem cb_101 : CB 101 1 := ⟨by decide, w_166, w_1, ⟨by decide +kernel, by decide +kernel⟩, by decide +kernel, by decide +kernel, by decide +kernel⟩
theorem cb_102 : CB 102 3 := ⟨by decide, w_162, w_1, ⟨by decide +kernel, by decide +kernel⟩, by decide +kernel, by decide +kernel, by decide +kernel⟩
theorem cb_103 : CB 103 1 := ⟨by decide, w_345, w_1, ⟨by decide +kernel, by decide +kernel⟩, by decide +kernel, by decide +kernel, by decide +kernel⟩
theorem cb_104 : CB 104 1 := ⟨by decide, w_362, w_1, ⟨by decide +kernel, by decide +kernel⟩, by decide +kernel, by decide +kernel, by decide +kernel⟩
theorem cb_105 : CB 105 4 := ⟨by decide, w_383, w_1, ⟨by decide +kernel, by decide +kernel⟩, by decide +kernel, by decide +kernel, by decide +kernel⟩
theorem cb_106 : CB 106 2 := ⟨by decide, w_409, w_1, ⟨by decide +kernel, by decide +kernel⟩, by decide +kernel, by decide +kernel, by decide +kernel⟩
theorem cb_107 : CB 107 4 := ⟨by decide, w_437, w_1, ⟨by decide +kernel, by decide +kernel⟩, by decide +kernel, by decide +kernel, by decide +kernel⟩
theorem cb_108 : CB 108 1 := ⟨by decide, w_433, w_1, ⟨by decide +kernel, by decide +kernel⟩, by decide +kernel, by decide +kernel, by decide +kernel⟩
theorem cb_109 : CB 109 1 := ⟨by decide, w_430, w_1, ⟨by decide +kernel, by decide +kernel⟩, by decide +kernel, by decide +kernel, by decide +kernel⟩
theorem cb_110 : CB 110 2 := ⟨by decide, w_426, w_1, ⟨by decide +kernel, by decide +kernel⟩, by decide +kernel, by decide +kernel, by decide +kernel⟩
theorem cb_111 : CB 111 1 := ⟨by decide, w_471, w_1, ⟨by decide +kernel, by decide +kernel⟩, by decide +kernel, by decide +kernel, by decide +kernel⟩
theorem cb_112 : CB 112 0 := ⟨by decide, w_692, w_7, ⟨by decide +kernel, by decide +kernel⟩, by decide +kernel, by decide +kernel, by decide +kernel⟩
theorem cb_113 : CB 113 1 := ⟨by decide, w_787, w_7, ⟨by decide +kernel, by decide +kernel⟩, by decide +kernel, by decide +kernel, by decide +kernel⟩
theorem cb_114 : CB 114 3 := ⟨by decide, w_779, w_7, ⟨by decide +kernel, by decide +kernel⟩, by decide +kernel, by decide +kernel, by decide +kernel⟩
theorem cb_115 : CB 115 2 := ⟨by decide, w_851, w_7, ⟨by decide +kernel, by decide +kernel⟩, by decide +kernel, by decide +kernel, by decide +kernel⟩
theorem cb_116 : CB 116 2 := ⟨by decide, w_926, w_7, ⟨by decide +kernel, by decide +kernel⟩, by decide +kernel, by decide +kernel, by decide +kernel⟩
theorem cb_117 : CB 117 1 := ⟨by decide, w_930, w_7, ⟨by decide +kernel, by decide +kernel⟩, by decide +kernel, by decide +kernel, by decide +kernel⟩
theorem cb_118 : CB 118 1 := ⟨by decide, w_942, w_7, ⟨by decide +kernel, by decide +kernel⟩, by decide +kernel, by decide +kernel, by decide +kernel⟩
theorem cb_119 : CB 119 1 := ⟨by decide, w_997, w_7, ⟨by decide +kernel, by decide +kernel⟩, by decide +kernel, by decide +kernel, by decide +kernel⟩
theorem cb_120 : CB 120 1 := ⟨by decide, w_782, w_7, ⟨by decide +kernel, by decide +kernel⟩, by decide +kernel, by decide +kernel, by decide +kernel⟩
theorem cb_121 : CB 121 2 := ⟨by decide, w_795, w_7, ⟨by decide +kernel, by decide +kernel⟩, by decide +kernel, by decide +kernel, by decide +kernel⟩
theorem cb_122 : CB 122 2 := ⟨by decide, w_815, w_7, ⟨by decide +kernel, by decide +kernel⟩, by decide +kernel, by decide +kernel, by decide +kernel⟩
theorem cb_123 : CB 123 1 := ⟨by decide, w_803, w_7, ⟨by decide +kernel, by decide +kernel⟩, by decide +kernel, by decide +kernel, by decide +kernel⟩
theorem cb_124 : CB 124 1 := ⟨by decide, w_776, w_7, ⟨by decide +kernel, by decide +kernel⟩, by decide +kernel, by decide +kernel, by decide +kernel⟩
theorem cb_125 : CB 125 2 := ⟨by decide, w_792, w_7, ⟨by decide +kernel, by decide +kernel⟩, by decide +kernel, by decide +kernel, by decide +kernel⟩
theorem cb_126 : CB 126 2 := ⟨by decide, w_773, w_7, ⟨by decide +kernel, by decide +kernel⟩, by decide +kernel, by decide +kernel, by decide +kernel⟩
theorem cb_127 : CB 127 1 := ⟨by decide, w_827, w_7, ⟨by decide +kernel, by decide +kernel⟩, by decide +kernel, by decide +kernel, by decide +kernel⟩
theorem cb_128 : CB 128 1 := ⟨by decide, w_835, w_7, ⟨by decide +kernel, by decide +kernel⟩, by decide +kernel, by decide +kernel, by decide +kernel⟩
theorem cb_129 : CB 129 1 := ⟨by decide, w_811, w_7, ⟨by decide +kernel, by decide +kernel⟩, by decide +kernel, by decide +kernel, by decide +kernel⟩
theorem cb_130 : CB 130 1 := ⟨by decide, w_819, w_7, ⟨by decide +kernel, by decide +kernel⟩, by decide +kernel, by decide +kernel, by decide +kernel⟩
theorem cb_131 : CB 131 1 := ⟨by decide, w_831, w_7, ⟨by decide +kernel, by decide +kernel⟩, by decide +kernel, by decide +kernel, by decide +kernel⟩
theorem cb_132 : CB 132 1 := ⟨by decide, w_823, w_7, ⟨by decide +kernel, by decide +kernel⟩, by decide +kernel, by decide +kernel, by decide +kernel⟩
theorem cb_133 : CB 133 1 := ⟨by decide, w_839, w_7, ⟨by decide +kernel, by decide +kernel⟩, by decide +kernel, by decide +kernel, by decide +kernel⟩
theorem cb_134 : CB 134 2 := ⟨by decide, w_807, w_7, ⟨by decide +kernel, by decide +kernel⟩, by decide +kernel, by decide +kernel, by decide +kernel⟩
theorem cb_135 : CB 135 2 := ⟨by decide, w_799, w_7, ⟨by decide +kernel, by decide +kernel⟩, by decide +kernel, by decide +kernel, by decide +kernel⟩
theorem cb_136 : CB 136 3 := ⟨by decide, w_847, w_7, ⟨by decide +kernel, by decide +kernel⟩, by decide +kernel, by decide +kernel, by decide +kernel⟩
theorem cb_137 : CB 137 3 := ⟨by decide, w_843, w_7, ⟨by decide +kernel, by decide +kernel⟩, by decide +kernel, by decide +kernel, by decide +kernel⟩
theorem cb_138 : CB 138 1 := ⟨by decide, w_855, w_7, ⟨by decide +kernel, by decide +kernel⟩, by decide +kernel, by decide +kernel, by decide +kernel⟩
theorem cb_139 : CB 139 1 := ⟨by decide, w_864, w_7, ⟨by decide +kernel, by decide +kernel⟩, by decide +kernel, by decide +kernel, by decide +kernel⟩
theorem cb_140 : CB 140 1 := ⟨by decide, w_859, w_7, ⟨by decide +kernel, by decide +kernel⟩, by decide +kernel, by decide +kernel, by decide +kernel⟩
theorem cb_141 : CB 141 3 := ⟨by decide, w_894, w_7, ⟨by decide +kernel, by decide +kernel⟩, by decide +kernel, by decide +kernel, by decide +kernel⟩
theorem cb_142 : CB 142 0 := ⟨by decide, w_882, w_7, ⟨by decide +kernel, by decide +kernel⟩, by decide +kernel, by decide +kernel, by decide +kernel⟩
theorem cb_143 : CB 143 2 := ⟨by decide, w_886, w_7, ⟨by decide +kernel, by decide +kernel⟩, by decide +kernel, by decide +kernel, by decide +kernel⟩
theorem cb_144 : CB 144 0 := ⟨by decide, w_890, w_7, ⟨by decide +kernel, by decide +kernel⟩, by decide +kernel, by decide +kernel, by decide +kernel⟩
theorem cb_145 : CB 145 1 := ⟨by decide, w_898, w_7, ⟨by decide +kernel, by decide +kernel⟩, by decide +kernel, by decide +kernel, by decide +kernel⟩
theorem cb_146 : CB 146 0 := ⟨by decide, w_878, w_7, ⟨by decide +kernel, by decide +kernel⟩, by decide +kernel, by decide +kernel, by decide +kernel⟩
theorem cb_147 : CB 147 1 := ⟨by decide, w_874, w_7, ⟨by decide +kernel, by decide +kernel⟩, by decide +kernel, by decide +kernel, by decide +kernel⟩
theorem cb_148 : CB 148 0 := ⟨by decide, w_903, w_7, ⟨by decide +kernel, by decide +kernel⟩, by decide +kernel, by decide +kernel, by decide +kernel⟩
theorem cb_149 : CB 149 1 := ⟨by decide, w_869, w_7, ⟨by decide +kernel, by decide +kernel⟩, by decide +kernel, by decide +kernel, by decide +kernel⟩
theorem cb_150 : CB 150 0 := ⟨by decide, w_911, w_7, ⟨by decide +kernel, by decide +kernel⟩, by decide +kernel, by decide +kernel, by decide +kernel⟩
theorem cb_151 : CB 151 0 := ⟨by decide, w_919, w_7, ⟨by decide +kernel, by decide +kernel⟩, by decide +kernel, by decide +kernel, by decide +kernel⟩
theorem cb_152 : CB 152 1 := ⟨by decide, w_915, w_7, ⟨by decide +kernel, by decide +kernel⟩, by decide +kernel, by decide +kernel, by decide +kernel⟩
theorem cb_153 : CB 153 1 := ⟨by decide, w_907, w_7, ⟨by decide +kernel, by decide +kernel⟩, by decide +kernel, by decide +kernel, by decide +kernel⟩
theorem cb_154 : CB 154 2 := ⟨by decide, w_978, w_7, ⟨by decide +kernel, by decide +kernel⟩, by decide +kernel, by decide +kernel, by decide +kernel⟩
theorem cb_155 : CB 155 1 := ⟨by decide, w_974, w_7, ⟨by decide +kernel, by decide +kernel⟩, by decide +kernel, by decide +kernel, by decide +kernel⟩
theorem cb_156 : CB 156 3 := ⟨by decide, w_923, w_7, ⟨by decide +kernel, by decide +kernel⟩, by decide +kernel, by decide +kernel, by decide +kernel⟩
theorem cb_157 : CB 157 2 := ⟨by decide, w_938, w_7, ⟨by decide +kernel, by decide +kernel⟩, by decide +kernel, by decide +kernel, by decide +kernel⟩
theorem cb_158 : CB 158 1 := ⟨by decide, w_934, w_7, ⟨by decide +kernel, by decide +kernel⟩, by decide +kernel, by decide +kernel, by decide +kernel⟩
theorem cb_159 : CB 159 2 := ⟨by decide, w_947, w_7, ⟨by decide +kernel, by decide +kernel⟩, by decide +kernel, by decide +kernel, by decide +kernel⟩
theorem cb_160 : CB 160 2 := ⟨by decide, w_955, w_7, ⟨by decide +kernel, by decide +kernel⟩, by decide +kernel, by decide +kernel, by decide +kernel⟩
theorem cb_161 : CB 161 1 := ⟨by decide, w_951, w_7, ⟨by decide +kernel, by decide +kernel⟩, by decide +kernel, by decide +kernel, by decide +kernel⟩
theorem cb_162 : CB 162 2 := ⟨by decide, w_959, w_7, ⟨by decide +kernel, by decide +kernel⟩, by decide +kernel, by decide +kernel, by decide +kernel⟩
theorem cb_163 : CB 163 1 := ⟨by decide, w_966, w_7, ⟨by decide +kernel, by decide +kernel⟩, by decide +kernel, by decide +kernel, by decide +kernel⟩
theorem cb_164 : CB 164 5 := ⟨by decide, w_970, w_7, ⟨by decide +kernel, by decide +kernel⟩, by decide +kernel, by decide +kernel, by decide +kernel⟩
theorem cb_165 : CB 165 2 := ⟨by decide, w_963, w_7, ⟨by decide +kernel, by decide +kernel⟩, by decide +kernel, by decide +kernel, by decide +kernel⟩
theorem cb_166 : CB 166 2 := ⟨by decide, w_982, w_7, ⟨by decide +kernel, by decide +kernel⟩, by decide +kernel, by decide +kernel, by decide +kernel⟩
theorem cb_167 : CB 167 2 := ⟨by decide, w_986, w_7, ⟨by decide +kernel, by decide +kernel⟩, by decide +kernel, by decide +kernel, by decide +kernel⟩
theorem cb_168 : CB 168 2 := ⟨by decide, w_990, w_7, ⟨by decide +kernel, by decide +kernel⟩, by decide +kernel, by decide +kernel, by decide +kernel⟩
theorem cb_169 : CB 169 2 := ⟨by decide, w_1001, w_7, ⟨by decide +kernel, by decide +kernel⟩, by decide +kernel, by decide +kernel, by decide +kernel⟩
theorem cb_170 : CB 170 1 := ⟨by decide, w_994, w_7, ⟨by decide +kernel, by decide +kernel⟩, by decide +kernel, by decide +kernel, by decide +kernel⟩
theorem cb_171 : CB 171 1 := ⟨by decide, w_1005, w_7, ⟨by decide +kernel, by decide +kernel⟩, by decide +kernel, by decide +kernel, by decide +kernel⟩
theorem cb_172 : CB 172 2 := ⟨by decide, w_1013, w_7, ⟨by decide +kernel, by decide +kernel⟩, by decide +kernel, by decide +kernel, by decide +kernel⟩
theorem cb_173 : CB 173 2 := ⟨by decide, w_1025, w_7, ⟨by decide +kernel, by decide +kernel⟩, by decide +kernel, by decide +kernel, by decide +kernel⟩
theorem cb_174 : CB 174 4 := ⟨by decide, w_1021, w_7, ⟨by decide +kernel, by decide +kernel⟩, by decide +kernel, by decide +kernel, by decide +kernel⟩
theorem cb_175 : CB 175 2 := ⟨by decide, w_1009, w_7, ⟨by decide +kernel, by decide +kernel⟩, by decide +kernel, by decide +kernel, by decide +kernel⟩
theorem cb_176 : CB 176 2 := ⟨by decide, w_1029, w_7, ⟨by decide +kernel, by decide +kernel⟩, by decide +kernel, by decide +kernel, by decide +kernel⟩
theorem cb_177 : CB 177 2 := ⟨by decide, w_1034, w_7, ⟨by decide +kernel, by decide +kernel⟩, by decide +kernel, by decide +kernel, by decide +kernel⟩
theorem cb_178 : CB 178 0 := ⟨by decide, w_1042, w_7, ⟨by decide +kernel, by decide +kernel⟩, by decide +kernel, by decide +kernel, by decide +kernel⟩
theorem cb_179 : CB 179 1 := ⟨by decide, w_1038, w_7, ⟨by decide +kernel, by decide +kernel⟩, by decide +kernel, by decide +kernel, by decide +kernel⟩
theorem cb_180 : CB 180 0 := ⟨by decide, w_1051, w_7, ⟨by decide +kernel, by decide +kernel⟩, by decide +kernel, by decide +kernel, by decide +kernel⟩
theorem cb_181 : CB 181 2 := ⟨by decide, w_1047, w_7, ⟨by decide +kernel, by decide +kernel⟩, by decide +kernel, by decide +kernel, by decide +kernel⟩
theorem cb_182 : CB 182 1 := ⟨by decide, w_1055, w_7, ⟨by decide +kernel, by decide +kernel⟩, by decide +kernel, by decide +kernel, by decide +kernel⟩
theorem cb_183 : CB 183 2 := ⟨by decide, w_1059, w_7, ⟨by decide +kernel, by decide +kernel⟩, by decide +kernel, by decide +kernel, by decide +kernel⟩
theorem cb_184 : CB 184 0 := ⟨by decide, w_1063, w_7, ⟨by decide +kernel, by decide +kernel⟩, by decide +kernel, by decide +kernel, by decide +kernel⟩
theorem cb_185 : CB 185 1 := ⟨by decide, w_1075, w_7, ⟨by decide +kernel, by decide +kernel⟩, by decide +kernel, by decide +kernel, by decide +kernel⟩
theorem cb_186 : CB 186 0 := ⟨by decide, w_1071, w_7, ⟨by decide +kernel, by decide +kernel⟩, by decide +kernel, by decide +kernel, by decide +kernel⟩
theorem cb_187 : CB 187 1 := ⟨by decide, w_1083, w_7, ⟨by decide +kernel, by decide +kernel⟩, by decide +kernel, by decide +kernel, by decide +kernel⟩
theorem cb_188 : CB 188 1 := ⟨by decide, w_1093, w_7, ⟨by decide +kernel, by decide +kernel⟩, by decide +kernel, by decide +kernel, by decide +kernel⟩
theorem cb_189 : CB 189 2 := ⟨by decide, w_1102, w_7, ⟨by decide +kernel, by decide +kernel⟩, by decide +kernel, by decide +kernel, by decide +kernel⟩
theorem cb_190 : CB 190 6 := ⟨by decide, w_1110, w_7, ⟨by decide +kernel, by decide +kernel⟩, by decide +kernel, by decide +kernel, by decide +kernel⟩
theorem cb_191 : CB 191 1 := ⟨by decide, w_1098, w_7, ⟨by decide +kernel, by decide +kernel⟩, by decide +kernel, by decide +kernel, by decide +kernel⟩
theorem cb_192 : CB 192 1 := ⟨by decide, w_1089, w_7, ⟨by decide +kernel, by decide +kernel⟩, by decide +kernel, by decide +kernel, by decide +kernel⟩
theorem cb_193 : CB 193 0 := ⟨by decide, w_1079, w_7, ⟨by decide +kernel, by decide +kernel⟩, by decide +kernel, by decide +kernel, by decide +kernel⟩
theorem cb_194 : CB 194 1 := ⟨by decide, w_1116, w_7, ⟨by decide +kernel, by decide +kernel⟩, by decide +kernel, by decide +kernel, by decide +kernel⟩
theorem cb_195 : CB 195 0 := ⟨by decide, w_1067, w_7, ⟨by decide +kernel, by decide +kernel⟩, by decide +kernel, by decide +kernel, by decide +kernel⟩
theorem cb_196 : CB 196 1 := ⟨by decide, w_1123, w_7, ⟨by decide +kernel, by decide +kernel⟩, by decide +kernel, by decide +kernel, by decide +kernel⟩
theorem cb_197 : CB 197 2 := ⟨by decide, w_1120, w_7, ⟨by decide +kernel, by decide +kernel⟩, by decide +kernel, by decide +kernel, by decide +kernel⟩
theorem cb_198 : CB 198 2 := ⟨by decide, w_1127, w_7, ⟨by decide +kernel, by decide +kernel⟩, by decide +kernel, by decide +kernel, by decide +kernel⟩
theorem cb_199 : CB 199 1 := ⟨by decide, w_1016, w_7, ⟨by decide +kernel, by decide +kernel⟩, by decide +kernel, by decide +kernel, by decide +kernel⟩
theorem cb_200 : CB 200 2 := ⟨by decide, w_1146, w_7, ⟨by decide +kernel, by decide +kernel⟩, by decide +kernel, by decide +kernel, by decide +kernel⟩
theorem cb_201 : CB 201 3 := ⟨by decide, w_1138, w_7, ⟨by decide +kernel, by decide +kernel⟩, by decide +kernel, by decide +kernel, by decide +kernel⟩
theorem cb_202 : CB 202 3 := ⟨by decide, w_1143, w_7, ⟨by decide +kernel, by decide +kernel⟩, by decide +kernel, by decide +kernel, by decide +kernel⟩
theorem cb_203 : CB 203 5 := ⟨by decide, w_1150, w_7, ⟨by decide +kernel, by decide +kernel⟩, by decide +kernel, by decide +kernel, by decide +kernel⟩
theorem cb_204 : CB 204 1 := ⟨by decide, w_1133, w_7, ⟨by decide +kernel, by decide +kernel⟩, by decide +kernel, by decide +kernel, by decide +kernel⟩
theorem cb_205 : CB 205 2 := ⟨by decide, w_1130, w_7, ⟨by decide +kernel, by decide +kernel⟩, by decide +kernel, by decide +kernel, by decide +kernel⟩
theorem cb_206 : CB 206 1 := ⟨by decide, w_1154, w_7, ⟨by decide +kernel, by decide +kernel⟩, by decide +kernel, by decide +kernel, by decide +kernel⟩
theorem cb_207 : CB 207 1 := ⟨by decide, w_1158, w_7, ⟨by decide +kernel, by decide +kernel⟩, by decide +kernel, by decide +kernel, by decide +kernel⟩
theorem cb_208 : CB 208 0 := ⟨by decide, w_1162, w_7, ⟨by decide +kernel, by decide +kernel⟩, by decide +kernel, by decide +kernel, by decide +kernel⟩
theorem cb_209 : CB 209 0 := ⟨by decide, w_1166, w_7, ⟨by decide +kernel, by decide +kernel⟩, by decide +kernel, by decide +kernel, by decide +kernel⟩
theorem cb_210 : CB 210 0 := ⟨by decide, w_1170, w_7, ⟨by decide +kernel, by decide +kernel⟩, by decide +kernel, by decide +kernel, by decide +kernel⟩
theorem cb_211 : CB 211 1 := ⟨by decide, w_1174, w_7, ⟨by decide +kernel, by decide +kernel⟩, by decide +kernel, by decide +kernel, by decide +kernel⟩
theorem cb_212 : CB 212 1 := ⟨by decide, w_1178, w_7, ⟨by decide +kernel, by decide +kernel⟩, by decide +kernel, by decide +kernel, by decide +kernel⟩
theorem cb_213 : CB 213 1 := ⟨by decide, w_402, w_10, ⟨by decide +kernel, by decide +kernel⟩, by decide +kernel, by decide +kernel, by decide +kernel⟩
theorem cb_214 : CB 214 1 := ⟨by decide, w_465, w_11, ⟨by decide +kernel, by decide +kernel⟩, by decide +kernel, by decide +kernel, by decide +kernel⟩
theorem cb_215 : CB 215 0 := ⟨by decide, w_530, w_12, ⟨by decide +kernel, by decide +kernel⟩, by decide +kernel, by decide +kernel, by decide +kernel⟩
theorem cb_216 : CB 216 1 := ⟨by decide, w_540, w_12, ⟨by decide +kernel, by decide +kernel⟩, by decide +kernel, by decide +kernel, by decide +kernel⟩
theorem cb_217 : CB 217 0 := ⟨by decide, w_534, w_12, ⟨by decide +kernel, by decide +kernel⟩, by decide +kernel, by decide +kernel, by decide +kernel⟩
theorem cb_218 : CB 218 0 := ⟨by decide, w_544, w_12, ⟨by decide +kernel, by decide +kernel⟩, by decide +kernel, by decide +kernel, by decide +kernel⟩
theorem cb_219 : CB 219 2 := ⟨by decide, w_550, w_12, ⟨by decide +kernel, by decide +kernel⟩, by decide +kernel, by decide +kernel, by decide +kernel⟩
theorem cb_220 : CB 220 2 := ⟨by decide, w_547, w_13, ⟨by decide +kernel, by decide +kernel⟩, by decide +kernel, by decide +kernel, by decide +kernel⟩
theorem cb_221 : CB 221 3 := ⟨by decide, w_555, w_14, ⟨by decide +kernel, by decide +kernel⟩, by decide +kernel, by decide +kernel, by decide +kernel⟩
/-! what each row leaves of the cells' number -/
theorem rwC {X : aX} {cc : ByteArray} {own : String} {nL : Nat} {rt : Option FieldType} {mn : String} {hh pc : Nat} {f : cT} (h1 : MoC f) (h2 : SdC X cc own nL rt mn hh pc f) : SdT X cc own nL rt mn hh pc (.inl f) := ⟨h1, h2⟩
theorem rwK {X : aX} {cc : ByteArray} {own : String} {nL : Nat} {rt : Option FieldType} {mn : String} {hh pc : Nat} {k : kT} (h : SdK X cc own nL rt mn hh pc k) : SdT X cc own nL rt mn hh pc (.inr (.inl k)) := h
theorem rwR {X : aX} {cc : ByteArray} {own : String} {nL : Nat} {rt : Option FieldType} {mn : String} {hh pc : Nat} {g : rT} (h1 : ∀ st M v M', g st M = some (v, M') → M' = M) (h2 : SdR X cc own nL rt mn hh pc g) : SdT X cc own nL rt mn hh pc (.inr (.inr g)) := ⟨h1, h2⟩
theorem mo_no : MoC i_no := fun _ _ _ _ h => by cases h
theorem sc_no {X : aX} {cc : ByteArray} {own : String} {nL : Nat} {rt : Option FieldType} {mn : String} {hh pc : Nat} : SdC X cc own nL rt mn hh pc i_no := by
  intro G n0 p l e R s m args below meth c Q C la st M pc' la' st' M' h
  cases h
theorem lk_sd {X : aX} {cc : ByteArray} {own : String} {nL : Nat} {rt : Option FieldType} {mn : String} {hh : Nat} : ∀ {tb : List (Nat × aT)}, (∀ q ∈ tb, SdT X cc own nL rt mn hh q.1 q.2) → ∀ pc, SdT X cc own nL rt mn hh pc (lk pc tb)
  | [], _, pc => rwC mo_no sc_no
  | q :: r, h, pc => by
    show SdT X cc own nL rt mn hh pc (if q.1 = pc then q.2 else lk pc r)
    by_cases hq : q.1 = pc
    · rw [if_pos hq, ← hq]
      exact h q List.mem_cons_self
    · rw [if_neg hq]
      exact lk_sd (fun z hz => h z (List.mem_cons_of_mem _ hz)) pc
theorem mo_k {M : aM} : M.1 ≤ M.1 ∧ M.1 ≤ max 84 M.1 := ⟨Nat.le_refl _, Nat.le_max_right _ _⟩
theorem mo_ldi (i nx : Nat) : MoC (i_ldi i nx) := by
  intro la st M c h
  unfold i_ldi at h
  repeat' split at h
  all_goals first
    | (cases h; exact mo_k)
    | cases h
theorem mo_lda (i nx : Nat) : MoC (i_lda i nx) := by
  intro la st M c h
  unfold i_lda at h
  repeat' split at h
  all_goals first
    | (cases h; exact mo_k)
    | cases h
theorem mo_ldj (i nx : Nat) : MoC (i_ldj i nx) := by
  intro la st M c h
  unfold i_ldj at h
  repeat' split at h
  all_goals first
    | (cases h; exact mo_k)
    | cases h
theorem mo_sti (i nx : Nat) : MoC (i_sti i nx) := by
  intro la st M c h
  unfold i_sti at h
  repeat' split at h
  all_goals first
    | (cases h; exact mo_k)
    | cases h
theorem mo_sta (i nx : Nat) : MoC (i_sta i nx) := by
  intro la st M c h
  unfold i_sta at h
  repeat' split at h
  all_goals first
    | (cases h; exact mo_k)
    | cases h
theorem mo_stj (i nx : Nat) : MoC (i_stj i nx) := by
  intro la st M c h
  unfold i_stj at h
  repeat' split at h
  all_goals first
    | (cases h; exact mo_k)
    | cases h
theorem mo_dup (nx : Nat) : MoC (i_dup nx) := by
  intro la st M c h
  unfold i_dup at h
  repeat' split at h
  all_goals first
    | (cases h; exact mo_k)
    | cases h
theorem mo_dp2 (nx : Nat) : MoC (i_dp2 nx) := by
  intro la st M c h
  unfold i_dp2 at h
  repeat' split at h
  all_goals first
    | (cases h; exact mo_k)
    | cases h
theorem mo_pop (nx : Nat) : MoC (i_pop nx) := by
  intro la st M c h
  unfold i_pop at h
  repeat' split at h
  all_goals first
    | (cases h; exact mo_k)
    | cases h
theorem mo_ife (t nx : Nat) : MoC (i_ife t nx) := by
  intro la st M c h
  unfold i_ife at h
  repeat' split at h
  all_goals first
    | (cases h; exact mo_k)
    | cases h
theorem mo_ifl (t nx : Nat) : MoC (i_ifl t nx) := by
  intro la st M c h
  unfold i_ifl at h
  repeat' split at h
  all_goals first
    | (cases h; exact mo_k)
    | cases h
theorem mo_ifg (t nx : Nat) : MoC (i_ifg t nx) := by
  intro la st M c h
  unfold i_ifg at h
  repeat' split at h
  all_goals first
    | (cases h; exact mo_k)
    | cases h
theorem mo_cme (t nx : Nat) : MoC (i_cme t nx) := by
  intro la st M c h
  unfold i_cme at h
  repeat' split at h
  all_goals first
    | (cases h; exact mo_k)
    | cases h
theorem mo_cml (t nx : Nat) : MoC (i_cml t nx) := by
  intro la st M c h
  unfold i_cml at h
  repeat' split at h
  all_goals first
    | (cases h; exact mo_k)
    | cases h
theorem mo_cmg (t nx : Nat) : MoC (i_cmg t nx) := by
  intro la st M c h
  unfold i_cmg at h
  repeat' split at h
  all_goals first
    | (cases h; exact mo_k)
    | cases h
theorem mo_get (c k nx : Nat) : MoC (i_get c k nx) := by
  intro la st M c h
  unfold i_get at h
  repeat' split at h
  all_goals first
    | (cases h; exact mo_k)
    | cases h
theorem mo_put (c k ty nx : Nat) : MoC (i_put c k ty nx) := by
  intro la st M c h
  unfold i_put at h
  repeat' split at h
  all_goals first
    | (cases h; exact mo_k)
    | cases h
theorem mo_gsv (nx : Nat) : MoC (i_gsv nx) := by
  intro la st M c h
  unfold i_gsv at h
  repeat' split at h
  all_goals first
    | (cases h; exact mo_k)
    | cases h
theorem mo_gsc (nx : Nat) : MoC (i_gsc nx) := by
  intro la st M c h
  unfold i_gsc at h
  repeat' split at h
  all_goals first
    | (cases h; exact mo_k)
    | cases h
theorem mo_ias (nx : Nat) : MoC (i_ias nx) := by
  intro la st M c h
  unfold i_ias at h
  repeat' split at h
  all_goals first
    | (cases h; exact mo_k)
    | cases h
theorem mo_aal (nx : Nat) : MoC (i_aal nx) := by
  intro la st M c h
  unfold i_aal at h
  repeat' split at h
  all_goals first
    | (cases h; exact mo_k)
    | cases h
theorem mo_aas (nx : Nat) : MoC (i_aas nx) := by
  intro la st M c h
  unfold i_aas at h
  repeat' split at h
  all_goals first
    | (cases h; exact mo_k)
    | cases h
theorem mo_bal (nx : Nat) : MoC (i_bal nx) := by
  intro la st M c h
  unfold i_bal at h
  repeat' split at h
  all_goals first
    | (cases h; exact mo_k)
    | cases h
theorem mo_oin (nx : Nat) : MoC (i_oin nx) := by
  intro la st M c h
  unfold i_oin at h
  repeat' split at h
  all_goals first
    | (cases h; exact mo_k)
    | cases h
theorem mo_max (nx : Nat) : MoC (i_max nx) := by
  intro la st M c h
  unfold i_max at h
  repeat' split at h
  all_goals first
    | (cases h; exact mo_k)
    | cases h
theorem mo_min (nx : Nat) : MoC (i_min nx) := by
  intro la st M c h
  unfold i_min at h
  repeat' split at h
  all_goals first
    | (cases h; exact mo_k)
    | cases h
theorem mo_i2l (nx : Nat) : MoC (i_i2l nx) := by
  intro la st M c h
  unfold i_i2l at h
  repeat' split at h
  all_goals first
    | (cases h; exact mo_k)
    | cases h
theorem mo_l2i (nx : Nat) : MoC (i_l2i nx) := by
  intro la st M c h
  unfold i_l2i at h
  repeat' split at h
  all_goals first
    | (cases h; exact mo_k)
    | cases h
theorem mo_lcm (nx : Nat) : MoC (i_lcm nx) := by
  intro la st M c h
  unfold i_lcm at h
  repeat' split at h
  all_goals first
    | (cases h; exact mo_k)
    | cases h
theorem mo_inc (i : Nat) (n : Int32) (nx : Nat) : MoC (i_inc i n nx) := by
  intro la st M c h
  unfold i_inc at h
  repeat' split at h
  all_goals first
    | (cases h; exact mo_k)
    | cases h
theorem mo_ci (v : Int32) (nx : Nat) : MoC (i_ci v nx) := fun _ _ _ _ h => by cases h; exact mo_k
theorem mo_cj (v : Int64) (nx : Nat) : MoC (i_cj v nx) := fun _ _ _ _ h => by cases h; exact mo_k
theorem mo_ca (v : aV) (nx : Nat) : MoC (i_ca v nx) := fun _ _ _ _ h => by cases h; exact mo_k
theorem mo_go (t : Nat) : MoC (i_go t) := fun _ _ _ _ h => by cases h; exact mo_k
theorem mo_bin (f : Int32 → Int32 → Int32) (nx : Nat) : MoC (i_bin f nx) := by
  intro la st M c h
  unfold i_bin at h
  repeat' split at h
  all_goals first
    | (cases h; exact mo_k)
    | cases h
theorem mo_div (f : Int32 → Int32 → Int32) (nx : Nat) : MoC (i_div f nx) := by
  intro la st M c h
  unfold i_div at h
  repeat' split at h
  all_goals first
    | (cases h; exact mo_k)
    | cases h
theorem mo_bnj (f : Int64 → Int64 → Int64) (nx : Nat) : MoC (i_bnj f nx) := by
  intro la st M c h
  unfold i_bnj at h
  repeat' split at h
  all_goals first
    | (cases h; exact mo_k)
    | cases h
theorem mo_shj (f : Int64 → Int32 → Int64) (nx : Nat) : MoC (i_shj f nx) := by
  intro la st M c h
  unfold i_shj at h
  repeat' split at h
  all_goals first
    | (cases h; exact mo_k)
    | cases h
theorem mo_un (f : Int32 → Int32) (nx : Nat) : MoC (i_un f nx) := by
  intro la st M c h
  unfold i_un at h
  repeat' split at h
  all_goals first
    | (cases h; exact mo_k)
    | cases h
theorem mo_sw (tb : List (Int32 × Nat)) (d : Nat) : MoC (i_sw tb d) := by
  intro la st M c h
  unfold i_sw at h
  repeat' split at h
  all_goals first
    | (cases h; exact mo_k)
    | cases h
theorem mo_ial (X : aX) (nx : Nat) : MoC (i_ial X nx) := by
  intro la st M c h
  unfold i_ial at h
  repeat' split at h
  all_goals first
    | (cases h; exact mo_k)
    | cases h
theorem mo_aln (X : aX) (nx : Nat) : MoC (i_aln X nx) := by
  intro la st M c h
  unfold i_aln at h
  repeat' split at h
  all_goals first
    | (cases h; exact mo_k)
    | cases h
theorem mo_acp (X : aX) (nx : Nat) : MoC (i_acp X nx) := by
  intro la st M c h
  unfold i_acp at h
  repeat' split at h
  all_goals first
    | (cases h; exact mo_k)
    | cases h
theorem mo_a {M : aM} (h : M.1 < 84) : M.1 ≤ (alc M).1 ∧ (alc M).1 ≤ max 84 M.1 := ⟨Nat.le_succ _, Nat.le_trans h (Nat.le_max_left _ _)⟩
theorem mo_new (c nx : Nat) : MoC (i_new c nx) := by
  intro la st M q h
  unfold i_new at h
  split at h
  · rename_i hs
    cases h
    exact mo_a (nm_lt hs (by omega))
  · cases h
theorem mo_nwa (nx : Nat) : MoC (i_nwa nx) := by
  intro la st M q h
  unfold i_nwa at h
  split at h
  · split at h
    · rename_i hs
      cases h
      exact mo_a (nm_lt hs.2 (by omega))
    · cases h
  · cases h
theorem nm_lt2 {i k n : Nat} (h : shp (nm i) = (k + 2, n)) (hk : k < 3) : i < 84 := nm_lt h (by omega)
theorem mo_nwq (kd nx : Nat) : MoC (i_nwq kd nx) := by
  intro la st M q h
  unfold i_nwq at h
  split at h
  · split at h
    · rename_i hs
      cases h
      exact mo_a (nm_lt hs.2.1 hs.2.2)
    · cases h
  · cases h
theorem rm_irt : ∀ st M v M', i_irt st M = some (v, M') → M' = M := by
  intro st M v M' h
  unfold i_irt at h
  repeat' split at h
  all_goals first
    | (cases h; rfl)
    | cases h
theorem rm_zrt : ∀ st M v M', i_zrt st M = some (v, M') → M' = M := by
  intro st M v M' h
  unfold i_zrt at h
  repeat' split at h
  all_goals first
    | (cases h; rfl)
    | cases h
theorem rm_jrt : ∀ st M v M', i_jrt st M = some (v, M') → M' = M := by
  intro st M v M' h
  unfold i_jrt at h
  repeat' split at h
  all_goals first
    | (cases h; rfl)
    | cases h
theorem rm_art : ∀ st M v M', i_art st M = some (v, M') → M' = M := by
  intro st M v M' h
  unfold i_art at h
  repeat' split at h
  all_goals first
    | (cases h; rfl)
    | cases h
theorem rm_vrt : ∀ st M v M', i_vrt st M = some (v, M') → M' = M := by
  intro st M v M' h
  unfold i_vrt at h
  repeat' split at h
  all_goals first
    | (cases h; rfl)
    | cases h
theorem rm_nrt (ty : FieldType) : ∀ st M v M', i_nrt ty st M = some (v, M') → M' = M := by
  intro st M v M' h
  unfold i_nrt at h
  repeat' split at h
  all_goals first
    | (cases h; rfl)
    | cases h
theorem sc_tswD {X : aX} {cc : ByteArray} {own : String} {nL : Nat} {rt : Option FieldType} {mn : String} {hh pc : Nat} {dflt lo hi : Int} {offs : Array Int} {len d : Nat} {tb : List (Int32 × Nat)} (hl : tb.length = offs.toList.length) (hh2 : hi + 1 = lo + (tb.length : Int)) (ht : (List.range tb.length).all (fun i => match tb[i]? with
    | some q => decide (q.1.toInt = lo + (i : Int)) && decide ((pc : Int) + offs.toList.getD i 0 = (q.2 : Int))
    | none => false) = true) (hd : (pc : Int) + dflt = (d : Int)) (hdg : decode cc pc = .ok (.tableswitch dflt lo hi offs, len)) : SdC X cc own nL rt mn hh pc (i_sw tb d) := by
  refine sc_tsw hl hh2 (fun i hi => ?_) hd hdg
  have h1 := List.all_eq_true.mp ht i (List.mem_range.mpr hi)
  cases hq : tb[i]? with
  | none => rw [hq] at h1; cases h1
  | some q =>
    rw [hq] at h1
    simp only [Bool.and_eq_true, decide_eq_true_eq] at h1
    exact ⟨q, rfl, h1.1, h1.2⟩
theorem sc_lswD {X : aX} {cc : ByteArray} {own : String} {nL : Nat} {rt : Option FieldType} {mn : String} {hh pc : Nat} {dflt : Int} {ps : Array (Int × Int)} {len d : Nat} {tb : List (Int32 × Nat)} (hl : tb.length = ps.toList.length) (hp : (ps.toList.zip (ps.toList.drop 1)).all (fun (a, next) => a.1 < next.1) = true) (ht : (List.range tb.length).all (fun i => match tb[i]?, ps.toList[i]? with
    | some q, some z => decide (q.1.toInt = z.1) && decide ((pc : Int) + z.2 = (q.2 : Int))
    | _, _ => false) = true) (hd : (pc : Int) + dflt = (d : Int)) (hdg : decode cc pc = .ok (.lookupswitch dflt ps, len)) : SdC X cc own nL rt mn hh pc (i_sw tb d) := by
  refine sc_lsw hl hp (fun i hi => ?_) hd hdg
  have h1 := List.all_eq_true.mp ht i (List.mem_range.mpr hi)
  cases hq : tb[i]? with
  | none => rw [hq] at h1; cases h1
  | some q => cases hz : ps.toList[i]? with
    | none => rw [hq, hz] at h1; cases h1
    | some z =>
      rw [hq, hz] at h1
      simp only [Bool.and_eq_true, decide_eq_true_eq] at h1
      exact ⟨q, z, rfl, rfl, h1.1, h1.2⟩
